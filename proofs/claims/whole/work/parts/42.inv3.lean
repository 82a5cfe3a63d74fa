section IV3
variable {σ : RS} {cc : Nat}
theorem okP.up {σ' : RS} {b k : Nat} {v : Int64} (h : okP σ b k v) (hb : b ≤ 512) (ek : sKi σ' k = sKi σ k) (ec : ∀ c, c < b → sCn σ' c = sCn σ c) : okP σ' (b + 1) k v := by
  rcases h with h | ⟨c, hc, h1, h2⟩
  · exact Or.inl h
  · exact Or.inr ⟨c, by omega, h1, fun z => by rw [ec c hc]; exact h2 (by rw [← ek]; exact z)⟩
theorem Inv.put (hI : Inv σ cc) (hcc : cc < 512) (s i : Int32) (v : Int64) : Inv (rfPut σ s i v).2 (cc + 1) := by
  have h0 := hI.mono (c2 := cc + 1) (by omega) (by omega)
  unfold rfPut
  by_cases hs : isSp s = true
  · rw [if_pos hs]
    obtain ⟨j, hj, rfl⟩ := isSp_of hs
    have e1 : ix (nI j) = j := nI_clamp (by omega)
    rw [e1]
    by_cases h1 : kOf σ j = 0
    · rw [if_pos h1]; exact h0
    · rw [if_neg h1]
      by_cases h2 : kOf σ j = 1
      · rw [if_pos h2]; exact h0.la _
      · rw [if_neg h2]
        by_cases h3 : rkOf σ j = true ∧ ¬ v = 0 ∧ sCar σ = 2000
        · rw [if_pos h3]; exact h0
        · rw [if_neg h3]
          by_cases h4 : inPl i (szOf σ j) = true
          · rw [if_pos h4]
            by_cases h5 : kOf σ j = 5 ∧ v &&& 1 = 1
            · rw [if_pos h5]; exact h0
            · rw [if_neg h5]
              obtain ⟨k, n, i', hk, e9, hn, en, hi, rfl⟩ := hI.place hj h4
              have e2 : ix (nI i') = i' := nI_clamp (by omega)
              rw [rIx_row hk e9, e2]
              by_cases h6 : rkOf σ j = true ∧ ¬ v = 0
              · rw [if_pos h6]
                obtain ⟨a1, a2, a3, a4, a5, ⟨a, a6, a7⟩, b, b1, b2, b3, b4⟩ := hI
                have ei : ix (sCar σ) = b := by rw [b2]; exact nI_clamp (by omega)
                have eCn : ∀ c, c < b → sCn (wPl (rfCard σ v) (vp_updL (sPl σ) (80 * k + i') (sCar σ + 1).toInt64)) c = sCn σ c := fun c hc => by
                  show vp_updL (sCn σ) (ix (sCar σ)) v c = _
                  rw [ei, pk_uLn (by omega)]
                have eCb : sCn (wPl (rfCard σ v) (vp_updL (sPl σ) (80 * k + i') (sCar σ + 1).toInt64)) b = v := by
                  show vp_updL (sCn σ) (ix (sCar σ)) v b = _
                  rw [ei, pk_uLs]
                refine ⟨by omega, a2, a3, a4, a5, ⟨a, by omega, a7⟩, b + 1, by omega, by show sCar σ + 1 = _; rw [b2, nI_1], fun q hq hl hr w n2 en2 hn2 hw => ?_, fun q hq hc hr w n2 en2 hn2 hw => okP.up (b4 q hq hc hr w n2 en2 hn2 hw) (by omega) rfl eCn⟩
                show okP _ (b + 1) q (vp_updL (sPl σ) (80 * k + i') (sCar σ + 1).toInt64 (80 * q + w))
                by_cases hqw : 80 * q + w = 80 * k + i'
                · have hqk : q = k := by omega
                  subst hqk
                  rw [hqw, pk_uLs]
                  refine Or.inr ⟨b, by omega, by rw [b2, nI_1, nI_l (by omega)], fun z => ?_⟩
                  rw [eCb]
                  have z2 : ¬ v &&& 1 = 1 := fun z3 => h5 ⟨(kOf_row hk e9).trans z, z3⟩
                  have z4 : decide (v &&& 1 = 1) = false := decide_eq_false z2
                  rw [evn_plain] at z4
                  simpa using z4
                · rw [pk_uLn hqw]
                  exact okP.up (b3 q hq hl hr w n2 en2 hn2 hw) (by omega) rfl eCn
              · rw [if_neg h6]
                refine h0.pl (fun b hb eb b3 b4 q hq hl hr w n2 en2 hn2 hw => ?_)
                by_cases hqw : 80 * q + w = 80 * k + i'
                · have hqk : q = k := by omega
                  subst hqk
                  rw [hqw, pk_uLs]
                  have hr2 : rkOf σ j = true := by rw [hI.rk hj hk e9]; exact hr
                  have hv : v = 0 := Decidable.not_not.mp (fun z => h6 ⟨hr2, z⟩)
                  rw [if_neg (by rw [kOf_row hk e9]; exact fun z => by rw [z] at hr; exact absurd hr (by decide)), hv]
                  exact Or.inl rfl
                · rw [pk_uLn hqw]
                  exact b3 q hq hl hr w n2 en2 hn2 hw
          · rw [if_neg h4]; exact h0
  · rw [if_neg hs]; exact h0
theorem okP.plain {σ : RS} {b ks kt : Nat} {v : Int64} (h : okP σ b ks v) (hb : b ≤ 512) (hp : sKi σ kt = 5 → plainV σ v = false) : okP σ b kt v := by
  rcases h with h | ⟨c, hc, h1, -⟩
  · exact Or.inl h
  · refine Or.inr ⟨c, hc, h1, fun z => ?_⟩
    have := hp z
    unfold plainV at this
    rw [h1, cIx_lN (by omega), evn_plain, decide_eq_false (lN_n0 (by omega))] at this
    simpa using this
theorem Inv.move (hI : Inv σ cc) (s i t j n : Int32) : Inv (rfMove σ s i t j n).2 cc := by
  unfold rfMove
  by_cases hs : isSp s = true ∧ isSp t = true
  · rw [if_pos hs]
    obtain ⟨js, hjs, rfl⟩ := isSp_of hs.1
    obtain ⟨jt, hjt, rfl⟩ := isSp_of hs.2
    have e1 : ix (nI js) = js := nI_clamp (by omega)
    have e2 : ix (nI jt) = jt := nI_clamp (by omega)
    rw [e1, e2]
    by_cases h : mvF σ js jt i j n = 0
    · rw [if_pos h]
      obtain ⟨z1, z2, z3, z4, z5, z6, z7⟩ := mv0 h
      obtain ⟨ks, es, hks, e9s, hes, ens, ezs⟩ := kRowOf hI hjs z1 z3
      obtain ⟨kt, et, hkt, e9t, het, ent, ezt⟩ := kRowOf hI hjt z2 z4
      have b1 : inPls i n (nI es) = true := by
        rw [ezs, beyB_of hes] at z6
        simpa using z6
      have b2 : inPls j n (nI et) = true := by
        rw [ezt, beyB_of het] at z7
        simpa using z7
      obtain ⟨i', n', rfl, rfl, hin⟩ := inPls_of hes b1
      obtain ⟨j', n2, rfl, en2, hjn⟩ := inPls_of het b2
      have en3 : n2 = n' := ((nI_eq (by omega) (by omega)).mp en2).symm
      rw [en3] at hjn
      have e3 : ix (nI i') = i' := nI_clamp (by omega)
      have e4 : ix (nI n') = n' := nI_clamp (by omega)
      have e5 : ix (nI j') = j' := nI_clamp (by omega)
      have e6 : ix (nI et) = et := nI_clamp (by omega)
      rw [rIx_row hks e9s, rIx_row hkt e9t, ezt, e3, e4, e5, e6]
      obtain ⟨q, hq⟩ : ∃ q, q = mvN σ js jt i' n' := ⟨_, rfl⟩
      rw [← hq]
      have hqn : q ≤ n' := by rw [hq]; exact lead_le _ _
      have hall : ∀ w, w < q → sKi σ kt = 5 → plainV σ (sPl σ (80 * ks + (i' + w))) = false := fun w hw z => by
        rw [hq] at hw
        have := lead_all _ n' w hw
        rw [kOf_row hkt e9t, pV_row hks e9s, decide_eq_true z] at this
        simpa using this
      have hlvs : liveR σ ks := Inv.live hjs e9s
      have h1 : Inv (rfMvPl σ ks kt et i' j' q) cc := by
        by_cases hq0 : 0 < q
        · rw [rfMvPl_p hq0]
          have hc := hI.cover hkt hjt e9t ent het
          refine hc.pl (fun b hb eb b3 b4 p hp hl hr w n3 en3 hn3 hw => ?_)
          have h512 : b ≤ 512 := Nat.le_trans hb hI.1
          by_cases hr9 : 80 * kt + j' ≤ 80 * p + w ∧ 80 * p + w < 80 * kt + j' + q
          · have hpk : p = kt := by omega
            subst hpk
            rw [pk_cpy_in hr9.1 hr9.2]
            have ew : 80 * ks + i' + (80 * p + w - (80 * p + j')) = 80 * ks + (i' + (w - j')) := by omega
            rw [ew]
            have hrs : kRack (sKi σ ks) = true := by
              rw [kOf_row hks e9s, kOf_row hkt e9t] at z5
              by_cases h7 : sKi σ ks = sKi σ p
              · rw [h7]; exact hr
              · rw [← rk4 (hI.kd hks hlvs)]; exact decide_eq_true (Int32.not_lt.mp (z5 h7).1)
            exact okP.plain (b3 ks hks (Or.inr ⟨js, hjs, e9s⟩) hrs (i' + (w - j')) es ens hes (by omega)) h512 (fun z => hall (w - j') (by omega) z)
          · rw [pk_cpy_out (by omega)]
            exact b3 p hp hl hr w n3 en3 hn3 hw
        · rw [show q = 0 by omega, rfMvPl_0]; exact hI
      unfold rfMvOk
      by_cases h2 : q < n'
      · rw [if_pos h2]; exact h1
      · rw [if_neg h2]; exact h1
    · rw [if_neg h]; exact hI
  · rw [if_neg hs]; exact hI
theorem inv0 : Inv rs0 0 := by
  have hnR : ∀ k, k < 12 → ¬ liveR rs0 k := fun k hk hl => by
    rcases hl with z | ⟨j, -, z⟩
    · exact absurd z.symm (nI_nm1 k hk)
    · exact absurd (show (0 : Int32) = nI (k + 1) from z).symm (row_n0 hk)
  exact ⟨by omega, fun j _ => Or.inl rfl, Or.inl rfl, fun k hk hl => absurd hl (hnR k hk), fun k _ => ⟨0, by omega, rfl⟩, ⟨0, Nat.le_refl _, rfl⟩, 0, Nat.le_refl _, rfl, fun k hk hl => absurd hl (hnR k hk), fun k hk hc => absurd hc.symm (nI_nm1 k hk)⟩
end IV3
