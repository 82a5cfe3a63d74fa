section X3H
variable {l : Launch} {D : va_G} {cI cJ cC cH : ClassId} {M : Nat → Option va_E} {sz : Nat}
abbrev rmX3_hold : Room := ({ frames := 1, cells := 0, slots := 0, locals := 23 } : Room)
set_option maxHeartbeats 4000000 in
set_option maxRecDepth 100000 in
theorem c_X3_hold {mm : Nat} {ad : Nat → Nat} {σ : RS} (hR : refAt cI cJ mm ad σ M) {cc : Nat} (hI : Inv σ cc) {s0 k0 n0 : Int32} : Met l yX3_hold wsX3_hold rmX3_hold (va_Pc [.ref mm, .int s0, .int k0, .int n0] (mwPre D (tyL cI cJ cC cH) M sz)) (va_Qi (fun r M' => r = (rfHold σ s0 k0 n0).1 ∧ refAt cI cJ mm ad (rfHold σ s0 k0 n0).2 M') (mwB D (tyL cI cJ cC cH) M sz) (mwA M sz)) 0 0 (mwA M sz) := by
  refine Met.ofW (cc := cX3_hold) (maxL := 7) (ret := (some .int)) (by decide) rfl ?_
  intro pr env s m args below meth c s₁ B hml hv
  obtain ⟨rfl, hsz, hW, hK, hO⟩ := hv
  subst hsz
  have hW := hW.self (sz := s.heap.size)
  have hS : va_S (mwA M s.heap.size) s.heap s.heap [] := va_S.rf
  have hA : ∀ q, s.heap.size ≤ q → mwA M s.heap.size q := fun q h => Or.inr h
  have hx := B.exec
  have hb := B.bytes
  have hr := B.returns
  have hts := atoms_spec (ws := wsX3_hold) B.pre
  have hown : s.vm.findClass RX3 = some m.cls := findClass_of_methodNamed B.named
  have hlocks := B.notSynchronized
  have F : CallFix pr m c cX3_hold 7 s ([.ref mm, .int s0, .int k0, .int n0] : List Value).toArray wsX3_hold RX3 := ⟨hx, hb, hml, hown, hts⟩
  have hI_X3 : ∀ w ∈ wsX30, w ∈ wsX3_hold := by decide +kernel
  have hl_fieldLink_RX3_7_SpliceBenchModel_holds_I := hts (.fieldLink RX3 7 "SpliceBenchModel" "holds" "[I") (by decide +kernel)
  have hl_fieldLink_RX3_13_SpliceBenchModel_labels_I := hts (.fieldLink RX3 13 "SpliceBenchModel" "labels" "[I") (by decide +kernel)
  have hl_fieldLink_RX3_56_SpliceBenchModel_rows_I := hts (.fieldLink RX3 56 "SpliceBenchModel" "rows" "I") (by decide +kernel)
  have hl_fieldLink_RX3_38_SpliceBenchModel_covered_I := hts (.fieldLink RX3 38 "SpliceBenchModel" "covered" "I") (by decide +kernel)
  have hl_fieldLink_RX3_16_SpliceBenchModel_kind_I := hts (.fieldLink RX3 16 "SpliceBenchModel" "kind" "[I") (by decide +kernel)
  have hl_fieldLink_RX3_19_SpliceBenchModel_size_I := hts (.fieldLink RX3 19 "SpliceBenchModel" "size" "[I") (by decide +kernel)
  have hl_fieldLink_RX3_22_SpliceBenchModel_places_J := hts (.fieldLink RX3 22 "SpliceBenchModel" "places" "[J") (by decide +kernel)
  have hl := lv_entry ([.ref mm, .int s0, .int k0, .int n0]) (n := 7) (Nat.le_of_ble_eq_true rfl)
  rw [lg_entry_eq]
  generalize (lg_sl ([.ref mm, .int s0, .int k0, .int n0]) ++ List.replicate (7 - (lg_sl ([.ref mm, .int s0, .int k0, .int n0])).length) Slot.unset).toArray = ls at hl ⊢
  have hl : lv_has ls 7 [(0, .ref mm), (1, .int s0), (2, .int k0), (3, .int n0)] := hl
  refine lv_iload_n hx hb dX3_hold_0 rfl (lv_at hl 1 rfl) ?_
  refine vp_callSi (W.runS (As := [.int s0]) (rest := []) F (c_X3_isSpindle) (cwS 1 hts gX3_hold_X3_isSpindle rfl rfl rfl (by decide +kernel) ⟨Nat.le_of_ble_eq_true rfl, Nat.le_of_ble_eq_true rfl⟩) (mw_prS hK hO hW) rfl rfl hl.1 rfl (lv_room (Nat.le_of_ble_eq_true rfl)) dX3_hold_1 ⟨Nat.zero_le _, Nat.zero_le _⟩) (fun r_1 er_1 => ?_)
  subst er_1
  refine lv_if_ne (tgt := 10) hx hb dX3_hold_4 (by decide) (fun c_4 => ?_) (fun c_4 => ?_)
  · obtain ⟨j, hj, rfl⟩ := isSp_of (bI_n c_4)
    have esp_j := isSp_nI hj
    have eix_j : ix (nI j) = j := nI_clamp (by omega)
    refine lv_iload_n hx hb dX3_hold_10 rfl (lv_at hl 2 rfl) ?_
    refine lv_if_lt (tgt := 19) hx hb dX3_hold_11 (by decide) (fun c_11 => ?_) (fun c_11 => ?_)
    · refine lv_iconst (v := 0) hx hb dX3_hold_19 (by decide) ?_
      exact W.iret hx hb hr (fun t ht hw => ⟨⟨_, _, rfl, (by
        have e8 : rfHold σ (nI j) k0 n0 = (0, σ) := by
          unfold rfHold
          rw [if_pos esp_j, if_pos (Or.inl c_11)]
        rw [e8]; exact ⟨rfl, hR⟩), by rw [ht]; exact hW, va_K.moved hw.alike hK⟩, hS.F ht⟩) hS.2.2 dX3_hold_20
    · refine lv_iload_n hx hb dX3_hold_14 rfl (lv_at hl 2 rfl) ?_
      refine lv_iconst (v := 5) hx hb dX3_hold_15 (by decide) ?_
      refine lv_icmp_le (tgt := 21) hx hb dX3_hold_16 (by decide) (fun c_16 => ?_) (fun c_16 => ?_)
      · refine lv_iload_n hx hb dX3_hold_21 rfl (lv_at hl 2 rfl) ?_
        refine lv_iconst (v := 2) hx hb dX3_hold_22 (by decide) ?_
        refine lv_icmp_lt (tgt := 30) hx hb dX3_hold_23 (by decide) (fun c_23 => ?_) (fun c_23 => ?_)
        · refine lv_iconst (v := 0) hx hb dX3_hold_30 (by decide) ?_
          refine lv_istore (lv' := [(4, .int 0), (0, .ref mm), (1, .int (nI j)), (2, .int k0), (3, .int n0)]) hx hb dX3_hold_31 hl (by decide) rfl (fun ls hl => ?_)
          refine lv_iload hx hb dX3_hold_33 (lv_at hl 0 rfl) ?_
          refine lv_if_eq (tgt := 60) hx hb dX3_hold_35 (by decide) (fun c_35 => ?_) (fun c_35 => ?_)
          · refine lv_aload_n hx hb dX3_hold_60 rfl (lv_at hl 1 rfl) ?_
            refine mw_get (C := RX3) (T := TX3) (N := 14) F hK hW hI_X3 hR.1 rfl 0 (by decide) hl_fieldLink_RX3_7_SpliceBenchModel_holds_I rfl dX3_hold_61 ?_
            refine lv_iload_n hx hb dX3_hold_64 rfl (lv_at hl 2 rfl) ?_
            refine lv_iconst (v := 0) hx hb dX3_hold_65 (by decide) ?_
            refine mw_iast F hK hW hS 0 hR.2.1 rfl (vp_in_nI (show j < 10 by omega) (by omega)) dX3_hold_66 (fun H locs hW hS => ?_)
            rw [nI_clamp (show j < 2 ^ 31 by omega)] at hW
            have hR := hR.wHo (upd (sHo σ) j 0)
            have hoff : sHo (wHo σ (upd (sHo σ) j 0)) j = 0 := by show upd (sHo σ) j 0 j = 0; simp [upd]
            refine lv_iload_n hx hb dX3_hold_67 rfl (lv_at hl 3 rfl) ?_
            refine lv_if_ne (tgt := 73) hx hb dX3_hold_68 (by decide) (fun c_68 => ?_) (fun c_68 => ?_)
            · refine lv_iconst (v := 0) hx hb dX3_hold_73 (by decide) ?_
              refine lv_istore (lv' := [(5, .int 0), (4, .int 0), (0, .ref mm), (1, .int (nI j)), (2, .int k0), (3, .int n0)]) hx hb dX3_hold_74 hl (by decide) rfl (fun ls hl => ?_)
              refine lv_iload hx hb dX3_hold_76 (lv_at hl 1 rfl) ?_
              refine lv_if_ne (tgt := 118) hx hb dX3_hold_78 (by decide) (fun c_78 => ?_) (fun c_78 => ?_)
              · exact absurd c_78 (by decide)
              · have hQ : labQ σ j < 10 := lab_free hj hoff
                have loop : ∀ (N : Nat) (q : Nat), labQ σ j + 1 ≤ q + N → q ≤ labQ σ j → ∀ (ls : Array Slot), lv_has ls 7 [(5, .int (nI q)), (0, .ref mm), (1, .int (nI j)), (2, .int k0), (3, .int n0)] → W pr l env (headSpec wsX3_hold rmX3_hold).room s m ([.ref mm, .int (nI j), .int k0, .int n0] : List Value).toArray below meth c H locs 0 0 (MQ below (va_Qi (fun r M' => r = (rfHold σ (nI j) k0 n0).1 ∧ refAt cI cJ mm ad (rfHold σ (nI j) k0 n0).2 M') (mwB D (tyL cI cJ cC cH) M s.heap.size) (mwA M s.heap.size)) ([.ref mm, .int (nI j), .int k0, .int n0] : List Value).toArray s 0 0 (mwA M s.heap.size)) (F0 m 81 ls []) := by
                  intro N
                  induction N with
                  | zero =>
                    exact fun q h1 h2 => absurd h1 (by omega)
                  | succ N ih =>
                    intro q hN hq ls hl
                    refine lv_aload_n hx hb dX3_hold_81 rfl (lv_at hl 1 rfl) ?_
                    refine lv_iconst (v := (-1)) hx hb dX3_hold_82 (by decide) ?_
                    refine lv_iload hx hb dX3_hold_83 (lv_at hl 0 rfl) ?_
                    refine lv_isub hx hb dX3_hold_85 ?_
                    refine vp_callSi (W.runV (As := [.int ((-1) - (nI q))]) (rest := []) F (c_X3_isHeld (th := (-1) - (nI q)) hR) (cwV 1 hts gX3_hold_X3_isHeld rfl rfl rfl (by decide +kernel) ⟨Nat.le_of_ble_eq_true rfl, Nat.le_of_ble_eq_true rfl⟩) (mw_prV (q := (RX3, TX3, 14)) hK hO hW rfl (show _ = some (Sum.inr (3, [.ref (ad 0), .ref (ad 1), .ref (ad 2), .ref (ad 3), .ref (ad 4), .ref (ad 5), .ref (ad 6), .ref (ad 7), .ref (ad 8), .int (sCov σ), .int (sCam σ), .int (sGoo σ), .int (sRow σ), .int (sCar σ)])) from hR.1)) rfl rfl hl.1 rfl (lv_room (Nat.le_of_ble_eq_true rfl)) dX3_hold_86 ⟨Nat.zero_le _, Nat.zero_le _⟩) (fun r_2 er_2 => ?_)
                    subst er_2
                    refine lv_if_eq (tgt := 98) hx hb dX3_hold_89 (by decide) (fun c_89 => ?_) (fun c_89 => ?_)
                    · have c_89 := bI_e c_89
                      have hqQ : q = labQ σ j := by
                        rcases Nat.lt_or_ge q (labQ σ j) with h9 | h9
                        · exfalso
                          have h8 := lead_all (fun q => heldB (rfOff σ j) (-1 - nI q)) 10 q h9
                          rw [show heldB (rfOff σ j) (-1 - nI q) = false from c_89] at h8
                          cases h8
                        · omega
                      have hq10 : q < 10 := by omega
                      refine lv_aload_n hx hb dX3_hold_98 rfl (lv_at hl 1 rfl) ?_
                      refine mw_get (C := RX3) (T := TX3) (N := 14) F hK hW hI_X3 (show _ = some (Sum.inr (3, [.ref (ad 0), .ref (ad 1), .ref (ad 2), .ref (ad 3), .ref (ad 4), .ref (ad 5), .ref (ad 6), .ref (ad 7), .ref (ad 8), .int (sCov σ), .int (sCam σ), .int (sGoo σ), .int (sRow σ), .int (sCar σ)])) from hR.1) rfl 1 (by decide) hl_fieldLink_RX3_13_SpliceBenchModel_labels_I rfl dX3_hold_99 ?_
                      refine lv_iload hx hb dX3_hold_102 (lv_at hl 0 rfl) ?_
                      refine lv_iload_n hx hb dX3_hold_104 rfl (lv_at hl 4 rfl) ?_
                      refine mw_iast F hK hW hS 0 (show _ = some (Sum.inl (cI, 10, Sum.inl (sLa σ))) from hR.2.2.1) rfl (vp_in_nI (show q < 10 by omega) (by omega)) dX3_hold_105 (fun H locs hW hS => ?_)
                      rw [nI_clamp (show q < 2 ^ 31 by omega)] at hW
                      have hR := hR.wLa (upd (sLa σ) q n0)
                      refine lv_aload_n hx hb dX3_hold_106 rfl (lv_at hl 1 rfl) ?_
                      refine mw_get (C := RX3) (T := TX3) (N := 14) F hK hW hI_X3 (show _ = some (Sum.inr (3, [.ref (ad 0), .ref (ad 1), .ref (ad 2), .ref (ad 3), .ref (ad 4), .ref (ad 5), .ref (ad 6), .ref (ad 7), .ref (ad 8), .int (sCov σ), .int (sCam σ), .int (sGoo σ), .int (sRow σ), .int (sCar σ)])) from hR.1) rfl 0 (by decide) hl_fieldLink_RX3_7_SpliceBenchModel_holds_I rfl dX3_hold_107 ?_
                      refine lv_iload_n hx hb dX3_hold_110 rfl (lv_at hl 2 rfl) ?_
                      refine lv_iconst (v := (-1)) hx hb dX3_hold_111 (by decide) ?_
                      refine lv_iload hx hb dX3_hold_112 (lv_at hl 0 rfl) ?_
                      refine lv_isub hx hb dX3_hold_114 ?_
                      refine mw_iast F hK hW hS 0 (show _ = some (Sum.inl (cI, 10, Sum.inl (upd (sHo σ) j 0))) from hR.2.1) rfl (vp_in_nI (show j < 10 by omega) (by omega)) dX3_hold_115 (fun H locs hW hS => ?_)
                      rw [nI_clamp (show j < 2 ^ 31 by omega)] at hW
                      have hR := hR.wHo (upd (upd (sHo σ) j 0) j ((-1) - (nI q)))
                      refine lv_iconst (v := 1) hx hb dX3_hold_116 (by decide) ?_
                      exact W.iret hx hb hr (fun t ht hw => ⟨⟨_, _, rfl, (by
                        have e8 : rfHold σ (nI j) k0 n0 = (1, rfLab σ j n0) := by
                          unfold rfHold
                          rw [if_pos esp_j, if_neg (not_or.mpr ⟨c_11, Int32.not_lt.mpr c_16⟩), if_neg (Int32.not_le.mpr c_23), if_neg c_68, eix_j]
                        rw [e8]; exact ⟨rfl, hR.to (by rw [hqQ]; rfl)⟩), by rw [ht]; exact hW, va_K.moved hw.alike hK⟩, hS.F ht⟩) hS.2.2 dX3_hold_117
                    · have c_89 := bI_n c_89
                      refine lv_iinc (v := nI (q + 1)) (lv' := [(5, .int (nI (q + 1))), (0, .ref mm), (1, .int (nI j)), (2, .int k0), (3, .int n0)]) hx hb dX3_hold_92 hl (k := 0) rfl (nI_1 q) (by decide) rfl (fun ls hl => ?_)
                      refine lv_goto (tgt := 81) hx hb dX3_hold_95 (by decide) ?_
                      exact ih (q + 1) (by omega) (by
                        rcases Nat.lt_or_ge q (labQ σ j) with h9 | h9
                        · omega
                        · exfalso
                          have h8 := lead_stop (fun q => heldB (rfOff σ j) (-1 - nI q)) 10 hQ
                          rw [show lead (fun q => heldB (rfOff σ j) (-1 - nI q)) 10 = q from Nat.le_antisymm h9 hq] at h8
                          rw [show heldB (rfOff σ j) (-1 - nI q) = true from c_89] at h8
                          cases h8) ls (lv_sub hl [0, 1, 2, 3, 4] rfl)
                exact loop (labQ σ j + 1) 0 (by omega) (Nat.zero_le _) ls (lv_sub hl [0, 2, 3, 4, 5] rfl)
            · refine lv_iconst (v := 1) hx hb dX3_hold_71 (by decide) ?_
              exact W.iret hx hb hr (fun t ht hw => ⟨⟨_, _, rfl, (by
                have e8 : rfHold σ (nI j) k0 n0 = (1, rfOff σ j) := by
                  unfold rfHold
                  rw [if_pos esp_j, if_neg (not_or.mpr ⟨c_11, Int32.not_lt.mpr c_16⟩), if_neg (Int32.not_le.mpr c_23), if_pos c_68, eix_j]
                rw [e8]; exact ⟨rfl, hR⟩), by rw [ht]; exact hW, va_K.moved hw.alike hK⟩, hS.F ht⟩) hS.2.2 dX3_hold_72
          · exact absurd c_35 (by decide)
        · refine lv_iconst (v := 1) hx hb dX3_hold_26 (by decide) ?_
          refine lv_goto (tgt := 31) hx hb dX3_hold_27 (by decide) ?_
          refine lv_istore (lv' := [(4, .int 1), (0, .ref mm), (1, .int (nI j)), (2, .int k0), (3, .int n0)]) hx hb dX3_hold_31 hl (by decide) rfl (fun ls hl => ?_)
          refine lv_iload hx hb dX3_hold_33 (lv_at hl 0 rfl) ?_
          refine lv_if_eq (tgt := 60) hx hb dX3_hold_35 (by decide) (fun c_35 => ?_) (fun c_35 => ?_)
          · exact absurd c_35 (by decide)
          · refine lv_iload_n hx hb dX3_hold_38 rfl (lv_at hl 4 rfl) ?_
            refine lv_if_lt (tgt := 58) hx hb dX3_hold_39 (by decide) (fun c_39 => ?_) (fun c_39 => ?_)
            · refine lv_iconst (v := 0) hx hb dX3_hold_58 (by decide) ?_
              exact W.iret hx hb hr (fun t ht hw => ⟨⟨_, _, rfl, (by
                have e8 : rfHold σ (nI j) k0 n0 = (0, σ) := by
                  unfold rfHold
                  rw [if_pos esp_j, if_neg (not_or.mpr ⟨c_11, Int32.not_lt.mpr c_16⟩), if_pos (Int32.not_lt.mp c_23), if_pos (Or.inl c_39)]
                rw [e8]; exact ⟨rfl, hR⟩), by rw [ht]; exact hW, va_K.moved hw.alike hK⟩, hS.F ht⟩) hS.2.2 dX3_hold_59
            · refine lv_iload_n hx hb dX3_hold_42 rfl (lv_at hl 4 rfl) ?_
              refine lv_bipush (v := 80) hx hb dX3_hold_43 (by decide) ?_
              refine lv_icmp_gt (tgt := 58) hx hb dX3_hold_45 (by decide) (fun c_45 => ?_) (fun c_45 => ?_)
              · refine lv_iconst (v := 0) hx hb dX3_hold_58 (by decide) ?_
                exact W.iret hx hb hr (fun t ht hw => ⟨⟨_, _, rfl, (by
                  have e8 : rfHold σ (nI j) k0 n0 = (0, σ) := by
                    unfold rfHold
                    rw [if_pos esp_j, if_neg (not_or.mpr ⟨c_11, Int32.not_lt.mpr c_16⟩), if_pos (Int32.not_lt.mp c_23), if_pos (Or.inr (Or.inl c_45))]
                  rw [e8]; exact ⟨rfl, hR⟩), by rw [ht]; exact hW, va_K.moved hw.alike hK⟩, hS.F ht⟩) hS.2.2 dX3_hold_59
              · refine lv_aload_n hx hb dX3_hold_48 rfl (lv_at hl 1 rfl) ?_
                refine mw_get (C := RX3) (T := TX3) (N := 14) F hK hW hI_X3 hR.1 rfl 12 (by decide) hl_fieldLink_RX3_56_SpliceBenchModel_rows_I rfl dX3_hold_49 ?_
                refine lv_sipush (v := 600) hx hb dX3_hold_52 (by decide) ?_
                refine lv_icmp_ne (tgt := 60) hx hb dX3_hold_55 (by decide) (fun c_55 => ?_) (fun c_55 => ?_)
                · obtain ⟨n, hn, rfl⟩ := nI_of2 (M := 80) (n := 80) rfl c_39 (Int32.not_lt.mp c_45)
                  have ein : ix (nI n) = n := nI_clamp (by omega)
                  refine lv_aload_n hx hb dX3_hold_60 rfl (lv_at hl 1 rfl) ?_
                  refine mw_get (C := RX3) (T := TX3) (N := 14) F hK hW hI_X3 hR.1 rfl 0 (by decide) hl_fieldLink_RX3_7_SpliceBenchModel_holds_I rfl dX3_hold_61 ?_
                  refine lv_iload_n hx hb dX3_hold_64 rfl (lv_at hl 2 rfl) ?_
                  refine lv_iconst (v := 0) hx hb dX3_hold_65 (by decide) ?_
                  refine mw_iast F hK hW hS 0 hR.2.1 rfl (vp_in_nI (show j < 10 by omega) (by omega)) dX3_hold_66 (fun H locs hW hS => ?_)
                  rw [nI_clamp (show j < 2 ^ 31 by omega)] at hW
                  have hR := hR.wHo (upd (sHo σ) j 0)
                  have hoff : sHo (wHo σ (upd (sHo σ) j 0)) j = 0 := by show upd (sHo σ) j 0 j = 0; simp [upd]
                  refine lv_iload_n hx hb dX3_hold_67 rfl (lv_at hl 3 rfl) ?_
                  refine lv_if_ne (tgt := 73) hx hb dX3_hold_68 (by decide) (fun c_68 => ?_) (fun c_68 => ?_)
                  · refine lv_iconst (v := 0) hx hb dX3_hold_73 (by decide) ?_
                    refine lv_istore (lv' := [(5, .int 0), (4, .int 1), (0, .ref mm), (1, .int (nI j)), (2, .int k0), (3, .int (nI n))]) hx hb dX3_hold_74 hl (by decide) rfl (fun ls hl => ?_)
                    refine lv_iload hx hb dX3_hold_76 (lv_at hl 1 rfl) ?_
                    refine lv_if_ne (tgt := 118) hx hb dX3_hold_78 (by decide) (fun c_78 => ?_) (fun c_78 => ?_)
                    · have hQ : rowQ σ j < 12 := row_free hj hoff
                      have loop : ∀ (N : Nat) (q : Nat), rowQ σ j + 1 ≤ q + N → q ≤ rowQ σ j → ∀ (ls : Array Slot), lv_has ls 7 [(5, .int (nI q)), (0, .ref mm), (1, .int (nI j)), (2, .int k0), (3, .int (nI n))] → W pr l env (headSpec wsX3_hold rmX3_hold).room s m ([.ref mm, .int (nI j), .int k0, .int (nI n)] : List Value).toArray below meth c H locs 0 0 (MQ below (va_Qi (fun r M' => r = (rfHold σ (nI j) k0 (nI n)).1 ∧ refAt cI cJ mm ad (rfHold σ (nI j) k0 (nI n)).2 M') (mwB D (tyL cI cJ cC cH) M s.heap.size) (mwA M s.heap.size)) ([.ref mm, .int (nI j), .int k0, .int (nI n)] : List Value).toArray s 0 0 (mwA M s.heap.size)) (F0 m 118 ls []) := by
                        intro N
                        induction N with
                        | zero =>
                          exact fun q h1 h2 => absurd h1 (by omega)
                        | succ N ih =>
                          intro q hN hq ls hl
                          refine lv_iload hx hb dX3_hold_118 (lv_at hl 0 rfl) ?_
                          refine lv_aload_n hx hb dX3_hold_120 rfl (lv_at hl 1 rfl) ?_
                          refine mw_get (C := RX3) (T := TX3) (N := 14) F hK hW hI_X3 (show _ = some (Sum.inr (3, [.ref (ad 0), .ref (ad 1), .ref (ad 2), .ref (ad 3), .ref (ad 4), .ref (ad 5), .ref (ad 6), .ref (ad 7), .ref (ad 8), .int (sCov σ), .int (sCam σ), .int (sGoo σ), .int (sRow σ), .int (sCar σ)])) from hR.1) rfl 9 (by decide) hl_fieldLink_RX3_38_SpliceBenchModel_covered_I rfl dX3_hold_121 ?_
                          refine lv_icmp_eq (tgt := 138) hx hb dX3_hold_124 (by decide) (fun c_124 => ?_) (fun c_124 => ?_)
                          · refine lv_iinc (v := nI (q + 1)) (lv' := [(5, .int (nI (q + 1))), (0, .ref mm), (1, .int (nI j)), (2, .int k0), (3, .int (nI n))]) hx hb dX3_hold_138 hl (k := 0) rfl (nI_1 q) (by decide) rfl (fun ls hl => ?_)
                            refine lv_goto (tgt := 118) hx hb dX3_hold_141 (by decide) ?_
                            have hoc : occR (rfOff σ j) q = true := by unfold occR; rw [decide_eq_true (show nI q = sCov (rfOff σ j) from c_124), Bool.true_or]
                            exact ih (q + 1) (by omega) (by
                              rcases Nat.lt_or_ge q (rowQ σ j) with h9 | h9
                              · omega
                              · exfalso
                                have h8 := lead_stop (occR (rfOff σ j)) 12 hQ
                                rw [show lead (occR (rfOff σ j)) 12 = q from Nat.le_antisymm h9 hq, hoc] at h8
                                cases h8) ls (lv_sub hl [0, 1, 2, 3, 4] rfl)
                          · refine lv_aload_n hx hb dX3_hold_127 rfl (lv_at hl 1 rfl) ?_
                            refine lv_iload hx hb dX3_hold_128 (lv_at hl 0 rfl) ?_
                            refine lv_iconst (v := 1) hx hb dX3_hold_130 (by decide) ?_
                            refine lv_iadd hx hb dX3_hold_131 ?_
                            rw [nI_1]
                            refine vp_callSi (W.runV (As := [.int (nI (q + 1))]) (rest := []) F (c_X3_isHeld (th := nI (q + 1)) hR) (cwV 1 hts gX3_hold_X3_isHeld rfl rfl rfl (by decide +kernel) ⟨Nat.le_of_ble_eq_true rfl, Nat.le_of_ble_eq_true rfl⟩) (mw_prV (q := (RX3, TX3, 14)) hK hO hW rfl (show _ = some (Sum.inr (3, [.ref (ad 0), .ref (ad 1), .ref (ad 2), .ref (ad 3), .ref (ad 4), .ref (ad 5), .ref (ad 6), .ref (ad 7), .ref (ad 8), .int (sCov σ), .int (sCam σ), .int (sGoo σ), .int (sRow σ), .int (sCar σ)])) from hR.1)) rfl rfl hl.1 rfl (lv_room (Nat.le_of_ble_eq_true rfl)) dX3_hold_132 ⟨Nat.zero_le _, Nat.zero_le _⟩) (fun r_3 er_3 => ?_)
                            subst er_3
                            refine lv_if_eq (tgt := 144) hx hb dX3_hold_135 (by decide) (fun c_135 => ?_) (fun c_135 => ?_)
                            · have c_135 := bI_e c_135
                              have hqQ : q = rowQ σ j := by
                                rcases Nat.lt_or_ge q (rowQ σ j) with h9 | h9
                                · exfalso
                                  have h8 := lead_all (occR (rfOff σ j)) 12 q h9
                                  unfold occR at h8
                                  rw [decide_eq_false (show ¬ nI q = sCov (rfOff σ j) from c_124), show heldB (rfOff σ j) (nI (q + 1)) = false from c_135] at h8
                                  cases h8
                                · omega
                              have hq12 : q < 12 := by omega
                              refine lv_aload_n hx hb dX3_hold_144 rfl (lv_at hl 1 rfl) ?_
                              refine mw_get (C := RX3) (T := TX3) (N := 14) F hK hW hI_X3 (show _ = some (Sum.inr (3, [.ref (ad 0), .ref (ad 1), .ref (ad 2), .ref (ad 3), .ref (ad 4), .ref (ad 5), .ref (ad 6), .ref (ad 7), .ref (ad 8), .int (sCov σ), .int (sCam σ), .int (sGoo σ), .int (sRow σ), .int (sCar σ)])) from hR.1) rfl 2 (by decide) hl_fieldLink_RX3_16_SpliceBenchModel_kind_I rfl dX3_hold_145 ?_
                              refine lv_iload hx hb dX3_hold_148 (lv_at hl 0 rfl) ?_
                              refine lv_iload_n hx hb dX3_hold_150 rfl (lv_at hl 3 rfl) ?_
                              refine mw_iast F hK hW hS 0 (show _ = some (Sum.inl (cI, 12, Sum.inl (sKi σ))) from hR.2.2.2.1) rfl (vp_in_nI (show q < 12 by omega) (by omega)) dX3_hold_151 (fun H locs hW hS => ?_)
                              rw [nI_clamp (show q < 2 ^ 31 by omega)] at hW
                              have hR := hR.wKi (upd (sKi σ) q k0)
                              refine lv_aload_n hx hb dX3_hold_152 rfl (lv_at hl 1 rfl) ?_
                              refine mw_get (C := RX3) (T := TX3) (N := 14) F hK hW hI_X3 (show _ = some (Sum.inr (3, [.ref (ad 0), .ref (ad 1), .ref (ad 2), .ref (ad 3), .ref (ad 4), .ref (ad 5), .ref (ad 6), .ref (ad 7), .ref (ad 8), .int (sCov σ), .int (sCam σ), .int (sGoo σ), .int (sRow σ), .int (sCar σ)])) from hR.1) rfl 3 (by decide) hl_fieldLink_RX3_19_SpliceBenchModel_size_I rfl dX3_hold_153 ?_
                              refine lv_iload hx hb dX3_hold_156 (lv_at hl 0 rfl) ?_
                              refine lv_iload_n hx hb dX3_hold_158 rfl (lv_at hl 4 rfl) ?_
                              refine mw_iast F hK hW hS 0 (show _ = some (Sum.inl (cI, 12, Sum.inl (sSi σ))) from hR.2.2.2.2.1) rfl (vp_in_nI (show q < 12 by omega) (by omega)) dX3_hold_159 (fun H locs hW hS => ?_)
                              rw [nI_clamp (show q < 2 ^ 31 by omega)] at hW
                              have hR := hR.wSi (upd (sSi σ) q (nI n))
                              refine lv_iconst (v := 0) hx hb dX3_hold_160 (by decide) ?_
                              refine lv_istore (lv' := [(6, .int 0), (5, .int (nI q)), (0, .ref mm), (1, .int (nI j)), (2, .int k0), (3, .int (nI n))]) hx hb dX3_hold_161 hl (by decide) rfl (fun ls hl => ?_)
                              have hR := hR.to (σ' := wPl (wSi (wKi (wHo σ (upd (sHo σ) j 0)) (upd (sKi σ) q k0)) (upd (sSi σ) q (nI n))) (blk (80 * q) (80 * q + 0) 0 (sPl σ))) (by rw [show 80 * q + 0 = 80 * q from rfl, blk_0]; rfl)
                              have loop : ∀ (N : Nat) (i : Nat) (M1 : Nat → Option va_E) (H : Heap) (locs : List Loc), n + 1 ≤ i + N → i ≤ n → mw D (mwA M s.heap.size) M1 H → va_S (mwA M s.heap.size) s.heap H locs → refAt cI cJ mm ad (wPl (wSi (wKi (wHo σ (upd (sHo σ) j 0)) (upd (sKi σ) q k0)) (upd (sSi σ) q (nI n))) (blk (80 * q) (80 * q + i) 0 (sPl σ))) M1 → ∀ (ls : Array Slot), lv_has ls 7 [(6, .int (nI i)), (5, .int (nI q)), (0, .ref mm), (1, .int (nI j)), (2, .int k0), (3, .int (nI n))] → W pr l env (headSpec wsX3_hold rmX3_hold).room s m ([.ref mm, .int (nI j), .int k0, .int (nI n)] : List Value).toArray below meth c H locs 0 0 (MQ below (va_Qi (fun r M' => r = (rfHold σ (nI j) k0 (nI n)).1 ∧ refAt cI cJ mm ad (rfHold σ (nI j) k0 (nI n)).2 M') (mwB D (tyL cI cJ cC cH) M s.heap.size) (mwA M s.heap.size)) ([.ref mm, .int (nI j), .int k0, .int (nI n)] : List Value).toArray s 0 0 (mwA M s.heap.size)) (F0 m 163 ls []) := by
                                intro N
                                induction N with
                                | zero =>
                                  exact fun i M1 H locs h1 h2 => absurd h1 (by omega)
                                | succ N ih =>
                                  intro i M1 H locs hN hi hW hS hR ls hl
                                  refine lv_iload hx hb dX3_hold_163 (lv_at hl 0 rfl) ?_
                                  refine lv_iload_n hx hb dX3_hold_165 rfl (lv_at hl 5 rfl) ?_
                                  refine lv_icmp_ge (tgt := 189) hx hb dX3_hold_166 (by decide) (fun c_166 => ?_) (fun c_166 => ?_)
                                  · refine lv_aload_n hx hb dX3_hold_189 rfl (lv_at hl 2 rfl) ?_
                                    refine lv_dup hx hb dX3_hold_190 rfl ?_
                                    refine mw_get (C := RX3) (T := TX3) (N := 14) F hK hW hI_X3 (show _ = some (Sum.inr (3, [.ref (ad 0), .ref (ad 1), .ref (ad 2), .ref (ad 3), .ref (ad 4), .ref (ad 5), .ref (ad 6), .ref (ad 7), .ref (ad 8), .int (sCov σ), .int (sCam σ), .int (sGoo σ), .int (sRow σ), .int (sCar σ)])) from hR.1) rfl 12 (by decide) hl_fieldLink_RX3_56_SpliceBenchModel_rows_I rfl dX3_hold_191 ?_
                                    refine lv_iconst (v := 1) hx hb dX3_hold_194 (by decide) ?_
                                    refine lv_iadd hx hb dX3_hold_195 ?_
                                    refine mw_put (C := RX3) (T := TX3) (N := 14) (v := .int ((sRow σ) + 1)) F hK hW hS hI_X3 tyX3 tyX3_ok nmX3 (show _ = some (Sum.inr (3, [.ref (ad 0), .ref (ad 1), .ref (ad 2), .ref (ad 3), .ref (ad 4), .ref (ad 5), .ref (ad 6), .ref (ad 7), .ref (ad 8), .int (sCov σ), .int (sCam σ), .int (sGoo σ), .int (sRow σ), .int (sCar σ)])) from hR.1) rfl 12 (by decide) hl_fieldLink_RX3_56_SpliceBenchModel_rows_I rfl rfl rfl (Nat.le_of_ble_eq_true rfl) dX3_hold_196 (fun H locs hW hS => ?_)
                                    have hR := hR.wRow ((sRow σ) + 1)
                                    refine lv_aload_n hx hb dX3_hold_199 rfl (lv_at hl 2 rfl) ?_
                                    refine mw_get (C := RX3) (T := TX3) (N := 14) F hK hW hI_X3 (show _ = some (Sum.inr (3, [.ref (ad 0), .ref (ad 1), .ref (ad 2), .ref (ad 3), .ref (ad 4), .ref (ad 5), .ref (ad 6), .ref (ad 7), .ref (ad 8), .int (sCov σ), .int (sCam σ), .int (sGoo σ), .int ((sRow σ) + 1), .int (sCar σ)])) from hR.1) rfl 0 (by decide) hl_fieldLink_RX3_7_SpliceBenchModel_holds_I rfl dX3_hold_200 ?_
                                    refine lv_iload_n hx hb dX3_hold_203 rfl (lv_at hl 3 rfl) ?_
                                    refine lv_iload hx hb dX3_hold_204 (lv_at hl 1 rfl) ?_
                                    refine lv_iconst (v := 1) hx hb dX3_hold_206 (by decide) ?_
                                    refine lv_iadd hx hb dX3_hold_207 ?_
                                    rw [nI_1]
                                    refine mw_iast F hK hW hS 0 (show _ = some (Sum.inl (cI, 10, Sum.inl (upd (sHo σ) j 0))) from hR.2.1) rfl (vp_in_nI (show j < 10 by omega) (by omega)) dX3_hold_208 (fun H locs hW hS => ?_)
                                    rw [nI_clamp (show j < 2 ^ 31 by omega)] at hW
                                    have hR := hR.wHo (upd (upd (sHo σ) j 0) j (nI (q + 1)))
                                    refine lv_iconst (v := 1) hx hb dX3_hold_209 (by decide) ?_
                                    exact W.iret hx hb hr (fun t ht hw => ⟨⟨_, _, rfl, (by
                                      have e7 : i = n := by have := (nI_leI (by omega) (by omega)).mp c_166; omega
                                      have e8 : rfHold σ (nI j) k0 (nI n) = (1, rfRow σ j k0 n) := by
                                        unfold rfHold
                                        rw [if_pos esp_j, if_neg (not_or.mpr ⟨c_11, Int32.not_lt.mpr c_16⟩), if_pos (Int32.not_lt.mp c_23), if_neg (not_or.mpr ⟨c_39, not_or.mpr ⟨c_45, c_55⟩⟩), eix_j, ein]
                                      rw [e8]; exact ⟨rfl, hR.to (by rw [e7, hqQ]; rfl)⟩), by rw [ht]; exact hW, va_K.moved hw.alike hK⟩, hS.F ht⟩) hS.2.2 dX3_hold_210
                                  · have hin : i < n := by
                                      rcases Nat.lt_or_ge i n with h9 | h9
                                      · exact h9
                                      · exact absurd (nI_le h9 (by omega)) c_166
                                    refine lv_aload_n hx hb dX3_hold_169 rfl (lv_at hl 2 rfl) ?_
                                    refine mw_get (C := RX3) (T := TX3) (N := 14) F hK hW hI_X3 (show _ = some (Sum.inr (3, [.ref (ad 0), .ref (ad 1), .ref (ad 2), .ref (ad 3), .ref (ad 4), .ref (ad 5), .ref (ad 6), .ref (ad 7), .ref (ad 8), .int (sCov σ), .int (sCam σ), .int (sGoo σ), .int (sRow σ), .int (sCar σ)])) from hR.1) rfl 4 (by decide) hl_fieldLink_RX3_22_SpliceBenchModel_places_J rfl dX3_hold_170 ?_
                                    refine lv_bipush (v := 80) hx hb dX3_hold_173 (by decide) ?_
                                    refine lv_iload hx hb dX3_hold_175 (lv_at hl 1 rfl) ?_
                                    refine lv_imul hx hb dX3_hold_177 ?_
                                    rw [show (80 : Int32) = nI 80 from rfl, pk_mul]
                                    refine lv_iload hx hb dX3_hold_178 (lv_at hl 0 rfl) ?_
                                    refine lv_iadd hx hb dX3_hold_180 ?_
                                    rw [nI_add]
                                    refine lv_lconst (v := 0) hx hb dX3_hold_181 (by decide) ?_
                                    refine mw_last F hK hW hS 1 (show _ = some (Sum.inl (cJ, 960, Sum.inr (Sum.inl (blk (80 * q) (80 * q + i) 0 (sPl σ))))) from hR.2.2.2.2.2.1) rfl (vp_in_nI (show (80 * q + i) < 960 by omega) (by omega)) dX3_hold_182 (fun H locs hW hS => ?_)
                                    rw [nI_clamp (show (80 * q + i) < 2 ^ 31 by omega)] at hW
                                    rw [show vp_updL (blk (80 * q) (80 * q + i) 0 (sPl σ)) (80 * q + i) 0 = blk (80 * q) (80 * q + (i + 1)) 0 (sPl σ) from (blk_sL 0 (sPl σ) (by omega))] at hW
                                    have hR := hR.wPl (blk (80 * q) (80 * q + (i + 1)) 0 (sPl σ))
                                    have hR : refAt cI cJ mm ad (wPl (wSi (wKi (wHo σ (upd (sHo σ) j 0)) (upd (sKi σ) q k0)) (upd (sSi σ) q (nI n))) (blk (80 * q) (80 * q + (i + 1)) 0 (sPl σ))) _ := hR
                                    refine lv_iinc (v := nI (i + 1)) (lv' := [(6, .int (nI (i + 1))), (5, .int (nI q)), (0, .ref mm), (1, .int (nI j)), (2, .int k0), (3, .int (nI n))]) hx hb dX3_hold_183 hl (k := 0) rfl (nI_1 i) (by decide) rfl (fun ls hl => ?_)
                                    refine lv_goto (tgt := 163) hx hb dX3_hold_186 (by decide) ?_
                                    exact ih (i + 1) _ H locs (by omega) (by omega) hW hS hR ls (lv_sub hl [0, 1, 2, 3, 4, 5] rfl)
                              exact loop (n + 1) 0 _ _ _ (by omega) (Nat.zero_le _) hW hS hR ls (lv_sub hl [0, 1, 2, 3, 4, 5] rfl)
                            · have c_135 := bI_n c_135
                              refine lv_iinc (v := nI (q + 1)) (lv' := [(5, .int (nI (q + 1))), (0, .ref mm), (1, .int (nI j)), (2, .int k0), (3, .int (nI n))]) hx hb dX3_hold_138 hl (k := 0) rfl (nI_1 q) (by decide) rfl (fun ls hl => ?_)
                              refine lv_goto (tgt := 118) hx hb dX3_hold_141 (by decide) ?_
                              have hoc : occR (rfOff σ j) q = true := by unfold occR; rw [show heldB (rfOff σ j) (nI (q + 1)) = true from c_135, Bool.or_true]
                              exact ih (q + 1) (by omega) (by
                                rcases Nat.lt_or_ge q (rowQ σ j) with h9 | h9
                                · omega
                                · exfalso
                                  have h8 := lead_stop (occR (rfOff σ j)) 12 hQ
                                  rw [show lead (occR (rfOff σ j)) 12 = q from Nat.le_antisymm h9 hq, hoc] at h8
                                  cases h8) ls (lv_sub hl [0, 1, 2, 3, 4] rfl)
                      exact loop (rowQ σ j + 1) 0 (by omega) (Nat.zero_le _) ls (lv_sub hl [0, 2, 3, 4, 5] rfl)
                    · exact absurd c_78 (by decide)
                  · rw [c_68] at c_23
                    exact absurd (show (0 : Int32) < 2 by decide) c_23
                · refine lv_iconst (v := 0) hx hb dX3_hold_58 (by decide) ?_
                  exact W.iret hx hb hr (fun t ht hw => ⟨⟨_, _, rfl, (by
                    have e8 : rfHold σ (nI j) k0 n0 = (0, σ) := by
                      unfold rfHold
                      rw [if_pos esp_j, if_neg (not_or.mpr ⟨c_11, Int32.not_lt.mpr c_16⟩), if_pos (Int32.not_lt.mp c_23), if_pos (Or.inr (Or.inr c_55))]
                    rw [e8]; exact ⟨rfl, hR⟩), by rw [ht]; exact hW, va_K.moved hw.alike hK⟩, hS.F ht⟩) hS.2.2 dX3_hold_59
      · refine lv_iconst (v := 0) hx hb dX3_hold_19 (by decide) ?_
        exact W.iret hx hb hr (fun t ht hw => ⟨⟨_, _, rfl, (by
          have e8 : rfHold σ (nI j) k0 n0 = (0, σ) := by
            unfold rfHold
            rw [if_pos esp_j, if_pos (Or.inr (Int32.not_le.mp c_16))]
          rw [e8]; exact ⟨rfl, hR⟩), by rw [ht]; exact hW, va_K.moved hw.alike hK⟩, hS.F ht⟩) hS.2.2 dX3_hold_20
  · have c_4 := bI_e c_4
    refine lv_bipush (v := (-9)) hx hb dX3_hold_7 (by decide) ?_
    exact W.iret hx hb hr (fun t ht hw => ⟨⟨_, _, rfl, (by
      have e8 : rfHold σ s0 k0 n0 = (-9, σ) := by simp [rfHold, c_4]
      rw [e8]; exact ⟨rfl, hR⟩), by rw [ht]; exact hW, va_K.moved hw.alike hK⟩, hS.F ht⟩) hS.2.2 dX3_hold_9
end X3H
