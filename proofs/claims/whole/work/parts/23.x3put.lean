section X3P
variable {l : Launch} {D : va_G} {cI cJ cC cH : ClassId} {M : Nat → Option va_E} {sz : Nat}
abbrev rmX3_put : Room := ({ frames := 3, cells := 0, slots := 0, locals := 64 } : Room)
set_option maxHeartbeats 4000000 in
set_option maxRecDepth 100000 in
theorem c_X3_put {mm : Nat} {ad : Nat → Nat} {σ : RS} (hR : refAt cI cJ mm ad σ M) {cc : Nat} (hI : Inv σ cc) {s0 i : Int32} {v : Int64} : Met l yX3_put wsX3_put rmX3_put (va_Pc [.ref mm, .int s0, .int i, .long v] (mwPre D (tyL cI cJ cC cH) M sz)) (va_Qi (fun r M' => r = (rfPut σ s0 i v).1 ∧ refAt cI cJ mm ad (rfPut σ s0 i v).2 M') (mwB D (tyL cI cJ cC cH) M sz) (mwA M sz)) 0 0 (mwA M sz) := by
  refine Met.ofW (cc := cX3_put) (maxL := 9) (ret := (some .int)) (by decide) rfl ?_
  intro pr env s m args below meth c s₁ B hml hv
  obtain ⟨rfl, hsz, hW, hK, hO⟩ := hv
  subst hsz
  have hW := hW.self (sz := s.heap.size)
  have hS : va_S (mwA M s.heap.size) s.heap s.heap [] := va_S.rf
  have hA : ∀ q, s.heap.size ≤ q → mwA M s.heap.size q := fun q h => Or.inr h
  have hx := B.exec
  have hb := B.bytes
  have hr := B.returns
  have hts := atoms_spec (ws := wsX3_put) B.pre
  have hown : s.vm.findClass RX3 = some m.cls := findClass_of_methodNamed B.named
  have hlocks := B.notSynchronized
  have F : CallFix pr m c cX3_put 9 s ([.ref mm, .int s0, .int i, .long v] : List Value).toArray wsX3_put RX3 := ⟨hx, hb, hml, hown, hts⟩
  have hI_X3 : ∀ w ∈ wsX30, w ∈ wsX3_put := by decide +kernel
  have hl_fieldLink_RX3_22_SpliceBenchModel_places_J := hts (.fieldLink RX3 22 "SpliceBenchModel" "places" "[J") (by decide +kernel)
  have hl_fieldLink_RX3_7_SpliceBenchModel_holds_I := hts (.fieldLink RX3 7 "SpliceBenchModel" "holds" "[I") (by decide +kernel)
  have hl_fieldLink_RX3_62_SpliceBenchModel_cards_I := hts (.fieldLink RX3 62 "SpliceBenchModel" "cards" "I") (by decide +kernel)
  have hl_fieldLink_RX3_29_SpliceBenchModel_cardNumber_J := hts (.fieldLink RX3 29 "SpliceBenchModel" "cardNumber" "[J") (by decide +kernel)
  have hl_fieldLink_RX3_32_SpliceBenchModel_cardShown_I := hts (.fieldLink RX3 32 "SpliceBenchModel" "cardShown" "[I") (by decide +kernel)
  have hl_fieldLink_RX3_13_SpliceBenchModel_labels_I := hts (.fieldLink RX3 13 "SpliceBenchModel" "labels" "[I") (by decide +kernel)
  obtain ⟨b, hb9, eb, -⟩ := hI.2.2.2.2.2.2
  have h512 := hI.1
  have hl := lv_entry ([.ref mm, .int s0, .int i, .long v]) (n := 9) (Nat.le_of_ble_eq_true rfl)
  rw [lg_entry_eq]
  generalize (lg_sl ([.ref mm, .int s0, .int i, .long v]) ++ List.replicate (9 - (lg_sl ([.ref mm, .int s0, .int i, .long v])).length) Slot.unset).toArray = ls at hl ⊢
  have hl : lv_has ls 9 [(0, .ref mm), (1, .int s0), (2, .int i), (3, .long v)] := hl
  refine lv_iload_n hx hb dX3_put_0 rfl (lv_at hl 1 rfl) ?_
  refine vp_callSi (W.runS (As := [.int s0]) (rest := []) F (c_X3_isSpindle) (cwS 1 hts gX3_put_X3_isSpindle rfl rfl rfl (by decide +kernel) ⟨Nat.le_of_ble_eq_true rfl, Nat.le_of_ble_eq_true rfl⟩) (mw_prS hK hO hW) rfl rfl hl.1 rfl (lv_room (Nat.le_of_ble_eq_true rfl)) dX3_put_1 ⟨Nat.zero_le _, Nat.zero_le _⟩) (fun r_1 er_1 => ?_)
  subst er_1
  refine lv_if_ne (tgt := 10) hx hb dX3_put_4 (by decide) (fun c_4 => ?_) (fun c_4 => ?_)
  · obtain ⟨j, hj, rfl⟩ := isSp_of (bI_n c_4)
    have esp_j := isSp_nI hj
    have eix_j : ix (nI j) = j := nI_clamp (by omega)
    refine lv_aload_n hx hb dX3_put_10 rfl (lv_at hl 0 rfl) ?_
    refine lv_iload_n hx hb dX3_put_11 rfl (lv_at hl 1 rfl) ?_
    refine vp_callSi (W.runV (As := [.int (nI j)]) (rest := []) F (c_X3_kindOf hR (show j < 10 by omega) (hI.ho hj)) (cwV 1 hts gX3_put_X3_kindOf rfl rfl rfl (by decide +kernel) ⟨Nat.le_of_ble_eq_true rfl, Nat.le_of_ble_eq_true rfl⟩) (mw_prV (q := (RX3, TX3, 14)) hK hO hW rfl hR.1) rfl rfl hl.1 rfl (lv_room (Nat.le_of_ble_eq_true rfl)) dX3_put_12 ⟨Nat.zero_le _, Nat.zero_le _⟩) (fun r_2 er_2 => ?_)
    subst er_2
    refine lv_istore (lv' := [(5, .int (kOf σ j)), (0, .ref mm), (1, .int (nI j)), (2, .int i), (3, .long v)]) hx hb dX3_put_15 hl (by decide) rfl (fun ls hl => ?_)
    refine lv_iload hx hb dX3_put_17 (lv_at hl 0 rfl) ?_
    refine lv_if_ne (tgt := 24) hx hb dX3_put_19 (by decide) (fun c_19 => ?_) (fun c_19 => ?_)
    · refine lv_iload hx hb dX3_put_24 (lv_at hl 0 rfl) ?_
      refine lv_iconst (v := 1) hx hb dX3_put_26 (by decide) ?_
      refine lv_icmp_ne (tgt := 47) hx hb dX3_put_27 (by decide) (fun c_27 => ?_) (fun c_27 => ?_)
      · refine lv_iload hx hb dX3_put_47 (lv_at hl 0 rfl) ?_
        refine lv_iconst (v := 4) hx hb dX3_put_49 (by decide) ?_
        refine lv_icmp_lt (tgt := 63) hx hb dX3_put_50 (by decide) (fun c_50 => ?_) (fun c_50 => ?_)
        · have hrk : rkOf σ j = false := by unfold rkOf; exact decide_eq_false (Int32.not_le.mpr c_50)
          refine lv_iconst (v := 0) hx hb dX3_put_63 (by decide) ?_
          refine lv_istore (lv' := [(6, .int 0), (5, .int (kOf σ j)), (0, .ref mm), (1, .int (nI j)), (2, .int i), (3, .long v)]) hx hb dX3_put_64 hl (by decide) rfl (fun ls hl => ?_)
          refine lv_iload hx hb dX3_put_66 (lv_at hl 0 rfl) ?_
          refine lv_if_eq (tgt := 83) hx hb dX3_put_68 (by decide) (fun c_68 => ?_) (fun c_68 => ?_)
          · refine lv_aload_n hx hb dX3_put_83 rfl (lv_at hl 2 rfl) ?_
            refine lv_iload_n hx hb dX3_put_84 rfl (lv_at hl 3 rfl) ?_
            refine lv_iload_n hx hb dX3_put_85 rfl (lv_at hl 4 rfl) ?_
            refine vp_callSi (W.runV (As := [.int (nI j), .int i]) (rest := []) F (c_X3_isPlace (i := i) hR (show j < 10 by omega) (hI.ho hj)) (cwV 2 hts gX3_put_X3_isPlace rfl rfl rfl (by decide +kernel) ⟨Nat.le_of_ble_eq_true rfl, Nat.le_of_ble_eq_true rfl⟩) (mw_prV (q := (RX3, TX3, 14)) hK hO hW rfl hR.1) rfl rfl hl.1 rfl (lv_room (Nat.le_of_ble_eq_true rfl)) dX3_put_86 ⟨Nat.zero_le _, Nat.zero_le _⟩) (fun r_3 er_3 => ?_)
            subst er_3
            refine lv_if_ne (tgt := 95) hx hb dX3_put_89 (by decide) (fun c_89 => ?_) (fun c_89 => ?_)
            · have c_89 := bI_n c_89
              obtain ⟨k9, n9, i9, hk9, e9, hn9, en9, hi9, rfl⟩ := hI.place hj c_89
              have eix_i : ix (nI i9) = i9 := nI_clamp (by omega)
              have epv : pV σ j i9 = sPl σ (80 * k9 + i9) := pV_row hk9 e9
              refine lv_iload hx hb dX3_put_95 (lv_at hl 1 rfl) ?_
              refine lv_iconst (v := 5) hx hb dX3_put_97 (by decide) ?_
              refine lv_icmp_ne (tgt := 112) hx hb dX3_put_98 (by decide) (fun c_98 => ?_) (fun c_98 => ?_)
              · refine lv_iload hx hb dX3_put_112 (lv_at hl 1 rfl) ?_
                refine lv_iconst (v := 2) hx hb dX3_put_114 (by decide) ?_
                refine lv_icmp_ne (tgt := 124) hx hb dX3_put_115 (by decide) (fun c_115 => ?_) (fun c_115 => ?_)
                · refine lv_lload_n hx hb dX3_put_124 rfl (lv_at hl 5 rfl) ?_
                  refine lv_lstore (lv' := [(7, .long v), (6, .int 0), (5, .int (kOf σ j)), (0, .ref mm), (1, .int (nI j)), (2, .int (nI i9)), (3, .long v)]) hx hb dX3_put_125 hl (by decide) rfl (fun ls hl => ?_)
                  refine lv_iload hx hb dX3_put_127 (lv_at hl 1 rfl) ?_
                  refine lv_if_eq (tgt := 169) hx hb dX3_put_129 (by decide) (fun c_129 => ?_) (fun c_129 => ?_)
                  · refine lv_aload_n hx hb dX3_put_169 rfl (lv_at hl 3 rfl) ?_
                    refine mw_get (C := RX3) (T := TX3) (N := 14) F hK hW hI_X3 hR.1 rfl 4 (by decide) hl_fieldLink_RX3_22_SpliceBenchModel_places_J rfl dX3_put_170 ?_
                    refine lv_bipush (v := 80) hx hb dX3_put_173 (by decide) ?_
                    refine lv_aload_n hx hb dX3_put_175 rfl (lv_at hl 3 rfl) ?_
                    refine mw_get (C := RX3) (T := TX3) (N := 14) F hK hW hI_X3 hR.1 rfl 0 (by decide) hl_fieldLink_RX3_7_SpliceBenchModel_holds_I rfl dX3_put_176 ?_
                    refine lv_iload_n hx hb dX3_put_179 rfl (lv_at hl 4 rfl) ?_
                    refine mw_iald F hK hW 0 hR.2.1 rfl (vp_in_nI (show j < 10 by omega) (by omega)) dX3_put_180 ?_
                    rw [nI_clamp (show j < 2 ^ 31 by omega)]
                    refine lv_iconst (v := 1) hx hb dX3_put_181 (by decide) ?_
                    refine lv_isub hx hb dX3_put_182 ?_
                    rw [e9, nI_pred]
                    refine lv_imul hx hb dX3_put_183 ?_
                    rw [show (80 : Int32) = nI 80 from rfl, pk_mul]
                    refine lv_iload_n hx hb dX3_put_184 rfl (lv_at hl 5 rfl) ?_
                    refine lv_iadd hx hb dX3_put_185 ?_
                    rw [nI_add]
                    refine lv_lload hx hb dX3_put_186 (lv_at hl 0 rfl) ?_
                    refine mw_last F hK hW hS 1 hR.2.2.2.2.2.1 rfl (vp_in_nI (show (80 * k9 + i9) < 960 by omega) (by omega)) dX3_put_188 (fun H locs hW hS => ?_)
                    rw [nI_clamp (show (80 * k9 + i9) < 2 ^ 31 by omega)] at hW
                    have hR := hR.wPl (vp_updL (sPl σ) (80 * k9 + i9) v)
                    refine lv_iconst (v := 1) hx hb dX3_put_189 (by decide) ?_
                    exact W.iret hx hb hr (fun t ht hw => ⟨⟨_, _, rfl, (by
                      have e8 : rfPut σ (nI j) (nI i9) v = (1, wPl σ (vp_updL (sPl σ) (80 * k9 + i9) v)) := by simp [rfPut, esp_j, eix_j, rIx_row hk9 e9, nI_clamp (show i9 < 2 ^ 31 by omega), c_19, c_27, hrk, c_89, c_98, c_115]
                      rw [e8]; exact ⟨rfl, hR⟩), by rw [ht]; exact hW, va_K.moved hw.alike hK⟩, hS.F ht⟩) hS.2.2 dX3_put_190
                  · exact absurd c_129 (by decide)
                · refine lv_lload_n hx hb dX3_put_118 rfl (lv_at hl 5 rfl) ?_
                  refine lv_l2i hx hb dX3_put_119 rfl ?_
                  refine lv_i2l hx hb dX3_put_120 rfl ?_
                  refine lv_goto (tgt := 125) hx hb dX3_put_121 (by decide) ?_
                  refine lv_lstore (lv' := [(7, .long v.toInt32.toInt64), (6, .int 0), (5, .int (kOf σ j)), (0, .ref mm), (1, .int (nI j)), (2, .int (nI i9)), (3, .long v)]) hx hb dX3_put_125 hl (by decide) rfl (fun ls hl => ?_)
                  refine lv_iload hx hb dX3_put_127 (lv_at hl 1 rfl) ?_
                  refine lv_if_eq (tgt := 169) hx hb dX3_put_129 (by decide) (fun c_129 => ?_) (fun c_129 => ?_)
                  · refine lv_aload_n hx hb dX3_put_169 rfl (lv_at hl 3 rfl) ?_
                    refine mw_get (C := RX3) (T := TX3) (N := 14) F hK hW hI_X3 hR.1 rfl 4 (by decide) hl_fieldLink_RX3_22_SpliceBenchModel_places_J rfl dX3_put_170 ?_
                    refine lv_bipush (v := 80) hx hb dX3_put_173 (by decide) ?_
                    refine lv_aload_n hx hb dX3_put_175 rfl (lv_at hl 3 rfl) ?_
                    refine mw_get (C := RX3) (T := TX3) (N := 14) F hK hW hI_X3 hR.1 rfl 0 (by decide) hl_fieldLink_RX3_7_SpliceBenchModel_holds_I rfl dX3_put_176 ?_
                    refine lv_iload_n hx hb dX3_put_179 rfl (lv_at hl 4 rfl) ?_
                    refine mw_iald F hK hW 0 hR.2.1 rfl (vp_in_nI (show j < 10 by omega) (by omega)) dX3_put_180 ?_
                    rw [nI_clamp (show j < 2 ^ 31 by omega)]
                    refine lv_iconst (v := 1) hx hb dX3_put_181 (by decide) ?_
                    refine lv_isub hx hb dX3_put_182 ?_
                    rw [e9, nI_pred]
                    refine lv_imul hx hb dX3_put_183 ?_
                    rw [show (80 : Int32) = nI 80 from rfl, pk_mul]
                    refine lv_iload_n hx hb dX3_put_184 rfl (lv_at hl 5 rfl) ?_
                    refine lv_iadd hx hb dX3_put_185 ?_
                    rw [nI_add]
                    refine lv_lload hx hb dX3_put_186 (lv_at hl 0 rfl) ?_
                    refine mw_last F hK hW hS 1 hR.2.2.2.2.2.1 rfl (vp_in_nI (show (80 * k9 + i9) < 960 by omega) (by omega)) dX3_put_188 (fun H locs hW hS => ?_)
                    rw [nI_clamp (show (80 * k9 + i9) < 2 ^ 31 by omega)] at hW
                    have hR := hR.wPl (vp_updL (sPl σ) (80 * k9 + i9) v.toInt32.toInt64)
                    refine lv_iconst (v := 1) hx hb dX3_put_189 (by decide) ?_
                    exact W.iret hx hb hr (fun t ht hw => ⟨⟨_, _, rfl, (by
                      have e8 : rfPut σ (nI j) (nI i9) v = (1, wPl σ (vp_updL (sPl σ) (80 * k9 + i9) v.toInt32.toInt64)) := by simp [rfPut, esp_j, eix_j, rIx_row hk9 e9, nI_clamp (show i9 < 2 ^ 31 by omega), c_19, c_27, hrk, c_89, c_98, c_115]
                      rw [e8]; exact ⟨rfl, hR⟩), by rw [ht]; exact hW, va_K.moved hw.alike hK⟩, hS.F ht⟩) hS.2.2 dX3_put_190
                  · exact absurd c_129 (by decide)
              · rw [c_98] at c_50
                exact absurd c_50 (by decide)
            · have c_89 := bI_e c_89
              refine lv_bipush (v := (-3)) hx hb dX3_put_92 (by decide) ?_
              exact W.iret hx hb hr (fun t ht hw => ⟨⟨_, _, rfl, (by
                have e8 : rfPut σ (nI j) i v = ((-3), σ) := by simp [rfPut, esp_j, eix_j, c_19, c_27, hrk, c_89]
                rw [e8]; exact ⟨rfl, hR⟩), by rw [ht]; exact hW, va_K.moved hw.alike hK⟩, hS.F ht⟩) hS.2.2 dX3_put_94
          · exact absurd c_68 (by decide)
        · have hrk : rkOf σ j = true := by unfold rkOf; exact decide_eq_true (Int32.not_lt.mp c_50)
          refine lv_lload_n hx hb dX3_put_53 rfl (lv_at hl 4 rfl) ?_
          refine lv_lconst (v := 0) hx hb dX3_put_54 (by decide) ?_
          refine W.lcmp hx hb dX3_put_55 ?_
          refine lv_if_eq (tgt := 63) hx hb dX3_put_56 (by decide) (fun c_56 => ?_) (fun c_56 => ?_)
          · have c_56 := (lg_cmp_eq _ _).mp c_56
            refine lv_iconst (v := 0) hx hb dX3_put_63 (by decide) ?_
            refine lv_istore (lv' := [(6, .int 0), (5, .int (kOf σ j)), (0, .ref mm), (1, .int (nI j)), (2, .int i), (3, .long v)]) hx hb dX3_put_64 hl (by decide) rfl (fun ls hl => ?_)
            refine lv_iload hx hb dX3_put_66 (lv_at hl 0 rfl) ?_
            refine lv_if_eq (tgt := 83) hx hb dX3_put_68 (by decide) (fun c_68 => ?_) (fun c_68 => ?_)
            · refine lv_aload_n hx hb dX3_put_83 rfl (lv_at hl 2 rfl) ?_
              refine lv_iload_n hx hb dX3_put_84 rfl (lv_at hl 3 rfl) ?_
              refine lv_iload_n hx hb dX3_put_85 rfl (lv_at hl 4 rfl) ?_
              refine vp_callSi (W.runV (As := [.int (nI j), .int i]) (rest := []) F (c_X3_isPlace (i := i) hR (show j < 10 by omega) (hI.ho hj)) (cwV 2 hts gX3_put_X3_isPlace rfl rfl rfl (by decide +kernel) ⟨Nat.le_of_ble_eq_true rfl, Nat.le_of_ble_eq_true rfl⟩) (mw_prV (q := (RX3, TX3, 14)) hK hO hW rfl hR.1) rfl rfl hl.1 rfl (lv_room (Nat.le_of_ble_eq_true rfl)) dX3_put_86 ⟨Nat.zero_le _, Nat.zero_le _⟩) (fun r_4 er_4 => ?_)
              subst er_4
              refine lv_if_ne (tgt := 95) hx hb dX3_put_89 (by decide) (fun c_89 => ?_) (fun c_89 => ?_)
              · have c_89 := bI_n c_89
                obtain ⟨k9, n9, i9, hk9, e9, hn9, en9, hi9, rfl⟩ := hI.place hj c_89
                have eix_i : ix (nI i9) = i9 := nI_clamp (by omega)
                have epv : pV σ j i9 = sPl σ (80 * k9 + i9) := pV_row hk9 e9
                refine lv_iload hx hb dX3_put_95 (lv_at hl 1 rfl) ?_
                refine lv_iconst (v := 5) hx hb dX3_put_97 (by decide) ?_
                refine lv_icmp_ne (tgt := 112) hx hb dX3_put_98 (by decide) (fun c_98 => ?_) (fun c_98 => ?_)
                · refine lv_iload hx hb dX3_put_112 (lv_at hl 1 rfl) ?_
                  refine lv_iconst (v := 2) hx hb dX3_put_114 (by decide) ?_
                  refine lv_icmp_ne (tgt := 124) hx hb dX3_put_115 (by decide) (fun c_115 => ?_) (fun c_115 => ?_)
                  · refine lv_lload_n hx hb dX3_put_124 rfl (lv_at hl 5 rfl) ?_
                    refine lv_lstore (lv' := [(7, .long v), (6, .int 0), (5, .int (kOf σ j)), (0, .ref mm), (1, .int (nI j)), (2, .int (nI i9)), (3, .long v)]) hx hb dX3_put_125 hl (by decide) rfl (fun ls hl => ?_)
                    refine lv_iload hx hb dX3_put_127 (lv_at hl 1 rfl) ?_
                    refine lv_if_eq (tgt := 169) hx hb dX3_put_129 (by decide) (fun c_129 => ?_) (fun c_129 => ?_)
                    · refine lv_aload_n hx hb dX3_put_169 rfl (lv_at hl 3 rfl) ?_
                      refine mw_get (C := RX3) (T := TX3) (N := 14) F hK hW hI_X3 hR.1 rfl 4 (by decide) hl_fieldLink_RX3_22_SpliceBenchModel_places_J rfl dX3_put_170 ?_
                      refine lv_bipush (v := 80) hx hb dX3_put_173 (by decide) ?_
                      refine lv_aload_n hx hb dX3_put_175 rfl (lv_at hl 3 rfl) ?_
                      refine mw_get (C := RX3) (T := TX3) (N := 14) F hK hW hI_X3 hR.1 rfl 0 (by decide) hl_fieldLink_RX3_7_SpliceBenchModel_holds_I rfl dX3_put_176 ?_
                      refine lv_iload_n hx hb dX3_put_179 rfl (lv_at hl 4 rfl) ?_
                      refine mw_iald F hK hW 0 hR.2.1 rfl (vp_in_nI (show j < 10 by omega) (by omega)) dX3_put_180 ?_
                      rw [nI_clamp (show j < 2 ^ 31 by omega)]
                      refine lv_iconst (v := 1) hx hb dX3_put_181 (by decide) ?_
                      refine lv_isub hx hb dX3_put_182 ?_
                      rw [e9, nI_pred]
                      refine lv_imul hx hb dX3_put_183 ?_
                      rw [show (80 : Int32) = nI 80 from rfl, pk_mul]
                      refine lv_iload_n hx hb dX3_put_184 rfl (lv_at hl 5 rfl) ?_
                      refine lv_iadd hx hb dX3_put_185 ?_
                      rw [nI_add]
                      refine lv_lload hx hb dX3_put_186 (lv_at hl 0 rfl) ?_
                      refine mw_last F hK hW hS 1 hR.2.2.2.2.2.1 rfl (vp_in_nI (show (80 * k9 + i9) < 960 by omega) (by omega)) dX3_put_188 (fun H locs hW hS => ?_)
                      rw [nI_clamp (show (80 * k9 + i9) < 2 ^ 31 by omega)] at hW
                      have hR := hR.wPl (vp_updL (sPl σ) (80 * k9 + i9) v)
                      refine lv_iconst (v := 1) hx hb dX3_put_189 (by decide) ?_
                      exact W.iret hx hb hr (fun t ht hw => ⟨⟨_, _, rfl, (by
                        have e8 : rfPut σ (nI j) (nI i9) v = (1, wPl σ (vp_updL (sPl σ) (80 * k9 + i9) v)) := by simp [rfPut, esp_j, eix_j, rIx_row hk9 e9, nI_clamp (show i9 < 2 ^ 31 by omega), c_19, c_27, hrk, c_56, c_89, c_98, c_115]
                        rw [e8]; exact ⟨rfl, hR⟩), by rw [ht]; exact hW, va_K.moved hw.alike hK⟩, hS.F ht⟩) hS.2.2 dX3_put_190
                    · exact absurd c_129 (by decide)
                  · rw [c_115] at c_50
                    exact absurd (show (2 : Int32) < 4 by decide) c_50
                · refine lv_lload_n hx hb dX3_put_101 rfl (lv_at hl 5 rfl) ?_
                  refine lv_lconst (v := 1) hx hb dX3_put_102 (by decide) ?_
                  refine lv_land hx hb dX3_put_103 ?_
                  refine lv_lconst (v := 1) hx hb dX3_put_104 (by decide) ?_
                  refine W.lcmp hx hb dX3_put_105 ?_
                  refine lv_if_ne (tgt := 112) hx hb dX3_put_106 (by decide) (fun c_106 => ?_) (fun c_106 => ?_)
                  · have c_106 : ¬ (_ = _) := fun h9 => c_106 ((lg_cmp_eq _ _).mpr h9)
                    refine lv_iload hx hb dX3_put_112 (lv_at hl 1 rfl) ?_
                    refine lv_iconst (v := 2) hx hb dX3_put_114 (by decide) ?_
                    refine lv_icmp_ne (tgt := 124) hx hb dX3_put_115 (by decide) (fun c_115 => ?_) (fun c_115 => ?_)
                    · refine lv_lload_n hx hb dX3_put_124 rfl (lv_at hl 5 rfl) ?_
                      refine lv_lstore (lv' := [(7, .long v), (6, .int 0), (5, .int (kOf σ j)), (0, .ref mm), (1, .int (nI j)), (2, .int (nI i9)), (3, .long v)]) hx hb dX3_put_125 hl (by decide) rfl (fun ls hl => ?_)
                      refine lv_iload hx hb dX3_put_127 (lv_at hl 1 rfl) ?_
                      refine lv_if_eq (tgt := 169) hx hb dX3_put_129 (by decide) (fun c_129 => ?_) (fun c_129 => ?_)
                      · refine lv_aload_n hx hb dX3_put_169 rfl (lv_at hl 3 rfl) ?_
                        refine mw_get (C := RX3) (T := TX3) (N := 14) F hK hW hI_X3 hR.1 rfl 4 (by decide) hl_fieldLink_RX3_22_SpliceBenchModel_places_J rfl dX3_put_170 ?_
                        refine lv_bipush (v := 80) hx hb dX3_put_173 (by decide) ?_
                        refine lv_aload_n hx hb dX3_put_175 rfl (lv_at hl 3 rfl) ?_
                        refine mw_get (C := RX3) (T := TX3) (N := 14) F hK hW hI_X3 hR.1 rfl 0 (by decide) hl_fieldLink_RX3_7_SpliceBenchModel_holds_I rfl dX3_put_176 ?_
                        refine lv_iload_n hx hb dX3_put_179 rfl (lv_at hl 4 rfl) ?_
                        refine mw_iald F hK hW 0 hR.2.1 rfl (vp_in_nI (show j < 10 by omega) (by omega)) dX3_put_180 ?_
                        rw [nI_clamp (show j < 2 ^ 31 by omega)]
                        refine lv_iconst (v := 1) hx hb dX3_put_181 (by decide) ?_
                        refine lv_isub hx hb dX3_put_182 ?_
                        rw [e9, nI_pred]
                        refine lv_imul hx hb dX3_put_183 ?_
                        rw [show (80 : Int32) = nI 80 from rfl, pk_mul]
                        refine lv_iload_n hx hb dX3_put_184 rfl (lv_at hl 5 rfl) ?_
                        refine lv_iadd hx hb dX3_put_185 ?_
                        rw [nI_add]
                        refine lv_lload hx hb dX3_put_186 (lv_at hl 0 rfl) ?_
                        refine mw_last F hK hW hS 1 hR.2.2.2.2.2.1 rfl (vp_in_nI (show (80 * k9 + i9) < 960 by omega) (by omega)) dX3_put_188 (fun H locs hW hS => ?_)
                        rw [nI_clamp (show (80 * k9 + i9) < 2 ^ 31 by omega)] at hW
                        have hR := hR.wPl (vp_updL (sPl σ) (80 * k9 + i9) v)
                        refine lv_iconst (v := 1) hx hb dX3_put_189 (by decide) ?_
                        exact W.iret hx hb hr (fun t ht hw => ⟨⟨_, _, rfl, (by
                          have e8 : rfPut σ (nI j) (nI i9) v = (1, wPl σ (vp_updL (sPl σ) (80 * k9 + i9) v)) := by simp [rfPut, esp_j, eix_j, rIx_row hk9 e9, nI_clamp (show i9 < 2 ^ 31 by omega), c_19, c_27, hrk, c_56, c_89, c_98, c_106, c_115]
                          rw [e8]; exact ⟨rfl, hR⟩), by rw [ht]; exact hW, va_K.moved hw.alike hK⟩, hS.F ht⟩) hS.2.2 dX3_put_190
                      · exact absurd c_129 (by decide)
                    · exact absurd (c_98.symm.trans c_115) (by decide)
                  · have c_106 := (lg_cmp_eq _ _).mp c_106
                    rw [c_56] at c_106
                    exact absurd c_106 (by decide)
              · have c_89 := bI_e c_89
                refine lv_bipush (v := (-3)) hx hb dX3_put_92 (by decide) ?_
                exact W.iret hx hb hr (fun t ht hw => ⟨⟨_, _, rfl, (by
                  have e8 : rfPut σ (nI j) i v = ((-3), σ) := by simp [rfPut, esp_j, eix_j, c_19, c_27, hrk, c_56, c_89]
                  rw [e8]; exact ⟨rfl, hR⟩), by rw [ht]; exact hW, va_K.moved hw.alike hK⟩, hS.F ht⟩) hS.2.2 dX3_put_94
            · exact absurd c_68 (by decide)
          · have c_56 : ¬ (_ = _) := fun h9 => c_56 ((lg_cmp_eq _ _).mpr h9)
            refine lv_iconst (v := 1) hx hb dX3_put_59 (by decide) ?_
            refine lv_goto (tgt := 64) hx hb dX3_put_60 (by decide) ?_
            refine lv_istore (lv' := [(6, .int 1), (5, .int (kOf σ j)), (0, .ref mm), (1, .int (nI j)), (2, .int i), (3, .long v)]) hx hb dX3_put_64 hl (by decide) rfl (fun ls hl => ?_)
            refine lv_iload hx hb dX3_put_66 (lv_at hl 0 rfl) ?_
            refine lv_if_eq (tgt := 83) hx hb dX3_put_68 (by decide) (fun c_68 => ?_) (fun c_68 => ?_)
            · exact absurd c_68 (by decide)
            · refine lv_aload_n hx hb dX3_put_71 rfl (lv_at hl 2 rfl) ?_
              refine mw_get (C := RX3) (T := TX3) (N := 14) F hK hW hI_X3 hR.1 rfl 13 (by decide) hl_fieldLink_RX3_62_SpliceBenchModel_cards_I rfl dX3_put_72 ?_
              refine lv_sipush (v := 2000) hx hb dX3_put_75 (by decide) ?_
              refine lv_icmp_ne (tgt := 83) hx hb dX3_put_78 (by decide) (fun c_78 => ?_) (fun c_78 => ?_)
              · refine lv_aload_n hx hb dX3_put_83 rfl (lv_at hl 2 rfl) ?_
                refine lv_iload_n hx hb dX3_put_84 rfl (lv_at hl 3 rfl) ?_
                refine lv_iload_n hx hb dX3_put_85 rfl (lv_at hl 4 rfl) ?_
                refine vp_callSi (W.runV (As := [.int (nI j), .int i]) (rest := []) F (c_X3_isPlace (i := i) hR (show j < 10 by omega) (hI.ho hj)) (cwV 2 hts gX3_put_X3_isPlace rfl rfl rfl (by decide +kernel) ⟨Nat.le_of_ble_eq_true rfl, Nat.le_of_ble_eq_true rfl⟩) (mw_prV (q := (RX3, TX3, 14)) hK hO hW rfl hR.1) rfl rfl hl.1 rfl (lv_room (Nat.le_of_ble_eq_true rfl)) dX3_put_86 ⟨Nat.zero_le _, Nat.zero_le _⟩) (fun r_5 er_5 => ?_)
                subst er_5
                refine lv_if_ne (tgt := 95) hx hb dX3_put_89 (by decide) (fun c_89 => ?_) (fun c_89 => ?_)
                · have c_89 := bI_n c_89
                  obtain ⟨k9, n9, i9, hk9, e9, hn9, en9, hi9, rfl⟩ := hI.place hj c_89
                  have eix_i : ix (nI i9) = i9 := nI_clamp (by omega)
                  have epv : pV σ j i9 = sPl σ (80 * k9 + i9) := pV_row hk9 e9
                  refine lv_iload hx hb dX3_put_95 (lv_at hl 1 rfl) ?_
                  refine lv_iconst (v := 5) hx hb dX3_put_97 (by decide) ?_
                  refine lv_icmp_ne (tgt := 112) hx hb dX3_put_98 (by decide) (fun c_98 => ?_) (fun c_98 => ?_)
                  · refine lv_iload hx hb dX3_put_112 (lv_at hl 1 rfl) ?_
                    refine lv_iconst (v := 2) hx hb dX3_put_114 (by decide) ?_
                    refine lv_icmp_ne (tgt := 124) hx hb dX3_put_115 (by decide) (fun c_115 => ?_) (fun c_115 => ?_)
                    · refine lv_lload_n hx hb dX3_put_124 rfl (lv_at hl 5 rfl) ?_
                      refine lv_lstore (lv' := [(7, .long v), (6, .int 1), (5, .int (kOf σ j)), (0, .ref mm), (1, .int (nI j)), (2, .int (nI i9)), (3, .long v)]) hx hb dX3_put_125 hl (by decide) rfl (fun ls hl => ?_)
                      refine lv_iload hx hb dX3_put_127 (lv_at hl 1 rfl) ?_
                      refine lv_if_eq (tgt := 169) hx hb dX3_put_129 (by decide) (fun c_129 => ?_) (fun c_129 => ?_)
                      · exact absurd c_129 (by decide)
                      · refine lv_aload_n hx hb dX3_put_132 rfl (lv_at hl 3 rfl) ?_
                        refine mw_get (C := RX3) (T := TX3) (N := 14) F hK hW hI_X3 hR.1 rfl 6 (by decide) hl_fieldLink_RX3_29_SpliceBenchModel_cardNumber_J rfl dX3_put_133 ?_
                        refine lv_aload_n hx hb dX3_put_136 rfl (lv_at hl 3 rfl) ?_
                        refine mw_get (C := RX3) (T := TX3) (N := 14) F hK hW hI_X3 hR.1 rfl 13 (by decide) hl_fieldLink_RX3_62_SpliceBenchModel_cards_I rfl dX3_put_137 ?_
                        rw [eb]
                        refine lv_lload_n hx hb dX3_put_140 rfl (lv_at hl 6 rfl) ?_
                        refine mw_last F hK hW hS 1 hR.2.2.2.2.2.2.2.1 rfl (vp_in_nI (show b < 2000 by omega) (by omega)) dX3_put_141 (fun H locs hW hS => ?_)
                        rw [nI_clamp (show b < 2 ^ 31 by omega)] at hW
                        have hR := hR.wCn (vp_updL (sCn σ) b v)
                        refine lv_aload_n hx hb dX3_put_142 rfl (lv_at hl 3 rfl) ?_
                        refine mw_get (C := RX3) (T := TX3) (N := 14) F hK hW hI_X3 (show _ = some (Sum.inr (3, [.ref (ad 0), .ref (ad 1), .ref (ad 2), .ref (ad 3), .ref (ad 4), .ref (ad 5), .ref (ad 6), .ref (ad 7), .ref (ad 8), .int (sCov σ), .int (sCam σ), .int (sGoo σ), .int (sRow σ), .int (sCar σ)])) from hR.1) rfl 7 (by decide) hl_fieldLink_RX3_32_SpliceBenchModel_cardShown_I rfl dX3_put_143 ?_
                        refine lv_aload_n hx hb dX3_put_146 rfl (lv_at hl 3 rfl) ?_
                        refine mw_get (C := RX3) (T := TX3) (N := 14) F hK hW hI_X3 (show _ = some (Sum.inr (3, [.ref (ad 0), .ref (ad 1), .ref (ad 2), .ref (ad 3), .ref (ad 4), .ref (ad 5), .ref (ad 6), .ref (ad 7), .ref (ad 8), .int (sCov σ), .int (sCam σ), .int (sGoo σ), .int (sRow σ), .int (sCar σ)])) from hR.1) rfl 13 (by decide) hl_fieldLink_RX3_62_SpliceBenchModel_cards_I rfl dX3_put_147 ?_
                        rw [eb]
                        refine lv_iconst (v := 0) hx hb dX3_put_150 (by decide) ?_
                        refine mw_iast F hK hW hS 0 (show _ = some (Sum.inl (cI, 2000, Sum.inl (sCs σ))) from hR.2.2.2.2.2.2.2.2.1) rfl (vp_in_nI (show b < 2000 by omega) (by omega)) dX3_put_151 (fun H locs hW hS => ?_)
                        rw [nI_clamp (show b < 2 ^ 31 by omega)] at hW
                        have hR := hR.wCs (upd (sCs σ) b 0)
                        refine lv_aload_n hx hb dX3_put_152 rfl (lv_at hl 3 rfl) ?_
                        refine lv_dup hx hb dX3_put_153 rfl ?_
                        refine mw_get (C := RX3) (T := TX3) (N := 14) F hK hW hI_X3 (show _ = some (Sum.inr (3, [.ref (ad 0), .ref (ad 1), .ref (ad 2), .ref (ad 3), .ref (ad 4), .ref (ad 5), .ref (ad 6), .ref (ad 7), .ref (ad 8), .int (sCov σ), .int (sCam σ), .int (sGoo σ), .int (sRow σ), .int (sCar σ)])) from hR.1) rfl 13 (by decide) hl_fieldLink_RX3_62_SpliceBenchModel_cards_I rfl dX3_put_154 ?_
                        refine lv_iconst (v := 1) hx hb dX3_put_157 (by decide) ?_
                        refine lv_iadd hx hb dX3_put_158 ?_
                        refine mw_put (C := RX3) (T := TX3) (N := 14) (v := .int ((sCar σ) + 1)) F hK hW hS hI_X3 tyX3 tyX3_ok nmX3 (show _ = some (Sum.inr (3, [.ref (ad 0), .ref (ad 1), .ref (ad 2), .ref (ad 3), .ref (ad 4), .ref (ad 5), .ref (ad 6), .ref (ad 7), .ref (ad 8), .int (sCov σ), .int (sCam σ), .int (sGoo σ), .int (sRow σ), .int (sCar σ)])) from hR.1) rfl 13 (by decide) hl_fieldLink_RX3_62_SpliceBenchModel_cards_I rfl rfl rfl (Nat.le_of_ble_eq_true rfl) dX3_put_159 (fun H locs hW hS => ?_)
                        have hR := hR.wCar ((sCar σ) + 1)
                        refine lv_aload_n hx hb dX3_put_162 rfl (lv_at hl 3 rfl) ?_
                        refine mw_get (C := RX3) (T := TX3) (N := 14) F hK hW hI_X3 (show _ = some (Sum.inr (3, [.ref (ad 0), .ref (ad 1), .ref (ad 2), .ref (ad 3), .ref (ad 4), .ref (ad 5), .ref (ad 6), .ref (ad 7), .ref (ad 8), .int (sCov σ), .int (sCam σ), .int (sGoo σ), .int (sRow σ), .int ((sCar σ) + 1)])) from hR.1) rfl 13 (by decide) hl_fieldLink_RX3_62_SpliceBenchModel_cards_I rfl dX3_put_163 ?_
                        refine lv_i2l hx hb dX3_put_166 rfl ?_
                        refine lv_lstore (lv' := [(7, .long (((sCar σ) + 1).toInt64)), (6, .int 1), (5, .int (kOf σ j)), (0, .ref mm), (1, .int (nI j)), (2, .int (nI i9)), (3, .long v)]) hx hb dX3_put_167 hl (by decide) rfl (fun ls hl => ?_)
                        refine lv_aload_n hx hb dX3_put_169 rfl (lv_at hl 3 rfl) ?_
                        refine mw_get (C := RX3) (T := TX3) (N := 14) F hK hW hI_X3 (show _ = some (Sum.inr (3, [.ref (ad 0), .ref (ad 1), .ref (ad 2), .ref (ad 3), .ref (ad 4), .ref (ad 5), .ref (ad 6), .ref (ad 7), .ref (ad 8), .int (sCov σ), .int (sCam σ), .int (sGoo σ), .int (sRow σ), .int ((sCar σ) + 1)])) from hR.1) rfl 4 (by decide) hl_fieldLink_RX3_22_SpliceBenchModel_places_J rfl dX3_put_170 ?_
                        refine lv_bipush (v := 80) hx hb dX3_put_173 (by decide) ?_
                        refine lv_aload_n hx hb dX3_put_175 rfl (lv_at hl 3 rfl) ?_
                        refine mw_get (C := RX3) (T := TX3) (N := 14) F hK hW hI_X3 (show _ = some (Sum.inr (3, [.ref (ad 0), .ref (ad 1), .ref (ad 2), .ref (ad 3), .ref (ad 4), .ref (ad 5), .ref (ad 6), .ref (ad 7), .ref (ad 8), .int (sCov σ), .int (sCam σ), .int (sGoo σ), .int (sRow σ), .int ((sCar σ) + 1)])) from hR.1) rfl 0 (by decide) hl_fieldLink_RX3_7_SpliceBenchModel_holds_I rfl dX3_put_176 ?_
                        refine lv_iload_n hx hb dX3_put_179 rfl (lv_at hl 4 rfl) ?_
                        refine mw_iald F hK hW 0 (show _ = some (Sum.inl (cI, 10, Sum.inl (sHo σ))) from hR.2.1) rfl (vp_in_nI (show j < 10 by omega) (by omega)) dX3_put_180 ?_
                        rw [nI_clamp (show j < 2 ^ 31 by omega)]
                        refine lv_iconst (v := 1) hx hb dX3_put_181 (by decide) ?_
                        refine lv_isub hx hb dX3_put_182 ?_
                        rw [e9, nI_pred]
                        refine lv_imul hx hb dX3_put_183 ?_
                        rw [show (80 : Int32) = nI 80 from rfl, pk_mul]
                        refine lv_iload_n hx hb dX3_put_184 rfl (lv_at hl 5 rfl) ?_
                        refine lv_iadd hx hb dX3_put_185 ?_
                        rw [nI_add]
                        refine lv_lload hx hb dX3_put_186 (lv_at hl 0 rfl) ?_
                        refine mw_last F hK hW hS 1 (show _ = some (Sum.inl (cJ, 960, Sum.inr (Sum.inl (sPl σ)))) from hR.2.2.2.2.2.1) rfl (vp_in_nI (show (80 * k9 + i9) < 960 by omega) (by omega)) dX3_put_188 (fun H locs hW hS => ?_)
                        rw [nI_clamp (show (80 * k9 + i9) < 2 ^ 31 by omega)] at hW
                        have hR := hR.wPl (vp_updL (sPl σ) (80 * k9 + i9) (((sCar σ) + 1).toInt64))
                        refine lv_iconst (v := 1) hx hb dX3_put_189 (by decide) ?_
                        exact W.iret hx hb hr (fun t ht hw => ⟨⟨_, _, rfl, (by
                          have e8 : rfPut σ (nI j) (nI i9) v = (1, wPl (rfCard σ v) (vp_updL (sPl σ) (80 * k9 + i9) (sCar σ + 1).toInt64)) := by simp [rfPut, esp_j, eix_j, rIx_row hk9 e9, nI_clamp (show i9 < 2 ^ 31 by omega), c_19, c_27, hrk, c_56, c_78, c_89, c_98, c_115]
                          rw [e8]; exact ⟨rfl, hR.to (by simp only [rfCard, eb, ix, nI_clamp (show b < 2 ^ 31 by omega)])⟩), by rw [ht]; exact hW, va_K.moved hw.alike hK⟩, hS.F ht⟩) hS.2.2 dX3_put_190
                    · rw [c_115] at c_50
                      exact absurd (show (2 : Int32) < 4 by decide) c_50
                  · refine lv_lload_n hx hb dX3_put_101 rfl (lv_at hl 5 rfl) ?_
                    refine lv_lconst (v := 1) hx hb dX3_put_102 (by decide) ?_
                    refine lv_land hx hb dX3_put_103 ?_
                    refine lv_lconst (v := 1) hx hb dX3_put_104 (by decide) ?_
                    refine W.lcmp hx hb dX3_put_105 ?_
                    refine lv_if_ne (tgt := 112) hx hb dX3_put_106 (by decide) (fun c_106 => ?_) (fun c_106 => ?_)
                    · have c_106 : ¬ (_ = _) := fun h9 => c_106 ((lg_cmp_eq _ _).mpr h9)
                      refine lv_iload hx hb dX3_put_112 (lv_at hl 1 rfl) ?_
                      refine lv_iconst (v := 2) hx hb dX3_put_114 (by decide) ?_
                      refine lv_icmp_ne (tgt := 124) hx hb dX3_put_115 (by decide) (fun c_115 => ?_) (fun c_115 => ?_)
                      · refine lv_lload_n hx hb dX3_put_124 rfl (lv_at hl 5 rfl) ?_
                        refine lv_lstore (lv' := [(7, .long v), (6, .int 1), (5, .int (kOf σ j)), (0, .ref mm), (1, .int (nI j)), (2, .int (nI i9)), (3, .long v)]) hx hb dX3_put_125 hl (by decide) rfl (fun ls hl => ?_)
                        refine lv_iload hx hb dX3_put_127 (lv_at hl 1 rfl) ?_
                        refine lv_if_eq (tgt := 169) hx hb dX3_put_129 (by decide) (fun c_129 => ?_) (fun c_129 => ?_)
                        · exact absurd c_129 (by decide)
                        · refine lv_aload_n hx hb dX3_put_132 rfl (lv_at hl 3 rfl) ?_
                          refine mw_get (C := RX3) (T := TX3) (N := 14) F hK hW hI_X3 hR.1 rfl 6 (by decide) hl_fieldLink_RX3_29_SpliceBenchModel_cardNumber_J rfl dX3_put_133 ?_
                          refine lv_aload_n hx hb dX3_put_136 rfl (lv_at hl 3 rfl) ?_
                          refine mw_get (C := RX3) (T := TX3) (N := 14) F hK hW hI_X3 hR.1 rfl 13 (by decide) hl_fieldLink_RX3_62_SpliceBenchModel_cards_I rfl dX3_put_137 ?_
                          rw [eb]
                          refine lv_lload_n hx hb dX3_put_140 rfl (lv_at hl 6 rfl) ?_
                          refine mw_last F hK hW hS 1 hR.2.2.2.2.2.2.2.1 rfl (vp_in_nI (show b < 2000 by omega) (by omega)) dX3_put_141 (fun H locs hW hS => ?_)
                          rw [nI_clamp (show b < 2 ^ 31 by omega)] at hW
                          have hR := hR.wCn (vp_updL (sCn σ) b v)
                          refine lv_aload_n hx hb dX3_put_142 rfl (lv_at hl 3 rfl) ?_
                          refine mw_get (C := RX3) (T := TX3) (N := 14) F hK hW hI_X3 (show _ = some (Sum.inr (3, [.ref (ad 0), .ref (ad 1), .ref (ad 2), .ref (ad 3), .ref (ad 4), .ref (ad 5), .ref (ad 6), .ref (ad 7), .ref (ad 8), .int (sCov σ), .int (sCam σ), .int (sGoo σ), .int (sRow σ), .int (sCar σ)])) from hR.1) rfl 7 (by decide) hl_fieldLink_RX3_32_SpliceBenchModel_cardShown_I rfl dX3_put_143 ?_
                          refine lv_aload_n hx hb dX3_put_146 rfl (lv_at hl 3 rfl) ?_
                          refine mw_get (C := RX3) (T := TX3) (N := 14) F hK hW hI_X3 (show _ = some (Sum.inr (3, [.ref (ad 0), .ref (ad 1), .ref (ad 2), .ref (ad 3), .ref (ad 4), .ref (ad 5), .ref (ad 6), .ref (ad 7), .ref (ad 8), .int (sCov σ), .int (sCam σ), .int (sGoo σ), .int (sRow σ), .int (sCar σ)])) from hR.1) rfl 13 (by decide) hl_fieldLink_RX3_62_SpliceBenchModel_cards_I rfl dX3_put_147 ?_
                          rw [eb]
                          refine lv_iconst (v := 0) hx hb dX3_put_150 (by decide) ?_
                          refine mw_iast F hK hW hS 0 (show _ = some (Sum.inl (cI, 2000, Sum.inl (sCs σ))) from hR.2.2.2.2.2.2.2.2.1) rfl (vp_in_nI (show b < 2000 by omega) (by omega)) dX3_put_151 (fun H locs hW hS => ?_)
                          rw [nI_clamp (show b < 2 ^ 31 by omega)] at hW
                          have hR := hR.wCs (upd (sCs σ) b 0)
                          refine lv_aload_n hx hb dX3_put_152 rfl (lv_at hl 3 rfl) ?_
                          refine lv_dup hx hb dX3_put_153 rfl ?_
                          refine mw_get (C := RX3) (T := TX3) (N := 14) F hK hW hI_X3 (show _ = some (Sum.inr (3, [.ref (ad 0), .ref (ad 1), .ref (ad 2), .ref (ad 3), .ref (ad 4), .ref (ad 5), .ref (ad 6), .ref (ad 7), .ref (ad 8), .int (sCov σ), .int (sCam σ), .int (sGoo σ), .int (sRow σ), .int (sCar σ)])) from hR.1) rfl 13 (by decide) hl_fieldLink_RX3_62_SpliceBenchModel_cards_I rfl dX3_put_154 ?_
                          refine lv_iconst (v := 1) hx hb dX3_put_157 (by decide) ?_
                          refine lv_iadd hx hb dX3_put_158 ?_
                          refine mw_put (C := RX3) (T := TX3) (N := 14) (v := .int ((sCar σ) + 1)) F hK hW hS hI_X3 tyX3 tyX3_ok nmX3 (show _ = some (Sum.inr (3, [.ref (ad 0), .ref (ad 1), .ref (ad 2), .ref (ad 3), .ref (ad 4), .ref (ad 5), .ref (ad 6), .ref (ad 7), .ref (ad 8), .int (sCov σ), .int (sCam σ), .int (sGoo σ), .int (sRow σ), .int (sCar σ)])) from hR.1) rfl 13 (by decide) hl_fieldLink_RX3_62_SpliceBenchModel_cards_I rfl rfl rfl (Nat.le_of_ble_eq_true rfl) dX3_put_159 (fun H locs hW hS => ?_)
                          have hR := hR.wCar ((sCar σ) + 1)
                          refine lv_aload_n hx hb dX3_put_162 rfl (lv_at hl 3 rfl) ?_
                          refine mw_get (C := RX3) (T := TX3) (N := 14) F hK hW hI_X3 (show _ = some (Sum.inr (3, [.ref (ad 0), .ref (ad 1), .ref (ad 2), .ref (ad 3), .ref (ad 4), .ref (ad 5), .ref (ad 6), .ref (ad 7), .ref (ad 8), .int (sCov σ), .int (sCam σ), .int (sGoo σ), .int (sRow σ), .int ((sCar σ) + 1)])) from hR.1) rfl 13 (by decide) hl_fieldLink_RX3_62_SpliceBenchModel_cards_I rfl dX3_put_163 ?_
                          refine lv_i2l hx hb dX3_put_166 rfl ?_
                          refine lv_lstore (lv' := [(7, .long (((sCar σ) + 1).toInt64)), (6, .int 1), (5, .int (kOf σ j)), (0, .ref mm), (1, .int (nI j)), (2, .int (nI i9)), (3, .long v)]) hx hb dX3_put_167 hl (by decide) rfl (fun ls hl => ?_)
                          refine lv_aload_n hx hb dX3_put_169 rfl (lv_at hl 3 rfl) ?_
                          refine mw_get (C := RX3) (T := TX3) (N := 14) F hK hW hI_X3 (show _ = some (Sum.inr (3, [.ref (ad 0), .ref (ad 1), .ref (ad 2), .ref (ad 3), .ref (ad 4), .ref (ad 5), .ref (ad 6), .ref (ad 7), .ref (ad 8), .int (sCov σ), .int (sCam σ), .int (sGoo σ), .int (sRow σ), .int ((sCar σ) + 1)])) from hR.1) rfl 4 (by decide) hl_fieldLink_RX3_22_SpliceBenchModel_places_J rfl dX3_put_170 ?_
                          refine lv_bipush (v := 80) hx hb dX3_put_173 (by decide) ?_
                          refine lv_aload_n hx hb dX3_put_175 rfl (lv_at hl 3 rfl) ?_
                          refine mw_get (C := RX3) (T := TX3) (N := 14) F hK hW hI_X3 (show _ = some (Sum.inr (3, [.ref (ad 0), .ref (ad 1), .ref (ad 2), .ref (ad 3), .ref (ad 4), .ref (ad 5), .ref (ad 6), .ref (ad 7), .ref (ad 8), .int (sCov σ), .int (sCam σ), .int (sGoo σ), .int (sRow σ), .int ((sCar σ) + 1)])) from hR.1) rfl 0 (by decide) hl_fieldLink_RX3_7_SpliceBenchModel_holds_I rfl dX3_put_176 ?_
                          refine lv_iload_n hx hb dX3_put_179 rfl (lv_at hl 4 rfl) ?_
                          refine mw_iald F hK hW 0 (show _ = some (Sum.inl (cI, 10, Sum.inl (sHo σ))) from hR.2.1) rfl (vp_in_nI (show j < 10 by omega) (by omega)) dX3_put_180 ?_
                          rw [nI_clamp (show j < 2 ^ 31 by omega)]
                          refine lv_iconst (v := 1) hx hb dX3_put_181 (by decide) ?_
                          refine lv_isub hx hb dX3_put_182 ?_
                          rw [e9, nI_pred]
                          refine lv_imul hx hb dX3_put_183 ?_
                          rw [show (80 : Int32) = nI 80 from rfl, pk_mul]
                          refine lv_iload_n hx hb dX3_put_184 rfl (lv_at hl 5 rfl) ?_
                          refine lv_iadd hx hb dX3_put_185 ?_
                          rw [nI_add]
                          refine lv_lload hx hb dX3_put_186 (lv_at hl 0 rfl) ?_
                          refine mw_last F hK hW hS 1 (show _ = some (Sum.inl (cJ, 960, Sum.inr (Sum.inl (sPl σ)))) from hR.2.2.2.2.2.1) rfl (vp_in_nI (show (80 * k9 + i9) < 960 by omega) (by omega)) dX3_put_188 (fun H locs hW hS => ?_)
                          rw [nI_clamp (show (80 * k9 + i9) < 2 ^ 31 by omega)] at hW
                          have hR := hR.wPl (vp_updL (sPl σ) (80 * k9 + i9) (((sCar σ) + 1).toInt64))
                          refine lv_iconst (v := 1) hx hb dX3_put_189 (by decide) ?_
                          exact W.iret hx hb hr (fun t ht hw => ⟨⟨_, _, rfl, (by
                            have e8 : rfPut σ (nI j) (nI i9) v = (1, wPl (rfCard σ v) (vp_updL (sPl σ) (80 * k9 + i9) (sCar σ + 1).toInt64)) := by simp [rfPut, esp_j, eix_j, rIx_row hk9 e9, nI_clamp (show i9 < 2 ^ 31 by omega), c_19, c_27, hrk, c_56, c_78, c_89, c_98, c_106, c_115]
                            rw [e8]; exact ⟨rfl, hR.to (by simp only [rfCard, eb, ix, nI_clamp (show b < 2 ^ 31 by omega)])⟩), by rw [ht]; exact hW, va_K.moved hw.alike hK⟩, hS.F ht⟩) hS.2.2 dX3_put_190
                      · exact absurd (c_98.symm.trans c_115) (by decide)
                    · have c_106 := (lg_cmp_eq _ _).mp c_106
                      refine lv_bipush (v := (-4)) hx hb dX3_put_109 (by decide) ?_
                      exact W.iret hx hb hr (fun t ht hw => ⟨⟨_, _, rfl, (by
                        have e8 : rfPut σ (nI j) (nI i9) v = ((-4), σ) := by simp [rfPut, esp_j, eix_j, c_19, c_27, hrk, c_56, c_78, c_89, c_98, c_106]
                        rw [e8]; exact ⟨rfl, hR⟩), by rw [ht]; exact hW, va_K.moved hw.alike hK⟩, hS.F ht⟩) hS.2.2 dX3_put_111
                · have c_89 := bI_e c_89
                  refine lv_bipush (v := (-3)) hx hb dX3_put_92 (by decide) ?_
                  exact W.iret hx hb hr (fun t ht hw => ⟨⟨_, _, rfl, (by
                    have e8 : rfPut σ (nI j) i v = ((-3), σ) := by simp [rfPut, esp_j, eix_j, c_19, c_27, hrk, c_56, c_78, c_89]
                    rw [e8]; exact ⟨rfl, hR⟩), by rw [ht]; exact hW, va_K.moved hw.alike hK⟩, hS.F ht⟩) hS.2.2 dX3_put_94
              · refine lv_iconst (v := 0) hx hb dX3_put_81 (by decide) ?_
                exact W.iret hx hb hr (fun t ht hw => ⟨⟨_, _, rfl, (by
                  have e8 : rfPut σ (nI j) i v = (0, σ) := by simp [rfPut, esp_j, eix_j, c_19, c_27, hrk, c_56, c_78]
                  rw [e8]; exact ⟨rfl, hR⟩), by rw [ht]; exact hW, va_K.moved hw.alike hK⟩, hS.F ht⟩) hS.2.2 dX3_put_82
      · refine lv_aload_n hx hb dX3_put_30 rfl (lv_at hl 1 rfl) ?_
        refine mw_get (C := RX3) (T := TX3) (N := 14) F hK hW hI_X3 hR.1 rfl 1 (by decide) hl_fieldLink_RX3_13_SpliceBenchModel_labels_I rfl dX3_put_31 ?_
        refine lv_iconst (v := (-1)) hx hb dX3_put_34 (by decide) ?_
        refine lv_aload_n hx hb dX3_put_35 rfl (lv_at hl 1 rfl) ?_
        refine mw_get (C := RX3) (T := TX3) (N := 14) F hK hW hI_X3 hR.1 rfl 0 (by decide) hl_fieldLink_RX3_7_SpliceBenchModel_holds_I rfl dX3_put_36 ?_
        refine lv_iload_n hx hb dX3_put_39 rfl (lv_at hl 2 rfl) ?_
        refine mw_iald F hK hW 0 hR.2.1 rfl (vp_in_nI (show j < 10 by omega) (by omega)) dX3_put_40 ?_
        rw [nI_clamp (show j < 2 ^ 31 by omega)]
        refine lv_isub hx hb dX3_put_41 ?_
        obtain ⟨k9, hk9, e9⟩ : ∃ k, k < 10 ∧ sHo σ j = -1 - nI k := by
          rcases hI.ho hj with h0 | h0 | ⟨k, hk, h0⟩
          · exact absurd (kOf_0 h0) c_19
          · exact h0
          · exfalso
            rw [kOf_row hk h0] at c_27
            rcases hI.kd hk (Inv.live hj h0) with h1 | h1 <;> (rw [c_27] at h1; exact absurd h1 (by decide))
        have e7 : -1 - sHo σ j = nI k9 := by rw [e9, lab_ix k9 hk9]
        rw [e7]
        refine lv_lload_n hx hb dX3_put_42 rfl (lv_at hl 4 rfl) ?_
        refine lv_l2i hx hb dX3_put_43 rfl ?_
        refine mw_iast F hK hW hS 0 hR.2.2.1 rfl (vp_in_nI (show k9 < 10 by omega) (by omega)) dX3_put_44 (fun H locs hW hS => ?_)
        rw [nI_clamp (show k9 < 2 ^ 31 by omega)] at hW
        have hR := hR.wLa (upd (sLa σ) k9 v.toInt32)
        refine lv_iconst (v := 1) hx hb dX3_put_45 (by decide) ?_
        exact W.iret hx hb hr (fun t ht hw => ⟨⟨_, _, rfl, (by
          have e8 : rfPut σ (nI j) i v = (1, wLa σ (upd (sLa σ) k9 v.toInt32)) := by simp [rfPut, esp_j, eix_j, e7, nI_clamp (show k9 < 2 ^ 31 by omega), c_19, c_27]
          rw [e8]; exact ⟨rfl, hR⟩), by rw [ht]; exact hW, va_K.moved hw.alike hK⟩, hS.F ht⟩) hS.2.2 dX3_put_46
    · refine lv_iconst (v := (-1)) hx hb dX3_put_22 (by decide) ?_
      exact W.iret hx hb hr (fun t ht hw => ⟨⟨_, _, rfl, (by
        have e8 : rfPut σ (nI j) i v = ((-1), σ) := by simp [rfPut, esp_j, eix_j, c_19]
        rw [e8]; exact ⟨rfl, hR⟩), by rw [ht]; exact hW, va_K.moved hw.alike hK⟩, hS.F ht⟩) hS.2.2 dX3_put_23
  · have c_4 := bI_e c_4
    refine lv_bipush (v := (-9)) hx hb dX3_put_7 (by decide) ?_
    exact W.iret hx hb hr (fun t ht hw => ⟨⟨_, _, rfl, (by
      have e8 : rfPut σ s0 i v = (-9, σ) := by simp [rfPut, c_4]
      rw [e8]; exact ⟨rfl, hR⟩), by rw [ht]; exact hW, va_K.moved hw.alike hK⟩, hS.F ht⟩) hS.2.2 dX3_put_9
end X3P
