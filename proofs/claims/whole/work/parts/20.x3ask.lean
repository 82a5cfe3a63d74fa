section X3A
variable {l : Launch} {D : va_G} {cI cJ cC cH : ClassId} {M : Nat → Option va_E} {sz : Nat}
abbrev rmX3_count : Room := ({ frames := 0, cells := 0, slots := 0, locals := 0 } : Room)
set_option maxHeartbeats 4000000 in
set_option maxRecDepth 100000 in
theorem c_X3_count {mm : Nat} {ad : Nat → Nat} {σ : RS} (hR : refAt cI cJ mm ad σ M) {cc : Nat} (hI : Inv σ cc) {w : Int32} : Met l yX3_count wsX3_count rmX3_count (va_Pc [.ref mm, .int w] (mwPre D (tyL cI cJ cC cH) M sz)) (vp_Si (fun r => r = anCount σ w)) 0 0 (fun _ => False) := by
  refine Met.ofW (cc := cX3_count) (maxL := 2) (ret := (some .int)) (by decide) rfl ?_
  intro pr env s m args below meth c s₁ B hml hv
  obtain ⟨rfl, hsz, hW, hK, hO⟩ := hv
  have hx := B.exec
  have hb := B.bytes
  have hr := B.returns
  have hts := atoms_spec (ws := wsX3_count) B.pre
  have hown : s.vm.findClass RX3 = some m.cls := findClass_of_methodNamed B.named
  have hlocks := B.notSynchronized
  have F : CallFix pr m c cX3_count 2 s ([.ref mm, .int w] : List Value).toArray wsX3_count RX3 := ⟨hx, hb, hml, hown, hts⟩
  have hI_X3 : ∀ w ∈ wsX30, w ∈ wsX3_count := by decide +kernel
  have hl_fieldLink_RX3_69_SpliceBenchModel_came_I := hts (.fieldLink RX3 69 "SpliceBenchModel" "came" "I") (by decide +kernel)
  have hl_fieldLink_RX3_35_SpliceBenchModel_failed_I := hts (.fieldLink RX3 35 "SpliceBenchModel" "failed" "[I") (by decide +kernel)
  have hl_fieldLink_RX3_91_SpliceBenchModel_good_I := hts (.fieldLink RX3 91 "SpliceBenchModel" "good" "I") (by decide +kernel)
  have hl_fieldLink_RX3_56_SpliceBenchModel_rows_I := hts (.fieldLink RX3 56 "SpliceBenchModel" "rows" "I") (by decide +kernel)
  have hl_fieldLink_RX3_62_SpliceBenchModel_cards_I := hts (.fieldLink RX3 62 "SpliceBenchModel" "cards" "I") (by decide +kernel)
  have hl_fieldLink_RX3_38_SpliceBenchModel_covered_I := hts (.fieldLink RX3 38 "SpliceBenchModel" "covered" "I") (by decide +kernel)
  have hl := lv_entry ([.ref mm, .int w]) (n := 2) (Nat.le_of_ble_eq_true rfl)
  rw [lg_entry_eq]
  generalize (lg_sl ([.ref mm, .int w]) ++ List.replicate (2 - (lg_sl ([.ref mm, .int w])).length) Slot.unset).toArray = ls at hl ⊢
  have hl : lv_has ls 2 [(0, .ref mm), (1, .int w)] := hl
  refine lv_iload_n hx hb dX3_count_0 rfl (lv_at hl 1 rfl) ?_
  by_cases h_0 : w = 0
  · subst h_0
    refine lv_tableIn (off := 51) (tgt := 52) hx hb dX3_count_1 (by decide) (by decide) rfl (by decide) ?_
    refine lv_aload_n hx hb dX3_count_52 rfl (lv_at hl 0 rfl) ?_
    refine mw_get (C := RX3) (T := TX3) (N := 14) F hK hW hI_X3 hR.1 rfl 10 (by decide) hl_fieldLink_RX3_69_SpliceBenchModel_came_I rfl dX3_count_53 ?_
    exact W.iret hx hb hr (fun t ht _ => ⟨_, rfl, (by first | rfl | simp [anCount]), ht⟩) (fun _ h => by cases h) dX3_count_56
  by_cases h_1 : w = 1
  · subst h_1
    refine lv_tableIn (off := 56) (tgt := 57) hx hb dX3_count_1 (by decide) (by decide) rfl (by decide) ?_
    refine lv_aload_n hx hb dX3_count_57 rfl (lv_at hl 0 rfl) ?_
    refine mw_get (C := RX3) (T := TX3) (N := 14) F hK hW hI_X3 hR.1 rfl 8 (by decide) hl_fieldLink_RX3_35_SpliceBenchModel_failed_I rfl dX3_count_58 ?_
    refine lv_iload_n hx hb dX3_count_61 rfl (lv_at hl 1 rfl) ?_
    refine mw_iald F hK hW 0 hR.2.2.2.2.2.2.2.2.2.1 rfl (show vp_in (nI 1) 5 from vp_in_nI (by decide) (by decide)) dX3_count_62 ?_
    exact W.iret hx hb hr (fun t ht _ => ⟨_, rfl, (by first | rfl | simp [anCount]), ht⟩) (fun _ h => by cases h) dX3_count_63
  by_cases h_2 : w = 2
  · subst h_2
    refine lv_tableIn (off := 56) (tgt := 57) hx hb dX3_count_1 (by decide) (by decide) rfl (by decide) ?_
    refine lv_aload_n hx hb dX3_count_57 rfl (lv_at hl 0 rfl) ?_
    refine mw_get (C := RX3) (T := TX3) (N := 14) F hK hW hI_X3 hR.1 rfl 8 (by decide) hl_fieldLink_RX3_35_SpliceBenchModel_failed_I rfl dX3_count_58 ?_
    refine lv_iload_n hx hb dX3_count_61 rfl (lv_at hl 1 rfl) ?_
    refine mw_iald F hK hW 0 hR.2.2.2.2.2.2.2.2.2.1 rfl (show vp_in (nI 2) 5 from vp_in_nI (by decide) (by decide)) dX3_count_62 ?_
    exact W.iret hx hb hr (fun t ht _ => ⟨_, rfl, (by first | rfl | simp [anCount]), ht⟩) (fun _ h => by cases h) dX3_count_63
  by_cases h_3 : w = 3
  · subst h_3
    refine lv_tableIn (off := 56) (tgt := 57) hx hb dX3_count_1 (by decide) (by decide) rfl (by decide) ?_
    refine lv_aload_n hx hb dX3_count_57 rfl (lv_at hl 0 rfl) ?_
    refine mw_get (C := RX3) (T := TX3) (N := 14) F hK hW hI_X3 hR.1 rfl 8 (by decide) hl_fieldLink_RX3_35_SpliceBenchModel_failed_I rfl dX3_count_58 ?_
    refine lv_iload_n hx hb dX3_count_61 rfl (lv_at hl 1 rfl) ?_
    refine mw_iald F hK hW 0 hR.2.2.2.2.2.2.2.2.2.1 rfl (show vp_in (nI 3) 5 from vp_in_nI (by decide) (by decide)) dX3_count_62 ?_
    exact W.iret hx hb hr (fun t ht _ => ⟨_, rfl, (by first | rfl | simp [anCount]), ht⟩) (fun _ h => by cases h) dX3_count_63
  by_cases h_4 : w = 4
  · subst h_4
    refine lv_tableIn (off := 56) (tgt := 57) hx hb dX3_count_1 (by decide) (by decide) rfl (by decide) ?_
    refine lv_aload_n hx hb dX3_count_57 rfl (lv_at hl 0 rfl) ?_
    refine mw_get (C := RX3) (T := TX3) (N := 14) F hK hW hI_X3 hR.1 rfl 8 (by decide) hl_fieldLink_RX3_35_SpliceBenchModel_failed_I rfl dX3_count_58 ?_
    refine lv_iload_n hx hb dX3_count_61 rfl (lv_at hl 1 rfl) ?_
    refine mw_iald F hK hW 0 hR.2.2.2.2.2.2.2.2.2.1 rfl (show vp_in (nI 4) 5 from vp_in_nI (by decide) (by decide)) dX3_count_62 ?_
    exact W.iret hx hb hr (fun t ht _ => ⟨_, rfl, (by first | rfl | simp [anCount]), ht⟩) (fun _ h => by cases h) dX3_count_63
  by_cases h_5 : w = 5
  · subst h_5
    refine lv_tableIn (off := 63) (tgt := 64) hx hb dX3_count_1 (by decide) (by decide) rfl (by decide) ?_
    refine lv_aload_n hx hb dX3_count_64 rfl (lv_at hl 0 rfl) ?_
    refine mw_get (C := RX3) (T := TX3) (N := 14) F hK hW hI_X3 hR.1 rfl 11 (by decide) hl_fieldLink_RX3_91_SpliceBenchModel_good_I rfl dX3_count_65 ?_
    exact W.iret hx hb hr (fun t ht _ => ⟨_, rfl, (by first | rfl | simp [anCount]), ht⟩) (fun _ h => by cases h) dX3_count_68
  by_cases h_6 : w = 6
  · subst h_6
    refine lv_tableIn (off := 68) (tgt := 69) hx hb dX3_count_1 (by decide) (by decide) rfl (by decide) ?_
    refine lv_aload_n hx hb dX3_count_69 rfl (lv_at hl 0 rfl) ?_
    refine mw_get (C := RX3) (T := TX3) (N := 14) F hK hW hI_X3 hR.1 rfl 12 (by decide) hl_fieldLink_RX3_56_SpliceBenchModel_rows_I rfl dX3_count_70 ?_
    exact W.iret hx hb hr (fun t ht _ => ⟨_, rfl, (by first | rfl | simp [anCount]), ht⟩) (fun _ h => by cases h) dX3_count_73
  by_cases h_7 : w = 7
  · subst h_7
    refine lv_tableIn (off := 73) (tgt := 74) hx hb dX3_count_1 (by decide) (by decide) rfl (by decide) ?_
    refine lv_aload_n hx hb dX3_count_74 rfl (lv_at hl 0 rfl) ?_
    refine mw_get (C := RX3) (T := TX3) (N := 14) F hK hW hI_X3 hR.1 rfl 13 (by decide) hl_fieldLink_RX3_62_SpliceBenchModel_cards_I rfl dX3_count_75 ?_
    exact W.iret hx hb hr (fun t ht _ => ⟨_, rfl, (by first | rfl | simp [anCount]), ht⟩) (fun _ h => by cases h) dX3_count_78
  by_cases h_8 : w = 8
  · subst h_8
    refine lv_tableIn (off := 78) (tgt := 79) hx hb dX3_count_1 (by decide) (by decide) rfl (by decide) ?_
    refine lv_aload_n hx hb dX3_count_79 rfl (lv_at hl 0 rfl) ?_
    refine mw_get (C := RX3) (T := TX3) (N := 14) F hK hW hI_X3 hR.1 rfl 9 (by decide) hl_fieldLink_RX3_38_SpliceBenchModel_covered_I rfl dX3_count_80 ?_
    refine lv_iconst (v := (-1)) hx hb dX3_count_83 (by decide) ?_
    refine lv_icmp_ne (tgt := 91) hx hb dX3_count_84 (by decide) (fun c_84 => ?_) (fun c_84 => ?_)
    · refine lv_iconst (v := 1) hx hb dX3_count_91 (by decide) ?_
      exact W.iret hx hb hr (fun t ht _ => ⟨_, rfl, (by first | rfl | simp [anCount, c_84]), ht⟩) (fun _ h => by cases h) dX3_count_92
    · refine lv_iconst (v := 0) hx hb dX3_count_87 (by decide) ?_
      refine lv_goto (tgt := 92) hx hb dX3_count_88 (by decide) ?_
      exact W.iret hx hb hr (fun t ht _ => ⟨_, rfl, (by first | rfl | simp [anCount, c_84]), ht⟩) (fun _ h => by cases h) dX3_count_92
  have ht_0 := lv_neT (a := 0) h_0 rfl
  have ht_1 := lv_neT (a := 1) h_1 rfl
  have ht_2 := lv_neT (a := 2) h_2 rfl
  have ht_3 := lv_neT (a := 3) h_3 rfl
  have ht_4 := lv_neT (a := 4) h_4 rfl
  have ht_5 := lv_neT (a := 5) h_5 rfl
  have ht_6 := lv_neT (a := 6) h_6 rfl
  have ht_7 := lv_neT (a := 7) h_7 rfl
  have ht_8 := lv_neT (a := 8) h_8 rfl
  refine lv_tableOut (tgt := 93) hx hb dX3_count_1 (by omega) (by decide) ?_
  refine lv_iconst (v := (-1)) hx hb dX3_count_93 (by decide) ?_
  exact W.iret hx hb hr (fun t ht _ => ⟨_, rfl, (by first | rfl | simp [anCount, h_0, h_1, h_2, h_3, h_4, h_5, h_6, h_7, h_8]), ht⟩) (fun _ h => by cases h) dX3_count_94
abbrev rmX3_held : Room := ({ frames := 2, cells := 0, slots := 0, locals := 42 } : Room)
set_option maxHeartbeats 4000000 in
set_option maxRecDepth 100000 in
theorem c_X3_held {mm : Nat} {ad : Nat → Nat} {σ : RS} (hR : refAt cI cJ mm ad σ M) {cc : Nat} (hI : Inv σ cc) {s0 w : Int32} : Met l yX3_held wsX3_held rmX3_held (va_Pc [.ref mm, .int s0, .int w] (mwPre D (tyL cI cJ cC cH) M sz)) (vp_Si (fun r => r = anHeld σ s0 w)) 0 0 (fun _ => False) := by
  refine Met.ofW (cc := cX3_held) (maxL := 5) (ret := (some .int)) (by decide) rfl ?_
  intro pr env s m args below meth c s₁ B hml hv
  obtain ⟨rfl, hsz, hW, hK, hO⟩ := hv
  have hx := B.exec
  have hb := B.bytes
  have hr := B.returns
  have hts := atoms_spec (ws := wsX3_held) B.pre
  have hown : s.vm.findClass RX3 = some m.cls := findClass_of_methodNamed B.named
  have hlocks := B.notSynchronized
  have F : CallFix pr m c cX3_held 5 s ([.ref mm, .int s0, .int w] : List Value).toArray wsX3_held RX3 := ⟨hx, hb, hml, hown, hts⟩
  have hl := lv_entry ([.ref mm, .int s0, .int w]) (n := 5) (Nat.le_of_ble_eq_true rfl)
  rw [lg_entry_eq]
  generalize (lg_sl ([.ref mm, .int s0, .int w]) ++ List.replicate (5 - (lg_sl ([.ref mm, .int s0, .int w])).length) Slot.unset).toArray = ls at hl ⊢
  have hl : lv_has ls 5 [(0, .ref mm), (1, .int s0), (2, .int w)] := hl
  refine lv_iload_n hx hb dX3_held_0 rfl (lv_at hl 1 rfl) ?_
  refine vp_callSi (W.runS (As := [.int s0]) (rest := []) F (c_X3_isSpindle) (cwS 1 hts gX3_held_X3_isSpindle rfl rfl rfl (by decide +kernel) ⟨Nat.le_of_ble_eq_true rfl, Nat.le_of_ble_eq_true rfl⟩) (mw_prS hK hO hW) rfl rfl hl.1 rfl (lv_room (Nat.le_of_ble_eq_true rfl)) dX3_held_1 ⟨Nat.zero_le _, Nat.zero_le _⟩) (fun r_1 er_1 => ?_)
  subst er_1
  refine lv_if_ne (tgt := 10) hx hb dX3_held_4 (by decide) (fun c_4 => ?_) (fun c_4 => ?_)
  · obtain ⟨j, hj, rfl⟩ := isSp_of (bI_n c_4)
    have esp_j := isSp_nI hj
    have eix_j : ix (nI j) = j := nI_clamp (by omega)
    refine lv_iload_n hx hb dX3_held_10 rfl (lv_at hl 2 rfl) ?_
    refine lv_if_ne (tgt := 20) hx hb dX3_held_11 (by decide) (fun c_11 => ?_) (fun c_11 => ?_)
    · refine lv_iload_n hx hb dX3_held_20 rfl (lv_at hl 2 rfl) ?_
      refine lv_iconst (v := 1) hx hb dX3_held_21 (by decide) ?_
      refine lv_icmp_ne (tgt := 31) hx hb dX3_held_22 (by decide) (fun c_22 => ?_) (fun c_22 => ?_)
      · refine lv_iload_n hx hb dX3_held_31 rfl (lv_at hl 2 rfl) ?_
        refine lv_iconst (v := 2) hx hb dX3_held_32 (by decide) ?_
        refine lv_icmp_eq (tgt := 38) hx hb dX3_held_33 (by decide) (fun c_33 => ?_) (fun c_33 => ?_)
        · subst c_33
          refine lv_iconst (v := 0) hx hb dX3_held_38 (by decide) ?_
          refine lv_istore_n (lv' := [(3, .int 0), (0, .ref mm), (1, .int (nI j)), (2, .int 2)]) hx hb dX3_held_39 rfl hl (by decide) rfl (fun ls hl => ?_)
          refine lv_iconst (v := 0) hx hb dX3_held_40 (by decide) ?_
          refine lv_istore (lv' := [(4, .int 0), (3, .int 0), (0, .ref mm), (1, .int (nI j)), (2, .int 2)]) hx hb dX3_held_41 hl (by decide) rfl (fun ls hl => ?_)
          obtain ⟨n, hn, en⟩ : ∃ n, n ≤ 80 ∧ szOf σ j = nI n := by
            rcases hI.ho hj with h0 | ⟨k, hk, h0⟩ | ⟨k, hk, h0⟩
            · exact ⟨0, by omega, szOf_n (hasP_0 h0)⟩
            · exact ⟨0, by omega, szOf_n (hasP_lab hk h0)⟩
            · obtain ⟨n, hn, e⟩ := hI.sz hk
              exact ⟨n, hn, (szOf_row hk h0).trans e⟩
          have loop : ∀ (N : Nat) (i : Nat), n + 1 ≤ i + N → i ≤ n → ∀ (ls : Array Slot), lv_has ls 5 [(4, .int (nI i)), (3, .int (nI (cntF (fun i => !decide (pV σ j i = 0)) i))), (0, .ref mm), (1, .int (nI j)), (2, .int 2)] → W pr l env (headSpec wsX3_held rmX3_held).room s m ([.ref mm, .int (nI j), .int 2] : List Value).toArray below meth c s.heap [] 0 0 (MQ below (vp_Si (fun r => r = anHeld σ (nI j) 2)) ([.ref mm, .int (nI j), .int 2] : List Value).toArray s 0 0 (fun _ => False)) (F0 m 43 ls []) := by
            intro N
            induction N with
            | zero =>
              exact fun i h1 h2 => absurd h1 (by omega)
            | succ N ih =>
              intro i hN hi ls hl
              refine lv_iload hx hb dX3_held_43 (lv_at hl 0 rfl) ?_
              refine lv_aload_n hx hb dX3_held_45 rfl (lv_at hl 2 rfl) ?_
              refine lv_iload_n hx hb dX3_held_46 rfl (lv_at hl 3 rfl) ?_
              refine vp_callSi (W.runV (As := [.int (nI j)]) (rest := [.int (nI i)]) F (c_X3_sizeOf hR (show j < 10 by omega) (hI.ho hj)) (cwV 1 hts gX3_held_X3_sizeOf rfl rfl rfl (by decide +kernel) ⟨Nat.le_of_ble_eq_true rfl, Nat.le_of_ble_eq_true rfl⟩) (mw_prV (q := (RX3, TX3, 14)) hK hO hW rfl hR.1) rfl rfl hl.1 rfl (lv_room (Nat.le_of_ble_eq_true rfl)) dX3_held_47 ⟨Nat.zero_le _, Nat.zero_le _⟩) (fun r_2 er_2 => ?_)
              subst er_2
              rw [en]
              refine lv_icmp_ge (tgt := 79) hx hb dX3_held_50 (by decide) (fun c_50 => ?_) (fun c_50 => ?_)
              · refine lv_iload_n hx hb dX3_held_79 rfl (lv_at hl 1 rfl) ?_
                exact W.iret hx hb hr (fun t ht _ => ⟨_, rfl, (by
                  have e7 : i = n := by have := (nI_leI (by omega) (by omega)).mp c_50; omega
                  simp only [anHeld, esp_j, eix_j, cntH, en, nI_clamp (show n < 2 ^ 31 by omega), ix, e7]
                  rfl), ht⟩) (fun _ h => by cases h) dX3_held_80
              · have hin : i < n := by
                  rcases Nat.lt_or_ge i n with h9 | h9
                  · exact h9
                  · exact absurd (nI_le h9 (by omega)) c_50
                obtain ⟨k9, n9, i9, hk9, e9, -⟩ := hI.place hj (i := nI i) (by rw [en, inPl_nI (by omega) (by omega)]; exact decide_eq_true hin)
                refine lv_iload_n hx hb dX3_held_53 rfl (lv_at hl 1 rfl) ?_
                refine lv_aload_n hx hb dX3_held_54 rfl (lv_at hl 2 rfl) ?_
                refine lv_iload_n hx hb dX3_held_55 rfl (lv_at hl 3 rfl) ?_
                refine lv_iload hx hb dX3_held_56 (lv_at hl 0 rfl) ?_
                refine vp_callSl (W.runV (As := [.int (nI j), .int (nI i)]) (rest := [.int (nI (cntF (fun i => !decide (pV σ j i = 0)) i))]) F (c_X3_place (i := i) (k := k9) hR (show j < 10 by omega) hk9 (show i < 80 by omega) e9) (cwV 2 hts gX3_held_X3_place rfl rfl rfl (by decide +kernel) ⟨Nat.le_of_ble_eq_true rfl, Nat.le_of_ble_eq_true rfl⟩) (mw_prV (q := (RX3, TX3, 14)) hK hO hW rfl hR.1) rfl rfl hl.1 rfl (lv_room (Nat.le_of_ble_eq_true rfl)) dX3_held_58 ⟨Nat.zero_le _, Nat.zero_le _⟩) (fun r_3 er_3 => ?_)
                subst er_3
                refine lv_lconst (v := 0) hx hb dX3_held_61 (by decide) ?_
                refine W.lcmp hx hb dX3_held_62 ?_
                refine lv_if_ne (tgt := 70) hx hb dX3_held_63 (by decide) (fun c_63 => ?_) (fun c_63 => ?_)
                · refine lv_iconst (v := 1) hx hb dX3_held_70 (by decide) ?_
                  refine lv_iadd hx hb dX3_held_71 ?_
                  refine lv_istore_n (lv' := [(3, .int ((nI (cntF (fun i => !decide (pV σ j i = 0)) i)) + 1)), (4, .int (nI i)), (0, .ref mm), (1, .int (nI j)), (2, .int 2)]) hx hb dX3_held_72 rfl hl (by decide) rfl (fun ls hl => ?_)
                  refine lv_iinc (v := nI (i + 1)) (lv' := [(4, .int (nI (i + 1))), (3, .int ((nI (cntF (fun i => !decide (pV σ j i = 0)) i)) + 1)), (0, .ref mm), (1, .int (nI j)), (2, .int 2)]) hx hb dX3_held_73 hl (k := 1) rfl (nI_1 i) (by decide) rfl (fun ls hl => ?_)
                  refine lv_goto (tgt := 43) hx hb dX3_held_76 (by decide) ?_
                  have hc : (nI (cntF (fun i => !decide (pV σ j i = 0)) i)) + 1 = nI (cntF (fun i => !decide (pV σ j i = 0)) (i + 1)) := by
                    have e8 : pV σ j i = sPl σ (80 * k9 + i) := pV_row hk9 e9
                    simp only [cntF, e8]
                    first | (rw [decide_eq_true ((lg_cmp_eq _ _).mp c_63)]; simp; done) | (rw [decide_eq_false (fun z => c_63 ((lg_cmp_eq _ _).mpr z))]; exact nI_1 _)
                  rw [hc] at hl
                  exact ih (i + 1) (by omega) (by omega) ls (lv_sub hl [0, 1, 2, 3, 4] rfl)
                · refine lv_iconst (v := 0) hx hb dX3_held_66 (by decide) ?_
                  refine lv_goto (tgt := 71) hx hb dX3_held_67 (by decide) ?_
                  refine lv_iadd hx hb dX3_held_71 ?_
                  refine lv_istore_n (lv' := [(3, .int ((nI (cntF (fun i => !decide (pV σ j i = 0)) i)) + 0)), (4, .int (nI i)), (0, .ref mm), (1, .int (nI j)), (2, .int 2)]) hx hb dX3_held_72 rfl hl (by decide) rfl (fun ls hl => ?_)
                  refine lv_iinc (v := nI (i + 1)) (lv' := [(4, .int (nI (i + 1))), (3, .int ((nI (cntF (fun i => !decide (pV σ j i = 0)) i)) + 0)), (0, .ref mm), (1, .int (nI j)), (2, .int 2)]) hx hb dX3_held_73 hl (k := 1) rfl (nI_1 i) (by decide) rfl (fun ls hl => ?_)
                  refine lv_goto (tgt := 43) hx hb dX3_held_76 (by decide) ?_
                  have hc : (nI (cntF (fun i => !decide (pV σ j i = 0)) i)) + 0 = nI (cntF (fun i => !decide (pV σ j i = 0)) (i + 1)) := by
                    have e8 : pV σ j i = sPl σ (80 * k9 + i) := pV_row hk9 e9
                    simp only [cntF, e8]
                    first | (rw [decide_eq_true ((lg_cmp_eq _ _).mp c_63)]; simp; done) | (rw [decide_eq_false (fun z => c_63 ((lg_cmp_eq _ _).mpr z))]; exact nI_1 _)
                  rw [hc] at hl
                  exact ih (i + 1) (by omega) (by omega) ls (lv_sub hl [0, 1, 2, 3, 4] rfl)
          exact loop (n + 1) 0 (by omega) (Nat.zero_le _) ls (lv_sub hl [0, 1, 2, 3, 4] rfl)
        · refine lv_iconst (v := (-1)) hx hb dX3_held_36 (by decide) ?_
          exact W.iret hx hb hr (fun t ht _ => ⟨_, rfl, (by simp [anHeld, esp_j, eix_j, c_11, c_22, c_33]), ht⟩) (fun _ h => by cases h) dX3_held_37
      · refine lv_aload_n hx hb dX3_held_25 rfl (lv_at hl 0 rfl) ?_
        refine lv_iload_n hx hb dX3_held_26 rfl (lv_at hl 1 rfl) ?_
        refine vp_callSi (W.runV (As := [.int (nI j)]) (rest := []) F (c_X3_sizeOf hR (show j < 10 by omega) (hI.ho hj)) (cwV 1 hts gX3_held_X3_sizeOf rfl rfl rfl (by decide +kernel) ⟨Nat.le_of_ble_eq_true rfl, Nat.le_of_ble_eq_true rfl⟩) (mw_prV (q := (RX3, TX3, 14)) hK hO hW rfl hR.1) rfl rfl hl.1 rfl (lv_room (Nat.le_of_ble_eq_true rfl)) dX3_held_27 ⟨Nat.zero_le _, Nat.zero_le _⟩) (fun r_4 er_4 => ?_)
        subst er_4
        exact W.iret hx hb hr (fun t ht _ => ⟨_, rfl, (by simp [anHeld, esp_j, eix_j, c_11, c_22]), ht⟩) (fun _ h => by cases h) dX3_held_30
    · refine lv_aload_n hx hb dX3_held_14 rfl (lv_at hl 0 rfl) ?_
      refine lv_iload_n hx hb dX3_held_15 rfl (lv_at hl 1 rfl) ?_
      refine vp_callSi (W.runV (As := [.int (nI j)]) (rest := []) F (c_X3_kindOf hR (show j < 10 by omega) (hI.ho hj)) (cwV 1 hts gX3_held_X3_kindOf rfl rfl rfl (by decide +kernel) ⟨Nat.le_of_ble_eq_true rfl, Nat.le_of_ble_eq_true rfl⟩) (mw_prV (q := (RX3, TX3, 14)) hK hO hW rfl hR.1) rfl rfl hl.1 rfl (lv_room (Nat.le_of_ble_eq_true rfl)) dX3_held_16 ⟨Nat.zero_le _, Nat.zero_le _⟩) (fun r_5 er_5 => ?_)
      subst er_5
      exact W.iret hx hb hr (fun t ht _ => ⟨_, rfl, (by simp [anHeld, esp_j, eix_j, c_11]), ht⟩) (fun _ h => by cases h) dX3_held_19
  · have c_4 := bI_e c_4
    refine lv_bipush (v := (-9)) hx hb dX3_held_7 (by decide) ?_
    exact W.iret hx hb hr (fun t ht _ => ⟨_, rfl, (by simp [anHeld, c_4]), ht⟩) (fun _ h => by cases h) dX3_held_9
abbrev rmX3_sort : Room := ({ frames := 3, cells := 0, slots := 0, locals := 64 } : Room)
set_option maxHeartbeats 4000000 in
set_option maxRecDepth 100000 in
theorem c_X3_sort {mm : Nat} {ad : Nat → Nat} {σ : RS} (hR : refAt cI cJ mm ad σ M) {cc : Nat} (hI : Inv σ cc) {s0 i : Int32} : Met l yX3_sort wsX3_sort rmX3_sort (va_Pc [.ref mm, .int s0, .int i] (mwPre D (tyL cI cJ cC cH) M sz)) (vp_Si (fun r => r = anSort σ s0 i)) 0 0 (fun _ => False) := by
  refine Met.ofW (cc := cX3_sort) (maxL := 3) (ret := (some .int)) (by decide) rfl ?_
  intro pr env s m args below meth c s₁ B hml hv
  obtain ⟨rfl, hsz, hW, hK, hO⟩ := hv
  have hx := B.exec
  have hb := B.bytes
  have hr := B.returns
  have hts := atoms_spec (ws := wsX3_sort) B.pre
  have hown : s.vm.findClass RX3 = some m.cls := findClass_of_methodNamed B.named
  have hlocks := B.notSynchronized
  have F : CallFix pr m c cX3_sort 3 s ([.ref mm, .int s0, .int i] : List Value).toArray wsX3_sort RX3 := ⟨hx, hb, hml, hown, hts⟩
  have hl := lv_entry ([.ref mm, .int s0, .int i]) (n := 3) (Nat.le_of_ble_eq_true rfl)
  rw [lg_entry_eq]
  generalize (lg_sl ([.ref mm, .int s0, .int i]) ++ List.replicate (3 - (lg_sl ([.ref mm, .int s0, .int i])).length) Slot.unset).toArray = ls at hl ⊢
  have hl : lv_has ls 3 [(0, .ref mm), (1, .int s0), (2, .int i)] := hl
  refine lv_iload_n hx hb dX3_sort_0 rfl (lv_at hl 1 rfl) ?_
  refine vp_callSi (W.runS (As := [.int s0]) (rest := []) F (c_X3_isSpindle) (cwS 1 hts gX3_sort_X3_isSpindle rfl rfl rfl (by decide +kernel) ⟨Nat.le_of_ble_eq_true rfl, Nat.le_of_ble_eq_true rfl⟩) (mw_prS hK hO hW) rfl rfl hl.1 rfl (lv_room (Nat.le_of_ble_eq_true rfl)) dX3_sort_1 ⟨Nat.zero_le _, Nat.zero_le _⟩) (fun r_1 er_1 => ?_)
  subst er_1
  refine lv_if_ne (tgt := 10) hx hb dX3_sort_4 (by decide) (fun c_4 => ?_) (fun c_4 => ?_)
  · obtain ⟨j, hj, rfl⟩ := isSp_of (bI_n c_4)
    have esp_j := isSp_nI hj
    have eix_j : ix (nI j) = j := nI_clamp (by omega)
    refine lv_aload_n hx hb dX3_sort_10 rfl (lv_at hl 0 rfl) ?_
    refine lv_iload_n hx hb dX3_sort_11 rfl (lv_at hl 1 rfl) ?_
    refine lv_iload_n hx hb dX3_sort_12 rfl (lv_at hl 2 rfl) ?_
    refine vp_callSi (W.runV (As := [.int (nI j), .int i]) (rest := []) F (c_X3_isPlace (i := i) hR (show j < 10 by omega) (hI.ho hj)) (cwV 2 hts gX3_sort_X3_isPlace rfl rfl rfl (by decide +kernel) ⟨Nat.le_of_ble_eq_true rfl, Nat.le_of_ble_eq_true rfl⟩) (mw_prV (q := (RX3, TX3, 14)) hK hO hW rfl hR.1) rfl rfl hl.1 rfl (lv_room (Nat.le_of_ble_eq_true rfl)) dX3_sort_13 ⟨Nat.zero_le _, Nat.zero_le _⟩) (fun r_2 er_2 => ?_)
    subst er_2
    refine lv_if_ne (tgt := 21) hx hb dX3_sort_16 (by decide) (fun c_16 => ?_) (fun c_16 => ?_)
    · have c_16 := bI_n c_16
      obtain ⟨k9, n9, i9, hk9, e9, hn9, en9, hi9, rfl⟩ := hI.place hj c_16
      have eix_i : ix (nI i9) = i9 := nI_clamp (by omega)
      have epv : pV σ j i9 = sPl σ (80 * k9 + i9) := pV_row hk9 e9
      refine lv_aload_n hx hb dX3_sort_21 rfl (lv_at hl 0 rfl) ?_
      refine lv_iload_n hx hb dX3_sort_22 rfl (lv_at hl 1 rfl) ?_
      refine vp_callSi (W.runV (As := [.int (nI j)]) (rest := []) F (c_X3_isRack hR (show j < 10 by omega) (hI.ho hj)) (cwV 1 hts gX3_sort_X3_isRack rfl rfl rfl (by decide +kernel) ⟨Nat.le_of_ble_eq_true rfl, Nat.le_of_ble_eq_true rfl⟩) (mw_prV (q := (RX3, TX3, 14)) hK hO hW rfl hR.1) rfl rfl hl.1 rfl (lv_room (Nat.le_of_ble_eq_true rfl)) dX3_sort_23 ⟨Nat.zero_le _, Nat.zero_le _⟩) (fun r_3 er_3 => ?_)
      subst er_3
      refine lv_if_ne (tgt := 31) hx hb dX3_sort_26 (by decide) (fun c_26 => ?_) (fun c_26 => ?_)
      · have c_26 := bI_n c_26
        have hrk9 : kRack (sKi σ k9) = true := by rw [← hI.rk hj hk9 e9]; exact c_26
        have hv2 := hI.v2 hj hk9 e9 hrk9 hn9 en9 hi9
        refine lv_aload_n hx hb dX3_sort_31 rfl (lv_at hl 0 rfl) ?_
        refine lv_iload_n hx hb dX3_sort_32 rfl (lv_at hl 1 rfl) ?_
        refine lv_iload_n hx hb dX3_sort_33 rfl (lv_at hl 2 rfl) ?_
        refine vp_callSl (W.runV (As := [.int (nI j), .int (nI i9)]) (rest := []) F (c_X3_place (i := i9) (k := k9) hR (show j < 10 by omega) hk9 (show i9 < 80 by omega) e9) (cwV 2 hts gX3_sort_X3_place rfl rfl rfl (by decide +kernel) ⟨Nat.le_of_ble_eq_true rfl, Nat.le_of_ble_eq_true rfl⟩) (mw_prV (q := (RX3, TX3, 14)) hK hO hW rfl hR.1) rfl rfl hl.1 rfl (lv_room (Nat.le_of_ble_eq_true rfl)) dX3_sort_34 ⟨Nat.zero_le _, Nat.zero_le _⟩) (fun r_4 er_4 => ?_)
        subst er_4
        refine lv_lconst (v := 0) hx hb dX3_sort_37 (by decide) ?_
        refine W.lcmp hx hb dX3_sort_38 ?_
        refine lv_if_ne (tgt := 46) hx hb dX3_sort_39 (by decide) (fun c_39 => ?_) (fun c_39 => ?_)
        · have c_39 : ¬ (_ = _) := fun h9 => c_39 ((lg_cmp_eq _ _).mpr h9)
          refine lv_aload_n hx hb dX3_sort_46 rfl (lv_at hl 0 rfl) ?_
          refine lv_aload_n hx hb dX3_sort_47 rfl (lv_at hl 0 rfl) ?_
          refine lv_iload_n hx hb dX3_sort_48 rfl (lv_at hl 1 rfl) ?_
          refine lv_iload_n hx hb dX3_sort_49 rfl (lv_at hl 2 rfl) ?_
          refine vp_callSl (W.runV (As := [.int (nI j), .int (nI i9)]) (rest := [.ref mm]) F (c_X3_place (i := i9) (k := k9) hR (show j < 10 by omega) hk9 (show i9 < 80 by omega) e9) (cwV 2 hts gX3_sort_X3_place rfl rfl rfl (by decide +kernel) ⟨Nat.le_of_ble_eq_true rfl, Nat.le_of_ble_eq_true rfl⟩) (mw_prV (q := (RX3, TX3, 14)) hK hO hW rfl hR.1) rfl rfl hl.1 rfl (lv_room (Nat.le_of_ble_eq_true rfl)) dX3_sort_50 ⟨Nat.zero_le _, Nat.zero_le _⟩) (fun r_5 er_5 => ?_)
          subst er_5
          refine vp_callSi (W.runV (As := [.long (sPl σ (80 * k9 + i9))]) (rest := []) F (c_X3_isPlain (v := sPl σ (80 * k9 + i9)) hR hv2) (cwV 1 hts gX3_sort_X3_isPlain rfl rfl rfl (by decide +kernel) ⟨Nat.le_of_ble_eq_true rfl, Nat.le_of_ble_eq_true rfl⟩) (mw_prV (q := (RX3, TX3, 14)) hK hO hW rfl hR.1) rfl rfl hl.1 rfl (lv_room (Nat.le_of_ble_eq_true rfl)) dX3_sort_53 ⟨Nat.zero_le _, Nat.zero_le _⟩) (fun r_6 er_6 => ?_)
          subst er_6
          refine lv_if_eq (tgt := 63) hx hb dX3_sort_56 (by decide) (fun c_56 => ?_) (fun c_56 => ?_)
          · have c_56 := bI_e c_56
            refine lv_iconst (v := 3) hx hb dX3_sort_63 (by decide) ?_
            exact W.iret hx hb hr (fun t ht _ => ⟨_, rfl, (by simp [anSort, esp_j, eix_j, eix_i, epv, c_16, c_26, c_39, c_56]), ht⟩) (fun _ h => by cases h) dX3_sort_64
          · have c_56 := bI_n c_56
            refine lv_iconst (v := 2) hx hb dX3_sort_59 (by decide) ?_
            refine lv_goto (tgt := 64) hx hb dX3_sort_60 (by decide) ?_
            exact W.iret hx hb hr (fun t ht _ => ⟨_, rfl, (by simp [anSort, esp_j, eix_j, eix_i, epv, c_16, c_26, c_39, c_56]), ht⟩) (fun _ h => by cases h) dX3_sort_64
        · have c_39 := (lg_cmp_eq _ _).mp c_39
          refine lv_iconst (v := 0) hx hb dX3_sort_42 (by decide) ?_
          refine lv_goto (tgt := 64) hx hb dX3_sort_43 (by decide) ?_
          exact W.iret hx hb hr (fun t ht _ => ⟨_, rfl, (by simp [anSort, esp_j, eix_j, eix_i, epv, c_16, c_26, c_39]), ht⟩) (fun _ h => by cases h) dX3_sort_64
      · have c_26 := bI_e c_26
        refine lv_iconst (v := 1) hx hb dX3_sort_29 (by decide) ?_
        exact W.iret hx hb hr (fun t ht _ => ⟨_, rfl, (by simp [anSort, esp_j, eix_j, eix_i, epv, c_16, c_26]), ht⟩) (fun _ h => by cases h) dX3_sort_30
    · have c_16 := bI_e c_16
      refine lv_iconst (v := (-1)) hx hb dX3_sort_19 (by decide) ?_
      exact W.iret hx hb hr (fun t ht _ => ⟨_, rfl, (by simp [anSort, esp_j, eix_j, c_16]), ht⟩) (fun _ h => by cases h) dX3_sort_20
  · have c_4 := bI_e c_4
    refine lv_bipush (v := (-9)) hx hb dX3_sort_7 (by decide) ?_
    exact W.iret hx hb hr (fun t ht _ => ⟨_, rfl, (by simp [anSort, c_4]), ht⟩) (fun _ h => by cases h) dX3_sort_9
abbrev rmX3_number : Room := ({ frames := 3, cells := 0, slots := 0, locals := 64 } : Room)
set_option maxHeartbeats 4000000 in
set_option maxRecDepth 100000 in
theorem c_X3_number {mm : Nat} {ad : Nat → Nat} {σ : RS} (hR : refAt cI cJ mm ad σ M) {cc : Nat} (hI : Inv σ cc) {s0 i : Int32} : Met l yX3_number wsX3_number rmX3_number (va_Pc [.ref mm, .int s0, .int i] (mwPre D (tyL cI cJ cC cH) M sz)) (vp_Sl (fun r => r = anNumber σ s0 i)) 0 0 (fun _ => False) := by
  refine Met.ofW (cc := cX3_number) (maxL := 5) (ret := (some .long)) (by decide) rfl ?_
  intro pr env s m args below meth c s₁ B hml hv
  obtain ⟨rfl, hsz, hW, hK, hO⟩ := hv
  have hx := B.exec
  have hb := B.bytes
  have hr := B.returns
  have hts := atoms_spec (ws := wsX3_number) B.pre
  have hown : s.vm.findClass RX3 = some m.cls := findClass_of_methodNamed B.named
  have hlocks := B.notSynchronized
  have F : CallFix pr m c cX3_number 5 s ([.ref mm, .int s0, .int i] : List Value).toArray wsX3_number RX3 := ⟨hx, hb, hml, hown, hts⟩
  have hI_X3 : ∀ w ∈ wsX30, w ∈ wsX3_number := by decide +kernel
  have hl_fieldLink_RX3_29_SpliceBenchModel_cardNumber_J := hts (.fieldLink RX3 29 "SpliceBenchModel" "cardNumber" "[J") (by decide +kernel)
  have hl_fieldLink_RX3_13_SpliceBenchModel_labels_I := hts (.fieldLink RX3 13 "SpliceBenchModel" "labels" "[I") (by decide +kernel)
  have hl_fieldLink_RX3_7_SpliceBenchModel_holds_I := hts (.fieldLink RX3 7 "SpliceBenchModel" "holds" "[I") (by decide +kernel)
  have hl := lv_entry ([.ref mm, .int s0, .int i]) (n := 5) (Nat.le_of_ble_eq_true rfl)
  rw [lg_entry_eq]
  generalize (lg_sl ([.ref mm, .int s0, .int i]) ++ List.replicate (5 - (lg_sl ([.ref mm, .int s0, .int i])).length) Slot.unset).toArray = ls at hl ⊢
  have hl : lv_has ls 5 [(0, .ref mm), (1, .int s0), (2, .int i)] := hl
  refine lv_iload_n hx hb dX3_number_0 rfl (lv_at hl 1 rfl) ?_
  refine vp_callSi (W.runS (As := [.int s0]) (rest := []) F (c_X3_isSpindle) (cwS 1 hts gX3_number_X3_isSpindle rfl rfl rfl (by decide +kernel) ⟨Nat.le_of_ble_eq_true rfl, Nat.le_of_ble_eq_true rfl⟩) (mw_prS hK hO hW) rfl rfl hl.1 rfl (lv_room (Nat.le_of_ble_eq_true rfl)) dX3_number_1 ⟨Nat.zero_le _, Nat.zero_le _⟩) (fun r_1 er_1 => ?_)
  subst er_1
  refine lv_if_ne (tgt := 9) hx hb dX3_number_4 (by decide) (fun c_4 => ?_) (fun c_4 => ?_)
  · obtain ⟨j, hj, rfl⟩ := isSp_of (bI_n c_4)
    have esp_j := isSp_nI hj
    have eix_j : ix (nI j) = j := nI_clamp (by omega)
    refine lv_aload_n hx hb dX3_number_9 rfl (lv_at hl 0 rfl) ?_
    refine lv_iload_n hx hb dX3_number_10 rfl (lv_at hl 1 rfl) ?_
    refine vp_callSi (W.runV (As := [.int (nI j)]) (rest := []) F (c_X3_kindOf hR (show j < 10 by omega) (hI.ho hj)) (cwV 1 hts gX3_number_X3_kindOf rfl rfl rfl (by decide +kernel) ⟨Nat.le_of_ble_eq_true rfl, Nat.le_of_ble_eq_true rfl⟩) (mw_prV (q := (RX3, TX3, 14)) hK hO hW rfl hR.1) rfl rfl hl.1 rfl (lv_room (Nat.le_of_ble_eq_true rfl)) dX3_number_11 ⟨Nat.zero_le _, Nat.zero_le _⟩) (fun r_2 er_2 => ?_)
    subst er_2
    refine lv_iconst (v := 1) hx hb dX3_number_14 (by decide) ?_
    refine lv_icmp_ne (tgt := 33) hx hb dX3_number_15 (by decide) (fun c_15 => ?_) (fun c_15 => ?_)
    · refine lv_aload_n hx hb dX3_number_33 rfl (lv_at hl 0 rfl) ?_
      refine lv_iload_n hx hb dX3_number_34 rfl (lv_at hl 1 rfl) ?_
      refine lv_iload_n hx hb dX3_number_35 rfl (lv_at hl 2 rfl) ?_
      refine vp_callSi (W.runV (As := [.int (nI j), .int i]) (rest := []) F (c_X3_isPlace (i := i) hR (show j < 10 by omega) (hI.ho hj)) (cwV 2 hts gX3_number_X3_isPlace rfl rfl rfl (by decide +kernel) ⟨Nat.le_of_ble_eq_true rfl, Nat.le_of_ble_eq_true rfl⟩) (mw_prV (q := (RX3, TX3, 14)) hK hO hW rfl hR.1) rfl rfl hl.1 rfl (lv_room (Nat.le_of_ble_eq_true rfl)) dX3_number_36 ⟨Nat.zero_le _, Nat.zero_le _⟩) (fun r_3 er_3 => ?_)
      subst er_3
      refine lv_if_ne (tgt := 44) hx hb dX3_number_39 (by decide) (fun c_39 => ?_) (fun c_39 => ?_)
      · have c_39 := bI_n c_39
        obtain ⟨k9, n9, i9, hk9, e9, hn9, en9, hi9, rfl⟩ := hI.place hj c_39
        have eix_i : ix (nI i9) = i9 := nI_clamp (by omega)
        have epv : pV σ j i9 = sPl σ (80 * k9 + i9) := pV_row hk9 e9
        refine lv_aload_n hx hb dX3_number_44 rfl (lv_at hl 0 rfl) ?_
        refine lv_iload_n hx hb dX3_number_45 rfl (lv_at hl 1 rfl) ?_
        refine lv_iload_n hx hb dX3_number_46 rfl (lv_at hl 2 rfl) ?_
        refine vp_callSl (W.runV (As := [.int (nI j), .int (nI i9)]) (rest := []) F (c_X3_place (i := i9) (k := k9) hR (show j < 10 by omega) hk9 (show i9 < 80 by omega) e9) (cwV 2 hts gX3_number_X3_place rfl rfl rfl (by decide +kernel) ⟨Nat.le_of_ble_eq_true rfl, Nat.le_of_ble_eq_true rfl⟩) (mw_prV (q := (RX3, TX3, 14)) hK hO hW rfl hR.1) rfl rfl hl.1 rfl (lv_room (Nat.le_of_ble_eq_true rfl)) dX3_number_47 ⟨Nat.zero_le _, Nat.zero_le _⟩) (fun r_4 er_4 => ?_)
        subst er_4
        refine lv_lstore_n (lv' := [(3, .long (sPl σ (80 * k9 + i9))), (0, .ref mm), (1, .int (nI j)), (2, .int (nI i9))]) hx hb dX3_number_50 rfl hl (by decide) rfl (fun ls hl => ?_)
        refine lv_aload_n hx hb dX3_number_51 rfl (lv_at hl 1 rfl) ?_
        refine lv_iload_n hx hb dX3_number_52 rfl (lv_at hl 2 rfl) ?_
        refine vp_callSi (W.runV (As := [.int (nI j)]) (rest := []) F (c_X3_isRack hR (show j < 10 by omega) (hI.ho hj)) (cwV 1 hts gX3_number_X3_isRack rfl rfl rfl (by decide +kernel) ⟨Nat.le_of_ble_eq_true rfl, Nat.le_of_ble_eq_true rfl⟩) (mw_prV (q := (RX3, TX3, 14)) hK hO hW rfl hR.1) rfl rfl hl.1 rfl (lv_room (Nat.le_of_ble_eq_true rfl)) dX3_number_53 ⟨Nat.zero_le _, Nat.zero_le _⟩) (fun r_5 er_5 => ?_)
        subst er_5
        refine lv_if_ne (tgt := 63) hx hb dX3_number_56 (by decide) (fun c_56 => ?_) (fun c_56 => ?_)
        · have c_56 := bI_n c_56
          have hrk9 : kRack (sKi σ k9) = true := by rw [← hI.rk hj hk9 e9]; exact c_56
          have hv2 := hI.v2 hj hk9 e9 hrk9 hn9 en9 hi9
          refine lv_lload_n hx hb dX3_number_63 rfl (lv_at hl 0 rfl) ?_
          refine lv_lconst (v := 0) hx hb dX3_number_64 (by decide) ?_
          refine W.lcmp hx hb dX3_number_65 ?_
          refine lv_if_ne (tgt := 73) hx hb dX3_number_66 (by decide) (fun c_66 => ?_) (fun c_66 => ?_)
          · have c_66 : ¬ (_ = _) := fun h9 => c_66 ((lg_cmp_eq _ _).mpr h9)
            refine lv_aload_n hx hb dX3_number_73 rfl (lv_at hl 1 rfl) ?_
            refine mw_get (C := RX3) (T := TX3) (N := 14) F hK hW hI_X3 hR.1 rfl 6 (by decide) hl_fieldLink_RX3_29_SpliceBenchModel_cardNumber_J rfl dX3_number_74 ?_
            refine lv_lload_n hx hb dX3_number_77 rfl (lv_at hl 0 rfl) ?_
            refine lv_l2i hx hb dX3_number_78 rfl ?_
            refine lv_iconst (v := 1) hx hb dX3_number_79 (by decide) ?_
            refine lv_isub hx hb dX3_number_80 ?_
            obtain ⟨c9, hc9, e8⟩ := hv2.resolve_left c_66
            rw [show (sPl σ (80 * k9 + i9)).toInt32 - 1 = nI c9 by rw [e8, lN_i, nI_pred]]
            refine mw_lald F hK hW 1 hR.2.2.2.2.2.2.2.1 rfl (vp_in_nI (show c9 < 2000 by omega) (by omega)) dX3_number_81 ?_
            rw [nI_clamp (show c9 < 2 ^ 31 by omega)]
            exact W.lret hx hb hr (fun t ht _ => ⟨_, rfl, (by simp only [anNumber, esp_j, eix_j, if_neg c_15, c_39, eix_i, epv, c_56, if_neg c_66, if_true]; rw [e8, cIx_lN hc9]), ht⟩) (fun _ h => by cases h) dX3_number_82
          · have c_66 := (lg_cmp_eq _ _).mp c_66
            refine lv_lconst (v := 0) hx hb dX3_number_69 (by decide) ?_
            refine lv_goto (tgt := 82) hx hb dX3_number_70 (by decide) ?_
            exact W.lret hx hb hr (fun t ht _ => ⟨_, rfl, (by simp [anNumber, esp_j, eix_j, eix_i, epv, c_15, c_39, c_56, c_66]), ht⟩) (fun _ h => by cases h) dX3_number_82
        · have c_56 := bI_e c_56
          refine lv_lload_n hx hb dX3_number_59 rfl (lv_at hl 0 rfl) ?_
          refine lv_goto (tgt := 82) hx hb dX3_number_60 (by decide) ?_
          exact W.lret hx hb hr (fun t ht _ => ⟨_, rfl, (by simp [anNumber, esp_j, eix_j, eix_i, epv, c_15, c_39, c_56]), ht⟩) (fun _ h => by cases h) dX3_number_82
      · have c_39 := bI_e c_39
        refine lv_lconst (v := 0) hx hb dX3_number_42 (by decide) ?_
        exact W.lret hx hb hr (fun t ht _ => ⟨_, rfl, (by simp [anNumber, esp_j, eix_j, c_15, c_39]), ht⟩) (fun _ h => by cases h) dX3_number_43
    · refine lv_aload_n hx hb dX3_number_18 rfl (lv_at hl 0 rfl) ?_
      refine mw_get (C := RX3) (T := TX3) (N := 14) F hK hW hI_X3 hR.1 rfl 1 (by decide) hl_fieldLink_RX3_13_SpliceBenchModel_labels_I rfl dX3_number_19 ?_
      refine lv_iconst (v := (-1)) hx hb dX3_number_22 (by decide) ?_
      refine lv_aload_n hx hb dX3_number_23 rfl (lv_at hl 0 rfl) ?_
      refine mw_get (C := RX3) (T := TX3) (N := 14) F hK hW hI_X3 hR.1 rfl 0 (by decide) hl_fieldLink_RX3_7_SpliceBenchModel_holds_I rfl dX3_number_24 ?_
      refine lv_iload_n hx hb dX3_number_27 rfl (lv_at hl 1 rfl) ?_
      refine mw_iald F hK hW 0 hR.2.1 rfl (vp_in_nI (show j < 10 by omega) (by omega)) dX3_number_28 ?_
      rw [nI_clamp (show j < 2 ^ 31 by omega)]
      refine lv_isub hx hb dX3_number_29 ?_
      obtain ⟨k9, hk9, e9⟩ : ∃ k, k < 10 ∧ sHo σ j = -1 - nI k := by
        rcases hI.ho hj with h0 | h0 | ⟨k, hk, h0⟩
        · rw [kOf_0 h0] at c_15; exact absurd c_15 (by decide)
        · exact h0
        · exfalso
          rw [kOf_row hk h0] at c_15
          rcases hI.kd hk (Inv.live hj h0) with h1 | h1 <;> (rw [c_15] at h1; exact absurd h1 (by decide))
      have e7 : -1 - sHo σ j = nI k9 := by rw [e9, lab_ix k9 hk9]
      rw [e7]
      refine mw_iald F hK hW 0 hR.2.2.1 rfl (vp_in_nI (show k9 < 10 by omega) (by omega)) dX3_number_30 ?_
      rw [nI_clamp (show k9 < 2 ^ 31 by omega)]
      refine lv_i2l hx hb dX3_number_31 rfl ?_
      exact W.lret hx hb hr (fun t ht _ => ⟨_, rfl, (by simp [anNumber, esp_j, eix_j, c_15, e7, nI_clamp (show k9 < 2 ^ 31 by omega)]), ht⟩) (fun _ h => by cases h) dX3_number_32
  · have c_4 := bI_e c_4
    refine lv_lconst (v := 0) hx hb dX3_number_7 (by decide) ?_
    exact W.lret hx hb hr (fun t ht _ => ⟨_, rfl, (by simp [anNumber, c_4]), ht⟩) (fun _ h => by cases h) dX3_number_8
abbrev rmX3_shown : Room := ({ frames := 3, cells := 0, slots := 0, locals := 64 } : Room)
set_option maxHeartbeats 4000000 in
set_option maxRecDepth 100000 in
theorem c_X3_shown {mm : Nat} {ad : Nat → Nat} {σ : RS} (hR : refAt cI cJ mm ad σ M) {cc : Nat} (hI : Inv σ cc) {s0 i : Int32} : Met l yX3_shown wsX3_shown rmX3_shown (va_Pc [.ref mm, .int s0, .int i] (mwPre D (tyL cI cJ cC cH) M sz)) (vp_Si (fun r => r = anShown σ s0 i)) 0 0 (fun _ => False) := by
  refine Met.ofW (cc := cX3_shown) (maxL := 3) (ret := (some .int)) (by decide) rfl ?_
  intro pr env s m args below meth c s₁ B hml hv
  obtain ⟨rfl, hsz, hW, hK, hO⟩ := hv
  have hx := B.exec
  have hb := B.bytes
  have hr := B.returns
  have hts := atoms_spec (ws := wsX3_shown) B.pre
  have hown : s.vm.findClass RX3 = some m.cls := findClass_of_methodNamed B.named
  have hlocks := B.notSynchronized
  have F : CallFix pr m c cX3_shown 3 s ([.ref mm, .int s0, .int i] : List Value).toArray wsX3_shown RX3 := ⟨hx, hb, hml, hown, hts⟩
  have hI_X3 : ∀ w ∈ wsX30, w ∈ wsX3_shown := by decide +kernel
  have hl_fieldLink_RX3_32_SpliceBenchModel_cardShown_I := hts (.fieldLink RX3 32 "SpliceBenchModel" "cardShown" "[I") (by decide +kernel)
  have hl := lv_entry ([.ref mm, .int s0, .int i]) (n := 3) (Nat.le_of_ble_eq_true rfl)
  rw [lg_entry_eq]
  generalize (lg_sl ([.ref mm, .int s0, .int i]) ++ List.replicate (3 - (lg_sl ([.ref mm, .int s0, .int i])).length) Slot.unset).toArray = ls at hl ⊢
  have hl : lv_has ls 3 [(0, .ref mm), (1, .int s0), (2, .int i)] := hl
  refine lv_iload_n hx hb dX3_shown_0 rfl (lv_at hl 1 rfl) ?_
  refine vp_callSi (W.runS (As := [.int s0]) (rest := []) F (c_X3_isSpindle) (cwS 1 hts gX3_shown_X3_isSpindle rfl rfl rfl (by decide +kernel) ⟨Nat.le_of_ble_eq_true rfl, Nat.le_of_ble_eq_true rfl⟩) (mw_prS hK hO hW) rfl rfl hl.1 rfl (lv_room (Nat.le_of_ble_eq_true rfl)) dX3_shown_1 ⟨Nat.zero_le _, Nat.zero_le _⟩) (fun r_1 er_1 => ?_)
  subst er_1
  refine lv_if_ne (tgt := 10) hx hb dX3_shown_4 (by decide) (fun c_4 => ?_) (fun c_4 => ?_)
  · obtain ⟨j, hj, rfl⟩ := isSp_of (bI_n c_4)
    have esp_j := isSp_nI hj
    have eix_j : ix (nI j) = j := nI_clamp (by omega)
    refine lv_aload_n hx hb dX3_shown_10 rfl (lv_at hl 0 rfl) ?_
    refine lv_iload_n hx hb dX3_shown_11 rfl (lv_at hl 1 rfl) ?_
    refine vp_callSi (W.runV (As := [.int (nI j)]) (rest := []) F (c_X3_isRack hR (show j < 10 by omega) (hI.ho hj)) (cwV 1 hts gX3_shown_X3_isRack rfl rfl rfl (by decide +kernel) ⟨Nat.le_of_ble_eq_true rfl, Nat.le_of_ble_eq_true rfl⟩) (mw_prV (q := (RX3, TX3, 14)) hK hO hW rfl hR.1) rfl rfl hl.1 rfl (lv_room (Nat.le_of_ble_eq_true rfl)) dX3_shown_12 ⟨Nat.zero_le _, Nat.zero_le _⟩) (fun r_2 er_2 => ?_)
    subst er_2
    refine lv_if_eq (tgt := 55) hx hb dX3_shown_15 (by decide) (fun c_15 => ?_) (fun c_15 => ?_)
    · have c_15 := bI_e c_15
      refine lv_iconst (v := (-1)) hx hb dX3_shown_55 (by decide) ?_
      exact W.iret hx hb hr (fun t ht _ => ⟨_, rfl, (by simp [anShown, esp_j, eix_j, c_15]), ht⟩) (fun _ h => by cases h) dX3_shown_56
    · have c_15 := bI_n c_15
      refine lv_aload_n hx hb dX3_shown_18 rfl (lv_at hl 0 rfl) ?_
      refine lv_iload_n hx hb dX3_shown_19 rfl (lv_at hl 1 rfl) ?_
      refine lv_iload_n hx hb dX3_shown_20 rfl (lv_at hl 2 rfl) ?_
      refine vp_callSi (W.runV (As := [.int (nI j), .int i]) (rest := []) F (c_X3_isPlace (i := i) hR (show j < 10 by omega) (hI.ho hj)) (cwV 2 hts gX3_shown_X3_isPlace rfl rfl rfl (by decide +kernel) ⟨Nat.le_of_ble_eq_true rfl, Nat.le_of_ble_eq_true rfl⟩) (mw_prV (q := (RX3, TX3, 14)) hK hO hW rfl hR.1) rfl rfl hl.1 rfl (lv_room (Nat.le_of_ble_eq_true rfl)) dX3_shown_21 ⟨Nat.zero_le _, Nat.zero_le _⟩) (fun r_3 er_3 => ?_)
      subst er_3
      refine lv_if_eq (tgt := 55) hx hb dX3_shown_24 (by decide) (fun c_24 => ?_) (fun c_24 => ?_)
      · have c_24 := bI_e c_24
        refine lv_iconst (v := (-1)) hx hb dX3_shown_55 (by decide) ?_
        exact W.iret hx hb hr (fun t ht _ => ⟨_, rfl, (by simp [anShown, esp_j, eix_j, c_15, c_24]), ht⟩) (fun _ h => by cases h) dX3_shown_56
      · have c_24 := bI_n c_24
        obtain ⟨k9, n9, i9, hk9, e9, hn9, en9, hi9, rfl⟩ := hI.place hj c_24
        have eix_i : ix (nI i9) = i9 := nI_clamp (by omega)
        have epv : pV σ j i9 = sPl σ (80 * k9 + i9) := pV_row hk9 e9
        have hrk9 : kRack (sKi σ k9) = true := by rw [← hI.rk hj hk9 e9]; exact c_15
        have hv2 := hI.v2 hj hk9 e9 hrk9 hn9 en9 hi9
        refine lv_aload_n hx hb dX3_shown_27 rfl (lv_at hl 0 rfl) ?_
        refine lv_iload_n hx hb dX3_shown_28 rfl (lv_at hl 1 rfl) ?_
        refine lv_iload_n hx hb dX3_shown_29 rfl (lv_at hl 2 rfl) ?_
        refine vp_callSl (W.runV (As := [.int (nI j), .int (nI i9)]) (rest := []) F (c_X3_place (i := i9) (k := k9) hR (show j < 10 by omega) hk9 (show i9 < 80 by omega) e9) (cwV 2 hts gX3_shown_X3_place rfl rfl rfl (by decide +kernel) ⟨Nat.le_of_ble_eq_true rfl, Nat.le_of_ble_eq_true rfl⟩) (mw_prV (q := (RX3, TX3, 14)) hK hO hW rfl hR.1) rfl rfl hl.1 rfl (lv_room (Nat.le_of_ble_eq_true rfl)) dX3_shown_30 ⟨Nat.zero_le _, Nat.zero_le _⟩) (fun r_4 er_4 => ?_)
        subst er_4
        refine lv_lconst (v := 0) hx hb dX3_shown_33 (by decide) ?_
        refine W.lcmp hx hb dX3_shown_34 ?_
        refine lv_if_eq (tgt := 55) hx hb dX3_shown_35 (by decide) (fun c_35 => ?_) (fun c_35 => ?_)
        · have c_35 := (lg_cmp_eq _ _).mp c_35
          refine lv_iconst (v := (-1)) hx hb dX3_shown_55 (by decide) ?_
          exact W.iret hx hb hr (fun t ht _ => ⟨_, rfl, (by simp [anShown, esp_j, eix_j, eix_i, epv, c_15, c_24, c_35]), ht⟩) (fun _ h => by cases h) dX3_shown_56
        · have c_35 : ¬ (_ = _) := fun h9 => c_35 ((lg_cmp_eq _ _).mpr h9)
          refine lv_aload_n hx hb dX3_shown_38 rfl (lv_at hl 0 rfl) ?_
          refine mw_get (C := RX3) (T := TX3) (N := 14) F hK hW hI_X3 hR.1 rfl 7 (by decide) hl_fieldLink_RX3_32_SpliceBenchModel_cardShown_I rfl dX3_shown_39 ?_
          refine lv_aload_n hx hb dX3_shown_42 rfl (lv_at hl 0 rfl) ?_
          refine lv_iload_n hx hb dX3_shown_43 rfl (lv_at hl 1 rfl) ?_
          refine lv_iload_n hx hb dX3_shown_44 rfl (lv_at hl 2 rfl) ?_
          refine vp_callSl (W.runV (As := [.int (nI j), .int (nI i9)]) (rest := [.ref (ad 7)]) F (c_X3_place (i := i9) (k := k9) hR (show j < 10 by omega) hk9 (show i9 < 80 by omega) e9) (cwV 2 hts gX3_shown_X3_place rfl rfl rfl (by decide +kernel) ⟨Nat.le_of_ble_eq_true rfl, Nat.le_of_ble_eq_true rfl⟩) (mw_prV (q := (RX3, TX3, 14)) hK hO hW rfl hR.1) rfl rfl hl.1 rfl (lv_room (Nat.le_of_ble_eq_true rfl)) dX3_shown_45 ⟨Nat.zero_le _, Nat.zero_le _⟩) (fun r_5 er_5 => ?_)
          subst er_5
          refine lv_l2i hx hb dX3_shown_48 rfl ?_
          refine lv_iconst (v := 1) hx hb dX3_shown_49 (by decide) ?_
          refine lv_isub hx hb dX3_shown_50 ?_
          obtain ⟨c9, hc9, e8⟩ := hv2.resolve_left c_35
          rw [show (sPl σ (80 * k9 + i9)).toInt32 - 1 = nI c9 by rw [e8, lN_i, nI_pred]]
          refine mw_iald F hK hW 0 hR.2.2.2.2.2.2.2.2.1 rfl (vp_in_nI (show c9 < 2000 by omega) (by omega)) dX3_shown_51 ?_
          rw [nI_clamp (show c9 < 2 ^ 31 by omega)]
          refine lv_goto (tgt := 56) hx hb dX3_shown_52 (by decide) ?_
          exact W.iret hx hb hr (fun t ht _ => ⟨_, rfl, (by simp only [anShown, esp_j, eix_j, c_15, c_24, eix_i, epv, not_false_eq_true, c_35, and_self, if_true]; rw [e8, cIx_lN hc9]), ht⟩) (fun _ h => by cases h) dX3_shown_56
  · have c_4 := bI_e c_4
    refine lv_bipush (v := (-9)) hx hb dX3_shown_7 (by decide) ?_
    exact W.iret hx hb hr (fun t ht _ => ⟨_, rfl, (by simp [anShown, c_4]), ht⟩) (fun _ h => by cases h) dX3_shown_9
abbrev rmX3_same : Room := ({ frames := 3, cells := 0, slots := 0, locals := 64 } : Room)
set_option maxHeartbeats 4000000 in
set_option maxRecDepth 100000 in
theorem c_X3_same {mm : Nat} {ad : Nat → Nat} {σ : RS} (hR : refAt cI cJ mm ad σ M) {cc : Nat} (hI : Inv σ cc) {s0 i t0 i2 : Int32} : Met l yX3_same wsX3_same rmX3_same (va_Pc [.ref mm, .int s0, .int i, .int t0, .int i2] (mwPre D (tyL cI cJ cC cH) M sz)) (vp_Si (fun r => r = anSame σ s0 i t0 i2)) 0 0 (fun _ => False) := by
  refine Met.ofW (cc := cX3_same) (maxL := 5) (ret := (some .int)) (by decide) rfl ?_
  intro pr env s m args below meth c s₁ B hml hv
  obtain ⟨rfl, hsz, hW, hK, hO⟩ := hv
  have hx := B.exec
  have hb := B.bytes
  have hr := B.returns
  have hts := atoms_spec (ws := wsX3_same) B.pre
  have hown : s.vm.findClass RX3 = some m.cls := findClass_of_methodNamed B.named
  have hlocks := B.notSynchronized
  have F : CallFix pr m c cX3_same 5 s ([.ref mm, .int s0, .int i, .int t0, .int i2] : List Value).toArray wsX3_same RX3 := ⟨hx, hb, hml, hown, hts⟩
  have hI_X3 : ∀ w ∈ wsX30, w ∈ wsX3_same := by decide +kernel
  have hl_fieldLink_RX3_7_SpliceBenchModel_holds_I := hts (.fieldLink RX3 7 "SpliceBenchModel" "holds" "[I") (by decide +kernel)
  have hl := lv_entry ([.ref mm, .int s0, .int i, .int t0, .int i2]) (n := 5) (Nat.le_of_ble_eq_true rfl)
  rw [lg_entry_eq]
  generalize (lg_sl ([.ref mm, .int s0, .int i, .int t0, .int i2]) ++ List.replicate (5 - (lg_sl ([.ref mm, .int s0, .int i, .int t0, .int i2])).length) Slot.unset).toArray = ls at hl ⊢
  have hl : lv_has ls 5 [(0, .ref mm), (1, .int s0), (2, .int i), (3, .int t0), (4, .int i2)] := hl
  refine lv_iload_n hx hb dX3_same_0 rfl (lv_at hl 1 rfl) ?_
  refine vp_callSi (W.runS (As := [.int s0]) (rest := []) F (c_X3_isSpindle) (cwS 1 hts gX3_same_X3_isSpindle rfl rfl rfl (by decide +kernel) ⟨Nat.le_of_ble_eq_true rfl, Nat.le_of_ble_eq_true rfl⟩) (mw_prS hK hO hW) rfl rfl hl.1 rfl (lv_room (Nat.le_of_ble_eq_true rfl)) dX3_same_1 ⟨Nat.zero_le _, Nat.zero_le _⟩) (fun r_1 er_1 => ?_)
  subst er_1
  refine lv_if_eq (tgt := 14) hx hb dX3_same_4 (by decide) (fun c_4 => ?_) (fun c_4 => ?_)
  · have c_4 := bI_e c_4
    refine lv_bipush (v := (-9)) hx hb dX3_same_14 (by decide) ?_
    exact W.iret hx hb hr (fun t ht _ => ⟨_, rfl, (by simp [anSame, c_4]), ht⟩) (fun _ h => by cases h) dX3_same_16
  · obtain ⟨j, hj, rfl⟩ := isSp_of (bI_n c_4)
    have esp_j := isSp_nI hj
    have eix_j : ix (nI j) = j := nI_clamp (by omega)
    refine lv_iload_n hx hb dX3_same_7 rfl (lv_at hl 3 rfl) ?_
    refine vp_callSi (W.runS (As := [.int t0]) (rest := []) F (c_X3_isSpindle) (cwS 1 hts gX3_same_X3_isSpindle rfl rfl rfl (by decide +kernel) ⟨Nat.le_of_ble_eq_true rfl, Nat.le_of_ble_eq_true rfl⟩) (mw_prS hK hO hW) rfl rfl hl.1 rfl (lv_room (Nat.le_of_ble_eq_true rfl)) dX3_same_8 ⟨Nat.zero_le _, Nat.zero_le _⟩) (fun r_2 er_2 => ?_)
    subst er_2
    refine lv_if_ne (tgt := 17) hx hb dX3_same_11 (by decide) (fun c_11 => ?_) (fun c_11 => ?_)
    · obtain ⟨j2, hj2, rfl⟩ := isSp_of (bI_n c_11)
      have esp_j2 := isSp_nI hj2
      have eix_j2 : ix (nI j2) = j2 := nI_clamp (by omega)
      refine lv_iload_n hx hb dX3_same_17 rfl (lv_at hl 2 rfl) ?_
      refine lv_if_ge (tgt := 56) hx hb dX3_same_18 (by decide) (fun c_18 => ?_) (fun c_18 => ?_)
      · have c_18 := Int32.not_lt.mpr c_18
        refine lv_aload_n hx hb dX3_same_56 rfl (lv_at hl 0 rfl) ?_
        refine lv_iload_n hx hb dX3_same_57 rfl (lv_at hl 1 rfl) ?_
        refine vp_callSi (W.runV (As := [.int (nI j)]) (rest := []) F (c_X3_isRack hR (show j < 10 by omega) (hI.ho hj)) (cwV 1 hts gX3_same_X3_isRack rfl rfl rfl (by decide +kernel) ⟨Nat.le_of_ble_eq_true rfl, Nat.le_of_ble_eq_true rfl⟩) (mw_prV (q := (RX3, TX3, 14)) hK hO hW rfl hR.1) rfl rfl hl.1 rfl (lv_room (Nat.le_of_ble_eq_true rfl)) dX3_same_58 ⟨Nat.zero_le _, Nat.zero_le _⟩) (fun r_3 er_3 => ?_)
        subst er_3
        refine lv_if_eq (tgt := 91) hx hb dX3_same_61 (by decide) (fun c_61 => ?_) (fun c_61 => ?_)
        · have c_61 := bI_e c_61
          refine lv_iconst (v := 0) hx hb dX3_same_91 (by decide) ?_
          exact W.iret hx hb hr (fun t ht _ => ⟨_, rfl, (by simp [anSame, esp_j, esp_j2, eix_j, eix_j2, c_18, c_61]), ht⟩) (fun _ h => by cases h) dX3_same_92
        · have c_61 := bI_n c_61
          refine lv_aload_n hx hb dX3_same_64 rfl (lv_at hl 0 rfl) ?_
          refine lv_iload_n hx hb dX3_same_65 rfl (lv_at hl 3 rfl) ?_
          refine vp_callSi (W.runV (As := [.int (nI j2)]) (rest := []) F (c_X3_isRack hR (show j2 < 10 by omega) (hI.ho hj2)) (cwV 1 hts gX3_same_X3_isRack rfl rfl rfl (by decide +kernel) ⟨Nat.le_of_ble_eq_true rfl, Nat.le_of_ble_eq_true rfl⟩) (mw_prV (q := (RX3, TX3, 14)) hK hO hW rfl hR.1) rfl rfl hl.1 rfl (lv_room (Nat.le_of_ble_eq_true rfl)) dX3_same_66 ⟨Nat.zero_le _, Nat.zero_le _⟩) (fun r_4 er_4 => ?_)
          subst er_4
          refine lv_if_eq (tgt := 91) hx hb dX3_same_69 (by decide) (fun c_69 => ?_) (fun c_69 => ?_)
          · have c_69 := bI_e c_69
            refine lv_iconst (v := 0) hx hb dX3_same_91 (by decide) ?_
            exact W.iret hx hb hr (fun t ht _ => ⟨_, rfl, (by simp [anSame, esp_j, esp_j2, eix_j, eix_j2, c_18, c_61, c_69]), ht⟩) (fun _ h => by cases h) dX3_same_92
          · have c_69 := bI_n c_69
            refine lv_aload_n hx hb dX3_same_72 rfl (lv_at hl 0 rfl) ?_
            refine lv_iload_n hx hb dX3_same_73 rfl (lv_at hl 1 rfl) ?_
            refine lv_iload_n hx hb dX3_same_74 rfl (lv_at hl 2 rfl) ?_
            refine vp_callSi (W.runV (As := [.int (nI j), .int i]) (rest := []) F (c_X3_isPlace (i := i) hR (show j < 10 by omega) (hI.ho hj)) (cwV 2 hts gX3_same_X3_isPlace rfl rfl rfl (by decide +kernel) ⟨Nat.le_of_ble_eq_true rfl, Nat.le_of_ble_eq_true rfl⟩) (mw_prV (q := (RX3, TX3, 14)) hK hO hW rfl hR.1) rfl rfl hl.1 rfl (lv_room (Nat.le_of_ble_eq_true rfl)) dX3_same_75 ⟨Nat.zero_le _, Nat.zero_le _⟩) (fun r_5 er_5 => ?_)
            subst er_5
            refine lv_if_eq (tgt := 91) hx hb dX3_same_78 (by decide) (fun c_78 => ?_) (fun c_78 => ?_)
            · have c_78 := bI_e c_78
              refine lv_iconst (v := 0) hx hb dX3_same_91 (by decide) ?_
              exact W.iret hx hb hr (fun t ht _ => ⟨_, rfl, (by simp [anSame, esp_j, esp_j2, eix_j, eix_j2, c_18, c_61, c_69, c_78]), ht⟩) (fun _ h => by cases h) dX3_same_92
            · have c_78 := bI_n c_78
              obtain ⟨k9, n9, i9, hk9, e9, hn9, en9, hi9, rfl⟩ := hI.place hj c_78
              have eix_i : ix (nI i9) = i9 := nI_clamp (by omega)
              have epv : pV σ j i9 = sPl σ (80 * k9 + i9) := pV_row hk9 e9
              refine lv_aload_n hx hb dX3_same_81 rfl (lv_at hl 0 rfl) ?_
              refine lv_iload_n hx hb dX3_same_82 rfl (lv_at hl 3 rfl) ?_
              refine lv_iload hx hb dX3_same_83 (lv_at hl 4 rfl) ?_
              refine vp_callSi (W.runV (As := [.int (nI j2), .int i2]) (rest := []) F (c_X3_isPlace (i := i2) hR (show j2 < 10 by omega) (hI.ho hj2)) (cwV 2 hts gX3_same_X3_isPlace rfl rfl rfl (by decide +kernel) ⟨Nat.le_of_ble_eq_true rfl, Nat.le_of_ble_eq_true rfl⟩) (mw_prV (q := (RX3, TX3, 14)) hK hO hW rfl hR.1) rfl rfl hl.1 rfl (lv_room (Nat.le_of_ble_eq_true rfl)) dX3_same_85 ⟨Nat.zero_le _, Nat.zero_le _⟩) (fun r_6 er_6 => ?_)
              subst er_6
              refine lv_if_ne (tgt := 93) hx hb dX3_same_88 (by decide) (fun c_88 => ?_) (fun c_88 => ?_)
              · have c_88 := bI_n c_88
                obtain ⟨k8, n8, i8, hk8, e8, hn8, en8, hi8, rfl⟩ := hI.place hj2 c_88
                have eix_i2 : ix (nI i8) = i8 := nI_clamp (by omega)
                have epv2 : pV σ j2 i8 = sPl σ (80 * k8 + i8) := pV_row hk8 e8
                refine lv_aload_n hx hb dX3_same_93 rfl (lv_at hl 0 rfl) ?_
                refine lv_iload_n hx hb dX3_same_94 rfl (lv_at hl 1 rfl) ?_
                refine lv_iload_n hx hb dX3_same_95 rfl (lv_at hl 2 rfl) ?_
                refine vp_callSl (W.runV (As := [.int (nI j), .int (nI i9)]) (rest := []) F (c_X3_place (i := i9) (k := k9) hR (show j < 10 by omega) hk9 (show i9 < 80 by omega) e9) (cwV 2 hts gX3_same_X3_place rfl rfl rfl (by decide +kernel) ⟨Nat.le_of_ble_eq_true rfl, Nat.le_of_ble_eq_true rfl⟩) (mw_prV (q := (RX3, TX3, 14)) hK hO hW rfl hR.1) rfl rfl hl.1 rfl (lv_room (Nat.le_of_ble_eq_true rfl)) dX3_same_96 ⟨Nat.zero_le _, Nat.zero_le _⟩) (fun r_7 er_7 => ?_)
                subst er_7
                refine lv_lconst (v := 0) hx hb dX3_same_99 (by decide) ?_
                refine W.lcmp hx hb dX3_same_100 ?_
                refine lv_if_eq (tgt := 125) hx hb dX3_same_101 (by decide) (fun c_101 => ?_) (fun c_101 => ?_)
                · have c_101 := (lg_cmp_eq _ _).mp c_101
                  refine lv_iconst (v := 0) hx hb dX3_same_125 (by decide) ?_
                  exact W.iret hx hb hr (fun t ht _ => ⟨_, rfl, (by simp [anSame, esp_j, esp_j2, eix_j, eix_j2, eix_i, epv, eix_i2, epv2, c_18, c_61, c_69, c_78, c_88, c_101]), ht⟩) (fun _ h => by cases h) dX3_same_126
                · have c_101 : ¬ (_ = _) := fun h9 => c_101 ((lg_cmp_eq _ _).mpr h9)
                  refine lv_aload_n hx hb dX3_same_104 rfl (lv_at hl 0 rfl) ?_
                  refine lv_iload_n hx hb dX3_same_105 rfl (lv_at hl 1 rfl) ?_
                  refine lv_iload_n hx hb dX3_same_106 rfl (lv_at hl 2 rfl) ?_
                  refine vp_callSl (W.runV (As := [.int (nI j), .int (nI i9)]) (rest := []) F (c_X3_place (i := i9) (k := k9) hR (show j < 10 by omega) hk9 (show i9 < 80 by omega) e9) (cwV 2 hts gX3_same_X3_place rfl rfl rfl (by decide +kernel) ⟨Nat.le_of_ble_eq_true rfl, Nat.le_of_ble_eq_true rfl⟩) (mw_prV (q := (RX3, TX3, 14)) hK hO hW rfl hR.1) rfl rfl hl.1 rfl (lv_room (Nat.le_of_ble_eq_true rfl)) dX3_same_107 ⟨Nat.zero_le _, Nat.zero_le _⟩) (fun r_8 er_8 => ?_)
                  subst er_8
                  refine lv_aload_n hx hb dX3_same_110 rfl (lv_at hl 0 rfl) ?_
                  refine lv_iload_n hx hb dX3_same_111 rfl (lv_at hl 3 rfl) ?_
                  refine lv_iload hx hb dX3_same_112 (lv_at hl 4 rfl) ?_
                  refine vp_callSl (W.runV (As := [.int (nI j2), .int (nI i8)]) (rest := [.long (sPl σ (80 * k9 + i9))]) F (c_X3_place (i := i8) (k := k8) hR (show j2 < 10 by omega) hk8 (show i8 < 80 by omega) e8) (cwV 2 hts gX3_same_X3_place rfl rfl rfl (by decide +kernel) ⟨Nat.le_of_ble_eq_true rfl, Nat.le_of_ble_eq_true rfl⟩) (mw_prV (q := (RX3, TX3, 14)) hK hO hW rfl hR.1) rfl rfl hl.1 rfl (lv_room (Nat.le_of_ble_eq_true rfl)) dX3_same_114 ⟨Nat.zero_le _, Nat.zero_le _⟩) (fun r_9 er_9 => ?_)
                  subst er_9
                  refine W.lcmp hx hb dX3_same_117 ?_
                  refine lv_if_ne (tgt := 125) hx hb dX3_same_118 (by decide) (fun c_118 => ?_) (fun c_118 => ?_)
                  · have c_118 : ¬ (_ = _) := fun h9 => c_118 ((lg_cmp_eq _ _).mpr h9)
                    refine lv_iconst (v := 0) hx hb dX3_same_125 (by decide) ?_
                    exact W.iret hx hb hr (fun t ht _ => ⟨_, rfl, (by simp [anSame, esp_j, esp_j2, eix_j, eix_j2, eix_i, epv, eix_i2, epv2, c_18, c_61, c_69, c_78, c_88, c_101, c_118]), ht⟩) (fun _ h => by cases h) dX3_same_126
                  · have c_118 := (lg_cmp_eq _ _).mp c_118
                    refine lv_iconst (v := 1) hx hb dX3_same_121 (by decide) ?_
                    refine lv_goto (tgt := 126) hx hb dX3_same_122 (by decide) ?_
                    exact W.iret hx hb hr (fun t ht _ => ⟨_, rfl, (by simp [anSame, esp_j, esp_j2, eix_j, eix_j2, eix_i, epv, eix_i2, epv2, c_18, c_61, c_69, c_78, c_88, c_101, c_118]; exact fun z => c_101 (c_118.trans z)), ht⟩) (fun _ h => by cases h) dX3_same_126
              · have c_88 := bI_e c_88
                refine lv_iconst (v := 0) hx hb dX3_same_91 (by decide) ?_
                exact W.iret hx hb hr (fun t ht _ => ⟨_, rfl, (by simp [anSame, esp_j, esp_j2, eix_j, eix_j2, eix_i, epv, c_18, c_61, c_69, c_78, c_88]), ht⟩) (fun _ h => by cases h) dX3_same_92
      · have c_18 := Int32.not_le.mp c_18
        refine lv_iload hx hb dX3_same_21 (lv_at hl 4 rfl) ?_
        refine lv_if_ge (tgt := 56) hx hb dX3_same_23 (by decide) (fun c_23 => ?_) (fun c_23 => ?_)
        · have c_23 := Int32.not_lt.mpr c_23
          refine lv_aload_n hx hb dX3_same_56 rfl (lv_at hl 0 rfl) ?_
          refine lv_iload_n hx hb dX3_same_57 rfl (lv_at hl 1 rfl) ?_
          refine vp_callSi (W.runV (As := [.int (nI j)]) (rest := []) F (c_X3_isRack hR (show j < 10 by omega) (hI.ho hj)) (cwV 1 hts gX3_same_X3_isRack rfl rfl rfl (by decide +kernel) ⟨Nat.le_of_ble_eq_true rfl, Nat.le_of_ble_eq_true rfl⟩) (mw_prV (q := (RX3, TX3, 14)) hK hO hW rfl hR.1) rfl rfl hl.1 rfl (lv_room (Nat.le_of_ble_eq_true rfl)) dX3_same_58 ⟨Nat.zero_le _, Nat.zero_le _⟩) (fun r_10 er_10 => ?_)
          subst er_10
          refine lv_if_eq (tgt := 91) hx hb dX3_same_61 (by decide) (fun c_61 => ?_) (fun c_61 => ?_)
          · have c_61 := bI_e c_61
            refine lv_iconst (v := 0) hx hb dX3_same_91 (by decide) ?_
            exact W.iret hx hb hr (fun t ht _ => ⟨_, rfl, (by simp [anSame, esp_j, esp_j2, eix_j, eix_j2, c_18, c_23, c_61]), ht⟩) (fun _ h => by cases h) dX3_same_92
          · have c_61 := bI_n c_61
            refine lv_aload_n hx hb dX3_same_64 rfl (lv_at hl 0 rfl) ?_
            refine lv_iload_n hx hb dX3_same_65 rfl (lv_at hl 3 rfl) ?_
            refine vp_callSi (W.runV (As := [.int (nI j2)]) (rest := []) F (c_X3_isRack hR (show j2 < 10 by omega) (hI.ho hj2)) (cwV 1 hts gX3_same_X3_isRack rfl rfl rfl (by decide +kernel) ⟨Nat.le_of_ble_eq_true rfl, Nat.le_of_ble_eq_true rfl⟩) (mw_prV (q := (RX3, TX3, 14)) hK hO hW rfl hR.1) rfl rfl hl.1 rfl (lv_room (Nat.le_of_ble_eq_true rfl)) dX3_same_66 ⟨Nat.zero_le _, Nat.zero_le _⟩) (fun r_11 er_11 => ?_)
            subst er_11
            refine lv_if_eq (tgt := 91) hx hb dX3_same_69 (by decide) (fun c_69 => ?_) (fun c_69 => ?_)
            · have c_69 := bI_e c_69
              refine lv_iconst (v := 0) hx hb dX3_same_91 (by decide) ?_
              exact W.iret hx hb hr (fun t ht _ => ⟨_, rfl, (by simp [anSame, esp_j, esp_j2, eix_j, eix_j2, c_18, c_23, c_61, c_69]), ht⟩) (fun _ h => by cases h) dX3_same_92
            · have c_69 := bI_n c_69
              refine lv_aload_n hx hb dX3_same_72 rfl (lv_at hl 0 rfl) ?_
              refine lv_iload_n hx hb dX3_same_73 rfl (lv_at hl 1 rfl) ?_
              refine lv_iload_n hx hb dX3_same_74 rfl (lv_at hl 2 rfl) ?_
              refine vp_callSi (W.runV (As := [.int (nI j), .int i]) (rest := []) F (c_X3_isPlace (i := i) hR (show j < 10 by omega) (hI.ho hj)) (cwV 2 hts gX3_same_X3_isPlace rfl rfl rfl (by decide +kernel) ⟨Nat.le_of_ble_eq_true rfl, Nat.le_of_ble_eq_true rfl⟩) (mw_prV (q := (RX3, TX3, 14)) hK hO hW rfl hR.1) rfl rfl hl.1 rfl (lv_room (Nat.le_of_ble_eq_true rfl)) dX3_same_75 ⟨Nat.zero_le _, Nat.zero_le _⟩) (fun r_12 er_12 => ?_)
              subst er_12
              refine lv_if_eq (tgt := 91) hx hb dX3_same_78 (by decide) (fun c_78 => ?_) (fun c_78 => ?_)
              · have c_78 := bI_e c_78
                refine lv_iconst (v := 0) hx hb dX3_same_91 (by decide) ?_
                exact W.iret hx hb hr (fun t ht _ => ⟨_, rfl, (by simp [anSame, esp_j, esp_j2, eix_j, eix_j2, c_18, c_23, c_61, c_69, c_78]), ht⟩) (fun _ h => by cases h) dX3_same_92
              · have c_78 := bI_n c_78
                obtain ⟨k9, n9, i9, hk9, e9, hn9, en9, hi9, rfl⟩ := hI.place hj c_78
                have eix_i : ix (nI i9) = i9 := nI_clamp (by omega)
                have epv : pV σ j i9 = sPl σ (80 * k9 + i9) := pV_row hk9 e9
                refine lv_aload_n hx hb dX3_same_81 rfl (lv_at hl 0 rfl) ?_
                refine lv_iload_n hx hb dX3_same_82 rfl (lv_at hl 3 rfl) ?_
                refine lv_iload hx hb dX3_same_83 (lv_at hl 4 rfl) ?_
                refine vp_callSi (W.runV (As := [.int (nI j2), .int i2]) (rest := []) F (c_X3_isPlace (i := i2) hR (show j2 < 10 by omega) (hI.ho hj2)) (cwV 2 hts gX3_same_X3_isPlace rfl rfl rfl (by decide +kernel) ⟨Nat.le_of_ble_eq_true rfl, Nat.le_of_ble_eq_true rfl⟩) (mw_prV (q := (RX3, TX3, 14)) hK hO hW rfl hR.1) rfl rfl hl.1 rfl (lv_room (Nat.le_of_ble_eq_true rfl)) dX3_same_85 ⟨Nat.zero_le _, Nat.zero_le _⟩) (fun r_13 er_13 => ?_)
                subst er_13
                refine lv_if_ne (tgt := 93) hx hb dX3_same_88 (by decide) (fun c_88 => ?_) (fun c_88 => ?_)
                · have c_88 := bI_n c_88
                  obtain ⟨k8, n8, i8, hk8, e8, hn8, en8, hi8, rfl⟩ := hI.place hj2 c_88
                  have eix_i2 : ix (nI i8) = i8 := nI_clamp (by omega)
                  have epv2 : pV σ j2 i8 = sPl σ (80 * k8 + i8) := pV_row hk8 e8
                  refine lv_aload_n hx hb dX3_same_93 rfl (lv_at hl 0 rfl) ?_
                  refine lv_iload_n hx hb dX3_same_94 rfl (lv_at hl 1 rfl) ?_
                  refine lv_iload_n hx hb dX3_same_95 rfl (lv_at hl 2 rfl) ?_
                  refine vp_callSl (W.runV (As := [.int (nI j), .int (nI i9)]) (rest := []) F (c_X3_place (i := i9) (k := k9) hR (show j < 10 by omega) hk9 (show i9 < 80 by omega) e9) (cwV 2 hts gX3_same_X3_place rfl rfl rfl (by decide +kernel) ⟨Nat.le_of_ble_eq_true rfl, Nat.le_of_ble_eq_true rfl⟩) (mw_prV (q := (RX3, TX3, 14)) hK hO hW rfl hR.1) rfl rfl hl.1 rfl (lv_room (Nat.le_of_ble_eq_true rfl)) dX3_same_96 ⟨Nat.zero_le _, Nat.zero_le _⟩) (fun r_14 er_14 => ?_)
                  subst er_14
                  refine lv_lconst (v := 0) hx hb dX3_same_99 (by decide) ?_
                  refine W.lcmp hx hb dX3_same_100 ?_
                  refine lv_if_eq (tgt := 125) hx hb dX3_same_101 (by decide) (fun c_101 => ?_) (fun c_101 => ?_)
                  · have c_101 := (lg_cmp_eq _ _).mp c_101
                    refine lv_iconst (v := 0) hx hb dX3_same_125 (by decide) ?_
                    exact W.iret hx hb hr (fun t ht _ => ⟨_, rfl, (by simp [anSame, esp_j, esp_j2, eix_j, eix_j2, eix_i, epv, eix_i2, epv2, c_18, c_23, c_61, c_69, c_78, c_88, c_101]), ht⟩) (fun _ h => by cases h) dX3_same_126
                  · have c_101 : ¬ (_ = _) := fun h9 => c_101 ((lg_cmp_eq _ _).mpr h9)
                    refine lv_aload_n hx hb dX3_same_104 rfl (lv_at hl 0 rfl) ?_
                    refine lv_iload_n hx hb dX3_same_105 rfl (lv_at hl 1 rfl) ?_
                    refine lv_iload_n hx hb dX3_same_106 rfl (lv_at hl 2 rfl) ?_
                    refine vp_callSl (W.runV (As := [.int (nI j), .int (nI i9)]) (rest := []) F (c_X3_place (i := i9) (k := k9) hR (show j < 10 by omega) hk9 (show i9 < 80 by omega) e9) (cwV 2 hts gX3_same_X3_place rfl rfl rfl (by decide +kernel) ⟨Nat.le_of_ble_eq_true rfl, Nat.le_of_ble_eq_true rfl⟩) (mw_prV (q := (RX3, TX3, 14)) hK hO hW rfl hR.1) rfl rfl hl.1 rfl (lv_room (Nat.le_of_ble_eq_true rfl)) dX3_same_107 ⟨Nat.zero_le _, Nat.zero_le _⟩) (fun r_15 er_15 => ?_)
                    subst er_15
                    refine lv_aload_n hx hb dX3_same_110 rfl (lv_at hl 0 rfl) ?_
                    refine lv_iload_n hx hb dX3_same_111 rfl (lv_at hl 3 rfl) ?_
                    refine lv_iload hx hb dX3_same_112 (lv_at hl 4 rfl) ?_
                    refine vp_callSl (W.runV (As := [.int (nI j2), .int (nI i8)]) (rest := [.long (sPl σ (80 * k9 + i9))]) F (c_X3_place (i := i8) (k := k8) hR (show j2 < 10 by omega) hk8 (show i8 < 80 by omega) e8) (cwV 2 hts gX3_same_X3_place rfl rfl rfl (by decide +kernel) ⟨Nat.le_of_ble_eq_true rfl, Nat.le_of_ble_eq_true rfl⟩) (mw_prV (q := (RX3, TX3, 14)) hK hO hW rfl hR.1) rfl rfl hl.1 rfl (lv_room (Nat.le_of_ble_eq_true rfl)) dX3_same_114 ⟨Nat.zero_le _, Nat.zero_le _⟩) (fun r_16 er_16 => ?_)
                    subst er_16
                    refine W.lcmp hx hb dX3_same_117 ?_
                    refine lv_if_ne (tgt := 125) hx hb dX3_same_118 (by decide) (fun c_118 => ?_) (fun c_118 => ?_)
                    · have c_118 : ¬ (_ = _) := fun h9 => c_118 ((lg_cmp_eq _ _).mpr h9)
                      refine lv_iconst (v := 0) hx hb dX3_same_125 (by decide) ?_
                      exact W.iret hx hb hr (fun t ht _ => ⟨_, rfl, (by simp [anSame, esp_j, esp_j2, eix_j, eix_j2, eix_i, epv, eix_i2, epv2, c_18, c_23, c_61, c_69, c_78, c_88, c_101, c_118]), ht⟩) (fun _ h => by cases h) dX3_same_126
                    · have c_118 := (lg_cmp_eq _ _).mp c_118
                      refine lv_iconst (v := 1) hx hb dX3_same_121 (by decide) ?_
                      refine lv_goto (tgt := 126) hx hb dX3_same_122 (by decide) ?_
                      exact W.iret hx hb hr (fun t ht _ => ⟨_, rfl, (by simp [anSame, esp_j, esp_j2, eix_j, eix_j2, eix_i, epv, eix_i2, epv2, c_18, c_23, c_61, c_69, c_78, c_88, c_101, c_118]; exact fun z => c_101 (c_118.trans z)), ht⟩) (fun _ h => by cases h) dX3_same_126
                · have c_88 := bI_e c_88
                  refine lv_iconst (v := 0) hx hb dX3_same_91 (by decide) ?_
                  exact W.iret hx hb hr (fun t ht _ => ⟨_, rfl, (by simp [anSame, esp_j, esp_j2, eix_j, eix_j2, eix_i, epv, c_18, c_23, c_61, c_69, c_78, c_88]), ht⟩) (fun _ h => by cases h) dX3_same_92
        · have c_23 := Int32.not_le.mp c_23
          refine lv_aload_n hx hb dX3_same_26 rfl (lv_at hl 0 rfl) ?_
          refine mw_get (C := RX3) (T := TX3) (N := 14) F hK hW hI_X3 hR.1 rfl 0 (by decide) hl_fieldLink_RX3_7_SpliceBenchModel_holds_I rfl dX3_same_27 ?_
          refine lv_iload_n hx hb dX3_same_30 rfl (lv_at hl 1 rfl) ?_
          refine mw_iald F hK hW 0 hR.2.1 rfl (vp_in_nI (show j < 10 by omega) (by omega)) dX3_same_31 ?_
          rw [nI_clamp (show j < 2 ^ 31 by omega)]
          refine lv_if_eq (tgt := 54) hx hb dX3_same_32 (by decide) (fun c_32 => ?_) (fun c_32 => ?_)
          · refine lv_iconst (v := 0) hx hb dX3_same_54 (by decide) ?_
            exact W.iret hx hb hr (fun t ht _ => ⟨_, rfl, (by simp [anSame, esp_j, esp_j2, eix_j, eix_j2, c_18, c_23, c_32]), ht⟩) (fun _ h => by cases h) dX3_same_55
          · refine lv_aload_n hx hb dX3_same_35 rfl (lv_at hl 0 rfl) ?_
            refine mw_get (C := RX3) (T := TX3) (N := 14) F hK hW hI_X3 hR.1 rfl 0 (by decide) hl_fieldLink_RX3_7_SpliceBenchModel_holds_I rfl dX3_same_36 ?_
            refine lv_iload_n hx hb dX3_same_39 rfl (lv_at hl 1 rfl) ?_
            refine mw_iald F hK hW 0 hR.2.1 rfl (vp_in_nI (show j < 10 by omega) (by omega)) dX3_same_40 ?_
            rw [nI_clamp (show j < 2 ^ 31 by omega)]
            refine lv_aload_n hx hb dX3_same_41 rfl (lv_at hl 0 rfl) ?_
            refine mw_get (C := RX3) (T := TX3) (N := 14) F hK hW hI_X3 hR.1 rfl 0 (by decide) hl_fieldLink_RX3_7_SpliceBenchModel_holds_I rfl dX3_same_42 ?_
            refine lv_iload_n hx hb dX3_same_45 rfl (lv_at hl 3 rfl) ?_
            refine mw_iald F hK hW 0 hR.2.1 rfl (vp_in_nI (show j2 < 10 by omega) (by omega)) dX3_same_46 ?_
            rw [nI_clamp (show j2 < 2 ^ 31 by omega)]
            refine lv_icmp_ne (tgt := 54) hx hb dX3_same_47 (by decide) (fun c_47 => ?_) (fun c_47 => ?_)
            · refine lv_iconst (v := 0) hx hb dX3_same_54 (by decide) ?_
              exact W.iret hx hb hr (fun t ht _ => ⟨_, rfl, (by simp [anSame, esp_j, esp_j2, eix_j, eix_j2, c_18, c_23, c_32, c_47]), ht⟩) (fun _ h => by cases h) dX3_same_55
            · refine lv_iconst (v := 1) hx hb dX3_same_50 (by decide) ?_
              refine lv_goto (tgt := 55) hx hb dX3_same_51 (by decide) ?_
              exact W.iret hx hb hr (fun t ht _ => ⟨_, rfl, (by simp [anSame, esp_j, esp_j2, eix_j, eix_j2, c_18, c_23, c_32, c_47]; exact fun z => c_32 (c_47.trans z)), ht⟩) (fun _ h => by cases h) dX3_same_55
    · have c_11 := bI_e c_11
      refine lv_bipush (v := (-9)) hx hb dX3_same_14 (by decide) ?_
      exact W.iret hx hb hr (fun t ht _ => ⟨_, rfl, (by simp [anSame, esp_j, c_11]), ht⟩) (fun _ h => by cases h) dX3_same_16
end X3A
