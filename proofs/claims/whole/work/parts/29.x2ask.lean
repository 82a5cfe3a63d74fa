section X2A
variable {l : Launch} {D : va_G} {cI cJ cC cH : ClassId} {M : Nat → Option va_E} {sz : Nat}
theorem nI_nm1 : ∀ k, k < 12 → ¬ nI k = -1 := by decide +kernel
abbrev rmX2_count : Room := ({ frames := 0, cells := 0, slots := 0, locals := 0 } : Room)
set_option maxHeartbeats 4000000 in
set_option maxRecDepth 100000 in
theorem c_X2_count {x : Nat} {θ : TH} {σ : RS} {cc : Nat} (hZ : Sim cI cJ cC cH x θ σ M) (hI : Inv σ cc) {w : Int32} : Met l yX2_count wsX2_count rmX2_count (va_Pc [.ref x, .int w] (mwPre D (tyL cI cJ cC cH) M sz)) (vp_Si (fun r => r = anCount σ w)) 0 0 (fun _ => False) := by
  refine Met.ofW (cc := cX2_count) (maxL := 2) (ret := (some .int)) (by decide) rfl ?_
  intro pr env s m args below meth c s₁ B hml hv
  obtain ⟨rfl, hsz, hW, hK, hO⟩ := hv
  have hx := B.exec
  have hb := B.bytes
  have hr := B.returns
  have hts := atoms_spec (ws := wsX2_count) B.pre
  have hown : s.vm.findClass RX2 = some m.cls := findClass_of_methodNamed B.named
  have hlocks := B.notSynchronized
  have F : CallFix pr m c cX2_count 2 s ([.ref x, .int w] : List Value).toArray wsX2_count RX2 := ⟨hx, hb, hml, hown, hts⟩
  have hI_X2 : ∀ w ∈ wsX20, w ∈ wsX2_count := by decide +kernel
  have hl_fieldLink_RX2_19_SpliceBench_come_I := hts (.fieldLink RX2 19 "SpliceBench" "come" "I") (by decide +kernel)
  have hl_fieldLink_RX2_15_SpliceBench_endings_I := hts (.fieldLink RX2 15 "SpliceBench" "endings" "[I") (by decide +kernel)
  have hl_fieldLink_RX2_23_SpliceBench_made_I := hts (.fieldLink RX2 23 "SpliceBench" "made" "I") (by decide +kernel)
  have hl_fieldLink_RX2_26_SpliceBench_cardsPut_I := hts (.fieldLink RX2 26 "SpliceBench" "cardsPut" "I") (by decide +kernel)
  have hl_fieldLink_RX2_29_SpliceBench_covered_LSpliceBench_Holding := hts (.fieldLink RX2 29 "SpliceBench" "covered" "LSpliceBench$Holding;") (by decide +kernel)
  have hl := lv_entry ([.ref x, .int w]) (n := 2) (Nat.le_of_ble_eq_true rfl)
  rw [lg_entry_eq]
  generalize (lg_sl ([.ref x, .int w]) ++ List.replicate (2 - (lg_sl ([.ref x, .int w])).length) Slot.unset).toArray = ls at hl ⊢
  have hl : lv_has ls 2 [(0, .ref x), (1, .int w)] := hl
  refine lv_iload_n hx hb dX2_count_0 rfl (lv_at hl 1 rfl) ?_
  by_cases h_0 : w = 0
  · subst h_0
    refine lv_tableIn (off := 51) (tgt := 52) hx hb dX2_count_1 (by decide) (by decide) rfl (by decide) ?_
    refine lv_aload_n hx hb dX2_count_52 rfl (lv_at hl 0 rfl) ?_
    refine mw_get (C := RX2) (T := TX2) (N := 8) F hK hW hI_X2 hZ.b.1 rfl 2 (by decide) hl_fieldLink_RX2_19_SpliceBench_come_I rfl dX2_count_53 ?_
    exact W.iret hx hb hr (fun t ht _ => ⟨_, rfl, (by first | rfl | simp [anCount]), ht⟩) (fun _ h => by cases h) dX2_count_56
  by_cases h_1 : w = 1
  · subst h_1
    refine lv_tableIn (off := 56) (tgt := 57) hx hb dX2_count_1 (by decide) (by decide) rfl (by decide) ?_
    refine lv_aload_n hx hb dX2_count_57 rfl (lv_at hl 0 rfl) ?_
    refine mw_get (C := RX2) (T := TX2) (N := 8) F hK hW hI_X2 hZ.b.1 rfl 1 (by decide) hl_fieldLink_RX2_15_SpliceBench_endings_I rfl dX2_count_58 ?_
    refine lv_iconst (v := 1) hx hb dX2_count_61 (by decide) ?_
    refine mw_iald F hK hW 0 hZ.b.2.2.1 rfl (show vp_in (nI 1) 5 from vp_in_nI (by decide) (by decide)) dX2_count_62 ?_
    exact W.iret hx hb hr (fun t ht _ => ⟨_, rfl, (hZ.b.2.2.2.2.1 1 (by decide) (by decide)), ht⟩) (fun _ h => by cases h) dX2_count_63
  by_cases h_2 : w = 2
  · subst h_2
    refine lv_tableIn (off := 63) (tgt := 64) hx hb dX2_count_1 (by decide) (by decide) rfl (by decide) ?_
    refine lv_aload_n hx hb dX2_count_64 rfl (lv_at hl 0 rfl) ?_
    refine mw_get (C := RX2) (T := TX2) (N := 8) F hK hW hI_X2 hZ.b.1 rfl 1 (by decide) hl_fieldLink_RX2_15_SpliceBench_endings_I rfl dX2_count_65 ?_
    refine lv_iconst (v := 2) hx hb dX2_count_68 (by decide) ?_
    refine mw_iald F hK hW 0 hZ.b.2.2.1 rfl (show vp_in (nI 2) 5 from vp_in_nI (by decide) (by decide)) dX2_count_69 ?_
    exact W.iret hx hb hr (fun t ht _ => ⟨_, rfl, (hZ.b.2.2.2.2.1 2 (by decide) (by decide)), ht⟩) (fun _ h => by cases h) dX2_count_70
  by_cases h_3 : w = 3
  · subst h_3
    refine lv_tableIn (off := 70) (tgt := 71) hx hb dX2_count_1 (by decide) (by decide) rfl (by decide) ?_
    refine lv_aload_n hx hb dX2_count_71 rfl (lv_at hl 0 rfl) ?_
    refine mw_get (C := RX2) (T := TX2) (N := 8) F hK hW hI_X2 hZ.b.1 rfl 1 (by decide) hl_fieldLink_RX2_15_SpliceBench_endings_I rfl dX2_count_72 ?_
    refine lv_iconst (v := 3) hx hb dX2_count_75 (by decide) ?_
    refine mw_iald F hK hW 0 hZ.b.2.2.1 rfl (show vp_in (nI 3) 5 from vp_in_nI (by decide) (by decide)) dX2_count_76 ?_
    exact W.iret hx hb hr (fun t ht _ => ⟨_, rfl, (hZ.b.2.2.2.2.1 3 (by decide) (by decide)), ht⟩) (fun _ h => by cases h) dX2_count_77
  by_cases h_4 : w = 4
  · subst h_4
    refine lv_tableIn (off := 77) (tgt := 78) hx hb dX2_count_1 (by decide) (by decide) rfl (by decide) ?_
    refine lv_aload_n hx hb dX2_count_78 rfl (lv_at hl 0 rfl) ?_
    refine mw_get (C := RX2) (T := TX2) (N := 8) F hK hW hI_X2 hZ.b.1 rfl 1 (by decide) hl_fieldLink_RX2_15_SpliceBench_endings_I rfl dX2_count_79 ?_
    refine lv_iconst (v := 4) hx hb dX2_count_82 (by decide) ?_
    refine mw_iald F hK hW 0 hZ.b.2.2.1 rfl (show vp_in (nI 4) 5 from vp_in_nI (by decide) (by decide)) dX2_count_83 ?_
    exact W.iret hx hb hr (fun t ht _ => ⟨_, rfl, (hZ.b.2.2.2.2.1 4 (by decide) (by decide)), ht⟩) (fun _ h => by cases h) dX2_count_84
  by_cases h_5 : w = 5
  · subst h_5
    refine lv_tableIn (off := 84) (tgt := 85) hx hb dX2_count_1 (by decide) (by decide) rfl (by decide) ?_
    refine lv_aload_n hx hb dX2_count_85 rfl (lv_at hl 0 rfl) ?_
    refine mw_get (C := RX2) (T := TX2) (N := 8) F hK hW hI_X2 hZ.b.1 rfl 1 (by decide) hl_fieldLink_RX2_15_SpliceBench_endings_I rfl dX2_count_86 ?_
    refine lv_iconst (v := 0) hx hb dX2_count_89 (by decide) ?_
    refine mw_iald F hK hW 0 hZ.b.2.2.1 rfl (show vp_in (nI 0) 5 from vp_in_nI (by decide) (by decide)) dX2_count_90 ?_
    exact W.iret hx hb hr (fun t ht _ => ⟨_, rfl, hZ.b.2.2.2.1, ht⟩) (fun _ h => by cases h) dX2_count_91
  by_cases h_6 : w = 6
  · subst h_6
    refine lv_tableIn (off := 91) (tgt := 92) hx hb dX2_count_1 (by decide) (by decide) rfl (by decide) ?_
    refine lv_aload_n hx hb dX2_count_92 rfl (lv_at hl 0 rfl) ?_
    refine mw_get (C := RX2) (T := TX2) (N := 8) F hK hW hI_X2 hZ.b.1 rfl 3 (by decide) hl_fieldLink_RX2_23_SpliceBench_made_I rfl dX2_count_93 ?_
    exact W.iret hx hb hr (fun t ht _ => ⟨_, rfl, (by first | rfl | simp [anCount]), ht⟩) (fun _ h => by cases h) dX2_count_96
  by_cases h_7 : w = 7
  · subst h_7
    refine lv_tableIn (off := 96) (tgt := 97) hx hb dX2_count_1 (by decide) (by decide) rfl (by decide) ?_
    refine lv_aload_n hx hb dX2_count_97 rfl (lv_at hl 0 rfl) ?_
    refine mw_get (C := RX2) (T := TX2) (N := 8) F hK hW hI_X2 hZ.b.1 rfl 4 (by decide) hl_fieldLink_RX2_26_SpliceBench_cardsPut_I rfl dX2_count_98 ?_
    exact W.iret hx hb hr (fun t ht _ => ⟨_, rfl, (by first | rfl | simp [anCount]), ht⟩) (fun _ h => by cases h) dX2_count_101
  by_cases h_8 : w = 8
  · subst h_8
    refine lv_tableIn (off := 101) (tgt := 102) hx hb dX2_count_1 (by decide) (by decide) rfl (by decide) ?_
    refine lv_aload_n hx hb dX2_count_102 rfl (lv_at hl 0 rfl) ?_
    refine mw_get (C := RX2) (T := TX2) (N := 8) F hK hW hI_X2 hZ.b.1 rfl 5 (by decide) hl_fieldLink_RX2_29_SpliceBench_covered_LSpliceBench_Holding rfl dX2_count_103 ?_
    cases hcv : tCv θ with
    | none =>
      show W _ _ _ _ _ _ _ _ _ _ _ _ _ _ _ (F0 m 106 ls [.null])
      refine lv_ifnullN (tgt := 113) hx hb dX2_count_106 (by decide) ?_
      refine lv_iconst (v := 0) hx hb dX2_count_113 (by decide) ?_
      exact W.iret hx hb hr (fun t ht _ => ⟨_, rfl, (by
        rcases hZ.2.2.2.2.2.2 with ⟨z, -⟩ | ⟨k, n, hk, -, z, -⟩
        · show 0 = (if sCov σ = -1 then _ else _); rw [if_pos z]
        · rw [hcv] at z; cases z), ht⟩) (fun _ h => by cases h) dX2_count_114
    | some q9 =>
      show W _ _ _ _ _ _ _ _ _ _ _ _ _ _ _ (F0 m 106 ls [.ref q9])
      refine lv_ifnull hx hb dX2_count_106 ?_
      refine lv_iconst (v := 1) hx hb dX2_count_109 (by decide) ?_
      refine lv_goto (tgt := 114) hx hb dX2_count_110 (by decide) ?_
      exact W.iret hx hb hr (fun t ht _ => ⟨_, rfl, (by
        rcases hZ.2.2.2.2.2.2 with ⟨-, z⟩ | ⟨k, n, hk, z, -⟩
        · rw [hcv] at z; cases z
        · show 1 = (if sCov σ = -1 then _ else _); rw [if_neg (fun z9 => by rw [z] at z9; exact absurd z9 (nI_nm1 k hk))]), ht⟩) (fun _ h => by cases h) dX2_count_114
  have ht_0 := lv_neT (a := 0) h_0 rfl
  have ht_1 := lv_neT (a := 1) h_1 rfl
  have ht_2 := lv_neT (a := 2) h_2 rfl
  have ht_3 := lv_neT (a := 3) h_3 rfl
  have ht_4 := lv_neT (a := 4) h_4 rfl
  have ht_5 := lv_neT (a := 5) h_5 rfl
  have ht_6 := lv_neT (a := 6) h_6 rfl
  have ht_7 := lv_neT (a := 7) h_7 rfl
  have ht_8 := lv_neT (a := 8) h_8 rfl
  refine lv_tableOut (tgt := 115) hx hb dX2_count_1 (by omega) (by decide) ?_
  refine lv_iconst (v := (-1)) hx hb dX2_count_115 (by decide) ?_
  exact W.iret hx hb hr (fun t ht _ => ⟨_, rfl, (by first | rfl | simp [anCount, h_0, h_1, h_2, h_3, h_4, h_5, h_6, h_7, h_8]), ht⟩) (fun _ h => by cases h) dX2_count_116
theorem Sim.p0 {cI cJ cC cH : ClassId} {x : Nat} {θ : TH} {σ : RS} {M : Nat → Option va_E} {cc : Nat} (h : Sim cI cJ cC cH x θ σ M) (hI : Inv σ cc) {j pn : Nat} (hj : j < 10) (e : szOf σ j = nI pn) (hp : pn ≤ 80) (hn : pn ≠ 0) (hk : kOf σ j = 0 ∨ kOf σ j = 1) : False := by
  obtain ⟨k, hk9, h0, -⟩ := h.pn hI hj e hp hn
  rw [kOf_row hk9 h0] at hk
  exact hk.elim (hI.kn hk9 (Inv.live hj h0)).1 (hI.kn hk9 (Inv.live hj h0)).2
abbrev rmX2_held : Room := ({ frames := 3, cells := 0, slots := 0, locals := 64 } : Room)
set_option maxHeartbeats 4000000 in
set_option maxRecDepth 100000 in
theorem c_X2_held {x : Nat} {θ : TH} {σ : RS} {cc : Nat} (hZ : Sim cI cJ cC cH x θ σ M) (hI : Inv σ cc) {s0 w : Int32} : Met l yX2_held wsX2_held rmX2_held (va_Pc [.ref x, .int s0, .int w] (mwPre D (tyL cI cJ cC cH) M sz)) (vp_Si (fun r => r = anHeld σ s0 w)) 0 0 (fun _ => False) := by
  refine Met.ofW (cc := cX2_held) (maxL := 4) (ret := (some .int)) (by decide) rfl ?_
  intro pr env s m args below meth c s₁ B hml hv
  obtain ⟨rfl, hsz, hW, hK, hO⟩ := hv
  have hx := B.exec
  have hb := B.bytes
  have hr := B.returns
  have hts := atoms_spec (ws := wsX2_held) B.pre
  have hown : s.vm.findClass RX2 = some m.cls := findClass_of_methodNamed B.named
  have hlocks := B.notSynchronized
  have F : CallFix pr m c cX2_held 4 s ([.ref x, .int s0, .int w] : List Value).toArray wsX2_held RX2 := ⟨hx, hb, hml, hown, hts⟩
  have hI_X1 : ∀ w ∈ wsX10, w ∈ wsX2_held := by decide +kernel
  have hI_X2 : ∀ w ∈ wsX20, w ∈ wsX2_held := by decide +kernel
  have hl_fieldLink_RX2_11_SpliceBench_spindles_LSpliceBench_Holding := hts (.fieldLink RX2 11 "SpliceBench" "spindles" "[LSpliceBench$Holding;") (by decide +kernel)
  have hl_fieldLink_RX2_46_SpliceBench_Holding_kind_I := hts (.fieldLink RX2 46 "SpliceBench$Holding" "kind" "I") (by decide +kernel)
  have hl_fieldLink_RX2_104_SpliceBench_Holding_places_I := hts (.fieldLink RX2 104 "SpliceBench$Holding" "places" "I") (by decide +kernel)
  have hl := lv_entry ([.ref x, .int s0, .int w]) (n := 4) (Nat.le_of_ble_eq_true rfl)
  rw [lg_entry_eq]
  generalize (lg_sl ([.ref x, .int s0, .int w]) ++ List.replicate (4 - (lg_sl ([.ref x, .int s0, .int w])).length) Slot.unset).toArray = ls at hl ⊢
  have hl : lv_has ls 4 [(0, .ref x), (1, .int s0), (2, .int w)] := hl
  refine lv_iload_n hx hb dX2_held_0 rfl (lv_at hl 1 rfl) ?_
  refine vp_callSi (W.runS (As := [.int s0]) (rest := []) F (c_X2_isSpindle) (cwS 1 hts gX2_held_X2_isSpindle rfl rfl rfl (by decide +kernel) ⟨Nat.le_of_ble_eq_true rfl, Nat.le_of_ble_eq_true rfl⟩) (mw_prS hK hO hW) rfl rfl hl.1 rfl (lv_room (Nat.le_of_ble_eq_true rfl)) dX2_held_1 ⟨Nat.zero_le _, Nat.zero_le _⟩) (fun r_1 er_1 => ?_)
  subst er_1
  refine lv_if_ne (tgt := 10) hx hb dX2_held_4 (by decide) (fun c_4 => ?_) (fun c_4 => ?_)
  · obtain ⟨j, hj, rfl⟩ := isSp_of (bI_n c_4)
    have esp_j := isSp_nI hj
    have eix_j : ix (nI j) = j := nI_clamp (by omega)
    refine lv_aload_n hx hb dX2_held_10 rfl (lv_at hl 0 rfl) ?_
    refine mw_get (C := RX2) (T := TX2) (N := 8) F hK hW hI_X2 hZ.b.1 rfl 0 (by decide) hl_fieldLink_RX2_11_SpliceBench_spindles_LSpliceBench_Holding rfl dX2_held_11 ?_
    refine lv_iload_n hx hb dX2_held_14 rfl (lv_at hl 1 rfl) ?_
    refine mw_aald F hK hW 3 hZ.b.2.1 rfl (vp_in_nI (show j < 10 by omega) (by omega)) dX2_held_15 ?_
    rw [nI_clamp (show j < 2 ^ 31 by omega)]
    refine W.eq (g2 := F0 m 16 ls [.ref (tSp θ j)]) rfl ?_
    obtain ⟨pn, na, ca, lb, f, g, hH, ez, hfs, hgs, hlb⟩ := hZ.hold hI hj
    have hp8 := hH.2.1
    refine lv_astore_n (lv' := [(3, .ref (tSp θ j)), (0, .ref x), (1, .int (nI j)), (2, .int w)]) hx hb dX2_held_16 rfl hl (by decide) rfl (fun ls hl => ?_)
    refine lv_iload_n hx hb dX2_held_17 rfl (lv_at hl 3 rfl) ?_
    by_cases h_0 : w = 0
    · subst h_0
      refine lv_tableIn (off := 26) (tgt := 44) hx hb dX2_held_18 (by decide) (by decide) rfl (by decide) ?_
      refine lv_aload_n hx hb dX2_held_44 rfl (lv_at hl 0 rfl) ?_
      refine mw_get (C := RX1) (T := TX1) (N := 5) F hK hW hI_X1 hH.1 rfl 0 (by decide) hl_fieldLink_RX2_46_SpliceBench_Holding_kind_I rfl dX2_held_45 ?_
      exact W.iret hx hb hr (fun t ht _ => ⟨_, rfl, (by simp [anHeld, esp_j, eix_j]), ht⟩) (fun _ h => by cases h) dX2_held_48
    by_cases h_1 : w = 1
    · subst h_1
      refine lv_tableIn (off := 31) (tgt := 49) hx hb dX2_held_18 (by decide) (by decide) rfl (by decide) ?_
      refine lv_aload_n hx hb dX2_held_49 rfl (lv_at hl 0 rfl) ?_
      refine mw_get (C := RX1) (T := TX1) (N := 5) F hK hW hI_X1 hH.1 rfl 1 (by decide) hl_fieldLink_RX2_104_SpliceBench_Holding_places_I rfl dX2_held_50 ?_
      exact W.iret hx hb hr (fun t ht _ => ⟨_, rfl, (by simp only [anHeld, esp_j, eix_j, if_true]; exact ez.symm), ht⟩) (fun _ h => by cases h) dX2_held_53
    by_cases h_2 : w = 2
    · subst h_2
      refine lv_tableIn (off := 36) (tgt := 54) hx hb dX2_held_18 (by decide) (by decide) rfl (by decide) ?_
      refine lv_aload_n hx hb dX2_held_54 rfl (lv_at hl 0 rfl) ?_
      refine vp_callSi (W.runV (As := []) (rest := []) F (c_X1_countFilled hH) (cwV 0 hts gX2_held_X1_countFilled rfl rfl rfl (by decide +kernel) ⟨Nat.le_of_ble_eq_true rfl, Nat.le_of_ble_eq_true rfl⟩) (mw_prV (q := (RX1, TX1, 5)) hK hO hW rfl hH.1) rfl rfl hl.1 rfl (lv_room (Nat.le_of_ble_eq_true rfl)) dX2_held_55 ⟨Nat.zero_le _, Nat.zero_le _⟩) (fun r_2 er_2 => ?_)
      subst er_2
      exact W.iret hx hb hr (fun t ht _ => ⟨_, rfl, (by
        have e8 : anHeld σ (nI j) 2 = nI (cntH σ j pn) := by
          show (if isSp (nI j) = true then _ else _) = _
          rw [if_pos esp_j, eix_j, ez]
          show nI (cntH σ j (ix (nI pn))) = _
          simp only [ix, nI_clamp (show pn < 2 ^ 31 by omega)]
        rw [e8]
        refine congrArg nI (cntF_congr (fun i hi => ?_))
        rcases kcase hI hj with h1 | h1 | h1 | h1
        · exfalso; exact hZ.p0 hI hj ez hp8 (by omega) (Or.inl h1)
        · exfalso; exact hZ.p0 hI hj ez hp8 (by omega) (Or.inr h1)
        · rw [if_pos h1, hfs h1 i hi]
        · rw [if_neg (by rw [kRS h1]; decide), cdAt_rack h1 hp8 hi, hgs h1 i hi]
          by_cases h2 : pV σ j i = 0
          · rw [h2]; rfl
          · rw [cdR_n h2]; simp [h2]), ht⟩) (fun _ h => by cases h) dX2_held_58
    have ht_0 := lv_neT (a := 0) h_0 rfl
    have ht_1 := lv_neT (a := 1) h_1 rfl
    have ht_2 := lv_neT (a := 2) h_2 rfl
    refine lv_tableOut (tgt := 59) hx hb dX2_held_18 (by omega) (by decide) ?_
    refine lv_iconst (v := (-1)) hx hb dX2_held_59 (by decide) ?_
    exact W.iret hx hb hr (fun t ht _ => ⟨_, rfl, (by simp [anHeld, esp_j, eix_j, h_0, h_1, h_2]), ht⟩) (fun _ h => by cases h) dX2_held_60
  · have c_4 := bI_e c_4
    refine lv_bipush (v := (-9)) hx hb dX2_held_7 (by decide) ?_
    exact W.iret hx hb hr (fun t ht _ => ⟨_, rfl, (by simp [anHeld, c_4]), ht⟩) (fun _ h => by cases h) dX2_held_9
abbrev rmX2_sort : Room := ({ frames := 2, cells := 0, slots := 0, locals := 42 } : Room)
set_option maxHeartbeats 4000000 in
set_option maxRecDepth 100000 in
theorem c_X2_sort {x : Nat} {θ : TH} {σ : RS} {cc : Nat} (hZ : Sim cI cJ cC cH x θ σ M) (hI : Inv σ cc) {s0 i : Int32} : Met l yX2_sort wsX2_sort rmX2_sort (va_Pc [.ref x, .int s0, .int i] (mwPre D (tyL cI cJ cC cH) M sz)) (vp_Si (fun r => r = anSort σ s0 i)) 0 0 (fun _ => False) := by
  refine Met.ofW (cc := cX2_sort) (maxL := 5) (ret := (some .int)) (by decide) rfl ?_
  intro pr env s m args below meth c s₁ B hml hv
  obtain ⟨rfl, hsz, hW, hK, hO⟩ := hv
  have hx := B.exec
  have hb := B.bytes
  have hr := B.returns
  have hts := atoms_spec (ws := wsX2_sort) B.pre
  have hown : s.vm.findClass RX2 = some m.cls := findClass_of_methodNamed B.named
  have hlocks := B.notSynchronized
  have F : CallFix pr m c cX2_sort 5 s ([.ref x, .int s0, .int i] : List Value).toArray wsX2_sort RX2 := ⟨hx, hb, hml, hown, hts⟩
  have hI_X0 : ∀ w ∈ wsX00, w ∈ wsX2_sort := by decide +kernel
  have hI_X2 : ∀ w ∈ wsX20, w ∈ wsX2_sort := by decide +kernel
  have hl_fieldLink_RX2_11_SpliceBench_spindles_LSpliceBench_Holding := hts (.fieldLink RX2 11 "SpliceBench" "spindles" "[LSpliceBench$Holding;") (by decide +kernel)
  have hl_fieldLink_RX2_126_SpliceBench_Card_slide_Z := hts (.fieldLink RX2 126 "SpliceBench$Card" "slide" "Z") (by decide +kernel)
  have hl := lv_entry ([.ref x, .int s0, .int i]) (n := 5) (Nat.le_of_ble_eq_true rfl)
  rw [lg_entry_eq]
  generalize (lg_sl ([.ref x, .int s0, .int i]) ++ List.replicate (5 - (lg_sl ([.ref x, .int s0, .int i])).length) Slot.unset).toArray = ls at hl ⊢
  have hl : lv_has ls 5 [(0, .ref x), (1, .int s0), (2, .int i)] := hl
  refine lv_iload_n hx hb dX2_sort_0 rfl (lv_at hl 1 rfl) ?_
  refine vp_callSi (W.runS (As := [.int s0]) (rest := []) F (c_X2_isSpindle) (cwS 1 hts gX2_sort_X2_isSpindle rfl rfl rfl (by decide +kernel) ⟨Nat.le_of_ble_eq_true rfl, Nat.le_of_ble_eq_true rfl⟩) (mw_prS hK hO hW) rfl rfl hl.1 rfl (lv_room (Nat.le_of_ble_eq_true rfl)) dX2_sort_1 ⟨Nat.zero_le _, Nat.zero_le _⟩) (fun r_1 er_1 => ?_)
  subst er_1
  refine lv_if_ne (tgt := 10) hx hb dX2_sort_4 (by decide) (fun c_4 => ?_) (fun c_4 => ?_)
  · obtain ⟨j, hj, rfl⟩ := isSp_of (bI_n c_4)
    have esp_j := isSp_nI hj
    have eix_j : ix (nI j) = j := nI_clamp (by omega)
    refine lv_aload_n hx hb dX2_sort_10 rfl (lv_at hl 0 rfl) ?_
    refine mw_get (C := RX2) (T := TX2) (N := 8) F hK hW hI_X2 hZ.b.1 rfl 0 (by decide) hl_fieldLink_RX2_11_SpliceBench_spindles_LSpliceBench_Holding rfl dX2_sort_11 ?_
    refine lv_iload_n hx hb dX2_sort_14 rfl (lv_at hl 1 rfl) ?_
    refine mw_aald F hK hW 3 hZ.b.2.1 rfl (vp_in_nI (show j < 10 by omega) (by omega)) dX2_sort_15 ?_
    rw [nI_clamp (show j < 2 ^ 31 by omega)]
    refine W.eq (g2 := F0 m 16 ls [.ref (tSp θ j)]) rfl ?_
    obtain ⟨pn, na, ca, lb, f, g, hH, ez, hfs, hgs, hlb⟩ := hZ.hold hI hj
    have hp8 := hH.2.1
    refine lv_astore_n (lv' := [(3, .ref (tSp θ j)), (0, .ref x), (1, .int (nI j)), (2, .int i)]) hx hb dX2_sort_16 rfl hl (by decide) rfl (fun ls hl => ?_)
    refine lv_aload_n hx hb dX2_sort_17 rfl (lv_at hl 0 rfl) ?_
    refine lv_iload_n hx hb dX2_sort_18 rfl (lv_at hl 3 rfl) ?_
    refine vp_callSi (W.runV (As := [.int i]) (rest := []) F (c_X1_hasPlace (i := i) hH) (cwV 1 hts gX2_sort_X1_hasPlace rfl rfl rfl (by decide +kernel) ⟨Nat.le_of_ble_eq_true rfl, Nat.le_of_ble_eq_true rfl⟩) (mw_prV (q := (RX1, TX1, 5)) hK hO hW rfl hH.1) rfl rfl hl.1 rfl (lv_room (Nat.le_of_ble_eq_true rfl)) dX2_sort_19 ⟨Nat.zero_le _, Nat.zero_le _⟩) (fun r_2 er_2 => ?_)
    subst er_2
    refine lv_if_ne (tgt := 27) hx hb dX2_sort_22 (by decide) (fun c_22 => ?_) (fun c_22 => ?_)
    · have c_22 := bI_n c_22
      obtain ⟨i9, hi9, rfl⟩ := inPl_of hp8 c_22
      have eix_i : ix (nI i9) = i9 := nI_clamp (by omega)
      refine lv_aload_n hx hb dX2_sort_27 rfl (lv_at hl 0 rfl) ?_
      refine vp_callSi (W.runV (As := []) (rest := []) F (c_X1_isStrip hH.1) (cwV 0 hts gX2_sort_X1_isStrip rfl rfl rfl (by decide +kernel) ⟨Nat.le_of_ble_eq_true rfl, Nat.le_of_ble_eq_true rfl⟩) (mw_prV (q := (RX1, TX1, 5)) hK hO hW rfl hH.1) rfl rfl hl.1 rfl (lv_room (Nat.le_of_ble_eq_true rfl)) dX2_sort_28 ⟨Nat.zero_le _, Nat.zero_le _⟩) (fun r_3 er_3 => ?_)
      subst er_3
      refine lv_if_eq (tgt := 36) hx hb dX2_sort_31 (by decide) (fun c_31 => ?_) (fun c_31 => ?_)
      · have c_31 := bI_e c_31
        have hrk : kRack (kOf σ j) = true := by
          rcases kcase hI hj with h1 | h1 | h1 | h1
          · exact (hZ.p0 hI hj ez hp8 (by omega) (Or.inl h1)).elim
          · exact (hZ.p0 hI hj ez hp8 (by omega) (Or.inr h1)).elim
          · rw [c_31] at h1; cases h1
          · exact h1
        refine lv_aload_n hx hb dX2_sort_36 rfl (lv_at hl 0 rfl) ?_
        refine lv_iload_n hx hb dX2_sort_37 rfl (lv_at hl 3 rfl) ?_
        refine va_csq (W.runV (As := [.int (nI i9)]) (rest := []) F (c_X1_cardAt (i := nI i9) hH) (cwV 1 hts gX2_sort_X1_cardAt rfl rfl rfl (by decide +kernel) ⟨Nat.le_of_ble_eq_true rfl, Nat.le_of_ble_eq_true rfl⟩) (mw_prV (q := (RX1, TX1, 5)) hK hO hW rfl hH.1) rfl rfl hl.1 rfl (lv_room (Nat.le_of_ble_eq_true rfl)) dX2_sort_38 ⟨Nat.zero_le _, Nat.zero_le _⟩) (fun r_4 er_4 => ?_)
        subst er_4
        rw [cdAt_rack hrk hp8 hi9, hgs hrk i9 hi9]
        rcases hZ.card hI hj hrk ez hp8 hi9 with h0 | ⟨c9, b9, eb9, hb9, hc9, ev9, ec9, hq9, h59⟩
        · rw [h0, cdR_0]
          show W _ _ _ _ _ _ _ _ _ _ _ _ _ _ _ (F0 m 41 ls [.null])
          refine lv_astoreN (lv' := [(4, .null), (3, .ref (tSp θ j)), (0, .ref x), (1, .int (nI j)), (2, .int (nI i9))]) hx hb dX2_sort_41 hl (by decide) rfl (fun ls hl => ?_)
          refine lv_aloadN hx hb dX2_sort_43 (lv_at hl 0 rfl) ?_
          refine lv_ifnonnullN hx hb dX2_sort_45 ?_
          refine lv_iconst (v := 0) hx hb dX2_sort_48 (by decide) ?_
          exact W.iret hx hb hr (fun t ht _ => ⟨_, rfl, (by
            have e8 : anSort σ (nI j) (nI i9) = 0 := by
              show (if isSp (nI j) = true then _ else _) = _
              rw [if_pos esp_j, eix_j, eix_i, ez, if_pos c_22, rk_eq hI hj, if_pos hrk, if_pos h0]
            rw [e8]), ht⟩) (fun _ h => by cases h) dX2_sort_49
        · have hn0 : ¬ pV σ j i9 = 0 := by rw [ev9]; exact lN_n0 (by omega)
          rw [cdR_n hn0, ec9]
          show W _ _ _ _ _ _ _ _ _ _ _ _ _ _ _ (F0 m 41 ls [.ref (tCa θ c9)])
          refine lv_astore (lv' := [(4, .ref (tCa θ c9)), (3, .ref (tSp θ j)), (0, .ref x), (1, .int (nI j)), (2, .int (nI i9))]) hx hb dX2_sort_41 hl (by decide) rfl (fun ls hl => ?_)
          refine lv_aload hx hb dX2_sort_43 (lv_at hl 0 rfl) ?_
          refine lv_ifnonnull (tgt := 50) hx hb dX2_sort_45 (by decide) ?_
          refine lv_aload hx hb dX2_sort_50 (lv_at hl 0 rfl) ?_
          refine mw_get (C := RX0) (T := TX0) (N := 3) F hK hW hI_X0 hq9 rfl 1 (by decide) hl_fieldLink_RX2_126_SpliceBench_Card_slide_Z rfl dX2_sort_52 ?_
          refine lv_if_eq (tgt := 62) hx hb dX2_sort_55 (by decide) (fun c_55 => ?_) (fun c_55 => ?_)
          · have c_55 := bI_e c_55
            refine lv_iconst (v := 2) hx hb dX2_sort_62 (by decide) ?_
            exact W.iret hx hb hr (fun t ht _ => ⟨_, rfl, (by
              have e8 : anSort σ (nI j) (nI i9) = 2 := by
                show (if isSp (nI j) = true then _ else _) = _
                rw [if_pos esp_j, eix_j, eix_i, ez, if_pos c_22, rk_eq hI hj, if_pos hrk, if_neg hn0, if_pos (by unfold plainV; rw [ec9, evn_plain, c_55, decide_eq_false hn0]; rfl)]
              rw [e8]), ht⟩) (fun _ h => by cases h) dX2_sort_63
          · have c_55 := bI_n c_55
            refine lv_iconst (v := 3) hx hb dX2_sort_58 (by decide) ?_
            refine lv_goto (tgt := 63) hx hb dX2_sort_59 (by decide) ?_
            exact W.iret hx hb hr (fun t ht _ => ⟨_, rfl, (by
              have e8 : anSort σ (nI j) (nI i9) = 3 := by
                show (if isSp (nI j) = true then _ else _) = _
                rw [if_pos esp_j, eix_j, eix_i, ez, if_pos c_22, rk_eq hI hj, if_pos hrk, if_neg hn0, if_neg (by unfold plainV; rw [ec9, evn_plain, c_55, decide_eq_false hn0]; decide)]
              rw [e8]), ht⟩) (fun _ h => by cases h) dX2_sort_63
      · have c_31 := bI_n c_31
        refine lv_iconst (v := 1) hx hb dX2_sort_34 (by decide) ?_
        exact W.iret hx hb hr (fun t ht _ => ⟨_, rfl, (by
          have e8 : anSort σ (nI j) (nI i9) = 1 := by
            show (if isSp (nI j) = true then _ else _) = _
            rw [if_pos esp_j, eix_j, eix_i, ez, if_pos c_22, rk_eq hI hj, if_neg (by rw [kSR c_31]; decide)]
          rw [e8]), ht⟩) (fun _ h => by cases h) dX2_sort_35
    · have c_22 := bI_e c_22
      refine lv_iconst (v := (-1)) hx hb dX2_sort_25 (by decide) ?_
      exact W.iret hx hb hr (fun t ht _ => ⟨_, rfl, (by simp [anSort, esp_j, eix_j, ez, c_22]), ht⟩) (fun _ h => by cases h) dX2_sort_26
  · have c_4 := bI_e c_4
    refine lv_bipush (v := (-9)) hx hb dX2_sort_7 (by decide) ?_
    exact W.iret hx hb hr (fun t ht _ => ⟨_, rfl, (by simp [anSort, c_4]), ht⟩) (fun _ h => by cases h) dX2_sort_9
abbrev rmX2_number : Room := ({ frames := 2, cells := 0, slots := 0, locals := 42 } : Room)
set_option maxHeartbeats 4000000 in
set_option maxRecDepth 100000 in
theorem c_X2_number {x : Nat} {θ : TH} {σ : RS} {cc : Nat} (hZ : Sim cI cJ cC cH x θ σ M) (hI : Inv σ cc) {s0 i : Int32} : Met l yX2_number wsX2_number rmX2_number (va_Pc [.ref x, .int s0, .int i] (mwPre D (tyL cI cJ cC cH) M sz)) (vp_Sl (fun r => r = anNumber σ s0 i)) 0 0 (fun _ => False) := by
  refine Met.ofW (cc := cX2_number) (maxL := 5) (ret := (some .long)) (by decide) rfl ?_
  intro pr env s m args below meth c s₁ B hml hv
  obtain ⟨rfl, hsz, hW, hK, hO⟩ := hv
  have hx := B.exec
  have hb := B.bytes
  have hr := B.returns
  have hts := atoms_spec (ws := wsX2_number) B.pre
  have hown : s.vm.findClass RX2 = some m.cls := findClass_of_methodNamed B.named
  have hlocks := B.notSynchronized
  have F : CallFix pr m c cX2_number 5 s ([.ref x, .int s0, .int i] : List Value).toArray wsX2_number RX2 := ⟨hx, hb, hml, hown, hts⟩
  have hI_X0 : ∀ w ∈ wsX00, w ∈ wsX2_number := by decide +kernel
  have hI_X1 : ∀ w ∈ wsX10, w ∈ wsX2_number := by decide +kernel
  have hI_X2 : ∀ w ∈ wsX20, w ∈ wsX2_number := by decide +kernel
  have hl_fieldLink_RX2_11_SpliceBench_spindles_LSpliceBench_Holding := hts (.fieldLink RX2 11 "SpliceBench" "spindles" "[LSpliceBench$Holding;") (by decide +kernel)
  have hl_fieldLink_RX2_46_SpliceBench_Holding_kind_I := hts (.fieldLink RX2 46 "SpliceBench$Holding" "kind" "I") (by decide +kernel)
  have hl_fieldLink_RX2_130_SpliceBench_Card_number_J := hts (.fieldLink RX2 130 "SpliceBench$Card" "number" "J") (by decide +kernel)
  have hl_fieldLink_RX2_63_SpliceBench_Holding_numbers_J := hts (.fieldLink RX2 63 "SpliceBench$Holding" "numbers" "[J") (by decide +kernel)
  have hl_fieldLink_RX2_49_SpliceBench_Holding_label_I := hts (.fieldLink RX2 49 "SpliceBench$Holding" "label" "I") (by decide +kernel)
  have hl := lv_entry ([.ref x, .int s0, .int i]) (n := 5) (Nat.le_of_ble_eq_true rfl)
  rw [lg_entry_eq]
  generalize (lg_sl ([.ref x, .int s0, .int i]) ++ List.replicate (5 - (lg_sl ([.ref x, .int s0, .int i])).length) Slot.unset).toArray = ls at hl ⊢
  have hl : lv_has ls 5 [(0, .ref x), (1, .int s0), (2, .int i)] := hl
  refine lv_iload_n hx hb dX2_number_0 rfl (lv_at hl 1 rfl) ?_
  refine vp_callSi (W.runS (As := [.int s0]) (rest := []) F (c_X2_isSpindle) (cwS 1 hts gX2_number_X2_isSpindle rfl rfl rfl (by decide +kernel) ⟨Nat.le_of_ble_eq_true rfl, Nat.le_of_ble_eq_true rfl⟩) (mw_prS hK hO hW) rfl rfl hl.1 rfl (lv_room (Nat.le_of_ble_eq_true rfl)) dX2_number_1 ⟨Nat.zero_le _, Nat.zero_le _⟩) (fun r_1 er_1 => ?_)
  subst er_1
  refine lv_if_ne (tgt := 9) hx hb dX2_number_4 (by decide) (fun c_4 => ?_) (fun c_4 => ?_)
  · obtain ⟨j, hj, rfl⟩ := isSp_of (bI_n c_4)
    have esp_j := isSp_nI hj
    have eix_j : ix (nI j) = j := nI_clamp (by omega)
    refine lv_aload_n hx hb dX2_number_9 rfl (lv_at hl 0 rfl) ?_
    refine mw_get (C := RX2) (T := TX2) (N := 8) F hK hW hI_X2 hZ.b.1 rfl 0 (by decide) hl_fieldLink_RX2_11_SpliceBench_spindles_LSpliceBench_Holding rfl dX2_number_10 ?_
    refine lv_iload_n hx hb dX2_number_13 rfl (lv_at hl 1 rfl) ?_
    refine mw_aald F hK hW 3 hZ.b.2.1 rfl (vp_in_nI (show j < 10 by omega) (by omega)) dX2_number_14 ?_
    rw [nI_clamp (show j < 2 ^ 31 by omega)]
    refine W.eq (g2 := F0 m 15 ls [.ref (tSp θ j)]) rfl ?_
    obtain ⟨pn, na, ca, lb, f, g, hH, ez, hfs, hgs, hlb⟩ := hZ.hold hI hj
    have hp8 := hH.2.1
    refine lv_astore_n (lv' := [(3, .ref (tSp θ j)), (0, .ref x), (1, .int (nI j)), (2, .int i)]) hx hb dX2_number_15 rfl hl (by decide) rfl (fun ls hl => ?_)
    refine lv_aload_n hx hb dX2_number_16 rfl (lv_at hl 0 rfl) ?_
    refine mw_get (C := RX1) (T := TX1) (N := 5) F hK hW hI_X1 hH.1 rfl 0 (by decide) hl_fieldLink_RX2_46_SpliceBench_Holding_kind_I rfl dX2_number_17 ?_
    refine lv_iconst (v := 1) hx hb dX2_number_20 (by decide) ?_
    refine lv_icmp_ne (tgt := 30) hx hb dX2_number_21 (by decide) (fun c_21 => ?_) (fun c_21 => ?_)
    · refine lv_aload_n hx hb dX2_number_30 rfl (lv_at hl 0 rfl) ?_
      refine vp_callSi (W.runV (As := []) (rest := []) F (c_X1_isStrip hH.1) (cwV 0 hts gX2_number_X1_isStrip rfl rfl rfl (by decide +kernel) ⟨Nat.le_of_ble_eq_true rfl, Nat.le_of_ble_eq_true rfl⟩) (mw_prV (q := (RX1, TX1, 5)) hK hO hW rfl hH.1) rfl rfl hl.1 rfl (lv_room (Nat.le_of_ble_eq_true rfl)) dX2_number_31 ⟨Nat.zero_le _, Nat.zero_le _⟩) (fun r_2 er_2 => ?_)
      subst er_2
      refine lv_if_eq (tgt := 56) hx hb dX2_number_34 (by decide) (fun c_34 => ?_) (fun c_34 => ?_)
      · have c_34 := bI_e c_34
        refine lv_aload_n hx hb dX2_number_56 rfl (lv_at hl 0 rfl) ?_
        refine lv_iload_n hx hb dX2_number_57 rfl (lv_at hl 3 rfl) ?_
        refine va_csq (W.runV (As := [.int i]) (rest := []) F (c_X1_cardAt (i := i) hH) (cwV 1 hts gX2_number_X1_cardAt rfl rfl rfl (by decide +kernel) ⟨Nat.le_of_ble_eq_true rfl, Nat.le_of_ble_eq_true rfl⟩) (mw_prV (q := (RX1, TX1, 5)) hK hO hW rfl hH.1) rfl rfl hl.1 rfl (lv_room (Nat.le_of_ble_eq_true rfl)) dX2_number_58 ⟨Nat.zero_le _, Nat.zero_le _⟩) (fun r_3 er_3 => ?_)
        subst er_3
        by_cases hin : kRack (kOf σ j) = true ∧ inPl i (nI pn) = true
        · obtain ⟨hrk, hin⟩ := hin
          obtain ⟨i9, hi9, rfl⟩ := inPl_of hp8 hin
          have eix_i : ix (nI i9) = i9 := nI_clamp (by omega)
          rw [cdAt_rack hrk hp8 hi9, hgs hrk i9 hi9]
          rcases hZ.card hI hj hrk ez hp8 hi9 with h0 | ⟨c9, b9, eb9, hb9, hc9, ev9, ec9, hq9, h59⟩
          · rw [h0, cdR_0]
            show W _ _ _ _ _ _ _ _ _ _ _ _ _ _ _ (F0 m 61 ls [.null])
            refine lv_astoreN (lv' := [(4, .null), (3, .ref (tSp θ j)), (0, .ref x), (1, .int (nI j)), (2, .int (nI i9))]) hx hb dX2_number_61 hl (by decide) rfl (fun ls hl => ?_)
            refine lv_aloadN hx hb dX2_number_63 (lv_at hl 0 rfl) ?_
            refine lv_ifnonnullN hx hb dX2_number_65 ?_
            refine lv_lconst (v := 0) hx hb dX2_number_68 (by decide) ?_
            refine lv_goto (tgt := 77) hx hb dX2_number_69 (by decide) ?_
            exact W.lret hx hb hr (fun t ht _ => ⟨_, rfl, (by
              have e8 : anNumber σ (nI j) (nI i9) = 0 := by
                show (if isSp (nI j) = true then _ else _) = _
                rw [if_pos esp_j, eix_j, eix_i, if_neg c_21, ez, if_pos hin, rk_eq hI hj, if_pos hrk, if_pos h0]
              rw [e8]), ht⟩) (fun _ h => by cases h) dX2_number_77
          · have hn0 : ¬ pV σ j i9 = 0 := by rw [ev9]; exact lN_n0 (by omega)
            rw [cdR_n hn0, ec9]
            show W _ _ _ _ _ _ _ _ _ _ _ _ _ _ _ (F0 m 61 ls [.ref (tCa θ c9)])
            refine lv_astore (lv' := [(4, .ref (tCa θ c9)), (3, .ref (tSp θ j)), (0, .ref x), (1, .int (nI j)), (2, .int (nI i9))]) hx hb dX2_number_61 hl (by decide) rfl (fun ls hl => ?_)
            refine lv_aload hx hb dX2_number_63 (lv_at hl 0 rfl) ?_
            refine lv_ifnonnull (tgt := 72) hx hb dX2_number_65 (by decide) ?_
            refine lv_aload hx hb dX2_number_72 (lv_at hl 0 rfl) ?_
            refine mw_get (C := RX0) (T := TX0) (N := 3) F hK hW hI_X0 hq9 rfl 0 (by decide) hl_fieldLink_RX2_130_SpliceBench_Card_number_J rfl dX2_number_74 ?_
            exact W.lret hx hb hr (fun t ht _ => ⟨_, rfl, (by
              have e8 : anNumber σ (nI j) (nI i9) = sCn σ c9 := by
                show (if isSp (nI j) = true then _ else _) = _
                rw [if_pos esp_j, eix_j, eix_i, if_neg c_21, ez, if_pos hin, rk_eq hI hj, if_pos hrk, if_neg hn0, ec9]
              rw [e8]), ht⟩) (fun _ h => by cases h) dX2_number_77
        · rw [cdAt_none hin]
          show W _ _ _ _ _ _ _ _ _ _ _ _ _ _ _ (F0 m 61 ls [.null])
          refine lv_astoreN (lv' := [(4, .null), (3, .ref (tSp θ j)), (0, .ref x), (1, .int (nI j)), (2, .int i)]) hx hb dX2_number_61 hl (by decide) rfl (fun ls hl => ?_)
          refine lv_aloadN hx hb dX2_number_63 (lv_at hl 0 rfl) ?_
          refine lv_ifnonnullN hx hb dX2_number_65 ?_
          refine lv_lconst (v := 0) hx hb dX2_number_68 (by decide) ?_
          refine lv_goto (tgt := 77) hx hb dX2_number_69 (by decide) ?_
          exact W.lret hx hb hr (fun t ht _ => ⟨_, rfl, (by
            have e8 : anNumber σ (nI j) i = 0 := by
              show (if isSp (nI j) = true then _ else _) = _
              rw [if_pos esp_j, eix_j, if_neg c_21, ez]
              by_cases h7 : inPl i (nI pn) = true
              · rw [if_pos h7]
                exfalso
                obtain ⟨i7, hi7, -⟩ := inPl_of hp8 h7
                rcases kcase hI hj with h1 | h1 | h1 | h1
                · exact hZ.p0 hI hj ez hp8 (by omega) (Or.inl h1)
                · exact hZ.p0 hI hj ez hp8 (by omega) (Or.inr h1)
                · rw [c_34] at h1; cases h1
                · exact hin ⟨h1, h7⟩
              · rw [if_neg h7]
            rw [e8]), ht⟩) (fun _ h => by cases h) dX2_number_77
      · have c_34 := bI_n c_34
        refine lv_aload_n hx hb dX2_number_37 rfl (lv_at hl 0 rfl) ?_
        refine lv_iload_n hx hb dX2_number_38 rfl (lv_at hl 3 rfl) ?_
        refine vp_callSi (W.runV (As := [.int i]) (rest := []) F (c_X1_hasPlace (i := i) hH) (cwV 1 hts gX2_number_X1_hasPlace rfl rfl rfl (by decide +kernel) ⟨Nat.le_of_ble_eq_true rfl, Nat.le_of_ble_eq_true rfl⟩) (mw_prV (q := (RX1, TX1, 5)) hK hO hW rfl hH.1) rfl rfl hl.1 rfl (lv_room (Nat.le_of_ble_eq_true rfl)) dX2_number_39 ⟨Nat.zero_le _, Nat.zero_le _⟩) (fun r_4 er_4 => ?_)
        subst er_4
        refine lv_if_eq (tgt := 54) hx hb dX2_number_42 (by decide) (fun c_42 => ?_) (fun c_42 => ?_)
        · have c_42 := bI_e c_42
          refine lv_lconst (v := 0) hx hb dX2_number_54 (by decide) ?_
          exact W.lret hx hb hr (fun t ht _ => ⟨_, rfl, (by
            have e8 : anNumber σ (nI j) i = 0 := by
              show (if isSp (nI j) = true then _ else _) = _
              rw [if_pos esp_j, eix_j, if_neg c_21, ez, if_neg (by rw [c_42]; decide)]
            rw [e8]), ht⟩) (fun _ h => by cases h) dX2_number_55
        · have c_42 := bI_n c_42
          obtain ⟨i9, hi9, rfl⟩ := inPl_of hp8 c_42
          have eix_i : ix (nI i9) = i9 := nI_clamp (by omega)
          refine lv_aload_n hx hb dX2_number_45 rfl (lv_at hl 0 rfl) ?_
          refine mw_get (C := RX1) (T := TX1) (N := 5) F hK hW hI_X1 hH.1 rfl 2 (by decide) hl_fieldLink_RX2_63_SpliceBench_Holding_numbers_J rfl dX2_number_46 ?_
          refine lv_iload_n hx hb dX2_number_49 rfl (lv_at hl 3 rfl) ?_
          refine mw_lald F hK hW 1 hH.2.2.1 rfl (by rw [if_pos c_34]; exact vp_in_nI hi9 (by omega)) dX2_number_50 ?_
          rw [nI_clamp (show i9 < 2 ^ 31 by omega)]
          refine lv_goto (tgt := 55) hx hb dX2_number_51 (by decide) ?_
          exact W.lret hx hb hr (fun t ht _ => ⟨_, rfl, (by
            have e8 : anNumber σ (nI j) (nI i9) = pV σ j i9 := by
              show (if isSp (nI j) = true then _ else _) = _
              rw [if_pos esp_j, eix_j, eix_i, if_neg c_21, ez, if_pos c_42, rk_eq hI hj, if_neg (by rw [kSR c_34]; decide)]
            rw [e8]; exact hfs c_34 i9 hi9), ht⟩) (fun _ h => by cases h) dX2_number_55
    · refine lv_aload_n hx hb dX2_number_24 rfl (lv_at hl 0 rfl) ?_
      refine mw_get (C := RX1) (T := TX1) (N := 5) F hK hW hI_X1 hH.1 rfl 4 (by decide) hl_fieldLink_RX2_49_SpliceBench_Holding_label_I rfl dX2_number_25 ?_
      refine lv_i2l hx hb dX2_number_28 rfl ?_
      exact W.lret hx hb hr (fun t ht _ => ⟨_, rfl, (by
        have e8 : anNumber σ (nI j) i = lb.toInt64 := by
          show (if isSp (nI j) = true then _ else _) = _
          rw [if_pos esp_j, eix_j, if_pos c_21, ← hlb c_21]
        rw [e8]), ht⟩) (fun _ h => by cases h) dX2_number_29
  · have c_4 := bI_e c_4
    refine lv_lconst (v := 0) hx hb dX2_number_7 (by decide) ?_
    exact W.lret hx hb hr (fun t ht _ => ⟨_, rfl, (by simp [anNumber, c_4]), ht⟩) (fun _ h => by cases h) dX2_number_8
abbrev rmX2_shown : Room := ({ frames := 2, cells := 0, slots := 0, locals := 42 } : Room)
set_option maxHeartbeats 4000000 in
set_option maxRecDepth 100000 in
theorem c_X2_shown {x : Nat} {θ : TH} {σ : RS} {cc : Nat} (hZ : Sim cI cJ cC cH x θ σ M) (hI : Inv σ cc) {s0 i : Int32} : Met l yX2_shown wsX2_shown rmX2_shown (va_Pc [.ref x, .int s0, .int i] (mwPre D (tyL cI cJ cC cH) M sz)) (vp_Si (fun r => r = anShown σ s0 i)) 0 0 (fun _ => False) := by
  refine Met.ofW (cc := cX2_shown) (maxL := 4) (ret := (some .int)) (by decide) rfl ?_
  intro pr env s m args below meth c s₁ B hml hv
  obtain ⟨rfl, hsz, hW, hK, hO⟩ := hv
  have hx := B.exec
  have hb := B.bytes
  have hr := B.returns
  have hts := atoms_spec (ws := wsX2_shown) B.pre
  have hown : s.vm.findClass RX2 = some m.cls := findClass_of_methodNamed B.named
  have hlocks := B.notSynchronized
  have F : CallFix pr m c cX2_shown 4 s ([.ref x, .int s0, .int i] : List Value).toArray wsX2_shown RX2 := ⟨hx, hb, hml, hown, hts⟩
  have hI_X0 : ∀ w ∈ wsX00, w ∈ wsX2_shown := by decide +kernel
  have hI_X2 : ∀ w ∈ wsX20, w ∈ wsX2_shown := by decide +kernel
  have hl_fieldLink_RX2_11_SpliceBench_spindles_LSpliceBench_Holding := hts (.fieldLink RX2 11 "SpliceBench" "spindles" "[LSpliceBench$Holding;") (by decide +kernel)
  have hl_fieldLink_RX2_134_SpliceBench_Card_shown_I := hts (.fieldLink RX2 134 "SpliceBench$Card" "shown" "I") (by decide +kernel)
  have hl := lv_entry ([.ref x, .int s0, .int i]) (n := 4) (Nat.le_of_ble_eq_true rfl)
  rw [lg_entry_eq]
  generalize (lg_sl ([.ref x, .int s0, .int i]) ++ List.replicate (4 - (lg_sl ([.ref x, .int s0, .int i])).length) Slot.unset).toArray = ls at hl ⊢
  have hl : lv_has ls 4 [(0, .ref x), (1, .int s0), (2, .int i)] := hl
  refine lv_iload_n hx hb dX2_shown_0 rfl (lv_at hl 1 rfl) ?_
  refine vp_callSi (W.runS (As := [.int s0]) (rest := []) F (c_X2_isSpindle) (cwS 1 hts gX2_shown_X2_isSpindle rfl rfl rfl (by decide +kernel) ⟨Nat.le_of_ble_eq_true rfl, Nat.le_of_ble_eq_true rfl⟩) (mw_prS hK hO hW) rfl rfl hl.1 rfl (lv_room (Nat.le_of_ble_eq_true rfl)) dX2_shown_1 ⟨Nat.zero_le _, Nat.zero_le _⟩) (fun r_1 er_1 => ?_)
  subst er_1
  refine lv_if_ne (tgt := 10) hx hb dX2_shown_4 (by decide) (fun c_4 => ?_) (fun c_4 => ?_)
  · obtain ⟨j, hj, rfl⟩ := isSp_of (bI_n c_4)
    have esp_j := isSp_nI hj
    have eix_j : ix (nI j) = j := nI_clamp (by omega)
    refine lv_aload_n hx hb dX2_shown_10 rfl (lv_at hl 0 rfl) ?_
    refine mw_get (C := RX2) (T := TX2) (N := 8) F hK hW hI_X2 hZ.b.1 rfl 0 (by decide) hl_fieldLink_RX2_11_SpliceBench_spindles_LSpliceBench_Holding rfl dX2_shown_11 ?_
    refine lv_iload_n hx hb dX2_shown_14 rfl (lv_at hl 1 rfl) ?_
    refine mw_aald F hK hW 3 hZ.b.2.1 rfl (vp_in_nI (show j < 10 by omega) (by omega)) dX2_shown_15 ?_
    rw [nI_clamp (show j < 2 ^ 31 by omega)]
    refine W.eq (g2 := F0 m 16 ls [.ref (tSp θ j)]) rfl ?_
    obtain ⟨pn, na, ca, lb, f, g, hH, ez, hfs, hgs, hlb⟩ := hZ.hold hI hj
    have hp8 := hH.2.1
    refine lv_iload_n hx hb dX2_shown_16 rfl (lv_at hl 2 rfl) ?_
    refine va_csq (W.runV (As := [.int i]) (rest := []) F (c_X1_cardAt (i := i) hH) (cwV 1 hts gX2_shown_X1_cardAt rfl rfl rfl (by decide +kernel) ⟨Nat.le_of_ble_eq_true rfl, Nat.le_of_ble_eq_true rfl⟩) (mw_prV (q := (RX1, TX1, 5)) hK hO hW rfl hH.1) rfl rfl hl.1 rfl (lv_room (Nat.le_of_ble_eq_true rfl)) dX2_shown_17 ⟨Nat.zero_le _, Nat.zero_le _⟩) (fun r_2 er_2 => ?_)
    subst er_2
    by_cases hin : kRack (kOf σ j) = true ∧ inPl i (nI pn) = true
    · obtain ⟨hrk, hin⟩ := hin
      obtain ⟨i9, hi9, rfl⟩ := inPl_of hp8 hin
      have eix_i : ix (nI i9) = i9 := nI_clamp (by omega)
      rw [cdAt_rack hrk hp8 hi9, hgs hrk i9 hi9]
      rcases hZ.card hI hj hrk ez hp8 hi9 with h0 | ⟨c9, b9, eb9, hb9, hc9, ev9, ec9, hq9, h59⟩
      · rw [h0, cdR_0]
        show W _ _ _ _ _ _ _ _ _ _ _ _ _ _ _ (F0 m 20 ls [.null])
        refine lv_astore_nN (lv' := [(3, .null), (0, .ref x), (1, .int (nI j)), (2, .int (nI i9))]) hx hb dX2_shown_20 rfl hl (by decide) rfl (fun ls hl => ?_)
        refine lv_aload_nN hx hb dX2_shown_21 rfl (lv_at hl 0 rfl) ?_
        refine lv_ifnonnullN hx hb dX2_shown_22 ?_
        refine lv_iconst (v := (-1)) hx hb dX2_shown_25 (by decide) ?_
        refine lv_goto (tgt := 33) hx hb dX2_shown_26 (by decide) ?_
        exact W.iret hx hb hr (fun t ht _ => ⟨_, rfl, (by
          have e8 : anShown σ (nI j) (nI i9) = -1 := by
            show (if isSp (nI j) = true then _ else _) = _
            rw [if_pos esp_j, eix_j, ez, rk_eq hI hj, eix_i, if_neg (fun z => z.2.2 h0)]
          rw [e8]), ht⟩) (fun _ h => by cases h) dX2_shown_33
      · have hn0 : ¬ pV σ j i9 = 0 := by rw [ev9]; exact lN_n0 (by omega)
        rw [cdR_n hn0, ec9]
        show W _ _ _ _ _ _ _ _ _ _ _ _ _ _ _ (F0 m 20 ls [.ref (tCa θ c9)])
        refine lv_astore_n (lv' := [(3, .ref (tCa θ c9)), (0, .ref x), (1, .int (nI j)), (2, .int (nI i9))]) hx hb dX2_shown_20 rfl hl (by decide) rfl (fun ls hl => ?_)
        refine lv_aload_n hx hb dX2_shown_21 rfl (lv_at hl 0 rfl) ?_
        refine lv_ifnonnull (tgt := 29) hx hb dX2_shown_22 (by decide) ?_
        refine lv_aload_n hx hb dX2_shown_29 rfl (lv_at hl 0 rfl) ?_
        refine mw_get (C := RX0) (T := TX0) (N := 3) F hK hW hI_X0 hq9 rfl 2 (by decide) hl_fieldLink_RX2_134_SpliceBench_Card_shown_I rfl dX2_shown_30 ?_
        exact W.iret hx hb hr (fun t ht _ => ⟨_, rfl, (by
          have e8 : anShown σ (nI j) (nI i9) = sCs σ c9 := by
            show (if isSp (nI j) = true then _ else _) = _
            rw [if_pos esp_j, eix_j, ez, rk_eq hI hj, eix_i, if_pos ⟨hrk, hin, hn0⟩, ec9]
          rw [e8]), ht⟩) (fun _ h => by cases h) dX2_shown_33
    · rw [cdAt_none hin]
      show W _ _ _ _ _ _ _ _ _ _ _ _ _ _ _ (F0 m 20 ls [.null])
      refine lv_astore_nN (lv' := [(3, .null), (0, .ref x), (1, .int (nI j)), (2, .int i)]) hx hb dX2_shown_20 rfl hl (by decide) rfl (fun ls hl => ?_)
      refine lv_aload_nN hx hb dX2_shown_21 rfl (lv_at hl 0 rfl) ?_
      refine lv_ifnonnullN hx hb dX2_shown_22 ?_
      refine lv_iconst (v := (-1)) hx hb dX2_shown_25 (by decide) ?_
      refine lv_goto (tgt := 33) hx hb dX2_shown_26 (by decide) ?_
      exact W.iret hx hb hr (fun t ht _ => ⟨_, rfl, (by
        have e8 : anShown σ (nI j) i = -1 := by
          show (if isSp (nI j) = true then _ else _) = _
          rw [if_pos esp_j, eix_j, ez, rk_eq hI hj, if_neg (fun z => hin ⟨z.1, z.2.1⟩)]
        rw [e8]), ht⟩) (fun _ h => by cases h) dX2_shown_33
  · have c_4 := bI_e c_4
    refine lv_bipush (v := (-9)) hx hb dX2_shown_7 (by decide) ?_
    exact W.iret hx hb hr (fun t ht _ => ⟨_, rfl, (by simp [anShown, c_4]), ht⟩) (fun _ h => by cases h) dX2_shown_9
end X2A
