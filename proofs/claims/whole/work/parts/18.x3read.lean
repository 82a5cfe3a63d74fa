section X3R
variable {l : Launch} {D : va_G} {cI cJ cC cH : ClassId} {M : Nat → Option va_E} {sz : Nat}
abbrev rmX3_isSpindle : Room := ({ frames := 0, cells := 0, slots := 0, locals := 0 } : Room)
set_option maxHeartbeats 4000000 in
set_option maxRecDepth 100000 in
theorem c_X3_isSpindle {s0 : Int32} : Met l yX3_isSpindle wsX3_isSpindle rmX3_isSpindle (va_Pc [.int s0] (mwPre D (tyL cI cJ cC cH) M sz)) (vp_Si (fun r => r = bI (isSp s0))) 0 0 (fun _ => False) := by
  refine Met.ofW (cc := cX3_isSpindle) (maxL := 1) (ret := (some .boolean)) (by decide) rfl ?_
  intro pr env s m args below meth c s₁ B hml hv
  obtain ⟨rfl, hsz, hW, hK, hO⟩ := hv
  have hx := B.exec
  have hb := B.bytes
  have hr := B.returns
  have hts := atoms_spec (ws := wsX3_isSpindle) B.pre
  have hown : s.vm.findClass RX3 = some m.cls := findClass_of_methodNamed B.named
  have hlocks := B.notSynchronized
  have F : CallFix pr m c cX3_isSpindle 1 s ([.int s0] : List Value).toArray wsX3_isSpindle RX3 := ⟨hx, hb, hml, hown, hts⟩
  have hl := lv_entry ([.int s0]) (n := 1) (Nat.le_of_ble_eq_true rfl)
  rw [lg_entry_eq]
  generalize (lg_sl ([.int s0]) ++ List.replicate (1 - (lg_sl ([.int s0])).length) Slot.unset).toArray = ls at hl ⊢
  have hl : lv_has ls 1 [(0, .int s0)] := hl
  refine lv_iload_n hx hb dX3_isSpindle_0 rfl (lv_at hl 0 rfl) ?_
  refine lv_if_lt (tgt := 14) hx hb dX3_isSpindle_1 (by decide) (fun c_1 => ?_) (fun c_1 => ?_)
  · refine lv_iconst (v := 0) hx hb dX3_isSpindle_14 (by decide) ?_
    exact W.zret hx hb hr (by first | rfl | exact bI_nar _) (fun t ht _ => ⟨_, rfl, (by first | rfl | simp [bI, isSp, c_1]), ht⟩) (fun _ h => by cases h) dX3_isSpindle_15
  · refine lv_iload_n hx hb dX3_isSpindle_4 rfl (lv_at hl 0 rfl) ?_
    refine lv_bipush (v := 10) hx hb dX3_isSpindle_5 (by decide) ?_
    refine lv_icmp_ge (tgt := 14) hx hb dX3_isSpindle_7 (by decide) (fun c_7 => ?_) (fun c_7 => ?_)
    · refine lv_iconst (v := 0) hx hb dX3_isSpindle_14 (by decide) ?_
      exact W.zret hx hb hr (by first | rfl | exact bI_nar _) (fun t ht _ => ⟨_, rfl, (by first | rfl | simp [bI, isSp, c_1, c_7]), ht⟩) (fun _ h => by cases h) dX3_isSpindle_15
    · refine lv_iconst (v := 1) hx hb dX3_isSpindle_10 (by decide) ?_
      refine lv_goto (tgt := 15) hx hb dX3_isSpindle_11 (by decide) ?_
      exact W.zret hx hb hr (by first | rfl | exact bI_nar _) (fun t ht _ => ⟨_, rfl, (by first | rfl | simp [bI, isSp, c_1, c_7]), ht⟩) (fun _ h => by cases h) dX3_isSpindle_15
abbrev rmX2_isSpindle : Room := ({ frames := 0, cells := 0, slots := 0, locals := 0 } : Room)
set_option maxHeartbeats 4000000 in
set_option maxRecDepth 100000 in
theorem c_X2_isSpindle {s0 : Int32} : Met l yX2_isSpindle wsX2_isSpindle rmX2_isSpindle (va_Pc [.int s0] (mwPre D (tyL cI cJ cC cH) M sz)) (vp_Si (fun r => r = bI (isSp s0))) 0 0 (fun _ => False) := by
  refine Met.ofW (cc := cX2_isSpindle) (maxL := 1) (ret := (some .boolean)) (by decide) rfl ?_
  intro pr env s m args below meth c s₁ B hml hv
  obtain ⟨rfl, hsz, hW, hK, hO⟩ := hv
  have hx := B.exec
  have hb := B.bytes
  have hr := B.returns
  have hts := atoms_spec (ws := wsX2_isSpindle) B.pre
  have hown : s.vm.findClass RX2 = some m.cls := findClass_of_methodNamed B.named
  have hlocks := B.notSynchronized
  have F : CallFix pr m c cX2_isSpindle 1 s ([.int s0] : List Value).toArray wsX2_isSpindle RX2 := ⟨hx, hb, hml, hown, hts⟩
  have hl := lv_entry ([.int s0]) (n := 1) (Nat.le_of_ble_eq_true rfl)
  rw [lg_entry_eq]
  generalize (lg_sl ([.int s0]) ++ List.replicate (1 - (lg_sl ([.int s0])).length) Slot.unset).toArray = ls at hl ⊢
  have hl : lv_has ls 1 [(0, .int s0)] := hl
  refine lv_iload_n hx hb dX2_isSpindle_0 rfl (lv_at hl 0 rfl) ?_
  refine lv_if_lt (tgt := 14) hx hb dX2_isSpindle_1 (by decide) (fun c_1 => ?_) (fun c_1 => ?_)
  · refine lv_iconst (v := 0) hx hb dX2_isSpindle_14 (by decide) ?_
    exact W.zret hx hb hr (by first | rfl | exact bI_nar _) (fun t ht _ => ⟨_, rfl, (by first | rfl | simp [bI, isSp, c_1]), ht⟩) (fun _ h => by cases h) dX2_isSpindle_15
  · refine lv_iload_n hx hb dX2_isSpindle_4 rfl (lv_at hl 0 rfl) ?_
    refine lv_bipush (v := 10) hx hb dX2_isSpindle_5 (by decide) ?_
    refine lv_icmp_ge (tgt := 14) hx hb dX2_isSpindle_7 (by decide) (fun c_7 => ?_) (fun c_7 => ?_)
    · refine lv_iconst (v := 0) hx hb dX2_isSpindle_14 (by decide) ?_
      exact W.zret hx hb hr (by first | rfl | exact bI_nar _) (fun t ht _ => ⟨_, rfl, (by first | rfl | simp [bI, isSp, c_1, c_7]), ht⟩) (fun _ h => by cases h) dX2_isSpindle_15
    · refine lv_iconst (v := 1) hx hb dX2_isSpindle_10 (by decide) ?_
      refine lv_goto (tgt := 15) hx hb dX2_isSpindle_11 (by decide) ?_
      exact W.zret hx hb hr (by first | rfl | exact bI_nar _) (fun t ht _ => ⟨_, rfl, (by first | rfl | simp [bI, isSp, c_1, c_7]), ht⟩) (fun _ h => by cases h) dX2_isSpindle_15
abbrev rmX3_kindOf : Room := ({ frames := 0, cells := 0, slots := 0, locals := 0 } : Room)
set_option maxHeartbeats 4000000 in
set_option maxRecDepth 100000 in
theorem c_X3_kindOf {mm : Nat} {ad : Nat → Nat} {σ : RS} (hR : refAt cI cJ mm ad σ M) {j : Nat} (hj : j < 10) (ho : hoOk (sHo σ j)) : Met l yX3_kindOf wsX3_kindOf rmX3_kindOf (va_Pc [.ref mm, .int (nI j)] (mwPre D (tyL cI cJ cC cH) M sz)) (vp_Si (fun r => r = kOf σ j)) 0 0 (fun _ => False) := by
  refine Met.ofW (cc := cX3_kindOf) (maxL := 2) (ret := (some .int)) (by decide) rfl ?_
  intro pr env s m args below meth c s₁ B hml hv
  obtain ⟨rfl, hsz, hW, hK, hO⟩ := hv
  have hx := B.exec
  have hb := B.bytes
  have hr := B.returns
  have hts := atoms_spec (ws := wsX3_kindOf) B.pre
  have hown : s.vm.findClass RX3 = some m.cls := findClass_of_methodNamed B.named
  have hlocks := B.notSynchronized
  have F : CallFix pr m c cX3_kindOf 2 s ([.ref mm, .int (nI j)] : List Value).toArray wsX3_kindOf RX3 := ⟨hx, hb, hml, hown, hts⟩
  have hI_X3 : ∀ w ∈ wsX30, w ∈ wsX3_kindOf := by decide +kernel
  have hl_fieldLink_RX3_7_SpliceBenchModel_holds_I := hts (.fieldLink RX3 7 "SpliceBenchModel" "holds" "[I") (by decide +kernel)
  have hl_fieldLink_RX3_16_SpliceBenchModel_kind_I := hts (.fieldLink RX3 16 "SpliceBenchModel" "kind" "[I") (by decide +kernel)
  have hl := lv_entry ([.ref mm, .int (nI j)]) (n := 2) (Nat.le_of_ble_eq_true rfl)
  rw [lg_entry_eq]
  generalize (lg_sl ([.ref mm, .int (nI j)]) ++ List.replicate (2 - (lg_sl ([.ref mm, .int (nI j)])).length) Slot.unset).toArray = ls at hl ⊢
  have hl : lv_has ls 2 [(0, .ref mm), (1, .int (nI j))] := hl
  refine lv_aload_n hx hb dX3_kindOf_0 rfl (lv_at hl 0 rfl) ?_
  refine mw_get (C := RX3) (T := TX3) (N := 14) F hK hW hI_X3 hR.1 rfl 0 (by decide) hl_fieldLink_RX3_7_SpliceBenchModel_holds_I rfl dX3_kindOf_1 ?_
  refine lv_iload_n hx hb dX3_kindOf_4 rfl (lv_at hl 1 rfl) ?_
  refine mw_iald F hK hW 0 hR.2.1 rfl (vp_in_nI (show j < 10 by omega) (by omega)) dX3_kindOf_5 ?_
  rw [nI_clamp (show j < 2 ^ 31 by omega)]
  refine lv_if_ne (tgt := 13) hx hb dX3_kindOf_6 (by decide) (fun c_6 => ?_) (fun c_6 => ?_)
  · refine lv_aload_n hx hb dX3_kindOf_13 rfl (lv_at hl 0 rfl) ?_
    refine mw_get (C := RX3) (T := TX3) (N := 14) F hK hW hI_X3 hR.1 rfl 0 (by decide) hl_fieldLink_RX3_7_SpliceBenchModel_holds_I rfl dX3_kindOf_14 ?_
    refine lv_iload_n hx hb dX3_kindOf_17 rfl (lv_at hl 1 rfl) ?_
    refine mw_iald F hK hW 0 hR.2.1 rfl (vp_in_nI (show j < 10 by omega) (by omega)) dX3_kindOf_18 ?_
    rw [nI_clamp (show j < 2 ^ 31 by omega)]
    refine lv_if_ge (tgt := 26) hx hb dX3_kindOf_19 (by decide) (fun c_19 => ?_) (fun c_19 => ?_)
    · refine lv_aload_n hx hb dX3_kindOf_26 rfl (lv_at hl 0 rfl) ?_
      refine mw_get (C := RX3) (T := TX3) (N := 14) F hK hW hI_X3 hR.1 rfl 2 (by decide) hl_fieldLink_RX3_16_SpliceBenchModel_kind_I rfl dX3_kindOf_27 ?_
      refine lv_aload_n hx hb dX3_kindOf_30 rfl (lv_at hl 0 rfl) ?_
      refine mw_get (C := RX3) (T := TX3) (N := 14) F hK hW hI_X3 hR.1 rfl 0 (by decide) hl_fieldLink_RX3_7_SpliceBenchModel_holds_I rfl dX3_kindOf_31 ?_
      refine lv_iload_n hx hb dX3_kindOf_34 rfl (lv_at hl 1 rfl) ?_
      refine mw_iald F hK hW 0 hR.2.1 rfl (vp_in_nI (show j < 10 by omega) (by omega)) dX3_kindOf_35 ?_
      rw [nI_clamp (show j < 2 ^ 31 by omega)]
      refine lv_iconst (v := 1) hx hb dX3_kindOf_36 (by decide) ?_
      refine lv_isub hx hb dX3_kindOf_37 ?_
      obtain ⟨k9, hk9, e9⟩ := ho.row c_6 (Int32.not_lt.mpr c_19)
      rw [e9, nI_pred]
      refine mw_iald F hK hW 0 hR.2.2.2.1 rfl (vp_in_nI (show k9 < 12 by omega) (by omega)) dX3_kindOf_38 ?_
      rw [nI_clamp (show k9 < 2 ^ 31 by omega)]
      exact W.iret hx hb hr (fun t ht _ => ⟨_, rfl, (kOf_row hk9 e9).symm, ht⟩) (fun _ h => by cases h) dX3_kindOf_39
    · refine lv_iconst (v := 1) hx hb dX3_kindOf_22 (by decide) ?_
      refine lv_goto (tgt := 39) hx hb dX3_kindOf_23 (by decide) ?_
      exact W.iret hx hb hr (fun t ht _ => ⟨_, rfl, (by unfold kOf; rw [if_neg c_6, if_pos (Int32.not_le.mp c_19)]), ht⟩) (fun _ h => by cases h) dX3_kindOf_39
  · refine lv_iconst (v := 0) hx hb dX3_kindOf_9 (by decide) ?_
    refine lv_goto (tgt := 39) hx hb dX3_kindOf_10 (by decide) ?_
    exact W.iret hx hb hr (fun t ht _ => ⟨_, rfl, (kOf_0 c_6).symm, ht⟩) (fun _ h => by cases h) dX3_kindOf_39
abbrev rmX3_hasPlaces : Room := ({ frames := 0, cells := 0, slots := 0, locals := 0 } : Room)
set_option maxHeartbeats 4000000 in
set_option maxRecDepth 100000 in
theorem c_X3_hasPlaces {mm : Nat} {ad : Nat → Nat} {σ : RS} (hR : refAt cI cJ mm ad σ M) {j : Nat} (hj : j < 10) : Met l yX3_hasPlaces wsX3_hasPlaces rmX3_hasPlaces (va_Pc [.ref mm, .int (nI j)] (mwPre D (tyL cI cJ cC cH) M sz)) (vp_Si (fun r => r = bI (hasP σ j))) 0 0 (fun _ => False) := by
  refine Met.ofW (cc := cX3_hasPlaces) (maxL := 2) (ret := (some .boolean)) (by decide) rfl ?_
  intro pr env s m args below meth c s₁ B hml hv
  obtain ⟨rfl, hsz, hW, hK, hO⟩ := hv
  have hx := B.exec
  have hb := B.bytes
  have hr := B.returns
  have hts := atoms_spec (ws := wsX3_hasPlaces) B.pre
  have hown : s.vm.findClass RX3 = some m.cls := findClass_of_methodNamed B.named
  have hlocks := B.notSynchronized
  have F : CallFix pr m c cX3_hasPlaces 2 s ([.ref mm, .int (nI j)] : List Value).toArray wsX3_hasPlaces RX3 := ⟨hx, hb, hml, hown, hts⟩
  have hI_X3 : ∀ w ∈ wsX30, w ∈ wsX3_hasPlaces := by decide +kernel
  have hl_fieldLink_RX3_7_SpliceBenchModel_holds_I := hts (.fieldLink RX3 7 "SpliceBenchModel" "holds" "[I") (by decide +kernel)
  have hl := lv_entry ([.ref mm, .int (nI j)]) (n := 2) (Nat.le_of_ble_eq_true rfl)
  rw [lg_entry_eq]
  generalize (lg_sl ([.ref mm, .int (nI j)]) ++ List.replicate (2 - (lg_sl ([.ref mm, .int (nI j)])).length) Slot.unset).toArray = ls at hl ⊢
  have hl : lv_has ls 2 [(0, .ref mm), (1, .int (nI j))] := hl
  refine lv_aload_n hx hb dX3_hasPlaces_0 rfl (lv_at hl 0 rfl) ?_
  refine mw_get (C := RX3) (T := TX3) (N := 14) F hK hW hI_X3 hR.1 rfl 0 (by decide) hl_fieldLink_RX3_7_SpliceBenchModel_holds_I rfl dX3_hasPlaces_1 ?_
  refine lv_iload_n hx hb dX3_hasPlaces_4 rfl (lv_at hl 1 rfl) ?_
  refine mw_iald F hK hW 0 hR.2.1 rfl (vp_in_nI (show j < 10 by omega) (by omega)) dX3_hasPlaces_5 ?_
  rw [nI_clamp (show j < 2 ^ 31 by omega)]
  refine lv_if_le (tgt := 13) hx hb dX3_hasPlaces_6 (by decide) (fun c_6 => ?_) (fun c_6 => ?_)
  · refine lv_iconst (v := 0) hx hb dX3_hasPlaces_13 (by decide) ?_
    exact W.zret hx hb hr (by first | rfl | exact bI_nar _) (fun t ht _ => ⟨_, rfl, (by unfold hasP; rw [decide_eq_false (Int32.not_lt.mpr c_6)]; rfl), ht⟩) (fun _ h => by cases h) dX3_hasPlaces_14
  · refine lv_iconst (v := 1) hx hb dX3_hasPlaces_9 (by decide) ?_
    refine lv_goto (tgt := 14) hx hb dX3_hasPlaces_10 (by decide) ?_
    exact W.zret hx hb hr (by first | rfl | exact bI_nar _) (fun t ht _ => ⟨_, rfl, (by unfold hasP; rw [decide_eq_true (Int32.not_le.mp c_6)]; rfl), ht⟩) (fun _ h => by cases h) dX3_hasPlaces_14
abbrev rmX3_sizeOf : Room := ({ frames := 1, cells := 0, slots := 0, locals := 21 } : Room)
set_option maxHeartbeats 4000000 in
set_option maxRecDepth 100000 in
theorem c_X3_sizeOf {mm : Nat} {ad : Nat → Nat} {σ : RS} (hR : refAt cI cJ mm ad σ M) {j : Nat} (hj : j < 10) (ho : hoOk (sHo σ j)) : Met l yX3_sizeOf wsX3_sizeOf rmX3_sizeOf (va_Pc [.ref mm, .int (nI j)] (mwPre D (tyL cI cJ cC cH) M sz)) (vp_Si (fun r => r = szOf σ j)) 0 0 (fun _ => False) := by
  refine Met.ofW (cc := cX3_sizeOf) (maxL := 2) (ret := (some .int)) (by decide) rfl ?_
  intro pr env s m args below meth c s₁ B hml hv
  obtain ⟨rfl, hsz, hW, hK, hO⟩ := hv
  have hx := B.exec
  have hb := B.bytes
  have hr := B.returns
  have hts := atoms_spec (ws := wsX3_sizeOf) B.pre
  have hown : s.vm.findClass RX3 = some m.cls := findClass_of_methodNamed B.named
  have hlocks := B.notSynchronized
  have F : CallFix pr m c cX3_sizeOf 2 s ([.ref mm, .int (nI j)] : List Value).toArray wsX3_sizeOf RX3 := ⟨hx, hb, hml, hown, hts⟩
  have hI_X3 : ∀ w ∈ wsX30, w ∈ wsX3_sizeOf := by decide +kernel
  have hl_fieldLink_RX3_19_SpliceBenchModel_size_I := hts (.fieldLink RX3 19 "SpliceBenchModel" "size" "[I") (by decide +kernel)
  have hl_fieldLink_RX3_7_SpliceBenchModel_holds_I := hts (.fieldLink RX3 7 "SpliceBenchModel" "holds" "[I") (by decide +kernel)
  have hl := lv_entry ([.ref mm, .int (nI j)]) (n := 2) (Nat.le_of_ble_eq_true rfl)
  rw [lg_entry_eq]
  generalize (lg_sl ([.ref mm, .int (nI j)]) ++ List.replicate (2 - (lg_sl ([.ref mm, .int (nI j)])).length) Slot.unset).toArray = ls at hl ⊢
  have hl : lv_has ls 2 [(0, .ref mm), (1, .int (nI j))] := hl
  refine lv_aload_n hx hb dX3_sizeOf_0 rfl (lv_at hl 0 rfl) ?_
  refine lv_iload_n hx hb dX3_sizeOf_1 rfl (lv_at hl 1 rfl) ?_
  refine vp_callSi (W.runV (As := [.int (nI j)]) (rest := []) F (c_X3_hasPlaces hR (show j < 10 by omega)) (cwV 1 hts gX3_sizeOf_X3_hasPlaces rfl rfl rfl (by decide +kernel) ⟨Nat.le_of_ble_eq_true rfl, Nat.le_of_ble_eq_true rfl⟩) (mw_prV (q := (RX3, TX3, 14)) hK hO hW rfl hR.1) rfl rfl hl.1 rfl (lv_room (Nat.le_of_ble_eq_true rfl)) dX3_sizeOf_2 ⟨Nat.zero_le _, Nat.zero_le _⟩) (fun r_1 er_1 => ?_)
  subst er_1
  refine lv_if_eq (tgt := 24) hx hb dX3_sizeOf_5 (by decide) (fun c_5 => ?_) (fun c_5 => ?_)
  · have c_5 := bI_e c_5
    refine lv_iconst (v := 0) hx hb dX3_sizeOf_24 (by decide) ?_
    exact W.iret hx hb hr (fun t ht _ => ⟨_, rfl, (szOf_n c_5).symm, ht⟩) (fun _ h => by cases h) dX3_sizeOf_25
  · have c_5 := bI_n c_5
    refine lv_aload_n hx hb dX3_sizeOf_8 rfl (lv_at hl 0 rfl) ?_
    refine mw_get (C := RX3) (T := TX3) (N := 14) F hK hW hI_X3 hR.1 rfl 3 (by decide) hl_fieldLink_RX3_19_SpliceBenchModel_size_I rfl dX3_sizeOf_9 ?_
    refine lv_aload_n hx hb dX3_sizeOf_12 rfl (lv_at hl 0 rfl) ?_
    refine mw_get (C := RX3) (T := TX3) (N := 14) F hK hW hI_X3 hR.1 rfl 0 (by decide) hl_fieldLink_RX3_7_SpliceBenchModel_holds_I rfl dX3_sizeOf_13 ?_
    refine lv_iload_n hx hb dX3_sizeOf_16 rfl (lv_at hl 1 rfl) ?_
    refine mw_iald F hK hW 0 hR.2.1 rfl (vp_in_nI (show j < 10 by omega) (by omega)) dX3_sizeOf_17 ?_
    rw [nI_clamp (show j < 2 ^ 31 by omega)]
    refine lv_iconst (v := 1) hx hb dX3_sizeOf_18 (by decide) ?_
    refine lv_isub hx hb dX3_sizeOf_19 ?_
    obtain ⟨k9, hk9, e9⟩ := ho.rowP (of_decide_eq_true c_5)
    rw [e9, nI_pred]
    refine mw_iald F hK hW 0 hR.2.2.2.2.1 rfl (vp_in_nI (show k9 < 12 by omega) (by omega)) dX3_sizeOf_20 ?_
    rw [nI_clamp (show k9 < 2 ^ 31 by omega)]
    refine lv_goto (tgt := 25) hx hb dX3_sizeOf_21 (by decide) ?_
    exact W.iret hx hb hr (fun t ht _ => ⟨_, rfl, (szOf_row hk9 e9).symm, ht⟩) (fun _ h => by cases h) dX3_sizeOf_25
abbrev rmX3_isRack : Room := ({ frames := 1, cells := 0, slots := 0, locals := 21 } : Room)
set_option maxHeartbeats 4000000 in
set_option maxRecDepth 100000 in
theorem c_X3_isRack {mm : Nat} {ad : Nat → Nat} {σ : RS} (hR : refAt cI cJ mm ad σ M) {j : Nat} (hj : j < 10) (ho : hoOk (sHo σ j)) : Met l yX3_isRack wsX3_isRack rmX3_isRack (va_Pc [.ref mm, .int (nI j)] (mwPre D (tyL cI cJ cC cH) M sz)) (vp_Si (fun r => r = bI (rkOf σ j))) 0 0 (fun _ => False) := by
  refine Met.ofW (cc := cX3_isRack) (maxL := 2) (ret := (some .boolean)) (by decide) rfl ?_
  intro pr env s m args below meth c s₁ B hml hv
  obtain ⟨rfl, hsz, hW, hK, hO⟩ := hv
  have hx := B.exec
  have hb := B.bytes
  have hr := B.returns
  have hts := atoms_spec (ws := wsX3_isRack) B.pre
  have hown : s.vm.findClass RX3 = some m.cls := findClass_of_methodNamed B.named
  have hlocks := B.notSynchronized
  have F : CallFix pr m c cX3_isRack 2 s ([.ref mm, .int (nI j)] : List Value).toArray wsX3_isRack RX3 := ⟨hx, hb, hml, hown, hts⟩
  have hl := lv_entry ([.ref mm, .int (nI j)]) (n := 2) (Nat.le_of_ble_eq_true rfl)
  rw [lg_entry_eq]
  generalize (lg_sl ([.ref mm, .int (nI j)]) ++ List.replicate (2 - (lg_sl ([.ref mm, .int (nI j)])).length) Slot.unset).toArray = ls at hl ⊢
  have hl : lv_has ls 2 [(0, .ref mm), (1, .int (nI j))] := hl
  refine lv_aload_n hx hb dX3_isRack_0 rfl (lv_at hl 0 rfl) ?_
  refine lv_iload_n hx hb dX3_isRack_1 rfl (lv_at hl 1 rfl) ?_
  refine vp_callSi (W.runV (As := [.int (nI j)]) (rest := []) F (c_X3_kindOf hR (show j < 10 by omega) ho) (cwV 1 hts gX3_isRack_X3_kindOf rfl rfl rfl (by decide +kernel) ⟨Nat.le_of_ble_eq_true rfl, Nat.le_of_ble_eq_true rfl⟩) (mw_prV (q := (RX3, TX3, 14)) hK hO hW rfl hR.1) rfl rfl hl.1 rfl (lv_room (Nat.le_of_ble_eq_true rfl)) dX3_isRack_2 ⟨Nat.zero_le _, Nat.zero_le _⟩) (fun r_1 er_1 => ?_)
  subst er_1
  refine lv_iconst (v := 4) hx hb dX3_isRack_5 (by decide) ?_
  refine lv_icmp_lt (tgt := 13) hx hb dX3_isRack_6 (by decide) (fun c_6 => ?_) (fun c_6 => ?_)
  · refine lv_iconst (v := 0) hx hb dX3_isRack_13 (by decide) ?_
    exact W.zret hx hb hr (by first | rfl | exact bI_nar _) (fun t ht _ => ⟨_, rfl, (by unfold rkOf; rw [decide_eq_false (Int32.not_le.mpr c_6)]; rfl), ht⟩) (fun _ h => by cases h) dX3_isRack_14
  · refine lv_iconst (v := 1) hx hb dX3_isRack_9 (by decide) ?_
    refine lv_goto (tgt := 14) hx hb dX3_isRack_10 (by decide) ?_
    exact W.zret hx hb hr (by first | rfl | exact bI_nar _) (fun t ht _ => ⟨_, rfl, (by unfold rkOf; rw [decide_eq_true (Int32.not_lt.mp c_6)]; rfl), ht⟩) (fun _ h => by cases h) dX3_isRack_14
abbrev rmX3_isPlace : Room := ({ frames := 2, cells := 0, slots := 0, locals := 42 } : Room)
set_option maxHeartbeats 4000000 in
set_option maxRecDepth 100000 in
theorem c_X3_isPlace {mm : Nat} {ad : Nat → Nat} {σ : RS} (hR : refAt cI cJ mm ad σ M) {j : Nat} (hj : j < 10) {i : Int32} (ho : hoOk (sHo σ j)) : Met l yX3_isPlace wsX3_isPlace rmX3_isPlace (va_Pc [.ref mm, .int (nI j), .int i] (mwPre D (tyL cI cJ cC cH) M sz)) (vp_Si (fun r => r = bI (inPl i (szOf σ j)))) 0 0 (fun _ => False) := by
  refine Met.ofW (cc := cX3_isPlace) (maxL := 3) (ret := (some .boolean)) (by decide) rfl ?_
  intro pr env s m args below meth c s₁ B hml hv
  obtain ⟨rfl, hsz, hW, hK, hO⟩ := hv
  have hx := B.exec
  have hb := B.bytes
  have hr := B.returns
  have hts := atoms_spec (ws := wsX3_isPlace) B.pre
  have hown : s.vm.findClass RX3 = some m.cls := findClass_of_methodNamed B.named
  have hlocks := B.notSynchronized
  have F : CallFix pr m c cX3_isPlace 3 s ([.ref mm, .int (nI j), .int i] : List Value).toArray wsX3_isPlace RX3 := ⟨hx, hb, hml, hown, hts⟩
  have hl := lv_entry ([.ref mm, .int (nI j), .int i]) (n := 3) (Nat.le_of_ble_eq_true rfl)
  rw [lg_entry_eq]
  generalize (lg_sl ([.ref mm, .int (nI j), .int i]) ++ List.replicate (3 - (lg_sl ([.ref mm, .int (nI j), .int i])).length) Slot.unset).toArray = ls at hl ⊢
  have hl : lv_has ls 3 [(0, .ref mm), (1, .int (nI j)), (2, .int i)] := hl
  refine lv_iload_n hx hb dX3_isPlace_0 rfl (lv_at hl 2 rfl) ?_
  refine lv_if_lt (tgt := 17) hx hb dX3_isPlace_1 (by decide) (fun c_1 => ?_) (fun c_1 => ?_)
  · refine lv_iconst (v := 0) hx hb dX3_isPlace_17 (by decide) ?_
    exact W.zret hx hb hr (by first | rfl | exact bI_nar _) (fun t ht _ => ⟨_, rfl, (by first | rfl | simp [bI, inPl, c_1]), ht⟩) (fun _ h => by cases h) dX3_isPlace_18
  · refine lv_iload_n hx hb dX3_isPlace_4 rfl (lv_at hl 2 rfl) ?_
    refine lv_aload_n hx hb dX3_isPlace_5 rfl (lv_at hl 0 rfl) ?_
    refine lv_iload_n hx hb dX3_isPlace_6 rfl (lv_at hl 1 rfl) ?_
    refine vp_callSi (W.runV (As := [.int (nI j)]) (rest := [.int i]) F (c_X3_sizeOf hR (show j < 10 by omega) ho) (cwV 1 hts gX3_isPlace_X3_sizeOf rfl rfl rfl (by decide +kernel) ⟨Nat.le_of_ble_eq_true rfl, Nat.le_of_ble_eq_true rfl⟩) (mw_prV (q := (RX3, TX3, 14)) hK hO hW rfl hR.1) rfl rfl hl.1 rfl (lv_room (Nat.le_of_ble_eq_true rfl)) dX3_isPlace_7 ⟨Nat.zero_le _, Nat.zero_le _⟩) (fun r_1 er_1 => ?_)
    subst er_1
    refine lv_icmp_ge (tgt := 17) hx hb dX3_isPlace_10 (by decide) (fun c_10 => ?_) (fun c_10 => ?_)
    · refine lv_iconst (v := 0) hx hb dX3_isPlace_17 (by decide) ?_
      exact W.zret hx hb hr (by first | rfl | exact bI_nar _) (fun t ht _ => ⟨_, rfl, (by first | rfl | simp [bI, inPl, c_1, c_10]), ht⟩) (fun _ h => by cases h) dX3_isPlace_18
    · refine lv_iconst (v := 1) hx hb dX3_isPlace_13 (by decide) ?_
      refine lv_goto (tgt := 18) hx hb dX3_isPlace_14 (by decide) ?_
      exact W.zret hx hb hr (by first | rfl | exact bI_nar _) (fun t ht _ => ⟨_, rfl, (by first | rfl | simp [bI, inPl, c_1, c_10]), ht⟩) (fun _ h => by cases h) dX3_isPlace_18
abbrev rmX3_place : Room := ({ frames := 0, cells := 0, slots := 0, locals := 0 } : Room)
set_option maxHeartbeats 4000000 in
set_option maxRecDepth 100000 in
theorem c_X3_place {mm : Nat} {ad : Nat → Nat} {σ : RS} (hR : refAt cI cJ mm ad σ M) {j : Nat} (hj : j < 10) {i k : Nat} (hk : k < 12) (hi : i < 80) (e9 : sHo σ j = nI (k + 1)) : Met l yX3_place wsX3_place rmX3_place (va_Pc [.ref mm, .int (nI j), .int (nI i)] (mwPre D (tyL cI cJ cC cH) M sz)) (vp_Sl (fun r => r = sPl σ (80 * k + i))) 0 0 (fun _ => False) := by
  refine Met.ofW (cc := cX3_place) (maxL := 3) (ret := (some .long)) (by decide) rfl ?_
  intro pr env s m args below meth c s₁ B hml hv
  obtain ⟨rfl, hsz, hW, hK, hO⟩ := hv
  have hx := B.exec
  have hb := B.bytes
  have hr := B.returns
  have hts := atoms_spec (ws := wsX3_place) B.pre
  have hown : s.vm.findClass RX3 = some m.cls := findClass_of_methodNamed B.named
  have hlocks := B.notSynchronized
  have F : CallFix pr m c cX3_place 3 s ([.ref mm, .int (nI j), .int (nI i)] : List Value).toArray wsX3_place RX3 := ⟨hx, hb, hml, hown, hts⟩
  have hI_X3 : ∀ w ∈ wsX30, w ∈ wsX3_place := by decide +kernel
  have hl_fieldLink_RX3_22_SpliceBenchModel_places_J := hts (.fieldLink RX3 22 "SpliceBenchModel" "places" "[J") (by decide +kernel)
  have hl_fieldLink_RX3_7_SpliceBenchModel_holds_I := hts (.fieldLink RX3 7 "SpliceBenchModel" "holds" "[I") (by decide +kernel)
  have hl := lv_entry ([.ref mm, .int (nI j), .int (nI i)]) (n := 3) (Nat.le_of_ble_eq_true rfl)
  rw [lg_entry_eq]
  generalize (lg_sl ([.ref mm, .int (nI j), .int (nI i)]) ++ List.replicate (3 - (lg_sl ([.ref mm, .int (nI j), .int (nI i)])).length) Slot.unset).toArray = ls at hl ⊢
  have hl : lv_has ls 3 [(0, .ref mm), (1, .int (nI j)), (2, .int (nI i))] := hl
  refine lv_aload_n hx hb dX3_place_0 rfl (lv_at hl 0 rfl) ?_
  refine mw_get (C := RX3) (T := TX3) (N := 14) F hK hW hI_X3 hR.1 rfl 4 (by decide) hl_fieldLink_RX3_22_SpliceBenchModel_places_J rfl dX3_place_1 ?_
  refine lv_bipush (v := 80) hx hb dX3_place_4 (by decide) ?_
  refine lv_aload_n hx hb dX3_place_6 rfl (lv_at hl 0 rfl) ?_
  refine mw_get (C := RX3) (T := TX3) (N := 14) F hK hW hI_X3 hR.1 rfl 0 (by decide) hl_fieldLink_RX3_7_SpliceBenchModel_holds_I rfl dX3_place_7 ?_
  refine lv_iload_n hx hb dX3_place_10 rfl (lv_at hl 1 rfl) ?_
  refine mw_iald F hK hW 0 hR.2.1 rfl (vp_in_nI (show j < 10 by omega) (by omega)) dX3_place_11 ?_
  rw [nI_clamp (show j < 2 ^ 31 by omega)]
  refine lv_iconst (v := 1) hx hb dX3_place_12 (by decide) ?_
  refine lv_isub hx hb dX3_place_13 ?_
  rw [e9, nI_pred]
  refine lv_imul hx hb dX3_place_14 ?_
  rw [show (80 : Int32) = nI 80 from rfl, pk_mul]
  refine lv_iload_n hx hb dX3_place_15 rfl (lv_at hl 2 rfl) ?_
  refine lv_iadd hx hb dX3_place_16 ?_
  rw [nI_add]
  refine mw_lald F hK hW 1 hR.2.2.2.2.2.1 rfl (vp_in_nI (show (80 * k + i) < 960 by omega) (by omega)) dX3_place_17 ?_
  rw [nI_clamp (show (80 * k + i) < 2 ^ 31 by omega)]
  exact W.lret hx hb hr (fun t ht _ => ⟨_, rfl, rfl, ht⟩) (fun _ h => by cases h) dX3_place_18
abbrev rmX3_isPlain : Room := ({ frames := 0, cells := 0, slots := 0, locals := 0 } : Room)
set_option maxHeartbeats 4000000 in
set_option maxRecDepth 100000 in
theorem c_X3_isPlain {mm : Nat} {ad : Nat → Nat} {σ : RS} (hR : refAt cI cJ mm ad σ M) {v : Int64} (hv : v = 0 ∨ ∃ c, c < 2000 ∧ v = lN (c + 1)) : Met l yX3_isPlain wsX3_isPlain rmX3_isPlain (va_Pc [.ref mm, .long v] (mwPre D (tyL cI cJ cC cH) M sz)) (vp_Si (fun r => r = bI (plainV σ v))) 0 0 (fun _ => False) := by
  refine Met.ofW (cc := cX3_isPlain) (maxL := 3) (ret := (some .boolean)) (by decide) rfl ?_
  intro pr env s m args below meth c s₁ B hml hv
  obtain ⟨rfl, hsz, hW, hK, hO⟩ := hv
  have hx := B.exec
  have hb := B.bytes
  have hr := B.returns
  have hts := atoms_spec (ws := wsX3_isPlain) B.pre
  have hown : s.vm.findClass RX3 = some m.cls := findClass_of_methodNamed B.named
  have hlocks := B.notSynchronized
  have F : CallFix pr m c cX3_isPlain 3 s ([.ref mm, .long v] : List Value).toArray wsX3_isPlain RX3 := ⟨hx, hb, hml, hown, hts⟩
  have hI_X3 : ∀ w ∈ wsX30, w ∈ wsX3_isPlain := by decide +kernel
  have hl_fieldLink_RX3_29_SpliceBenchModel_cardNumber_J := hts (.fieldLink RX3 29 "SpliceBenchModel" "cardNumber" "[J") (by decide +kernel)
  have hl := lv_entry ([.ref mm, .long v]) (n := 3) (Nat.le_of_ble_eq_true rfl)
  rw [lg_entry_eq]
  generalize (lg_sl ([.ref mm, .long v]) ++ List.replicate (3 - (lg_sl ([.ref mm, .long v])).length) Slot.unset).toArray = ls at hl ⊢
  have hl : lv_has ls 3 [(0, .ref mm), (1, .long v)] := hl
  refine lv_lload_n hx hb dX3_isPlain_0 rfl (lv_at hl 1 rfl) ?_
  refine lv_lconst (v := 0) hx hb dX3_isPlain_1 (by decide) ?_
  refine W.lcmp hx hb dX3_isPlain_2 ?_
  refine lv_if_eq (tgt := 26) hx hb dX3_isPlain_3 (by decide) (fun c_3 => ?_) (fun c_3 => ?_)
  · refine lv_iconst (v := 0) hx hb dX3_isPlain_26 (by decide) ?_
    exact W.zret hx hb hr (by first | rfl | exact bI_nar _) (fun t ht _ => ⟨_, rfl, (by unfold plainV; rw [(lg_cmp_eq _ _).mp c_3]; rfl), ht⟩) (fun _ h => by cases h) dX3_isPlain_27
  · have c_3 : ¬ (_ = _) := fun h9 => c_3 ((lg_cmp_eq _ _).mpr h9)
    obtain ⟨c9, hc9, e9⟩ := hv.resolve_left c_3
    refine lv_aload_n hx hb dX3_isPlain_6 rfl (lv_at hl 0 rfl) ?_
    refine mw_get (C := RX3) (T := TX3) (N := 14) F hK hW hI_X3 hR.1 rfl 6 (by decide) hl_fieldLink_RX3_29_SpliceBenchModel_cardNumber_J rfl dX3_isPlain_7 ?_
    refine lv_lload_n hx hb dX3_isPlain_10 rfl (lv_at hl 1 rfl) ?_
    refine lv_l2i hx hb dX3_isPlain_11 rfl ?_
    refine lv_iconst (v := 1) hx hb dX3_isPlain_12 (by decide) ?_
    refine lv_isub hx hb dX3_isPlain_13 ?_
    rw [show v.toInt32 - 1 = nI c9 by rw [e9, lN_i, nI_pred]]
    refine mw_lald F hK hW 1 hR.2.2.2.2.2.2.2.1 rfl (vp_in_nI (show c9 < 2000 by omega) (by omega)) dX3_isPlain_14 ?_
    rw [nI_clamp (show c9 < 2 ^ 31 by omega)]
    refine lv_lconst (v := 1) hx hb dX3_isPlain_15 (by decide) ?_
    refine lv_land hx hb dX3_isPlain_16 ?_
    refine lv_lconst (v := 1) hx hb dX3_isPlain_17 (by decide) ?_
    refine W.lcmp hx hb dX3_isPlain_18 ?_
    refine lv_if_ne (tgt := 26) hx hb dX3_isPlain_19 (by decide) (fun c_19 => ?_) (fun c_19 => ?_)
    · refine lv_iconst (v := 0) hx hb dX3_isPlain_26 (by decide) ?_
      exact W.zret hx hb hr (by first | rfl | exact bI_nar _) (fun t ht _ => ⟨_, rfl, (by unfold plainV; rw [e9, cIx_lN hc9, decide_eq_false (lN_n0 hc9), decide_eq_false (fun z => c_19 ((lg_cmp_eq _ _).mpr z))]; rfl), ht⟩) (fun _ h => by cases h) dX3_isPlain_27
    · refine lv_iconst (v := 1) hx hb dX3_isPlain_22 (by decide) ?_
      refine lv_goto (tgt := 27) hx hb dX3_isPlain_23 (by decide) ?_
      exact W.zret hx hb hr (by first | rfl | exact bI_nar _) (fun t ht _ => ⟨_, rfl, (by unfold plainV; rw [e9, cIx_lN hc9, (lg_cmp_eq _ _).mp c_19, decide_eq_false (lN_n0 hc9)]; rfl), ht⟩) (fun _ h => by cases h) dX3_isPlain_27
abbrev rmX3_isHeld : Room := ({ frames := 0, cells := 0, slots := 0, locals := 0 } : Room)
set_option maxHeartbeats 4000000 in
set_option maxRecDepth 100000 in
theorem c_X3_isHeld {mm : Nat} {ad : Nat → Nat} {σ : RS} (hR : refAt cI cJ mm ad σ M) {th : Int32} : Met l yX3_isHeld wsX3_isHeld rmX3_isHeld (va_Pc [.ref mm, .int th] (mwPre D (tyL cI cJ cC cH) M sz)) (vp_Si (fun r => r = bI (heldB σ th))) 0 0 (fun _ => False) := by
  refine Met.ofW (cc := cX3_isHeld) (maxL := 4) (ret := (some .boolean)) (by decide) rfl ?_
  intro pr env s m args below meth c s₁ B hml hv
  obtain ⟨rfl, hsz, hW, hK, hO⟩ := hv
  have hx := B.exec
  have hb := B.bytes
  have hr := B.returns
  have hts := atoms_spec (ws := wsX3_isHeld) B.pre
  have hown : s.vm.findClass RX3 = some m.cls := findClass_of_methodNamed B.named
  have hlocks := B.notSynchronized
  have F : CallFix pr m c cX3_isHeld 4 s ([.ref mm, .int th] : List Value).toArray wsX3_isHeld RX3 := ⟨hx, hb, hml, hown, hts⟩
  have hI_X3 : ∀ w ∈ wsX30, w ∈ wsX3_isHeld := by decide +kernel
  have hl_fieldLink_RX3_7_SpliceBenchModel_holds_I := hts (.fieldLink RX3 7 "SpliceBenchModel" "holds" "[I") (by decide +kernel)
  have hl := lv_entry ([.ref mm, .int th]) (n := 4) (Nat.le_of_ble_eq_true rfl)
  rw [lg_entry_eq]
  generalize (lg_sl ([.ref mm, .int th]) ++ List.replicate (4 - (lg_sl ([.ref mm, .int th])).length) Slot.unset).toArray = ls at hl ⊢
  have hl : lv_has ls 4 [(0, .ref mm), (1, .int th)] := hl
  refine lv_iconst (v := 0) hx hb dX3_isHeld_0 (by decide) ?_
  refine lv_istore_n (lv' := [(2, .int 0), (0, .ref mm), (1, .int th)]) hx hb dX3_isHeld_1 rfl hl (by decide) rfl (fun ls hl => ?_)
  refine lv_iconst (v := 0) hx hb dX3_isHeld_2 (by decide) ?_
  refine lv_istore_n (lv' := [(3, .int 0), (2, .int 0), (0, .ref mm), (1, .int th)]) hx hb dX3_isHeld_3 rfl hl (by decide) rfl (fun ls hl => ?_)
  have loop : ∀ (N : Nat) (j : Nat), 11 ≤ j + N → j ≤ 10 → ∀ (ls : Array Slot), lv_has ls 4 [(3, .int (nI j)), (2, .int (bI (anyN (fun j => decide (sHo σ j = th)) j))), (0, .ref mm), (1, .int th)] → W pr l env (headSpec wsX3_isHeld rmX3_isHeld).room s m ([.ref mm, .int th] : List Value).toArray below meth c s.heap [] 0 0 (MQ below (vp_Si (fun r => r = bI (heldB σ th))) ([.ref mm, .int th] : List Value).toArray s 0 0 (fun _ => False)) (F0 m 4 ls []) := by
    intro N
    induction N with
    | zero =>
      exact fun j h1 h2 => absurd h1 (by omega)
    | succ N ih =>
      intro j hN hj ls hl
      refine lv_iload_n hx hb dX3_isHeld_4 rfl (lv_at hl 0 rfl) ?_
      refine lv_bipush (v := 10) hx hb dX3_isHeld_5 (by decide) ?_
      refine lv_icmp_ge (tgt := 36) hx hb dX3_isHeld_7 (by decide) (fun c_7 => ?_) (fun c_7 => ?_)
      · refine lv_iload_n hx hb dX3_isHeld_36 rfl (lv_at hl 1 rfl) ?_
        exact W.zret hx hb hr (by first | rfl | exact bI_nar _) (fun t ht _ => ⟨_, rfl, (congrArg (fun z => bI (anyN (fun j => decide (sHo σ j = th)) z)) (show j = 10 by have := (nI_leI (by omega) (by omega)).mp (show nI 10 ≤ nI j from c_7); omega)), ht⟩) (fun _ h => by cases h) dX3_isHeld_37
      · have hjn : j < 10 := by
          rcases Nat.lt_or_ge j 10 with h9 | h9
          · exact h9
          · exact absurd (nI_le h9 (by omega)) c_7
        refine lv_iload_n hx hb dX3_isHeld_10 rfl (lv_at hl 1 rfl) ?_
        refine lv_if_ne (tgt := 24) hx hb dX3_isHeld_11 (by decide) (fun c_11 => ?_) (fun c_11 => ?_)
        · have c_11 := bI_n c_11
          refine lv_iconst (v := 1) hx hb dX3_isHeld_24 (by decide) ?_
          refine lv_goto (tgt := 29) hx hb dX3_isHeld_25 (by decide) ?_
          refine lv_istore_n (lv' := [(2, .int 1), (3, .int (nI j)), (0, .ref mm), (1, .int th)]) hx hb dX3_isHeld_29 rfl hl (by decide) rfl (fun ls hl => ?_)
          refine lv_iinc (v := nI (j + 1)) (lv' := [(3, .int (nI (j + 1))), (2, .int 1), (0, .ref mm), (1, .int th)]) hx hb dX3_isHeld_30 hl (k := 1) rfl (nI_1 j) (by decide) rfl (fun ls hl => ?_)
          refine lv_goto (tgt := 4) hx hb dX3_isHeld_33 (by decide) ?_
          have hc : 1 = bI (anyN (fun j => decide (sHo σ j = th)) (j + 1)) := by simp [anyN, bI, c_11]
          rw [hc] at hl
          exact ih (j + 1) (by omega) (by omega) ls (lv_sub hl [0, 1, 2, 3] rfl)
        · have c_11 := bI_e c_11
          refine lv_aload_n hx hb dX3_isHeld_14 rfl (lv_at hl 2 rfl) ?_
          refine mw_get (C := RX3) (T := TX3) (N := 14) F hK hW hI_X3 hR.1 rfl 0 (by decide) hl_fieldLink_RX3_7_SpliceBenchModel_holds_I rfl dX3_isHeld_15 ?_
          refine lv_iload_n hx hb dX3_isHeld_18 rfl (lv_at hl 0 rfl) ?_
          refine mw_iald F hK hW 0 hR.2.1 rfl (vp_in_nI (show j < 10 by omega) (by omega)) dX3_isHeld_19 ?_
          rw [nI_clamp (show j < 2 ^ 31 by omega)]
          refine lv_iload_n hx hb dX3_isHeld_20 rfl (lv_at hl 3 rfl) ?_
          refine lv_icmp_ne (tgt := 28) hx hb dX3_isHeld_21 (by decide) (fun c_21 => ?_) (fun c_21 => ?_)
          · refine lv_iconst (v := 0) hx hb dX3_isHeld_28 (by decide) ?_
            refine lv_istore_n (lv' := [(2, .int 0), (3, .int (nI j)), (0, .ref mm), (1, .int th)]) hx hb dX3_isHeld_29 rfl hl (by decide) rfl (fun ls hl => ?_)
            refine lv_iinc (v := nI (j + 1)) (lv' := [(3, .int (nI (j + 1))), (2, .int 0), (0, .ref mm), (1, .int th)]) hx hb dX3_isHeld_30 hl (k := 1) rfl (nI_1 j) (by decide) rfl (fun ls hl => ?_)
            refine lv_goto (tgt := 4) hx hb dX3_isHeld_33 (by decide) ?_
            have hc : 0 = bI (anyN (fun j => decide (sHo σ j = th)) (j + 1)) := by simp [anyN, bI, c_11, c_21]
            rw [hc] at hl
            exact ih (j + 1) (by omega) (by omega) ls (lv_sub hl [0, 1, 2, 3] rfl)
          · refine lv_iconst (v := 1) hx hb dX3_isHeld_24 (by decide) ?_
            refine lv_goto (tgt := 29) hx hb dX3_isHeld_25 (by decide) ?_
            refine lv_istore_n (lv' := [(2, .int 1), (3, .int (nI j)), (0, .ref mm), (1, .int th)]) hx hb dX3_isHeld_29 rfl hl (by decide) rfl (fun ls hl => ?_)
            refine lv_iinc (v := nI (j + 1)) (lv' := [(3, .int (nI (j + 1))), (2, .int 1), (0, .ref mm), (1, .int th)]) hx hb dX3_isHeld_30 hl (k := 1) rfl (nI_1 j) (by decide) rfl (fun ls hl => ?_)
            refine lv_goto (tgt := 4) hx hb dX3_isHeld_33 (by decide) ?_
            have hc : 1 = bI (anyN (fun j => decide (sHo σ j = th)) (j + 1)) := by simp [anyN, bI, c_11, c_21]
            rw [hc] at hl
            exact ih (j + 1) (by omega) (by omega) ls (lv_sub hl [0, 1, 2, 3] rfl)
  exact loop 11 0 (by omega) (Nat.zero_le _) ls (lv_sub hl [0, 1, 2, 3] rfl)
abbrev rmX3_isBeyond : Room := ({ frames := 0, cells := 0, slots := 0, locals := 0 } : Room)
set_option maxHeartbeats 4000000 in
set_option maxRecDepth 100000 in
theorem c_X3_isBeyond {i n z : Int32} : Met l yX3_isBeyond wsX3_isBeyond rmX3_isBeyond (va_Pc [.int i, .int n, .int z] (mwPre D (tyL cI cJ cC cH) M sz)) (vp_Si (fun r => r = bI (beyB i n z))) 0 0 (fun _ => False) := by
  refine Met.ofW (cc := cX3_isBeyond) (maxL := 3) (ret := (some .boolean)) (by decide) rfl ?_
  intro pr env s m args below meth c s₁ B hml hv
  obtain ⟨rfl, hsz, hW, hK, hO⟩ := hv
  have hx := B.exec
  have hb := B.bytes
  have hr := B.returns
  have hts := atoms_spec (ws := wsX3_isBeyond) B.pre
  have hown : s.vm.findClass RX3 = some m.cls := findClass_of_methodNamed B.named
  have hlocks := B.notSynchronized
  have F : CallFix pr m c cX3_isBeyond 3 s ([.int i, .int n, .int z] : List Value).toArray wsX3_isBeyond RX3 := ⟨hx, hb, hml, hown, hts⟩
  have hl := lv_entry ([.int i, .int n, .int z]) (n := 3) (Nat.le_of_ble_eq_true rfl)
  rw [lg_entry_eq]
  generalize (lg_sl ([.int i, .int n, .int z]) ++ List.replicate (3 - (lg_sl ([.int i, .int n, .int z])).length) Slot.unset).toArray = ls at hl ⊢
  have hl : lv_has ls 3 [(0, .int i), (1, .int n), (2, .int z)] := hl
  refine lv_iload_n hx hb dX3_isBeyond_0 rfl (lv_at hl 0 rfl) ?_
  refine lv_if_lt (tgt := 19) hx hb dX3_isBeyond_1 (by decide) (fun c_1 => ?_) (fun c_1 => ?_)
  · refine lv_iconst (v := 1) hx hb dX3_isBeyond_19 (by decide) ?_
    refine lv_goto (tgt := 24) hx hb dX3_isBeyond_20 (by decide) ?_
    exact W.zret hx hb hr (by first | rfl | exact bI_nar _) (fun t ht _ => ⟨_, rfl, (by simp [bI, beyB, c_1]), ht⟩) (fun _ h => by cases h) dX3_isBeyond_24
  · refine lv_iload_n hx hb dX3_isBeyond_4 rfl (lv_at hl 1 rfl) ?_
    refine lv_if_lt (tgt := 19) hx hb dX3_isBeyond_5 (by decide) (fun c_5 => ?_) (fun c_5 => ?_)
    · refine lv_iconst (v := 1) hx hb dX3_isBeyond_19 (by decide) ?_
      refine lv_goto (tgt := 24) hx hb dX3_isBeyond_20 (by decide) ?_
      exact W.zret hx hb hr (by first | rfl | exact bI_nar _) (fun t ht _ => ⟨_, rfl, (by simp [bI, beyB, c_1, c_5]), ht⟩) (fun _ h => by cases h) dX3_isBeyond_24
    · refine lv_iload_n hx hb dX3_isBeyond_8 rfl (lv_at hl 0 rfl) ?_
      refine lv_i2l hx hb dX3_isBeyond_9 rfl ?_
      refine lv_iload_n hx hb dX3_isBeyond_10 rfl (lv_at hl 1 rfl) ?_
      refine lv_i2l hx hb dX3_isBeyond_11 rfl ?_
      refine lv_ladd hx hb dX3_isBeyond_12 ?_
      refine lv_iload_n hx hb dX3_isBeyond_13 rfl (lv_at hl 2 rfl) ?_
      refine lv_i2l hx hb dX3_isBeyond_14 rfl ?_
      refine W.lcmp hx hb dX3_isBeyond_15 ?_
      refine lv_if_le (tgt := 23) hx hb dX3_isBeyond_16 (by decide) (fun c_16 => ?_) (fun c_16 => ?_)
      · refine lv_iconst (v := 0) hx hb dX3_isBeyond_23 (by decide) ?_
        exact W.zret hx hb hr (by first | rfl | exact bI_nar _) (fun t ht _ => ⟨_, rfl, (by simp [bI, beyB, c_1, c_5, Int64.not_lt.mpr ((lg_cmp_le _ _).mp c_16)]), ht⟩) (fun _ h => by cases h) dX3_isBeyond_24
      · refine lv_iconst (v := 1) hx hb dX3_isBeyond_19 (by decide) ?_
        refine lv_goto (tgt := 24) hx hb dX3_isBeyond_20 (by decide) ?_
        exact W.zret hx hb hr (by first | rfl | exact bI_nar _) (fun t ht _ => ⟨_, rfl, (by simp [bI, beyB, c_1, c_5, Int64.not_le.mp (fun z9 => c_16 ((lg_cmp_le _ _).mpr z9))]), ht⟩) (fun _ h => by cases h) dX3_isBeyond_24
abbrev rmX3_hinders : Room := ({ frames := 2, cells := 0, slots := 0, locals := 42 } : Room)
set_option maxHeartbeats 4000000 in
set_option maxRecDepth 100000 in
theorem c_X3_hinders {mm : Nat} {ad : Nat → Nat} {σ : RS} (hR : refAt cI cJ mm ad σ M) {j : Nat} (hj : j < 10) {i n : Int32} (ho : hoOk (sHo σ j)) : Met l yX3_hinders wsX3_hinders rmX3_hinders (va_Pc [.ref mm, .int (nI j), .int i, .int n] (mwPre D (tyL cI cJ cC cH) M sz)) (vp_Si (fun r => r = hindI σ j i n)) 0 0 (fun _ => False) := by
  refine Met.ofW (cc := cX3_hinders) (maxL := 4) (ret := (some .int)) (by decide) rfl ?_
  intro pr env s m args below meth c s₁ B hml hv
  obtain ⟨rfl, hsz, hW, hK, hO⟩ := hv
  have hx := B.exec
  have hb := B.bytes
  have hr := B.returns
  have hts := atoms_spec (ws := wsX3_hinders) B.pre
  have hown : s.vm.findClass RX3 = some m.cls := findClass_of_methodNamed B.named
  have hlocks := B.notSynchronized
  have F : CallFix pr m c cX3_hinders 4 s ([.ref mm, .int (nI j), .int i, .int n] : List Value).toArray wsX3_hinders RX3 := ⟨hx, hb, hml, hown, hts⟩
  have hI_X3 : ∀ w ∈ wsX30, w ∈ wsX3_hinders := by decide +kernel
  have hl_fieldLink_RX3_7_SpliceBenchModel_holds_I := hts (.fieldLink RX3 7 "SpliceBenchModel" "holds" "[I") (by decide +kernel)
  have hl := lv_entry ([.ref mm, .int (nI j), .int i, .int n]) (n := 4) (Nat.le_of_ble_eq_true rfl)
  rw [lg_entry_eq]
  generalize (lg_sl ([.ref mm, .int (nI j), .int i, .int n]) ++ List.replicate (4 - (lg_sl ([.ref mm, .int (nI j), .int i, .int n])).length) Slot.unset).toArray = ls at hl ⊢
  have hl : lv_has ls 4 [(0, .ref mm), (1, .int (nI j)), (2, .int i), (3, .int n)] := hl
  refine lv_aload_n hx hb dX3_hinders_0 rfl (lv_at hl 0 rfl) ?_
  refine mw_get (C := RX3) (T := TX3) (N := 14) F hK hW hI_X3 hR.1 rfl 0 (by decide) hl_fieldLink_RX3_7_SpliceBenchModel_holds_I rfl dX3_hinders_1 ?_
  refine lv_iload_n hx hb dX3_hinders_4 rfl (lv_at hl 1 rfl) ?_
  refine mw_iald F hK hW 0 hR.2.1 rfl (vp_in_nI (show j < 10 by omega) (by omega)) dX3_hinders_5 ?_
  rw [nI_clamp (show j < 2 ^ 31 by omega)]
  refine lv_if_ne (tgt := 11) hx hb dX3_hinders_6 (by decide) (fun c_6 => ?_) (fun c_6 => ?_)
  · refine lv_aload_n hx hb dX3_hinders_11 rfl (lv_at hl 0 rfl) ?_
    refine lv_iload_n hx hb dX3_hinders_12 rfl (lv_at hl 1 rfl) ?_
    refine vp_callSi (W.runV (As := [.int (nI j)]) (rest := []) F (c_X3_hasPlaces hR (show j < 10 by omega)) (cwV 1 hts gX3_hinders_X3_hasPlaces rfl rfl rfl (by decide +kernel) ⟨Nat.le_of_ble_eq_true rfl, Nat.le_of_ble_eq_true rfl⟩) (mw_prV (q := (RX3, TX3, 14)) hK hO hW rfl hR.1) rfl rfl hl.1 rfl (lv_room (Nat.le_of_ble_eq_true rfl)) dX3_hinders_13 ⟨Nat.zero_le _, Nat.zero_le _⟩) (fun r_1 er_1 => ?_)
    subst er_1
    refine lv_if_ne (tgt := 21) hx hb dX3_hinders_16 (by decide) (fun c_16 => ?_) (fun c_16 => ?_)
    · have c_16 := bI_n c_16
      refine lv_iload_n hx hb dX3_hinders_21 rfl (lv_at hl 2 rfl) ?_
      refine lv_iload_n hx hb dX3_hinders_22 rfl (lv_at hl 3 rfl) ?_
      refine lv_aload_n hx hb dX3_hinders_23 rfl (lv_at hl 0 rfl) ?_
      refine lv_iload_n hx hb dX3_hinders_24 rfl (lv_at hl 1 rfl) ?_
      refine vp_callSi (W.runV (As := [.int (nI j)]) (rest := [.int n, .int i]) F (c_X3_sizeOf hR (show j < 10 by omega) ho) (cwV 1 hts gX3_hinders_X3_sizeOf rfl rfl rfl (by decide +kernel) ⟨Nat.le_of_ble_eq_true rfl, Nat.le_of_ble_eq_true rfl⟩) (mw_prV (q := (RX3, TX3, 14)) hK hO hW rfl hR.1) rfl rfl hl.1 rfl (lv_room (Nat.le_of_ble_eq_true rfl)) dX3_hinders_25 ⟨Nat.zero_le _, Nat.zero_le _⟩) (fun r_2 er_2 => ?_)
      subst er_2
      refine vp_callSi (W.runS (As := [.int i, .int n, .int (szOf σ j)]) (rest := []) F (c_X3_isBeyond) (cwS 3 hts gX3_hinders_X3_isBeyond rfl rfl rfl (by decide +kernel) ⟨Nat.le_of_ble_eq_true rfl, Nat.le_of_ble_eq_true rfl⟩) (mw_prS hK hO hW) rfl rfl hl.1 rfl (lv_room (Nat.le_of_ble_eq_true rfl)) dX3_hinders_28 ⟨Nat.zero_le _, Nat.zero_le _⟩) (fun r_3 er_3 => ?_)
      subst er_3
      refine lv_if_eq (tgt := 38) hx hb dX3_hinders_31 (by decide) (fun c_31 => ?_) (fun c_31 => ?_)
      · have c_31 := bI_e c_31
        refine lv_iconst (v := 0) hx hb dX3_hinders_38 (by decide) ?_
        exact W.iret hx hb hr (fun t ht _ => ⟨_, rfl, (by first | rfl | simp [hindI, c_6, c_16, c_31]), ht⟩) (fun _ h => by cases h) dX3_hinders_39
      · have c_31 := bI_n c_31
        refine lv_iconst (v := 3) hx hb dX3_hinders_34 (by decide) ?_
        refine lv_goto (tgt := 39) hx hb dX3_hinders_35 (by decide) ?_
        exact W.iret hx hb hr (fun t ht _ => ⟨_, rfl, (by first | rfl | simp [hindI, c_6, c_16, c_31]), ht⟩) (fun _ h => by cases h) dX3_hinders_39
    · have c_16 := bI_e c_16
      refine lv_iconst (v := 2) hx hb dX3_hinders_19 (by decide) ?_
      exact W.iret hx hb hr (fun t ht _ => ⟨_, rfl, (by first | rfl | simp [hindI, c_6, c_16]), ht⟩) (fun _ h => by cases h) dX3_hinders_20
  · refine lv_iconst (v := 1) hx hb dX3_hinders_9 (by decide) ?_
    exact W.iret hx hb hr (fun t ht _ => ⟨_, rfl, (by first | rfl | simp [hindI, c_6]), ht⟩) (fun _ h => by cases h) dX3_hinders_10
end X3R
