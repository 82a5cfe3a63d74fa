section X1R
variable {l : Launch} {D : va_G} {cI cJ cC cH : ClassId} {M : Nat → Option va_E} {sz : Nat}
abbrev rmX1_isStrip : Room := ({ frames := 0, cells := 0, slots := 0, locals := 0 } : Room)
set_option maxHeartbeats 4000000 in
set_option maxRecDepth 100000 in
/-- isStrip -/
theorem c_X1_isStrip {h : Nat} {k : Int32} {pn na ca : Nat} {lb : Int32} {f : Nat → Int64} {g : Nat → Option Nat} (hH : hOk M cJ cC h k pn na ca lb f g) : Met l yX1_isStrip wsX1_isStrip rmX1_isStrip (va_Pc [.ref h] (mwPre D (tyL cI cJ cC cH) M sz)) (vp_Si (fun r => r = bI (kStrip k))) 0 0 (fun _ => False) := by
  refine Met.ofW (cc := cX1_isStrip) (maxL := 1) (ret := (some .boolean)) (by decide) rfl ?_
  intro pr e s m args below meth c s₁ B hml hv
  obtain ⟨rfl, hsz, hW, hK⟩ := hv
  have hx := B.exec
  have hb := B.bytes
  have hr := B.returns
  have hts := atoms_spec (ws := wsX1_isStrip) B.pre
  have hown : s.vm.findClass RX1 = some m.cls := findClass_of_methodNamed B.named
  have hlocks := B.notSynchronized
  have F : CallFix pr m c cX1_isStrip 1 s ([.ref h] : List Value).toArray wsX1_isStrip RX1 := ⟨hx, hb, hml, hown, hts⟩
  have hI_X1 : ∀ w ∈ wsX10, w ∈ wsX1_isStrip := by decide +kernel
  have hl_fieldLink_RX1_9_SpliceBench_Holding_kind_I := hts (.fieldLink RX1 9 "SpliceBench$Holding" "kind" "I") (by decide +kernel)
  have hl := lv_entry ([.ref h]) (n := 1) (Nat.le_of_ble_eq_true rfl)
  rw [lg_entry_eq]
  generalize (lg_sl ([.ref h]) ++ List.replicate (1 - (lg_sl ([.ref h])).length) Slot.unset).toArray = ls at hl ⊢
  have hl : lv_has ls 1 [(0, .ref h)] := hl
  refine lv_aload_n hx hb dX1_isStrip_0 rfl (lv_at hl 0 rfl) ?_
  refine mw_get (C := RX1) (T := TX1) (N := 5) F hK hW hI_X1 hH.1 rfl 0 (by decide) hl_fieldLink_RX1_9_SpliceBench_Holding_kind_I rfl dX1_isStrip_1 ?_
  refine lv_iconst (v := 2) hx hb dX1_isStrip_4 (by decide) ?_
  refine lv_icmp_eq (tgt := 16) hx hb dX1_isStrip_5 (by decide) (fun c_5 => ?_) (fun c_5 => ?_)
  · refine lv_iconst (v := 1) hx hb dX1_isStrip_16 (by decide) ?_
    refine lv_goto (tgt := 21) hx hb dX1_isStrip_17 (by decide) ?_
    exact W.zret hx hb hr (by first | rfl | exact bI_nar _) (fun t ht _ => ⟨_, rfl, (by first | rfl | simp [bI, kStrip, c_5]), ht⟩) (fun _ h => by cases h) dX1_isStrip_21
  · refine lv_aload_n hx hb dX1_isStrip_8 rfl (lv_at hl 0 rfl) ?_
    refine mw_get (C := RX1) (T := TX1) (N := 5) F hK hW hI_X1 hH.1 rfl 0 (by decide) hl_fieldLink_RX1_9_SpliceBench_Holding_kind_I rfl dX1_isStrip_9 ?_
    refine lv_iconst (v := 3) hx hb dX1_isStrip_12 (by decide) ?_
    refine lv_icmp_ne (tgt := 20) hx hb dX1_isStrip_13 (by decide) (fun c_13 => ?_) (fun c_13 => ?_)
    · refine lv_iconst (v := 0) hx hb dX1_isStrip_20 (by decide) ?_
      exact W.zret hx hb hr (by first | rfl | exact bI_nar _) (fun t ht _ => ⟨_, rfl, (by first | rfl | simp [bI, kStrip, c_5, c_13]), ht⟩) (fun _ h => by cases h) dX1_isStrip_21
    · refine lv_iconst (v := 1) hx hb dX1_isStrip_16 (by decide) ?_
      refine lv_goto (tgt := 21) hx hb dX1_isStrip_17 (by decide) ?_
      exact W.zret hx hb hr (by first | rfl | exact bI_nar _) (fun t ht _ => ⟨_, rfl, (by first | rfl | simp [bI, kStrip, c_5, c_13]), ht⟩) (fun _ h => by cases h) dX1_isStrip_21
abbrev rmX1_isRack : Room := ({ frames := 0, cells := 0, slots := 0, locals := 0 } : Room)
set_option maxHeartbeats 4000000 in
set_option maxRecDepth 100000 in
theorem c_X1_isRack {h : Nat} {k : Int32} {pn na ca : Nat} {lb : Int32} {f : Nat → Int64} {g : Nat → Option Nat} (hH : hOk M cJ cC h k pn na ca lb f g) : Met l yX1_isRack wsX1_isRack rmX1_isRack (va_Pc [.ref h] (mwPre D (tyL cI cJ cC cH) M sz)) (vp_Si (fun r => r = bI (kRack k))) 0 0 (fun _ => False) := by
  refine Met.ofW (cc := cX1_isRack) (maxL := 1) (ret := (some .boolean)) (by decide) rfl ?_
  intro pr e s m args below meth c s₁ B hml hv
  obtain ⟨rfl, hsz, hW, hK⟩ := hv
  have hx := B.exec
  have hb := B.bytes
  have hr := B.returns
  have hts := atoms_spec (ws := wsX1_isRack) B.pre
  have hown : s.vm.findClass RX1 = some m.cls := findClass_of_methodNamed B.named
  have hlocks := B.notSynchronized
  have F : CallFix pr m c cX1_isRack 1 s ([.ref h] : List Value).toArray wsX1_isRack RX1 := ⟨hx, hb, hml, hown, hts⟩
  have hI_X1 : ∀ w ∈ wsX10, w ∈ wsX1_isRack := by decide +kernel
  have hl_fieldLink_RX1_9_SpliceBench_Holding_kind_I := hts (.fieldLink RX1 9 "SpliceBench$Holding" "kind" "I") (by decide +kernel)
  have hl := lv_entry ([.ref h]) (n := 1) (Nat.le_of_ble_eq_true rfl)
  rw [lg_entry_eq]
  generalize (lg_sl ([.ref h]) ++ List.replicate (1 - (lg_sl ([.ref h])).length) Slot.unset).toArray = ls at hl ⊢
  have hl : lv_has ls 1 [(0, .ref h)] := hl
  refine lv_aload_n hx hb dX1_isRack_0 rfl (lv_at hl 0 rfl) ?_
  refine mw_get (C := RX1) (T := TX1) (N := 5) F hK hW hI_X1 hH.1 rfl 0 (by decide) hl_fieldLink_RX1_9_SpliceBench_Holding_kind_I rfl dX1_isRack_1 ?_
  refine lv_iconst (v := 4) hx hb dX1_isRack_4 (by decide) ?_
  refine lv_icmp_eq (tgt := 16) hx hb dX1_isRack_5 (by decide) (fun c_5 => ?_) (fun c_5 => ?_)
  · refine lv_iconst (v := 1) hx hb dX1_isRack_16 (by decide) ?_
    refine lv_goto (tgt := 21) hx hb dX1_isRack_17 (by decide) ?_
    exact W.zret hx hb hr (by first | rfl | exact bI_nar _) (fun t ht _ => ⟨_, rfl, (by first | rfl | simp [bI, kRack, c_5]), ht⟩) (fun _ h => by cases h) dX1_isRack_21
  · refine lv_aload_n hx hb dX1_isRack_8 rfl (lv_at hl 0 rfl) ?_
    refine mw_get (C := RX1) (T := TX1) (N := 5) F hK hW hI_X1 hH.1 rfl 0 (by decide) hl_fieldLink_RX1_9_SpliceBench_Holding_kind_I rfl dX1_isRack_9 ?_
    refine lv_iconst (v := 5) hx hb dX1_isRack_12 (by decide) ?_
    refine lv_icmp_ne (tgt := 20) hx hb dX1_isRack_13 (by decide) (fun c_13 => ?_) (fun c_13 => ?_)
    · refine lv_iconst (v := 0) hx hb dX1_isRack_20 (by decide) ?_
      exact W.zret hx hb hr (by first | rfl | exact bI_nar _) (fun t ht _ => ⟨_, rfl, (by first | rfl | simp [bI, kRack, c_5, c_13]), ht⟩) (fun _ h => by cases h) dX1_isRack_21
    · refine lv_iconst (v := 1) hx hb dX1_isRack_16 (by decide) ?_
      refine lv_goto (tgt := 21) hx hb dX1_isRack_17 (by decide) ?_
      exact W.zret hx hb hr (by first | rfl | exact bI_nar _) (fun t ht _ => ⟨_, rfl, (by first | rfl | simp [bI, kRack, c_5, c_13]), ht⟩) (fun _ h => by cases h) dX1_isRack_21
abbrev rmX1_hasPlace : Room := ({ frames := 0, cells := 0, slots := 0, locals := 0 } : Room)
set_option maxHeartbeats 4000000 in
set_option maxRecDepth 100000 in
theorem c_X1_hasPlace {h : Nat} {k : Int32} {pn na ca : Nat} {lb : Int32} {f : Nat → Int64} {g : Nat → Option Nat} {i : Int32} (hH : hOk M cJ cC h k pn na ca lb f g) : Met l yX1_hasPlace wsX1_hasPlace rmX1_hasPlace (va_Pc [.ref h, .int i] (mwPre D (tyL cI cJ cC cH) M sz)) (vp_Si (fun r => r = bI (inPl i (nI pn)))) 0 0 (fun _ => False) := by
  refine Met.ofW (cc := cX1_hasPlace) (maxL := 2) (ret := (some .boolean)) (by decide) rfl ?_
  intro pr e s m args below meth c s₁ B hml hv
  obtain ⟨rfl, hsz, hW, hK⟩ := hv
  have hx := B.exec
  have hb := B.bytes
  have hr := B.returns
  have hts := atoms_spec (ws := wsX1_hasPlace) B.pre
  have hown : s.vm.findClass RX1 = some m.cls := findClass_of_methodNamed B.named
  have hlocks := B.notSynchronized
  have F : CallFix pr m c cX1_hasPlace 2 s ([.ref h, .int i] : List Value).toArray wsX1_hasPlace RX1 := ⟨hx, hb, hml, hown, hts⟩
  have hI_X1 : ∀ w ∈ wsX10, w ∈ wsX1_hasPlace := by decide +kernel
  have hl_fieldLink_RX1_15_SpliceBench_Holding_places_I := hts (.fieldLink RX1 15 "SpliceBench$Holding" "places" "I") (by decide +kernel)
  have hl := lv_entry ([.ref h, .int i]) (n := 2) (Nat.le_of_ble_eq_true rfl)
  rw [lg_entry_eq]
  generalize (lg_sl ([.ref h, .int i]) ++ List.replicate (2 - (lg_sl ([.ref h, .int i])).length) Slot.unset).toArray = ls at hl ⊢
  have hl : lv_has ls 2 [(0, .ref h), (1, .int i)] := hl
  refine lv_iload_n hx hb dX1_hasPlace_0 rfl (lv_at hl 1 rfl) ?_
  refine lv_if_lt (tgt := 16) hx hb dX1_hasPlace_1 (by decide) (fun c_1 => ?_) (fun c_1 => ?_)
  · refine lv_iconst (v := 0) hx hb dX1_hasPlace_16 (by decide) ?_
    exact W.zret hx hb hr (by first | rfl | exact bI_nar _) (fun t ht _ => ⟨_, rfl, (by first | rfl | simp [bI, inPl, c_1]), ht⟩) (fun _ h => by cases h) dX1_hasPlace_17
  · refine lv_iload_n hx hb dX1_hasPlace_4 rfl (lv_at hl 1 rfl) ?_
    refine lv_aload_n hx hb dX1_hasPlace_5 rfl (lv_at hl 0 rfl) ?_
    refine mw_get (C := RX1) (T := TX1) (N := 5) F hK hW hI_X1 hH.1 rfl 1 (by decide) hl_fieldLink_RX1_15_SpliceBench_Holding_places_I rfl dX1_hasPlace_6 ?_
    refine lv_icmp_ge (tgt := 16) hx hb dX1_hasPlace_9 (by decide) (fun c_9 => ?_) (fun c_9 => ?_)
    · refine lv_iconst (v := 0) hx hb dX1_hasPlace_16 (by decide) ?_
      exact W.zret hx hb hr (by first | rfl | exact bI_nar _) (fun t ht _ => ⟨_, rfl, (by first | rfl | simp [bI, inPl, c_1, c_9]), ht⟩) (fun _ h => by cases h) dX1_hasPlace_17
    · refine lv_iconst (v := 1) hx hb dX1_hasPlace_12 (by decide) ?_
      refine lv_goto (tgt := 17) hx hb dX1_hasPlace_13 (by decide) ?_
      exact W.zret hx hb hr (by first | rfl | exact bI_nar _) (fun t ht _ => ⟨_, rfl, (by first | rfl | simp [bI, inPl, c_1, c_9]), ht⟩) (fun _ h => by cases h) dX1_hasPlace_17
abbrev rmX1_hasPlaces : Room := ({ frames := 0, cells := 0, slots := 0, locals := 0 } : Room)
set_option maxHeartbeats 4000000 in
set_option maxRecDepth 100000 in
theorem c_X1_hasPlaces {h : Nat} {k : Int32} {pn na ca : Nat} {lb : Int32} {f : Nat → Int64} {g : Nat → Option Nat} {i n : Int32} (hH : hOk M cJ cC h k pn na ca lb f g) : Met l yX1_hasPlaces wsX1_hasPlaces rmX1_hasPlaces (va_Pc [.ref h, .int i, .int n] (mwPre D (tyL cI cJ cC cH) M sz)) (vp_Si (fun r => r = bI (inPls i n (nI pn)))) 0 0 (fun _ => False) := by
  refine Met.ofW (cc := cX1_hasPlaces) (maxL := 3) (ret := (some .boolean)) (by decide) rfl ?_
  intro pr e s m args below meth c s₁ B hml hv
  obtain ⟨rfl, hsz, hW, hK⟩ := hv
  have hx := B.exec
  have hb := B.bytes
  have hr := B.returns
  have hts := atoms_spec (ws := wsX1_hasPlaces) B.pre
  have hown : s.vm.findClass RX1 = some m.cls := findClass_of_methodNamed B.named
  have hlocks := B.notSynchronized
  have F : CallFix pr m c cX1_hasPlaces 3 s ([.ref h, .int i, .int n] : List Value).toArray wsX1_hasPlaces RX1 := ⟨hx, hb, hml, hown, hts⟩
  have hI_X1 : ∀ w ∈ wsX10, w ∈ wsX1_hasPlaces := by decide +kernel
  have hl_fieldLink_RX1_15_SpliceBench_Holding_places_I := hts (.fieldLink RX1 15 "SpliceBench$Holding" "places" "I") (by decide +kernel)
  have hl := lv_entry ([.ref h, .int i, .int n]) (n := 3) (Nat.le_of_ble_eq_true rfl)
  rw [lg_entry_eq]
  generalize (lg_sl ([.ref h, .int i, .int n]) ++ List.replicate (3 - (lg_sl ([.ref h, .int i, .int n])).length) Slot.unset).toArray = ls at hl ⊢
  have hl : lv_has ls 3 [(0, .ref h), (1, .int i), (2, .int n)] := hl
  refine lv_iload_n hx hb dX1_hasPlaces_0 rfl (lv_at hl 1 rfl) ?_
  refine lv_if_lt (tgt := 22) hx hb dX1_hasPlaces_1 (by decide) (fun c_1 => ?_) (fun c_1 => ?_)
  · refine lv_iconst (v := 0) hx hb dX1_hasPlaces_22 (by decide) ?_
    exact W.zret hx hb hr (by first | rfl | exact bI_nar _) (fun t ht _ => ⟨_, rfl, (by first | rfl | simp [bI, inPls, c_1]), ht⟩) (fun _ h => by cases h) dX1_hasPlaces_23
  · refine lv_iload_n hx hb dX1_hasPlaces_4 rfl (lv_at hl 2 rfl) ?_
    refine lv_if_lt (tgt := 22) hx hb dX1_hasPlaces_5 (by decide) (fun c_5 => ?_) (fun c_5 => ?_)
    · refine lv_iconst (v := 0) hx hb dX1_hasPlaces_22 (by decide) ?_
      exact W.zret hx hb hr (by first | rfl | exact bI_nar _) (fun t ht _ => ⟨_, rfl, (by first | rfl | simp [bI, inPls, c_1, c_5]), ht⟩) (fun _ h => by cases h) dX1_hasPlaces_23
    · refine lv_iload_n hx hb dX1_hasPlaces_8 rfl (lv_at hl 2 rfl) ?_
      refine lv_aload_n hx hb dX1_hasPlaces_9 rfl (lv_at hl 0 rfl) ?_
      refine mw_get (C := RX1) (T := TX1) (N := 5) F hK hW hI_X1 hH.1 rfl 1 (by decide) hl_fieldLink_RX1_15_SpliceBench_Holding_places_I rfl dX1_hasPlaces_10 ?_
      refine lv_iload_n hx hb dX1_hasPlaces_13 rfl (lv_at hl 1 rfl) ?_
      refine lv_isub hx hb dX1_hasPlaces_14 ?_
      refine lv_icmp_gt (tgt := 22) hx hb dX1_hasPlaces_15 (by decide) (fun c_15 => ?_) (fun c_15 => ?_)
      · refine lv_iconst (v := 0) hx hb dX1_hasPlaces_22 (by decide) ?_
        exact W.zret hx hb hr (by first | rfl | exact bI_nar _) (fun t ht _ => ⟨_, rfl, (by first | rfl | simp [bI, inPls, c_1, c_5, c_15]), ht⟩) (fun _ h => by cases h) dX1_hasPlaces_23
      · refine lv_iconst (v := 1) hx hb dX1_hasPlaces_18 (by decide) ?_
        refine lv_goto (tgt := 23) hx hb dX1_hasPlaces_19 (by decide) ?_
        exact W.zret hx hb hr (by first | rfl | exact bI_nar _) (fun t ht _ => ⟨_, rfl, (by first | rfl | simp [bI, inPls, c_1, c_5, c_15]), ht⟩) (fun _ h => by cases h) dX1_hasPlaces_23
abbrev rmX1_isLike : Room := ({ frames := 1, cells := 0, slots := 0, locals := 20 } : Room)
set_option maxHeartbeats 4000000 in
set_option maxRecDepth 100000 in
theorem c_X1_isLike {h : Nat} {k : Int32} {pn na ca : Nat} {lb : Int32} {f : Nat → Int64} {g : Nat → Option Nat} {h' : Nat} {k' : Int32} {pn' na' ca' : Nat} {lb' : Int32} {f' : Nat → Int64} {g' : Nat → Option Nat} (hH : hOk M cJ cC h k pn na ca lb f g) (hH' : hOk M cJ cC h' k' pn' na' ca' lb' f' g') : Met l yX1_isLike wsX1_isLike rmX1_isLike (va_Pc [.ref h, .ref h'] (mwPre D (tyL cI cJ cC cH) M sz)) (vp_Si (fun r => r = bI (kLike k k'))) 0 0 (fun _ => False) := by
  refine Met.ofW (cc := cX1_isLike) (maxL := 2) (ret := (some .boolean)) (by decide) rfl ?_
  intro pr e s m args below meth c s₁ B hml hv
  obtain ⟨rfl, hsz, hW, hK⟩ := hv
  have hx := B.exec
  have hb := B.bytes
  have hr := B.returns
  have hts := atoms_spec (ws := wsX1_isLike) B.pre
  have hown : s.vm.findClass RX1 = some m.cls := findClass_of_methodNamed B.named
  have hlocks := B.notSynchronized
  have F : CallFix pr m c cX1_isLike 2 s ([.ref h, .ref h'] : List Value).toArray wsX1_isLike RX1 := ⟨hx, hb, hml, hown, hts⟩
  have hI_X1 : ∀ w ∈ wsX10, w ∈ wsX1_isLike := by decide +kernel
  have hl_fieldLink_RX1_9_SpliceBench_Holding_kind_I := hts (.fieldLink RX1 9 "SpliceBench$Holding" "kind" "I") (by decide +kernel)
  have hl := lv_entry ([.ref h, .ref h']) (n := 2) (Nat.le_of_ble_eq_true rfl)
  rw [lg_entry_eq]
  generalize (lg_sl ([.ref h, .ref h']) ++ List.replicate (2 - (lg_sl ([.ref h, .ref h'])).length) Slot.unset).toArray = ls at hl ⊢
  have hl : lv_has ls 2 [(0, .ref h), (1, .ref h')] := hl
  refine lv_aload_n hx hb dX1_isLike_0 rfl (lv_at hl 0 rfl) ?_
  refine vp_callSi (W.runV (As := []) (rest := []) F (c_X1_isRack hH) (cwV 0 hts gX1_isLike_X1_isRack rfl rfl rfl (by decide +kernel) ⟨Nat.le_of_ble_eq_true rfl, Nat.le_of_ble_eq_true rfl⟩) (mw_prV (q := (RX1, TX1, 5)) hK hW rfl hH.1) rfl rfl hl.1 rfl (lv_room (Nat.le_of_ble_eq_true rfl)) dX1_isLike_1 ⟨Nat.zero_le _, Nat.zero_le _⟩) (fun r_1 er_1 => ?_)
  subst er_1
  refine lv_if_eq (tgt := 14) hx hb dX1_isLike_4 (by decide) (fun c_4 => ?_) (fun c_4 => ?_)
  · have c_4 := bI_e c_4
    refine lv_aload_n hx hb dX1_isLike_14 rfl (lv_at hl 0 rfl) ?_
    refine vp_callSi (W.runV (As := []) (rest := []) F (c_X1_isStrip hH) (cwV 0 hts gX1_isLike_X1_isStrip rfl rfl rfl (by decide +kernel) ⟨Nat.le_of_ble_eq_true rfl, Nat.le_of_ble_eq_true rfl⟩) (mw_prV (q := (RX1, TX1, 5)) hK hW rfl hH.1) rfl rfl hl.1 rfl (lv_room (Nat.le_of_ble_eq_true rfl)) dX1_isLike_15 ⟨Nat.zero_le _, Nat.zero_le _⟩) (fun r_2 er_2 => ?_)
    subst er_2
    refine lv_if_eq (tgt := 36) hx hb dX1_isLike_18 (by decide) (fun c_18 => ?_) (fun c_18 => ?_)
    · have c_18 := bI_e c_18
      refine lv_iconst (v := 0) hx hb dX1_isLike_36 (by decide) ?_
      exact W.zret hx hb hr (by first | rfl | exact bI_nar _) (fun t ht _ => ⟨_, rfl, (by first | rfl | simp [bI, kLike, c_4, c_18]), ht⟩) (fun _ h => by cases h) dX1_isLike_37
    · have c_18 := bI_n c_18
      refine lv_aload_n hx hb dX1_isLike_21 rfl (lv_at hl 0 rfl) ?_
      refine mw_get (C := RX1) (T := TX1) (N := 5) F hK hW hI_X1 hH.1 rfl 0 (by decide) hl_fieldLink_RX1_9_SpliceBench_Holding_kind_I rfl dX1_isLike_22 ?_
      refine lv_aload_n hx hb dX1_isLike_25 rfl (lv_at hl 1 rfl) ?_
      refine mw_get (C := RX1) (T := TX1) (N := 5) F hK hW hI_X1 hH'.1 rfl 0 (by decide) hl_fieldLink_RX1_9_SpliceBench_Holding_kind_I rfl dX1_isLike_26 ?_
      refine lv_icmp_ne (tgt := 36) hx hb dX1_isLike_29 (by decide) (fun c_29 => ?_) (fun c_29 => ?_)
      · refine lv_iconst (v := 0) hx hb dX1_isLike_36 (by decide) ?_
        exact W.zret hx hb hr (by first | rfl | exact bI_nar _) (fun t ht _ => ⟨_, rfl, (by first | rfl | simp [bI, kLike, c_4, c_18, c_29]), ht⟩) (fun _ h => by cases h) dX1_isLike_37
      · subst c_29
        refine lv_iconst (v := 1) hx hb dX1_isLike_32 (by decide) ?_
        refine lv_goto (tgt := 37) hx hb dX1_isLike_33 (by decide) ?_
        exact W.zret hx hb hr (by first | rfl | exact bI_nar _) (fun t ht _ => ⟨_, rfl, (by first | rfl | simp [bI, kLike, c_4, c_18]), ht⟩) (fun _ h => by cases h) dX1_isLike_37
  · have c_4 := bI_n c_4
    refine lv_aload_n hx hb dX1_isLike_7 rfl (lv_at hl 1 rfl) ?_
    refine vp_callSi (W.runV (As := []) (rest := []) F (c_X1_isRack hH') (cwV 0 hts gX1_isLike_X1_isRack rfl rfl rfl (by decide +kernel) ⟨Nat.le_of_ble_eq_true rfl, Nat.le_of_ble_eq_true rfl⟩) (mw_prV (q := (RX1, TX1, 5)) hK hW rfl hH'.1) rfl rfl hl.1 rfl (lv_room (Nat.le_of_ble_eq_true rfl)) dX1_isLike_8 ⟨Nat.zero_le _, Nat.zero_le _⟩) (fun r_3 er_3 => ?_)
    subst er_3
    refine lv_goto (tgt := 37) hx hb dX1_isLike_11 (by decide) ?_
    exact W.zret hx hb hr (by first | rfl | exact bI_nar _) (fun t ht _ => ⟨_, rfl, (by first | rfl | simp [bI, kLike, c_4]), ht⟩) (fun _ h => by cases h) dX1_isLike_37
abbrev rmX1_cardAt : Room := ({ frames := 1, cells := 0, slots := 0, locals := 21 } : Room)
set_option maxHeartbeats 4000000 in
set_option maxRecDepth 100000 in
theorem c_X1_cardAt {h : Nat} {k : Int32} {pn na ca : Nat} {lb : Int32} {f : Nat → Int64} {g : Nat → Option Nat} {i : Int32} (hH : hOk M cJ cC h k pn na ca lb f g) : Met l yX1_cardAt wsX1_cardAt rmX1_cardAt (va_Pc [.ref h, .int i] (mwPre D (tyL cI cJ cC cH) M sz)) (va_Sq (fun r => r = cdAt k pn g i)) 0 0 (fun _ => False) := by
  refine Met.ofW (cc := cX1_cardAt) (maxL := 2) (ret := (some (.object "SpliceBench$Card"))) (by decide) rfl ?_
  intro pr e s m args below meth c s₁ B hml hv
  obtain ⟨rfl, hsz, hW, hK⟩ := hv
  have hx := B.exec
  have hb := B.bytes
  have hr := B.returns
  have hts := atoms_spec (ws := wsX1_cardAt) B.pre
  have hown : s.vm.findClass RX1 = some m.cls := findClass_of_methodNamed B.named
  have hlocks := B.notSynchronized
  have F : CallFix pr m c cX1_cardAt 2 s ([.ref h, .int i] : List Value).toArray wsX1_cardAt RX1 := ⟨hx, hb, hml, hown, hts⟩
  have hI_X1 : ∀ w ∈ wsX10, w ∈ wsX1_cardAt := by decide +kernel
  have hl_fieldLink_RX1_34_SpliceBench_Holding_cards_LSpliceBench_Card := hts (.fieldLink RX1 34 "SpliceBench$Holding" "cards" "[LSpliceBench$Card;") (by decide +kernel)
  have hl := lv_entry ([.ref h, .int i]) (n := 2) (Nat.le_of_ble_eq_true rfl)
  rw [lg_entry_eq]
  generalize (lg_sl ([.ref h, .int i]) ++ List.replicate (2 - (lg_sl ([.ref h, .int i])).length) Slot.unset).toArray = ls at hl ⊢
  have hl : lv_has ls 2 [(0, .ref h), (1, .int i)] := hl
  refine lv_aload_n hx hb dX1_cardAt_0 rfl (lv_at hl 0 rfl) ?_
  refine vp_callSi (W.runV (As := []) (rest := []) F (c_X1_isRack hH) (cwV 0 hts gX1_cardAt_X1_isRack rfl rfl rfl (by decide +kernel) ⟨Nat.le_of_ble_eq_true rfl, Nat.le_of_ble_eq_true rfl⟩) (mw_prV (q := (RX1, TX1, 5)) hK hW rfl hH.1) rfl rfl hl.1 rfl (lv_room (Nat.le_of_ble_eq_true rfl)) dX1_cardAt_1 ⟨Nat.zero_le _, Nat.zero_le _⟩) (fun r_1 er_1 => ?_)
  subst er_1
  refine lv_if_eq (tgt := 24) hx hb dX1_cardAt_4 (by decide) (fun c_4 => ?_) (fun c_4 => ?_)
  · have c_4 := bI_e c_4
    refine lv_null hx hb dX1_cardAt_24 ?_
    exact W.aret hx hb hr (Or.inl ⟨_, rfl⟩) (by first | exact va_rf_or _ | exact Or.inl rfl | exact Or.inr ⟨_, rfl⟩) (fun t ht _ => ⟨none, rfl, (by first | rfl | simp [cdAt, c_4]), ht⟩) (fun _ h => by cases h) dX1_cardAt_25
  · have c_4 := bI_n c_4
    refine lv_aload_n hx hb dX1_cardAt_7 rfl (lv_at hl 0 rfl) ?_
    refine lv_iload_n hx hb dX1_cardAt_8 rfl (lv_at hl 1 rfl) ?_
    refine vp_callSi (W.runV (As := [.int i]) (rest := []) F (c_X1_hasPlace (i := i) hH) (cwV 1 hts gX1_cardAt_X1_hasPlace rfl rfl rfl (by decide +kernel) ⟨Nat.le_of_ble_eq_true rfl, Nat.le_of_ble_eq_true rfl⟩) (mw_prV (q := (RX1, TX1, 5)) hK hW rfl hH.1) rfl rfl hl.1 rfl (lv_room (Nat.le_of_ble_eq_true rfl)) dX1_cardAt_9 ⟨Nat.zero_le _, Nat.zero_le _⟩) (fun r_2 er_2 => ?_)
    subst er_2
    refine lv_if_eq (tgt := 24) hx hb dX1_cardAt_12 (by decide) (fun c_12 => ?_) (fun c_12 => ?_)
    · have c_12 := bI_e c_12
      refine lv_null hx hb dX1_cardAt_24 ?_
      exact W.aret hx hb hr (Or.inl ⟨_, rfl⟩) (by first | exact va_rf_or _ | exact Or.inl rfl | exact Or.inr ⟨_, rfl⟩) (fun t ht _ => ⟨none, rfl, (by first | rfl | simp [cdAt, c_4, c_12]), ht⟩) (fun _ h => by cases h) dX1_cardAt_25
    · have c_12 := bI_n c_12
      refine lv_aload_n hx hb dX1_cardAt_15 rfl (lv_at hl 0 rfl) ?_
      refine mw_get (C := RX1) (T := TX1) (N := 5) F hK hW hI_X1 hH.1 rfl 3 (by decide) hl_fieldLink_RX1_34_SpliceBench_Holding_cards_LSpliceBench_Card rfl dX1_cardAt_16 ?_
      refine lv_iload_n hx hb dX1_cardAt_19 rfl (lv_at hl 1 rfl) ?_
      refine mw_aald F hK hW 2 hH.2.2.2 rfl (by rw [if_pos c_4]; exact inPl_in hH.2.1 c_12) dX1_cardAt_20 ?_
      refine lv_goto (tgt := 25) hx hb dX1_cardAt_21 (by decide) ?_
      exact W.aret hx hb hr (Or.inl ⟨_, rfl⟩) (by first | exact va_rf_or _ | exact Or.inl rfl | exact Or.inr ⟨_, rfl⟩) (fun t ht _ => ⟨g i.toNatClampNeg, rfl, (by first | rfl | simp [cdAt, c_4, c_12]), ht⟩) (fun _ h => by cases h) dX1_cardAt_25
end X1R
