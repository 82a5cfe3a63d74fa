section X1R
variable {l : Launch} {D : va_G} {cI cJ cC cH : ClassId} {M : Nat → Option va_E} {sz : Nat}
abbrev rmX1_isStrip : Room := ({ frames := 0, cells := 0, slots := 0, locals := 0 } : Room)
set_option maxHeartbeats 4000000 in
set_option maxRecDepth 100000 in
theorem c_X1_isStrip {h : Nat} {k : Int32} {fs : List Value} (hh : M h = some (.inr (1, .int k :: fs))) : Met l yX1_isStrip wsX1_isStrip rmX1_isStrip (va_Pc [.ref h] (mwPre D (tyL cI cJ cC cH) M sz)) (vp_Si (fun r => r = bI (kStrip k))) 0 0 (fun _ => False) := by
  refine Met.ofW (cc := cX1_isStrip) (maxL := 1) (ret := (some .boolean)) (by decide) rfl ?_
  intro pr env s m args below meth c s₁ B hml hv
  obtain ⟨rfl, hsz, hW, hK, hO⟩ := hv
  have hx := B.exec
  have hb := B.bytes
  have hr := B.returns
  have hts := atoms_spec (ws := wsX1_isStrip) B.pre
  have hown : s.vm.findClass RX1 = some m.cls := findClass_of_methodNamed B.named
  have hlocks := B.notSynchronized
  have F : CallFix pr m c cX1_isStrip 1 s ([.ref h] : List Value).toArray wsX1_isStrip RX1 := ⟨hx, hb, hml, hown, hts⟩
  have hI_X1 : ∀ w ∈ wsX10, w ∈ wsX1_isStrip := by decide +kernel
  have hl_fieldLink_RX1_9_SpliceBench_Holding_kind_I := hts (.fieldLink RX1 9 "SpliceBench$Holding" "kind" "I") (by decide +kernel)
  have hl := lv_entry ([.ref h]) (n := 1) (Nat.le_of_ble_eq_true rfl)
  rw [lg_entry_eq]
  generalize (lg_sl ([.ref h]) ++ List.replicate (1 - (lg_sl ([.ref h])).length) Slot.unset).toArray = ls at hl ⊢
  have hl : lv_has ls 1 [(0, .ref h)] := hl
  refine lv_aload_n hx hb dX1_isStrip_0 rfl (lv_at hl 0 rfl) ?_
  refine mw_get (C := RX1) (T := TX1) (N := 5) F hK hW hI_X1 hh rfl 0 (by decide) hl_fieldLink_RX1_9_SpliceBench_Holding_kind_I rfl dX1_isStrip_1 ?_
  refine lv_iconst (v := 2) hx hb dX1_isStrip_4 (by decide) ?_
  refine lv_icmp_eq (tgt := 16) hx hb dX1_isStrip_5 (by decide) (fun c_5 => ?_) (fun c_5 => ?_)
  · refine lv_iconst (v := 1) hx hb dX1_isStrip_16 (by decide) ?_
    refine lv_goto (tgt := 21) hx hb dX1_isStrip_17 (by decide) ?_
    exact W.zret hx hb hr (by first | rfl | exact bI_nar _) (fun t ht _ => ⟨_, rfl, (by first | rfl | simp [bI, kStrip, c_5]), ht⟩) (fun _ h => by cases h) dX1_isStrip_21
  · refine lv_aload_n hx hb dX1_isStrip_8 rfl (lv_at hl 0 rfl) ?_
    refine mw_get (C := RX1) (T := TX1) (N := 5) F hK hW hI_X1 hh rfl 0 (by decide) hl_fieldLink_RX1_9_SpliceBench_Holding_kind_I rfl dX1_isStrip_9 ?_
    refine lv_iconst (v := 3) hx hb dX1_isStrip_12 (by decide) ?_
    refine lv_icmp_ne (tgt := 20) hx hb dX1_isStrip_13 (by decide) (fun c_13 => ?_) (fun c_13 => ?_)
    · refine lv_iconst (v := 0) hx hb dX1_isStrip_20 (by decide) ?_
      exact W.zret hx hb hr (by first | rfl | exact bI_nar _) (fun t ht _ => ⟨_, rfl, (by first | rfl | simp [bI, kStrip, c_5, c_13]), ht⟩) (fun _ h => by cases h) dX1_isStrip_21
    · refine lv_iconst (v := 1) hx hb dX1_isStrip_16 (by decide) ?_
      refine lv_goto (tgt := 21) hx hb dX1_isStrip_17 (by decide) ?_
      exact W.zret hx hb hr (by first | rfl | exact bI_nar _) (fun t ht _ => ⟨_, rfl, (by first | rfl | simp [bI, kStrip, c_5, c_13]), ht⟩) (fun _ h => by cases h) dX1_isStrip_21
abbrev rmX1_isRack : Room := ({ frames := 0, cells := 0, slots := 0, locals := 0 } : Room)
set_option maxHeartbeats 4000000 in
set_option maxRecDepth 100000 in
theorem c_X1_isRack {h : Nat} {k : Int32} {fs : List Value} (hh : M h = some (.inr (1, .int k :: fs))) : Met l yX1_isRack wsX1_isRack rmX1_isRack (va_Pc [.ref h] (mwPre D (tyL cI cJ cC cH) M sz)) (vp_Si (fun r => r = bI (kRack k))) 0 0 (fun _ => False) := by
  refine Met.ofW (cc := cX1_isRack) (maxL := 1) (ret := (some .boolean)) (by decide) rfl ?_
  intro pr env s m args below meth c s₁ B hml hv
  obtain ⟨rfl, hsz, hW, hK, hO⟩ := hv
  have hx := B.exec
  have hb := B.bytes
  have hr := B.returns
  have hts := atoms_spec (ws := wsX1_isRack) B.pre
  have hown : s.vm.findClass RX1 = some m.cls := findClass_of_methodNamed B.named
  have hlocks := B.notSynchronized
  have F : CallFix pr m c cX1_isRack 1 s ([.ref h] : List Value).toArray wsX1_isRack RX1 := ⟨hx, hb, hml, hown, hts⟩
  have hI_X1 : ∀ w ∈ wsX10, w ∈ wsX1_isRack := by decide +kernel
  have hl_fieldLink_RX1_9_SpliceBench_Holding_kind_I := hts (.fieldLink RX1 9 "SpliceBench$Holding" "kind" "I") (by decide +kernel)
  have hl := lv_entry ([.ref h]) (n := 1) (Nat.le_of_ble_eq_true rfl)
  rw [lg_entry_eq]
  generalize (lg_sl ([.ref h]) ++ List.replicate (1 - (lg_sl ([.ref h])).length) Slot.unset).toArray = ls at hl ⊢
  have hl : lv_has ls 1 [(0, .ref h)] := hl
  refine lv_aload_n hx hb dX1_isRack_0 rfl (lv_at hl 0 rfl) ?_
  refine mw_get (C := RX1) (T := TX1) (N := 5) F hK hW hI_X1 hh rfl 0 (by decide) hl_fieldLink_RX1_9_SpliceBench_Holding_kind_I rfl dX1_isRack_1 ?_
  refine lv_iconst (v := 4) hx hb dX1_isRack_4 (by decide) ?_
  refine lv_icmp_eq (tgt := 16) hx hb dX1_isRack_5 (by decide) (fun c_5 => ?_) (fun c_5 => ?_)
  · refine lv_iconst (v := 1) hx hb dX1_isRack_16 (by decide) ?_
    refine lv_goto (tgt := 21) hx hb dX1_isRack_17 (by decide) ?_
    exact W.zret hx hb hr (by first | rfl | exact bI_nar _) (fun t ht _ => ⟨_, rfl, (by first | rfl | simp [bI, kRack, c_5]), ht⟩) (fun _ h => by cases h) dX1_isRack_21
  · refine lv_aload_n hx hb dX1_isRack_8 rfl (lv_at hl 0 rfl) ?_
    refine mw_get (C := RX1) (T := TX1) (N := 5) F hK hW hI_X1 hh rfl 0 (by decide) hl_fieldLink_RX1_9_SpliceBench_Holding_kind_I rfl dX1_isRack_9 ?_
    refine lv_iconst (v := 5) hx hb dX1_isRack_12 (by decide) ?_
    refine lv_icmp_ne (tgt := 20) hx hb dX1_isRack_13 (by decide) (fun c_13 => ?_) (fun c_13 => ?_)
    · refine lv_iconst (v := 0) hx hb dX1_isRack_20 (by decide) ?_
      exact W.zret hx hb hr (by first | rfl | exact bI_nar _) (fun t ht _ => ⟨_, rfl, (by first | rfl | simp [bI, kRack, c_5, c_13]), ht⟩) (fun _ h => by cases h) dX1_isRack_21
    · refine lv_iconst (v := 1) hx hb dX1_isRack_16 (by decide) ?_
      refine lv_goto (tgt := 21) hx hb dX1_isRack_17 (by decide) ?_
      exact W.zret hx hb hr (by first | rfl | exact bI_nar _) (fun t ht _ => ⟨_, rfl, (by first | rfl | simp [bI, kRack, c_5, c_13]), ht⟩) (fun _ h => by cases h) dX1_isRack_21
abbrev rmX1_hasPlace : Room := ({ frames := 0, cells := 0, slots := 0, locals := 0 } : Room)
set_option maxHeartbeats 4000000 in
set_option maxRecDepth 100000 in
theorem c_X1_hasPlace {h : Nat} {k : Int32} {pn na ca : Nat} {lb : Int32} {f : Nat → Int64} {g : Nat → Option Nat} {i : Int32} (hH : hOk M cJ cC h k pn na ca lb f g) : Met l yX1_hasPlace wsX1_hasPlace rmX1_hasPlace (va_Pc [.ref h, .int i] (mwPre D (tyL cI cJ cC cH) M sz)) (vp_Si (fun r => r = bI (inPl i (nI pn)))) 0 0 (fun _ => False) := by
  refine Met.ofW (cc := cX1_hasPlace) (maxL := 2) (ret := (some .boolean)) (by decide) rfl ?_
  intro pr env s m args below meth c s₁ B hml hv
  obtain ⟨rfl, hsz, hW, hK, hO⟩ := hv
  have hx := B.exec
  have hb := B.bytes
  have hr := B.returns
  have hts := atoms_spec (ws := wsX1_hasPlace) B.pre
  have hown : s.vm.findClass RX1 = some m.cls := findClass_of_methodNamed B.named
  have hlocks := B.notSynchronized
  have F : CallFix pr m c cX1_hasPlace 2 s ([.ref h, .int i] : List Value).toArray wsX1_hasPlace RX1 := ⟨hx, hb, hml, hown, hts⟩
  have hI_X1 : ∀ w ∈ wsX10, w ∈ wsX1_hasPlace := by decide +kernel
  have hl_fieldLink_RX1_15_SpliceBench_Holding_places_I := hts (.fieldLink RX1 15 "SpliceBench$Holding" "places" "I") (by decide +kernel)
  have hl := lv_entry ([.ref h, .int i]) (n := 2) (Nat.le_of_ble_eq_true rfl)
  rw [lg_entry_eq]
  generalize (lg_sl ([.ref h, .int i]) ++ List.replicate (2 - (lg_sl ([.ref h, .int i])).length) Slot.unset).toArray = ls at hl ⊢
  have hl : lv_has ls 2 [(0, .ref h), (1, .int i)] := hl
  refine lv_iload_n hx hb dX1_hasPlace_0 rfl (lv_at hl 1 rfl) ?_
  refine lv_if_lt (tgt := 16) hx hb dX1_hasPlace_1 (by decide) (fun c_1 => ?_) (fun c_1 => ?_)
  · refine lv_iconst (v := 0) hx hb dX1_hasPlace_16 (by decide) ?_
    exact W.zret hx hb hr (by first | rfl | exact bI_nar _) (fun t ht _ => ⟨_, rfl, (by first | rfl | simp [bI, inPl, c_1]), ht⟩) (fun _ h => by cases h) dX1_hasPlace_17
  · refine lv_iload_n hx hb dX1_hasPlace_4 rfl (lv_at hl 1 rfl) ?_
    refine lv_aload_n hx hb dX1_hasPlace_5 rfl (lv_at hl 0 rfl) ?_
    refine mw_get (C := RX1) (T := TX1) (N := 5) F hK hW hI_X1 hH.1 rfl 1 (by decide) hl_fieldLink_RX1_15_SpliceBench_Holding_places_I rfl dX1_hasPlace_6 ?_
    refine lv_icmp_ge (tgt := 16) hx hb dX1_hasPlace_9 (by decide) (fun c_9 => ?_) (fun c_9 => ?_)
    · refine lv_iconst (v := 0) hx hb dX1_hasPlace_16 (by decide) ?_
      exact W.zret hx hb hr (by first | rfl | exact bI_nar _) (fun t ht _ => ⟨_, rfl, (by first | rfl | simp [bI, inPl, c_1, c_9]), ht⟩) (fun _ h => by cases h) dX1_hasPlace_17
    · refine lv_iconst (v := 1) hx hb dX1_hasPlace_12 (by decide) ?_
      refine lv_goto (tgt := 17) hx hb dX1_hasPlace_13 (by decide) ?_
      exact W.zret hx hb hr (by first | rfl | exact bI_nar _) (fun t ht _ => ⟨_, rfl, (by first | rfl | simp [bI, inPl, c_1, c_9]), ht⟩) (fun _ h => by cases h) dX1_hasPlace_17
abbrev rmX1_hasPlaces : Room := ({ frames := 0, cells := 0, slots := 0, locals := 0 } : Room)
set_option maxHeartbeats 4000000 in
set_option maxRecDepth 100000 in
theorem c_X1_hasPlaces {h : Nat} {k : Int32} {pn na ca : Nat} {lb : Int32} {f : Nat → Int64} {g : Nat → Option Nat} {i n : Int32} (hH : hOk M cJ cC h k pn na ca lb f g) : Met l yX1_hasPlaces wsX1_hasPlaces rmX1_hasPlaces (va_Pc [.ref h, .int i, .int n] (mwPre D (tyL cI cJ cC cH) M sz)) (vp_Si (fun r => r = bI (inPls i n (nI pn)))) 0 0 (fun _ => False) := by
  refine Met.ofW (cc := cX1_hasPlaces) (maxL := 3) (ret := (some .boolean)) (by decide) rfl ?_
  intro pr env s m args below meth c s₁ B hml hv
  obtain ⟨rfl, hsz, hW, hK, hO⟩ := hv
  have hx := B.exec
  have hb := B.bytes
  have hr := B.returns
  have hts := atoms_spec (ws := wsX1_hasPlaces) B.pre
  have hown : s.vm.findClass RX1 = some m.cls := findClass_of_methodNamed B.named
  have hlocks := B.notSynchronized
  have F : CallFix pr m c cX1_hasPlaces 3 s ([.ref h, .int i, .int n] : List Value).toArray wsX1_hasPlaces RX1 := ⟨hx, hb, hml, hown, hts⟩
  have hI_X1 : ∀ w ∈ wsX10, w ∈ wsX1_hasPlaces := by decide +kernel
  have hl_fieldLink_RX1_15_SpliceBench_Holding_places_I := hts (.fieldLink RX1 15 "SpliceBench$Holding" "places" "I") (by decide +kernel)
  have hl := lv_entry ([.ref h, .int i, .int n]) (n := 3) (Nat.le_of_ble_eq_true rfl)
  rw [lg_entry_eq]
  generalize (lg_sl ([.ref h, .int i, .int n]) ++ List.replicate (3 - (lg_sl ([.ref h, .int i, .int n])).length) Slot.unset).toArray = ls at hl ⊢
  have hl : lv_has ls 3 [(0, .ref h), (1, .int i), (2, .int n)] := hl
  refine lv_iload_n hx hb dX1_hasPlaces_0 rfl (lv_at hl 1 rfl) ?_
  refine lv_if_lt (tgt := 22) hx hb dX1_hasPlaces_1 (by decide) (fun c_1 => ?_) (fun c_1 => ?_)
  · refine lv_iconst (v := 0) hx hb dX1_hasPlaces_22 (by decide) ?_
    exact W.zret hx hb hr (by first | rfl | exact bI_nar _) (fun t ht _ => ⟨_, rfl, (by first | rfl | simp [bI, inPls, c_1]), ht⟩) (fun _ h => by cases h) dX1_hasPlaces_23
  · refine lv_iload_n hx hb dX1_hasPlaces_4 rfl (lv_at hl 2 rfl) ?_
    refine lv_if_lt (tgt := 22) hx hb dX1_hasPlaces_5 (by decide) (fun c_5 => ?_) (fun c_5 => ?_)
    · refine lv_iconst (v := 0) hx hb dX1_hasPlaces_22 (by decide) ?_
      exact W.zret hx hb hr (by first | rfl | exact bI_nar _) (fun t ht _ => ⟨_, rfl, (by first | rfl | simp [bI, inPls, c_1, c_5]), ht⟩) (fun _ h => by cases h) dX1_hasPlaces_23
    · refine lv_iload_n hx hb dX1_hasPlaces_8 rfl (lv_at hl 2 rfl) ?_
      refine lv_aload_n hx hb dX1_hasPlaces_9 rfl (lv_at hl 0 rfl) ?_
      refine mw_get (C := RX1) (T := TX1) (N := 5) F hK hW hI_X1 hH.1 rfl 1 (by decide) hl_fieldLink_RX1_15_SpliceBench_Holding_places_I rfl dX1_hasPlaces_10 ?_
      refine lv_iload_n hx hb dX1_hasPlaces_13 rfl (lv_at hl 1 rfl) ?_
      refine lv_isub hx hb dX1_hasPlaces_14 ?_
      refine lv_icmp_gt (tgt := 22) hx hb dX1_hasPlaces_15 (by decide) (fun c_15 => ?_) (fun c_15 => ?_)
      · refine lv_iconst (v := 0) hx hb dX1_hasPlaces_22 (by decide) ?_
        exact W.zret hx hb hr (by first | rfl | exact bI_nar _) (fun t ht _ => ⟨_, rfl, (by first | rfl | simp [bI, inPls, c_1, c_5, c_15]), ht⟩) (fun _ h => by cases h) dX1_hasPlaces_23
      · refine lv_iconst (v := 1) hx hb dX1_hasPlaces_18 (by decide) ?_
        refine lv_goto (tgt := 23) hx hb dX1_hasPlaces_19 (by decide) ?_
        exact W.zret hx hb hr (by first | rfl | exact bI_nar _) (fun t ht _ => ⟨_, rfl, (by first | rfl | simp [bI, inPls, c_1, c_5, c_15]), ht⟩) (fun _ h => by cases h) dX1_hasPlaces_23
abbrev rmX1_isLike : Room := ({ frames := 1, cells := 0, slots := 0, locals := 20 } : Room)
set_option maxHeartbeats 4000000 in
set_option maxRecDepth 100000 in
theorem c_X1_isLike {h : Nat} {k : Int32} {pn na ca : Nat} {lb : Int32} {f : Nat → Int64} {g : Nat → Option Nat} {h' : Nat} {k' : Int32} {pn' na' ca' : Nat} {lb' : Int32} {f' : Nat → Int64} {g' : Nat → Option Nat} (hH : hOk M cJ cC h k pn na ca lb f g) (hH' : hOk M cJ cC h' k' pn' na' ca' lb' f' g') : Met l yX1_isLike wsX1_isLike rmX1_isLike (va_Pc [.ref h, .ref h'] (mwPre D (tyL cI cJ cC cH) M sz)) (vp_Si (fun r => r = bI (kLike k k'))) 0 0 (fun _ => False) := by
  refine Met.ofW (cc := cX1_isLike) (maxL := 2) (ret := (some .boolean)) (by decide) rfl ?_
  intro pr env s m args below meth c s₁ B hml hv
  obtain ⟨rfl, hsz, hW, hK, hO⟩ := hv
  have hx := B.exec
  have hb := B.bytes
  have hr := B.returns
  have hts := atoms_spec (ws := wsX1_isLike) B.pre
  have hown : s.vm.findClass RX1 = some m.cls := findClass_of_methodNamed B.named
  have hlocks := B.notSynchronized
  have F : CallFix pr m c cX1_isLike 2 s ([.ref h, .ref h'] : List Value).toArray wsX1_isLike RX1 := ⟨hx, hb, hml, hown, hts⟩
  have hI_X1 : ∀ w ∈ wsX10, w ∈ wsX1_isLike := by decide +kernel
  have hl_fieldLink_RX1_9_SpliceBench_Holding_kind_I := hts (.fieldLink RX1 9 "SpliceBench$Holding" "kind" "I") (by decide +kernel)
  have hl := lv_entry ([.ref h, .ref h']) (n := 2) (Nat.le_of_ble_eq_true rfl)
  rw [lg_entry_eq]
  generalize (lg_sl ([.ref h, .ref h']) ++ List.replicate (2 - (lg_sl ([.ref h, .ref h'])).length) Slot.unset).toArray = ls at hl ⊢
  have hl : lv_has ls 2 [(0, .ref h), (1, .ref h')] := hl
  refine lv_aload_n hx hb dX1_isLike_0 rfl (lv_at hl 0 rfl) ?_
  refine vp_callSi (W.runV (As := []) (rest := []) F (c_X1_isRack hH.1) (cwV 0 hts gX1_isLike_X1_isRack rfl rfl rfl (by decide +kernel) ⟨Nat.le_of_ble_eq_true rfl, Nat.le_of_ble_eq_true rfl⟩) (mw_prV (q := (RX1, TX1, 5)) hK hO hW rfl hH.1) rfl rfl hl.1 rfl (lv_room (Nat.le_of_ble_eq_true rfl)) dX1_isLike_1 ⟨Nat.zero_le _, Nat.zero_le _⟩) (fun r_1 er_1 => ?_)
  subst er_1
  refine lv_if_eq (tgt := 14) hx hb dX1_isLike_4 (by decide) (fun c_4 => ?_) (fun c_4 => ?_)
  · have c_4 := bI_e c_4
    refine lv_aload_n hx hb dX1_isLike_14 rfl (lv_at hl 0 rfl) ?_
    refine vp_callSi (W.runV (As := []) (rest := []) F (c_X1_isStrip hH.1) (cwV 0 hts gX1_isLike_X1_isStrip rfl rfl rfl (by decide +kernel) ⟨Nat.le_of_ble_eq_true rfl, Nat.le_of_ble_eq_true rfl⟩) (mw_prV (q := (RX1, TX1, 5)) hK hO hW rfl hH.1) rfl rfl hl.1 rfl (lv_room (Nat.le_of_ble_eq_true rfl)) dX1_isLike_15 ⟨Nat.zero_le _, Nat.zero_le _⟩) (fun r_2 er_2 => ?_)
    subst er_2
    refine lv_if_eq (tgt := 36) hx hb dX1_isLike_18 (by decide) (fun c_18 => ?_) (fun c_18 => ?_)
    · have c_18 := bI_e c_18
      refine lv_iconst (v := 0) hx hb dX1_isLike_36 (by decide) ?_
      exact W.zret hx hb hr (by first | rfl | exact bI_nar _) (fun t ht _ => ⟨_, rfl, (by first | rfl | simp [bI, kLike, c_4, c_18]), ht⟩) (fun _ h => by cases h) dX1_isLike_37
    · have c_18 := bI_n c_18
      refine lv_aload_n hx hb dX1_isLike_21 rfl (lv_at hl 0 rfl) ?_
      refine mw_get (C := RX1) (T := TX1) (N := 5) F hK hW hI_X1 hH.1 rfl 0 (by decide) hl_fieldLink_RX1_9_SpliceBench_Holding_kind_I rfl dX1_isLike_22 ?_
      refine lv_aload_n hx hb dX1_isLike_25 rfl (lv_at hl 1 rfl) ?_
      refine mw_get (C := RX1) (T := TX1) (N := 5) F hK hW hI_X1 hH'.1 rfl 0 (by decide) hl_fieldLink_RX1_9_SpliceBench_Holding_kind_I rfl dX1_isLike_26 ?_
      refine lv_icmp_ne (tgt := 36) hx hb dX1_isLike_29 (by decide) (fun c_29 => ?_) (fun c_29 => ?_)
      · refine lv_iconst (v := 0) hx hb dX1_isLike_36 (by decide) ?_
        exact W.zret hx hb hr (by first | rfl | exact bI_nar _) (fun t ht _ => ⟨_, rfl, (by first | rfl | simp [bI, kLike, c_4, c_18, c_29]), ht⟩) (fun _ h => by cases h) dX1_isLike_37
      · subst c_29
        refine lv_iconst (v := 1) hx hb dX1_isLike_32 (by decide) ?_
        refine lv_goto (tgt := 37) hx hb dX1_isLike_33 (by decide) ?_
        exact W.zret hx hb hr (by first | rfl | exact bI_nar _) (fun t ht _ => ⟨_, rfl, (by first | rfl | simp [bI, kLike, c_4, c_18]), ht⟩) (fun _ h => by cases h) dX1_isLike_37
  · have c_4 := bI_n c_4
    refine lv_aload_n hx hb dX1_isLike_7 rfl (lv_at hl 1 rfl) ?_
    refine vp_callSi (W.runV (As := []) (rest := []) F (c_X1_isRack hH'.1) (cwV 0 hts gX1_isLike_X1_isRack rfl rfl rfl (by decide +kernel) ⟨Nat.le_of_ble_eq_true rfl, Nat.le_of_ble_eq_true rfl⟩) (mw_prV (q := (RX1, TX1, 5)) hK hO hW rfl hH'.1) rfl rfl hl.1 rfl (lv_room (Nat.le_of_ble_eq_true rfl)) dX1_isLike_8 ⟨Nat.zero_le _, Nat.zero_le _⟩) (fun r_3 er_3 => ?_)
    subst er_3
    refine lv_goto (tgt := 37) hx hb dX1_isLike_11 (by decide) ?_
    exact W.zret hx hb hr (by first | rfl | exact bI_nar _) (fun t ht _ => ⟨_, rfl, (by first | rfl | simp [bI, kLike, c_4]), ht⟩) (fun _ h => by cases h) dX1_isLike_37
abbrev rmX1_cardAt : Room := ({ frames := 1, cells := 0, slots := 0, locals := 21 } : Room)
set_option maxHeartbeats 4000000 in
set_option maxRecDepth 100000 in
theorem c_X1_cardAt {h : Nat} {k : Int32} {pn na ca : Nat} {lb : Int32} {f : Nat → Int64} {g : Nat → Option Nat} {i : Int32} (hH : hOk M cJ cC h k pn na ca lb f g) : Met l yX1_cardAt wsX1_cardAt rmX1_cardAt (va_Pc [.ref h, .int i] (mwPre D (tyL cI cJ cC cH) M sz)) (va_Sq (fun r => r = cdAt k pn g i)) 0 0 (fun _ => False) := by
  refine Met.ofW (cc := cX1_cardAt) (maxL := 2) (ret := (some (.object "SpliceBench$Card"))) (by decide) rfl ?_
  intro pr env s m args below meth c s₁ B hml hv
  obtain ⟨rfl, hsz, hW, hK, hO⟩ := hv
  have hx := B.exec
  have hb := B.bytes
  have hr := B.returns
  have hts := atoms_spec (ws := wsX1_cardAt) B.pre
  have hown : s.vm.findClass RX1 = some m.cls := findClass_of_methodNamed B.named
  have hlocks := B.notSynchronized
  have F : CallFix pr m c cX1_cardAt 2 s ([.ref h, .int i] : List Value).toArray wsX1_cardAt RX1 := ⟨hx, hb, hml, hown, hts⟩
  have hI_X1 : ∀ w ∈ wsX10, w ∈ wsX1_cardAt := by decide +kernel
  have hl_fieldLink_RX1_34_SpliceBench_Holding_cards_LSpliceBench_Card := hts (.fieldLink RX1 34 "SpliceBench$Holding" "cards" "[LSpliceBench$Card;") (by decide +kernel)
  have hl := lv_entry ([.ref h, .int i]) (n := 2) (Nat.le_of_ble_eq_true rfl)
  rw [lg_entry_eq]
  generalize (lg_sl ([.ref h, .int i]) ++ List.replicate (2 - (lg_sl ([.ref h, .int i])).length) Slot.unset).toArray = ls at hl ⊢
  have hl : lv_has ls 2 [(0, .ref h), (1, .int i)] := hl
  refine lv_aload_n hx hb dX1_cardAt_0 rfl (lv_at hl 0 rfl) ?_
  refine vp_callSi (W.runV (As := []) (rest := []) F (c_X1_isRack hH.1) (cwV 0 hts gX1_cardAt_X1_isRack rfl rfl rfl (by decide +kernel) ⟨Nat.le_of_ble_eq_true rfl, Nat.le_of_ble_eq_true rfl⟩) (mw_prV (q := (RX1, TX1, 5)) hK hO hW rfl hH.1) rfl rfl hl.1 rfl (lv_room (Nat.le_of_ble_eq_true rfl)) dX1_cardAt_1 ⟨Nat.zero_le _, Nat.zero_le _⟩) (fun r_1 er_1 => ?_)
  subst er_1
  refine lv_if_eq (tgt := 24) hx hb dX1_cardAt_4 (by decide) (fun c_4 => ?_) (fun c_4 => ?_)
  · have c_4 := bI_e c_4
    refine lv_null hx hb dX1_cardAt_24 ?_
    exact W.aret hx hb hr (Or.inl ⟨_, rfl⟩) (by first | exact va_rf_or _ | exact Or.inl rfl | exact Or.inr ⟨_, rfl⟩) (fun t ht _ => ⟨none, rfl, (by first | rfl | simp [cdAt, c_4]), ht⟩) (fun _ h => by cases h) dX1_cardAt_25
  · have c_4 := bI_n c_4
    refine lv_aload_n hx hb dX1_cardAt_7 rfl (lv_at hl 0 rfl) ?_
    refine lv_iload_n hx hb dX1_cardAt_8 rfl (lv_at hl 1 rfl) ?_
    refine vp_callSi (W.runV (As := [.int i]) (rest := []) F (c_X1_hasPlace (i := i) hH) (cwV 1 hts gX1_cardAt_X1_hasPlace rfl rfl rfl (by decide +kernel) ⟨Nat.le_of_ble_eq_true rfl, Nat.le_of_ble_eq_true rfl⟩) (mw_prV (q := (RX1, TX1, 5)) hK hO hW rfl hH.1) rfl rfl hl.1 rfl (lv_room (Nat.le_of_ble_eq_true rfl)) dX1_cardAt_9 ⟨Nat.zero_le _, Nat.zero_le _⟩) (fun r_2 er_2 => ?_)
    subst er_2
    refine lv_if_eq (tgt := 24) hx hb dX1_cardAt_12 (by decide) (fun c_12 => ?_) (fun c_12 => ?_)
    · have c_12 := bI_e c_12
      refine lv_null hx hb dX1_cardAt_24 ?_
      exact W.aret hx hb hr (Or.inl ⟨_, rfl⟩) (by first | exact va_rf_or _ | exact Or.inl rfl | exact Or.inr ⟨_, rfl⟩) (fun t ht _ => ⟨none, rfl, (by first | rfl | simp [cdAt, c_4, c_12]), ht⟩) (fun _ h => by cases h) dX1_cardAt_25
    · have c_12 := bI_n c_12
      refine lv_aload_n hx hb dX1_cardAt_15 rfl (lv_at hl 0 rfl) ?_
      refine mw_get (C := RX1) (T := TX1) (N := 5) F hK hW hI_X1 hH.1 rfl 3 (by decide) hl_fieldLink_RX1_34_SpliceBench_Holding_cards_LSpliceBench_Card rfl dX1_cardAt_16 ?_
      refine lv_iload_n hx hb dX1_cardAt_19 rfl (lv_at hl 1 rfl) ?_
      refine mw_aald F hK hW 2 hH.2.2.2 rfl (by rw [if_pos c_4]; exact inPl_in hH.2.1 c_12) dX1_cardAt_20 ?_
      refine lv_goto (tgt := 25) hx hb dX1_cardAt_21 (by decide) ?_
      exact W.aret hx hb hr (Or.inl ⟨_, rfl⟩) (by first | exact va_rf_or _ | exact Or.inl rfl | exact Or.inr ⟨_, rfl⟩) (fun t ht _ => ⟨g i.toNatClampNeg, rfl, (by first | rfl | simp [cdAt, c_4, c_12]), ht⟩) (fun _ h => by cases h) dX1_cardAt_25
abbrev rmX1_admits : Room := ({ frames := 0, cells := 0, slots := 0, locals := 0 } : Room)
set_option maxHeartbeats 4000000 in
set_option maxRecDepth 100000 in
theorem c_X1_admitsN {h : Nat} {k : Int32} {pn na ca : Nat} {lb : Int32} {f : Nat → Int64} {g : Nat → Option Nat} {ev : Bool} (hH : hOk M cJ cC h k pn na ca lb f g) (hv : ev = true) : Met l yX1_admits wsX1_admits rmX1_admits (va_Pc [.ref h, .null] (mwPre D (tyL cI cJ cC cH) M sz)) (vp_Si (fun r => r = bI (!decide (k = 5) || ev))) 0 0 (fun _ => False) := by
  refine Met.ofW (cc := cX1_admits) (maxL := 2) (ret := (some .boolean)) (by decide) rfl ?_
  intro pr env s m args below meth c s₁ B hml hv
  obtain ⟨rfl, hsz, hW, hK, hO⟩ := hv
  have hx := B.exec
  have hb := B.bytes
  have hr := B.returns
  have hts := atoms_spec (ws := wsX1_admits) B.pre
  have hown : s.vm.findClass RX1 = some m.cls := findClass_of_methodNamed B.named
  have hlocks := B.notSynchronized
  have F : CallFix pr m c cX1_admits 2 s ([.ref h, .null] : List Value).toArray wsX1_admits RX1 := ⟨hx, hb, hml, hown, hts⟩
  have hI_X1 : ∀ w ∈ wsX10, w ∈ wsX1_admits := by decide +kernel
  have hl_fieldLink_RX1_9_SpliceBench_Holding_kind_I := hts (.fieldLink RX1 9 "SpliceBench$Holding" "kind" "I") (by decide +kernel)
  have hl := lv_entry ([.ref h, .null]) (n := 2) (Nat.le_of_ble_eq_true rfl)
  rw [lg_entry_eq]
  generalize (lg_sl ([.ref h, .null]) ++ List.replicate (2 - (lg_sl ([.ref h, .null])).length) Slot.unset).toArray = ls at hl ⊢
  have hl : lv_has ls 2 [(0, .ref h), (1, .null)] := hl
  refine lv_aload_n hx hb dX1_admits_0 rfl (lv_at hl 0 rfl) ?_
  refine mw_get (C := RX1) (T := TX1) (N := 5) F hK hW hI_X1 hH.1 rfl 0 (by decide) hl_fieldLink_RX1_9_SpliceBench_Holding_kind_I rfl dX1_admits_1 ?_
  refine lv_iconst (v := 5) hx hb dX1_admits_4 (by decide) ?_
  refine lv_icmp_ne (tgt := 19) hx hb dX1_admits_5 (by decide) (fun c_5 => ?_) (fun c_5 => ?_)
  · refine lv_iconst (v := 1) hx hb dX1_admits_19 (by decide) ?_
    refine lv_goto (tgt := 24) hx hb dX1_admits_20 (by decide) ?_
    exact W.zret hx hb hr (by first | rfl | exact bI_nar _) (fun t ht _ => ⟨_, rfl, (by first | rfl | simp [bI, hv, c_5]), ht⟩) (fun _ h => by cases h) dX1_admits_24
  · refine lv_aload_nN hx hb dX1_admits_8 rfl (lv_at hl 1 rfl) ?_
    refine lv_ifnullN (tgt := 19) hx hb dX1_admits_9 (by decide) ?_
    refine lv_iconst (v := 1) hx hb dX1_admits_19 (by decide) ?_
    refine lv_goto (tgt := 24) hx hb dX1_admits_20 (by decide) ?_
    exact W.zret hx hb hr (by first | rfl | exact bI_nar _) (fun t ht _ => ⟨_, rfl, (by first | rfl | simp [bI, hv, c_5]), ht⟩) (fun _ h => by cases h) dX1_admits_24
set_option maxHeartbeats 4000000 in
set_option maxRecDepth 100000 in
theorem c_X1_admitsS {h : Nat} {k : Int32} {pn na ca : Nat} {lb : Int32} {f : Nat → Int64} {g : Nat → Option Nat} {ev : Bool} (hH : hOk M cJ cC h k pn na ca lb f g) {q : Nat} {num : Int64} {sh : Int32} (hq : M q = some (.inr (0, [.long num, .int (bI ev), .int sh]))) : Met l yX1_admits wsX1_admits rmX1_admits (va_Pc [.ref h, .ref q] (mwPre D (tyL cI cJ cC cH) M sz)) (vp_Si (fun r => r = bI (!decide (k = 5) || ev))) 0 0 (fun _ => False) := by
  refine Met.ofW (cc := cX1_admits) (maxL := 2) (ret := (some .boolean)) (by decide) rfl ?_
  intro pr env s m args below meth c s₁ B hml hv
  obtain ⟨rfl, hsz, hW, hK, hO⟩ := hv
  have hx := B.exec
  have hb := B.bytes
  have hr := B.returns
  have hts := atoms_spec (ws := wsX1_admits) B.pre
  have hown : s.vm.findClass RX1 = some m.cls := findClass_of_methodNamed B.named
  have hlocks := B.notSynchronized
  have F : CallFix pr m c cX1_admits 2 s ([.ref h, .ref q] : List Value).toArray wsX1_admits RX1 := ⟨hx, hb, hml, hown, hts⟩
  have hI_X0 : ∀ w ∈ wsX00, w ∈ wsX1_admits := by decide +kernel
  have hI_X1 : ∀ w ∈ wsX10, w ∈ wsX1_admits := by decide +kernel
  have hl_fieldLink_RX1_9_SpliceBench_Holding_kind_I := hts (.fieldLink RX1 9 "SpliceBench$Holding" "kind" "I") (by decide +kernel)
  have hl_fieldLink_RX1_42_SpliceBench_Card_slide_Z := hts (.fieldLink RX1 42 "SpliceBench$Card" "slide" "Z") (by decide +kernel)
  have hl := lv_entry ([.ref h, .ref q]) (n := 2) (Nat.le_of_ble_eq_true rfl)
  rw [lg_entry_eq]
  generalize (lg_sl ([.ref h, .ref q]) ++ List.replicate (2 - (lg_sl ([.ref h, .ref q])).length) Slot.unset).toArray = ls at hl ⊢
  have hl : lv_has ls 2 [(0, .ref h), (1, .ref q)] := hl
  refine lv_aload_n hx hb dX1_admits_0 rfl (lv_at hl 0 rfl) ?_
  refine mw_get (C := RX1) (T := TX1) (N := 5) F hK hW hI_X1 hH.1 rfl 0 (by decide) hl_fieldLink_RX1_9_SpliceBench_Holding_kind_I rfl dX1_admits_1 ?_
  refine lv_iconst (v := 5) hx hb dX1_admits_4 (by decide) ?_
  refine lv_icmp_ne (tgt := 19) hx hb dX1_admits_5 (by decide) (fun c_5 => ?_) (fun c_5 => ?_)
  · refine lv_iconst (v := 1) hx hb dX1_admits_19 (by decide) ?_
    refine lv_goto (tgt := 24) hx hb dX1_admits_20 (by decide) ?_
    exact W.zret hx hb hr (by first | rfl | exact bI_nar _) (fun t ht _ => ⟨_, rfl, (by first | rfl | simp [bI, c_5]), ht⟩) (fun _ h => by cases h) dX1_admits_24
  · refine lv_aload_n hx hb dX1_admits_8 rfl (lv_at hl 1 rfl) ?_
    refine lv_ifnull hx hb dX1_admits_9 ?_
    refine lv_aload_n hx hb dX1_admits_12 rfl (lv_at hl 1 rfl) ?_
    refine mw_get (C := RX0) (T := TX0) (N := 3) F hK hW hI_X0 hq rfl 1 (by decide) hl_fieldLink_RX1_42_SpliceBench_Card_slide_Z rfl dX1_admits_13 ?_
    refine lv_if_eq (tgt := 23) hx hb dX1_admits_16 (by decide) (fun c_16 => ?_) (fun c_16 => ?_)
    · have c_16 := bI_e c_16
      refine lv_iconst (v := 0) hx hb dX1_admits_23 (by decide) ?_
      exact W.zret hx hb hr (by first | rfl | exact bI_nar _) (fun t ht _ => ⟨_, rfl, (by first | rfl | simp [bI, c_5, c_16]), ht⟩) (fun _ h => by cases h) dX1_admits_24
    · have c_16 := bI_n c_16
      refine lv_iconst (v := 1) hx hb dX1_admits_19 (by decide) ?_
      refine lv_goto (tgt := 24) hx hb dX1_admits_20 (by decide) ?_
      exact W.zret hx hb hr (by first | rfl | exact bI_nar _) (fun t ht _ => ⟨_, rfl, (by first | rfl | simp [bI, c_5, c_16]), ht⟩) (fun _ h => by cases h) dX1_admits_24
theorem c_X1_admits {h : Nat} {k : Int32} {pn na ca : Nat} {lb : Int32} {f : Nat → Int64} {g : Nat → Option Nat} {ev : Bool} (hH : hOk M cJ cC h k pn na ca lb f g) {r0 : Option Nat} (hn : r0 = none → ev = true) (hs : ∀ q, r0 = some q → ∃ num sh, M q = some (.inr (0, [.long num, .int (bI ev), .int sh]))) : Met l yX1_admits wsX1_admits rmX1_admits (va_Pc [.ref h, va_rf r0] (mwPre D (tyL cI cJ cC cH) M sz)) (vp_Si (fun r => r = bI (!decide (k = 5) || ev))) 0 0 (fun _ => False) := by
  cases r0 with
  | none => exact c_X1_admitsN hH (hn rfl)
  | some q =>
    obtain ⟨num, sh, hq⟩ := hs q rfl
    exact c_X1_admitsS hH hq
abbrev rmX1_countAdmitted : Room := ({ frames := 2, cells := 0, slots := 0, locals := 42 } : Room)
set_option maxHeartbeats 4000000 in
set_option maxRecDepth 100000 in
theorem c_X1_countAdmitted {h : Nat} {k : Int32} {pn na ca : Nat} {lb : Int32} {f : Nat → Int64} {g : Nat → Option Nat} {h' : Nat} {k' : Int32} {pn' na' ca' : Nat} {lb' : Int32} {f' : Nat → Int64} {g' : Nat → Option Nat} {i' n' : Nat} {ev : Nat → Bool} (hH : hOk M cJ cC h k pn na ca lb f g) (hH' : hOk M cJ cC h' k' pn' na' ca' lb' f' g') (hin : i' + n' ≤ pn') (hn : ∀ j, j < n' → cdAt k' pn' g' (nI (i' + j)) = none → ev j = true) (hs : ∀ j, j < n' → ∀ q, cdAt k' pn' g' (nI (i' + j)) = some q → ∃ num sh, M q = some (.inr (0, [.long num, .int (bI (ev j)), .int sh]))) : Met l yX1_countAdmitted wsX1_countAdmitted rmX1_countAdmitted (va_Pc [.ref h, .ref h', .int (nI i'), .int (nI n')] (mwPre D (tyL cI cJ cC cH) M sz)) (vp_Si (fun r => r = nI (lead (fun j => !decide (k = 5) || ev j) n'))) 0 0 (fun _ => False) := by
  refine Met.ofW (cc := cX1_countAdmitted) (maxL := 5) (ret := (some .int)) (by decide) rfl ?_
  intro pr env s m args below meth c s₁ B hml hv
  obtain ⟨rfl, hsz, hW, hK, hO⟩ := hv
  have hx := B.exec
  have hb := B.bytes
  have hr := B.returns
  have hts := atoms_spec (ws := wsX1_countAdmitted) B.pre
  have hown : s.vm.findClass RX1 = some m.cls := findClass_of_methodNamed B.named
  have hlocks := B.notSynchronized
  have F : CallFix pr m c cX1_countAdmitted 5 s ([.ref h, .ref h', .int (nI i'), .int (nI n')] : List Value).toArray wsX1_countAdmitted RX1 := ⟨hx, hb, hml, hown, hts⟩
  have hp8 := hH'.2.1
  have hl := lv_entry ([.ref h, .ref h', .int (nI i'), .int (nI n')]) (n := 5) (Nat.le_of_ble_eq_true rfl)
  rw [lg_entry_eq]
  generalize (lg_sl ([.ref h, .ref h', .int (nI i'), .int (nI n')]) ++ List.replicate (5 - (lg_sl ([.ref h, .ref h', .int (nI i'), .int (nI n')])).length) Slot.unset).toArray = ls at hl ⊢
  have hl : lv_has ls 5 [(0, .ref h), (1, .ref h'), (2, .int (nI i')), (3, .int (nI n'))] := hl
  refine lv_iconst (v := 0) hx hb dX1_countAdmitted_0 (by decide) ?_
  refine lv_istore (lv' := [(4, .int 0), (0, .ref h), (1, .ref h'), (2, .int (nI i')), (3, .int (nI n'))]) hx hb dX1_countAdmitted_1 hl (by decide) rfl (fun ls hl => ?_)
  have loop : ∀ (N : Nat) (j : Nat), n' + 1 ≤ j + N → j ≤ n' → (∀ x, x < j → (fun j => !decide (k = 5) || ev j) x = true) → ∀ (ls : Array Slot), lv_has ls 5 [(4, .int (nI j)), (0, .ref h), (1, .ref h'), (2, .int (nI i')), (3, .int (nI n'))] → W pr l env (headSpec wsX1_countAdmitted rmX1_countAdmitted).room s m ([.ref h, .ref h', .int (nI i'), .int (nI n')] : List Value).toArray below meth c s.heap [] 0 0 (MQ below (vp_Si (fun r => r = nI (lead (fun j => !decide (k = 5) || ev j) n'))) ([.ref h, .ref h', .int (nI i'), .int (nI n')] : List Value).toArray s 0 0 (fun _ => False)) (F0 m 3 ls []) := by
    intro N
    induction N with
    | zero =>
      exact fun j h1 h2 => absurd h1 (by omega)
    | succ N ih =>
      intro j hN hj hP ls hl
      refine lv_iload hx hb dX1_countAdmitted_3 (lv_at hl 0 rfl) ?_
      refine lv_iload_n hx hb dX1_countAdmitted_5 rfl (lv_at hl 4 rfl) ?_
      refine lv_icmp_ge (tgt := 33) hx hb dX1_countAdmitted_6 (by decide) (fun c_6 => ?_) (fun c_6 => ?_)
      · refine lv_iload_n hx hb dX1_countAdmitted_33 rfl (lv_at hl 4 rfl) ?_
        exact W.iret hx hb hr (fun t ht _ => ⟨_, rfl, (congrArg nI (lead_eq (Nat.le_refl _) (fun x hx9 => hP x (by have := (nI_leI (by omega) (by omega)).mp c_6; omega)) (fun h9 => absurd h9 (Nat.lt_irrefl _)))), ht⟩) (fun _ h => by cases h) dX1_countAdmitted_34
      · have hjn : j < n' := by
          rcases Nat.lt_or_ge j n' with h9 | h9
          · exact h9
          · exact absurd (nI_le h9 (by omega)) c_6
        refine lv_aload_n hx hb dX1_countAdmitted_9 rfl (lv_at hl 1 rfl) ?_
        refine lv_aload_n hx hb dX1_countAdmitted_10 rfl (lv_at hl 2 rfl) ?_
        refine lv_iload_n hx hb dX1_countAdmitted_11 rfl (lv_at hl 3 rfl) ?_
        refine lv_iload hx hb dX1_countAdmitted_12 (lv_at hl 0 rfl) ?_
        refine lv_iadd hx hb dX1_countAdmitted_14 ?_
        rw [nI_add]
        refine va_csq (W.runV (As := [.int (nI (i' + j))]) (rest := [.ref h]) F (c_X1_cardAt (i := nI (i' + j)) hH') (cwV 1 hts gX1_countAdmitted_X1_cardAt rfl rfl rfl (by decide +kernel) ⟨Nat.le_of_ble_eq_true rfl, Nat.le_of_ble_eq_true rfl⟩) (mw_prV (q := (RX1, TX1, 5)) hK hO hW rfl hH'.1) rfl rfl hl.1 rfl (lv_room (Nat.le_of_ble_eq_true rfl)) dX1_countAdmitted_15 ⟨Nat.zero_le _, Nat.zero_le _⟩) (fun r_1 er_1 => ?_)
        subst er_1
        refine vp_callSi (W.runV (As := [va_rf (cdAt k' pn' g' (nI (i' + j)))]) (rest := []) F (c_X1_admits (ev := ev j) hH (hn j hjn) (hs j hjn)) (cwV 1 hts gX1_countAdmitted_X1_admits rfl rfl rfl (by decide +kernel) ⟨Nat.le_of_ble_eq_true rfl, Nat.le_of_ble_eq_true rfl⟩) (mw_prV (q := (RX1, TX1, 5)) hK hO hW rfl hH.1) rfl rfl hl.1 rfl (lv_room (Nat.le_of_ble_eq_true rfl)) dX1_countAdmitted_18 ⟨Nat.zero_le _, Nat.zero_le _⟩) (fun r er => ?_)
        subst er
        refine lv_if_ne (tgt := 27) hx hb dX1_countAdmitted_21 (by decide) (fun c_21 => ?_) (fun c_21 => ?_)
        · have c_21 := bI_n c_21
          refine lv_iinc (v := nI (j + 1)) (lv' := [(4, .int (nI (j + 1))), (0, .ref h), (1, .ref h'), (2, .int (nI i')), (3, .int (nI n'))]) hx hb dX1_countAdmitted_27 hl (k := 0) rfl (nI_1 j) (by decide) rfl (fun ls hl => ?_)
          refine lv_goto (tgt := 3) hx hb dX1_countAdmitted_30 (by decide) ?_
          exact ih (j + 1) (by omega) (by omega) (fun x hx9 => by
            rcases Nat.lt_or_ge x j with h9 | h9
            · exact hP x h9
            · rw [show x = j by omega]; exact c_21) ls (lv_sub hl [0, 1, 2, 3, 4] rfl)
        · have c_21 := bI_e c_21
          refine lv_iload hx hb dX1_countAdmitted_24 (lv_at hl 0 rfl) ?_
          exact W.iret hx hb hr (fun t ht _ => ⟨_, rfl, (congrArg nI (lead_eq (Nat.le_of_lt hjn) hP (fun _ => c_21))), ht⟩) (fun _ h => by cases h) dX1_countAdmitted_26
  exact loop (n' + 1) 0 (by omega) (Nat.zero_le _) (fun x h9 => absurd h9 (Nat.not_lt_zero x)) ls (lv_sub hl [0, 1, 2, 3, 4] rfl)
abbrev rmX1_countFilled : Room := ({ frames := 2, cells := 0, slots := 0, locals := 42 } : Room)
set_option maxHeartbeats 4000000 in
set_option maxRecDepth 100000 in
theorem c_X1_countFilled {h : Nat} {k : Int32} {pn na ca : Nat} {lb : Int32} {f : Nat → Int64} {g : Nat → Option Nat} (hH : hOk M cJ cC h k pn na ca lb f g) : Met l yX1_countFilled wsX1_countFilled rmX1_countFilled (va_Pc [.ref h] (mwPre D (tyL cI cJ cC cH) M sz)) (vp_Si (fun r => r = nI (cntF (fun j => if kStrip k = true then !decide (f j = 0) else decide (cdAt k pn g (nI j) ≠ none)) pn))) 0 0 (fun _ => False) := by
  refine Met.ofW (cc := cX1_countFilled) (maxL := 3) (ret := (some .int)) (by decide) rfl ?_
  intro pr env s m args below meth c s₁ B hml hv
  obtain ⟨rfl, hsz, hW, hK, hO⟩ := hv
  have hx := B.exec
  have hb := B.bytes
  have hr := B.returns
  have hts := atoms_spec (ws := wsX1_countFilled) B.pre
  have hown : s.vm.findClass RX1 = some m.cls := findClass_of_methodNamed B.named
  have hlocks := B.notSynchronized
  have F : CallFix pr m c cX1_countFilled 3 s ([.ref h] : List Value).toArray wsX1_countFilled RX1 := ⟨hx, hb, hml, hown, hts⟩
  have hI_X1 : ∀ w ∈ wsX10, w ∈ wsX1_countFilled := by decide +kernel
  have hl_fieldLink_RX1_15_SpliceBench_Holding_places_I := hts (.fieldLink RX1 15 "SpliceBench$Holding" "places" "I") (by decide +kernel)
  have hl_fieldLink_RX1_25_SpliceBench_Holding_numbers_J := hts (.fieldLink RX1 25 "SpliceBench$Holding" "numbers" "[J") (by decide +kernel)
  have hp8 := hH.2.1
  have hl := lv_entry ([.ref h]) (n := 3) (Nat.le_of_ble_eq_true rfl)
  rw [lg_entry_eq]
  generalize (lg_sl ([.ref h]) ++ List.replicate (3 - (lg_sl ([.ref h])).length) Slot.unset).toArray = ls at hl ⊢
  have hl : lv_has ls 3 [(0, .ref h)] := hl
  refine lv_iconst (v := 0) hx hb dX1_countFilled_0 (by decide) ?_
  refine lv_istore_n (lv' := [(1, .int 0), (0, .ref h)]) hx hb dX1_countFilled_1 rfl hl (by decide) rfl (fun ls hl => ?_)
  refine lv_iconst (v := 0) hx hb dX1_countFilled_2 (by decide) ?_
  refine lv_istore_n (lv' := [(2, .int 0), (1, .int 0), (0, .ref h)]) hx hb dX1_countFilled_3 rfl hl (by decide) rfl (fun ls hl => ?_)
  have loop : ∀ (N : Nat) (j : Nat), pn + 1 ≤ j + N → j ≤ pn → ∀ (ls : Array Slot), lv_has ls 3 [(2, .int (nI j)), (1, .int (nI (cntF (fun j => if kStrip k = true then !decide (f j = 0) else decide (cdAt k pn g (nI j) ≠ none)) j))), (0, .ref h)] → W pr l env (headSpec wsX1_countFilled rmX1_countFilled).room s m ([.ref h] : List Value).toArray below meth c s.heap [] 0 0 (MQ below (vp_Si (fun r => r = nI (cntF (fun j => if kStrip k = true then !decide (f j = 0) else decide (cdAt k pn g (nI j) ≠ none)) pn))) ([.ref h] : List Value).toArray s 0 0 (fun _ => False)) (F0 m 4 ls []) := by
    intro N
    induction N with
    | zero =>
      exact fun j h1 h2 => absurd h1 (by omega)
    | succ N ih =>
      intro j hN hj ls hl
      refine lv_iload_n hx hb dX1_countFilled_4 rfl (lv_at hl 0 rfl) ?_
      refine lv_aload_n hx hb dX1_countFilled_5 rfl (lv_at hl 2 rfl) ?_
      refine mw_get (C := RX1) (T := TX1) (N := 5) F hK hW hI_X1 hH.1 rfl 1 (by decide) hl_fieldLink_RX1_15_SpliceBench_Holding_places_I rfl dX1_countFilled_6 ?_
      refine lv_icmp_ge (tgt := 50) hx hb dX1_countFilled_9 (by decide) (fun c_9 => ?_) (fun c_9 => ?_)
      · refine lv_iload_n hx hb dX1_countFilled_50 rfl (lv_at hl 1 rfl) ?_
        exact W.iret hx hb hr (fun t ht _ => ⟨_, rfl, (congrArg (fun z => nI (cntF (fun j => if kStrip k = true then !decide (f j = 0) else decide (cdAt k pn g (nI j) ≠ none)) z)) (show j = pn by have := (nI_leI (by omega) (by omega)).mp c_9; omega)), ht⟩) (fun _ h => by cases h) dX1_countFilled_51
      · have hjn : j < pn := by
          rcases Nat.lt_or_ge j pn with h9 | h9
          · exact h9
          · exact absurd (nI_le h9 (by omega)) c_9
        refine lv_aload_n hx hb dX1_countFilled_12 rfl (lv_at hl 2 rfl) ?_
        refine vp_callSi (W.runV (As := []) (rest := []) F (c_X1_isStrip hH.1) (cwV 0 hts gX1_countFilled_X1_isStrip rfl rfl rfl (by decide +kernel) ⟨Nat.le_of_ble_eq_true rfl, Nat.le_of_ble_eq_true rfl⟩) (mw_prV (q := (RX1, TX1, 5)) hK hO hW rfl hH.1) rfl rfl hl.1 rfl (lv_room (Nat.le_of_ble_eq_true rfl)) dX1_countFilled_13 ⟨Nat.zero_le _, Nat.zero_le _⟩) (fun r_1 er_1 => ?_)
        subst er_1
        refine lv_if_eq (tgt := 33) hx hb dX1_countFilled_16 (by decide) (fun c_16 => ?_) (fun c_16 => ?_)
        · have c_16 := bI_e c_16
          refine lv_aload_n hx hb dX1_countFilled_33 rfl (lv_at hl 2 rfl) ?_
          refine lv_iload_n hx hb dX1_countFilled_34 rfl (lv_at hl 0 rfl) ?_
          refine va_csq (W.runV (As := [.int (nI j)]) (rest := []) F (c_X1_cardAt (i := nI j) hH) (cwV 1 hts gX1_countFilled_X1_cardAt rfl rfl rfl (by decide +kernel) ⟨Nat.le_of_ble_eq_true rfl, Nat.le_of_ble_eq_true rfl⟩) (mw_prV (q := (RX1, TX1, 5)) hK hO hW rfl hH.1) rfl rfl hl.1 rfl (lv_room (Nat.le_of_ble_eq_true rfl)) dX1_countFilled_35 ⟨Nat.zero_le _, Nat.zero_le _⟩) (fun r_2 er_2 => ?_)
          subst er_2
          cases hcd : cdAt k pn g (nI j) with
          | none =>
            show W _ _ _ _ _ _ _ _ _ _ _ _ _ _ _ (F0 m 38 ls [.null])
            refine lv_ifnullN (tgt := 44) hx hb dX1_countFilled_38 (by decide) ?_
            refine lv_iinc (v := nI (j + 1)) (lv' := [(2, .int (nI (j + 1))), (1, .int (nI (cntF (fun j => if kStrip k = true then !decide (f j = 0) else decide (cdAt k pn g (nI j) ≠ none)) j))), (0, .ref h)]) hx hb dX1_countFilled_44 hl (k := 0) rfl (nI_1 j) (by decide) rfl (fun ls hl => ?_)
            refine lv_goto (tgt := 4) hx hb dX1_countFilled_47 (by decide) ?_
            have hc : cntF (fun j => if kStrip k = true then !decide (f j = 0) else decide (cdAt k pn g (nI j) ≠ none)) (j + 1) = (cntF (fun j => if kStrip k = true then !decide (f j = 0) else decide (cdAt k pn g (nI j) ≠ none)) j) := by
              simp [cntF, c_16, hcd]
            rw [← hc] at hl
            exact ih (j + 1) (by omega) (by omega) ls (lv_sub hl [0, 1, 2] rfl)
          | some q =>
            show W _ _ _ _ _ _ _ _ _ _ _ _ _ _ _ (F0 m 38 ls [.ref q])
            refine lv_ifnull hx hb dX1_countFilled_38 ?_
            refine lv_iinc (v := nI (cntF (fun j => if kStrip k = true then !decide (f j = 0) else decide (cdAt k pn g (nI j) ≠ none)) j + 1)) (lv' := [(1, .int (nI (cntF (fun j => if kStrip k = true then !decide (f j = 0) else decide (cdAt k pn g (nI j) ≠ none)) j + 1))), (2, .int (nI j)), (0, .ref h)]) hx hb dX1_countFilled_41 hl (k := 1) rfl (nI_1 _) (by decide) rfl (fun ls hl => ?_)
            refine lv_iinc (v := nI (j + 1)) (lv' := [(2, .int (nI (j + 1))), (1, .int (nI (cntF (fun j => if kStrip k = true then !decide (f j = 0) else decide (cdAt k pn g (nI j) ≠ none)) j + 1))), (0, .ref h)]) hx hb dX1_countFilled_44 hl (k := 1) rfl (nI_1 j) (by decide) rfl (fun ls hl => ?_)
            refine lv_goto (tgt := 4) hx hb dX1_countFilled_47 (by decide) ?_
            have hc : cntF (fun j => if kStrip k = true then !decide (f j = 0) else decide (cdAt k pn g (nI j) ≠ none)) (j + 1) = (cntF (fun j => if kStrip k = true then !decide (f j = 0) else decide (cdAt k pn g (nI j) ≠ none)) j + 1) := by
              simp [cntF, c_16, hcd]
            rw [← hc] at hl
            exact ih (j + 1) (by omega) (by omega) ls (lv_sub hl [0, 1, 2] rfl)
        · have c_16 := bI_n c_16
          refine lv_aload_n hx hb dX1_countFilled_19 rfl (lv_at hl 2 rfl) ?_
          refine mw_get (C := RX1) (T := TX1) (N := 5) F hK hW hI_X1 hH.1 rfl 2 (by decide) hl_fieldLink_RX1_25_SpliceBench_Holding_numbers_J rfl dX1_countFilled_20 ?_
          refine lv_iload_n hx hb dX1_countFilled_23 rfl (lv_at hl 0 rfl) ?_
          refine mw_lald F hK hW 1 hH.2.2.1 rfl (by rw [if_pos c_16]; exact vp_in_nI hjn (by omega)) dX1_countFilled_24 ?_
          rw [nI_clamp (show j < 2 ^ 31 by omega)]
          refine lv_lconst (v := 0) hx hb dX1_countFilled_25 (by decide) ?_
          refine W.lcmp hx hb dX1_countFilled_26 ?_
          refine lv_if_eq (tgt := 44) hx hb dX1_countFilled_27 (by decide) (fun c_27 => ?_) (fun c_27 => ?_)
          · have c_27 := (lg_cmp_eq _ _).mp c_27
            refine lv_iinc (v := nI (j + 1)) (lv' := [(2, .int (nI (j + 1))), (1, .int (nI (cntF (fun j => if kStrip k = true then !decide (f j = 0) else decide (cdAt k pn g (nI j) ≠ none)) j))), (0, .ref h)]) hx hb dX1_countFilled_44 hl (k := 0) rfl (nI_1 j) (by decide) rfl (fun ls hl => ?_)
            refine lv_goto (tgt := 4) hx hb dX1_countFilled_47 (by decide) ?_
            have hc : cntF (fun j => if kStrip k = true then !decide (f j = 0) else decide (cdAt k pn g (nI j) ≠ none)) (j + 1) = (cntF (fun j => if kStrip k = true then !decide (f j = 0) else decide (cdAt k pn g (nI j) ≠ none)) j) := by
              simp [cntF, c_16, c_27]
            rw [← hc] at hl
            exact ih (j + 1) (by omega) (by omega) ls (lv_sub hl [0, 1, 2] rfl)
          · have c_27 : ¬ (_ = _) := fun h9 => c_27 ((lg_cmp_eq _ _).mpr h9)
            refine lv_goto (tgt := 41) hx hb dX1_countFilled_30 (by decide) ?_
            refine lv_iinc (v := nI (cntF (fun j => if kStrip k = true then !decide (f j = 0) else decide (cdAt k pn g (nI j) ≠ none)) j + 1)) (lv' := [(1, .int (nI (cntF (fun j => if kStrip k = true then !decide (f j = 0) else decide (cdAt k pn g (nI j) ≠ none)) j + 1))), (2, .int (nI j)), (0, .ref h)]) hx hb dX1_countFilled_41 hl (k := 1) rfl (nI_1 _) (by decide) rfl (fun ls hl => ?_)
            refine lv_iinc (v := nI (j + 1)) (lv' := [(2, .int (nI (j + 1))), (1, .int (nI (cntF (fun j => if kStrip k = true then !decide (f j = 0) else decide (cdAt k pn g (nI j) ≠ none)) j + 1))), (0, .ref h)]) hx hb dX1_countFilled_44 hl (k := 1) rfl (nI_1 j) (by decide) rfl (fun ls hl => ?_)
            refine lv_goto (tgt := 4) hx hb dX1_countFilled_47 (by decide) ?_
            have hc : cntF (fun j => if kStrip k = true then !decide (f j = 0) else decide (cdAt k pn g (nI j) ≠ none)) (j + 1) = (cntF (fun j => if kStrip k = true then !decide (f j = 0) else decide (cdAt k pn g (nI j) ≠ none)) j + 1) := by
              simp [cntF, c_16, c_27]
            rw [← hc] at hl
            exact ih (j + 1) (by omega) (by omega) ls (lv_sub hl [0, 1, 2] rfl)
  exact loop (pn + 1) 0 (by omega) (Nat.zero_le _) ls (lv_sub hl [0, 1, 2] rfl)
end X1R
