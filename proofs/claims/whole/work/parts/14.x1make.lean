section X1M
variable {l : Launch} {D : va_G} {cI cJ cC cH : ClassId} {M : Nat → Option va_E} {sz : Nat}
abbrev rmX0_init : Room := ({ frames := 1, cells := 0, slots := 0, locals := 12 } : Room)
set_option maxHeartbeats 4000000 in
set_option maxRecDepth 100000 in
theorem c_X0_init {q : Nat} {v : Int64} (hq : M q = some (.inr (0, [.long 0, .int 0, .int 0]))) : Met l yX0_init wsX0_init rmX0_init (va_Pc [.ref q, .long v] (mwPre D (tyL cI cJ cC cH) M sz)) (va_Qv (fun M' => M' = va_up M q (some (.inr (0, [.long v, .int (bI (evn v)), .int 0])))) (mwB D (tyL cI cJ cC cH) M sz) (mwA M sz)) 0 0 (mwA M sz) := by
  refine Met.ofW (cc := cX0_init) (maxL := 3) (ret := none) (by decide) rfl ?_
  intro pr env s m args below meth c s₁ B hml hv
  obtain ⟨rfl, hsz, hW, hK, hO⟩ := hv
  subst hsz
  have hW := hW.self (sz := s.heap.size)
  have hS : va_S (mwA M s.heap.size) s.heap s.heap [] := va_S.rf
  have hA : ∀ q, s.heap.size ≤ q → mwA M s.heap.size q := fun q h => Or.inr h
  have hx := B.exec
  have hb := B.bytes
  have hr := B.returns
  have hts := atoms_spec (ws := wsX0_init) B.pre
  have hin : meth.name = "<init>" := (name_of_methodNamed B.named B.method).1
  have hown : s.vm.findClass RX0 = some m.cls := findClass_of_methodNamed B.named
  have hlocks := B.notSynchronized
  have F : CallFix pr m c cX0_init 3 s ([.ref q, .long v] : List Value).toArray wsX0_init RX0 := ⟨hx, hb, hml, hown, hts⟩
  have hI_X0 : ∀ w ∈ wsX00, w ∈ wsX0_init := by decide +kernel
  have hl_methodLink_RX0_1_objectInit := hts (.methodLink RX0 1 objectInit) (by decide +kernel)
  have hl_instanceMethod_objectInit := hts (.instanceMethod objectInit) (by decide +kernel)
  have hl_fieldLink_RX0_7_SpliceBench_Card_shown_I := hts (.fieldLink RX0 7 "SpliceBench$Card" "shown" "I") (by decide +kernel)
  have hl_fieldLink_RX0_13_SpliceBench_Card_number_J := hts (.fieldLink RX0 13 "SpliceBench$Card" "number" "J") (by decide +kernel)
  have hl_fieldLink_RX0_17_SpliceBench_Card_slide_Z := hts (.fieldLink RX0 17 "SpliceBench$Card" "slide" "Z") (by decide +kernel)
  have hl_oc := hts (.code objectInit ⟨#[0xb1]⟩ 1 none) (by decide +kernel)
  have hl := lv_entry ([.ref q, .long v]) (n := 3) (Nat.le_of_ble_eq_true rfl)
  rw [lg_entry_eq]
  generalize (lg_sl ([.ref q, .long v]) ++ List.replicate (3 - (lg_sl ([.ref q, .long v])).length) Slot.unset).toArray = ls at hl ⊢
  have hl : lv_has ls 3 [(0, .ref q), (1, .long v)] := hl
  refine lv_aload_n hx hb dX0_init_0 rfl (lv_at hl 0 rfl) ?_
  refine W.objInit hx hb hown hl_methodLink_RX0_1_objectInit hl_instanceMethod_objectInit hl_oc rfl (by rw [hml]; exact hl.1) rfl dX0_init_1 (Nat.le_of_ble_eq_true rfl) (Nat.le_of_ble_eq_true rfl) ?_
  refine W.eq (g2 := F0 m 4 ls []) rfl ?_
  refine lv_aload_n hx hb dX0_init_4 rfl (lv_at hl 0 rfl) ?_
  refine lv_iconst (v := 0) hx hb dX0_init_5 (by decide) ?_
  refine mw_put (C := RX0) (T := TX0) (N := 3) (v := .int 0) F hK hW hS hI_X0 tyX0 tyX0_ok nmX0 hq rfl 2 (by decide) hl_fieldLink_RX0_7_SpliceBench_Card_shown_I rfl rfl rfl (Nat.le_of_ble_eq_true rfl) dX0_init_6 (fun H locs hW hS => ?_)
  have hW : mw D (mwA M s.heap.size) (va_up M q (some (.inr (0, [.long 0, .int 0, .int 0])))) H := hW
  have hc_6 : (va_up M q (some (.inr (0, [.long 0, .int 0, .int 0])))) q = some (.inr (0, [.long 0, .int 0, .int 0])) := va_up_self _ _ _
  refine lv_aload_n hx hb dX0_init_9 rfl (lv_at hl 0 rfl) ?_
  refine lv_lload_n hx hb dX0_init_10 rfl (lv_at hl 1 rfl) ?_
  refine mw_putF (C := RX0) (T := TX0) (N := 3) (v := .long v) F hK hW hS hI_X0 tyX0 tyX0_ok nmX0 hc_6 rfl 0 (by decide) hl_fieldLink_RX0_13_SpliceBench_Card_number_J rfl hin rfl rfl rfl (Nat.le_of_ble_eq_true rfl) dX0_init_11 (fun H locs hW hS => ?_)
  have hW : mw D (mwA M s.heap.size) (va_up (va_up M q (some (.inr (0, [.long 0, .int 0, .int 0])))) q (some (.inr (0, [.long v, .int 0, .int 0])))) H := hW
  rw [bx_uu] at hW
  have hc_11 : (va_up M q (some (.inr (0, [.long v, .int 0, .int 0])))) q = some (.inr (0, [.long v, .int 0, .int 0])) := va_up_self _ _ _
  refine lv_aload_n hx hb dX0_init_14 rfl (lv_at hl 0 rfl) ?_
  refine lv_lload_n hx hb dX0_init_15 rfl (lv_at hl 1 rfl) ?_
  refine lv_lconst (v := 1) hx hb dX0_init_16 (by decide) ?_
  refine lv_land hx hb dX0_init_17 ?_
  refine lv_lconst (v := 0) hx hb dX0_init_18 (by decide) ?_
  refine W.lcmp hx hb dX0_init_19 ?_
  refine lv_if_ne (tgt := 27) hx hb dX0_init_20 (by decide) (fun c_20 => ?_) (fun c_20 => ?_)
  · have he : evn v = false := by simp only [evn]; exact decide_eq_false (fun z => c_20 ((lg_cmp_eq _ _).mpr z))
    refine lv_iconst (v := 0) hx hb dX0_init_27 (by decide) ?_
    refine mw_putF (C := RX0) (T := TX0) (N := 3) (v := .int 0) F hK hW hS hI_X0 tyX0 tyX0_ok nmX0 hc_11 rfl 1 (by decide) hl_fieldLink_RX0_17_SpliceBench_Card_slide_Z rfl hin rfl rfl rfl (Nat.le_of_ble_eq_true rfl) dX0_init_28 (fun H locs hW hS => ?_)
    have hW : mw D (mwA M s.heap.size) (va_up (va_up M q (some (.inr (0, [.long v, .int 0, .int 0])))) q (some (.inr (0, [.long v, .int 0, .int 0])))) H := hW
    rw [bx_uu] at hW
    have hc_28 : (va_up M q (some (.inr (0, [.long v, .int 0, .int 0])))) q = some (.inr (0, [.long v, .int 0, .int 0])) := va_up_self _ _ _
    exact W.vret hx hb hr (fun t ht hw => ⟨⟨va_up M q (some (.inr (0, [.long v, .int 0, .int 0]))), rfl, (by rw [he]; rfl), by rw [ht]; exact hW, va_K.moved hw.alike hK⟩, hS.F ht⟩) hS.2.2 dX0_init_31
  · have he : evn v = true := by simp only [evn]; exact decide_eq_true ((lg_cmp_eq _ _).mp c_20)
    refine lv_iconst (v := 1) hx hb dX0_init_23 (by decide) ?_
    refine lv_goto (tgt := 28) hx hb dX0_init_24 (by decide) ?_
    refine mw_putF (C := RX0) (T := TX0) (N := 3) (v := .int 1) F hK hW hS hI_X0 tyX0 tyX0_ok nmX0 hc_11 rfl 1 (by decide) hl_fieldLink_RX0_17_SpliceBench_Card_slide_Z rfl hin rfl rfl rfl (Nat.le_of_ble_eq_true rfl) dX0_init_28 (fun H locs hW hS => ?_)
    have hW : mw D (mwA M s.heap.size) (va_up (va_up M q (some (.inr (0, [.long v, .int 0, .int 0])))) q (some (.inr (0, [.long v, .int 1, .int 0])))) H := hW
    rw [bx_uu] at hW
    have hc_28 : (va_up M q (some (.inr (0, [.long v, .int 1, .int 0])))) q = some (.inr (0, [.long v, .int 1, .int 0])) := va_up_self _ _ _
    exact W.vret hx hb hr (fun t ht hw => ⟨⟨va_up M q (some (.inr (0, [.long v, .int 1, .int 0]))), rfl, (by rw [he]; rfl), by rw [ht]; exact hW, va_K.moved hw.alike hK⟩, hS.F ht⟩) hS.2.2 dX0_init_31
abbrev rmX1_init : Room := ({ frames := 1, cells := 2, slots := 80, locals := 20 } : Room)
set_option maxHeartbeats 4000000 in
set_option maxRecDepth 100000 in
theorem c_X1_init {h : Nat} {k : Int32} {pn : Nat} {lb : Int32} (hp8 : pn ≤ 80) (hh : M h = some (.inr (1, [.int 0, .int 0, .null, .null, .int 0]))) : Met l yX1_init wsX1_init rmX1_init (va_Pc [.ref h, .int k, .int (nI pn), .int lb] (mwPre D (tyL cI cJ cC cH) M sz)) (va_Qv (fun M' => ∃ na ca : Nat, hOk M' cJ cC h k pn na ca lb (fun _ => 0) (fun _ => none) ∧ M na = none ∧ M ca = none ∧ na ≠ ca ∧ ∀ a, a ≠ h → a ≠ na → a ≠ ca → M' a = M a) (mwB D (tyL cI cJ cC cH) M sz) (mwA M sz)) 2 80 (mwA M sz) := by
  refine Met.ofW (cc := cX1_init) (maxL := 4) (ret := none) (by decide) rfl ?_
  intro pr env s m args below meth c s₁ B hml hv
  obtain ⟨rfl, hsz, hW, hK, hO⟩ := hv
  subst hsz
  have hW := hW.self (sz := s.heap.size)
  have hS : va_S (mwA M s.heap.size) s.heap s.heap [] := va_S.rf
  have hA : ∀ q, s.heap.size ≤ q → mwA M s.heap.size q := fun q h => Or.inr h
  have hx := B.exec
  have hb := B.bytes
  have hr := B.returns
  have hts := atoms_spec (ws := wsX1_init) B.pre
  have hin : meth.name = "<init>" := (name_of_methodNamed B.named B.method).1
  have hown : s.vm.findClass RX1 = some m.cls := findClass_of_methodNamed B.named
  have hlocks := B.notSynchronized
  have F : CallFix pr m c cX1_init 4 s ([.ref h, .int k, .int (nI pn), .int lb] : List Value).toArray wsX1_init RX1 := ⟨hx, hb, hml, hown, hts⟩
  have hI_X1 : ∀ w ∈ wsX10, w ∈ wsX1_init := by decide +kernel
  have hl_methodLink_RX1_3_objectInit := hts (.methodLink RX1 3 objectInit) (by decide +kernel)
  have hl_instanceMethod_objectInit := hts (.instanceMethod objectInit) (by decide +kernel)
  have hl_fieldLink_RX1_9_SpliceBench_Holding_kind_I := hts (.fieldLink RX1 9 "SpliceBench$Holding" "kind" "I") (by decide +kernel)
  have hl_fieldLink_RX1_15_SpliceBench_Holding_places_I := hts (.fieldLink RX1 15 "SpliceBench$Holding" "places" "I") (by decide +kernel)
  have hl_fieldLink_RX1_18_SpliceBench_Holding_label_I := hts (.fieldLink RX1 18 "SpliceBench$Holding" "label" "I") (by decide +kernel)
  have hl_arrayClass_long := hts (.arrayClass .long) (by decide +kernel)
  have hl_fieldLink_RX1_25_SpliceBench_Holding_numbers_J := hts (.fieldLink RX1 25 "SpliceBench$Holding" "numbers" "[J") (by decide +kernel)
  have hl_classLink_RX1_32_RX0 := hts (.classLink RX1 32 RX0) (by decide +kernel)
  have hl_fieldLink_RX1_34_SpliceBench_Holding_cards_LSpliceBench_Card := hts (.fieldLink RX1 34 "SpliceBench$Holding" "cards" "[LSpliceBench$Card;") (by decide +kernel)
  have hl_oc := hts (.code objectInit ⟨#[0xb1]⟩ 1 none) (by decide +kernel)
  have hl := lv_entry ([.ref h, .int k, .int (nI pn), .int lb]) (n := 4) (Nat.le_of_ble_eq_true rfl)
  rw [lg_entry_eq]
  generalize (lg_sl ([.ref h, .int k, .int (nI pn), .int lb]) ++ List.replicate (4 - (lg_sl ([.ref h, .int k, .int (nI pn), .int lb])).length) Slot.unset).toArray = ls at hl ⊢
  have hl : lv_has ls 4 [(0, .ref h), (1, .int k), (2, .int (nI pn)), (3, .int lb)] := hl
  refine lv_aload_n hx hb dX1_init_0 rfl (lv_at hl 0 rfl) ?_
  refine W.objInit hx hb hown hl_methodLink_RX1_3_objectInit hl_instanceMethod_objectInit hl_oc rfl (by rw [hml]; exact hl.1) rfl dX1_init_1 (Nat.le_of_ble_eq_true rfl) (Nat.le_of_ble_eq_true rfl) ?_
  refine W.eq (g2 := F0 m 4 ls []) rfl ?_
  refine lv_aload_n hx hb dX1_init_4 rfl (lv_at hl 0 rfl) ?_
  refine lv_iload_n hx hb dX1_init_5 rfl (lv_at hl 1 rfl) ?_
  refine mw_putF (C := RX1) (T := TX1) (N := 5) (v := .int k) F hK hW hS hI_X1 tyX1 tyX1_ok nmX1 hh rfl 0 (by decide) hl_fieldLink_RX1_9_SpliceBench_Holding_kind_I rfl hin rfl rfl rfl (Nat.le_of_ble_eq_true rfl) dX1_init_6 (fun H locs hW hS => ?_)
  have hW : mw D (mwA M s.heap.size) (va_up M h (some (.inr (1, [.int k, .int 0, .null, .null, .int 0])))) H := hW
  have hc_6 : (va_up M h (some (.inr (1, [.int k, .int 0, .null, .null, .int 0])))) h = some (.inr (1, [.int k, .int 0, .null, .null, .int 0])) := va_up_self _ _ _
  refine lv_aload_n hx hb dX1_init_9 rfl (lv_at hl 0 rfl) ?_
  refine lv_iload_n hx hb dX1_init_10 rfl (lv_at hl 2 rfl) ?_
  refine mw_putF (C := RX1) (T := TX1) (N := 5) (v := .int (nI pn)) F hK hW hS hI_X1 tyX1 tyX1_ok nmX1 hc_6 rfl 1 (by decide) hl_fieldLink_RX1_15_SpliceBench_Holding_places_I rfl hin rfl rfl rfl (Nat.le_of_ble_eq_true rfl) dX1_init_11 (fun H locs hW hS => ?_)
  have hW : mw D (mwA M s.heap.size) (va_up (va_up M h (some (.inr (1, [.int k, .int 0, .null, .null, .int 0])))) h (some (.inr (1, [.int k, .int (nI pn), .null, .null, .int 0])))) H := hW
  rw [bx_uu] at hW
  have hc_11 : (va_up M h (some (.inr (1, [.int k, .int (nI pn), .null, .null, .int 0])))) h = some (.inr (1, [.int k, .int (nI pn), .null, .null, .int 0])) := va_up_self _ _ _
  refine lv_aload_n hx hb dX1_init_14 rfl (lv_at hl 0 rfl) ?_
  refine lv_iload_n hx hb dX1_init_15 rfl (lv_at hl 3 rfl) ?_
  refine mw_put (C := RX1) (T := TX1) (N := 5) (v := .int lb) F hK hW hS hI_X1 tyX1 tyX1_ok nmX1 hc_11 rfl 4 (by decide) hl_fieldLink_RX1_18_SpliceBench_Holding_label_I rfl rfl rfl (Nat.le_of_ble_eq_true rfl) dX1_init_16 (fun H locs hW hS => ?_)
  have hW : mw D (mwA M s.heap.size) (va_up (va_up M h (some (.inr (1, [.int k, .int (nI pn), .null, .null, .int 0])))) h (some (.inr (1, [.int k, .int (nI pn), .null, .null, .int lb])))) H := hW
  rw [bx_uu] at hW
  have hc_16 : (va_up M h (some (.inr (1, [.int k, .int (nI pn), .null, .null, .int lb])))) h = some (.inr (1, [.int k, .int (nI pn), .null, .null, .int lb])) := va_up_self _ _ _
  refine lv_aload_n hx hb dX1_init_19 rfl (lv_at hl 0 rfl) ?_
  refine lv_aload_n hx hb dX1_init_20 rfl (lv_at hl 0 rfl) ?_
  refine vp_callSi (W.runV (As := []) (rest := [.ref h]) F (c_X1_isStrip hc_16) (cwV 0 hts gX1_init_X1_isStrip rfl rfl rfl (by decide +kernel) ⟨Nat.le_of_ble_eq_true rfl, Nat.le_of_ble_eq_true rfl⟩) (mw_prV (q := (RX1, TX1, 5)) hK hO hW rfl hc_16) rfl rfl hl.1 rfl (lv_room (Nat.le_of_ble_eq_true rfl)) dX1_init_21 ⟨by show _ ≤ 2; omega, by show _ ≤ 80; omega⟩) (fun r_1 er_1 => ?_)
  subst er_1
  refine lv_if_eq (tgt := 31) hx hb dX1_init_24 (by decide) (fun c_24 => ?_) (fun c_24 => ?_)
  · have c_24 := bI_e c_24
    refine lv_iconst (v := 0) hx hb dX1_init_31 (by decide) ?_
    refine mw_newa (atype := .long) (n := 0) (N' := 0) (ty := .long) (a0 := (0, .inr (.inl (fun _ => 0)))) F hK hW hS hA 1 hl_arrayClass_long rfl rfl (fun C z => by cases z) (fun cA => rfl) (by decide) (by decide) (by show 0 * 8 ≤ _; omega) (by show _ ≤ 2; omega) (by show _ ≤ 80; omega) dX1_init_32 (fun na H hna hW hS => ?_)
    have hnh : h ≠ na := mw_nnew hc_16 hna
    have hc_na : (va_up (va_up M h (some (.inr (1, [.int k, .int (nI pn), .null, .null, .int lb])))) na (some (.inl (cJ, 0, .inr (.inl (fun _ => 0)))))) h = _ := (va_up_ne _ _ hnh).trans hc_16
    have ha_na : (va_up (va_up M h (some (.inr (1, [.int k, .int (nI pn), .null, .null, .int lb])))) na (some (.inl (cJ, 0, .inr (.inl (fun _ => 0)))))) na = _ := va_up_self _ _ _
    refine mw_putF (C := RX1) (T := TX1) (N := 5) (v := .ref na) F hK hW hS hI_X1 tyX1 tyX1_ok nmX1 hc_na rfl 2 (by decide) hl_fieldLink_RX1_25_SpliceBench_Holding_numbers_J rfl hin rfl rfl rfl (Nat.le_of_ble_eq_true rfl) dX1_init_34 (fun H locs hW hS => ?_)
    have hW : mw D (mwA M s.heap.size) (va_up (va_up (va_up M h (some (.inr (1, [.int k, .int (nI pn), .null, .null, .int lb])))) na (some (.inl (cJ, 0, .inr (.inl (fun _ => 0)))))) h (some (.inr (1, [.int k, .int (nI pn), .ref na, .null, .int lb])))) H := hW
    have hc_34 : (va_up (va_up (va_up M h (some (.inr (1, [.int k, .int (nI pn), .null, .null, .int lb])))) na (some (.inl (cJ, 0, .inr (.inl (fun _ => 0)))))) h (some (.inr (1, [.int k, .int (nI pn), .ref na, .null, .int lb])))) h = some (.inr (1, [.int k, .int (nI pn), .ref na, .null, .int lb])) := va_up_self _ _ _
    have ha_na2 : (va_up (va_up (va_up M h (some (.inr (1, [.int k, .int (nI pn), .null, .null, .int lb])))) na (some (.inl (cJ, 0, .inr (.inl (fun _ => 0)))))) h (some (.inr (1, [.int k, .int (nI pn), .ref na, .null, .int lb])))) na = _ := (va_up_ne _ _ hnh.symm).trans ha_na
    refine lv_aload_n hx hb dX1_init_37 rfl (lv_at hl 0 rfl) ?_
    refine lv_aload_n hx hb dX1_init_38 rfl (lv_at hl 0 rfl) ?_
    refine vp_callSi (W.runV (As := []) (rest := [.ref h]) F (c_X1_isRack hc_34) (cwV 0 hts gX1_init_X1_isRack rfl rfl rfl (by decide +kernel) ⟨Nat.le_of_ble_eq_true rfl, Nat.le_of_ble_eq_true rfl⟩) (mw_prV (q := (RX1, TX1, 5)) hK hO hW rfl hc_34) rfl rfl hl.1 rfl (lv_room (Nat.le_of_ble_eq_true rfl)) dX1_init_39 ⟨by show _ ≤ 2; omega, by show _ ≤ 80; omega⟩) (fun r_2 er_2 => ?_)
    subst er_2
    refine lv_if_eq (tgt := 49) hx hb dX1_init_42 (by decide) (fun c_42 => ?_) (fun c_42 => ?_)
    · have c_42 := bI_e c_42
      refine lv_iconst (v := 0) hx hb dX1_init_49 (by decide) ?_
      refine mw_newq (n := 0) (N' := 0) F hK hW hS hA 2 hl_classLink_RX1_32_RX0 hO.1 rfl (by decide) (by decide) (by omega) (by show _ ≤ 2; omega) (by show _ ≤ 80; omega) dX1_init_50 (fun ca H hca hW hS => ?_)
      have hch : h ≠ ca := mw_nnew hc_34 hca
      have hcn : na ≠ ca := mw_nnew ha_na2 hca
      have hc_ca : (va_up (va_up (va_up (va_up M h (some (.inr (1, [.int k, .int (nI pn), .null, .null, .int lb])))) na (some (.inl (cJ, 0, .inr (.inl (fun _ => 0)))))) h (some (.inr (1, [.int k, .int (nI pn), .ref na, .null, .int lb])))) ca (some (.inl (cC, 0, .inr (.inr (.inr (.inr (fun _ => none)))))))) h = _ := (va_up_ne _ _ hch).trans hc_34
      have ha_ca : (va_up (va_up (va_up (va_up M h (some (.inr (1, [.int k, .int (nI pn), .null, .null, .int lb])))) na (some (.inl (cJ, 0, .inr (.inl (fun _ => 0)))))) h (some (.inr (1, [.int k, .int (nI pn), .ref na, .null, .int lb])))) ca (some (.inl (cC, 0, .inr (.inr (.inr (.inr (fun _ => none)))))))) ca = _ := va_up_self _ _ _
      have ha_na3 : (va_up (va_up (va_up (va_up M h (some (.inr (1, [.int k, .int (nI pn), .null, .null, .int lb])))) na (some (.inl (cJ, 0, .inr (.inl (fun _ => 0)))))) h (some (.inr (1, [.int k, .int (nI pn), .ref na, .null, .int lb])))) ca (some (.inl (cC, 0, .inr (.inr (.inr (.inr (fun _ => none)))))))) na = _ := (va_up_ne _ _ hcn).trans ha_na2
      refine mw_putF (C := RX1) (T := TX1) (N := 5) (v := .ref ca) F hK hW hS hI_X1 tyX1 tyX1_ok nmX1 hc_ca rfl 3 (by decide) hl_fieldLink_RX1_34_SpliceBench_Holding_cards_LSpliceBench_Card rfl hin rfl rfl rfl (Nat.le_of_ble_eq_true rfl) dX1_init_53 (fun H locs hW hS => ?_)
      have hW : mw D (mwA M s.heap.size) (va_up (va_up (va_up (va_up (va_up M h (some (.inr (1, [.int k, .int (nI pn), .null, .null, .int lb])))) na (some (.inl (cJ, 0, .inr (.inl (fun _ => 0)))))) h (some (.inr (1, [.int k, .int (nI pn), .ref na, .null, .int lb])))) ca (some (.inl (cC, 0, .inr (.inr (.inr (.inr (fun _ => none)))))))) h (some (.inr (1, [.int k, .int (nI pn), .ref na, .ref ca, .int lb])))) H := hW
      have hc_53 : (va_up (va_up (va_up (va_up (va_up M h (some (.inr (1, [.int k, .int (nI pn), .null, .null, .int lb])))) na (some (.inl (cJ, 0, .inr (.inl (fun _ => 0)))))) h (some (.inr (1, [.int k, .int (nI pn), .ref na, .null, .int lb])))) ca (some (.inl (cC, 0, .inr (.inr (.inr (.inr (fun _ => none)))))))) h (some (.inr (1, [.int k, .int (nI pn), .ref na, .ref ca, .int lb])))) h = some (.inr (1, [.int k, .int (nI pn), .ref na, .ref ca, .int lb])) := va_up_self _ _ _
      have ha_na4 : (va_up (va_up (va_up (va_up (va_up M h (some (.inr (1, [.int k, .int (nI pn), .null, .null, .int lb])))) na (some (.inl (cJ, 0, .inr (.inl (fun _ => 0)))))) h (some (.inr (1, [.int k, .int (nI pn), .ref na, .null, .int lb])))) ca (some (.inl (cC, 0, .inr (.inr (.inr (.inr (fun _ => none)))))))) h (some (.inr (1, [.int k, .int (nI pn), .ref na, .ref ca, .int lb])))) na = _ := (va_up_ne _ _ hnh.symm).trans ha_na3
      have ha_ca2 : (va_up (va_up (va_up (va_up (va_up M h (some (.inr (1, [.int k, .int (nI pn), .null, .null, .int lb])))) na (some (.inl (cJ, 0, .inr (.inl (fun _ => 0)))))) h (some (.inr (1, [.int k, .int (nI pn), .ref na, .null, .int lb])))) ca (some (.inl (cC, 0, .inr (.inr (.inr (.inr (fun _ => none)))))))) h (some (.inr (1, [.int k, .int (nI pn), .ref na, .ref ca, .int lb])))) ca = _ := (va_up_ne _ _ hch.symm).trans ha_ca
      have hMna : M na = none := by
        have := hna
        rw [va_up_ne _ _ hnh.symm] at this
        exact this
      have hMca : M ca = none := by
        have := hca
        rw [va_up_ne _ _ hch.symm, va_up_ne _ _ hcn.symm, va_up_ne _ _ hch.symm] at this
        exact this
      have hfin : hOk (va_up (va_up (va_up (va_up (va_up M h (some (.inr (1, [.int k, .int (nI pn), .null, .null, .int lb])))) na (some (.inl (cJ, 0, .inr (.inl (fun _ => 0)))))) h (some (.inr (1, [.int k, .int (nI pn), .ref na, .null, .int lb])))) ca (some (.inl (cC, 0, .inr (.inr (.inr (.inr (fun _ => none)))))))) h (some (.inr (1, [.int k, .int (nI pn), .ref na, .ref ca, .int lb])))) cJ cC h k pn na ca lb (fun _ => 0) (fun _ => none) := ⟨hc_53, hp8, by rw [ha_na4]; simp [c_24], by rw [ha_ca2]; simp [c_42]⟩
      refine W.widen (k := 2) (n := 80) (by omega) (by omega) ?_
      exact W.vret hx hb hr (fun t ht hw => ⟨⟨va_up (va_up (va_up (va_up (va_up M h (some (.inr (1, [.int k, .int (nI pn), .null, .null, .int lb])))) na (some (.inl (cJ, 0, .inr (.inl (fun _ => 0)))))) h (some (.inr (1, [.int k, .int (nI pn), .ref na, .null, .int lb])))) ca (some (.inl (cC, 0, .inr (.inr (.inr (.inr (fun _ => none)))))))) h (some (.inr (1, [.int k, .int (nI pn), .ref na, .ref ca, .int lb]))), rfl, ⟨na, ca, hfin, hMna, hMca, hcn, fun a n1 n2 n3 => by rw [va_up_ne _ _ n1, va_up_ne _ _ n3, va_up_ne _ _ n1, va_up_ne _ _ n2, va_up_ne _ _ n1]⟩, by rw [ht]; exact hW, va_K.moved hw.alike hK⟩, hS.F ht⟩) hS.2.2 dX1_init_56
    · have c_42 := bI_n c_42
      refine lv_iload_n hx hb dX1_init_45 rfl (lv_at hl 2 rfl) ?_
      refine lv_goto (tgt := 50) hx hb dX1_init_46 (by decide) ?_
      refine mw_newq (n := nI pn) (N' := pn) F hK hW hS hA 2 hl_classLink_RX1_32_RX0 hO.1 rfl (nI_pos (by omega)) (nI_clamp (by omega)) (by omega) (by show _ ≤ 2; omega) (by show _ ≤ 80; omega) dX1_init_50 (fun ca H hca hW hS => ?_)
      have hch : h ≠ ca := mw_nnew hc_34 hca
      have hcn : na ≠ ca := mw_nnew ha_na2 hca
      have hc_ca : (va_up (va_up (va_up (va_up M h (some (.inr (1, [.int k, .int (nI pn), .null, .null, .int lb])))) na (some (.inl (cJ, 0, .inr (.inl (fun _ => 0)))))) h (some (.inr (1, [.int k, .int (nI pn), .ref na, .null, .int lb])))) ca (some (.inl (cC, pn, .inr (.inr (.inr (.inr (fun _ => none)))))))) h = _ := (va_up_ne _ _ hch).trans hc_34
      have ha_ca : (va_up (va_up (va_up (va_up M h (some (.inr (1, [.int k, .int (nI pn), .null, .null, .int lb])))) na (some (.inl (cJ, 0, .inr (.inl (fun _ => 0)))))) h (some (.inr (1, [.int k, .int (nI pn), .ref na, .null, .int lb])))) ca (some (.inl (cC, pn, .inr (.inr (.inr (.inr (fun _ => none)))))))) ca = _ := va_up_self _ _ _
      have ha_na3 : (va_up (va_up (va_up (va_up M h (some (.inr (1, [.int k, .int (nI pn), .null, .null, .int lb])))) na (some (.inl (cJ, 0, .inr (.inl (fun _ => 0)))))) h (some (.inr (1, [.int k, .int (nI pn), .ref na, .null, .int lb])))) ca (some (.inl (cC, pn, .inr (.inr (.inr (.inr (fun _ => none)))))))) na = _ := (va_up_ne _ _ hcn).trans ha_na2
      refine mw_putF (C := RX1) (T := TX1) (N := 5) (v := .ref ca) F hK hW hS hI_X1 tyX1 tyX1_ok nmX1 hc_ca rfl 3 (by decide) hl_fieldLink_RX1_34_SpliceBench_Holding_cards_LSpliceBench_Card rfl hin rfl rfl rfl (Nat.le_of_ble_eq_true rfl) dX1_init_53 (fun H locs hW hS => ?_)
      have hW : mw D (mwA M s.heap.size) (va_up (va_up (va_up (va_up (va_up M h (some (.inr (1, [.int k, .int (nI pn), .null, .null, .int lb])))) na (some (.inl (cJ, 0, .inr (.inl (fun _ => 0)))))) h (some (.inr (1, [.int k, .int (nI pn), .ref na, .null, .int lb])))) ca (some (.inl (cC, pn, .inr (.inr (.inr (.inr (fun _ => none)))))))) h (some (.inr (1, [.int k, .int (nI pn), .ref na, .ref ca, .int lb])))) H := hW
      have hc_53 : (va_up (va_up (va_up (va_up (va_up M h (some (.inr (1, [.int k, .int (nI pn), .null, .null, .int lb])))) na (some (.inl (cJ, 0, .inr (.inl (fun _ => 0)))))) h (some (.inr (1, [.int k, .int (nI pn), .ref na, .null, .int lb])))) ca (some (.inl (cC, pn, .inr (.inr (.inr (.inr (fun _ => none)))))))) h (some (.inr (1, [.int k, .int (nI pn), .ref na, .ref ca, .int lb])))) h = some (.inr (1, [.int k, .int (nI pn), .ref na, .ref ca, .int lb])) := va_up_self _ _ _
      have ha_na4 : (va_up (va_up (va_up (va_up (va_up M h (some (.inr (1, [.int k, .int (nI pn), .null, .null, .int lb])))) na (some (.inl (cJ, 0, .inr (.inl (fun _ => 0)))))) h (some (.inr (1, [.int k, .int (nI pn), .ref na, .null, .int lb])))) ca (some (.inl (cC, pn, .inr (.inr (.inr (.inr (fun _ => none)))))))) h (some (.inr (1, [.int k, .int (nI pn), .ref na, .ref ca, .int lb])))) na = _ := (va_up_ne _ _ hnh.symm).trans ha_na3
      have ha_ca2 : (va_up (va_up (va_up (va_up (va_up M h (some (.inr (1, [.int k, .int (nI pn), .null, .null, .int lb])))) na (some (.inl (cJ, 0, .inr (.inl (fun _ => 0)))))) h (some (.inr (1, [.int k, .int (nI pn), .ref na, .null, .int lb])))) ca (some (.inl (cC, pn, .inr (.inr (.inr (.inr (fun _ => none)))))))) h (some (.inr (1, [.int k, .int (nI pn), .ref na, .ref ca, .int lb])))) ca = _ := (va_up_ne _ _ hch.symm).trans ha_ca
      have hMna : M na = none := by
        have := hna
        rw [va_up_ne _ _ hnh.symm] at this
        exact this
      have hMca : M ca = none := by
        have := hca
        rw [va_up_ne _ _ hch.symm, va_up_ne _ _ hcn.symm, va_up_ne _ _ hch.symm] at this
        exact this
      have hfin : hOk (va_up (va_up (va_up (va_up (va_up M h (some (.inr (1, [.int k, .int (nI pn), .null, .null, .int lb])))) na (some (.inl (cJ, 0, .inr (.inl (fun _ => 0)))))) h (some (.inr (1, [.int k, .int (nI pn), .ref na, .null, .int lb])))) ca (some (.inl (cC, pn, .inr (.inr (.inr (.inr (fun _ => none)))))))) h (some (.inr (1, [.int k, .int (nI pn), .ref na, .ref ca, .int lb])))) cJ cC h k pn na ca lb (fun _ => 0) (fun _ => none) := ⟨hc_53, hp8, by rw [ha_na4]; simp [c_24], by rw [ha_ca2]; simp [c_42]⟩
      refine W.widen (k := 2) (n := 80) (by omega) (by omega) ?_
      exact W.vret hx hb hr (fun t ht hw => ⟨⟨va_up (va_up (va_up (va_up (va_up M h (some (.inr (1, [.int k, .int (nI pn), .null, .null, .int lb])))) na (some (.inl (cJ, 0, .inr (.inl (fun _ => 0)))))) h (some (.inr (1, [.int k, .int (nI pn), .ref na, .null, .int lb])))) ca (some (.inl (cC, pn, .inr (.inr (.inr (.inr (fun _ => none)))))))) h (some (.inr (1, [.int k, .int (nI pn), .ref na, .ref ca, .int lb]))), rfl, ⟨na, ca, hfin, hMna, hMca, hcn, fun a n1 n2 n3 => by rw [va_up_ne _ _ n1, va_up_ne _ _ n3, va_up_ne _ _ n1, va_up_ne _ _ n2, va_up_ne _ _ n1]⟩, by rw [ht]; exact hW, va_K.moved hw.alike hK⟩, hS.F ht⟩) hS.2.2 dX1_init_56
  · have c_24 := bI_n c_24
    refine lv_iload_n hx hb dX1_init_27 rfl (lv_at hl 2 rfl) ?_
    refine lv_goto (tgt := 32) hx hb dX1_init_28 (by decide) ?_
    refine mw_newa (atype := .long) (n := nI pn) (N' := pn) (ty := .long) (a0 := (pn, .inr (.inl (fun _ => 0)))) F hK hW hS hA 1 hl_arrayClass_long rfl rfl (fun C z => by cases z) (fun cA => rfl) (nI_pos (by omega)) (nI_clamp (by omega)) (by show pn * 8 ≤ _; omega) (by show _ ≤ 2; omega) (by show _ ≤ 80; omega) dX1_init_32 (fun na H hna hW hS => ?_)
    have hnh : h ≠ na := mw_nnew hc_16 hna
    have hc_na : (va_up (va_up M h (some (.inr (1, [.int k, .int (nI pn), .null, .null, .int lb])))) na (some (.inl (cJ, pn, .inr (.inl (fun _ => 0)))))) h = _ := (va_up_ne _ _ hnh).trans hc_16
    have ha_na : (va_up (va_up M h (some (.inr (1, [.int k, .int (nI pn), .null, .null, .int lb])))) na (some (.inl (cJ, pn, .inr (.inl (fun _ => 0)))))) na = _ := va_up_self _ _ _
    refine mw_putF (C := RX1) (T := TX1) (N := 5) (v := .ref na) F hK hW hS hI_X1 tyX1 tyX1_ok nmX1 hc_na rfl 2 (by decide) hl_fieldLink_RX1_25_SpliceBench_Holding_numbers_J rfl hin rfl rfl rfl (Nat.le_of_ble_eq_true rfl) dX1_init_34 (fun H locs hW hS => ?_)
    have hW : mw D (mwA M s.heap.size) (va_up (va_up (va_up M h (some (.inr (1, [.int k, .int (nI pn), .null, .null, .int lb])))) na (some (.inl (cJ, pn, .inr (.inl (fun _ => 0)))))) h (some (.inr (1, [.int k, .int (nI pn), .ref na, .null, .int lb])))) H := hW
    have hc_34 : (va_up (va_up (va_up M h (some (.inr (1, [.int k, .int (nI pn), .null, .null, .int lb])))) na (some (.inl (cJ, pn, .inr (.inl (fun _ => 0)))))) h (some (.inr (1, [.int k, .int (nI pn), .ref na, .null, .int lb])))) h = some (.inr (1, [.int k, .int (nI pn), .ref na, .null, .int lb])) := va_up_self _ _ _
    have ha_na2 : (va_up (va_up (va_up M h (some (.inr (1, [.int k, .int (nI pn), .null, .null, .int lb])))) na (some (.inl (cJ, pn, .inr (.inl (fun _ => 0)))))) h (some (.inr (1, [.int k, .int (nI pn), .ref na, .null, .int lb])))) na = _ := (va_up_ne _ _ hnh.symm).trans ha_na
    refine lv_aload_n hx hb dX1_init_37 rfl (lv_at hl 0 rfl) ?_
    refine lv_aload_n hx hb dX1_init_38 rfl (lv_at hl 0 rfl) ?_
    refine vp_callSi (W.runV (As := []) (rest := [.ref h]) F (c_X1_isRack hc_34) (cwV 0 hts gX1_init_X1_isRack rfl rfl rfl (by decide +kernel) ⟨Nat.le_of_ble_eq_true rfl, Nat.le_of_ble_eq_true rfl⟩) (mw_prV (q := (RX1, TX1, 5)) hK hO hW rfl hc_34) rfl rfl hl.1 rfl (lv_room (Nat.le_of_ble_eq_true rfl)) dX1_init_39 ⟨by show _ ≤ 2; omega, by show _ ≤ 80; omega⟩) (fun r_3 er_3 => ?_)
    subst er_3
    refine lv_if_eq (tgt := 49) hx hb dX1_init_42 (by decide) (fun c_42 => ?_) (fun c_42 => ?_)
    · have c_42 := bI_e c_42
      refine lv_iconst (v := 0) hx hb dX1_init_49 (by decide) ?_
      refine mw_newq (n := 0) (N' := 0) F hK hW hS hA 2 hl_classLink_RX1_32_RX0 hO.1 rfl (by decide) (by decide) (by omega) (by show _ ≤ 2; omega) (by show _ ≤ 80; omega) dX1_init_50 (fun ca H hca hW hS => ?_)
      have hch : h ≠ ca := mw_nnew hc_34 hca
      have hcn : na ≠ ca := mw_nnew ha_na2 hca
      have hc_ca : (va_up (va_up (va_up (va_up M h (some (.inr (1, [.int k, .int (nI pn), .null, .null, .int lb])))) na (some (.inl (cJ, pn, .inr (.inl (fun _ => 0)))))) h (some (.inr (1, [.int k, .int (nI pn), .ref na, .null, .int lb])))) ca (some (.inl (cC, 0, .inr (.inr (.inr (.inr (fun _ => none)))))))) h = _ := (va_up_ne _ _ hch).trans hc_34
      have ha_ca : (va_up (va_up (va_up (va_up M h (some (.inr (1, [.int k, .int (nI pn), .null, .null, .int lb])))) na (some (.inl (cJ, pn, .inr (.inl (fun _ => 0)))))) h (some (.inr (1, [.int k, .int (nI pn), .ref na, .null, .int lb])))) ca (some (.inl (cC, 0, .inr (.inr (.inr (.inr (fun _ => none)))))))) ca = _ := va_up_self _ _ _
      have ha_na3 : (va_up (va_up (va_up (va_up M h (some (.inr (1, [.int k, .int (nI pn), .null, .null, .int lb])))) na (some (.inl (cJ, pn, .inr (.inl (fun _ => 0)))))) h (some (.inr (1, [.int k, .int (nI pn), .ref na, .null, .int lb])))) ca (some (.inl (cC, 0, .inr (.inr (.inr (.inr (fun _ => none)))))))) na = _ := (va_up_ne _ _ hcn).trans ha_na2
      refine mw_putF (C := RX1) (T := TX1) (N := 5) (v := .ref ca) F hK hW hS hI_X1 tyX1 tyX1_ok nmX1 hc_ca rfl 3 (by decide) hl_fieldLink_RX1_34_SpliceBench_Holding_cards_LSpliceBench_Card rfl hin rfl rfl rfl (Nat.le_of_ble_eq_true rfl) dX1_init_53 (fun H locs hW hS => ?_)
      have hW : mw D (mwA M s.heap.size) (va_up (va_up (va_up (va_up (va_up M h (some (.inr (1, [.int k, .int (nI pn), .null, .null, .int lb])))) na (some (.inl (cJ, pn, .inr (.inl (fun _ => 0)))))) h (some (.inr (1, [.int k, .int (nI pn), .ref na, .null, .int lb])))) ca (some (.inl (cC, 0, .inr (.inr (.inr (.inr (fun _ => none)))))))) h (some (.inr (1, [.int k, .int (nI pn), .ref na, .ref ca, .int lb])))) H := hW
      have hc_53 : (va_up (va_up (va_up (va_up (va_up M h (some (.inr (1, [.int k, .int (nI pn), .null, .null, .int lb])))) na (some (.inl (cJ, pn, .inr (.inl (fun _ => 0)))))) h (some (.inr (1, [.int k, .int (nI pn), .ref na, .null, .int lb])))) ca (some (.inl (cC, 0, .inr (.inr (.inr (.inr (fun _ => none)))))))) h (some (.inr (1, [.int k, .int (nI pn), .ref na, .ref ca, .int lb])))) h = some (.inr (1, [.int k, .int (nI pn), .ref na, .ref ca, .int lb])) := va_up_self _ _ _
      have ha_na4 : (va_up (va_up (va_up (va_up (va_up M h (some (.inr (1, [.int k, .int (nI pn), .null, .null, .int lb])))) na (some (.inl (cJ, pn, .inr (.inl (fun _ => 0)))))) h (some (.inr (1, [.int k, .int (nI pn), .ref na, .null, .int lb])))) ca (some (.inl (cC, 0, .inr (.inr (.inr (.inr (fun _ => none)))))))) h (some (.inr (1, [.int k, .int (nI pn), .ref na, .ref ca, .int lb])))) na = _ := (va_up_ne _ _ hnh.symm).trans ha_na3
      have ha_ca2 : (va_up (va_up (va_up (va_up (va_up M h (some (.inr (1, [.int k, .int (nI pn), .null, .null, .int lb])))) na (some (.inl (cJ, pn, .inr (.inl (fun _ => 0)))))) h (some (.inr (1, [.int k, .int (nI pn), .ref na, .null, .int lb])))) ca (some (.inl (cC, 0, .inr (.inr (.inr (.inr (fun _ => none)))))))) h (some (.inr (1, [.int k, .int (nI pn), .ref na, .ref ca, .int lb])))) ca = _ := (va_up_ne _ _ hch.symm).trans ha_ca
      have hMna : M na = none := by
        have := hna
        rw [va_up_ne _ _ hnh.symm] at this
        exact this
      have hMca : M ca = none := by
        have := hca
        rw [va_up_ne _ _ hch.symm, va_up_ne _ _ hcn.symm, va_up_ne _ _ hch.symm] at this
        exact this
      have hfin : hOk (va_up (va_up (va_up (va_up (va_up M h (some (.inr (1, [.int k, .int (nI pn), .null, .null, .int lb])))) na (some (.inl (cJ, pn, .inr (.inl (fun _ => 0)))))) h (some (.inr (1, [.int k, .int (nI pn), .ref na, .null, .int lb])))) ca (some (.inl (cC, 0, .inr (.inr (.inr (.inr (fun _ => none)))))))) h (some (.inr (1, [.int k, .int (nI pn), .ref na, .ref ca, .int lb])))) cJ cC h k pn na ca lb (fun _ => 0) (fun _ => none) := ⟨hc_53, hp8, by rw [ha_na4]; simp [c_24], by rw [ha_ca2]; simp [c_42]⟩
      refine W.widen (k := 2) (n := 80) (by omega) (by omega) ?_
      exact W.vret hx hb hr (fun t ht hw => ⟨⟨va_up (va_up (va_up (va_up (va_up M h (some (.inr (1, [.int k, .int (nI pn), .null, .null, .int lb])))) na (some (.inl (cJ, pn, .inr (.inl (fun _ => 0)))))) h (some (.inr (1, [.int k, .int (nI pn), .ref na, .null, .int lb])))) ca (some (.inl (cC, 0, .inr (.inr (.inr (.inr (fun _ => none)))))))) h (some (.inr (1, [.int k, .int (nI pn), .ref na, .ref ca, .int lb]))), rfl, ⟨na, ca, hfin, hMna, hMca, hcn, fun a n1 n2 n3 => by rw [va_up_ne _ _ n1, va_up_ne _ _ n3, va_up_ne _ _ n1, va_up_ne _ _ n2, va_up_ne _ _ n1]⟩, by rw [ht]; exact hW, va_K.moved hw.alike hK⟩, hS.F ht⟩) hS.2.2 dX1_init_56
    · exact absurd (bI_n c_42) (by rw [kSR c_24]; decide)
end X1M
