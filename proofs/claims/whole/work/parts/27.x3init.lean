section X3I
variable {l : Launch} {D : va_G} {cI cJ cC cH : ClassId} {M : Nat → Option va_E} {sz : Nat}
def rs0 : RS := (fun _ => 0, fun _ => 0, fun _ => 0, fun _ => 0, fun _ => 0, fun _ => 0, fun _ => 0, fun _ => 0, fun _ => 0, -1, 0, 0, 0, 0)
def ad9 (q0 q1 q2 q3 q4 q5 q6 q7 q8 : Nat) : Nat → Nat := fun k => match k with
  | 0 => q0
  | 1 => q1
  | 2 => q2
  | 3 => q3
  | 4 => q4
  | 5 => q5
  | 6 => q6
  | 7 => q7
  | _ => q8
theorem ad9_inj {q0 q1 q2 q3 q4 q5 q6 q7 q8 : Nat} (n01 : q0 ≠ q1) (n02 : q0 ≠ q2) (n12 : q1 ≠ q2) (n03 : q0 ≠ q3) (n13 : q1 ≠ q3) (n23 : q2 ≠ q3) (n04 : q0 ≠ q4) (n14 : q1 ≠ q4) (n24 : q2 ≠ q4) (n34 : q3 ≠ q4) (n05 : q0 ≠ q5) (n15 : q1 ≠ q5) (n25 : q2 ≠ q5) (n35 : q3 ≠ q5) (n45 : q4 ≠ q5) (n06 : q0 ≠ q6) (n16 : q1 ≠ q6) (n26 : q2 ≠ q6) (n36 : q3 ≠ q6) (n46 : q4 ≠ q6) (n56 : q5 ≠ q6) (n07 : q0 ≠ q7) (n17 : q1 ≠ q7) (n27 : q2 ≠ q7) (n37 : q3 ≠ q7) (n47 : q4 ≠ q7) (n57 : q5 ≠ q7) (n67 : q6 ≠ q7) (n08 : q0 ≠ q8) (n18 : q1 ≠ q8) (n28 : q2 ≠ q8) (n38 : q3 ≠ q8) (n48 : q4 ≠ q8) (n58 : q5 ≠ q8) (n68 : q6 ≠ q8) (n78 : q7 ≠ q8) : ∀ i j, i < 9 → j < 9 → ad9 q0 q1 q2 q3 q4 q5 q6 q7 q8 i = ad9 q0 q1 q2 q3 q4 q5 q6 q7 q8 j → i = j := by
  intro i j hi hj
  have h1 : i = 0 ∨ i = 1 ∨ i = 2 ∨ i = 3 ∨ i = 4 ∨ i = 5 ∨ i = 6 ∨ i = 7 ∨ i = 8 := by omega
  have h2 : j = 0 ∨ j = 1 ∨ j = 2 ∨ j = 3 ∨ j = 4 ∨ j = 5 ∨ j = 6 ∨ j = 7 ∨ j = 8 := by omega
  rcases h1 with rfl | rfl | rfl | rfl | rfl | rfl | rfl | rfl | rfl <;> rcases h2 with rfl | rfl | rfl | rfl | rfl | rfl | rfl | rfl | rfl <;> intro h <;> first | rfl | (simp only [ad9] at h; first | exact absurd h (by assumption) | exact absurd h.symm (by assumption))
abbrev rmX3_init : Room := ({ frames := 1, cells := 9, slots := 5089, locals := 12 } : Room)
set_option maxHeartbeats 4000000 in
set_option maxRecDepth 100000 in
theorem c_X3_init {mm : Nat} (hm : M mm = some (.inr (3, [.null, .null, .null, .null, .null, .null, .null, .null, .null, .int 0, .int 0, .int 0, .int 0, .int 0]))) : Met l yX3_init wsX3_init rmX3_init (va_Pc [.ref mm] (mwPre D (tyL cI cJ cC cH) M sz)) (va_Qv (fun M' => ∃ ad : Nat → Nat, refAt cI cJ mm ad rs0 M') (mwB D (tyL cI cJ cC cH) M sz) (mwA M sz)) 9 5089 (mwA M sz) := by
  refine Met.ofW (cc := cX3_init) (maxL := 1) (ret := none) (by decide) rfl ?_
  intro pr env s m args below meth c s₁ B hml hv
  obtain ⟨rfl, hsz, hW, hK, hO⟩ := hv
  subst hsz
  have hW := hW.self (sz := s.heap.size)
  have hS : va_S (mwA M s.heap.size) s.heap s.heap [] := va_S.rf
  have hA : ∀ q, s.heap.size ≤ q → mwA M s.heap.size q := fun q h => Or.inr h
  have hx := B.exec
  have hb := B.bytes
  have hr := B.returns
  have hts := atoms_spec (ws := wsX3_init) B.pre
  have hin : meth.name = "<init>" := (name_of_methodNamed B.named B.method).1
  have hown : s.vm.findClass RX3 = some m.cls := findClass_of_methodNamed B.named
  have hlocks := B.notSynchronized
  have F : CallFix pr m c cX3_init 1 s ([.ref mm] : List Value).toArray wsX3_init RX3 := ⟨hx, hb, hml, hown, hts⟩
  have hI_X3 : ∀ w ∈ wsX30, w ∈ wsX3_init := by decide +kernel
  have hl_methodLink_RX3_1_objectInit := hts (.methodLink RX3 1 objectInit) (by decide +kernel)
  have hl_instanceMethod_objectInit := hts (.instanceMethod objectInit) (by decide +kernel)
  have hl_arrayClass_int := hts (.arrayClass .int) (by decide +kernel)
  have hl_fieldLink_RX3_7_SpliceBenchModel_holds_I := hts (.fieldLink RX3 7 "SpliceBenchModel" "holds" "[I") (by decide +kernel)
  have hl_fieldLink_RX3_13_SpliceBenchModel_labels_I := hts (.fieldLink RX3 13 "SpliceBenchModel" "labels" "[I") (by decide +kernel)
  have hl_fieldLink_RX3_16_SpliceBenchModel_kind_I := hts (.fieldLink RX3 16 "SpliceBenchModel" "kind" "[I") (by decide +kernel)
  have hl_fieldLink_RX3_19_SpliceBenchModel_size_I := hts (.fieldLink RX3 19 "SpliceBenchModel" "size" "[I") (by decide +kernel)
  have hl_arrayClass_long := hts (.arrayClass .long) (by decide +kernel)
  have hl_fieldLink_RX3_22_SpliceBenchModel_places_J := hts (.fieldLink RX3 22 "SpliceBenchModel" "places" "[J") (by decide +kernel)
  have hl_fieldLink_RX3_26_SpliceBenchModel_was_J := hts (.fieldLink RX3 26 "SpliceBenchModel" "was" "[J") (by decide +kernel)
  have hl_fieldLink_RX3_29_SpliceBenchModel_cardNumber_J := hts (.fieldLink RX3 29 "SpliceBenchModel" "cardNumber" "[J") (by decide +kernel)
  have hl_fieldLink_RX3_32_SpliceBenchModel_cardShown_I := hts (.fieldLink RX3 32 "SpliceBenchModel" "cardShown" "[I") (by decide +kernel)
  have hl_fieldLink_RX3_35_SpliceBenchModel_failed_I := hts (.fieldLink RX3 35 "SpliceBenchModel" "failed" "[I") (by decide +kernel)
  have hl_fieldLink_RX3_38_SpliceBenchModel_covered_I := hts (.fieldLink RX3 38 "SpliceBenchModel" "covered" "I") (by decide +kernel)
  have hl_oc := hts (.code objectInit ⟨#[0xb1]⟩ 1 none) (by decide +kernel)
  have hl := lv_entry ([.ref mm]) (n := 1) (Nat.le_of_ble_eq_true rfl)
  rw [lg_entry_eq]
  generalize (lg_sl ([.ref mm]) ++ List.replicate (1 - (lg_sl ([.ref mm])).length) Slot.unset).toArray = ls at hl ⊢
  have hl : lv_has ls 1 [(0, .ref mm)] := hl
  refine lv_aload_n hx hb dX3_init_0 rfl (lv_at hl 0 rfl) ?_
  refine W.objInit hx hb hown hl_methodLink_RX3_1_objectInit hl_instanceMethod_objectInit hl_oc rfl (by rw [hml]; exact hl.1) rfl dX3_init_1 (Nat.le_of_ble_eq_true rfl) (Nat.le_of_ble_eq_true rfl) ?_
  refine W.eq (g2 := F0 m 4 ls []) rfl ?_
  refine lv_aload_n hx hb dX3_init_4 rfl (lv_at hl 0 rfl) ?_
  refine lv_bipush (v := 10) hx hb dX3_init_5 (by decide) ?_
  refine mw_newa (atype := .int) (n := 10) (N' := 10) (ty := .int) (a0 := (10, .inl (fun _ => 0))) F hK hW hS hA 0 hl_arrayClass_int rfl rfl (fun C z => by cases z) (fun cA => rfl) (by decide) (by decide) (by decide) (by show _ ≤ 9; omega) (by show _ ≤ 5089; omega) dX3_init_7 (fun q0 H hq0 hW hS => ?_)
  have hm : (va_up M q0 (some (.inl (cI, 10, .inl (fun _ => 0))))) mm = _ := (va_up_ne _ _ (mw_nnew hm hq0)).trans hm
  have a0 : (va_up M q0 (some (.inl (cI, 10, .inl (fun _ => 0))))) q0 = some (.inl (cI, 10, .inl (fun _ => 0))) := va_up_self _ _ _
  generalize va_up M q0 (some (.inl (cI, 10, .inl (fun _ => 0)))) = N0 at hW hm a0
  refine mw_putF (C := RX3) (T := TX3) (N := 14) (v := .ref q0) F hK hW hS hI_X3 tyX3 tyX3_ok nmX3 hm rfl 0 (by decide) hl_fieldLink_RX3_7_SpliceBenchModel_holds_I rfl hin rfl rfl rfl (Nat.le_of_ble_eq_true rfl) dX3_init_9 (fun H locs hW hS => ?_)
  have hW : mw D (mwA M s.heap.size) (va_up N0 mm (some (.inr (3, [.ref q0, .null, .null, .null, .null, .null, .null, .null, .null, .int 0, .int 0, .int 0, .int 0, .int 0])))) H := hW
  have a0 : (va_up N0 mm (some (.inr (3, [.ref q0, .null, .null, .null, .null, .null, .null, .null, .null, .int 0, .int 0, .int 0, .int 0, .int 0])))) q0 = _ := (va_up_ne _ _ (mw_neq a0 hm (fun z => by cases z))).trans a0
  have hm : (va_up N0 mm (some (.inr (3, [.ref q0, .null, .null, .null, .null, .null, .null, .null, .null, .int 0, .int 0, .int 0, .int 0, .int 0])))) mm = some (.inr (3, [.ref q0, .null, .null, .null, .null, .null, .null, .null, .null, .int 0, .int 0, .int 0, .int 0, .int 0])) := va_up_self _ _ _
  generalize va_up N0 mm (some (.inr (3, [.ref q0, .null, .null, .null, .null, .null, .null, .null, .null, .int 0, .int 0, .int 0, .int 0, .int 0]))) = M1 at hW hm a0
  refine lv_aload_n hx hb dX3_init_12 rfl (lv_at hl 0 rfl) ?_
  refine lv_bipush (v := 10) hx hb dX3_init_13 (by decide) ?_
  refine mw_newa (atype := .int) (n := 10) (N' := 10) (ty := .int) (a0 := (10, .inl (fun _ => 0))) F hK hW hS hA 0 hl_arrayClass_int rfl rfl (fun C z => by cases z) (fun cA => rfl) (by decide) (by decide) (by decide) (by show _ ≤ 9; omega) (by show _ ≤ 5089; omega) dX3_init_15 (fun q1 H hq1 hW hS => ?_)
  have n01 : q0 ≠ q1 := mw_nnew a0 hq1
  have hm : (va_up M1 q1 (some (.inl (cI, 10, .inl (fun _ => 0))))) mm = _ := (va_up_ne _ _ (mw_nnew hm hq1)).trans hm
  have a0 : (va_up M1 q1 (some (.inl (cI, 10, .inl (fun _ => 0))))) q0 = _ := (va_up_ne _ _ n01).trans a0
  have a1 : (va_up M1 q1 (some (.inl (cI, 10, .inl (fun _ => 0))))) q1 = some (.inl (cI, 10, .inl (fun _ => 0))) := va_up_self _ _ _
  generalize va_up M1 q1 (some (.inl (cI, 10, .inl (fun _ => 0)))) = N1 at hW hm a0 a1
  refine mw_putF (C := RX3) (T := TX3) (N := 14) (v := .ref q1) F hK hW hS hI_X3 tyX3 tyX3_ok nmX3 hm rfl 1 (by decide) hl_fieldLink_RX3_13_SpliceBenchModel_labels_I rfl hin rfl rfl rfl (Nat.le_of_ble_eq_true rfl) dX3_init_17 (fun H locs hW hS => ?_)
  have hW : mw D (mwA M s.heap.size) (va_up N1 mm (some (.inr (3, [.ref q0, .ref q1, .null, .null, .null, .null, .null, .null, .null, .int 0, .int 0, .int 0, .int 0, .int 0])))) H := hW
  have a0 : (va_up N1 mm (some (.inr (3, [.ref q0, .ref q1, .null, .null, .null, .null, .null, .null, .null, .int 0, .int 0, .int 0, .int 0, .int 0])))) q0 = _ := (va_up_ne _ _ (mw_neq a0 hm (fun z => by cases z))).trans a0
  have a1 : (va_up N1 mm (some (.inr (3, [.ref q0, .ref q1, .null, .null, .null, .null, .null, .null, .null, .int 0, .int 0, .int 0, .int 0, .int 0])))) q1 = _ := (va_up_ne _ _ (mw_neq a1 hm (fun z => by cases z))).trans a1
  have hm : (va_up N1 mm (some (.inr (3, [.ref q0, .ref q1, .null, .null, .null, .null, .null, .null, .null, .int 0, .int 0, .int 0, .int 0, .int 0])))) mm = some (.inr (3, [.ref q0, .ref q1, .null, .null, .null, .null, .null, .null, .null, .int 0, .int 0, .int 0, .int 0, .int 0])) := va_up_self _ _ _
  generalize va_up N1 mm (some (.inr (3, [.ref q0, .ref q1, .null, .null, .null, .null, .null, .null, .null, .int 0, .int 0, .int 0, .int 0, .int 0]))) = M2 at hW hm a0 a1
  refine lv_aload_n hx hb dX3_init_20 rfl (lv_at hl 0 rfl) ?_
  refine lv_bipush (v := 12) hx hb dX3_init_21 (by decide) ?_
  refine mw_newa (atype := .int) (n := 12) (N' := 12) (ty := .int) (a0 := (12, .inl (fun _ => 0))) F hK hW hS hA 0 hl_arrayClass_int rfl rfl (fun C z => by cases z) (fun cA => rfl) (by decide) (by decide) (by decide) (by show _ ≤ 9; omega) (by show _ ≤ 5089; omega) dX3_init_23 (fun q2 H hq2 hW hS => ?_)
  have n02 : q0 ≠ q2 := mw_nnew a0 hq2
  have n12 : q1 ≠ q2 := mw_nnew a1 hq2
  have hm : (va_up M2 q2 (some (.inl (cI, 12, .inl (fun _ => 0))))) mm = _ := (va_up_ne _ _ (mw_nnew hm hq2)).trans hm
  have a0 : (va_up M2 q2 (some (.inl (cI, 12, .inl (fun _ => 0))))) q0 = _ := (va_up_ne _ _ n02).trans a0
  have a1 : (va_up M2 q2 (some (.inl (cI, 12, .inl (fun _ => 0))))) q1 = _ := (va_up_ne _ _ n12).trans a1
  have a2 : (va_up M2 q2 (some (.inl (cI, 12, .inl (fun _ => 0))))) q2 = some (.inl (cI, 12, .inl (fun _ => 0))) := va_up_self _ _ _
  generalize va_up M2 q2 (some (.inl (cI, 12, .inl (fun _ => 0)))) = N2 at hW hm a0 a1 a2
  refine mw_putF (C := RX3) (T := TX3) (N := 14) (v := .ref q2) F hK hW hS hI_X3 tyX3 tyX3_ok nmX3 hm rfl 2 (by decide) hl_fieldLink_RX3_16_SpliceBenchModel_kind_I rfl hin rfl rfl rfl (Nat.le_of_ble_eq_true rfl) dX3_init_25 (fun H locs hW hS => ?_)
  have hW : mw D (mwA M s.heap.size) (va_up N2 mm (some (.inr (3, [.ref q0, .ref q1, .ref q2, .null, .null, .null, .null, .null, .null, .int 0, .int 0, .int 0, .int 0, .int 0])))) H := hW
  have a0 : (va_up N2 mm (some (.inr (3, [.ref q0, .ref q1, .ref q2, .null, .null, .null, .null, .null, .null, .int 0, .int 0, .int 0, .int 0, .int 0])))) q0 = _ := (va_up_ne _ _ (mw_neq a0 hm (fun z => by cases z))).trans a0
  have a1 : (va_up N2 mm (some (.inr (3, [.ref q0, .ref q1, .ref q2, .null, .null, .null, .null, .null, .null, .int 0, .int 0, .int 0, .int 0, .int 0])))) q1 = _ := (va_up_ne _ _ (mw_neq a1 hm (fun z => by cases z))).trans a1
  have a2 : (va_up N2 mm (some (.inr (3, [.ref q0, .ref q1, .ref q2, .null, .null, .null, .null, .null, .null, .int 0, .int 0, .int 0, .int 0, .int 0])))) q2 = _ := (va_up_ne _ _ (mw_neq a2 hm (fun z => by cases z))).trans a2
  have hm : (va_up N2 mm (some (.inr (3, [.ref q0, .ref q1, .ref q2, .null, .null, .null, .null, .null, .null, .int 0, .int 0, .int 0, .int 0, .int 0])))) mm = some (.inr (3, [.ref q0, .ref q1, .ref q2, .null, .null, .null, .null, .null, .null, .int 0, .int 0, .int 0, .int 0, .int 0])) := va_up_self _ _ _
  generalize va_up N2 mm (some (.inr (3, [.ref q0, .ref q1, .ref q2, .null, .null, .null, .null, .null, .null, .int 0, .int 0, .int 0, .int 0, .int 0]))) = M3 at hW hm a0 a1 a2
  refine lv_aload_n hx hb dX3_init_28 rfl (lv_at hl 0 rfl) ?_
  refine lv_bipush (v := 12) hx hb dX3_init_29 (by decide) ?_
  refine mw_newa (atype := .int) (n := 12) (N' := 12) (ty := .int) (a0 := (12, .inl (fun _ => 0))) F hK hW hS hA 0 hl_arrayClass_int rfl rfl (fun C z => by cases z) (fun cA => rfl) (by decide) (by decide) (by decide) (by show _ ≤ 9; omega) (by show _ ≤ 5089; omega) dX3_init_31 (fun q3 H hq3 hW hS => ?_)
  have n03 : q0 ≠ q3 := mw_nnew a0 hq3
  have n13 : q1 ≠ q3 := mw_nnew a1 hq3
  have n23 : q2 ≠ q3 := mw_nnew a2 hq3
  have hm : (va_up M3 q3 (some (.inl (cI, 12, .inl (fun _ => 0))))) mm = _ := (va_up_ne _ _ (mw_nnew hm hq3)).trans hm
  have a0 : (va_up M3 q3 (some (.inl (cI, 12, .inl (fun _ => 0))))) q0 = _ := (va_up_ne _ _ n03).trans a0
  have a1 : (va_up M3 q3 (some (.inl (cI, 12, .inl (fun _ => 0))))) q1 = _ := (va_up_ne _ _ n13).trans a1
  have a2 : (va_up M3 q3 (some (.inl (cI, 12, .inl (fun _ => 0))))) q2 = _ := (va_up_ne _ _ n23).trans a2
  have a3 : (va_up M3 q3 (some (.inl (cI, 12, .inl (fun _ => 0))))) q3 = some (.inl (cI, 12, .inl (fun _ => 0))) := va_up_self _ _ _
  generalize va_up M3 q3 (some (.inl (cI, 12, .inl (fun _ => 0)))) = N3 at hW hm a0 a1 a2 a3
  refine mw_putF (C := RX3) (T := TX3) (N := 14) (v := .ref q3) F hK hW hS hI_X3 tyX3 tyX3_ok nmX3 hm rfl 3 (by decide) hl_fieldLink_RX3_19_SpliceBenchModel_size_I rfl hin rfl rfl rfl (Nat.le_of_ble_eq_true rfl) dX3_init_33 (fun H locs hW hS => ?_)
  have hW : mw D (mwA M s.heap.size) (va_up N3 mm (some (.inr (3, [.ref q0, .ref q1, .ref q2, .ref q3, .null, .null, .null, .null, .null, .int 0, .int 0, .int 0, .int 0, .int 0])))) H := hW
  have a0 : (va_up N3 mm (some (.inr (3, [.ref q0, .ref q1, .ref q2, .ref q3, .null, .null, .null, .null, .null, .int 0, .int 0, .int 0, .int 0, .int 0])))) q0 = _ := (va_up_ne _ _ (mw_neq a0 hm (fun z => by cases z))).trans a0
  have a1 : (va_up N3 mm (some (.inr (3, [.ref q0, .ref q1, .ref q2, .ref q3, .null, .null, .null, .null, .null, .int 0, .int 0, .int 0, .int 0, .int 0])))) q1 = _ := (va_up_ne _ _ (mw_neq a1 hm (fun z => by cases z))).trans a1
  have a2 : (va_up N3 mm (some (.inr (3, [.ref q0, .ref q1, .ref q2, .ref q3, .null, .null, .null, .null, .null, .int 0, .int 0, .int 0, .int 0, .int 0])))) q2 = _ := (va_up_ne _ _ (mw_neq a2 hm (fun z => by cases z))).trans a2
  have a3 : (va_up N3 mm (some (.inr (3, [.ref q0, .ref q1, .ref q2, .ref q3, .null, .null, .null, .null, .null, .int 0, .int 0, .int 0, .int 0, .int 0])))) q3 = _ := (va_up_ne _ _ (mw_neq a3 hm (fun z => by cases z))).trans a3
  have hm : (va_up N3 mm (some (.inr (3, [.ref q0, .ref q1, .ref q2, .ref q3, .null, .null, .null, .null, .null, .int 0, .int 0, .int 0, .int 0, .int 0])))) mm = some (.inr (3, [.ref q0, .ref q1, .ref q2, .ref q3, .null, .null, .null, .null, .null, .int 0, .int 0, .int 0, .int 0, .int 0])) := va_up_self _ _ _
  generalize va_up N3 mm (some (.inr (3, [.ref q0, .ref q1, .ref q2, .ref q3, .null, .null, .null, .null, .null, .int 0, .int 0, .int 0, .int 0, .int 0]))) = M4 at hW hm a0 a1 a2 a3
  refine lv_aload_n hx hb dX3_init_36 rfl (lv_at hl 0 rfl) ?_
  refine lv_sipush (v := 960) hx hb dX3_init_37 (by decide) ?_
  refine mw_newa (atype := .long) (n := 960) (N' := 960) (ty := .long) (a0 := (960, .inr (.inl (fun _ => 0)))) F hK hW hS hA 1 hl_arrayClass_long rfl rfl (fun C z => by cases z) (fun cA => rfl) (by decide) (by decide) (by decide) (by show _ ≤ 9; omega) (by show _ ≤ 5089; omega) dX3_init_40 (fun q4 H hq4 hW hS => ?_)
  have n04 : q0 ≠ q4 := mw_nnew a0 hq4
  have n14 : q1 ≠ q4 := mw_nnew a1 hq4
  have n24 : q2 ≠ q4 := mw_nnew a2 hq4
  have n34 : q3 ≠ q4 := mw_nnew a3 hq4
  have hm : (va_up M4 q4 (some (.inl (cJ, 960, .inr (.inl (fun _ => 0)))))) mm = _ := (va_up_ne _ _ (mw_nnew hm hq4)).trans hm
  have a0 : (va_up M4 q4 (some (.inl (cJ, 960, .inr (.inl (fun _ => 0)))))) q0 = _ := (va_up_ne _ _ n04).trans a0
  have a1 : (va_up M4 q4 (some (.inl (cJ, 960, .inr (.inl (fun _ => 0)))))) q1 = _ := (va_up_ne _ _ n14).trans a1
  have a2 : (va_up M4 q4 (some (.inl (cJ, 960, .inr (.inl (fun _ => 0)))))) q2 = _ := (va_up_ne _ _ n24).trans a2
  have a3 : (va_up M4 q4 (some (.inl (cJ, 960, .inr (.inl (fun _ => 0)))))) q3 = _ := (va_up_ne _ _ n34).trans a3
  have a4 : (va_up M4 q4 (some (.inl (cJ, 960, .inr (.inl (fun _ => 0)))))) q4 = some (.inl (cJ, 960, .inr (.inl (fun _ => 0)))) := va_up_self _ _ _
  generalize va_up M4 q4 (some (.inl (cJ, 960, .inr (.inl (fun _ => 0))))) = N4 at hW hm a0 a1 a2 a3 a4
  refine mw_putF (C := RX3) (T := TX3) (N := 14) (v := .ref q4) F hK hW hS hI_X3 tyX3 tyX3_ok nmX3 hm rfl 4 (by decide) hl_fieldLink_RX3_22_SpliceBenchModel_places_J rfl hin rfl rfl rfl (Nat.le_of_ble_eq_true rfl) dX3_init_42 (fun H locs hW hS => ?_)
  have hW : mw D (mwA M s.heap.size) (va_up N4 mm (some (.inr (3, [.ref q0, .ref q1, .ref q2, .ref q3, .ref q4, .null, .null, .null, .null, .int 0, .int 0, .int 0, .int 0, .int 0])))) H := hW
  have a0 : (va_up N4 mm (some (.inr (3, [.ref q0, .ref q1, .ref q2, .ref q3, .ref q4, .null, .null, .null, .null, .int 0, .int 0, .int 0, .int 0, .int 0])))) q0 = _ := (va_up_ne _ _ (mw_neq a0 hm (fun z => by cases z))).trans a0
  have a1 : (va_up N4 mm (some (.inr (3, [.ref q0, .ref q1, .ref q2, .ref q3, .ref q4, .null, .null, .null, .null, .int 0, .int 0, .int 0, .int 0, .int 0])))) q1 = _ := (va_up_ne _ _ (mw_neq a1 hm (fun z => by cases z))).trans a1
  have a2 : (va_up N4 mm (some (.inr (3, [.ref q0, .ref q1, .ref q2, .ref q3, .ref q4, .null, .null, .null, .null, .int 0, .int 0, .int 0, .int 0, .int 0])))) q2 = _ := (va_up_ne _ _ (mw_neq a2 hm (fun z => by cases z))).trans a2
  have a3 : (va_up N4 mm (some (.inr (3, [.ref q0, .ref q1, .ref q2, .ref q3, .ref q4, .null, .null, .null, .null, .int 0, .int 0, .int 0, .int 0, .int 0])))) q3 = _ := (va_up_ne _ _ (mw_neq a3 hm (fun z => by cases z))).trans a3
  have a4 : (va_up N4 mm (some (.inr (3, [.ref q0, .ref q1, .ref q2, .ref q3, .ref q4, .null, .null, .null, .null, .int 0, .int 0, .int 0, .int 0, .int 0])))) q4 = _ := (va_up_ne _ _ (mw_neq a4 hm (fun z => by cases z))).trans a4
  have hm : (va_up N4 mm (some (.inr (3, [.ref q0, .ref q1, .ref q2, .ref q3, .ref q4, .null, .null, .null, .null, .int 0, .int 0, .int 0, .int 0, .int 0])))) mm = some (.inr (3, [.ref q0, .ref q1, .ref q2, .ref q3, .ref q4, .null, .null, .null, .null, .int 0, .int 0, .int 0, .int 0, .int 0])) := va_up_self _ _ _
  generalize va_up N4 mm (some (.inr (3, [.ref q0, .ref q1, .ref q2, .ref q3, .ref q4, .null, .null, .null, .null, .int 0, .int 0, .int 0, .int 0, .int 0]))) = M5 at hW hm a0 a1 a2 a3 a4
  refine lv_aload_n hx hb dX3_init_45 rfl (lv_at hl 0 rfl) ?_
  refine lv_bipush (v := 80) hx hb dX3_init_46 (by decide) ?_
  refine mw_newa (atype := .long) (n := 80) (N' := 80) (ty := .long) (a0 := (80, .inr (.inl (fun _ => 0)))) F hK hW hS hA 1 hl_arrayClass_long rfl rfl (fun C z => by cases z) (fun cA => rfl) (by decide) (by decide) (by decide) (by show _ ≤ 9; omega) (by show _ ≤ 5089; omega) dX3_init_48 (fun q5 H hq5 hW hS => ?_)
  have n05 : q0 ≠ q5 := mw_nnew a0 hq5
  have n15 : q1 ≠ q5 := mw_nnew a1 hq5
  have n25 : q2 ≠ q5 := mw_nnew a2 hq5
  have n35 : q3 ≠ q5 := mw_nnew a3 hq5
  have n45 : q4 ≠ q5 := mw_nnew a4 hq5
  have hm : (va_up M5 q5 (some (.inl (cJ, 80, .inr (.inl (fun _ => 0)))))) mm = _ := (va_up_ne _ _ (mw_nnew hm hq5)).trans hm
  have a0 : (va_up M5 q5 (some (.inl (cJ, 80, .inr (.inl (fun _ => 0)))))) q0 = _ := (va_up_ne _ _ n05).trans a0
  have a1 : (va_up M5 q5 (some (.inl (cJ, 80, .inr (.inl (fun _ => 0)))))) q1 = _ := (va_up_ne _ _ n15).trans a1
  have a2 : (va_up M5 q5 (some (.inl (cJ, 80, .inr (.inl (fun _ => 0)))))) q2 = _ := (va_up_ne _ _ n25).trans a2
  have a3 : (va_up M5 q5 (some (.inl (cJ, 80, .inr (.inl (fun _ => 0)))))) q3 = _ := (va_up_ne _ _ n35).trans a3
  have a4 : (va_up M5 q5 (some (.inl (cJ, 80, .inr (.inl (fun _ => 0)))))) q4 = _ := (va_up_ne _ _ n45).trans a4
  have a5 : (va_up M5 q5 (some (.inl (cJ, 80, .inr (.inl (fun _ => 0)))))) q5 = some (.inl (cJ, 80, .inr (.inl (fun _ => 0)))) := va_up_self _ _ _
  generalize va_up M5 q5 (some (.inl (cJ, 80, .inr (.inl (fun _ => 0))))) = N5 at hW hm a0 a1 a2 a3 a4 a5
  refine mw_putF (C := RX3) (T := TX3) (N := 14) (v := .ref q5) F hK hW hS hI_X3 tyX3 tyX3_ok nmX3 hm rfl 5 (by decide) hl_fieldLink_RX3_26_SpliceBenchModel_was_J rfl hin rfl rfl rfl (Nat.le_of_ble_eq_true rfl) dX3_init_50 (fun H locs hW hS => ?_)
  have hW : mw D (mwA M s.heap.size) (va_up N5 mm (some (.inr (3, [.ref q0, .ref q1, .ref q2, .ref q3, .ref q4, .ref q5, .null, .null, .null, .int 0, .int 0, .int 0, .int 0, .int 0])))) H := hW
  have a0 : (va_up N5 mm (some (.inr (3, [.ref q0, .ref q1, .ref q2, .ref q3, .ref q4, .ref q5, .null, .null, .null, .int 0, .int 0, .int 0, .int 0, .int 0])))) q0 = _ := (va_up_ne _ _ (mw_neq a0 hm (fun z => by cases z))).trans a0
  have a1 : (va_up N5 mm (some (.inr (3, [.ref q0, .ref q1, .ref q2, .ref q3, .ref q4, .ref q5, .null, .null, .null, .int 0, .int 0, .int 0, .int 0, .int 0])))) q1 = _ := (va_up_ne _ _ (mw_neq a1 hm (fun z => by cases z))).trans a1
  have a2 : (va_up N5 mm (some (.inr (3, [.ref q0, .ref q1, .ref q2, .ref q3, .ref q4, .ref q5, .null, .null, .null, .int 0, .int 0, .int 0, .int 0, .int 0])))) q2 = _ := (va_up_ne _ _ (mw_neq a2 hm (fun z => by cases z))).trans a2
  have a3 : (va_up N5 mm (some (.inr (3, [.ref q0, .ref q1, .ref q2, .ref q3, .ref q4, .ref q5, .null, .null, .null, .int 0, .int 0, .int 0, .int 0, .int 0])))) q3 = _ := (va_up_ne _ _ (mw_neq a3 hm (fun z => by cases z))).trans a3
  have a4 : (va_up N5 mm (some (.inr (3, [.ref q0, .ref q1, .ref q2, .ref q3, .ref q4, .ref q5, .null, .null, .null, .int 0, .int 0, .int 0, .int 0, .int 0])))) q4 = _ := (va_up_ne _ _ (mw_neq a4 hm (fun z => by cases z))).trans a4
  have a5 : (va_up N5 mm (some (.inr (3, [.ref q0, .ref q1, .ref q2, .ref q3, .ref q4, .ref q5, .null, .null, .null, .int 0, .int 0, .int 0, .int 0, .int 0])))) q5 = _ := (va_up_ne _ _ (mw_neq a5 hm (fun z => by cases z))).trans a5
  have hm : (va_up N5 mm (some (.inr (3, [.ref q0, .ref q1, .ref q2, .ref q3, .ref q4, .ref q5, .null, .null, .null, .int 0, .int 0, .int 0, .int 0, .int 0])))) mm = some (.inr (3, [.ref q0, .ref q1, .ref q2, .ref q3, .ref q4, .ref q5, .null, .null, .null, .int 0, .int 0, .int 0, .int 0, .int 0])) := va_up_self _ _ _
  generalize va_up N5 mm (some (.inr (3, [.ref q0, .ref q1, .ref q2, .ref q3, .ref q4, .ref q5, .null, .null, .null, .int 0, .int 0, .int 0, .int 0, .int 0]))) = M6 at hW hm a0 a1 a2 a3 a4 a5
  refine lv_aload_n hx hb dX3_init_53 rfl (lv_at hl 0 rfl) ?_
  refine lv_sipush (v := 2000) hx hb dX3_init_54 (by decide) ?_
  refine mw_newa (atype := .long) (n := 2000) (N' := 2000) (ty := .long) (a0 := (2000, .inr (.inl (fun _ => 0)))) F hK hW hS hA 1 hl_arrayClass_long rfl rfl (fun C z => by cases z) (fun cA => rfl) (by decide) (by decide) (by decide) (by show _ ≤ 9; omega) (by show _ ≤ 5089; omega) dX3_init_57 (fun q6 H hq6 hW hS => ?_)
  have n06 : q0 ≠ q6 := mw_nnew a0 hq6
  have n16 : q1 ≠ q6 := mw_nnew a1 hq6
  have n26 : q2 ≠ q6 := mw_nnew a2 hq6
  have n36 : q3 ≠ q6 := mw_nnew a3 hq6
  have n46 : q4 ≠ q6 := mw_nnew a4 hq6
  have n56 : q5 ≠ q6 := mw_nnew a5 hq6
  have hm : (va_up M6 q6 (some (.inl (cJ, 2000, .inr (.inl (fun _ => 0)))))) mm = _ := (va_up_ne _ _ (mw_nnew hm hq6)).trans hm
  have a0 : (va_up M6 q6 (some (.inl (cJ, 2000, .inr (.inl (fun _ => 0)))))) q0 = _ := (va_up_ne _ _ n06).trans a0
  have a1 : (va_up M6 q6 (some (.inl (cJ, 2000, .inr (.inl (fun _ => 0)))))) q1 = _ := (va_up_ne _ _ n16).trans a1
  have a2 : (va_up M6 q6 (some (.inl (cJ, 2000, .inr (.inl (fun _ => 0)))))) q2 = _ := (va_up_ne _ _ n26).trans a2
  have a3 : (va_up M6 q6 (some (.inl (cJ, 2000, .inr (.inl (fun _ => 0)))))) q3 = _ := (va_up_ne _ _ n36).trans a3
  have a4 : (va_up M6 q6 (some (.inl (cJ, 2000, .inr (.inl (fun _ => 0)))))) q4 = _ := (va_up_ne _ _ n46).trans a4
  have a5 : (va_up M6 q6 (some (.inl (cJ, 2000, .inr (.inl (fun _ => 0)))))) q5 = _ := (va_up_ne _ _ n56).trans a5
  have a6 : (va_up M6 q6 (some (.inl (cJ, 2000, .inr (.inl (fun _ => 0)))))) q6 = some (.inl (cJ, 2000, .inr (.inl (fun _ => 0)))) := va_up_self _ _ _
  generalize va_up M6 q6 (some (.inl (cJ, 2000, .inr (.inl (fun _ => 0))))) = N6 at hW hm a0 a1 a2 a3 a4 a5 a6
  refine mw_putF (C := RX3) (T := TX3) (N := 14) (v := .ref q6) F hK hW hS hI_X3 tyX3 tyX3_ok nmX3 hm rfl 6 (by decide) hl_fieldLink_RX3_29_SpliceBenchModel_cardNumber_J rfl hin rfl rfl rfl (Nat.le_of_ble_eq_true rfl) dX3_init_59 (fun H locs hW hS => ?_)
  have hW : mw D (mwA M s.heap.size) (va_up N6 mm (some (.inr (3, [.ref q0, .ref q1, .ref q2, .ref q3, .ref q4, .ref q5, .ref q6, .null, .null, .int 0, .int 0, .int 0, .int 0, .int 0])))) H := hW
  have a0 : (va_up N6 mm (some (.inr (3, [.ref q0, .ref q1, .ref q2, .ref q3, .ref q4, .ref q5, .ref q6, .null, .null, .int 0, .int 0, .int 0, .int 0, .int 0])))) q0 = _ := (va_up_ne _ _ (mw_neq a0 hm (fun z => by cases z))).trans a0
  have a1 : (va_up N6 mm (some (.inr (3, [.ref q0, .ref q1, .ref q2, .ref q3, .ref q4, .ref q5, .ref q6, .null, .null, .int 0, .int 0, .int 0, .int 0, .int 0])))) q1 = _ := (va_up_ne _ _ (mw_neq a1 hm (fun z => by cases z))).trans a1
  have a2 : (va_up N6 mm (some (.inr (3, [.ref q0, .ref q1, .ref q2, .ref q3, .ref q4, .ref q5, .ref q6, .null, .null, .int 0, .int 0, .int 0, .int 0, .int 0])))) q2 = _ := (va_up_ne _ _ (mw_neq a2 hm (fun z => by cases z))).trans a2
  have a3 : (va_up N6 mm (some (.inr (3, [.ref q0, .ref q1, .ref q2, .ref q3, .ref q4, .ref q5, .ref q6, .null, .null, .int 0, .int 0, .int 0, .int 0, .int 0])))) q3 = _ := (va_up_ne _ _ (mw_neq a3 hm (fun z => by cases z))).trans a3
  have a4 : (va_up N6 mm (some (.inr (3, [.ref q0, .ref q1, .ref q2, .ref q3, .ref q4, .ref q5, .ref q6, .null, .null, .int 0, .int 0, .int 0, .int 0, .int 0])))) q4 = _ := (va_up_ne _ _ (mw_neq a4 hm (fun z => by cases z))).trans a4
  have a5 : (va_up N6 mm (some (.inr (3, [.ref q0, .ref q1, .ref q2, .ref q3, .ref q4, .ref q5, .ref q6, .null, .null, .int 0, .int 0, .int 0, .int 0, .int 0])))) q5 = _ := (va_up_ne _ _ (mw_neq a5 hm (fun z => by cases z))).trans a5
  have a6 : (va_up N6 mm (some (.inr (3, [.ref q0, .ref q1, .ref q2, .ref q3, .ref q4, .ref q5, .ref q6, .null, .null, .int 0, .int 0, .int 0, .int 0, .int 0])))) q6 = _ := (va_up_ne _ _ (mw_neq a6 hm (fun z => by cases z))).trans a6
  have hm : (va_up N6 mm (some (.inr (3, [.ref q0, .ref q1, .ref q2, .ref q3, .ref q4, .ref q5, .ref q6, .null, .null, .int 0, .int 0, .int 0, .int 0, .int 0])))) mm = some (.inr (3, [.ref q0, .ref q1, .ref q2, .ref q3, .ref q4, .ref q5, .ref q6, .null, .null, .int 0, .int 0, .int 0, .int 0, .int 0])) := va_up_self _ _ _
  generalize va_up N6 mm (some (.inr (3, [.ref q0, .ref q1, .ref q2, .ref q3, .ref q4, .ref q5, .ref q6, .null, .null, .int 0, .int 0, .int 0, .int 0, .int 0]))) = M7 at hW hm a0 a1 a2 a3 a4 a5 a6
  refine lv_aload_n hx hb dX3_init_62 rfl (lv_at hl 0 rfl) ?_
  refine lv_sipush (v := 2000) hx hb dX3_init_63 (by decide) ?_
  refine mw_newa (atype := .int) (n := 2000) (N' := 2000) (ty := .int) (a0 := (2000, .inl (fun _ => 0))) F hK hW hS hA 0 hl_arrayClass_int rfl rfl (fun C z => by cases z) (fun cA => rfl) (by decide) (by decide) (by decide) (by show _ ≤ 9; omega) (by show _ ≤ 5089; omega) dX3_init_66 (fun q7 H hq7 hW hS => ?_)
  have n07 : q0 ≠ q7 := mw_nnew a0 hq7
  have n17 : q1 ≠ q7 := mw_nnew a1 hq7
  have n27 : q2 ≠ q7 := mw_nnew a2 hq7
  have n37 : q3 ≠ q7 := mw_nnew a3 hq7
  have n47 : q4 ≠ q7 := mw_nnew a4 hq7
  have n57 : q5 ≠ q7 := mw_nnew a5 hq7
  have n67 : q6 ≠ q7 := mw_nnew a6 hq7
  have hm : (va_up M7 q7 (some (.inl (cI, 2000, .inl (fun _ => 0))))) mm = _ := (va_up_ne _ _ (mw_nnew hm hq7)).trans hm
  have a0 : (va_up M7 q7 (some (.inl (cI, 2000, .inl (fun _ => 0))))) q0 = _ := (va_up_ne _ _ n07).trans a0
  have a1 : (va_up M7 q7 (some (.inl (cI, 2000, .inl (fun _ => 0))))) q1 = _ := (va_up_ne _ _ n17).trans a1
  have a2 : (va_up M7 q7 (some (.inl (cI, 2000, .inl (fun _ => 0))))) q2 = _ := (va_up_ne _ _ n27).trans a2
  have a3 : (va_up M7 q7 (some (.inl (cI, 2000, .inl (fun _ => 0))))) q3 = _ := (va_up_ne _ _ n37).trans a3
  have a4 : (va_up M7 q7 (some (.inl (cI, 2000, .inl (fun _ => 0))))) q4 = _ := (va_up_ne _ _ n47).trans a4
  have a5 : (va_up M7 q7 (some (.inl (cI, 2000, .inl (fun _ => 0))))) q5 = _ := (va_up_ne _ _ n57).trans a5
  have a6 : (va_up M7 q7 (some (.inl (cI, 2000, .inl (fun _ => 0))))) q6 = _ := (va_up_ne _ _ n67).trans a6
  have a7 : (va_up M7 q7 (some (.inl (cI, 2000, .inl (fun _ => 0))))) q7 = some (.inl (cI, 2000, .inl (fun _ => 0))) := va_up_self _ _ _
  generalize va_up M7 q7 (some (.inl (cI, 2000, .inl (fun _ => 0)))) = N7 at hW hm a0 a1 a2 a3 a4 a5 a6 a7
  refine mw_putF (C := RX3) (T := TX3) (N := 14) (v := .ref q7) F hK hW hS hI_X3 tyX3 tyX3_ok nmX3 hm rfl 7 (by decide) hl_fieldLink_RX3_32_SpliceBenchModel_cardShown_I rfl hin rfl rfl rfl (Nat.le_of_ble_eq_true rfl) dX3_init_68 (fun H locs hW hS => ?_)
  have hW : mw D (mwA M s.heap.size) (va_up N7 mm (some (.inr (3, [.ref q0, .ref q1, .ref q2, .ref q3, .ref q4, .ref q5, .ref q6, .ref q7, .null, .int 0, .int 0, .int 0, .int 0, .int 0])))) H := hW
  have a0 : (va_up N7 mm (some (.inr (3, [.ref q0, .ref q1, .ref q2, .ref q3, .ref q4, .ref q5, .ref q6, .ref q7, .null, .int 0, .int 0, .int 0, .int 0, .int 0])))) q0 = _ := (va_up_ne _ _ (mw_neq a0 hm (fun z => by cases z))).trans a0
  have a1 : (va_up N7 mm (some (.inr (3, [.ref q0, .ref q1, .ref q2, .ref q3, .ref q4, .ref q5, .ref q6, .ref q7, .null, .int 0, .int 0, .int 0, .int 0, .int 0])))) q1 = _ := (va_up_ne _ _ (mw_neq a1 hm (fun z => by cases z))).trans a1
  have a2 : (va_up N7 mm (some (.inr (3, [.ref q0, .ref q1, .ref q2, .ref q3, .ref q4, .ref q5, .ref q6, .ref q7, .null, .int 0, .int 0, .int 0, .int 0, .int 0])))) q2 = _ := (va_up_ne _ _ (mw_neq a2 hm (fun z => by cases z))).trans a2
  have a3 : (va_up N7 mm (some (.inr (3, [.ref q0, .ref q1, .ref q2, .ref q3, .ref q4, .ref q5, .ref q6, .ref q7, .null, .int 0, .int 0, .int 0, .int 0, .int 0])))) q3 = _ := (va_up_ne _ _ (mw_neq a3 hm (fun z => by cases z))).trans a3
  have a4 : (va_up N7 mm (some (.inr (3, [.ref q0, .ref q1, .ref q2, .ref q3, .ref q4, .ref q5, .ref q6, .ref q7, .null, .int 0, .int 0, .int 0, .int 0, .int 0])))) q4 = _ := (va_up_ne _ _ (mw_neq a4 hm (fun z => by cases z))).trans a4
  have a5 : (va_up N7 mm (some (.inr (3, [.ref q0, .ref q1, .ref q2, .ref q3, .ref q4, .ref q5, .ref q6, .ref q7, .null, .int 0, .int 0, .int 0, .int 0, .int 0])))) q5 = _ := (va_up_ne _ _ (mw_neq a5 hm (fun z => by cases z))).trans a5
  have a6 : (va_up N7 mm (some (.inr (3, [.ref q0, .ref q1, .ref q2, .ref q3, .ref q4, .ref q5, .ref q6, .ref q7, .null, .int 0, .int 0, .int 0, .int 0, .int 0])))) q6 = _ := (va_up_ne _ _ (mw_neq a6 hm (fun z => by cases z))).trans a6
  have a7 : (va_up N7 mm (some (.inr (3, [.ref q0, .ref q1, .ref q2, .ref q3, .ref q4, .ref q5, .ref q6, .ref q7, .null, .int 0, .int 0, .int 0, .int 0, .int 0])))) q7 = _ := (va_up_ne _ _ (mw_neq a7 hm (fun z => by cases z))).trans a7
  have hm : (va_up N7 mm (some (.inr (3, [.ref q0, .ref q1, .ref q2, .ref q3, .ref q4, .ref q5, .ref q6, .ref q7, .null, .int 0, .int 0, .int 0, .int 0, .int 0])))) mm = some (.inr (3, [.ref q0, .ref q1, .ref q2, .ref q3, .ref q4, .ref q5, .ref q6, .ref q7, .null, .int 0, .int 0, .int 0, .int 0, .int 0])) := va_up_self _ _ _
  generalize va_up N7 mm (some (.inr (3, [.ref q0, .ref q1, .ref q2, .ref q3, .ref q4, .ref q5, .ref q6, .ref q7, .null, .int 0, .int 0, .int 0, .int 0, .int 0]))) = M8 at hW hm a0 a1 a2 a3 a4 a5 a6 a7
  refine lv_aload_n hx hb dX3_init_71 rfl (lv_at hl 0 rfl) ?_
  refine lv_iconst (v := 5) hx hb dX3_init_72 (by decide) ?_
  refine mw_newa (atype := .int) (n := 5) (N' := 5) (ty := .int) (a0 := (5, .inl (fun _ => 0))) F hK hW hS hA 0 hl_arrayClass_int rfl rfl (fun C z => by cases z) (fun cA => rfl) (by decide) (by decide) (by decide) (by show _ ≤ 9; omega) (by show _ ≤ 5089; omega) dX3_init_73 (fun q8 H hq8 hW hS => ?_)
  have n08 : q0 ≠ q8 := mw_nnew a0 hq8
  have n18 : q1 ≠ q8 := mw_nnew a1 hq8
  have n28 : q2 ≠ q8 := mw_nnew a2 hq8
  have n38 : q3 ≠ q8 := mw_nnew a3 hq8
  have n48 : q4 ≠ q8 := mw_nnew a4 hq8
  have n58 : q5 ≠ q8 := mw_nnew a5 hq8
  have n68 : q6 ≠ q8 := mw_nnew a6 hq8
  have n78 : q7 ≠ q8 := mw_nnew a7 hq8
  have hm : (va_up M8 q8 (some (.inl (cI, 5, .inl (fun _ => 0))))) mm = _ := (va_up_ne _ _ (mw_nnew hm hq8)).trans hm
  have a0 : (va_up M8 q8 (some (.inl (cI, 5, .inl (fun _ => 0))))) q0 = _ := (va_up_ne _ _ n08).trans a0
  have a1 : (va_up M8 q8 (some (.inl (cI, 5, .inl (fun _ => 0))))) q1 = _ := (va_up_ne _ _ n18).trans a1
  have a2 : (va_up M8 q8 (some (.inl (cI, 5, .inl (fun _ => 0))))) q2 = _ := (va_up_ne _ _ n28).trans a2
  have a3 : (va_up M8 q8 (some (.inl (cI, 5, .inl (fun _ => 0))))) q3 = _ := (va_up_ne _ _ n38).trans a3
  have a4 : (va_up M8 q8 (some (.inl (cI, 5, .inl (fun _ => 0))))) q4 = _ := (va_up_ne _ _ n48).trans a4
  have a5 : (va_up M8 q8 (some (.inl (cI, 5, .inl (fun _ => 0))))) q5 = _ := (va_up_ne _ _ n58).trans a5
  have a6 : (va_up M8 q8 (some (.inl (cI, 5, .inl (fun _ => 0))))) q6 = _ := (va_up_ne _ _ n68).trans a6
  have a7 : (va_up M8 q8 (some (.inl (cI, 5, .inl (fun _ => 0))))) q7 = _ := (va_up_ne _ _ n78).trans a7
  have a8 : (va_up M8 q8 (some (.inl (cI, 5, .inl (fun _ => 0))))) q8 = some (.inl (cI, 5, .inl (fun _ => 0))) := va_up_self _ _ _
  generalize va_up M8 q8 (some (.inl (cI, 5, .inl (fun _ => 0)))) = N8 at hW hm a0 a1 a2 a3 a4 a5 a6 a7 a8
  refine mw_putF (C := RX3) (T := TX3) (N := 14) (v := .ref q8) F hK hW hS hI_X3 tyX3 tyX3_ok nmX3 hm rfl 8 (by decide) hl_fieldLink_RX3_35_SpliceBenchModel_failed_I rfl hin rfl rfl rfl (Nat.le_of_ble_eq_true rfl) dX3_init_75 (fun H locs hW hS => ?_)
  have hW : mw D (mwA M s.heap.size) (va_up N8 mm (some (.inr (3, [.ref q0, .ref q1, .ref q2, .ref q3, .ref q4, .ref q5, .ref q6, .ref q7, .ref q8, .int 0, .int 0, .int 0, .int 0, .int 0])))) H := hW
  have a0 : (va_up N8 mm (some (.inr (3, [.ref q0, .ref q1, .ref q2, .ref q3, .ref q4, .ref q5, .ref q6, .ref q7, .ref q8, .int 0, .int 0, .int 0, .int 0, .int 0])))) q0 = _ := (va_up_ne _ _ (mw_neq a0 hm (fun z => by cases z))).trans a0
  have a1 : (va_up N8 mm (some (.inr (3, [.ref q0, .ref q1, .ref q2, .ref q3, .ref q4, .ref q5, .ref q6, .ref q7, .ref q8, .int 0, .int 0, .int 0, .int 0, .int 0])))) q1 = _ := (va_up_ne _ _ (mw_neq a1 hm (fun z => by cases z))).trans a1
  have a2 : (va_up N8 mm (some (.inr (3, [.ref q0, .ref q1, .ref q2, .ref q3, .ref q4, .ref q5, .ref q6, .ref q7, .ref q8, .int 0, .int 0, .int 0, .int 0, .int 0])))) q2 = _ := (va_up_ne _ _ (mw_neq a2 hm (fun z => by cases z))).trans a2
  have a3 : (va_up N8 mm (some (.inr (3, [.ref q0, .ref q1, .ref q2, .ref q3, .ref q4, .ref q5, .ref q6, .ref q7, .ref q8, .int 0, .int 0, .int 0, .int 0, .int 0])))) q3 = _ := (va_up_ne _ _ (mw_neq a3 hm (fun z => by cases z))).trans a3
  have a4 : (va_up N8 mm (some (.inr (3, [.ref q0, .ref q1, .ref q2, .ref q3, .ref q4, .ref q5, .ref q6, .ref q7, .ref q8, .int 0, .int 0, .int 0, .int 0, .int 0])))) q4 = _ := (va_up_ne _ _ (mw_neq a4 hm (fun z => by cases z))).trans a4
  have a5 : (va_up N8 mm (some (.inr (3, [.ref q0, .ref q1, .ref q2, .ref q3, .ref q4, .ref q5, .ref q6, .ref q7, .ref q8, .int 0, .int 0, .int 0, .int 0, .int 0])))) q5 = _ := (va_up_ne _ _ (mw_neq a5 hm (fun z => by cases z))).trans a5
  have a6 : (va_up N8 mm (some (.inr (3, [.ref q0, .ref q1, .ref q2, .ref q3, .ref q4, .ref q5, .ref q6, .ref q7, .ref q8, .int 0, .int 0, .int 0, .int 0, .int 0])))) q6 = _ := (va_up_ne _ _ (mw_neq a6 hm (fun z => by cases z))).trans a6
  have a7 : (va_up N8 mm (some (.inr (3, [.ref q0, .ref q1, .ref q2, .ref q3, .ref q4, .ref q5, .ref q6, .ref q7, .ref q8, .int 0, .int 0, .int 0, .int 0, .int 0])))) q7 = _ := (va_up_ne _ _ (mw_neq a7 hm (fun z => by cases z))).trans a7
  have a8 : (va_up N8 mm (some (.inr (3, [.ref q0, .ref q1, .ref q2, .ref q3, .ref q4, .ref q5, .ref q6, .ref q7, .ref q8, .int 0, .int 0, .int 0, .int 0, .int 0])))) q8 = _ := (va_up_ne _ _ (mw_neq a8 hm (fun z => by cases z))).trans a8
  have hm : (va_up N8 mm (some (.inr (3, [.ref q0, .ref q1, .ref q2, .ref q3, .ref q4, .ref q5, .ref q6, .ref q7, .ref q8, .int 0, .int 0, .int 0, .int 0, .int 0])))) mm = some (.inr (3, [.ref q0, .ref q1, .ref q2, .ref q3, .ref q4, .ref q5, .ref q6, .ref q7, .ref q8, .int 0, .int 0, .int 0, .int 0, .int 0])) := va_up_self _ _ _
  generalize va_up N8 mm (some (.inr (3, [.ref q0, .ref q1, .ref q2, .ref q3, .ref q4, .ref q5, .ref q6, .ref q7, .ref q8, .int 0, .int 0, .int 0, .int 0, .int 0]))) = M9 at hW hm a0 a1 a2 a3 a4 a5 a6 a7 a8
  refine lv_aload_n hx hb dX3_init_78 rfl (lv_at hl 0 rfl) ?_
  refine lv_iconst (v := (-1)) hx hb dX3_init_79 (by decide) ?_
  refine mw_put (C := RX3) (T := TX3) (N := 14) (v := .int (-1)) F hK hW hS hI_X3 tyX3 tyX3_ok nmX3 hm rfl 9 (by decide) hl_fieldLink_RX3_38_SpliceBenchModel_covered_I rfl rfl rfl (Nat.le_of_ble_eq_true rfl) dX3_init_80 (fun H locs hW hS => ?_)
  have hW : mw D (mwA M s.heap.size) (va_up M9 mm (some (.inr (3, [.ref q0, .ref q1, .ref q2, .ref q3, .ref q4, .ref q5, .ref q6, .ref q7, .ref q8, .int (-1), .int 0, .int 0, .int 0, .int 0])))) H := hW
  have a0 : (va_up M9 mm (some (.inr (3, [.ref q0, .ref q1, .ref q2, .ref q3, .ref q4, .ref q5, .ref q6, .ref q7, .ref q8, .int (-1), .int 0, .int 0, .int 0, .int 0])))) q0 = _ := (va_up_ne _ _ (mw_neq a0 hm (fun z => by cases z))).trans a0
  have a1 : (va_up M9 mm (some (.inr (3, [.ref q0, .ref q1, .ref q2, .ref q3, .ref q4, .ref q5, .ref q6, .ref q7, .ref q8, .int (-1), .int 0, .int 0, .int 0, .int 0])))) q1 = _ := (va_up_ne _ _ (mw_neq a1 hm (fun z => by cases z))).trans a1
  have a2 : (va_up M9 mm (some (.inr (3, [.ref q0, .ref q1, .ref q2, .ref q3, .ref q4, .ref q5, .ref q6, .ref q7, .ref q8, .int (-1), .int 0, .int 0, .int 0, .int 0])))) q2 = _ := (va_up_ne _ _ (mw_neq a2 hm (fun z => by cases z))).trans a2
  have a3 : (va_up M9 mm (some (.inr (3, [.ref q0, .ref q1, .ref q2, .ref q3, .ref q4, .ref q5, .ref q6, .ref q7, .ref q8, .int (-1), .int 0, .int 0, .int 0, .int 0])))) q3 = _ := (va_up_ne _ _ (mw_neq a3 hm (fun z => by cases z))).trans a3
  have a4 : (va_up M9 mm (some (.inr (3, [.ref q0, .ref q1, .ref q2, .ref q3, .ref q4, .ref q5, .ref q6, .ref q7, .ref q8, .int (-1), .int 0, .int 0, .int 0, .int 0])))) q4 = _ := (va_up_ne _ _ (mw_neq a4 hm (fun z => by cases z))).trans a4
  have a5 : (va_up M9 mm (some (.inr (3, [.ref q0, .ref q1, .ref q2, .ref q3, .ref q4, .ref q5, .ref q6, .ref q7, .ref q8, .int (-1), .int 0, .int 0, .int 0, .int 0])))) q5 = _ := (va_up_ne _ _ (mw_neq a5 hm (fun z => by cases z))).trans a5
  have a6 : (va_up M9 mm (some (.inr (3, [.ref q0, .ref q1, .ref q2, .ref q3, .ref q4, .ref q5, .ref q6, .ref q7, .ref q8, .int (-1), .int 0, .int 0, .int 0, .int 0])))) q6 = _ := (va_up_ne _ _ (mw_neq a6 hm (fun z => by cases z))).trans a6
  have a7 : (va_up M9 mm (some (.inr (3, [.ref q0, .ref q1, .ref q2, .ref q3, .ref q4, .ref q5, .ref q6, .ref q7, .ref q8, .int (-1), .int 0, .int 0, .int 0, .int 0])))) q7 = _ := (va_up_ne _ _ (mw_neq a7 hm (fun z => by cases z))).trans a7
  have a8 : (va_up M9 mm (some (.inr (3, [.ref q0, .ref q1, .ref q2, .ref q3, .ref q4, .ref q5, .ref q6, .ref q7, .ref q8, .int (-1), .int 0, .int 0, .int 0, .int 0])))) q8 = _ := (va_up_ne _ _ (mw_neq a8 hm (fun z => by cases z))).trans a8
  have hm : (va_up M9 mm (some (.inr (3, [.ref q0, .ref q1, .ref q2, .ref q3, .ref q4, .ref q5, .ref q6, .ref q7, .ref q8, .int (-1), .int 0, .int 0, .int 0, .int 0])))) mm = some (.inr (3, [.ref q0, .ref q1, .ref q2, .ref q3, .ref q4, .ref q5, .ref q6, .ref q7, .ref q8, .int (-1), .int 0, .int 0, .int 0, .int 0])) := va_up_self _ _ _
  generalize va_up M9 mm (some (.inr (3, [.ref q0, .ref q1, .ref q2, .ref q3, .ref q4, .ref q5, .ref q6, .ref q7, .ref q8, .int (-1), .int 0, .int 0, .int 0, .int 0]))) = M10 at hW hm a0 a1 a2 a3 a4 a5 a6 a7 a8
  refine W.widen (k := 9) (n := 5089) (by omega) (by omega) ?_
  exact W.vret hx hb hr (fun t ht hw => ⟨⟨M10, rfl, ⟨ad9 q0 q1 q2 q3 q4 q5 q6 q7 q8, hm, a0, a1, a2, a3, a4, a5, a6, a7, a8, ad9_inj n01 n02 n12 n03 n13 n23 n04 n14 n24 n34 n05 n15 n25 n35 n45 n06 n16 n26 n36 n46 n56 n07 n17 n27 n37 n47 n57 n67 n08 n18 n28 n38 n48 n58 n68 n78⟩, by rw [ht]; exact hW, va_K.moved hw.alike hK⟩, hS.F ht⟩) hS.2.2 dX3_init_83
end X3I
