section X2I
variable {l : Launch} {D : va_G} {cI cJ cC cH : ClassId} {M : Nat → Option va_E} {sz : Nat}
theorem arrV_cong {cA : ClassId} {n : Nat} {f f' : Nat → Value} (e : ∀ j, j < n → f j = f' j) : arrV cA n f = arrV cA n f' := by
  unfold arrV
  have : (fun j : Fin n => f j.val) = fun j : Fin n => f' j.val := funext (fun j => e j.val j.isLt)
  rw [this]
theorem mw.reQ {D : va_G} {A : Nat → Prop} {M : Nat → Option va_E} {H : Heap} {b n : Nat} {cA : ClassId} {f f' : Nat → Option Nat} (h : mw D A M H) (hb : M b = some (.inl (cA, n, .inr (.inr (.inr (.inr f)))))) (e : ∀ j, j < n → f j = f' j) : mw D A (va_up M b (some (.inl (cA, n, .inr (.inr (.inr (.inr f'))))))) H := by
  have hat := (h.at hb).1
  obtain ⟨L, fn, hM, hP, hD⟩ := h
  obtain ⟨h1, h2⟩ := mw_mem hM hb
  obtain ⟨q, hq⟩ := mw_get_ix (f := fn) h1
  have hat' : va_at D vwCl (b, .inl (cA, n, .inr (.inr (.inr (.inr f'))))) H := by
    show H[b]? = some (vp_cell cA (n, .inr (.inr (.inr (.inr f')))))
    have : H[b]? = some (vp_cell cA (n, .inr (.inr (.inr (.inr f))))) := hat
    rw [this, vp_cell_q, vp_cell_q, arrV_cong (fun j hj => by rw [e j hj])]
  have hP1 := hP.set hD hq hat' (fun _ _ => rfl)
  have hD1 := hD.set (e := .inl (cA, n, .inr (.inr (.inr (.inr f'))))) hq
  rw [mw_set_ix hD h1 hq] at hP1 hD1
  refine ⟨L, _, fun z => ?_, hP1, hD1⟩
  by_cases hz : z = b
  · subst hz; rw [va_up_self, va_up_self, if_pos h1]
  · rw [va_up_ne _ _ hz, va_up_ne _ _ hz]; exact hM z
def th0 (a1 a2 st rk sn rq qn : Nat) : TH := (a1, a2, st, rk, sn, rq, fun _ => qn, fun _ => 0, fun _ => 0, fun _ => 0, fun _ => 0, fun _ => 0, fun _ => 0, none, fun _ => 0, fun _ => none)
theorem sim0 {cI cJ cC cH : ClassId} {x a1 a2 st rk sn rq qn sc rn nn nc : Nat} {M : Nat → Option va_E} (h1 : M x = some (.inr (2, [.ref a1, .ref a2, .int 0, .int 0, .int 0, .null, .ref st, .ref rk]))) (h2 : M a1 = some (.inl (cH, 10, .inr (.inr (.inr (.inr (fun _ => some qn))))))) (h3 : M a2 = some (.inl (cI, 5, .inl (fun _ => 0)))) (h4 : hOk M cJ cC st 3 80 sn sc 0 (fun _ => 0) (fun _ => none)) (h5 : hOk M cJ cC rk 4 80 rn rq 0 (fun _ => 0) (fun _ => none)) (h6 : hOk M cJ cC qn 0 0 nn nc 0 (fun _ => 0) (fun _ => none)) : Sim cI cJ cC cH x (th0 a1 a2 st rk sn rq qn) rs0 M := by
  have hnR : ∀ k, k < 12 → ¬ liveR rs0 k := fun k hk hl => by
    rcases hl with z | ⟨j, -, z⟩
    · exact absurd z.symm (nI_nm1 k hk)
    · exact absurd (show (0 : Int32) = nI (k + 1) from z).symm (row_n0 hk)
  have hnL : ∀ k, k < 10 → ¬ liveL rs0 k := fun k hk hl => by
    obtain ⟨j, -, z⟩ := hl
    exact absurd (show (0 : Int32) = -1 - nI k from z).symm (lab_n0 hk)
  exact Sim.mk ⟨h1, h2, h3, rfl, fun t _ _ => rfl⟩ ⟨⟨sc, _, h4⟩, ⟨rn, _, h5⟩, fun j hj => Or.inl ⟨rfl, 0, nn, nc, _, _, h6⟩, fun k hk hl => absurd hl (hnL k hk), fun k hk hl => absurd hl (hnR k hk)⟩ ⟨fun a b ha hb la => absurd la (hnR a ha), fun a ha la => absurd la (hnR a ha), fun a b ha hb la => absurd la (hnL a ha)⟩ ⟨0, rfl, by omega, fun c hc => absurd hc (Nat.not_lt_zero c), fun c c' hc => absurd hc (Nat.not_lt_zero c)⟩ (Or.inl ⟨rfl, rfl⟩)
abbrev rmX2_init : Room := ({ frames := 2, cells := 11, slots := 270, locals := 43 } : Room)
set_option maxHeartbeats 4000000 in
set_option maxRecDepth 100000 in
theorem c_X2_init {x : Nat} (hm : M x = some (.inr (2, [.null, .null, .int 0, .int 0, .int 0, .null, .null, .null]))) : Met l yX2_init wsX2_init rmX2_init (va_Pc [.ref x] (mwPre D (tyL cI cJ cC cH) M sz)) (va_Qv (fun M' => ∃ θ : TH, Sim cI cJ cC cH x θ rs0 M') (mwB D (tyL cI cJ cC cH) M sz) (mwA M sz)) 11 270 (mwA M sz) := by
  refine Met.ofW (cc := cX2_init) (maxL := 3) (ret := none) (by decide) rfl ?_
  intro pr env s m args below meth c s₁ B hml hv
  obtain ⟨rfl, hsz, hW, hK, hO⟩ := hv
  subst hsz
  have hW := hW.self (sz := s.heap.size)
  have hS : va_S (mwA M s.heap.size) s.heap s.heap [] := va_S.rf
  have hA : ∀ q, s.heap.size ≤ q → mwA M s.heap.size q := fun q h => Or.inr h
  have hx := B.exec
  have hb := B.bytes
  have hr := B.returns
  have hts := atoms_spec (ws := wsX2_init) B.pre
  have hin : meth.name = "<init>" := (name_of_methodNamed B.named B.method).1
  have hown : s.vm.findClass RX2 = some m.cls := findClass_of_methodNamed B.named
  have hlocks := B.notSynchronized
  have F : CallFix pr m c cX2_init 3 s ([.ref x] : List Value).toArray wsX2_init RX2 := ⟨hx, hb, hml, hown, hts⟩
  have hI_X1 : ∀ w ∈ wsX10, w ∈ wsX2_init := by decide +kernel
  have hI_X2 : ∀ w ∈ wsX20, w ∈ wsX2_init := by decide +kernel
  have hl_methodLink_RX2_1_objectInit := hts (.methodLink RX2 1 objectInit) (by decide +kernel)
  have hl_instanceMethod_objectInit := hts (.instanceMethod objectInit) (by decide +kernel)
  have hl_classLink_RX2_9_RX1 := hts (.classLink RX2 9 RX1) (by decide +kernel)
  have hl_fieldLink_RX2_11_SpliceBench_spindles_LSpliceBench_Holding := hts (.fieldLink RX2 11 "SpliceBench" "spindles" "[LSpliceBench$Holding;") (by decide +kernel)
  have hl_arrayClass_int := hts (.arrayClass .int) (by decide +kernel)
  have hl_fieldLink_RX2_15_SpliceBench_endings_I := hts (.fieldLink RX2 15 "SpliceBench" "endings" "[I") (by decide +kernel)
  have hl_fieldLink_RX2_19_SpliceBench_come_I := hts (.fieldLink RX2 19 "SpliceBench" "come" "I") (by decide +kernel)
  have hl_fieldLink_RX2_23_SpliceBench_made_I := hts (.fieldLink RX2 23 "SpliceBench" "made" "I") (by decide +kernel)
  have hl_fieldLink_RX2_26_SpliceBench_cardsPut_I := hts (.fieldLink RX2 26 "SpliceBench" "cardsPut" "I") (by decide +kernel)
  have hl_fieldLink_RX2_29_SpliceBench_covered_LSpliceBench_Holding := hts (.fieldLink RX2 29 "SpliceBench" "covered" "LSpliceBench$Holding;") (by decide +kernel)
  have hl_instantiable_RX1_5 := hts (.instantiable RX1 5) (by decide +kernel)
  have hl_initialized_RX1 := hts (.initialized RX1) (by decide +kernel)
  have hl_methodLink_RX2_33_yX1_init := hts (.methodLink RX2 33 yX1_init) (by decide +kernel)
  have hl_instanceMethod_yX1_init := hts (.instanceMethod yX1_init) (by decide +kernel)
  have hl_fieldLink_RX2_36_SpliceBench_coveredStrip_LSpliceBench_Holding := hts (.fieldLink RX2 36 "SpliceBench" "coveredStrip" "LSpliceBench$Holding;") (by decide +kernel)
  have hl_fieldLink_RX2_39_SpliceBench_coveredRack_LSpliceBench_Holding := hts (.fieldLink RX2 39 "SpliceBench" "coveredRack" "LSpliceBench$Holding;") (by decide +kernel)
  have hne := kCH hK
  have hl_oc := hts (.code objectInit ⟨#[0xb1]⟩ 1 none) (by decide +kernel)
  have hl := lv_entry ([.ref x]) (n := 3) (Nat.le_of_ble_eq_true rfl)
  rw [lg_entry_eq]
  generalize (lg_sl ([.ref x]) ++ List.replicate (3 - (lg_sl ([.ref x])).length) Slot.unset).toArray = ls at hl ⊢
  have hl : lv_has ls 3 [(0, .ref x)] := hl
  refine lv_aload_n hx hb dX2_init_0 rfl (lv_at hl 0 rfl) ?_
  refine W.objInit hx hb hown hl_methodLink_RX2_1_objectInit hl_instanceMethod_objectInit hl_oc rfl (by rw [hml]; exact hl.1) rfl dX2_init_1 (Nat.le_of_ble_eq_true rfl) (Nat.le_of_ble_eq_true rfl) ?_
  refine W.eq (g2 := F0 m 4 ls []) rfl ?_
  refine lv_aload_n hx hb dX2_init_4 rfl (lv_at hl 0 rfl) ?_
  refine lv_bipush (v := 10) hx hb dX2_init_5 (by decide) ?_
  refine mw_newq (n := 10) (N' := 10) F hK hW hS hA 3 hl_classLink_RX2_9_RX1 hO.2 rfl (by decide) (by decide) (by decide) (by show _ ≤ 11; omega) (by show _ ≤ 270; omega) dX2_init_7 (fun q1 H hq1 hW hS => ?_)
  have hext : ∀ a y, M a = some y → (va_up M q1 (some (.inl (cH, 10, .inr (.inr (.inr (.inr (fun _ => none)))))))) a = some y := ext_new hq1
  have hm := hext _ _ hm
  have a1 : (va_up M q1 (some (.inl (cH, 10, .inr (.inr (.inr (.inr (fun _ => none)))))))) q1 = some (.inl (cH, 10, .inr (.inr (.inr (.inr (fun _ => none)))))) := va_up_self _ _ _
  clear hext
  generalize va_up M q1 (some (.inl (cH, 10, .inr (.inr (.inr (.inr (fun _ => none))))))) = N1 at hW hm a1
  refine mw_putF (C := RX2) (T := TX2) (N := 8) (v := .ref q1) F hK hW hS hI_X2 tyX2 tyX2_ok nmX2 hm rfl 0 (by decide) hl_fieldLink_RX2_11_SpliceBench_spindles_LSpliceBench_Holding rfl hin rfl rfl rfl (Nat.le_of_ble_eq_true rfl) dX2_init_10 (fun H locs hW hS => ?_)
  have hW : mw D (mwA M s.heap.size) (va_up N1 x (some (.inr (2, [.ref q1, .null, .int 0, .int 0, .int 0, .null, .null, .null])))) H := hW
  have a1 : (va_up N1 x (some (.inr (2, [.ref q1, .null, .int 0, .int 0, .int 0, .null, .null, .null])))) q1 = _ := (va_up_ne _ _ (mw_neq a1 hm (fun z => by cases z))).trans a1
  have hm : (va_up N1 x (some (.inr (2, [.ref q1, .null, .int 0, .int 0, .int 0, .null, .null, .null])))) x = some (.inr (2, [.ref q1, .null, .int 0, .int 0, .int 0, .null, .null, .null])) := va_up_self _ _ _
  generalize va_up N1 x (some (.inr (2, [.ref q1, .null, .int 0, .int 0, .int 0, .null, .null, .null]))) = N2 at hW hm a1
  refine lv_aload_n hx hb dX2_init_13 rfl (lv_at hl 0 rfl) ?_
  refine lv_iconst (v := 5) hx hb dX2_init_14 (by decide) ?_
  refine mw_newa (atype := .int) (n := 5) (N' := 5) (ty := .int) (a0 := (5, .inl (fun _ => 0))) F hK hW hS hA 0 hl_arrayClass_int rfl rfl (fun C z => by cases z) (fun cA => rfl) (by decide) (by decide) (by decide) (by show _ ≤ 11; omega) (by show _ ≤ 270; omega) dX2_init_15 (fun q2 H hq2 hW hS => ?_)
  have hext : ∀ a y, N2 a = some y → (va_up N2 q2 (some (.inl (cI, 5, .inl (fun _ => 0))))) a = some y := ext_new hq2
  have hm := hext _ _ hm
  have a1 := hext _ _ a1
  have a2 : (va_up N2 q2 (some (.inl (cI, 5, .inl (fun _ => 0))))) q2 = some (.inl (cI, 5, .inl (fun _ => 0))) := va_up_self _ _ _
  clear hext
  generalize va_up N2 q2 (some (.inl (cI, 5, .inl (fun _ => 0)))) = N3 at hW hm a1 a2
  refine mw_putF (C := RX2) (T := TX2) (N := 8) (v := .ref q2) F hK hW hS hI_X2 tyX2 tyX2_ok nmX2 hm rfl 1 (by decide) hl_fieldLink_RX2_15_SpliceBench_endings_I rfl hin rfl rfl rfl (Nat.le_of_ble_eq_true rfl) dX2_init_17 (fun H locs hW hS => ?_)
  have hW : mw D (mwA M s.heap.size) (va_up N3 x (some (.inr (2, [.ref q1, .ref q2, .int 0, .int 0, .int 0, .null, .null, .null])))) H := hW
  have a1 : (va_up N3 x (some (.inr (2, [.ref q1, .ref q2, .int 0, .int 0, .int 0, .null, .null, .null])))) q1 = _ := (va_up_ne _ _ (mw_neq a1 hm (fun z => by cases z))).trans a1
  have a2 : (va_up N3 x (some (.inr (2, [.ref q1, .ref q2, .int 0, .int 0, .int 0, .null, .null, .null])))) q2 = _ := (va_up_ne _ _ (mw_neq a2 hm (fun z => by cases z))).trans a2
  have hm : (va_up N3 x (some (.inr (2, [.ref q1, .ref q2, .int 0, .int 0, .int 0, .null, .null, .null])))) x = some (.inr (2, [.ref q1, .ref q2, .int 0, .int 0, .int 0, .null, .null, .null])) := va_up_self _ _ _
  generalize va_up N3 x (some (.inr (2, [.ref q1, .ref q2, .int 0, .int 0, .int 0, .null, .null, .null]))) = N4 at hW hm a1 a2
  refine lv_aload_n hx hb dX2_init_20 rfl (lv_at hl 0 rfl) ?_
  refine lv_iconst (v := 0) hx hb dX2_init_21 (by decide) ?_
  refine mw_put (C := RX2) (T := TX2) (N := 8) (v := .int 0) F hK hW hS hI_X2 tyX2 tyX2_ok nmX2 hm rfl 2 (by decide) hl_fieldLink_RX2_19_SpliceBench_come_I rfl rfl rfl (Nat.le_of_ble_eq_true rfl) dX2_init_22 (fun H locs hW hS => ?_)
  have hW : mw D (mwA M s.heap.size) (va_up N4 x (some (.inr (2, [.ref q1, .ref q2, .int 0, .int 0, .int 0, .null, .null, .null])))) H := hW
  have a1 : (va_up N4 x (some (.inr (2, [.ref q1, .ref q2, .int 0, .int 0, .int 0, .null, .null, .null])))) q1 = _ := (va_up_ne _ _ (mw_neq a1 hm (fun z => by cases z))).trans a1
  have a2 : (va_up N4 x (some (.inr (2, [.ref q1, .ref q2, .int 0, .int 0, .int 0, .null, .null, .null])))) q2 = _ := (va_up_ne _ _ (mw_neq a2 hm (fun z => by cases z))).trans a2
  have hm : (va_up N4 x (some (.inr (2, [.ref q1, .ref q2, .int 0, .int 0, .int 0, .null, .null, .null])))) x = some (.inr (2, [.ref q1, .ref q2, .int 0, .int 0, .int 0, .null, .null, .null])) := va_up_self _ _ _
  generalize va_up N4 x (some (.inr (2, [.ref q1, .ref q2, .int 0, .int 0, .int 0, .null, .null, .null]))) = N5 at hW hm a1 a2
  refine lv_aload_n hx hb dX2_init_25 rfl (lv_at hl 0 rfl) ?_
  refine lv_iconst (v := 0) hx hb dX2_init_26 (by decide) ?_
  refine mw_put (C := RX2) (T := TX2) (N := 8) (v := .int 0) F hK hW hS hI_X2 tyX2 tyX2_ok nmX2 hm rfl 3 (by decide) hl_fieldLink_RX2_23_SpliceBench_made_I rfl rfl rfl (Nat.le_of_ble_eq_true rfl) dX2_init_27 (fun H locs hW hS => ?_)
  have hW : mw D (mwA M s.heap.size) (va_up N5 x (some (.inr (2, [.ref q1, .ref q2, .int 0, .int 0, .int 0, .null, .null, .null])))) H := hW
  have a1 : (va_up N5 x (some (.inr (2, [.ref q1, .ref q2, .int 0, .int 0, .int 0, .null, .null, .null])))) q1 = _ := (va_up_ne _ _ (mw_neq a1 hm (fun z => by cases z))).trans a1
  have a2 : (va_up N5 x (some (.inr (2, [.ref q1, .ref q2, .int 0, .int 0, .int 0, .null, .null, .null])))) q2 = _ := (va_up_ne _ _ (mw_neq a2 hm (fun z => by cases z))).trans a2
  have hm : (va_up N5 x (some (.inr (2, [.ref q1, .ref q2, .int 0, .int 0, .int 0, .null, .null, .null])))) x = some (.inr (2, [.ref q1, .ref q2, .int 0, .int 0, .int 0, .null, .null, .null])) := va_up_self _ _ _
  generalize va_up N5 x (some (.inr (2, [.ref q1, .ref q2, .int 0, .int 0, .int 0, .null, .null, .null]))) = N6 at hW hm a1 a2
  refine lv_aload_n hx hb dX2_init_30 rfl (lv_at hl 0 rfl) ?_
  refine lv_iconst (v := 0) hx hb dX2_init_31 (by decide) ?_
  refine mw_put (C := RX2) (T := TX2) (N := 8) (v := .int 0) F hK hW hS hI_X2 tyX2 tyX2_ok nmX2 hm rfl 4 (by decide) hl_fieldLink_RX2_26_SpliceBench_cardsPut_I rfl rfl rfl (Nat.le_of_ble_eq_true rfl) dX2_init_32 (fun H locs hW hS => ?_)
  have hW : mw D (mwA M s.heap.size) (va_up N6 x (some (.inr (2, [.ref q1, .ref q2, .int 0, .int 0, .int 0, .null, .null, .null])))) H := hW
  have a1 : (va_up N6 x (some (.inr (2, [.ref q1, .ref q2, .int 0, .int 0, .int 0, .null, .null, .null])))) q1 = _ := (va_up_ne _ _ (mw_neq a1 hm (fun z => by cases z))).trans a1
  have a2 : (va_up N6 x (some (.inr (2, [.ref q1, .ref q2, .int 0, .int 0, .int 0, .null, .null, .null])))) q2 = _ := (va_up_ne _ _ (mw_neq a2 hm (fun z => by cases z))).trans a2
  have hm : (va_up N6 x (some (.inr (2, [.ref q1, .ref q2, .int 0, .int 0, .int 0, .null, .null, .null])))) x = some (.inr (2, [.ref q1, .ref q2, .int 0, .int 0, .int 0, .null, .null, .null])) := va_up_self _ _ _
  generalize va_up N6 x (some (.inr (2, [.ref q1, .ref q2, .int 0, .int 0, .int 0, .null, .null, .null]))) = N7 at hW hm a1 a2
  refine lv_aload_n hx hb dX2_init_35 rfl (lv_at hl 0 rfl) ?_
  refine lv_null hx hb dX2_init_36 ?_
  refine mw_put (C := RX2) (T := TX2) (N := 8) (v := .null) F hK hW hS hI_X2 tyX2 tyX2_ok nmX2 hm rfl 5 (by decide) hl_fieldLink_RX2_29_SpliceBench_covered_LSpliceBench_Holding rfl rfl rfl (Nat.le_of_ble_eq_true rfl) dX2_init_37 (fun H locs hW hS => ?_)
  have hW : mw D (mwA M s.heap.size) (va_up N7 x (some (.inr (2, [.ref q1, .ref q2, .int 0, .int 0, .int 0, .null, .null, .null])))) H := hW
  have a1 : (va_up N7 x (some (.inr (2, [.ref q1, .ref q2, .int 0, .int 0, .int 0, .null, .null, .null])))) q1 = _ := (va_up_ne _ _ (mw_neq a1 hm (fun z => by cases z))).trans a1
  have a2 : (va_up N7 x (some (.inr (2, [.ref q1, .ref q2, .int 0, .int 0, .int 0, .null, .null, .null])))) q2 = _ := (va_up_ne _ _ (mw_neq a2 hm (fun z => by cases z))).trans a2
  have hm : (va_up N7 x (some (.inr (2, [.ref q1, .ref q2, .int 0, .int 0, .int 0, .null, .null, .null])))) x = some (.inr (2, [.ref q1, .ref q2, .int 0, .int 0, .int 0, .null, .null, .null])) := va_up_self _ _ _
  generalize va_up N7 x (some (.inr (2, [.ref q1, .ref q2, .int 0, .int 0, .int 0, .null, .null, .null]))) = N8 at hW hm a1 a2
  refine lv_aload_n hx hb dX2_init_40 rfl (lv_at hl 0 rfl) ?_
  refine mw_new (C := RX1) (T := TX1) (N := 5) (ci := 1) (fs := [.int 0, .int 0, .null, .null, .int 0]) F hK hW hS hA hI_X1 tyX1 tyX1_ok hl_classLink_RX2_9_RX1 hl_instantiable_RX1_5 hl_initialized_RX1 rfl (fun q hq => by rcases (show q = 0 ∨ q = 1 ∨ q = 2 ∨ q = 3 ∨ q = 4 by omega) with rfl | rfl | rfl | rfl | rfl <;> rfl) (by show _ ≤ 11; omega) (by show _ ≤ 270; omega) dX2_init_41 (fun qs H hqs hW hS => ?_)
  refine lv_dup hx hb dX2_init_44 rfl ?_
  refine lv_iconst (v := 3) hx hb dX2_init_45 (by decide) ?_
  refine lv_bipush (v := 80) hx hb dX2_init_46 (by decide) ?_
  refine lv_iconst (v := 0) hx hb dX2_init_48 (by decide) ?_
  refine mw_callv (va_runI (As := [.int 3, .int 80, .int 0]) (rest := [.ref qs, .ref x]) F (c_X1_init (k := 3) (pn := 80) (lb := 0) (by omega) (va_up_self _ _ _)) (cwI 3 hts gX2_init_X1_init rfl rfl rfl hl_initialized_RX1 hl_methodLink_RX2_33_yX1_init hl_instanceMethod_yX1_init rfl (by decide +kernel) ⟨Nat.le_of_ble_eq_true rfl, Nat.le_of_ble_eq_true rfl⟩) (mw_prS hK hO hW) rfl rfl hl.1 rfl (lv_room (Nat.le_of_ble_eq_true rfl)) dX2_init_49 ⟨by show _ ≤ 11; omega, by show _ ≤ 270; omega⟩) hW hS hA (fun N9 H locs h9 hW hS => ?_)
  obtain ⟨nas, cas, hHs, hna, hca, hnc, hfr⟩ := h9
  have hext := ext_init hqs hna hca hfr
  have hm := hext _ _ hm
  have a1 := hext _ _ a1
  have a2 := hext _ _ a2
  clear hext hna hca hfr
  refine mw_putF (C := RX2) (T := TX2) (N := 8) (v := .ref qs) F hK hW hS hI_X2 tyX2 tyX2_ok nmX2 hm rfl 6 (by decide) hl_fieldLink_RX2_36_SpliceBench_coveredStrip_LSpliceBench_Holding rfl hin rfl rfl rfl (Nat.le_of_ble_eq_true rfl) dX2_init_52 (fun H locs hW hS => ?_)
  have hW : mw D (mwA M s.heap.size) (va_up N9 x (some (.inr (2, [.ref q1, .ref q2, .int 0, .int 0, .int 0, .null, .ref qs, .null])))) H := hW
  have a1 : (va_up N9 x (some (.inr (2, [.ref q1, .ref q2, .int 0, .int 0, .int 0, .null, .ref qs, .null])))) q1 = _ := (va_up_ne _ _ (mw_neq a1 hm (fun z => by cases z))).trans a1
  have a2 : (va_up N9 x (some (.inr (2, [.ref q1, .ref q2, .int 0, .int 0, .int 0, .null, .ref qs, .null])))) q2 = _ := (va_up_ne _ _ (mw_neq a2 hm (fun z => by cases z))).trans a2
  have hHs := hHs.oth (b := x) (e := some (.inr (2, [.ref q1, .ref q2, .int 0, .int 0, .int 0, .null, .ref qs, .null]))) (by rw [hm]; exact oth_obj (by decide))
  have hm : (va_up N9 x (some (.inr (2, [.ref q1, .ref q2, .int 0, .int 0, .int 0, .null, .ref qs, .null])))) x = some (.inr (2, [.ref q1, .ref q2, .int 0, .int 0, .int 0, .null, .ref qs, .null])) := va_up_self _ _ _
  generalize va_up N9 x (some (.inr (2, [.ref q1, .ref q2, .int 0, .int 0, .int 0, .null, .ref qs, .null]))) = N10 at hW hm a1 a2 hHs
  refine lv_aload_n hx hb dX2_init_55 rfl (lv_at hl 0 rfl) ?_
  refine mw_new (C := RX1) (T := TX1) (N := 5) (ci := 1) (fs := [.int 0, .int 0, .null, .null, .int 0]) F hK hW hS hA hI_X1 tyX1 tyX1_ok hl_classLink_RX2_9_RX1 hl_instantiable_RX1_5 hl_initialized_RX1 rfl (fun q hq => by rcases (show q = 0 ∨ q = 1 ∨ q = 2 ∨ q = 3 ∨ q = 4 by omega) with rfl | rfl | rfl | rfl | rfl <;> rfl) (by show _ ≤ 11; omega) (by show _ ≤ 270; omega) dX2_init_56 (fun qr H hqr hW hS => ?_)
  refine lv_dup hx hb dX2_init_59 rfl ?_
  refine lv_iconst (v := 4) hx hb dX2_init_60 (by decide) ?_
  refine lv_bipush (v := 80) hx hb dX2_init_61 (by decide) ?_
  refine lv_iconst (v := 0) hx hb dX2_init_63 (by decide) ?_
  refine mw_callv (va_runI (As := [.int 4, .int 80, .int 0]) (rest := [.ref qr, .ref x]) F (c_X1_init (k := 4) (pn := 80) (lb := 0) (by omega) (va_up_self _ _ _)) (cwI 3 hts gX2_init_X1_init rfl rfl rfl hl_initialized_RX1 hl_methodLink_RX2_33_yX1_init hl_instanceMethod_yX1_init rfl (by decide +kernel) ⟨Nat.le_of_ble_eq_true rfl, Nat.le_of_ble_eq_true rfl⟩) (mw_prS hK hO hW) rfl rfl hl.1 rfl (lv_room (Nat.le_of_ble_eq_true rfl)) dX2_init_64 ⟨by show _ ≤ 11; omega, by show _ ≤ 270; omega⟩) hW hS hA (fun N11 H locs h9 hW hS => ?_)
  obtain ⟨nar, car, hHr, hna, hca, hnc, hfr⟩ := h9
  have hext := ext_init hqr hna hca hfr
  have hm := hext _ _ hm
  have a1 := hext _ _ a1
  have a2 := hext _ _ a2
  have hHs := hHs.ext hext
  clear hext hna hca hfr
  refine mw_putF (C := RX2) (T := TX2) (N := 8) (v := .ref qr) F hK hW hS hI_X2 tyX2 tyX2_ok nmX2 hm rfl 7 (by decide) hl_fieldLink_RX2_39_SpliceBench_coveredRack_LSpliceBench_Holding rfl hin rfl rfl rfl (Nat.le_of_ble_eq_true rfl) dX2_init_67 (fun H locs hW hS => ?_)
  have hW : mw D (mwA M s.heap.size) (va_up N11 x (some (.inr (2, [.ref q1, .ref q2, .int 0, .int 0, .int 0, .null, .ref qs, .ref qr])))) H := hW
  have a1 : (va_up N11 x (some (.inr (2, [.ref q1, .ref q2, .int 0, .int 0, .int 0, .null, .ref qs, .ref qr])))) q1 = _ := (va_up_ne _ _ (mw_neq a1 hm (fun z => by cases z))).trans a1
  have a2 : (va_up N11 x (some (.inr (2, [.ref q1, .ref q2, .int 0, .int 0, .int 0, .null, .ref qs, .ref qr])))) q2 = _ := (va_up_ne _ _ (mw_neq a2 hm (fun z => by cases z))).trans a2
  have hHs := hHs.oth (b := x) (e := some (.inr (2, [.ref q1, .ref q2, .int 0, .int 0, .int 0, .null, .ref qs, .ref qr]))) (by rw [hm]; exact oth_obj (by decide))
  have hHr := hHr.oth (b := x) (e := some (.inr (2, [.ref q1, .ref q2, .int 0, .int 0, .int 0, .null, .ref qs, .ref qr]))) (by rw [hm]; exact oth_obj (by decide))
  have hm : (va_up N11 x (some (.inr (2, [.ref q1, .ref q2, .int 0, .int 0, .int 0, .null, .ref qs, .ref qr])))) x = some (.inr (2, [.ref q1, .ref q2, .int 0, .int 0, .int 0, .null, .ref qs, .ref qr])) := va_up_self _ _ _
  generalize va_up N11 x (some (.inr (2, [.ref q1, .ref q2, .int 0, .int 0, .int 0, .null, .ref qs, .ref qr]))) = N12 at hW hm a1 a2 hHs hHr
  refine mw_new (C := RX1) (T := TX1) (N := 5) (ci := 1) (fs := [.int 0, .int 0, .null, .null, .int 0]) F hK hW hS hA hI_X1 tyX1 tyX1_ok hl_classLink_RX2_9_RX1 hl_instantiable_RX1_5 hl_initialized_RX1 rfl (fun q hq => by rcases (show q = 0 ∨ q = 1 ∨ q = 2 ∨ q = 3 ∨ q = 4 by omega) with rfl | rfl | rfl | rfl | rfl <;> rfl) (by show _ ≤ 11; omega) (by show _ ≤ 270; omega) dX2_init_70 (fun qn H hqn hW hS => ?_)
  refine lv_dup hx hb dX2_init_73 rfl ?_
  refine lv_iconst (v := 0) hx hb dX2_init_74 (by decide) ?_
  refine lv_iconst (v := 0) hx hb dX2_init_75 (by decide) ?_
  refine lv_iconst (v := 0) hx hb dX2_init_76 (by decide) ?_
  refine mw_callv (va_runI (As := [.int 0, .int 0, .int 0]) (rest := [.ref qn]) F (c_X1_init (k := 0) (pn := 0) (lb := 0) (by omega) (va_up_self _ _ _)) (cwI 3 hts gX2_init_X1_init rfl rfl rfl hl_initialized_RX1 hl_methodLink_RX2_33_yX1_init hl_instanceMethod_yX1_init rfl (by decide +kernel) ⟨Nat.le_of_ble_eq_true rfl, Nat.le_of_ble_eq_true rfl⟩) (mw_prS hK hO hW) rfl rfl hl.1 rfl (lv_room (Nat.le_of_ble_eq_true rfl)) dX2_init_77 ⟨by show _ ≤ 11; omega, by show _ ≤ 270; omega⟩) hW hS hA (fun N13 H locs h9 hW hS => ?_)
  obtain ⟨nan, can, hHn, hna, hca, hnc, hfr⟩ := h9
  have hext := ext_init hqn hna hca hfr
  have hm := hext _ _ hm
  have a1 := hext _ _ a1
  have a2 := hext _ _ a2
  have hHs := hHs.ext hext
  have hHr := hHr.ext hext
  clear hext hna hca hfr
  refine lv_astore_n (lv' := [(1, .ref qn), (0, .ref x)]) hx hb dX2_init_80 rfl hl (by decide) rfl (fun ls hl => ?_)
  refine W.widen (k := 11) (n := 270) (by omega) (by omega) ?_
  refine lv_iconst (v := 0) hx hb dX2_init_81 (by decide) ?_
  refine lv_istore_n (lv' := [(2, .int 0), (1, .ref qn), (0, .ref x)]) hx hb dX2_init_82 rfl hl (by decide) rfl (fun ls hl => ?_)
  have a1 : N13 q1 = some (.inl (cH, 10, .inr (.inr (.inr (.inr (fun j => if j < 0 then some qn else none)))))) := by
    have e0 : (fun _ => none : Nat → Option Nat) = (fun j => if j < 0 then some qn else none) := funext (fun j => by rw [if_neg (Nat.not_lt_zero j)])
    rw [← e0]; exact a1
  have loop : ∀ (N : Nat) (i : Nat) (M1 : Nat → Option va_E) (H : Heap) (locs : List Loc), 11 ≤ i + N → i ≤ 10 → mw D (mwA M s.heap.size) M1 H → va_S (mwA M s.heap.size) s.heap H locs → M1 x = some (.inr (2, [.ref q1, .ref q2, .int 0, .int 0, .int 0, .null, .ref qs, .ref qr])) → M1 q1 = some (.inl (cH, 10, .inr (.inr (.inr (.inr (fun j => if j < i then some qn else none)))))) → M1 q2 = some (.inl (cI, 5, .inl (fun _ => 0))) → hOk M1 cJ cC qs 3 80 nas cas 0 (fun _ => 0) (fun _ => none) → hOk M1 cJ cC qr 4 80 nar car 0 (fun _ => 0) (fun _ => none) → hOk M1 cJ cC qn 0 0 nan can 0 (fun _ => 0) (fun _ => none) → ∀ (ls : Array Slot), lv_has ls 3 [(2, .int (nI i)), (1, .ref qn), (0, .ref x)] → W pr l env (headSpec wsX2_init rmX2_init).room s m ([.ref x] : List Value).toArray below meth c H locs 11 270 (MQ below (va_Qv (fun M' => ∃ θ : TH, Sim cI cJ cC cH x θ rs0 M') (mwB D (tyL cI cJ cC cH) M s.heap.size) (mwA M s.heap.size)) ([.ref x] : List Value).toArray s 11 270 (mwA M s.heap.size)) (F0 m 83 ls []) := by
    intro N
    induction N with
    | zero =>
      exact fun i M1 H locs h1 h2 => absurd h1 (by omega)
    | succ N ih =>
      intro i M1 H locs hN hi hW hS hm a1 a2 hHs hHr hHn ls hl
      refine lv_iload_n hx hb dX2_init_83 rfl (lv_at hl 0 rfl) ?_
      refine lv_bipush (v := 10) hx hb dX2_init_84 (by decide) ?_
      refine lv_icmp_ge (tgt := 102) hx hb dX2_init_86 (by decide) (fun c_86 => ?_) (fun c_86 => ?_)
      · have e10 : i = 10 := by have := (nI_leI (a := 10) (b := i) (by omega) (by omega)).mp c_86; omega
        have hW := hW.reQ (f' := fun _ => some qn) a1 (fun j hj => by rw [if_pos (by omega)])
        have ho : oth cJ cC (M1 q1) := by rw [a1]; exact oth_hold hne
        have b1 : (va_up M1 q1 (some (.inl (cH, 10, .inr (.inr (.inr (.inr (fun _ => some qn)))))))) x = _ := (va_up_ne _ _ (mw_neq hm a1 (fun z => by cases z))).trans hm
        have b2 : (va_up M1 q1 (some (.inl (cH, 10, .inr (.inr (.inr (.inr (fun _ => some qn)))))))) q2 = _ := (va_up_ne _ _ (mw_neq a2 a1 (fun z => by simp at z))).trans a2
        have hZ0 := sim0 (M := va_up M1 q1 (some (.inl (cH, 10, .inr (.inr (.inr (.inr (fun _ => some qn)))))))) b1 (va_up_self _ _ _) b2 (hHs.oth ho) (hHr.oth ho) (hHn.oth ho)
        refine W.widen (k := 11) (n := 270) (by omega) (by omega) ?_
        exact W.vret hx hb hr (fun t ht hw => ⟨⟨_, rfl, ⟨_, hZ0⟩, by rw [ht]; exact hW, va_K.moved hw.alike hK⟩, hS.F ht⟩) hS.2.2 dX2_init_102
      · have hin9 : i < 10 := by
          rcases Nat.lt_or_ge i 10 with h9 | h9
          · exact h9
          · exact absurd (nI_le h9 (by omega)) c_86
        refine lv_aload_n hx hb dX2_init_89 rfl (lv_at hl 2 rfl) ?_
        refine mw_get (C := RX2) (T := TX2) (N := 8) F hK hW hI_X2 hm rfl 0 (by decide) hl_fieldLink_RX2_11_SpliceBench_spindles_LSpliceBench_Holding rfl dX2_init_90 ?_
        refine lv_iload_n hx hb dX2_init_93 rfl (lv_at hl 0 rfl) ?_
        refine lv_aload_n hx hb dX2_init_94 rfl (lv_at hl 1 rfl) ?_
        refine mw_aast (r := (RX1, TX1, 5)) F hK hW hS 3 1 a1 rfl hHn.1 rfl (vp_in_nI hin9 (by omega)) dX2_init_95 (fun H locs hW hS => ?_)
        rw [nI_clamp (show i < 2 ^ 31 by omega)] at hW
        have ho : oth cJ cC (M1 q1) := by rw [a1]; exact oth_hold hne
        have eN : va_up (fun j => if j < i then some qn else none) i (some qn) = (fun j => if j < (i + 1) then some qn else none) := funext (fun z => by
          unfold va_up
          by_cases h1 : z = i
          · rw [if_pos h1, if_pos (by omega)]
          · rw [if_neg h1]
            dsimp only
            by_cases h2 : z < i
            · rw [if_pos h2, if_pos (by omega)]
            · rw [if_neg h2, if_neg (by omega)])
        rw [eN] at hW
        have hm : (va_up M1 q1 (some (.inl (cH, 10, .inr (.inr (.inr (.inr (fun j => if j < (i + 1) then some qn else none)))))))) x = _ := (va_up_ne _ _ (mw_neq hm a1 (fun z => by cases z))).trans hm
        have a2 : (va_up M1 q1 (some (.inl (cH, 10, .inr (.inr (.inr (.inr (fun j => if j < (i + 1) then some qn else none)))))))) q2 = _ := (va_up_ne _ _ (mw_neq a2 a1 (fun z => by simp at z))).trans a2
        have hHs := hHs.oth (e := some (.inl (cH, 10, .inr (.inr (.inr (.inr (fun j => if j < (i + 1) then some qn else none))))))) ho
        have hHr := hHr.oth (e := some (.inl (cH, 10, .inr (.inr (.inr (.inr (fun j => if j < (i + 1) then some qn else none))))))) ho
        have hHn := hHn.oth (e := some (.inl (cH, 10, .inr (.inr (.inr (.inr (fun j => if j < (i + 1) then some qn else none))))))) ho
        have a1 : (va_up M1 q1 (some (.inl (cH, 10, .inr (.inr (.inr (.inr (fun j => if j < (i + 1) then some qn else none)))))))) q1 = _ := va_up_self _ _ _
        refine lv_iinc (v := nI (i + 1)) (lv' := [(2, .int (nI (i + 1))), (1, .ref qn), (0, .ref x)]) hx hb dX2_init_96 hl (k := 0) rfl (nI_1 i) (by decide) rfl (fun ls hl => ?_)
        refine lv_goto (tgt := 83) hx hb dX2_init_99 (by decide) ?_
        exact ih (i + 1) _ H locs (by omega) (by omega) hW hS hm a1 a2 hHs hHr hHn ls (lv_sub hl [0, 1, 2] rfl)
  exact loop 11 0 _ _ _ (by omega) (Nat.zero_le _) hW hS hm a1 a2 hHs hHr hHn ls (lv_sub hl [0, 1, 2] rfl)
end X2I
