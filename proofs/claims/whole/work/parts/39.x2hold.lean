section X2H
variable {l : Launch} {D : va_G} {cI cJ cC cH : ClassId} {M : Nat → Option va_E} {sz : Nat}
theorem kd_of {k : Int32} (h1 : ¬ k < 0) (h2 : ¬ 5 < k) (h3 : ¬ k = 0) (h4 : ¬ k = 1) : (kStrip k = true ∨ kRack k = true) ∧ 2 ≤ k := by
  obtain ⟨t, ht, rfl⟩ := nI_of2 (M := 5) (n := 5) rfl h1 (Int32.not_lt.mp h2)
  have : t = 0 ∨ t = 1 ∨ t = 2 ∨ t = 3 ∨ t = 4 ∨ t = 5 := by omega
  rcases this with rfl | rfl | rfl | rfl | rfl | rfl
  · exact absurd rfl h3
  · exact absurd rfl h4
  · decide
  · decide
  · decide
  · decide
theorem ext_init {M M2 : Nat → Option va_E} {q na ca : Nat} {e : va_E} (hq : M q = none) (hna : va_up M q (some e) na = none) (hca : va_up M q (some e) ca = none) (hf : ∀ a, a ≠ q → a ≠ na → a ≠ ca → M2 a = va_up M q (some e) a) : ∀ a y, M a = some y → M2 a = some y := by
  intro a y ha
  have h1 : a ≠ q := mw_nnew ha hq
  have h2 : va_up M q (some e) a = some y := by rw [va_up_ne _ _ h1]; exact ha
  rw [hf a h1 (mw_nnew h2 hna) (mw_nnew h2 hca)]; exact h2
theorem na_new {M : Nat → Option va_E} {q na : Nat} {e : va_E} (hna : va_up M q (some e) na = none) : M na = none := by
  by_cases h : na = q
  · rw [h, va_up_self] at hna; cases hna
  · rw [va_up_ne _ _ h] at hna; exact hna
abbrev rmX2_hold : Room := ({ frames := 2, cells := 3, slots := 85, locals := 43 } : Room)
set_option maxHeartbeats 4000000 in
set_option maxRecDepth 100000 in
theorem c_X2_hold {x : Nat} {θ : TH} {σ : RS} {cc : Nat} (hZ : Sim cI cJ cC cH x θ σ M) (hI : Inv σ cc) {s0 k0 n0 : Int32} (hcc : cc < 512) : Met l yX2_hold wsX2_hold rmX2_hold (va_Pc [.ref x, .int s0, .int k0, .int n0] (mwPre D (tyL cI cJ cC cH) M sz)) (va_Qi (fun r M' => r = (rfHold σ s0 k0 n0).1 ∧ ∃ θ', Sim cI cJ cC cH x θ' (rfHold σ s0 k0 n0).2 M') (mwB D (tyL cI cJ cC cH) M sz) (mwA M sz)) 3 85 (mwA M sz) := by
  refine Met.ofW (cc := cX2_hold) (maxL := 4) (ret := (some .int)) (by decide) rfl ?_
  intro pr env s m args below meth c s₁ B hml hv
  obtain ⟨rfl, hsz, hW, hK, hO⟩ := hv
  subst hsz
  have hW := hW.self (sz := s.heap.size)
  have hS : va_S (mwA M s.heap.size) s.heap s.heap [] := va_S.rf
  have hA : ∀ q, s.heap.size ≤ q → mwA M s.heap.size q := fun q h => Or.inr h
  have hx := B.exec
  have hb := B.bytes
  have hr := B.returns
  have hts := atoms_spec (ws := wsX2_hold) B.pre
  have hown : s.vm.findClass RX2 = some m.cls := findClass_of_methodNamed B.named
  have hlocks := B.notSynchronized
  have F : CallFix pr m c cX2_hold 4 s ([.ref x, .int s0, .int k0, .int n0] : List Value).toArray wsX2_hold RX2 := ⟨hx, hb, hml, hown, hts⟩
  have hI_X1 : ∀ w ∈ wsX10, w ∈ wsX2_hold := by decide +kernel
  have hI_X2 : ∀ w ∈ wsX20, w ∈ wsX2_hold := by decide +kernel
  have hl_fieldLink_RX2_23_SpliceBench_made_I := hts (.fieldLink RX2 23 "SpliceBench" "made" "I") (by decide +kernel)
  have hl_fieldLink_RX2_11_SpliceBench_spindles_LSpliceBench_Holding := hts (.fieldLink RX2 11 "SpliceBench" "spindles" "[LSpliceBench$Holding;") (by decide +kernel)
  have hl_classLink_RX2_9_RX1 := hts (.classLink RX2 9 RX1) (by decide +kernel)
  have hl_instantiable_RX1_5 := hts (.instantiable RX1 5) (by decide +kernel)
  have hl_initialized_RX1 := hts (.initialized RX1) (by decide +kernel)
  have hl_methodLink_RX2_33_yX1_init := hts (.methodLink RX2 33 yX1_init) (by decide +kernel)
  have hl_instanceMethod_yX1_init := hts (.instanceMethod yX1_init) (by decide +kernel)
  have hne := kCH hK
  obtain ⟨ra9, hra9, era⟩ := hI.2.2.2.2.2.1
  have hl := lv_entry ([.ref x, .int s0, .int k0, .int n0]) (n := 4) (Nat.le_of_ble_eq_true rfl)
  rw [lg_entry_eq]
  generalize (lg_sl ([.ref x, .int s0, .int k0, .int n0]) ++ List.replicate (4 - (lg_sl ([.ref x, .int s0, .int k0, .int n0])).length) Slot.unset).toArray = ls at hl ⊢
  have hl : lv_has ls 4 [(0, .ref x), (1, .int s0), (2, .int k0), (3, .int n0)] := hl
  refine lv_iload_n hx hb dX2_hold_0 rfl (lv_at hl 1 rfl) ?_
  refine vp_callSi (W.runS (As := [.int s0]) (rest := []) F (c_X2_isSpindle) (cwS 1 hts gX2_hold_X2_isSpindle rfl rfl rfl (by decide +kernel) ⟨Nat.le_of_ble_eq_true rfl, Nat.le_of_ble_eq_true rfl⟩) (mw_prS hK hO hW) rfl rfl hl.1 rfl (lv_room (Nat.le_of_ble_eq_true rfl)) dX2_hold_1 ⟨by show _ ≤ 3; omega, by show _ ≤ 85; omega⟩) (fun r_1 er_1 => ?_)
  subst er_1
  refine lv_if_ne (tgt := 10) hx hb dX2_hold_4 (by decide) (fun c_4 => ?_) (fun c_4 => ?_)
  · obtain ⟨j, hj, rfl⟩ := isSp_of (bI_n c_4)
    have esp_j := isSp_nI hj
    have eix_j : ix (nI j) = j := nI_clamp (by omega)
    refine lv_iload_n hx hb dX2_hold_10 rfl (lv_at hl 2 rfl) ?_
    refine lv_if_lt (tgt := 29) hx hb dX2_hold_11 (by decide) (fun c_11 => ?_) (fun c_11 => ?_)
    · refine lv_iconst (v := 0) hx hb dX2_hold_29 (by decide) ?_
      refine W.widen (k := 3) (n := 85) (by omega) (by omega) ?_
      exact W.iret hx hb hr (fun t ht hw => ⟨⟨_, _, rfl, (by
        have e8 : rfHold σ (nI j) k0 n0 = (0, σ) := by
          unfold rfHold
          rw [if_pos esp_j, if_pos (Or.inl c_11)]
        rw [e8]; exact ⟨rfl, θ, hZ⟩), by rw [ht]; exact hW, va_K.moved hw.alike hK⟩, hS.F ht⟩) hS.2.2 dX2_hold_30
    · refine lv_iload_n hx hb dX2_hold_14 rfl (lv_at hl 2 rfl) ?_
      refine lv_iconst (v := 5) hx hb dX2_hold_15 (by decide) ?_
      refine lv_icmp_gt (tgt := 29) hx hb dX2_hold_16 (by decide) (fun c_16 => ?_) (fun c_16 => ?_)
      · refine lv_iconst (v := 0) hx hb dX2_hold_29 (by decide) ?_
        refine W.widen (k := 3) (n := 85) (by omega) (by omega) ?_
        exact W.iret hx hb hr (fun t ht hw => ⟨⟨_, _, rfl, (by
          have e8 : rfHold σ (nI j) k0 n0 = (0, σ) := by
            unfold rfHold
            rw [if_pos esp_j, if_pos (Or.inr c_16)]
          rw [e8]; exact ⟨rfl, θ, hZ⟩), by rw [ht]; exact hW, va_K.moved hw.alike hK⟩, hS.F ht⟩) hS.2.2 dX2_hold_30
      · refine lv_aload_n hx hb dX2_hold_19 rfl (lv_at hl 0 rfl) ?_
        refine mw_get (C := RX2) (T := TX2) (N := 8) F hK hW hI_X2 hZ.b.1 rfl 3 (by decide) hl_fieldLink_RX2_23_SpliceBench_made_I rfl dX2_hold_20 ?_
        refine lv_sipush (v := 600) hx hb dX2_hold_23 (by decide) ?_
        refine lv_icmp_lt (tgt := 31) hx hb dX2_hold_26 (by decide) (fun c_26 => ?_) (fun c_26 => ?_)
        · refine lv_iload_n hx hb dX2_hold_31 rfl (lv_at hl 2 rfl) ?_
          refine lv_if_eq (tgt := 40) hx hb dX2_hold_32 (by decide) (fun c_32 => ?_) (fun c_32 => ?_)
          · subst c_32
            refine lv_aload_n hx hb dX2_hold_40 rfl (lv_at hl 0 rfl) ?_
            refine mw_get (C := RX2) (T := TX2) (N := 8) F hK hW hI_X2 hZ.b.1 rfl 0 (by decide) hl_fieldLink_RX2_11_SpliceBench_spindles_LSpliceBench_Holding rfl dX2_hold_41 ?_
            refine lv_iload_n hx hb dX2_hold_44 rfl (lv_at hl 1 rfl) ?_
            refine mw_new (C := RX1) (T := TX1) (N := 5) (ci := 1) (fs := [.int 0, .int 0, .null, .null, .int 0]) F hK hW hS hA hI_X1 tyX1 tyX1_ok hl_classLink_RX2_9_RX1 hl_instantiable_RX1_5 hl_initialized_RX1 rfl (fun q hq => by rcases (show q = 0 ∨ q = 1 ∨ q = 2 ∨ q = 3 ∨ q = 4 by omega) with rfl | rfl | rfl | rfl | rfl <;> rfl) (by show _ ≤ 3; omega) (by show _ ≤ 85; omega) dX2_hold_45 (fun qh H hqh hW hS => ?_)
            refine lv_dup hx hb dX2_hold_48 rfl ?_
            refine lv_iload_n hx hb dX2_hold_49 rfl (lv_at hl 2 rfl) ?_
            refine lv_iconst (v := 0) hx hb dX2_hold_50 (by decide) ?_
            refine lv_iload_n hx hb dX2_hold_51 rfl (lv_at hl 3 rfl) ?_
            refine mw_callv (va_runI (As := [.int 0, .int 0, .int n0]) (rest := [.ref qh, .int (nI j), .ref (tA1 θ)]) F (c_X1_init (k := 0) (pn := 0) (lb := n0) (by omega) (va_up_self _ _ _)) (cwI 3 hts gX2_hold_X1_init rfl rfl rfl hl_initialized_RX1 hl_methodLink_RX2_33_yX1_init hl_instanceMethod_yX1_init rfl (by decide +kernel) ⟨Nat.le_of_ble_eq_true rfl, Nat.le_of_ble_eq_true rfl⟩) (mw_prS hK hO hW) rfl rfl hl.1 rfl (lv_room (Nat.le_of_ble_eq_true rfl)) dX2_hold_52 ⟨by show _ ≤ 3; omega, by show _ ≤ 85; omega⟩) hW hS hA (fun M1 H locs h9 hW hS => ?_)
            obtain ⟨na, ca, hHn, hna, hca, hnc, hfr⟩ := h9
            have hext := ext_init hqh hna hca hfr
            have hZ1 := hZ.ext hext
            have hMna := na_new hna
            have hMca := na_new hca
            refine mw_aast (r := (RX1, TX1, 5)) F hK hW hS 3 1 hZ1.b.2.1 rfl hHn.1 rfl (vp_in_nI (show j < 10 by omega) (by omega)) dX2_hold_55 (fun H locs hW hS => ?_)
            rw [nI_clamp (show j < 2 ^ 31 by omega)] at hW
            have hZ2 := hZ1.holdN hne hj ⟨na, ca, _, _, hHn⟩
            refine lv_iconst (v := 1) hx hb dX2_hold_56 (by decide) ?_
            refine W.widen (k := 3) (n := 85) (by omega) (by omega) ?_
            exact W.iret hx hb hr (fun t ht hw => ⟨⟨_, _, rfl, (by
              have e8 : rfHold σ (nI j) 0 n0 = (1, rfOff σ j) := by
                unfold rfHold
                rw [if_pos esp_j, if_neg (by decide), if_neg (by decide), if_pos rfl, eix_j]
              rw [e8]; exact ⟨rfl, _, hZ2⟩), by rw [ht]; exact hW, va_K.moved hw.alike hK⟩, hS.F ht⟩) hS.2.2 dX2_hold_57
          · refine lv_iload_n hx hb dX2_hold_35 rfl (lv_at hl 2 rfl) ?_
            refine lv_iconst (v := 1) hx hb dX2_hold_36 (by decide) ?_
            refine lv_icmp_ne (tgt := 58) hx hb dX2_hold_37 (by decide) (fun c_37 => ?_) (fun c_37 => ?_)
            · refine lv_iload_n hx hb dX2_hold_58 rfl (lv_at hl 3 rfl) ?_
              refine lv_if_lt (tgt := 68) hx hb dX2_hold_59 (by decide) (fun c_59 => ?_) (fun c_59 => ?_)
              · refine lv_iconst (v := 0) hx hb dX2_hold_68 (by decide) ?_
                refine W.widen (k := 3) (n := 85) (by omega) (by omega) ?_
                exact W.iret hx hb hr (fun t ht hw => ⟨⟨_, _, rfl, (by
                  have e8 : rfHold σ (nI j) k0 n0 = (0, σ) := by
                    unfold rfHold
                    rw [if_pos esp_j, if_neg (not_or.mpr ⟨c_11, c_16⟩), if_pos (kd_of c_11 c_16 c_32 c_37).2, if_pos (Or.inl c_59)]
                  rw [e8]; exact ⟨rfl, θ, hZ⟩), by rw [ht]; exact hW, va_K.moved hw.alike hK⟩, hS.F ht⟩) hS.2.2 dX2_hold_69
              · refine lv_iload_n hx hb dX2_hold_62 rfl (lv_at hl 3 rfl) ?_
                refine lv_bipush (v := 80) hx hb dX2_hold_63 (by decide) ?_
                refine lv_icmp_le (tgt := 70) hx hb dX2_hold_65 (by decide) (fun c_65 => ?_) (fun c_65 => ?_)
                · obtain ⟨n, hn, rfl⟩ := nI_of2 (M := 80) (n := 80) rfl c_59 c_65
                  have ein : ix (nI n) = n := nI_clamp (by omega)
                  obtain ⟨hkd, hk2⟩ := kd_of c_11 c_16 c_32 c_37
                  refine lv_aload_n hx hb dX2_hold_70 rfl (lv_at hl 0 rfl) ?_
                  refine mw_get (C := RX2) (T := TX2) (N := 8) F hK hW hI_X2 hZ.b.1 rfl 0 (by decide) hl_fieldLink_RX2_11_SpliceBench_spindles_LSpliceBench_Holding rfl dX2_hold_71 ?_
                  refine lv_iload_n hx hb dX2_hold_74 rfl (lv_at hl 1 rfl) ?_
                  refine mw_new (C := RX1) (T := TX1) (N := 5) (ci := 1) (fs := [.int 0, .int 0, .null, .null, .int 0]) F hK hW hS hA hI_X1 tyX1 tyX1_ok hl_classLink_RX2_9_RX1 hl_instantiable_RX1_5 hl_initialized_RX1 rfl (fun q hq => by rcases (show q = 0 ∨ q = 1 ∨ q = 2 ∨ q = 3 ∨ q = 4 by omega) with rfl | rfl | rfl | rfl | rfl <;> rfl) (by show _ ≤ 3; omega) (by show _ ≤ 85; omega) dX2_hold_75 (fun qh H hqh hW hS => ?_)
                  refine lv_dup hx hb dX2_hold_78 rfl ?_
                  refine lv_iload_n hx hb dX2_hold_79 rfl (lv_at hl 2 rfl) ?_
                  refine lv_iload_n hx hb dX2_hold_80 rfl (lv_at hl 3 rfl) ?_
                  refine lv_iconst (v := 0) hx hb dX2_hold_81 (by decide) ?_
                  refine mw_callv (va_runI (As := [.int k0, .int (nI n), .int 0]) (rest := [.ref qh, .int (nI j), .ref (tA1 θ)]) F (c_X1_init (k := k0) (pn := n) (lb := 0) (by omega) (va_up_self _ _ _)) (cwI 3 hts gX2_hold_X1_init rfl rfl rfl hl_initialized_RX1 hl_methodLink_RX2_33_yX1_init hl_instanceMethod_yX1_init rfl (by decide +kernel) ⟨Nat.le_of_ble_eq_true rfl, Nat.le_of_ble_eq_true rfl⟩) (mw_prS hK hO hW) rfl rfl hl.1 rfl (lv_room (Nat.le_of_ble_eq_true rfl)) dX2_hold_82 ⟨by show _ ≤ 3; omega, by show _ ≤ 85; omega⟩) hW hS hA (fun M1 H locs h9 hW hS => ?_)
                  obtain ⟨na, ca, hHn, hna, hca, hnc, hfr⟩ := h9
                  have hext := ext_init hqh hna hca hfr
                  have hZ1 := hZ.ext hext
                  have hMna := na_new hna
                  have hMca := na_new hca
                  refine mw_aast (r := (RX1, TX1, 5)) F hK hW hS 3 1 hZ1.b.2.1 rfl hHn.1 rfl (vp_in_nI (show j < 10 by omega) (by omega)) dX2_hold_85 (fun H locs hW hS => ?_)
                  rw [nI_clamp (show j < 2 ^ 31 by omega)] at hW
                  have hx1 : va_up M1 (tA1 θ) (some (.inl (cH, 10, .inr (.inr (.inr (.inr (va_up (fun j => some (tSp θ j)) j (some qh)))))))) x = _ := (va_up_ne _ _ (mw_neq hZ1.b.1 hZ1.b.2.1 (fun z => by cases z))).trans hZ1.b.1
                  refine lv_aload_n hx hb dX2_hold_86 rfl (lv_at hl 0 rfl) ?_
                  refine lv_dup hx hb dX2_hold_87 rfl ?_
                  refine mw_get (C := RX2) (T := TX2) (N := 8) F hK hW hI_X2 hx1 rfl 3 (by decide) hl_fieldLink_RX2_23_SpliceBench_made_I rfl dX2_hold_88 ?_
                  refine lv_iconst (v := 1) hx hb dX2_hold_91 (by decide) ?_
                  refine lv_iadd hx hb dX2_hold_92 ?_
                  refine mw_put (C := RX2) (T := TX2) (N := 8) (v := .int ((sRow σ) + 1)) F hK hW hS hI_X2 tyX2 tyX2_ok nmX2 hx1 rfl 3 (by decide) hl_fieldLink_RX2_23_SpliceBench_made_I rfl rfl rfl (Nat.le_of_ble_eq_true rfl) dX2_hold_93 (fun H locs hW hS => ?_)
                  have hZ2 := hZ1.holdR hne hj hn hkd hHn (fun k hk hl => by
                    obtain ⟨n9, f9, g9, -, -, b3, -⟩ := hZ.2.2.2.1 k hk hl
                    refine ⟨fun z => ?_, fun z => ?_, fun z => ?_⟩
                    · have := b3.1
                      rw [z, hqh] at this; cases this
                    · have := b3.2.2.1
                      rw [z, hMna] at this; cases this
                    · have := b3.2.2.2
                      rw [z, hMca] at this; cases this) (by
                    obtain ⟨c1, g1, h1⟩ := hZ.b.2.2.2.2.2.1
                    obtain ⟨n2, f2, h2⟩ := hZ.b.2.2.2.2.2.2
                    refine ⟨fun z => ?_, fun z => ?_⟩
                    · have := h1.2.2.1
                      rw [z, hMna] at this; cases this
                    · have := h2.2.2.2
                      rw [z, hMca] at this; cases this)
                  refine lv_iconst (v := 1) hx hb dX2_hold_96 (by decide) ?_
                  refine W.widen (k := 3) (n := 85) (by omega) (by omega) ?_
                  exact W.iret hx hb hr (fun t ht hw => ⟨⟨_, _, rfl, (by
                    have e8 : rfHold σ (nI j) k0 (nI n) = (1, rfRow σ j k0 n) := by
                      unfold rfHold
                      rw [if_pos esp_j, if_neg (not_or.mpr ⟨c_11, c_16⟩), if_pos hk2, if_neg (not_or.mpr ⟨c_59, not_or.mpr ⟨Int32.not_lt.mpr c_65, fun z => by rw [era] at z; exact absurd ((nI_eq (a := ra9) (b := 600) (by omega) (by omega)).mp z) (by omega)⟩⟩), eix_j, ein]
                    rw [e8]; exact ⟨rfl, _, hZ2⟩), by rw [ht]; exact hW, va_K.moved hw.alike hK⟩, hS.F ht⟩) hS.2.2 dX2_hold_97
                · refine lv_iconst (v := 0) hx hb dX2_hold_68 (by decide) ?_
                  refine W.widen (k := 3) (n := 85) (by omega) (by omega) ?_
                  exact W.iret hx hb hr (fun t ht hw => ⟨⟨_, _, rfl, (by
                    have e8 : rfHold σ (nI j) k0 n0 = (0, σ) := by
                      unfold rfHold
                      rw [if_pos esp_j, if_neg (not_or.mpr ⟨c_11, c_16⟩), if_pos (kd_of c_11 c_16 c_32 c_37).2, if_pos (Or.inr (Or.inl (Int32.not_le.mp c_65)))]
                    rw [e8]; exact ⟨rfl, θ, hZ⟩), by rw [ht]; exact hW, va_K.moved hw.alike hK⟩, hS.F ht⟩) hS.2.2 dX2_hold_69
            · subst c_37
              refine lv_aload_n hx hb dX2_hold_40 rfl (lv_at hl 0 rfl) ?_
              refine mw_get (C := RX2) (T := TX2) (N := 8) F hK hW hI_X2 hZ.b.1 rfl 0 (by decide) hl_fieldLink_RX2_11_SpliceBench_spindles_LSpliceBench_Holding rfl dX2_hold_41 ?_
              refine lv_iload_n hx hb dX2_hold_44 rfl (lv_at hl 1 rfl) ?_
              refine mw_new (C := RX1) (T := TX1) (N := 5) (ci := 1) (fs := [.int 0, .int 0, .null, .null, .int 0]) F hK hW hS hA hI_X1 tyX1 tyX1_ok hl_classLink_RX2_9_RX1 hl_instantiable_RX1_5 hl_initialized_RX1 rfl (fun q hq => by rcases (show q = 0 ∨ q = 1 ∨ q = 2 ∨ q = 3 ∨ q = 4 by omega) with rfl | rfl | rfl | rfl | rfl <;> rfl) (by show _ ≤ 3; omega) (by show _ ≤ 85; omega) dX2_hold_45 (fun qh H hqh hW hS => ?_)
              refine lv_dup hx hb dX2_hold_48 rfl ?_
              refine lv_iload_n hx hb dX2_hold_49 rfl (lv_at hl 2 rfl) ?_
              refine lv_iconst (v := 0) hx hb dX2_hold_50 (by decide) ?_
              refine lv_iload_n hx hb dX2_hold_51 rfl (lv_at hl 3 rfl) ?_
              refine mw_callv (va_runI (As := [.int 1, .int 0, .int n0]) (rest := [.ref qh, .int (nI j), .ref (tA1 θ)]) F (c_X1_init (k := 1) (pn := 0) (lb := n0) (by omega) (va_up_self _ _ _)) (cwI 3 hts gX2_hold_X1_init rfl rfl rfl hl_initialized_RX1 hl_methodLink_RX2_33_yX1_init hl_instanceMethod_yX1_init rfl (by decide +kernel) ⟨Nat.le_of_ble_eq_true rfl, Nat.le_of_ble_eq_true rfl⟩) (mw_prS hK hO hW) rfl rfl hl.1 rfl (lv_room (Nat.le_of_ble_eq_true rfl)) dX2_hold_52 ⟨by show _ ≤ 3; omega, by show _ ≤ 85; omega⟩) hW hS hA (fun M1 H locs h9 hW hS => ?_)
              obtain ⟨na, ca, hHn, hna, hca, hnc, hfr⟩ := h9
              have hext := ext_init hqh hna hca hfr
              have hZ1 := hZ.ext hext
              have hMna := na_new hna
              have hMca := na_new hca
              refine mw_aast (r := (RX1, TX1, 5)) F hK hW hS 3 1 hZ1.b.2.1 rfl hHn.1 rfl (vp_in_nI (show j < 10 by omega) (by omega)) dX2_hold_55 (fun H locs hW hS => ?_)
              rw [nI_clamp (show j < 2 ^ 31 by omega)] at hW
              have hZ2 := hZ1.holdL hne hj ⟨na, ca, _, _, hHn⟩ (fun k hk hl z => by
                obtain ⟨na2, ca2, f2, g2, hh2⟩ := hZ.2.2.1 k hk hl
                have := hh2.1
                rw [z, hqh] at this; cases this)
              refine lv_iconst (v := 1) hx hb dX2_hold_56 (by decide) ?_
              refine W.widen (k := 3) (n := 85) (by omega) (by omega) ?_
              exact W.iret hx hb hr (fun t ht hw => ⟨⟨_, _, rfl, (by
                have e8 : rfHold σ (nI j) 1 n0 = (1, rfLab σ j n0) := by
                  unfold rfHold
                  rw [if_pos esp_j, if_neg (by decide), if_neg (by decide), if_neg (by decide), eix_j]
                rw [e8]; exact ⟨rfl, _, hZ2⟩), by rw [ht]; exact hW, va_K.moved hw.alike hK⟩, hS.F ht⟩) hS.2.2 dX2_hold_57
        · rw [era] at c_26
          exact absurd ((nI_ltI (a := ra9) (b := 600) (by omega) (by omega)).mpr (by omega)) c_26
  · have c_4 := bI_e c_4
    refine lv_bipush (v := (-9)) hx hb dX2_hold_7 (by decide) ?_
    refine W.widen (k := 3) (n := 85) (by omega) (by omega) ?_
    exact W.iret hx hb hr (fun t ht hw => ⟨⟨_, _, rfl, (by
      have e8 : rfHold σ s0 k0 n0 = (-9, σ) := by simp [rfHold, c_4]
      rw [e8]; exact ⟨rfl, θ, hZ⟩), by rw [ht]; exact hW, va_K.moved hw.alike hK⟩, hS.F ht⟩) hS.2.2 dX2_hold_9
end X2H
