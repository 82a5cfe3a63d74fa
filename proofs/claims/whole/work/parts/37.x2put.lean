section X2P
variable {l : Launch} {D : va_G} {cI cJ cC cH : ClassId} {M : Nat → Option va_E} {sz : Nat}
abbrev rmX2_thread : Room := ({ frames := 1, cells := 0, slots := 0, locals := 20 } : Room)
set_option maxHeartbeats 4000000 in
set_option maxRecDepth 100000 in
theorem c_X2_thread {x : Nat} {θ : TH} {σ : RS} {cc : Nat} (hZ : Sim cI cJ cC cH x θ σ M) (hI : Inv σ cc) {s0 t0 : Int32} : Met l yX2_thread wsX2_thread rmX2_thread (va_Pc [.ref x, .int s0, .int t0] (mwPre D (tyL cI cJ cC cH) M sz)) (va_Qi (fun r M' => r = (rfThread σ s0 t0).1 ∧ ∃ θ', Sim cI cJ cC cH x θ' (rfThread σ s0 t0).2 M') (mwB D (tyL cI cJ cC cH) M sz) (mwA M sz)) 0 0 (mwA M sz) := by
  refine Met.ofW (cc := cX2_thread) (maxL := 3) (ret := (some .int)) (by decide) rfl ?_
  intro pr env s m args below meth c s₁ B hml hv
  obtain ⟨rfl, hsz, hW, hK, hO⟩ := hv
  subst hsz
  have hW := hW.self (sz := s.heap.size)
  have hS : va_S (mwA M s.heap.size) s.heap s.heap [] := va_S.rf
  have hA : ∀ q, s.heap.size ≤ q → mwA M s.heap.size q := fun q h => Or.inr h
  have hx := B.exec
  have hb := B.bytes
  have hr := B.returns
  have hts := atoms_spec (ws := wsX2_thread) B.pre
  have hown : s.vm.findClass RX2 = some m.cls := findClass_of_methodNamed B.named
  have hlocks := B.notSynchronized
  have F : CallFix pr m c cX2_thread 3 s ([.ref x, .int s0, .int t0] : List Value).toArray wsX2_thread RX2 := ⟨hx, hb, hml, hown, hts⟩
  have hI_X1 : ∀ w ∈ wsX10, w ∈ wsX2_thread := by decide +kernel
  have hI_X2 : ∀ w ∈ wsX20, w ∈ wsX2_thread := by decide +kernel
  have hl_fieldLink_RX2_11_SpliceBench_spindles_LSpliceBench_Holding := hts (.fieldLink RX2 11 "SpliceBench" "spindles" "[LSpliceBench$Holding;") (by decide +kernel)
  have hl_fieldLink_RX2_46_SpliceBench_Holding_kind_I := hts (.fieldLink RX2 46 "SpliceBench$Holding" "kind" "I") (by decide +kernel)
  have hne := kCH hK
  have hl := lv_entry ([.ref x, .int s0, .int t0]) (n := 3) (Nat.le_of_ble_eq_true rfl)
  rw [lg_entry_eq]
  generalize (lg_sl ([.ref x, .int s0, .int t0]) ++ List.replicate (3 - (lg_sl ([.ref x, .int s0, .int t0])).length) Slot.unset).toArray = ls at hl ⊢
  have hl : lv_has ls 3 [(0, .ref x), (1, .int s0), (2, .int t0)] := hl
  refine lv_iload_n hx hb dX2_thread_0 rfl (lv_at hl 1 rfl) ?_
  refine vp_callSi (W.runS (As := [.int s0]) (rest := []) F (c_X2_isSpindle) (cwS 1 hts gX2_thread_X2_isSpindle rfl rfl rfl (by decide +kernel) ⟨Nat.le_of_ble_eq_true rfl, Nat.le_of_ble_eq_true rfl⟩) (mw_prS hK hO hW) rfl rfl hl.1 rfl (lv_room (Nat.le_of_ble_eq_true rfl)) dX2_thread_1 ⟨Nat.zero_le _, Nat.zero_le _⟩) (fun r_1 er_1 => ?_)
  subst er_1
  refine lv_if_eq (tgt := 14) hx hb dX2_thread_4 (by decide) (fun c_4 => ?_) (fun c_4 => ?_)
  · have c_4 := bI_e c_4
    refine lv_bipush (v := (-9)) hx hb dX2_thread_14 (by decide) ?_
    exact W.iret hx hb hr (fun t ht hw => ⟨⟨_, _, rfl, (by
      have e8 : rfThread σ s0 t0 = (-9, σ) := by simp [rfThread, c_4]
      rw [e8]; exact ⟨rfl, θ, hZ⟩), by rw [ht]; exact hW, va_K.moved hw.alike hK⟩, hS.F ht⟩) hS.2.2 dX2_thread_16
  · obtain ⟨js, hjs, rfl⟩ := isSp_of (bI_n c_4)
    have esp_js := isSp_nI hjs
    have eix_js : ix (nI js) = js := nI_clamp (by omega)
    refine lv_iload_n hx hb dX2_thread_7 rfl (lv_at hl 2 rfl) ?_
    refine vp_callSi (W.runS (As := [.int t0]) (rest := []) F (c_X2_isSpindle) (cwS 1 hts gX2_thread_X2_isSpindle rfl rfl rfl (by decide +kernel) ⟨Nat.le_of_ble_eq_true rfl, Nat.le_of_ble_eq_true rfl⟩) (mw_prS hK hO hW) rfl rfl hl.1 rfl (lv_room (Nat.le_of_ble_eq_true rfl)) dX2_thread_8 ⟨Nat.zero_le _, Nat.zero_le _⟩) (fun r_2 er_2 => ?_)
    subst er_2
    refine lv_if_ne (tgt := 17) hx hb dX2_thread_11 (by decide) (fun c_11 => ?_) (fun c_11 => ?_)
    · obtain ⟨jt, hjt, rfl⟩ := isSp_of (bI_n c_11)
      have esp_jt := isSp_nI hjt
      have eix_jt : ix (nI jt) = jt := nI_clamp (by omega)
      refine lv_aload_n hx hb dX2_thread_17 rfl (lv_at hl 0 rfl) ?_
      refine mw_get (C := RX2) (T := TX2) (N := 8) F hK hW hI_X2 hZ.b.1 rfl 0 (by decide) hl_fieldLink_RX2_11_SpliceBench_spindles_LSpliceBench_Holding rfl dX2_thread_18 ?_
      refine lv_iload_n hx hb dX2_thread_21 rfl (lv_at hl 1 rfl) ?_
      refine lv_aload_n hx hb dX2_thread_22 rfl (lv_at hl 0 rfl) ?_
      refine mw_get (C := RX2) (T := TX2) (N := 8) F hK hW hI_X2 hZ.b.1 rfl 0 (by decide) hl_fieldLink_RX2_11_SpliceBench_spindles_LSpliceBench_Holding rfl dX2_thread_23 ?_
      refine lv_iload_n hx hb dX2_thread_26 rfl (lv_at hl 2 rfl) ?_
      refine mw_aald F hK hW 3 hZ.b.2.1 rfl (vp_in_nI (show jt < 10 by omega) (by omega)) dX2_thread_27 ?_
      rw [nI_clamp (show jt < 2 ^ 31 by omega)]
      refine W.eq (g2 := F0 m 28 ls [.ref (tSp θ jt), .int (nI js), .ref (tA1 θ)]) rfl ?_
      obtain ⟨pn, na, ca, lb, f, g, hH, ez, hfs, hgs, hlb⟩ := hZ.hold hI hjt
      have hp8 := hH.2.1
      refine mw_aast (r := (RX1, TX1, 5)) F hK hW hS 3 1 hZ.b.2.1 rfl hH.1 rfl (vp_in_nI (show js < 10 by omega) (by omega)) dX2_thread_28 (fun H locs hW hS => ?_)
      rw [nI_clamp (show js < 2 ^ 31 by omega)] at hW
      have hZ1 := hZ.thread hne hjs hjt
      have hH1 := hH.oth (e := some (.inl (cH, 10, .inr (.inr (.inr (.inr (va_up (fun j => some (tSp θ j)) js (some (tSp θ jt))))))))) (show oth cJ cC (M (tA1 θ)) by rw [hZ.b.2.1]; exact oth_hold hne)
      refine lv_aload_n hx hb dX2_thread_29 rfl (lv_at hl 0 rfl) ?_
      refine mw_get (C := RX2) (T := TX2) (N := 8) F hK hW hI_X2 hZ1.b.1 rfl 0 (by decide) hl_fieldLink_RX2_11_SpliceBench_spindles_LSpliceBench_Holding rfl dX2_thread_30 ?_
      refine lv_iload_n hx hb dX2_thread_33 rfl (lv_at hl 1 rfl) ?_
      refine mw_aald F hK hW 3 (va_up_self _ _ _) rfl (vp_in_nI (show js < 10 by omega) (by omega)) dX2_thread_34 ?_
      rw [nI_clamp (show js < 2 ^ 31 by omega)]
      rw [va_up_self]
      refine W.eq (g2 := F0 m 35 ls [.ref (tSp θ jt)]) rfl ?_
      refine mw_get (C := RX1) (T := TX1) (N := 5) F hK hW hI_X1 hH1.1 rfl 0 (by decide) hl_fieldLink_RX2_46_SpliceBench_Holding_kind_I rfl dX2_thread_35 ?_
      exact W.iret hx hb hr (fun t ht hw => ⟨⟨_, _, rfl, (by
        have e8 : rfThread σ (nI js) (nI jt) = (kOf σ jt, wHo σ (upd (sHo σ) js (sHo σ jt))) := by
          unfold rfThread
          rw [if_pos ⟨esp_js, esp_jt⟩, eix_js, eix_jt, kOf_thread]
        rw [e8]; exact ⟨rfl, _, hZ1⟩), by rw [ht]; exact hW, va_K.moved hw.alike hK⟩, hS.F ht⟩) hS.2.2 dX2_thread_38
    · have c_11 := bI_e c_11
      refine lv_bipush (v := (-9)) hx hb dX2_thread_14 (by decide) ?_
      exact W.iret hx hb hr (fun t ht hw => ⟨⟨_, _, rfl, (by
        have e8 : rfThread σ (nI js) t0 = (-9, σ) := by simp [rfThread, c_11]
        rw [e8]; exact ⟨rfl, θ, hZ⟩), by rw [ht]; exact hW, va_K.moved hw.alike hK⟩, hS.F ht⟩) hS.2.2 dX2_thread_16
theorem Sim.toS {cI cJ cC cH : ClassId} {x : Nat} {θ : TH} {σ σ' : RS} {M : Nat → Option va_E} (h : Sim cI cJ cC cH x θ σ M) (e : σ = σ') : Sim cI cJ cC cH x θ σ' M := e ▸ h
abbrev rmX2_show : Room := ({ frames := 2, cells := 0, slots := 0, locals := 42 } : Room)
set_option maxHeartbeats 4000000 in
set_option maxRecDepth 100000 in
theorem c_X2_show {x : Nat} {θ : TH} {σ : RS} {cc : Nat} (hZ : Sim cI cJ cC cH x θ σ M) (hI : Inv σ cc) {s0 : Int32} : Met l yX2_show wsX2_show rmX2_show (va_Pc [.ref x, .int s0] (mwPre D (tyL cI cJ cC cH) M sz)) (va_Qi (fun r M' => r = (rfShow σ s0).1 ∧ ∃ θ', Sim cI cJ cC cH x θ' (rfShow σ s0).2 M') (mwB D (tyL cI cJ cC cH) M sz) (mwA M sz)) 0 0 (mwA M sz) := by
  refine Met.ofW (cc := cX2_show) (maxL := 6) (ret := (some .int)) (by decide) rfl ?_
  intro pr env s m args below meth c s₁ B hml hv
  obtain ⟨rfl, hsz, hW, hK, hO⟩ := hv
  subst hsz
  have hW := hW.self (sz := s.heap.size)
  have hS : va_S (mwA M s.heap.size) s.heap s.heap [] := va_S.rf
  have hA : ∀ q, s.heap.size ≤ q → mwA M s.heap.size q := fun q h => Or.inr h
  have hx := B.exec
  have hb := B.bytes
  have hr := B.returns
  have hts := atoms_spec (ws := wsX2_show) B.pre
  have hown : s.vm.findClass RX2 = some m.cls := findClass_of_methodNamed B.named
  have hlocks := B.notSynchronized
  have F : CallFix pr m c cX2_show 6 s ([.ref x, .int s0] : List Value).toArray wsX2_show RX2 := ⟨hx, hb, hml, hown, hts⟩
  have hI_X0 : ∀ w ∈ wsX00, w ∈ wsX2_show := by decide +kernel
  have hI_X1 : ∀ w ∈ wsX10, w ∈ wsX2_show := by decide +kernel
  have hI_X2 : ∀ w ∈ wsX20, w ∈ wsX2_show := by decide +kernel
  have hl_fieldLink_RX2_11_SpliceBench_spindles_LSpliceBench_Holding := hts (.fieldLink RX2 11 "SpliceBench" "spindles" "[LSpliceBench$Holding;") (by decide +kernel)
  have hl_fieldLink_RX2_104_SpliceBench_Holding_places_I := hts (.fieldLink RX2 104 "SpliceBench$Holding" "places" "I") (by decide +kernel)
  have hl_fieldLink_RX2_134_SpliceBench_Card_shown_I := hts (.fieldLink RX2 134 "SpliceBench$Card" "shown" "I") (by decide +kernel)
  have hne := kCH hK
  have hl := lv_entry ([.ref x, .int s0]) (n := 6) (Nat.le_of_ble_eq_true rfl)
  rw [lg_entry_eq]
  generalize (lg_sl ([.ref x, .int s0]) ++ List.replicate (6 - (lg_sl ([.ref x, .int s0])).length) Slot.unset).toArray = ls at hl ⊢
  have hl : lv_has ls 6 [(0, .ref x), (1, .int s0)] := hl
  refine lv_iload_n hx hb dX2_show_0 rfl (lv_at hl 1 rfl) ?_
  refine vp_callSi (W.runS (As := [.int s0]) (rest := []) F (c_X2_isSpindle) (cwS 1 hts gX2_show_X2_isSpindle rfl rfl rfl (by decide +kernel) ⟨Nat.le_of_ble_eq_true rfl, Nat.le_of_ble_eq_true rfl⟩) (mw_prS hK hO hW) rfl rfl hl.1 rfl (lv_room (Nat.le_of_ble_eq_true rfl)) dX2_show_1 ⟨Nat.zero_le _, Nat.zero_le _⟩) (fun r_1 er_1 => ?_)
  subst er_1
  refine lv_if_ne (tgt := 10) hx hb dX2_show_4 (by decide) (fun c_4 => ?_) (fun c_4 => ?_)
  · obtain ⟨j, hj, rfl⟩ := isSp_of (bI_n c_4)
    have esp_j := isSp_nI hj
    have eix_j : ix (nI j) = j := nI_clamp (by omega)
    refine lv_aload_n hx hb dX2_show_10 rfl (lv_at hl 0 rfl) ?_
    refine mw_get (C := RX2) (T := TX2) (N := 8) F hK hW hI_X2 hZ.b.1 rfl 0 (by decide) hl_fieldLink_RX2_11_SpliceBench_spindles_LSpliceBench_Holding rfl dX2_show_11 ?_
    refine lv_iload_n hx hb dX2_show_14 rfl (lv_at hl 1 rfl) ?_
    refine mw_aald F hK hW 3 hZ.b.2.1 rfl (vp_in_nI (show j < 10 by omega) (by omega)) dX2_show_15 ?_
    rw [nI_clamp (show j < 2 ^ 31 by omega)]
    refine W.eq (g2 := F0 m 16 ls [.ref (tSp θ j)]) rfl ?_
    obtain ⟨pn, na, ca, lb, f, g, hH, ez, hfs, hgs, hlb⟩ := hZ.hold hI hj
    have hp8 := hH.2.1
    refine lv_astore_n (lv' := [(2, .ref (tSp θ j)), (0, .ref x), (1, .int (nI j))]) hx hb dX2_show_16 rfl hl (by decide) rfl (fun ls hl => ?_)
    refine lv_aload_n hx hb dX2_show_17 rfl (lv_at hl 0 rfl) ?_
    refine vp_callSi (W.runV (As := []) (rest := []) F (c_X1_isRack hH.1) (cwV 0 hts gX2_show_X1_isRack rfl rfl rfl (by decide +kernel) ⟨Nat.le_of_ble_eq_true rfl, Nat.le_of_ble_eq_true rfl⟩) (mw_prV (q := (RX1, TX1, 5)) hK hO hW rfl hH.1) rfl rfl hl.1 rfl (lv_room (Nat.le_of_ble_eq_true rfl)) dX2_show_18 ⟨Nat.zero_le _, Nat.zero_le _⟩) (fun r_2 er_2 => ?_)
    subst er_2
    refine lv_if_ne (tgt := 26) hx hb dX2_show_21 (by decide) (fun c_21 => ?_) (fun c_21 => ?_)
    · have c_21 := bI_n c_21
      have hrk0 : rkOf σ j = true := by rw [rk_eq hI hj]; exact c_21
      obtain ⟨k, n, hk, e9, hn, en, hrk⟩ := rk_row hI hj hrk0
      have ezn : szOf σ j = nI n := (szOf_row hk e9).trans en
      have hlv : liveR σ k := Inv.live hj e9
      rw [hZ.spRow hj hk e9] at hl
      obtain ⟨b, hb9, eb, hpl9, -⟩ := hI.2.2.2.2.2.2
      have h512 := hI.1
      refine lv_iconst (v := 0) hx hb dX2_show_26 (by decide) ?_
      refine lv_istore_n (lv' := [(3, .int 0), (2, .ref (tRa θ k)), (0, .ref x), (1, .int (nI j))]) hx hb dX2_show_27 rfl hl (by decide) rfl (fun ls hl => ?_)
      refine lv_iconst (v := 0) hx hb dX2_show_28 (by decide) ?_
      refine lv_istore (lv' := [(4, .int 0), (3, .int 0), (2, .ref (tRa θ k)), (0, .ref x), (1, .int (nI j))]) hx hb dX2_show_29 hl (by decide) rfl (fun ls hl => ?_)
      have loop : ∀ (N : Nat) (i : Nat) (M1 : Nat → Option va_E) (H : Heap) (locs : List Loc), n + 1 ≤ i + N → i ≤ n → mw D (mwA M s.heap.size) M1 H → va_S (mwA M s.heap.size) s.heap H locs → Sim cI cJ cC cH x θ (wCs σ (shN (pV σ j) (sCs σ) i)) M1 → ∀ (ls : Array Slot), lv_has ls 6 [(4, .int (nI i)), (3, .int (nI (cntF (fun i => !decide (pV σ j i = 0)) i))), (2, .ref (tRa θ k)), (0, .ref x)] → W pr l env (headSpec wsX2_show rmX2_show).room s m ([.ref x, .int (nI j)] : List Value).toArray below meth c H locs 0 0 (MQ below (va_Qi (fun r M' => r = (rfShow σ (nI j)).1 ∧ ∃ θ', Sim cI cJ cC cH x θ' (rfShow σ (nI j)).2 M') (mwB D (tyL cI cJ cC cH) M s.heap.size) (mwA M s.heap.size)) ([.ref x, .int (nI j)] : List Value).toArray s 0 0 (mwA M s.heap.size)) (F0 m 31 ls []) := by
        intro N
        induction N with
        | zero =>
          exact fun i M1 H locs h1 h2 => absurd h1 (by omega)
        | succ N ih =>
          intro i M1 H locs hN hi hW hS hZi ls hl
          obtain ⟨fi, gi, hHi, -, hgi⟩ := hZi.rowAt (n := n) hk hlv en hn
          have hHi : hOk M1 cJ cC (tRa θ k) (sKi σ k) n (tRn θ k) (tRc θ k) 0 fi gi := hHi
          have hgi : kRack (sKi σ k) = true → ∀ w, w < n → gi w = cdR (tCa θ) (sPl σ (80 * k + w)) := hgi
          refine lv_iload hx hb dX2_show_31 (lv_at hl 0 rfl) ?_
          refine lv_aload_n hx hb dX2_show_33 rfl (lv_at hl 2 rfl) ?_
          refine mw_get (C := RX1) (T := TX1) (N := 5) F hK hW hI_X1 hHi.1 rfl 1 (by decide) hl_fieldLink_RX2_104_SpliceBench_Holding_places_I rfl dX2_show_34 ?_
          refine lv_icmp_ge (tgt := 73) hx hb dX2_show_37 (by decide) (fun c_37 => ?_) (fun c_37 => ?_)
          · refine lv_iload_n hx hb dX2_show_73 rfl (lv_at hl 1 rfl) ?_
            exact W.iret hx hb hr (fun t ht hw => ⟨⟨_, _, rfl, (by
              have e7 : i = n := by have := (nI_leI (by omega) (by omega)).mp c_37; omega
              have e8 : rfShow σ (nI j) = (nI (cntF (fun i => !decide (pV σ j i = 0)) i), wCs σ (shN (pV σ j) (sCs σ) i)) := by
                unfold rfShow
                rw [if_pos esp_j, eix_j, if_pos hrk0, ezn]
                simp only [ix, nI_clamp (show n < 2 ^ 31 by omega), cntH, e7]
              rw [e8]; exact ⟨rfl, _, hZi⟩), by rw [ht]; exact hW, va_K.moved hw.alike hK⟩, hS.F ht⟩) hS.2.2 dX2_show_74
          · have hin : i < n := by
              rcases Nat.lt_or_ge i n with h9 | h9
              · exact h9
              · exact absurd (nI_le h9 (by omega)) c_37
            have epv : pV σ j i = sPl σ (80 * k + i) := pV_row hk e9
            refine lv_aload_n hx hb dX2_show_40 rfl (lv_at hl 2 rfl) ?_
            refine lv_iload hx hb dX2_show_41 (lv_at hl 0 rfl) ?_
            refine va_csq (W.runV (As := [.int (nI i)]) (rest := []) F (c_X1_cardAt (i := nI i) hHi) (cwV 1 hts gX2_show_X1_cardAt rfl rfl rfl (by decide +kernel) ⟨Nat.le_of_ble_eq_true rfl, Nat.le_of_ble_eq_true rfl⟩) (mw_prV (q := (RX1, TX1, 5)) hK hO hW rfl hHi.1) rfl rfl hl.1 rfl (lv_room (Nat.le_of_ble_eq_true rfl)) dX2_show_43 ⟨Nat.zero_le _, Nat.zero_le _⟩) (fun r_3 er_3 => ?_)
            subst er_3
            rw [cdAt_rack hrk hn hin, hgi hrk i hin]
            show W _ _ _ _ _ _ _ _ _ _ _ _ _ _ _ (F0 m 46 ls [va_rf (cdR (tCa θ) (sPl σ (80 * k + i)))])
            rcases hpl9 k hk hlv hrk i n en hn hin with h0 | ⟨c9, hc9, ev9, -⟩
            · rw [h0, cdR_0]
              show W _ _ _ _ _ _ _ _ _ _ _ _ _ _ _ (F0 m 46 ls [.null])
              refine lv_astoreN (lv' := [(5, .null), (4, .int (nI i)), (3, .int (nI (cntF (fun i => !decide (pV σ j i = 0)) i))), (2, .ref (tRa θ k)), (0, .ref x)]) hx hb dX2_show_46 hl (by decide) rfl (fun ls hl => ?_)
              refine lv_aloadN hx hb dX2_show_48 (lv_at hl 0 rfl) ?_
              refine lv_ifnullN (tgt := 67) hx hb dX2_show_50 (by decide) ?_
              refine lv_iinc (v := nI (i + 1)) (lv' := [(4, .int (nI (i + 1))), (5, .null), (3, .int (nI (cntF (fun i => !decide (pV σ j i = 0)) i))), (2, .ref (tRa θ k)), (0, .ref x)]) hx hb dX2_show_67 hl (k := 1) rfl (nI_1 i) (by decide) rfl (fun ls hl => ?_)
              refine lv_goto (tgt := 31) hx hb dX2_show_70 (by decide) ?_
              have hc : nI (cntF (fun i => !decide (pV σ j i = 0)) i) = nI (cntF (fun i => !decide (pV σ j i = 0)) (i + 1)) := by simp only [cntF, epv, decide_eq_true h0]; rfl
              rw [hc] at hl
              have hZ := hZi.toS (σ' := wCs σ (shN (pV σ j) (sCs σ) (i + 1))) (by
                have e7 : shN (pV σ j) (sCs σ) (i + 1) = shN (pV σ j) (sCs σ) i := by
                  show (if pV σ j i = 0 then _ else _) = _
                  rw [epv, if_pos h0]
                rw [e7])
              exact ih (i + 1) _ H locs (by omega) (by omega) hW hS hZ ls (lv_sub hl [0, 2, 3, 4] rfl)
            · have hn0 : ¬ sPl σ (80 * k + i) = 0 := by rw [ev9]; exact lN_n0 (by omega)
              have ec9 : cIx (sPl σ (80 * k + i)) = c9 := by rw [ev9]; exact cIx_lN (by omega)
              rw [cdR_n hn0, ec9]
              show W _ _ _ _ _ _ _ _ _ _ _ _ _ _ _ (F0 m 46 ls [.ref (tCa θ c9)])
              obtain ⟨b2, d1, d2, d3, -⟩ := hZi.2.2.2.2.2.1
              have e2 : b2 = b := (nI_eq (by omega) (by omega)).mp (d1.symm.trans eb)
              have hq9 := d3 c9 (by omega)
              refine lv_astore (lv' := [(5, .ref (tCa θ c9)), (4, .int (nI i)), (3, .int (nI (cntF (fun i => !decide (pV σ j i = 0)) i))), (2, .ref (tRa θ k)), (0, .ref x)]) hx hb dX2_show_46 hl (by decide) rfl (fun ls hl => ?_)
              refine lv_aload hx hb dX2_show_48 (lv_at hl 0 rfl) ?_
              refine lv_ifnull hx hb dX2_show_50 ?_
              refine lv_aload hx hb dX2_show_53 (lv_at hl 0 rfl) ?_
              refine lv_dup hx hb dX2_show_55 rfl ?_
              refine mw_get (C := RX0) (T := TX0) (N := 3) F hK hW hI_X0 (show _ = some (Sum.inr (0, [.long (sCn σ c9), .int (bI (evn (sCn σ c9))), .int (shN (pV σ j) (sCs σ) i c9)])) from hq9) rfl 2 (by decide) hl_fieldLink_RX2_134_SpliceBench_Card_shown_I rfl dX2_show_56 ?_
              refine lv_iconst (v := 1) hx hb dX2_show_59 (by decide) ?_
              refine lv_iadd hx hb dX2_show_60 ?_
              refine mw_put (C := RX0) (T := TX0) (N := 3) (v := .int ((shN (pV σ j) (sCs σ) i c9) + 1)) F hK hW hS hI_X0 tyX0 tyX0_ok nmX0 (show _ = some (Sum.inr (0, [.long (sCn σ c9), .int (bI (evn (sCn σ c9))), .int (shN (pV σ j) (sCs σ) i c9)])) from hq9) rfl 2 (by decide) hl_fieldLink_RX2_134_SpliceBench_Card_shown_I rfl rfl rfl (Nat.le_of_ble_eq_true rfl) dX2_show_61 (fun H locs hW hS => ?_)
              have hZs := hZi.show1 (c := c9) eb (by omega) hc9
              refine lv_iinc (v := nI (cntF (fun i => !decide (pV σ j i = 0)) i + 1)) (lv' := [(3, .int (nI (cntF (fun i => !decide (pV σ j i = 0)) i + 1))), (5, .ref (tCa θ c9)), (4, .int (nI i)), (2, .ref (tRa θ k)), (0, .ref x)]) hx hb dX2_show_64 hl (k := 2) rfl (nI_1 _) (by decide) rfl (fun ls hl => ?_)
              refine lv_iinc (v := nI (i + 1)) (lv' := [(4, .int (nI (i + 1))), (3, .int (nI (cntF (fun i => !decide (pV σ j i = 0)) i + 1))), (5, .ref (tCa θ c9)), (2, .ref (tRa θ k)), (0, .ref x)]) hx hb dX2_show_67 hl (k := 2) rfl (nI_1 i) (by decide) rfl (fun ls hl => ?_)
              refine lv_goto (tgt := 31) hx hb dX2_show_70 (by decide) ?_
              have hc : nI (cntF (fun i => !decide (pV σ j i = 0)) i + 1) = nI (cntF (fun i => !decide (pV σ j i = 0)) (i + 1)) := by simp only [cntF, epv, decide_eq_false hn0]; rfl
              rw [hc] at hl
              have hZ := hZs.toS (σ' := wCs σ (shN (pV σ j) (sCs σ) (i + 1))) (by
                have e7 : shN (pV σ j) (sCs σ) (i + 1) = upd (shN (pV σ j) (sCs σ) i) c9 (shN (pV σ j) (sCs σ) i c9 + 1) := by
                  show (if pV σ j i = 0 then _ else _) = _
                  rw [epv, if_neg hn0, ec9]
                rw [e7]; rfl)
              exact ih (i + 1) _ H locs (by omega) (by omega) hW hS hZ ls (lv_sub hl [0, 1, 3, 4] rfl)
      exact loop (n + 1) 0 _ _ _ (by omega) (Nat.zero_le _) hW hS hZ ls (lv_sub hl [0, 1, 2, 3] rfl)
    · have c_21 := bI_e c_21
      refine lv_iconst (v := (-1)) hx hb dX2_show_24 (by decide) ?_
      exact W.iret hx hb hr (fun t ht hw => ⟨⟨_, _, rfl, (by
        have e8 : rfShow σ (nI j) = (-1, σ) := by simp [rfShow, esp_j, eix_j, rk_eq hI hj, c_21]
        rw [e8]; exact ⟨rfl, θ, hZ⟩), by rw [ht]; exact hW, va_K.moved hw.alike hK⟩, hS.F ht⟩) hS.2.2 dX2_show_25
  · have c_4 := bI_e c_4
    refine lv_bipush (v := (-9)) hx hb dX2_show_7 (by decide) ?_
    exact W.iret hx hb hr (fun t ht hw => ⟨⟨_, _, rfl, (by
      have e8 : rfShow σ s0 = (-9, σ) := by simp [rfShow, c_4]
      rw [e8]; exact ⟨rfl, θ, hZ⟩), by rw [ht]; exact hW, va_K.moved hw.alike hK⟩, hS.F ht⟩) hS.2.2 dX2_show_9
theorem va_comm {α : Type} (M : Nat → α) {a b : Nat} (e1 e2 : α) (h : a ≠ b) : va_up (va_up M a e1) b e2 = va_up (va_up M b e2) a e1 := by
  funext z
  unfold va_up
  by_cases h1 : z = b
  · by_cases h2 : z = a
    · exact absurd (h2.symm.trans h1) h
    · rw [if_pos h1, if_neg h2, if_pos h1]
  · by_cases h2 : z = a
    · rw [if_neg h1, if_pos h2, if_pos h2]
    · rw [if_neg h1, if_neg h2, if_neg h2, if_neg h1]
theorem cd_up {ca : Nat → Nat} {P : Nat → Int64} {g : Nat → Option Nat} {k n i : Nat} {v : Int64} (hi : i < n) (hg : ∀ w, w < n → g w = cdR ca (P (80 * k + w))) : ∀ w, w < n → va_up g i (cdR ca v) w = cdR ca (vp_updL P (80 * k + i) v (80 * k + w)) := by
  intro w hw
  by_cases h : w = i
  · subst h; rw [va_up_self, pk_uLs]
  · rw [va_up_ne _ _ h, pk_uLn (by omega)]; exact hg w hw
abbrev rmX2_putCard : Room := ({ frames := 2, cells := 1, slots := 3, locals := 34 } : Room)
set_option maxHeartbeats 4000000 in
set_option maxRecDepth 100000 in
theorem c_X2_putCard {x : Nat} {θ : TH} {σ : RS} {cc : Nat} (hZ : Sim cI cJ cC cH x θ σ M) (hI : Inv σ cc) {j : Nat} {i : Int32} {v : Int64} (hj : j < 10) (hrk : kRack (kOf σ j) = true) (hcc : cc < 512) : Met l yX2_putCard wsX2_putCard rmX2_putCard (va_Pc [.ref x, .ref (tSp θ j), .int i, .long v] (mwPre D (tyL cI cJ cC cH) M sz)) (va_Qi (fun r M' => r = (rfPut σ (nI j) i v).1 ∧ ∃ θ', Sim cI cJ cC cH x θ' (rfPut σ (nI j) i v).2 M') (mwB D (tyL cI cJ cC cH) M sz) (mwA M sz)) 1 3 (mwA M sz) := by
  refine Met.ofW (cc := cX2_putCard) (maxL := 6) (ret := (some .int)) (by decide) rfl ?_
  intro pr env s m args below meth c s₁ B hml hv
  obtain ⟨rfl, hsz, hW, hK, hO⟩ := hv
  subst hsz
  have hW := hW.self (sz := s.heap.size)
  have hS : va_S (mwA M s.heap.size) s.heap s.heap [] := va_S.rf
  have hA : ∀ q, s.heap.size ≤ q → mwA M s.heap.size q := fun q h => Or.inr h
  have hx := B.exec
  have hb := B.bytes
  have hr := B.returns
  have hts := atoms_spec (ws := wsX2_putCard) B.pre
  have hown : s.vm.findClass RX2 = some m.cls := findClass_of_methodNamed B.named
  have hlocks := B.notSynchronized
  have F : CallFix pr m c cX2_putCard 6 s ([.ref x, .ref (tSp θ j), .int i, .long v] : List Value).toArray wsX2_putCard RX2 := ⟨hx, hb, hml, hown, hts⟩
  have hI_X0 : ∀ w ∈ wsX00, w ∈ wsX2_putCard := by decide +kernel
  have hI_X1 : ∀ w ∈ wsX10, w ∈ wsX2_putCard := by decide +kernel
  have hI_X2 : ∀ w ∈ wsX20, w ∈ wsX2_putCard := by decide +kernel
  have hl_fieldLink_RX2_67_SpliceBench_Holding_cards_LSpliceBench_Card := hts (.fieldLink RX2 67 "SpliceBench$Holding" "cards" "[LSpliceBench$Card;") (by decide +kernel)
  have hl_fieldLink_RX2_26_SpliceBench_cardsPut_I := hts (.fieldLink RX2 26 "SpliceBench" "cardsPut" "I") (by decide +kernel)
  have hl_classLink_RX2_71_RX0 := hts (.classLink RX2 71 RX0) (by decide +kernel)
  have hl_instantiable_RX0_3 := hts (.instantiable RX0 3) (by decide +kernel)
  have hl_initialized_RX0 := hts (.initialized RX0) (by decide +kernel)
  have hl_methodLink_RX2_73_yX0_init := hts (.methodLink RX2 73 yX0_init) (by decide +kernel)
  have hl_instanceMethod_yX0_init := hts (.instanceMethod yX0_init) (by decide +kernel)
  have hne := kCH hK
  have esp_j := isSp_nI hj
  have eix_j : ix (nI j) = j := nI_clamp (by omega)
  have hrk0 : rkOf σ j = true := by rw [rk_eq hI hj]; exact hrk
  obtain ⟨k, n, hk, e9, hn, en, hkk⟩ := rk_row hI hj hrk0
  have ezn : szOf σ j = nI n := (szOf_row hk e9).trans en
  have hlv : liveR σ k := Inv.live hj e9
  have ek := kOf_row hk e9
  obtain ⟨b, hb9, eb, hpl9, hwa9⟩ := hI.2.2.2.2.2.2
  have h512 := hI.1
  obtain ⟨fr, gr, hHr, -, hgr⟩ := hZ.rowAt hk hlv en hn
  have hgr := hgr hkk
  have erx : rIx σ j = k := rIx_row hk e9
  have k0 : ¬ kOf σ j = 0 := fun z => by rw [z] at hrk; exact absurd hrk (by decide)
  have k1 : ¬ kOf σ j = 1 := fun z => by rw [z] at hrk; exact absurd hrk (by decide)
  have k2 : ¬ kOf σ j = 2 := fun z => by rw [z] at hrk; exact absurd hrk (by decide)
  have esr := hZ.spRow hj hk e9
  have hl := lv_entry ([.ref x, .ref (tSp θ j), .int i, .long v]) (n := 6) (Nat.le_of_ble_eq_true rfl)
  rw [lg_entry_eq]
  generalize (lg_sl ([.ref x, .ref (tSp θ j), .int i, .long v]) ++ List.replicate (6 - (lg_sl ([.ref x, .ref (tSp θ j), .int i, .long v])).length) Slot.unset).toArray = ls at hl ⊢
  have hl : lv_has ls 6 [(0, .ref x), (1, .ref (tSp θ j)), (2, .int i), (3, .long v)] := hl
  rw [esr] at hl
  refine lv_lload_n hx hb dX2_putCard_0 rfl (lv_at hl 3 rfl) ?_
  refine lv_lconst (v := 0) hx hb dX2_putCard_1 (by decide) ?_
  refine W.lcmp hx hb dX2_putCard_2 ?_
  refine lv_if_eq (tgt := 18) hx hb dX2_putCard_3 (by decide) (fun c_3 => ?_) (fun c_3 => ?_)
  · have c_3 := (lg_cmp_eq _ _).mp c_3
    refine lv_aload_n hx hb dX2_putCard_18 rfl (lv_at hl 1 rfl) ?_
    refine lv_iload_n hx hb dX2_putCard_19 rfl (lv_at hl 2 rfl) ?_
    refine vp_callSi (W.runV (As := [.int i]) (rest := []) F (c_X1_hasPlace (i := i) hHr) (cwV 1 hts gX2_putCard_X1_hasPlace rfl rfl rfl (by decide +kernel) ⟨Nat.le_of_ble_eq_true rfl, Nat.le_of_ble_eq_true rfl⟩) (mw_prV (q := (RX1, TX1, 5)) hK hO hW rfl hHr.1) rfl rfl hl.1 rfl (lv_room (Nat.le_of_ble_eq_true rfl)) dX2_putCard_20 ⟨by show _ ≤ 1; omega, by show _ ≤ 3; omega⟩) (fun r_1 er_1 => ?_)
    subst er_1
    refine lv_if_ne (tgt := 29) hx hb dX2_putCard_23 (by decide) (fun c_23 => ?_) (fun c_23 => ?_)
    · have c_23 := bI_n c_23
      obtain ⟨i9, hi9, rfl⟩ := inPl_of hn c_23
      have eix_i : ix (nI i9) = i9 := nI_clamp (by omega)
      refine lv_lload_n hx hb dX2_putCard_29 rfl (lv_at hl 3 rfl) ?_
      refine lv_lconst (v := 0) hx hb dX2_putCard_30 (by decide) ?_
      refine W.lcmp hx hb dX2_putCard_31 ?_
      refine lv_if_ne (tgt := 44) hx hb dX2_putCard_32 (by decide) (fun c_32 => ?_) (fun c_32 => ?_)
      · have c_32 : ¬ (_ = _) := fun h9 => c_32 ((lg_cmp_eq _ _).mpr h9)
        exact absurd c_3 c_32
      · have c_32 := (lg_cmp_eq _ _).mp c_32
        refine lv_aload_n hx hb dX2_putCard_35 rfl (lv_at hl 1 rfl) ?_
        refine mw_get (C := RX1) (T := TX1) (N := 5) F hK hW hI_X1 hHr.1 rfl 3 (by decide) hl_fieldLink_RX2_67_SpliceBench_Holding_cards_LSpliceBench_Card rfl dX2_putCard_36 ?_
        refine lv_iload_n hx hb dX2_putCard_39 rfl (lv_at hl 2 rfl) ?_
        refine lv_null hx hb dX2_putCard_40 ?_
        refine mw_aastN F hK hW hS 2 (hHr.cds hkk) rfl (vp_in_nI hi9 (by omega)) dX2_putCard_41 (fun H locs hW hS => ?_)
        rw [nI_clamp (show i9 < 2 ^ 31 by omega)] at hW
        have hZ1 := hZ.rowC hne hk hlv hkk en hn (P' := vp_updL (sPl σ) (80 * k + i9) 0) (g' := va_up gr i9 none) (fun k' w hk' hne' hw => pk_uLn (by omega)) (cd_up (v := 0) hi9 hgr)
        refine lv_iconst (v := 1) hx hb dX2_putCard_42 (by decide) ?_
        refine W.widen (k := 1) (n := 3) (by omega) (by omega) ?_
        exact W.iret hx hb hr (fun t ht hw => ⟨⟨_, _, rfl, (by
          have e8 : rfPut σ (nI j) (nI i9) v = (1, wPl σ (vp_updL (sPl σ) (80 * k + i9) 0)) := by
            unfold rfPut
            rw [if_pos esp_j, eix_j, if_neg k0, if_neg k1, if_neg (fun z => by rw [eb] at z; exact absurd ((nI_eq (a := b) (b := 2000) (by omega) (by omega)).mp z.2.2) (by omega)), ezn, if_pos c_23, if_neg (fun z => by rw [c_3] at z; exact absurd z.2 (by decide)), if_neg (fun z => z.2 c_3), if_neg k2, erx, eix_i, c_3]
          rw [e8]; exact ⟨rfl, _, hZ1⟩), by rw [ht]; exact hW, va_K.moved hw.alike hK⟩, hS.F ht⟩) hS.2.2 dX2_putCard_43
    · have c_23 := bI_e c_23
      refine lv_bipush (v := (-3)) hx hb dX2_putCard_26 (by decide) ?_
      refine W.widen (k := 1) (n := 3) (by omega) (by omega) ?_
      exact W.iret hx hb hr (fun t ht hw => ⟨⟨_, _, rfl, (by
        have e8 : rfPut σ (nI j) i v = (-3, σ) := by
          unfold rfPut
          rw [if_pos esp_j, eix_j, if_neg k0, if_neg k1, if_neg (fun z => by rw [eb] at z; exact absurd ((nI_eq (a := b) (b := 2000) (by omega) (by omega)).mp z.2.2) (by omega)), ezn, if_neg (by rw [c_23]; decide)]
        rw [e8]; exact ⟨rfl, θ, hZ⟩), by rw [ht]; exact hW, va_K.moved hw.alike hK⟩, hS.F ht⟩) hS.2.2 dX2_putCard_28
  · have c_3 : ¬ (_ = _) := fun h9 => c_3 ((lg_cmp_eq _ _).mpr h9)
    refine lv_aload_n hx hb dX2_putCard_6 rfl (lv_at hl 0 rfl) ?_
    refine mw_get (C := RX2) (T := TX2) (N := 8) F hK hW hI_X2 hZ.b.1 rfl 4 (by decide) hl_fieldLink_RX2_26_SpliceBench_cardsPut_I rfl dX2_putCard_7 ?_
    refine lv_sipush (v := 2000) hx hb dX2_putCard_10 (by decide) ?_
    refine lv_icmp_lt (tgt := 18) hx hb dX2_putCard_13 (by decide) (fun c_13 => ?_) (fun c_13 => ?_)
    · refine lv_aload_n hx hb dX2_putCard_18 rfl (lv_at hl 1 rfl) ?_
      refine lv_iload_n hx hb dX2_putCard_19 rfl (lv_at hl 2 rfl) ?_
      refine vp_callSi (W.runV (As := [.int i]) (rest := []) F (c_X1_hasPlace (i := i) hHr) (cwV 1 hts gX2_putCard_X1_hasPlace rfl rfl rfl (by decide +kernel) ⟨Nat.le_of_ble_eq_true rfl, Nat.le_of_ble_eq_true rfl⟩) (mw_prV (q := (RX1, TX1, 5)) hK hO hW rfl hHr.1) rfl rfl hl.1 rfl (lv_room (Nat.le_of_ble_eq_true rfl)) dX2_putCard_20 ⟨by show _ ≤ 1; omega, by show _ ≤ 3; omega⟩) (fun r_2 er_2 => ?_)
      subst er_2
      refine lv_if_ne (tgt := 29) hx hb dX2_putCard_23 (by decide) (fun c_23 => ?_) (fun c_23 => ?_)
      · have c_23 := bI_n c_23
        obtain ⟨i9, hi9, rfl⟩ := inPl_of hn c_23
        have eix_i : ix (nI i9) = i9 := nI_clamp (by omega)
        refine lv_lload_n hx hb dX2_putCard_29 rfl (lv_at hl 3 rfl) ?_
        refine lv_lconst (v := 0) hx hb dX2_putCard_30 (by decide) ?_
        refine W.lcmp hx hb dX2_putCard_31 ?_
        refine lv_if_ne (tgt := 44) hx hb dX2_putCard_32 (by decide) (fun c_32 => ?_) (fun c_32 => ?_)
        · have c_32 : ¬ (_ = _) := fun h9 => c_32 ((lg_cmp_eq _ _).mpr h9)
          refine mw_new (C := RX0) (T := TX0) (N := 3) (ci := 0) (fs := [.long 0, .int 0, .int 0]) F hK hW hS hA hI_X0 tyX0 tyX0_ok hl_classLink_RX2_71_RX0 hl_instantiable_RX0_3 hl_initialized_RX0 rfl (fun q hq => by rcases (show q = 0 ∨ q = 1 ∨ q = 2 by omega) with rfl | rfl | rfl <;> rfl) (Nat.le_of_ble_eq_true rfl) (Nat.le_of_ble_eq_true rfl) dX2_putCard_44 (fun qc H hqc hW hS => ?_)
          refine lv_dup hx hb dX2_putCard_47 rfl ?_
          refine lv_lload_n hx hb dX2_putCard_48 rfl (lv_at hl 3 rfl) ?_
          refine mw_callv (va_runI (As := [.long v]) (rest := [.ref qc]) F (c_X0_init (v := v) (va_up_self _ _ _)) (cwI 1 hts gX2_putCard_X0_init rfl rfl rfl hl_initialized_RX0 hl_methodLink_RX2_73_yX0_init hl_instanceMethod_yX0_init rfl (by decide +kernel) ⟨Nat.le_of_ble_eq_true rfl, Nat.le_of_ble_eq_true rfl⟩) (mw_prS hK hO hW) rfl rfl hl.1 rfl (lv_room (Nat.le_of_ble_eq_true rfl)) dX2_putCard_49 ⟨by show _ ≤ 1; omega, by show _ ≤ 3; omega⟩) hW hS hA (fun M1 H locs eM hW hS => ?_)
          rw [bx_uu] at eM
          have hZ1 := hZ.ext (ext_new (y := some (.inr (0, [.long v, .int (bI (evn v)), .int 0]))) hqc)
          rw [← eM] at hZ1
          have hq1 : M1 qc = some (.inr (0, [.long v, .int (bI (evn v)), .int 0])) := by rw [eM]; exact va_up_self _ _ _
          have hH1 : hOk M1 cJ cC (tRa θ k) (sKi σ k) n (tRn θ k) (tRc θ k) 0 fr gr := by rw [eM]; exact hHr.ext (ext_new hqc)
          refine lv_astore (lv' := [(5, .ref qc), (0, .ref x), (1, .ref (tRa θ k)), (2, .int (nI i9)), (3, .long v)]) hx hb dX2_putCard_52 hl (by decide) rfl (fun ls hl => ?_)
          refine lv_aload_n hx hb dX2_putCard_54 rfl (lv_at hl 2 rfl) ?_
          refine lv_aload hx hb dX2_putCard_55 (lv_at hl 0 rfl) ?_
          refine vp_callSi (W.runV (As := [.ref qc]) (rest := []) F (c_X1_admitsS (ev := evn v) hH1 hq1) (cwV 1 hts gX2_putCard_X1_admits rfl rfl rfl (by decide +kernel) ⟨Nat.le_of_ble_eq_true rfl, Nat.le_of_ble_eq_true rfl⟩) (mw_prV (q := (RX1, TX1, 5)) hK hO hW rfl hH1.1) rfl rfl hl.1 rfl (lv_room (Nat.le_of_ble_eq_true rfl)) dX2_putCard_57 ⟨by show _ ≤ 1; omega, by show _ ≤ 3; omega⟩) (fun r er => ?_)
          subst er
          refine lv_if_ne (tgt := 66) hx hb dX2_putCard_60 (by decide) (fun c_60 => ?_) (fun c_60 => ?_)
          · have c_60 := bI_n c_60
            refine lv_aload_n hx hb dX2_putCard_66 rfl (lv_at hl 2 rfl) ?_
            refine mw_get (C := RX1) (T := TX1) (N := 5) F hK hW hI_X1 hH1.1 rfl 3 (by decide) hl_fieldLink_RX2_67_SpliceBench_Holding_cards_LSpliceBench_Card rfl dX2_putCard_67 ?_
            refine lv_iload_n hx hb dX2_putCard_70 rfl (lv_at hl 3 rfl) ?_
            refine lv_aload hx hb dX2_putCard_71 (lv_at hl 0 rfl) ?_
            refine mw_aast (r := (RX0, TX0, 3)) F hK hW hS 2 0 (hH1.cds hkk) rfl hq1 rfl (vp_in_nI hi9 (by omega)) dX2_putCard_73 (fun H locs hW hS => ?_)
            rw [nI_clamp (show i9 < 2 ^ 31 by omega)] at hW
            have hx1 : va_up M1 (tRc θ k) (some (.inl (cC, n, .inr (.inr (.inr (.inr (va_up gr i9 (some qc)))))))) x = _ := (va_up_ne _ _ (mw_neq hZ1.b.1 (hH1.cds hkk) (fun z => by cases z))).trans hZ1.b.1
            refine lv_aload_n hx hb dX2_putCard_74 rfl (lv_at hl 1 rfl) ?_
            refine lv_dup hx hb dX2_putCard_75 rfl ?_
            refine mw_get (C := RX2) (T := TX2) (N := 8) F hK hW hI_X2 hx1 rfl 4 (by decide) hl_fieldLink_RX2_26_SpliceBench_cardsPut_I rfl dX2_putCard_76 ?_
            refine lv_iconst (v := 1) hx hb dX2_putCard_79 (by decide) ?_
            refine lv_iadd hx hb dX2_putCard_80 ?_
            refine mw_put (C := RX2) (T := TX2) (N := 8) (v := .int ((sCar σ) + 1)) F hK hW hS hI_X2 tyX2 tyX2_ok nmX2 hx1 rfl 4 (by decide) hl_fieldLink_RX2_26_SpliceBench_cardsPut_I rfl rfl rfl (Nat.le_of_ble_eq_true rfl) dX2_putCard_81 (fun H locs hW hS => ?_)
            rw [va_comm M1 _ _ (show tRc θ k ≠ x from mw_neq (hH1.cds hkk) hZ1.b.1 (fun z => by cases z))] at hW
            have hok : ∀ v9 : Int64, (∃ k9, okP σ b k9 v9) → v9 = 0 ∨ ∃ c, c < b ∧ v9 = lN (c + 1) := fun v9 z => z.elim (fun k9 z => z.imp id (fun ⟨c, a1, a2, _⟩ => ⟨c, a1, a2⟩))
            have hZ2 := hZ1.newCard (b := b) (q := qc) (v := v) eb (by omega) hq1 (fun c hc z => by
              obtain ⟨b2, d1, d2, d3, -⟩ := hZ.2.2.2.2.2.1
              have e2 : b2 = b := (nI_eq (by omega) (by omega)).mp (d1.symm.trans eb)
              have := d3 c (by omega)
              rw [z, hqc] at this; cases this) (fun k9 a1 a2 a3 i8 n8 a4 a5 a6 => hok _ ⟨k9, hpl9 k9 a1 a2 a3 i8 n8 a4 a5 a6⟩) (fun k9 a1 a2 a3 i8 n8 a4 a5 a6 => hok _ ⟨k9, hwa9 k9 a1 a2 a3 i8 n8 a4 a5 a6⟩)
            have egr : ∀ w, w < n → gr w = cdR (va_up (tCa θ) b qc) (sPl σ (80 * k + w)) := fun w hw => by
              rw [hgr w hw]
              rcases hok _ ⟨k, hpl9 k hk hlv hkk w n en hn hw⟩ with z | ⟨c, hc, z⟩
              · rw [z]; rfl
              · rw [z, cdR_n (lN_n0 (by omega)), cdR_n (lN_n0 (by omega)), cIx_lN (by omega), va_up_ne _ _ (show c ≠ b by omega)]
            have ecr : (sCar σ + 1).toInt64 = lN (b + 1) := by rw [eb, nI_1, nI_l (by omega)]
            have ecd : cdR (va_up (tCa θ) b qc) (sCar σ + 1).toInt64 = some qc := by rw [ecr, cdR_n (lN_n0 (by omega)), cIx_lN (by omega), va_up_self]
            have hZ3 := hZ2.rowC hne hk hlv hkk en hn (P' := vp_updL (sPl σ) (80 * k + i9) (sCar σ + 1).toInt64) (g' := va_up gr i9 (some qc)) (fun k' w hk' hne' hw => pk_uLn (by omega)) (by rw [← ecd]; exact cd_up (v := (sCar σ + 1).toInt64) hi9 egr)
            refine lv_iconst (v := 1) hx hb dX2_putCard_84 (by decide) ?_
            refine W.widen (k := 1) (n := 3) (by omega) (by omega) ?_
            exact W.iret hx hb hr (fun t ht hw => ⟨⟨_, _, rfl, (by
              have h54 : ¬ (kOf σ j = 5 ∧ v &&& 1 = 1) := fun z => by
                rw [ek] at z
                rw [decide_eq_true z.1] at c_60
                have z2 : evn v = true := by simpa using c_60
                have z3 : decide (v &&& 1 = 1) = true := decide_eq_true z.2
                rw [evn_plain, z2] at z3; cases z3
              have e8 : rfPut σ (nI j) (nI i9) v = (1, wPl (rfCard σ v) (vp_updL (sPl σ) (80 * k + i9) (sCar σ + 1).toInt64)) := by
                unfold rfPut
                rw [if_pos esp_j, eix_j, if_neg k0, if_neg k1, if_neg (fun z => by rw [eb] at z; exact absurd ((nI_eq (a := b) (b := 2000) (by omega) (by omega)).mp z.2.2) (by omega)), ezn, if_pos c_23, if_neg h54, if_pos ⟨hrk0, c_3⟩, erx, eix_i]
              rw [e8]; exact ⟨rfl, _, hZ3⟩), by rw [ht]; exact hW, va_K.moved hw.alike hK⟩, hS.F ht⟩) hS.2.2 dX2_putCard_85
          · have c_60 := bI_e c_60
            refine lv_bipush (v := (-4)) hx hb dX2_putCard_63 (by decide) ?_
            refine W.widen (k := 1) (n := 3) (by omega) (by omega) ?_
            exact W.iret hx hb hr (fun t ht hw => ⟨⟨_, _, rfl, (by
              have h54 : kOf σ j = 5 ∧ v &&& 1 = 1 := by
                simp only [Bool.or_eq_false_iff, Bool.not_eq_false', decide_eq_true_eq] at c_60
                exact ⟨ek.trans c_60.1, of_decide_eq_true (by rw [evn_plain, c_60.2]; rfl)⟩
              have e8 : rfPut σ (nI j) (nI i9) v = (-4, σ) := by
                unfold rfPut
                rw [if_pos esp_j, eix_j, if_neg k0, if_neg k1, if_neg (fun z => by rw [eb] at z; exact absurd ((nI_eq (a := b) (b := 2000) (by omega) (by omega)).mp z.2.2) (by omega)), ezn, if_pos c_23, if_pos h54]
              rw [e8]; exact ⟨rfl, θ, hZ1⟩), by rw [ht]; exact hW, va_K.moved hw.alike hK⟩, hS.F ht⟩) hS.2.2 dX2_putCard_65
        · have c_32 := (lg_cmp_eq _ _).mp c_32
          exact absurd c_32 c_3
      · have c_23 := bI_e c_23
        refine lv_bipush (v := (-3)) hx hb dX2_putCard_26 (by decide) ?_
        refine W.widen (k := 1) (n := 3) (by omega) (by omega) ?_
        exact W.iret hx hb hr (fun t ht hw => ⟨⟨_, _, rfl, (by
          have e8 : rfPut σ (nI j) i v = (-3, σ) := by
            unfold rfPut
            rw [if_pos esp_j, eix_j, if_neg k0, if_neg k1, if_neg (fun z => by rw [eb] at z; exact absurd ((nI_eq (a := b) (b := 2000) (by omega) (by omega)).mp z.2.2) (by omega)), ezn, if_neg (by rw [c_23]; decide)]
          rw [e8]; exact ⟨rfl, θ, hZ⟩), by rw [ht]; exact hW, va_K.moved hw.alike hK⟩, hS.F ht⟩) hS.2.2 dX2_putCard_28
    · rw [eb] at c_13
      exact absurd ((nI_ltI (a := b) (b := 2000) (by omega) (by omega)).mpr (by omega)) c_13
abbrev rmX2_put : Room := ({ frames := 3, cells := 1, slots := 3, locals := 59 } : Room)
set_option maxHeartbeats 4000000 in
set_option maxRecDepth 100000 in
theorem c_X2_put {x : Nat} {θ : TH} {σ : RS} {cc : Nat} (hZ : Sim cI cJ cC cH x θ σ M) (hI : Inv σ cc) {s0 i : Int32} {v : Int64} (hcc : cc < 512) : Met l yX2_put wsX2_put rmX2_put (va_Pc [.ref x, .int s0, .int i, .long v] (mwPre D (tyL cI cJ cC cH) M sz)) (va_Qi (fun r M' => r = (rfPut σ s0 i v).1 ∧ ∃ θ', Sim cI cJ cC cH x θ' (rfPut σ s0 i v).2 M') (mwB D (tyL cI cJ cC cH) M sz) (mwA M sz)) 1 3 (mwA M sz) := by
  refine Met.ofW (cc := cX2_put) (maxL := 6) (ret := (some .int)) (by decide) rfl ?_
  intro pr env s m args below meth c s₁ B hml hv
  obtain ⟨rfl, hsz, hW, hK, hO⟩ := hv
  subst hsz
  have hW := hW.self (sz := s.heap.size)
  have hS : va_S (mwA M s.heap.size) s.heap s.heap [] := va_S.rf
  have hA : ∀ q, s.heap.size ≤ q → mwA M s.heap.size q := fun q h => Or.inr h
  have hx := B.exec
  have hb := B.bytes
  have hr := B.returns
  have hts := atoms_spec (ws := wsX2_put) B.pre
  have hown : s.vm.findClass RX2 = some m.cls := findClass_of_methodNamed B.named
  have hlocks := B.notSynchronized
  have F : CallFix pr m c cX2_put 6 s ([.ref x, .int s0, .int i, .long v] : List Value).toArray wsX2_put RX2 := ⟨hx, hb, hml, hown, hts⟩
  have hI_X1 : ∀ w ∈ wsX10, w ∈ wsX2_put := by decide +kernel
  have hI_X2 : ∀ w ∈ wsX20, w ∈ wsX2_put := by decide +kernel
  have hl_fieldLink_RX2_11_SpliceBench_spindles_LSpliceBench_Holding := hts (.fieldLink RX2 11 "SpliceBench" "spindles" "[LSpliceBench$Holding;") (by decide +kernel)
  have hl_fieldLink_RX2_46_SpliceBench_Holding_kind_I := hts (.fieldLink RX2 46 "SpliceBench$Holding" "kind" "I") (by decide +kernel)
  have hl_fieldLink_RX2_63_SpliceBench_Holding_numbers_J := hts (.fieldLink RX2 63 "SpliceBench$Holding" "numbers" "[J") (by decide +kernel)
  have hl_fieldLink_RX2_49_SpliceBench_Holding_label_I := hts (.fieldLink RX2 49 "SpliceBench$Holding" "label" "I") (by decide +kernel)
  have hne := kCH hK
  have hl := lv_entry ([.ref x, .int s0, .int i, .long v]) (n := 6) (Nat.le_of_ble_eq_true rfl)
  rw [lg_entry_eq]
  generalize (lg_sl ([.ref x, .int s0, .int i, .long v]) ++ List.replicate (6 - (lg_sl ([.ref x, .int s0, .int i, .long v])).length) Slot.unset).toArray = ls at hl ⊢
  have hl : lv_has ls 6 [(0, .ref x), (1, .int s0), (2, .int i), (3, .long v)] := hl
  refine lv_iload_n hx hb dX2_put_0 rfl (lv_at hl 1 rfl) ?_
  refine vp_callSi (W.runS (As := [.int s0]) (rest := []) F (c_X2_isSpindle) (cwS 1 hts gX2_put_X2_isSpindle rfl rfl rfl (by decide +kernel) ⟨Nat.le_of_ble_eq_true rfl, Nat.le_of_ble_eq_true rfl⟩) (mw_prS hK hO hW) rfl rfl hl.1 rfl (lv_room (Nat.le_of_ble_eq_true rfl)) dX2_put_1 ⟨by show _ ≤ 1; omega, by show _ ≤ 3; omega⟩) (fun r_1 er_1 => ?_)
  subst er_1
  refine lv_if_ne (tgt := 10) hx hb dX2_put_4 (by decide) (fun c_4 => ?_) (fun c_4 => ?_)
  · obtain ⟨j, hj, rfl⟩ := isSp_of (bI_n c_4)
    have esp_j := isSp_nI hj
    have eix_j : ix (nI j) = j := nI_clamp (by omega)
    refine lv_aload_n hx hb dX2_put_10 rfl (lv_at hl 0 rfl) ?_
    refine mw_get (C := RX2) (T := TX2) (N := 8) F hK hW hI_X2 hZ.b.1 rfl 0 (by decide) hl_fieldLink_RX2_11_SpliceBench_spindles_LSpliceBench_Holding rfl dX2_put_11 ?_
    refine lv_iload_n hx hb dX2_put_14 rfl (lv_at hl 1 rfl) ?_
    refine mw_aald F hK hW 3 hZ.b.2.1 rfl (vp_in_nI (show j < 10 by omega) (by omega)) dX2_put_15 ?_
    rw [nI_clamp (show j < 2 ^ 31 by omega)]
    refine W.eq (g2 := F0 m 16 ls [.ref (tSp θ j)]) rfl ?_
    obtain ⟨pn, na, ca, lb, f, g, hH, ez, hfs, hgs, hlb⟩ := hZ.hold hI hj
    have hp8 := hH.2.1
    refine lv_astore (lv' := [(5, .ref (tSp θ j)), (0, .ref x), (1, .int (nI j)), (2, .int i), (3, .long v)]) hx hb dX2_put_16 hl (by decide) rfl (fun ls hl => ?_)
    refine lv_aload hx hb dX2_put_18 (lv_at hl 0 rfl) ?_
    refine mw_get (C := RX1) (T := TX1) (N := 5) F hK hW hI_X1 hH.1 rfl 0 (by decide) hl_fieldLink_RX2_46_SpliceBench_Holding_kind_I rfl dX2_put_20 ?_
    refine lv_if_ne (tgt := 28) hx hb dX2_put_23 (by decide) (fun c_23 => ?_) (fun c_23 => ?_)
    · refine lv_aload hx hb dX2_put_28 (lv_at hl 0 rfl) ?_
      refine mw_get (C := RX1) (T := TX1) (N := 5) F hK hW hI_X1 hH.1 rfl 0 (by decide) hl_fieldLink_RX2_46_SpliceBench_Holding_kind_I rfl dX2_put_30 ?_
      refine lv_iconst (v := 1) hx hb dX2_put_33 (by decide) ?_
      refine lv_icmp_ne (tgt := 46) hx hb dX2_put_34 (by decide) (fun c_34 => ?_) (fun c_34 => ?_)
      · refine lv_aload hx hb dX2_put_46 (lv_at hl 0 rfl) ?_
        refine vp_callSi (W.runV (As := []) (rest := []) F (c_X1_isRack hH.1) (cwV 0 hts gX2_put_X1_isRack rfl rfl rfl (by decide +kernel) ⟨Nat.le_of_ble_eq_true rfl, Nat.le_of_ble_eq_true rfl⟩) (mw_prV (q := (RX1, TX1, 5)) hK hO hW rfl hH.1) rfl rfl hl.1 rfl (lv_room (Nat.le_of_ble_eq_true rfl)) dX2_put_48 ⟨by show _ ≤ 1; omega, by show _ ≤ 3; omega⟩) (fun r_2 er_2 => ?_)
        subst er_2
        refine lv_if_eq (tgt := 63) hx hb dX2_put_51 (by decide) (fun c_51 => ?_) (fun c_51 => ?_)
        · have c_51 := bI_e c_51
          have hks : kStrip (kOf σ j) = true := by
            rcases kcase hI hj with h | h | h | h
            · exact absurd h c_23
            · exact absurd h c_34
            · exact h
            · rw [c_51] at h; cases h
          obtain ⟨k, n, hk, e9, hn, en, ezn⟩ := kRowOf hI hj c_23 c_34
          have hlv : liveR σ k := Inv.live hj e9
          have ek := kOf_row hk e9
          rw [ek] at hks
          rw [hZ.spRow hj hk e9] at hl
          obtain ⟨fr, gr, hHr, hfr, -⟩ := hZ.rowAt hk hlv en hn
          have hnr : rkOf σ j = false := by rw [rk_eq hI hj]; exact c_51
          refine lv_aload hx hb dX2_put_63 (lv_at hl 0 rfl) ?_
          refine lv_iload_n hx hb dX2_put_65 rfl (lv_at hl 3 rfl) ?_
          refine vp_callSi (W.runV (As := [.int i]) (rest := []) F (c_X1_hasPlace (i := i) hHr) (cwV 1 hts gX2_put_X1_hasPlace rfl rfl rfl (by decide +kernel) ⟨Nat.le_of_ble_eq_true rfl, Nat.le_of_ble_eq_true rfl⟩) (mw_prV (q := (RX1, TX1, 5)) hK hO hW rfl hHr.1) rfl rfl hl.1 rfl (lv_room (Nat.le_of_ble_eq_true rfl)) dX2_put_66 ⟨by show _ ≤ 1; omega, by show _ ≤ 3; omega⟩) (fun r_3 er_3 => ?_)
          subst er_3
          refine lv_if_ne (tgt := 75) hx hb dX2_put_69 (by decide) (fun c_69 => ?_) (fun c_69 => ?_)
          · have c_69 := bI_n c_69
            obtain ⟨i9, hi9, rfl⟩ := inPl_of hn c_69
            have eix_i : ix (nI i9) = i9 := nI_clamp (by omega)
            refine lv_aload hx hb dX2_put_75 (lv_at hl 0 rfl) ?_
            refine mw_get (C := RX1) (T := TX1) (N := 5) F hK hW hI_X1 hHr.1 rfl 2 (by decide) hl_fieldLink_RX2_63_SpliceBench_Holding_numbers_J rfl dX2_put_77 ?_
            refine lv_iload_n hx hb dX2_put_80 rfl (lv_at hl 3 rfl) ?_
            refine lv_aload hx hb dX2_put_81 (lv_at hl 0 rfl) ?_
            refine mw_get (C := RX1) (T := TX1) (N := 5) F hK hW hI_X1 hHr.1 rfl 0 (by decide) hl_fieldLink_RX2_46_SpliceBench_Holding_kind_I rfl dX2_put_83 ?_
            refine lv_iconst (v := 2) hx hb dX2_put_86 (by decide) ?_
            refine lv_icmp_ne (tgt := 96) hx hb dX2_put_87 (by decide) (fun c_87 => ?_) (fun c_87 => ?_)
            · refine lv_lload_n hx hb dX2_put_96 rfl (lv_at hl 4 rfl) ?_
              refine mw_last F hK hW hS 1 (hHr.nms hks) rfl (vp_in_nI hi9 (by omega)) dX2_put_97 (fun H locs hW hS => ?_)
              rw [nI_clamp (show i9 < 2 ^ 31 by omega)] at hW
              have hZ1 := hZ.rowN hk hlv hks en hn (P' := vp_updL (sPl σ) (80 * k + i9) v) (f' := vp_updL fr i9 v) (fun k' w hk' hne' hw => pk_uLn (by omega)) (fun w hw => by
                by_cases h : w = i9
                · subst h; rw [pk_uLs, pk_uLs]
                · rw [pk_uLn h, pk_uLn (by omega)]; exact hfr hks w hw)
              refine lv_iconst (v := 1) hx hb dX2_put_98 (by decide) ?_
              refine W.widen (k := 1) (n := 3) (by omega) (by omega) ?_
              exact W.iret hx hb hr (fun t ht hw => ⟨⟨_, _, rfl, (by
                have e8 : rfPut σ (nI j) (nI i9) v = (1, wPl σ (vp_updL (sPl σ) (80 * k + i9) v)) := by
                  unfold rfPut
                  rw [if_pos esp_j, eix_j, if_neg c_23, if_neg c_34, if_neg (fun z => by rw [hnr] at z; cases z.1), ezn, if_pos c_69, if_neg (fun z => by rw [ek] at z; rw [z.1] at hks; exact absurd hks (by decide)), if_neg (fun z => by rw [hnr] at z; cases z.1), rIx_row hk e9, eix_i, if_neg (fun z => c_87 (ek.symm.trans z))]
                rw [e8]; exact ⟨rfl, _, hZ1⟩), by rw [ht]; exact hW, va_K.moved hw.alike hK⟩, hS.F ht⟩) hS.2.2 dX2_put_99
            · refine lv_lload_n hx hb dX2_put_90 rfl (lv_at hl 4 rfl) ?_
              refine lv_l2i hx hb dX2_put_91 rfl ?_
              refine lv_i2l hx hb dX2_put_92 rfl ?_
              refine lv_goto (tgt := 97) hx hb dX2_put_93 (by decide) ?_
              refine mw_last F hK hW hS 1 (hHr.nms hks) rfl (vp_in_nI hi9 (by omega)) dX2_put_97 (fun H locs hW hS => ?_)
              rw [nI_clamp (show i9 < 2 ^ 31 by omega)] at hW
              have hZ1 := hZ.rowN hk hlv hks en hn (P' := vp_updL (sPl σ) (80 * k + i9) v.toInt32.toInt64) (f' := vp_updL fr i9 v.toInt32.toInt64) (fun k' w hk' hne' hw => pk_uLn (by omega)) (fun w hw => by
                by_cases h : w = i9
                · subst h; rw [pk_uLs, pk_uLs]
                · rw [pk_uLn h, pk_uLn (by omega)]; exact hfr hks w hw)
              refine lv_iconst (v := 1) hx hb dX2_put_98 (by decide) ?_
              refine W.widen (k := 1) (n := 3) (by omega) (by omega) ?_
              exact W.iret hx hb hr (fun t ht hw => ⟨⟨_, _, rfl, (by
                have e8 : rfPut σ (nI j) (nI i9) v = (1, wPl σ (vp_updL (sPl σ) (80 * k + i9) v.toInt32.toInt64)) := by
                  unfold rfPut
                  rw [if_pos esp_j, eix_j, if_neg c_23, if_neg c_34, if_neg (fun z => by rw [hnr] at z; cases z.1), ezn, if_pos c_69, if_neg (fun z => by rw [ek] at z; rw [z.1] at hks; exact absurd hks (by decide)), if_neg (fun z => by rw [hnr] at z; cases z.1), rIx_row hk e9, eix_i, if_pos (ek.trans c_87)]
                rw [e8]; exact ⟨rfl, _, hZ1⟩), by rw [ht]; exact hW, va_K.moved hw.alike hK⟩, hS.F ht⟩) hS.2.2 dX2_put_99
          · have c_69 := bI_e c_69
            refine lv_bipush (v := (-3)) hx hb dX2_put_72 (by decide) ?_
            refine W.widen (k := 1) (n := 3) (by omega) (by omega) ?_
            exact W.iret hx hb hr (fun t ht hw => ⟨⟨_, _, rfl, (by
              have e8 : rfPut σ (nI j) i v = (-3, σ) := by
                unfold rfPut
                rw [if_pos esp_j, eix_j, if_neg c_23, if_neg c_34, if_neg (fun z => by rw [hnr] at z; cases z.1), ezn, if_neg (by rw [c_69]; decide)]
              rw [e8]; exact ⟨rfl, θ, hZ⟩), by rw [ht]; exact hW, va_K.moved hw.alike hK⟩, hS.F ht⟩) hS.2.2 dX2_put_74
        · have c_51 := bI_n c_51
          refine lv_aload_n hx hb dX2_put_54 rfl (lv_at hl 1 rfl) ?_
          refine lv_aload hx hb dX2_put_55 (lv_at hl 0 rfl) ?_
          refine lv_iload_n hx hb dX2_put_57 rfl (lv_at hl 3 rfl) ?_
          refine lv_lload_n hx hb dX2_put_58 rfl (lv_at hl 4 rfl) ?_
          refine mw_calli (va_runV (As := [.ref (tSp θ j), .int i, .long v]) (rest := []) F (c_X2_putCard (i := i) (v := v) hZ hI hj c_51 hcc) (cwV 3 hts gX2_put_X2_putCard rfl rfl rfl (by decide +kernel) ⟨Nat.le_of_ble_eq_true rfl, Nat.le_of_ble_eq_true rfl⟩) (mw_prV (q := (RX2, TX2, 8)) hK hO hW rfl hZ.b.1) rfl rfl hl.1 rfl (lv_room (Nat.le_of_ble_eq_true rfl)) dX2_put_59 ⟨Nat.le_of_ble_eq_true rfl, Nat.le_of_ble_eq_true rfl⟩) hW hS hA (fun r M1 H locs h9 hW hS => ?_)
          refine W.widen (k := 1) (n := 3) (by omega) (by omega) ?_
          exact W.iret hx hb hr (fun t ht hw => ⟨⟨_, _, rfl, h9, by rw [ht]; exact hW, va_K.moved hw.alike hK⟩, hS.F ht⟩) hS.2.2 dX2_put_62
      · obtain ⟨k9, hk9, e9⟩ : ∃ k, k < 10 ∧ sHo σ j = -1 - nI k := by
          rcases hI.ho hj with h0 | h0 | ⟨k, hk, h0⟩
          · exact absurd (kOf_0 h0) c_23
          · exact h0
          · exact absurd (c_34 ▸ (kOf_row hk h0).symm) (hI.kn hk (Inv.live hj h0)).2
        have esl : tSp θ j = tLa θ k9 := by
          rcases hZ.2.1 j hj with ⟨h, -⟩ | ⟨q, hq, h, e⟩ | ⟨q, hq, h, -⟩
          · rw [h] at e9; exact absurd e9.symm (lab_n0 hk9)
          · rw [e, lab_inj q hq k9 hk9 (h.symm.trans e9)]
          · rw [h] at e9; exact absurd e9.symm (lab_row k9 hk9 q hq)
        have hp0 : pn = 0 := by
          rcases Nat.eq_zero_or_pos pn with h7 | h7
          · exact h7
          · exact (hZ.p0 hI hj ez hp8 (by omega) (Or.inr c_34)).elim
        rw [c_34, hp0, esl] at hH
        rw [esl] at hl
        refine lv_aload hx hb dX2_put_37 (lv_at hl 0 rfl) ?_
        refine lv_lload_n hx hb dX2_put_39 rfl (lv_at hl 4 rfl) ?_
        refine lv_l2i hx hb dX2_put_40 rfl ?_
        refine mw_put (C := RX1) (T := TX1) (N := 5) (v := .int v.toInt32) F hK hW hS hI_X1 tyX1 tyX1_ok nmX1 hH.1 rfl 4 (by decide) hl_fieldLink_RX2_49_SpliceBench_Holding_label_I rfl rfl rfl (Nat.le_of_ble_eq_true rfl) dX2_put_41 (fun H locs hW hS => ?_)
        have hZ1 := hZ.putLab hI (v := v.toInt32) hj hk9 e9 hH
        refine lv_iconst (v := 1) hx hb dX2_put_44 (by decide) ?_
        refine W.widen (k := 1) (n := 3) (by omega) (by omega) ?_
        exact W.iret hx hb hr (fun t ht hw => ⟨⟨_, _, rfl, (by
          have e8 : rfPut σ (nI j) i v = (1, wLa σ (upd (sLa σ) k9 v.toInt32)) := by
            unfold rfPut
            rw [if_pos esp_j, eix_j, if_neg c_23, if_pos c_34, e9, lab_ix k9 hk9]
            simp only [ix, nI_clamp (show k9 < 2 ^ 31 by omega)]
          rw [e8]; exact ⟨rfl, _, hZ1⟩), by rw [ht]; exact hW, va_K.moved hw.alike hK⟩, hS.F ht⟩) hS.2.2 dX2_put_45
    · refine lv_iconst (v := (-1)) hx hb dX2_put_26 (by decide) ?_
      refine W.widen (k := 1) (n := 3) (by omega) (by omega) ?_
      exact W.iret hx hb hr (fun t ht hw => ⟨⟨_, _, rfl, (by
        have e8 : rfPut σ (nI j) i v = (-1, σ) := by
          unfold rfPut
          rw [if_pos esp_j, eix_j, if_pos c_23]
        rw [e8]; exact ⟨rfl, θ, hZ⟩), by rw [ht]; exact hW, va_K.moved hw.alike hK⟩, hS.F ht⟩) hS.2.2 dX2_put_27
  · have c_4 := bI_e c_4
    refine lv_bipush (v := (-9)) hx hb dX2_put_7 (by decide) ?_
    refine W.widen (k := 1) (n := 3) (by omega) (by omega) ?_
    exact W.iret hx hb hr (fun t ht hw => ⟨⟨_, _, rfl, (by
      have e8 : rfPut σ s0 i v = (-9, σ) := by simp [rfPut, c_4]
      rw [e8]; exact ⟨rfl, θ, hZ⟩), by rw [ht]; exact hW, va_K.moved hw.alike hK⟩, hS.F ht⟩) hS.2.2 dX2_put_9
end X2P
