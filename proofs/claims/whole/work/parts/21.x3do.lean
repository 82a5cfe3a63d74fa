section X3D
variable {l : Launch} {D : va_G} {cI cJ cC cH : ClassId} {M : Nat → Option va_E} {sz : Nat}
theorem cpy_s {α : Type} (f g : Nat → α) (sp dp n : Nat) : va_up (va_cpy f g sp dp n) (dp + n) (f (sp + n)) = va_cpy f g sp dp (n + 1) := by
  funext x
  unfold va_up va_cpy
  by_cases hx : x = dp + n
  · subst hx
    rw [if_pos rfl, if_pos (by omega), show dp + n - dp = n by omega]
  · rw [if_neg hx]
    by_cases h : dp ≤ x ∧ x < dp + n
    · rw [if_pos h, if_pos (by omega)]
    · rw [if_neg h, if_neg (by omega)]
theorem cpy_sL (f g : Nat → Int64) (sp dp n : Nat) : vp_updL (va_cpy f g sp dp n) (dp + n) (f (sp + n)) = va_cpy f g sp dp (n + 1) := cpy_s f g sp dp n
theorem cpy_0 {α : Type} (f g : Nat → α) (sp dp : Nat) : va_cpy f g sp dp 0 = g := by
  funext x
  unfold va_cpy
  rw [if_neg (by omega)]
theorem refAt.to {cI cJ : ClassId} {mm : Nat} {ad : Nat → Nat} {σ σ' : RS} {M : Nat → Option va_E} (h : refAt cI cJ mm ad σ M) (e : σ = σ') : refAt cI cJ mm ad σ' M := e ▸ h
def rfFails (σ : RS) (t : Nat) : RS := wCam (wFa σ (upd (sFa σ) t (sFa σ t + 1))) 0
def rfCover (σ : RS) (k n : Nat) : RS := wWa (wCov σ (nI k)) (va_cpy (sPl σ) (sWa σ) (80 * k) 0 n)
abbrev rmX3_fails : Room := ({ frames := 0, cells := 0, slots := 0, locals := 0 } : Room)
set_option maxHeartbeats 4000000 in
set_option maxRecDepth 100000 in
theorem c_X3_fails {mm : Nat} {ad : Nat → Nat} {σ : RS} (hR : refAt cI cJ mm ad σ M) {t5 : Nat} (ht5 : t5 < 5) : Met l yX3_fails wsX3_fails rmX3_fails (va_Pc [.ref mm, .int (nI t5)] (mwPre D (tyL cI cJ cC cH) M sz)) (va_Qi (fun r M' => r = -nI t5 ∧ refAt cI cJ mm ad (rfFails σ t5) M') (mwB D (tyL cI cJ cC cH) M sz) (mwA M sz)) 0 0 (mwA M sz) := by
  refine Met.ofW (cc := cX3_fails) (maxL := 2) (ret := (some .int)) (by decide) rfl ?_
  intro pr env s m args below meth c s₁ B hml hv
  obtain ⟨rfl, hsz, hW, hK, hO⟩ := hv
  subst hsz
  have hW := hW.self (sz := s.heap.size)
  have hS : va_S (mwA M s.heap.size) s.heap s.heap [] := va_S.rf
  have hA : ∀ q, s.heap.size ≤ q → mwA M s.heap.size q := fun q h => Or.inr h
  have hx := B.exec
  have hb := B.bytes
  have hr := B.returns
  have hts := atoms_spec (ws := wsX3_fails) B.pre
  have hown : s.vm.findClass RX3 = some m.cls := findClass_of_methodNamed B.named
  have hlocks := B.notSynchronized
  have F : CallFix pr m c cX3_fails 2 s ([.ref mm, .int (nI t5)] : List Value).toArray wsX3_fails RX3 := ⟨hx, hb, hml, hown, hts⟩
  have hI_X3 : ∀ w ∈ wsX30, w ∈ wsX3_fails := by decide +kernel
  have hl_fieldLink_RX3_35_SpliceBenchModel_failed_I := hts (.fieldLink RX3 35 "SpliceBenchModel" "failed" "[I") (by decide +kernel)
  have hl_fieldLink_RX3_69_SpliceBenchModel_came_I := hts (.fieldLink RX3 69 "SpliceBenchModel" "came" "I") (by decide +kernel)
  have hl := lv_entry ([.ref mm, .int (nI t5)]) (n := 2) (Nat.le_of_ble_eq_true rfl)
  rw [lg_entry_eq]
  generalize (lg_sl ([.ref mm, .int (nI t5)]) ++ List.replicate (2 - (lg_sl ([.ref mm, .int (nI t5)])).length) Slot.unset).toArray = ls at hl ⊢
  have hl : lv_has ls 2 [(0, .ref mm), (1, .int (nI t5))] := hl
  refine lv_aload_n hx hb dX3_fails_0 rfl (lv_at hl 0 rfl) ?_
  refine mw_get (C := RX3) (T := TX3) (N := 14) F hK hW hI_X3 hR.1 rfl 8 (by decide) hl_fieldLink_RX3_35_SpliceBenchModel_failed_I rfl dX3_fails_1 ?_
  refine lv_iload_n hx hb dX3_fails_4 rfl (lv_at hl 1 rfl) ?_
  refine lv_dup2_11 hx hb dX3_fails_5 rfl rfl ?_
  refine mw_iald F hK hW 0 hR.2.2.2.2.2.2.2.2.2.1 rfl (vp_in_nI (show t5 < 5 by omega) (by omega)) dX3_fails_6 ?_
  rw [nI_clamp (show t5 < 2 ^ 31 by omega)]
  refine lv_iconst (v := 1) hx hb dX3_fails_7 (by decide) ?_
  refine lv_iadd hx hb dX3_fails_8 ?_
  refine mw_iast F hK hW hS 0 hR.2.2.2.2.2.2.2.2.2.1 rfl (vp_in_nI (show t5 < 5 by omega) (by omega)) dX3_fails_9 (fun H locs hW hS => ?_)
  rw [nI_clamp (show t5 < 2 ^ 31 by omega)] at hW
  have hR := hR.wFa (upd (sFa σ) t5 (((sFa σ) t5) + 1))
  refine lv_aload_n hx hb dX3_fails_10 rfl (lv_at hl 0 rfl) ?_
  refine lv_iconst (v := 0) hx hb dX3_fails_11 (by decide) ?_
  refine mw_put (C := RX3) (T := TX3) (N := 14) (v := .int 0) F hK hW hS hI_X3 tyX3 tyX3_ok nmX3 (show _ = some (Sum.inr (3, [.ref (ad 0), .ref (ad 1), .ref (ad 2), .ref (ad 3), .ref (ad 4), .ref (ad 5), .ref (ad 6), .ref (ad 7), .ref (ad 8), .int (sCov σ), .int (sCam σ), .int (sGoo σ), .int (sRow σ), .int (sCar σ)])) from hR.1) rfl 10 (by decide) hl_fieldLink_RX3_69_SpliceBenchModel_came_I rfl rfl rfl (Nat.le_of_ble_eq_true rfl) dX3_fails_12 (fun H locs hW hS => ?_)
  have hR := hR.wCam 0
  refine lv_iload_n hx hb dX3_fails_15 rfl (lv_at hl 1 rfl) ?_
  refine lv_ineg hx hb dX3_fails_16 ?_
  exact W.iret hx hb hr (fun t ht hw => ⟨⟨_, _, rfl, ⟨rfl, hR⟩, by rw [ht]; exact hW, va_K.moved hw.alike hK⟩, hS.F ht⟩) hS.2.2 dX3_fails_17
abbrev rmX3_cover : Room := ({ frames := 0, cells := 0, slots := 0, locals := 0 } : Room)
set_option maxHeartbeats 4000000 in
set_option maxRecDepth 100000 in
theorem c_X3_cover {mm : Nat} {ad : Nat → Nat} {σ : RS} (hR : refAt cI cJ mm ad σ M) {k n : Nat} (hk : k < 12) (hn : n ≤ 80) (en : sSi σ k = nI n) : Met l yX3_cover wsX3_cover rmX3_cover (va_Pc [.ref mm, .int (nI k)] (mwPre D (tyL cI cJ cC cH) M sz)) (va_Qv (fun M' => refAt cI cJ mm ad (rfCover σ k n) M') (mwB D (tyL cI cJ cC cH) M sz) (mwA M sz)) 0 0 (mwA M sz) := by
  refine Met.ofW (cc := cX3_cover) (maxL := 3) (ret := none) (by decide) rfl ?_
  intro pr env s m args below meth c s₁ B hml hv
  obtain ⟨rfl, hsz, hW, hK, hO⟩ := hv
  subst hsz
  have hW := hW.self (sz := s.heap.size)
  have hS : va_S (mwA M s.heap.size) s.heap s.heap [] := va_S.rf
  have hA : ∀ q, s.heap.size ≤ q → mwA M s.heap.size q := fun q h => Or.inr h
  have hx := B.exec
  have hb := B.bytes
  have hr := B.returns
  have hts := atoms_spec (ws := wsX3_cover) B.pre
  have hown : s.vm.findClass RX3 = some m.cls := findClass_of_methodNamed B.named
  have hlocks := B.notSynchronized
  have F : CallFix pr m c cX3_cover 3 s ([.ref mm, .int (nI k)] : List Value).toArray wsX3_cover RX3 := ⟨hx, hb, hml, hown, hts⟩
  have hI_X3 : ∀ w ∈ wsX30, w ∈ wsX3_cover := by decide +kernel
  have hl_fieldLink_RX3_38_SpliceBenchModel_covered_I := hts (.fieldLink RX3 38 "SpliceBenchModel" "covered" "I") (by decide +kernel)
  have hl_fieldLink_RX3_19_SpliceBenchModel_size_I := hts (.fieldLink RX3 19 "SpliceBenchModel" "size" "[I") (by decide +kernel)
  have hl_fieldLink_RX3_26_SpliceBenchModel_was_J := hts (.fieldLink RX3 26 "SpliceBenchModel" "was" "[J") (by decide +kernel)
  have hl_fieldLink_RX3_22_SpliceBenchModel_places_J := hts (.fieldLink RX3 22 "SpliceBenchModel" "places" "[J") (by decide +kernel)
  have hl := lv_entry ([.ref mm, .int (nI k)]) (n := 3) (Nat.le_of_ble_eq_true rfl)
  rw [lg_entry_eq]
  generalize (lg_sl ([.ref mm, .int (nI k)]) ++ List.replicate (3 - (lg_sl ([.ref mm, .int (nI k)])).length) Slot.unset).toArray = ls at hl ⊢
  have hl : lv_has ls 3 [(0, .ref mm), (1, .int (nI k))] := hl
  refine lv_aload_n hx hb dX3_cover_0 rfl (lv_at hl 0 rfl) ?_
  refine lv_iload_n hx hb dX3_cover_1 rfl (lv_at hl 1 rfl) ?_
  refine mw_put (C := RX3) (T := TX3) (N := 14) (v := .int (nI k)) F hK hW hS hI_X3 tyX3 tyX3_ok nmX3 hR.1 rfl 9 (by decide) hl_fieldLink_RX3_38_SpliceBenchModel_covered_I rfl rfl rfl (Nat.le_of_ble_eq_true rfl) dX3_cover_2 (fun H locs hW hS => ?_)
  have hR := hR.wCov (nI k)
  refine lv_iconst (v := 0) hx hb dX3_cover_5 (by decide) ?_
  refine lv_istore_n (lv' := [(2, .int 0), (0, .ref mm), (1, .int (nI k))]) hx hb dX3_cover_6 rfl hl (by decide) rfl (fun ls hl => ?_)
  have hR := hR.to (σ' := wWa (wCov σ (nI k)) (va_cpy (sPl σ) (sWa σ) (80 * k) 0 0)) (by rw [cpy_0]; rfl)
  have loop : ∀ (N : Nat) (i : Nat) (M1 : Nat → Option va_E) (H : Heap) (locs : List Loc), n + 1 ≤ i + N → i ≤ n → mw D (mwA M s.heap.size) M1 H → va_S (mwA M s.heap.size) s.heap H locs → refAt cI cJ mm ad (wWa (wCov σ (nI k)) (va_cpy (sPl σ) (sWa σ) (80 * k) 0 i)) M1 → ∀ (ls : Array Slot), lv_has ls 3 [(2, .int (nI i)), (0, .ref mm), (1, .int (nI k))] → W pr l env (headSpec wsX3_cover rmX3_cover).room s m ([.ref mm, .int (nI k)] : List Value).toArray below meth c H locs 0 0 (MQ below (va_Qv (fun M' => refAt cI cJ mm ad (rfCover σ k n) M') (mwB D (tyL cI cJ cC cH) M s.heap.size) (mwA M s.heap.size)) ([.ref mm, .int (nI k)] : List Value).toArray s 0 0 (mwA M s.heap.size)) (F0 m 7 ls []) := by
    intro N
    induction N with
    | zero =>
      exact fun i M1 H locs h1 h2 => absurd h1 (by omega)
    | succ N ih =>
      intro i M1 H locs hN hi hW hS hR ls hl
      refine lv_iload_n hx hb dX3_cover_7 rfl (lv_at hl 0 rfl) ?_
      refine lv_aload_n hx hb dX3_cover_8 rfl (lv_at hl 1 rfl) ?_
      refine mw_get (C := RX3) (T := TX3) (N := 14) F hK hW hI_X3 (show _ = some (Sum.inr (3, [.ref (ad 0), .ref (ad 1), .ref (ad 2), .ref (ad 3), .ref (ad 4), .ref (ad 5), .ref (ad 6), .ref (ad 7), .ref (ad 8), .int (nI k), .int (sCam σ), .int (sGoo σ), .int (sRow σ), .int (sCar σ)])) from hR.1) rfl 3 (by decide) hl_fieldLink_RX3_19_SpliceBenchModel_size_I rfl dX3_cover_9 ?_
      refine lv_iload_n hx hb dX3_cover_12 rfl (lv_at hl 2 rfl) ?_
      refine mw_iald F hK hW 0 (show _ = some (Sum.inl (cI, 12, Sum.inl (sSi σ))) from hR.2.2.2.2.1) rfl (vp_in_nI (show k < 12 by omega) (by omega)) dX3_cover_13 ?_
      rw [nI_clamp (show k < 2 ^ 31 by omega)]
      rw [en]
      refine lv_icmp_ge (tgt := 40) hx hb dX3_cover_14 (by decide) (fun c_14 => ?_) (fun c_14 => ?_)
      · exact W.vret hx hb hr (fun t ht hw => ⟨⟨_, rfl, (by rw [show i = n by have := (nI_leI (by omega) (by omega)).mp c_14; omega] at hR; exact hR), by rw [ht]; exact hW, va_K.moved hw.alike hK⟩, hS.F ht⟩) hS.2.2 dX3_cover_40
      · have hin : i < n := by
          rcases Nat.lt_or_ge i n with h9 | h9
          · exact h9
          · exact absurd (nI_le h9 (by omega)) c_14
        refine lv_aload_n hx hb dX3_cover_17 rfl (lv_at hl 1 rfl) ?_
        refine mw_get (C := RX3) (T := TX3) (N := 14) F hK hW hI_X3 (show _ = some (Sum.inr (3, [.ref (ad 0), .ref (ad 1), .ref (ad 2), .ref (ad 3), .ref (ad 4), .ref (ad 5), .ref (ad 6), .ref (ad 7), .ref (ad 8), .int (nI k), .int (sCam σ), .int (sGoo σ), .int (sRow σ), .int (sCar σ)])) from hR.1) rfl 5 (by decide) hl_fieldLink_RX3_26_SpliceBenchModel_was_J rfl dX3_cover_18 ?_
        refine lv_iload_n hx hb dX3_cover_21 rfl (lv_at hl 0 rfl) ?_
        refine lv_aload_n hx hb dX3_cover_22 rfl (lv_at hl 1 rfl) ?_
        refine mw_get (C := RX3) (T := TX3) (N := 14) F hK hW hI_X3 (show _ = some (Sum.inr (3, [.ref (ad 0), .ref (ad 1), .ref (ad 2), .ref (ad 3), .ref (ad 4), .ref (ad 5), .ref (ad 6), .ref (ad 7), .ref (ad 8), .int (nI k), .int (sCam σ), .int (sGoo σ), .int (sRow σ), .int (sCar σ)])) from hR.1) rfl 4 (by decide) hl_fieldLink_RX3_22_SpliceBenchModel_places_J rfl dX3_cover_23 ?_
        refine lv_bipush (v := 80) hx hb dX3_cover_26 (by decide) ?_
        refine lv_iload_n hx hb dX3_cover_28 rfl (lv_at hl 2 rfl) ?_
        refine lv_imul hx hb dX3_cover_29 ?_
        rw [show (80 : Int32) = nI 80 from rfl, pk_mul]
        refine lv_iload_n hx hb dX3_cover_30 rfl (lv_at hl 0 rfl) ?_
        refine lv_iadd hx hb dX3_cover_31 ?_
        rw [nI_add]
        refine mw_lald F hK hW 1 (show _ = some (Sum.inl (cJ, 960, Sum.inr (Sum.inl (sPl σ)))) from hR.2.2.2.2.2.1) rfl (vp_in_nI (show (80 * k + i) < 960 by omega) (by omega)) dX3_cover_32 ?_
        rw [nI_clamp (show (80 * k + i) < 2 ^ 31 by omega)]
        refine mw_last F hK hW hS 1 (show _ = some (Sum.inl (cJ, 80, Sum.inr (Sum.inl (va_cpy (sPl σ) (sWa σ) (80 * k) 0 i)))) from hR.2.2.2.2.2.2.1) rfl (vp_in_nI (show i < 80 by omega) (by omega)) dX3_cover_33 (fun H locs hW hS => ?_)
        rw [nI_clamp (show i < 2 ^ 31 by omega)] at hW
        rw [show vp_updL (va_cpy (sPl σ) (sWa σ) (80 * k) 0 i) i ((sPl σ) (80 * k + i)) = va_cpy (sPl σ) (sWa σ) (80 * k) 0 (i + 1) from (by have := cpy_sL (sPl σ) (sWa σ) (80 * k) 0 i; rw [Nat.zero_add] at this; exact this)] at hW
        have hR := hR.wWa (va_cpy (sPl σ) (sWa σ) (80 * k) 0 (i + 1))
        have hR : refAt cI cJ mm ad (wWa (wCov σ (nI k)) (va_cpy (sPl σ) (sWa σ) (80 * k) 0 (i + 1))) _ := hR
        refine lv_iinc (v := nI (i + 1)) (lv' := [(2, .int (nI (i + 1))), (0, .ref mm), (1, .int (nI k))]) hx hb dX3_cover_34 hl (k := 0) rfl (nI_1 i) (by decide) rfl (fun ls hl => ?_)
        refine lv_goto (tgt := 7) hx hb dX3_cover_37 (by decide) ?_
        exact ih (i + 1) _ H locs (by omega) (by omega) hW hS hR ls (lv_sub hl [0, 1, 2] rfl)
  exact loop (n + 1) 0 _ _ _ (by omega) (Nat.zero_le _) hW hS hR ls (lv_sub hl [0, 1, 2] rfl)
abbrev rmX3_thread : Room := ({ frames := 1, cells := 0, slots := 0, locals := 21 } : Room)
set_option maxHeartbeats 4000000 in
set_option maxRecDepth 100000 in
theorem c_X3_thread {mm : Nat} {ad : Nat → Nat} {σ : RS} (hR : refAt cI cJ mm ad σ M) {cc : Nat} (hI : Inv σ cc) {s0 t0 : Int32} : Met l yX3_thread wsX3_thread rmX3_thread (va_Pc [.ref mm, .int s0, .int t0] (mwPre D (tyL cI cJ cC cH) M sz)) (va_Qi (fun r M' => r = (rfThread σ s0 t0).1 ∧ refAt cI cJ mm ad (rfThread σ s0 t0).2 M') (mwB D (tyL cI cJ cC cH) M sz) (mwA M sz)) 0 0 (mwA M sz) := by
  refine Met.ofW (cc := cX3_thread) (maxL := 3) (ret := (some .int)) (by decide) rfl ?_
  intro pr env s m args below meth c s₁ B hml hv
  obtain ⟨rfl, hsz, hW, hK, hO⟩ := hv
  subst hsz
  have hW := hW.self (sz := s.heap.size)
  have hS : va_S (mwA M s.heap.size) s.heap s.heap [] := va_S.rf
  have hA : ∀ q, s.heap.size ≤ q → mwA M s.heap.size q := fun q h => Or.inr h
  have hx := B.exec
  have hb := B.bytes
  have hr := B.returns
  have hts := atoms_spec (ws := wsX3_thread) B.pre
  have hown : s.vm.findClass RX3 = some m.cls := findClass_of_methodNamed B.named
  have hlocks := B.notSynchronized
  have F : CallFix pr m c cX3_thread 3 s ([.ref mm, .int s0, .int t0] : List Value).toArray wsX3_thread RX3 := ⟨hx, hb, hml, hown, hts⟩
  have hI_X3 : ∀ w ∈ wsX30, w ∈ wsX3_thread := by decide +kernel
  have hl_fieldLink_RX3_7_SpliceBenchModel_holds_I := hts (.fieldLink RX3 7 "SpliceBenchModel" "holds" "[I") (by decide +kernel)
  have hl := lv_entry ([.ref mm, .int s0, .int t0]) (n := 3) (Nat.le_of_ble_eq_true rfl)
  rw [lg_entry_eq]
  generalize (lg_sl ([.ref mm, .int s0, .int t0]) ++ List.replicate (3 - (lg_sl ([.ref mm, .int s0, .int t0])).length) Slot.unset).toArray = ls at hl ⊢
  have hl : lv_has ls 3 [(0, .ref mm), (1, .int s0), (2, .int t0)] := hl
  refine lv_iload_n hx hb dX3_thread_0 rfl (lv_at hl 1 rfl) ?_
  refine vp_callSi (W.runS (As := [.int s0]) (rest := []) F (c_X3_isSpindle) (cwS 1 hts gX3_thread_X3_isSpindle rfl rfl rfl (by decide +kernel) ⟨Nat.le_of_ble_eq_true rfl, Nat.le_of_ble_eq_true rfl⟩) (mw_prS hK hO hW) rfl rfl hl.1 rfl (lv_room (Nat.le_of_ble_eq_true rfl)) dX3_thread_1 ⟨Nat.zero_le _, Nat.zero_le _⟩) (fun r_1 er_1 => ?_)
  subst er_1
  refine lv_if_eq (tgt := 14) hx hb dX3_thread_4 (by decide) (fun c_4 => ?_) (fun c_4 => ?_)
  · have c_4 := bI_e c_4
    refine lv_bipush (v := (-9)) hx hb dX3_thread_14 (by decide) ?_
    exact W.iret hx hb hr (fun t ht hw => ⟨⟨_, _, rfl, (by
      have e8 : rfThread σ s0 t0 = (-9, σ) := by simp [rfThread, c_4]
      rw [e8]; exact ⟨rfl, hR⟩), by rw [ht]; exact hW, va_K.moved hw.alike hK⟩, hS.F ht⟩) hS.2.2 dX3_thread_16
  · obtain ⟨j, hj, rfl⟩ := isSp_of (bI_n c_4)
    have esp_j := isSp_nI hj
    have eix_j : ix (nI j) = j := nI_clamp (by omega)
    refine lv_iload_n hx hb dX3_thread_7 rfl (lv_at hl 2 rfl) ?_
    refine vp_callSi (W.runS (As := [.int t0]) (rest := []) F (c_X3_isSpindle) (cwS 1 hts gX3_thread_X3_isSpindle rfl rfl rfl (by decide +kernel) ⟨Nat.le_of_ble_eq_true rfl, Nat.le_of_ble_eq_true rfl⟩) (mw_prS hK hO hW) rfl rfl hl.1 rfl (lv_room (Nat.le_of_ble_eq_true rfl)) dX3_thread_8 ⟨Nat.zero_le _, Nat.zero_le _⟩) (fun r_2 er_2 => ?_)
    subst er_2
    refine lv_if_ne (tgt := 17) hx hb dX3_thread_11 (by decide) (fun c_11 => ?_) (fun c_11 => ?_)
    · obtain ⟨j2, hj2, rfl⟩ := isSp_of (bI_n c_11)
      have esp_j2 := isSp_nI hj2
      have eix_j2 : ix (nI j2) = j2 := nI_clamp (by omega)
      refine lv_aload_n hx hb dX3_thread_17 rfl (lv_at hl 0 rfl) ?_
      refine mw_get (C := RX3) (T := TX3) (N := 14) F hK hW hI_X3 hR.1 rfl 0 (by decide) hl_fieldLink_RX3_7_SpliceBenchModel_holds_I rfl dX3_thread_18 ?_
      refine lv_iload_n hx hb dX3_thread_21 rfl (lv_at hl 1 rfl) ?_
      refine lv_aload_n hx hb dX3_thread_22 rfl (lv_at hl 0 rfl) ?_
      refine mw_get (C := RX3) (T := TX3) (N := 14) F hK hW hI_X3 hR.1 rfl 0 (by decide) hl_fieldLink_RX3_7_SpliceBenchModel_holds_I rfl dX3_thread_23 ?_
      refine lv_iload_n hx hb dX3_thread_26 rfl (lv_at hl 2 rfl) ?_
      refine mw_iald F hK hW 0 hR.2.1 rfl (vp_in_nI (show j2 < 10 by omega) (by omega)) dX3_thread_27 ?_
      rw [nI_clamp (show j2 < 2 ^ 31 by omega)]
      refine mw_iast F hK hW hS 0 hR.2.1 rfl (vp_in_nI (show j < 10 by omega) (by omega)) dX3_thread_28 (fun H locs hW hS => ?_)
      rw [nI_clamp (show j < 2 ^ 31 by omega)] at hW
      have hR := hR.wHo (upd (sHo σ) j ((sHo σ) j2))
      refine lv_aload_n hx hb dX3_thread_29 rfl (lv_at hl 0 rfl) ?_
      refine lv_iload_n hx hb dX3_thread_30 rfl (lv_at hl 1 rfl) ?_
      have hup : upd (sHo σ) j (sHo σ j2) j = sHo σ j2 := by simp [upd]
      refine vp_callSi (W.runV (As := [.int (nI j)]) (rest := []) F (c_X3_kindOf hR (show j < 10 by omega) (by show hoOk (upd (sHo σ) j (sHo σ j2) j); rw [hup]; exact hI.ho hj2)) (cwV 1 hts gX3_thread_X3_kindOf rfl rfl rfl (by decide +kernel) ⟨Nat.le_of_ble_eq_true rfl, Nat.le_of_ble_eq_true rfl⟩) (mw_prV (q := (RX3, TX3, 14)) hK hO hW rfl (show _ = some (Sum.inr (3, [.ref (ad 0), .ref (ad 1), .ref (ad 2), .ref (ad 3), .ref (ad 4), .ref (ad 5), .ref (ad 6), .ref (ad 7), .ref (ad 8), .int (sCov σ), .int (sCam σ), .int (sGoo σ), .int (sRow σ), .int (sCar σ)])) from hR.1)) rfl rfl hl.1 rfl (lv_room (Nat.le_of_ble_eq_true rfl)) dX3_thread_31 ⟨Nat.zero_le _, Nat.zero_le _⟩) (fun r_3 er_3 => ?_)
      subst er_3
      exact W.iret hx hb hr (fun t ht hw => ⟨⟨_, _, rfl, (by
        have e8 : rfThread σ (nI j) (nI j2) = (kOf (wHo σ (upd (sHo σ) j (sHo σ j2))) j, wHo σ (upd (sHo σ) j (sHo σ j2))) := by simp [rfThread, esp_j, esp_j2, eix_j, eix_j2]
        rw [e8]; exact ⟨rfl, hR⟩), by rw [ht]; exact hW, va_K.moved hw.alike hK⟩, hS.F ht⟩) hS.2.2 dX3_thread_34
    · have c_11 := bI_e c_11
      refine lv_bipush (v := (-9)) hx hb dX3_thread_14 (by decide) ?_
      exact W.iret hx hb hr (fun t ht hw => ⟨⟨_, _, rfl, (by
        have e8 : rfThread σ (nI j) t0 = (-9, σ) := by simp [rfThread, c_11]
        rw [e8]; exact ⟨rfl, hR⟩), by rw [ht]; exact hW, va_K.moved hw.alike hK⟩, hS.F ht⟩) hS.2.2 dX3_thread_16
abbrev rmX3_back : Room := ({ frames := 0, cells := 0, slots := 0, locals := 0 } : Room)
set_option maxHeartbeats 4000000 in
set_option maxRecDepth 100000 in
theorem c_X3_back {mm : Nat} {ad : Nat → Nat} {σ : RS} (hR : refAt cI cJ mm ad σ M) {cc : Nat} (hI : Inv σ cc) : Met l yX3_back wsX3_back rmX3_back (va_Pc [.ref mm] (mwPre D (tyL cI cJ cC cH) M sz)) (va_Qi (fun r M' => r = (rfBack σ).1 ∧ refAt cI cJ mm ad (rfBack σ).2 M') (mwB D (tyL cI cJ cC cH) M sz) (mwA M sz)) 0 0 (mwA M sz) := by
  refine Met.ofW (cc := cX3_back) (maxL := 2) (ret := (some .int)) (by decide) rfl ?_
  intro pr env s m args below meth c s₁ B hml hv
  obtain ⟨rfl, hsz, hW, hK, hO⟩ := hv
  subst hsz
  have hW := hW.self (sz := s.heap.size)
  have hS : va_S (mwA M s.heap.size) s.heap s.heap [] := va_S.rf
  have hA : ∀ q, s.heap.size ≤ q → mwA M s.heap.size q := fun q h => Or.inr h
  have hx := B.exec
  have hb := B.bytes
  have hr := B.returns
  have hts := atoms_spec (ws := wsX3_back) B.pre
  have hown : s.vm.findClass RX3 = some m.cls := findClass_of_methodNamed B.named
  have hlocks := B.notSynchronized
  have F : CallFix pr m c cX3_back 2 s ([.ref mm] : List Value).toArray wsX3_back RX3 := ⟨hx, hb, hml, hown, hts⟩
  have hI_X3 : ∀ w ∈ wsX30, w ∈ wsX3_back := by decide +kernel
  have hl_fieldLink_RX3_38_SpliceBenchModel_covered_I := hts (.fieldLink RX3 38 "SpliceBenchModel" "covered" "I") (by decide +kernel)
  have hl_fieldLink_RX3_19_SpliceBenchModel_size_I := hts (.fieldLink RX3 19 "SpliceBenchModel" "size" "[I") (by decide +kernel)
  have hl_fieldLink_RX3_22_SpliceBenchModel_places_J := hts (.fieldLink RX3 22 "SpliceBenchModel" "places" "[J") (by decide +kernel)
  have hl_fieldLink_RX3_26_SpliceBenchModel_was_J := hts (.fieldLink RX3 26 "SpliceBenchModel" "was" "[J") (by decide +kernel)
  have hl := lv_entry ([.ref mm]) (n := 2) (Nat.le_of_ble_eq_true rfl)
  rw [lg_entry_eq]
  generalize (lg_sl ([.ref mm]) ++ List.replicate (2 - (lg_sl ([.ref mm])).length) Slot.unset).toArray = ls at hl ⊢
  have hl : lv_has ls 2 [(0, .ref mm)] := hl
  refine lv_aload_n hx hb dX3_back_0 rfl (lv_at hl 0 rfl) ?_
  refine mw_get (C := RX3) (T := TX3) (N := 14) F hK hW hI_X3 hR.1 rfl 9 (by decide) hl_fieldLink_RX3_38_SpliceBenchModel_covered_I rfl dX3_back_1 ?_
  refine lv_iconst (v := (-1)) hx hb dX3_back_4 (by decide) ?_
  refine lv_icmp_ne (tgt := 10) hx hb dX3_back_5 (by decide) (fun c_5 => ?_) (fun c_5 => ?_)
  · obtain ⟨k, hk, ek⟩ := hI.cov.resolve_left c_5
    obtain ⟨n, hn, en⟩ := hI.sz hk
    refine lv_iconst (v := 0) hx hb dX3_back_10 (by decide) ?_
    refine lv_istore_n (lv' := [(1, .int 0), (0, .ref mm)]) hx hb dX3_back_11 rfl hl (by decide) rfl (fun ls hl => ?_)
    have hR := hR.to (σ' := wPl σ (va_cpy (sWa σ) (sPl σ) 0 (80 * k) 0)) (by rw [cpy_0]; rfl)
    have loop : ∀ (N : Nat) (i : Nat) (M1 : Nat → Option va_E) (H : Heap) (locs : List Loc), n + 1 ≤ i + N → i ≤ n → mw D (mwA M s.heap.size) M1 H → va_S (mwA M s.heap.size) s.heap H locs → refAt cI cJ mm ad (wPl σ (va_cpy (sWa σ) (sPl σ) 0 (80 * k) i)) M1 → ∀ (ls : Array Slot), lv_has ls 2 [(1, .int (nI i)), (0, .ref mm)] → W pr l env (headSpec wsX3_back rmX3_back).room s m ([.ref mm] : List Value).toArray below meth c H locs 0 0 (MQ below (va_Qi (fun r M' => r = (rfBack σ).1 ∧ refAt cI cJ mm ad (rfBack σ).2 M') (mwB D (tyL cI cJ cC cH) M s.heap.size) (mwA M s.heap.size)) ([.ref mm] : List Value).toArray s 0 0 (mwA M s.heap.size)) (F0 m 12 ls []) := by
      intro N
      induction N with
      | zero =>
        exact fun i M1 H locs h1 h2 => absurd h1 (by omega)
      | succ N ih =>
        intro i M1 H locs hN hi hW hS hR ls hl
        refine lv_iload_n hx hb dX3_back_12 rfl (lv_at hl 0 rfl) ?_
        refine lv_aload_n hx hb dX3_back_13 rfl (lv_at hl 1 rfl) ?_
        refine mw_get (C := RX3) (T := TX3) (N := 14) F hK hW hI_X3 (show _ = some (Sum.inr (3, [.ref (ad 0), .ref (ad 1), .ref (ad 2), .ref (ad 3), .ref (ad 4), .ref (ad 5), .ref (ad 6), .ref (ad 7), .ref (ad 8), .int (sCov σ), .int (sCam σ), .int (sGoo σ), .int (sRow σ), .int (sCar σ)])) from hR.1) rfl 3 (by decide) hl_fieldLink_RX3_19_SpliceBenchModel_size_I rfl dX3_back_14 ?_
        refine lv_aload_n hx hb dX3_back_17 rfl (lv_at hl 1 rfl) ?_
        refine mw_get (C := RX3) (T := TX3) (N := 14) F hK hW hI_X3 (show _ = some (Sum.inr (3, [.ref (ad 0), .ref (ad 1), .ref (ad 2), .ref (ad 3), .ref (ad 4), .ref (ad 5), .ref (ad 6), .ref (ad 7), .ref (ad 8), .int (sCov σ), .int (sCam σ), .int (sGoo σ), .int (sRow σ), .int (sCar σ)])) from hR.1) rfl 9 (by decide) hl_fieldLink_RX3_38_SpliceBenchModel_covered_I rfl dX3_back_18 ?_
        rw [ek]
        refine mw_iald F hK hW 0 (show _ = some (Sum.inl (cI, 12, Sum.inl (sSi σ))) from hR.2.2.2.2.1) rfl (vp_in_nI (show k < 12 by omega) (by omega)) dX3_back_21 ?_
        rw [nI_clamp (show k < 2 ^ 31 by omega)]
        rw [en]
        refine lv_icmp_ge (tgt := 51) hx hb dX3_back_22 (by decide) (fun c_22 => ?_) (fun c_22 => ?_)
        · refine lv_aload_n hx hb dX3_back_51 rfl (lv_at hl 1 rfl) ?_
          refine lv_iconst (v := (-1)) hx hb dX3_back_52 (by decide) ?_
          refine mw_put (C := RX3) (T := TX3) (N := 14) (v := .int (-1)) F hK hW hS hI_X3 tyX3 tyX3_ok nmX3 (show _ = some (Sum.inr (3, [.ref (ad 0), .ref (ad 1), .ref (ad 2), .ref (ad 3), .ref (ad 4), .ref (ad 5), .ref (ad 6), .ref (ad 7), .ref (ad 8), .int (sCov σ), .int (sCam σ), .int (sGoo σ), .int (sRow σ), .int (sCar σ)])) from hR.1) rfl 9 (by decide) hl_fieldLink_RX3_38_SpliceBenchModel_covered_I rfl rfl rfl (Nat.le_of_ble_eq_true rfl) dX3_back_53 (fun H locs hW hS => ?_)
          have hR := hR.wCov (-1)
          refine lv_iconst (v := 1) hx hb dX3_back_56 (by decide) ?_
          exact W.iret hx hb hr (fun t ht hw => ⟨⟨_, _, rfl, (by
            have e7 : i = n := by have := (nI_leI (by omega) (by omega)).mp c_22; omega
            have e8 : rfBack σ = (1, wCov (wPl σ (va_cpy (sWa σ) (sPl σ) 0 (80 * k) i)) (-1)) := by
              unfold rfBack
              rw [if_neg c_5, ek]
              simp only [nI_clamp (show k < 2 ^ 31 by omega), ix, en, nI_clamp (show n < 2 ^ 31 by omega), e7]
            rw [e8]; exact ⟨rfl, hR⟩), by rw [ht]; exact hW, va_K.moved hw.alike hK⟩, hS.F ht⟩) hS.2.2 dX3_back_57
        · have hin : i < n := by
            rcases Nat.lt_or_ge i n with h9 | h9
            · exact h9
            · exact absurd (nI_le h9 (by omega)) c_22
          refine lv_aload_n hx hb dX3_back_25 rfl (lv_at hl 1 rfl) ?_
          refine mw_get (C := RX3) (T := TX3) (N := 14) F hK hW hI_X3 (show _ = some (Sum.inr (3, [.ref (ad 0), .ref (ad 1), .ref (ad 2), .ref (ad 3), .ref (ad 4), .ref (ad 5), .ref (ad 6), .ref (ad 7), .ref (ad 8), .int (sCov σ), .int (sCam σ), .int (sGoo σ), .int (sRow σ), .int (sCar σ)])) from hR.1) rfl 4 (by decide) hl_fieldLink_RX3_22_SpliceBenchModel_places_J rfl dX3_back_26 ?_
          refine lv_bipush (v := 80) hx hb dX3_back_29 (by decide) ?_
          refine lv_aload_n hx hb dX3_back_31 rfl (lv_at hl 1 rfl) ?_
          refine mw_get (C := RX3) (T := TX3) (N := 14) F hK hW hI_X3 (show _ = some (Sum.inr (3, [.ref (ad 0), .ref (ad 1), .ref (ad 2), .ref (ad 3), .ref (ad 4), .ref (ad 5), .ref (ad 6), .ref (ad 7), .ref (ad 8), .int (sCov σ), .int (sCam σ), .int (sGoo σ), .int (sRow σ), .int (sCar σ)])) from hR.1) rfl 9 (by decide) hl_fieldLink_RX3_38_SpliceBenchModel_covered_I rfl dX3_back_32 ?_
          rw [ek]
          refine lv_imul hx hb dX3_back_35 ?_
          rw [show (80 : Int32) = nI 80 from rfl, pk_mul]
          refine lv_iload_n hx hb dX3_back_36 rfl (lv_at hl 0 rfl) ?_
          refine lv_iadd hx hb dX3_back_37 ?_
          rw [nI_add]
          refine lv_aload_n hx hb dX3_back_38 rfl (lv_at hl 1 rfl) ?_
          refine mw_get (C := RX3) (T := TX3) (N := 14) F hK hW hI_X3 (show _ = some (Sum.inr (3, [.ref (ad 0), .ref (ad 1), .ref (ad 2), .ref (ad 3), .ref (ad 4), .ref (ad 5), .ref (ad 6), .ref (ad 7), .ref (ad 8), .int (sCov σ), .int (sCam σ), .int (sGoo σ), .int (sRow σ), .int (sCar σ)])) from hR.1) rfl 5 (by decide) hl_fieldLink_RX3_26_SpliceBenchModel_was_J rfl dX3_back_39 ?_
          refine lv_iload_n hx hb dX3_back_42 rfl (lv_at hl 0 rfl) ?_
          refine mw_lald F hK hW 1 (show _ = some (Sum.inl (cJ, 80, Sum.inr (Sum.inl (sWa σ)))) from hR.2.2.2.2.2.2.1) rfl (vp_in_nI (show i < 80 by omega) (by omega)) dX3_back_43 ?_
          rw [nI_clamp (show i < 2 ^ 31 by omega)]
          refine mw_last F hK hW hS 1 (show _ = some (Sum.inl (cJ, 960, Sum.inr (Sum.inl (va_cpy (sWa σ) (sPl σ) 0 (80 * k) i)))) from hR.2.2.2.2.2.1) rfl (vp_in_nI (show (80 * k + i) < 960 by omega) (by omega)) dX3_back_44 (fun H locs hW hS => ?_)
          rw [nI_clamp (show (80 * k + i) < 2 ^ 31 by omega)] at hW
          rw [show vp_updL (va_cpy (sWa σ) (sPl σ) 0 (80 * k) i) (80 * k + i) ((sWa σ) i) = va_cpy (sWa σ) (sPl σ) 0 (80 * k) (i + 1) from (by have := cpy_sL (sWa σ) (sPl σ) 0 (80 * k) i; rw [Nat.zero_add] at this; exact this)] at hW
          have hR := hR.wPl (va_cpy (sWa σ) (sPl σ) 0 (80 * k) (i + 1))
          have hR : refAt cI cJ mm ad (wPl σ (va_cpy (sWa σ) (sPl σ) 0 (80 * k) (i + 1))) _ := hR
          refine lv_iinc (v := nI (i + 1)) (lv' := [(1, .int (nI (i + 1))), (0, .ref mm)]) hx hb dX3_back_45 hl (k := 0) rfl (nI_1 i) (by decide) rfl (fun ls hl => ?_)
          refine lv_goto (tgt := 12) hx hb dX3_back_48 (by decide) ?_
          exact ih (i + 1) _ H locs (by omega) (by omega) hW hS hR ls (lv_sub hl [0, 1] rfl)
    exact loop (n + 1) 0 _ _ _ (by omega) (Nat.zero_le _) hW hS hR ls (lv_sub hl [0, 1] rfl)
  · refine lv_iconst (v := 0) hx hb dX3_back_8 (by decide) ?_
    exact W.iret hx hb hr (fun t ht hw => ⟨⟨_, _, rfl, (by
      have e8 : rfBack σ = (0, σ) := by simp [rfBack, c_5]
      rw [e8]; exact ⟨rfl, hR⟩), by rw [ht]; exact hW, va_K.moved hw.alike hK⟩, hS.F ht⟩) hS.2.2 dX3_back_9
abbrev rmX3_show : Room := ({ frames := 2, cells := 0, slots := 0, locals := 42 } : Room)
set_option maxHeartbeats 4000000 in
set_option maxRecDepth 100000 in
theorem c_X3_show {mm : Nat} {ad : Nat → Nat} {σ : RS} (hR : refAt cI cJ mm ad σ M) {cc : Nat} (hI : Inv σ cc) {s0 : Int32} : Met l yX3_show wsX3_show rmX3_show (va_Pc [.ref mm, .int s0] (mwPre D (tyL cI cJ cC cH) M sz)) (va_Qi (fun r M' => r = (rfShow σ s0).1 ∧ refAt cI cJ mm ad (rfShow σ s0).2 M') (mwB D (tyL cI cJ cC cH) M sz) (mwA M sz)) 0 0 (mwA M sz) := by
  refine Met.ofW (cc := cX3_show) (maxL := 4) (ret := (some .int)) (by decide) rfl ?_
  intro pr env s m args below meth c s₁ B hml hv
  obtain ⟨rfl, hsz, hW, hK, hO⟩ := hv
  subst hsz
  have hW := hW.self (sz := s.heap.size)
  have hS : va_S (mwA M s.heap.size) s.heap s.heap [] := va_S.rf
  have hA : ∀ q, s.heap.size ≤ q → mwA M s.heap.size q := fun q h => Or.inr h
  have hx := B.exec
  have hb := B.bytes
  have hr := B.returns
  have hts := atoms_spec (ws := wsX3_show) B.pre
  have hown : s.vm.findClass RX3 = some m.cls := findClass_of_methodNamed B.named
  have hlocks := B.notSynchronized
  have F : CallFix pr m c cX3_show 4 s ([.ref mm, .int s0] : List Value).toArray wsX3_show RX3 := ⟨hx, hb, hml, hown, hts⟩
  have hI_X3 : ∀ w ∈ wsX30, w ∈ wsX3_show := by decide +kernel
  have hl_fieldLink_RX3_32_SpliceBenchModel_cardShown_I := hts (.fieldLink RX3 32 "SpliceBenchModel" "cardShown" "[I") (by decide +kernel)
  have hl := lv_entry ([.ref mm, .int s0]) (n := 4) (Nat.le_of_ble_eq_true rfl)
  rw [lg_entry_eq]
  generalize (lg_sl ([.ref mm, .int s0]) ++ List.replicate (4 - (lg_sl ([.ref mm, .int s0])).length) Slot.unset).toArray = ls at hl ⊢
  have hl : lv_has ls 4 [(0, .ref mm), (1, .int s0)] := hl
  refine lv_iload_n hx hb dX3_show_0 rfl (lv_at hl 1 rfl) ?_
  refine vp_callSi (W.runS (As := [.int s0]) (rest := []) F (c_X3_isSpindle) (cwS 1 hts gX3_show_X3_isSpindle rfl rfl rfl (by decide +kernel) ⟨Nat.le_of_ble_eq_true rfl, Nat.le_of_ble_eq_true rfl⟩) (mw_prS hK hO hW) rfl rfl hl.1 rfl (lv_room (Nat.le_of_ble_eq_true rfl)) dX3_show_1 ⟨Nat.zero_le _, Nat.zero_le _⟩) (fun r_1 er_1 => ?_)
  subst er_1
  refine lv_if_ne (tgt := 10) hx hb dX3_show_4 (by decide) (fun c_4 => ?_) (fun c_4 => ?_)
  · obtain ⟨j, hj, rfl⟩ := isSp_of (bI_n c_4)
    have esp_j := isSp_nI hj
    have eix_j : ix (nI j) = j := nI_clamp (by omega)
    refine lv_aload_n hx hb dX3_show_10 rfl (lv_at hl 0 rfl) ?_
    refine lv_iload_n hx hb dX3_show_11 rfl (lv_at hl 1 rfl) ?_
    refine vp_callSi (W.runV (As := [.int (nI j)]) (rest := []) F (c_X3_isRack hR (show j < 10 by omega) (hI.ho hj)) (cwV 1 hts gX3_show_X3_isRack rfl rfl rfl (by decide +kernel) ⟨Nat.le_of_ble_eq_true rfl, Nat.le_of_ble_eq_true rfl⟩) (mw_prV (q := (RX3, TX3, 14)) hK hO hW rfl hR.1) rfl rfl hl.1 rfl (lv_room (Nat.le_of_ble_eq_true rfl)) dX3_show_12 ⟨Nat.zero_le _, Nat.zero_le _⟩) (fun r_2 er_2 => ?_)
    subst er_2
    refine lv_if_ne (tgt := 20) hx hb dX3_show_15 (by decide) (fun c_15 => ?_) (fun c_15 => ?_)
    · have c_15 := bI_n c_15
      obtain ⟨k, n, hk, e9, hn, en, hrk⟩ := rk_row hI hj c_15
      have ez : szOf σ j = nI n := (szOf_row hk e9).trans en
      refine lv_iconst (v := 0) hx hb dX3_show_20 (by decide) ?_
      refine lv_istore_n (lv' := [(2, .int 0), (0, .ref mm), (1, .int (nI j))]) hx hb dX3_show_21 rfl hl (by decide) rfl (fun ls hl => ?_)
      refine lv_iconst (v := 0) hx hb dX3_show_22 (by decide) ?_
      refine lv_istore_n (lv' := [(3, .int 0), (2, .int 0), (0, .ref mm), (1, .int (nI j))]) hx hb dX3_show_23 rfl hl (by decide) rfl (fun ls hl => ?_)
      have hR : refAt cI cJ mm ad (wCs σ (shN (pV σ j) (sCs σ) 0)) _ := hR
      have loop : ∀ (N : Nat) (i : Nat) (M1 : Nat → Option va_E) (H : Heap) (locs : List Loc), n + 1 ≤ i + N → i ≤ n → mw D (mwA M s.heap.size) M1 H → va_S (mwA M s.heap.size) s.heap H locs → refAt cI cJ mm ad (wCs σ (shN (pV σ j) (sCs σ) i)) M1 → ∀ (ls : Array Slot), lv_has ls 4 [(3, .int (nI i)), (2, .int (nI (cntF (fun i => !decide (pV σ j i = 0)) i))), (0, .ref mm), (1, .int (nI j))] → W pr l env (headSpec wsX3_show rmX3_show).room s m ([.ref mm, .int (nI j)] : List Value).toArray below meth c H locs 0 0 (MQ below (va_Qi (fun r M' => r = (rfShow σ (nI j)).1 ∧ refAt cI cJ mm ad (rfShow σ (nI j)).2 M') (mwB D (tyL cI cJ cC cH) M s.heap.size) (mwA M s.heap.size)) ([.ref mm, .int (nI j)] : List Value).toArray s 0 0 (mwA M s.heap.size)) (F0 m 24 ls []) := by
        intro N
        induction N with
        | zero =>
          exact fun i M1 H locs h1 h2 => absurd h1 (by omega)
        | succ N ih =>
          intro i M1 H locs hN hi hW hS hR ls hl
          refine lv_iload_n hx hb dX3_show_24 rfl (lv_at hl 0 rfl) ?_
          refine lv_aload_n hx hb dX3_show_25 rfl (lv_at hl 2 rfl) ?_
          refine lv_iload_n hx hb dX3_show_26 rfl (lv_at hl 3 rfl) ?_
          refine vp_callSi (W.runV (As := [.int (nI j)]) (rest := [.int (nI i)]) F (c_X3_sizeOf hR (show j < 10 by omega) (hI.ho hj)) (cwV 1 hts gX3_show_X3_sizeOf rfl rfl rfl (by decide +kernel) ⟨Nat.le_of_ble_eq_true rfl, Nat.le_of_ble_eq_true rfl⟩) (mw_prV (q := (RX3, TX3, 14)) hK hO hW rfl (show _ = some (Sum.inr (3, [.ref (ad 0), .ref (ad 1), .ref (ad 2), .ref (ad 3), .ref (ad 4), .ref (ad 5), .ref (ad 6), .ref (ad 7), .ref (ad 8), .int (sCov σ), .int (sCam σ), .int (sGoo σ), .int (sRow σ), .int (sCar σ)])) from hR.1)) rfl rfl hl.1 rfl (lv_room (Nat.le_of_ble_eq_true rfl)) dX3_show_27 ⟨Nat.zero_le _, Nat.zero_le _⟩) (fun r_3 er_3 => ?_)
          subst er_3
          rw [show szOf (wCs σ (shN (pV σ j) (sCs σ) i)) j = nI n from ez]
          refine lv_icmp_ge (tgt := 74) hx hb dX3_show_30 (by decide) (fun c_30 => ?_) (fun c_30 => ?_)
          · refine lv_iload_n hx hb dX3_show_74 rfl (lv_at hl 1 rfl) ?_
            exact W.iret hx hb hr (fun t ht hw => ⟨⟨_, _, rfl, (by
              have e7 : i = n := by have := (nI_leI (by omega) (by omega)).mp c_30; omega
              have e8 : rfShow σ (nI j) = (nI (cntF (fun i => !decide (pV σ j i = 0)) i), wCs σ (shN (pV σ j) (sCs σ) i)) := by simp only [rfShow, esp_j, eix_j, c_15, ez, ix, nI_clamp (show n < 2 ^ 31 by omega), cntH, e7, if_true]
              rw [e8]; exact ⟨rfl, hR⟩), by rw [ht]; exact hW, va_K.moved hw.alike hK⟩, hS.F ht⟩) hS.2.2 dX3_show_75
          · have hin : i < n := by
              rcases Nat.lt_or_ge i n with h9 | h9
              · exact h9
              · exact absurd (nI_le h9 (by omega)) c_30
            have epv : pV σ j i = sPl σ (80 * k + i) := pV_row hk e9
            have hv2 := hI.v2 hj hk e9 hrk hn en hin
            refine lv_aload_n hx hb dX3_show_33 rfl (lv_at hl 2 rfl) ?_
            refine lv_iload_n hx hb dX3_show_34 rfl (lv_at hl 3 rfl) ?_
            refine lv_iload_n hx hb dX3_show_35 rfl (lv_at hl 0 rfl) ?_
            refine vp_callSl (W.runV (As := [.int (nI j), .int (nI i)]) (rest := []) F (c_X3_place (i := i) (k := k) hR (show j < 10 by omega) hk (show i < 80 by omega) e9) (cwV 2 hts gX3_show_X3_place rfl rfl rfl (by decide +kernel) ⟨Nat.le_of_ble_eq_true rfl, Nat.le_of_ble_eq_true rfl⟩) (mw_prV (q := (RX3, TX3, 14)) hK hO hW rfl (show _ = some (Sum.inr (3, [.ref (ad 0), .ref (ad 1), .ref (ad 2), .ref (ad 3), .ref (ad 4), .ref (ad 5), .ref (ad 6), .ref (ad 7), .ref (ad 8), .int (sCov σ), .int (sCam σ), .int (sGoo σ), .int (sRow σ), .int (sCar σ)])) from hR.1)) rfl rfl hl.1 rfl (lv_room (Nat.le_of_ble_eq_true rfl)) dX3_show_36 ⟨Nat.zero_le _, Nat.zero_le _⟩) (fun r_4 er_4 => ?_)
            subst er_4
            refine W.eq (g2 := F0 m 39 ls [.long (sPl σ (80 * k + i))]) rfl ?_
            refine lv_lconst (v := 0) hx hb dX3_show_39 (by decide) ?_
            refine W.lcmp hx hb dX3_show_40 ?_
            refine lv_if_ne (tgt := 47) hx hb dX3_show_41 (by decide) (fun c_41 => ?_) (fun c_41 => ?_)
            · have c_41 : ¬ (_ = _) := fun h9 => c_41 ((lg_cmp_eq _ _).mpr h9)
              refine lv_aload_n hx hb dX3_show_47 rfl (lv_at hl 2 rfl) ?_
              refine mw_get (C := RX3) (T := TX3) (N := 14) F hK hW hI_X3 (show _ = some (Sum.inr (3, [.ref (ad 0), .ref (ad 1), .ref (ad 2), .ref (ad 3), .ref (ad 4), .ref (ad 5), .ref (ad 6), .ref (ad 7), .ref (ad 8), .int (sCov σ), .int (sCam σ), .int (sGoo σ), .int (sRow σ), .int (sCar σ)])) from hR.1) rfl 7 (by decide) hl_fieldLink_RX3_32_SpliceBenchModel_cardShown_I rfl dX3_show_48 ?_
              refine lv_aload_n hx hb dX3_show_51 rfl (lv_at hl 2 rfl) ?_
              refine lv_iload_n hx hb dX3_show_52 rfl (lv_at hl 3 rfl) ?_
              refine lv_iload_n hx hb dX3_show_53 rfl (lv_at hl 0 rfl) ?_
              refine vp_callSl (W.runV (As := [.int (nI j), .int (nI i)]) (rest := [.ref (ad 7)]) F (c_X3_place (i := i) (k := k) hR (show j < 10 by omega) hk (show i < 80 by omega) e9) (cwV 2 hts gX3_show_X3_place rfl rfl rfl (by decide +kernel) ⟨Nat.le_of_ble_eq_true rfl, Nat.le_of_ble_eq_true rfl⟩) (mw_prV (q := (RX3, TX3, 14)) hK hO hW rfl (show _ = some (Sum.inr (3, [.ref (ad 0), .ref (ad 1), .ref (ad 2), .ref (ad 3), .ref (ad 4), .ref (ad 5), .ref (ad 6), .ref (ad 7), .ref (ad 8), .int (sCov σ), .int (sCam σ), .int (sGoo σ), .int (sRow σ), .int (sCar σ)])) from hR.1)) rfl rfl hl.1 rfl (lv_room (Nat.le_of_ble_eq_true rfl)) dX3_show_54 ⟨Nat.zero_le _, Nat.zero_le _⟩) (fun r_5 er_5 => ?_)
              subst er_5
              refine W.eq (g2 := F0 m 57 ls [.long (sPl σ (80 * k + i)), .ref (ad 7)]) rfl ?_
              refine lv_l2i hx hb dX3_show_57 rfl ?_
              refine lv_iconst (v := 1) hx hb dX3_show_58 (by decide) ?_
              refine lv_isub hx hb dX3_show_59 ?_
              obtain ⟨c9, hc9, e8⟩ := hv2.resolve_left c_41
              rw [show (sPl σ (80 * k + i)).toInt32 - 1 = nI c9 by rw [e8, lN_i, nI_pred]]
              refine lv_dup2_11 hx hb dX3_show_60 rfl rfl ?_
              refine mw_iald F hK hW 0 (show _ = some (Sum.inl (cI, 2000, Sum.inl (shN (pV σ j) (sCs σ) i))) from hR.2.2.2.2.2.2.2.2.1) rfl (vp_in_nI (show c9 < 2000 by omega) (by omega)) dX3_show_61 ?_
              rw [nI_clamp (show c9 < 2 ^ 31 by omega)]
              refine lv_iconst (v := 1) hx hb dX3_show_62 (by decide) ?_
              refine lv_iadd hx hb dX3_show_63 ?_
              refine mw_iast F hK hW hS 0 (show _ = some (Sum.inl (cI, 2000, Sum.inl (shN (pV σ j) (sCs σ) i))) from hR.2.2.2.2.2.2.2.2.1) rfl (vp_in_nI (show c9 < 2000 by omega) (by omega)) dX3_show_64 (fun H locs hW hS => ?_)
              rw [nI_clamp (show c9 < 2 ^ 31 by omega)] at hW
              have hR := hR.wCs (upd (shN (pV σ j) (sCs σ) i) c9 (((shN (pV σ j) (sCs σ) i) c9) + 1))
              refine lv_iinc (v := nI (cntF (fun i => !decide (pV σ j i = 0)) i + 1)) (lv' := [(2, .int (nI (cntF (fun i => !decide (pV σ j i = 0)) i + 1))), (3, .int (nI i)), (0, .ref mm), (1, .int (nI j))]) hx hb dX3_show_65 hl (k := 1) rfl (nI_1 _) (by decide) rfl (fun ls hl => ?_)
              refine lv_iinc (v := nI (i + 1)) (lv' := [(3, .int (nI (i + 1))), (2, .int (nI (cntF (fun i => !decide (pV σ j i = 0)) i + 1))), (0, .ref mm), (1, .int (nI j))]) hx hb dX3_show_68 hl (k := 1) rfl (nI_1 i) (by decide) rfl (fun ls hl => ?_)
              refine lv_goto (tgt := 24) hx hb dX3_show_71 (by decide) ?_
              have hc : nI (cntF (fun i => !decide (pV σ j i = 0)) i + 1) = nI (cntF (fun i => !decide (pV σ j i = 0)) (i + 1)) := by simp only [cntF, epv, decide_eq_false c_41]; rfl
              rw [hc] at hl
              have hR := hR.to (σ' := wCs σ (shN (pV σ j) (sCs σ) (i + 1))) (by
                have e7 : shN (pV σ j) (sCs σ) (i + 1) = upd (shN (pV σ j) (sCs σ) i) c9 ((shN (pV σ j) (sCs σ) i) c9 + 1) := by
                  show (if pV σ j i = 0 then _ else _) = _
                  rw [epv, if_neg c_41, e8, cIx_lN hc9]
                rw [e7]; rfl)
              exact ih (i + 1) _ H locs (by omega) (by omega) hW hS hR ls (lv_sub hl [0, 1, 2, 3] rfl)
            · have c_41 := (lg_cmp_eq _ _).mp c_41
              refine lv_goto (tgt := 68) hx hb dX3_show_44 (by decide) ?_
              refine lv_iinc (v := nI (i + 1)) (lv' := [(3, .int (nI (i + 1))), (2, .int (nI (cntF (fun i => !decide (pV σ j i = 0)) i))), (0, .ref mm), (1, .int (nI j))]) hx hb dX3_show_68 hl (k := 0) rfl (nI_1 i) (by decide) rfl (fun ls hl => ?_)
              refine lv_goto (tgt := 24) hx hb dX3_show_71 (by decide) ?_
              have hc : nI (cntF (fun i => !decide (pV σ j i = 0)) i) = nI (cntF (fun i => !decide (pV σ j i = 0)) (i + 1)) := by simp only [cntF, epv, decide_eq_true c_41]; rfl
              rw [hc] at hl
              have hR := hR.to (σ' := wCs σ (shN (pV σ j) (sCs σ) (i + 1))) (by
                have e7 : shN (pV σ j) (sCs σ) (i + 1) = shN (pV σ j) (sCs σ) i := by
                  show (if pV σ j i = 0 then _ else _) = _
                  rw [epv, if_pos c_41]
                rw [e7])
              exact ih (i + 1) _ H locs (by omega) (by omega) hW hS hR ls (lv_sub hl [0, 1, 2, 3] rfl)
      exact loop (n + 1) 0 _ _ _ (by omega) (Nat.zero_le _) hW hS hR ls (lv_sub hl [0, 1, 2, 3] rfl)
    · have c_15 := bI_e c_15
      refine lv_iconst (v := (-1)) hx hb dX3_show_18 (by decide) ?_
      exact W.iret hx hb hr (fun t ht hw => ⟨⟨_, _, rfl, (by
        have e8 : rfShow σ (nI j) = (-1, σ) := by simp [rfShow, esp_j, eix_j, c_15]
        rw [e8]; exact ⟨rfl, hR⟩), by rw [ht]; exact hW, va_K.moved hw.alike hK⟩, hS.F ht⟩) hS.2.2 dX3_show_19
  · have c_4 := bI_e c_4
    refine lv_bipush (v := (-9)) hx hb dX3_show_7 (by decide) ?_
    exact W.iret hx hb hr (fun t ht hw => ⟨⟨_, _, rfl, (by
      have e8 : rfShow σ s0 = (-9, σ) := by simp [rfShow, c_4]
      rw [e8]; exact ⟨rfl, hR⟩), by rw [ht]; exact hW, va_K.moved hw.alike hK⟩, hS.F ht⟩) hS.2.2 dX3_show_9
end X3D
