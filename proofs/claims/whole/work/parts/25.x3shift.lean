section X3S
variable {l : Launch} {D : va_G} {cI cJ cC cH : ClassId} {M : Nat → Option va_E} {sz : Nat}
theorem hind_of {σ : RS} {j : Nat} {i n : Int32} (h : ¬ hindI σ j i n = 0) : ∃ t : Nat, 1 ≤ t ∧ t < 4 ∧ hindI σ j i n = nI t := by
  unfold hindI at h ⊢
  by_cases h1 : sHo σ j = 0
  · rw [if_pos h1]; exact ⟨1, by omega, by omega, rfl⟩
  · rw [if_neg h1] at h ⊢
    by_cases h2 : hasP σ j = true
    · rw [if_pos h2] at h ⊢
      by_cases h3 : beyB i n (szOf σ j) = true
      · rw [if_pos h3]; exact ⟨3, by omega, by omega, rfl⟩
      · rw [if_neg h3] at h; exact absurd rfl h
    · rw [if_neg h2]; exact ⟨2, by omega, by omega, rfl⟩
theorem hind0 {σ : RS} {cc j : Nat} {i n : Int32} (hI : Inv σ cc) (hj : j < 10) (h : hindI σ j i n = 0) : ∃ k e i' n' : Nat, k < 12 ∧ sHo σ j = nI (k + 1) ∧ e ≤ 80 ∧ sSi σ k = nI e ∧ i = nI i' ∧ n = nI n' ∧ i' + n' ≤ e := by
  unfold hindI at h
  by_cases h1 : sHo σ j = 0
  · rw [if_pos h1] at h; exact absurd h (by decide)
  · rw [if_neg h1] at h
    by_cases h2 : hasP σ j = true
    · rw [if_pos h2] at h
      obtain ⟨k, hk, e9⟩ := (hI.ho hj).rowP (of_decide_eq_true h2)
      obtain ⟨e, he, en⟩ := hI.sz hk
      by_cases h3 : beyB i n (szOf σ j) = true
      · rw [if_pos h3] at h; exact absurd h (by decide)
      · have h4 : beyB i n (szOf σ j) = false := by
          cases hq : beyB i n (szOf σ j) with
          | false => rfl
          | true => exact absurd hq h3
        rw [szOf_row hk e9, en, beyB_of he] at h4
        obtain ⟨a, b, ea, eb, hab⟩ := inPls_of he (by simpa using h4)
        exact ⟨k, e, a, b, hk, e9, he, en, ea, eb, hab⟩
    · rw [if_neg h2] at h; exact absurd h (by decide)
theorem hind_ok {σ : RS} {cc j k e i n : Nat} (hI : Inv σ cc) (hj : j < 10) (hk : k < 12) (e9 : sHo σ j = nI (k + 1)) (he : e ≤ 80) (en : sSi σ k = nI e) (h : i + n ≤ e) : hindI σ j (nI i) (nI n) = 0 := by
  unfold hindI
  rw [e9, if_neg (row_n0 hk), if_pos (hasP_row hk e9), szOf_row hk e9, en, beyB_of he, inPls_nI (by omega) (by omega) (by omega)]
  simp [h]
def shPx (up : Bool) (k i n e x : Nat) (P : Nat → Int64) : Nat → Int64 := fun y => if 80 * k + i ≤ y ∧ y < 80 * k + x then shP up i n e (fun x => P (80 * k + x)) (y - 80 * k) else P y
theorem shPx_0 (up : Bool) (k i n e : Nat) (P : Nat → Int64) : shPx up k i n e i P = P := by
  funext y
  unfold shPx
  rw [if_neg (by omega)]
theorem shPx_s {up : Bool} {k i n e x : Nat} {P : Nat → Int64} {v : Int64} (h : i ≤ x) (hv : v = shP up i n e (fun x => P (80 * k + x)) x) : vp_updL (shPx up k i n e x P) (80 * k + x) v = shPx up k i n e (x + 1) P := by
  funext y
  unfold vp_updL shPx
  by_cases hy : y = 80 * k + x
  · subst hy
    rw [if_pos rfl, if_pos (by omega), show 80 * k + x - 80 * k = x by omega, hv]
  · rw [if_neg hy]
    by_cases h2 : 80 * k + i ≤ y ∧ y < 80 * k + x
    · rw [if_pos h2, if_pos (by omega)]
    · rw [if_neg h2, if_neg (by omega)]
theorem cpy_was {f g : Nat → Int64} {sp e a : Nat} (h : a < e) : va_cpy f g sp 0 e a = f (sp + a) := by
  unfold va_cpy
  rw [if_pos (by omega), Nat.sub_zero]
abbrev rmX3_shifts : Room := ({ frames := 3, cells := 0, slots := 0, locals := 65 } : Room)
set_option maxHeartbeats 4000000 in
set_option maxRecDepth 100000 in
theorem c_X3_shifts {mm : Nat} {ad : Nat → Nat} {σ : RS} (hR : refAt cI cJ mm ad σ M) {cc : Nat} (hI : Inv σ cc) {s0 i0 n0 : Int32} {up : Bool} : Met l yX3_shifts wsX3_shifts rmX3_shifts (va_Pc [.ref mm, .int s0, .int i0, .int n0, .int (bI up)] (mwPre D (tyL cI cJ cC cH) M sz)) (va_Qi (fun r M' => r = (rfShift σ s0 i0 n0 up).1 ∧ refAt cI cJ mm ad (rfShift σ s0 i0 n0 up).2 M') (mwB D (tyL cI cJ cC cH) M sz) (mwA M sz)) 0 0 (mwA M sz) := by
  refine Met.ofW (cc := cX3_shifts) (maxL := 11) (ret := (some .int)) (by decide) rfl ?_
  intro pr env s m args below meth c s₁ B hml hv
  obtain ⟨rfl, hsz, hW, hK, hO⟩ := hv
  subst hsz
  have hW := hW.self (sz := s.heap.size)
  have hS : va_S (mwA M s.heap.size) s.heap s.heap [] := va_S.rf
  have hA : ∀ q, s.heap.size ≤ q → mwA M s.heap.size q := fun q h => Or.inr h
  have hx := B.exec
  have hb := B.bytes
  have hr := B.returns
  have hts := atoms_spec (ws := wsX3_shifts) B.pre
  have hown : s.vm.findClass RX3 = some m.cls := findClass_of_methodNamed B.named
  have hlocks := B.notSynchronized
  have F : CallFix pr m c cX3_shifts 11 s ([.ref mm, .int s0, .int i0, .int n0, .int (bI up)] : List Value).toArray wsX3_shifts RX3 := ⟨hx, hb, hml, hown, hts⟩
  have hI_X3 : ∀ w ∈ wsX30, w ∈ wsX3_shifts := by decide +kernel
  have hl_fieldLink_RX3_7_SpliceBenchModel_holds_I := hts (.fieldLink RX3 7 "SpliceBenchModel" "holds" "[I") (by decide +kernel)
  have hl_fieldLink_RX3_19_SpliceBenchModel_size_I := hts (.fieldLink RX3 19 "SpliceBenchModel" "size" "[I") (by decide +kernel)
  have hl_fieldLink_RX3_69_SpliceBenchModel_came_I := hts (.fieldLink RX3 69 "SpliceBenchModel" "came" "I") (by decide +kernel)
  have hl_fieldLink_RX3_91_SpliceBenchModel_good_I := hts (.fieldLink RX3 91 "SpliceBenchModel" "good" "I") (by decide +kernel)
  have hl_fieldLink_RX3_22_SpliceBenchModel_places_J := hts (.fieldLink RX3 22 "SpliceBenchModel" "places" "[J") (by decide +kernel)
  have hl_fieldLink_RX3_26_SpliceBenchModel_was_J := hts (.fieldLink RX3 26 "SpliceBenchModel" "was" "[J") (by decide +kernel)
  have hl := lv_entry ([.ref mm, .int s0, .int i0, .int n0, .int (bI up)]) (n := 11) (Nat.le_of_ble_eq_true rfl)
  rw [lg_entry_eq]
  generalize (lg_sl ([.ref mm, .int s0, .int i0, .int n0, .int (bI up)]) ++ List.replicate (11 - (lg_sl ([.ref mm, .int s0, .int i0, .int n0, .int (bI up)])).length) Slot.unset).toArray = ls at hl ⊢
  have hl : lv_has ls 11 [(0, .ref mm), (1, .int s0), (2, .int i0), (3, .int n0), (4, .int (bI up))] := hl
  refine lv_iload_n hx hb dX3_shifts_0 rfl (lv_at hl 1 rfl) ?_
  refine vp_callSi (W.runS (As := [.int s0]) (rest := []) F (c_X3_isSpindle) (cwS 1 hts gX3_shifts_X3_isSpindle rfl rfl rfl (by decide +kernel) ⟨Nat.le_of_ble_eq_true rfl, Nat.le_of_ble_eq_true rfl⟩) (mw_prS hK hO hW) rfl rfl hl.1 rfl (lv_room (Nat.le_of_ble_eq_true rfl)) dX3_shifts_1 ⟨Nat.zero_le _, Nat.zero_le _⟩) (fun r_1 er_1 => ?_)
  subst er_1
  refine lv_if_ne (tgt := 10) hx hb dX3_shifts_4 (by decide) (fun c_4 => ?_) (fun c_4 => ?_)
  · obtain ⟨j, hj, rfl⟩ := isSp_of (bI_n c_4)
    have esp_j := isSp_nI hj
    have eix_j : ix (nI j) = j := nI_clamp (by omega)
    refine lv_aload_n hx hb dX3_shifts_10 rfl (lv_at hl 0 rfl) ?_
    refine lv_iload_n hx hb dX3_shifts_11 rfl (lv_at hl 1 rfl) ?_
    refine lv_iload_n hx hb dX3_shifts_12 rfl (lv_at hl 2 rfl) ?_
    refine lv_iload_n hx hb dX3_shifts_13 rfl (lv_at hl 3 rfl) ?_
    refine vp_callSi (W.runV (As := [.int (nI j), .int i0, .int n0]) (rest := []) F (c_X3_hinders (i := i0) (n := n0) hR (show j < 10 by omega) (hI.ho hj)) (cwV 3 hts gX3_shifts_X3_hinders rfl rfl rfl (by decide +kernel) ⟨Nat.le_of_ble_eq_true rfl, Nat.le_of_ble_eq_true rfl⟩) (mw_prV (q := (RX3, TX3, 14)) hK hO hW rfl hR.1) rfl rfl hl.1 rfl (lv_room (Nat.le_of_ble_eq_true rfl)) dX3_shifts_14 ⟨Nat.zero_le _, Nat.zero_le _⟩) (fun r_2 er_2 => ?_)
    subst er_2
    refine lv_istore (lv' := [(5, .int (hindI σ j i0 n0)), (0, .ref mm), (1, .int (nI j)), (2, .int i0), (3, .int n0), (4, .int (bI up))]) hx hb dX3_shifts_17 hl (by decide) rfl (fun ls hl => ?_)
    refine lv_iload hx hb dX3_shifts_19 (lv_at hl 0 rfl) ?_
    refine lv_if_eq (tgt := 31) hx hb dX3_shifts_21 (by decide) (fun c_21 => ?_) (fun c_21 => ?_)
    · obtain ⟨k, e, i, n, hk, e9, he, en, rfl, rfl, hin⟩ := hind0 hI hj c_21
      have eii : ix (nI i) = i := nI_clamp (by omega)
      have ein : ix (nI n) = n := nI_clamp (by omega)
      refine lv_aload_n hx hb dX3_shifts_31 rfl (lv_at hl 1 rfl) ?_
      refine mw_get (C := RX3) (T := TX3) (N := 14) F hK hW hI_X3 hR.1 rfl 0 (by decide) hl_fieldLink_RX3_7_SpliceBenchModel_holds_I rfl dX3_shifts_32 ?_
      refine lv_iload_n hx hb dX3_shifts_35 rfl (lv_at hl 2 rfl) ?_
      refine mw_iald F hK hW 0 hR.2.1 rfl (vp_in_nI (show j < 10 by omega) (by omega)) dX3_shifts_36 ?_
      rw [nI_clamp (show j < 2 ^ 31 by omega)]
      refine lv_iconst (v := 1) hx hb dX3_shifts_37 (by decide) ?_
      refine lv_isub hx hb dX3_shifts_38 ?_
      rw [e9, nI_pred]
      refine lv_istore (lv' := [(6, .int (nI k)), (5, .int (hindI σ j (nI i) (nI n))), (0, .ref mm), (1, .int (nI j)), (2, .int (nI i)), (3, .int (nI n)), (4, .int (bI up))]) hx hb dX3_shifts_39 hl (by decide) rfl (fun ls hl => ?_)
      refine lv_bipush (v := 80) hx hb dX3_shifts_41 (by decide) ?_
      refine lv_iload hx hb dX3_shifts_43 (lv_at hl 0 rfl) ?_
      refine lv_imul hx hb dX3_shifts_45 ?_
      rw [show (80 : Int32) = nI 80 from rfl, pk_mul]
      refine lv_istore (lv' := [(7, .int (nI (80 * k))), (6, .int (nI k)), (5, .int (hindI σ j (nI i) (nI n))), (0, .ref mm), (1, .int (nI j)), (2, .int (nI i)), (3, .int (nI n)), (4, .int (bI up))]) hx hb dX3_shifts_46 hl (by decide) rfl (fun ls hl => ?_)
      refine lv_aload_n hx hb dX3_shifts_48 rfl (lv_at hl 3 rfl) ?_
      refine mw_get (C := RX3) (T := TX3) (N := 14) F hK hW hI_X3 hR.1 rfl 3 (by decide) hl_fieldLink_RX3_19_SpliceBenchModel_size_I rfl dX3_shifts_49 ?_
      refine lv_iload hx hb dX3_shifts_52 (lv_at hl 1 rfl) ?_
      refine mw_iald F hK hW 0 hR.2.2.2.2.1 rfl (vp_in_nI (show k < 12 by omega) (by omega)) dX3_shifts_54 ?_
      rw [nI_clamp (show k < 2 ^ 31 by omega)]
      rw [en]
      refine lv_istore (lv' := [(8, .int (nI e)), (7, .int (nI (80 * k))), (6, .int (nI k)), (5, .int (hindI σ j (nI i) (nI n))), (0, .ref mm), (1, .int (nI j)), (2, .int (nI i)), (3, .int (nI n)), (4, .int (bI up))]) hx hb dX3_shifts_55 hl (by decide) rfl (fun ls hl => ?_)
      refine lv_aload_n hx hb dX3_shifts_57 rfl (lv_at hl 4 rfl) ?_
      refine lv_iload hx hb dX3_shifts_58 (lv_at hl 2 rfl) ?_
      refine mw_callv (va_runV (As := [.int (nI k)]) (rest := []) F (c_X3_cover (k := k) (n := e) hR hk he en) (cwV 1 hts gX3_shifts_X3_cover rfl rfl rfl (by decide +kernel) ⟨Nat.le_of_ble_eq_true rfl, Nat.le_of_ble_eq_true rfl⟩) (mw_prV (q := (RX3, TX3, 14)) hK hO hW rfl hR.1) rfl rfl hl.1 rfl (lv_room (Nat.le_of_ble_eq_true rfl)) dX3_shifts_60 ⟨Nat.zero_le _, Nat.zero_le _⟩) hW hS hA (fun M1 H locs h9 hW hS => ?_)
      have hR := h9
      refine lv_iload_n hx hb dX3_shifts_63 rfl (lv_at hl 6 rfl) ?_
      refine lv_istore (lv' := [(9, .int (nI i)), (8, .int (nI e)), (7, .int (nI (80 * k))), (6, .int (nI k)), (5, .int (hindI σ j (nI i) (nI n))), (0, .ref mm), (1, .int (nI j)), (2, .int (nI i)), (3, .int (nI n)), (4, .int (bI up))]) hx hb dX3_shifts_64 hl (by decide) rfl (fun ls hl => ?_)
      have hR := hR.to (σ' := wPl (wWa (wCov σ (nI k)) (va_cpy (sPl σ) (sWa σ) (80 * k) 0 e)) (shPx up k i n e i (sPl σ))) (by rw [shPx_0]; rfl)
      have loop : ∀ (N : Nat) (x : Nat) (M1 : Nat → Option va_E) (H : Heap) (locs : List Loc), e + 1 ≤ x + N → i ≤ x → x ≤ e → mw D (mwA M s.heap.size) M1 H → va_S (mwA M s.heap.size) s.heap H locs → refAt cI cJ mm ad (wPl (wWa (wCov σ (nI k)) (va_cpy (sPl σ) (sWa σ) (80 * k) 0 e)) (shPx up k i n e x (sPl σ))) M1 → ∀ (ls : Array Slot), lv_has ls 11 [(9, .int (nI x)), (8, .int (nI e)), (7, .int (nI (80 * k))), (0, .ref mm), (1, .int (nI j)), (2, .int (nI i)), (3, .int (nI n)), (4, .int (bI up))] → W pr l env (headSpec wsX3_shifts rmX3_shifts).room s m ([.ref mm, .int (nI j), .int (nI i), .int (nI n), .int (bI up)] : List Value).toArray below meth c H locs 0 0 (MQ below (va_Qi (fun r M' => r = (rfShift σ (nI j) (nI i) (nI n) up).1 ∧ refAt cI cJ mm ad (rfShift σ (nI j) (nI i) (nI n) up).2 M') (mwB D (tyL cI cJ cC cH) M s.heap.size) (mwA M s.heap.size)) ([.ref mm, .int (nI j), .int (nI i), .int (nI n), .int (bI up)] : List Value).toArray s 0 0 (mwA M s.heap.size)) (F0 m 66 ls []) := by
        intro N
        induction N with
        | zero =>
          exact fun x M1 H locs h1 h2 h3 => absurd h1 (by omega)
        | succ N ih =>
          intro x M1 H locs hN hx1 hxe hW hS hR ls hl
          refine lv_iload hx hb dX3_shifts_66 (lv_at hl 0 rfl) ?_
          refine lv_iload hx hb dX3_shifts_68 (lv_at hl 1 rfl) ?_
          refine lv_icmp_ge (tgt := 131) hx hb dX3_shifts_70 (by decide) (fun c_70 => ?_) (fun c_70 => ?_)
          · refine lv_aload_n hx hb dX3_shifts_131 rfl (lv_at hl 3 rfl) ?_
            refine lv_iload hx hb dX3_shifts_132 (lv_at hl 1 rfl) ?_
            refine lv_iload_n hx hb dX3_shifts_134 rfl (lv_at hl 5 rfl) ?_
            refine lv_isub hx hb dX3_shifts_135 ?_
            refine lv_iload_n hx hb dX3_shifts_136 rfl (lv_at hl 6 rfl) ?_
            refine lv_isub hx hb dX3_shifts_137 ?_
            rw [pk_sub (show i ≤ e by omega), pk_sub (show n ≤ e - i by omega)]
            refine mw_put (C := RX3) (T := TX3) (N := 14) (v := .int (nI (e - i - n))) F hK hW hS hI_X3 tyX3 tyX3_ok nmX3 (show _ = some (Sum.inr (3, [.ref (ad 0), .ref (ad 1), .ref (ad 2), .ref (ad 3), .ref (ad 4), .ref (ad 5), .ref (ad 6), .ref (ad 7), .ref (ad 8), .int (nI k), .int (sCam σ), .int (sGoo σ), .int (sRow σ), .int (sCar σ)])) from hR.1) rfl 10 (by decide) hl_fieldLink_RX3_69_SpliceBenchModel_came_I rfl rfl rfl (Nat.le_of_ble_eq_true rfl) dX3_shifts_138 (fun H locs hW hS => ?_)
            have hR := hR.wCam (nI (e - i - n))
            refine lv_aload_n hx hb dX3_shifts_141 rfl (lv_at hl 3 rfl) ?_
            refine lv_dup hx hb dX3_shifts_142 rfl ?_
            refine mw_get (C := RX3) (T := TX3) (N := 14) F hK hW hI_X3 (show _ = some (Sum.inr (3, [.ref (ad 0), .ref (ad 1), .ref (ad 2), .ref (ad 3), .ref (ad 4), .ref (ad 5), .ref (ad 6), .ref (ad 7), .ref (ad 8), .int (nI k), .int (nI (e - i - n)), .int (sGoo σ), .int (sRow σ), .int (sCar σ)])) from hR.1) rfl 11 (by decide) hl_fieldLink_RX3_91_SpliceBenchModel_good_I rfl dX3_shifts_143 ?_
            refine lv_iconst (v := 1) hx hb dX3_shifts_146 (by decide) ?_
            refine lv_iadd hx hb dX3_shifts_147 ?_
            refine mw_put (C := RX3) (T := TX3) (N := 14) (v := .int ((sGoo σ) + 1)) F hK hW hS hI_X3 tyX3 tyX3_ok nmX3 (show _ = some (Sum.inr (3, [.ref (ad 0), .ref (ad 1), .ref (ad 2), .ref (ad 3), .ref (ad 4), .ref (ad 5), .ref (ad 6), .ref (ad 7), .ref (ad 8), .int (nI k), .int (nI (e - i - n)), .int (sGoo σ), .int (sRow σ), .int (sCar σ)])) from hR.1) rfl 11 (by decide) hl_fieldLink_RX3_91_SpliceBenchModel_good_I rfl rfl rfl (Nat.le_of_ble_eq_true rfl) dX3_shifts_148 (fun H locs hW hS => ?_)
            have hR := hR.wGoo ((sGoo σ) + 1)
            refine lv_iconst (v := 1) hx hb dX3_shifts_151 (by decide) ?_
            exact W.iret hx hb hr (fun t ht hw => ⟨⟨_, _, rfl, (by
              have e7 : x = e := by have := (nI_leI (by omega) (by omega)).mp c_70; omega
              have e8 : rfShift σ (nI j) (nI i) (nI n) up = (1, rfShiftOk σ up k i n e) := by
                unfold rfShift
                rw [if_pos esp_j, eix_j, if_pos (hind_ok hI hj hk e9 he en hin), szOf_row hk e9, en, rIx_row hk e9, eii, ein]
                simp only [ix, nI_clamp (show e < 2 ^ 31 by omega)]
              rw [e8]; exact ⟨rfl, hR.to (by rw [e7]; rfl)⟩), by rw [ht]; exact hW, va_K.moved hw.alike hK⟩, hS.F ht⟩) hS.2.2 dX3_shifts_152
          · have hxn : x < e := by
              rcases Nat.lt_or_ge x e with h9 | h9
              · exact h9
              · exact absurd (nI_le h9 (by omega)) c_70
            refine lv_iload hx hb dX3_shifts_73 (lv_at hl 7 rfl) ?_
            refine lv_if_eq (tgt := 85) hx hb dX3_shifts_75 (by decide) (fun c_75 => ?_) (fun c_75 => ?_)
            · have c_75 := bI_e c_75
              refine lv_iload hx hb dX3_shifts_85 (lv_at hl 0 rfl) ?_
              refine lv_iload_n hx hb dX3_shifts_87 rfl (lv_at hl 6 rfl) ?_
              refine lv_iadd hx hb dX3_shifts_88 ?_
              rw [nI_add]
              refine lv_istore (lv' := [(10, .int (nI (x + n))), (9, .int (nI x)), (8, .int (nI e)), (7, .int (nI (80 * k))), (0, .ref mm), (1, .int (nI j)), (2, .int (nI i)), (3, .int (nI n)), (4, .int (bI up))]) hx hb dX3_shifts_89 hl (by decide) rfl (fun ls hl => ?_)
              refine lv_aload_n hx hb dX3_shifts_91 rfl (lv_at hl 4 rfl) ?_
              refine mw_get (C := RX3) (T := TX3) (N := 14) F hK hW hI_X3 (show _ = some (Sum.inr (3, [.ref (ad 0), .ref (ad 1), .ref (ad 2), .ref (ad 3), .ref (ad 4), .ref (ad 5), .ref (ad 6), .ref (ad 7), .ref (ad 8), .int (nI k), .int (sCam σ), .int (sGoo σ), .int (sRow σ), .int (sCar σ)])) from hR.1) rfl 4 (by decide) hl_fieldLink_RX3_22_SpliceBenchModel_places_J rfl dX3_shifts_92 ?_
              refine lv_iload hx hb dX3_shifts_95 (lv_at hl 3 rfl) ?_
              refine lv_iload hx hb dX3_shifts_97 (lv_at hl 1 rfl) ?_
              refine lv_iadd hx hb dX3_shifts_99 ?_
              rw [nI_add]
              refine lv_iload hx hb dX3_shifts_100 (lv_at hl 0 rfl) ?_
              refine lv_iload_n hx hb dX3_shifts_102 rfl (lv_at hl 6 rfl) ?_
              refine lv_icmp_lt (tgt := 113) hx hb dX3_shifts_103 (by decide) (fun c_103 => ?_) (fun c_103 => ?_)
              · exact absurd c_103 (nI_nlt (by omega) (by omega))
              · refine lv_iload hx hb dX3_shifts_106 (lv_at hl 0 rfl) ?_
                refine lv_iload hx hb dX3_shifts_108 (lv_at hl 2 rfl) ?_
                refine lv_icmp_lt (tgt := 117) hx hb dX3_shifts_110 (by decide) (fun c_110 => ?_) (fun c_110 => ?_)
                · have hz := (nI_ltI (by omega) (by omega)).mp c_110
                  refine lv_aload_n hx hb dX3_shifts_117 rfl (lv_at hl 4 rfl) ?_
                  refine mw_get (C := RX3) (T := TX3) (N := 14) F hK hW hI_X3 (show _ = some (Sum.inr (3, [.ref (ad 0), .ref (ad 1), .ref (ad 2), .ref (ad 3), .ref (ad 4), .ref (ad 5), .ref (ad 6), .ref (ad 7), .ref (ad 8), .int (nI k), .int (sCam σ), .int (sGoo σ), .int (sRow σ), .int (sCar σ)])) from hR.1) rfl 5 (by decide) hl_fieldLink_RX3_26_SpliceBenchModel_was_J rfl dX3_shifts_118 ?_
                  refine lv_iload hx hb dX3_shifts_121 (lv_at hl 0 rfl) ?_
                  refine mw_lald F hK hW 1 (show _ = some (Sum.inl (cJ, 80, Sum.inr (Sum.inl (va_cpy (sPl σ) (sWa σ) (80 * k) 0 e)))) from hR.2.2.2.2.2.2.1) rfl (vp_in_nI (show (x + n) < 80 by omega) (by omega)) dX3_shifts_123 ?_
                  rw [nI_clamp (show (x + n) < 2 ^ 31 by omega)]
                  rw [cpy_was (show x + n < e by omega)]
                  refine mw_last F hK hW hS 1 (show _ = some (Sum.inl (cJ, 960, Sum.inr (Sum.inl (shPx up k i n e x (sPl σ))))) from hR.2.2.2.2.2.1) rfl (vp_in_nI (show (80 * k + x) < 960 by omega) (by omega)) dX3_shifts_124 (fun H locs hW hS => ?_)
                  rw [nI_clamp (show (80 * k + x) < 2 ^ 31 by omega)] at hW
                  rw [show vp_updL (shPx up k i n e x (sPl σ)) (80 * k + x) (sPl σ (80 * k + (x + n))) = shPx up k i n e (x + 1) (sPl σ) from (shPx_s (by omega) (by simp only [shP]; rw [if_neg (by rw [c_75]; decide), if_pos hz]))] at hW
                  have hR := hR.wPl (shPx up k i n e (x + 1) (sPl σ))
                  have hR : refAt cI cJ mm ad (wPl (wWa (wCov σ (nI k)) (va_cpy (sPl σ) (sWa σ) (80 * k) 0 e)) (shPx up k i n e (x + 1) (sPl σ))) _ := hR
                  refine lv_iinc (v := nI (x + 1)) (lv' := [(9, .int (nI (x + 1))), (10, .int (nI (x + n))), (8, .int (nI e)), (7, .int (nI (80 * k))), (0, .ref mm), (1, .int (nI j)), (2, .int (nI i)), (3, .int (nI n)), (4, .int (bI up))]) hx hb dX3_shifts_125 hl (k := 1) rfl (nI_1 x) (by decide) rfl (fun ls hl => ?_)
                  refine lv_goto (tgt := 66) hx hb dX3_shifts_128 (by decide) ?_
                  exact ih (x + 1) _ H locs (by omega) (by omega) (by omega) hW hS hR ls (lv_sub hl [0, 2, 3, 4, 5, 6, 7, 8] rfl)
                · have hz : ¬ x + n < e := fun h9 => c_110 (nI_lt h9 (by omega))
                  refine lv_lconst (v := 0) hx hb dX3_shifts_113 (by decide) ?_
                  refine lv_goto (tgt := 124) hx hb dX3_shifts_114 (by decide) ?_
                  refine mw_last F hK hW hS 1 (show _ = some (Sum.inl (cJ, 960, Sum.inr (Sum.inl (shPx up k i n e x (sPl σ))))) from hR.2.2.2.2.2.1) rfl (vp_in_nI (show (80 * k + x) < 960 by omega) (by omega)) dX3_shifts_124 (fun H locs hW hS => ?_)
                  rw [nI_clamp (show (80 * k + x) < 2 ^ 31 by omega)] at hW
                  rw [show vp_updL (shPx up k i n e x (sPl σ)) (80 * k + x) 0 = shPx up k i n e (x + 1) (sPl σ) from (shPx_s (by omega) (by simp only [shP]; rw [if_neg (by rw [c_75]; decide), if_neg hz]))] at hW
                  have hR := hR.wPl (shPx up k i n e (x + 1) (sPl σ))
                  have hR : refAt cI cJ mm ad (wPl (wWa (wCov σ (nI k)) (va_cpy (sPl σ) (sWa σ) (80 * k) 0 e)) (shPx up k i n e (x + 1) (sPl σ))) _ := hR
                  refine lv_iinc (v := nI (x + 1)) (lv' := [(9, .int (nI (x + 1))), (10, .int (nI (x + n))), (8, .int (nI e)), (7, .int (nI (80 * k))), (0, .ref mm), (1, .int (nI j)), (2, .int (nI i)), (3, .int (nI n)), (4, .int (bI up))]) hx hb dX3_shifts_125 hl (k := 1) rfl (nI_1 x) (by decide) rfl (fun ls hl => ?_)
                  refine lv_goto (tgt := 66) hx hb dX3_shifts_128 (by decide) ?_
                  exact ih (x + 1) _ H locs (by omega) (by omega) (by omega) hW hS hR ls (lv_sub hl [0, 2, 3, 4, 5, 6, 7, 8] rfl)
            · have c_75 := bI_n c_75
              refine lv_iload hx hb dX3_shifts_78 (lv_at hl 0 rfl) ?_
              refine lv_iload_n hx hb dX3_shifts_80 rfl (lv_at hl 6 rfl) ?_
              refine lv_isub hx hb dX3_shifts_81 ?_
              refine lv_goto (tgt := 89) hx hb dX3_shifts_82 (by decide) ?_
              refine lv_istore (lv' := [(10, .int ((nI x) - (nI n))), (9, .int (nI x)), (8, .int (nI e)), (7, .int (nI (80 * k))), (0, .ref mm), (1, .int (nI j)), (2, .int (nI i)), (3, .int (nI n)), (4, .int (bI up))]) hx hb dX3_shifts_89 hl (by decide) rfl (fun ls hl => ?_)
              refine lv_aload_n hx hb dX3_shifts_91 rfl (lv_at hl 4 rfl) ?_
              refine mw_get (C := RX3) (T := TX3) (N := 14) F hK hW hI_X3 (show _ = some (Sum.inr (3, [.ref (ad 0), .ref (ad 1), .ref (ad 2), .ref (ad 3), .ref (ad 4), .ref (ad 5), .ref (ad 6), .ref (ad 7), .ref (ad 8), .int (nI k), .int (sCam σ), .int (sGoo σ), .int (sRow σ), .int (sCar σ)])) from hR.1) rfl 4 (by decide) hl_fieldLink_RX3_22_SpliceBenchModel_places_J rfl dX3_shifts_92 ?_
              refine lv_iload hx hb dX3_shifts_95 (lv_at hl 3 rfl) ?_
              refine lv_iload hx hb dX3_shifts_97 (lv_at hl 1 rfl) ?_
              refine lv_iadd hx hb dX3_shifts_99 ?_
              rw [nI_add]
              refine lv_iload hx hb dX3_shifts_100 (lv_at hl 0 rfl) ?_
              refine lv_iload_n hx hb dX3_shifts_102 rfl (lv_at hl 6 rfl) ?_
              refine lv_icmp_lt (tgt := 113) hx hb dX3_shifts_103 (by decide) (fun c_103 => ?_) (fun c_103 => ?_)
              · have hz : x < i + n := by
                  rcases Nat.lt_or_ge x (i + n) with h9 | h9
                  · exact h9
                  · rw [pk_sub (show n ≤ x by omega)] at c_103
                    exact absurd c_103 (nI_nlt (by omega) (by omega))
                refine lv_lconst (v := 0) hx hb dX3_shifts_113 (by decide) ?_
                refine lv_goto (tgt := 124) hx hb dX3_shifts_114 (by decide) ?_
                refine mw_last F hK hW hS 1 (show _ = some (Sum.inl (cJ, 960, Sum.inr (Sum.inl (shPx up k i n e x (sPl σ))))) from hR.2.2.2.2.2.1) rfl (vp_in_nI (show (80 * k + x) < 960 by omega) (by omega)) dX3_shifts_124 (fun H locs hW hS => ?_)
                rw [nI_clamp (show (80 * k + x) < 2 ^ 31 by omega)] at hW
                rw [show vp_updL (shPx up k i n e x (sPl σ)) (80 * k + x) 0 = shPx up k i n e (x + 1) (sPl σ) from (shPx_s (by omega) (by simp only [shP]; rw [if_pos c_75, if_pos hz]))] at hW
                have hR := hR.wPl (shPx up k i n e (x + 1) (sPl σ))
                have hR : refAt cI cJ mm ad (wPl (wWa (wCov σ (nI k)) (va_cpy (sPl σ) (sWa σ) (80 * k) 0 e)) (shPx up k i n e (x + 1) (sPl σ))) _ := hR
                refine lv_iinc (v := nI (x + 1)) (lv' := [(9, .int (nI (x + 1))), (10, .int ((nI x) - (nI n))), (8, .int (nI e)), (7, .int (nI (80 * k))), (0, .ref mm), (1, .int (nI j)), (2, .int (nI i)), (3, .int (nI n)), (4, .int (bI up))]) hx hb dX3_shifts_125 hl (k := 1) rfl (nI_1 x) (by decide) rfl (fun ls hl => ?_)
                refine lv_goto (tgt := 66) hx hb dX3_shifts_128 (by decide) ?_
                exact ih (x + 1) _ H locs (by omega) (by omega) (by omega) hW hS hR ls (lv_sub hl [0, 2, 3, 4, 5, 6, 7, 8] rfl)
              · have hz : i + n ≤ x := by
                  rcases Nat.lt_or_ge x (i + n) with h9 | h9
                  · exfalso
                    refine c_103 ?_
                    rw [Int32.lt_iff_toInt_lt, pk_sub_toInt (by omega) (by omega), nI_toInt (by omega)]
                    omega
                  · exact h9
                have es : nI x - nI n = nI (x - n) := pk_sub (by omega)
                refine lv_iload hx hb dX3_shifts_106 (lv_at hl 0 rfl) ?_
                refine lv_iload hx hb dX3_shifts_108 (lv_at hl 2 rfl) ?_
                refine lv_icmp_lt (tgt := 117) hx hb dX3_shifts_110 (by decide) (fun c_110 => ?_) (fun c_110 => ?_)
                · refine lv_aload_n hx hb dX3_shifts_117 rfl (lv_at hl 4 rfl) ?_
                  refine mw_get (C := RX3) (T := TX3) (N := 14) F hK hW hI_X3 (show _ = some (Sum.inr (3, [.ref (ad 0), .ref (ad 1), .ref (ad 2), .ref (ad 3), .ref (ad 4), .ref (ad 5), .ref (ad 6), .ref (ad 7), .ref (ad 8), .int (nI k), .int (sCam σ), .int (sGoo σ), .int (sRow σ), .int (sCar σ)])) from hR.1) rfl 5 (by decide) hl_fieldLink_RX3_26_SpliceBenchModel_was_J rfl dX3_shifts_118 ?_
                  refine lv_iload hx hb dX3_shifts_121 (lv_at hl 0 rfl) ?_
                  rw [es]
                  refine mw_lald F hK hW 1 (show _ = some (Sum.inl (cJ, 80, Sum.inr (Sum.inl (va_cpy (sPl σ) (sWa σ) (80 * k) 0 e)))) from hR.2.2.2.2.2.2.1) rfl (vp_in_nI (show (x - n) < 80 by omega) (by omega)) dX3_shifts_123 ?_
                  rw [nI_clamp (show (x - n) < 2 ^ 31 by omega)]
                  rw [cpy_was (show x - n < e by omega)]
                  refine mw_last F hK hW hS 1 (show _ = some (Sum.inl (cJ, 960, Sum.inr (Sum.inl (shPx up k i n e x (sPl σ))))) from hR.2.2.2.2.2.1) rfl (vp_in_nI (show (80 * k + x) < 960 by omega) (by omega)) dX3_shifts_124 (fun H locs hW hS => ?_)
                  rw [nI_clamp (show (80 * k + x) < 2 ^ 31 by omega)] at hW
                  rw [show vp_updL (shPx up k i n e x (sPl σ)) (80 * k + x) (sPl σ (80 * k + (x - n))) = shPx up k i n e (x + 1) (sPl σ) from (shPx_s (by omega) (by simp only [shP]; rw [if_pos c_75, if_neg (by omega)]))] at hW
                  have hR := hR.wPl (shPx up k i n e (x + 1) (sPl σ))
                  have hR : refAt cI cJ mm ad (wPl (wWa (wCov σ (nI k)) (va_cpy (sPl σ) (sWa σ) (80 * k) 0 e)) (shPx up k i n e (x + 1) (sPl σ))) _ := hR
                  refine lv_iinc (v := nI (x + 1)) (lv' := [(9, .int (nI (x + 1))), (10, .int ((nI x) - (nI n))), (8, .int (nI e)), (7, .int (nI (80 * k))), (0, .ref mm), (1, .int (nI j)), (2, .int (nI i)), (3, .int (nI n)), (4, .int (bI up))]) hx hb dX3_shifts_125 hl (k := 1) rfl (nI_1 x) (by decide) rfl (fun ls hl => ?_)
                  refine lv_goto (tgt := 66) hx hb dX3_shifts_128 (by decide) ?_
                  exact ih (x + 1) _ H locs (by omega) (by omega) (by omega) hW hS hR ls (lv_sub hl [0, 2, 3, 4, 5, 6, 7, 8] rfl)
                · rw [es] at c_110
                  exact absurd (nI_lt (by omega) (by omega)) c_110
      exact loop (e + 1) i _ _ _ (by omega) (Nat.le_refl _) (by omega) hW hS hR ls (lv_sub hl [0, 1, 2, 5, 6, 7, 8, 9] rfl)
    · obtain ⟨t5, ht1, ht4, et⟩ := hind_of c_21
      refine lv_aload_n hx hb dX3_shifts_24 rfl (lv_at hl 1 rfl) ?_
      refine lv_iload hx hb dX3_shifts_25 (lv_at hl 0 rfl) ?_
      rw [et]
      refine mw_calli (va_runV (As := [.int (nI t5)]) (rest := []) F (c_X3_fails (t5 := t5) hR (show t5 < 5 by omega)) (cwV 1 hts gX3_shifts_X3_fails rfl rfl rfl (by decide +kernel) ⟨Nat.le_of_ble_eq_true rfl, Nat.le_of_ble_eq_true rfl⟩) (mw_prV (q := (RX3, TX3, 14)) hK hO hW rfl hR.1) rfl rfl hl.1 rfl (lv_room (Nat.le_of_ble_eq_true rfl)) dX3_shifts_27 ⟨Nat.zero_le _, Nat.zero_le _⟩) hW hS hA (fun r_3 M1 H locs h9 hW hS => ?_)
      obtain ⟨er_3, hR⟩ := h9
      subst er_3
      exact W.iret hx hb hr (fun t ht hw => ⟨⟨_, _, rfl, (by
        have e8 : rfShift σ (nI j) i0 n0 up = (-nI t5, rfFails σ t5) := by
          unfold rfShift
          rw [if_pos esp_j, eix_j, if_neg c_21, et]
          simp only [ix, nI_clamp (show t5 < 2 ^ 31 by omega)]
        rw [e8]; exact ⟨rfl, hR⟩), by rw [ht]; exact hW, va_K.moved hw.alike hK⟩, hS.F ht⟩) hS.2.2 dX3_shifts_30
  · have c_4 := bI_e c_4
    refine lv_bipush (v := (-9)) hx hb dX3_shifts_7 (by decide) ?_
    exact W.iret hx hb hr (fun t ht hw => ⟨⟨_, _, rfl, (by
      have e8 : rfShift σ s0 i0 n0 up = (-9, σ) := by simp [rfShift, c_4]
      rw [e8]; exact ⟨rfl, hR⟩), by rw [ht]; exact hW, va_K.moved hw.alike hK⟩, hS.F ht⟩) hS.2.2 dX3_shifts_9
abbrev rmX3_open : Room := ({ frames := 4, cells := 0, slots := 0, locals := 95 } : Room)
set_option maxHeartbeats 4000000 in
set_option maxRecDepth 100000 in
theorem c_X3_open {mm : Nat} {ad : Nat → Nat} {σ : RS} (hR : refAt cI cJ mm ad σ M) {cc : Nat} (hI : Inv σ cc) {s0 i0 n0 : Int32} : Met l yX3_open wsX3_open rmX3_open (va_Pc [.ref mm, .int s0, .int i0, .int n0] (mwPre D (tyL cI cJ cC cH) M sz)) (va_Qi (fun r M' => r = (rfShift σ s0 i0 n0 true).1 ∧ refAt cI cJ mm ad (rfShift σ s0 i0 n0 true).2 M') (mwB D (tyL cI cJ cC cH) M sz) (mwA M sz)) 0 0 (mwA M sz) := by
  refine Met.ofW (cc := cX3_open) (maxL := 4) (ret := (some .int)) (by decide) rfl ?_
  intro pr env s m args below meth c s₁ B hml hv
  obtain ⟨rfl, hsz, hW, hK, hO⟩ := hv
  subst hsz
  have hW := hW.self (sz := s.heap.size)
  have hS : va_S (mwA M s.heap.size) s.heap s.heap [] := va_S.rf
  have hA : ∀ q, s.heap.size ≤ q → mwA M s.heap.size q := fun q h => Or.inr h
  have hx := B.exec
  have hb := B.bytes
  have hr := B.returns
  have hts := atoms_spec (ws := wsX3_open) B.pre
  have hown : s.vm.findClass RX3 = some m.cls := findClass_of_methodNamed B.named
  have hlocks := B.notSynchronized
  have F : CallFix pr m c cX3_open 4 s ([.ref mm, .int s0, .int i0, .int n0] : List Value).toArray wsX3_open RX3 := ⟨hx, hb, hml, hown, hts⟩
  have hl := lv_entry ([.ref mm, .int s0, .int i0, .int n0]) (n := 4) (Nat.le_of_ble_eq_true rfl)
  rw [lg_entry_eq]
  generalize (lg_sl ([.ref mm, .int s0, .int i0, .int n0]) ++ List.replicate (4 - (lg_sl ([.ref mm, .int s0, .int i0, .int n0])).length) Slot.unset).toArray = ls at hl ⊢
  have hl : lv_has ls 4 [(0, .ref mm), (1, .int s0), (2, .int i0), (3, .int n0)] := hl
  refine lv_aload_n hx hb dX3_open_0 rfl (lv_at hl 0 rfl) ?_
  refine lv_iload_n hx hb dX3_open_1 rfl (lv_at hl 1 rfl) ?_
  refine lv_iload_n hx hb dX3_open_2 rfl (lv_at hl 2 rfl) ?_
  refine lv_iload_n hx hb dX3_open_3 rfl (lv_at hl 3 rfl) ?_
  refine lv_iconst (v := 1) hx hb dX3_open_4 (by decide) ?_
  refine mw_calli (va_runV (As := [.int s0, .int i0, .int n0, .int 1]) (rest := []) F (c_X3_shifts (s0 := s0) (i0 := i0) (n0 := n0) (up := true) hR hI) (cwV 4 hts gX3_open_X3_shifts rfl rfl rfl (by decide +kernel) ⟨Nat.le_of_ble_eq_true rfl, Nat.le_of_ble_eq_true rfl⟩) (mw_prV (q := (RX3, TX3, 14)) hK hO hW rfl hR.1) rfl rfl hl.1 rfl (lv_room (Nat.le_of_ble_eq_true rfl)) dX3_open_5 ⟨Nat.zero_le _, Nat.zero_le _⟩) hW hS hA (fun r M1 H locs h9 hW hS => ?_)
  exact W.iret hx hb hr (fun t ht hw => ⟨⟨_, _, rfl, h9, by rw [ht]; exact hW, va_K.moved hw.alike hK⟩, hS.F ht⟩) hS.2.2 dX3_open_8
abbrev rmX3_close : Room := ({ frames := 4, cells := 0, slots := 0, locals := 95 } : Room)
set_option maxHeartbeats 4000000 in
set_option maxRecDepth 100000 in
theorem c_X3_close {mm : Nat} {ad : Nat → Nat} {σ : RS} (hR : refAt cI cJ mm ad σ M) {cc : Nat} (hI : Inv σ cc) {s0 i0 n0 : Int32} : Met l yX3_close wsX3_close rmX3_close (va_Pc [.ref mm, .int s0, .int i0, .int n0] (mwPre D (tyL cI cJ cC cH) M sz)) (va_Qi (fun r M' => r = (rfShift σ s0 i0 n0 false).1 ∧ refAt cI cJ mm ad (rfShift σ s0 i0 n0 false).2 M') (mwB D (tyL cI cJ cC cH) M sz) (mwA M sz)) 0 0 (mwA M sz) := by
  refine Met.ofW (cc := cX3_close) (maxL := 4) (ret := (some .int)) (by decide) rfl ?_
  intro pr env s m args below meth c s₁ B hml hv
  obtain ⟨rfl, hsz, hW, hK, hO⟩ := hv
  subst hsz
  have hW := hW.self (sz := s.heap.size)
  have hS : va_S (mwA M s.heap.size) s.heap s.heap [] := va_S.rf
  have hA : ∀ q, s.heap.size ≤ q → mwA M s.heap.size q := fun q h => Or.inr h
  have hx := B.exec
  have hb := B.bytes
  have hr := B.returns
  have hts := atoms_spec (ws := wsX3_close) B.pre
  have hown : s.vm.findClass RX3 = some m.cls := findClass_of_methodNamed B.named
  have hlocks := B.notSynchronized
  have F : CallFix pr m c cX3_close 4 s ([.ref mm, .int s0, .int i0, .int n0] : List Value).toArray wsX3_close RX3 := ⟨hx, hb, hml, hown, hts⟩
  have hl := lv_entry ([.ref mm, .int s0, .int i0, .int n0]) (n := 4) (Nat.le_of_ble_eq_true rfl)
  rw [lg_entry_eq]
  generalize (lg_sl ([.ref mm, .int s0, .int i0, .int n0]) ++ List.replicate (4 - (lg_sl ([.ref mm, .int s0, .int i0, .int n0])).length) Slot.unset).toArray = ls at hl ⊢
  have hl : lv_has ls 4 [(0, .ref mm), (1, .int s0), (2, .int i0), (3, .int n0)] := hl
  refine lv_aload_n hx hb dX3_close_0 rfl (lv_at hl 0 rfl) ?_
  refine lv_iload_n hx hb dX3_close_1 rfl (lv_at hl 1 rfl) ?_
  refine lv_iload_n hx hb dX3_close_2 rfl (lv_at hl 2 rfl) ?_
  refine lv_iload_n hx hb dX3_close_3 rfl (lv_at hl 3 rfl) ?_
  refine lv_iconst (v := 0) hx hb dX3_close_4 (by decide) ?_
  refine mw_calli (va_runV (As := [.int s0, .int i0, .int n0, .int 0]) (rest := []) F (c_X3_shifts (s0 := s0) (i0 := i0) (n0 := n0) (up := false) hR hI) (cwV 4 hts gX3_close_X3_shifts rfl rfl rfl (by decide +kernel) ⟨Nat.le_of_ble_eq_true rfl, Nat.le_of_ble_eq_true rfl⟩) (mw_prV (q := (RX3, TX3, 14)) hK hO hW rfl hR.1) rfl rfl hl.1 rfl (lv_room (Nat.le_of_ble_eq_true rfl)) dX3_close_5 ⟨Nat.zero_le _, Nat.zero_le _⟩) hW hS hA (fun r M1 H locs h9 hW hS => ?_)
  exact W.iret hx hb hr (fun t ht hw => ⟨⟨_, _, rfl, h9, by rw [ht]; exact hW, va_K.moved hw.alike hK⟩, hS.F ht⟩) hS.2.2 dX3_close_8
end X3S
