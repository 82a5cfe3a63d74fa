section X3V
variable {l : Launch} {D : va_G} {cI cJ cC cH : ClassId} {M : Nat → Option va_E} {sz : Nat}
theorem kRowOf {σ : RS} {cc j : Nat} (hI : Inv σ cc) (hj : j < 10) (h0 : ¬ kOf σ j = 0) (h1 : ¬ kOf σ j = 1) : ∃ k e : Nat, k < 12 ∧ sHo σ j = nI (k + 1) ∧ e ≤ 80 ∧ sSi σ k = nI e ∧ szOf σ j = nI e := by
  rcases hI.ho hj with h | ⟨k, hk, h⟩ | ⟨k, hk, h⟩
  · exact absurd (kOf_0 h) h0
  · exact absurd (kOf_lab hk h) h1
  · obtain ⟨e, he, en⟩ := hI.sz hk
    exact ⟨k, e, hk, h, he, en, (szOf_row hk h).trans en⟩
def bkP (P : Nat → Int64) (x y q z : Nat) : Nat → Int64 := fun w => if y + z ≤ w ∧ w < y + q then P (x + (w - y)) else P w
theorem bkP_q (P : Nat → Int64) (x y q : Nat) : bkP P x y q q = P := by
  funext w
  unfold bkP
  rw [if_neg (by omega)]
theorem bkP_0 (P : Nat → Int64) (x y q : Nat) : bkP P x y q 0 = va_cpy P P x y q := rfl
theorem bkP_r {P : Nat → Int64} {x y q z : Nat} (h : x < y) : bkP P x y q (z + 1) (x + z) = P (x + z) := by
  unfold bkP
  rw [if_neg (by omega)]
theorem bkP_s {P : Nat → Int64} {x y q z : Nat} (hz : z < q) : vp_updL (bkP P x y q (z + 1)) (y + z) (P (x + z)) = bkP P x y q z := by
  funext w
  unfold vp_updL bkP
  by_cases hw : w = y + z
  · subst hw
    rw [if_pos rfl, if_pos (by omega), show y + z - y = z by omega]
  · rw [if_neg hw]
    by_cases h2 : y + (z + 1) ≤ w ∧ w < y + q
    · rw [if_pos h2, if_pos (by omega)]
    · rw [if_neg h2, if_neg (by omega)]
theorem fwP_r {P : Nat → Int64} {x y z : Nat} (h : y ≤ x) : va_cpy P P x y z (x + z) = P (x + z) := pk_cpy_out (by omega)
theorem mvCov_pl (σ : RS) (kt et q : Nat) : sPl (rfMvCov σ kt et q) = sPl σ := by
  unfold rfMvCov
  split <;> rfl
theorem mvCov_goo (σ : RS) (kt et q : Nat) : sGoo (rfMvCov σ kt et q) = sGoo σ := by
  unfold rfMvCov
  split <;> rfl
abbrev rmX3_move : Room := ({ frames := 2, cells := 0, slots := 0, locals := 42 } : Room)
set_option maxHeartbeats 8000000 in
set_option maxRecDepth 100000 in
theorem c_X3_move {mm : Nat} {ad : Nat → Nat} {σ : RS} (hR : refAt cI cJ mm ad σ M) {cc : Nat} (hI : Inv σ cc) {s0 i0 t0 j0 n0 : Int32} : Met l yX3_move wsX3_move rmX3_move (va_Pc [.ref mm, .int s0, .int i0, .int t0, .int j0, .int n0] (mwPre D (tyL cI cJ cC cH) M sz)) (va_Qi (fun r M' => r = (rfMove σ s0 i0 t0 j0 n0).1 ∧ refAt cI cJ mm ad (rfMove σ s0 i0 t0 j0 n0).2 M') (mwB D (tyL cI cJ cC cH) M sz) (mwA M sz)) 0 0 (mwA M sz) := by
  refine Met.ofW (cc := cX3_move) (maxL := 12) (ret := (some .int)) (by decide) rfl ?_
  intro pr env s m args below meth c s₁ B hml hv
  obtain ⟨rfl, hsz, hW, hK, hO⟩ := hv
  subst hsz
  have hW := hW.self (sz := s.heap.size)
  have hS : va_S (mwA M s.heap.size) s.heap s.heap [] := va_S.rf
  have hA : ∀ q, s.heap.size ≤ q → mwA M s.heap.size q := fun q h => Or.inr h
  have hx := B.exec
  have hb := B.bytes
  have hr := B.returns
  have hts := atoms_spec (ws := wsX3_move) B.pre
  have hown : s.vm.findClass RX3 = some m.cls := findClass_of_methodNamed B.named
  have hlocks := B.notSynchronized
  have F : CallFix pr m c cX3_move 12 s ([.ref mm, .int s0, .int i0, .int t0, .int j0, .int n0] : List Value).toArray wsX3_move RX3 := ⟨hx, hb, hml, hown, hts⟩
  have hI_X3 : ∀ w ∈ wsX30, w ∈ wsX3_move := by decide +kernel
  have hl_fieldLink_RX3_7_SpliceBenchModel_holds_I := hts (.fieldLink RX3 7 "SpliceBenchModel" "holds" "[I") (by decide +kernel)
  have hl_fieldLink_RX3_69_SpliceBenchModel_came_I := hts (.fieldLink RX3 69 "SpliceBenchModel" "came" "I") (by decide +kernel)
  have hl_fieldLink_RX3_91_SpliceBenchModel_good_I := hts (.fieldLink RX3 91 "SpliceBenchModel" "good" "I") (by decide +kernel)
  have hl_fieldLink_RX3_22_SpliceBenchModel_places_J := hts (.fieldLink RX3 22 "SpliceBenchModel" "places" "[J") (by decide +kernel)
  have hl := lv_entry ([.ref mm, .int s0, .int i0, .int t0, .int j0, .int n0]) (n := 12) (Nat.le_of_ble_eq_true rfl)
  rw [lg_entry_eq]
  generalize (lg_sl ([.ref mm, .int s0, .int i0, .int t0, .int j0, .int n0]) ++ List.replicate (12 - (lg_sl ([.ref mm, .int s0, .int i0, .int t0, .int j0, .int n0])).length) Slot.unset).toArray = ls at hl ⊢
  have hl : lv_has ls 12 [(0, .ref mm), (1, .int s0), (2, .int i0), (3, .int t0), (4, .int j0), (5, .int n0)] := hl
  refine lv_iload_n hx hb dX3_move_0 rfl (lv_at hl 1 rfl) ?_
  refine vp_callSi (W.runS (As := [.int s0]) (rest := []) F (c_X3_isSpindle) (cwS 1 hts gX3_move_X3_isSpindle rfl rfl rfl (by decide +kernel) ⟨Nat.le_of_ble_eq_true rfl, Nat.le_of_ble_eq_true rfl⟩) (mw_prS hK hO hW) rfl rfl hl.1 rfl (lv_room (Nat.le_of_ble_eq_true rfl)) dX3_move_1 ⟨Nat.zero_le _, Nat.zero_le _⟩) (fun r_1 er_1 => ?_)
  subst er_1
  refine lv_if_eq (tgt := 14) hx hb dX3_move_4 (by decide) (fun c_4 => ?_) (fun c_4 => ?_)
  · have c_4 := bI_e c_4
    refine lv_bipush (v := (-9)) hx hb dX3_move_14 (by decide) ?_
    exact W.iret hx hb hr (fun t ht hw => ⟨⟨_, _, rfl, (by
      have e8 : rfMove σ s0 i0 t0 j0 n0 = (-9, σ) := by simp [rfMove, c_4]
      rw [e8]; exact ⟨rfl, hR⟩), by rw [ht]; exact hW, va_K.moved hw.alike hK⟩, hS.F ht⟩) hS.2.2 dX3_move_16
  · obtain ⟨js, hjs, rfl⟩ := isSp_of (bI_n c_4)
    have esp_js := isSp_nI hjs
    have eix_js : ix (nI js) = js := nI_clamp (by omega)
    refine lv_iload_n hx hb dX3_move_7 rfl (lv_at hl 3 rfl) ?_
    refine vp_callSi (W.runS (As := [.int t0]) (rest := []) F (c_X3_isSpindle) (cwS 1 hts gX3_move_X3_isSpindle rfl rfl rfl (by decide +kernel) ⟨Nat.le_of_ble_eq_true rfl, Nat.le_of_ble_eq_true rfl⟩) (mw_prS hK hO hW) rfl rfl hl.1 rfl (lv_room (Nat.le_of_ble_eq_true rfl)) dX3_move_8 ⟨Nat.zero_le _, Nat.zero_le _⟩) (fun r_2 er_2 => ?_)
    subst er_2
    refine lv_if_ne (tgt := 17) hx hb dX3_move_11 (by decide) (fun c_11 => ?_) (fun c_11 => ?_)
    · obtain ⟨jt, hjt, rfl⟩ := isSp_of (bI_n c_11)
      have esp_jt := isSp_nI hjt
      have eix_jt : ix (nI jt) = jt := nI_clamp (by omega)
      refine lv_aload_n hx hb dX3_move_17 rfl (lv_at hl 0 rfl) ?_
      refine lv_iload_n hx hb dX3_move_18 rfl (lv_at hl 1 rfl) ?_
      refine vp_callSi (W.runV (As := [.int (nI js)]) (rest := []) F (c_X3_kindOf hR (show js < 10 by omega) (hI.ho hjs)) (cwV 1 hts gX3_move_X3_kindOf rfl rfl rfl (by decide +kernel) ⟨Nat.le_of_ble_eq_true rfl, Nat.le_of_ble_eq_true rfl⟩) (mw_prV (q := (RX3, TX3, 14)) hK hO hW rfl hR.1) rfl rfl hl.1 rfl (lv_room (Nat.le_of_ble_eq_true rfl)) dX3_move_19 ⟨Nat.zero_le _, Nat.zero_le _⟩) (fun r_3 er_3 => ?_)
      subst er_3
      refine lv_istore (lv' := [(6, .int (kOf σ js)), (0, .ref mm), (1, .int (nI js)), (2, .int i0), (3, .int (nI jt)), (4, .int j0), (5, .int n0)]) hx hb dX3_move_22 hl (by decide) rfl (fun ls hl => ?_)
      refine lv_aload_n hx hb dX3_move_24 rfl (lv_at hl 1 rfl) ?_
      refine lv_iload_n hx hb dX3_move_25 rfl (lv_at hl 4 rfl) ?_
      refine vp_callSi (W.runV (As := [.int (nI jt)]) (rest := []) F (c_X3_kindOf hR (show jt < 10 by omega) (hI.ho hjt)) (cwV 1 hts gX3_move_X3_kindOf rfl rfl rfl (by decide +kernel) ⟨Nat.le_of_ble_eq_true rfl, Nat.le_of_ble_eq_true rfl⟩) (mw_prV (q := (RX3, TX3, 14)) hK hO hW rfl hR.1) rfl rfl hl.1 rfl (lv_room (Nat.le_of_ble_eq_true rfl)) dX3_move_26 ⟨Nat.zero_le _, Nat.zero_le _⟩) (fun r_4 er_4 => ?_)
      subst er_4
      refine lv_istore (lv' := [(7, .int (kOf σ jt)), (6, .int (kOf σ js)), (0, .ref mm), (1, .int (nI js)), (2, .int i0), (3, .int (nI jt)), (4, .int j0), (5, .int n0)]) hx hb dX3_move_29 hl (by decide) rfl (fun ls hl => ?_)
      refine lv_iload hx hb dX3_move_31 (lv_at hl 1 rfl) ?_
      refine lv_if_eq (tgt := 41) hx hb dX3_move_33 (by decide) (fun c_33 => ?_) (fun c_33 => ?_)
      · refine lv_aload_n hx hb dX3_move_41 rfl (lv_at hl 2 rfl) ?_
        refine lv_iconst (v := 1) hx hb dX3_move_42 (by decide) ?_
        refine mw_calli (va_runV (As := [.int (nI 1)]) (rest := []) F (c_X3_fails (t5 := 1) hR (show 1 < 5 by omega)) (cwV 1 hts gX3_move_X3_fails rfl rfl rfl (by decide +kernel) ⟨Nat.le_of_ble_eq_true rfl, Nat.le_of_ble_eq_true rfl⟩) (mw_prV (q := (RX3, TX3, 14)) hK hO hW rfl hR.1) rfl rfl hl.1 rfl (lv_room (Nat.le_of_ble_eq_true rfl)) dX3_move_43 ⟨Nat.zero_le _, Nat.zero_le _⟩) hW hS hA (fun r_5 M1 H locs h9 hW hS => ?_)
        obtain ⟨er_5, hR⟩ := h9
        subst er_5
        exact W.iret hx hb hr (fun t ht hw => ⟨⟨_, _, rfl, (by
          have em : mvF σ js jt i0 j0 n0 = 1 := by unfold mvF; rw [if_pos (Or.inl c_33)]
          have e8 : rfMove σ (nI js) i0 (nI jt) j0 n0 = (-nI 1, rfFails σ 1) := by
            unfold rfMove
            rw [if_pos ⟨esp_js, esp_jt⟩, eix_js, eix_jt, em]
            rfl
          rw [e8]; exact ⟨rfl, hR⟩), by rw [ht]; exact hW, va_K.moved hw.alike hK⟩, hS.F ht⟩) hS.2.2 dX3_move_46
      · refine lv_iload hx hb dX3_move_36 (lv_at hl 0 rfl) ?_
        refine lv_if_ne (tgt := 47) hx hb dX3_move_38 (by decide) (fun c_38 => ?_) (fun c_38 => ?_)
        · have tail84 : ∀ (H : Heap) (locs : List Loc), mw D (mwA M s.heap.size) M H → va_S (mwA M s.heap.size) s.heap H locs → refAt cI cJ mm ad σ M → (¬ kOf σ js = 1) → (¬ kOf σ jt = 1) → (kOf σ jt = 5 → rkOf σ js = true) → mvF σ js jt i0 j0 n0 = (if beyB i0 n0 (szOf σ js) = true ∨ beyB j0 n0 (szOf σ jt) = true then 3 else 0) → ∀ (ls : Array Slot), lv_has ls 12 [(0, .ref mm), (1, .int (nI js)), (2, .int i0), (3, .int (nI jt)), (4, .int j0), (5, .int n0), (6, .int (kOf σ js)), (7, .int (kOf σ jt))] → W pr l env (headSpec wsX3_move rmX3_move).room s m ([.ref mm, .int (nI js), .int i0, .int (nI jt), .int j0, .int n0] : List Value).toArray below meth c H locs 0 0 (MQ below (va_Qi (fun r M' => r = (rfMove σ (nI js) i0 (nI jt) j0 n0).1 ∧ refAt cI cJ mm ad (rfMove σ (nI js) i0 (nI jt) j0 n0).2 M') (mwB D (tyL cI cJ cC cH) M s.heap.size) (mwA M s.heap.size)) ([.ref mm, .int (nI js), .int i0, .int (nI jt), .int j0, .int n0] : List Value).toArray s 0 0 (mwA M s.heap.size)) (F0 m 84 ls []) := by
            intro H locs hW hS hR h50 h56 hlk hmf ls hl
            refine lv_iload_n hx hb dX3_move_84 rfl (lv_at hl 2 rfl) ?_
            refine lv_iload hx hb dX3_move_85 (lv_at hl 5 rfl) ?_
            refine lv_aload_n hx hb dX3_move_87 rfl (lv_at hl 0 rfl) ?_
            refine lv_iload_n hx hb dX3_move_88 rfl (lv_at hl 1 rfl) ?_
            refine vp_callSi (W.runV (As := [.int (nI js)]) (rest := [.int n0, .int i0]) F (c_X3_sizeOf hR (show js < 10 by omega) (hI.ho hjs)) (cwV 1 hts gX3_move_X3_sizeOf rfl rfl rfl (by decide +kernel) ⟨Nat.le_of_ble_eq_true rfl, Nat.le_of_ble_eq_true rfl⟩) (mw_prV (q := (RX3, TX3, 14)) hK hO hW rfl hR.1) rfl rfl hl.1 rfl (lv_room (Nat.le_of_ble_eq_true rfl)) dX3_move_89 ⟨Nat.zero_le _, Nat.zero_le _⟩) (fun r_6 er_6 => ?_)
            subst er_6
            refine vp_callSi (W.runS (As := [.int i0, .int n0, .int (szOf σ js)]) (rest := []) F (c_X3_isBeyond) (cwS 3 hts gX3_move_X3_isBeyond rfl rfl rfl (by decide +kernel) ⟨Nat.le_of_ble_eq_true rfl, Nat.le_of_ble_eq_true rfl⟩) (mw_prS hK hO hW) rfl rfl hl.1 rfl (lv_room (Nat.le_of_ble_eq_true rfl)) dX3_move_92 ⟨Nat.zero_le _, Nat.zero_le _⟩) (fun r_7 er_7 => ?_)
            subst er_7
            refine lv_if_ne (tgt := 113) hx hb dX3_move_95 (by decide) (fun c_95 => ?_) (fun c_95 => ?_)
            · have c_95 := bI_n c_95
              refine lv_aload_n hx hb dX3_move_113 rfl (lv_at hl 0 rfl) ?_
              refine lv_iconst (v := 3) hx hb dX3_move_114 (by decide) ?_
              refine mw_calli (va_runV (As := [.int (nI 3)]) (rest := []) F (c_X3_fails (t5 := 3) hR (show 3 < 5 by omega)) (cwV 1 hts gX3_move_X3_fails rfl rfl rfl (by decide +kernel) ⟨Nat.le_of_ble_eq_true rfl, Nat.le_of_ble_eq_true rfl⟩) (mw_prV (q := (RX3, TX3, 14)) hK hO hW rfl hR.1) rfl rfl hl.1 rfl (lv_room (Nat.le_of_ble_eq_true rfl)) dX3_move_115 ⟨Nat.zero_le _, Nat.zero_le _⟩) hW hS hA (fun r_8 M1 H locs h9 hW hS => ?_)
              obtain ⟨er_8, hR⟩ := h9
              subst er_8
              exact W.iret hx hb hr (fun t ht hw => ⟨⟨_, _, rfl, (by
                have em : mvF σ js jt i0 j0 n0 = 3 := by rw [hmf, if_pos (Or.inl c_95)]
                have e8 : rfMove σ (nI js) i0 (nI jt) j0 n0 = (-nI 3, rfFails σ 3) := by
                  unfold rfMove
                  rw [if_pos ⟨esp_js, esp_jt⟩, eix_js, eix_jt, em]
                  rfl
                rw [e8]; exact ⟨rfl, hR⟩), by rw [ht]; exact hW, va_K.moved hw.alike hK⟩, hS.F ht⟩) hS.2.2 dX3_move_118
            · have c_95 := bI_e c_95
              refine lv_iload hx hb dX3_move_98 (lv_at hl 4 rfl) ?_
              refine lv_iload hx hb dX3_move_100 (lv_at hl 5 rfl) ?_
              refine lv_aload_n hx hb dX3_move_102 rfl (lv_at hl 0 rfl) ?_
              refine lv_iload_n hx hb dX3_move_103 rfl (lv_at hl 3 rfl) ?_
              refine vp_callSi (W.runV (As := [.int (nI jt)]) (rest := [.int n0, .int j0]) F (c_X3_sizeOf hR (show jt < 10 by omega) (hI.ho hjt)) (cwV 1 hts gX3_move_X3_sizeOf rfl rfl rfl (by decide +kernel) ⟨Nat.le_of_ble_eq_true rfl, Nat.le_of_ble_eq_true rfl⟩) (mw_prV (q := (RX3, TX3, 14)) hK hO hW rfl hR.1) rfl rfl hl.1 rfl (lv_room (Nat.le_of_ble_eq_true rfl)) dX3_move_104 ⟨Nat.zero_le _, Nat.zero_le _⟩) (fun r_9 er_9 => ?_)
              subst er_9
              refine vp_callSi (W.runS (As := [.int j0, .int n0, .int (szOf σ jt)]) (rest := []) F (c_X3_isBeyond) (cwS 3 hts gX3_move_X3_isBeyond rfl rfl rfl (by decide +kernel) ⟨Nat.le_of_ble_eq_true rfl, Nat.le_of_ble_eq_true rfl⟩) (mw_prS hK hO hW) rfl rfl hl.1 rfl (lv_room (Nat.le_of_ble_eq_true rfl)) dX3_move_107 ⟨Nat.zero_le _, Nat.zero_le _⟩) (fun r_10 er_10 => ?_)
              subst er_10
              refine lv_if_eq (tgt := 119) hx hb dX3_move_110 (by decide) (fun c_110 => ?_) (fun c_110 => ?_)
              · have c_110 := bI_e c_110
                obtain ⟨ks, es, hks, e9s, hes, ens, ezs⟩ := kRowOf hI hjs c_33 h50
                obtain ⟨kt, et, hkt, e9t, het, ent, ezt⟩ := kRowOf hI hjt c_38 h56
                have b1 : inPls i0 n0 (nI es) = true := by
                  have := c_95
                  rw [ezs, beyB_of hes] at this
                  simpa using this
                have b2 : inPls j0 n0 (nI et) = true := by
                  have := c_110
                  rw [ezt, beyB_of het] at this
                  simpa using this
                obtain ⟨i, n, rfl, rfl, hin⟩ := inPls_of hes b1
                obtain ⟨jj, n2, rfl, en2, hjn⟩ := inPls_of het b2
                have en3 : n2 = n := ((nI_eq (by omega) (by omega)).mp en2).symm
                rw [en3] at hjn
                have eii : ix (nI i) = i := nI_clamp (by omega)
                have ein : ix (nI n) = n := nI_clamp (by omega)
                have ejj : ix (nI jj) = jj := nI_clamp (by omega)
                have hmf0 : mvF σ js jt (nI i) (nI jj) (nI n) = 0 := by rw [hmf, if_neg (not_or.mpr ⟨by rw [c_95]; decide, by rw [c_110]; decide⟩)]
                have tail157 : ∀ (q : Nat), q ≤ n → q = mvN σ js jt i n → ∀ (ls : Array Slot), lv_has ls 12 [(0, .ref mm), (1, .int (nI js)), (2, .int (nI i)), (3, .int (nI jt)), (4, .int (nI jj)), (5, .int (nI n)), (8, .int (nI q))] → W pr l env (headSpec wsX3_move rmX3_move).room s m ([.ref mm, .int (nI js), .int (nI i), .int (nI jt), .int (nI jj), .int (nI n)] : List Value).toArray below meth c H locs 0 0 (MQ below (va_Qi (fun r M' => r = (rfMove σ (nI js) (nI i) (nI jt) (nI jj) (nI n)).1 ∧ refAt cI cJ mm ad (rfMove σ (nI js) (nI i) (nI jt) (nI jj) (nI n)).2 M') (mwB D (tyL cI cJ cC cH) M s.heap.size) (mwA M s.heap.size)) ([.ref mm, .int (nI js), .int (nI i), .int (nI jt), .int (nI jj), .int (nI n)] : List Value).toArray s 0 0 (mwA M s.heap.size)) (F0 m 157 ls []) := by
                  intro q hqn hqm ls hl
                  refine lv_bipush (v := 80) hx hb dX3_move_157 (by decide) ?_
                  refine lv_aload_n hx hb dX3_move_159 rfl (lv_at hl 0 rfl) ?_
                  refine mw_get (C := RX3) (T := TX3) (N := 14) F hK hW hI_X3 hR.1 rfl 0 (by decide) hl_fieldLink_RX3_7_SpliceBenchModel_holds_I rfl dX3_move_160 ?_
                  refine lv_iload_n hx hb dX3_move_163 rfl (lv_at hl 1 rfl) ?_
                  refine mw_iald F hK hW 0 hR.2.1 rfl (vp_in_nI (show js < 10 by omega) (by omega)) dX3_move_164 ?_
                  rw [nI_clamp (show js < 2 ^ 31 by omega)]
                  refine lv_iconst (v := 1) hx hb dX3_move_165 (by decide) ?_
                  refine lv_isub hx hb dX3_move_166 ?_
                  rw [e9s, nI_pred]
                  refine lv_imul hx hb dX3_move_167 ?_
                  rw [show (80 : Int32) = nI 80 from rfl, pk_mul]
                  refine lv_iload_n hx hb dX3_move_168 rfl (lv_at hl 2 rfl) ?_
                  refine lv_iadd hx hb dX3_move_169 ?_
                  rw [nI_add]
                  refine lv_istore (lv' := [(9, .int (nI (80 * ks + i))), (0, .ref mm), (1, .int (nI js)), (2, .int (nI i)), (3, .int (nI jt)), (4, .int (nI jj)), (5, .int (nI n)), (8, .int (nI q))]) hx hb dX3_move_170 hl (by decide) rfl (fun ls hl => ?_)
                  refine lv_bipush (v := 80) hx hb dX3_move_172 (by decide) ?_
                  refine lv_aload_n hx hb dX3_move_174 rfl (lv_at hl 1 rfl) ?_
                  refine mw_get (C := RX3) (T := TX3) (N := 14) F hK hW hI_X3 hR.1 rfl 0 (by decide) hl_fieldLink_RX3_7_SpliceBenchModel_holds_I rfl dX3_move_175 ?_
                  refine lv_iload_n hx hb dX3_move_178 rfl (lv_at hl 4 rfl) ?_
                  refine mw_iald F hK hW 0 hR.2.1 rfl (vp_in_nI (show jt < 10 by omega) (by omega)) dX3_move_179 ?_
                  rw [nI_clamp (show jt < 2 ^ 31 by omega)]
                  refine lv_iconst (v := 1) hx hb dX3_move_180 (by decide) ?_
                  refine lv_isub hx hb dX3_move_181 ?_
                  rw [e9t, nI_pred]
                  refine lv_imul hx hb dX3_move_182 ?_
                  rw [show (80 : Int32) = nI 80 from rfl, pk_mul]
                  refine lv_iload hx hb dX3_move_183 (lv_at hl 5 rfl) ?_
                  refine lv_iadd hx hb dX3_move_185 ?_
                  rw [nI_add]
                  refine lv_istore (lv' := [(10, .int (nI (80 * kt + jj))), (9, .int (nI (80 * ks + i))), (0, .ref mm), (1, .int (nI js)), (2, .int (nI i)), (3, .int (nI jt)), (4, .int (nI jj)), (5, .int (nI n)), (8, .int (nI q))]) hx hb dX3_move_186 hl (by decide) rfl (fun ls hl => ?_)
                  have tail205 : ∀ (σ1 : RS) (M1 : Nat → Option va_E) (H : Heap) (locs : List Loc), σ1 = rfMvCov σ kt et q → mw D (mwA M s.heap.size) M1 H → va_S (mwA M s.heap.size) s.heap H locs → refAt cI cJ mm ad σ1 M1 → ∀ (ls : Array Slot), lv_has ls 12 [(0, .ref mm), (5, .int (nI n)), (8, .int (nI q)), (9, .int (nI (80 * ks + i))), (10, .int (nI (80 * kt + jj)))] → W pr l env (headSpec wsX3_move rmX3_move).room s m ([.ref mm, .int (nI js), .int (nI i), .int (nI jt), .int (nI jj), .int (nI n)] : List Value).toArray below meth c H locs 0 0 (MQ below (va_Qi (fun r M' => r = (rfMove σ (nI js) (nI i) (nI jt) (nI jj) (nI n)).1 ∧ refAt cI cJ mm ad (rfMove σ (nI js) (nI i) (nI jt) (nI jj) (nI n)).2 M') (mwB D (tyL cI cJ cC cH) M s.heap.size) (mwA M s.heap.size)) ([.ref mm, .int (nI js), .int (nI i), .int (nI jt), .int (nI jj), .int (nI n)] : List Value).toArray s 0 0 (mwA M s.heap.size)) (F0 m 205 ls []) := by
                    intro σ1 M1 H locs e1 hW hS hR ls hl
                    have tail288 : ∀ (M1 : Nat → Option va_E) (H : Heap) (locs : List Loc), mw D (mwA M s.heap.size) M1 H → va_S (mwA M s.heap.size) s.heap H locs → refAt cI cJ mm ad (wPl σ1 (va_cpy (sPl σ1) (sPl σ1) (80 * ks + i) (80 * kt + jj) q)) M1 → ∀ (ls : Array Slot), lv_has ls 12 [(0, .ref mm), (5, .int (nI n)), (8, .int (nI q))] → W pr l env (headSpec wsX3_move rmX3_move).room s m ([.ref mm, .int (nI js), .int (nI i), .int (nI jt), .int (nI jj), .int (nI n)] : List Value).toArray below meth c H locs 0 0 (MQ below (va_Qi (fun r M' => r = (rfMove σ (nI js) (nI i) (nI jt) (nI jj) (nI n)).1 ∧ refAt cI cJ mm ad (rfMove σ (nI js) (nI i) (nI jt) (nI jj) (nI n)).2 M') (mwB D (tyL cI cJ cC cH) M s.heap.size) (mwA M s.heap.size)) ([.ref mm, .int (nI js), .int (nI i), .int (nI jt), .int (nI jj), .int (nI n)] : List Value).toArray s 0 0 (mwA M s.heap.size)) (F0 m 288 ls []) := by
                      intro M1 H locs hW hS hR ls hl
                      refine lv_iload hx hb dX3_move_288 (lv_at hl 2 rfl) ?_
                      refine lv_iload hx hb dX3_move_290 (lv_at hl 1 rfl) ?_
                      refine lv_icmp_ge (tgt := 311) hx hb dX3_move_292 (by decide) (fun c_292 => ?_) (fun c_292 => ?_)
                      · have hlt : ¬ q < n := by have := (nI_leI (by omega) (by omega)).mp c_292; omega
                        refine lv_aload_n hx hb dX3_move_311 rfl (lv_at hl 0 rfl) ?_
                        refine lv_iload hx hb dX3_move_312 (lv_at hl 1 rfl) ?_
                        refine mw_put (C := RX3) (T := TX3) (N := 14) (v := .int (nI n)) F hK hW hS hI_X3 tyX3 tyX3_ok nmX3 (show _ = some (Sum.inr (3, [.ref (ad 0), .ref (ad 1), .ref (ad 2), .ref (ad 3), .ref (ad 4), .ref (ad 5), .ref (ad 6), .ref (ad 7), .ref (ad 8), .int (sCov σ1), .int (sCam σ1), .int (sGoo σ1), .int (sRow σ1), .int (sCar σ1)])) from hR.1) rfl 10 (by decide) hl_fieldLink_RX3_69_SpliceBenchModel_came_I rfl rfl rfl (Nat.le_of_ble_eq_true rfl) dX3_move_314 (fun H locs hW hS => ?_)
                        have hR := hR.wCam (nI n)
                        refine lv_aload_n hx hb dX3_move_317 rfl (lv_at hl 0 rfl) ?_
                        refine lv_dup hx hb dX3_move_318 rfl ?_
                        refine mw_get (C := RX3) (T := TX3) (N := 14) F hK hW hI_X3 (show _ = some (Sum.inr (3, [.ref (ad 0), .ref (ad 1), .ref (ad 2), .ref (ad 3), .ref (ad 4), .ref (ad 5), .ref (ad 6), .ref (ad 7), .ref (ad 8), .int (sCov σ1), .int (nI n), .int (sGoo σ1), .int (sRow σ1), .int (sCar σ1)])) from hR.1) rfl 11 (by decide) hl_fieldLink_RX3_91_SpliceBenchModel_good_I rfl dX3_move_319 ?_
                        refine lv_iconst (v := 1) hx hb dX3_move_322 (by decide) ?_
                        refine lv_iadd hx hb dX3_move_323 ?_
                        refine mw_put (C := RX3) (T := TX3) (N := 14) (v := .int ((sGoo σ1) + 1)) F hK hW hS hI_X3 tyX3 tyX3_ok nmX3 (show _ = some (Sum.inr (3, [.ref (ad 0), .ref (ad 1), .ref (ad 2), .ref (ad 3), .ref (ad 4), .ref (ad 5), .ref (ad 6), .ref (ad 7), .ref (ad 8), .int (sCov σ1), .int (nI n), .int (sGoo σ1), .int (sRow σ1), .int (sCar σ1)])) from hR.1) rfl 11 (by decide) hl_fieldLink_RX3_91_SpliceBenchModel_good_I rfl rfl rfl (Nat.le_of_ble_eq_true rfl) dX3_move_324 (fun H locs hW hS => ?_)
                        have hR := hR.wGoo ((sGoo σ1) + 1)
                        refine lv_iload hx hb dX3_move_327 (lv_at hl 1 rfl) ?_
                        exact W.iret hx hb hr (fun t ht hw => ⟨⟨_, _, rfl, (by
                          have e8 : rfMove σ (nI js) (nI i) (nI jt) (nI jj) (nI n) = rfMvOk σ ks kt et i jj n q := by
                            unfold rfMove
                            rw [if_pos ⟨esp_js, esp_jt⟩, eix_js, eix_jt, if_pos hmf0, eii, ein, ejj, ezt, rIx_row hks e9s, rIx_row hkt e9t, ← hqm]
                            simp only [ix, nI_clamp (show et < 2 ^ 31 by omega)]
                          rw [e8]; unfold rfMvOk; rw [if_neg hlt]; exact ⟨rfl, hR.to (by rw [show sGoo σ1 = sGoo σ by rw [e1]; exact mvCov_goo σ kt et q, e1, mvCov_pl]; rfl)⟩), by rw [ht]; exact hW, va_K.moved hw.alike hK⟩, hS.F ht⟩) hS.2.2 dX3_move_329
                      · have hlt : q < n := by
                          rcases Nat.lt_or_ge q n with h9 | h9
                          · exact h9
                          · exact absurd (nI_le h9 (by omega)) c_292
                        refine lv_aload_n hx hb dX3_move_295 rfl (lv_at hl 0 rfl) ?_
                        refine lv_iconst (v := 4) hx hb dX3_move_296 (by decide) ?_
                        refine mw_calli (va_runV (As := [.int (nI 4)]) (rest := []) F (c_X3_fails (t5 := 4) hR (show 4 < 5 by omega)) (cwV 1 hts gX3_move_X3_fails rfl rfl rfl (by decide +kernel) ⟨Nat.le_of_ble_eq_true rfl, Nat.le_of_ble_eq_true rfl⟩) (mw_prV (q := (RX3, TX3, 14)) hK hO hW rfl (show _ = some (Sum.inr (3, [.ref (ad 0), .ref (ad 1), .ref (ad 2), .ref (ad 3), .ref (ad 4), .ref (ad 5), .ref (ad 6), .ref (ad 7), .ref (ad 8), .int (sCov σ1), .int (sCam σ1), .int (sGoo σ1), .int (sRow σ1), .int (sCar σ1)])) from hR.1)) rfl rfl hl.1 rfl (lv_room (Nat.le_of_ble_eq_true rfl)) dX3_move_297 ⟨Nat.zero_le _, Nat.zero_le _⟩) hW hS hA (fun r_11 M1 H locs h9 hW hS => ?_)
                        obtain ⟨er_11, hR⟩ := h9
                        subst er_11
                        refine lv_istore (lv' := [(11, .int (-nI 4)), (0, .ref mm), (5, .int (nI n)), (8, .int (nI q))]) hx hb dX3_move_300 hl (by decide) rfl (fun ls hl => ?_)
                        refine lv_aload_n hx hb dX3_move_302 rfl (lv_at hl 1 rfl) ?_
                        refine lv_iload hx hb dX3_move_303 (lv_at hl 3 rfl) ?_
                        refine mw_put (C := RX3) (T := TX3) (N := 14) (v := .int (nI q)) F hK hW hS hI_X3 tyX3 tyX3_ok nmX3 (show _ = some (Sum.inr (3, [.ref (ad 0), .ref (ad 1), .ref (ad 2), .ref (ad 3), .ref (ad 4), .ref (ad 5), .ref (ad 6), .ref (ad 7), .ref (ad 8), .int (sCov σ1), .int 0, .int (sGoo σ1), .int (sRow σ1), .int (sCar σ1)])) from hR.1) rfl 10 (by decide) hl_fieldLink_RX3_69_SpliceBenchModel_came_I rfl rfl rfl (Nat.le_of_ble_eq_true rfl) dX3_move_305 (fun H locs hW hS => ?_)
                        have hR := hR.wCam (nI q)
                        refine lv_iload hx hb dX3_move_308 (lv_at hl 0 rfl) ?_
                        exact W.iret hx hb hr (fun t ht hw => ⟨⟨_, _, rfl, (by
                          have e8 : rfMove σ (nI js) (nI i) (nI jt) (nI jj) (nI n) = rfMvOk σ ks kt et i jj n q := by
                            unfold rfMove
                            rw [if_pos ⟨esp_js, esp_jt⟩, eix_js, eix_jt, if_pos hmf0, eii, ein, ejj, ezt, rIx_row hks e9s, rIx_row hkt e9t, ← hqm]
                            simp only [ix, nI_clamp (show et < 2 ^ 31 by omega)]
                          rw [e8]; unfold rfMvOk; rw [if_pos hlt]; exact ⟨rfl, hR.to (by rw [e1, mvCov_pl]; rfl)⟩), by rw [ht]; exact hW, va_K.moved hw.alike hK⟩, hS.F ht⟩) hS.2.2 dX3_move_310
                    refine lv_iload hx hb dX3_move_205 (lv_at hl 3 rfl) ?_
                    refine lv_iload hx hb dX3_move_207 (lv_at hl 4 rfl) ?_
                    refine lv_icmp_ge (tgt := 252) hx hb dX3_move_209 (by decide) (fun c_209 => ?_) (fun c_209 => ?_)
                    · have hxy : 80 * kt + jj ≤ 80 * ks + i := (nI_leI (by omega) (by omega)).mp c_209
                      refine lv_iconst (v := 0) hx hb dX3_move_252 (by decide) ?_
                      refine lv_istore (lv' := [(11, .int 0), (0, .ref mm), (5, .int (nI n)), (8, .int (nI q)), (9, .int (nI (80 * ks + i))), (10, .int (nI (80 * kt + jj)))]) hx hb dX3_move_253 hl (by decide) rfl (fun ls hl => ?_)
                      have hR := hR.to (σ' := wPl σ1 (va_cpy (sPl σ1) (sPl σ1) (80 * ks + i) (80 * kt + jj) 0)) (by rw [cpy_0]; rfl)
                      have loop : ∀ (N : Nat) (z : Nat) (M1 : Nat → Option va_E) (H : Heap) (locs : List Loc), q + 1 ≤ z + N → z ≤ q → mw D (mwA M s.heap.size) M1 H → va_S (mwA M s.heap.size) s.heap H locs → refAt cI cJ mm ad (wPl σ1 (va_cpy (sPl σ1) (sPl σ1) (80 * ks + i) (80 * kt + jj) z)) M1 → ∀ (ls : Array Slot), lv_has ls 12 [(11, .int (nI z)), (0, .ref mm), (5, .int (nI n)), (8, .int (nI q)), (9, .int (nI (80 * ks + i))), (10, .int (nI (80 * kt + jj)))] → W pr l env (headSpec wsX3_move rmX3_move).room s m ([.ref mm, .int (nI js), .int (nI i), .int (nI jt), .int (nI jj), .int (nI n)] : List Value).toArray below meth c H locs 0 0 (MQ below (va_Qi (fun r M' => r = (rfMove σ (nI js) (nI i) (nI jt) (nI jj) (nI n)).1 ∧ refAt cI cJ mm ad (rfMove σ (nI js) (nI i) (nI jt) (nI jj) (nI n)).2 M') (mwB D (tyL cI cJ cC cH) M s.heap.size) (mwA M s.heap.size)) ([.ref mm, .int (nI js), .int (nI i), .int (nI jt), .int (nI jj), .int (nI n)] : List Value).toArray s 0 0 (mwA M s.heap.size)) (F0 m 255 ls []) := by
                        intro N
                        induction N with
                        | zero =>
                          exact fun z M1 H locs h1 h2 => absurd h1 (by omega)
                        | succ N ih =>
                          intro z M1 H locs hN hzq hW hS hR ls hl
                          refine lv_iload hx hb dX3_move_255 (lv_at hl 0 rfl) ?_
                          refine lv_iload hx hb dX3_move_257 (lv_at hl 3 rfl) ?_
                          refine lv_icmp_ge (tgt := 288) hx hb dX3_move_259 (by decide) (fun c_259 => ?_) (fun c_259 => ?_)
                          · exact tail288 _ H locs hW hS (hR.to (by rw [show z = q by have := (nI_leI (by omega) (by omega)).mp c_259; omega])) ls (lv_sub hl [1, 2, 3] rfl)
                          · have hzn : z < q := by
                              rcases Nat.lt_or_ge z q with h9 | h9
                              · exact h9
                              · exact absurd (nI_le h9 (by omega)) c_259
                            refine lv_aload_n hx hb dX3_move_262 rfl (lv_at hl 1 rfl) ?_
                            refine mw_get (C := RX3) (T := TX3) (N := 14) F hK hW hI_X3 (show _ = some (Sum.inr (3, [.ref (ad 0), .ref (ad 1), .ref (ad 2), .ref (ad 3), .ref (ad 4), .ref (ad 5), .ref (ad 6), .ref (ad 7), .ref (ad 8), .int (sCov σ1), .int (sCam σ1), .int (sGoo σ1), .int (sRow σ1), .int (sCar σ1)])) from hR.1) rfl 4 (by decide) hl_fieldLink_RX3_22_SpliceBenchModel_places_J rfl dX3_move_263 ?_
                            refine lv_iload hx hb dX3_move_266 (lv_at hl 5 rfl) ?_
                            refine lv_iload hx hb dX3_move_268 (lv_at hl 0 rfl) ?_
                            refine lv_iadd hx hb dX3_move_270 ?_
                            rw [nI_add]
                            refine lv_aload_n hx hb dX3_move_271 rfl (lv_at hl 1 rfl) ?_
                            refine mw_get (C := RX3) (T := TX3) (N := 14) F hK hW hI_X3 (show _ = some (Sum.inr (3, [.ref (ad 0), .ref (ad 1), .ref (ad 2), .ref (ad 3), .ref (ad 4), .ref (ad 5), .ref (ad 6), .ref (ad 7), .ref (ad 8), .int (sCov σ1), .int (sCam σ1), .int (sGoo σ1), .int (sRow σ1), .int (sCar σ1)])) from hR.1) rfl 4 (by decide) hl_fieldLink_RX3_22_SpliceBenchModel_places_J rfl dX3_move_272 ?_
                            refine lv_iload hx hb dX3_move_275 (lv_at hl 4 rfl) ?_
                            refine lv_iload hx hb dX3_move_277 (lv_at hl 0 rfl) ?_
                            refine lv_iadd hx hb dX3_move_279 ?_
                            rw [nI_add]
                            refine mw_lald F hK hW 1 (show _ = some (Sum.inl (cJ, 960, Sum.inr (Sum.inl (va_cpy (sPl σ1) (sPl σ1) (80 * ks + i) (80 * kt + jj) z)))) from hR.2.2.2.2.2.1) rfl (vp_in_nI (show (80 * ks + i + z) < 960 by omega) (by omega)) dX3_move_280 ?_
                            rw [nI_clamp (show (80 * ks + i + z) < 2 ^ 31 by omega)]
                            rw [fwP_r hxy]
                            refine mw_last F hK hW hS 1 (show _ = some (Sum.inl (cJ, 960, Sum.inr (Sum.inl (va_cpy (sPl σ1) (sPl σ1) (80 * ks + i) (80 * kt + jj) z)))) from hR.2.2.2.2.2.1) rfl (vp_in_nI (show (80 * kt + jj + z) < 960 by omega) (by omega)) dX3_move_281 (fun H locs hW hS => ?_)
                            rw [nI_clamp (show (80 * kt + jj + z) < 2 ^ 31 by omega)] at hW
                            rw [show vp_updL (va_cpy (sPl σ1) (sPl σ1) (80 * ks + i) (80 * kt + jj) z) (80 * kt + jj + z) (sPl σ1 (80 * ks + i + z)) = va_cpy (sPl σ1) (sPl σ1) (80 * ks + i) (80 * kt + jj) (z + 1) from (cpy_sL _ _ _ _ _)] at hW
                            have hR := hR.wPl (va_cpy (sPl σ1) (sPl σ1) (80 * ks + i) (80 * kt + jj) (z + 1))
                            have hR : refAt cI cJ mm ad (wPl σ1 (va_cpy (sPl σ1) (sPl σ1) (80 * ks + i) (80 * kt + jj) (z + 1))) _ := hR
                            refine lv_iinc (v := nI (z + 1)) (lv' := [(11, .int (nI (z + 1))), (0, .ref mm), (5, .int (nI n)), (8, .int (nI q)), (9, .int (nI (80 * ks + i))), (10, .int (nI (80 * kt + jj)))]) hx hb dX3_move_282 hl (k := 0) rfl (nI_1 z) (by decide) rfl (fun ls hl => ?_)
                            refine lv_goto (tgt := 255) hx hb dX3_move_285 (by decide) ?_
                            exact ih (z + 1) _ H locs (by omega) (by omega) hW hS hR ls (lv_sub hl [0, 1, 2, 3, 4, 5] rfl)
                      exact loop (q + 1) 0 _ _ _ (by omega) (Nat.zero_le _) hW hS hR ls (lv_sub hl [0, 1, 2, 3, 4, 5] rfl)
                    · have hxy : 80 * ks + i < 80 * kt + jj := by
                        rcases Nat.lt_or_ge (80 * ks + i) (80 * kt + jj) with h9 | h9
                        · exact h9
                        · exact absurd (nI_le h9 (by omega)) c_209
                      refine lv_iload hx hb dX3_move_212 (lv_at hl 2 rfl) ?_
                      refine lv_iconst (v := 1) hx hb dX3_move_214 (by decide) ?_
                      refine lv_isub hx hb dX3_move_215 ?_
                      refine lv_istore (lv' := [(11, .int ((nI q) - 1)), (0, .ref mm), (5, .int (nI n)), (8, .int (nI q)), (9, .int (nI (80 * ks + i))), (10, .int (nI (80 * kt + jj)))]) hx hb dX3_move_216 hl (by decide) rfl (fun ls hl => ?_)
                      have hR := hR.to (σ' := wPl σ1 (bkP (sPl σ1) (80 * ks + i) (80 * kt + jj) q q)) (by rw [bkP_q]; rfl)
                      have loop : ∀ (N : Nat) (z : Nat) (M1 : Nat → Option va_E) (H : Heap) (locs : List Loc), z + 1 ≤ N → z ≤ q → mw D (mwA M s.heap.size) M1 H → va_S (mwA M s.heap.size) s.heap H locs → refAt cI cJ mm ad (wPl σ1 (bkP (sPl σ1) (80 * ks + i) (80 * kt + jj) q z)) M1 → ∀ (ls : Array Slot), lv_has ls 12 [(11, .int (nI z - 1)), (0, .ref mm), (5, .int (nI n)), (8, .int (nI q)), (9, .int (nI (80 * ks + i))), (10, .int (nI (80 * kt + jj)))] → W pr l env (headSpec wsX3_move rmX3_move).room s m ([.ref mm, .int (nI js), .int (nI i), .int (nI jt), .int (nI jj), .int (nI n)] : List Value).toArray below meth c H locs 0 0 (MQ below (va_Qi (fun r M' => r = (rfMove σ (nI js) (nI i) (nI jt) (nI jj) (nI n)).1 ∧ refAt cI cJ mm ad (rfMove σ (nI js) (nI i) (nI jt) (nI jj) (nI n)).2 M') (mwB D (tyL cI cJ cC cH) M s.heap.size) (mwA M s.heap.size)) ([.ref mm, .int (nI js), .int (nI i), .int (nI jt), .int (nI jj), .int (nI n)] : List Value).toArray s 0 0 (mwA M s.heap.size)) (F0 m 218 ls []) := by
                        intro N
                        induction N with
                        | zero =>
                          exact fun z M1 H locs h1 h2 => absurd h1 (by omega)
                        | succ N ih =>
                          intro z M1 H locs hN hzq hW hS hR ls hl
                          refine lv_iload hx hb dX3_move_218 (lv_at hl 0 rfl) ?_
                          refine lv_if_lt (tgt := 249) hx hb dX3_move_220 (by decide) (fun c_220 => ?_) (fun c_220 => ?_)
                          · have hz0 : z = 0 := by
                              cases z with
                              | zero => rfl
                              | succ z' => rw [nI_pred] at c_220; exact absurd c_220 (nI_pos (by omega))
                            refine lv_goto (tgt := 288) hx hb dX3_move_249 (by decide) ?_
                            exact tail288 _ H locs hW hS (hR.to (by rw [hz0, bkP_0])) ls (lv_sub hl [1, 2, 3] rfl)
                          · obtain ⟨z', rfl⟩ : ∃ z', z = z' + 1 := by
                              cases z with
                              | zero => exact absurd (by decide) c_220
                              | succ z' => exact ⟨z', rfl⟩
                            refine lv_aload_n hx hb dX3_move_223 rfl (lv_at hl 1 rfl) ?_
                            refine mw_get (C := RX3) (T := TX3) (N := 14) F hK hW hI_X3 (show _ = some (Sum.inr (3, [.ref (ad 0), .ref (ad 1), .ref (ad 2), .ref (ad 3), .ref (ad 4), .ref (ad 5), .ref (ad 6), .ref (ad 7), .ref (ad 8), .int (sCov σ1), .int (sCam σ1), .int (sGoo σ1), .int (sRow σ1), .int (sCar σ1)])) from hR.1) rfl 4 (by decide) hl_fieldLink_RX3_22_SpliceBenchModel_places_J rfl dX3_move_224 ?_
                            refine lv_iload hx hb dX3_move_227 (lv_at hl 5 rfl) ?_
                            refine lv_iload hx hb dX3_move_229 (lv_at hl 0 rfl) ?_
                            rw [nI_pred]
                            refine lv_iadd hx hb dX3_move_231 ?_
                            rw [nI_add]
                            refine lv_aload_n hx hb dX3_move_232 rfl (lv_at hl 1 rfl) ?_
                            refine mw_get (C := RX3) (T := TX3) (N := 14) F hK hW hI_X3 (show _ = some (Sum.inr (3, [.ref (ad 0), .ref (ad 1), .ref (ad 2), .ref (ad 3), .ref (ad 4), .ref (ad 5), .ref (ad 6), .ref (ad 7), .ref (ad 8), .int (sCov σ1), .int (sCam σ1), .int (sGoo σ1), .int (sRow σ1), .int (sCar σ1)])) from hR.1) rfl 4 (by decide) hl_fieldLink_RX3_22_SpliceBenchModel_places_J rfl dX3_move_233 ?_
                            refine lv_iload hx hb dX3_move_236 (lv_at hl 4 rfl) ?_
                            refine lv_iload hx hb dX3_move_238 (lv_at hl 0 rfl) ?_
                            rw [nI_pred]
                            refine lv_iadd hx hb dX3_move_240 ?_
                            rw [nI_add]
                            refine mw_lald F hK hW 1 (show _ = some (Sum.inl (cJ, 960, Sum.inr (Sum.inl (bkP (sPl σ1) (80 * ks + i) (80 * kt + jj) q (z' + 1))))) from hR.2.2.2.2.2.1) rfl (vp_in_nI (show (80 * ks + i + z') < 960 by omega) (by omega)) dX3_move_241 ?_
                            rw [nI_clamp (show (80 * ks + i + z') < 2 ^ 31 by omega)]
                            rw [bkP_r hxy]
                            refine mw_last F hK hW hS 1 (show _ = some (Sum.inl (cJ, 960, Sum.inr (Sum.inl (bkP (sPl σ1) (80 * ks + i) (80 * kt + jj) q (z' + 1))))) from hR.2.2.2.2.2.1) rfl (vp_in_nI (show (80 * kt + jj + z') < 960 by omega) (by omega)) dX3_move_242 (fun H locs hW hS => ?_)
                            rw [nI_clamp (show (80 * kt + jj + z') < 2 ^ 31 by omega)] at hW
                            rw [show vp_updL (bkP (sPl σ1) (80 * ks + i) (80 * kt + jj) q (z' + 1)) (80 * kt + jj + z') (sPl σ1 (80 * ks + i + z')) = bkP (sPl σ1) (80 * ks + i) (80 * kt + jj) q z' from (bkP_s (by omega))] at hW
                            have hR := hR.wPl (bkP (sPl σ1) (80 * ks + i) (80 * kt + jj) q z')
                            have hR : refAt cI cJ mm ad (wPl σ1 (bkP (sPl σ1) (80 * ks + i) (80 * kt + jj) q z')) _ := hR
                            refine lv_iinc (v := nI z' - 1) (lv' := [(11, .int (nI z' - 1)), (0, .ref mm), (5, .int (nI n)), (8, .int (nI q)), (9, .int (nI (80 * ks + i))), (10, .int (nI (80 * kt + jj)))]) hx hb dX3_move_243 hl (k := 0) rfl (by rw [nI_pred, Int32.sub_eq_add_neg]; rfl) (by decide) rfl (fun ls hl => ?_)
                            refine lv_goto (tgt := 218) hx hb dX3_move_246 (by decide) ?_
                            exact ih z' _ H locs (by omega) (by omega) hW hS hR ls (lv_sub hl [0, 1, 2, 3, 4, 5] rfl)
                      exact loop (q + 1) q _ _ _ (by omega) (Nat.le_refl _) hW hS hR ls (lv_sub hl [0, 1, 2, 3, 4, 5] rfl)
                  refine lv_iload hx hb dX3_move_188 (lv_at hl 8 rfl) ?_
                  refine lv_if_le (tgt := 205) hx hb dX3_move_190 (by decide) (fun c_190 => ?_) (fun c_190 => ?_)
                  · have hq1 : ¬ 0 < q := fun h9 => absurd c_190 (nI_nle h9 (by omega))
                    exact tail205 (rfMvCov σ kt et q) M H locs rfl hW hS (hR.to (by unfold rfMvCov; rw [if_neg hq1])) ls (lv_sub hl [2, 7, 8, 1, 0] rfl)
                  · have hq1 : 0 < q := by
                      rcases Nat.eq_zero_or_pos q with h9 | h9
                      · exact absurd (by rw [h9]; decide) c_190
                      · exact h9
                    refine lv_aload_n hx hb dX3_move_193 rfl (lv_at hl 2 rfl) ?_
                    refine lv_aload_n hx hb dX3_move_194 rfl (lv_at hl 2 rfl) ?_
                    refine mw_get (C := RX3) (T := TX3) (N := 14) F hK hW hI_X3 hR.1 rfl 0 (by decide) hl_fieldLink_RX3_7_SpliceBenchModel_holds_I rfl dX3_move_195 ?_
                    refine lv_iload_n hx hb dX3_move_198 rfl (lv_at hl 5 rfl) ?_
                    refine mw_iald F hK hW 0 hR.2.1 rfl (vp_in_nI (show jt < 10 by omega) (by omega)) dX3_move_199 ?_
                    rw [nI_clamp (show jt < 2 ^ 31 by omega)]
                    refine lv_iconst (v := 1) hx hb dX3_move_200 (by decide) ?_
                    refine lv_isub hx hb dX3_move_201 ?_
                    rw [e9t, nI_pred]
                    refine mw_callv (va_runV (As := [.int (nI kt)]) (rest := []) F (c_X3_cover (k := kt) (n := et) hR hkt het ent) (cwV 1 hts gX3_move_X3_cover rfl rfl rfl (by decide +kernel) ⟨Nat.le_of_ble_eq_true rfl, Nat.le_of_ble_eq_true rfl⟩) (mw_prV (q := (RX3, TX3, 14)) hK hO hW rfl hR.1) rfl rfl hl.1 rfl (lv_room (Nat.le_of_ble_eq_true rfl)) dX3_move_202 ⟨Nat.zero_le _, Nat.zero_le _⟩) hW hS hA (fun M1 H locs h9 hW hS => ?_)
                    have hR := h9
                    exact tail205 (rfMvCov σ kt et q) _ H locs rfl hW hS (hR.to (by unfold rfMvCov; rw [if_pos hq1])) ls (lv_sub hl [2, 7, 8, 1, 0] rfl)
                refine lv_iconst (v := 0) hx hb dX3_move_119 (by decide) ?_
                refine lv_istore (lv' := [(8, .int 0), (0, .ref mm), (1, .int (nI js)), (2, .int (nI i)), (3, .int (nI jt)), (4, .int (nI jj)), (5, .int (nI n)), (6, .int (kOf σ js)), (7, .int (kOf σ jt))]) hx hb dX3_move_120 hl (by decide) rfl (fun ls hl => ?_)
                have loop : ∀ (N : Nat) (q : Nat), n + 1 ≤ q + N → q ≤ n → (∀ x, x < q → (fun q => !(decide (kOf σ jt = 5) && plainV σ (pV σ js (i + q)))) x = true) → ∀ (ls : Array Slot), lv_has ls 12 [(8, .int (nI q)), (0, .ref mm), (1, .int (nI js)), (2, .int (nI i)), (3, .int (nI jt)), (4, .int (nI jj)), (5, .int (nI n)), (7, .int (kOf σ jt))] → W pr l env (headSpec wsX3_move rmX3_move).room s m ([.ref mm, .int (nI js), .int (nI i), .int (nI jt), .int (nI jj), .int (nI n)] : List Value).toArray below meth c H locs 0 0 (MQ below (va_Qi (fun r M' => r = (rfMove σ (nI js) (nI i) (nI jt) (nI jj) (nI n)).1 ∧ refAt cI cJ mm ad (rfMove σ (nI js) (nI i) (nI jt) (nI jj) (nI n)).2 M') (mwB D (tyL cI cJ cC cH) M s.heap.size) (mwA M s.heap.size)) ([.ref mm, .int (nI js), .int (nI i), .int (nI jt), .int (nI jj), .int (nI n)] : List Value).toArray s 0 0 (mwA M s.heap.size)) (F0 m 122 ls []) := by
                  intro N
                  induction N with
                  | zero =>
                    exact fun q h1 h2 => absurd h1 (by omega)
                  | succ N ih =>
                    intro q hN hq0 hP ls hl
                    refine lv_iload hx hb dX3_move_122 (lv_at hl 0 rfl) ?_
                    refine lv_iload hx hb dX3_move_124 (lv_at hl 6 rfl) ?_
                    refine lv_icmp_ge (tgt := 157) hx hb dX3_move_126 (by decide) (fun c_126 => ?_) (fun c_126 => ?_)
                    · exact tail157 q hq0 (lead_eq hq0 hP (fun h9 => absurd h9 (by have := (nI_leI (by omega) (by omega)).mp c_126; omega))) ls (lv_sub hl [1, 2, 3, 4, 5, 6, 0] rfl)
                    · have hqn : q < n := by
                        rcases Nat.lt_or_ge q n with h9 | h9
                        · exact h9
                        · exact absurd (nI_le h9 (by omega)) c_126
                      have epl : pV σ js (i + q) = sPl σ (80 * ks + (i + q)) := pV_row hks e9s
                      refine lv_iload hx hb dX3_move_129 (lv_at hl 7 rfl) ?_
                      refine lv_iconst (v := 5) hx hb dX3_move_131 (by decide) ?_
                      refine lv_icmp_ne (tgt := 151) hx hb dX3_move_132 (by decide) (fun c_132 => ?_) (fun c_132 => ?_)
                      · refine lv_iinc (v := nI (q + 1)) (lv' := [(8, .int (nI (q + 1))), (0, .ref mm), (1, .int (nI js)), (2, .int (nI i)), (3, .int (nI jt)), (4, .int (nI jj)), (5, .int (nI n)), (7, .int (kOf σ jt))]) hx hb dX3_move_151 hl (k := 0) rfl (nI_1 q) (by decide) rfl (fun ls hl => ?_)
                        refine lv_goto (tgt := 122) hx hb dX3_move_154 (by decide) ?_
                        exact ih (q + 1) (by omega) (by omega) (fun x hx9 => by
                          rcases Nat.lt_or_ge x q with h9 | h9
                          · exact hP x h9
                          · rw [show x = q by omega]
                            show (!(decide (kOf σ jt = 5) && plainV σ (pV σ js (i + q)))) = true
                            rw [decide_eq_false c_132, Bool.false_and]; rfl) ls (lv_sub hl [0, 1, 2, 3, 4, 5, 6, 7] rfl)
                      · have hrks : kRack (sKi σ ks) = true := by rw [← hI.rk hjs hks e9s]; exact hlk c_132
                        have hv2 := hI.v2 hjs hks e9s hrks hes ens (show i + q < es by omega)
                        refine lv_aload_n hx hb dX3_move_135 rfl (lv_at hl 1 rfl) ?_
                        refine lv_aload_n hx hb dX3_move_136 rfl (lv_at hl 1 rfl) ?_
                        refine lv_iload_n hx hb dX3_move_137 rfl (lv_at hl 2 rfl) ?_
                        refine lv_iload_n hx hb dX3_move_138 rfl (lv_at hl 3 rfl) ?_
                        refine lv_iload hx hb dX3_move_139 (lv_at hl 0 rfl) ?_
                        refine lv_iadd hx hb dX3_move_141 ?_
                        rw [nI_add]
                        refine vp_callSl (W.runV (As := [.int (nI js), .int (nI (i + q))]) (rest := [.ref mm]) F (c_X3_place (i := (i + q)) (k := ks) hR (show js < 10 by omega) hks (show (i + q) < 80 by omega) e9s) (cwV 2 hts gX3_move_X3_place rfl rfl rfl (by decide +kernel) ⟨Nat.le_of_ble_eq_true rfl, Nat.le_of_ble_eq_true rfl⟩) (mw_prV (q := (RX3, TX3, 14)) hK hO hW rfl hR.1) rfl rfl hl.1 rfl (lv_room (Nat.le_of_ble_eq_true rfl)) dX3_move_142 ⟨Nat.zero_le _, Nat.zero_le _⟩) (fun r_12 er_12 => ?_)
                        subst er_12
                        refine vp_callSi (W.runV (As := [.long (sPl σ (80 * ks + (i + q)))]) (rest := []) F (c_X3_isPlain (v := sPl σ (80 * ks + (i + q))) hR hv2) (cwV 1 hts gX3_move_X3_isPlain rfl rfl rfl (by decide +kernel) ⟨Nat.le_of_ble_eq_true rfl, Nat.le_of_ble_eq_true rfl⟩) (mw_prV (q := (RX3, TX3, 14)) hK hO hW rfl hR.1) rfl rfl hl.1 rfl (lv_room (Nat.le_of_ble_eq_true rfl)) dX3_move_145 ⟨Nat.zero_le _, Nat.zero_le _⟩) (fun r_13 er_13 => ?_)
                        subst er_13
                        refine lv_if_ne (tgt := 157) hx hb dX3_move_148 (by decide) (fun c_148 => ?_) (fun c_148 => ?_)
                        · have c_148 := bI_n c_148
                          exact tail157 q (Nat.le_of_lt hqn) (lead_eq (Nat.le_of_lt hqn) hP (fun _ => by rw [epl, decide_eq_true c_132, show plainV σ (sPl σ (80 * ks + (i + q))) = true from c_148]; rfl)) ls (lv_sub hl [1, 2, 3, 4, 5, 6, 0] rfl)
                        · have c_148 := bI_e c_148
                          refine lv_iinc (v := nI (q + 1)) (lv' := [(8, .int (nI (q + 1))), (0, .ref mm), (1, .int (nI js)), (2, .int (nI i)), (3, .int (nI jt)), (4, .int (nI jj)), (5, .int (nI n)), (7, .int (kOf σ jt))]) hx hb dX3_move_151 hl (k := 0) rfl (nI_1 q) (by decide) rfl (fun ls hl => ?_)
                          refine lv_goto (tgt := 122) hx hb dX3_move_154 (by decide) ?_
                          exact ih (q + 1) (by omega) (by omega) (fun x hx9 => by
                            rcases Nat.lt_or_ge x q with h9 | h9
                            · exact hP x h9
                            · rw [show x = q by omega]
                              show (!(decide (kOf σ jt = 5) && plainV σ (pV σ js (i + q)))) = true
                              rw [epl, show plainV σ (sPl σ (80 * ks + (i + q))) = false from c_148, Bool.and_false]; rfl) ls (lv_sub hl [0, 1, 2, 3, 4, 5, 6, 7] rfl)
                exact loop (n + 1) 0 (by omega) (Nat.zero_le _) (fun x h9 => absurd h9 (Nat.not_lt_zero x)) ls (lv_sub hl [0, 1, 2, 3, 4, 5, 6, 8] rfl)
              · have c_110 := bI_n c_110
                refine lv_aload_n hx hb dX3_move_113 rfl (lv_at hl 0 rfl) ?_
                refine lv_iconst (v := 3) hx hb dX3_move_114 (by decide) ?_
                refine mw_calli (va_runV (As := [.int (nI 3)]) (rest := []) F (c_X3_fails (t5 := 3) hR (show 3 < 5 by omega)) (cwV 1 hts gX3_move_X3_fails rfl rfl rfl (by decide +kernel) ⟨Nat.le_of_ble_eq_true rfl, Nat.le_of_ble_eq_true rfl⟩) (mw_prV (q := (RX3, TX3, 14)) hK hO hW rfl hR.1) rfl rfl hl.1 rfl (lv_room (Nat.le_of_ble_eq_true rfl)) dX3_move_115 ⟨Nat.zero_le _, Nat.zero_le _⟩) hW hS hA (fun r_14 M1 H locs h9 hW hS => ?_)
                obtain ⟨er_14, hR⟩ := h9
                subst er_14
                exact W.iret hx hb hr (fun t ht hw => ⟨⟨_, _, rfl, (by
                  have em : mvF σ js jt i0 j0 n0 = 3 := by rw [hmf, if_pos (Or.inr c_110)]
                  have e8 : rfMove σ (nI js) i0 (nI jt) j0 n0 = (-nI 3, rfFails σ 3) := by
                    unfold rfMove
                    rw [if_pos ⟨esp_js, esp_jt⟩, eix_js, eix_jt, em]
                    rfl
                  rw [e8]; exact ⟨rfl, hR⟩), by rw [ht]; exact hW, va_K.moved hw.alike hK⟩, hS.F ht⟩) hS.2.2 dX3_move_118
          refine lv_iload hx hb dX3_move_47 (lv_at hl 1 rfl) ?_
          refine lv_iconst (v := 1) hx hb dX3_move_49 (by decide) ?_
          refine lv_icmp_eq (tgt := 78) hx hb dX3_move_50 (by decide) (fun c_50 => ?_) (fun c_50 => ?_)
          · refine lv_aload_n hx hb dX3_move_78 rfl (lv_at hl 2 rfl) ?_
            refine lv_iconst (v := 2) hx hb dX3_move_79 (by decide) ?_
            refine mw_calli (va_runV (As := [.int (nI 2)]) (rest := []) F (c_X3_fails (t5 := 2) hR (show 2 < 5 by omega)) (cwV 1 hts gX3_move_X3_fails rfl rfl rfl (by decide +kernel) ⟨Nat.le_of_ble_eq_true rfl, Nat.le_of_ble_eq_true rfl⟩) (mw_prV (q := (RX3, TX3, 14)) hK hO hW rfl hR.1) rfl rfl hl.1 rfl (lv_room (Nat.le_of_ble_eq_true rfl)) dX3_move_80 ⟨Nat.zero_le _, Nat.zero_le _⟩) hW hS hA (fun r_15 M1 H locs h9 hW hS => ?_)
            obtain ⟨er_15, hR⟩ := h9
            subst er_15
            exact W.iret hx hb hr (fun t ht hw => ⟨⟨_, _, rfl, (by
              have em : mvF σ js jt i0 j0 n0 = 2 := by unfold mvF; rw [if_neg (not_or.mpr ⟨c_33, c_38⟩), if_pos (Or.inl c_50)]
              have e8 : rfMove σ (nI js) i0 (nI jt) j0 n0 = (-nI 2, rfFails σ 2) := by
                unfold rfMove
                rw [if_pos ⟨esp_js, esp_jt⟩, eix_js, eix_jt, em]
                rfl
              rw [e8]; exact ⟨rfl, hR⟩), by rw [ht]; exact hW, va_K.moved hw.alike hK⟩, hS.F ht⟩) hS.2.2 dX3_move_83
          · refine lv_iload hx hb dX3_move_53 (lv_at hl 0 rfl) ?_
            refine lv_iconst (v := 1) hx hb dX3_move_55 (by decide) ?_
            refine lv_icmp_eq (tgt := 78) hx hb dX3_move_56 (by decide) (fun c_56 => ?_) (fun c_56 => ?_)
            · refine lv_aload_n hx hb dX3_move_78 rfl (lv_at hl 2 rfl) ?_
              refine lv_iconst (v := 2) hx hb dX3_move_79 (by decide) ?_
              refine mw_calli (va_runV (As := [.int (nI 2)]) (rest := []) F (c_X3_fails (t5 := 2) hR (show 2 < 5 by omega)) (cwV 1 hts gX3_move_X3_fails rfl rfl rfl (by decide +kernel) ⟨Nat.le_of_ble_eq_true rfl, Nat.le_of_ble_eq_true rfl⟩) (mw_prV (q := (RX3, TX3, 14)) hK hO hW rfl hR.1) rfl rfl hl.1 rfl (lv_room (Nat.le_of_ble_eq_true rfl)) dX3_move_80 ⟨Nat.zero_le _, Nat.zero_le _⟩) hW hS hA (fun r_16 M1 H locs h9 hW hS => ?_)
              obtain ⟨er_16, hR⟩ := h9
              subst er_16
              exact W.iret hx hb hr (fun t ht hw => ⟨⟨_, _, rfl, (by
                have em : mvF σ js jt i0 j0 n0 = 2 := by unfold mvF; rw [if_neg (not_or.mpr ⟨c_33, c_38⟩), if_pos (Or.inr (Or.inl c_56))]
                have e8 : rfMove σ (nI js) i0 (nI jt) j0 n0 = (-nI 2, rfFails σ 2) := by
                  unfold rfMove
                  rw [if_pos ⟨esp_js, esp_jt⟩, eix_js, eix_jt, em]
                  rfl
                rw [e8]; exact ⟨rfl, hR⟩), by rw [ht]; exact hW, va_K.moved hw.alike hK⟩, hS.F ht⟩) hS.2.2 dX3_move_83
            · refine lv_iload hx hb dX3_move_59 (lv_at hl 1 rfl) ?_
              refine lv_iload hx hb dX3_move_61 (lv_at hl 0 rfl) ?_
              refine lv_icmp_eq (tgt := 84) hx hb dX3_move_63 (by decide) (fun c_63 => ?_) (fun c_63 => ?_)
              · exact tail84 s.heap [] hW hS hR c_50 c_56 (fun h9 => by unfold rkOf; rw [c_63, h9]; decide) (by unfold mvF; rw [if_neg (not_or.mpr ⟨c_33, c_38⟩), if_neg (not_or.mpr ⟨c_50, not_or.mpr ⟨c_56, fun z => absurd c_63 z.1⟩⟩)]) ls (lv_sub hl [2, 3, 4, 5, 6, 7, 1, 0] rfl)
              · refine lv_iload hx hb dX3_move_66 (lv_at hl 1 rfl) ?_
                refine lv_iconst (v := 4) hx hb dX3_move_68 (by decide) ?_
                refine lv_icmp_lt (tgt := 78) hx hb dX3_move_69 (by decide) (fun c_69 => ?_) (fun c_69 => ?_)
                · refine lv_aload_n hx hb dX3_move_78 rfl (lv_at hl 2 rfl) ?_
                  refine lv_iconst (v := 2) hx hb dX3_move_79 (by decide) ?_
                  refine mw_calli (va_runV (As := [.int (nI 2)]) (rest := []) F (c_X3_fails (t5 := 2) hR (show 2 < 5 by omega)) (cwV 1 hts gX3_move_X3_fails rfl rfl rfl (by decide +kernel) ⟨Nat.le_of_ble_eq_true rfl, Nat.le_of_ble_eq_true rfl⟩) (mw_prV (q := (RX3, TX3, 14)) hK hO hW rfl hR.1) rfl rfl hl.1 rfl (lv_room (Nat.le_of_ble_eq_true rfl)) dX3_move_80 ⟨Nat.zero_le _, Nat.zero_le _⟩) hW hS hA (fun r_17 M1 H locs h9 hW hS => ?_)
                  obtain ⟨er_17, hR⟩ := h9
                  subst er_17
                  exact W.iret hx hb hr (fun t ht hw => ⟨⟨_, _, rfl, (by
                    have em : mvF σ js jt i0 j0 n0 = 2 := by unfold mvF; rw [if_neg (not_or.mpr ⟨c_33, c_38⟩), if_pos (Or.inr (Or.inr ⟨c_63, Or.inl c_69⟩))]
                    have e8 : rfMove σ (nI js) i0 (nI jt) j0 n0 = (-nI 2, rfFails σ 2) := by
                      unfold rfMove
                      rw [if_pos ⟨esp_js, esp_jt⟩, eix_js, eix_jt, em]
                      rfl
                    rw [e8]; exact ⟨rfl, hR⟩), by rw [ht]; exact hW, va_K.moved hw.alike hK⟩, hS.F ht⟩) hS.2.2 dX3_move_83
                · refine lv_iload hx hb dX3_move_72 (lv_at hl 0 rfl) ?_
                  refine lv_iconst (v := 4) hx hb dX3_move_74 (by decide) ?_
                  refine lv_icmp_ge (tgt := 84) hx hb dX3_move_75 (by decide) (fun c_75 => ?_) (fun c_75 => ?_)
                  · exact tail84 s.heap [] hW hS hR c_50 c_56 (fun _ => by unfold rkOf; exact decide_eq_true (Int32.not_lt.mp c_69)) (by unfold mvF; rw [if_neg (not_or.mpr ⟨c_33, c_38⟩), if_neg (not_or.mpr ⟨c_50, not_or.mpr ⟨c_56, fun z => z.2.elim c_69 (fun z2 => absurd c_75 (Int32.not_le.mpr z2))⟩⟩)]) ls (lv_sub hl [2, 3, 4, 5, 6, 7, 1, 0] rfl)
                  · refine lv_aload_n hx hb dX3_move_78 rfl (lv_at hl 2 rfl) ?_
                    refine lv_iconst (v := 2) hx hb dX3_move_79 (by decide) ?_
                    refine mw_calli (va_runV (As := [.int (nI 2)]) (rest := []) F (c_X3_fails (t5 := 2) hR (show 2 < 5 by omega)) (cwV 1 hts gX3_move_X3_fails rfl rfl rfl (by decide +kernel) ⟨Nat.le_of_ble_eq_true rfl, Nat.le_of_ble_eq_true rfl⟩) (mw_prV (q := (RX3, TX3, 14)) hK hO hW rfl hR.1) rfl rfl hl.1 rfl (lv_room (Nat.le_of_ble_eq_true rfl)) dX3_move_80 ⟨Nat.zero_le _, Nat.zero_le _⟩) hW hS hA (fun r_18 M1 H locs h9 hW hS => ?_)
                    obtain ⟨er_18, hR⟩ := h9
                    subst er_18
                    exact W.iret hx hb hr (fun t ht hw => ⟨⟨_, _, rfl, (by
                      have em : mvF σ js jt i0 j0 n0 = 2 := by unfold mvF; rw [if_neg (not_or.mpr ⟨c_33, c_38⟩), if_pos (Or.inr (Or.inr ⟨c_63, Or.inr (Int32.not_le.mp c_75)⟩))]
                      have e8 : rfMove σ (nI js) i0 (nI jt) j0 n0 = (-nI 2, rfFails σ 2) := by
                        unfold rfMove
                        rw [if_pos ⟨esp_js, esp_jt⟩, eix_js, eix_jt, em]
                        rfl
                      rw [e8]; exact ⟨rfl, hR⟩), by rw [ht]; exact hW, va_K.moved hw.alike hK⟩, hS.F ht⟩) hS.2.2 dX3_move_83
        · refine lv_aload_n hx hb dX3_move_41 rfl (lv_at hl 2 rfl) ?_
          refine lv_iconst (v := 1) hx hb dX3_move_42 (by decide) ?_
          refine mw_calli (va_runV (As := [.int (nI 1)]) (rest := []) F (c_X3_fails (t5 := 1) hR (show 1 < 5 by omega)) (cwV 1 hts gX3_move_X3_fails rfl rfl rfl (by decide +kernel) ⟨Nat.le_of_ble_eq_true rfl, Nat.le_of_ble_eq_true rfl⟩) (mw_prV (q := (RX3, TX3, 14)) hK hO hW rfl hR.1) rfl rfl hl.1 rfl (lv_room (Nat.le_of_ble_eq_true rfl)) dX3_move_43 ⟨Nat.zero_le _, Nat.zero_le _⟩) hW hS hA (fun r_19 M1 H locs h9 hW hS => ?_)
          obtain ⟨er_19, hR⟩ := h9
          subst er_19
          exact W.iret hx hb hr (fun t ht hw => ⟨⟨_, _, rfl, (by
            have em : mvF σ js jt i0 j0 n0 = 1 := by unfold mvF; rw [if_pos (Or.inr c_38)]
            have e8 : rfMove σ (nI js) i0 (nI jt) j0 n0 = (-nI 1, rfFails σ 1) := by
              unfold rfMove
              rw [if_pos ⟨esp_js, esp_jt⟩, eix_js, eix_jt, em]
              rfl
            rw [e8]; exact ⟨rfl, hR⟩), by rw [ht]; exact hW, va_K.moved hw.alike hK⟩, hS.F ht⟩) hS.2.2 dX3_move_46
    · have c_11 := bI_e c_11
      refine lv_bipush (v := (-9)) hx hb dX3_move_14 (by decide) ?_
      exact W.iret hx hb hr (fun t ht hw => ⟨⟨_, _, rfl, (by
        have e8 : rfMove σ (nI js) i0 t0 j0 n0 = (-9, σ) := by simp [rfMove, c_11]
        rw [e8]; exact ⟨rfl, hR⟩), by rw [ht]; exact hW, va_K.moved hw.alike hK⟩, hS.F ht⟩) hS.2.2 dX3_move_16
end X3V
