section X2V
variable {l : Launch} {D : va_G} {cI cJ cC cH : ClassId} {M : Nat → Option va_E} {sz : Nat}
theorem mvN_eq {σ : RS} {js jt ks kt i n : Nat} (hks : ks < 12) (hkt : kt < 12) (e9s : sHo σ js = nI (ks + 1)) (e9t : sHo σ jt = nI (kt + 1)) (hlk : sKi σ kt = 5 → kRack (sKi σ ks) = true) : lead (fun q => !decide (sKi σ kt = 5) || evR σ ks (i + q)) n = mvN σ js jt i n := by
  unfold mvN
  refine lead_congr (fun q _ => ?_)
  rw [kOf_row hkt e9t, pV_row hks e9s]
  unfold evR
  by_cases h : sKi σ kt = 5
  · rw [hlk h, decide_eq_true h]
    simp
  · rw [decide_eq_false h]
    simp
theorem rfMvPl_0 (σ : RS) (ks kt et i j : Nat) : rfMvPl σ ks kt et i j 0 = σ := by
  unfold rfMvPl rfMvCov
  rw [if_neg (Nat.lt_irrefl 0), cpy_0]
  rfl
theorem rfMvPl_p {σ : RS} {ks kt et i j q : Nat} (h : 0 < q) : rfMvPl σ ks kt et i j q = wPl (rfCover σ kt et) (va_cpy (sPl σ) (sPl σ) (80 * ks + i) (80 * kt + j) q) := by
  unfold rfMvPl rfMvCov
  rw [if_pos h]
abbrev rmX2_move : Room := ({ frames := 3, cells := 0, slots := 0, locals := 125 } : Room)
set_option maxHeartbeats 8000000 in
set_option maxRecDepth 100000 in
theorem c_X2_move {x : Nat} {θ : TH} {σ : RS} {cc : Nat} (hZ : Sim cI cJ cC cH x θ σ M) (hI : Inv σ cc) {s0 i0 t0 j0 n0 : Int32} : Met l yX2_move wsX2_move rmX2_move (va_Pc [.ref x, .int s0, .int i0, .int t0, .int j0, .int n0] (mwPre D (tyL cI cJ cC cH) M sz)) (va_Qi (fun r M' => r = (rfMove σ s0 i0 t0 j0 n0).1 ∧ ∃ θ', Sim cI cJ cC cH x θ' (rfMove σ s0 i0 t0 j0 n0).2 M') (mwB D (tyL cI cJ cC cH) M sz) (mwA M sz)) 0 0 (mwA M sz) := by
  refine Met.ofW (cc := cX2_move) (maxL := 10) (ret := (some .int)) (by decide) rfl ?_
  intro pr env s m args below meth c s₁ B hml hv
  obtain ⟨rfl, hsz, hW, hK, hO⟩ := hv
  subst hsz
  have hW := hW.self (sz := s.heap.size)
  have hS : va_S (mwA M s.heap.size) s.heap s.heap [] := va_S.rf
  have hA : ∀ q, s.heap.size ≤ q → mwA M s.heap.size q := fun q h => Or.inr h
  have hx := B.exec
  have hb := B.bytes
  have hr := B.returns
  have hts := atoms_spec (ws := wsX2_move) B.pre
  have hown : s.vm.findClass RX2 = some m.cls := findClass_of_methodNamed B.named
  have hlocks := B.notSynchronized
  have F : CallFix pr m c cX2_move 10 s ([.ref x, .int s0, .int i0, .int t0, .int j0, .int n0] : List Value).toArray wsX2_move RX2 := ⟨hx, hb, hml, hown, hts⟩
  have hI_X2 : ∀ w ∈ wsX20, w ∈ wsX2_move := by decide +kernel
  have hl_fieldLink_RX2_11_SpliceBench_spindles_LSpliceBench_Holding := hts (.fieldLink RX2 11 "SpliceBench" "spindles" "[LSpliceBench$Holding;") (by decide +kernel)
  have hne := kCH hK
  have hl := lv_entry ([.ref x, .int s0, .int i0, .int t0, .int j0, .int n0]) (n := 10) (Nat.le_of_ble_eq_true rfl)
  rw [lg_entry_eq]
  generalize (lg_sl ([.ref x, .int s0, .int i0, .int t0, .int j0, .int n0]) ++ List.replicate (10 - (lg_sl ([.ref x, .int s0, .int i0, .int t0, .int j0, .int n0])).length) Slot.unset).toArray = ls at hl ⊢
  have hl : lv_has ls 10 [(0, .ref x), (1, .int s0), (2, .int i0), (3, .int t0), (4, .int j0), (5, .int n0)] := hl
  refine lv_iload_n hx hb dX2_move_0 rfl (lv_at hl 1 rfl) ?_
  refine vp_callSi (W.runS (As := [.int s0]) (rest := []) F (c_X2_isSpindle) (cwS 1 hts gX2_move_X2_isSpindle rfl rfl rfl (by decide +kernel) ⟨Nat.le_of_ble_eq_true rfl, Nat.le_of_ble_eq_true rfl⟩) (mw_prS hK hO hW) rfl rfl hl.1 rfl (lv_room (Nat.le_of_ble_eq_true rfl)) dX2_move_1 ⟨Nat.zero_le _, Nat.zero_le _⟩) (fun r_1 er_1 => ?_)
  subst er_1
  refine lv_if_eq (tgt := 14) hx hb dX2_move_4 (by decide) (fun c_4 => ?_) (fun c_4 => ?_)
  · have c_4 := bI_e c_4
    refine lv_bipush (v := (-9)) hx hb dX2_move_14 (by decide) ?_
    exact W.iret hx hb hr (fun t ht hw => ⟨⟨_, _, rfl, (by
      have e8 : rfMove σ s0 i0 t0 j0 n0 = (-9, σ) := by simp [rfMove, c_4]
      rw [e8]; exact ⟨rfl, θ, hZ⟩), by rw [ht]; exact hW, va_K.moved hw.alike hK⟩, hS.F ht⟩) hS.2.2 dX2_move_16
  · obtain ⟨js, hjs, rfl⟩ := isSp_of (bI_n c_4)
    have esp_js := isSp_nI hjs
    have eix_js : ix (nI js) = js := nI_clamp (by omega)
    refine lv_iload_n hx hb dX2_move_7 rfl (lv_at hl 3 rfl) ?_
    refine vp_callSi (W.runS (As := [.int t0]) (rest := []) F (c_X2_isSpindle) (cwS 1 hts gX2_move_X2_isSpindle rfl rfl rfl (by decide +kernel) ⟨Nat.le_of_ble_eq_true rfl, Nat.le_of_ble_eq_true rfl⟩) (mw_prS hK hO hW) rfl rfl hl.1 rfl (lv_room (Nat.le_of_ble_eq_true rfl)) dX2_move_8 ⟨Nat.zero_le _, Nat.zero_le _⟩) (fun r_2 er_2 => ?_)
    subst er_2
    refine lv_if_ne (tgt := 17) hx hb dX2_move_11 (by decide) (fun c_11 => ?_) (fun c_11 => ?_)
    · obtain ⟨jt, hjt, rfl⟩ := isSp_of (bI_n c_11)
      have esp_jt := isSp_nI hjt
      have eix_jt : ix (nI jt) = jt := nI_clamp (by omega)
      refine lv_aload_n hx hb dX2_move_17 rfl (lv_at hl 0 rfl) ?_
      refine mw_get (C := RX2) (T := TX2) (N := 8) F hK hW hI_X2 hZ.b.1 rfl 0 (by decide) hl_fieldLink_RX2_11_SpliceBench_spindles_LSpliceBench_Holding rfl dX2_move_18 ?_
      refine lv_iload_n hx hb dX2_move_21 rfl (lv_at hl 1 rfl) ?_
      refine mw_aald F hK hW 3 hZ.b.2.1 rfl (vp_in_nI (show js < 10 by omega) (by omega)) dX2_move_22 ?_
      rw [nI_clamp (show js < 2 ^ 31 by omega)]
      refine W.eq (g2 := F0 m 23 ls [.ref (tSp θ js)]) rfl ?_
      obtain ⟨pn, na, ca, lb, f, g, hH, ez, hfs, hgs, hlb⟩ := hZ.hold hI hjs
      have hp8 := hH.2.1
      refine lv_astore (lv' := [(6, .ref (tSp θ js)), (0, .ref x), (1, .int (nI js)), (2, .int i0), (3, .int (nI jt)), (4, .int j0), (5, .int n0)]) hx hb dX2_move_23 hl (by decide) rfl (fun ls hl => ?_)
      refine lv_aload_n hx hb dX2_move_25 rfl (lv_at hl 1 rfl) ?_
      refine mw_get (C := RX2) (T := TX2) (N := 8) F hK hW hI_X2 hZ.b.1 rfl 0 (by decide) hl_fieldLink_RX2_11_SpliceBench_spindles_LSpliceBench_Holding rfl dX2_move_26 ?_
      refine lv_iload_n hx hb dX2_move_29 rfl (lv_at hl 4 rfl) ?_
      refine mw_aald F hK hW 3 hZ.b.2.1 rfl (vp_in_nI (show jt < 10 by omega) (by omega)) dX2_move_30 ?_
      rw [nI_clamp (show jt < 2 ^ 31 by omega)]
      refine W.eq (g2 := F0 m 31 ls [.ref (tSp θ jt)]) rfl ?_
      obtain ⟨pn2, na2, ca2, lb2, f2, g2, hH2, ez2, hfs2, hgs2, hlb2⟩ := hZ.hold hI hjt
      have hp82 := hH2.2.1
      refine lv_astore (lv' := [(7, .ref (tSp θ jt)), (6, .ref (tSp θ js)), (0, .ref x), (1, .int (nI js)), (2, .int i0), (3, .int (nI jt)), (4, .int j0), (5, .int n0)]) hx hb dX2_move_31 hl (by decide) rfl (fun ls hl => ?_)
      refine lv_aload hx hb dX2_move_33 (lv_at hl 1 rfl) ?_
      refine lv_iload_n hx hb dX2_move_35 rfl (lv_at hl 4 rfl) ?_
      refine lv_aload hx hb dX2_move_36 (lv_at hl 0 rfl) ?_
      refine lv_iload hx hb dX2_move_38 (lv_at hl 6 rfl) ?_
      refine lv_iload hx hb dX2_move_40 (lv_at hl 7 rfl) ?_
      refine vp_callSi (W.runS (As := [.ref (tSp θ js), .int i0, .ref (tSp θ jt), .int j0, .int n0]) (rest := []) F (c_X2_motionFailure (i := i0) (j := j0) (n := n0) hH hH2) (cwS 5 hts gX2_move_X2_motionFailure rfl rfl rfl (by decide +kernel) ⟨Nat.le_of_ble_eq_true rfl, Nat.le_of_ble_eq_true rfl⟩) (mw_prS hK hO hW) rfl rfl hl.1 rfl (lv_room (Nat.le_of_ble_eq_true rfl)) dX2_move_42 ⟨Nat.zero_le _, Nat.zero_le _⟩) (fun r_3 er_3 => ?_)
      subst er_3
      rw [mf_eq hI hjs hjt ez ez2 hp8 hp82]
      have hm4 := mvF_lt σ js jt i0 j0 n0
      refine lv_istore (lv' := [(8, .int (nI (mvF σ js jt i0 j0 n0))), (7, .ref (tSp θ jt)), (6, .ref (tSp θ js)), (0, .ref x), (1, .int (nI js)), (2, .int i0), (3, .int (nI jt)), (4, .int j0), (5, .int n0)]) hx hb dX2_move_45 hl (by decide) rfl (fun ls hl => ?_)
      refine lv_iload hx hb dX2_move_47 (lv_at hl 0 rfl) ?_
      refine lv_if_eq (tgt := 63) hx hb dX2_move_49 (by decide) (fun c_49 => ?_) (fun c_49 => ?_)
      · have hm0 : mvF σ js jt i0 j0 n0 = 0 := (nI_eq (b := 0) (by omega) (by omega)).mp c_49
        obtain ⟨z1, z2, z3, z4, z5, z6, z7⟩ := mv0 hm0
        obtain ⟨ks, es, hks, e9s, hes, ens, ezs⟩ := kRowOf hI hjs z1 z3
        obtain ⟨kt, et, hkt, e9t, het, ent, ezt⟩ := kRowOf hI hjt z2 z4
        have b1 : inPls i0 n0 (nI es) = true := by
          rw [ezs, beyB_of hes] at z6
          simpa using z6
        have b2 : inPls j0 n0 (nI et) = true := by
          rw [ezt, beyB_of het] at z7
          simpa using z7
        obtain ⟨i, n, rfl, rfl, hin⟩ := inPls_of hes b1
        obtain ⟨jj, n2, rfl, en2, hjn⟩ := inPls_of het b2
        have en3 : n2 = n := ((nI_eq (by omega) (by omega)).mp en2).symm
        rw [en3] at hjn
        have eii : ix (nI i) = i := nI_clamp (by omega)
        have ein : ix (nI n) = n := nI_clamp (by omega)
        have ejj : ix (nI jj) = jj := nI_clamp (by omega)
        have hlvs : liveR σ ks := Inv.live hjs e9s
        have hlvt : liveR σ kt := Inv.live hjt e9t
        rw [hZ.spRow hjs hks e9s, hZ.spRow hjt hkt e9t] at hl
        obtain ⟨fs, gs, hHs, hfs1, hgs1⟩ := hZ.rowAt hks hlvs ens hes
        obtain ⟨ft, gt, hHt, hft1, hgt1⟩ := hZ.rowAt hkt hlvt ent het
        obtain ⟨b, hb9, eb, hpl9, -⟩ := hI.2.2.2.2.2.2
        have h512 := hI.1
        have hkk2 : (kStrip (sKi σ kt) = true ∧ kStrip (sKi σ ks) = true) ∨ (kRack (sKi σ kt) = true ∧ kRack (sKi σ ks) = true) := by
          rw [kOf_row hks e9s, kOf_row hkt e9t] at z5
          have d1 := rk4 (hI.kd hks hlvs)
          have d2 := rk4 (hI.kd hkt hlvt)
          by_cases h7 : sKi σ ks = sKi σ kt
          · rw [h7]
            exact (hI.kd hkt hlvt).imp (fun z => ⟨z, z⟩) (fun z => ⟨z, z⟩)
          · refine Or.inr ⟨?_, ?_⟩
            · rw [← d2]; exact decide_eq_true (Int32.not_lt.mp (z5 h7).2)
            · rw [← d1]; exact decide_eq_true (Int32.not_lt.mp (z5 h7).1)
        have hlk : sKi σ kt = 5 → kRack (sKi σ ks) = true := fun z => hkk2.elim (fun w => by rw [z] at w; exact absurd w.1 (by decide)) (fun w => w.2)
        refine lv_aload hx hb dX2_move_63 (lv_at hl 1 rfl) ?_
        refine lv_aload hx hb dX2_move_65 (lv_at hl 2 rfl) ?_
        refine lv_iload_n hx hb dX2_move_67 rfl (lv_at hl 5 rfl) ?_
        refine lv_iload hx hb dX2_move_68 (lv_at hl 8 rfl) ?_
        refine vp_callSi (W.runV (As := [.ref (tRa θ ks), .int (nI i), .int (nI n)]) (rest := []) F (c_X1_countAdmitted (i' := i) (n' := n) (ev := fun q => evR σ ks (i + q)) hHt hHs hin (fun q hq9 => (hZ.adm hI hjs hks e9s ens hes hgs1 (show i + q < es by omega)).1) (fun q hq9 => (hZ.adm hI hjs hks e9s ens hes hgs1 (show i + q < es by omega)).2)) (cwV 3 hts gX2_move_X1_countAdmitted rfl rfl rfl (by decide +kernel) ⟨Nat.le_of_ble_eq_true rfl, Nat.le_of_ble_eq_true rfl⟩) (mw_prV (q := (RX1, TX1, 5)) hK hO hW rfl hHt.1) rfl rfl hl.1 rfl (lv_room (Nat.le_of_ble_eq_true rfl)) dX2_move_70 ⟨Nat.zero_le _, Nat.zero_le _⟩) (fun r er => ?_)
        subst er
        rw [mvN_eq hks hkt e9s e9t hlk]
        obtain ⟨q, hqm⟩ : ∃ q, q = mvN σ js jt i n := ⟨_, rfl⟩
        rw [← hqm]
        have hqn : q ≤ n := by rw [hqm]; exact lead_le _ _
        refine lv_istore (lv' := [(9, .int (nI q)), (8, .int (nI (mvF σ js jt (nI i) (nI jj) (nI n)))), (7, .ref (tRa θ kt)), (6, .ref (tRa θ ks)), (0, .ref x), (1, .int (nI js)), (2, .int (nI i)), (3, .int (nI jt)), (4, .int (nI jj)), (5, .int (nI n))]) hx hb dX2_move_73 hl (by decide) rfl (fun ls hl => ?_)
        have tail98 : ∀ (θ1 : TH) (M1 : Nat → Option va_E) (H : Heap) (locs : List Loc), mw D (mwA M s.heap.size) M1 H → va_S (mwA M s.heap.size) s.heap H locs → Sim cI cJ cC cH x θ1 (rfMvPl σ ks kt et i jj q) M1 → ∀ (ls : Array Slot), lv_has ls 10 [(0, .ref x), (5, .int (nI n)), (9, .int (nI q))] → W pr l env (headSpec wsX2_move rmX2_move).room s m ([.ref x, .int (nI js), .int (nI i), .int (nI jt), .int (nI jj), .int (nI n)] : List Value).toArray below meth c H locs 0 0 (MQ below (va_Qi (fun r M' => r = (rfMove σ (nI js) (nI i) (nI jt) (nI jj) (nI n)).1 ∧ ∃ θ', Sim cI cJ cC cH x θ' (rfMove σ (nI js) (nI i) (nI jt) (nI jj) (nI n)).2 M') (mwB D (tyL cI cJ cC cH) M s.heap.size) (mwA M s.heap.size)) ([.ref x, .int (nI js), .int (nI i), .int (nI jt), .int (nI jj), .int (nI n)] : List Value).toArray s 0 0 (mwA M s.heap.size)) (F0 m 98 ls []) := by
          intro θ1 M1 H locs hW hS hZ ls hl
          refine lv_iload hx hb dX2_move_98 (lv_at hl 2 rfl) ?_
          refine lv_iload hx hb dX2_move_100 (lv_at hl 1 rfl) ?_
          refine lv_icmp_ge (tgt := 115) hx hb dX2_move_102 (by decide) (fun c_102 => ?_) (fun c_102 => ?_)
          · have hlt : ¬ q < n := by have := (nI_leI (by omega) (by omega)).mp c_102; omega
            refine lv_aload_n hx hb dX2_move_115 rfl (lv_at hl 0 rfl) ?_
            refine lv_iconst (v := 0) hx hb dX2_move_116 (by decide) ?_
            refine lv_iload hx hb dX2_move_117 (lv_at hl 1 rfl) ?_
            refine lv_iload hx hb dX2_move_119 (lv_at hl 1 rfl) ?_
            refine mw_calli (va_runV (As := [.int 0, .int (nI n), .int (nI n)]) (rest := []) F (c_X2_end (t5 := 0) (came := nI n) (ans := nI n) hZ.b.1 hZ.b.2.2.1 (show 0 < 5 by omega)) (cwV 3 hts gX2_move_X2_end rfl rfl rfl (by decide +kernel) ⟨Nat.le_of_ble_eq_true rfl, Nat.le_of_ble_eq_true rfl⟩) (mw_prV (q := (RX2, TX2, 8)) hK hO hW rfl hZ.b.1) rfl rfl hl.1 rfl (lv_room (Nat.le_of_ble_eq_true rfl)) dX2_move_121 ⟨Nat.zero_le _, Nat.zero_le _⟩) hW hS hA (fun r M9 H locs h9 hW hS => ?_)
            obtain ⟨er, eM⟩ := h9
            subst er
            have hZe := hZ.bump (show 0 < 5 by omega) (nI n)
            rw [← eM] at hZe
            exact W.iret hx hb hr (fun t ht hw => ⟨⟨_, _, rfl, (by
              have e8 : rfMove σ (nI js) (nI i) (nI jt) (nI jj) (nI n) = rfMvOk σ ks kt et i jj n q := by
                unfold rfMove
                rw [if_pos ⟨esp_js, esp_jt⟩, eix_js, eix_jt, if_pos hm0, eii, ein, ejj, ezt, rIx_row hks e9s, rIx_row hkt e9t, ← hqm]
                simp only [ix, nI_clamp (show et < 2 ^ 31 by omega)]
              rw [e8]; unfold rfMvOk; rw [if_neg hlt]
              have e7 : sGoo (rfMvPl σ ks kt et i jj q) = sGoo σ := mvCov_goo σ kt et q
              rw [← e7]; exact ⟨rfl, _, hZe⟩), by rw [ht]; exact hW, va_K.moved hw.alike hK⟩, hS.F ht⟩) hS.2.2 dX2_move_124
          · have hlt : q < n := by
              rcases Nat.lt_or_ge q n with h9 | h9
              · exact h9
              · exact absurd (nI_le h9 (by omega)) c_102
            refine lv_aload_n hx hb dX2_move_105 rfl (lv_at hl 0 rfl) ?_
            refine lv_iconst (v := 4) hx hb dX2_move_106 (by decide) ?_
            refine lv_iload hx hb dX2_move_107 (lv_at hl 2 rfl) ?_
            refine lv_bipush (v := (-4)) hx hb dX2_move_109 (by decide) ?_
            refine mw_calli (va_runV (As := [.int 4, .int (nI q), .int (-4)]) (rest := []) F (c_X2_end (t5 := 4) (came := nI q) (ans := (-4)) hZ.b.1 hZ.b.2.2.1 (show 4 < 5 by omega)) (cwV 3 hts gX2_move_X2_end rfl rfl rfl (by decide +kernel) ⟨Nat.le_of_ble_eq_true rfl, Nat.le_of_ble_eq_true rfl⟩) (mw_prV (q := (RX2, TX2, 8)) hK hO hW rfl hZ.b.1) rfl rfl hl.1 rfl (lv_room (Nat.le_of_ble_eq_true rfl)) dX2_move_111 ⟨Nat.zero_le _, Nat.zero_le _⟩) hW hS hA (fun r M9 H locs h9 hW hS => ?_)
            obtain ⟨er, eM⟩ := h9
            subst er
            have hZe := hZ.bump (show 4 < 5 by omega) (nI q)
            rw [← eM] at hZe
            exact W.iret hx hb hr (fun t ht hw => ⟨⟨_, _, rfl, (by
              have e8 : rfMove σ (nI js) (nI i) (nI jt) (nI jj) (nI n) = rfMvOk σ ks kt et i jj n q := by
                unfold rfMove
                rw [if_pos ⟨esp_js, esp_jt⟩, eix_js, eix_jt, if_pos hm0, eii, ein, ejj, ezt, rIx_row hks e9s, rIx_row hkt e9t, ← hqm]
                simp only [ix, nI_clamp (show et < 2 ^ 31 by omega)]
              rw [e8]; unfold rfMvOk; rw [if_pos hlt]; exact ⟨rfl, _, hZe⟩), by rw [ht]; exact hW, va_K.moved hw.alike hK⟩, hS.F ht⟩) hS.2.2 dX2_move_114
        refine lv_iload hx hb dX2_move_75 (lv_at hl 0 rfl) ?_
        refine lv_if_le (tgt := 98) hx hb dX2_move_77 (by decide) (fun c_77 => ?_) (fun c_77 => ?_)
        · have hq0 : q = 0 := by
            rcases Nat.eq_zero_or_pos q with h9 | h9
            · exact h9
            · exact absurd c_77 (nI_nle h9 (by omega))
          exact tail98 θ M _ _ hW hS (by rw [hq0, rfMvPl_0]; exact hZ) ls (lv_sub hl [4, 9, 0] rfl)
        · have hq1 : 0 < q := by
            rcases Nat.eq_zero_or_pos q with h9 | h9
            · exact absurd (by rw [h9]; decide) c_77
            · exact h9
          rcases hkk2 with ⟨hkk, hkks⟩ | ⟨hkk, hkks⟩
          · obtain ⟨csc, g0, hB⟩ := hZ.b.2.2.2.2.2.1
            refine lv_aload_n hx hb dX2_move_80 rfl (lv_at hl 4 rfl) ?_
            refine lv_aload hx hb dX2_move_81 (lv_at hl 2 rfl) ?_
            refine mw_callv (va_runV (As := [.ref (tRa θ kt)]) (rest := []) F (c_X2_coverS hZ.b.1 hHt hkk hB) (cwV 1 hts gX2_move_X2_cover rfl rfl rfl (by decide +kernel) ⟨Nat.le_of_ble_eq_true rfl, Nat.le_of_ble_eq_true rfl⟩) (mw_prV (q := (RX2, TX2, 8)) hK hO hW rfl hZ.b.1) rfl rfl hl.1 rfl (lv_room (Nat.le_of_ble_eq_true rfl)) dX2_move_83 ⟨Nat.zero_le _, Nat.zero_le _⟩) hW hS hA (fun M1 H locs eM hW hS => ?_)
            obtain ⟨θ1, eRa, hZ1⟩ : ∃ z, tRa z = tRa θ ∧ Sim cI cJ cC cH x z (rfCover σ kt et) M1 := ⟨uFs (uCv θ (some (tRa θ kt))) (va_cpy ft (tFs θ) 0 0 et), rfl, by rw [eM]; exact hZ.coverN hkt hjt e9t hkk ent het (hft1 hkk)⟩
            have hlvt1 : liveR (rfCover σ kt et) kt := Or.inl rfl
            have hlvs1 : liveR (rfCover σ kt et) ks := Or.inr ⟨js, hjs, e9s⟩
            obtain ⟨fs1, gs1, hHs1, hfs2, hgs2⟩ := hZ1.rowAt (n := es) hks hlvs1 ens hes
            obtain ⟨ft1, gt1, hHt1, hft2, hgt2⟩ := hZ1.rowAt (n := et) hkt hlvt1 ent het
            rw [eRa] at hHs1 hHt1
            refine lv_aload hx hb dX2_move_86 (lv_at hl 2 rfl) ?_
            refine lv_aload hx hb dX2_move_88 (lv_at hl 3 rfl) ?_
            refine lv_iload_n hx hb dX2_move_90 rfl (lv_at hl 6 rfl) ?_
            refine lv_iload hx hb dX2_move_91 (lv_at hl 8 rfl) ?_
            refine lv_iload hx hb dX2_move_93 (lv_at hl 0 rfl) ?_
            refine mw_callv (va_runV (As := [.ref (tRa θ ks), .int (nI i), .int (nI jj), .int (nI q)]) (rest := []) F (c_X1_copyFromS (i := i) (j := jj) (n := q) hHt1 hHs1 hkk hkks (by omega) (by omega)) (cwV 4 hts gX2_move_X1_copyFrom rfl rfl rfl (by decide +kernel) ⟨Nat.le_of_ble_eq_true rfl, Nat.le_of_ble_eq_true rfl⟩) (mw_prV (q := (RX1, TX1, 5)) hK hO hW rfl hHt1.1) rfl rfl hl.1 rfl (lv_room (Nat.le_of_ble_eq_true rfl)) dX2_move_95 ⟨Nat.zero_le _, Nat.zero_le _⟩) hW hS hA (fun M2 H locs eM hW hS => ?_)
            have hZ2 : Sim cI cJ cC cH x θ1 (wPl (rfCover σ kt et) (va_cpy (sPl σ) (sPl σ) (80 * ks + i) (80 * kt + jj) q)) M2 := by rw [eM]; exact hZ1.copyN (i := i) (j := jj) (q := q) hks hkt hlvt1 hkk ent het (by omega) hes (by omega) (hfs2 hkks) (hft2 hkk)
            exact tail98 θ1 M2 H locs hW hS (by rw [rfMvPl_p hq1]; exact hZ2) ls (lv_sub hl [4, 9, 0] rfl)
          · obtain ⟨crn, f0, hB⟩ := hZ.b.2.2.2.2.2.2
            have hcel : ∀ w, w < et → ∀ y, gt w = some y → ∃ fs, M y = some (.inr (0, fs)) := fun w hw9 y hy9 => hZ.cel eb (by omega) (v := sPl σ (80 * kt + w)) ((hpl9 kt hkt hlvt hkk w et ent het hw9).imp id (fun ⟨c, a1, a2, _⟩ => ⟨c, a1, a2⟩)) (by rw [← hgt1 hkk w hw9]; exact hy9)
            refine lv_aload_n hx hb dX2_move_80 rfl (lv_at hl 4 rfl) ?_
            refine lv_aload hx hb dX2_move_81 (lv_at hl 2 rfl) ?_
            refine mw_callv (va_runV (As := [.ref (tRa θ kt)]) (rest := []) F (c_X2_cover hZ.b.1 hHt hkk hB hcel) (cwV 1 hts gX2_move_X2_cover rfl rfl rfl (by decide +kernel) ⟨Nat.le_of_ble_eq_true rfl, Nat.le_of_ble_eq_true rfl⟩) (mw_prV (q := (RX2, TX2, 8)) hK hO hW rfl hZ.b.1) rfl rfl hl.1 rfl (lv_room (Nat.le_of_ble_eq_true rfl)) dX2_move_83 ⟨Nat.zero_le _, Nat.zero_le _⟩) hW hS hA (fun M1 H locs eM hW hS => ?_)
            obtain ⟨θ1, eRa, hZ1⟩ : ∃ z, tRa z = tRa θ ∧ Sim cI cJ cC cH x z (rfCover σ kt et) M1 := ⟨uGs (uCv θ (some (tRa θ kt))) (va_cpy gt (tGs θ) 0 0 et), rfl, by rw [eM]; exact hZ.coverC (f := ft) hne hkt hjt e9t hkk ent het (hgt1 hkk)⟩
            have hlvt1 : liveR (rfCover σ kt et) kt := Or.inl rfl
            have hlvs1 : liveR (rfCover σ kt et) ks := Or.inr ⟨js, hjs, e9s⟩
            obtain ⟨fs1, gs1, hHs1, hfs2, hgs2⟩ := hZ1.rowAt (n := es) hks hlvs1 ens hes
            obtain ⟨ft1, gt1, hHt1, hft2, hgt2⟩ := hZ1.rowAt (n := et) hkt hlvt1 ent het
            rw [eRa] at hHs1 hHt1
            refine lv_aload hx hb dX2_move_86 (lv_at hl 2 rfl) ?_
            refine lv_aload hx hb dX2_move_88 (lv_at hl 3 rfl) ?_
            refine lv_iload_n hx hb dX2_move_90 rfl (lv_at hl 6 rfl) ?_
            refine lv_iload hx hb dX2_move_91 (lv_at hl 8 rfl) ?_
            refine lv_iload hx hb dX2_move_93 (lv_at hl 0 rfl) ?_
            refine mw_callv (va_runV (As := [.ref (tRa θ ks), .int (nI i), .int (nI jj), .int (nI q)]) (rest := []) F (c_X1_copyFrom (i := i) (j := jj) (n := q) hHt1 hHs1 hkk hkks (by omega) (by omega) (fun w hw9 y hy9 => hZ1.cel (b := b) eb (by omega) (v := sPl σ (80 * ks + (i + w))) ((hpl9 ks hks hlvs hkks (i + w) es ens hes (by omega)).imp id (fun ⟨c, a1, a2, _⟩ => ⟨c, a1, a2⟩)) ((hgs2 hkks (i + w) (by omega)).symm.trans hy9))) (cwV 4 hts gX2_move_X1_copyFrom rfl rfl rfl (by decide +kernel) ⟨Nat.le_of_ble_eq_true rfl, Nat.le_of_ble_eq_true rfl⟩) (mw_prV (q := (RX1, TX1, 5)) hK hO hW rfl hHt1.1) rfl rfl hl.1 rfl (lv_room (Nat.le_of_ble_eq_true rfl)) dX2_move_95 ⟨Nat.zero_le _, Nat.zero_le _⟩) hW hS hA (fun M2 H locs eM hW hS => ?_)
            have hZ2 : Sim cI cJ cC cH x θ1 (wPl (rfCover σ kt et) (va_cpy (sPl σ) (sPl σ) (80 * ks + i) (80 * kt + jj) q)) M2 := by rw [eM]; exact hZ1.copyC (i := i) (j := jj) (q := q) hne hks hkt hlvt1 hkk ent het (by omega) hes (by omega) (hgs2 hkks) (hgt2 hkk)
            exact tail98 θ1 M2 H locs hW hS (by rw [rfMvPl_p hq1]; exact hZ2) ls (lv_sub hl [4, 9, 0] rfl)
      · have hm0 : mvF σ js jt i0 j0 n0 ≠ 0 := fun z => by rw [z] at c_49; exact c_49 rfl
        refine lv_aload_n hx hb dX2_move_52 rfl (lv_at hl 3 rfl) ?_
        refine lv_iload hx hb dX2_move_53 (lv_at hl 0 rfl) ?_
        refine lv_iconst (v := 0) hx hb dX2_move_55 (by decide) ?_
        refine lv_iload hx hb dX2_move_56 (lv_at hl 0 rfl) ?_
        refine lv_ineg hx hb dX2_move_58 ?_
        refine mw_calli (va_runV (As := [.int (nI (mvF σ js jt i0 j0 n0)), .int 0, .int (-(nI (mvF σ js jt i0 j0 n0)))]) (rest := []) F (c_X2_end (t5 := mvF σ js jt i0 j0 n0) (came := 0) (ans := -(nI (mvF σ js jt i0 j0 n0))) hZ.b.1 hZ.b.2.2.1 (show mvF σ js jt i0 j0 n0 < 5 by omega)) (cwV 3 hts gX2_move_X2_end rfl rfl rfl (by decide +kernel) ⟨Nat.le_of_ble_eq_true rfl, Nat.le_of_ble_eq_true rfl⟩) (mw_prV (q := (RX2, TX2, 8)) hK hO hW rfl hZ.b.1) rfl rfl hl.1 rfl (lv_room (Nat.le_of_ble_eq_true rfl)) dX2_move_59 ⟨Nat.zero_le _, Nat.zero_le _⟩) hW hS hA (fun r M9 H locs h9 hW hS => ?_)
        obtain ⟨er, eM⟩ := h9
        subst er
        have hZe := hZ.bump (show mvF σ js jt i0 j0 n0 < 5 by omega) 0
        rw [← eM] at hZe
        exact W.iret hx hb hr (fun t ht hw => ⟨⟨_, _, rfl, (by
          have e8 : rfMove σ (nI js) i0 (nI jt) j0 n0 = (-nI (mvF σ js jt i0 j0 n0), rfFails σ (mvF σ js jt i0 j0 n0)) := by
            unfold rfMove
            rw [if_pos ⟨esp_js, esp_jt⟩, eix_js, eix_jt, if_neg hm0]
          rw [e8]; rw [bump_fails σ hm0] at hZe; exact ⟨rfl, _, hZe⟩), by rw [ht]; exact hW, va_K.moved hw.alike hK⟩, hS.F ht⟩) hS.2.2 dX2_move_62
    · have c_11 := bI_e c_11
      refine lv_bipush (v := (-9)) hx hb dX2_move_14 (by decide) ?_
      exact W.iret hx hb hr (fun t ht hw => ⟨⟨_, _, rfl, (by
        have e8 : rfMove σ (nI js) i0 t0 j0 n0 = (-9, σ) := by simp [rfMove, c_11]
        rw [e8]; exact ⟨rfl, θ, hZ⟩), by rw [ht]; exact hW, va_K.moved hw.alike hK⟩, hS.F ht⟩) hS.2.2 dX2_move_16
end X2V
