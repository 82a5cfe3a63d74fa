section X2B
variable {l : Launch} {D : va_G} {cI cJ cC cH : ClassId} {M : Nat → Option va_E} {sz : Nat}
theorem Sim.cdEq {cI cJ cC cH : ClassId} {x : Nat} {θ : TH} {σ : RS} {M : Nat → Option va_E} {cc : Nat} (h : Sim cI cJ cC cH x θ σ M) (hI : Inv σ cc) {j pn c b : Nat} {g : Nat → Option Nat} {i : Int32} (hj : j < 10) (hp : pn ≤ 80) (ez : szOf σ j = nI pn) (hgs : kRack (kOf σ j) = true → ∀ i, i < pn → g i = cdR (tCa θ) (pV σ j i)) (eb : sCar σ = nI b) (hb : b ≤ 512) (hc : c < b) : cdAt (kOf σ j) pn g i = some (tCa θ c) ↔ (kRack (kOf σ j) = true ∧ inPl i (nI pn) = true ∧ pV σ j (ix i) = lN (c + 1)) := by
  by_cases hin : kRack (kOf σ j) = true ∧ inPl i (nI pn) = true
  · obtain ⟨hr, hi⟩ := hin
    obtain ⟨i9, hi9, rfl⟩ := inPl_of hp hi
    rw [cdAt_rack hr hp hi9, hgs hr i9 hi9]
    simp only [ix, nI_clamp (show i9 < 2 ^ 31 by omega)]
    rcases h.card hI hj hr ez hp hi9 with h0 | ⟨c9, b9, eb9, hb9, hc9, ev9, ec9, -⟩
    · rw [h0, cdR_0]
      refine ⟨fun z => (by cases z), fun z => absurd z.2.2.symm (lN_n0 (by omega))⟩
    · have eb2 : b9 = b := (nI_eq (by omega) (by omega)).mp (eb9.symm.trans eb)
      rw [cdR_n (by rw [ev9]; exact lN_n0 (by omega)), ec9, ev9]
      refine ⟨fun z => ⟨hr, hi, ?_⟩, fun z => ?_⟩
      · obtain ⟨b3, eb3, hb3, -, hinj⟩ := h.2.2.2.2.2.1
        have eb4 : b3 = b := (nI_eq (by omega) (by omega)).mp (eb3.symm.trans eb)
        rw [hinj c9 c (by omega) (by omega) (Option.some.inj z)]
      · have := (lN_eq (a := c9 + 1) (b := c + 1) (by omega) (by omega)).mp z.2.2
        rw [show c9 = c by omega]
  · rw [cdAt_none hin]
    exact ⟨fun z => (by cases z), fun z => absurd ⟨z.1, z.2.1⟩ hin⟩
def mfI (k k' : Int32) (pn pn' : Nat) (i j n : Int32) : Int32 := if k = 0 ∨ k' = 0 then 1 else if kLike k k' = true then (if inPls i n (nI pn) = true ∧ inPls j n (nI pn') = true then 0 else 3) else 2
theorem Sim.ho0 {cI cJ cC cH : ClassId} {x : Nat} {θ : TH} {σ : RS} {M : Nat → Option va_E} {cc : Nat} (_ : Sim cI cJ cC cH x θ σ M) (hI : Inv σ cc) {j : Nat} (hj : j < 10) (e : kOf σ j = 0) : sHo σ j = 0 := by
  rcases hI.ho hj with h | ⟨k, hk, h⟩ | ⟨k, hk, h⟩
  · exact h
  · rw [kOf_lab hk h] at e; exact absurd e (by decide)
  · rw [kOf_row hk h] at e; exact absurd e (hI.kn hk (Inv.live hj h)).1
abbrev rmX2_same : Room := ({ frames := 2, cells := 0, slots := 0, locals := 42 } : Room)
set_option maxHeartbeats 4000000 in
set_option maxRecDepth 100000 in
theorem c_X2_same {x : Nat} {θ : TH} {σ : RS} {cc : Nat} (hZ : Sim cI cJ cC cH x θ σ M) (hI : Inv σ cc) {s0 i t0 i2 : Int32} : Met l yX2_same wsX2_same rmX2_same (va_Pc [.ref x, .int s0, .int i, .int t0, .int i2] (mwPre D (tyL cI cJ cC cH) M sz)) (vp_Si (fun r => r = anSame σ s0 i t0 i2)) 0 0 (fun _ => False) := by
  refine Met.ofW (cc := cX2_same) (maxL := 8) (ret := (some .int)) (by decide) rfl ?_
  intro pr env s m args below meth c s₁ B hml hv
  obtain ⟨rfl, hsz, hW, hK, hO⟩ := hv
  have hx := B.exec
  have hb := B.bytes
  have hr := B.returns
  have hts := atoms_spec (ws := wsX2_same) B.pre
  have hown : s.vm.findClass RX2 = some m.cls := findClass_of_methodNamed B.named
  have hlocks := B.notSynchronized
  have F : CallFix pr m c cX2_same 8 s ([.ref x, .int s0, .int i, .int t0, .int i2] : List Value).toArray wsX2_same RX2 := ⟨hx, hb, hml, hown, hts⟩
  have hI_X1 : ∀ w ∈ wsX10, w ∈ wsX2_same := by decide +kernel
  have hI_X2 : ∀ w ∈ wsX20, w ∈ wsX2_same := by decide +kernel
  have hl_fieldLink_RX2_11_SpliceBench_spindles_LSpliceBench_Holding := hts (.fieldLink RX2 11 "SpliceBench" "spindles" "[LSpliceBench$Holding;") (by decide +kernel)
  have hl_fieldLink_RX2_46_SpliceBench_Holding_kind_I := hts (.fieldLink RX2 46 "SpliceBench$Holding" "kind" "I") (by decide +kernel)
  have hl := lv_entry ([.ref x, .int s0, .int i, .int t0, .int i2]) (n := 8) (Nat.le_of_ble_eq_true rfl)
  rw [lg_entry_eq]
  generalize (lg_sl ([.ref x, .int s0, .int i, .int t0, .int i2]) ++ List.replicate (8 - (lg_sl ([.ref x, .int s0, .int i, .int t0, .int i2])).length) Slot.unset).toArray = ls at hl ⊢
  have hl : lv_has ls 8 [(0, .ref x), (1, .int s0), (2, .int i), (3, .int t0), (4, .int i2)] := hl
  refine lv_iload_n hx hb dX2_same_0 rfl (lv_at hl 1 rfl) ?_
  refine vp_callSi (W.runS (As := [.int s0]) (rest := []) F (c_X2_isSpindle) (cwS 1 hts gX2_same_X2_isSpindle rfl rfl rfl (by decide +kernel) ⟨Nat.le_of_ble_eq_true rfl, Nat.le_of_ble_eq_true rfl⟩) (mw_prS hK hO hW) rfl rfl hl.1 rfl (lv_room (Nat.le_of_ble_eq_true rfl)) dX2_same_1 ⟨Nat.zero_le _, Nat.zero_le _⟩) (fun r_1 er_1 => ?_)
  subst er_1
  refine lv_if_eq (tgt := 14) hx hb dX2_same_4 (by decide) (fun c_4 => ?_) (fun c_4 => ?_)
  · have c_4 := bI_e c_4
    refine lv_bipush (v := (-9)) hx hb dX2_same_14 (by decide) ?_
    exact W.iret hx hb hr (fun t ht _ => ⟨_, rfl, (by simp [anSame, c_4]), ht⟩) (fun _ h => by cases h) dX2_same_16
  · obtain ⟨j, hj, rfl⟩ := isSp_of (bI_n c_4)
    have esp_j := isSp_nI hj
    have eix_j : ix (nI j) = j := nI_clamp (by omega)
    refine lv_iload_n hx hb dX2_same_7 rfl (lv_at hl 3 rfl) ?_
    refine vp_callSi (W.runS (As := [.int t0]) (rest := []) F (c_X2_isSpindle) (cwS 1 hts gX2_same_X2_isSpindle rfl rfl rfl (by decide +kernel) ⟨Nat.le_of_ble_eq_true rfl, Nat.le_of_ble_eq_true rfl⟩) (mw_prS hK hO hW) rfl rfl hl.1 rfl (lv_room (Nat.le_of_ble_eq_true rfl)) dX2_same_8 ⟨Nat.zero_le _, Nat.zero_le _⟩) (fun r_2 er_2 => ?_)
    subst er_2
    refine lv_if_ne (tgt := 17) hx hb dX2_same_11 (by decide) (fun c_11 => ?_) (fun c_11 => ?_)
    · obtain ⟨j2, hj2, rfl⟩ := isSp_of (bI_n c_11)
      have esp_j2 := isSp_nI hj2
      have eix_j2 : ix (nI j2) = j2 := nI_clamp (by omega)
      refine lv_aload_n hx hb dX2_same_17 rfl (lv_at hl 0 rfl) ?_
      refine mw_get (C := RX2) (T := TX2) (N := 8) F hK hW hI_X2 hZ.b.1 rfl 0 (by decide) hl_fieldLink_RX2_11_SpliceBench_spindles_LSpliceBench_Holding rfl dX2_same_18 ?_
      refine lv_iload_n hx hb dX2_same_21 rfl (lv_at hl 1 rfl) ?_
      refine mw_aald F hK hW 3 hZ.b.2.1 rfl (vp_in_nI (show j < 10 by omega) (by omega)) dX2_same_22 ?_
      rw [nI_clamp (show j < 2 ^ 31 by omega)]
      refine W.eq (g2 := F0 m 23 ls [.ref (tSp θ j)]) rfl ?_
      obtain ⟨pn, na, ca, lb, f, g, hH, ez, hfs, hgs, hlb⟩ := hZ.hold hI hj
      have hp8 := hH.2.1
      refine lv_astore (lv' := [(5, .ref (tSp θ j)), (0, .ref x), (1, .int (nI j)), (2, .int i), (3, .int (nI j2)), (4, .int i2)]) hx hb dX2_same_23 hl (by decide) rfl (fun ls hl => ?_)
      refine lv_aload_n hx hb dX2_same_25 rfl (lv_at hl 1 rfl) ?_
      refine mw_get (C := RX2) (T := TX2) (N := 8) F hK hW hI_X2 hZ.b.1 rfl 0 (by decide) hl_fieldLink_RX2_11_SpliceBench_spindles_LSpliceBench_Holding rfl dX2_same_26 ?_
      refine lv_iload_n hx hb dX2_same_29 rfl (lv_at hl 4 rfl) ?_
      refine mw_aald F hK hW 3 hZ.b.2.1 rfl (vp_in_nI (show j2 < 10 by omega) (by omega)) dX2_same_30 ?_
      rw [nI_clamp (show j2 < 2 ^ 31 by omega)]
      refine W.eq (g2 := F0 m 31 ls [.ref (tSp θ j2)]) rfl ?_
      obtain ⟨pn2, na2, ca2, lb2, f2, g2, hH2, ez2, hfs2, hgs2, hlb2⟩ := hZ.hold hI hj2
      have hp82 := hH2.2.1
      refine lv_astore (lv' := [(6, .ref (tSp θ j2)), (5, .ref (tSp θ j)), (0, .ref x), (1, .int (nI j)), (2, .int i), (3, .int (nI j2)), (4, .int i2)]) hx hb dX2_same_31 hl (by decide) rfl (fun ls hl => ?_)
      refine lv_iload_n hx hb dX2_same_33 rfl (lv_at hl 4 rfl) ?_
      refine lv_if_ge (tgt := 63) hx hb dX2_same_34 (by decide) (fun c_34 => ?_) (fun c_34 => ?_)
      · have c_34 := Int32.not_lt.mpr c_34
        refine lv_aload hx hb dX2_same_63 (lv_at hl 1 rfl) ?_
        refine lv_iload_n hx hb dX2_same_65 rfl (lv_at hl 4 rfl) ?_
        refine va_csq (W.runV (As := [.int i]) (rest := []) F (c_X1_cardAt (i := i) hH) (cwV 1 hts gX2_same_X1_cardAt rfl rfl rfl (by decide +kernel) ⟨Nat.le_of_ble_eq_true rfl, Nat.le_of_ble_eq_true rfl⟩) (mw_prV (q := (RX1, TX1, 5)) hK hO hW rfl hH.1) rfl rfl hl.1 rfl (lv_room (Nat.le_of_ble_eq_true rfl)) dX2_same_66 ⟨Nat.zero_le _, Nat.zero_le _⟩) (fun r_3 er_3 => ?_)
        subst er_3
        by_cases hin : kRack (kOf σ j) = true ∧ inPl i (nI pn) = true
        · obtain ⟨hrk, hin⟩ := hin
          obtain ⟨i9, hi9, rfl⟩ := inPl_of hp8 hin
          have eix_i : ix (nI i9) = i9 := nI_clamp (by omega)
          rw [cdAt_rack hrk hp8 hi9, hgs hrk i9 hi9]
          rcases hZ.card hI hj hrk ez hp8 hi9 with h0 | ⟨c9, b9, eb9, hb9, hc9, ev9, ec9, hq9, h59⟩
          · rw [h0, cdR_0]
            show W _ _ _ _ _ _ _ _ _ _ _ _ _ _ _ (F0 m 69 ls [.null])
            refine lv_astoreN (lv' := [(7, .null), (6, .ref (tSp θ j2)), (5, .ref (tSp θ j)), (0, .ref x), (1, .int (nI j)), (2, .int (nI i9)), (3, .int (nI j2)), (4, .int i2)]) hx hb dX2_same_69 hl (by decide) rfl (fun ls hl => ?_)
            refine lv_aloadN hx hb dX2_same_71 (lv_at hl 0 rfl) ?_
            refine lv_ifnullN (tgt := 92) hx hb dX2_same_73 (by decide) ?_
            refine lv_iconst (v := 0) hx hb dX2_same_92 (by decide) ?_
            exact W.iret hx hb hr (fun t ht _ => ⟨_, rfl, (by
              have e8 : anSame σ (nI j) (nI i9) (nI j2) i2 = 0 := by
                show (if isSp (nI j) = true ∧ isSp (nI j2) = true then _ else _) = _
                rw [if_pos ⟨esp_j, esp_j2⟩, eix_j, eix_j2, if_neg (fun z => c_34 z.1), ez, ez2, rk_eq hI hj, rk_eq hI hj2, eix_i, if_neg (fun z => z.2.2.2.2.1 h0)]
              rw [e8]), ht⟩) (fun _ h => by cases h) dX2_same_93
          · have hn0 : ¬ pV σ j i9 = 0 := by rw [ev9]; exact lN_n0 (by omega)
            rw [cdR_n hn0, ec9]
            show W _ _ _ _ _ _ _ _ _ _ _ _ _ _ _ (F0 m 69 ls [.ref (tCa θ c9)])
            refine lv_astore (lv' := [(7, .ref (tCa θ c9)), (6, .ref (tSp θ j2)), (5, .ref (tSp θ j)), (0, .ref x), (1, .int (nI j)), (2, .int (nI i9)), (3, .int (nI j2)), (4, .int i2)]) hx hb dX2_same_69 hl (by decide) rfl (fun ls hl => ?_)
            refine lv_aload hx hb dX2_same_71 (lv_at hl 0 rfl) ?_
            refine lv_ifnull hx hb dX2_same_73 ?_
            refine lv_aload hx hb dX2_same_76 (lv_at hl 0 rfl) ?_
            refine lv_aload hx hb dX2_same_78 (lv_at hl 1 rfl) ?_
            refine lv_iload hx hb dX2_same_80 (lv_at hl 7 rfl) ?_
            refine va_csq (W.runV (As := [.int i2]) (rest := [.ref (tCa θ c9)]) F (c_X1_cardAt (i := i2) hH2) (cwV 1 hts gX2_same_X1_cardAt rfl rfl rfl (by decide +kernel) ⟨Nat.le_of_ble_eq_true rfl, Nat.le_of_ble_eq_true rfl⟩) (mw_prV (q := (RX1, TX1, 5)) hK hO hW rfl hH2.1) rfl rfl hl.1 rfl (lv_room (Nat.le_of_ble_eq_true rfl)) dX2_same_82 ⟨Nat.zero_le _, Nat.zero_le _⟩) (fun r_4 er_4 => ?_)
            subst er_4
            refine lv_acmp_ne (rx := some (tCa θ c9)) (ry := cdAt (kOf σ j2) pn2 g2 i2) (tgt := 92) hx hb dX2_same_85 (by decide) (fun c_85 => ?_) (fun c_85 => ?_)
            · refine lv_iconst (v := 0) hx hb dX2_same_92 (by decide) ?_
              exact W.iret hx hb hr (fun t ht _ => ⟨_, rfl, (by
                have e8 : anSame σ (nI j) (nI i9) (nI j2) i2 = 0 := by
                  show (if isSp (nI j) = true ∧ isSp (nI j2) = true then _ else _) = _
                  rw [if_pos ⟨esp_j, esp_j2⟩, eix_j, eix_j2, if_neg (fun z => c_34 z.1), ez, ez2, rk_eq hI hj, rk_eq hI hj2, eix_i, if_neg (fun z => c_85 ((hZ.cdEq hI hj2 hp82 ez2 hgs2 eb9 hb9 hc9).mpr ⟨z.2.1, z.2.2.2.1, z.2.2.2.2.2.symm.trans ev9⟩).symm)]
                rw [e8]), ht⟩) (fun _ h => by cases h) dX2_same_93
            · refine lv_iconst (v := 1) hx hb dX2_same_88 (by decide) ?_
              refine lv_goto (tgt := 93) hx hb dX2_same_89 (by decide) ?_
              exact W.iret hx hb hr (fun t ht _ => ⟨_, rfl, (by
                have e8 : anSame σ (nI j) (nI i9) (nI j2) i2 = 1 := by
                  show (if isSp (nI j) = true ∧ isSp (nI j2) = true then _ else _) = _
                  rw [if_pos ⟨esp_j, esp_j2⟩, eix_j, eix_j2, if_neg (fun z => c_34 z.1), ez, ez2, rk_eq hI hj, rk_eq hI hj2, eix_i, if_pos (by
                    have z := (hZ.cdEq hI hj2 hp82 ez2 hgs2 eb9 hb9 hc9).mp c_85.symm
                    exact ⟨hrk, z.1, hin, z.2.1, hn0, ev9.trans z.2.2.symm⟩)]
                rw [e8]), ht⟩) (fun _ h => by cases h) dX2_same_93
        · rw [cdAt_none hin]
          show W _ _ _ _ _ _ _ _ _ _ _ _ _ _ _ (F0 m 69 ls [.null])
          refine lv_astoreN (lv' := [(7, .null), (6, .ref (tSp θ j2)), (5, .ref (tSp θ j)), (0, .ref x), (1, .int (nI j)), (2, .int i), (3, .int (nI j2)), (4, .int i2)]) hx hb dX2_same_69 hl (by decide) rfl (fun ls hl => ?_)
          refine lv_aloadN hx hb dX2_same_71 (lv_at hl 0 rfl) ?_
          refine lv_ifnullN (tgt := 92) hx hb dX2_same_73 (by decide) ?_
          refine lv_iconst (v := 0) hx hb dX2_same_92 (by decide) ?_
          exact W.iret hx hb hr (fun t ht _ => ⟨_, rfl, (by
            have e8 : anSame σ (nI j) i (nI j2) i2 = 0 := by
              show (if isSp (nI j) = true ∧ isSp (nI j2) = true then _ else _) = _
              rw [if_pos ⟨esp_j, esp_j2⟩, eix_j, eix_j2, if_neg (fun z => c_34 z.1), ez, ez2, rk_eq hI hj, rk_eq hI hj2, if_neg (fun z => hin ⟨z.1, z.2.2.1⟩)]
            rw [e8]), ht⟩) (fun _ h => by cases h) dX2_same_93
      · have c_34 := Int32.not_le.mp c_34
        refine lv_iload hx hb dX2_same_37 (lv_at hl 6 rfl) ?_
        refine lv_if_ge (tgt := 63) hx hb dX2_same_39 (by decide) (fun c_39 => ?_) (fun c_39 => ?_)
        · have c_39 := Int32.not_lt.mpr c_39
          refine lv_aload hx hb dX2_same_63 (lv_at hl 1 rfl) ?_
          refine lv_iload_n hx hb dX2_same_65 rfl (lv_at hl 4 rfl) ?_
          refine va_csq (W.runV (As := [.int i]) (rest := []) F (c_X1_cardAt (i := i) hH) (cwV 1 hts gX2_same_X1_cardAt rfl rfl rfl (by decide +kernel) ⟨Nat.le_of_ble_eq_true rfl, Nat.le_of_ble_eq_true rfl⟩) (mw_prV (q := (RX1, TX1, 5)) hK hO hW rfl hH.1) rfl rfl hl.1 rfl (lv_room (Nat.le_of_ble_eq_true rfl)) dX2_same_66 ⟨Nat.zero_le _, Nat.zero_le _⟩) (fun r_5 er_5 => ?_)
          subst er_5
          by_cases hin : kRack (kOf σ j) = true ∧ inPl i (nI pn) = true
          · obtain ⟨hrk, hin⟩ := hin
            obtain ⟨i9, hi9, rfl⟩ := inPl_of hp8 hin
            have eix_i : ix (nI i9) = i9 := nI_clamp (by omega)
            rw [cdAt_rack hrk hp8 hi9, hgs hrk i9 hi9]
            rcases hZ.card hI hj hrk ez hp8 hi9 with h0 | ⟨c9, b9, eb9, hb9, hc9, ev9, ec9, hq9, h59⟩
            · rw [h0, cdR_0]
              show W _ _ _ _ _ _ _ _ _ _ _ _ _ _ _ (F0 m 69 ls [.null])
              refine lv_astoreN (lv' := [(7, .null), (6, .ref (tSp θ j2)), (5, .ref (tSp θ j)), (0, .ref x), (1, .int (nI j)), (2, .int (nI i9)), (3, .int (nI j2)), (4, .int i2)]) hx hb dX2_same_69 hl (by decide) rfl (fun ls hl => ?_)
              refine lv_aloadN hx hb dX2_same_71 (lv_at hl 0 rfl) ?_
              refine lv_ifnullN (tgt := 92) hx hb dX2_same_73 (by decide) ?_
              refine lv_iconst (v := 0) hx hb dX2_same_92 (by decide) ?_
              exact W.iret hx hb hr (fun t ht _ => ⟨_, rfl, (by
                have e8 : anSame σ (nI j) (nI i9) (nI j2) i2 = 0 := by
                  show (if isSp (nI j) = true ∧ isSp (nI j2) = true then _ else _) = _
                  rw [if_pos ⟨esp_j, esp_j2⟩, eix_j, eix_j2, if_neg (fun z => c_39 z.2), ez, ez2, rk_eq hI hj, rk_eq hI hj2, eix_i, if_neg (fun z => z.2.2.2.2.1 h0)]
                rw [e8]), ht⟩) (fun _ h => by cases h) dX2_same_93
            · have hn0 : ¬ pV σ j i9 = 0 := by rw [ev9]; exact lN_n0 (by omega)
              rw [cdR_n hn0, ec9]
              show W _ _ _ _ _ _ _ _ _ _ _ _ _ _ _ (F0 m 69 ls [.ref (tCa θ c9)])
              refine lv_astore (lv' := [(7, .ref (tCa θ c9)), (6, .ref (tSp θ j2)), (5, .ref (tSp θ j)), (0, .ref x), (1, .int (nI j)), (2, .int (nI i9)), (3, .int (nI j2)), (4, .int i2)]) hx hb dX2_same_69 hl (by decide) rfl (fun ls hl => ?_)
              refine lv_aload hx hb dX2_same_71 (lv_at hl 0 rfl) ?_
              refine lv_ifnull hx hb dX2_same_73 ?_
              refine lv_aload hx hb dX2_same_76 (lv_at hl 0 rfl) ?_
              refine lv_aload hx hb dX2_same_78 (lv_at hl 1 rfl) ?_
              refine lv_iload hx hb dX2_same_80 (lv_at hl 7 rfl) ?_
              refine va_csq (W.runV (As := [.int i2]) (rest := [.ref (tCa θ c9)]) F (c_X1_cardAt (i := i2) hH2) (cwV 1 hts gX2_same_X1_cardAt rfl rfl rfl (by decide +kernel) ⟨Nat.le_of_ble_eq_true rfl, Nat.le_of_ble_eq_true rfl⟩) (mw_prV (q := (RX1, TX1, 5)) hK hO hW rfl hH2.1) rfl rfl hl.1 rfl (lv_room (Nat.le_of_ble_eq_true rfl)) dX2_same_82 ⟨Nat.zero_le _, Nat.zero_le _⟩) (fun r_6 er_6 => ?_)
              subst er_6
              refine lv_acmp_ne (rx := some (tCa θ c9)) (ry := cdAt (kOf σ j2) pn2 g2 i2) (tgt := 92) hx hb dX2_same_85 (by decide) (fun c_85 => ?_) (fun c_85 => ?_)
              · refine lv_iconst (v := 0) hx hb dX2_same_92 (by decide) ?_
                exact W.iret hx hb hr (fun t ht _ => ⟨_, rfl, (by
                  have e8 : anSame σ (nI j) (nI i9) (nI j2) i2 = 0 := by
                    show (if isSp (nI j) = true ∧ isSp (nI j2) = true then _ else _) = _
                    rw [if_pos ⟨esp_j, esp_j2⟩, eix_j, eix_j2, if_neg (fun z => c_39 z.2), ez, ez2, rk_eq hI hj, rk_eq hI hj2, eix_i, if_neg (fun z => c_85 ((hZ.cdEq hI hj2 hp82 ez2 hgs2 eb9 hb9 hc9).mpr ⟨z.2.1, z.2.2.2.1, z.2.2.2.2.2.symm.trans ev9⟩).symm)]
                  rw [e8]), ht⟩) (fun _ h => by cases h) dX2_same_93
              · refine lv_iconst (v := 1) hx hb dX2_same_88 (by decide) ?_
                refine lv_goto (tgt := 93) hx hb dX2_same_89 (by decide) ?_
                exact W.iret hx hb hr (fun t ht _ => ⟨_, rfl, (by
                  have e8 : anSame σ (nI j) (nI i9) (nI j2) i2 = 1 := by
                    show (if isSp (nI j) = true ∧ isSp (nI j2) = true then _ else _) = _
                    rw [if_pos ⟨esp_j, esp_j2⟩, eix_j, eix_j2, if_neg (fun z => c_39 z.2), ez, ez2, rk_eq hI hj, rk_eq hI hj2, eix_i, if_pos (by
                      have z := (hZ.cdEq hI hj2 hp82 ez2 hgs2 eb9 hb9 hc9).mp c_85.symm
                      exact ⟨hrk, z.1, hin, z.2.1, hn0, ev9.trans z.2.2.symm⟩)]
                  rw [e8]), ht⟩) (fun _ h => by cases h) dX2_same_93
          · rw [cdAt_none hin]
            show W _ _ _ _ _ _ _ _ _ _ _ _ _ _ _ (F0 m 69 ls [.null])
            refine lv_astoreN (lv' := [(7, .null), (6, .ref (tSp θ j2)), (5, .ref (tSp θ j)), (0, .ref x), (1, .int (nI j)), (2, .int i), (3, .int (nI j2)), (4, .int i2)]) hx hb dX2_same_69 hl (by decide) rfl (fun ls hl => ?_)
            refine lv_aloadN hx hb dX2_same_71 (lv_at hl 0 rfl) ?_
            refine lv_ifnullN (tgt := 92) hx hb dX2_same_73 (by decide) ?_
            refine lv_iconst (v := 0) hx hb dX2_same_92 (by decide) ?_
            exact W.iret hx hb hr (fun t ht _ => ⟨_, rfl, (by
              have e8 : anSame σ (nI j) i (nI j2) i2 = 0 := by
                show (if isSp (nI j) = true ∧ isSp (nI j2) = true then _ else _) = _
                rw [if_pos ⟨esp_j, esp_j2⟩, eix_j, eix_j2, if_neg (fun z => c_39 z.2), ez, ez2, rk_eq hI hj, rk_eq hI hj2, if_neg (fun z => hin ⟨z.1, z.2.2.1⟩)]
              rw [e8]), ht⟩) (fun _ h => by cases h) dX2_same_93
        · have c_39 := Int32.not_le.mp c_39
          refine lv_aload hx hb dX2_same_42 (lv_at hl 1 rfl) ?_
          refine lv_aload hx hb dX2_same_44 (lv_at hl 0 rfl) ?_
          refine lv_acmp_ne (rx := some (tSp θ j)) (ry := some (tSp θ j2)) (tgt := 61) hx hb dX2_same_46 (by decide) (fun c_46 => ?_) (fun c_46 => ?_)
          · refine lv_iconst (v := 0) hx hb dX2_same_61 (by decide) ?_
            exact W.iret hx hb hr (fun t ht _ => ⟨_, rfl, (by
              have e8 : anSame σ (nI j) i (nI j2) i2 = 0 := by
                show (if isSp (nI j) = true ∧ isSp (nI j2) = true then _ else _) = _
                rw [if_pos ⟨esp_j, esp_j2⟩, eix_j, eix_j2, if_pos ⟨c_34, c_39⟩, if_neg (fun z => c_46 (congrArg some ((hZ.same hI hj hj2 z.1).mpr z.2)))]
              rw [e8]), ht⟩) (fun _ h => by cases h) dX2_same_62
          · refine lv_aload hx hb dX2_same_49 (lv_at hl 1 rfl) ?_
            refine mw_get (C := RX1) (T := TX1) (N := 5) F hK hW hI_X1 hH.1 rfl 0 (by decide) hl_fieldLink_RX2_46_SpliceBench_Holding_kind_I rfl dX2_same_51 ?_
            refine lv_if_eq (tgt := 61) hx hb dX2_same_54 (by decide) (fun c_54 => ?_) (fun c_54 => ?_)
            · refine lv_iconst (v := 0) hx hb dX2_same_61 (by decide) ?_
              exact W.iret hx hb hr (fun t ht _ => ⟨_, rfl, (by
                have e8 : anSame σ (nI j) i (nI j2) i2 = 0 := by
                  show (if isSp (nI j) = true ∧ isSp (nI j2) = true then _ else _) = _
                  rw [if_pos ⟨esp_j, esp_j2⟩, eix_j, eix_j2, if_pos ⟨c_34, c_39⟩, if_neg (fun z => z.1 (hZ.ho0 hI hj c_54))]
                rw [e8]), ht⟩) (fun _ h => by cases h) dX2_same_62
            · refine lv_iconst (v := 1) hx hb dX2_same_57 (by decide) ?_
              refine lv_goto (tgt := 62) hx hb dX2_same_58 (by decide) ?_
              exact W.iret hx hb hr (fun t ht _ => ⟨_, rfl, (by
                have e8 : anSame σ (nI j) i (nI j2) i2 = 1 := by
                  show (if isSp (nI j) = true ∧ isSp (nI j2) = true then _ else _) = _
                  rw [if_pos ⟨esp_j, esp_j2⟩, eix_j, eix_j2, if_pos ⟨c_34, c_39⟩, if_pos ⟨fun z => c_54 (kOf_0 z), (hZ.same hI hj hj2 (fun z => c_54 (kOf_0 z))).mp (Option.some.inj c_46)⟩]
                rw [e8]), ht⟩) (fun _ h => by cases h) dX2_same_62
    · have c_11 := bI_e c_11
      refine lv_bipush (v := (-9)) hx hb dX2_same_14 (by decide) ?_
      exact W.iret hx hb hr (fun t ht _ => ⟨_, rfl, (by simp [anSame, esp_j, c_11]), ht⟩) (fun _ h => by cases h) dX2_same_16
abbrev rmX2_motionFailure : Room := ({ frames := 2, cells := 0, slots := 0, locals := 41 } : Room)
set_option maxHeartbeats 4000000 in
set_option maxRecDepth 100000 in
theorem c_X2_motionFailure {h : Nat} {k : Int32} {pn na ca : Nat} {lb : Int32} {f : Nat → Int64} {g : Nat → Option Nat} {h' : Nat} {k' : Int32} {pn' na' ca' : Nat} {lb' : Int32} {f' : Nat → Int64} {g' : Nat → Option Nat} {i j n : Int32} (hH : hOk M cJ cC h k pn na ca lb f g) (hH' : hOk M cJ cC h' k' pn' na' ca' lb' f' g') : Met l yX2_motionFailure wsX2_motionFailure rmX2_motionFailure (va_Pc [.ref h, .int i, .ref h', .int j, .int n] (mwPre D (tyL cI cJ cC cH) M sz)) (vp_Si (fun r => r = mfI k k' pn pn' i j n)) 0 0 (fun _ => False) := by
  refine Met.ofW (cc := cX2_motionFailure) (maxL := 5) (ret := (some .int)) (by decide) rfl ?_
  intro pr env s m args below meth c s₁ B hml hv
  obtain ⟨rfl, hsz, hW, hK, hO⟩ := hv
  have hx := B.exec
  have hb := B.bytes
  have hr := B.returns
  have hts := atoms_spec (ws := wsX2_motionFailure) B.pre
  have hown : s.vm.findClass RX2 = some m.cls := findClass_of_methodNamed B.named
  have hlocks := B.notSynchronized
  have F : CallFix pr m c cX2_motionFailure 5 s ([.ref h, .int i, .ref h', .int j, .int n] : List Value).toArray wsX2_motionFailure RX2 := ⟨hx, hb, hml, hown, hts⟩
  have hI_X1 : ∀ w ∈ wsX10, w ∈ wsX2_motionFailure := by decide +kernel
  have hl_fieldLink_RX2_46_SpliceBench_Holding_kind_I := hts (.fieldLink RX2 46 "SpliceBench$Holding" "kind" "I") (by decide +kernel)
  have hl := lv_entry ([.ref h, .int i, .ref h', .int j, .int n]) (n := 5) (Nat.le_of_ble_eq_true rfl)
  rw [lg_entry_eq]
  generalize (lg_sl ([.ref h, .int i, .ref h', .int j, .int n]) ++ List.replicate (5 - (lg_sl ([.ref h, .int i, .ref h', .int j, .int n])).length) Slot.unset).toArray = ls at hl ⊢
  have hl : lv_has ls 5 [(0, .ref h), (1, .int i), (2, .ref h'), (3, .int j), (4, .int n)] := hl
  refine lv_aload_n hx hb dX2_motionFailure_0 rfl (lv_at hl 0 rfl) ?_
  refine mw_get (C := RX1) (T := TX1) (N := 5) F hK hW hI_X1 hH.1 rfl 0 (by decide) hl_fieldLink_RX2_46_SpliceBench_Holding_kind_I rfl dX2_motionFailure_1 ?_
  refine lv_if_eq (tgt := 14) hx hb dX2_motionFailure_4 (by decide) (fun c_4 => ?_) (fun c_4 => ?_)
  · refine lv_iconst (v := 1) hx hb dX2_motionFailure_14 (by decide) ?_
    exact W.iret hx hb hr (fun t ht _ => ⟨_, rfl, (by first | rfl | simp [mfI, c_4]), ht⟩) (fun _ h => by cases h) dX2_motionFailure_15
  · refine lv_aload_n hx hb dX2_motionFailure_7 rfl (lv_at hl 2 rfl) ?_
    refine mw_get (C := RX1) (T := TX1) (N := 5) F hK hW hI_X1 hH'.1 rfl 0 (by decide) hl_fieldLink_RX2_46_SpliceBench_Holding_kind_I rfl dX2_motionFailure_8 ?_
    refine lv_if_ne (tgt := 16) hx hb dX2_motionFailure_11 (by decide) (fun c_11 => ?_) (fun c_11 => ?_)
    · refine lv_aload_n hx hb dX2_motionFailure_16 rfl (lv_at hl 0 rfl) ?_
      refine lv_aload_n hx hb dX2_motionFailure_17 rfl (lv_at hl 2 rfl) ?_
      refine vp_callSi (W.runV (As := [.ref h']) (rest := []) F (c_X1_isLike hH hH') (cwV 1 hts gX2_motionFailure_X1_isLike rfl rfl rfl (by decide +kernel) ⟨Nat.le_of_ble_eq_true rfl, Nat.le_of_ble_eq_true rfl⟩) (mw_prV (q := (RX1, TX1, 5)) hK hO hW rfl hH.1) rfl rfl hl.1 rfl (lv_room (Nat.le_of_ble_eq_true rfl)) dX2_motionFailure_18 ⟨Nat.zero_le _, Nat.zero_le _⟩) (fun r_1 er_1 => ?_)
      subst er_1
      refine lv_if_ne (tgt := 26) hx hb dX2_motionFailure_21 (by decide) (fun c_21 => ?_) (fun c_21 => ?_)
      · have c_21 := bI_n c_21
        refine lv_aload_n hx hb dX2_motionFailure_26 rfl (lv_at hl 0 rfl) ?_
        refine lv_iload_n hx hb dX2_motionFailure_27 rfl (lv_at hl 1 rfl) ?_
        refine lv_iload hx hb dX2_motionFailure_28 (lv_at hl 4 rfl) ?_
        refine vp_callSi (W.runV (As := [.int i, .int n]) (rest := []) F (c_X1_hasPlaces (i := i) (n := n) hH) (cwV 2 hts gX2_motionFailure_X1_hasPlaces rfl rfl rfl (by decide +kernel) ⟨Nat.le_of_ble_eq_true rfl, Nat.le_of_ble_eq_true rfl⟩) (mw_prV (q := (RX1, TX1, 5)) hK hO hW rfl hH.1) rfl rfl hl.1 rfl (lv_room (Nat.le_of_ble_eq_true rfl)) dX2_motionFailure_30 ⟨Nat.zero_le _, Nat.zero_le _⟩) (fun r_2 er_2 => ?_)
        subst er_2
        refine lv_if_eq (tgt := 50) hx hb dX2_motionFailure_33 (by decide) (fun c_33 => ?_) (fun c_33 => ?_)
        · have c_33 := bI_e c_33
          refine lv_iconst (v := 3) hx hb dX2_motionFailure_50 (by decide) ?_
          exact W.iret hx hb hr (fun t ht _ => ⟨_, rfl, (by first | rfl | simp [mfI, c_4, c_11, c_21, c_33]), ht⟩) (fun _ h => by cases h) dX2_motionFailure_51
        · have c_33 := bI_n c_33
          refine lv_aload_n hx hb dX2_motionFailure_36 rfl (lv_at hl 2 rfl) ?_
          refine lv_iload_n hx hb dX2_motionFailure_37 rfl (lv_at hl 3 rfl) ?_
          refine lv_iload hx hb dX2_motionFailure_38 (lv_at hl 4 rfl) ?_
          refine vp_callSi (W.runV (As := [.int j, .int n]) (rest := []) F (c_X1_hasPlaces (i := j) (n := n) hH') (cwV 2 hts gX2_motionFailure_X1_hasPlaces rfl rfl rfl (by decide +kernel) ⟨Nat.le_of_ble_eq_true rfl, Nat.le_of_ble_eq_true rfl⟩) (mw_prV (q := (RX1, TX1, 5)) hK hO hW rfl hH'.1) rfl rfl hl.1 rfl (lv_room (Nat.le_of_ble_eq_true rfl)) dX2_motionFailure_40 ⟨Nat.zero_le _, Nat.zero_le _⟩) (fun r_3 er_3 => ?_)
          subst er_3
          refine lv_if_eq (tgt := 50) hx hb dX2_motionFailure_43 (by decide) (fun c_43 => ?_) (fun c_43 => ?_)
          · have c_43 := bI_e c_43
            refine lv_iconst (v := 3) hx hb dX2_motionFailure_50 (by decide) ?_
            exact W.iret hx hb hr (fun t ht _ => ⟨_, rfl, (by first | rfl | simp [mfI, c_4, c_11, c_21, c_33, c_43]), ht⟩) (fun _ h => by cases h) dX2_motionFailure_51
          · have c_43 := bI_n c_43
            refine lv_iconst (v := 0) hx hb dX2_motionFailure_46 (by decide) ?_
            refine lv_goto (tgt := 51) hx hb dX2_motionFailure_47 (by decide) ?_
            exact W.iret hx hb hr (fun t ht _ => ⟨_, rfl, (by first | rfl | simp [mfI, c_4, c_11, c_21, c_33, c_43]), ht⟩) (fun _ h => by cases h) dX2_motionFailure_51
      · have c_21 := bI_e c_21
        refine lv_iconst (v := 2) hx hb dX2_motionFailure_24 (by decide) ?_
        exact W.iret hx hb hr (fun t ht _ => ⟨_, rfl, (by first | rfl | simp [mfI, c_4, c_11, c_21]), ht⟩) (fun _ h => by cases h) dX2_motionFailure_25
    · refine lv_iconst (v := 1) hx hb dX2_motionFailure_14 (by decide) ?_
      exact W.iret hx hb hr (fun t ht _ => ⟨_, rfl, (by first | rfl | simp [mfI, c_4, c_11]), ht⟩) (fun _ h => by cases h) dX2_motionFailure_15
abbrev rmX2_rowBehind : Room := ({ frames := 1, cells := 0, slots := 0, locals := 20 } : Room)
set_option maxHeartbeats 4000000 in
set_option maxRecDepth 100000 in
theorem c_X2_rowBehind {x a1 a2 cs cr : Nat} {v1 v2 v3 : Int32} {cv : Value} (hx0 : M x = some (.inr (2, [.ref a1, .ref a2, .int v1, .int v2, .int v3, cv, .ref cs, .ref cr]))) {h : Nat} {k : Int32} {fs : List Value} (hh : M h = some (.inr (1, .int k :: fs))) : Met l yX2_rowBehind wsX2_rowBehind rmX2_rowBehind (va_Pc [.ref x, .ref h] (mwPre D (tyL cI cJ cC cH) M sz)) (va_Sq (fun r => r = some (if kRack k = true then cr else cs))) 0 0 (fun _ => False) := by
  refine Met.ofW (cc := cX2_rowBehind) (maxL := 2) (ret := (some (.object "SpliceBench$Holding"))) (by decide) rfl ?_
  intro pr env s m args below meth c s₁ B hml hv
  obtain ⟨rfl, hsz, hW, hK, hO⟩ := hv
  have hx := B.exec
  have hb := B.bytes
  have hr := B.returns
  have hts := atoms_spec (ws := wsX2_rowBehind) B.pre
  have hown : s.vm.findClass RX2 = some m.cls := findClass_of_methodNamed B.named
  have hlocks := B.notSynchronized
  have F : CallFix pr m c cX2_rowBehind 2 s ([.ref x, .ref h] : List Value).toArray wsX2_rowBehind RX2 := ⟨hx, hb, hml, hown, hts⟩
  have hI_X2 : ∀ w ∈ wsX20, w ∈ wsX2_rowBehind := by decide +kernel
  have hl_fieldLink_RX2_36_SpliceBench_coveredStrip_LSpliceBench_Holding := hts (.fieldLink RX2 36 "SpliceBench" "coveredStrip" "LSpliceBench$Holding;") (by decide +kernel)
  have hl_fieldLink_RX2_39_SpliceBench_coveredRack_LSpliceBench_Holding := hts (.fieldLink RX2 39 "SpliceBench" "coveredRack" "LSpliceBench$Holding;") (by decide +kernel)
  have hl := lv_entry ([.ref x, .ref h]) (n := 2) (Nat.le_of_ble_eq_true rfl)
  rw [lg_entry_eq]
  generalize (lg_sl ([.ref x, .ref h]) ++ List.replicate (2 - (lg_sl ([.ref x, .ref h])).length) Slot.unset).toArray = ls at hl ⊢
  have hl : lv_has ls 2 [(0, .ref x), (1, .ref h)] := hl
  refine lv_aload_n hx hb dX2_rowBehind_0 rfl (lv_at hl 1 rfl) ?_
  refine vp_callSi (W.runV (As := []) (rest := []) F (c_X1_isRack hh) (cwV 0 hts gX2_rowBehind_X1_isRack rfl rfl rfl (by decide +kernel) ⟨Nat.le_of_ble_eq_true rfl, Nat.le_of_ble_eq_true rfl⟩) (mw_prV (q := (RX1, TX1, 5)) hK hO hW rfl hh) rfl rfl hl.1 rfl (lv_room (Nat.le_of_ble_eq_true rfl)) dX2_rowBehind_1 ⟨Nat.zero_le _, Nat.zero_le _⟩) (fun r_1 er_1 => ?_)
  subst er_1
  refine lv_if_eq (tgt := 14) hx hb dX2_rowBehind_4 (by decide) (fun c_4 => ?_) (fun c_4 => ?_)
  · have c_4 := bI_e c_4
    refine lv_aload_n hx hb dX2_rowBehind_14 rfl (lv_at hl 0 rfl) ?_
    refine mw_get (C := RX2) (T := TX2) (N := 8) F hK hW hI_X2 hx0 rfl 6 (by decide) hl_fieldLink_RX2_36_SpliceBench_coveredStrip_LSpliceBench_Holding rfl dX2_rowBehind_15 ?_
    exact W.aret hx hb hr (Or.inl ⟨_, rfl⟩) (by first | exact va_rf_or _ | exact Or.inl rfl | exact Or.inr ⟨_, rfl⟩) (fun t ht _ => ⟨some cs, rfl, (by rw [if_neg (by rw [c_4]; decide)]), ht⟩) (fun _ h => by cases h) dX2_rowBehind_18
  · have c_4 := bI_n c_4
    refine lv_aload_n hx hb dX2_rowBehind_7 rfl (lv_at hl 0 rfl) ?_
    refine mw_get (C := RX2) (T := TX2) (N := 8) F hK hW hI_X2 hx0 rfl 7 (by decide) hl_fieldLink_RX2_39_SpliceBench_coveredRack_LSpliceBench_Holding rfl dX2_rowBehind_8 ?_
    refine lv_goto (tgt := 18) hx hb dX2_rowBehind_11 (by decide) ?_
    exact W.aret hx hb hr (Or.inl ⟨_, rfl⟩) (by first | exact va_rf_or _ | exact Or.inl rfl | exact Or.inr ⟨_, rfl⟩) (fun t ht _ => ⟨some cr, rfl, (by rw [if_pos c_4]), ht⟩) (fun _ h => by cases h) dX2_rowBehind_18
abbrev rmX2_end : Room := ({ frames := 0, cells := 0, slots := 0, locals := 0 } : Room)
set_option maxHeartbeats 4000000 in
set_option maxRecDepth 100000 in
theorem c_X2_end {x a1 a2 cs cr : Nat} {v1 v2 v3 : Int32} {cv : Value} (hx0 : M x = some (.inr (2, [.ref a1, .ref a2, .int v1, .int v2, .int v3, cv, .ref cs, .ref cr]))) {en : Nat → Int32} {t5 : Nat} {came ans : Int32} (ha2 : M a2 = some (.inl (cI, 5, .inl en))) (ht5 : t5 < 5) : Met l yX2_end wsX2_end rmX2_end (va_Pc [.ref x, .int (nI t5), .int came, .int ans] (mwPre D (tyL cI cJ cC cH) M sz)) (va_Qi (fun r M' => r = ans ∧ M' = va_up (va_up M a2 (some (.inl (cI, 5, .inl (upd en t5 (en t5 + 1)))))) x (some (.inr (2, [.ref a1, .ref a2, .int came, .int v2, .int v3, cv, .ref cs, .ref cr])))) (mwB D (tyL cI cJ cC cH) M sz) (mwA M sz)) 0 0 (mwA M sz) := by
  refine Met.ofW (cc := cX2_end) (maxL := 4) (ret := (some .int)) (by decide) rfl ?_
  intro pr env s m args below meth c s₁ B hml hv
  obtain ⟨rfl, hsz, hW, hK, hO⟩ := hv
  subst hsz
  have hW := hW.self (sz := s.heap.size)
  have hS : va_S (mwA M s.heap.size) s.heap s.heap [] := va_S.rf
  have hA : ∀ q, s.heap.size ≤ q → mwA M s.heap.size q := fun q h => Or.inr h
  have hx := B.exec
  have hb := B.bytes
  have hr := B.returns
  have hts := atoms_spec (ws := wsX2_end) B.pre
  have hown : s.vm.findClass RX2 = some m.cls := findClass_of_methodNamed B.named
  have hlocks := B.notSynchronized
  have F : CallFix pr m c cX2_end 4 s ([.ref x, .int (nI t5), .int came, .int ans] : List Value).toArray wsX2_end RX2 := ⟨hx, hb, hml, hown, hts⟩
  have hI_X2 : ∀ w ∈ wsX20, w ∈ wsX2_end := by decide +kernel
  have hl_fieldLink_RX2_15_SpliceBench_endings_I := hts (.fieldLink RX2 15 "SpliceBench" "endings" "[I") (by decide +kernel)
  have hl_fieldLink_RX2_19_SpliceBench_come_I := hts (.fieldLink RX2 19 "SpliceBench" "come" "I") (by decide +kernel)
  have hl := lv_entry ([.ref x, .int (nI t5), .int came, .int ans]) (n := 4) (Nat.le_of_ble_eq_true rfl)
  rw [lg_entry_eq]
  generalize (lg_sl ([.ref x, .int (nI t5), .int came, .int ans]) ++ List.replicate (4 - (lg_sl ([.ref x, .int (nI t5), .int came, .int ans])).length) Slot.unset).toArray = ls at hl ⊢
  have hl : lv_has ls 4 [(0, .ref x), (1, .int (nI t5)), (2, .int came), (3, .int ans)] := hl
  refine lv_aload_n hx hb dX2_end_0 rfl (lv_at hl 0 rfl) ?_
  refine mw_get (C := RX2) (T := TX2) (N := 8) F hK hW hI_X2 hx0 rfl 1 (by decide) hl_fieldLink_RX2_15_SpliceBench_endings_I rfl dX2_end_1 ?_
  refine lv_iload_n hx hb dX2_end_4 rfl (lv_at hl 1 rfl) ?_
  refine lv_dup2_11 hx hb dX2_end_5 rfl rfl ?_
  refine mw_iald F hK hW 0 ha2 rfl (vp_in_nI (show t5 < 5 by omega) (by omega)) dX2_end_6 ?_
  rw [nI_clamp (show t5 < 2 ^ 31 by omega)]
  refine lv_iconst (v := 1) hx hb dX2_end_7 (by decide) ?_
  refine lv_iadd hx hb dX2_end_8 ?_
  refine mw_iast F hK hW hS 0 ha2 rfl (vp_in_nI ht5 (by omega)) dX2_end_9 (fun H locs hW hS => ?_)
  rw [nI_clamp (show t5 < 2 ^ 31 by omega)] at hW
  have hx1 : (va_up M a2 (some (.inl (cI, 5, .inl (upd en t5 (en t5 + 1)))))) x = _ := (va_up_ne _ _ (mw_neq hx0 ha2 (fun z => by cases z))).trans hx0
  refine lv_aload_n hx hb dX2_end_10 rfl (lv_at hl 0 rfl) ?_
  refine lv_iload_n hx hb dX2_end_11 rfl (lv_at hl 2 rfl) ?_
  refine mw_put (C := RX2) (T := TX2) (N := 8) (v := .int came) F hK hW hS hI_X2 tyX2 tyX2_ok nmX2 hx1 rfl 2 (by decide) hl_fieldLink_RX2_19_SpliceBench_come_I rfl rfl rfl (Nat.le_of_ble_eq_true rfl) dX2_end_12 (fun H locs hW hS => ?_)
  have hW : mw D (mwA M s.heap.size) (va_up (va_up M a2 (some (.inl (cI, 5, .inl (upd en t5 (en t5 + 1)))))) x (some (.inr (2, [.ref a1, .ref a2, .int came, .int v2, .int v3, cv, .ref cs, .ref cr])))) H := hW
  have hc_12 : (va_up (va_up M a2 (some (.inl (cI, 5, .inl (upd en t5 (en t5 + 1)))))) x (some (.inr (2, [.ref a1, .ref a2, .int came, .int v2, .int v3, cv, .ref cs, .ref cr])))) x = some (.inr (2, [.ref a1, .ref a2, .int came, .int v2, .int v3, cv, .ref cs, .ref cr])) := va_up_self _ _ _
  refine lv_iload_n hx hb dX2_end_15 rfl (lv_at hl 3 rfl) ?_
  exact W.iret hx hb hr (fun t ht hw => ⟨⟨ans, va_up (va_up M a2 (some (.inl (cI, 5, .inl (upd en t5 (en t5 + 1)))))) x (some (.inr (2, [.ref a1, .ref a2, .int came, .int v2, .int v3, cv, .ref cs, .ref cr]))), rfl, ⟨rfl, rfl⟩, by rw [ht]; exact hW, va_K.moved hw.alike hK⟩, hS.F ht⟩) hS.2.2 dX2_end_16
abbrev rmX2_cover : Room := ({ frames := 2, cells := 0, slots := 0, locals := 104 } : Room)
set_option maxHeartbeats 4000000 in
set_option maxRecDepth 100000 in
theorem c_X2_cover {x a1 a2 cs cr : Nat} {v1 v2 v3 : Int32} {cv : Value} (hx0 : M x = some (.inr (2, [.ref a1, .ref a2, .int v1, .int v2, .int v3, cv, .ref cs, .ref cr]))) {h : Nat} {k : Int32} {pn na ca : Nat} {lb : Int32} {f : Nat → Int64} {g : Nat → Option Nat} {crn crc : Nat} {f0 : Nat → Int64} {gS : Nat → Option Nat} (hH : hOk M cJ cC h k pn na ca lb f g) (hk : kRack k = true) (hB : hOk M cJ cC cr 4 80 crn crc 0 f0 gS) (hel : ∀ i, i < pn → ∀ y, g i = some y → ∃ fs, M y = some (.inr (0, fs))) : Met l yX2_cover wsX2_cover rmX2_cover (va_Pc [.ref x, .ref h] (mwPre D (tyL cI cJ cC cH) M sz)) (va_Qv (fun M' => M' = va_up (va_up M crc (some (.inl (cC, 80, .inr (.inr (.inr (.inr (va_cpy g gS 0 0 pn)))))))) x (some (.inr (2, [.ref a1, .ref a2, .int v1, .int v2, .int v3, .ref h, .ref cs, .ref cr])))) (mwB D (tyL cI cJ cC cH) M sz) (mwA M sz)) 0 0 (mwA M sz) := by
  refine Met.ofW (cc := cX2_cover) (maxL := 2) (ret := none) (by decide) rfl ?_
  intro pr env s m args below meth c s₁ B hml hv
  obtain ⟨rfl, hsz, hW, hK, hO⟩ := hv
  subst hsz
  have hW := hW.self (sz := s.heap.size)
  have hS : va_S (mwA M s.heap.size) s.heap s.heap [] := va_S.rf
  have hA : ∀ q, s.heap.size ≤ q → mwA M s.heap.size q := fun q h => Or.inr h
  have hx := B.exec
  have hb := B.bytes
  have hr := B.returns
  have hts := atoms_spec (ws := wsX2_cover) B.pre
  have hown : s.vm.findClass RX2 = some m.cls := findClass_of_methodNamed B.named
  have hlocks := B.notSynchronized
  have F : CallFix pr m c cX2_cover 2 s ([.ref x, .ref h] : List Value).toArray wsX2_cover RX2 := ⟨hx, hb, hml, hown, hts⟩
  have hI_X1 : ∀ w ∈ wsX10, w ∈ wsX2_cover := by decide +kernel
  have hI_X2 : ∀ w ∈ wsX20, w ∈ wsX2_cover := by decide +kernel
  have hl_fieldLink_RX2_104_SpliceBench_Holding_places_I := hts (.fieldLink RX2 104 "SpliceBench$Holding" "places" "I") (by decide +kernel)
  have hl_fieldLink_RX2_29_SpliceBench_covered_LSpliceBench_Holding := hts (.fieldLink RX2 29 "SpliceBench" "covered" "LSpliceBench$Holding;") (by decide +kernel)
  have hp8 := hH.2.1
  have hl := lv_entry ([.ref x, .ref h]) (n := 2) (Nat.le_of_ble_eq_true rfl)
  rw [lg_entry_eq]
  generalize (lg_sl ([.ref x, .ref h]) ++ List.replicate (2 - (lg_sl ([.ref x, .ref h])).length) Slot.unset).toArray = ls at hl ⊢
  have hl : lv_has ls 2 [(0, .ref x), (1, .ref h)] := hl
  refine lv_aload_n hx hb dX2_cover_0 rfl (lv_at hl 0 rfl) ?_
  refine lv_aload_n hx hb dX2_cover_1 rfl (lv_at hl 1 rfl) ?_
  refine va_csq (W.runV (As := [.ref h]) (rest := []) F (c_X2_rowBehind hx0 hH.1) (cwV 1 hts gX2_cover_X2_rowBehind rfl rfl rfl (by decide +kernel) ⟨Nat.le_of_ble_eq_true rfl, Nat.le_of_ble_eq_true rfl⟩) (mw_prV (q := (RX2, TX2, 8)) hK hO hW rfl hx0) rfl rfl hl.1 rfl (lv_room (Nat.le_of_ble_eq_true rfl)) dX2_cover_2 ⟨Nat.zero_le _, Nat.zero_le _⟩) (fun r er => ?_)
  subst er
  rw [if_pos hk]
  refine W.eq (g2 := F0 m 5 ls [.ref cr]) rfl ?_
  refine lv_aload_n hx hb dX2_cover_5 rfl (lv_at hl 1 rfl) ?_
  refine lv_iconst (v := 0) hx hb dX2_cover_6 (by decide) ?_
  refine lv_iconst (v := 0) hx hb dX2_cover_7 (by decide) ?_
  refine lv_aload_n hx hb dX2_cover_8 rfl (lv_at hl 1 rfl) ?_
  refine mw_get (C := RX1) (T := TX1) (N := 5) F hK hW hI_X1 hH.1 rfl 1 (by decide) hl_fieldLink_RX2_104_SpliceBench_Holding_places_I rfl dX2_cover_9 ?_
  refine mw_callv (va_runV (As := [.ref h, .int 0, .int 0, .int (nI pn)]) (rest := []) F (c_X1_copyFrom (i := 0) (j := 0) (n := pn) hB hH rfl hk (by omega) (by omega) (fun x hx9 y hy9 => hel x hx9 y (by rw [Nat.zero_add] at hy9; exact hy9))) (cwV 4 hts gX2_cover_X1_copyFrom rfl rfl rfl (by decide +kernel) ⟨Nat.le_of_ble_eq_true rfl, Nat.le_of_ble_eq_true rfl⟩) (mw_prV (q := (RX1, TX1, 5)) hK hO hW rfl hB.1) rfl rfl hl.1 rfl (lv_room (Nat.le_of_ble_eq_true rfl)) dX2_cover_12 ⟨Nat.zero_le _, Nat.zero_le _⟩) hW hS hA (fun M1 H locs eM hW hS => ?_)
  subst eM
  have hx1 : (va_up M crc (some (.inl (cC, 80, .inr (.inr (.inr (.inr (va_cpy g gS 0 0 pn)))))))) x = _ := (va_up_ne _ _ (mw_neq hx0 (hB.cds rfl) (fun z => by cases z))).trans hx0
  refine lv_aload_n hx hb dX2_cover_15 rfl (lv_at hl 0 rfl) ?_
  refine lv_aload_n hx hb dX2_cover_16 rfl (lv_at hl 1 rfl) ?_
  refine mw_put (C := RX2) (T := TX2) (N := 8) (v := .ref h) F hK hW hS hI_X2 tyX2 tyX2_ok nmX2 hx1 rfl 5 (by decide) hl_fieldLink_RX2_29_SpliceBench_covered_LSpliceBench_Holding rfl rfl rfl (Nat.le_of_ble_eq_true rfl) dX2_cover_17 (fun H locs hW hS => ?_)
  have hW : mw D (mwA M s.heap.size) (va_up (va_up M crc (some (.inl (cC, 80, .inr (.inr (.inr (.inr (va_cpy g gS 0 0 pn)))))))) x (some (.inr (2, [.ref a1, .ref a2, .int v1, .int v2, .int v3, .ref h, .ref cs, .ref cr])))) H := hW
  have hc_17 : (va_up (va_up M crc (some (.inl (cC, 80, .inr (.inr (.inr (.inr (va_cpy g gS 0 0 pn)))))))) x (some (.inr (2, [.ref a1, .ref a2, .int v1, .int v2, .int v3, .ref h, .ref cs, .ref cr])))) x = some (.inr (2, [.ref a1, .ref a2, .int v1, .int v2, .int v3, .ref h, .ref cs, .ref cr])) := va_up_self _ _ _
  exact W.vret hx hb hr (fun t ht hw => ⟨⟨va_up (va_up M crc (some (.inl (cC, 80, .inr (.inr (.inr (.inr (va_cpy g gS 0 0 pn)))))))) x (some (.inr (2, [.ref a1, .ref a2, .int v1, .int v2, .int v3, .ref h, .ref cs, .ref cr]))), rfl, rfl, by rw [ht]; exact hW, va_K.moved hw.alike hK⟩, hS.F ht⟩) hS.2.2 dX2_cover_20
set_option maxHeartbeats 4000000 in
set_option maxRecDepth 100000 in
theorem c_X2_coverS {x a1 a2 cs cr : Nat} {v1 v2 v3 : Int32} {cv : Value} (hx0 : M x = some (.inr (2, [.ref a1, .ref a2, .int v1, .int v2, .int v3, cv, .ref cs, .ref cr]))) {h : Nat} {k : Int32} {pn na ca : Nat} {lb : Int32} {f : Nat → Int64} {g : Nat → Option Nat} {csn csc : Nat} {fS : Nat → Int64} {g0 : Nat → Option Nat} (hH : hOk M cJ cC h k pn na ca lb f g) (hk : kStrip k = true) (hB : hOk M cJ cC cs 3 80 csn csc 0 fS g0) : Met l yX2_cover wsX2_cover rmX2_cover (va_Pc [.ref x, .ref h] (mwPre D (tyL cI cJ cC cH) M sz)) (va_Qv (fun M' => M' = va_up (va_up M csn (some (.inl (cJ, 80, .inr (.inl (va_cpy f fS 0 0 pn)))))) x (some (.inr (2, [.ref a1, .ref a2, .int v1, .int v2, .int v3, .ref h, .ref cs, .ref cr])))) (mwB D (tyL cI cJ cC cH) M sz) (mwA M sz)) 0 0 (mwA M sz) := by
  refine Met.ofW (cc := cX2_cover) (maxL := 2) (ret := none) (by decide) rfl ?_
  intro pr env s m args below meth c s₁ B hml hv
  obtain ⟨rfl, hsz, hW, hK, hO⟩ := hv
  subst hsz
  have hW := hW.self (sz := s.heap.size)
  have hS : va_S (mwA M s.heap.size) s.heap s.heap [] := va_S.rf
  have hA : ∀ q, s.heap.size ≤ q → mwA M s.heap.size q := fun q h => Or.inr h
  have hx := B.exec
  have hb := B.bytes
  have hr := B.returns
  have hts := atoms_spec (ws := wsX2_cover) B.pre
  have hown : s.vm.findClass RX2 = some m.cls := findClass_of_methodNamed B.named
  have hlocks := B.notSynchronized
  have F : CallFix pr m c cX2_cover 2 s ([.ref x, .ref h] : List Value).toArray wsX2_cover RX2 := ⟨hx, hb, hml, hown, hts⟩
  have hI_X1 : ∀ w ∈ wsX10, w ∈ wsX2_cover := by decide +kernel
  have hI_X2 : ∀ w ∈ wsX20, w ∈ wsX2_cover := by decide +kernel
  have hl_fieldLink_RX2_104_SpliceBench_Holding_places_I := hts (.fieldLink RX2 104 "SpliceBench$Holding" "places" "I") (by decide +kernel)
  have hl_fieldLink_RX2_29_SpliceBench_covered_LSpliceBench_Holding := hts (.fieldLink RX2 29 "SpliceBench" "covered" "LSpliceBench$Holding;") (by decide +kernel)
  have hp8 := hH.2.1
  have hl := lv_entry ([.ref x, .ref h]) (n := 2) (Nat.le_of_ble_eq_true rfl)
  rw [lg_entry_eq]
  generalize (lg_sl ([.ref x, .ref h]) ++ List.replicate (2 - (lg_sl ([.ref x, .ref h])).length) Slot.unset).toArray = ls at hl ⊢
  have hl : lv_has ls 2 [(0, .ref x), (1, .ref h)] := hl
  refine lv_aload_n hx hb dX2_cover_0 rfl (lv_at hl 0 rfl) ?_
  refine lv_aload_n hx hb dX2_cover_1 rfl (lv_at hl 1 rfl) ?_
  refine va_csq (W.runV (As := [.ref h]) (rest := []) F (c_X2_rowBehind hx0 hH.1) (cwV 1 hts gX2_cover_X2_rowBehind rfl rfl rfl (by decide +kernel) ⟨Nat.le_of_ble_eq_true rfl, Nat.le_of_ble_eq_true rfl⟩) (mw_prV (q := (RX2, TX2, 8)) hK hO hW rfl hx0) rfl rfl hl.1 rfl (lv_room (Nat.le_of_ble_eq_true rfl)) dX2_cover_2 ⟨Nat.zero_le _, Nat.zero_le _⟩) (fun r er => ?_)
  subst er
  rw [if_neg (by rw [kSR hk]; decide)]
  refine W.eq (g2 := F0 m 5 ls [.ref cs]) rfl ?_
  refine lv_aload_n hx hb dX2_cover_5 rfl (lv_at hl 1 rfl) ?_
  refine lv_iconst (v := 0) hx hb dX2_cover_6 (by decide) ?_
  refine lv_iconst (v := 0) hx hb dX2_cover_7 (by decide) ?_
  refine lv_aload_n hx hb dX2_cover_8 rfl (lv_at hl 1 rfl) ?_
  refine mw_get (C := RX1) (T := TX1) (N := 5) F hK hW hI_X1 hH.1 rfl 1 (by decide) hl_fieldLink_RX2_104_SpliceBench_Holding_places_I rfl dX2_cover_9 ?_
  refine mw_callv (va_runV (As := [.ref h, .int 0, .int 0, .int (nI pn)]) (rest := []) F (c_X1_copyFromS (i := 0) (j := 0) (n := pn) hB hH rfl hk (by omega) (by omega)) (cwV 4 hts gX2_cover_X1_copyFrom rfl rfl rfl (by decide +kernel) ⟨Nat.le_of_ble_eq_true rfl, Nat.le_of_ble_eq_true rfl⟩) (mw_prV (q := (RX1, TX1, 5)) hK hO hW rfl hB.1) rfl rfl hl.1 rfl (lv_room (Nat.le_of_ble_eq_true rfl)) dX2_cover_12 ⟨Nat.zero_le _, Nat.zero_le _⟩) hW hS hA (fun M1 H locs eM hW hS => ?_)
  subst eM
  have hx1 : (va_up M csn (some (.inl (cJ, 80, .inr (.inl (va_cpy f fS 0 0 pn)))))) x = _ := (va_up_ne _ _ (mw_neq hx0 (hB.nms rfl) (fun z => by cases z))).trans hx0
  refine lv_aload_n hx hb dX2_cover_15 rfl (lv_at hl 0 rfl) ?_
  refine lv_aload_n hx hb dX2_cover_16 rfl (lv_at hl 1 rfl) ?_
  refine mw_put (C := RX2) (T := TX2) (N := 8) (v := .ref h) F hK hW hS hI_X2 tyX2 tyX2_ok nmX2 hx1 rfl 5 (by decide) hl_fieldLink_RX2_29_SpliceBench_covered_LSpliceBench_Holding rfl rfl rfl (Nat.le_of_ble_eq_true rfl) dX2_cover_17 (fun H locs hW hS => ?_)
  have hW : mw D (mwA M s.heap.size) (va_up (va_up M csn (some (.inl (cJ, 80, .inr (.inl (va_cpy f fS 0 0 pn)))))) x (some (.inr (2, [.ref a1, .ref a2, .int v1, .int v2, .int v3, .ref h, .ref cs, .ref cr])))) H := hW
  have hc_17 : (va_up (va_up M csn (some (.inl (cJ, 80, .inr (.inl (va_cpy f fS 0 0 pn)))))) x (some (.inr (2, [.ref a1, .ref a2, .int v1, .int v2, .int v3, .ref h, .ref cs, .ref cr])))) x = some (.inr (2, [.ref a1, .ref a2, .int v1, .int v2, .int v3, .ref h, .ref cs, .ref cr])) := va_up_self _ _ _
  exact W.vret hx hb hr (fun t ht hw => ⟨⟨va_up (va_up M csn (some (.inl (cJ, 80, .inr (.inl (va_cpy f fS 0 0 pn)))))) x (some (.inr (2, [.ref a1, .ref a2, .int v1, .int v2, .int v3, .ref h, .ref cs, .ref cr]))), rfl, rfl, by rw [ht]; exact hW, va_K.moved hw.alike hK⟩, hS.F ht⟩) hS.2.2 dX2_cover_20
end X2B
