section X2S
variable {l : Launch} {D : va_G} {cI cJ cC cH : ClassId} {M : Nat → Option va_E} {sz : Nat}
theorem mv0 {σ : RS} {js jt : Nat} {i j n : Int32} (h : mvF σ js jt i j n = 0) : ¬ kOf σ js = 0 ∧ ¬ kOf σ jt = 0 ∧ ¬ kOf σ js = 1 ∧ ¬ kOf σ jt = 1 ∧ (¬ kOf σ js = kOf σ jt → ¬ kOf σ js < 4 ∧ ¬ kOf σ jt < 4) ∧ beyB i n (szOf σ js) = false ∧ beyB j n (szOf σ jt) = false := by
  unfold mvF at h
  by_cases h0 : kOf σ js = 0 ∨ kOf σ jt = 0
  · rw [if_pos h0] at h; cases h
  · rw [if_neg h0] at h
    by_cases h1 : kOf σ js = 1 ∨ kOf σ jt = 1 ∨ (¬ kOf σ js = kOf σ jt ∧ (kOf σ js < 4 ∨ kOf σ jt < 4))
    · rw [if_pos h1] at h; cases h
    · rw [if_neg h1] at h
      by_cases h2 : beyB i n (szOf σ js) = true ∨ beyB j n (szOf σ jt) = true
      · rw [if_pos h2] at h; cases h
      · refine ⟨fun z => h0 (Or.inl z), fun z => h0 (Or.inr z), fun z => h1 (Or.inl z), fun z => h1 (Or.inr (Or.inl z)), fun z => ⟨fun w => h1 (Or.inr (Or.inr ⟨z, Or.inl w⟩)), fun w => h1 (Or.inr (Or.inr ⟨z, Or.inr w⟩))⟩, ?_, ?_⟩
        · cases hq : beyB i n (szOf σ js) with
          | false => rfl
          | true => exact absurd (Or.inl hq) h2
        · cases hq : beyB j n (szOf σ jt) with
          | false => rfl
          | true => exact absurd (Or.inr hq) h2
def evR (σ : RS) (k w : Nat) : Bool := !(kRack (sKi σ k) && plainV σ (sPl σ (80 * k + w)))
theorem Sim.adm {cI cJ cC cH : ClassId} {x : Nat} {θ : TH} {σ : RS} {M : Nat → Option va_E} {cc : Nat} (hZ : Sim cI cJ cC cH x θ σ M) (hI : Inv σ cc) {j k n w : Nat} {g : Nat → Option Nat} (hj : j < 10) (hk : k < 12) (e9 : sHo σ j = nI (k + 1)) (en : sSi σ k = nI n) (hn : n ≤ 80) (hg : kRack (sKi σ k) = true → ∀ i, i < n → g i = cdR (tCa θ) (sPl σ (80 * k + i))) (hw : w < n) : (cdAt (sKi σ k) n g (nI w) = none → evR σ k w = true) ∧ ∀ c, cdAt (sKi σ k) n g (nI w) = some c → ∃ num sh, M c = some (.inr (0, [.long num, .int (bI (evR σ k w)), .int sh])) := by
  by_cases hr : kRack (sKi σ k) = true
  · rw [cdAt_rack hr hn hw, hg hr w hw]
    obtain ⟨b, hb, eb, h3⟩ := hI.okv hj hk e9 hr hn en hw
    have h512 := hI.1
    rcases h3 with h0 | ⟨c, hc, h4, -⟩
    · rw [h0, cdR_0]
      refine ⟨fun _ => ?_, fun c z => (by cases z)⟩
      unfold evR plainV
      rw [h0]; simp
    · have hn0 : ¬ sPl σ (80 * k + w) = 0 := by rw [h4]; exact lN_n0 (by omega)
      have ec : cIx (sPl σ (80 * k + w)) = c := by rw [h4]; exact cIx_lN (by omega)
      rw [cdR_n hn0, ec]
      refine ⟨fun z => (by cases z), fun y z => ?_⟩
      cases z
      obtain ⟨b2, e2, hb2, h5, -⟩ := hZ.2.2.2.2.2.1
      have : b2 = b := (nI_eq (by omega) (by omega)).mp (e2.symm.trans eb)
      refine ⟨sCn σ c, sCs σ c, ?_⟩
      rw [h5 c (by omega)]
      have e7 : evR σ k w = evn (sCn σ c) := by
        unfold evR plainV
        rw [hr, ec, evn_plain, decide_eq_false hn0]
        simp
      rw [e7]
  · rw [cdAt_none (fun z => hr z.1)]
    refine ⟨fun _ => ?_, fun c z => (by cases z)⟩
    unfold evR
    cases hq : kRack (sKi σ k) with
    | false => rfl
    | true => exact absurd hq hr
theorem Sim.covCase {cI cJ cC cH : ClassId} {x : Nat} {θ : TH} {σ : RS} {M : Nat → Option va_E} {cc : Nat} (hZ : Sim cI cJ cC cH x θ σ M) (hI : Inv σ cc) : (sCov σ = -1 ∧ tCv θ = none) ∨ (∃ k n, k < 12 ∧ sCov σ = nI k ∧ tCv θ = some (tRa θ k) ∧ sSi σ k = nI n ∧ n ≤ 80 ∧ kStrip (sKi σ k) = true ∧ (∀ i, i < n → tFs θ i = sWa σ i)) ∨ (∃ k n, k < 12 ∧ sCov σ = nI k ∧ tCv θ = some (tRa θ k) ∧ sSi σ k = nI n ∧ n ≤ 80 ∧ kRack (sKi σ k) = true ∧ (∀ i, i < n → tGs θ i = cdR (tCa θ) (sWa σ i))) := by
  rcases hZ.2.2.2.2.2.2 with h | ⟨k, n, hk, hc, hcv, en, hn, h1, h2⟩
  · exact Or.inl h
  · rcases hI.kd hk (Or.inl hc) with h3 | h3
    · exact Or.inr (Or.inl ⟨k, n, hk, hc, hcv, en, hn, h3, h1 h3⟩)
    · exact Or.inr (Or.inr ⟨k, n, hk, hc, hcv, en, hn, h3, h2 h3⟩)
abbrev rmX2_back : Room := ({ frames := 2, cells := 0, slots := 0, locals := 104 } : Room)
set_option maxHeartbeats 4000000 in
set_option maxRecDepth 100000 in
theorem c_X2_back {x : Nat} {θ : TH} {σ : RS} {cc : Nat} (hZ : Sim cI cJ cC cH x θ σ M) (hI : Inv σ cc) : Met l yX2_back wsX2_back rmX2_back (va_Pc [.ref x] (mwPre D (tyL cI cJ cC cH) M sz)) (va_Qi (fun r M' => r = (rfBack σ).1 ∧ ∃ θ', Sim cI cJ cC cH x θ' (rfBack σ).2 M') (mwB D (tyL cI cJ cC cH) M sz) (mwA M sz)) 0 0 (mwA M sz) := by
  refine Met.ofW (cc := cX2_back) (maxL := 1) (ret := (some .int)) (by decide) rfl ?_
  intro pr env s m args below meth c s₁ B hml hv
  obtain ⟨rfl, hsz, hW, hK, hO⟩ := hv
  subst hsz
  have hW := hW.self (sz := s.heap.size)
  have hS : va_S (mwA M s.heap.size) s.heap s.heap [] := va_S.rf
  have hA : ∀ q, s.heap.size ≤ q → mwA M s.heap.size q := fun q h => Or.inr h
  have hx := B.exec
  have hb := B.bytes
  have hr := B.returns
  have hts := atoms_spec (ws := wsX2_back) B.pre
  have hown : s.vm.findClass RX2 = some m.cls := findClass_of_methodNamed B.named
  have hlocks := B.notSynchronized
  have F : CallFix pr m c cX2_back 1 s ([.ref x] : List Value).toArray wsX2_back RX2 := ⟨hx, hb, hml, hown, hts⟩
  have hI_X1 : ∀ w ∈ wsX10, w ∈ wsX2_back := by decide +kernel
  have hI_X2 : ∀ w ∈ wsX20, w ∈ wsX2_back := by decide +kernel
  have hl_fieldLink_RX2_29_SpliceBench_covered_LSpliceBench_Holding := hts (.fieldLink RX2 29 "SpliceBench" "covered" "LSpliceBench$Holding;") (by decide +kernel)
  have hl_fieldLink_RX2_104_SpliceBench_Holding_places_I := hts (.fieldLink RX2 104 "SpliceBench$Holding" "places" "I") (by decide +kernel)
  have hne := kCH hK
  have hl := lv_entry ([.ref x]) (n := 1) (Nat.le_of_ble_eq_true rfl)
  rw [lg_entry_eq]
  generalize (lg_sl ([.ref x]) ++ List.replicate (1 - (lg_sl ([.ref x])).length) Slot.unset).toArray = ls at hl ⊢
  have hl : lv_has ls 1 [(0, .ref x)] := hl
  rcases (show (sCov σ = -1 ∧ tCv θ = none) ∨ (∃ k n, k < 12 ∧ sCov σ = nI k ∧ tCv θ = some (tRa θ k) ∧ sSi σ k = nI n ∧ n ≤ 80 ∧ kStrip (sKi σ k) = true ∧ (∀ i, i < n → tFs θ i = sWa σ i)) ∨ (∃ k n, k < 12 ∧ sCov σ = nI k ∧ tCv θ = some (tRa θ k) ∧ sSi σ k = nI n ∧ n ≤ 80 ∧ kRack (sKi σ k) = true ∧ (∀ i, i < n → tGs θ i = cdR (tCa θ) (sWa σ i))) from hZ.covCase hI) with ⟨hc, hcv⟩ | ⟨k, n, hk, hc, hcv, en, hn, hkk, hsv⟩ | ⟨k, n, hk, hc, hcv, en, hn, hkk, hsv⟩
  · have hx0 := hZ.b.1
    rw [hcv] at hx0
    refine lv_aload_n hx hb dX2_back_0 rfl (lv_at hl 0 rfl) ?_
    refine mw_get (C := RX2) (T := TX2) (N := 8) F hK hW hI_X2 hx0 rfl 5 (by decide) hl_fieldLink_RX2_29_SpliceBench_covered_LSpliceBench_Holding rfl dX2_back_1 ?_
    refine lv_ifnonnullN hx hb dX2_back_4 ?_
    refine lv_iconst (v := 0) hx hb dX2_back_7 (by decide) ?_
    exact W.iret hx hb hr (fun t ht hw => ⟨⟨_, _, rfl, (by
      have e8 : rfBack σ = (0, σ) := if_pos hc
      rw [e8]; exact ⟨rfl, θ, hZ⟩), by rw [ht]; exact hW, va_K.moved hw.alike hK⟩, hS.F ht⟩) hS.2.2 dX2_back_8
  · have hlv : liveR σ k := Or.inl hc
    obtain ⟨f, g, hH, hfs, hgs⟩ := hZ.rowAt hk hlv en hn
    have hx0 := hZ.b.1
    rw [hcv] at hx0
    obtain ⟨csc, g0, hB⟩ := hZ.b.2.2.2.2.2.1
    refine lv_aload_n hx hb dX2_back_0 rfl (lv_at hl 0 rfl) ?_
    refine mw_get (C := RX2) (T := TX2) (N := 8) F hK hW hI_X2 hx0 rfl 5 (by decide) hl_fieldLink_RX2_29_SpliceBench_covered_LSpliceBench_Holding rfl dX2_back_1 ?_
    refine lv_ifnonnull (tgt := 9) hx hb dX2_back_4 (by decide) ?_
    refine lv_aload_n hx hb dX2_back_9 rfl (lv_at hl 0 rfl) ?_
    refine mw_get (C := RX2) (T := TX2) (N := 8) F hK hW hI_X2 hx0 rfl 5 (by decide) hl_fieldLink_RX2_29_SpliceBench_covered_LSpliceBench_Holding rfl dX2_back_10 ?_
    refine lv_aload_n hx hb dX2_back_13 rfl (lv_at hl 0 rfl) ?_
    refine lv_aload_n hx hb dX2_back_14 rfl (lv_at hl 0 rfl) ?_
    refine mw_get (C := RX2) (T := TX2) (N := 8) F hK hW hI_X2 hx0 rfl 5 (by decide) hl_fieldLink_RX2_29_SpliceBench_covered_LSpliceBench_Holding rfl dX2_back_15 ?_
    refine va_csq (W.runV (As := [.ref (tRa θ k)]) (rest := [.ref (tRa θ k)]) F (c_X2_rowBehind hx0 hH.1) (cwV 1 hts gX2_back_X2_rowBehind rfl rfl rfl (by decide +kernel) ⟨Nat.le_of_ble_eq_true rfl, Nat.le_of_ble_eq_true rfl⟩) (mw_prV (q := (RX2, TX2, 8)) hK hO hW rfl hx0) rfl rfl hl.1 rfl (lv_room (Nat.le_of_ble_eq_true rfl)) dX2_back_18 ⟨Nat.zero_le _, Nat.zero_le _⟩) (fun r er => ?_)
    subst er
    rw [if_neg (by rw [kSR hkk]; decide)]
    refine W.eq (g2 := F0 m 21 ls [.ref (tSt θ), .ref (tRa θ k)]) rfl ?_
    refine lv_iconst (v := 0) hx hb dX2_back_21 (by decide) ?_
    refine lv_iconst (v := 0) hx hb dX2_back_22 (by decide) ?_
    refine lv_aload_n hx hb dX2_back_23 rfl (lv_at hl 0 rfl) ?_
    refine mw_get (C := RX2) (T := TX2) (N := 8) F hK hW hI_X2 hx0 rfl 5 (by decide) hl_fieldLink_RX2_29_SpliceBench_covered_LSpliceBench_Holding rfl dX2_back_24 ?_
    refine mw_get (C := RX1) (T := TX1) (N := 5) F hK hW hI_X1 hH.1 rfl 1 (by decide) hl_fieldLink_RX2_104_SpliceBench_Holding_places_I rfl dX2_back_27 ?_
    refine mw_callv (va_runV (As := [.ref (tSt θ), .int 0, .int 0, .int (nI n)]) (rest := []) F (c_X1_copyFromS (i := 0) (j := 0) (n := n) hH hB hkk rfl (by omega) (by omega)) (cwV 4 hts gX2_back_X1_copyFrom rfl rfl rfl (by decide +kernel) ⟨Nat.le_of_ble_eq_true rfl, Nat.le_of_ble_eq_true rfl⟩) (mw_prV (q := (RX1, TX1, 5)) hK hO hW rfl hH.1) rfl rfl hl.1 rfl (lv_room (Nat.le_of_ble_eq_true rfl)) dX2_back_30 ⟨Nat.zero_le _, Nat.zero_le _⟩) hW hS hA (fun M1 H locs eM hW hS => ?_)
    have hZ1 := hZ.backN (f := f) hk hlv hkk en hn hsv
    rw [← eM] at hZ1
    have hx1 := hZ1.b.1
    rw [hcv] at hx1
    refine lv_aload_n hx hb dX2_back_33 rfl (lv_at hl 0 rfl) ?_
    refine lv_null hx hb dX2_back_34 ?_
    refine mw_put (C := RX2) (T := TX2) (N := 8) (v := .null) F hK hW hS hI_X2 tyX2 tyX2_ok nmX2 hx1 rfl 5 (by decide) hl_fieldLink_RX2_29_SpliceBench_covered_LSpliceBench_Holding rfl rfl rfl (Nat.le_of_ble_eq_true rfl) dX2_back_35 (fun H locs hW hS => ?_)
    refine lv_iconst (v := 1) hx hb dX2_back_38 (by decide) ?_
    exact W.iret hx hb hr (fun t ht hw => ⟨⟨_, _, rfl, (by
      have e8 : rfBack σ = (1, wCov (wPl σ (va_cpy (sWa σ) (sPl σ) 0 (80 * k) n)) (-1)) := by
        unfold rfBack
        rw [if_neg (by rw [hc]; exact nI_nm1 k hk), hc]
        simp only [nI_clamp (show k < 2 ^ 31 by omega), ix, en, nI_clamp (show n < 2 ^ 31 by omega)]
      rw [e8]; exact ⟨rfl, _, hZ1.uncover⟩), by rw [ht]; exact hW, va_K.moved hw.alike hK⟩, hS.F ht⟩) hS.2.2 dX2_back_39
  · have hlv : liveR σ k := Or.inl hc
    obtain ⟨f, g, hH, hfs, hgs⟩ := hZ.rowAt hk hlv en hn
    have hx0 := hZ.b.1
    rw [hcv] at hx0
    obtain ⟨crn, f0, hB⟩ := hZ.b.2.2.2.2.2.2
    refine lv_aload_n hx hb dX2_back_0 rfl (lv_at hl 0 rfl) ?_
    refine mw_get (C := RX2) (T := TX2) (N := 8) F hK hW hI_X2 hx0 rfl 5 (by decide) hl_fieldLink_RX2_29_SpliceBench_covered_LSpliceBench_Holding rfl dX2_back_1 ?_
    refine lv_ifnonnull (tgt := 9) hx hb dX2_back_4 (by decide) ?_
    refine lv_aload_n hx hb dX2_back_9 rfl (lv_at hl 0 rfl) ?_
    refine mw_get (C := RX2) (T := TX2) (N := 8) F hK hW hI_X2 hx0 rfl 5 (by decide) hl_fieldLink_RX2_29_SpliceBench_covered_LSpliceBench_Holding rfl dX2_back_10 ?_
    refine lv_aload_n hx hb dX2_back_13 rfl (lv_at hl 0 rfl) ?_
    refine lv_aload_n hx hb dX2_back_14 rfl (lv_at hl 0 rfl) ?_
    refine mw_get (C := RX2) (T := TX2) (N := 8) F hK hW hI_X2 hx0 rfl 5 (by decide) hl_fieldLink_RX2_29_SpliceBench_covered_LSpliceBench_Holding rfl dX2_back_15 ?_
    refine va_csq (W.runV (As := [.ref (tRa θ k)]) (rest := [.ref (tRa θ k)]) F (c_X2_rowBehind hx0 hH.1) (cwV 1 hts gX2_back_X2_rowBehind rfl rfl rfl (by decide +kernel) ⟨Nat.le_of_ble_eq_true rfl, Nat.le_of_ble_eq_true rfl⟩) (mw_prV (q := (RX2, TX2, 8)) hK hO hW rfl hx0) rfl rfl hl.1 rfl (lv_room (Nat.le_of_ble_eq_true rfl)) dX2_back_18 ⟨Nat.zero_le _, Nat.zero_le _⟩) (fun r er => ?_)
    subst er
    rw [if_pos hkk]
    refine W.eq (g2 := F0 m 21 ls [.ref (tRk θ), .ref (tRa θ k)]) rfl ?_
    refine lv_iconst (v := 0) hx hb dX2_back_21 (by decide) ?_
    refine lv_iconst (v := 0) hx hb dX2_back_22 (by decide) ?_
    refine lv_aload_n hx hb dX2_back_23 rfl (lv_at hl 0 rfl) ?_
    refine mw_get (C := RX2) (T := TX2) (N := 8) F hK hW hI_X2 hx0 rfl 5 (by decide) hl_fieldLink_RX2_29_SpliceBench_covered_LSpliceBench_Holding rfl dX2_back_24 ?_
    refine mw_get (C := RX1) (T := TX1) (N := 5) F hK hW hI_X1 hH.1 rfl 1 (by decide) hl_fieldLink_RX2_104_SpliceBench_Holding_places_I rfl dX2_back_27 ?_
    obtain ⟨b, hb9, eb, -, hwa⟩ := hI.2.2.2.2.2.2
    have h512 := hI.1
    refine mw_callv (va_runV (As := [.ref (tRk θ), .int 0, .int 0, .int (nI n)]) (rest := []) F (c_X1_copyFrom (i := 0) (j := 0) (n := n) hH hB hkk rfl (by omega) (by omega) (fun w hw9 y hy9 => hZ.cel eb (by omega) (v := sWa σ w) ((hwa k hk hc hkk w n en hn hw9).imp id (fun ⟨c, a1, a2, _⟩ => ⟨c, a1, a2⟩)) (by rw [← hsv w hw9]; rw [Nat.zero_add] at hy9; exact hy9))) (cwV 4 hts gX2_back_X1_copyFrom rfl rfl rfl (by decide +kernel) ⟨Nat.le_of_ble_eq_true rfl, Nat.le_of_ble_eq_true rfl⟩) (mw_prV (q := (RX1, TX1, 5)) hK hO hW rfl hH.1) rfl rfl hl.1 rfl (lv_room (Nat.le_of_ble_eq_true rfl)) dX2_back_30 ⟨Nat.zero_le _, Nat.zero_le _⟩) hW hS hA (fun M1 H locs eM hW hS => ?_)
    have hZ1 := hZ.backC hne (g := g) hk hlv hkk en hn hsv
    rw [← eM] at hZ1
    have hx1 := hZ1.b.1
    rw [hcv] at hx1
    refine lv_aload_n hx hb dX2_back_33 rfl (lv_at hl 0 rfl) ?_
    refine lv_null hx hb dX2_back_34 ?_
    refine mw_put (C := RX2) (T := TX2) (N := 8) (v := .null) F hK hW hS hI_X2 tyX2 tyX2_ok nmX2 hx1 rfl 5 (by decide) hl_fieldLink_RX2_29_SpliceBench_covered_LSpliceBench_Holding rfl rfl rfl (Nat.le_of_ble_eq_true rfl) dX2_back_35 (fun H locs hW hS => ?_)
    refine lv_iconst (v := 1) hx hb dX2_back_38 (by decide) ?_
    exact W.iret hx hb hr (fun t ht hw => ⟨⟨_, _, rfl, (by
      have e8 : rfBack σ = (1, wCov (wPl σ (va_cpy (sWa σ) (sPl σ) 0 (80 * k) n)) (-1)) := by
        unfold rfBack
        rw [if_neg (by rw [hc]; exact nI_nm1 k hk), hc]
        simp only [nI_clamp (show k < 2 ^ 31 by omega), ix, en, nI_clamp (show n < 2 ^ 31 by omega)]
      rw [e8]; exact ⟨rfl, _, hZ1.uncover⟩), by rw [ht]; exact hW, va_K.moved hw.alike hK⟩, hS.F ht⟩) hS.2.2 dX2_back_39
abbrev rmX2_shift : Room := ({ frames := 3, cells := 0, slots := 0, locals := 125 } : Room)
set_option maxHeartbeats 4000000 in
set_option maxRecDepth 100000 in
theorem c_X2_shift {x : Nat} {θ : TH} {σ : RS} {cc : Nat} (hZ : Sim cI cJ cC cH x θ σ M) (hI : Inv σ cc) {s0 i0 n0 : Int32} {up : Bool} : Met l yX2_shift wsX2_shift rmX2_shift (va_Pc [.ref x, .int s0, .int i0, .int n0, .int (bI up)] (mwPre D (tyL cI cJ cC cH) M sz)) (va_Qi (fun r M' => r = (rfShift σ s0 i0 n0 up).1 ∧ ∃ θ', Sim cI cJ cC cH x θ' (rfShift σ s0 i0 n0 up).2 M') (mwB D (tyL cI cJ cC cH) M sz) (mwA M sz)) 0 0 (mwA M sz) := by
  refine Met.ofW (cc := cX2_shift) (maxL := 8) (ret := (some .int)) (by decide) rfl ?_
  intro pr env s m args below meth c s₁ B hml hv
  obtain ⟨rfl, hsz, hW, hK, hO⟩ := hv
  subst hsz
  have hW := hW.self (sz := s.heap.size)
  have hS : va_S (mwA M s.heap.size) s.heap s.heap [] := va_S.rf
  have hA : ∀ q, s.heap.size ≤ q → mwA M s.heap.size q := fun q h => Or.inr h
  have hx := B.exec
  have hb := B.bytes
  have hr := B.returns
  have hts := atoms_spec (ws := wsX2_shift) B.pre
  have hown : s.vm.findClass RX2 = some m.cls := findClass_of_methodNamed B.named
  have hlocks := B.notSynchronized
  have F : CallFix pr m c cX2_shift 8 s ([.ref x, .int s0, .int i0, .int n0, .int (bI up)] : List Value).toArray wsX2_shift RX2 := ⟨hx, hb, hml, hown, hts⟩
  have hI_X1 : ∀ w ∈ wsX10, w ∈ wsX2_shift := by decide +kernel
  have hI_X2 : ∀ w ∈ wsX20, w ∈ wsX2_shift := by decide +kernel
  have hl_fieldLink_RX2_11_SpliceBench_spindles_LSpliceBench_Holding := hts (.fieldLink RX2 11 "SpliceBench" "spindles" "[LSpliceBench$Holding;") (by decide +kernel)
  have hl_fieldLink_RX2_104_SpliceBench_Holding_places_I := hts (.fieldLink RX2 104 "SpliceBench$Holding" "places" "I") (by decide +kernel)
  have hne := kCH hK
  have hl := lv_entry ([.ref x, .int s0, .int i0, .int n0, .int (bI up)]) (n := 8) (Nat.le_of_ble_eq_true rfl)
  rw [lg_entry_eq]
  generalize (lg_sl ([.ref x, .int s0, .int i0, .int n0, .int (bI up)]) ++ List.replicate (8 - (lg_sl ([.ref x, .int s0, .int i0, .int n0, .int (bI up)])).length) Slot.unset).toArray = ls at hl ⊢
  have hl : lv_has ls 8 [(0, .ref x), (1, .int s0), (2, .int i0), (3, .int n0), (4, .int (bI up))] := hl
  refine lv_iload_n hx hb dX2_shift_0 rfl (lv_at hl 1 rfl) ?_
  refine vp_callSi (W.runS (As := [.int s0]) (rest := []) F (c_X2_isSpindle) (cwS 1 hts gX2_shift_X2_isSpindle rfl rfl rfl (by decide +kernel) ⟨Nat.le_of_ble_eq_true rfl, Nat.le_of_ble_eq_true rfl⟩) (mw_prS hK hO hW) rfl rfl hl.1 rfl (lv_room (Nat.le_of_ble_eq_true rfl)) dX2_shift_1 ⟨Nat.zero_le _, Nat.zero_le _⟩) (fun r_1 er_1 => ?_)
  subst er_1
  refine lv_if_ne (tgt := 10) hx hb dX2_shift_4 (by decide) (fun c_4 => ?_) (fun c_4 => ?_)
  · obtain ⟨j, hj, rfl⟩ := isSp_of (bI_n c_4)
    have esp_j := isSp_nI hj
    have eix_j : ix (nI j) = j := nI_clamp (by omega)
    refine lv_aload_n hx hb dX2_shift_10 rfl (lv_at hl 0 rfl) ?_
    refine mw_get (C := RX2) (T := TX2) (N := 8) F hK hW hI_X2 hZ.b.1 rfl 0 (by decide) hl_fieldLink_RX2_11_SpliceBench_spindles_LSpliceBench_Holding rfl dX2_shift_11 ?_
    refine lv_iload_n hx hb dX2_shift_14 rfl (lv_at hl 1 rfl) ?_
    refine mw_aald F hK hW 3 hZ.b.2.1 rfl (vp_in_nI (show j < 10 by omega) (by omega)) dX2_shift_15 ?_
    rw [nI_clamp (show j < 2 ^ 31 by omega)]
    refine W.eq (g2 := F0 m 16 ls [.ref (tSp θ j)]) rfl ?_
    obtain ⟨pn, na, ca, lb, f, g, hH, ez, hfs, hgs, hlb⟩ := hZ.hold hI hj
    have hp8 := hH.2.1
    refine lv_astore (lv' := [(5, .ref (tSp θ j)), (0, .ref x), (1, .int (nI j)), (2, .int i0), (3, .int n0), (4, .int (bI up))]) hx hb dX2_shift_16 hl (by decide) rfl (fun ls hl => ?_)
    refine lv_aload hx hb dX2_shift_18 (lv_at hl 0 rfl) ?_
    refine lv_iload_n hx hb dX2_shift_20 rfl (lv_at hl 3 rfl) ?_
    refine lv_aload hx hb dX2_shift_21 (lv_at hl 0 rfl) ?_
    refine lv_iload_n hx hb dX2_shift_23 rfl (lv_at hl 3 rfl) ?_
    refine lv_iload_n hx hb dX2_shift_24 rfl (lv_at hl 4 rfl) ?_
    refine vp_callSi (W.runS (As := [.ref (tSp θ j), .int i0, .ref (tSp θ j), .int i0, .int n0]) (rest := []) F (c_X2_motionFailure (i := i0) (j := i0) (n := n0) hH hH) (cwS 5 hts gX2_shift_X2_motionFailure rfl rfl rfl (by decide +kernel) ⟨Nat.le_of_ble_eq_true rfl, Nat.le_of_ble_eq_true rfl⟩) (mw_prS hK hO hW) rfl rfl hl.1 rfl (lv_room (Nat.le_of_ble_eq_true rfl)) dX2_shift_25 ⟨Nat.zero_le _, Nat.zero_le _⟩) (fun r_2 er_2 => ?_)
    subst er_2
    rw [sh_eq hI hj ez hp8]
    refine lv_istore (lv' := [(6, .int (hindI σ j i0 n0)), (5, .ref (tSp θ j)), (0, .ref x), (1, .int (nI j)), (2, .int i0), (3, .int n0), (4, .int (bI up))]) hx hb dX2_shift_28 hl (by decide) rfl (fun ls hl => ?_)
    refine lv_iload hx hb dX2_shift_30 (lv_at hl 0 rfl) ?_
    refine lv_if_eq (tgt := 46) hx hb dX2_shift_32 (by decide) (fun c_32 => ?_) (fun c_32 => ?_)
    · obtain ⟨k, e, i, n, hk, e9, he, en, rfl, rfl, hin⟩ := hind0 hI hj c_32
      have eii : ix (nI i) = i := nI_clamp (by omega)
      have ein : ix (nI n) = n := nI_clamp (by omega)
      have hlv : liveR σ k := Inv.live hj e9
      rw [hZ.spRow hj hk e9] at hl
      obtain ⟨fr, gr, hHr, hfr, hgr⟩ := hZ.rowAt hk hlv en he
      obtain ⟨b, hb9, eb, hpl9, -⟩ := hI.2.2.2.2.2.2
      have h512 := hI.1
      refine lv_aload hx hb dX2_shift_46 (lv_at hl 1 rfl) ?_
      refine mw_get (C := RX1) (T := TX1) (N := 5) F hK hW hI_X1 hHr.1 rfl 1 (by decide) hl_fieldLink_RX2_104_SpliceBench_Holding_places_I rfl dX2_shift_48 ?_
      refine lv_iload_n hx hb dX2_shift_51 rfl (lv_at hl 4 rfl) ?_
      refine lv_isub hx hb dX2_shift_52 ?_
      refine lv_iload_n hx hb dX2_shift_53 rfl (lv_at hl 5 rfl) ?_
      refine lv_isub hx hb dX2_shift_54 ?_
      rw [pk_sub (show i ≤ e by omega), pk_sub (show n ≤ e - i by omega)]
      refine lv_istore (lv' := [(7, .int (nI (e - i - n))), (6, .int (hindI σ j (nI i) (nI n))), (5, .ref (tRa θ k)), (0, .ref x), (1, .int (nI j)), (2, .int (nI i)), (3, .int (nI n)), (4, .int (bI up))]) hx hb dX2_shift_55 hl (by decide) rfl (fun ls hl => ?_)
      rcases hI.kd hk hlv with hkk | hkk
      · obtain ⟨csc, g0, hB⟩ := hZ.b.2.2.2.2.2.1
        refine lv_aload_n hx hb dX2_shift_57 rfl (lv_at hl 3 rfl) ?_
        refine lv_aload hx hb dX2_shift_58 (lv_at hl 2 rfl) ?_
        refine mw_callv (va_runV (As := [.ref (tRa θ k)]) (rest := []) F (c_X2_coverS hZ.b.1 hHr hkk hB) (cwV 1 hts gX2_shift_X2_cover rfl rfl rfl (by decide +kernel) ⟨Nat.le_of_ble_eq_true rfl, Nat.le_of_ble_eq_true rfl⟩) (mw_prV (q := (RX2, TX2, 8)) hK hO hW rfl hZ.b.1) rfl rfl hl.1 rfl (lv_room (Nat.le_of_ble_eq_true rfl)) dX2_shift_60 ⟨Nat.zero_le _, Nat.zero_le _⟩) hW hS hA (fun M1 H locs eM hW hS => ?_)
        obtain ⟨θ1, eRa, hZ1⟩ : ∃ z, tRa z = tRa θ ∧ Sim cI cJ cC cH x z (rfCover σ k e) M1 := ⟨uFs (uCv θ (some (tRa θ k))) (va_cpy fr (tFs θ) 0 0 e), rfl, by rw [eM]; exact hZ.coverN hk hj e9 hkk en he (hfr hkk)⟩
        have hlv1 : liveR (rfCover σ k e) k := Or.inl rfl
        obtain ⟨f1, g1, hH1, hf1, hg1⟩ := hZ1.rowAt (n := e) hk hlv1 en he
        rw [eRa] at hH1
        refine lv_iload hx hb dX2_shift_63 (lv_at hl 7 rfl) ?_
        refine lv_if_eq (tgt := 91) hx hb dX2_shift_65 (by decide) (fun c_65 => ?_) (fun c_65 => ?_)
        · have hup := bI_e c_65
          subst hup
          refine lv_aload hx hb dX2_shift_91 (lv_at hl 2 rfl) ?_
          refine lv_aload hx hb dX2_shift_93 (lv_at hl 2 rfl) ?_
          refine lv_iload_n hx hb dX2_shift_95 rfl (lv_at hl 5 rfl) ?_
          refine lv_iload_n hx hb dX2_shift_96 rfl (lv_at hl 6 rfl) ?_
          refine lv_iadd hx hb dX2_shift_97 ?_
          rw [nI_add]
          refine lv_iload_n hx hb dX2_shift_98 rfl (lv_at hl 5 rfl) ?_
          refine lv_iload hx hb dX2_shift_99 (lv_at hl 0 rfl) ?_
          refine mw_callv (va_runV (As := [.ref (tRa θ k), .int (nI (i + n)), .int (nI i), .int (nI (e - i - n))]) (rest := []) F (c_X1_copyFromS (i := i + n) (j := i) (n := e - i - n) hH1 hH1 hkk hkk (by omega) (by omega)) (cwV 4 hts gX2_shift_X1_copyFrom rfl rfl rfl (by decide +kernel) ⟨Nat.le_of_ble_eq_true rfl, Nat.le_of_ble_eq_true rfl⟩) (mw_prV (q := (RX1, TX1, 5)) hK hO hW rfl hH1.1) rfl rfl hl.1 rfl (lv_room (Nat.le_of_ble_eq_true rfl)) dX2_shift_101 ⟨Nat.zero_le _, Nat.zero_le _⟩) hW hS hA (fun M2 H locs eM hW hS => ?_)
          have hZ2 : Sim cI cJ cC cH x θ1 (wPl (rfCover σ k e) (va_cpy (sPl σ) (sPl σ) (80 * k + (i + n)) (80 * k + (i)) (e - i - n))) M2 := by rw [eM]; exact hZ1.copyN (i := i + n) (j := i) (q := e - i - n) hk hk hlv1 hkk en he (by omega) he (by omega) (hf1 hkk) (hf1 hkk)
          have hlv2 : liveR (wPl (rfCover σ k e) (va_cpy (sPl σ) (sPl σ) (80 * k + (i + n)) (80 * k + (i)) (e - i - n))) k := Or.inl rfl
          obtain ⟨f2, g2, hH2, hf2, hg2⟩ := hZ2.rowAt (n := e) hk hlv2 en he
          rw [eRa] at hH2
          refine lv_aload hx hb dX2_shift_104 (lv_at hl 2 rfl) ?_
          refine lv_iload_n hx hb dX2_shift_106 rfl (lv_at hl 5 rfl) ?_
          refine lv_iload hx hb dX2_shift_107 (lv_at hl 0 rfl) ?_
          refine lv_iadd hx hb dX2_shift_109 ?_
          rw [nI_add]
          refine lv_iload_n hx hb dX2_shift_110 rfl (lv_at hl 6 rfl) ?_
          refine mw_callv (va_runV (As := [.int (nI (i + (e - i - n))), .int (nI n)]) (rest := []) F (c_X1_makeBlankS (i := i + (e - i - n)) (n := n) hH2 hkk (by omega)) (cwV 2 hts gX2_shift_X1_makeBlank rfl rfl rfl (by decide +kernel) ⟨Nat.le_of_ble_eq_true rfl, Nat.le_of_ble_eq_true rfl⟩) (mw_prV (q := (RX1, TX1, 5)) hK hO hW rfl hH2.1) rfl rfl hl.1 rfl (lv_room (Nat.le_of_ble_eq_true rfl)) dX2_shift_111 ⟨Nat.zero_le _, Nat.zero_le _⟩) hW hS hA (fun M3 H locs eM hW hS => ?_)
          have hZ3 : Sim cI cJ cC cH x θ1 (wPl (rfCover σ k e) (blk (80 * k + (i + (e - i - n))) (80 * k + (i + (e - i - n)) + n) 0 (va_cpy (sPl σ) (sPl σ) (80 * k + (i + n)) (80 * k + (i)) (e - i - n)))) M3 := by rw [eM]; exact hZ2.blankN (i := i + (e - i - n)) (n := n) hk hlv2 hkk en he (by omega) (hf2 hkk)
          have hZ3 : Sim cI cJ cC cH x θ1 (wPl (rfCover σ k e) (shPl false k i n e (sPl σ))) M3 := by rw [shPl_dn _ hin]; exact hZ3
          refine lv_aload_n hx hb dX2_shift_114 rfl (lv_at hl 3 rfl) ?_
          refine lv_iconst (v := 0) hx hb dX2_shift_115 (by decide) ?_
          refine lv_iload hx hb dX2_shift_116 (lv_at hl 0 rfl) ?_
          refine lv_iconst (v := 1) hx hb dX2_shift_118 (by decide) ?_
          refine mw_calli (va_runV (As := [.int 0, .int (nI (e - i - n)), .int 1]) (rest := []) F (c_X2_end (t5 := 0) (came := nI (e - i - n)) (ans := 1) hZ3.b.1 hZ3.b.2.2.1 (show 0 < 5 by omega)) (cwV 3 hts gX2_shift_X2_end rfl rfl rfl (by decide +kernel) ⟨Nat.le_of_ble_eq_true rfl, Nat.le_of_ble_eq_true rfl⟩) (mw_prV (q := (RX2, TX2, 8)) hK hO hW rfl hZ3.b.1) rfl rfl hl.1 rfl (lv_room (Nat.le_of_ble_eq_true rfl)) dX2_shift_119 ⟨Nat.zero_le _, Nat.zero_le _⟩) hW hS hA (fun r M9 H locs h9 hW hS => ?_)
          obtain ⟨er, eM⟩ := h9
          subst er
          have hZe := hZ3.bump (show 0 < 5 by omega) (nI (e - i - n))
          rw [← eM] at hZe
          exact W.iret hx hb hr (fun t ht hw => ⟨⟨_, _, rfl, (by
            have e8 : rfShift σ (nI j) (nI i) (nI n) false = (1, rfShiftOk σ false k i n e) := by
              unfold rfShift
              rw [if_pos esp_j, eix_j, if_pos (hind_ok hI hj hk e9 he en hin), szOf_row hk e9, en, rIx_row hk e9, eii, ein]
              simp only [ix, nI_clamp (show e < 2 ^ 31 by omega)]
            rw [e8]; exact ⟨rfl, _, hZe⟩), by rw [ht]; exact hW, va_K.moved hw.alike hK⟩, hS.F ht⟩) hS.2.2 dX2_shift_122
        · have hup := bI_n c_65
          subst hup
          refine lv_aload hx hb dX2_shift_68 (lv_at hl 2 rfl) ?_
          refine lv_aload hx hb dX2_shift_70 (lv_at hl 2 rfl) ?_
          refine lv_iload_n hx hb dX2_shift_72 rfl (lv_at hl 5 rfl) ?_
          refine lv_iload_n hx hb dX2_shift_73 rfl (lv_at hl 5 rfl) ?_
          refine lv_iload_n hx hb dX2_shift_74 rfl (lv_at hl 6 rfl) ?_
          refine lv_iadd hx hb dX2_shift_75 ?_
          rw [nI_add]
          refine lv_iload hx hb dX2_shift_76 (lv_at hl 0 rfl) ?_
          refine mw_callv (va_runV (As := [.ref (tRa θ k), .int (nI i), .int (nI (i + n)), .int (nI (e - i - n))]) (rest := []) F (c_X1_copyFromS (i := i) (j := i + n) (n := e - i - n) hH1 hH1 hkk hkk (by omega) (by omega)) (cwV 4 hts gX2_shift_X1_copyFrom rfl rfl rfl (by decide +kernel) ⟨Nat.le_of_ble_eq_true rfl, Nat.le_of_ble_eq_true rfl⟩) (mw_prV (q := (RX1, TX1, 5)) hK hO hW rfl hH1.1) rfl rfl hl.1 rfl (lv_room (Nat.le_of_ble_eq_true rfl)) dX2_shift_78 ⟨Nat.zero_le _, Nat.zero_le _⟩) hW hS hA (fun M2 H locs eM hW hS => ?_)
          have hZ2 : Sim cI cJ cC cH x θ1 (wPl (rfCover σ k e) (va_cpy (sPl σ) (sPl σ) (80 * k + (i)) (80 * k + (i + n)) (e - i - n))) M2 := by rw [eM]; exact hZ1.copyN (i := i) (j := i + n) (q := e - i - n) hk hk hlv1 hkk en he (by omega) he (by omega) (hf1 hkk) (hf1 hkk)
          have hlv2 : liveR (wPl (rfCover σ k e) (va_cpy (sPl σ) (sPl σ) (80 * k + (i)) (80 * k + (i + n)) (e - i - n))) k := Or.inl rfl
          obtain ⟨f2, g2, hH2, hf2, hg2⟩ := hZ2.rowAt (n := e) hk hlv2 en he
          rw [eRa] at hH2
          refine lv_aload hx hb dX2_shift_81 (lv_at hl 2 rfl) ?_
          refine lv_iload_n hx hb dX2_shift_83 rfl (lv_at hl 5 rfl) ?_
          refine lv_iload_n hx hb dX2_shift_84 rfl (lv_at hl 6 rfl) ?_
          refine mw_callv (va_runV (As := [.int (nI i), .int (nI n)]) (rest := []) F (c_X1_makeBlankS (i := i) (n := n) hH2 hkk (by omega)) (cwV 2 hts gX2_shift_X1_makeBlank rfl rfl rfl (by decide +kernel) ⟨Nat.le_of_ble_eq_true rfl, Nat.le_of_ble_eq_true rfl⟩) (mw_prV (q := (RX1, TX1, 5)) hK hO hW rfl hH2.1) rfl rfl hl.1 rfl (lv_room (Nat.le_of_ble_eq_true rfl)) dX2_shift_85 ⟨Nat.zero_le _, Nat.zero_le _⟩) hW hS hA (fun M3 H locs eM hW hS => ?_)
          have hZ3 : Sim cI cJ cC cH x θ1 (wPl (rfCover σ k e) (blk (80 * k + (i)) (80 * k + (i) + n) 0 (va_cpy (sPl σ) (sPl σ) (80 * k + (i)) (80 * k + (i + n)) (e - i - n)))) M3 := by rw [eM]; exact hZ2.blankN (i := i) (n := n) hk hlv2 hkk en he (by omega) (hf2 hkk)
          have hZ3 : Sim cI cJ cC cH x θ1 (wPl (rfCover σ k e) (shPl true k i n e (sPl σ))) M3 := by rw [shPl_up _ hin]; exact hZ3
          refine lv_goto (tgt := 114) hx hb dX2_shift_88 (by decide) ?_
          refine lv_aload_n hx hb dX2_shift_114 rfl (lv_at hl 3 rfl) ?_
          refine lv_iconst (v := 0) hx hb dX2_shift_115 (by decide) ?_
          refine lv_iload hx hb dX2_shift_116 (lv_at hl 0 rfl) ?_
          refine lv_iconst (v := 1) hx hb dX2_shift_118 (by decide) ?_
          refine mw_calli (va_runV (As := [.int 0, .int (nI (e - i - n)), .int 1]) (rest := []) F (c_X2_end (t5 := 0) (came := nI (e - i - n)) (ans := 1) hZ3.b.1 hZ3.b.2.2.1 (show 0 < 5 by omega)) (cwV 3 hts gX2_shift_X2_end rfl rfl rfl (by decide +kernel) ⟨Nat.le_of_ble_eq_true rfl, Nat.le_of_ble_eq_true rfl⟩) (mw_prV (q := (RX2, TX2, 8)) hK hO hW rfl hZ3.b.1) rfl rfl hl.1 rfl (lv_room (Nat.le_of_ble_eq_true rfl)) dX2_shift_119 ⟨Nat.zero_le _, Nat.zero_le _⟩) hW hS hA (fun r M9 H locs h9 hW hS => ?_)
          obtain ⟨er, eM⟩ := h9
          subst er
          have hZe := hZ3.bump (show 0 < 5 by omega) (nI (e - i - n))
          rw [← eM] at hZe
          exact W.iret hx hb hr (fun t ht hw => ⟨⟨_, _, rfl, (by
            have e8 : rfShift σ (nI j) (nI i) (nI n) true = (1, rfShiftOk σ true k i n e) := by
              unfold rfShift
              rw [if_pos esp_j, eix_j, if_pos (hind_ok hI hj hk e9 he en hin), szOf_row hk e9, en, rIx_row hk e9, eii, ein]
              simp only [ix, nI_clamp (show e < 2 ^ 31 by omega)]
            rw [e8]; exact ⟨rfl, _, hZe⟩), by rw [ht]; exact hW, va_K.moved hw.alike hK⟩, hS.F ht⟩) hS.2.2 dX2_shift_122
      · obtain ⟨crn, f0, hB⟩ := hZ.b.2.2.2.2.2.2
        have hcel : ∀ w, w < e → ∀ y, gr w = some y → ∃ fs, M y = some (.inr (0, fs)) := fun w hw9 y hy9 => hZ.cel eb (by omega) (v := sPl σ (80 * k + w)) ((hpl9 k hk hlv hkk w e en he hw9).imp id (fun ⟨c, a1, a2, _⟩ => ⟨c, a1, a2⟩)) (by rw [← hgr hkk w hw9]; exact hy9)
        refine lv_aload_n hx hb dX2_shift_57 rfl (lv_at hl 3 rfl) ?_
        refine lv_aload hx hb dX2_shift_58 (lv_at hl 2 rfl) ?_
        refine mw_callv (va_runV (As := [.ref (tRa θ k)]) (rest := []) F (c_X2_cover hZ.b.1 hHr hkk hB hcel) (cwV 1 hts gX2_shift_X2_cover rfl rfl rfl (by decide +kernel) ⟨Nat.le_of_ble_eq_true rfl, Nat.le_of_ble_eq_true rfl⟩) (mw_prV (q := (RX2, TX2, 8)) hK hO hW rfl hZ.b.1) rfl rfl hl.1 rfl (lv_room (Nat.le_of_ble_eq_true rfl)) dX2_shift_60 ⟨Nat.zero_le _, Nat.zero_le _⟩) hW hS hA (fun M1 H locs eM hW hS => ?_)
        obtain ⟨θ1, eRa, hZ1⟩ : ∃ z, tRa z = tRa θ ∧ Sim cI cJ cC cH x z (rfCover σ k e) M1 := ⟨uGs (uCv θ (some (tRa θ k))) (va_cpy gr (tGs θ) 0 0 e), rfl, by rw [eM]; exact hZ.coverC (f := fr) hne hk hj e9 hkk en he (hgr hkk)⟩
        have hlv1 : liveR (rfCover σ k e) k := Or.inl rfl
        obtain ⟨f1, g1, hH1, hf1, hg1⟩ := hZ1.rowAt (n := e) hk hlv1 en he
        rw [eRa] at hH1
        have hcel1 : ∀ w, w < e → ∀ y, g1 w = some y → ∃ fs, M1 y = some (.inr (0, fs)) := fun w hw9 y hy9 => hZ1.cel (b := b) eb (by omega) (v := sPl σ (80 * k + w)) ((hpl9 k hk hlv hkk w e en he hw9).imp id (fun ⟨c, a1, a2, _⟩ => ⟨c, a1, a2⟩)) ((hg1 hkk w hw9).symm.trans hy9)
        refine lv_iload hx hb dX2_shift_63 (lv_at hl 7 rfl) ?_
        refine lv_if_eq (tgt := 91) hx hb dX2_shift_65 (by decide) (fun c_65 => ?_) (fun c_65 => ?_)
        · have hup := bI_e c_65
          subst hup
          refine lv_aload hx hb dX2_shift_91 (lv_at hl 2 rfl) ?_
          refine lv_aload hx hb dX2_shift_93 (lv_at hl 2 rfl) ?_
          refine lv_iload_n hx hb dX2_shift_95 rfl (lv_at hl 5 rfl) ?_
          refine lv_iload_n hx hb dX2_shift_96 rfl (lv_at hl 6 rfl) ?_
          refine lv_iadd hx hb dX2_shift_97 ?_
          rw [nI_add]
          refine lv_iload_n hx hb dX2_shift_98 rfl (lv_at hl 5 rfl) ?_
          refine lv_iload hx hb dX2_shift_99 (lv_at hl 0 rfl) ?_
          refine mw_callv (va_runV (As := [.ref (tRa θ k), .int (nI (i + n)), .int (nI i), .int (nI (e - i - n))]) (rest := []) F (c_X1_copyFrom (i := i + n) (j := i) (n := e - i - n) hH1 hH1 hkk hkk (by omega) (by omega) (fun w hw9 y hy9 => hcel1 (i + n + w) (by omega) y hy9)) (cwV 4 hts gX2_shift_X1_copyFrom rfl rfl rfl (by decide +kernel) ⟨Nat.le_of_ble_eq_true rfl, Nat.le_of_ble_eq_true rfl⟩) (mw_prV (q := (RX1, TX1, 5)) hK hO hW rfl hH1.1) rfl rfl hl.1 rfl (lv_room (Nat.le_of_ble_eq_true rfl)) dX2_shift_101 ⟨Nat.zero_le _, Nat.zero_le _⟩) hW hS hA (fun M2 H locs eM hW hS => ?_)
          have hZ2 : Sim cI cJ cC cH x θ1 (wPl (rfCover σ k e) (va_cpy (sPl σ) (sPl σ) (80 * k + (i + n)) (80 * k + (i)) (e - i - n))) M2 := by rw [eM]; exact hZ1.copyC (i := i + n) (j := i) (q := e - i - n) hne hk hk hlv1 hkk en he (by omega) he (by omega) (hg1 hkk) (hg1 hkk)
          have hlv2 : liveR (wPl (rfCover σ k e) (va_cpy (sPl σ) (sPl σ) (80 * k + (i + n)) (80 * k + (i)) (e - i - n))) k := Or.inl rfl
          obtain ⟨f2, g2, hH2, hf2, hg2⟩ := hZ2.rowAt (n := e) hk hlv2 en he
          rw [eRa] at hH2
          refine lv_aload hx hb dX2_shift_104 (lv_at hl 2 rfl) ?_
          refine lv_iload_n hx hb dX2_shift_106 rfl (lv_at hl 5 rfl) ?_
          refine lv_iload hx hb dX2_shift_107 (lv_at hl 0 rfl) ?_
          refine lv_iadd hx hb dX2_shift_109 ?_
          rw [nI_add]
          refine lv_iload_n hx hb dX2_shift_110 rfl (lv_at hl 6 rfl) ?_
          refine mw_callv (va_runV (As := [.int (nI (i + (e - i - n))), .int (nI n)]) (rest := []) F (c_X1_makeBlank (i := i + (e - i - n)) (n := n) hH2 hkk (by omega)) (cwV 2 hts gX2_shift_X1_makeBlank rfl rfl rfl (by decide +kernel) ⟨Nat.le_of_ble_eq_true rfl, Nat.le_of_ble_eq_true rfl⟩) (mw_prV (q := (RX1, TX1, 5)) hK hO hW rfl hH2.1) rfl rfl hl.1 rfl (lv_room (Nat.le_of_ble_eq_true rfl)) dX2_shift_111 ⟨Nat.zero_le _, Nat.zero_le _⟩) hW hS hA (fun M3 H locs eM hW hS => ?_)
          have hZ3 : Sim cI cJ cC cH x θ1 (wPl (rfCover σ k e) (blk (80 * k + (i + (e - i - n))) (80 * k + (i + (e - i - n)) + n) 0 (va_cpy (sPl σ) (sPl σ) (80 * k + (i + n)) (80 * k + (i)) (e - i - n)))) M3 := by rw [eM]; exact hZ2.blankC (i := i + (e - i - n)) (n := n) hne hk hlv2 hkk en he (by omega) (hg2 hkk)
          have hZ3 : Sim cI cJ cC cH x θ1 (wPl (rfCover σ k e) (shPl false k i n e (sPl σ))) M3 := by rw [shPl_dn _ hin]; exact hZ3
          refine lv_aload_n hx hb dX2_shift_114 rfl (lv_at hl 3 rfl) ?_
          refine lv_iconst (v := 0) hx hb dX2_shift_115 (by decide) ?_
          refine lv_iload hx hb dX2_shift_116 (lv_at hl 0 rfl) ?_
          refine lv_iconst (v := 1) hx hb dX2_shift_118 (by decide) ?_
          refine mw_calli (va_runV (As := [.int 0, .int (nI (e - i - n)), .int 1]) (rest := []) F (c_X2_end (t5 := 0) (came := nI (e - i - n)) (ans := 1) hZ3.b.1 hZ3.b.2.2.1 (show 0 < 5 by omega)) (cwV 3 hts gX2_shift_X2_end rfl rfl rfl (by decide +kernel) ⟨Nat.le_of_ble_eq_true rfl, Nat.le_of_ble_eq_true rfl⟩) (mw_prV (q := (RX2, TX2, 8)) hK hO hW rfl hZ3.b.1) rfl rfl hl.1 rfl (lv_room (Nat.le_of_ble_eq_true rfl)) dX2_shift_119 ⟨Nat.zero_le _, Nat.zero_le _⟩) hW hS hA (fun r M9 H locs h9 hW hS => ?_)
          obtain ⟨er, eM⟩ := h9
          subst er
          have hZe := hZ3.bump (show 0 < 5 by omega) (nI (e - i - n))
          rw [← eM] at hZe
          exact W.iret hx hb hr (fun t ht hw => ⟨⟨_, _, rfl, (by
            have e8 : rfShift σ (nI j) (nI i) (nI n) false = (1, rfShiftOk σ false k i n e) := by
              unfold rfShift
              rw [if_pos esp_j, eix_j, if_pos (hind_ok hI hj hk e9 he en hin), szOf_row hk e9, en, rIx_row hk e9, eii, ein]
              simp only [ix, nI_clamp (show e < 2 ^ 31 by omega)]
            rw [e8]; exact ⟨rfl, _, hZe⟩), by rw [ht]; exact hW, va_K.moved hw.alike hK⟩, hS.F ht⟩) hS.2.2 dX2_shift_122
        · have hup := bI_n c_65
          subst hup
          refine lv_aload hx hb dX2_shift_68 (lv_at hl 2 rfl) ?_
          refine lv_aload hx hb dX2_shift_70 (lv_at hl 2 rfl) ?_
          refine lv_iload_n hx hb dX2_shift_72 rfl (lv_at hl 5 rfl) ?_
          refine lv_iload_n hx hb dX2_shift_73 rfl (lv_at hl 5 rfl) ?_
          refine lv_iload_n hx hb dX2_shift_74 rfl (lv_at hl 6 rfl) ?_
          refine lv_iadd hx hb dX2_shift_75 ?_
          rw [nI_add]
          refine lv_iload hx hb dX2_shift_76 (lv_at hl 0 rfl) ?_
          refine mw_callv (va_runV (As := [.ref (tRa θ k), .int (nI i), .int (nI (i + n)), .int (nI (e - i - n))]) (rest := []) F (c_X1_copyFrom (i := i) (j := i + n) (n := e - i - n) hH1 hH1 hkk hkk (by omega) (by omega) (fun w hw9 y hy9 => hcel1 (i + w) (by omega) y hy9)) (cwV 4 hts gX2_shift_X1_copyFrom rfl rfl rfl (by decide +kernel) ⟨Nat.le_of_ble_eq_true rfl, Nat.le_of_ble_eq_true rfl⟩) (mw_prV (q := (RX1, TX1, 5)) hK hO hW rfl hH1.1) rfl rfl hl.1 rfl (lv_room (Nat.le_of_ble_eq_true rfl)) dX2_shift_78 ⟨Nat.zero_le _, Nat.zero_le _⟩) hW hS hA (fun M2 H locs eM hW hS => ?_)
          have hZ2 : Sim cI cJ cC cH x θ1 (wPl (rfCover σ k e) (va_cpy (sPl σ) (sPl σ) (80 * k + (i)) (80 * k + (i + n)) (e - i - n))) M2 := by rw [eM]; exact hZ1.copyC (i := i) (j := i + n) (q := e - i - n) hne hk hk hlv1 hkk en he (by omega) he (by omega) (hg1 hkk) (hg1 hkk)
          have hlv2 : liveR (wPl (rfCover σ k e) (va_cpy (sPl σ) (sPl σ) (80 * k + (i)) (80 * k + (i + n)) (e - i - n))) k := Or.inl rfl
          obtain ⟨f2, g2, hH2, hf2, hg2⟩ := hZ2.rowAt (n := e) hk hlv2 en he
          rw [eRa] at hH2
          refine lv_aload hx hb dX2_shift_81 (lv_at hl 2 rfl) ?_
          refine lv_iload_n hx hb dX2_shift_83 rfl (lv_at hl 5 rfl) ?_
          refine lv_iload_n hx hb dX2_shift_84 rfl (lv_at hl 6 rfl) ?_
          refine mw_callv (va_runV (As := [.int (nI i), .int (nI n)]) (rest := []) F (c_X1_makeBlank (i := i) (n := n) hH2 hkk (by omega)) (cwV 2 hts gX2_shift_X1_makeBlank rfl rfl rfl (by decide +kernel) ⟨Nat.le_of_ble_eq_true rfl, Nat.le_of_ble_eq_true rfl⟩) (mw_prV (q := (RX1, TX1, 5)) hK hO hW rfl hH2.1) rfl rfl hl.1 rfl (lv_room (Nat.le_of_ble_eq_true rfl)) dX2_shift_85 ⟨Nat.zero_le _, Nat.zero_le _⟩) hW hS hA (fun M3 H locs eM hW hS => ?_)
          have hZ3 : Sim cI cJ cC cH x θ1 (wPl (rfCover σ k e) (blk (80 * k + (i)) (80 * k + (i) + n) 0 (va_cpy (sPl σ) (sPl σ) (80 * k + (i)) (80 * k + (i + n)) (e - i - n)))) M3 := by rw [eM]; exact hZ2.blankC (i := i) (n := n) hne hk hlv2 hkk en he (by omega) (hg2 hkk)
          have hZ3 : Sim cI cJ cC cH x θ1 (wPl (rfCover σ k e) (shPl true k i n e (sPl σ))) M3 := by rw [shPl_up _ hin]; exact hZ3
          refine lv_goto (tgt := 114) hx hb dX2_shift_88 (by decide) ?_
          refine lv_aload_n hx hb dX2_shift_114 rfl (lv_at hl 3 rfl) ?_
          refine lv_iconst (v := 0) hx hb dX2_shift_115 (by decide) ?_
          refine lv_iload hx hb dX2_shift_116 (lv_at hl 0 rfl) ?_
          refine lv_iconst (v := 1) hx hb dX2_shift_118 (by decide) ?_
          refine mw_calli (va_runV (As := [.int 0, .int (nI (e - i - n)), .int 1]) (rest := []) F (c_X2_end (t5 := 0) (came := nI (e - i - n)) (ans := 1) hZ3.b.1 hZ3.b.2.2.1 (show 0 < 5 by omega)) (cwV 3 hts gX2_shift_X2_end rfl rfl rfl (by decide +kernel) ⟨Nat.le_of_ble_eq_true rfl, Nat.le_of_ble_eq_true rfl⟩) (mw_prV (q := (RX2, TX2, 8)) hK hO hW rfl hZ3.b.1) rfl rfl hl.1 rfl (lv_room (Nat.le_of_ble_eq_true rfl)) dX2_shift_119 ⟨Nat.zero_le _, Nat.zero_le _⟩) hW hS hA (fun r M9 H locs h9 hW hS => ?_)
          obtain ⟨er, eM⟩ := h9
          subst er
          have hZe := hZ3.bump (show 0 < 5 by omega) (nI (e - i - n))
          rw [← eM] at hZe
          exact W.iret hx hb hr (fun t ht hw => ⟨⟨_, _, rfl, (by
            have e8 : rfShift σ (nI j) (nI i) (nI n) true = (1, rfShiftOk σ true k i n e) := by
              unfold rfShift
              rw [if_pos esp_j, eix_j, if_pos (hind_ok hI hj hk e9 he en hin), szOf_row hk e9, en, rIx_row hk e9, eii, ein]
              simp only [ix, nI_clamp (show e < 2 ^ 31 by omega)]
            rw [e8]; exact ⟨rfl, _, hZe⟩), by rw [ht]; exact hW, va_K.moved hw.alike hK⟩, hS.F ht⟩) hS.2.2 dX2_shift_122
    · obtain ⟨t5, ht1, ht4, et⟩ := hind_of c_32
      rw [et] at hl
      refine lv_aload_n hx hb dX2_shift_35 rfl (lv_at hl 2 rfl) ?_
      refine lv_iload hx hb dX2_shift_36 (lv_at hl 0 rfl) ?_
      refine lv_iconst (v := 0) hx hb dX2_shift_38 (by decide) ?_
      refine lv_iload hx hb dX2_shift_39 (lv_at hl 0 rfl) ?_
      refine lv_ineg hx hb dX2_shift_41 ?_
      refine mw_calli (va_runV (As := [.int (nI t5), .int 0, .int (-(nI t5))]) (rest := []) F (c_X2_end (t5 := t5) (came := 0) (ans := -nI t5) hZ.b.1 hZ.b.2.2.1 (show t5 < 5 by omega)) (cwV 3 hts gX2_shift_X2_end rfl rfl rfl (by decide +kernel) ⟨Nat.le_of_ble_eq_true rfl, Nat.le_of_ble_eq_true rfl⟩) (mw_prV (q := (RX2, TX2, 8)) hK hO hW rfl hZ.b.1) rfl rfl hl.1 rfl (lv_room (Nat.le_of_ble_eq_true rfl)) dX2_shift_42 ⟨Nat.zero_le _, Nat.zero_le _⟩) hW hS hA (fun r M9 H locs h9 hW hS => ?_)
      obtain ⟨er, eM⟩ := h9
      subst er
      have hZe := hZ.bump (show t5 < 5 by omega) 0
      rw [← eM] at hZe
      exact W.iret hx hb hr (fun t ht hw => ⟨⟨_, _, rfl, (by
        have e8 : rfShift σ (nI j) i0 n0 up = (-nI t5, rfFails σ t5) := by
          unfold rfShift
          rw [if_pos esp_j, eix_j, if_neg c_32, et]
          simp only [ix, nI_clamp (show t5 < 2 ^ 31 by omega)]
        rw [e8]; rw [bump_fails σ (by omega)] at hZe; exact ⟨rfl, _, hZe⟩), by rw [ht]; exact hW, va_K.moved hw.alike hK⟩, hS.F ht⟩) hS.2.2 dX2_shift_45
  · have c_4 := bI_e c_4
    refine lv_bipush (v := (-9)) hx hb dX2_shift_7 (by decide) ?_
    exact W.iret hx hb hr (fun t ht hw => ⟨⟨_, _, rfl, (by
      have e8 : rfShift σ s0 i0 n0 up = (-9, σ) := by simp [rfShift, c_4]
      rw [e8]; exact ⟨rfl, θ, hZ⟩), by rw [ht]; exact hW, va_K.moved hw.alike hK⟩, hS.F ht⟩) hS.2.2 dX2_shift_9
abbrev rmX2_open : Room := ({ frames := 4, cells := 0, slots := 0, locals := 152 } : Room)
set_option maxHeartbeats 4000000 in
set_option maxRecDepth 100000 in
theorem c_X2_open {x : Nat} {θ : TH} {σ : RS} {cc : Nat} (hZ : Sim cI cJ cC cH x θ σ M) (hI : Inv σ cc) {s0 i0 n0 : Int32} : Met l yX2_open wsX2_open rmX2_open (va_Pc [.ref x, .int s0, .int i0, .int n0] (mwPre D (tyL cI cJ cC cH) M sz)) (va_Qi (fun r M' => r = (rfShift σ s0 i0 n0 true).1 ∧ ∃ θ', Sim cI cJ cC cH x θ' (rfShift σ s0 i0 n0 true).2 M') (mwB D (tyL cI cJ cC cH) M sz) (mwA M sz)) 0 0 (mwA M sz) := by
  refine Met.ofW (cc := cX2_open) (maxL := 4) (ret := (some .int)) (by decide) rfl ?_
  intro pr env s m args below meth c s₁ B hml hv
  obtain ⟨rfl, hsz, hW, hK, hO⟩ := hv
  subst hsz
  have hW := hW.self (sz := s.heap.size)
  have hS : va_S (mwA M s.heap.size) s.heap s.heap [] := va_S.rf
  have hA : ∀ q, s.heap.size ≤ q → mwA M s.heap.size q := fun q h => Or.inr h
  have hx := B.exec
  have hb := B.bytes
  have hr := B.returns
  have hts := atoms_spec (ws := wsX2_open) B.pre
  have hown : s.vm.findClass RX2 = some m.cls := findClass_of_methodNamed B.named
  have hlocks := B.notSynchronized
  have F : CallFix pr m c cX2_open 4 s ([.ref x, .int s0, .int i0, .int n0] : List Value).toArray wsX2_open RX2 := ⟨hx, hb, hml, hown, hts⟩
  have hne := kCH hK
  have hl := lv_entry ([.ref x, .int s0, .int i0, .int n0]) (n := 4) (Nat.le_of_ble_eq_true rfl)
  rw [lg_entry_eq]
  generalize (lg_sl ([.ref x, .int s0, .int i0, .int n0]) ++ List.replicate (4 - (lg_sl ([.ref x, .int s0, .int i0, .int n0])).length) Slot.unset).toArray = ls at hl ⊢
  have hl : lv_has ls 4 [(0, .ref x), (1, .int s0), (2, .int i0), (3, .int n0)] := hl
  refine lv_aload_n hx hb dX2_open_0 rfl (lv_at hl 0 rfl) ?_
  refine lv_iload_n hx hb dX2_open_1 rfl (lv_at hl 1 rfl) ?_
  refine lv_iload_n hx hb dX2_open_2 rfl (lv_at hl 2 rfl) ?_
  refine lv_iload_n hx hb dX2_open_3 rfl (lv_at hl 3 rfl) ?_
  refine lv_iconst (v := 1) hx hb dX2_open_4 (by decide) ?_
  refine mw_calli (va_runV (As := [.int s0, .int i0, .int n0, .int 1]) (rest := []) F (c_X2_shift (s0 := s0) (i0 := i0) (n0 := n0) (up := true) hZ hI) (cwV 4 hts gX2_open_X2_shift rfl rfl rfl (by decide +kernel) ⟨Nat.le_of_ble_eq_true rfl, Nat.le_of_ble_eq_true rfl⟩) (mw_prV (q := (RX2, TX2, 8)) hK hO hW rfl hZ.b.1) rfl rfl hl.1 rfl (lv_room (Nat.le_of_ble_eq_true rfl)) dX2_open_5 ⟨Nat.zero_le _, Nat.zero_le _⟩) hW hS hA (fun r M1 H locs h9 hW hS => ?_)
  exact W.iret hx hb hr (fun t ht hw => ⟨⟨_, _, rfl, h9, by rw [ht]; exact hW, va_K.moved hw.alike hK⟩, hS.F ht⟩) hS.2.2 dX2_open_8
abbrev rmX2_close : Room := ({ frames := 4, cells := 0, slots := 0, locals := 152 } : Room)
set_option maxHeartbeats 4000000 in
set_option maxRecDepth 100000 in
theorem c_X2_close {x : Nat} {θ : TH} {σ : RS} {cc : Nat} (hZ : Sim cI cJ cC cH x θ σ M) (hI : Inv σ cc) {s0 i0 n0 : Int32} : Met l yX2_close wsX2_close rmX2_close (va_Pc [.ref x, .int s0, .int i0, .int n0] (mwPre D (tyL cI cJ cC cH) M sz)) (va_Qi (fun r M' => r = (rfShift σ s0 i0 n0 false).1 ∧ ∃ θ', Sim cI cJ cC cH x θ' (rfShift σ s0 i0 n0 false).2 M') (mwB D (tyL cI cJ cC cH) M sz) (mwA M sz)) 0 0 (mwA M sz) := by
  refine Met.ofW (cc := cX2_close) (maxL := 4) (ret := (some .int)) (by decide) rfl ?_
  intro pr env s m args below meth c s₁ B hml hv
  obtain ⟨rfl, hsz, hW, hK, hO⟩ := hv
  subst hsz
  have hW := hW.self (sz := s.heap.size)
  have hS : va_S (mwA M s.heap.size) s.heap s.heap [] := va_S.rf
  have hA : ∀ q, s.heap.size ≤ q → mwA M s.heap.size q := fun q h => Or.inr h
  have hx := B.exec
  have hb := B.bytes
  have hr := B.returns
  have hts := atoms_spec (ws := wsX2_close) B.pre
  have hown : s.vm.findClass RX2 = some m.cls := findClass_of_methodNamed B.named
  have hlocks := B.notSynchronized
  have F : CallFix pr m c cX2_close 4 s ([.ref x, .int s0, .int i0, .int n0] : List Value).toArray wsX2_close RX2 := ⟨hx, hb, hml, hown, hts⟩
  have hne := kCH hK
  have hl := lv_entry ([.ref x, .int s0, .int i0, .int n0]) (n := 4) (Nat.le_of_ble_eq_true rfl)
  rw [lg_entry_eq]
  generalize (lg_sl ([.ref x, .int s0, .int i0, .int n0]) ++ List.replicate (4 - (lg_sl ([.ref x, .int s0, .int i0, .int n0])).length) Slot.unset).toArray = ls at hl ⊢
  have hl : lv_has ls 4 [(0, .ref x), (1, .int s0), (2, .int i0), (3, .int n0)] := hl
  refine lv_aload_n hx hb dX2_close_0 rfl (lv_at hl 0 rfl) ?_
  refine lv_iload_n hx hb dX2_close_1 rfl (lv_at hl 1 rfl) ?_
  refine lv_iload_n hx hb dX2_close_2 rfl (lv_at hl 2 rfl) ?_
  refine lv_iload_n hx hb dX2_close_3 rfl (lv_at hl 3 rfl) ?_
  refine lv_iconst (v := 0) hx hb dX2_close_4 (by decide) ?_
  refine mw_calli (va_runV (As := [.int s0, .int i0, .int n0, .int 0]) (rest := []) F (c_X2_shift (s0 := s0) (i0 := i0) (n0 := n0) (up := false) hZ hI) (cwV 4 hts gX2_close_X2_shift rfl rfl rfl (by decide +kernel) ⟨Nat.le_of_ble_eq_true rfl, Nat.le_of_ble_eq_true rfl⟩) (mw_prV (q := (RX2, TX2, 8)) hK hO hW rfl hZ.b.1) rfl rfl hl.1 rfl (lv_room (Nat.le_of_ble_eq_true rfl)) dX2_close_5 ⟨Nat.zero_le _, Nat.zero_le _⟩) hW hS hA (fun r M1 H locs h9 hW hS => ?_)
  exact W.iret hx hb hr (fun t ht hw => ⟨⟨_, _, rfl, h9, by rw [ht]; exact hW, va_K.moved hw.alike hK⟩, hS.F ht⟩) hS.2.2 dX2_close_8
end X2S
