section X1W
variable {l : Launch} {D : va_G} {cI cJ cC cH : ClassId} {M : Nat → Option va_E} {sz : Nat}
theorem va_up_id {M : Nat → Option va_E} {a : Nat} {x : va_E} (h : M a = some x) : ∀ z, M z = va_up M a (some x) z := fun z => by
  by_cases hz : z = a
  · subst hz
    rw [va_up_self, h]
  · rw [va_up_ne _ _ hz]
def blk {α : Type} (i j : Nat) (b : α) (g : Nat → α) : Nat → α := fun x => if i ≤ x ∧ x < j then b else g x
theorem blk_0 {α : Type} (i : Nat) (b : α) (g : Nat → α) : blk i i b g = g := by
  funext x
  unfold blk
  rw [if_neg (by omega)]
theorem blk_s {α : Type} {i j : Nat} (b : α) (g : Nat → α) (h : i ≤ j) : va_up (blk i j b g) j b = blk i (j + 1) b g := by
  funext x
  unfold va_up blk
  by_cases hx : x = j
  · subst hx
    rw [if_pos rfl, if_pos (by omega)]
  · rw [if_neg hx]
    by_cases h2 : i ≤ x ∧ x < j
    · rw [if_pos h2, if_pos (by omega)]
    · rw [if_neg h2, if_neg (by omega)]
theorem blk_sL {i j : Nat} (b : Int64) (g : Nat → Int64) (h : i ≤ j) : vp_updL (blk i j b g) j b = blk i (j + 1) b g := blk_s b g h
abbrev rmX1_copyFrom : Room := ({ frames := 1, cells := 0, slots := 0, locals := 80 } : Room)
set_option maxHeartbeats 4000000 in
set_option maxRecDepth 100000 in
theorem c_X1_copyFrom {h : Nat} {k : Int32} {pn na ca : Nat} {lb : Int32} {f : Nat → Int64} {g : Nat → Option Nat} {h' : Nat} {k' : Int32} {pn' na' ca' : Nat} {lb' : Int32} {f' : Nat → Int64} {g' : Nat → Option Nat} {i j n : Nat} (hH : hOk M cJ cC h k pn na ca lb f g) (hH' : hOk M cJ cC h' k' pn' na' ca' lb' f' g') (hk : kRack k = true) (hk' : kRack k' = true) (hi : i + n ≤ pn') (hj : j + n ≤ pn) (hel : ∀ x, x < n → ∀ y, g' (i + x) = some y → ∃ fs, M y = some (.inr (0, fs))) : Met l yX1_copyFrom wsX1_copyFrom rmX1_copyFrom (va_Pc [.ref h, .ref h', .int (nI i), .int (nI j), .int (nI n)] (mwPre D (tyL cI cJ cC cH) M sz)) (va_Qv (fun M' => M' = va_up M ca (some (.inl (cC, pn, .inr (.inr (.inr (.inr (va_cpy g' g i j n)))))))) (mwB D (tyL cI cJ cC cH) M sz) (mwA M sz)) 0 0 (mwA M sz) := by
  refine Met.ofW (cc := cX1_copyFrom) (maxL := 5) (ret := none) (by decide) rfl ?_
  intro pr env s m args below meth c s₁ B hml hv
  obtain ⟨rfl, hsz, hW, hK, hO⟩ := hv
  subst hsz
  have hW := hW.self (sz := s.heap.size)
  have hS : va_S (mwA M s.heap.size) s.heap s.heap [] := va_S.rf
  have hA : ∀ q, s.heap.size ≤ q → mwA M s.heap.size q := fun q h => Or.inr h
  have hx := B.exec
  have hb := B.bytes
  have hr := B.returns
  have hts := atoms_spec (ws := wsX1_copyFrom) B.pre
  have hown : s.vm.findClass RX1 = some m.cls := findClass_of_methodNamed B.named
  have hlocks := B.notSynchronized
  have F : CallFix pr m c cX1_copyFrom 5 s ([.ref h, .ref h', .int (nI i), .int (nI j), .int (nI n)] : List Value).toArray wsX1_copyFrom RX1 := ⟨hx, hb, hml, hown, hts⟩
  have hI_X1 : ∀ w ∈ wsX10, w ∈ wsX1_copyFrom := by decide +kernel
  have hl_fieldLink_RX1_34_SpliceBench_Holding_cards_LSpliceBench_Card := hts (.fieldLink RX1 34 "SpliceBench$Holding" "cards" "[LSpliceBench$Card;") (by decide +kernel)
  have hl_methodLink_RX1_58_arraycopyName := hts (.methodLink RX1 58 arraycopyName) (by decide +kernel)
  have hl_native_arraycopyName := hts (.native arraycopyName) (by decide +kernel)
  have hl_static_arraycopyName := hts (.static arraycopyName) (by decide +kernel)
  have hl_initialized_java_lang_System := hts (.initialized "java/lang/System") (by decide +kernel)
  have hp8 := hH.2.1
  have hp8' := hH'.2.1
  have hl := lv_entry ([.ref h, .ref h', .int (nI i), .int (nI j), .int (nI n)]) (n := 5) (Nat.le_of_ble_eq_true rfl)
  rw [lg_entry_eq]
  generalize (lg_sl ([.ref h, .ref h', .int (nI i), .int (nI j), .int (nI n)]) ++ List.replicate (5 - (lg_sl ([.ref h, .ref h', .int (nI i), .int (nI j), .int (nI n)])).length) Slot.unset).toArray = ls at hl ⊢
  have hl : lv_has ls 5 [(0, .ref h), (1, .ref h'), (2, .int (nI i)), (3, .int (nI j)), (4, .int (nI n))] := hl
  refine lv_aload_n hx hb dX1_copyFrom_0 rfl (lv_at hl 1 rfl) ?_
  refine lv_iload_n hx hb dX1_copyFrom_1 rfl (lv_at hl 2 rfl) ?_
  refine lv_iload hx hb dX1_copyFrom_2 (lv_at hl 4 rfl) ?_
  refine vp_callSi (W.runV (As := [.int (nI i), .int (nI n)]) (rest := []) F (c_X1_hasPlaces (i := nI i) (n := nI n) hH') (cwV 2 hts gX1_copyFrom_X1_hasPlaces rfl rfl rfl (by decide +kernel) ⟨Nat.le_of_ble_eq_true rfl, Nat.le_of_ble_eq_true rfl⟩) (mw_prV (q := (RX1, TX1, 5)) hK hO hW rfl hH'.1) rfl rfl hl.1 rfl (lv_room (Nat.le_of_ble_eq_true rfl)) dX1_copyFrom_4 ⟨Nat.zero_le _, Nat.zero_le _⟩) (fun r_1 er_1 => ?_)
  subst er_1
  refine lv_if_eq (tgt := 20) hx hb dX1_copyFrom_7 (by decide) (fun c_7 => ?_) (fun c_7 => ?_)
  · exact absurd (bI_e c_7) (by rw [inPls_nI (by omega) (by omega) (by omega)]; simp; exact hi)
  · refine lv_aload_n hx hb dX1_copyFrom_10 rfl (lv_at hl 0 rfl) ?_
    refine lv_iload_n hx hb dX1_copyFrom_11 rfl (lv_at hl 3 rfl) ?_
    refine lv_iload hx hb dX1_copyFrom_12 (lv_at hl 4 rfl) ?_
    refine vp_callSi (W.runV (As := [.int (nI j), .int (nI n)]) (rest := []) F (c_X1_hasPlaces (i := nI j) (n := nI n) hH) (cwV 2 hts gX1_copyFrom_X1_hasPlaces rfl rfl rfl (by decide +kernel) ⟨Nat.le_of_ble_eq_true rfl, Nat.le_of_ble_eq_true rfl⟩) (mw_prV (q := (RX1, TX1, 5)) hK hO hW rfl hH.1) rfl rfl hl.1 rfl (lv_room (Nat.le_of_ble_eq_true rfl)) dX1_copyFrom_14 ⟨Nat.zero_le _, Nat.zero_le _⟩) (fun r_2 er_2 => ?_)
    subst er_2
    refine lv_if_ne (tgt := 21) hx hb dX1_copyFrom_17 (by decide) (fun c_17 => ?_) (fun c_17 => ?_)
    · refine lv_aload_n hx hb dX1_copyFrom_21 rfl (lv_at hl 0 rfl) ?_
      refine vp_callSi (W.runV (As := []) (rest := []) F (c_X1_isRack hH.1) (cwV 0 hts gX1_copyFrom_X1_isRack rfl rfl rfl (by decide +kernel) ⟨Nat.le_of_ble_eq_true rfl, Nat.le_of_ble_eq_true rfl⟩) (mw_prV (q := (RX1, TX1, 5)) hK hO hW rfl hH.1) rfl rfl hl.1 rfl (lv_room (Nat.le_of_ble_eq_true rfl)) dX1_copyFrom_22 ⟨Nat.zero_le _, Nat.zero_le _⟩) (fun r_3 er_3 => ?_)
      subst er_3
      refine lv_if_eq (tgt := 53) hx hb dX1_copyFrom_25 (by decide) (fun c_25 => ?_) (fun c_25 => ?_)
      · exact absurd (bI_e c_25) (by rw [hk]; decide)
      · refine lv_aload_n hx hb dX1_copyFrom_28 rfl (lv_at hl 1 rfl) ?_
        refine vp_callSi (W.runV (As := []) (rest := []) F (c_X1_isRack hH'.1) (cwV 0 hts gX1_copyFrom_X1_isRack rfl rfl rfl (by decide +kernel) ⟨Nat.le_of_ble_eq_true rfl, Nat.le_of_ble_eq_true rfl⟩) (mw_prV (q := (RX1, TX1, 5)) hK hO hW rfl hH'.1) rfl rfl hl.1 rfl (lv_room (Nat.le_of_ble_eq_true rfl)) dX1_copyFrom_29 ⟨Nat.zero_le _, Nat.zero_le _⟩) (fun r_4 er_4 => ?_)
        subst er_4
        refine lv_if_eq (tgt := 53) hx hb dX1_copyFrom_32 (by decide) (fun c_32 => ?_) (fun c_32 => ?_)
        · exact absurd (bI_e c_32) (by rw [hk']; decide)
        · refine lv_aload_n hx hb dX1_copyFrom_35 rfl (lv_at hl 1 rfl) ?_
          refine mw_get (C := RX1) (T := TX1) (N := 5) F hK hW hI_X1 hH'.1 rfl 3 (by decide) hl_fieldLink_RX1_34_SpliceBench_Holding_cards_LSpliceBench_Card rfl dX1_copyFrom_36 ?_
          refine lv_iload_n hx hb dX1_copyFrom_39 rfl (lv_at hl 2 rfl) ?_
          refine lv_aload_n hx hb dX1_copyFrom_40 rfl (lv_at hl 0 rfl) ?_
          refine mw_get (C := RX1) (T := TX1) (N := 5) F hK hW hI_X1 hH.1 rfl 3 (by decide) hl_fieldLink_RX1_34_SpliceBench_Holding_cards_LSpliceBench_Card rfl dX1_copyFrom_41 ?_
          refine lv_iload_n hx hb dX1_copyFrom_44 rfl (lv_at hl 3 rfl) ?_
          refine lv_iload hx hb dX1_copyFrom_45 (lv_at hl 4 rfl) ?_
          refine mw_copyq (r := (RX0, TX0, 3)) F hl.1 hK hW hS 2 0 rfl hl_methodLink_RX1_58_arraycopyName hl_native_arraycopyName hl_static_arraycopyName hl_initialized_java_lang_System (hH'.cds hk') (hH.cds hk) rfl (nI_pos (by omega)) (nI_pos (by omega)) (nI_pos (by omega)) (by rw [nI_clamp (show i < 2 ^ 31 by omega), nI_clamp (show n < 2 ^ 31 by omega)]; exact hi) (by rw [nI_clamp (show j < 2 ^ 31 by omega), nI_clamp (show n < 2 ^ 31 by omega)]; exact hj) (fun x hx9 y hy9 => by rw [nI_clamp (show n < 2 ^ 31 by omega)] at hx9; rw [nI_clamp (show i < 2 ^ 31 by omega)] at hy9; exact hel x hx9 y hy9) (Nat.le_of_ble_eq_true rfl) (Nat.le_of_ble_eq_true rfl) dX1_copyFrom_47 (fun H locs hW hS => ?_)
          rw [nI_clamp (show i < 2 ^ 31 by omega), nI_clamp (show j < 2 ^ 31 by omega), nI_clamp (show n < 2 ^ 31 by omega)] at hW
          refine lv_goto (tgt := 82) hx hb dX1_copyFrom_50 (by decide) ?_
          exact W.vret hx hb hr (fun t ht hw => ⟨⟨va_up M ca (some (.inl (cC, pn, .inr (.inr (.inr (.inr (va_cpy g' g i j n))))))), rfl, rfl, by rw [ht]; exact hW, va_K.moved hw.alike hK⟩, hS.F ht⟩) hS.2.2 dX1_copyFrom_82
    · exact absurd (bI_e c_17) (by rw [inPls_nI (by omega) (by omega) (by omega)]; simp; exact hj)
abbrev rmX1_makeBlank : Room := ({ frames := 1, cells := 0, slots := 0, locals := 22 } : Room)
set_option maxHeartbeats 4000000 in
set_option maxRecDepth 100000 in
theorem c_X1_makeBlank {h : Nat} {k : Int32} {pn na ca : Nat} {lb : Int32} {f : Nat → Int64} {g : Nat → Option Nat} {i n : Nat} (hH : hOk M cJ cC h k pn na ca lb f g) (hk : kRack k = true) (hi : i + n ≤ pn) : Met l yX1_makeBlank wsX1_makeBlank rmX1_makeBlank (va_Pc [.ref h, .int (nI i), .int (nI n)] (mwPre D (tyL cI cJ cC cH) M sz)) (va_Qv (fun M' => M' = va_up M ca (some (.inl (cC, pn, .inr (.inr (.inr (.inr (blk i (i + n) none g)))))))) (mwB D (tyL cI cJ cC cH) M sz) (mwA M sz)) 0 0 (mwA M sz) := by
  refine Met.ofW (cc := cX1_makeBlank) (maxL := 4) (ret := none) (by decide) rfl ?_
  intro pr env s m args below meth c s₁ B hml hv
  obtain ⟨rfl, hsz, hW, hK, hO⟩ := hv
  subst hsz
  have hW := hW.self (sz := s.heap.size)
  have hS : va_S (mwA M s.heap.size) s.heap s.heap [] := va_S.rf
  have hA : ∀ q, s.heap.size ≤ q → mwA M s.heap.size q := fun q h => Or.inr h
  have hx := B.exec
  have hb := B.bytes
  have hr := B.returns
  have hts := atoms_spec (ws := wsX1_makeBlank) B.pre
  have hown : s.vm.findClass RX1 = some m.cls := findClass_of_methodNamed B.named
  have hlocks := B.notSynchronized
  have F : CallFix pr m c cX1_makeBlank 4 s ([.ref h, .int (nI i), .int (nI n)] : List Value).toArray wsX1_makeBlank RX1 := ⟨hx, hb, hml, hown, hts⟩
  have hI_X1 : ∀ w ∈ wsX10, w ∈ wsX1_makeBlank := by decide +kernel
  have hl_fieldLink_RX1_34_SpliceBench_Holding_cards_LSpliceBench_Card := hts (.fieldLink RX1 34 "SpliceBench$Holding" "cards" "[LSpliceBench$Card;") (by decide +kernel)
  have hp8 := hH.2.1
  have hl := lv_entry ([.ref h, .int (nI i), .int (nI n)]) (n := 4) (Nat.le_of_ble_eq_true rfl)
  rw [lg_entry_eq]
  generalize (lg_sl ([.ref h, .int (nI i), .int (nI n)]) ++ List.replicate (4 - (lg_sl ([.ref h, .int (nI i), .int (nI n)])).length) Slot.unset).toArray = ls at hl ⊢
  have hl : lv_has ls 4 [(0, .ref h), (1, .int (nI i)), (2, .int (nI n))] := hl
  refine lv_aload_n hx hb dX1_makeBlank_0 rfl (lv_at hl 0 rfl) ?_
  refine lv_iload_n hx hb dX1_makeBlank_1 rfl (lv_at hl 1 rfl) ?_
  refine lv_iload_n hx hb dX1_makeBlank_2 rfl (lv_at hl 2 rfl) ?_
  refine vp_callSi (W.runV (As := [.int (nI i), .int (nI n)]) (rest := []) F (c_X1_hasPlaces (i := nI i) (n := nI n) hH) (cwV 2 hts gX1_makeBlank_X1_hasPlaces rfl rfl rfl (by decide +kernel) ⟨Nat.le_of_ble_eq_true rfl, Nat.le_of_ble_eq_true rfl⟩) (mw_prV (q := (RX1, TX1, 5)) hK hO hW rfl hH.1) rfl rfl hl.1 rfl (lv_room (Nat.le_of_ble_eq_true rfl)) dX1_makeBlank_3 ⟨Nat.zero_le _, Nat.zero_le _⟩) (fun r_1 er_1 => ?_)
  subst er_1
  refine lv_if_ne (tgt := 10) hx hb dX1_makeBlank_6 (by decide) (fun c_6 => ?_) (fun c_6 => ?_)
  · refine lv_iload_n hx hb dX1_makeBlank_10 rfl (lv_at hl 1 rfl) ?_
    refine lv_istore_n (lv' := [(3, .int (nI i)), (0, .ref h), (1, .int (nI i)), (2, .int (nI n))]) hx hb dX1_makeBlank_11 rfl hl (by decide) rfl (fun ls hl => ?_)
    have hW := hW.eqv (va_up_id (hH.cds hk))
    have hW : mw D (mwA M s.heap.size) (va_up M ca (some (.inl (cC, pn, .inr (.inr (.inr (.inr (blk i i none g)))))))) s.heap := by rw [blk_0]; exact hW
    have loop : ∀ (N : Nat) (j : Nat) (H : Heap) (locs : List Loc), i + n + 1 ≤ j + N → i ≤ j → j ≤ i + n → mw D (mwA M s.heap.size) (va_up M ca (some (.inl (cC, pn, .inr (.inr (.inr (.inr (blk i j none g)))))))) H → va_S (mwA M s.heap.size) s.heap H locs → ∀ (ls : Array Slot), lv_has ls 4 [(3, .int (nI j)), (0, .ref h), (1, .int (nI i)), (2, .int (nI n))] → W pr l env (headSpec wsX1_makeBlank rmX1_makeBlank).room s m ([.ref h, .int (nI i), .int (nI n)] : List Value).toArray below meth c H locs 0 0 (MQ below (va_Qv (fun M' => M' = va_up M ca (some (.inl (cC, pn, .inr (.inr (.inr (.inr (blk i (i + n) none g)))))))) (mwB D (tyL cI cJ cC cH) M s.heap.size) (mwA M s.heap.size)) ([.ref h, .int (nI i), .int (nI n)] : List Value).toArray s 0 0 (mwA M s.heap.size)) (F0 m 12 ls []) := by
      intro N
      induction N with
      | zero =>
        exact fun j H locs h1 _ h2 => absurd h1 (by omega)
      | succ N ih =>
        intro j H locs hN hj1 hj hW hS ls hl
        have hHj := hH.setC hk (blk i j none g)
        refine lv_iload_n hx hb dX1_makeBlank_12 rfl (lv_at hl 0 rfl) ?_
        refine lv_iload_n hx hb dX1_makeBlank_13 rfl (lv_at hl 2 rfl) ?_
        refine lv_iload_n hx hb dX1_makeBlank_14 rfl (lv_at hl 3 rfl) ?_
        refine lv_iadd hx hb dX1_makeBlank_15 ?_
        rw [nI_add]
        refine lv_icmp_ge (tgt := 56) hx hb dX1_makeBlank_16 (by decide) (fun c_16 => ?_) (fun c_16 => ?_)
        · have hjn : j = i + n := by
            have := (nI_leI (by omega) (by omega)).mp c_16
            omega
          exact W.vret hx hb hr (fun t ht hw => ⟨⟨va_up M ca (some (.inl (cC, pn, .inr (.inr (.inr (.inr (blk i j none g))))))), rfl, (by rw [hjn]), by rw [ht]; exact hW, va_K.moved hw.alike hK⟩, hS.F ht⟩) hS.2.2 dX1_makeBlank_56
        · have hjn : j < i + n := by
            rcases Nat.lt_or_ge j (i + n) with h9 | h9
            · exact h9
            · exact absurd (nI_le h9 (by omega)) c_16
          refine lv_aload_n hx hb dX1_makeBlank_19 rfl (lv_at hl 1 rfl) ?_
          refine vp_callSi (W.runV (As := []) (rest := []) F (c_X1_isRack hHj.1) (cwV 0 hts gX1_makeBlank_X1_isRack rfl rfl rfl (by decide +kernel) ⟨Nat.le_of_ble_eq_true rfl, Nat.le_of_ble_eq_true rfl⟩) (mw_prV (q := (RX1, TX1, 5)) hK hO hW rfl hHj.1) rfl rfl hl.1 rfl (lv_room (Nat.le_of_ble_eq_true rfl)) dX1_makeBlank_20 ⟨Nat.zero_le _, Nat.zero_le _⟩) (fun r_2 er_2 => ?_)
          subst er_2
          refine lv_if_eq (tgt := 36) hx hb dX1_makeBlank_23 (by decide) (fun c_23 => ?_) (fun c_23 => ?_)
          · exact absurd (bI_e c_23) (by rw [hk]; decide)
          · refine lv_aload_n hx hb dX1_makeBlank_26 rfl (lv_at hl 1 rfl) ?_
            refine mw_get (C := RX1) (T := TX1) (N := 5) F hK hW hI_X1 hHj.1 rfl 3 (by decide) hl_fieldLink_RX1_34_SpliceBench_Holding_cards_LSpliceBench_Card rfl dX1_makeBlank_27 ?_
            refine lv_iload_n hx hb dX1_makeBlank_30 rfl (lv_at hl 0 rfl) ?_
            refine lv_null hx hb dX1_makeBlank_31 ?_
            refine mw_aastN F hK hW hS 2 (hHj.cds hk) rfl (vp_in_nI (by omega) (by omega)) dX1_makeBlank_32 (fun H locs hW hS => ?_)
            rw [bx_uu, nI_clamp (show j < 2 ^ 31 by omega), blk_s none g (by omega)] at hW
            refine lv_goto (tgt := 50) hx hb dX1_makeBlank_33 (by decide) ?_
            refine lv_iinc (v := nI (j + 1)) (lv' := [(3, .int (nI (j + 1))), (0, .ref h), (1, .int (nI i)), (2, .int (nI n))]) hx hb dX1_makeBlank_50 hl (k := 0) rfl (nI_1 j) (by decide) rfl (fun ls hl => ?_)
            refine lv_goto (tgt := 12) hx hb dX1_makeBlank_53 (by decide) ?_
            exact ih (j + 1) H locs (by omega) (by omega) (by omega) hW hS ls (lv_sub hl [0, 1, 2, 3] rfl)
    exact loop (n + 1) i _ _ (by omega) (Nat.le_refl _) (Nat.le_add_right _ _) hW hS ls (lv_sub hl [0, 1, 2, 3] rfl)
  · exact absurd (bI_e c_6) (by rw [inPls_nI (by omega) (by omega) (by omega)]; simp; exact hi)
set_option maxHeartbeats 4000000 in
set_option maxRecDepth 100000 in
theorem c_X1_copyFromS {h : Nat} {k : Int32} {pn na ca : Nat} {lb : Int32} {f : Nat → Int64} {g : Nat → Option Nat} {h' : Nat} {k' : Int32} {pn' na' ca' : Nat} {lb' : Int32} {f' : Nat → Int64} {g' : Nat → Option Nat} {i j n : Nat} (hH : hOk M cJ cC h k pn na ca lb f g) (hH' : hOk M cJ cC h' k' pn' na' ca' lb' f' g') (hk : kStrip k = true) (hk' : kStrip k' = true) (hi : i + n ≤ pn') (hj : j + n ≤ pn) : Met l yX1_copyFrom wsX1_copyFrom rmX1_copyFrom (va_Pc [.ref h, .ref h', .int (nI i), .int (nI j), .int (nI n)] (mwPre D (tyL cI cJ cC cH) M sz)) (va_Qv (fun M' => M' = va_up M na (some (.inl (cJ, pn, .inr (.inl (va_cpy f' f i j n)))))) (mwB D (tyL cI cJ cC cH) M sz) (mwA M sz)) 0 0 (mwA M sz) := by
  refine Met.ofW (cc := cX1_copyFrom) (maxL := 5) (ret := none) (by decide) rfl ?_
  intro pr env s m args below meth c s₁ B hml hv
  obtain ⟨rfl, hsz, hW, hK, hO⟩ := hv
  subst hsz
  have hW := hW.self (sz := s.heap.size)
  have hS : va_S (mwA M s.heap.size) s.heap s.heap [] := va_S.rf
  have hA : ∀ q, s.heap.size ≤ q → mwA M s.heap.size q := fun q h => Or.inr h
  have hx := B.exec
  have hb := B.bytes
  have hr := B.returns
  have hts := atoms_spec (ws := wsX1_copyFrom) B.pre
  have hown : s.vm.findClass RX1 = some m.cls := findClass_of_methodNamed B.named
  have hlocks := B.notSynchronized
  have F : CallFix pr m c cX1_copyFrom 5 s ([.ref h, .ref h', .int (nI i), .int (nI j), .int (nI n)] : List Value).toArray wsX1_copyFrom RX1 := ⟨hx, hb, hml, hown, hts⟩
  have hI_X1 : ∀ w ∈ wsX10, w ∈ wsX1_copyFrom := by decide +kernel
  have hl_fieldLink_RX1_25_SpliceBench_Holding_numbers_J := hts (.fieldLink RX1 25 "SpliceBench$Holding" "numbers" "[J") (by decide +kernel)
  have hl_methodLink_RX1_58_arraycopyName := hts (.methodLink RX1 58 arraycopyName) (by decide +kernel)
  have hl_native_arraycopyName := hts (.native arraycopyName) (by decide +kernel)
  have hl_static_arraycopyName := hts (.static arraycopyName) (by decide +kernel)
  have hl_initialized_java_lang_System := hts (.initialized "java/lang/System") (by decide +kernel)
  have hp8 := hH.2.1
  have hp8' := hH'.2.1
  have hl := lv_entry ([.ref h, .ref h', .int (nI i), .int (nI j), .int (nI n)]) (n := 5) (Nat.le_of_ble_eq_true rfl)
  rw [lg_entry_eq]
  generalize (lg_sl ([.ref h, .ref h', .int (nI i), .int (nI j), .int (nI n)]) ++ List.replicate (5 - (lg_sl ([.ref h, .ref h', .int (nI i), .int (nI j), .int (nI n)])).length) Slot.unset).toArray = ls at hl ⊢
  have hl : lv_has ls 5 [(0, .ref h), (1, .ref h'), (2, .int (nI i)), (3, .int (nI j)), (4, .int (nI n))] := hl
  refine lv_aload_n hx hb dX1_copyFrom_0 rfl (lv_at hl 1 rfl) ?_
  refine lv_iload_n hx hb dX1_copyFrom_1 rfl (lv_at hl 2 rfl) ?_
  refine lv_iload hx hb dX1_copyFrom_2 (lv_at hl 4 rfl) ?_
  refine vp_callSi (W.runV (As := [.int (nI i), .int (nI n)]) (rest := []) F (c_X1_hasPlaces (i := nI i) (n := nI n) hH') (cwV 2 hts gX1_copyFrom_X1_hasPlaces rfl rfl rfl (by decide +kernel) ⟨Nat.le_of_ble_eq_true rfl, Nat.le_of_ble_eq_true rfl⟩) (mw_prV (q := (RX1, TX1, 5)) hK hO hW rfl hH'.1) rfl rfl hl.1 rfl (lv_room (Nat.le_of_ble_eq_true rfl)) dX1_copyFrom_4 ⟨Nat.zero_le _, Nat.zero_le _⟩) (fun r_1 er_1 => ?_)
  subst er_1
  refine lv_if_eq (tgt := 20) hx hb dX1_copyFrom_7 (by decide) (fun c_7 => ?_) (fun c_7 => ?_)
  · exact absurd (bI_e c_7) (by rw [inPls_nI (by omega) (by omega) (by omega)]; simp; exact hi)
  · refine lv_aload_n hx hb dX1_copyFrom_10 rfl (lv_at hl 0 rfl) ?_
    refine lv_iload_n hx hb dX1_copyFrom_11 rfl (lv_at hl 3 rfl) ?_
    refine lv_iload hx hb dX1_copyFrom_12 (lv_at hl 4 rfl) ?_
    refine vp_callSi (W.runV (As := [.int (nI j), .int (nI n)]) (rest := []) F (c_X1_hasPlaces (i := nI j) (n := nI n) hH) (cwV 2 hts gX1_copyFrom_X1_hasPlaces rfl rfl rfl (by decide +kernel) ⟨Nat.le_of_ble_eq_true rfl, Nat.le_of_ble_eq_true rfl⟩) (mw_prV (q := (RX1, TX1, 5)) hK hO hW rfl hH.1) rfl rfl hl.1 rfl (lv_room (Nat.le_of_ble_eq_true rfl)) dX1_copyFrom_14 ⟨Nat.zero_le _, Nat.zero_le _⟩) (fun r_2 er_2 => ?_)
    subst er_2
    refine lv_if_ne (tgt := 21) hx hb dX1_copyFrom_17 (by decide) (fun c_17 => ?_) (fun c_17 => ?_)
    · refine lv_aload_n hx hb dX1_copyFrom_21 rfl (lv_at hl 0 rfl) ?_
      refine vp_callSi (W.runV (As := []) (rest := []) F (c_X1_isRack hH.1) (cwV 0 hts gX1_copyFrom_X1_isRack rfl rfl rfl (by decide +kernel) ⟨Nat.le_of_ble_eq_true rfl, Nat.le_of_ble_eq_true rfl⟩) (mw_prV (q := (RX1, TX1, 5)) hK hO hW rfl hH.1) rfl rfl hl.1 rfl (lv_room (Nat.le_of_ble_eq_true rfl)) dX1_copyFrom_22 ⟨Nat.zero_le _, Nat.zero_le _⟩) (fun r_3 er_3 => ?_)
      subst er_3
      refine lv_if_eq (tgt := 53) hx hb dX1_copyFrom_25 (by decide) (fun c_25 => ?_) (fun c_25 => ?_)
      · refine lv_aload_n hx hb dX1_copyFrom_53 rfl (lv_at hl 0 rfl) ?_
        refine vp_callSi (W.runV (As := []) (rest := []) F (c_X1_isStrip hH.1) (cwV 0 hts gX1_copyFrom_X1_isStrip rfl rfl rfl (by decide +kernel) ⟨Nat.le_of_ble_eq_true rfl, Nat.le_of_ble_eq_true rfl⟩) (mw_prV (q := (RX1, TX1, 5)) hK hO hW rfl hH.1) rfl rfl hl.1 rfl (lv_room (Nat.le_of_ble_eq_true rfl)) dX1_copyFrom_54 ⟨Nat.zero_le _, Nat.zero_le _⟩) (fun r_4 er_4 => ?_)
        subst er_4
        refine lv_if_eq (tgt := 82) hx hb dX1_copyFrom_57 (by decide) (fun c_57 => ?_) (fun c_57 => ?_)
        · exact absurd (bI_e c_57) (by rw [hk]; decide)
        · refine lv_aload_n hx hb dX1_copyFrom_60 rfl (lv_at hl 1 rfl) ?_
          refine vp_callSi (W.runV (As := []) (rest := []) F (c_X1_isStrip hH'.1) (cwV 0 hts gX1_copyFrom_X1_isStrip rfl rfl rfl (by decide +kernel) ⟨Nat.le_of_ble_eq_true rfl, Nat.le_of_ble_eq_true rfl⟩) (mw_prV (q := (RX1, TX1, 5)) hK hO hW rfl hH'.1) rfl rfl hl.1 rfl (lv_room (Nat.le_of_ble_eq_true rfl)) dX1_copyFrom_61 ⟨Nat.zero_le _, Nat.zero_le _⟩) (fun r_5 er_5 => ?_)
          subst er_5
          refine lv_if_eq (tgt := 82) hx hb dX1_copyFrom_64 (by decide) (fun c_64 => ?_) (fun c_64 => ?_)
          · exact absurd (bI_e c_64) (by rw [hk']; decide)
          · refine lv_aload_n hx hb dX1_copyFrom_67 rfl (lv_at hl 1 rfl) ?_
            refine mw_get (C := RX1) (T := TX1) (N := 5) F hK hW hI_X1 hH'.1 rfl 2 (by decide) hl_fieldLink_RX1_25_SpliceBench_Holding_numbers_J rfl dX1_copyFrom_68 ?_
            refine lv_iload_n hx hb dX1_copyFrom_71 rfl (lv_at hl 2 rfl) ?_
            refine lv_aload_n hx hb dX1_copyFrom_72 rfl (lv_at hl 0 rfl) ?_
            refine mw_get (C := RX1) (T := TX1) (N := 5) F hK hW hI_X1 hH.1 rfl 2 (by decide) hl_fieldLink_RX1_25_SpliceBench_Holding_numbers_J rfl dX1_copyFrom_73 ?_
            refine lv_iload_n hx hb dX1_copyFrom_76 rfl (lv_at hl 3 rfl) ?_
            refine lv_iload hx hb dX1_copyFrom_77 (lv_at hl 4 rfl) ?_
            refine mw_copyl F hl.1 hK hW hS 1 hl_methodLink_RX1_58_arraycopyName hl_native_arraycopyName hl_static_arraycopyName hl_initialized_java_lang_System (hH'.nms hk') (hH.nms hk) rfl (nI_pos (by omega)) (nI_pos (by omega)) (nI_pos (by omega)) (by rw [nI_clamp (show i < 2 ^ 31 by omega), nI_clamp (show n < 2 ^ 31 by omega)]; exact hi) (by rw [nI_clamp (show j < 2 ^ 31 by omega), nI_clamp (show n < 2 ^ 31 by omega)]; exact hj) (Nat.le_of_ble_eq_true rfl) (Nat.le_of_ble_eq_true rfl) dX1_copyFrom_79 (fun H locs hW hS => ?_)
            rw [nI_clamp (show i < 2 ^ 31 by omega), nI_clamp (show j < 2 ^ 31 by omega), nI_clamp (show n < 2 ^ 31 by omega)] at hW
            exact W.vret hx hb hr (fun t ht hw => ⟨⟨va_up M na (some (.inl (cJ, pn, .inr (.inl (va_cpy f' f i j n))))), rfl, rfl, by rw [ht]; exact hW, va_K.moved hw.alike hK⟩, hS.F ht⟩) hS.2.2 dX1_copyFrom_82
      · exact absurd (bI_n c_25) (by rw [kSR hk]; decide)
    · exact absurd (bI_e c_17) (by rw [inPls_nI (by omega) (by omega) (by omega)]; simp; exact hj)
set_option maxHeartbeats 4000000 in
set_option maxRecDepth 100000 in
theorem c_X1_makeBlankS {h : Nat} {k : Int32} {pn na ca : Nat} {lb : Int32} {f : Nat → Int64} {g : Nat → Option Nat} {i n : Nat} (hH : hOk M cJ cC h k pn na ca lb f g) (hk : kStrip k = true) (hi : i + n ≤ pn) : Met l yX1_makeBlank wsX1_makeBlank rmX1_makeBlank (va_Pc [.ref h, .int (nI i), .int (nI n)] (mwPre D (tyL cI cJ cC cH) M sz)) (va_Qv (fun M' => M' = va_up M na (some (.inl (cJ, pn, .inr (.inl (blk i (i + n) 0 f)))))) (mwB D (tyL cI cJ cC cH) M sz) (mwA M sz)) 0 0 (mwA M sz) := by
  refine Met.ofW (cc := cX1_makeBlank) (maxL := 4) (ret := none) (by decide) rfl ?_
  intro pr env s m args below meth c s₁ B hml hv
  obtain ⟨rfl, hsz, hW, hK, hO⟩ := hv
  subst hsz
  have hW := hW.self (sz := s.heap.size)
  have hS : va_S (mwA M s.heap.size) s.heap s.heap [] := va_S.rf
  have hA : ∀ q, s.heap.size ≤ q → mwA M s.heap.size q := fun q h => Or.inr h
  have hx := B.exec
  have hb := B.bytes
  have hr := B.returns
  have hts := atoms_spec (ws := wsX1_makeBlank) B.pre
  have hown : s.vm.findClass RX1 = some m.cls := findClass_of_methodNamed B.named
  have hlocks := B.notSynchronized
  have F : CallFix pr m c cX1_makeBlank 4 s ([.ref h, .int (nI i), .int (nI n)] : List Value).toArray wsX1_makeBlank RX1 := ⟨hx, hb, hml, hown, hts⟩
  have hI_X1 : ∀ w ∈ wsX10, w ∈ wsX1_makeBlank := by decide +kernel
  have hl_fieldLink_RX1_25_SpliceBench_Holding_numbers_J := hts (.fieldLink RX1 25 "SpliceBench$Holding" "numbers" "[J") (by decide +kernel)
  have hp8 := hH.2.1
  have hl := lv_entry ([.ref h, .int (nI i), .int (nI n)]) (n := 4) (Nat.le_of_ble_eq_true rfl)
  rw [lg_entry_eq]
  generalize (lg_sl ([.ref h, .int (nI i), .int (nI n)]) ++ List.replicate (4 - (lg_sl ([.ref h, .int (nI i), .int (nI n)])).length) Slot.unset).toArray = ls at hl ⊢
  have hl : lv_has ls 4 [(0, .ref h), (1, .int (nI i)), (2, .int (nI n))] := hl
  refine lv_aload_n hx hb dX1_makeBlank_0 rfl (lv_at hl 0 rfl) ?_
  refine lv_iload_n hx hb dX1_makeBlank_1 rfl (lv_at hl 1 rfl) ?_
  refine lv_iload_n hx hb dX1_makeBlank_2 rfl (lv_at hl 2 rfl) ?_
  refine vp_callSi (W.runV (As := [.int (nI i), .int (nI n)]) (rest := []) F (c_X1_hasPlaces (i := nI i) (n := nI n) hH) (cwV 2 hts gX1_makeBlank_X1_hasPlaces rfl rfl rfl (by decide +kernel) ⟨Nat.le_of_ble_eq_true rfl, Nat.le_of_ble_eq_true rfl⟩) (mw_prV (q := (RX1, TX1, 5)) hK hO hW rfl hH.1) rfl rfl hl.1 rfl (lv_room (Nat.le_of_ble_eq_true rfl)) dX1_makeBlank_3 ⟨Nat.zero_le _, Nat.zero_le _⟩) (fun r_1 er_1 => ?_)
  subst er_1
  refine lv_if_ne (tgt := 10) hx hb dX1_makeBlank_6 (by decide) (fun c_6 => ?_) (fun c_6 => ?_)
  · refine lv_iload_n hx hb dX1_makeBlank_10 rfl (lv_at hl 1 rfl) ?_
    refine lv_istore_n (lv' := [(3, .int (nI i)), (0, .ref h), (1, .int (nI i)), (2, .int (nI n))]) hx hb dX1_makeBlank_11 rfl hl (by decide) rfl (fun ls hl => ?_)
    have hW := hW.eqv (va_up_id (hH.nms hk))
    have hW : mw D (mwA M s.heap.size) (va_up M na (some (.inl (cJ, pn, .inr (.inl (blk i i 0 f)))))) s.heap := by rw [blk_0]; exact hW
    have loop : ∀ (N : Nat) (j : Nat) (H : Heap) (locs : List Loc), i + n + 1 ≤ j + N → i ≤ j → j ≤ i + n → mw D (mwA M s.heap.size) (va_up M na (some (.inl (cJ, pn, .inr (.inl (blk i j 0 f)))))) H → va_S (mwA M s.heap.size) s.heap H locs → ∀ (ls : Array Slot), lv_has ls 4 [(3, .int (nI j)), (0, .ref h), (1, .int (nI i)), (2, .int (nI n))] → W pr l env (headSpec wsX1_makeBlank rmX1_makeBlank).room s m ([.ref h, .int (nI i), .int (nI n)] : List Value).toArray below meth c H locs 0 0 (MQ below (va_Qv (fun M' => M' = va_up M na (some (.inl (cJ, pn, .inr (.inl (blk i (i + n) 0 f)))))) (mwB D (tyL cI cJ cC cH) M s.heap.size) (mwA M s.heap.size)) ([.ref h, .int (nI i), .int (nI n)] : List Value).toArray s 0 0 (mwA M s.heap.size)) (F0 m 12 ls []) := by
      intro N
      induction N with
      | zero =>
        exact fun j H locs h1 _ h2 => absurd h1 (by omega)
      | succ N ih =>
        intro j H locs hN hj1 hj hW hS ls hl
        have hHj := hH.setN hk (blk i j 0 f)
        refine lv_iload_n hx hb dX1_makeBlank_12 rfl (lv_at hl 0 rfl) ?_
        refine lv_iload_n hx hb dX1_makeBlank_13 rfl (lv_at hl 2 rfl) ?_
        refine lv_iload_n hx hb dX1_makeBlank_14 rfl (lv_at hl 3 rfl) ?_
        refine lv_iadd hx hb dX1_makeBlank_15 ?_
        rw [nI_add]
        refine lv_icmp_ge (tgt := 56) hx hb dX1_makeBlank_16 (by decide) (fun c_16 => ?_) (fun c_16 => ?_)
        · have hjn : j = i + n := by
            have := (nI_leI (by omega) (by omega)).mp c_16
            omega
          exact W.vret hx hb hr (fun t ht hw => ⟨⟨va_up M na (some (.inl (cJ, pn, .inr (.inl (blk i j 0 f))))), rfl, (by rw [hjn]), by rw [ht]; exact hW, va_K.moved hw.alike hK⟩, hS.F ht⟩) hS.2.2 dX1_makeBlank_56
        · have hjn : j < i + n := by
            rcases Nat.lt_or_ge j (i + n) with h9 | h9
            · exact h9
            · exact absurd (nI_le h9 (by omega)) c_16
          refine lv_aload_n hx hb dX1_makeBlank_19 rfl (lv_at hl 1 rfl) ?_
          refine vp_callSi (W.runV (As := []) (rest := []) F (c_X1_isRack hHj.1) (cwV 0 hts gX1_makeBlank_X1_isRack rfl rfl rfl (by decide +kernel) ⟨Nat.le_of_ble_eq_true rfl, Nat.le_of_ble_eq_true rfl⟩) (mw_prV (q := (RX1, TX1, 5)) hK hO hW rfl hHj.1) rfl rfl hl.1 rfl (lv_room (Nat.le_of_ble_eq_true rfl)) dX1_makeBlank_20 ⟨Nat.zero_le _, Nat.zero_le _⟩) (fun r_2 er_2 => ?_)
          subst er_2
          refine lv_if_eq (tgt := 36) hx hb dX1_makeBlank_23 (by decide) (fun c_23 => ?_) (fun c_23 => ?_)
          · refine lv_aload_n hx hb dX1_makeBlank_36 rfl (lv_at hl 1 rfl) ?_
            refine vp_callSi (W.runV (As := []) (rest := []) F (c_X1_isStrip hHj.1) (cwV 0 hts gX1_makeBlank_X1_isStrip rfl rfl rfl (by decide +kernel) ⟨Nat.le_of_ble_eq_true rfl, Nat.le_of_ble_eq_true rfl⟩) (mw_prV (q := (RX1, TX1, 5)) hK hO hW rfl hHj.1) rfl rfl hl.1 rfl (lv_room (Nat.le_of_ble_eq_true rfl)) dX1_makeBlank_37 ⟨Nat.zero_le _, Nat.zero_le _⟩) (fun r_3 er_3 => ?_)
            subst er_3
            refine lv_if_eq (tgt := 50) hx hb dX1_makeBlank_40 (by decide) (fun c_40 => ?_) (fun c_40 => ?_)
            · exact absurd (bI_e c_40) (by rw [hk]; decide)
            · refine lv_aload_n hx hb dX1_makeBlank_43 rfl (lv_at hl 1 rfl) ?_
              refine mw_get (C := RX1) (T := TX1) (N := 5) F hK hW hI_X1 hHj.1 rfl 2 (by decide) hl_fieldLink_RX1_25_SpliceBench_Holding_numbers_J rfl dX1_makeBlank_44 ?_
              refine lv_iload_n hx hb dX1_makeBlank_47 rfl (lv_at hl 0 rfl) ?_
              refine lv_lconst (v := 0) hx hb dX1_makeBlank_48 (by decide) ?_
              refine mw_last F hK hW hS 1 (hHj.nms hk) rfl (vp_in_nI (by omega) (by omega)) dX1_makeBlank_49 (fun H locs hW hS => ?_)
              rw [bx_uu, nI_clamp (show j < 2 ^ 31 by omega), blk_sL 0 f (by omega)] at hW
              refine lv_iinc (v := nI (j + 1)) (lv' := [(3, .int (nI (j + 1))), (0, .ref h), (1, .int (nI i)), (2, .int (nI n))]) hx hb dX1_makeBlank_50 hl (k := 0) rfl (nI_1 j) (by decide) rfl (fun ls hl => ?_)
              refine lv_goto (tgt := 12) hx hb dX1_makeBlank_53 (by decide) ?_
              exact ih (j + 1) H locs (by omega) (by omega) (by omega) hW hS ls (lv_sub hl [0, 1, 2, 3] rfl)
          · exact absurd (bI_n c_23) (by rw [kSR hk]; decide)
    exact loop (n + 1) i _ _ (by omega) (Nat.le_refl _) (Nat.le_add_right _ _) hW hS ls (lv_sub hl [0, 1, 2, 3] rfl)
  · exact absurd (bI_e c_6) (by rw [inPls_nI (by omega) (by omega) (by omega)]; simp; exact hi)
end X1W
