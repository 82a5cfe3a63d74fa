set_option maxHeartbeats 4000000 in
set_option maxRecDepth 100000 in
theorem whole_start {p : Program} {e : Env} {s : State} {m : MethodId} {below : List Frame} {meth : Method} {c : Code} (l : Launch) {b L : Nat} {xs : Nat → Int32} (hL : L ≤ 3072) (C0 : lw_At p s m meth c b L xs) : W p l e room_1 s m #[Value.ref b] below meth c s.heap [] 0 0 (lw_Z below #[Value.ref b] s) (entryFrame m ([Value.ref b] : List Value).toArray 4) := by
  obtain ⟨hx, hb, hr, hml, hown0, htsT, hX, hbl, hlocks, hgv⟩ := id C0
  have hown : s.vm.findClass RL = some m.cls := hown0
  have hts : ∀ w ∈ wsL_law, w.before #[Value.ref b] s = true := fun w h => htsT w (wsL_law_in w h)
  have hA : ∀ q : Nat, s.heap.size ≤ q → (fun q : Nat => s.heap.size ≤ q) q := fun _ h => h
  have F : CallFix p m c cL_law 4 s #[Value.ref b] wsL_law RL := ⟨hx, hb, hml, hown, hts⟩
  have iX2 := hts (.instantiable RX2 8) (List.mem_of_getElem? (i := 1) rfl)
  have iX3 := hts (.instantiable RX3 14) (List.mem_of_getElem? (i := 4) rfl)
  have iX1 := hts (.instantiable RX1 5) (List.mem_of_getElem? (i := 21) rfl)
  have iX0 := hts (.instantiable RX0 3) (List.mem_of_getElem? (i := 103) rfl)
  obtain ⟨c0, iS0, hKn0⟩ := u_known (C := RX0) (T := TX0) (N := 3) (n := 3) hts inlX0 iX0
  obtain ⟨c1, iS1, hKn1⟩ := u_known (C := RX1) (T := TX1) (N := 5) (n := 5) hts inlX1 iX1
  obtain ⟨c2, iS2, hKn2⟩ := u_known (C := RX2) (T := TX2) (N := 8) (n := 8) hts inlX2 iX2
  obtain ⟨c3, iS3, hKn3⟩ := u_known (C := RX3) (T := TX3) (N := 14) (n := 14) hts inlX3 iX3
  obtain ⟨dC, dI, hKc⟩ : ∃ (dC : Nat → ClassId) (dI : Nat → Nat → Nat), ∀ (k : Nat) (q : vw_C), vwCl[k]? = some q → u_Kn s q.1 q.2.1 q.2.2 (dC k) (dI k) := by
    refine ⟨fun k => if k = 0 then c0 else if k = 1 then c1 else if k = 2 then c2 else c3, fun k => if k = 0 then iS0 else if k = 1 then iS1 else if k = 2 then iS2 else iS3, ?_⟩
    intro k q hq
    match k, hq with
    | 0, hq => cases hq; exact hKn0
    | 1, hq => cases hq; exact hKn1
    | 2, hq => cases hq; exact hKn2
    | 3, hq => cases hq; exact hKn3
    | k + 4, hq => simp [vwCl] at hq
  have wI := hts (.arrayClass .int) (List.mem_of_getElem? (i := 15) rfl)
  have wJ := hts (.arrayClass .long) (List.mem_of_getElem? (i := 32) rfl)
  have wH := htsT (.arrayOver (.object RX1)) (List.mem_of_getElem? (i := 32) (by decide +kernel))
  have wC := htsT (.arrayOver (.object RX0)) (List.mem_of_getElem? (i := 47) (by decide +kernel))
  obtain ⟨cI, kI, pI, fI1, fI2, fI3⟩ := Cond.arrayClass_spec wI
  obtain ⟨cJ, kJ, pJ, fJ1, fJ2, fJ3⟩ := Cond.arrayClass_spec wJ
  obtain ⟨pH, cH, kH, fH1, -, fH2, fH3, fH4⟩ := Cond.arrayOver_spec wH
  obtain ⟨pC, cC, kC, fC1, -, fC2, fC3, fC4⟩ := Cond.arrayOver_spec wC
  have hK : va_K (dC, dI) vwCl (tyL cI cJ cC cH) s := ⟨hKc, fun k q hq => by
    match k, hq with
    | 0, hq => cases hq; exact ⟨fun n z => ⟨fun k h => (by cases h), kI, fI2, pI, fI3⟩, fI1⟩
    | 1, hq => cases hq; exact ⟨fun n z => ⟨fun k h => (by cases h), kJ, fJ2, pJ, fJ3⟩, fJ1⟩
    | 2, hq => cases hq; exact ⟨fun n z => ⟨fun k h => (by cases h), kC, fC2, pC, fC3⟩, kC, pC, fC2, fC3, fC1, fC4⟩
    | 3, hq => cases hq; exact ⟨fun n z => ⟨fun k h => (by cases h), kH, fH2, pH, fH3⟩, kH, pH, fH2, fH3, fH1, fH4⟩
    | k + 4, hq => simp [tyL] at hq⟩
  have hO : kO s := ⟨va_AO.of wC, va_AO.of wH⟩
  have hS : va_S (fun q : Nat => s.heap.size ≤ q) s.heap s.heap [] := va_S.rf
  have hW0 : mw (dC, dI) (fun q : Nat => s.heap.size ≤ q) (fun _ => none) s.heap := ⟨[], fun _ => .inr (0, []), fun a => rfl, fun k q h => by simp [va_pl] at h, fun i j p q h => by simp [va_pl] at h, fun k q h => by simp [va_pl] at h⟩
  have hl := lv_entry ([.ref b]) (n := 4) (Nat.le_of_ble_eq_true rfl)
  rw [lg_entry_eq]
  generalize (lg_sl ([.ref b]) ++ List.replicate (4 - (lg_sl ([.ref b])).length) Slot.unset).toArray = ls at hl ⊢
  have hl : lv_has ls 4 [(0, .ref b)] := hl
  have nX2 := hts (.initialized RX2) (List.mem_of_getElem? (i := 2) rfl)
  have nX3 := hts (.initialized RX3) (List.mem_of_getElem? (i := 5) rfl)
  refine mw_new (C := RX2) (T := TX2) (N := 8) (ci := 2) (fs := [.null, .null, .int 0, .int 0, .int 0, .null, .null, .null]) F hK hW0 hS hA inlX2 tyX2 tyX2_ok (hts (.classLink RL 7 RX2) (List.mem_of_getElem? (i := 0) rfl)) iX2 nX2 rfl (fun q hq => by rcases (show q = 0 ∨ q = 1 ∨ q = 2 ∨ q = 3 ∨ q = 4 ∨ q = 5 ∨ q = 6 ∨ q = 7 by omega) with rfl | rfl | rfl | rfl | rfl | rfl | rfl | rfl <;> rfl) (Nat.le_of_ble_eq_true rfl) (Nat.le_of_ble_eq_true rfl) dL_law_0 (fun x H hx0 hWX hS => ?_)
  refine lv_dup hx hb dL_law_3 rfl ?_
  refine mw_callv (va_runI (As := []) (rest := [.ref x]) F (c_X2_init (va_up_self _ _ _)) (cwI 0 hts gL_law_X2_init rfl rfl rfl nX2 (hts (.methodLink RL 9 yX2_init) (List.mem_of_getElem? (i := 7) rfl)) (hts (.instanceMethod yX2_init) (List.mem_of_getElem? (i := 8) rfl)) rfl (by decide +kernel) ⟨Nat.le_of_ble_eq_true rfl, Nat.le_of_ble_eq_true rfl⟩) (mw_prS hK hO hWX) rfl rfl hl.1 rfl (lv_room (Nat.le_of_ble_eq_true rfl)) dL_law_4 ⟨Nat.le_of_ble_eq_true rfl, Nat.le_of_ble_eq_true rfl⟩) hWX hS hA (fun MX H locs hZ hWX hS => ?_)
  obtain ⟨θ, hZ⟩ := hZ
  refine lv_astore_n (lv' := [(1, .ref x), (0, .ref b)]) hx hb dL_law_7 rfl hl (by decide) rfl (fun ls hl => ?_)
  refine mw2_new (C := RX3) (T := TX3) (N := 14) (ci := 3) (fs := [.null, .null, .null, .null, .null, .null, .null, .null, .null, .int 0, .int 0, .int 0, .int 0, .int 0]) F hK hWX hS hA inlX3 tyX3 tyX3_ok (hts (.classLink RL 10 RX3) (List.mem_of_getElem? (i := 3) rfl)) iX3 nX3 rfl (fun q hq => by rcases (show q = 0 ∨ q = 1 ∨ q = 2 ∨ q = 3 ∨ q = 4 ∨ q = 5 ∨ q = 6 ∨ q = 7 ∨ q = 8 ∨ q = 9 ∨ q = 10 ∨ q = 11 ∨ q = 12 ∨ q = 13 by omega) with rfl | rfl | rfl | rfl | rfl | rfl | rfl | rfl | rfl | rfl | rfl | rfl | rfl | rfl <;> rfl) (Nat.le_of_ble_eq_true rfl) (Nat.le_of_ble_eq_true rfl) dL_law_8 (fun mm H hWX hWR hd hS => ?_)
  refine lv_dup hx hb dL_law_11 rfl ?_
  refine mw2_callv (va_runI (As := []) (rest := [.ref mm]) F (c_X3_init (va_up_self _ _ _)) (cwI 0 hts gL_law_X3_init rfl rfl rfl nX3 (hts (.methodLink RL 12 yX3_init) (List.mem_of_getElem? (i := 44) rfl)) (hts (.instanceMethod yX3_init) (List.mem_of_getElem? (i := 45) rfl)) rfl (by decide +kernel) ⟨Nat.le_of_ble_eq_true rfl, Nat.le_of_ble_eq_true rfl⟩) (mw_prS hK hO hWR) rfl rfl hl.1 rfl (lv_room (Nat.le_of_ble_eq_true rfl)) dL_law_12 ⟨Nat.le_of_ble_eq_true rfl, Nat.le_of_ble_eq_true rfl⟩) hWR hWX hd.symm hS hA (fun MR H locs hR hWR hWX hd hS => ?_)
  obtain ⟨ad, hR⟩ := hR
  refine lv_astore_n (lv' := [(2, .ref mm), (1, .ref x), (0, .ref b)]) hx hb dL_law_15 rfl hl (by decide) rfl (fun ls hl => ?_)
  refine lv_iconst (v := 0) hx hb dL_law_16 (by decide) ?_
  refine lv_istore_n (lv' := [(3, .int 0), (2, .ref mm), (1, .ref x), (0, .ref b)]) hx hb dL_law_17 rfl hl (by decide) rfl (fun ls hl => ?_)
  refine W.widen (k := 22 + 3 * 0) (n := 5381 + 85 * 0) (by omega) (by omega) ?_
  exact lw_loop hr hlocks F hX hbl hK hO hL 513 0 rs0 θ MX MR H locs ls (by omega) (by omega) inv0 hZ hR hWX hWR hd.symm hS hl
