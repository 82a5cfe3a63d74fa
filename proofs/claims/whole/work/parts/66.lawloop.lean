theorem lw_sub6 {L : Nat} (hL : L ≤ 3072) : (Int32.ofNat L - 6).toInt = (L : Int) - 6 := by
  have e : Int32.ofNat L = nI L := rfl
  rw [e, Int32.toInt_sub, nI_toInt (by omega), show (6 : Int32).toInt = 6 from rfl]
  rw [Int.bmod_eq_of_le] <;> omega
set_option maxHeartbeats 4000000 in
set_option maxRecDepth 100000 in
theorem lw_loop {p : Program} {l : Launch} {e : Env} {s : State} {m : MethodId} {below : List Frame} {meth : Method} {c : Code} {b L : Nat} {xs : Nat → Int32} {D : va_G} {cI cJ cC cH : ClassId} {x mm : Nat} {ad : Nat → Nat} (hr : meth.sig.returnType = ret) (hlocks : meth.locks = false) (F : CallFix p m c cL_law 4 s #[Value.ref b] wsL_law RL) (hX : va_X b L xs s s.heap) (hbl : b < s.heap.size) (hK : va_K D vwCl (tyL cI cJ cC cH) s) (hO : kO s) (hL : L ≤ 3072) : ∀ (N n : Nat) (σ : RS) (θ : TH) (MX MR : Nat → Option va_E) (H : Heap) (locs : List Loc) (ls : Array Slot), 513 ≤ n + N → n ≤ 512 → Inv σ n → Sim cI cJ cC cH x θ σ MX → refAt cI cJ mm ad σ MR → mw D (fun q : Nat => s.heap.size ≤ q) MX H → mw D (fun q : Nat => s.heap.size ≤ q) MR H → dj MX MR → va_S (fun q : Nat => s.heap.size ≤ q) s.heap H locs → lv_has ls 4 [(3, .int (nI (6 * n))), (2, .ref mm), (1, .ref x), (0, .ref b)] → W p l e room_1 s m #[Value.ref b] below meth c H locs (22 + 3 * n) (5381 + 85 * n) (lw_Z below #[Value.ref b] s) (F0 m 18 ls []) := by
  obtain ⟨hx, hb, hml, hown, hts⟩ := id F
  have hbA : ¬ (fun q : Nat => s.heap.size ≤ q) b := Nat.not_le.mpr hbl
  intro N
  induction N with
  | zero => exact fun n σ θ MX MR H locs ls h1 h2 => absurd h1 (by omega)
  | succ N ih =>
    intro n σ θ MX MR H locs ls hN hn0 hI hZ hR hWX hWR hd hS hl
    refine lv_iload_n hx hb dL_law_18 rfl (lv_at hl 0 rfl) ?_
    refine lv_aload_n hx hb dL_law_19 rfl (lv_at hl 3 rfl) ?_
    refine va_slen hx hb hX hbl hbA hS dL_law_20 ?_
    refine lv_bipush (v := 6) hx hb dL_law_21 (by decide) ?_
    refine lv_isub hx hb dL_law_23 ?_
    refine lv_icmp_gt (tgt := 653) hx hb dL_law_24 (by decide) (fun _ => ?_) (fun hc => ?_)
    · refine lv_iconst (v := 1) hx hb dL_law_653 (by decide) ?_
      refine va_forget hS.2.2 ?_
      refine W.widen (k := 600000) (n := 7302250) (by omega) (by omega) ?_
      exact lw_ret hx hb hr hlocks dL_law_654
    · have hnL : 6 * n + 6 ≤ L := by
        rw [Int32.lt_iff_toInt_lt] at hc
        have e1 : (nI (6 * n)).toInt = ((6 * n : Nat) : Int) := nI_toInt (by omega)
        have e2 : (Int32.ofNat L - 6).toInt = (L : Int) - 6 := lw_sub6 hL
        rw [e1, e2] at hc
        omega
      have hn : n < 512 := by omega
      have next : ∀ (σ' : RS) (θ' : TH) (MX' MR' : Nat → Option va_E) (H' : Heap) (locs' : List Loc), Inv σ' (n + 1) → Sim cI cJ cC cH x θ' σ' MX' → refAt cI cJ mm ad σ' MR' → mw D (fun q : Nat => s.heap.size ≤ q) MX' H' → mw D (fun q : Nat => s.heap.size ≤ q) MR' H' → dj MX' MR' → va_S (fun q : Nat => s.heap.size ≤ q) s.heap H' locs' → W p l e room_1 s m #[Value.ref b] below meth c H' locs' (22 + 3 * (n + 1)) (5381 + 85 * (n + 1)) (lw_Z below #[Value.ref b] s) (F0 m 647 ls []) := by
        intro σ' θ' MX' MR' H' locs' hI' hZ' hR' hWX' hWR' hd' hS'
        refine lv_iinc (v := nI (6 * (n + 1))) (lv' := [(3, .int (nI (6 * (n + 1)))), (2, .ref mm), (1, .ref x), (0, .ref b)]) hx hb dL_law_647 hl (k := 0) rfl (nI_add (6 * n) 6) (by decide) rfl (fun ls hl => ?_)
        refine lv_goto (tgt := 18) hx hb dL_law_650 (by decide) ?_
        exact ih (n + 1) σ' θ' MX' MR' H' locs' ls (by omega) (by omega) hI' hZ' hR' hWX' hWR' hd' hS' hl
      refine lv_aload_n hx hb dL_law_27 rfl (lv_at hl 3 rfl) ?_
      refine lv_iload_n hx hb dL_law_28 rfl (lv_at hl 0 rfl) ?_
      refine va_sld hx hb hX hbl hbA hS (vp_in_nI (by omega) (by omega)) dL_law_29 ?_
      refine lv_bipush (v := 15) hx hb dL_law_30 (by decide) ?_
      refine lv_iand hx hb dL_law_32 ?_
      obtain ⟨k, hk, ek⟩ := pk_andE (xs (nI (6 * n)).toNatClampNeg) (m := 15) 4 (by decide)
      rw [ek]
      clear ek
      have hdef : ∀ y : Int32, (y.toInt < 0 ∨ 13 < y.toInt) → W p l e room_1 s m #[Value.ref b] below meth c H locs (22 + 3 * n) (5381 + 85 * n) (lw_Z below #[Value.ref b] s) (F0 m 33 ls [.int y]) := by
        intro y hy
        refine lv_tableOut (tgt := 647) hx hb dL_law_33 hy (by decide) ?_
        refine W.widen (k := 22 + 3 * (n + 1)) (n := 5381 + 85 * (n + 1)) (by omega) (by omega) ?_
        exact next σ θ MX MR H locs (hI.mono (by omega) (by omega)) hZ hR hWX hWR hd hS
      have hk : k < 16 := hk
      match k, hk with
      | 0, _ => exact lv_tableIn (off := 71) (tgt := 104) hx hb dL_law_33 (by decide) (by decide) rfl (by decide) (lw_hold F hX hbl hK hO hn hnL hL hI hZ hR hWX hWR hd hS hl next)
      | 1, _ => exact lv_tableIn (off := 114) (tgt := 147) hx hb dL_law_33 (by decide) (by decide) rfl (by decide) (lw_thread F hX hbl hK hO hn hnL hL hI hZ hR hWX hWR hd hS hl next)
      | 2, _ => exact lv_tableIn (off := 147) (tgt := 180) hx hb dL_law_33 (by decide) (by decide) rfl (by decide) (lw_put F hX hbl hK hO hn hnL hL hI hZ hR hWX hWR hd hS hl next)
      | 3, _ => exact lv_tableIn (off := 220) (tgt := 253) hx hb dL_law_33 (by decide) (by decide) rfl (by decide) (lw_move F hX hbl hK hO hn hnL hL hI hZ hR hWX hWR hd hS hl next)
      | 4, _ => exact lv_tableIn (off := 283) (tgt := 316) hx hb dL_law_33 (by decide) (by decide) rfl (by decide) (lw_open F hX hbl hK hO hn hnL hL hI hZ hR hWX hWR hd hS hl next)
      | 5, _ => exact lv_tableIn (off := 326) (tgt := 359) hx hb dL_law_33 (by decide) (by decide) rfl (by decide) (lw_close F hX hbl hK hO hn hnL hL hI hZ hR hWX hWR hd hS hl next)
      | 6, _ => exact lv_tableIn (off := 369) (tgt := 402) hx hb dL_law_33 (by decide) (by decide) rfl (by decide) (lw_back F hX hbl hK hO hn hnL hL hI hZ hR hWX hWR hd hS hl next)
      | 7, _ => exact lv_tableIn (off := 382) (tgt := 415) hx hb dL_law_33 (by decide) (by decide) rfl (by decide) (lw_count F hX hbl hK hO hn hnL hL hI hZ hR hWX hWR hd hS hl next)
      | 8, _ => exact lv_tableIn (off := 405) (tgt := 438) hx hb dL_law_33 (by decide) (by decide) rfl (by decide) (lw_held F hX hbl hK hO hn hnL hL hI hZ hR hWX hWR hd hS hl next)
      | 9, _ => exact lv_tableIn (off := 438) (tgt := 471) hx hb dL_law_33 (by decide) (by decide) rfl (by decide) (lw_sort F hX hbl hK hO hn hnL hL hI hZ hR hWX hWR hd hS hl next)
      | 10, _ => exact lv_tableIn (off := 471) (tgt := 504) hx hb dL_law_33 (by decide) (by decide) rfl (by decide) (lw_number F hX hbl hK hO hn hnL hL hI hZ hR hWX hWR hd hS hl next)
      | 11, _ => exact lv_tableIn (off := 505) (tgt := 538) hx hb dL_law_33 (by decide) (by decide) rfl (by decide) (lw_show F hX hbl hK hO hn hnL hL hI hZ hR hWX hWR hd hS hl next)
      | 12, _ => exact lv_tableIn (off := 528) (tgt := 561) hx hb dL_law_33 (by decide) (by decide) rfl (by decide) (lw_shown F hX hbl hK hO hn hnL hL hI hZ hR hWX hWR hd hS hl next)
      | 13, _ => exact lv_tableIn (off := 561) (tgt := 594) hx hb dL_law_33 (by decide) (by decide) rfl (by decide) (lw_same F hX hbl hK hO hn hnL hL hI hZ hR hWX hWR hd hS hl next)
      | 14, _ => exact hdef (nI 14) (Or.inr (by decide))
      | 15, _ => exact hdef (nI 15) (Or.inr (by decide))
      | k + 16, h => exact absurd h (by omega)
