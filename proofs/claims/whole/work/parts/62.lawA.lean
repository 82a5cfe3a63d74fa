set_option maxHeartbeats 4000000 in
set_option maxRecDepth 100000 in
theorem lw_hold {p : Program} {l : Launch} {e : Env} {s : State} {m : MethodId} {below : List Frame} {meth : Method} {c : Code} {b L : Nat} {xs : Nat → Int32} {D : va_G} {cI cJ cC cH : ClassId} {x mm : Nat} {ad : Nat → Nat} {Q : State → Prop} (F : CallFix p m c cL_law 4 s #[Value.ref b] wsL_law RL) (hX : va_X b L xs s s.heap) (hbl : b < s.heap.size) (hK : va_K D vwCl (tyL cI cJ cC cH) s) (hO : kO s) {n : Nat} (hn : n < 512) (hnL : 6 * n + 6 ≤ L) (hL : L ≤ 3072) {σ : RS} {θ : TH} {MX MR : Nat → Option va_E} {H : Heap} {locs : List Loc} {ls : Array Slot} (hI : Inv σ n) (hZ : Sim cI cJ cC cH x θ σ MX) (hR : refAt cI cJ mm ad σ MR) (hWX : mw D (fun q : Nat => s.heap.size ≤ q) MX H) (hWR : mw D (fun q : Nat => s.heap.size ≤ q) MR H) (hd : dj MX MR) (hS : va_S (fun q : Nat => s.heap.size ≤ q) s.heap H locs) (hl : lv_has ls 4 [(3, .int (nI (6 * n))), (2, .ref mm), (1, .ref x), (0, .ref b)])
    (kk : ∀ (σ' : RS) (θ' : TH) (MX' MR' : Nat → Option va_E) (H' : Heap) (locs' : List Loc), Inv σ' (n + 1) → Sim cI cJ cC cH x θ' σ' MX' → refAt cI cJ mm ad σ' MR' → mw D (fun q : Nat => s.heap.size ≤ q) MX' H' → mw D (fun q : Nat => s.heap.size ≤ q) MR' H' → dj MX' MR' → va_S (fun q : Nat => s.heap.size ≤ q) s.heap H' locs' → W p l e room_1 s m #[Value.ref b] below meth c H' locs' (22 + 3 * (n + 1)) (5381 + 85 * (n + 1)) Q (F0 m 647 ls [])) : W p l e room_1 s m #[Value.ref b] below meth c H locs (22 + 3 * n) (5381 + 85 * n) Q (F0 m 104 ls []) := by
  obtain ⟨hx, hb, hml, hown, hts⟩ := id F
  have hA : ∀ q : Nat, s.heap.size ≤ q → (fun q : Nat => s.heap.size ≤ q) q := fun _ h => h
  have hbA : ¬ (fun q : Nat => s.heap.size ≤ q) b := Nat.not_le.mpr hbl
  refine lv_aload_n hx hb dL_law_104 rfl (lv_at hl 2 rfl) ?_
  refine lw_arg hx hb hX hbl hbA hS (lv_at hl 3 rfl) (lv_at hl 0 rfl) (kI := 1) 1 (by decide) (lw_in hnL hL 1 (by omega)) dL_law_105 dL_law_106 dL_law_107 dL_law_108 dL_law_109 ?_
  refine lw_arg hx hb hX hbl hbA hS (lv_at hl 3 rfl) (lv_at hl 0 rfl) (kI := 2) 2 (by decide) (lw_in hnL hL 2 (by omega)) dL_law_110 dL_law_111 dL_law_112 dL_law_113 dL_law_114 ?_
  refine lw_arg hx hb hX hbl hbA hS (lv_at hl 3 rfl) (lv_at hl 0 rfl) (kI := 3) 3 (by decide) (lw_in hnL hL 3 (by omega)) dL_law_115 dL_law_116 dL_law_117 dL_law_118 dL_law_119 ?_
  refine mw2_calli (va_runV (As := [.int (xs (nI (6 * n) + 1).toNatClampNeg), .int (xs (nI (6 * n) + 2).toNatClampNeg), .int (xs (nI (6 * n) + 3).toNatClampNeg)]) (rest := []) F (c_X2_hold (s0 := xs (nI (6 * n) + 1).toNatClampNeg) (k0 := xs (nI (6 * n) + 2).toNatClampNeg) (n0 := xs (nI (6 * n) + 3).toNatClampNeg) hZ hI hn) (cwV 3 hts gL_law_X2_hold rfl rfl rfl (by decide +kernel) ⟨Nat.le_of_ble_eq_true rfl, Nat.le_of_ble_eq_true rfl⟩) (mw_prV (q := (RX2, TX2, 8)) hK hO hWX rfl hZ.b.1) rfl rfl hl.1 rfl (lv_room (Nat.le_of_ble_eq_true rfl)) dL_law_120  ⟨by show _ ≤ 600000; omega, by show _ ≤ 7302250; omega⟩) hWX hWR hd hS hA (fun r1 M1 H locs e1 hWX hWR hd hS => ?_)
  obtain ⟨e1, θ1, hZ1⟩ := e1
  refine lv_aload_n hx hb dL_law_123 rfl (lv_at hl 1 rfl) ?_
  refine lw_arg hx hb hX hbl hbA hS (lv_at hl 3 rfl) (lv_at hl 0 rfl) (kI := 1) 1 (by decide) (lw_in hnL hL 1 (by omega)) dL_law_124 dL_law_125 dL_law_126 dL_law_127 dL_law_128 ?_
  refine lw_arg hx hb hX hbl hbA hS (lv_at hl 3 rfl) (lv_at hl 0 rfl) (kI := 2) 2 (by decide) (lw_in hnL hL 2 (by omega)) dL_law_129 dL_law_130 dL_law_131 dL_law_132 dL_law_133 ?_
  refine lw_arg hx hb hX hbl hbA hS (lv_at hl 3 rfl) (lv_at hl 0 rfl) (kI := 3) 3 (by decide) (lw_in hnL hL 3 (by omega)) dL_law_134 dL_law_135 dL_law_136 dL_law_137 dL_law_138 ?_
  refine mw2_calli (va_runV (As := [.int (xs (nI (6 * n) + 1).toNatClampNeg), .int (xs (nI (6 * n) + 2).toNatClampNeg), .int (xs (nI (6 * n) + 3).toNatClampNeg)]) (rest := [.int r1]) F (c_X3_hold (s0 := xs (nI (6 * n) + 1).toNatClampNeg) (k0 := xs (nI (6 * n) + 2).toNatClampNeg) (n0 := xs (nI (6 * n) + 3).toNatClampNeg) hR hI) (cwV 3 hts gL_law_X3_hold rfl rfl rfl (by decide +kernel) ⟨Nat.le_of_ble_eq_true rfl, Nat.le_of_ble_eq_true rfl⟩) (mw_prV (q := (RX3, TX3, 14)) hK hO hWR rfl hR.1) rfl rfl hl.1 rfl (lv_room (Nat.le_of_ble_eq_true rfl)) dL_law_139  ⟨by show _ ≤ 600000; omega, by show _ ≤ 7302250; omega⟩) hWR hWX hd.symm hS hA (fun r2 M2 H locs e2 hWR hWX hd hS => ?_)
  obtain ⟨e2, hR1⟩ := e2
  refine lv_icmp_eq (tgt := 647) hx hb dL_law_142 (by decide) (fun _ => ?_) (fun h => absurd (e1.trans e2.symm) h)
  refine W.widen (k := 22 + 3 * (n + 1)) (n := 5381 + 85 * (n + 1)) (by omega) (by omega) ?_
  exact kk _ _ _ _ _ _ (hI.hold hn _ _ _) hZ1 hR1 hWX hWR hd.symm hS
set_option maxHeartbeats 4000000 in
set_option maxRecDepth 100000 in
theorem lw_thread {p : Program} {l : Launch} {e : Env} {s : State} {m : MethodId} {below : List Frame} {meth : Method} {c : Code} {b L : Nat} {xs : Nat → Int32} {D : va_G} {cI cJ cC cH : ClassId} {x mm : Nat} {ad : Nat → Nat} {Q : State → Prop} (F : CallFix p m c cL_law 4 s #[Value.ref b] wsL_law RL) (hX : va_X b L xs s s.heap) (hbl : b < s.heap.size) (hK : va_K D vwCl (tyL cI cJ cC cH) s) (hO : kO s) {n : Nat} (hn : n < 512) (hnL : 6 * n + 6 ≤ L) (hL : L ≤ 3072) {σ : RS} {θ : TH} {MX MR : Nat → Option va_E} {H : Heap} {locs : List Loc} {ls : Array Slot} (hI : Inv σ n) (hZ : Sim cI cJ cC cH x θ σ MX) (hR : refAt cI cJ mm ad σ MR) (hWX : mw D (fun q : Nat => s.heap.size ≤ q) MX H) (hWR : mw D (fun q : Nat => s.heap.size ≤ q) MR H) (hd : dj MX MR) (hS : va_S (fun q : Nat => s.heap.size ≤ q) s.heap H locs) (hl : lv_has ls 4 [(3, .int (nI (6 * n))), (2, .ref mm), (1, .ref x), (0, .ref b)])
    (kk : ∀ (σ' : RS) (θ' : TH) (MX' MR' : Nat → Option va_E) (H' : Heap) (locs' : List Loc), Inv σ' (n + 1) → Sim cI cJ cC cH x θ' σ' MX' → refAt cI cJ mm ad σ' MR' → mw D (fun q : Nat => s.heap.size ≤ q) MX' H' → mw D (fun q : Nat => s.heap.size ≤ q) MR' H' → dj MX' MR' → va_S (fun q : Nat => s.heap.size ≤ q) s.heap H' locs' → W p l e room_1 s m #[Value.ref b] below meth c H' locs' (22 + 3 * (n + 1)) (5381 + 85 * (n + 1)) Q (F0 m 647 ls [])) : W p l e room_1 s m #[Value.ref b] below meth c H locs (22 + 3 * n) (5381 + 85 * n) Q (F0 m 147 ls []) := by
  obtain ⟨hx, hb, hml, hown, hts⟩ := id F
  have hA : ∀ q : Nat, s.heap.size ≤ q → (fun q : Nat => s.heap.size ≤ q) q := fun _ h => h
  have hbA : ¬ (fun q : Nat => s.heap.size ≤ q) b := Nat.not_le.mpr hbl
  refine lv_aload_n hx hb dL_law_147 rfl (lv_at hl 2 rfl) ?_
  refine lw_arg hx hb hX hbl hbA hS (lv_at hl 3 rfl) (lv_at hl 0 rfl) (kI := 1) 1 (by decide) (lw_in hnL hL 1 (by omega)) dL_law_148 dL_law_149 dL_law_150 dL_law_151 dL_law_152 ?_
  refine lw_arg hx hb hX hbl hbA hS (lv_at hl 3 rfl) (lv_at hl 0 rfl) (kI := 2) 2 (by decide) (lw_in hnL hL 2 (by omega)) dL_law_153 dL_law_154 dL_law_155 dL_law_156 dL_law_157 ?_
  refine mw2_calli (va_runV (As := [.int (xs (nI (6 * n) + 1).toNatClampNeg), .int (xs (nI (6 * n) + 2).toNatClampNeg)]) (rest := []) F (c_X2_thread (s0 := xs (nI (6 * n) + 1).toNatClampNeg) (t0 := xs (nI (6 * n) + 2).toNatClampNeg) hZ hI) (cwV 2 hts gL_law_X2_thread rfl rfl rfl (by decide +kernel) ⟨Nat.le_of_ble_eq_true rfl, Nat.le_of_ble_eq_true rfl⟩) (mw_prV (q := (RX2, TX2, 8)) hK hO hWX rfl hZ.b.1) rfl rfl hl.1 rfl (lv_room (Nat.le_of_ble_eq_true rfl)) dL_law_158  ⟨by show _ ≤ 600000; omega, by show _ ≤ 7302250; omega⟩) hWX hWR hd hS hA (fun r1 M1 H locs e1 hWX hWR hd hS => ?_)
  obtain ⟨e1, θ1, hZ1⟩ := e1
  refine lv_aload_n hx hb dL_law_161 rfl (lv_at hl 1 rfl) ?_
  refine lw_arg hx hb hX hbl hbA hS (lv_at hl 3 rfl) (lv_at hl 0 rfl) (kI := 1) 1 (by decide) (lw_in hnL hL 1 (by omega)) dL_law_162 dL_law_163 dL_law_164 dL_law_165 dL_law_166 ?_
  refine lw_arg hx hb hX hbl hbA hS (lv_at hl 3 rfl) (lv_at hl 0 rfl) (kI := 2) 2 (by decide) (lw_in hnL hL 2 (by omega)) dL_law_167 dL_law_168 dL_law_169 dL_law_170 dL_law_171 ?_
  refine mw2_calli (va_runV (As := [.int (xs (nI (6 * n) + 1).toNatClampNeg), .int (xs (nI (6 * n) + 2).toNatClampNeg)]) (rest := [.int r1]) F (c_X3_thread (s0 := xs (nI (6 * n) + 1).toNatClampNeg) (t0 := xs (nI (6 * n) + 2).toNatClampNeg) hR hI) (cwV 2 hts gL_law_X3_thread rfl rfl rfl (by decide +kernel) ⟨Nat.le_of_ble_eq_true rfl, Nat.le_of_ble_eq_true rfl⟩) (mw_prV (q := (RX3, TX3, 14)) hK hO hWR rfl hR.1) rfl rfl hl.1 rfl (lv_room (Nat.le_of_ble_eq_true rfl)) dL_law_172  ⟨by show _ ≤ 600000; omega, by show _ ≤ 7302250; omega⟩) hWR hWX hd.symm hS hA (fun r2 M2 H locs e2 hWR hWX hd hS => ?_)
  obtain ⟨e2, hR1⟩ := e2
  refine lv_icmp_eq (tgt := 647) hx hb dL_law_175 (by decide) (fun _ => ?_) (fun h => absurd (e1.trans e2.symm) h)
  refine W.widen (k := 22 + 3 * (n + 1)) (n := 5381 + 85 * (n + 1)) (by omega) (by omega) ?_
  exact kk _ _ _ _ _ _ ((hI.thr _ _).mono (by omega) (by omega)) hZ1 hR1 hWX hWR hd.symm hS
set_option maxHeartbeats 4000000 in
set_option maxRecDepth 100000 in
theorem lw_put {p : Program} {l : Launch} {e : Env} {s : State} {m : MethodId} {below : List Frame} {meth : Method} {c : Code} {b L : Nat} {xs : Nat → Int32} {D : va_G} {cI cJ cC cH : ClassId} {x mm : Nat} {ad : Nat → Nat} {Q : State → Prop} (F : CallFix p m c cL_law 4 s #[Value.ref b] wsL_law RL) (hX : va_X b L xs s s.heap) (hbl : b < s.heap.size) (hK : va_K D vwCl (tyL cI cJ cC cH) s) (hO : kO s) {n : Nat} (hn : n < 512) (hnL : 6 * n + 6 ≤ L) (hL : L ≤ 3072) {σ : RS} {θ : TH} {MX MR : Nat → Option va_E} {H : Heap} {locs : List Loc} {ls : Array Slot} (hI : Inv σ n) (hZ : Sim cI cJ cC cH x θ σ MX) (hR : refAt cI cJ mm ad σ MR) (hWX : mw D (fun q : Nat => s.heap.size ≤ q) MX H) (hWR : mw D (fun q : Nat => s.heap.size ≤ q) MR H) (hd : dj MX MR) (hS : va_S (fun q : Nat => s.heap.size ≤ q) s.heap H locs) (hl : lv_has ls 4 [(3, .int (nI (6 * n))), (2, .ref mm), (1, .ref x), (0, .ref b)])
    (kk : ∀ (σ' : RS) (θ' : TH) (MX' MR' : Nat → Option va_E) (H' : Heap) (locs' : List Loc), Inv σ' (n + 1) → Sim cI cJ cC cH x θ' σ' MX' → refAt cI cJ mm ad σ' MR' → mw D (fun q : Nat => s.heap.size ≤ q) MX' H' → mw D (fun q : Nat => s.heap.size ≤ q) MR' H' → dj MX' MR' → va_S (fun q : Nat => s.heap.size ≤ q) s.heap H' locs' → W p l e room_1 s m #[Value.ref b] below meth c H' locs' (22 + 3 * (n + 1)) (5381 + 85 * (n + 1)) Q (F0 m 647 ls [])) : W p l e room_1 s m #[Value.ref b] below meth c H locs (22 + 3 * n) (5381 + 85 * n) Q (F0 m 180 ls []) := by
  obtain ⟨hx, hb, hml, hown, hts⟩ := id F
  have hA : ∀ q : Nat, s.heap.size ≤ q → (fun q : Nat => s.heap.size ≤ q) q := fun _ h => h
  have hbA : ¬ (fun q : Nat => s.heap.size ≤ q) b := Nat.not_le.mpr hbl
  have hcst := hts (.constantLong RL 23 (4294967295)) (List.mem_of_getElem? (i := 6) rfl)
  refine lv_aload_n hx hb dL_law_180 rfl (lv_at hl 2 rfl) ?_
  refine lw_arg hx hb hX hbl hbA hS (lv_at hl 3 rfl) (lv_at hl 0 rfl) (kI := 1) 1 (by decide) (lw_in hnL hL 1 (by omega)) dL_law_181 dL_law_182 dL_law_183 dL_law_184 dL_law_185 ?_
  refine lw_arg hx hb hX hbl hbA hS (lv_at hl 3 rfl) (lv_at hl 0 rfl) (kI := 2) 2 (by decide) (lw_in hnL hL 2 (by omega)) dL_law_186 dL_law_187 dL_law_188 dL_law_189 dL_law_190 ?_
  refine lw_arg hx hb hX hbl hbA hS (lv_at hl 3 rfl) (lv_at hl 0 rfl) (kI := 3) 3 (by decide) (lw_in hnL hL 3 (by omega)) dL_law_191 dL_law_192 dL_law_193 dL_law_194 dL_law_195 ?_
  refine lv_i2l hx hb dL_law_196 rfl ?_
  refine lv_bipush (v := 32) hx hb dL_law_197 (by decide) ?_
  refine lv_lshl hx hb dL_law_199 rfl ?_
  refine lw_arg hx hb hX hbl hbA hS (lv_at hl 3 rfl) (lv_at hl 0 rfl) (kI := 4) 4 (by decide) (lw_in hnL hL 4 (by omega)) dL_law_200 dL_law_201 dL_law_202 dL_law_203 dL_law_204 ?_
  refine lv_i2l hx hb dL_law_205 rfl ?_
  refine lv_ldc2 (v := 4294967295) hx hb hown hcst dL_law_206 ?_
  refine lv_land hx hb dL_law_209 ?_
  refine lv_lor hx hb dL_law_210 ?_
  refine mw2_calli (va_runV (As := [.int (xs (nI (6 * n) + 1).toNatClampNeg), .int (xs (nI (6 * n) + 2).toNatClampNeg), .long ((xs (nI (6 * n) + 3).toNatClampNeg).toInt64 <<< ((32 : Int32).toInt64 &&& 63) ||| (xs (nI (6 * n) + 4).toNatClampNeg).toInt64 &&& 4294967295)]) (rest := []) F (c_X2_put (s0 := xs (nI (6 * n) + 1).toNatClampNeg) (i := xs (nI (6 * n) + 2).toNatClampNeg) (v := (xs (nI (6 * n) + 3).toNatClampNeg).toInt64 <<< ((32 : Int32).toInt64 &&& 63) ||| (xs (nI (6 * n) + 4).toNatClampNeg).toInt64 &&& 4294967295) hZ hI hn) (cwV 3 hts gL_law_X2_put rfl rfl rfl (by decide +kernel) ⟨Nat.le_of_ble_eq_true rfl, Nat.le_of_ble_eq_true rfl⟩) (mw_prV (q := (RX2, TX2, 8)) hK hO hWX rfl hZ.b.1) rfl rfl hl.1 rfl (lv_room (Nat.le_of_ble_eq_true rfl)) dL_law_211  ⟨by show _ ≤ 600000; omega, by show _ ≤ 7302250; omega⟩) hWX hWR hd hS hA (fun r1 M1 H locs e1 hWX hWR hd hS => ?_)
  obtain ⟨e1, θ1, hZ1⟩ := e1
  refine lv_aload_n hx hb dL_law_214 rfl (lv_at hl 1 rfl) ?_
  refine lw_arg hx hb hX hbl hbA hS (lv_at hl 3 rfl) (lv_at hl 0 rfl) (kI := 1) 1 (by decide) (lw_in hnL hL 1 (by omega)) dL_law_215 dL_law_216 dL_law_217 dL_law_218 dL_law_219 ?_
  refine lw_arg hx hb hX hbl hbA hS (lv_at hl 3 rfl) (lv_at hl 0 rfl) (kI := 2) 2 (by decide) (lw_in hnL hL 2 (by omega)) dL_law_220 dL_law_221 dL_law_222 dL_law_223 dL_law_224 ?_
  refine lw_arg hx hb hX hbl hbA hS (lv_at hl 3 rfl) (lv_at hl 0 rfl) (kI := 3) 3 (by decide) (lw_in hnL hL 3 (by omega)) dL_law_225 dL_law_226 dL_law_227 dL_law_228 dL_law_229 ?_
  refine lv_i2l hx hb dL_law_230 rfl ?_
  refine lv_bipush (v := 32) hx hb dL_law_231 (by decide) ?_
  refine lv_lshl hx hb dL_law_233 rfl ?_
  refine lw_arg hx hb hX hbl hbA hS (lv_at hl 3 rfl) (lv_at hl 0 rfl) (kI := 4) 4 (by decide) (lw_in hnL hL 4 (by omega)) dL_law_234 dL_law_235 dL_law_236 dL_law_237 dL_law_238 ?_
  refine lv_i2l hx hb dL_law_239 rfl ?_
  refine lv_ldc2 (v := 4294967295) hx hb hown hcst dL_law_240 ?_
  refine lv_land hx hb dL_law_243 ?_
  refine lv_lor hx hb dL_law_244 ?_
  refine mw2_calli (va_runV (As := [.int (xs (nI (6 * n) + 1).toNatClampNeg), .int (xs (nI (6 * n) + 2).toNatClampNeg), .long ((xs (nI (6 * n) + 3).toNatClampNeg).toInt64 <<< ((32 : Int32).toInt64 &&& 63) ||| (xs (nI (6 * n) + 4).toNatClampNeg).toInt64 &&& 4294967295)]) (rest := [.int r1]) F (c_X3_put (s0 := xs (nI (6 * n) + 1).toNatClampNeg) (i := xs (nI (6 * n) + 2).toNatClampNeg) (v := (xs (nI (6 * n) + 3).toNatClampNeg).toInt64 <<< ((32 : Int32).toInt64 &&& 63) ||| (xs (nI (6 * n) + 4).toNatClampNeg).toInt64 &&& 4294967295) hR hI) (cwV 3 hts gL_law_X3_put rfl rfl rfl (by decide +kernel) ⟨Nat.le_of_ble_eq_true rfl, Nat.le_of_ble_eq_true rfl⟩) (mw_prV (q := (RX3, TX3, 14)) hK hO hWR rfl hR.1) rfl rfl hl.1 rfl (lv_room (Nat.le_of_ble_eq_true rfl)) dL_law_245  ⟨by show _ ≤ 600000; omega, by show _ ≤ 7302250; omega⟩) hWR hWX hd.symm hS hA (fun r2 M2 H locs e2 hWR hWX hd hS => ?_)
  obtain ⟨e2, hR1⟩ := e2
  refine lv_icmp_eq (tgt := 647) hx hb dL_law_248 (by decide) (fun _ => ?_) (fun h => absurd (e1.trans e2.symm) h)
  refine W.widen (k := 22 + 3 * (n + 1)) (n := 5381 + 85 * (n + 1)) (by omega) (by omega) ?_
  exact kk _ _ _ _ _ _ (hI.put hn _ _ _) hZ1 hR1 hWX hWR hd.symm hS
