section MW2
def dj (M N : Nat → Option va_E) : Prop := ∀ a, M a = none ∨ N a = none
theorem dj.symm {M N : Nat → Option va_E} (h : dj M N) : dj N M := fun a => (h a).symm
theorem dj_mwA {D : va_G} {A0 : Nat → Prop} {M N M' : Nat → Option va_E} {H H1 : Heap} (hd : dj M N) (hN : mw D A0 N H) (hB : mw D (mwA M H.size) M' H1) : dj M' N := by
  intro a
  cases h1 : M' a with
  | none => exact Or.inl rfl
  | some y =>
    refine Or.inr ?_
    cases h2 : N a with
    | none => rfl
    | some z =>
      rcases (hB.at h1).2 with h3 | h3
      · rcases hd a with h4 | h4
        · exact absurd h4 h3
        · rw [h4] at h2; cases h2
      · exact absurd h3 (Nat.not_le.mpr (hN.lt h2))
theorem dj_kept {D : va_G} {A0 : Nat → Prop} {M N : Nat → Option va_E} {H H1 : Heap} (hd : dj M N) (hN : mw D A0 N H) (hk : ∀ q : Nat, q < H.size → ¬ mwA M H.size q → H1[q]? = H[q]?) : mw D A0 N H1 := by
  refine hN.kept (fun q hq => ?_)
  cases h2 : N q with
  | none => exact absurd h2 hq
  | some z =>
    have hlt := hN.lt h2
    refine hk q hlt (fun h => ?_)
    rcases h with h3 | h3
    · rcases hd q with h4 | h4
      · exact h3 h4
      · exact hq h4
    · exact absurd h3 (Nat.not_le.mpr hlt)
variable {p : Program} {l : Launch} {e : Env} {R : Room} {s : State} {m : MethodId} {args : Array Value} {below : List Frame} {meth : Method} {c : Code} {H : Heap} {locs : List Loc} {cells slots : Nat} {Q : State → Prop}
variable {pc : Nat} {ls : Array Slot} {rest st0 : List Value} {D : va_G} {A0 : Nat → Prop} {a : Array Value} {tys : List (ClassId × FieldType)} {M N : Nat → Option va_E} {H0 : Heap} {mc ms : Nat}
theorem mw2_calli {post : Int32 → (Nat → Option va_E) → Prop} (hr : va_Run p l e R s m args below meth c H locs cells slots mc ms (F0 m pc ls st0) rest (va_Qi post (mwB D tys M H.size) (mwA M H.size) a) (mwA M H.size)) (hW : mw D A0 M H) (hN : mw D A0 N H) (hd : dj M N) (hS : va_S A0 H0 H locs) (hA : ∀ q, H0.size ≤ q → A0 q)
    (kk : ∀ (r : Int32) (M' : Nat → Option va_E) (H1 : Heap) (locs1 : List Loc), post r M' → mw D A0 M' H1 → mw D A0 N H1 → dj M' N → va_S A0 H0 H1 locs1 → W p l e R s m args below meth c H1 locs1 (cells + mc) (slots + ms) Q (F0 m (pc + 3) ls (.int r :: rest))) : W p l e R s m args below meth c H locs cells slots Q (F0 m pc ls st0) := by
  have hF := mwA_sub hW hS hA
  refine va_calli hr hS (fun q _ h => hF q h) hF (fun r M' t H1 locs1 ht hvm hp hB hz hk hS1 => ?_)
  obtain ⟨hB1, -⟩ := hB
  rw [ht] at hB1
  exact kk r M' H1 locs1 hp (hB1.weaken (fun q _ h => hF q h)) (dj_kept hd hN hk) (dj_mwA hd hN hB1) hS1
theorem mw2_callv {post : (Nat → Option va_E) → Prop} (hr : va_Run p l e R s m args below meth c H locs cells slots mc ms (F0 m pc ls st0) rest (va_Qv post (mwB D tys M H.size) (mwA M H.size) a) (mwA M H.size)) (hW : mw D A0 M H) (hN : mw D A0 N H) (hd : dj M N) (hS : va_S A0 H0 H locs) (hA : ∀ q, H0.size ≤ q → A0 q)
    (kk : ∀ (M' : Nat → Option va_E) (H1 : Heap) (locs1 : List Loc), post M' → mw D A0 M' H1 → mw D A0 N H1 → dj M' N → va_S A0 H0 H1 locs1 → W p l e R s m args below meth c H1 locs1 (cells + mc) (slots + ms) Q (F0 m (pc + 3) ls rest)) : W p l e R s m args below meth c H locs cells slots Q (F0 m pc ls st0) := by
  have hF := mwA_sub hW hS hA
  refine va_callv hr hS (fun q _ h => hF q h) hF (fun M' t H1 locs1 ht hvm hp hB hz hk hS1 => ?_)
  obtain ⟨hB1, -⟩ := hB
  rw [ht] at hB1
  exact kk M' H1 locs1 hp (hB1.weaken (fun q _ h => hF q h)) (dj_kept hd hN hk) (dj_mwA hd hN hB1) hS1
/-- one number of the script on the stack -/
theorem lw_arg {b L n : Nat} {xs : Nat → Int32} (hx : p.tables.exec = Jvm.exec) (hb : c.code = cL_law) (hX : va_X b L xs s H0) (hbl : b < H0.size) (hbA : ¬ A0 b) (hS : va_S A0 H0 H locs) (h0 : ls[0]? = some (.val (.ref b))) (h3 : ls[3]? = some (.val (.int (nI (6 * n))))) {kI : Int} (k : Int32) (hk : Int32.ofInt kI = k) (hin : vp_in (nI (6 * n) + k) L) (d1 : decode cL_law pc = .ok (.aload_n 0, 1)) (d2 : decode cL_law (pc + 1) = .ok (.iload_n 3, 1)) (d3 : decode cL_law (pc + 2) = .ok (.iconst kI, 1)) (d4 : decode cL_law (pc + 3) = .ok (.iadd, 1)) (d5 : decode cL_law (pc + 4) = .ok (.iaload, 1))
    (kk : W p l e R s m args below meth c H locs cells slots Q (F0 m (pc + 5) ls (.int (xs (nI (6 * n) + k).toNatClampNeg) :: rest))) : W p l e R s m args below meth c H locs cells slots Q (F0 m pc ls rest) := by
  refine lv_aload_n hx hb d1 rfl h0 ?_
  refine lv_iload_n hx hb d2 rfl h3 ?_
  refine lv_iconst (v := k) hx hb d3 hk ?_
  refine lv_iadd hx hb d4 ?_
  exact va_sld hx hb hX hbl hbA hS hin d5 kk
end MW2
theorem lw_in {n L : Nat} (h : 6 * n + 6 ≤ L) (hL : L ≤ 3072) (k : Nat) (hk : k < 6) : vp_in (nI (6 * n) + nI k) L := by
  rw [nI_add]
  exact vp_in_nI (by omega) (by omega)
section MWN
variable {p : Program} {l : Launch} {e : Env} {R : Room} {s : State} {m : MethodId} {args : Array Value} {below : List Frame} {meth : Method} {c : Code} {H : Heap} {locs : List Loc} {cells slots : Nat} {Q : State → Prop}
variable {cc : ByteArray} {nL : Nat} {Ts : List Cond} {own : String} {pc : Nat} {ls : Array Slot} {rest : List Value} {D : va_G} {A : Nat → Prop} {tys : List (ClassId × FieldType)} {M : Nat → Option va_E} {H0 : Heap}
theorem mw2_new (F : CallFix p m c cc nL s args Ts own) (hK : va_K D vwCl tys s) (hW : mw D A M H) (hS : va_S A H0 H locs) (hA : ∀ q, H0.size ≤ q → A q) {C : String} {T : u_T} {N ci index : Nat} (hin : ∀ w ∈ u_ws C T N, w ∈ Ts) (ty : Nat → FieldType) (hty : ∀ k, k < N → parseFieldDescriptor (T k).2.2.1 = some (ty k)) (hcl : (Cond.classLink own index C).before args s = true) (hinst : (Cond.instantiable C N).before args s = true) (hini : (Cond.initialized C).before args s = true) (hc : vwCl[ci]? = some (C, T, N)) {fs : List Value} (hfs : ∀ j, j < N → defaultValue (ty j) = vp_V fs j) (hcells : cells + 1 ≤ R.cells) (hslots : slots + N ≤ R.slots) (hdg : decode cc pc = .ok (.new index, 3))
    (kk : ∀ (q : Nat) (H1 : Heap), mw D A M H1 → mw D A (va_up (fun _ => none) q (some (.inr (ci, fs)))) H1 → dj M (va_up (fun _ => none) q (some (.inr (ci, fs)))) → va_S A H0 H1 locs → W p l e R s m args below meth c H1 locs (cells + 1) (slots + N) Q (F0 m (pc + 3) ls (.ref q :: rest))) : W p l e R s m args below meth c H locs cells slots Q (F0 m pc ls rest) := by
  obtain ⟨L, g, hM, hP, hD⟩ := hW
  refine va_new F.1 F.2.1 F.2.2.2.2 hin ty hty F.2.2.2.1 hcl hinst hini hK hP hD hS hA hc hfs hcells hslots hdg (fun q H1 hP1 hD1 hS1 => ?_)
  have hq : q ∉ L := va_pl_fresh2 (X := []) hD1
  have hlast : (va_pl L g ++ [(q, (.inr (ci, fs) : va_E))])[(va_pl L g).length]? = some (q, .inr (ci, fs)) := by
    rw [List.getElem?_append_right (Nat.le_refl _), Nat.sub_self]
    rfl
  refine kk q H1 ⟨L, g, hM, fun k x hx => hP1 k x ?_, hD⟩ ⟨[q], fun _ => .inr (ci, fs), fun a => ?_, fun k x hx => ?_, fun i j y z hi hj _ => ?_, fun k x hx => ?_⟩ (fun a => ?_) hS1
  · rw [List.getElem?_append_left (List.getElem?_eq_some_iff.mp hx).1]
    exact hx
  · by_cases ha : a = q
    · subst ha
      rw [va_up_self, if_pos (List.mem_singleton.mpr rfl)]
    · rw [va_up_ne _ _ ha, if_neg (fun z => ha (List.mem_singleton.mp z))]
  · have hz : k < 1 := (List.getElem?_eq_some_iff.mp hx).1
    rw [show k = 0 by omega] at hx
    cases hx
    exact hP1 _ _ hlast
  · have h1 : i < 1 := (List.getElem?_eq_some_iff.mp hi).1
    have h2 : j < 1 := (List.getElem?_eq_some_iff.mp hj).1
    omega
  · have hz : k < 1 := (List.getElem?_eq_some_iff.mp hx).1
    rw [show k = 0 by omega] at hx
    cases hx
    exact hD1.2 _ _ hlast
  · by_cases ha : a = q
    · subst ha
      exact Or.inl (by rw [hM a, if_neg hq])
    · exact Or.inr (va_up_ne _ _ ha)
end MWN
