section MWC
variable {p : Program} {l : Launch} {e : Env} {R : Room} {s : State} {m : MethodId} {args : Array Value} {below : List Frame} {meth : Method} {c : Code} {H : Heap} {locs : List Loc} {cells slots : Nat} {Q : State → Prop}
variable {pc : Nat} {ls : Array Slot} {rest st0 : List Value} {D : va_G} {A0 : Nat → Prop} {a : Array Value} {tys : List (ClassId × FieldType)} {M : Nat → Option va_E} {H0 : Heap} {mc ms : Nat}
theorem mwA_sub (hW : mw D A0 M H) (hS : va_S A0 H0 H locs) (hA : ∀ q, H0.size ≤ q → A0 q) : ∀ q, mwA M H.size q → A0 q := by
  intro q h
  rcases h with h | h
  · cases hx : M q with
    | none => exact absurd hx h
    | some x => exact (hW.at hx).2
  · exact hA q (Nat.le_trans hS.1 h)
theorem mw_calli {post : Int32 → (Nat → Option va_E) → Prop} (hr : va_Run p l e R s m args below meth c H locs cells slots mc ms (F0 m pc ls st0) rest (va_Qi post (mwB D tys M H.size) (mwA M H.size) a) (mwA M H.size)) (hW : mw D A0 M H) (hS : va_S A0 H0 H locs) (hA : ∀ q, H0.size ≤ q → A0 q)
    (kk : ∀ (r : Int32) (M' : Nat → Option va_E) (H1 : Heap) (locs1 : List Loc), post r M' → mw D A0 M' H1 → va_S A0 H0 H1 locs1 → W p l e R s m args below meth c H1 locs1 (cells + mc) (slots + ms) Q (F0 m (pc + 3) ls (.int r :: rest))) : W p l e R s m args below meth c H locs cells slots Q (F0 m pc ls st0) := by
  have hF := mwA_sub hW hS hA
  refine va_calli hr hS (fun q _ h => hF q h) hF (fun r M' t H1 locs1 ht hvm hp hB hz hk hS1 => ?_)
  obtain ⟨hB1, -⟩ := hB
  rw [ht] at hB1
  exact kk r M' H1 locs1 hp (hB1.weaken (fun q _ h => hF q h)) hS1
theorem mw_callv {post : (Nat → Option va_E) → Prop} (hr : va_Run p l e R s m args below meth c H locs cells slots mc ms (F0 m pc ls st0) rest (va_Qv post (mwB D tys M H.size) (mwA M H.size) a) (mwA M H.size)) (hW : mw D A0 M H) (hS : va_S A0 H0 H locs) (hA : ∀ q, H0.size ≤ q → A0 q)
    (kk : ∀ (M' : Nat → Option va_E) (H1 : Heap) (locs1 : List Loc), post M' → mw D A0 M' H1 → va_S A0 H0 H1 locs1 → W p l e R s m args below meth c H1 locs1 (cells + mc) (slots + ms) Q (F0 m (pc + 3) ls rest)) : W p l e R s m args below meth c H locs cells slots Q (F0 m pc ls st0) := by
  have hF := mwA_sub hW hS hA
  refine va_callv hr hS (fun q _ h => hF q h) hF (fun M' t H1 locs1 ht hvm hp hB hz hk hS1 => ?_)
  obtain ⟨hB1, -⟩ := hB
  rw [ht] at hB1
  exact kk M' H1 locs1 hp (hB1.weaken (fun q _ h => hF q h)) hS1
end MWC
theorem mw_neq {M : Nat → Option va_E} {a b : Nat} {x y : va_E} (ha : M a = some x) (hb : M b = some y) (h : x ≠ y) : a ≠ b := fun e => h (Option.some.inj (ha.symm.trans (e ▸ hb)))
theorem mw_nnew {M : Nat → Option va_E} {a b : Nat} {x : va_E} (ha : M a = some x) (hb : M b = none) : a ≠ b := fun e => by rw [e, hb] at ha; cases ha
def evn (v : Int64) : Bool := decide (v &&& 1 = 0)
section HO
variable {M : Nat → Option va_E} {cJ cC : ClassId} {h : Nat} {k : Int32} {pn na ca : Nat} {lb : Int32} {f : Nat → Int64} {g : Nat → Option Nat}
theorem hOk.h_ne_ca (hH : hOk M cJ cC h k pn na ca lb f g) : h ≠ ca := mw_neq hH.1 hH.2.2.2 (fun z => by cases z)
theorem hOk.h_ne_na (hH : hOk M cJ cC h k pn na ca lb f g) : h ≠ na := mw_neq hH.1 hH.2.2.1 (fun z => by cases z)
theorem hOk.na_ne_ca (hH : hOk M cJ cC h k pn na ca lb f g) : na ≠ ca := mw_neq hH.2.2.1 hH.2.2.2 (fun z => by simp at z)
theorem hOk.cds (hH : hOk M cJ cC h k pn na ca lb f g) (hk : kRack k = true) : M ca = some (.inl (cC, pn, .inr (.inr (.inr (.inr g))))) := by
  have := hH.2.2.2
  rw [if_pos hk] at this
  exact this
theorem hOk.nms (hH : hOk M cJ cC h k pn na ca lb f g) (hk : kStrip k = true) : M na = some (.inl (cJ, pn, .inr (.inl f))) := by
  have := hH.2.2.1
  rw [if_pos hk] at this
  exact this
theorem hOk.setC (hH : hOk M cJ cC h k pn na ca lb f g) (hk : kRack k = true) (g' : Nat → Option Nat) : hOk (va_up M ca (some (.inl (cC, pn, .inr (.inr (.inr (.inr g'))))))) cJ cC h k pn na ca lb f g' := by
  refine ⟨?_, hH.2.1, ?_, ?_⟩
  · rw [va_up_ne _ _ hH.h_ne_ca]; exact hH.1
  · rw [va_up_ne _ _ hH.na_ne_ca]; exact hH.2.2.1
  · rw [va_up_self, if_pos hk]
theorem hOk.setN (hH : hOk M cJ cC h k pn na ca lb f g) (hk : kStrip k = true) (f' : Nat → Int64) : hOk (va_up M na (some (.inl (cJ, pn, .inr (.inl f'))))) cJ cC h k pn na ca lb f' g := by
  refine ⟨?_, hH.2.1, ?_, ?_⟩
  · rw [va_up_ne _ _ hH.h_ne_na]; exact hH.1
  · rw [va_up_self, if_pos hk]
  · rw [va_up_ne _ _ hH.na_ne_ca.symm]; exact hH.2.2.2
theorem hOk.out (hH : hOk M cJ cC h k pn na ca lb f g) {b : Nat} {x : Option va_E} (h1 : h ≠ b) (h2 : na ≠ b) (h3 : ca ≠ b) : hOk (va_up M b x) cJ cC h k pn na ca lb f g :=
  ⟨by rw [va_up_ne _ _ h1]; exact hH.1, hH.2.1, by rw [va_up_ne _ _ h2]; exact hH.2.2.1, by rw [va_up_ne _ _ h3]; exact hH.2.2.2⟩
theorem hOk.eqv {M' : Nat → Option va_E} (hH : hOk M cJ cC h k pn na ca lb f g) (h1 : M' h = M h) (h2 : M' na = M na) (h3 : M' ca = M ca) : hOk M' cJ cC h k pn na ca lb f g :=
  ⟨by rw [h1]; exact hH.1, hH.2.1, by rw [h2]; exact hH.2.2.1, by rw [h3]; exact hH.2.2.2⟩
end HO
theorem kRS {k : Int32} (h : kRack k = true) : kStrip k = false := by
  simp only [kRack, Bool.or_eq_true, decide_eq_true_eq] at h
  rcases h with rfl | rfl <;> decide
theorem kSR {k : Int32} (h : kStrip k = true) : kRack k = false := by
  simp only [kStrip, Bool.or_eq_true, decide_eq_true_eq] at h
  rcases h with rfl | rfl <;> decide
