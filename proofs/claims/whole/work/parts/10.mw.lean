/-! ===== the world as a map: what lies at an address ===== -/
def mw (D : va_G) (A : Nat → Prop) (M : Nat → Option va_E) (H : Heap) : Prop :=
  ∃ (L : List Nat) (f : Nat → va_E), (∀ a, M a = if a ∈ L then some (f a) else none) ∧ va_P D vwCl (va_pl L f) H ∧ va_D A (va_pl L f)
theorem mw_mem {L : List Nat} {f : Nat → va_E} {M : Nat → Option va_E} (hM : ∀ a, M a = if a ∈ L then some (f a) else none) {a : Nat} {x : va_E} (he : M a = some x) : a ∈ L ∧ f a = x := by
  rw [hM a] at he
  by_cases h : a ∈ L
  · rw [if_pos h] at he
    exact ⟨h, Option.some.inj he⟩
  · rw [if_neg h] at he
    cases he
theorem mw_get_ix {L : List Nat} {f : Nat → va_E} {a : Nat} (h : a ∈ L) : ∃ k : Nat, (va_pl L f)[k]? = some (a, f a) := by
  obtain ⟨k, hk⟩ := va_pl_get (X := []) (f := f) h
  exact ⟨k, hk⟩
theorem mw_set_ix {A : Nat → Prop} {L : List Nat} {f : Nat → va_E} {a k : Nat} {e : va_E} (hD : va_D A (va_pl L f)) (h : a ∈ L) (hk : (va_pl L f)[k]? = some (a, f a)) : (va_pl L f).set k (a, e) = va_pl L (va_up f a e) :=
  va_pl_set (X := []) hD h hk
theorem mw.at {D : va_G} {A : Nat → Prop} {M : Nat → Option va_E} {H : Heap} {a : Nat} {x : va_E} (h : mw D A M H) (he : M a = some x) : va_at D vwCl (a, x) H ∧ A a := by
  obtain ⟨L, f, hM, hP, hD⟩ := h
  obtain ⟨h1, h2⟩ := mw_mem hM he
  obtain ⟨k, hk⟩ := mw_get_ix (f := f) h1
  subst h2
  exact ⟨hP k _ hk, hD.2 k _ hk⟩
theorem mw.one {D : va_G} {A : Nat → Prop} {M : Nat → Option va_E} {H : Heap} {a : Nat} {x : va_E} (h : mw D A M H) (he : M a = some x) : va_P D vwCl [(a, x)] H := by
  intro k q hq
  have hz : k < 1 := (List.getElem?_eq_some_iff.mp hq).1
  rw [show k = 0 by omega] at hq
  cases hq
  exact (h.at he).1
theorem mw.lt {D : va_G} {A : Nat → Prop} {M : Nat → Option va_E} {H : Heap} {a : Nat} {x : va_E} (h : mw D A M H) (he : M a = some x) : a < H.size := (h.at he).1.lt
theorem mw.new {D : va_G} {A : Nat → Prop} {M : Nat → Option va_E} {H : Heap} (h : mw D A M H) : M H.size = none := by
  cases hx : M H.size with
  | none => rfl
  | some x => exact absurd (h.lt hx) (Nat.lt_irrefl _)
theorem mw.weaken {D : va_G} {A B : Nat → Prop} {M : Nat → Option va_E} {H : Heap} (h : mw D A M H) (hAB : ∀ q, M q ≠ none → A q → B q) : mw D B M H := by
  obtain ⟨L, f, hM, hP, hD⟩ := h
  refine ⟨L, f, hM, hP, hD.weaken (fun k q hk => hAB q.1 ?_)⟩
  obtain ⟨b, hb, rfl⟩ := List.mem_map.mp (List.mem_of_getElem? hk)
  rw [hM b, if_pos hb]
  exact fun z => by cases z
theorem mw.kept {D : va_G} {A : Nat → Prop} {M : Nat → Option va_E} {H H1 : Heap} (h : mw D A M H) (hq : ∀ q, M q ≠ none → H1[q]? = H[q]?) : mw D A M H1 := by
  obtain ⟨L, f, hM, hP, hD⟩ := h
  refine ⟨L, f, hM, hP.kept (fun k q hk => hq q.1 ?_), hD⟩
  obtain ⟨b, hb, rfl⟩ := List.mem_map.mp (List.mem_of_getElem? hk)
  rw [hM b, if_pos hb]
  exact fun z => by cases z
theorem mw.eqv {D : va_G} {A : Nat → Prop} {M M' : Nat → Option va_E} {H : Heap} (h : mw D A M H) (e : ∀ a, M a = M' a) : mw D A M' H := by
  have := funext e
  subst this
  exact h
/-- where a method may write -/
def mwA (M : Nat → Option va_E) (sz : Nat) : Nat → Prop := fun q => M q ≠ none ∨ sz ≤ q
theorem mw.self {D : va_G} {A : Nat → Prop} {M : Nat → Option va_E} {H : Heap} {sz : Nat} (h : mw D A M H) : mw D (mwA M sz) M H := h.weaken (fun _ h1 _ => Or.inl h1)
def kO (U : State) : Prop := va_AO RX0 U ∧ va_AO RX1 U
theorem kO.moved {u U : State} (hvm : u.vm.Alike U.vm) (h : kO u) : kO U := ⟨va_AO.moved hvm h.1, va_AO.moved hvm h.2⟩
def mwPre (D : va_G) (tys : List (ClassId × FieldType)) (M : Nat → Option va_E) (sz : Nat) : State → Prop := fun U => U.heap.size = sz ∧ mw D (fun _ => True) M U.heap ∧ va_K D vwCl tys U ∧ kO U
def mwB (D : va_G) (tys : List (ClassId × FieldType)) (M : Nat → Option va_E) (sz : Nat) : (Nat → Option va_E) → State → Prop := fun M' t => mw D (mwA M sz) M' t.heap ∧ va_K D vwCl tys t
theorem mw_blind {D : va_G} {tys : List (ClassId × FieldType)} {M : Nat → Option va_E} {sz : Nat} {av : List Value} : FrameBlind (va_Pc av (mwPre D tys M sz)) := fun a U g mk q => by
  obtain ⟨q0, q1, q2, q3, q4⟩ := q
  exact ⟨q0, q1, q2, va_K.moved (u := U) (U := U.calling g mk a) (Vm.Alike.refl U.vm) q3, kO.moved (u := U) (U := U.calling g mk a) (Vm.Alike.refl U.vm) q4⟩
theorem mw_prS {D : va_G} {tys : List (ClassId × FieldType)} {M : Nat → Option va_E} {A : Nat → Prop} {s : State} {H : Heap} {As : List Value} (hK : va_K D vwCl tys s) (hO : kO s) (hW : mw D A M H) : PreS s H (va_Pc As (mwPre D tys M H.size)) As :=
  ⟨mw_blind, fun U hU hw => ⟨rfl, by rw [hU], by rw [hU]; exact hW.weaken (fun _ _ _ => trivial), va_K.moved hw.alike hK, hO.moved hw.alike⟩⟩
theorem mw_recv {D : va_G} {tys : List (ClassId × FieldType)} {M : Nat → Option va_E} {A : Nat → Prop} {s : State} {H : Heap} {b ci : Nat} {q : vw_C} {fs : List Value} (hK : va_K D vwCl tys s) (hW : mw D A M H) (hc : vwCl[ci]? = some q) (he : M b = some (.inr (ci, fs))) : ∃ cell : Cell, H[b]? = some cell ∧ cell.vm.isStatics = false ∧ s.vm.findClass q.1 = some cell.cls :=
  va_recv hK (hW.one he) hc (q0 := 0) rfl
theorem mw_prV {D : va_G} {tys : List (ClassId × FieldType)} {M : Nat → Option va_E} {A : Nat → Prop} {s : State} {H : Heap} {As : List Value} {b ci : Nat} {q : vw_C} {fs : List Value} (hK : va_K D vwCl tys s) (hO : kO s) (hW : mw D A M H) (hc : vwCl[ci]? = some q) (he : M b = some (.inr (ci, fs))) : PreV s H q.1 b (va_Pc (.ref b :: As) (mwPre D tys M H.size)) As :=
  ⟨mw_blind, mw_recv hK hW hc he, (mw_prS hK hO hW).2⟩
section MWR
variable {p : Program} {l : Launch} {e : Env} {R : Room} {s : State} {m : MethodId} {args : Array Value} {below : List Frame} {meth : Method} {c : Code} {H : Heap} {locs : List Loc} {cells slots : Nat} {Q : State → Prop}
variable {cc : ByteArray} {nL : Nat} {Ts : List Cond} {own : String} {pc : Nat} {ls : Array Slot} {rest : List Value} {D : va_G} {A : Nat → Prop} {a : Nat} {tys : List (ClassId × FieldType)} {M : Nat → Option va_E} {H0 : Heap}
theorem mw_get (F : CallFix p m c cc nL s args Ts own) (hK : va_K D vwCl tys s) (hW : mw D A M H) {C : String} {T : u_T} {N ci index : Nat} (hin : ∀ w ∈ u_ws C T N, w ∈ Ts) {fs : List Value} (he : M a = some (.inr (ci, fs))) (hc : vwCl[ci]? = some (C, T, N)) (k : Nat) (hk : k < N) (hlink : (Cond.fieldLink own index (T k).1 (T k).2.1 (T k).2.2.1).before args s = true) {v : Value} (hv : fs[k]? = some v) (hdg : decode cc pc = .ok (.getfield index, 3))
    (kk : W p l e R s m args below meth c H locs cells slots Q (F0 m (pc + 3) ls (v :: rest))) : W p l e R s m args below meth c H locs cells slots Q (F0 m pc ls (.ref a :: rest)) :=
  va_get F.1 F.2.1 F.2.2.2.2 hin F.2.2.2.1 hK (hW.one he) 0 rfl hc k hk hlink (fun _ h => h) hv hdg kk
theorem mw_put (F : CallFix p m c cc nL s args Ts own) (hK : va_K D vwCl tys s) (hW : mw D A M H) (hS : va_S A H0 H locs) {C : String} {T : u_T} {N ci index : Nat} (hin : ∀ w ∈ u_ws C T N, w ∈ Ts) (ty0 : Nat → FieldType) (hty : ∀ k, k < N → parseFieldDescriptor (T k).2.2.1 = some (ty0 k)) (hnm : ∀ a, a < N → ∀ b, b < N → a ≠ b → (T a).2.1 ≠ (T b).2.1) {fs : List Value} (he : M a = some (.inr (ci, fs))) (hc : vwCl[ci]? = some (C, T, N)) (k : Nat) (hk : k < N) (hlink : (Cond.fieldLink own index (T k).1 (T k).2.1 (T k).2.2.1).before args s = true) (hfin : (T k).2.2.2 = false) {v : Value} (hn : narrow (ty0 k) v = v) (hfit : fits (ty0 k) v = true) (hl : k < fs.length) (hdg : decode cc pc = .ok (.putfield index, 3))
    (kk : ∀ (H1 : Heap) (locs1 : List Loc), mw D A (va_up M a (some (.inr (ci, fs.set k v)))) H1 → va_S A H0 H1 locs1 → W p l e R s m args below meth c H1 locs1 cells slots Q (F0 m (pc + 3) ls rest)) : W p l e R s m args below meth c H locs cells slots Q (F0 m pc ls (v :: .ref a :: rest)) := by
  obtain ⟨L, f, hM, hP, hD⟩ := hW
  obtain ⟨h1, h2⟩ := mw_mem hM he
  obtain ⟨q, hq⟩ := mw_get_ix (f := f) h1
  refine va_put F.1 F.2.1 F.2.2.2.2 hin ty0 hty hnm F.2.2.2.1 hK hP hD hS q (by rw [← h2]; exact hq) hc k hk hlink (fun _ h => h) hfin (hty k hk) hn hfit hl hdg (fun H1 locs1 hP1 hD1 hS1 => kk H1 locs1 ⟨L, _, fun b => ?_, by rw [mw_set_ix hD h1 hq] at hP1; exact hP1, by rw [mw_set_ix hD h1 hq] at hD1; exact hD1⟩ hS1)
  by_cases hb : b = a
  · subst hb
    rw [va_up_self, va_up_self, if_pos h1]
  · rw [va_up_ne _ _ hb, va_up_ne _ _ hb]
    exact hM b
theorem mw_putF (F : CallFix p m c cc nL s args Ts own) (hK : va_K D vwCl tys s) (hW : mw D A M H) (hS : va_S A H0 H locs) {C : String} {T : u_T} {N ci index : Nat} (hin : ∀ w ∈ u_ws C T N, w ∈ Ts) (ty0 : Nat → FieldType) (hty : ∀ k, k < N → parseFieldDescriptor (T k).2.2.1 = some (ty0 k)) (hnm : ∀ a, a < N → ∀ b, b < N → a ≠ b → (T a).2.1 ≠ (T b).2.1) {fs : List Value} (he : M a = some (.inr (ci, fs))) (hc : vwCl[ci]? = some (C, T, N)) (k : Nat) (hk : k < N) (hlink : (Cond.fieldLink own index (T k).1 (T k).2.1 (T k).2.2.1).before args s = true) (hfin : (T k).2.2.2 = true) (hin2 : meth.name = "<init>") (hdecl : (T k).1 = own) {v : Value} (hn : narrow (ty0 k) v = v) (hfit : fits (ty0 k) v = true) (hl : k < fs.length) (hdg : decode cc pc = .ok (.putfield index, 3))
    (kk : ∀ (H1 : Heap) (locs1 : List Loc), mw D A (va_up M a (some (.inr (ci, fs.set k v)))) H1 → va_S A H0 H1 locs1 → W p l e R s m args below meth c H1 locs1 cells slots Q (F0 m (pc + 3) ls rest)) : W p l e R s m args below meth c H locs cells slots Q (F0 m pc ls (v :: .ref a :: rest)) := by
  obtain ⟨L, f, hM, hP, hD⟩ := hW
  obtain ⟨h1, h2⟩ := mw_mem hM he
  obtain ⟨q, hq⟩ := mw_get_ix (f := f) h1
  refine va_putF F.1 F.2.1 F.2.2.2.2 hin ty0 hty hnm F.2.2.2.1 hK hP hD hS q (by rw [← h2]; exact hq) hc k hk hlink (fun _ h => h) hfin hin2 hdecl (hty k hk) hn hfit hl hdg (fun H1 locs1 hP1 hD1 hS1 => kk H1 locs1 ⟨L, _, fun b => ?_, by rw [mw_set_ix hD h1 hq] at hP1; exact hP1, by rw [mw_set_ix hD h1 hq] at hD1; exact hD1⟩ hS1)
  by_cases hb : b = a
  · subst hb
    rw [va_up_self, va_up_self, if_pos h1]
  · rw [va_up_ne _ _ hb, va_up_ne _ _ hb]
    exact hM b
theorem mw_iald (F : CallFix p m c cc nL s args Ts own) (hK : va_K D vwCl tys s) (hW : mw D A M H) (t0 : Nat) {cA : ClassId} {n : Nat} {f : Nat → Int32} (he : M a = some (.inl (cA, n, .inl f))) (ht : tys[t0]? = some (cA, .int)) {i : Int32} (hin : vp_in i n) (hdg : decode cc pc = .ok (.iaload, 1))
    (kk : W p l e R s m args below meth c H locs cells slots Q (F0 m (pc + 1) ls (.int (f i.toNatClampNeg) :: rest))) : W p l e R s m args below meth c H locs cells slots Q (F0 m pc ls (.int i :: .ref a :: rest)) :=
  va_iald F.1 F.2.1 hK (hW.one he) 0 t0 rfl ht hin hdg kk
theorem mw_lald (F : CallFix p m c cc nL s args Ts own) (hK : va_K D vwCl tys s) (hW : mw D A M H) (t0 : Nat) {cA : ClassId} {n : Nat} {f : Nat → Int64} (he : M a = some (.inl (cA, n, .inr (.inl f)))) (ht : tys[t0]? = some (cA, .long)) {i : Int32} (hin : vp_in i n) (hdg : decode cc pc = .ok (.laload, 1))
    (kk : W p l e R s m args below meth c H locs cells slots Q (F0 m (pc + 1) ls (.long (f i.toNatClampNeg) :: rest))) : W p l e R s m args below meth c H locs cells slots Q (F0 m pc ls (.int i :: .ref a :: rest)) :=
  va_lald F.1 F.2.1 hK (hW.one he) 0 t0 rfl ht hin hdg kk
theorem mw_aald (F : CallFix p m c cc nL s args Ts own) (hK : va_K D vwCl tys s) (hW : mw D A M H) (t0 : Nat) {cA : ClassId} {C : String} {n : Nat} {f : Nat → Option Nat} (he : M a = some (.inl (cA, n, .inr (.inr (.inr (.inr f)))))) (ht : tys[t0]? = some (cA, .object C)) {i : Int32} (hin : vp_in i n) (hdg : decode cc pc = .ok (.aaload, 1))
    (kk : W p l e R s m args below meth c H locs cells slots Q (F0 m (pc + 1) ls (va_rf (f i.toNatClampNeg) :: rest))) : W p l e R s m args below meth c H locs cells slots Q (F0 m pc ls (.int i :: .ref a :: rest)) :=
  va_aldq F.1 F.2.1 hK (hW.one he) 0 t0 rfl ht hin hdg kk
theorem mw_iast (F : CallFix p m c cc nL s args Ts own) (hK : va_K D vwCl tys s) (hW : mw D A M H) (hS : va_S A H0 H locs) (t0 : Nat) {cA : ClassId} {n : Nat} {f : Nat → Int32} (he : M a = some (.inl (cA, n, .inl f))) (ht : tys[t0]? = some (cA, .int)) {i x : Int32} (hin : vp_in i n) (hdg : decode cc pc = .ok (.iastore, 1))
    (kk : ∀ (H1 : Heap) (locs1 : List Loc), mw D A (va_up M a (some (.inl (cA, n, .inl (upd f i.toNatClampNeg x))))) H1 → va_S A H0 H1 locs1 → W p l e R s m args below meth c H1 locs1 cells slots Q (F0 m (pc + 1) ls rest)) : W p l e R s m args below meth c H locs cells slots Q (F0 m pc ls (.int x :: .int i :: .ref a :: rest)) := by
  obtain ⟨L, g, hM, hP, hD⟩ := hW
  obtain ⟨h1, h2⟩ := mw_mem hM he
  obtain ⟨q, hq⟩ := mw_get_ix (f := g) h1
  refine va_iast F.1 F.2.1 hK hP hD hS q t0 (by rw [← h2]; exact hq) ht hin hdg (fun H1 locs1 hP1 hD1 hS1 => kk H1 locs1 ⟨L, _, fun b => ?_, by rw [mw_set_ix hD h1 hq] at hP1; exact hP1, by rw [mw_set_ix hD h1 hq] at hD1; exact hD1⟩ hS1)
  by_cases hb : b = a
  · subst hb
    rw [va_up_self, va_up_self, if_pos h1]
  · rw [va_up_ne _ _ hb, va_up_ne _ _ hb]
    exact hM b
theorem mw_last (F : CallFix p m c cc nL s args Ts own) (hK : va_K D vwCl tys s) (hW : mw D A M H) (hS : va_S A H0 H locs) (t0 : Nat) {cA : ClassId} {n : Nat} {f : Nat → Int64} (he : M a = some (.inl (cA, n, .inr (.inl f)))) (ht : tys[t0]? = some (cA, .long)) {i : Int32} {x : Int64} (hin : vp_in i n) (hdg : decode cc pc = .ok (.lastore, 1))
    (kk : ∀ (H1 : Heap) (locs1 : List Loc), mw D A (va_up M a (some (.inl (cA, n, .inr (.inl (vp_updL f i.toNatClampNeg x)))))) H1 → va_S A H0 H1 locs1 → W p l e R s m args below meth c H1 locs1 cells slots Q (F0 m (pc + 1) ls rest)) : W p l e R s m args below meth c H locs cells slots Q (F0 m pc ls (.long x :: .int i :: .ref a :: rest)) := by
  obtain ⟨L, g, hM, hP, hD⟩ := hW
  obtain ⟨h1, h2⟩ := mw_mem hM he
  obtain ⟨q, hq⟩ := mw_get_ix (f := g) h1
  refine va_last F.1 F.2.1 hK hP hD hS q t0 (by rw [← h2]; exact hq) ht hin hdg (fun H1 locs1 hP1 hD1 hS1 => kk H1 locs1 ⟨L, _, fun b => ?_, by rw [mw_set_ix hD h1 hq] at hP1; exact hP1, by rw [mw_set_ix hD h1 hq] at hD1; exact hD1⟩ hS1)
  by_cases hb : b = a
  · subst hb
    rw [va_up_self, va_up_self, if_pos h1]
  · rw [va_up_ne _ _ hb, va_up_ne _ _ hb]
    exact hM b
theorem mw_aast (F : CallFix p m c cc nL s args Ts own) (hK : va_K D vwCl tys s) (hW : mw D A M H) (hS : va_S A H0 H locs) (t0 ci : Nat) {cA : ClassId} {r : vw_C} {n v : Nat} {vs : List Value} {f : Nat → Option Nat} (he : M a = some (.inl (cA, n, .inr (.inr (.inr (.inr f)))))) (ht : tys[t0]? = some (cA, .object r.1)) (hv : M v = some (.inr (ci, vs))) (hc : vwCl[ci]? = some r) {i : Int32} (hin : vp_in i n) (hdg : decode cc pc = .ok (.aastore, 1))
    (kk : ∀ (H1 : Heap) (locs1 : List Loc), mw D A (va_up M a (some (.inl (cA, n, .inr (.inr (.inr (.inr (va_up f i.toNatClampNeg (some v))))))))) H1 → va_S A H0 H1 locs1 → W p l e R s m args below meth c H1 locs1 cells slots Q (F0 m (pc + 1) ls rest)) : W p l e R s m args below meth c H locs cells slots Q (F0 m pc ls (.ref v :: .int i :: .ref a :: rest)) := by
  obtain ⟨L, g, hM, hP, hD⟩ := hW
  obtain ⟨h1, h2⟩ := mw_mem hM he
  obtain ⟨q, hq⟩ := mw_get_ix (f := g) h1
  obtain ⟨h3, h4⟩ := mw_mem hM hv
  obtain ⟨qv, hqv⟩ := mw_get_ix (f := g) h3
  refine va_astq F.1 F.2.1 hK hP hD hS q t0 qv ci (by rw [← h2]; exact hq) ht (by rw [← h4]; exact hqv) hc hin hdg (fun H1 locs1 hP1 hD1 hS1 => kk H1 locs1 ⟨L, _, fun b => ?_, by rw [mw_set_ix hD h1 hq] at hP1; exact hP1, by rw [mw_set_ix hD h1 hq] at hD1; exact hD1⟩ hS1)
  by_cases hb : b = a
  · subst hb
    rw [va_up_self, va_up_self, if_pos h1]
  · rw [va_up_ne _ _ hb, va_up_ne _ _ hb]
    exact hM b
theorem mw_aastN (F : CallFix p m c cc nL s args Ts own) (hK : va_K D vwCl tys s) (hW : mw D A M H) (hS : va_S A H0 H locs) (t0 : Nat) {cA : ClassId} {C : String} {n : Nat} {f : Nat → Option Nat} (he : M a = some (.inl (cA, n, .inr (.inr (.inr (.inr f)))))) (ht : tys[t0]? = some (cA, .object C)) {i : Int32} (hin : vp_in i n) (hdg : decode cc pc = .ok (.aastore, 1))
    (kk : ∀ (H1 : Heap) (locs1 : List Loc), mw D A (va_up M a (some (.inl (cA, n, .inr (.inr (.inr (.inr (va_up f i.toNatClampNeg none)))))))) H1 → va_S A H0 H1 locs1 → W p l e R s m args below meth c H1 locs1 cells slots Q (F0 m (pc + 1) ls rest)) : W p l e R s m args below meth c H locs cells slots Q (F0 m pc ls (.null :: .int i :: .ref a :: rest)) := by
  obtain ⟨L, g, hM, hP, hD⟩ := hW
  obtain ⟨h1, h2⟩ := mw_mem hM he
  obtain ⟨q, hq⟩ := mw_get_ix (f := g) h1
  refine va_astqN F.1 F.2.1 hK hP hD hS q t0 (by rw [← h2]; exact hq) ht hin hdg (fun H1 locs1 hP1 hD1 hS1 => kk H1 locs1 ⟨L, _, fun b => ?_, by rw [mw_set_ix hD h1 hq] at hP1; exact hP1, by rw [mw_set_ix hD h1 hq] at hD1; exact hD1⟩ hS1)
  by_cases hb : b = a
  · subst hb
    rw [va_up_self, va_up_self, if_pos h1]
  · rw [va_up_ne _ _ hb, va_up_ne _ _ hb]
    exact hM b
theorem mw_push {D : va_G} {A : Nat → Prop} {M : Nat → Option va_E} {H1 : Heap} {L : List Nat} {f : Nat → va_E} {q : Nat} {x : va_E} (hM : ∀ a, M a = if a ∈ L then some (f a) else none) (hq : q ∉ L) (hP : va_P D vwCl (va_pl L f ++ [(q, x)]) H1) (hD : va_D A (va_pl L f ++ [(q, x)])) : mw D A (va_up M q (some x)) H1 := by
  rw [va_pl_push hq] at hP hD
  refine ⟨L ++ [q], _, fun b => ?_, hP, hD⟩
  by_cases hb : b = q
  · subst hb
    rw [va_up_self, va_up_self, if_pos (List.mem_append_right _ (List.mem_singleton.mpr rfl))]
  · rw [va_up_ne _ _ hb, va_up_ne _ _ hb, hM b]
    simp [hb]
theorem mw_new (F : CallFix p m c cc nL s args Ts own) (hK : va_K D vwCl tys s) (hW : mw D A M H) (hS : va_S A H0 H locs) (hA : ∀ q, H0.size ≤ q → A q) {C : String} {T : u_T} {N ci index : Nat} (hin : ∀ w ∈ u_ws C T N, w ∈ Ts) (ty : Nat → FieldType) (hty : ∀ k, k < N → parseFieldDescriptor (T k).2.2.1 = some (ty k)) (hcl : (Cond.classLink own index C).before args s = true) (hinst : (Cond.instantiable C N).before args s = true) (hini : (Cond.initialized C).before args s = true) (hc : vwCl[ci]? = some (C, T, N)) {fs : List Value} (hfs : ∀ j, j < N → defaultValue (ty j) = vp_V fs j) (hcells : cells + 1 ≤ R.cells) (hslots : slots + N ≤ R.slots) (hdg : decode cc pc = .ok (.new index, 3))
    (kk : ∀ (q : Nat) (H1 : Heap), M q = none → mw D A (va_up M q (some (.inr (ci, fs)))) H1 → va_S A H0 H1 locs → W p l e R s m args below meth c H1 locs (cells + 1) (slots + N) Q (F0 m (pc + 3) ls (.ref q :: rest))) : W p l e R s m args below meth c H locs cells slots Q (F0 m pc ls rest) := by
  obtain ⟨L, g, hM, hP, hD⟩ := hW
  refine va_new F.1 F.2.1 F.2.2.2.2 hin ty hty F.2.2.2.1 hcl hinst hini hK hP hD hS hA hc hfs hcells hslots hdg (fun q H1 hP1 hD1 hS1 => ?_)
  have hq : q ∉ L := va_pl_fresh2 (X := []) hD1
  exact kk q H1 (by rw [hM q, if_neg hq]) (mw_push hM hq hP1 hD1) hS1
theorem mw_newa (F : CallFix p m c cc nL s args Ts own) (hK : va_K D vwCl tys s) (hW : mw D A M H) (hS : va_S A H0 H locs) (hA : ∀ q, H0.size ≤ q → A q) (t0 : Nat) {cA : ClassId} {atype : ArrayType} (harr : (Cond.arrayClass (newarray.typeOf atype)).before args s = true) {ty : FieldType} (hty : newarray.typeOf atype = ty) (ht : tys[t0]? = some (cA, ty)) (hprim : ∀ C, ty ≠ .object C)
    {n : Int32} {N' : Nat} {a0 : vp_A} (ha : ∀ cA : ClassId, vp_cell cA a0 = arrV cA N' (fun _ => defaultValue ty)) (hn : ¬ n < 0) (hN : n.toNatClampNeg = N') (hbytes : N' * componentBytes ty ≤ 536870912) (hcells : cells + 1 ≤ R.cells) (hslots : slots + N' ≤ R.slots) (hdg : decode cc pc = .ok (.newarray atype, 2))
    (kk : ∀ (q : Nat) (H1 : Heap), M q = none → mw D A (va_up M q (some (.inl (cA, a0)))) H1 → va_S A H0 H1 locs → W p l e R s m args below meth c H1 locs (cells + 1) (slots + N') Q (F0 m (pc + 2) ls (.ref q :: rest))) : W p l e R s m args below meth c H locs cells slots Q (F0 m pc ls (.int n :: rest)) := by
  obtain ⟨L, g, hM, hP, hD⟩ := hW
  refine va_newa F.1 F.2.1 harr hty hK hP hD hS hA ha hn hN hbytes hcells hslots hdg (fun q cA1 H1 hK1 hP1 hD1 hS1 => ?_)
  have hq : q ∉ L := va_pl_fresh2 (X := []) hD1
  have e1 : cA1 = cA := by
    have h1 := (hK1.2 tys.length (cA1, ty) (by simp)).2
    have h2 := (hK.2 t0 _ ht).2
    cases ty <;> first | exact absurd rfl (hprim _) | exact Option.some.inj (h1.symm.trans h2)
  subst e1
  exact kk q H1 (by rw [hM q, if_neg hq]) (mw_push hM hq hP1 hD1) hS1
theorem mw_newq (F : CallFix p m c cc nL s args Ts own) (hK : va_K D vwCl tys s) (hW : mw D A M H) (hS : va_S A H0 H locs) (hA : ∀ q, H0.size ≤ q → A q) (t0 : Nat) {cA : ClassId} {C : String} {index : Nat} (hclink : (Cond.classLink own index C).before args s = true) (hover : va_AO C s) (ht : tys[t0]? = some (cA, .object C))
    {n : Int32} {N' : Nat} (hn : ¬ n < 0) (hN : n.toNatClampNeg = N') (hbytes : N' * 4 ≤ 536870912) (hcells : cells + 1 ≤ R.cells) (hslots : slots + N' ≤ R.slots) (hdg : decode cc pc = .ok (.anewarray index, 3))
    (kk : ∀ (q : Nat) (H1 : Heap), M q = none → mw D A (va_up M q (some (.inl (cA, N', .inr (.inr (.inr (.inr (fun _ => none)))))))) H1 → va_S A H0 H1 locs → W p l e R s m args below meth c H1 locs (cells + 1) (slots + N') Q (F0 m (pc + 3) ls (.ref q :: rest))) : W p l e R s m args below meth c H locs cells slots Q (F0 m pc ls (.int n :: rest)) := by
  obtain ⟨L, g, hM, hP, hD⟩ := hW
  refine va_newq F.1 F.2.1 F.2.2.2.1 hclink hover hK hP hD hS hA hn hN hbytes hcells hslots hdg (fun q cA1 H1 hK1 hP1 hD1 hS1 => ?_)
  have hq : q ∉ L := va_pl_fresh2 (X := []) hD1
  have e1 : cA1 = cA := by
    obtain ⟨-, -, -, -, -, h1⟩ := (hK1.2 tys.length (cA1, .object C) (by simp)).2
    obtain ⟨-, -, -, -, -, h2⟩ := (hK.2 t0 _ ht).2
    exact Option.some.inj (h1.symm.trans h2)
  subst e1
  exact kk q H1 (by rw [hM q, if_neg hq]) (mw_push hM hq hP1 hD1) hS1
theorem mw_copyl (F : CallFix p m c cc nL s args Ts own) (hsz : ls.size = nL) (hK : va_K D vwCl tys s) (hW : mw D A M H) (hS : va_S A H0 H locs) (t0 : Nat) {index : Nat} (hlink : (Cond.methodLink own index arraycopyName).before args s = true) (hnat : (Cond.native arraycopyName).before args s = true) (hstat : (Cond.static arraycopyName).before args s = true) (hini : (Cond.initialized "java/lang/System").before args s = true) {a0 : Nat} {cA : ClassId} {n0 n1 : Nat} {f g : Nat → Int64} (he0 : M a0 = some (.inl (cA, n0, .inr (.inl f)))) (he1 : M a = some (.inl (cA, n1, .inr (.inl g)))) (ht : tys[t0]? = some (cA, .long))
    {sp dp n : Int32} (h1 : ¬ sp < 0) (h2 : ¬ dp < 0) (h3 : ¬ n < 0) (h4 : sp.toNatClampNeg + n.toNatClampNeg ≤ n0) (h5 : dp.toNatClampNeg + n.toNatClampNeg ≤ n1) (hframes : 1 ≤ R.frames) (hlocals : (rest.map fun v => v.category).sum + (nativeFrameWords "java/lang/System" "arraycopy" 5 + 11) ≤ R.locals) (hdg : decode cc pc = .ok (.invokestatic index, 3))
    (kk : ∀ (H1 : Heap) (locs1 : List Loc), mw D A (va_up M a (some (.inl (cA, n1, .inr (.inl (va_cpy f g sp.toNatClampNeg dp.toNatClampNeg n.toNatClampNeg)))))) H1 → va_S A H0 H1 locs1 → W p l e R s m args below meth c H1 locs1 cells slots Q (F0 m (pc + 3) ls rest)) : W p l e R s m args below meth c H locs cells slots Q (F0 m pc ls (.int n :: .int dp :: .ref a :: .int sp :: .ref a0 :: rest)) := by
  obtain ⟨L, gg, hM, hP, hD⟩ := hW
  obtain ⟨i1, i2⟩ := mw_mem hM he0
  obtain ⟨q0, hq0⟩ := mw_get_ix (f := gg) i1
  obtain ⟨j1, j2⟩ := mw_mem hM he1
  obtain ⟨q1, hq1⟩ := mw_get_ix (f := gg) j1
  refine va_copyl F.1 F.2.1 (F.2.2.1.trans hsz.symm) F.2.2.2.1 hlink hnat hstat hini hK hP hD hS q0 q1 t0 t0 (by rw [← i2]; exact hq0) (by rw [← j2]; exact hq1) ht ht rfl h1 h2 h3 h4 h5 (fun i _ => rfl) hframes hlocals hdg (fun H1 locs1 hP1 hD1 hS1 => kk H1 locs1 ⟨L, _, fun b => ?_, by rw [mw_set_ix hD j1 hq1] at hP1; exact hP1, by rw [mw_set_ix hD j1 hq1] at hD1; exact hD1⟩ hS1)
  by_cases hb : b = a
  · subst hb
    rw [va_up_self, va_up_self, if_pos j1]
  · rw [va_up_ne _ _ hb, va_up_ne _ _ hb]
    exact hM b
theorem mw_copyq (F : CallFix p m c cc nL s args Ts own) (hsz : ls.size = nL) (hK : va_K D vwCl tys s) (hW : mw D A M H) (hS : va_S A H0 H locs) (t0 ci : Nat) {r : vw_C} (hc : vwCl[ci]? = some r) {index : Nat} (hlink : (Cond.methodLink own index arraycopyName).before args s = true) (hnat : (Cond.native arraycopyName).before args s = true) (hstat : (Cond.static arraycopyName).before args s = true) (hini : (Cond.initialized "java/lang/System").before args s = true) {a0 : Nat} {cA : ClassId} {n0 n1 : Nat} {f g : Nat → Option Nat} (he0 : M a0 = some (.inl (cA, n0, .inr (.inr (.inr (.inr f)))))) (he1 : M a = some (.inl (cA, n1, .inr (.inr (.inr (.inr g)))))) (ht : tys[t0]? = some (cA, .object r.1))
    {sp dp n : Int32} (h1 : ¬ sp < 0) (h2 : ¬ dp < 0) (h3 : ¬ n < 0) (h4 : sp.toNatClampNeg + n.toNatClampNeg ≤ n0) (h5 : dp.toNatClampNeg + n.toNatClampNeg ≤ n1) (hel : ∀ i : Nat, i < n.toNatClampNeg → ∀ y : Nat, f (sp.toNatClampNeg + i) = some y → ∃ fs, M y = some (.inr (ci, fs))) (hframes : 1 ≤ R.frames) (hlocals : (rest.map fun v => v.category).sum + (nativeFrameWords "java/lang/System" "arraycopy" 5 + 11) ≤ R.locals) (hdg : decode cc pc = .ok (.invokestatic index, 3))
    (kk : ∀ (H1 : Heap) (locs1 : List Loc), mw D A (va_up M a (some (.inl (cA, n1, .inr (.inr (.inr (.inr (va_cpy f g sp.toNatClampNeg dp.toNatClampNeg n.toNatClampNeg)))))))) H1 → va_S A H0 H1 locs1 → W p l e R s m args below meth c H1 locs1 cells slots Q (F0 m (pc + 3) ls rest)) : W p l e R s m args below meth c H locs cells slots Q (F0 m pc ls (.int n :: .int dp :: .ref a :: .int sp :: .ref a0 :: rest)) := by
  have hW0 := hW
  obtain ⟨L, gg, hM, hP, hD⟩ := hW
  obtain ⟨i1, i2⟩ := mw_mem hM he0
  obtain ⟨q0, hq0⟩ := mw_get_ix (f := gg) i1
  obtain ⟨j1, j2⟩ := mw_mem hM he1
  obtain ⟨q1, hq1⟩ := mw_get_ix (f := gg) j1
  refine va_copyq (C := r.1) F.1 F.2.1 (F.2.2.1.trans hsz.symm) F.2.2.2.1 hlink hnat hstat hini hK hP hD hS q0 q1 t0 t0 (by rw [← i2]; exact hq0) (by rw [← j2]; exact hq1) ht ht h1 h2 h3 h4 h5 (fun i hi y hy => ?_) (fun comp c0 k1 k2 => ?_) hframes hlocals hdg (fun H1 locs1 hP1 hD1 hS1 => kk H1 locs1 ⟨L, _, fun b => ?_, by rw [mw_set_ix hD j1 hq1] at hP1; exact hP1, by rw [mw_set_ix hD j1 hq1] at hD1; exact hD1⟩ hS1)
  · obtain ⟨fs, hfs⟩ := hel i hi y hy
    exact mw_recv hK hW0 hc hfs
  · cases k1.symm.trans k2
    have h9 := (hK.1 ci r hc).2
    cases h9.1.symm.trans k1
    exact va_assign h9
  · by_cases hb : b = a
    · subst hb
      rw [va_up_self, va_up_self, if_pos j1]
    · rw [va_up_ne _ _ hb, va_up_ne _ _ hb]
      exact hM b
end MWR
