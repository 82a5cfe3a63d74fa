abbrev TH : Type := Nat × Nat × Nat × Nat × Nat × Nat × (Nat → Nat) × (Nat → Nat) × (Nat → Nat) × (Nat → Nat) × (Nat → Nat) × (Nat → Nat) × (Nat → Int32) × Option Nat × (Nat → Int64) × (Nat → Option Nat)
def tA1 (θ : TH) : Nat := θ.1
def tA2 (θ : TH) : Nat := θ.2.1
def tSt (θ : TH) : Nat := θ.2.2.1
def tRk (θ : TH) : Nat := θ.2.2.2.1
def tSn (θ : TH) : Nat := θ.2.2.2.2.1
def tRq (θ : TH) : Nat := θ.2.2.2.2.2.1
def tSp (θ : TH) : Nat → Nat := θ.2.2.2.2.2.2.1
def tLa (θ : TH) : Nat → Nat := θ.2.2.2.2.2.2.2.1
def tRa (θ : TH) : Nat → Nat := θ.2.2.2.2.2.2.2.2.1
def tRn (θ : TH) : Nat → Nat := θ.2.2.2.2.2.2.2.2.2.1
def tRc (θ : TH) : Nat → Nat := θ.2.2.2.2.2.2.2.2.2.2.1
def tCa (θ : TH) : Nat → Nat := θ.2.2.2.2.2.2.2.2.2.2.2.1
def tEn (θ : TH) : Nat → Int32 := θ.2.2.2.2.2.2.2.2.2.2.2.2.1
def tCv (θ : TH) : Option Nat := θ.2.2.2.2.2.2.2.2.2.2.2.2.2.1
def tFs (θ : TH) : Nat → Int64 := θ.2.2.2.2.2.2.2.2.2.2.2.2.2.2.1
def tGs (θ : TH) : Nat → Option Nat := θ.2.2.2.2.2.2.2.2.2.2.2.2.2.2.2
def uA1 (θ : TH) (v : Nat) : TH := (v, θ.2.1, θ.2.2.1, θ.2.2.2.1, θ.2.2.2.2.1, θ.2.2.2.2.2.1, θ.2.2.2.2.2.2.1, θ.2.2.2.2.2.2.2.1, θ.2.2.2.2.2.2.2.2.1, θ.2.2.2.2.2.2.2.2.2.1, θ.2.2.2.2.2.2.2.2.2.2.1, θ.2.2.2.2.2.2.2.2.2.2.2.1, θ.2.2.2.2.2.2.2.2.2.2.2.2.1, θ.2.2.2.2.2.2.2.2.2.2.2.2.2.1, θ.2.2.2.2.2.2.2.2.2.2.2.2.2.2.1, θ.2.2.2.2.2.2.2.2.2.2.2.2.2.2.2)
def uA2 (θ : TH) (v : Nat) : TH := (θ.1, v, θ.2.2.1, θ.2.2.2.1, θ.2.2.2.2.1, θ.2.2.2.2.2.1, θ.2.2.2.2.2.2.1, θ.2.2.2.2.2.2.2.1, θ.2.2.2.2.2.2.2.2.1, θ.2.2.2.2.2.2.2.2.2.1, θ.2.2.2.2.2.2.2.2.2.2.1, θ.2.2.2.2.2.2.2.2.2.2.2.1, θ.2.2.2.2.2.2.2.2.2.2.2.2.1, θ.2.2.2.2.2.2.2.2.2.2.2.2.2.1, θ.2.2.2.2.2.2.2.2.2.2.2.2.2.2.1, θ.2.2.2.2.2.2.2.2.2.2.2.2.2.2.2)
def uSt (θ : TH) (v : Nat) : TH := (θ.1, θ.2.1, v, θ.2.2.2.1, θ.2.2.2.2.1, θ.2.2.2.2.2.1, θ.2.2.2.2.2.2.1, θ.2.2.2.2.2.2.2.1, θ.2.2.2.2.2.2.2.2.1, θ.2.2.2.2.2.2.2.2.2.1, θ.2.2.2.2.2.2.2.2.2.2.1, θ.2.2.2.2.2.2.2.2.2.2.2.1, θ.2.2.2.2.2.2.2.2.2.2.2.2.1, θ.2.2.2.2.2.2.2.2.2.2.2.2.2.1, θ.2.2.2.2.2.2.2.2.2.2.2.2.2.2.1, θ.2.2.2.2.2.2.2.2.2.2.2.2.2.2.2)
def uRk (θ : TH) (v : Nat) : TH := (θ.1, θ.2.1, θ.2.2.1, v, θ.2.2.2.2.1, θ.2.2.2.2.2.1, θ.2.2.2.2.2.2.1, θ.2.2.2.2.2.2.2.1, θ.2.2.2.2.2.2.2.2.1, θ.2.2.2.2.2.2.2.2.2.1, θ.2.2.2.2.2.2.2.2.2.2.1, θ.2.2.2.2.2.2.2.2.2.2.2.1, θ.2.2.2.2.2.2.2.2.2.2.2.2.1, θ.2.2.2.2.2.2.2.2.2.2.2.2.2.1, θ.2.2.2.2.2.2.2.2.2.2.2.2.2.2.1, θ.2.2.2.2.2.2.2.2.2.2.2.2.2.2.2)
def uSn (θ : TH) (v : Nat) : TH := (θ.1, θ.2.1, θ.2.2.1, θ.2.2.2.1, v, θ.2.2.2.2.2.1, θ.2.2.2.2.2.2.1, θ.2.2.2.2.2.2.2.1, θ.2.2.2.2.2.2.2.2.1, θ.2.2.2.2.2.2.2.2.2.1, θ.2.2.2.2.2.2.2.2.2.2.1, θ.2.2.2.2.2.2.2.2.2.2.2.1, θ.2.2.2.2.2.2.2.2.2.2.2.2.1, θ.2.2.2.2.2.2.2.2.2.2.2.2.2.1, θ.2.2.2.2.2.2.2.2.2.2.2.2.2.2.1, θ.2.2.2.2.2.2.2.2.2.2.2.2.2.2.2)
def uRq (θ : TH) (v : Nat) : TH := (θ.1, θ.2.1, θ.2.2.1, θ.2.2.2.1, θ.2.2.2.2.1, v, θ.2.2.2.2.2.2.1, θ.2.2.2.2.2.2.2.1, θ.2.2.2.2.2.2.2.2.1, θ.2.2.2.2.2.2.2.2.2.1, θ.2.2.2.2.2.2.2.2.2.2.1, θ.2.2.2.2.2.2.2.2.2.2.2.1, θ.2.2.2.2.2.2.2.2.2.2.2.2.1, θ.2.2.2.2.2.2.2.2.2.2.2.2.2.1, θ.2.2.2.2.2.2.2.2.2.2.2.2.2.2.1, θ.2.2.2.2.2.2.2.2.2.2.2.2.2.2.2)
def uSp (θ : TH) (v : Nat → Nat) : TH := (θ.1, θ.2.1, θ.2.2.1, θ.2.2.2.1, θ.2.2.2.2.1, θ.2.2.2.2.2.1, v, θ.2.2.2.2.2.2.2.1, θ.2.2.2.2.2.2.2.2.1, θ.2.2.2.2.2.2.2.2.2.1, θ.2.2.2.2.2.2.2.2.2.2.1, θ.2.2.2.2.2.2.2.2.2.2.2.1, θ.2.2.2.2.2.2.2.2.2.2.2.2.1, θ.2.2.2.2.2.2.2.2.2.2.2.2.2.1, θ.2.2.2.2.2.2.2.2.2.2.2.2.2.2.1, θ.2.2.2.2.2.2.2.2.2.2.2.2.2.2.2)
def uLa (θ : TH) (v : Nat → Nat) : TH := (θ.1, θ.2.1, θ.2.2.1, θ.2.2.2.1, θ.2.2.2.2.1, θ.2.2.2.2.2.1, θ.2.2.2.2.2.2.1, v, θ.2.2.2.2.2.2.2.2.1, θ.2.2.2.2.2.2.2.2.2.1, θ.2.2.2.2.2.2.2.2.2.2.1, θ.2.2.2.2.2.2.2.2.2.2.2.1, θ.2.2.2.2.2.2.2.2.2.2.2.2.1, θ.2.2.2.2.2.2.2.2.2.2.2.2.2.1, θ.2.2.2.2.2.2.2.2.2.2.2.2.2.2.1, θ.2.2.2.2.2.2.2.2.2.2.2.2.2.2.2)
def uRa (θ : TH) (v : Nat → Nat) : TH := (θ.1, θ.2.1, θ.2.2.1, θ.2.2.2.1, θ.2.2.2.2.1, θ.2.2.2.2.2.1, θ.2.2.2.2.2.2.1, θ.2.2.2.2.2.2.2.1, v, θ.2.2.2.2.2.2.2.2.2.1, θ.2.2.2.2.2.2.2.2.2.2.1, θ.2.2.2.2.2.2.2.2.2.2.2.1, θ.2.2.2.2.2.2.2.2.2.2.2.2.1, θ.2.2.2.2.2.2.2.2.2.2.2.2.2.1, θ.2.2.2.2.2.2.2.2.2.2.2.2.2.2.1, θ.2.2.2.2.2.2.2.2.2.2.2.2.2.2.2)
def uRn (θ : TH) (v : Nat → Nat) : TH := (θ.1, θ.2.1, θ.2.2.1, θ.2.2.2.1, θ.2.2.2.2.1, θ.2.2.2.2.2.1, θ.2.2.2.2.2.2.1, θ.2.2.2.2.2.2.2.1, θ.2.2.2.2.2.2.2.2.1, v, θ.2.2.2.2.2.2.2.2.2.2.1, θ.2.2.2.2.2.2.2.2.2.2.2.1, θ.2.2.2.2.2.2.2.2.2.2.2.2.1, θ.2.2.2.2.2.2.2.2.2.2.2.2.2.1, θ.2.2.2.2.2.2.2.2.2.2.2.2.2.2.1, θ.2.2.2.2.2.2.2.2.2.2.2.2.2.2.2)
def uRc (θ : TH) (v : Nat → Nat) : TH := (θ.1, θ.2.1, θ.2.2.1, θ.2.2.2.1, θ.2.2.2.2.1, θ.2.2.2.2.2.1, θ.2.2.2.2.2.2.1, θ.2.2.2.2.2.2.2.1, θ.2.2.2.2.2.2.2.2.1, θ.2.2.2.2.2.2.2.2.2.1, v, θ.2.2.2.2.2.2.2.2.2.2.2.1, θ.2.2.2.2.2.2.2.2.2.2.2.2.1, θ.2.2.2.2.2.2.2.2.2.2.2.2.2.1, θ.2.2.2.2.2.2.2.2.2.2.2.2.2.2.1, θ.2.2.2.2.2.2.2.2.2.2.2.2.2.2.2)
def uCa (θ : TH) (v : Nat → Nat) : TH := (θ.1, θ.2.1, θ.2.2.1, θ.2.2.2.1, θ.2.2.2.2.1, θ.2.2.2.2.2.1, θ.2.2.2.2.2.2.1, θ.2.2.2.2.2.2.2.1, θ.2.2.2.2.2.2.2.2.1, θ.2.2.2.2.2.2.2.2.2.1, θ.2.2.2.2.2.2.2.2.2.2.1, v, θ.2.2.2.2.2.2.2.2.2.2.2.2.1, θ.2.2.2.2.2.2.2.2.2.2.2.2.2.1, θ.2.2.2.2.2.2.2.2.2.2.2.2.2.2.1, θ.2.2.2.2.2.2.2.2.2.2.2.2.2.2.2)
def uEn (θ : TH) (v : Nat → Int32) : TH := (θ.1, θ.2.1, θ.2.2.1, θ.2.2.2.1, θ.2.2.2.2.1, θ.2.2.2.2.2.1, θ.2.2.2.2.2.2.1, θ.2.2.2.2.2.2.2.1, θ.2.2.2.2.2.2.2.2.1, θ.2.2.2.2.2.2.2.2.2.1, θ.2.2.2.2.2.2.2.2.2.2.1, θ.2.2.2.2.2.2.2.2.2.2.2.1, v, θ.2.2.2.2.2.2.2.2.2.2.2.2.2.1, θ.2.2.2.2.2.2.2.2.2.2.2.2.2.2.1, θ.2.2.2.2.2.2.2.2.2.2.2.2.2.2.2)
def uCv (θ : TH) (v : Option Nat) : TH := (θ.1, θ.2.1, θ.2.2.1, θ.2.2.2.1, θ.2.2.2.2.1, θ.2.2.2.2.2.1, θ.2.2.2.2.2.2.1, θ.2.2.2.2.2.2.2.1, θ.2.2.2.2.2.2.2.2.1, θ.2.2.2.2.2.2.2.2.2.1, θ.2.2.2.2.2.2.2.2.2.2.1, θ.2.2.2.2.2.2.2.2.2.2.2.1, θ.2.2.2.2.2.2.2.2.2.2.2.2.1, v, θ.2.2.2.2.2.2.2.2.2.2.2.2.2.2.1, θ.2.2.2.2.2.2.2.2.2.2.2.2.2.2.2)
def uFs (θ : TH) (v : Nat → Int64) : TH := (θ.1, θ.2.1, θ.2.2.1, θ.2.2.2.1, θ.2.2.2.2.1, θ.2.2.2.2.2.1, θ.2.2.2.2.2.2.1, θ.2.2.2.2.2.2.2.1, θ.2.2.2.2.2.2.2.2.1, θ.2.2.2.2.2.2.2.2.2.1, θ.2.2.2.2.2.2.2.2.2.2.1, θ.2.2.2.2.2.2.2.2.2.2.2.1, θ.2.2.2.2.2.2.2.2.2.2.2.2.1, θ.2.2.2.2.2.2.2.2.2.2.2.2.2.1, v, θ.2.2.2.2.2.2.2.2.2.2.2.2.2.2.2)
def uGs (θ : TH) (v : Nat → Option Nat) : TH := (θ.1, θ.2.1, θ.2.2.1, θ.2.2.2.1, θ.2.2.2.2.1, θ.2.2.2.2.2.1, θ.2.2.2.2.2.2.1, θ.2.2.2.2.2.2.2.1, θ.2.2.2.2.2.2.2.2.1, θ.2.2.2.2.2.2.2.2.2.1, θ.2.2.2.2.2.2.2.2.2.2.1, θ.2.2.2.2.2.2.2.2.2.2.2.1, θ.2.2.2.2.2.2.2.2.2.2.2.2.1, θ.2.2.2.2.2.2.2.2.2.2.2.2.2.1, θ.2.2.2.2.2.2.2.2.2.2.2.2.2.2.1, v)

def cdR (ca : Nat → Nat) (v : Int64) : Option Nat := if v = 0 then none else some (ca (cIx v))
def liveL (σ : RS) (k : Nat) : Prop := ∃ j, j < 10 ∧ sHo σ j = -1 - nI k
def hEx (M : Nat → Option va_E) (cJ cC : ClassId) (h : Nat) (k : Int32) (pn : Nat) (lb : Int32) : Prop := ∃ na ca f g, hOk M cJ cC h k pn na ca lb f g
def spOk (M : Nat → Option va_E) (cJ cC : ClassId) (σ : RS) (la ra : Nat → Nat) (j h : Nat) : Prop :=
  (sHo σ j = 0 ∧ ∃ lb, hEx M cJ cC h 0 0 lb) ∨ (∃ k, k < 10 ∧ sHo σ j = -1 - nI k ∧ h = la k) ∨ ∃ k, k < 12 ∧ sHo σ j = nI (k + 1) ∧ h = ra k
def rowOk (M : Nat → Option va_E) (cJ cC : ClassId) (σ : RS) (ca : Nat → Nat) (k h rn rc : Nat) : Prop :=
  ∃ n f g, n ≤ 80 ∧ sSi σ k = nI n ∧ hOk M cJ cC h (sKi σ k) n rn rc 0 f g ∧ (kStrip (sKi σ k) = true → ∀ i, i < n → f i = sPl σ (80 * k + i)) ∧ (kRack (sKi σ k) = true → ∀ i, i < n → g i = cdR ca (sPl σ (80 * k + i)))
def cardsOk (M : Nat → Option va_E) (σ : RS) (ca : Nat → Nat) : Prop :=
  ∃ b, sCar σ = nI b ∧ b ≤ 512 ∧ (∀ c, c < b → M (ca c) = some (.inr (0, [.long (sCn σ c), .int (bI (evn (sCn σ c))), .int (sCs σ c)]))) ∧ ∀ c c', c < b → c' < b → ca c = ca c' → c = c'
def covOk (σ : RS) (ra ca : Nat → Nat) (cv : Option Nat) (fs : Nat → Int64) (gs : Nat → Option Nat) : Prop :=
  (sCov σ = -1 ∧ cv = none) ∨ ∃ k n, k < 12 ∧ sCov σ = nI k ∧ cv = some (ra k) ∧ sSi σ k = nI n ∧ n ≤ 80 ∧ (kStrip (sKi σ k) = true → ∀ i, i < n → fs i = sWa σ i) ∧ (kRack (sKi σ k) = true → ∀ i, i < n → gs i = cdR ca (sWa σ i))
def apartR (σ : RS) (θ : TH) : Prop := (∀ k k', k < 12 → k' < 12 → liveR σ k → liveR σ k' → (tRa θ k = tRa θ k' ∨ tRn θ k = tRn θ k' ∨ tRc θ k = tRc θ k') → k = k') ∧ (∀ k, k < 12 → liveR σ k → tSn θ ≠ tRn θ k ∧ tRq θ ≠ tRc θ k) ∧ ∀ k k', k < 10 → k' < 10 → liveL σ k → liveL σ k' → tLa θ k = tLa θ k' → k = k'
/-- the bench's own cells -/
def benchOk (M : Nat → Option va_E) (cI cJ cC cH : ClassId) (x : Nat) (θ : TH) (σ : RS) : Prop :=
  M x = some (.inr (2, [.ref (tA1 θ), .ref (tA2 θ), .int (sCam σ), .int (sRow σ), .int (sCar σ), va_rf (tCv θ), .ref (tSt θ), .ref (tRk θ)])) ∧ M (tA1 θ) = some (.inl (cH, 10, .inr (.inr (.inr (.inr (fun j => some (tSp θ j))))))) ∧ M (tA2 θ) = some (.inl (cI, 5, .inl (tEn θ))) ∧ tEn θ 0 = sGoo σ ∧ (∀ t, 1 ≤ t → t < 5 → tEn θ t = sFa σ t) ∧ (∃ c g, hOk M cJ cC (tSt θ) 3 80 (tSn θ) c 0 (tFs θ) g) ∧ ∃ n f, hOk M cJ cC (tRk θ) 4 80 n (tRq θ) 0 f (tGs θ)
def Sim (cI cJ cC cH : ClassId) (x : Nat) (θ : TH) (σ : RS) (M : Nat → Option va_E) : Prop :=
  benchOk M cI cJ cC cH x θ σ ∧ (∀ j, j < 10 → spOk M cJ cC σ (tLa θ) (tRa θ) j (tSp θ j)) ∧ (∀ k, k < 10 → liveL σ k → hEx M cJ cC (tLa θ k) 1 0 (sLa σ k)) ∧ (∀ k, k < 12 → liveR σ k → rowOk M cJ cC σ (tCa θ) k (tRa θ k) (tRn θ k) (tRc θ k)) ∧ apartR σ θ ∧ cardsOk M σ (tCa θ) ∧ covOk σ (tRa θ) (tCa θ) (tCv θ) (tFs θ) (tGs θ)
section SM
variable {cI cJ cC cH : ClassId} {x : Nat} {θ : TH} {σ : RS} {M : Nat → Option va_E} {cc : Nat}
theorem Sim.b (h : Sim cI cJ cC cH x θ σ M) : benchOk M cI cJ cC cH x θ σ := h.1
theorem kcase {cc : Nat} (hI : Inv σ cc) {j : Nat} (hj : j < 10) : kOf σ j = 0 ∨ kOf σ j = 1 ∨ kStrip (kOf σ j) = true ∨ kRack (kOf σ j) = true := by
  rcases hI.ho hj with h | ⟨k, hk, h⟩ | ⟨k, hk, h⟩
  · exact Or.inl (kOf_0 h)
  · exact Or.inr (Or.inl (kOf_lab hk h))
  · rw [kOf_row hk h]
    exact Or.inr (Or.inr (hI.kd hk (Inv.live hj h)))
theorem rk_eq {cc : Nat} (hI : Inv σ cc) {j : Nat} (hj : j < 10) : rkOf σ j = kRack (kOf σ j) := by
  rcases hI.ho hj with h | ⟨k, hk, h⟩ | ⟨k, hk, h⟩
  · rw [rk_0 h, kOf_0 h]; rfl
  · rw [rk_lab hk h, kOf_lab hk h]; rfl
  · rw [hI.rk hj hk h, kOf_row hk h]
/-- what spindle j holds, as the class has it -/
theorem Sim.hold (h : Sim cI cJ cC cH x θ σ M) (hI : Inv σ cc) {j : Nat} (hj : j < 10) : ∃ pn na ca lb f g, hOk M cJ cC (tSp θ j) (kOf σ j) pn na ca lb f g ∧ szOf σ j = nI pn ∧ (kStrip (kOf σ j) = true → ∀ i, i < pn → f i = pV σ j i) ∧ (kRack (kOf σ j) = true → ∀ i, i < pn → g i = cdR (tCa θ) (pV σ j i)) ∧ (kOf σ j = 1 → lb = sLa σ (ix (-1 - sHo σ j))) := by
  rcases h.2.1 j hj with ⟨h0, lb, na, ca, f, g, hh⟩ | ⟨k, hk, h0, e⟩ | ⟨k, hk, h0, e⟩
  · refine ⟨0, na, ca, lb, f, g, by rw [kOf_0 h0]; exact hh, szOf_n (hasP_0 h0), fun _ i hi => absurd hi (Nat.not_lt_zero i), fun _ i hi => absurd hi (Nat.not_lt_zero i), fun z => ?_⟩
    rw [kOf_0 h0] at z
    exact absurd z (by decide)
  · obtain ⟨na, ca, f, g, hh⟩ := h.2.2.1 k hk ⟨j, hj, h0⟩
    refine ⟨0, na, ca, _, f, g, by rw [e, kOf_lab hk h0]; exact hh, szOf_n (hasP_lab hk h0), fun _ i hi => absurd hi (Nat.not_lt_zero i), fun _ i hi => absurd hi (Nat.not_lt_zero i), fun z => ?_⟩
    rw [h0, lab_ix k hk]
    simp only [ix, nI_clamp (show k < 2 ^ 31 by omega)]
  · obtain ⟨n, f, g, hn, en, hh, h1, h2⟩ := h.2.2.2.1 k hk (Inv.live hj h0)
    refine ⟨n, _, _, _, f, g, by rw [e, kOf_row hk h0]; exact hh, (szOf_row hk h0).trans en, fun z i hi => ?_, fun z i hi => ?_, fun z => ?_⟩
    · rw [pV_row hk h0]
      rw [kOf_row hk h0] at z
      exact h1 z i hi
    · rw [pV_row hk h0]
      rw [kOf_row hk h0] at z
      exact h2 z i hi
    · exfalso
      rw [kOf_row hk h0] at z
      rcases hI.kd hk (Inv.live hj h0) with h3 | h3 <;> (rw [z] at h3; exact absurd h3 (by decide))
theorem Sim.pn (h : Sim cI cJ cC cH x θ σ M) (hI : Inv σ cc) {j pn : Nat} (hj : j < 10) (e : szOf σ j = nI pn) (hp : pn ≤ 80) (hn : pn ≠ 0) : ∃ k, k < 12 ∧ sHo σ j = nI (k + 1) ∧ sSi σ k = nI pn := by
  obtain ⟨k, n, i, hk, h0, hn2, en, hi, -⟩ := hI.place hj (i := 0) (by
    rw [e, show (0 : Int32) = nI 0 from rfl, inPl_nI (by omega) (by omega)]
    exact decide_eq_true (by omega))
  refine ⟨k, hk, h0, ?_⟩
  rw [← szOf_row hk h0, e]
theorem Sim.card (h : Sim cI cJ cC cH x θ σ M) (hI : Inv σ cc) {j pn i : Nat} (hj : j < 10) (hr : kRack (kOf σ j) = true) (e : szOf σ j = nI pn) (hp : pn ≤ 80) (hi : i < pn) : pV σ j i = 0 ∨ ∃ c b, sCar σ = nI b ∧ b ≤ 512 ∧ c < b ∧ pV σ j i = lN (c + 1) ∧ cIx (pV σ j i) = c ∧ M (tCa θ c) = some (.inr (0, [.long (sCn σ c), .int (bI (evn (sCn σ c))), .int (sCs σ c)])) ∧ (kOf σ j = 5 → evn (sCn σ c) = true) := by
  obtain ⟨k, hk, h0, en⟩ := h.pn hI hj e hp (by omega)
  rw [kOf_row hk h0] at hr ⊢
  obtain ⟨b, hb, eb, h3⟩ := hI.okv hj hk h0 hr hp en hi
  rw [pV_row hk h0]
  rcases h3 with h3 | ⟨c, hc, h4, h5⟩
  · exact Or.inl h3
  · obtain ⟨b2, eb2, hb2, h6, -⟩ := h.2.2.2.2.2.1
    have := hI.1
    have e2 : b = b2 := (nI_eq (by omega) (by omega)).mp (eb.symm.trans eb2)
    refine Or.inr ⟨c, b, eb, by omega, hc, h4, ?_, h6 c (by omega), h5⟩
    rw [h4, cIx_lN (by omega)]
theorem cdR_0 {ca : Nat → Nat} : cdR ca 0 = none := rfl
theorem cdR_n {ca : Nat → Nat} {v : Int64} (h : ¬ v = 0) : cdR ca v = some (ca (cIx v)) := by
  unfold cdR
  rw [if_neg h]
theorem evn_plain {v : Int64} : decide (v &&& 1 = 1) = !evn v := by
  unfold evn
  have h : (v &&& 1 = 0) ∨ (v &&& 1 = 1) := by
    have e : (v &&& 1).toBitVec = v.toBitVec &&& 1#64 := rfl
    have h1 : v.toBitVec &&& 1#64 = 0#64 ∨ v.toBitVec &&& 1#64 = 1#64 := by
      generalize v.toBitVec = b
      have h9 : (b &&& 1#64).toNat = b.toNat % 2 := by
        rw [BitVec.toNat_and]
        exact Nat.and_one_is_mod _
      rcases Nat.mod_two_eq_zero_or_one b.toNat with h2 | h2
      · left
        apply BitVec.eq_of_toNat_eq
        rw [h9, h2]; rfl
      · right
        apply BitVec.eq_of_toNat_eq
        rw [h9, h2]; rfl
    rcases h1 with h1 | h1
    · left
      apply Int64.toBitVec_inj.mp
      rw [e, h1]; rfl
    · right
      apply Int64.toBitVec_inj.mp
      rw [e, h1]; rfl
  rcases h with h | h
  · rw [h]; decide
  · rw [h]; decide
theorem Sim.keq (h : Sim cI cJ cC cH x θ σ M) (hI : Inv σ cc) {i j : Nat} (hi : i < 10) (hj : j < 10) (e : tSp θ i = tSp θ j) : kOf σ i = kOf σ j := by
  obtain ⟨pn, na, ca, lb, f, g, hh, -⟩ := h.hold hI hi
  obtain ⟨pn', na', ca', lb', f', g', hh', -⟩ := h.hold hI hj
  have q := hh.1
  rw [e, hh'.1] at q
  simp at q
  exact q.1.symm
theorem Inv.kn {cc : Nat} (hI : Inv σ cc) {k : Nat} (hk : k < 12) (hl : liveR σ k) : ¬ sKi σ k = 0 ∧ ¬ sKi σ k = 1 := by
  rcases hI.kd hk hl with h3 | h3 <;> exact ⟨fun z => by rw [z] at h3; exact absurd h3 (by decide), fun z => by rw [z] at h3; exact absurd h3 (by decide)⟩
theorem Sim.same (h : Sim cI cJ cC cH x θ σ M) (hI : Inv σ cc) {i j : Nat} (hi : i < 10) (hj : j < 10) (h0 : ¬ sHo σ i = 0) : tSp θ i = tSp θ j ↔ sHo σ i = sHo σ j := by
  have hA := h.2.2.2.2.1
  refine ⟨fun z => ?_, fun z => ?_⟩
  · have hk := h.keq hI hi hj z
    rcases h.2.1 i hi with ⟨q, -⟩ | ⟨k, hk1, a1, e1⟩ | ⟨k, hk1, a1, e1⟩
    · exact absurd q h0
    · rw [kOf_lab hk1 a1] at hk
      rcases h.2.1 j hj with ⟨b1, -⟩ | ⟨k', hk', b1, e2⟩ | ⟨k', hk', b1, e2⟩
      · rw [kOf_0 b1] at hk; exact absurd hk (by decide)
      · rw [a1, b1, hA.2.2 k k' hk1 hk' ⟨i, hi, a1⟩ ⟨j, hj, b1⟩ (e1.symm.trans (z.trans e2))]
      · rw [kOf_row hk' b1] at hk
        exact absurd hk.symm (hI.kn hk' (Inv.live hj b1)).2
    · rw [kOf_row hk1 a1] at hk
      rcases h.2.1 j hj with ⟨b1, -⟩ | ⟨k', hk', b1, e2⟩ | ⟨k', hk', b1, e2⟩
      · rw [kOf_0 b1] at hk; exact absurd hk (hI.kn hk1 (Inv.live hi a1)).1
      · rw [kOf_lab hk' b1] at hk; exact absurd hk (hI.kn hk1 (Inv.live hi a1)).2
      · rw [a1, b1, hA.1 k k' hk1 hk' (Inv.live hi a1) (Inv.live hj b1) (Or.inl (e1.symm.trans (z.trans e2)))]
  · rcases h.2.1 i hi with ⟨q, -⟩ | ⟨k, hk1, a1, e1⟩ | ⟨k, hk1, a1, e1⟩
    · exact absurd q h0
    · rcases h.2.1 j hj with ⟨b1, -⟩ | ⟨k', hk', b1, e2⟩ | ⟨k', hk', b1, e2⟩
      · rw [a1, b1] at z; exact absurd z (lab_n0 hk1)
      · rw [e1, e2, lab_inj k hk1 k' hk' (a1.symm.trans (z.trans b1))]
      · rw [a1, b1] at z; exact absurd z (lab_row k hk1 k' hk')
    · rcases h.2.1 j hj with ⟨b1, -⟩ | ⟨k', hk', b1, e2⟩ | ⟨k', hk', b1, e2⟩
      · rw [a1, b1] at z; exact absurd z (row_n0 hk1)
      · rw [a1, b1] at z; exact absurd z.symm (lab_row k' hk' k hk1)
      · rw [e1, e2, row_inj k hk1 k' hk' (a1.symm.trans (z.trans b1))]
theorem cdAt_rack {k : Int32} {pn : Nat} {g : Nat → Option Nat} {i : Nat} (hk : kRack k = true) (hp : pn ≤ 80) (hi : i < pn) : cdAt k pn g (nI i) = g i := by
  unfold cdAt
  rw [if_pos ⟨hk, by rw [inPl_nI (by omega) (by omega)]; exact decide_eq_true hi⟩, nI_clamp (by omega)]
theorem cdAt_none {k : Int32} {pn : Nat} {g : Nat → Option Nat} {i : Int32} (h : ¬ (kRack k = true ∧ inPl i (nI pn) = true)) : cdAt k pn g i = none := by
  unfold cdAt
  rw [if_neg h]
end SM
