abbrev RS : Type := (Nat → Int32) × (Nat → Int32) × (Nat → Int32) × (Nat → Int32) × (Nat → Int64) × (Nat → Int64) × (Nat → Int64) × (Nat → Int32) × (Nat → Int32) × Int32 × Int32 × Int32 × Int32 × Int32
def sHo (σ : RS) : Nat → Int32 := σ.1
def sLa (σ : RS) : Nat → Int32 := σ.2.1
def sKi (σ : RS) : Nat → Int32 := σ.2.2.1
def sSi (σ : RS) : Nat → Int32 := σ.2.2.2.1
def sPl (σ : RS) : Nat → Int64 := σ.2.2.2.2.1
def sWa (σ : RS) : Nat → Int64 := σ.2.2.2.2.2.1
def sCn (σ : RS) : Nat → Int64 := σ.2.2.2.2.2.2.1
def sCs (σ : RS) : Nat → Int32 := σ.2.2.2.2.2.2.2.1
def sFa (σ : RS) : Nat → Int32 := σ.2.2.2.2.2.2.2.2.1
def sCov (σ : RS) : Int32 := σ.2.2.2.2.2.2.2.2.2.1
def sCam (σ : RS) : Int32 := σ.2.2.2.2.2.2.2.2.2.2.1
def sGoo (σ : RS) : Int32 := σ.2.2.2.2.2.2.2.2.2.2.2.1
def sRow (σ : RS) : Int32 := σ.2.2.2.2.2.2.2.2.2.2.2.2.1
def sCar (σ : RS) : Int32 := σ.2.2.2.2.2.2.2.2.2.2.2.2.2
def wHo (σ : RS) (v : Nat → Int32) : RS := (v, σ.2.1, σ.2.2.1, σ.2.2.2.1, σ.2.2.2.2.1, σ.2.2.2.2.2.1, σ.2.2.2.2.2.2.1, σ.2.2.2.2.2.2.2.1, σ.2.2.2.2.2.2.2.2.1, σ.2.2.2.2.2.2.2.2.2.1, σ.2.2.2.2.2.2.2.2.2.2.1, σ.2.2.2.2.2.2.2.2.2.2.2.1, σ.2.2.2.2.2.2.2.2.2.2.2.2.1, σ.2.2.2.2.2.2.2.2.2.2.2.2.2)
def wLa (σ : RS) (v : Nat → Int32) : RS := (σ.1, v, σ.2.2.1, σ.2.2.2.1, σ.2.2.2.2.1, σ.2.2.2.2.2.1, σ.2.2.2.2.2.2.1, σ.2.2.2.2.2.2.2.1, σ.2.2.2.2.2.2.2.2.1, σ.2.2.2.2.2.2.2.2.2.1, σ.2.2.2.2.2.2.2.2.2.2.1, σ.2.2.2.2.2.2.2.2.2.2.2.1, σ.2.2.2.2.2.2.2.2.2.2.2.2.1, σ.2.2.2.2.2.2.2.2.2.2.2.2.2)
def wKi (σ : RS) (v : Nat → Int32) : RS := (σ.1, σ.2.1, v, σ.2.2.2.1, σ.2.2.2.2.1, σ.2.2.2.2.2.1, σ.2.2.2.2.2.2.1, σ.2.2.2.2.2.2.2.1, σ.2.2.2.2.2.2.2.2.1, σ.2.2.2.2.2.2.2.2.2.1, σ.2.2.2.2.2.2.2.2.2.2.1, σ.2.2.2.2.2.2.2.2.2.2.2.1, σ.2.2.2.2.2.2.2.2.2.2.2.2.1, σ.2.2.2.2.2.2.2.2.2.2.2.2.2)
def wSi (σ : RS) (v : Nat → Int32) : RS := (σ.1, σ.2.1, σ.2.2.1, v, σ.2.2.2.2.1, σ.2.2.2.2.2.1, σ.2.2.2.2.2.2.1, σ.2.2.2.2.2.2.2.1, σ.2.2.2.2.2.2.2.2.1, σ.2.2.2.2.2.2.2.2.2.1, σ.2.2.2.2.2.2.2.2.2.2.1, σ.2.2.2.2.2.2.2.2.2.2.2.1, σ.2.2.2.2.2.2.2.2.2.2.2.2.1, σ.2.2.2.2.2.2.2.2.2.2.2.2.2)
def wPl (σ : RS) (v : Nat → Int64) : RS := (σ.1, σ.2.1, σ.2.2.1, σ.2.2.2.1, v, σ.2.2.2.2.2.1, σ.2.2.2.2.2.2.1, σ.2.2.2.2.2.2.2.1, σ.2.2.2.2.2.2.2.2.1, σ.2.2.2.2.2.2.2.2.2.1, σ.2.2.2.2.2.2.2.2.2.2.1, σ.2.2.2.2.2.2.2.2.2.2.2.1, σ.2.2.2.2.2.2.2.2.2.2.2.2.1, σ.2.2.2.2.2.2.2.2.2.2.2.2.2)
def wWa (σ : RS) (v : Nat → Int64) : RS := (σ.1, σ.2.1, σ.2.2.1, σ.2.2.2.1, σ.2.2.2.2.1, v, σ.2.2.2.2.2.2.1, σ.2.2.2.2.2.2.2.1, σ.2.2.2.2.2.2.2.2.1, σ.2.2.2.2.2.2.2.2.2.1, σ.2.2.2.2.2.2.2.2.2.2.1, σ.2.2.2.2.2.2.2.2.2.2.2.1, σ.2.2.2.2.2.2.2.2.2.2.2.2.1, σ.2.2.2.2.2.2.2.2.2.2.2.2.2)
def wCn (σ : RS) (v : Nat → Int64) : RS := (σ.1, σ.2.1, σ.2.2.1, σ.2.2.2.1, σ.2.2.2.2.1, σ.2.2.2.2.2.1, v, σ.2.2.2.2.2.2.2.1, σ.2.2.2.2.2.2.2.2.1, σ.2.2.2.2.2.2.2.2.2.1, σ.2.2.2.2.2.2.2.2.2.2.1, σ.2.2.2.2.2.2.2.2.2.2.2.1, σ.2.2.2.2.2.2.2.2.2.2.2.2.1, σ.2.2.2.2.2.2.2.2.2.2.2.2.2)
def wCs (σ : RS) (v : Nat → Int32) : RS := (σ.1, σ.2.1, σ.2.2.1, σ.2.2.2.1, σ.2.2.2.2.1, σ.2.2.2.2.2.1, σ.2.2.2.2.2.2.1, v, σ.2.2.2.2.2.2.2.2.1, σ.2.2.2.2.2.2.2.2.2.1, σ.2.2.2.2.2.2.2.2.2.2.1, σ.2.2.2.2.2.2.2.2.2.2.2.1, σ.2.2.2.2.2.2.2.2.2.2.2.2.1, σ.2.2.2.2.2.2.2.2.2.2.2.2.2)
def wFa (σ : RS) (v : Nat → Int32) : RS := (σ.1, σ.2.1, σ.2.2.1, σ.2.2.2.1, σ.2.2.2.2.1, σ.2.2.2.2.2.1, σ.2.2.2.2.2.2.1, σ.2.2.2.2.2.2.2.1, v, σ.2.2.2.2.2.2.2.2.2.1, σ.2.2.2.2.2.2.2.2.2.2.1, σ.2.2.2.2.2.2.2.2.2.2.2.1, σ.2.2.2.2.2.2.2.2.2.2.2.2.1, σ.2.2.2.2.2.2.2.2.2.2.2.2.2)
def wCov (σ : RS) (v : Int32) : RS := (σ.1, σ.2.1, σ.2.2.1, σ.2.2.2.1, σ.2.2.2.2.1, σ.2.2.2.2.2.1, σ.2.2.2.2.2.2.1, σ.2.2.2.2.2.2.2.1, σ.2.2.2.2.2.2.2.2.1, v, σ.2.2.2.2.2.2.2.2.2.2.1, σ.2.2.2.2.2.2.2.2.2.2.2.1, σ.2.2.2.2.2.2.2.2.2.2.2.2.1, σ.2.2.2.2.2.2.2.2.2.2.2.2.2)
def wCam (σ : RS) (v : Int32) : RS := (σ.1, σ.2.1, σ.2.2.1, σ.2.2.2.1, σ.2.2.2.2.1, σ.2.2.2.2.2.1, σ.2.2.2.2.2.2.1, σ.2.2.2.2.2.2.2.1, σ.2.2.2.2.2.2.2.2.1, σ.2.2.2.2.2.2.2.2.2.1, v, σ.2.2.2.2.2.2.2.2.2.2.2.1, σ.2.2.2.2.2.2.2.2.2.2.2.2.1, σ.2.2.2.2.2.2.2.2.2.2.2.2.2)
def wGoo (σ : RS) (v : Int32) : RS := (σ.1, σ.2.1, σ.2.2.1, σ.2.2.2.1, σ.2.2.2.2.1, σ.2.2.2.2.2.1, σ.2.2.2.2.2.2.1, σ.2.2.2.2.2.2.2.1, σ.2.2.2.2.2.2.2.2.1, σ.2.2.2.2.2.2.2.2.2.1, σ.2.2.2.2.2.2.2.2.2.2.1, v, σ.2.2.2.2.2.2.2.2.2.2.2.2.1, σ.2.2.2.2.2.2.2.2.2.2.2.2.2)
def wRow (σ : RS) (v : Int32) : RS := (σ.1, σ.2.1, σ.2.2.1, σ.2.2.2.1, σ.2.2.2.2.1, σ.2.2.2.2.2.1, σ.2.2.2.2.2.2.1, σ.2.2.2.2.2.2.2.1, σ.2.2.2.2.2.2.2.2.1, σ.2.2.2.2.2.2.2.2.2.1, σ.2.2.2.2.2.2.2.2.2.2.1, σ.2.2.2.2.2.2.2.2.2.2.2.1, v, σ.2.2.2.2.2.2.2.2.2.2.2.2.2)
def wCar (σ : RS) (v : Int32) : RS := (σ.1, σ.2.1, σ.2.2.1, σ.2.2.2.1, σ.2.2.2.2.1, σ.2.2.2.2.2.1, σ.2.2.2.2.2.2.1, σ.2.2.2.2.2.2.2.1, σ.2.2.2.2.2.2.2.2.1, σ.2.2.2.2.2.2.2.2.2.1, σ.2.2.2.2.2.2.2.2.2.2.1, σ.2.2.2.2.2.2.2.2.2.2.2.1, σ.2.2.2.2.2.2.2.2.2.2.2.2.1, v)
theorem sHo_wHo (σ : RS) (v : Nat → Int32) : sHo (wHo σ v) = v := rfl
theorem sLa_wHo (σ : RS) (v : Nat → Int32) : sLa (wHo σ v) = sLa σ := rfl
theorem sKi_wHo (σ : RS) (v : Nat → Int32) : sKi (wHo σ v) = sKi σ := rfl
theorem sSi_wHo (σ : RS) (v : Nat → Int32) : sSi (wHo σ v) = sSi σ := rfl
theorem sPl_wHo (σ : RS) (v : Nat → Int32) : sPl (wHo σ v) = sPl σ := rfl
theorem sWa_wHo (σ : RS) (v : Nat → Int32) : sWa (wHo σ v) = sWa σ := rfl
theorem sCn_wHo (σ : RS) (v : Nat → Int32) : sCn (wHo σ v) = sCn σ := rfl
theorem sCs_wHo (σ : RS) (v : Nat → Int32) : sCs (wHo σ v) = sCs σ := rfl
theorem sFa_wHo (σ : RS) (v : Nat → Int32) : sFa (wHo σ v) = sFa σ := rfl
theorem sCov_wHo (σ : RS) (v : Nat → Int32) : sCov (wHo σ v) = sCov σ := rfl
theorem sCam_wHo (σ : RS) (v : Nat → Int32) : sCam (wHo σ v) = sCam σ := rfl
theorem sGoo_wHo (σ : RS) (v : Nat → Int32) : sGoo (wHo σ v) = sGoo σ := rfl
theorem sRow_wHo (σ : RS) (v : Nat → Int32) : sRow (wHo σ v) = sRow σ := rfl
theorem sCar_wHo (σ : RS) (v : Nat → Int32) : sCar (wHo σ v) = sCar σ := rfl
theorem sHo_wLa (σ : RS) (v : Nat → Int32) : sHo (wLa σ v) = sHo σ := rfl
theorem sLa_wLa (σ : RS) (v : Nat → Int32) : sLa (wLa σ v) = v := rfl
theorem sKi_wLa (σ : RS) (v : Nat → Int32) : sKi (wLa σ v) = sKi σ := rfl
theorem sSi_wLa (σ : RS) (v : Nat → Int32) : sSi (wLa σ v) = sSi σ := rfl
theorem sPl_wLa (σ : RS) (v : Nat → Int32) : sPl (wLa σ v) = sPl σ := rfl
theorem sWa_wLa (σ : RS) (v : Nat → Int32) : sWa (wLa σ v) = sWa σ := rfl
theorem sCn_wLa (σ : RS) (v : Nat → Int32) : sCn (wLa σ v) = sCn σ := rfl
theorem sCs_wLa (σ : RS) (v : Nat → Int32) : sCs (wLa σ v) = sCs σ := rfl
theorem sFa_wLa (σ : RS) (v : Nat → Int32) : sFa (wLa σ v) = sFa σ := rfl
theorem sCov_wLa (σ : RS) (v : Nat → Int32) : sCov (wLa σ v) = sCov σ := rfl
theorem sCam_wLa (σ : RS) (v : Nat → Int32) : sCam (wLa σ v) = sCam σ := rfl
theorem sGoo_wLa (σ : RS) (v : Nat → Int32) : sGoo (wLa σ v) = sGoo σ := rfl
theorem sRow_wLa (σ : RS) (v : Nat → Int32) : sRow (wLa σ v) = sRow σ := rfl
theorem sCar_wLa (σ : RS) (v : Nat → Int32) : sCar (wLa σ v) = sCar σ := rfl
theorem sHo_wKi (σ : RS) (v : Nat → Int32) : sHo (wKi σ v) = sHo σ := rfl
theorem sLa_wKi (σ : RS) (v : Nat → Int32) : sLa (wKi σ v) = sLa σ := rfl
theorem sKi_wKi (σ : RS) (v : Nat → Int32) : sKi (wKi σ v) = v := rfl
theorem sSi_wKi (σ : RS) (v : Nat → Int32) : sSi (wKi σ v) = sSi σ := rfl
theorem sPl_wKi (σ : RS) (v : Nat → Int32) : sPl (wKi σ v) = sPl σ := rfl
theorem sWa_wKi (σ : RS) (v : Nat → Int32) : sWa (wKi σ v) = sWa σ := rfl
theorem sCn_wKi (σ : RS) (v : Nat → Int32) : sCn (wKi σ v) = sCn σ := rfl
theorem sCs_wKi (σ : RS) (v : Nat → Int32) : sCs (wKi σ v) = sCs σ := rfl
theorem sFa_wKi (σ : RS) (v : Nat → Int32) : sFa (wKi σ v) = sFa σ := rfl
theorem sCov_wKi (σ : RS) (v : Nat → Int32) : sCov (wKi σ v) = sCov σ := rfl
theorem sCam_wKi (σ : RS) (v : Nat → Int32) : sCam (wKi σ v) = sCam σ := rfl
theorem sGoo_wKi (σ : RS) (v : Nat → Int32) : sGoo (wKi σ v) = sGoo σ := rfl
theorem sRow_wKi (σ : RS) (v : Nat → Int32) : sRow (wKi σ v) = sRow σ := rfl
theorem sCar_wKi (σ : RS) (v : Nat → Int32) : sCar (wKi σ v) = sCar σ := rfl
theorem sHo_wSi (σ : RS) (v : Nat → Int32) : sHo (wSi σ v) = sHo σ := rfl
theorem sLa_wSi (σ : RS) (v : Nat → Int32) : sLa (wSi σ v) = sLa σ := rfl
theorem sKi_wSi (σ : RS) (v : Nat → Int32) : sKi (wSi σ v) = sKi σ := rfl
theorem sSi_wSi (σ : RS) (v : Nat → Int32) : sSi (wSi σ v) = v := rfl
theorem sPl_wSi (σ : RS) (v : Nat → Int32) : sPl (wSi σ v) = sPl σ := rfl
theorem sWa_wSi (σ : RS) (v : Nat → Int32) : sWa (wSi σ v) = sWa σ := rfl
theorem sCn_wSi (σ : RS) (v : Nat → Int32) : sCn (wSi σ v) = sCn σ := rfl
theorem sCs_wSi (σ : RS) (v : Nat → Int32) : sCs (wSi σ v) = sCs σ := rfl
theorem sFa_wSi (σ : RS) (v : Nat → Int32) : sFa (wSi σ v) = sFa σ := rfl
theorem sCov_wSi (σ : RS) (v : Nat → Int32) : sCov (wSi σ v) = sCov σ := rfl
theorem sCam_wSi (σ : RS) (v : Nat → Int32) : sCam (wSi σ v) = sCam σ := rfl
theorem sGoo_wSi (σ : RS) (v : Nat → Int32) : sGoo (wSi σ v) = sGoo σ := rfl
theorem sRow_wSi (σ : RS) (v : Nat → Int32) : sRow (wSi σ v) = sRow σ := rfl
theorem sCar_wSi (σ : RS) (v : Nat → Int32) : sCar (wSi σ v) = sCar σ := rfl
theorem sHo_wPl (σ : RS) (v : Nat → Int64) : sHo (wPl σ v) = sHo σ := rfl
theorem sLa_wPl (σ : RS) (v : Nat → Int64) : sLa (wPl σ v) = sLa σ := rfl
theorem sKi_wPl (σ : RS) (v : Nat → Int64) : sKi (wPl σ v) = sKi σ := rfl
theorem sSi_wPl (σ : RS) (v : Nat → Int64) : sSi (wPl σ v) = sSi σ := rfl
theorem sPl_wPl (σ : RS) (v : Nat → Int64) : sPl (wPl σ v) = v := rfl
theorem sWa_wPl (σ : RS) (v : Nat → Int64) : sWa (wPl σ v) = sWa σ := rfl
theorem sCn_wPl (σ : RS) (v : Nat → Int64) : sCn (wPl σ v) = sCn σ := rfl
theorem sCs_wPl (σ : RS) (v : Nat → Int64) : sCs (wPl σ v) = sCs σ := rfl
theorem sFa_wPl (σ : RS) (v : Nat → Int64) : sFa (wPl σ v) = sFa σ := rfl
theorem sCov_wPl (σ : RS) (v : Nat → Int64) : sCov (wPl σ v) = sCov σ := rfl
theorem sCam_wPl (σ : RS) (v : Nat → Int64) : sCam (wPl σ v) = sCam σ := rfl
theorem sGoo_wPl (σ : RS) (v : Nat → Int64) : sGoo (wPl σ v) = sGoo σ := rfl
theorem sRow_wPl (σ : RS) (v : Nat → Int64) : sRow (wPl σ v) = sRow σ := rfl
theorem sCar_wPl (σ : RS) (v : Nat → Int64) : sCar (wPl σ v) = sCar σ := rfl
theorem sHo_wWa (σ : RS) (v : Nat → Int64) : sHo (wWa σ v) = sHo σ := rfl
theorem sLa_wWa (σ : RS) (v : Nat → Int64) : sLa (wWa σ v) = sLa σ := rfl
theorem sKi_wWa (σ : RS) (v : Nat → Int64) : sKi (wWa σ v) = sKi σ := rfl
theorem sSi_wWa (σ : RS) (v : Nat → Int64) : sSi (wWa σ v) = sSi σ := rfl
theorem sPl_wWa (σ : RS) (v : Nat → Int64) : sPl (wWa σ v) = sPl σ := rfl
theorem sWa_wWa (σ : RS) (v : Nat → Int64) : sWa (wWa σ v) = v := rfl
theorem sCn_wWa (σ : RS) (v : Nat → Int64) : sCn (wWa σ v) = sCn σ := rfl
theorem sCs_wWa (σ : RS) (v : Nat → Int64) : sCs (wWa σ v) = sCs σ := rfl
theorem sFa_wWa (σ : RS) (v : Nat → Int64) : sFa (wWa σ v) = sFa σ := rfl
theorem sCov_wWa (σ : RS) (v : Nat → Int64) : sCov (wWa σ v) = sCov σ := rfl
theorem sCam_wWa (σ : RS) (v : Nat → Int64) : sCam (wWa σ v) = sCam σ := rfl
theorem sGoo_wWa (σ : RS) (v : Nat → Int64) : sGoo (wWa σ v) = sGoo σ := rfl
theorem sRow_wWa (σ : RS) (v : Nat → Int64) : sRow (wWa σ v) = sRow σ := rfl
theorem sCar_wWa (σ : RS) (v : Nat → Int64) : sCar (wWa σ v) = sCar σ := rfl
theorem sHo_wCn (σ : RS) (v : Nat → Int64) : sHo (wCn σ v) = sHo σ := rfl
theorem sLa_wCn (σ : RS) (v : Nat → Int64) : sLa (wCn σ v) = sLa σ := rfl
theorem sKi_wCn (σ : RS) (v : Nat → Int64) : sKi (wCn σ v) = sKi σ := rfl
theorem sSi_wCn (σ : RS) (v : Nat → Int64) : sSi (wCn σ v) = sSi σ := rfl
theorem sPl_wCn (σ : RS) (v : Nat → Int64) : sPl (wCn σ v) = sPl σ := rfl
theorem sWa_wCn (σ : RS) (v : Nat → Int64) : sWa (wCn σ v) = sWa σ := rfl
theorem sCn_wCn (σ : RS) (v : Nat → Int64) : sCn (wCn σ v) = v := rfl
theorem sCs_wCn (σ : RS) (v : Nat → Int64) : sCs (wCn σ v) = sCs σ := rfl
theorem sFa_wCn (σ : RS) (v : Nat → Int64) : sFa (wCn σ v) = sFa σ := rfl
theorem sCov_wCn (σ : RS) (v : Nat → Int64) : sCov (wCn σ v) = sCov σ := rfl
theorem sCam_wCn (σ : RS) (v : Nat → Int64) : sCam (wCn σ v) = sCam σ := rfl
theorem sGoo_wCn (σ : RS) (v : Nat → Int64) : sGoo (wCn σ v) = sGoo σ := rfl
theorem sRow_wCn (σ : RS) (v : Nat → Int64) : sRow (wCn σ v) = sRow σ := rfl
theorem sCar_wCn (σ : RS) (v : Nat → Int64) : sCar (wCn σ v) = sCar σ := rfl
theorem sHo_wCs (σ : RS) (v : Nat → Int32) : sHo (wCs σ v) = sHo σ := rfl
theorem sLa_wCs (σ : RS) (v : Nat → Int32) : sLa (wCs σ v) = sLa σ := rfl
theorem sKi_wCs (σ : RS) (v : Nat → Int32) : sKi (wCs σ v) = sKi σ := rfl
theorem sSi_wCs (σ : RS) (v : Nat → Int32) : sSi (wCs σ v) = sSi σ := rfl
theorem sPl_wCs (σ : RS) (v : Nat → Int32) : sPl (wCs σ v) = sPl σ := rfl
theorem sWa_wCs (σ : RS) (v : Nat → Int32) : sWa (wCs σ v) = sWa σ := rfl
theorem sCn_wCs (σ : RS) (v : Nat → Int32) : sCn (wCs σ v) = sCn σ := rfl
theorem sCs_wCs (σ : RS) (v : Nat → Int32) : sCs (wCs σ v) = v := rfl
theorem sFa_wCs (σ : RS) (v : Nat → Int32) : sFa (wCs σ v) = sFa σ := rfl
theorem sCov_wCs (σ : RS) (v : Nat → Int32) : sCov (wCs σ v) = sCov σ := rfl
theorem sCam_wCs (σ : RS) (v : Nat → Int32) : sCam (wCs σ v) = sCam σ := rfl
theorem sGoo_wCs (σ : RS) (v : Nat → Int32) : sGoo (wCs σ v) = sGoo σ := rfl
theorem sRow_wCs (σ : RS) (v : Nat → Int32) : sRow (wCs σ v) = sRow σ := rfl
theorem sCar_wCs (σ : RS) (v : Nat → Int32) : sCar (wCs σ v) = sCar σ := rfl
theorem sHo_wFa (σ : RS) (v : Nat → Int32) : sHo (wFa σ v) = sHo σ := rfl
theorem sLa_wFa (σ : RS) (v : Nat → Int32) : sLa (wFa σ v) = sLa σ := rfl
theorem sKi_wFa (σ : RS) (v : Nat → Int32) : sKi (wFa σ v) = sKi σ := rfl
theorem sSi_wFa (σ : RS) (v : Nat → Int32) : sSi (wFa σ v) = sSi σ := rfl
theorem sPl_wFa (σ : RS) (v : Nat → Int32) : sPl (wFa σ v) = sPl σ := rfl
theorem sWa_wFa (σ : RS) (v : Nat → Int32) : sWa (wFa σ v) = sWa σ := rfl
theorem sCn_wFa (σ : RS) (v : Nat → Int32) : sCn (wFa σ v) = sCn σ := rfl
theorem sCs_wFa (σ : RS) (v : Nat → Int32) : sCs (wFa σ v) = sCs σ := rfl
theorem sFa_wFa (σ : RS) (v : Nat → Int32) : sFa (wFa σ v) = v := rfl
theorem sCov_wFa (σ : RS) (v : Nat → Int32) : sCov (wFa σ v) = sCov σ := rfl
theorem sCam_wFa (σ : RS) (v : Nat → Int32) : sCam (wFa σ v) = sCam σ := rfl
theorem sGoo_wFa (σ : RS) (v : Nat → Int32) : sGoo (wFa σ v) = sGoo σ := rfl
theorem sRow_wFa (σ : RS) (v : Nat → Int32) : sRow (wFa σ v) = sRow σ := rfl
theorem sCar_wFa (σ : RS) (v : Nat → Int32) : sCar (wFa σ v) = sCar σ := rfl
theorem sHo_wCov (σ : RS) (v : Int32) : sHo (wCov σ v) = sHo σ := rfl
theorem sLa_wCov (σ : RS) (v : Int32) : sLa (wCov σ v) = sLa σ := rfl
theorem sKi_wCov (σ : RS) (v : Int32) : sKi (wCov σ v) = sKi σ := rfl
theorem sSi_wCov (σ : RS) (v : Int32) : sSi (wCov σ v) = sSi σ := rfl
theorem sPl_wCov (σ : RS) (v : Int32) : sPl (wCov σ v) = sPl σ := rfl
theorem sWa_wCov (σ : RS) (v : Int32) : sWa (wCov σ v) = sWa σ := rfl
theorem sCn_wCov (σ : RS) (v : Int32) : sCn (wCov σ v) = sCn σ := rfl
theorem sCs_wCov (σ : RS) (v : Int32) : sCs (wCov σ v) = sCs σ := rfl
theorem sFa_wCov (σ : RS) (v : Int32) : sFa (wCov σ v) = sFa σ := rfl
theorem sCov_wCov (σ : RS) (v : Int32) : sCov (wCov σ v) = v := rfl
theorem sCam_wCov (σ : RS) (v : Int32) : sCam (wCov σ v) = sCam σ := rfl
theorem sGoo_wCov (σ : RS) (v : Int32) : sGoo (wCov σ v) = sGoo σ := rfl
theorem sRow_wCov (σ : RS) (v : Int32) : sRow (wCov σ v) = sRow σ := rfl
theorem sCar_wCov (σ : RS) (v : Int32) : sCar (wCov σ v) = sCar σ := rfl
theorem sHo_wCam (σ : RS) (v : Int32) : sHo (wCam σ v) = sHo σ := rfl
theorem sLa_wCam (σ : RS) (v : Int32) : sLa (wCam σ v) = sLa σ := rfl
theorem sKi_wCam (σ : RS) (v : Int32) : sKi (wCam σ v) = sKi σ := rfl
theorem sSi_wCam (σ : RS) (v : Int32) : sSi (wCam σ v) = sSi σ := rfl
theorem sPl_wCam (σ : RS) (v : Int32) : sPl (wCam σ v) = sPl σ := rfl
theorem sWa_wCam (σ : RS) (v : Int32) : sWa (wCam σ v) = sWa σ := rfl
theorem sCn_wCam (σ : RS) (v : Int32) : sCn (wCam σ v) = sCn σ := rfl
theorem sCs_wCam (σ : RS) (v : Int32) : sCs (wCam σ v) = sCs σ := rfl
theorem sFa_wCam (σ : RS) (v : Int32) : sFa (wCam σ v) = sFa σ := rfl
theorem sCov_wCam (σ : RS) (v : Int32) : sCov (wCam σ v) = sCov σ := rfl
theorem sCam_wCam (σ : RS) (v : Int32) : sCam (wCam σ v) = v := rfl
theorem sGoo_wCam (σ : RS) (v : Int32) : sGoo (wCam σ v) = sGoo σ := rfl
theorem sRow_wCam (σ : RS) (v : Int32) : sRow (wCam σ v) = sRow σ := rfl
theorem sCar_wCam (σ : RS) (v : Int32) : sCar (wCam σ v) = sCar σ := rfl
theorem sHo_wGoo (σ : RS) (v : Int32) : sHo (wGoo σ v) = sHo σ := rfl
theorem sLa_wGoo (σ : RS) (v : Int32) : sLa (wGoo σ v) = sLa σ := rfl
theorem sKi_wGoo (σ : RS) (v : Int32) : sKi (wGoo σ v) = sKi σ := rfl
theorem sSi_wGoo (σ : RS) (v : Int32) : sSi (wGoo σ v) = sSi σ := rfl
theorem sPl_wGoo (σ : RS) (v : Int32) : sPl (wGoo σ v) = sPl σ := rfl
theorem sWa_wGoo (σ : RS) (v : Int32) : sWa (wGoo σ v) = sWa σ := rfl
theorem sCn_wGoo (σ : RS) (v : Int32) : sCn (wGoo σ v) = sCn σ := rfl
theorem sCs_wGoo (σ : RS) (v : Int32) : sCs (wGoo σ v) = sCs σ := rfl
theorem sFa_wGoo (σ : RS) (v : Int32) : sFa (wGoo σ v) = sFa σ := rfl
theorem sCov_wGoo (σ : RS) (v : Int32) : sCov (wGoo σ v) = sCov σ := rfl
theorem sCam_wGoo (σ : RS) (v : Int32) : sCam (wGoo σ v) = sCam σ := rfl
theorem sGoo_wGoo (σ : RS) (v : Int32) : sGoo (wGoo σ v) = v := rfl
theorem sRow_wGoo (σ : RS) (v : Int32) : sRow (wGoo σ v) = sRow σ := rfl
theorem sCar_wGoo (σ : RS) (v : Int32) : sCar (wGoo σ v) = sCar σ := rfl
theorem sHo_wRow (σ : RS) (v : Int32) : sHo (wRow σ v) = sHo σ := rfl
theorem sLa_wRow (σ : RS) (v : Int32) : sLa (wRow σ v) = sLa σ := rfl
theorem sKi_wRow (σ : RS) (v : Int32) : sKi (wRow σ v) = sKi σ := rfl
theorem sSi_wRow (σ : RS) (v : Int32) : sSi (wRow σ v) = sSi σ := rfl
theorem sPl_wRow (σ : RS) (v : Int32) : sPl (wRow σ v) = sPl σ := rfl
theorem sWa_wRow (σ : RS) (v : Int32) : sWa (wRow σ v) = sWa σ := rfl
theorem sCn_wRow (σ : RS) (v : Int32) : sCn (wRow σ v) = sCn σ := rfl
theorem sCs_wRow (σ : RS) (v : Int32) : sCs (wRow σ v) = sCs σ := rfl
theorem sFa_wRow (σ : RS) (v : Int32) : sFa (wRow σ v) = sFa σ := rfl
theorem sCov_wRow (σ : RS) (v : Int32) : sCov (wRow σ v) = sCov σ := rfl
theorem sCam_wRow (σ : RS) (v : Int32) : sCam (wRow σ v) = sCam σ := rfl
theorem sGoo_wRow (σ : RS) (v : Int32) : sGoo (wRow σ v) = sGoo σ := rfl
theorem sRow_wRow (σ : RS) (v : Int32) : sRow (wRow σ v) = v := rfl
theorem sCar_wRow (σ : RS) (v : Int32) : sCar (wRow σ v) = sCar σ := rfl
theorem sHo_wCar (σ : RS) (v : Int32) : sHo (wCar σ v) = sHo σ := rfl
theorem sLa_wCar (σ : RS) (v : Int32) : sLa (wCar σ v) = sLa σ := rfl
theorem sKi_wCar (σ : RS) (v : Int32) : sKi (wCar σ v) = sKi σ := rfl
theorem sSi_wCar (σ : RS) (v : Int32) : sSi (wCar σ v) = sSi σ := rfl
theorem sPl_wCar (σ : RS) (v : Int32) : sPl (wCar σ v) = sPl σ := rfl
theorem sWa_wCar (σ : RS) (v : Int32) : sWa (wCar σ v) = sWa σ := rfl
theorem sCn_wCar (σ : RS) (v : Int32) : sCn (wCar σ v) = sCn σ := rfl
theorem sCs_wCar (σ : RS) (v : Int32) : sCs (wCar σ v) = sCs σ := rfl
theorem sFa_wCar (σ : RS) (v : Int32) : sFa (wCar σ v) = sFa σ := rfl
theorem sCov_wCar (σ : RS) (v : Int32) : sCov (wCar σ v) = sCov σ := rfl
theorem sCam_wCar (σ : RS) (v : Int32) : sCam (wCar σ v) = sCam σ := rfl
theorem sGoo_wCar (σ : RS) (v : Int32) : sGoo (wCar σ v) = sGoo σ := rfl
theorem sRow_wCar (σ : RS) (v : Int32) : sRow (wCar σ v) = sRow σ := rfl
theorem sCar_wCar (σ : RS) (v : Int32) : sCar (wCar σ v) = v := rfl
def refAt (cI cJ : ClassId) (mm : Nat) (ad : Nat → Nat) (σ : RS) (M : Nat → Option va_E) : Prop :=
  M mm = some (.inr (3, [.ref (ad 0), .ref (ad 1), .ref (ad 2), .ref (ad 3), .ref (ad 4), .ref (ad 5), .ref (ad 6), .ref (ad 7), .ref (ad 8), .int (sCov σ), .int (sCam σ), .int (sGoo σ), .int (sRow σ), .int (sCar σ)])) ∧ M (ad 0) = some (.inl (cI, 10, .inl (sHo σ))) ∧ M (ad 1) = some (.inl (cI, 10, .inl (sLa σ))) ∧ M (ad 2) = some (.inl (cI, 12, .inl (sKi σ))) ∧ M (ad 3) = some (.inl (cI, 12, .inl (sSi σ))) ∧ M (ad 4) = some (.inl (cJ, 960, .inr (.inl (sPl σ)))) ∧ M (ad 5) = some (.inl (cJ, 80, .inr (.inl (sWa σ)))) ∧ M (ad 6) = some (.inl (cJ, 2000, .inr (.inl (sCn σ)))) ∧ M (ad 7) = some (.inl (cI, 2000, .inl (sCs σ))) ∧ M (ad 8) = some (.inl (cI, 5, .inl (sFa σ))) ∧ ∀ i j, i < 9 → j < 9 → ad i = ad j → i = j
section RF
variable {cI cJ : ClassId} {mm : Nat} {ad : Nat → Nat} {σ : RS} {M : Nat → Option va_E}
theorem refAt.wHo (h : refAt cI cJ mm ad σ M) (v : Nat → Int32) : refAt cI cJ mm ad (wHo σ v) (va_up M (ad 0) (some (.inl (cI, 10, .inl (v))))) :=
  ⟨by rw [va_up_ne _ _ (mw_neq h.1 h.2.1 (fun z => by cases z))]; exact h.1,
   va_up_self _ _ _,
   by rw [va_up_ne _ _ (fun z => absurd (h.2.2.2.2.2.2.2.2.2.2 1 0 (by decide) (by decide) z) (by decide))]; exact h.2.2.1,
   by rw [va_up_ne _ _ (fun z => absurd (h.2.2.2.2.2.2.2.2.2.2 2 0 (by decide) (by decide) z) (by decide))]; exact h.2.2.2.1,
   by rw [va_up_ne _ _ (fun z => absurd (h.2.2.2.2.2.2.2.2.2.2 3 0 (by decide) (by decide) z) (by decide))]; exact h.2.2.2.2.1,
   by rw [va_up_ne _ _ (fun z => absurd (h.2.2.2.2.2.2.2.2.2.2 4 0 (by decide) (by decide) z) (by decide))]; exact h.2.2.2.2.2.1,
   by rw [va_up_ne _ _ (fun z => absurd (h.2.2.2.2.2.2.2.2.2.2 5 0 (by decide) (by decide) z) (by decide))]; exact h.2.2.2.2.2.2.1,
   by rw [va_up_ne _ _ (fun z => absurd (h.2.2.2.2.2.2.2.2.2.2 6 0 (by decide) (by decide) z) (by decide))]; exact h.2.2.2.2.2.2.2.1,
   by rw [va_up_ne _ _ (fun z => absurd (h.2.2.2.2.2.2.2.2.2.2 7 0 (by decide) (by decide) z) (by decide))]; exact h.2.2.2.2.2.2.2.2.1,
   by rw [va_up_ne _ _ (fun z => absurd (h.2.2.2.2.2.2.2.2.2.2 8 0 (by decide) (by decide) z) (by decide))]; exact h.2.2.2.2.2.2.2.2.2.1, h.2.2.2.2.2.2.2.2.2.2⟩
theorem refAt.wLa (h : refAt cI cJ mm ad σ M) (v : Nat → Int32) : refAt cI cJ mm ad (wLa σ v) (va_up M (ad 1) (some (.inl (cI, 10, .inl (v))))) :=
  ⟨by rw [va_up_ne _ _ (mw_neq h.1 h.2.2.1 (fun z => by cases z))]; exact h.1,
   by rw [va_up_ne _ _ (fun z => absurd (h.2.2.2.2.2.2.2.2.2.2 0 1 (by decide) (by decide) z) (by decide))]; exact h.2.1,
   va_up_self _ _ _,
   by rw [va_up_ne _ _ (fun z => absurd (h.2.2.2.2.2.2.2.2.2.2 2 1 (by decide) (by decide) z) (by decide))]; exact h.2.2.2.1,
   by rw [va_up_ne _ _ (fun z => absurd (h.2.2.2.2.2.2.2.2.2.2 3 1 (by decide) (by decide) z) (by decide))]; exact h.2.2.2.2.1,
   by rw [va_up_ne _ _ (fun z => absurd (h.2.2.2.2.2.2.2.2.2.2 4 1 (by decide) (by decide) z) (by decide))]; exact h.2.2.2.2.2.1,
   by rw [va_up_ne _ _ (fun z => absurd (h.2.2.2.2.2.2.2.2.2.2 5 1 (by decide) (by decide) z) (by decide))]; exact h.2.2.2.2.2.2.1,
   by rw [va_up_ne _ _ (fun z => absurd (h.2.2.2.2.2.2.2.2.2.2 6 1 (by decide) (by decide) z) (by decide))]; exact h.2.2.2.2.2.2.2.1,
   by rw [va_up_ne _ _ (fun z => absurd (h.2.2.2.2.2.2.2.2.2.2 7 1 (by decide) (by decide) z) (by decide))]; exact h.2.2.2.2.2.2.2.2.1,
   by rw [va_up_ne _ _ (fun z => absurd (h.2.2.2.2.2.2.2.2.2.2 8 1 (by decide) (by decide) z) (by decide))]; exact h.2.2.2.2.2.2.2.2.2.1, h.2.2.2.2.2.2.2.2.2.2⟩
theorem refAt.wKi (h : refAt cI cJ mm ad σ M) (v : Nat → Int32) : refAt cI cJ mm ad (wKi σ v) (va_up M (ad 2) (some (.inl (cI, 12, .inl (v))))) :=
  ⟨by rw [va_up_ne _ _ (mw_neq h.1 h.2.2.2.1 (fun z => by cases z))]; exact h.1,
   by rw [va_up_ne _ _ (fun z => absurd (h.2.2.2.2.2.2.2.2.2.2 0 2 (by decide) (by decide) z) (by decide))]; exact h.2.1,
   by rw [va_up_ne _ _ (fun z => absurd (h.2.2.2.2.2.2.2.2.2.2 1 2 (by decide) (by decide) z) (by decide))]; exact h.2.2.1,
   va_up_self _ _ _,
   by rw [va_up_ne _ _ (fun z => absurd (h.2.2.2.2.2.2.2.2.2.2 3 2 (by decide) (by decide) z) (by decide))]; exact h.2.2.2.2.1,
   by rw [va_up_ne _ _ (fun z => absurd (h.2.2.2.2.2.2.2.2.2.2 4 2 (by decide) (by decide) z) (by decide))]; exact h.2.2.2.2.2.1,
   by rw [va_up_ne _ _ (fun z => absurd (h.2.2.2.2.2.2.2.2.2.2 5 2 (by decide) (by decide) z) (by decide))]; exact h.2.2.2.2.2.2.1,
   by rw [va_up_ne _ _ (fun z => absurd (h.2.2.2.2.2.2.2.2.2.2 6 2 (by decide) (by decide) z) (by decide))]; exact h.2.2.2.2.2.2.2.1,
   by rw [va_up_ne _ _ (fun z => absurd (h.2.2.2.2.2.2.2.2.2.2 7 2 (by decide) (by decide) z) (by decide))]; exact h.2.2.2.2.2.2.2.2.1,
   by rw [va_up_ne _ _ (fun z => absurd (h.2.2.2.2.2.2.2.2.2.2 8 2 (by decide) (by decide) z) (by decide))]; exact h.2.2.2.2.2.2.2.2.2.1, h.2.2.2.2.2.2.2.2.2.2⟩
theorem refAt.wSi (h : refAt cI cJ mm ad σ M) (v : Nat → Int32) : refAt cI cJ mm ad (wSi σ v) (va_up M (ad 3) (some (.inl (cI, 12, .inl (v))))) :=
  ⟨by rw [va_up_ne _ _ (mw_neq h.1 h.2.2.2.2.1 (fun z => by cases z))]; exact h.1,
   by rw [va_up_ne _ _ (fun z => absurd (h.2.2.2.2.2.2.2.2.2.2 0 3 (by decide) (by decide) z) (by decide))]; exact h.2.1,
   by rw [va_up_ne _ _ (fun z => absurd (h.2.2.2.2.2.2.2.2.2.2 1 3 (by decide) (by decide) z) (by decide))]; exact h.2.2.1,
   by rw [va_up_ne _ _ (fun z => absurd (h.2.2.2.2.2.2.2.2.2.2 2 3 (by decide) (by decide) z) (by decide))]; exact h.2.2.2.1,
   va_up_self _ _ _,
   by rw [va_up_ne _ _ (fun z => absurd (h.2.2.2.2.2.2.2.2.2.2 4 3 (by decide) (by decide) z) (by decide))]; exact h.2.2.2.2.2.1,
   by rw [va_up_ne _ _ (fun z => absurd (h.2.2.2.2.2.2.2.2.2.2 5 3 (by decide) (by decide) z) (by decide))]; exact h.2.2.2.2.2.2.1,
   by rw [va_up_ne _ _ (fun z => absurd (h.2.2.2.2.2.2.2.2.2.2 6 3 (by decide) (by decide) z) (by decide))]; exact h.2.2.2.2.2.2.2.1,
   by rw [va_up_ne _ _ (fun z => absurd (h.2.2.2.2.2.2.2.2.2.2 7 3 (by decide) (by decide) z) (by decide))]; exact h.2.2.2.2.2.2.2.2.1,
   by rw [va_up_ne _ _ (fun z => absurd (h.2.2.2.2.2.2.2.2.2.2 8 3 (by decide) (by decide) z) (by decide))]; exact h.2.2.2.2.2.2.2.2.2.1, h.2.2.2.2.2.2.2.2.2.2⟩
theorem refAt.wPl (h : refAt cI cJ mm ad σ M) (v : Nat → Int64) : refAt cI cJ mm ad (wPl σ v) (va_up M (ad 4) (some (.inl (cJ, 960, .inr (.inl (v)))))) :=
  ⟨by rw [va_up_ne _ _ (mw_neq h.1 h.2.2.2.2.2.1 (fun z => by cases z))]; exact h.1,
   by rw [va_up_ne _ _ (fun z => absurd (h.2.2.2.2.2.2.2.2.2.2 0 4 (by decide) (by decide) z) (by decide))]; exact h.2.1,
   by rw [va_up_ne _ _ (fun z => absurd (h.2.2.2.2.2.2.2.2.2.2 1 4 (by decide) (by decide) z) (by decide))]; exact h.2.2.1,
   by rw [va_up_ne _ _ (fun z => absurd (h.2.2.2.2.2.2.2.2.2.2 2 4 (by decide) (by decide) z) (by decide))]; exact h.2.2.2.1,
   by rw [va_up_ne _ _ (fun z => absurd (h.2.2.2.2.2.2.2.2.2.2 3 4 (by decide) (by decide) z) (by decide))]; exact h.2.2.2.2.1,
   va_up_self _ _ _,
   by rw [va_up_ne _ _ (fun z => absurd (h.2.2.2.2.2.2.2.2.2.2 5 4 (by decide) (by decide) z) (by decide))]; exact h.2.2.2.2.2.2.1,
   by rw [va_up_ne _ _ (fun z => absurd (h.2.2.2.2.2.2.2.2.2.2 6 4 (by decide) (by decide) z) (by decide))]; exact h.2.2.2.2.2.2.2.1,
   by rw [va_up_ne _ _ (fun z => absurd (h.2.2.2.2.2.2.2.2.2.2 7 4 (by decide) (by decide) z) (by decide))]; exact h.2.2.2.2.2.2.2.2.1,
   by rw [va_up_ne _ _ (fun z => absurd (h.2.2.2.2.2.2.2.2.2.2 8 4 (by decide) (by decide) z) (by decide))]; exact h.2.2.2.2.2.2.2.2.2.1, h.2.2.2.2.2.2.2.2.2.2⟩
theorem refAt.wWa (h : refAt cI cJ mm ad σ M) (v : Nat → Int64) : refAt cI cJ mm ad (wWa σ v) (va_up M (ad 5) (some (.inl (cJ, 80, .inr (.inl (v)))))) :=
  ⟨by rw [va_up_ne _ _ (mw_neq h.1 h.2.2.2.2.2.2.1 (fun z => by cases z))]; exact h.1,
   by rw [va_up_ne _ _ (fun z => absurd (h.2.2.2.2.2.2.2.2.2.2 0 5 (by decide) (by decide) z) (by decide))]; exact h.2.1,
   by rw [va_up_ne _ _ (fun z => absurd (h.2.2.2.2.2.2.2.2.2.2 1 5 (by decide) (by decide) z) (by decide))]; exact h.2.2.1,
   by rw [va_up_ne _ _ (fun z => absurd (h.2.2.2.2.2.2.2.2.2.2 2 5 (by decide) (by decide) z) (by decide))]; exact h.2.2.2.1,
   by rw [va_up_ne _ _ (fun z => absurd (h.2.2.2.2.2.2.2.2.2.2 3 5 (by decide) (by decide) z) (by decide))]; exact h.2.2.2.2.1,
   by rw [va_up_ne _ _ (fun z => absurd (h.2.2.2.2.2.2.2.2.2.2 4 5 (by decide) (by decide) z) (by decide))]; exact h.2.2.2.2.2.1,
   va_up_self _ _ _,
   by rw [va_up_ne _ _ (fun z => absurd (h.2.2.2.2.2.2.2.2.2.2 6 5 (by decide) (by decide) z) (by decide))]; exact h.2.2.2.2.2.2.2.1,
   by rw [va_up_ne _ _ (fun z => absurd (h.2.2.2.2.2.2.2.2.2.2 7 5 (by decide) (by decide) z) (by decide))]; exact h.2.2.2.2.2.2.2.2.1,
   by rw [va_up_ne _ _ (fun z => absurd (h.2.2.2.2.2.2.2.2.2.2 8 5 (by decide) (by decide) z) (by decide))]; exact h.2.2.2.2.2.2.2.2.2.1, h.2.2.2.2.2.2.2.2.2.2⟩
theorem refAt.wCn (h : refAt cI cJ mm ad σ M) (v : Nat → Int64) : refAt cI cJ mm ad (wCn σ v) (va_up M (ad 6) (some (.inl (cJ, 2000, .inr (.inl (v)))))) :=
  ⟨by rw [va_up_ne _ _ (mw_neq h.1 h.2.2.2.2.2.2.2.1 (fun z => by cases z))]; exact h.1,
   by rw [va_up_ne _ _ (fun z => absurd (h.2.2.2.2.2.2.2.2.2.2 0 6 (by decide) (by decide) z) (by decide))]; exact h.2.1,
   by rw [va_up_ne _ _ (fun z => absurd (h.2.2.2.2.2.2.2.2.2.2 1 6 (by decide) (by decide) z) (by decide))]; exact h.2.2.1,
   by rw [va_up_ne _ _ (fun z => absurd (h.2.2.2.2.2.2.2.2.2.2 2 6 (by decide) (by decide) z) (by decide))]; exact h.2.2.2.1,
   by rw [va_up_ne _ _ (fun z => absurd (h.2.2.2.2.2.2.2.2.2.2 3 6 (by decide) (by decide) z) (by decide))]; exact h.2.2.2.2.1,
   by rw [va_up_ne _ _ (fun z => absurd (h.2.2.2.2.2.2.2.2.2.2 4 6 (by decide) (by decide) z) (by decide))]; exact h.2.2.2.2.2.1,
   by rw [va_up_ne _ _ (fun z => absurd (h.2.2.2.2.2.2.2.2.2.2 5 6 (by decide) (by decide) z) (by decide))]; exact h.2.2.2.2.2.2.1,
   va_up_self _ _ _,
   by rw [va_up_ne _ _ (fun z => absurd (h.2.2.2.2.2.2.2.2.2.2 7 6 (by decide) (by decide) z) (by decide))]; exact h.2.2.2.2.2.2.2.2.1,
   by rw [va_up_ne _ _ (fun z => absurd (h.2.2.2.2.2.2.2.2.2.2 8 6 (by decide) (by decide) z) (by decide))]; exact h.2.2.2.2.2.2.2.2.2.1, h.2.2.2.2.2.2.2.2.2.2⟩
theorem refAt.wCs (h : refAt cI cJ mm ad σ M) (v : Nat → Int32) : refAt cI cJ mm ad (wCs σ v) (va_up M (ad 7) (some (.inl (cI, 2000, .inl (v))))) :=
  ⟨by rw [va_up_ne _ _ (mw_neq h.1 h.2.2.2.2.2.2.2.2.1 (fun z => by cases z))]; exact h.1,
   by rw [va_up_ne _ _ (fun z => absurd (h.2.2.2.2.2.2.2.2.2.2 0 7 (by decide) (by decide) z) (by decide))]; exact h.2.1,
   by rw [va_up_ne _ _ (fun z => absurd (h.2.2.2.2.2.2.2.2.2.2 1 7 (by decide) (by decide) z) (by decide))]; exact h.2.2.1,
   by rw [va_up_ne _ _ (fun z => absurd (h.2.2.2.2.2.2.2.2.2.2 2 7 (by decide) (by decide) z) (by decide))]; exact h.2.2.2.1,
   by rw [va_up_ne _ _ (fun z => absurd (h.2.2.2.2.2.2.2.2.2.2 3 7 (by decide) (by decide) z) (by decide))]; exact h.2.2.2.2.1,
   by rw [va_up_ne _ _ (fun z => absurd (h.2.2.2.2.2.2.2.2.2.2 4 7 (by decide) (by decide) z) (by decide))]; exact h.2.2.2.2.2.1,
   by rw [va_up_ne _ _ (fun z => absurd (h.2.2.2.2.2.2.2.2.2.2 5 7 (by decide) (by decide) z) (by decide))]; exact h.2.2.2.2.2.2.1,
   by rw [va_up_ne _ _ (fun z => absurd (h.2.2.2.2.2.2.2.2.2.2 6 7 (by decide) (by decide) z) (by decide))]; exact h.2.2.2.2.2.2.2.1,
   va_up_self _ _ _,
   by rw [va_up_ne _ _ (fun z => absurd (h.2.2.2.2.2.2.2.2.2.2 8 7 (by decide) (by decide) z) (by decide))]; exact h.2.2.2.2.2.2.2.2.2.1, h.2.2.2.2.2.2.2.2.2.2⟩
theorem refAt.wFa (h : refAt cI cJ mm ad σ M) (v : Nat → Int32) : refAt cI cJ mm ad (wFa σ v) (va_up M (ad 8) (some (.inl (cI, 5, .inl (v))))) :=
  ⟨by rw [va_up_ne _ _ (mw_neq h.1 h.2.2.2.2.2.2.2.2.2.1 (fun z => by cases z))]; exact h.1,
   by rw [va_up_ne _ _ (fun z => absurd (h.2.2.2.2.2.2.2.2.2.2 0 8 (by decide) (by decide) z) (by decide))]; exact h.2.1,
   by rw [va_up_ne _ _ (fun z => absurd (h.2.2.2.2.2.2.2.2.2.2 1 8 (by decide) (by decide) z) (by decide))]; exact h.2.2.1,
   by rw [va_up_ne _ _ (fun z => absurd (h.2.2.2.2.2.2.2.2.2.2 2 8 (by decide) (by decide) z) (by decide))]; exact h.2.2.2.1,
   by rw [va_up_ne _ _ (fun z => absurd (h.2.2.2.2.2.2.2.2.2.2 3 8 (by decide) (by decide) z) (by decide))]; exact h.2.2.2.2.1,
   by rw [va_up_ne _ _ (fun z => absurd (h.2.2.2.2.2.2.2.2.2.2 4 8 (by decide) (by decide) z) (by decide))]; exact h.2.2.2.2.2.1,
   by rw [va_up_ne _ _ (fun z => absurd (h.2.2.2.2.2.2.2.2.2.2 5 8 (by decide) (by decide) z) (by decide))]; exact h.2.2.2.2.2.2.1,
   by rw [va_up_ne _ _ (fun z => absurd (h.2.2.2.2.2.2.2.2.2.2 6 8 (by decide) (by decide) z) (by decide))]; exact h.2.2.2.2.2.2.2.1,
   by rw [va_up_ne _ _ (fun z => absurd (h.2.2.2.2.2.2.2.2.2.2 7 8 (by decide) (by decide) z) (by decide))]; exact h.2.2.2.2.2.2.2.2.1,
   va_up_self _ _ _, h.2.2.2.2.2.2.2.2.2.2⟩
theorem refAt.wCov (h : refAt cI cJ mm ad σ M) (v : Int32) : refAt cI cJ mm ad (wCov σ v) (va_up M mm (some (.inr (3, [.ref (ad 0), .ref (ad 1), .ref (ad 2), .ref (ad 3), .ref (ad 4), .ref (ad 5), .ref (ad 6), .ref (ad 7), .ref (ad 8), .int (v), .int (sCam σ), .int (sGoo σ), .int (sRow σ), .int (sCar σ)])))) :=
  ⟨va_up_self _ _ _,
   by rw [va_up_ne _ _ (mw_neq h.2.1 h.1 (fun z => by cases z))]; exact h.2.1,
   by rw [va_up_ne _ _ (mw_neq h.2.2.1 h.1 (fun z => by cases z))]; exact h.2.2.1,
   by rw [va_up_ne _ _ (mw_neq h.2.2.2.1 h.1 (fun z => by cases z))]; exact h.2.2.2.1,
   by rw [va_up_ne _ _ (mw_neq h.2.2.2.2.1 h.1 (fun z => by cases z))]; exact h.2.2.2.2.1,
   by rw [va_up_ne _ _ (mw_neq h.2.2.2.2.2.1 h.1 (fun z => by cases z))]; exact h.2.2.2.2.2.1,
   by rw [va_up_ne _ _ (mw_neq h.2.2.2.2.2.2.1 h.1 (fun z => by cases z))]; exact h.2.2.2.2.2.2.1,
   by rw [va_up_ne _ _ (mw_neq h.2.2.2.2.2.2.2.1 h.1 (fun z => by cases z))]; exact h.2.2.2.2.2.2.2.1,
   by rw [va_up_ne _ _ (mw_neq h.2.2.2.2.2.2.2.2.1 h.1 (fun z => by cases z))]; exact h.2.2.2.2.2.2.2.2.1,
   by rw [va_up_ne _ _ (mw_neq h.2.2.2.2.2.2.2.2.2.1 h.1 (fun z => by cases z))]; exact h.2.2.2.2.2.2.2.2.2.1, h.2.2.2.2.2.2.2.2.2.2⟩
theorem refAt.wCam (h : refAt cI cJ mm ad σ M) (v : Int32) : refAt cI cJ mm ad (wCam σ v) (va_up M mm (some (.inr (3, [.ref (ad 0), .ref (ad 1), .ref (ad 2), .ref (ad 3), .ref (ad 4), .ref (ad 5), .ref (ad 6), .ref (ad 7), .ref (ad 8), .int (sCov σ), .int (v), .int (sGoo σ), .int (sRow σ), .int (sCar σ)])))) :=
  ⟨va_up_self _ _ _,
   by rw [va_up_ne _ _ (mw_neq h.2.1 h.1 (fun z => by cases z))]; exact h.2.1,
   by rw [va_up_ne _ _ (mw_neq h.2.2.1 h.1 (fun z => by cases z))]; exact h.2.2.1,
   by rw [va_up_ne _ _ (mw_neq h.2.2.2.1 h.1 (fun z => by cases z))]; exact h.2.2.2.1,
   by rw [va_up_ne _ _ (mw_neq h.2.2.2.2.1 h.1 (fun z => by cases z))]; exact h.2.2.2.2.1,
   by rw [va_up_ne _ _ (mw_neq h.2.2.2.2.2.1 h.1 (fun z => by cases z))]; exact h.2.2.2.2.2.1,
   by rw [va_up_ne _ _ (mw_neq h.2.2.2.2.2.2.1 h.1 (fun z => by cases z))]; exact h.2.2.2.2.2.2.1,
   by rw [va_up_ne _ _ (mw_neq h.2.2.2.2.2.2.2.1 h.1 (fun z => by cases z))]; exact h.2.2.2.2.2.2.2.1,
   by rw [va_up_ne _ _ (mw_neq h.2.2.2.2.2.2.2.2.1 h.1 (fun z => by cases z))]; exact h.2.2.2.2.2.2.2.2.1,
   by rw [va_up_ne _ _ (mw_neq h.2.2.2.2.2.2.2.2.2.1 h.1 (fun z => by cases z))]; exact h.2.2.2.2.2.2.2.2.2.1, h.2.2.2.2.2.2.2.2.2.2⟩
theorem refAt.wGoo (h : refAt cI cJ mm ad σ M) (v : Int32) : refAt cI cJ mm ad (wGoo σ v) (va_up M mm (some (.inr (3, [.ref (ad 0), .ref (ad 1), .ref (ad 2), .ref (ad 3), .ref (ad 4), .ref (ad 5), .ref (ad 6), .ref (ad 7), .ref (ad 8), .int (sCov σ), .int (sCam σ), .int (v), .int (sRow σ), .int (sCar σ)])))) :=
  ⟨va_up_self _ _ _,
   by rw [va_up_ne _ _ (mw_neq h.2.1 h.1 (fun z => by cases z))]; exact h.2.1,
   by rw [va_up_ne _ _ (mw_neq h.2.2.1 h.1 (fun z => by cases z))]; exact h.2.2.1,
   by rw [va_up_ne _ _ (mw_neq h.2.2.2.1 h.1 (fun z => by cases z))]; exact h.2.2.2.1,
   by rw [va_up_ne _ _ (mw_neq h.2.2.2.2.1 h.1 (fun z => by cases z))]; exact h.2.2.2.2.1,
   by rw [va_up_ne _ _ (mw_neq h.2.2.2.2.2.1 h.1 (fun z => by cases z))]; exact h.2.2.2.2.2.1,
   by rw [va_up_ne _ _ (mw_neq h.2.2.2.2.2.2.1 h.1 (fun z => by cases z))]; exact h.2.2.2.2.2.2.1,
   by rw [va_up_ne _ _ (mw_neq h.2.2.2.2.2.2.2.1 h.1 (fun z => by cases z))]; exact h.2.2.2.2.2.2.2.1,
   by rw [va_up_ne _ _ (mw_neq h.2.2.2.2.2.2.2.2.1 h.1 (fun z => by cases z))]; exact h.2.2.2.2.2.2.2.2.1,
   by rw [va_up_ne _ _ (mw_neq h.2.2.2.2.2.2.2.2.2.1 h.1 (fun z => by cases z))]; exact h.2.2.2.2.2.2.2.2.2.1, h.2.2.2.2.2.2.2.2.2.2⟩
theorem refAt.wRow (h : refAt cI cJ mm ad σ M) (v : Int32) : refAt cI cJ mm ad (wRow σ v) (va_up M mm (some (.inr (3, [.ref (ad 0), .ref (ad 1), .ref (ad 2), .ref (ad 3), .ref (ad 4), .ref (ad 5), .ref (ad 6), .ref (ad 7), .ref (ad 8), .int (sCov σ), .int (sCam σ), .int (sGoo σ), .int (v), .int (sCar σ)])))) :=
  ⟨va_up_self _ _ _,
   by rw [va_up_ne _ _ (mw_neq h.2.1 h.1 (fun z => by cases z))]; exact h.2.1,
   by rw [va_up_ne _ _ (mw_neq h.2.2.1 h.1 (fun z => by cases z))]; exact h.2.2.1,
   by rw [va_up_ne _ _ (mw_neq h.2.2.2.1 h.1 (fun z => by cases z))]; exact h.2.2.2.1,
   by rw [va_up_ne _ _ (mw_neq h.2.2.2.2.1 h.1 (fun z => by cases z))]; exact h.2.2.2.2.1,
   by rw [va_up_ne _ _ (mw_neq h.2.2.2.2.2.1 h.1 (fun z => by cases z))]; exact h.2.2.2.2.2.1,
   by rw [va_up_ne _ _ (mw_neq h.2.2.2.2.2.2.1 h.1 (fun z => by cases z))]; exact h.2.2.2.2.2.2.1,
   by rw [va_up_ne _ _ (mw_neq h.2.2.2.2.2.2.2.1 h.1 (fun z => by cases z))]; exact h.2.2.2.2.2.2.2.1,
   by rw [va_up_ne _ _ (mw_neq h.2.2.2.2.2.2.2.2.1 h.1 (fun z => by cases z))]; exact h.2.2.2.2.2.2.2.2.1,
   by rw [va_up_ne _ _ (mw_neq h.2.2.2.2.2.2.2.2.2.1 h.1 (fun z => by cases z))]; exact h.2.2.2.2.2.2.2.2.2.1, h.2.2.2.2.2.2.2.2.2.2⟩
theorem refAt.wCar (h : refAt cI cJ mm ad σ M) (v : Int32) : refAt cI cJ mm ad (wCar σ v) (va_up M mm (some (.inr (3, [.ref (ad 0), .ref (ad 1), .ref (ad 2), .ref (ad 3), .ref (ad 4), .ref (ad 5), .ref (ad 6), .ref (ad 7), .ref (ad 8), .int (sCov σ), .int (sCam σ), .int (sGoo σ), .int (sRow σ), .int (v)])))) :=
  ⟨va_up_self _ _ _,
   by rw [va_up_ne _ _ (mw_neq h.2.1 h.1 (fun z => by cases z))]; exact h.2.1,
   by rw [va_up_ne _ _ (mw_neq h.2.2.1 h.1 (fun z => by cases z))]; exact h.2.2.1,
   by rw [va_up_ne _ _ (mw_neq h.2.2.2.1 h.1 (fun z => by cases z))]; exact h.2.2.2.1,
   by rw [va_up_ne _ _ (mw_neq h.2.2.2.2.1 h.1 (fun z => by cases z))]; exact h.2.2.2.2.1,
   by rw [va_up_ne _ _ (mw_neq h.2.2.2.2.2.1 h.1 (fun z => by cases z))]; exact h.2.2.2.2.2.1,
   by rw [va_up_ne _ _ (mw_neq h.2.2.2.2.2.2.1 h.1 (fun z => by cases z))]; exact h.2.2.2.2.2.2.1,
   by rw [va_up_ne _ _ (mw_neq h.2.2.2.2.2.2.2.1 h.1 (fun z => by cases z))]; exact h.2.2.2.2.2.2.2.1,
   by rw [va_up_ne _ _ (mw_neq h.2.2.2.2.2.2.2.2.1 h.1 (fun z => by cases z))]; exact h.2.2.2.2.2.2.2.2.1,
   by rw [va_up_ne _ _ (mw_neq h.2.2.2.2.2.2.2.2.2.1 h.1 (fun z => by cases z))]; exact h.2.2.2.2.2.2.2.2.2.1, h.2.2.2.2.2.2.2.2.2.2⟩
end RF
