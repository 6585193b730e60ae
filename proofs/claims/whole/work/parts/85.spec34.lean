/-! trials -/
def x00 (T S F P O : Int → Int → Int) : aX := (T, S, F, P, O, 0, 0, 0, fun _ _ => 0)
def ahV (w h : Int) (ht : Bool) (K : Int → Int → Int) (R : aX) (a : Int) : Int := if a = 0 then nMi w h R.1 else if a = 1 then xNf R else if a = 2 then xDf R else if a = 3 then (if ht = true then sFw w h R.1 R.2.2.1 K else -1) else sLs w h R.2.1 R.2.2.1
def fbV (w h : Int) (ht : Bool) (K T F : Int → Int → Int) (R : aX) : Int := if ht = true then sFw w h R.1 R.2.2.1 K - sFw w h T F K else -1000000000
theorem fG.trial {σ σ1 σ2 : yM} (h1 : fc 146 154 σ σ1) (h2 : fG 147 153 σ1 σ2) : fc 120 154 σ σ2 := fun c a => by rw [h2 c (by omega) (by omega) (by omega)]; exact h1 c (by omega)
