/-! seams, favourites, parts, rings, reaches -/
def fvF (nl : Int) (lg : Int → Int → Int) (q : Int × Int) (way : Int) : Int × Int := if q.2 < sWy nl lg way then (way, sWy nl lg way) else q
def fvQ (nl : Int) (lg : Int → Int → Int) : Int × Int := fr (fvF nl lg) 0 8 (-1, 0)
def smV (w h : Int) (T F : Int → Int → Int) (a : Int) : Int := if a = 0 then (sSm w h T F).1 else if a = 1 then (sSm w h T F).2.1 else (sSm w h T F).2.2
abbrev aR : Type := Int × Int × Int × Int × Int × Int
def paF (w h : Int) (T L : Int → Int → Int) (p : Int) (q : aR) (x y : Int) : aR := match q with
  | (c, f, l, t, r, b) => if L x y = p then (c + 1, f + bi (sFr w h T x y), min l x, min t y, max r x, max b y) else (c, f, l, t, r, b)
def paQ (w h : Int) (T : Int → Int → Int) (p : Int) : aR := fr2 (paF w h T (sPt w h T).1 p) 0 w.toNat 0 h.toNat (0, 0, 20, 20, -1, -1)
def paV (q : aR) (a : Int) : Int := match q with
  | (c, f, l, t, r, b) => if a = 0 then c else if a = 1 then l else if a = 2 then t else if a = 3 then r else if a = 4 then b else f
abbrev aG : Type := Int × Int × Int × Int
def rgF (w h : Int) (T L : Int → Int → Int) (p : Int) (q : aG) (x y : Int) : aG := match q with
  | (c, l, m, s) => if T x y ≠ -1 ∧ sBs w h L x y p = true then (c + 1, min l (T x y), max m (T x y), s + T x y) else (c, l, m, s)
def rgQ (w h : Int) (T : Int → Int → Int) (p : Int) : aG := fr2 (rgF w h T (sPt w h T).1 p) 0 w.toNat 0 h.toNat (0, 255, 0, 0)
def rgV (q : aG) (a : Int) : Int := match q with
  | (c, l, m, s) => if a = 0 then c else if c = 0 then -1 else if a = 1 then l else if a = 2 then m else s.tdiv c
def reV (w h : Int) (T S F : Int → Int → Int) (s fo tu we sh x y a : Int) : Int :=
  if a = 0 then sLr w h T F s fo x y else if (sSe w h T S F s fo tu we sh x y 20).1 = -1 then -1 else rTo w x y ((sSe w h T S F s fo tu we sh x y 20).2.1 * w + (sSe w h T S F s fo tu we sh x y 20).1)
theorem sWy_bd {nl : Int} {lg : Int → Int → Int} {way : Int} (hn : 0 ≤ nl) : 0 ≤ sWy nl lg way ∧ sWy nl lg way ≤ nl := by
  unfold sWy
  have := fr_ix (f := fun q i => q + bi (decide (lg i 7 = way))) (a := 0) (n := nl.toNat) (s := 0) (fun m q => 0 ≤ q ∧ q ≤ (m : Int)) (by simp) (fun m q _ hq => by have := bi_bd (decide (lg (0 + (m : Int)) 7 = way)); omega)
  omega
