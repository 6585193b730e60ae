/-! trials compared -/
theorem sFw_bd {w h : Int} {T F K : Int → Int → Int} (hw : 1 ≤ w ∧ w ≤ 20) (hh : 1 ≤ h ∧ h ≤ 20) (hT : ∀ x y : Int, 0 ≤ x → x < w → 0 ≤ y → y < h → -1 ≤ T x y ∧ T x y ≤ 255) (hK : kOk w h K) : 0 ≤ sFw w h T F K ∧ sFw w h T F K ≤ 200000000 := by
  unfold sFw fr2
  have := fr_ix (f := fun s y => fr (fun s x => flF T F K s x y) 0 w.toNat s) (a := 0) (n := h.toNat) (s := 0) (fun m q => 0 ≤ q ∧ q ≤ 5202000 * (m : Int)) (by simp) (fun m q hm hq => by
    have h2 := fr_ix (f := fun s x => flF T F K s x (0 + (m : Int))) (a := 0) (n := w.toNat) (s := q) (fun r p => 0 ≤ p ∧ p ≤ q + 260100 * (r : Int)) (by simp; omega) (fun r p hr hp => by
      have e1 := hT (0 + (r : Int)) (0 + (m : Int)) (by omega) (by omega) (by omega) (by omega)
      have e2 := hK (0 + (r : Int)) (0 + (m : Int)) (by omega) (by omega) (by omega) (by omega)
      have e3 := y_sq (a := T (0 + (r : Int)) (0 + (m : Int)) - K (0 + (r : Int)) (0 + (m : Int))) (b := 1) (by omega) (by omega)
      unfold flF
      split <;> omega)
    omega)
  omega
theorem gR_df {w h s re fo ra tu we sh lv : Int} {T S F P O : Int → Int → Int} (hs : 0 ≤ s ∧ s ≤ 3) (ht : 0 ≤ tu ∧ tu ≤ 3) (A : aOk w h T S F P O) : aOkX w h (gR w h s re fo ra tu we sh lv (400 : Int).toNat (x00 T S F P O)).2 ∧ 0 ≤ xDf (gR w h s re fo ra tu we sh lv (400 : Int).toNat (x00 T S F P O)).2 ∧ xDf (gR w h s re fo ra tu we sh lv (400 : Int).toNat (x00 T S F P O)).2 ≤ 30000000000 := by
  have h1 := gR_cnt (w := w) (h := h) (s := s) (re := re) (fo := fo) (ra := ra) (tu := tu) (we := we) (sh := sh) (lv := lv) (most := (400 : Int).toNat) (X := x00 T S F P O)
  have h2 : aOkX w h (gR w h s re fo ra tu we sh lv (400 : Int).toNat (x00 T S F P O)).2 ∧ lgOk (gR w h s re fo ra tu we sh lv (400 : Int).toNat (x00 T S F P O)).2 ∧ 0 ≤ xDf (gR w h s re fo ra tu we sh lv (400 : Int).toNat (x00 T S F P O)).2 - 0 ∧ xDf (gR w h s re fo ra tu we sh lv (400 : Int).toNat (x00 T S F P O)).2 - 0 ≤ 63724500 * ((gR w h s re fo ra tu we sh lv (400 : Int).toNat (x00 T S F P O)).1 : Nat) := fIt_ok hs ht (400 : Int).toNat (X := x00 T S F P O) A (Int.le_refl 0) (show (0 : Int) + ((400 : Int).toNat : Nat) < 900000000 by decide) (fun i a b => by have : i < 0 := b; omega)
  refine ⟨h2.1, ?_, ?_⟩ <;> omega
def tnG (w h : Int) (ht : Bool) (K : Int → Int → Int) (R : aX) (q : Int × Int × Int) (k : Int) : Int × Int × Int := if q.1 = 0 ∨ nMi w h R.1 < q.2.1 ∨ (nMi w h R.1 = q.2.1 ∧ (if ht = true then sFw w h R.1 R.2.2.1 K else 0) < q.2.2) then (k, nMi w h R.1, if ht = true then sFw w h R.1 R.2.2.1 K else 0) else q
def tnQ (w h : Int) (T S F P O : Int → Int → Int) (re fo ra tu we sh : Int) (ht : Bool) (K : Int → Int → Int) (n : Nat) : Int × Int × Int := fr (fun q k => tnG w h ht K (gR w h k re fo ra tu we sh 0 (400 : Int).toNat (x00 T S F P O)).2 q k) 1 n (0, 0, 0)
def tnV (q : Int × Int × Int) (a : Int) : Int := if a = 0 then q.1 else if a = 1 then q.2.1 else q.2.2
def trG (R : aX) (q : Int × Int) (k : Int) : Int × Int := if q.1 = -1 ∨ xDf R < q.2 then (k, xDf R) else q
def trQ (w h : Int) (T S F P O : Int → Int → Int) (s re fo ra we sh : Int) (n : Nat) : Int × Int := fr (fun q k => trG (gR w h s re fo ra k we sh 0 (400 : Int).toNat (x00 T S F P O)).2 q k) 0 n (-1, 0)
def trV (q : Int × Int) (a : Int) : Int := if a = 0 then q.1 else q.2
theorem trG_1 {R : aX} {q : Int × Int} {k : Int} (h : q.1 = -1 ∨ xDf R < q.2) : trG R q k = (k, xDf R) := if_pos h
theorem trG_0 {R : aX} {q : Int × Int} {k : Int} (h : ¬ (q.1 = -1 ∨ xDf R < q.2)) : trG R q k = q := if_neg h
