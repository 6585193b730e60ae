/-! lengths and weights -/
theorem kL_len {w h : Int} {T : Int → Int → Int} {s x y : Int} (hs : 1 ≤ s ∧ s ≤ 3) : (kL w h T s x y).length ≤ 49 := by
  have row : ∀ (L : List (Int × Int)) (j : Int), (fr (fun L i => pL (sKn w h T) L i j) (x - s) (2 * s + 1).toNat L).length ≤ L.length + (2 * s + 1).toNat := fun L j => fr_ix (fun m (q : List (Int × Int)) => q.length ≤ L.length + m) (Nat.le_refl _) (fun m q _ hq => Nat.le_trans pL_len (by omega))
  have all : (kL w h T s x y).length ≤ (2 * s + 1).toNat * (2 * s + 1).toNat := fr_ix (fun m (q : List (Int × Int)) => q.length ≤ m * (2 * s + 1).toNat) (by simp) (fun m q _ hq => by
    have := row q (y - s + m)
    rw [Nat.add_mul, Nat.one_mul]
    omega)
  rcases (show s = 1 ∨ s = 2 ∨ s = 3 by omega) with rfl | rfl | rfl <;> simp at all <;> omega
theorem rG.W {σ : yM} {w h : Int} {T S : Int → Int → Int} {s we x y u v way : Int} (H : rG σ w T S we x y (kL w h T s x y)) : σ 123 8 = (sB2 w h T S s we x y u v way).2 := by
  rw [H.2.1, B2_list]
  exact (foldl_snd (g := fun (q : Int × Int) (e : Int × Int) => (q.1 + sAp T x y e.1 e.2 u v way * sWt S we e.1 e.2, q.2 + sWt S we e.1 e.2)) (k := fun q : Int × Int => q.2) (f := fun e => sWt S we e.1 e.2) (fun _ _ => rfl) (kL w h T s x y) ((0, 0) : Int × Int)).symm
def cmG (T S : Int → Int → Int) (we x y u v way : Int) (q : Int × Int) (e : Int × Int) : Int × Int := (q.1 + sAp T x y e.1 e.2 u v way * sWt S we e.1 e.2, q.2 + sWt S we e.1 e.2)
theorem cm_all {w h : Int} {T S : Int → Int → Int} {s we x y u v way : Int} : fr (fun q i => cmG T S we x y u v way q (gk (kL w h T s x y) i)) 0 (kL w h T s x y).length (0, 0) = sB2 w h T S s we x y u v way := by
  rw [fr_list (g := cmG T S we x y u v way), B2_list]
  rfl
theorem cm_up {T S : Int → Int → Int} {we x y u v way m c : Int} {L : List (Int × Int)} (hm : 0 ≤ m) (hc : c = (fr (fun q i => cmG T S we x y u v way q (gk L i)) 0 m.toNat (0, 0)).1) : c + sAp T x y (gk L m).1 (gk L m).2 u v way * sWt S we (gk L m).1 (gk L m).2 = (fr (fun q i => cmG T S we x y u v way q (gk L i)) 0 (m + 1).toNat (0, 0)).1 := by
  rw [fr_up _ _ _ _ hm, Int.zero_add, hc]
  rfl
def dfG (T S : Int → Int → Int) (we x y u v way sf le : Int) (q : Int × Int) (e : Int × Int) : Int × Int := if le ≤ q.1 then q else (q.1 + (sAp T x y e.1 e.2 u v way - sf) * (sAp T x y e.1 e.2 u v way - sf) * sWt S we e.1 e.2, q.2 + 1)
theorem df_all {w h : Int} {T S : Int → Int → Int} {s we x y u v way sf le : Int} : fr (fun q i => dfG T S we x y u v way sf le q (gk (kL w h T s x y) i)) 0 (kL w h T s x y).length (0, 0) = sDf w h T S s we x y u v way sf le := by
  rw [fr_list (g := dfG T S we x y u v way sf le), Df_list]
  rfl
