/-! the known dots of a patch, in a list -/
def pL (P : Int → Int → Bool) (L : List (Int × Int)) (i j : Int) : List (Int × Int) := if P i j then L ++ [(i, j)] else L
def kL (w h : Int) (T : Int → Int → Int) (s x y : Int) : List (Int × Int) := fr2 (pL (sKn w h T)) (x - s) (2 * s + 1).toNat (y - s) (2 * s + 1).toNat []
theorem fr2_list {α : Type} {P : Int → Int → Bool} {f : α → Int → Int → α} {g : α → Int × Int → α} {s0 : α} {x0 y0 : Int} {nx ny : Nat} (hf : ∀ q i j, f q i j = if P i j then g q (i, j) else q) : fr2 f x0 nx y0 ny s0 = (fr2 (pL P) x0 nx y0 ny []).foldl g s0 := by
  have step : ∀ (L : List (Int × Int)) (q : α) (i j : Int), q = L.foldl g s0 → f q i j = (pL P L i j).foldl g s0 := by
    intro L q i j e
    rw [hf, e]
    unfold pL
    split
    · rw [List.foldl_append]; rfl
    · rfl
  unfold fr2
  exact fr_two (fun (q : α) (L : List (Int × Int)) => q = L.foldl g s0) rfl (fun q L j _ _ e => fr_two (fun (q : α) (L : List (Int × Int)) => q = L.foldl g s0) e (fun q L i _ _ e => step L q i j e))
theorem fr_take {α : Type} {g : α → Int × Int → α} {L : List (Int × Int)} {s0 : α} : ∀ {m : Nat}, m ≤ L.length → fr (fun q i => g q (gk L i)) 0 m s0 = (L.take m).foldl g s0
  | 0, _ => by simp [fr]
  | m + 1, h => by
    have hg : gk L (0 + (m : Int)) = L[m]'(by omega) := by
      unfold gk
      rw [show ((0 : Int) + (m : Int)).toNat = m by omega, List.getD_eq_getElem?_getD, List.getElem?_eq_getElem (by omega)]
      rfl
    rw [fr_s, fr_take (m := m) (by omega), hg, List.take_succ_eq_append_getElem (by omega), List.foldl_append]
    rfl
theorem fr_list {α : Type} {g : α → Int × Int → α} {L : List (Int × Int)} {s0 : α} : fr (fun q i => g q (gk L i)) 0 L.length s0 = L.foldl g s0 := by
  rw [fr_take (Nat.le_refl _), List.take_length]
/-- what is in the list -/
theorem pL_in {P : Int → Int → Bool} {x0 y0 : Int} {nx ny : Nat} : ∀ e ∈ fr2 (pL P) x0 nx y0 ny [], P e.1 e.2 = true ∧ (x0 ≤ e.1 ∧ e.1 < x0 + nx) ∧ (y0 ≤ e.2 ∧ e.2 < y0 + ny) := by
  have step : ∀ (L : List (Int × Int)) (i j : Int), (x0 ≤ i ∧ i < x0 + nx) → (y0 ≤ j ∧ j < y0 + ny) → (∀ e ∈ L, P e.1 e.2 = true ∧ (x0 ≤ e.1 ∧ e.1 < x0 + nx) ∧ (y0 ≤ e.2 ∧ e.2 < y0 + ny)) → (∀ e ∈ pL P L i j, P e.1 e.2 = true ∧ (x0 ≤ e.1 ∧ e.1 < x0 + nx) ∧ (y0 ≤ e.2 ∧ e.2 < y0 + ny)) := by
    intro L i j hi hj H e he
    unfold pL at he
    split at he
    · rename_i hp
      rcases List.mem_append.mp he with h | h
      · exact H e h
      · rw [List.mem_singleton.mp h]
        exact ⟨hp, hi, hj⟩
    · exact H e he
  unfold fr2
  refine fr_inv (fun (L : List (Int × Int)) => ∀ e ∈ L, P e.1 e.2 = true ∧ (x0 ≤ e.1 ∧ e.1 < x0 + nx) ∧ (y0 ≤ e.2 ∧ e.2 < y0 + ny)) (fun e he => absurd he List.not_mem_nil) (fun L j j1 j2 HL => ?_)
  exact fr_inv (fun (L : List (Int × Int)) => ∀ e ∈ L, P e.1 e.2 = true ∧ (x0 ≤ e.1 ∧ e.1 < x0 + nx) ∧ (y0 ≤ e.2 ∧ e.2 < y0 + ny)) HL (fun L i i1 i2 HL => step L i j ⟨i1, i2⟩ ⟨j1, j2⟩ HL)
theorem gk_mem {L : List (Int × Int)} {i : Int} (h0 : 0 ≤ i) (hi : i < L.length) : gk L i ∈ L := by
  unfold gk
  rw [List.getD_eq_getElem?_getD, List.getElem?_eq_getElem (show i.toNat < L.length by omega)]
  exact List.getElem_mem _
theorem kL_at {w h : Int} {T : Int → Int → Int} {s x y m : Int} (hs : 0 ≤ s) (h0 : 0 ≤ m) (hm : m < (kL w h T s x y).length) : sKn w h T (gk (kL w h T s x y) m).1 (gk (kL w h T s x y) m).2 = true ∧ (x - s ≤ (gk (kL w h T s x y) m).1 ∧ (gk (kL w h T s x y) m).1 ≤ x + s) ∧ (y - s ≤ (gk (kL w h T s x y) m).2 ∧ (gk (kL w h T s x y) m).2 ≤ y + s) := by
  have hall : ∀ e ∈ kL w h T s x y, sKn w h T e.1 e.2 = true ∧ (x - s ≤ e.1 ∧ e.1 < x - s + (2 * s + 1).toNat) ∧ (y - s ≤ e.2 ∧ e.2 < y - s + (2 * s + 1).toNat) := pL_in
  have := hall _ (gk_mem h0 hm)
  exact ⟨this.1, by omega, by omega⟩
/-- the searcher's numbers of the patch -/
def rG (σ : yM) (w : Int) (T S : Int → Int → Int) (we x y : Int) (L : List (Int × Int)) : Prop := σ 123 7 = (L.length : Int) ∧ σ 123 8 = L.foldl (fun q e => q + sWt S we e.1 e.2) 0 ∧ ∀ m : Int, 0 ≤ m → m < L.length → σ 124 m = T (gk L m).1 (gk L m).2 ∧ σ 125 m = sWt S we (gk L m).1 (gk L m).2 ∧ ∀ way : Int, 0 ≤ way → way < 8 → σ 126 (way * 49 + m) = wY way ((gk L m).1 - x) ((gk L m).2 - y) * w + wX way ((gk L m).1 - x) ((gk L m).2 - y)
/-- counts in rows -/
theorem pL_len {P : Int → Int → Bool} {L : List (Int × Int)} {i j : Int} : (pL P L i j).length ≤ L.length + 1 := by
  unfold pL
  split
  · simp
  · omega
theorem len49 {s a u v : Int} (hs : 1 ≤ s ∧ s ≤ 3) (hu : 0 ≤ u ∧ u ≤ 2 * s) (hv : 0 ≤ v ∧ v ≤ 2 * s) (ha : a ≤ u * (2 * s + 1) + v) : a < 49 := by
  rcases (show s = 1 ∨ s = 2 ∨ s = 3 by omega) with rfl | rfl | rfl <;> omega
theorem B2_list {w h : Int} {T S : Int → Int → Int} {s we x y u v way : Int} : sB2 w h T S s we x y u v way = (kL w h T s x y).foldl (fun q e => (q.1 + sAp T x y e.1 e.2 u v way * sWt S we e.1 e.2, q.2 + sWt S we e.1 e.2)) (0, 0) := fr2_list (fun _ _ _ => rfl)
theorem Df_list {w h : Int} {T S : Int → Int → Int} {s we x y u v way sf le : Int} : sDf w h T S s we x y u v way sf le = (kL w h T s x y).foldl (fun q e => if le ≤ q.1 then q else (q.1 + (sAp T x y e.1 e.2 u v way - sf) * (sAp T x y e.1 e.2 u v way - sf) * sWt S we e.1 e.2, q.2 + 1)) (0, 0) := fr2_list (fun _ _ _ => rfl)
theorem foldl_snd {α : Type} {f : Int × Int → Int} {g : α → Int × Int → α} {k : α → Int} (hg : ∀ q e, k (g q e) = k q + f e) : ∀ (L : List (Int × Int)) (q : α), k (L.foldl g q) = L.foldl (fun c e => c + f e) (k q)
  | [], _ => rfl
  | e :: L, q => by
    rw [List.foldl_cons, List.foldl_cons, foldl_snd hg L, hg]
/-- steps of the ways, by the tables -/
theorem ys_X {way dx dy : Int} (h : 0 ≤ way ∧ way < 8) : ys 4 way * dx + ys 5 way * dy = wX way dx dy := by
  rcases (show way = 0 ∨ way = 1 ∨ way = 2 ∨ way = 3 ∨ way = 4 ∨ way = 5 ∨ way = 6 ∨ way = 7 by omega) with rfl | rfl | rfl | rfl | rfl | rfl | rfl | rfl <;> simp [ys, y_st, wX]
theorem ys_Y {way dx dy : Int} (h : 0 ≤ way ∧ way < 8) : ys 6 way * dx + ys 7 way * dy = wY way dx dy := by
  rcases (show way = 0 ∨ way = 1 ∨ way = 2 ∨ way = 3 ∨ way = 4 ∨ way = 5 ∨ way = 6 ∨ way = 7 by omega) with rfl | rfl | rfl | rfl | rfl | rfl | rfl | rfl <;> simp [ys, y_st, wY]
