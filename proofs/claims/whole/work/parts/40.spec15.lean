/-! gathering the known dots -/
def fg (σ σ' : yM) : Prop := (∀ c : Nat, (c < 123 ∨ 126 < c) → σ' c = σ c) ∧ ∀ j : Int, (j < 7 ∨ 8 < j) → σ' 123 j = σ 123 j
theorem fg.rf (σ : yM) : fg σ σ := ⟨fun _ _ => rfl, fun _ _ => rfl⟩
theorem fg.f6 {σ σ' σ'' : yM} (H : fg σ σ') (e : fc 126 126 σ' σ'') : fg σ σ'' := ⟨fun k q => by rw [e k (by omega)]; exact H.1 k q, fun i q => by rw [e 123 (by omega)]; exact H.2 i q⟩
theorem fg.fc {σ σ' : yM} (H : fg σ σ') : fc 123 126 σ σ' := H.1
theorem fg.st {σ σ' : yM} (H : fg σ σ') {c : Nat} {j v : Int} (hc : 124 ≤ c ∧ c ≤ 126) : fg σ (yset σ' c j v) := ⟨fun k q => by rw [yset_n (by omega)]; exact H.1 k q, fun i q => by rw [yset_n (by omega)]; exact H.2 i q⟩
theorem fg.s7 {σ σ' : yM} (H : fg σ σ') {j v : Int} (hj : 7 ≤ j ∧ j ≤ 8) : fg σ (yset σ' 123 j v) := ⟨fun k q => by rw [yset_n (by omega)]; exact H.1 k q, fun i q => by rw [yset_ap, if_neg (by omega)]; exact H.2 i q⟩
theorem rA.fg {σ σ' : yM} {k cs : Nat} {ax ay : Int} (H : rA σ k cs ax ay) (e : fg σ σ') : rA σ' k cs ax ay := H.fr (fun j _ _ => e.2 j (by omega))
theorem rG.app {υ σ' : yM} {w : Int} {T S : Int → Int → Int} {we x y a b : Int} {L : List (Int × Int)} (H : rG υ w T S we x y L) (h7 : σ' 123 7 = (L.length : Int) + 1) (h8 : σ' 123 8 = L.foldl (fun q e => q + sWt S we e.1 e.2) 0 + sWt S we a b) (h4 : ∀ m : Int, σ' 124 m = if m = (L.length : Int) then T a b else υ 124 m) (h5 : ∀ m : Int, σ' 125 m = if m = (L.length : Int) then sWt S we a b else υ 125 m) (h6 : ∀ m way : Int, 0 ≤ m → m < L.length → 0 ≤ way → way < 8 → σ' 126 (way * 49 + m) = υ 126 (way * 49 + m)) (h6' : ∀ way : Int, 0 ≤ way → way < 8 → σ' 126 (way * 49 + (L.length : Int)) = wY way (a - x) (b - y) * w + wX way (a - x) (b - y)) : rG σ' w T S we x y (L ++ [(a, b)]) := by
  have hlen : (L ++ [(a, b)]).length = L.length + 1 := by simp
  refine ⟨by rw [h7, hlen]; rfl, by rw [h8, List.foldl_append]; rfl, fun m h0 hm => ?_⟩
  rw [hlen] at hm
  rw [h4, h5]
  by_cases he : m = (L.length : Int)
  · rw [if_pos he, if_pos he, he, gk_new]
    exact ⟨rfl, rfl, h6'⟩
  · rw [if_neg he, if_neg he, gk_old h0 (by omega)]
    obtain ⟨q1, q2, q3⟩ := H.2.2 m h0 (by omega)
    exact ⟨q1, q2, fun way w1 w2 => by rw [h6 m way h0 (by omega) w1 w2]; exact q3 way w1 w2⟩
theorem rG.nil {σ : yM} {w : Int} {T S : Int → Int → Int} {we x y : Int} (h7 : σ 123 7 = 0) (h8 : σ 123 8 = 0) : rG σ w T S we x y [] := ⟨h7, h8, fun m h0 hm => absurd hm (by simp; omega)⟩
