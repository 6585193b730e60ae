/-! the front, lined up -/
/-- of cell k only places lo to hi may have changed -/
def fk (k : Nat) (lo hi : Int) (σ σ' : yM) : Prop := ∀ (c : Nat) (j : Int), (c ≠ k ∨ j < lo ∨ hi < j) → σ' c j = σ c j
theorem fk.rf {k : Nat} {lo hi : Int} (σ : yM) : fk k lo hi σ σ := fun _ _ _ => rfl
theorem fk.tr {k : Nat} {lo hi : Int} {σ σ' σ'' : yM} (h1 : fk k lo hi σ σ') (h2 : fk k lo hi σ' σ'') : fk k lo hi σ σ'' := fun c j h => (h2 c j h).trans (h1 c j h)
theorem fk.wk {k : Nat} {lo hi lo' hi' : Int} {σ σ' : yM} (h : fk k lo hi σ σ') (h1 : lo' ≤ lo) (h2 : hi ≤ hi') : fk k lo' hi' σ σ' := fun c j q => h c j (by omega)
theorem fk.st {k : Nat} {lo hi : Int} {σ σ' : yM} (h : fk k lo hi σ σ') {j v : Int} (hj : lo ≤ j ∧ j ≤ hi) : fk k lo hi σ (yset σ' k j v) := fun c i q => by
  rw [yset_ap, if_neg (by omega)]
  exact h c i q
theorem fk.fc {k : Nat} {lo hi : Int} {σ σ' : yM} (h : fk k lo hi σ σ') : fc k k σ σ' := fun c q => funext fun j => h c j (by omega)
theorem slF_out {w h : Int} {T : Int → Int → Int} (q : Int × Int) (i j : Int) (hq : i < 1 ∨ w - 2 < i ∨ j < 1 ∨ h - 2 < j) : slF w h T q i j = q := by
  unfold slF
  rw [if_neg]
  intro hk
  simp only [slK, sKn, Bool.and_eq_true] at hk
  have h1 := sIn_iff.mp hk.1.1.1.2.1
  have h2 := sIn_iff.mp hk.1.1.2.1
  have h3 := sIn_iff.mp hk.1.2.1
  have h4 := sIn_iff.mp hk.2.1
  omega
/-- an entry of the line -/
def gk (L : List (Int × Int)) (i : Int) : Int × Int := L.getD i.toNat (0, 0)
def rF (σ : yM) (L : List (Int × Int)) : Prop := σ 120 9 = (L.length : Int) ∧ L.length ≤ 400 ∧ ∀ i : Int, 0 ≤ i → i < L.length → σ 121 i = (gk L i).1 ∧ σ 122 i = (gk L i).2
theorem gk_old {L : List (Int × Int)} {e : Int × Int} {i : Int} (h0 : 0 ≤ i) (hi : i < L.length) : gk (L ++ [e]) i = gk L i := by
  have h : i.toNat < L.length := by omega
  unfold gk
  rw [List.getD_eq_getElem?_getD, List.getD_eq_getElem?_getD, List.getElem?_append_left h]
theorem gk_new {L : List (Int × Int)} {e : Int × Int} : gk (L ++ [e]) (L.length : Int) = e := by
  unfold gk
  rw [Int.toNat_natCast, List.getD_eq_getElem?_getD, List.getElem?_append_right (Nat.le_refl _), Nat.sub_self]
  rfl
theorem rF.app {τ σ' : yM} {L : List (Int × Int)} {a r : Int} (H : rF τ L) (hl : L.length < 400) (h9 : σ' 120 9 = (L.length : Int) + 1) (h1 : ∀ j : Int, σ' 121 j = if j = (L.length : Int) then a else τ 121 j) (h2 : ∀ j : Int, σ' 122 j = if j = (L.length : Int) then r else τ 122 j) : rF σ' (L ++ [(a, r)]) := by
  have hlen : (L ++ [(a, r)]).length = L.length + 1 := by simp
  refine ⟨by rw [h9, hlen]; rfl, by omega, fun i h0 hi => ?_⟩
  rw [hlen] at hi
  rw [h1, h2]
  by_cases he : i = (L.length : Int)
  · rw [if_pos he, if_pos he, he, gk_new]
    exact ⟨rfl, rfl⟩
  · rw [if_neg he, if_neg he, gk_old h0 (by omega)]
    exact H.2.2 i h0 (by omega)
theorem rF.fc {a b : Nat} {σ σ' : yM} {L : List (Int × Int)} (H : rF σ L) (h9 : σ' 120 9 = σ 120 9) (h1 : σ' 121 = σ 121) (h2 : σ' 122 = σ 122) : rF σ' L := by
  unfold rF
  rw [h9, h1, h2]
  exact H
/-- how the line grows -/
def lnF (w h : Int) (T S : Int → Int → Int) (s ra : Int) (i : Int) : List (Int × Int) := fr (fun q i => frF w h T S s ra q (i % w) (i / w)) 0 i.toNat []
theorem lnF_up {w h : Int} {T S : Int → Int → Int} {s ra i : Int} (hi : 0 ≤ i) : lnF w h T S s ra (i + 1) = frF w h T S s ra (lnF w h T S s ra i) (i % w) (i / w) := by
  unfold lnF
  rw [fr_up _ _ _ _ hi, Int.zero_add]
theorem lnF_all {w h : Int} {T S : Int → Int → Int} {s ra : Int} (hw : 0 < w) (hh : 0 ≤ h) : lnF w h T S s ra (w * h) = sFt w h T S s ra := fr_linI _ hw hh _
theorem frF_len {w h : Int} {T S : Int → Int → Int} {s ra : Int} {q : List (Int × Int)} {x y : Int} : (frF w h T S s ra q x y).length ≤ q.length + 1 := by
  unfold frF
  split
  · simp
  · omega
theorem lnF_len {w h : Int} {T S : Int → Int → Int} {s ra i : Int} (hi : 0 ≤ i) : ((lnF w h T S s ra i).length : Int) ≤ i := by
  have h1 : (lnF w h T S s ra i).length ≤ i.toNat := fr_ix (fun m (q : List (Int × Int)) => q.length ≤ m) (by simp) (fun m q _ hq => Nat.le_trans frF_len (by omega))
  omega
/-- the foremost -/
def fmF (L : List (Int × Int)) (q i : Int) : Int := if q = -1 ∨ (gk L q).2 < (gk L i).2 then i else q
def fm (L : List (Int × Int)) : Int := fr (fmF L) 0 L.length (-1)
theorem fm_in (L : List (Int × Int)) (m : Nat) : (m = 0 ∧ fr (fmF L) 0 m (-1) = -1) ∨ (0 ≤ fr (fmF L) 0 m (-1) ∧ fr (fmF L) 0 m (-1) < m) := by
  refine fr_ix (fun m (q : Int) => (m = 0 ∧ q = -1) ∨ (0 ≤ q ∧ q < m)) (Or.inl ⟨rfl, rfl⟩) (fun m q hm hq => ?_)
  right
  show 0 ≤ fmF L q (0 + m) ∧ fmF L q (0 + m) < ((m + 1 : Nat) : Int)
  unfold fmF
  split
  · omega
  · rename_i hn
    have : q ≠ -1 := fun e => hn (Or.inl e)
    omega
theorem fm_app (L : List (Int × Int)) (e : Int × Int) : fm (L ++ [e]) = if fm L = -1 ∨ (gk L (fm L)).2 < e.2 then (L.length : Int) else fm L := by
  have h1 : ∀ m : Nat, m ≤ L.length → fr (fmF (L ++ [e])) 0 m (-1) = fr (fmF L) 0 m (-1) := by
    intro m hm
    induction m with
    | zero => rfl
    | succ m ih =>
      have h2 := fm_in L m
      rw [fr_add, fr_add, ih (by omega)]
      show fmF (L ++ [e]) (fr (fmF L) 0 m (-1)) (0 + (m : Int)) = fmF L (fr (fmF L) 0 m (-1)) (0 + (m : Int))
      generalize fr (fmF L) 0 m (-1) = z at h2 ⊢
      unfold fmF
      by_cases hq : z = -1
      · rw [if_pos (Or.inl hq), if_pos (Or.inl hq)]
      · rw [gk_old (by omega) (by omega), gk_old (by omega) (by omega)]
  have h3 := fm_in L L.length
  unfold fm
  rw [List.length_append, List.length_singleton, fr_add, h1 _ (Nat.le_refl _)]
  show fmF (L ++ [e]) (fr (fmF L) 0 L.length (-1)) (0 + (L.length : Int)) = _
  generalize fr (fmF L) 0 L.length (-1) = z at h3 ⊢
  unfold fmF
  rw [Int.zero_add, gk_new]
  by_cases hq : z = -1
  · rw [if_pos (Or.inl hq), if_pos (Or.inl hq)]
  · rw [gk_old (by omega) (by omega)]
/-- two folds side by side -/
theorem fr_two {α β : Type} (R : α → β → Prop) {f : α → Int → α} {g : β → Int → β} {a : Int} : ∀ {n : Nat} {s : α} {t : β}, R s t → (∀ (s : α) (t : β) (i : Int), a ≤ i → i < a + n → R s t → R (f s i) (g t i)) → R (fr f a n s) (fr g a n t) := by
  intro n
  induction n with
  | zero => intro s t h _; exact h
  | succ n ih =>
    intro s t h hs
    rw [fr_add, fr_add]
    have h1 := ih h (fun s t i h1 h2 => hs s t i h1 (by omega))
    have h2 := hs _ _ (a + n + (0 : Nat)) (by omega) (by omega) h1
    exact h2
/-- the foremost is NEXT -/
def fmR (w h : Int) (L : List (Int × Int)) (q : Int × Int × Int) : Prop := (fm L = -1 ∧ q = (-1, -1, -1)) ∨ (0 ≤ fm L ∧ fm L < L.length ∧ (0 ≤ q.1 ∧ q.1 < w) ∧ (0 ≤ q.2.1 ∧ q.2.1 < h) ∧ gk L (fm L) = (q.2.1 * w + q.1, q.2.2))
theorem fmR_step {w h : Int} {T S : Int → Int → Int} {s ra : Int} {L : List (Int × Int)} {q : Int × Int × Int} {x y : Int} (hk : -1 < sRk w h T S s ra x y) (x1 : 0 ≤ x) (x2 : x < w) (y1 : 0 ≤ y) (y2 : y < h) (hR : fmR w h L q) : fmR w h (frF w h T S s ra L x y) (nxF w h T S s ra q x y) := by
  unfold frF nxF
  by_cases hf : sFr w h T x y = true
  · rw [if_pos hf, if_pos hf]
    generalize sRk w h T S s ra x y = r at hk ⊢
    right
    rw [fm_app]
    rcases hR with ⟨h1, h2⟩ | ⟨h1, h2, h3, h4, h5⟩
    · rw [if_pos (Or.inl h1), h2, if_neg (show ¬ r ≤ -1 by omega), gk_new]
      exact ⟨by omega, by simp; omega, ⟨x1, x2⟩, ⟨y1, y2⟩, rfl⟩
    · rw [h5]
      by_cases hlt : q.2.2 < r
      · rw [if_pos (Or.inr hlt), if_neg (by omega), gk_new]
        exact ⟨by omega, by simp; omega, ⟨x1, x2⟩, ⟨y1, y2⟩, rfl⟩
      · rw [if_neg (by intro hh; rcases hh with hh | hh; exact absurd hh (by omega); exact hlt hh), if_pos (by omega), gk_old h1 h2]
        exact ⟨h1, by simp; omega, h3, h4, h5⟩
  · rw [if_neg hf, if_neg hf]
    exact hR
theorem fmR_all {w h : Int} {T S : Int → Int → Int} {s ra : Int} (hr : ∀ x y : Int, 0 ≤ x → x < w → 0 ≤ y → y < h → -1 < sRk w h T S s ra x y) : fmR w h (sFt w h T S s ra) (sNx w h T S s ra) := by
  unfold sFt sNx fr2
  refine fr_two (fmR w h) (Or.inl ⟨rfl, rfl⟩) (fun L q y y1 y2 hR => ?_)
  exact fr_two (fmR w h) hR (fun L q x x1 x2 hR => fmR_step (hr x y x1 (by omega) y1 (by omega)) x1 (by omega) y1 (by omega) hR)
theorem fm_nx {w h : Int} {T S : Int → Int → Int} {s ra : Int} (hr : ∀ x y : Int, 0 ≤ x → x < w → 0 ≤ y → y < h → -1 < sRk w h T S s ra x y) : (fm (sFt w h T S s ra) = -1 ∧ (sNx w h T S s ra).1 = -1) ∨ (0 ≤ fm (sFt w h T S s ra) ∧ fm (sFt w h T S s ra) < (sFt w h T S s ra).length ∧ (0 ≤ (sNx w h T S s ra).1 ∧ (sNx w h T S s ra).1 < w) ∧ (0 ≤ (sNx w h T S s ra).2.1 ∧ (sNx w h T S s ra).2.1 < h) ∧ (gk (sFt w h T S s ra) (fm (sFt w h T S s ra))).1 = (sNx w h T S s ra).2.1 * w + (sNx w h T S s ra).1) := by
  rcases fmR_all hr with ⟨h1, h2⟩ | ⟨h1, h2, h3, h4, h5⟩
  · exact Or.inl ⟨h1, by rw [h2]⟩
  · exact Or.inr ⟨h1, h2, h3, h4, by rw [h5]⟩
theorem sRk_pos {w h : Int} {T S F P O : Int → Int → Int} (A : aOk w h T S F P O) {s ra : Int} (hs : 0 ≤ s ∧ s ≤ 3) {x y : Int} (x1 : 0 ≤ x) (x2 : x < w) (y1 : 0 ≤ y) (y2 : y < h) : -1 < sRk w h T S s ra x y ∧ sRk w h T S s ra x y ≤ 513000 := by
  have h1 := sSd_bd (s := s) hs (sIn_iff.mpr ⟨x1, x2, y1, y2⟩) A.S
  have h2 := sFl_bd (s := s) (x := x) (y := y) A.T
  have h3 : 0 ≤ sSd w h S s x y * sFl w h T s x y := Int.mul_nonneg h1.1 (by omega)
  have h4 : sSd w h S s x y * sFl w h T s x y ≤ 1000 * 513 := Int.mul_le_mul h1.2 h2.2 (by omega) (by omega)
  unfold sRk
  split
  · omega
  · split <;> omega
