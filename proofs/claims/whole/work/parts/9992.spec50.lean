/-! rows and the whole text on the reference's side -/
theorem rN_up {s0 s1 s2 : Int → Int} {d c t v : Int} {m : Int → Int} (hc : 0 ≤ c) (ht : 0 ≤ t) (H : ∀ j : Int, s1 j = if d ≤ j ∧ j < d + c then m (j - d) else s0 j) (e : ∀ j : Int, s2 j = if d + c ≤ j ∧ j < d + c + t then v else s1 j) : ∀ j : Int, s2 j = if d ≤ j ∧ j < d + (c + t) then rwG c m t v (j - d) else s0 j := by
  intro j
  rw [e j]
  unfold rwG
  by_cases h1 : d + c ≤ j ∧ j < d + c + t
  · rw [if_pos h1, if_pos (by omega), if_pos (by omega)]
  · rw [if_neg h1, H j]
    by_cases h2 : d ≤ j ∧ j < d + c
    · rw [if_pos h2, if_pos (by omega), if_neg (by omega)]
    · rw [if_neg h2, if_neg (by omega)]
theorem rwL_k {tb : Int → Int} {e mo : Int} {k : Nat} {q : aU} (hk : 0 < k) (h : rwC tb e q = true) : rwL tb e mo k q = rwL tb e mo (k - 1) (rwI tb e mo q) := by
  cases k with
  | zero => omega
  | succ k => exact if_pos h
def tx4 (R : aV) (tb : Int → Int) (e y p W : Int) (M : Int → Int → Int) : Prop := (e ≤ p → y < 3 → R.1 = 5 ∧ R.2.1 = e) ∧ (e ≤ p → 3 ≤ y → R = (0, -1, W, y, M)) ∧ (p < e → y = 20 → R.1 = 3 ∧ R.2.1 = p) ∧ (p < e → y < 20 → R = txR tb e (20 - y).toNat y (p + 1) W M)
theorem tx_row {R : aV} {tb : Int → Int} {e y p W : Int} {M : Int → Int → Int} {f fp p' c : Int} {m : Int → Int} (hR : R = txR tb e (20 - y).toNat y p W M) (hy : y ≤ 19) (hE : (f, fp, p', c, m) = rwE tb e y W p (-1)) : (f ≠ 0 → R.1 = f ∧ R.2.1 = fp) ∧ (f = 0 → tx4 R tb e (y + 1) p' (if y = 0 then c else W) (txM M y m)) := by
  refine ⟨fun hf => ?_, fun hf => ⟨fun h1 h2 => ?_, fun h1 h2 => ?_, fun h1 h2 => ?_, fun h1 h2 => ?_⟩⟩
  · rw [hR, txR_f rfl hy hE hf]
    exact ⟨rfl, rfl⟩
  · rw [hR, txR_e rfl hy hE hf h1, if_pos h2]
    exact ⟨rfl, rfl⟩
  · rw [hR, txR_e rfl hy hE hf h1, if_neg (by omega)]
  · rw [hR, txR_3 rfl (by omega) hE hf (by omega)]
    exact ⟨rfl, rfl⟩
  · rw [hR, txR_g rfl (by omega) hE hf (by omega)]
def tM (τ : yM) (y W : Int) (M : Int → Int → Int) : Prop := ∀ a b : Int, 0 ≤ a → a < W → 0 ≤ b → b < y → τ 168 (20 * b + a) = M a b ∧ -1 ≤ M a b ∧ M a b ≤ 255
theorem tM_up {τ σ' : yM} {y W c : Int} {M : Int → Int → Int} {m : Int → Int} (hy : 0 ≤ y) (hc : (y = 0 ∨ c = W) ∧ c ≤ 20) (N : tM τ y W M) (R : ∀ j : Int, σ' 168 j = if 20 * y ≤ j ∧ j < 20 * y + c then m (j - 20 * y) else τ 168 j) (mr : ∀ x : Int, -1 ≤ m x ∧ m x ≤ 255) : tM σ' (y + 1) (if y = 0 then c else W) (txM M y m) := by
  have hW : (if y = 0 then c else W) = c := by split <;> omega
  rw [hW]
  intro a b h1 h2 h3 h4
  rw [R]
  unfold txM
  by_cases e : b = y
  · rw [if_pos e, if_pos (by omega), show 20 * b + a - 20 * y = a by omega]
    exact ⟨rfl, mr a⟩
  · rw [if_neg e, if_neg (by omega)]
    exact N a b h1 (by omega) h3 (by omega)
theorem tM.fr {τ τ' : yM} {y W : Int} {M : Int → Int → Int} (H : tM τ y W M) (e : τ' 168 = τ 168) : tM τ' y W M := fun a b h1 h2 h3 h4 => by rw [e]; exact H a b h1 h2 h3 h4
theorem rw_cc {tb : Int → Int} {e y W p fp : Int} {f fp' p' c : Int} {m : Int → Int} (htb : ∀ j : Int, 0 ≤ tb j ∧ tb j ≤ 255) (hp : 0 ≤ p ∧ p ≤ e) (hf : -1 ≤ fp ∧ fp ≤ e) (hW : y = 0 ∨ (3 ≤ W ∧ W ≤ 20)) (hE : (f, fp', p', c, m) = rwE tb e y W p fp) (h0 : f = 0) : (y = 0 ∨ c = W) ∧ c ≤ 20 ∧ (3 ≤ (if y = 0 then c else W) ∧ (if y = 0 then c else W) ≤ 20) := by
  have hm : 0 ≤ rwMo y W ∧ rwMo y W ≤ 20 := by unfold rwMo; split <;> omega
  have hb := rwE_bd htb hp hf hm hE
  have hl := (hb.2.2.2.2.2 h0).2
  have hq := hb.2.2.2.1.2
  unfold rwLe at hl
  unfold rwMo at hq
  by_cases e : y = 0
  · rw [if_pos e] at hl hq
    rw [if_pos e]
    omega
  · rw [if_neg e] at hl hq
    rw [if_neg e]
    omega
/-- the tones taken over so far -/
def pT (τ : yM) (M : Int → Int → Int) (W y x : Int) : Prop := ∀ a b : Int, 0 ≤ a → a < W → 0 ≤ b → (b < y ∨ (b = y ∧ a < x)) → τ 158 (20 * b + a) = M a b ∧ τ 158 (400 + (20 * b + a)) = hS_ M a b ∧ τ 158 (800 + (20 * b + a)) = 0 ∧ τ 158 (1200 + (20 * b + a)) = -1 ∧ τ 158 (1600 + (20 * b + a)) = -1
theorem mkn_ap {σ : yM} {i t : Int} (hi : 0 ≤ i ∧ i < 400) : mkn σ 0 i t 158 i = t ∧ mkn σ 0 i t 158 (400 + i) = 1000 ∧ mkn σ 0 i t 158 (800 + i) = 0 ∧ mkn σ 0 i t 158 (1200 + i) = -1 ∧ mkn σ 0 i t 158 (1600 + i) = -1 := by
  unfold mkn
  refine ⟨?_, ?_, ?_, ?_, ?_⟩
  · rw [yset_o (by omega), yset_o (by omega), yset_o (by omega), yset_o (by omega), yset_e]
  · rw [yset_o (by omega), yset_o (by omega), yset_o (by omega), yset_e]
  · rw [yset_o (by omega), yset_o (by omega), yset_e]
  · rw [yset_o (by omega), yset_e]
  · rw [yset_e]
theorem mms_ap {σ : yM} {i : Int} (hi : 0 ≤ i ∧ i < 400) : mms σ 0 i 158 i = -1 ∧ mms σ 0 i 158 (400 + i) = 0 ∧ mms σ 0 i 158 (800 + i) = 0 ∧ mms σ 0 i 158 (1200 + i) = -1 ∧ mms σ 0 i 158 (1600 + i) = -1 := by
  unfold mms
  refine ⟨?_, ?_, ?_, ?_, ?_⟩
  · rw [yset_o (by omega), yset_o (by omega), yset_o (by omega), yset_o (by omega), yset_e]
  · rw [yset_o (by omega), yset_o (by omega), yset_o (by omega), yset_e]
  · rw [yset_o (by omega), yset_o (by omega), yset_e]
  · rw [yset_o (by omega), yset_e]
  · rw [yset_e]
theorem mkn_ot {σ : yM} {i t q : Int} {c : Nat} (h : q ≠ i ∧ q ≠ 400 + i ∧ q ≠ 800 + i ∧ q ≠ 1200 + i ∧ q ≠ 1600 + i) : mkn σ 0 i t c q = σ c q := by
  unfold mkn
  rw [yset_o (by omega), yset_o (by omega), yset_o (by omega), yset_o (by omega), yset_o (by omega)]
theorem mms_ot {σ : yM} {i q : Int} {c : Nat} (h : q ≠ i ∧ q ≠ 400 + i ∧ q ≠ 800 + i ∧ q ≠ 1200 + i ∧ q ≠ 1600 + i) : mms σ 0 i c q = σ c q := by
  unfold mms
  rw [yset_o (by omega), yset_o (by omega), yset_o (by omega), yset_o (by omega), yset_o (by omega)]
theorem pT_kn {τ τ' : yM} {M : Int → Int → Int} {W y x : Int} (P : pT τ M W y x) (hx : 0 ≤ x ∧ x < W) (hW : W ≤ 20) (hy : 0 ≤ y ∧ y < 20) (hm : M x y ≠ -1) (e : τ' = mkn τ 0 (20 * y + x) (M x y)) : pT τ' M W y (x + 1) := by
  intro a b h1 h2 h3 h4
  rw [e]
  by_cases q : a = x ∧ b = y
  · rw [q.1, q.2]
    have := mkn_ap (σ := τ) (i := 20 * y + x) (t := M x y) (by omega)
    unfold hS_
    rw [if_neg hm]
    exact this
  · rw [mkn_ot (by omega), mkn_ot (by omega), mkn_ot (by omega), mkn_ot (by omega), mkn_ot (by omega)]
    exact P a b h1 h2 h3 (by omega)
theorem pT_ms {τ τ' : yM} {M : Int → Int → Int} {W y x : Int} (P : pT τ M W y x) (hx : 0 ≤ x ∧ x < W) (hW : W ≤ 20) (hy : 0 ≤ y ∧ y < 20) (hm : M x y = -1) (e : τ' = mms τ 0 (20 * y + x)) : pT τ' M W y (x + 1) := by
  intro a b h1 h2 h3 h4
  rw [e]
  by_cases q : a = x ∧ b = y
  · rw [q.1, q.2]
    have := mms_ap (σ := τ) (i := 20 * y + x) (by omega)
    unfold hS_
    rw [if_pos hm, hm]
    exact this
  · rw [mms_ot (by omega), mms_ot (by omega), mms_ot (by omega), mms_ot (by omega), mms_ot (by omega)]
    exact P a b h1 h2 h3 (by omega)
theorem rX_tx {σ' : yM} {W H : Int} {M : Int → Int → Int} {κ : yM} (hW : 3 ≤ W ∧ W ≤ 20) (hH : 3 ≤ H ∧ H ≤ 20) (hM : tM κ H W M) (P : pT σ' M W H 0) (ew : σ' 161 0 = W) (eh : σ' 162 0 = H) (e0 : σ' 158 2000 = 0) (e1 : σ' 158 2001 = 0) (e2 : σ' 158 2002 = 0) : rX σ' 0 W H (txX M) := by
  refine ⟨⟨⟨by omega, fun x y h1 h2 h3 h4 => ?_⟩, ew, eh, fun x y h1 h2 h3 h4 => P x y h1 h2 h3 (by omega)⟩, e0, e1, e2, by omega, by omega, fun k c a b => by omega⟩
  have hm := hM x y h1 h2 h3 h4
  refine ⟨hm.2, by unfold hS_; split <;> omega, by show (0 : Int) ≤ 0 ∧ (0 : Int) < 2147483648; decide, Or.inl rfl, Or.inl rfl, by show (0 : Int) < 0 ↔ (0 : Int) ≤ -1; decide, by show (0 : Int) < 0 ↔ (0 : Int) ≤ -1; decide⟩
theorem mO_txf {σ σ0 σ' : yM} {w h : Int} {X : aX} {sv : Int × Int × Int × Int × Int × Int × Int} {H : List aX} {ht : Bool} {K : Int → Int → Int} {tl : Int} {tb : Int → Int} {fa fa' r1 r2 : Int} (V : mO σ σ0 (w, h, X, sv, H, ht, K, tl, tb, fa, r1, r2) 0) (e : ∀ c : Nat, c ≠ 155 → c ≠ 168 → σ' c = σ0 c) (e5 : ∀ j : Int, (j < 29 ∨ 37 < j) → σ' 155 j = σ0 155 j) (e29 : σ' 155 29 = 0) (e30 : σ' 155 30 = fa') : mO σ σ' (w, h, X, sv, H, ht, K, 0, tb, fa', r1, r2) 0 := by
  obtain ⟨h1, h2, h3⟩ := V
  obtain ⟨s, re, fo, ra, tu, we, sh⟩ := sv
  obtain ⟨v1, v2, v3, ⟨v4, v5⟩, ⟨v6, v7⟩, v8, v9, v10⟩ := h3
  exact ⟨h1.tr (fun c hc => e c (by omega) (by omega)), (e5 0 (by omega)).trans h2, v1.fr0 (e 158 (by omega) (by omega)) (by rw [e 161 (by omega) (by omega)]) (by rw [e 162 (by omega) (by omega)]), v2.fr (e 166 (by omega) (by omega)), v3.fr (e5 8 (by omega)) (e 164 (by omega) (by omega)), ⟨(e5 9 (by omega)).trans v4, fun q x y a b c d => by rw [e 165 (by omega) (by omega)]; exact v5 q x y a b c d⟩, ⟨e29, fun j a b => by omega⟩, e30, by rw [e 156 (by omega) (by omega)]; exact v9, by rw [e 156 (by omega) (by omega)]; exact v10⟩
theorem mO_txo {σ σ0 σ' : yM} {w h w' h' : Int} {X X' : aX} {sv : Int × Int × Int × Int × Int × Int × Int} {H : List aX} {ht ht' : Bool} {K : Int → Int → Int} {tl : Int} {tb : Int → Int} {fa fa' r1 r2 : Int} (V : mO σ σ0 (w, h, X, sv, H, ht, K, tl, tb, fa, r1, r2) 0) (e : ∀ c : Nat, c < 172 → c ≠ 155 → c ≠ 168 → c ≠ 158 → c ≠ 161 → c ≠ 162 → σ' c = σ0 c) (e5 : ∀ j : Int, (j < 8 ∨ (9 < j ∧ j < 29) ∨ 37 < j) → σ' 155 j = σ0 155 j) (e8 : σ' 155 8 = 0) (e9 : σ' 155 9 = bi ht') (hk : ht' = true → ht = true ∧ w' = w ∧ h' = h) (hX : rX σ' 0 w' h' X') (e29 : σ' 155 29 = 0) (e30 : σ' 155 30 = fa') : mO σ σ' (w', h', X', sv, [], ht', K, 0, tb, fa', r1, r2) 0 := by
  obtain ⟨h1, h2, h3⟩ := V
  obtain ⟨s, re, fo, ra, tu, we, sh⟩ := sv
  obtain ⟨v1, v2, v3, ⟨v4, v5⟩, ⟨v6, v7⟩, v8, v9, v10⟩ := h3
  exact ⟨h1.tr (fun c hc => e c (by omega) (by omega) (by omega) (by omega) (by omega) (by omega)), (e5 0 (by omega)).trans h2, hX, v2.fr (e 166 (by omega) (by omega) (by omega) (by omega) (by omega) (by omega)), ⟨e8, by simp, fun i Y hY => by simp at hY⟩, ⟨e9, fun q x y a b c d => by obtain ⟨k1, k2, k3⟩ := hk q; subst k2 k3; rw [e 165 (by omega) (by omega) (by omega) (by omega) (by omega) (by omega)]; exact v5 k1 x y a b c d⟩, ⟨e29, fun j a b => by omega⟩, e30, by rw [e 156 (by omega) (by omega) (by omega) (by omega) (by omega) (by omega)]; exact v9, by rw [e 156 (by omega) (by omega) (by omega) (by omega) (by omega) (by omega)]; exact v10⟩
