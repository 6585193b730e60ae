/-! what stands once both objects are made -/
def zA0 : aA := (8, 8, txX (fun _ _ => 0), (1, 20, 0, 0, 0, 0, 0), [], false, fun _ _ => 0, 0, fun _ => 0, -1, 0, 0)
theorem z0_W : aW 0 zA0 := by
  refine ⟨⟨?_, fun i h1 h2 => absurd (show i < 0 from h2) (by omega)⟩, fun Y hY => absurd hY (by simp), fun h => absurd h (by decide), by decide, fun j => (by show (0 : Int) ≤ 0 ∧ (0 : Int) ≤ 255; decide), by decide⟩
  show (0 : Int) ≤ 0
  omega
theorem z0_ok : aOk 8 8 (fun _ _ => 0) (hS_ (fun _ _ => 0)) (fun _ _ => 0) (fun _ _ => -1) (fun _ _ => -1) := aOk_new (by omega) (fun x y _ _ _ _ => by omega)
set_option maxRecDepth 100000 in
theorem m10_0 (σ : yM) : mX10 σ 0 = (fun _ => 0) := rfl
set_option maxRecDepth 100000 in
theorem m10_1 (σ : yM) : mX10 σ 1 = (fun j => if j = 5 then (-1) else 0) := rfl
set_option maxRecDepth 100000 in
theorem m10_4 (σ : yM) : mX10 σ 4 = (fun j => if j = 0 then 1 else if j = 1 then 20 else 0) := rfl
set_option maxRecDepth 100000 in
theorem m10_5 (σ : yM) : mX10 σ 5 = (fun j => if j = 0 then 8 else if j = 1 then 8 else 0) := rfl
set_option maxRecDepth 100000 in
theorem m10_6 (σ : yM) : mX10 σ 6 = (fun _ => 0) := rfl
set_option maxRecDepth 100000 in
theorem m10_7 (σ : yM) : mX10 σ 7 = (fun j => if 0 ≤ j ∧ j < ((400 : Nat) : Int) then 1000 else 0) := rfl
set_option maxRecDepth 100000 in
theorem m10_8 (σ : yM) : mX10 σ 8 = (fun _ => 0) := rfl
set_option maxRecDepth 100000 in
theorem m10_9 (σ : yM) : mX10 σ 9 = (fun j => if 0 ≤ j ∧ j < ((400 : Nat) : Int) then (-1) else 0) := rfl
set_option maxRecDepth 100000 in
theorem m10_10 (σ : yM) : mX10 σ 10 = (fun j => if 0 ≤ j ∧ j < ((400 : Nat) : Int) then (-1) else 0) := rfl
set_option maxRecDepth 100000 in
theorem m10_11 (σ : yM) : mX10 σ 11 = (fun _ => 0) := rfl
set_option maxRecDepth 100000 in
theorem m10_13 (σ : yM) : mX10 σ 13 = (fun _ => 0) := rfl
set_option maxRecDepth 100000 in
theorem m10_127 (σ : yM) : mX10 σ 127 = (fun _ => 0) := rfl
theorem z0_sq {x y : Int} (h1 : 0 ≤ x) (h2 : x < 8) (h3 : 0 ≤ y) (h4 : y < 8) : 0 ≤ y * 8 + x ∧ y * 8 + x < ((400 : Nat) : Int) := by omega
theorem z0_c {σ τ : yM} (e : ∀ c : Nat, c < 155 → τ c = mX10 σ c) : cV τ zA0 := by
  have e0 := (e 0 (by omega)).trans (m10_0 σ)
  have e1 := (e 1 (by omega)).trans (m10_1 σ)
  have e4 := (e 4 (by omega)).trans (m10_4 σ)
  have e5 := (e 5 (by omega)).trans (m10_5 σ)
  have e11 := (e 11 (by omega)).trans (m10_11 σ)
  have e13 := (e 13 (by omega)).trans (m10_13 σ)
  have e127 := (e 127 (by omega)).trans (m10_127 σ)
  refine ⟨⟨⟨z0_ok, by rw [e5]; rfl, by rw [e5]; rfl, fun x y h1 h2 h3 h4 => ?_⟩, by rw [e11], by rw [e11], by decide, by decide, fun i c h1 h2 => absurd h2 (by omega)⟩, ⟨⟨by rw [e4]; rfl, by rw [e4]; rfl, by rw [e4]; rfl, by rw [e4]; rfl, by rw [e4]; rfl, by rw [e4]; rfl, by rw [e4]; rfl⟩, by decide, by decide, by decide, by decide, by decide, by decide, by decide⟩, ⟨0, by rw [e13], by decide, by rw [e13]; rfl, by decide, fun i X h => absurd h (by simp)⟩, ⟨by rw [e0]; rfl, fun h => absurd h (by decide)⟩, ⟨by rw [e1]; rfl, fun j h1 h2 => absurd h2 (by omega)⟩, by rw [e1]; rfl, by rw [e0], by rw [e0], fun j _ _ _ => by rw [e127]⟩
  have hq := z0_sq h1 h2 h3 h4
  refine ⟨?_, ?_, ?_, ?_, ?_⟩
  · show τ 6 (y * 8 + x) = 0
    rw [e 6 (by omega), m10_6]
  · show τ 7 (y * 8 + x) = hS_ (fun _ _ => 0) x y
    rw [e 7 (by omega), m10_7]
    show (if 0 ≤ y * 8 + x ∧ y * 8 + x < ((400 : Nat) : Int) then (1000 : Int) else 0) = _
    rw [if_pos hq]
    rfl
  · show τ 8 (y * 8 + x) = 0
    rw [e 8 (by omega), m10_8]
  · show τ 9 (y * 8 + x) = cI 8 (-1)
    rw [e 9 (by omega), m10_9]
    show (if 0 ≤ y * 8 + x ∧ y * 8 + x < ((400 : Nat) : Int) then (-1 : Int) else 0) = _
    rw [if_pos hq]
    rfl
  · show τ 10 (y * 8 + x) = cI 8 (-1)
    rw [e 10 (by omega), m10_10]
    show (if 0 ≤ y * 8 + x ∧ y * 8 + x < ((400 : Nat) : Int) then (-1 : Int) else 0) = _
    rw [if_pos hq]
    rfl
set_option maxRecDepth 100000 in
theorem m11_155 (σ : yM) : mX11 σ 155 = (fun j => if j = 30 then (-1) else 0) := rfl
set_option maxRecDepth 100000 in
theorem m11_156 (σ : yM) : mX11 σ 156 = (fun _ => 0) := rfl
set_option maxRecDepth 100000 in
theorem m11_161 (σ : yM) : mX11 σ 161 = (fun j => if j = 0 then 8 else 0) := rfl
set_option maxRecDepth 100000 in
theorem m11_162 (σ : yM) : mX11 σ 162 = (fun j => if j = 0 then 8 else 0) := rfl
set_option maxRecDepth 100000 in
theorem m11_s0 (σ : yM) : mX11 σ 166 0 = 1 := rfl
set_option maxRecDepth 100000 in
theorem m11_s1 (σ : yM) : mX11 σ 166 1 = 20 := rfl
set_option maxRecDepth 100000 in
theorem m11_s2 (σ : yM) : mX11 σ 166 2 = 0 := rfl
set_option maxRecDepth 100000 in
theorem m11_s3 (σ : yM) : mX11 σ 166 3 = 0 := rfl
set_option maxRecDepth 100000 in
theorem m11_s4 (σ : yM) : mX11 σ 166 4 = 0 := rfl
set_option maxRecDepth 100000 in
theorem m11_s5 (σ : yM) : mX11 σ 166 5 = 0 := rfl
set_option maxRecDepth 100000 in
theorem m11_s6 (σ : yM) : mX11 σ 166 6 = 0 := rfl
theorem z0_m {σ τ : yM} (e : ∀ c : Nat, 155 ≤ c → c < 171 → c ≠ 158 → τ c = mX11 σ c) (hp : pT τ (fun _ _ => 0) 8 8 0) (hj : ∀ j : Int, 2000 ≤ j → τ 158 j = 0) : mV τ zA0 := by
  have e155 := (e 155 (by omega) (by omega) (by omega)).trans (m11_155 σ)
  have e156 := (e 156 (by omega) (by omega) (by omega)).trans (m11_156 σ)
  have e161 := (e 161 (by omega) (by omega) (by omega)).trans (m11_161 σ)
  have e162 := (e 162 (by omega) (by omega) (by omega)).trans (m11_162 σ)
  have e166 := e 166 (by omega) (by omega) (by omega)
  refine ⟨⟨⟨z0_ok, (by show τ 161 ((0 : Nat) : Int) = 8; rw [e161]; rfl), (by show τ 162 ((0 : Nat) : Int) = 8; rw [e162]; rfl), fun x y h1 h2 h3 h4 => hp x y h1 h2 h3 (Or.inl h4)⟩, hj 2000 (by omega), hj 2001 (by omega), hj 2002 (by omega), by decide, by decide, fun k c h1 h2 => absurd h2 (by omega)⟩, ⟨⟨by rw [e166]; rfl, by rw [e166]; rfl, by rw [e166]; rfl, by rw [e166]; rfl, by rw [e166]; rfl, by rw [e166]; rfl, by rw [e166]; rfl⟩, by decide, by decide, by decide, by decide, by decide, by decide, by decide⟩, ⟨by rw [e155]; rfl, by decide, fun i X h => absurd h (by simp)⟩, ⟨by rw [e155]; rfl, fun h => absurd h (by decide)⟩, ⟨by rw [e155]; rfl, fun j h1 h2 => absurd h2 (by omega)⟩, by rw [e155]; rfl, by rw [e156], by rw [e156]⟩
def zS0 : yS := sadd (fun _ => none) 0 (fun _ => .inr (10, [.null, .null, .null, .null, .null, .null, yI 0, .null, .null, .null, .null, .null, .null, .null, yI 0, yI 0]))
def zS1 (g : yG) : yS := sadd (sX10 g zS0) 155 (fun _ => .inr (11, [yI 0, .null, .null, .null, .null, .null, .null, .null, yI 0, yI 0, .null, yI 0, yI 0, yI 0, yI 0, yI 0, yI 0, yI 0, yI 0, yI 0, yI 0, yI 0, yI 0, yI 0, yI 0, yI 0, yI 0, .null, .null, yI 0, yI 0, yI 0, yI 0, yI 0, yI 0, yI 0, yI 0, yI 0, .null, .null, yI 0, yI 0, yI 0, yI 0]))
set_option maxRecDepth 100000 in
theorem zs_0 (g : yG) : SC g 0 = sX11 g (zS1 g) 0 := rfl
set_option maxRecDepth 100000 in
theorem zs_1 (g : yG) : SC g 1 = sX11 g (zS1 g) 1 := rfl
set_option maxRecDepth 100000 in
theorem zs_2 (g : yG) : SC g 2 = sX11 g (zS1 g) 2 := rfl
set_option maxRecDepth 100000 in
theorem zs_3 (g : yG) : SC g 3 = sX11 g (zS1 g) 3 := rfl
set_option maxRecDepth 100000 in
theorem zs_4 (g : yG) : SC g 4 = sX11 g (zS1 g) 4 := rfl
set_option maxRecDepth 100000 in
theorem zs_5 (g : yG) : SC g 5 = sX11 g (zS1 g) 5 := rfl
set_option maxRecDepth 100000 in
theorem zs_6 (g : yG) : SC g 6 = sX11 g (zS1 g) 6 := rfl
set_option maxRecDepth 100000 in
theorem zs_7 (g : yG) : SC g 7 = sX11 g (zS1 g) 7 := rfl
set_option maxRecDepth 100000 in
theorem zs_8 (g : yG) : SC g 8 = sX11 g (zS1 g) 8 := rfl
set_option maxRecDepth 100000 in
theorem zs_9 (g : yG) : SC g 9 = sX11 g (zS1 g) 9 := rfl
set_option maxRecDepth 100000 in
theorem zs_10 (g : yG) : SC g 10 = sX11 g (zS1 g) 10 := rfl
set_option maxRecDepth 100000 in
theorem zs_11 (g : yG) : SC g 11 = sX11 g (zS1 g) 11 := rfl
set_option maxRecDepth 100000 in
theorem zs_12 (g : yG) : SC g 12 = sX11 g (zS1 g) 12 := rfl
set_option maxRecDepth 100000 in
theorem zs_13 (g : yG) : SC g 13 = sX11 g (zS1 g) 13 := rfl
set_option maxRecDepth 100000 in
theorem zs_14 (g : yG) : SC g 14 = sX11 g (zS1 g) 14 := rfl
set_option maxRecDepth 100000 in
theorem zs_15 (g : yG) : SC g 15 = sX11 g (zS1 g) 15 := rfl
set_option maxRecDepth 100000 in
theorem zs_16 (g : yG) : SC g 16 = sX11 g (zS1 g) 16 := rfl
set_option maxRecDepth 100000 in
theorem zs_17 (g : yG) : SC g 17 = sX11 g (zS1 g) 17 := rfl
set_option maxRecDepth 100000 in
theorem zs_18 (g : yG) : SC g 18 = sX11 g (zS1 g) 18 := rfl
set_option maxRecDepth 100000 in
theorem zs_19 (g : yG) : SC g 19 = sX11 g (zS1 g) 19 := rfl
set_option maxRecDepth 100000 in
theorem zs_20 (g : yG) : SC g 20 = sX11 g (zS1 g) 20 := rfl
set_option maxRecDepth 100000 in
theorem zs_21 (g : yG) : SC g 21 = sX11 g (zS1 g) 21 := rfl
set_option maxRecDepth 100000 in
theorem zs_22 (g : yG) : SC g 22 = sX11 g (zS1 g) 22 := rfl
set_option maxRecDepth 100000 in
theorem zs_23 (g : yG) : SC g 23 = sX11 g (zS1 g) 23 := rfl
set_option maxRecDepth 100000 in
theorem zs_24 (g : yG) : SC g 24 = sX11 g (zS1 g) 24 := rfl
set_option maxRecDepth 100000 in
theorem zs_25 (g : yG) : SC g 25 = sX11 g (zS1 g) 25 := rfl
set_option maxRecDepth 100000 in
theorem zs_26 (g : yG) : SC g 26 = sX11 g (zS1 g) 26 := rfl
set_option maxRecDepth 100000 in
theorem zs_27 (g : yG) : SC g 27 = sX11 g (zS1 g) 27 := rfl
set_option maxRecDepth 100000 in
theorem zs_28 (g : yG) : SC g 28 = sX11 g (zS1 g) 28 := rfl
set_option maxRecDepth 100000 in
theorem zs_29 (g : yG) : SC g 29 = sX11 g (zS1 g) 29 := rfl
set_option maxRecDepth 100000 in
theorem zs_30 (g : yG) : SC g 30 = sX11 g (zS1 g) 30 := rfl
set_option maxRecDepth 100000 in
theorem zs_31 (g : yG) : SC g 31 = sX11 g (zS1 g) 31 := rfl
set_option maxRecDepth 100000 in
theorem zs_32 (g : yG) : SC g 32 = sX11 g (zS1 g) 32 := rfl
set_option maxRecDepth 100000 in
theorem zs_33 (g : yG) : SC g 33 = sX11 g (zS1 g) 33 := rfl
set_option maxRecDepth 100000 in
theorem zs_34 (g : yG) : SC g 34 = sX11 g (zS1 g) 34 := rfl
set_option maxRecDepth 100000 in
theorem zs_35 (g : yG) : SC g 35 = sX11 g (zS1 g) 35 := rfl
set_option maxRecDepth 100000 in
theorem zs_36 (g : yG) : SC g 36 = sX11 g (zS1 g) 36 := rfl
set_option maxRecDepth 100000 in
theorem zs_37 (g : yG) : SC g 37 = sX11 g (zS1 g) 37 := rfl
set_option maxRecDepth 100000 in
theorem zs_38 (g : yG) : SC g 38 = sX11 g (zS1 g) 38 := rfl
set_option maxRecDepth 100000 in
theorem zs_39 (g : yG) : SC g 39 = sX11 g (zS1 g) 39 := rfl
set_option maxRecDepth 100000 in
theorem zs_40 (g : yG) : SC g 40 = sX11 g (zS1 g) 40 := rfl
set_option maxRecDepth 100000 in
theorem zs_41 (g : yG) : SC g 41 = sX11 g (zS1 g) 41 := rfl
set_option maxRecDepth 100000 in
theorem zs_42 (g : yG) : SC g 42 = sX11 g (zS1 g) 42 := rfl
set_option maxRecDepth 100000 in
theorem zs_43 (g : yG) : SC g 43 = sX11 g (zS1 g) 43 := rfl
set_option maxRecDepth 100000 in
theorem zs_44 (g : yG) : SC g 44 = sX11 g (zS1 g) 44 := rfl
set_option maxRecDepth 100000 in
theorem zs_45 (g : yG) : SC g 45 = sX11 g (zS1 g) 45 := rfl
set_option maxRecDepth 100000 in
theorem zs_46 (g : yG) : SC g 46 = sX11 g (zS1 g) 46 := rfl
set_option maxRecDepth 100000 in
theorem zs_47 (g : yG) : SC g 47 = sX11 g (zS1 g) 47 := rfl
set_option maxRecDepth 100000 in
theorem zs_48 (g : yG) : SC g 48 = sX11 g (zS1 g) 48 := rfl
set_option maxRecDepth 100000 in
theorem zs_49 (g : yG) : SC g 49 = sX11 g (zS1 g) 49 := rfl
set_option maxRecDepth 100000 in
theorem zs_50 (g : yG) : SC g 50 = sX11 g (zS1 g) 50 := rfl
set_option maxRecDepth 100000 in
theorem zs_51 (g : yG) : SC g 51 = sX11 g (zS1 g) 51 := rfl
set_option maxRecDepth 100000 in
theorem zs_52 (g : yG) : SC g 52 = sX11 g (zS1 g) 52 := rfl
set_option maxRecDepth 100000 in
theorem zs_53 (g : yG) : SC g 53 = sX11 g (zS1 g) 53 := rfl
set_option maxRecDepth 100000 in
theorem zs_54 (g : yG) : SC g 54 = sX11 g (zS1 g) 54 := rfl
set_option maxRecDepth 100000 in
theorem zs_55 (g : yG) : SC g 55 = sX11 g (zS1 g) 55 := rfl
set_option maxRecDepth 100000 in
theorem zs_56 (g : yG) : SC g 56 = sX11 g (zS1 g) 56 := rfl
set_option maxRecDepth 100000 in
theorem zs_57 (g : yG) : SC g 57 = sX11 g (zS1 g) 57 := rfl
set_option maxRecDepth 100000 in
theorem zs_58 (g : yG) : SC g 58 = sX11 g (zS1 g) 58 := rfl
set_option maxRecDepth 100000 in
theorem zs_59 (g : yG) : SC g 59 = sX11 g (zS1 g) 59 := rfl
set_option maxRecDepth 100000 in
theorem zs_60 (g : yG) : SC g 60 = sX11 g (zS1 g) 60 := rfl
set_option maxRecDepth 100000 in
theorem zs_61 (g : yG) : SC g 61 = sX11 g (zS1 g) 61 := rfl
set_option maxRecDepth 100000 in
theorem zs_62 (g : yG) : SC g 62 = sX11 g (zS1 g) 62 := rfl
set_option maxRecDepth 100000 in
theorem zs_63 (g : yG) : SC g 63 = sX11 g (zS1 g) 63 := rfl
set_option maxRecDepth 100000 in
theorem zs_64 (g : yG) : SC g 64 = sX11 g (zS1 g) 64 := rfl
set_option maxRecDepth 100000 in
theorem zs_65 (g : yG) : SC g 65 = sX11 g (zS1 g) 65 := rfl
set_option maxRecDepth 100000 in
theorem zs_66 (g : yG) : SC g 66 = sX11 g (zS1 g) 66 := rfl
set_option maxRecDepth 100000 in
theorem zs_67 (g : yG) : SC g 67 = sX11 g (zS1 g) 67 := rfl
set_option maxRecDepth 100000 in
theorem zs_68 (g : yG) : SC g 68 = sX11 g (zS1 g) 68 := rfl
set_option maxRecDepth 100000 in
theorem zs_69 (g : yG) : SC g 69 = sX11 g (zS1 g) 69 := rfl
set_option maxRecDepth 100000 in
theorem zs_70 (g : yG) : SC g 70 = sX11 g (zS1 g) 70 := rfl
set_option maxRecDepth 100000 in
theorem zs_71 (g : yG) : SC g 71 = sX11 g (zS1 g) 71 := rfl
set_option maxRecDepth 100000 in
theorem zs_72 (g : yG) : SC g 72 = sX11 g (zS1 g) 72 := rfl
set_option maxRecDepth 100000 in
theorem zs_73 (g : yG) : SC g 73 = sX11 g (zS1 g) 73 := rfl
set_option maxRecDepth 100000 in
theorem zs_74 (g : yG) : SC g 74 = sX11 g (zS1 g) 74 := rfl
set_option maxRecDepth 100000 in
theorem zs_75 (g : yG) : SC g 75 = sX11 g (zS1 g) 75 := rfl
set_option maxRecDepth 100000 in
theorem zs_76 (g : yG) : SC g 76 = sX11 g (zS1 g) 76 := rfl
set_option maxRecDepth 100000 in
theorem zs_77 (g : yG) : SC g 77 = sX11 g (zS1 g) 77 := rfl
set_option maxRecDepth 100000 in
theorem zs_78 (g : yG) : SC g 78 = sX11 g (zS1 g) 78 := rfl
set_option maxRecDepth 100000 in
theorem zs_79 (g : yG) : SC g 79 = sX11 g (zS1 g) 79 := rfl
set_option maxRecDepth 100000 in
theorem zs_80 (g : yG) : SC g 80 = sX11 g (zS1 g) 80 := rfl
set_option maxRecDepth 100000 in
theorem zs_81 (g : yG) : SC g 81 = sX11 g (zS1 g) 81 := rfl
set_option maxRecDepth 100000 in
theorem zs_82 (g : yG) : SC g 82 = sX11 g (zS1 g) 82 := rfl
set_option maxRecDepth 100000 in
theorem zs_83 (g : yG) : SC g 83 = sX11 g (zS1 g) 83 := rfl
set_option maxRecDepth 100000 in
theorem zs_84 (g : yG) : SC g 84 = sX11 g (zS1 g) 84 := rfl
set_option maxRecDepth 100000 in
theorem zs_85 (g : yG) : SC g 85 = sX11 g (zS1 g) 85 := rfl
set_option maxRecDepth 100000 in
theorem zs_86 (g : yG) : SC g 86 = sX11 g (zS1 g) 86 := rfl
set_option maxRecDepth 100000 in
theorem zs_87 (g : yG) : SC g 87 = sX11 g (zS1 g) 87 := rfl
set_option maxRecDepth 100000 in
theorem zs_88 (g : yG) : SC g 88 = sX11 g (zS1 g) 88 := rfl
set_option maxRecDepth 100000 in
theorem zs_89 (g : yG) : SC g 89 = sX11 g (zS1 g) 89 := rfl
set_option maxRecDepth 100000 in
theorem zs_90 (g : yG) : SC g 90 = sX11 g (zS1 g) 90 := rfl
set_option maxRecDepth 100000 in
theorem zs_91 (g : yG) : SC g 91 = sX11 g (zS1 g) 91 := rfl
set_option maxRecDepth 100000 in
theorem zs_92 (g : yG) : SC g 92 = sX11 g (zS1 g) 92 := rfl
set_option maxRecDepth 100000 in
theorem zs_93 (g : yG) : SC g 93 = sX11 g (zS1 g) 93 := rfl
set_option maxRecDepth 100000 in
theorem zs_94 (g : yG) : SC g 94 = sX11 g (zS1 g) 94 := rfl
set_option maxRecDepth 100000 in
theorem zs_95 (g : yG) : SC g 95 = sX11 g (zS1 g) 95 := rfl
set_option maxRecDepth 100000 in
theorem zs_96 (g : yG) : SC g 96 = sX11 g (zS1 g) 96 := rfl
set_option maxRecDepth 100000 in
theorem zs_97 (g : yG) : SC g 97 = sX11 g (zS1 g) 97 := rfl
set_option maxRecDepth 100000 in
theorem zs_98 (g : yG) : SC g 98 = sX11 g (zS1 g) 98 := rfl
set_option maxRecDepth 100000 in
theorem zs_99 (g : yG) : SC g 99 = sX11 g (zS1 g) 99 := rfl
set_option maxRecDepth 100000 in
theorem zs_100 (g : yG) : SC g 100 = sX11 g (zS1 g) 100 := rfl
set_option maxRecDepth 100000 in
theorem zs_101 (g : yG) : SC g 101 = sX11 g (zS1 g) 101 := rfl
set_option maxRecDepth 100000 in
theorem zs_102 (g : yG) : SC g 102 = sX11 g (zS1 g) 102 := rfl
set_option maxRecDepth 100000 in
theorem zs_103 (g : yG) : SC g 103 = sX11 g (zS1 g) 103 := rfl
set_option maxRecDepth 100000 in
theorem zs_104 (g : yG) : SC g 104 = sX11 g (zS1 g) 104 := rfl
set_option maxRecDepth 100000 in
theorem zs_105 (g : yG) : SC g 105 = sX11 g (zS1 g) 105 := rfl
set_option maxRecDepth 100000 in
theorem zs_106 (g : yG) : SC g 106 = sX11 g (zS1 g) 106 := rfl
set_option maxRecDepth 100000 in
theorem zs_107 (g : yG) : SC g 107 = sX11 g (zS1 g) 107 := rfl
set_option maxRecDepth 100000 in
theorem zs_108 (g : yG) : SC g 108 = sX11 g (zS1 g) 108 := rfl
set_option maxRecDepth 100000 in
theorem zs_109 (g : yG) : SC g 109 = sX11 g (zS1 g) 109 := rfl
set_option maxRecDepth 100000 in
theorem zs_110 (g : yG) : SC g 110 = sX11 g (zS1 g) 110 := rfl
set_option maxRecDepth 100000 in
theorem zs_111 (g : yG) : SC g 111 = sX11 g (zS1 g) 111 := rfl
set_option maxRecDepth 100000 in
theorem zs_112 (g : yG) : SC g 112 = sX11 g (zS1 g) 112 := rfl
set_option maxRecDepth 100000 in
theorem zs_113 (g : yG) : SC g 113 = sX11 g (zS1 g) 113 := rfl
set_option maxRecDepth 100000 in
theorem zs_114 (g : yG) : SC g 114 = sX11 g (zS1 g) 114 := rfl
set_option maxRecDepth 100000 in
theorem zs_115 (g : yG) : SC g 115 = sX11 g (zS1 g) 115 := rfl
set_option maxRecDepth 100000 in
theorem zs_116 (g : yG) : SC g 116 = sX11 g (zS1 g) 116 := rfl
set_option maxRecDepth 100000 in
theorem zs_117 (g : yG) : SC g 117 = sX11 g (zS1 g) 117 := rfl
set_option maxRecDepth 100000 in
theorem zs_118 (g : yG) : SC g 118 = sX11 g (zS1 g) 118 := rfl
set_option maxRecDepth 100000 in
theorem zs_119 (g : yG) : SC g 119 = sX11 g (zS1 g) 119 := rfl
set_option maxRecDepth 100000 in
theorem zs_120 (g : yG) : SC g 120 = sX11 g (zS1 g) 120 := rfl
set_option maxRecDepth 100000 in
theorem zs_121 (g : yG) : SC g 121 = sX11 g (zS1 g) 121 := rfl
set_option maxRecDepth 100000 in
theorem zs_122 (g : yG) : SC g 122 = sX11 g (zS1 g) 122 := rfl
set_option maxRecDepth 100000 in
theorem zs_123 (g : yG) : SC g 123 = sX11 g (zS1 g) 123 := rfl
set_option maxRecDepth 100000 in
theorem zs_124 (g : yG) : SC g 124 = sX11 g (zS1 g) 124 := rfl
set_option maxRecDepth 100000 in
theorem zs_125 (g : yG) : SC g 125 = sX11 g (zS1 g) 125 := rfl
set_option maxRecDepth 100000 in
theorem zs_126 (g : yG) : SC g 126 = sX11 g (zS1 g) 126 := rfl
set_option maxRecDepth 100000 in
theorem zs_127 (g : yG) : SC g 127 = sX11 g (zS1 g) 127 := rfl
set_option maxRecDepth 100000 in
theorem zs_128 (g : yG) : SC g 128 = sX11 g (zS1 g) 128 := rfl
set_option maxRecDepth 100000 in
theorem zs_129 (g : yG) : SC g 129 = sX11 g (zS1 g) 129 := rfl
set_option maxRecDepth 100000 in
theorem zs_130 (g : yG) : SC g 130 = sX11 g (zS1 g) 130 := rfl
set_option maxRecDepth 100000 in
theorem zs_131 (g : yG) : SC g 131 = sX11 g (zS1 g) 131 := rfl
set_option maxRecDepth 100000 in
theorem zs_132 (g : yG) : SC g 132 = sX11 g (zS1 g) 132 := rfl
set_option maxRecDepth 100000 in
theorem zs_133 (g : yG) : SC g 133 = sX11 g (zS1 g) 133 := rfl
set_option maxRecDepth 100000 in
theorem zs_134 (g : yG) : SC g 134 = sX11 g (zS1 g) 134 := rfl
set_option maxRecDepth 100000 in
theorem zs_135 (g : yG) : SC g 135 = sX11 g (zS1 g) 135 := rfl
set_option maxRecDepth 100000 in
theorem zs_136 (g : yG) : SC g 136 = sX11 g (zS1 g) 136 := rfl
set_option maxRecDepth 100000 in
theorem zs_137 (g : yG) : SC g 137 = sX11 g (zS1 g) 137 := rfl
set_option maxRecDepth 100000 in
theorem zs_138 (g : yG) : SC g 138 = sX11 g (zS1 g) 138 := rfl
set_option maxRecDepth 100000 in
theorem zs_139 (g : yG) : SC g 139 = sX11 g (zS1 g) 139 := rfl
set_option maxRecDepth 100000 in
theorem zs_140 (g : yG) : SC g 140 = sX11 g (zS1 g) 140 := rfl
set_option maxRecDepth 100000 in
theorem zs_141 (g : yG) : SC g 141 = sX11 g (zS1 g) 141 := rfl
set_option maxRecDepth 100000 in
theorem zs_142 (g : yG) : SC g 142 = sX11 g (zS1 g) 142 := rfl
set_option maxRecDepth 100000 in
theorem zs_143 (g : yG) : SC g 143 = sX11 g (zS1 g) 143 := rfl
set_option maxRecDepth 100000 in
theorem zs_144 (g : yG) : SC g 144 = sX11 g (zS1 g) 144 := rfl
set_option maxRecDepth 100000 in
theorem zs_145 (g : yG) : SC g 145 = sX11 g (zS1 g) 145 := rfl
set_option maxRecDepth 100000 in
theorem zs_146 (g : yG) : SC g 146 = sX11 g (zS1 g) 146 := rfl
set_option maxRecDepth 100000 in
theorem zs_147 (g : yG) : SC g 147 = sX11 g (zS1 g) 147 := rfl
set_option maxRecDepth 100000 in
theorem zs_148 (g : yG) : SC g 148 = sX11 g (zS1 g) 148 := rfl
set_option maxRecDepth 100000 in
theorem zs_149 (g : yG) : SC g 149 = sX11 g (zS1 g) 149 := rfl
set_option maxRecDepth 100000 in
theorem zs_150 (g : yG) : SC g 150 = sX11 g (zS1 g) 150 := rfl
set_option maxRecDepth 100000 in
theorem zs_151 (g : yG) : SC g 151 = sX11 g (zS1 g) 151 := rfl
set_option maxRecDepth 100000 in
theorem zs_152 (g : yG) : SC g 152 = sX11 g (zS1 g) 152 := rfl
set_option maxRecDepth 100000 in
theorem zs_153 (g : yG) : SC g 153 = sX11 g (zS1 g) 153 := rfl
set_option maxRecDepth 100000 in
theorem zs_154 (g : yG) : SC g 154 = sX11 g (zS1 g) 154 := rfl
set_option maxRecDepth 100000 in
theorem zs_155 (g : yG) : SC g 155 = sX11 g (zS1 g) 155 := rfl
set_option maxRecDepth 100000 in
theorem zs_156 (g : yG) : SC g 156 = sX11 g (zS1 g) 156 := rfl
set_option maxRecDepth 100000 in
theorem zs_157 (g : yG) : SC g 157 = sX11 g (zS1 g) 157 := rfl
set_option maxRecDepth 100000 in
theorem zs_158 (g : yG) : SC g 158 = sX11 g (zS1 g) 158 := rfl
set_option maxRecDepth 100000 in
theorem zs_159 (g : yG) : SC g 159 = sX11 g (zS1 g) 159 := rfl
set_option maxRecDepth 100000 in
theorem zs_160 (g : yG) : SC g 160 = sX11 g (zS1 g) 160 := rfl
set_option maxRecDepth 100000 in
theorem zs_161 (g : yG) : SC g 161 = sX11 g (zS1 g) 161 := rfl
set_option maxRecDepth 100000 in
theorem zs_162 (g : yG) : SC g 162 = sX11 g (zS1 g) 162 := rfl
set_option maxRecDepth 100000 in
theorem zs_163 (g : yG) : SC g 163 = sX11 g (zS1 g) 163 := rfl
set_option maxRecDepth 100000 in
theorem zs_164 (g : yG) : SC g 164 = sX11 g (zS1 g) 164 := rfl
set_option maxRecDepth 100000 in
theorem zs_165 (g : yG) : SC g 165 = sX11 g (zS1 g) 165 := rfl
set_option maxRecDepth 100000 in
theorem zs_166 (g : yG) : SC g 166 = sX11 g (zS1 g) 166 := rfl
set_option maxRecDepth 100000 in
theorem zs_167 (g : yG) : SC g 167 = sX11 g (zS1 g) 167 := rfl
set_option maxRecDepth 100000 in
theorem zs_168 (g : yG) : SC g 168 = sX11 g (zS1 g) 168 := rfl
set_option maxRecDepth 100000 in
theorem zs_169 (g : yG) : SC g 169 = sX11 g (zS1 g) 169 := rfl
set_option maxRecDepth 100000 in
theorem zs_170 (g : yG) : SC g 170 = sX11 g (zS1 g) 170 := rfl
theorem zSg_0 (g : yG) (k : Nat) (h1 : 0 ≤ k) (h2 : k < 19) : SC g k = sX11 g (zS1 g) k := by
  obtain ⟨r, rfl⟩ : ∃ r, k = 0 + r := ⟨k - 0, by omega⟩
  have hr : r < 19 := by omega
  match r, hr with
  | 0, _ => exact zs_0 g
  | 1, _ => exact zs_1 g
  | 2, _ => exact zs_2 g
  | 3, _ => exact zs_3 g
  | 4, _ => exact zs_4 g
  | 5, _ => exact zs_5 g
  | 6, _ => exact zs_6 g
  | 7, _ => exact zs_7 g
  | 8, _ => exact zs_8 g
  | 9, _ => exact zs_9 g
  | 10, _ => exact zs_10 g
  | 11, _ => exact zs_11 g
  | 12, _ => exact zs_12 g
  | 13, _ => exact zs_13 g
  | 14, _ => exact zs_14 g
  | 15, _ => exact zs_15 g
  | 16, _ => exact zs_16 g
  | 17, _ => exact zs_17 g
  | 18, _ => exact zs_18 g
  | r + 19, h => exact absurd h (by omega)
theorem zSg_19 (g : yG) (k : Nat) (h1 : 19 ≤ k) (h2 : k < 38) : SC g k = sX11 g (zS1 g) k := by
  obtain ⟨r, rfl⟩ : ∃ r, k = 19 + r := ⟨k - 19, by omega⟩
  have hr : r < 19 := by omega
  match r, hr with
  | 0, _ => exact zs_19 g
  | 1, _ => exact zs_20 g
  | 2, _ => exact zs_21 g
  | 3, _ => exact zs_22 g
  | 4, _ => exact zs_23 g
  | 5, _ => exact zs_24 g
  | 6, _ => exact zs_25 g
  | 7, _ => exact zs_26 g
  | 8, _ => exact zs_27 g
  | 9, _ => exact zs_28 g
  | 10, _ => exact zs_29 g
  | 11, _ => exact zs_30 g
  | 12, _ => exact zs_31 g
  | 13, _ => exact zs_32 g
  | 14, _ => exact zs_33 g
  | 15, _ => exact zs_34 g
  | 16, _ => exact zs_35 g
  | 17, _ => exact zs_36 g
  | 18, _ => exact zs_37 g
  | r + 19, h => exact absurd h (by omega)
theorem zSg_38 (g : yG) (k : Nat) (h1 : 38 ≤ k) (h2 : k < 57) : SC g k = sX11 g (zS1 g) k := by
  obtain ⟨r, rfl⟩ : ∃ r, k = 38 + r := ⟨k - 38, by omega⟩
  have hr : r < 19 := by omega
  match r, hr with
  | 0, _ => exact zs_38 g
  | 1, _ => exact zs_39 g
  | 2, _ => exact zs_40 g
  | 3, _ => exact zs_41 g
  | 4, _ => exact zs_42 g
  | 5, _ => exact zs_43 g
  | 6, _ => exact zs_44 g
  | 7, _ => exact zs_45 g
  | 8, _ => exact zs_46 g
  | 9, _ => exact zs_47 g
  | 10, _ => exact zs_48 g
  | 11, _ => exact zs_49 g
  | 12, _ => exact zs_50 g
  | 13, _ => exact zs_51 g
  | 14, _ => exact zs_52 g
  | 15, _ => exact zs_53 g
  | 16, _ => exact zs_54 g
  | 17, _ => exact zs_55 g
  | 18, _ => exact zs_56 g
  | r + 19, h => exact absurd h (by omega)
theorem zSg_57 (g : yG) (k : Nat) (h1 : 57 ≤ k) (h2 : k < 76) : SC g k = sX11 g (zS1 g) k := by
  obtain ⟨r, rfl⟩ : ∃ r, k = 57 + r := ⟨k - 57, by omega⟩
  have hr : r < 19 := by omega
  match r, hr with
  | 0, _ => exact zs_57 g
  | 1, _ => exact zs_58 g
  | 2, _ => exact zs_59 g
  | 3, _ => exact zs_60 g
  | 4, _ => exact zs_61 g
  | 5, _ => exact zs_62 g
  | 6, _ => exact zs_63 g
  | 7, _ => exact zs_64 g
  | 8, _ => exact zs_65 g
  | 9, _ => exact zs_66 g
  | 10, _ => exact zs_67 g
  | 11, _ => exact zs_68 g
  | 12, _ => exact zs_69 g
  | 13, _ => exact zs_70 g
  | 14, _ => exact zs_71 g
  | 15, _ => exact zs_72 g
  | 16, _ => exact zs_73 g
  | 17, _ => exact zs_74 g
  | 18, _ => exact zs_75 g
  | r + 19, h => exact absurd h (by omega)
theorem zSg_76 (g : yG) (k : Nat) (h1 : 76 ≤ k) (h2 : k < 95) : SC g k = sX11 g (zS1 g) k := by
  obtain ⟨r, rfl⟩ : ∃ r, k = 76 + r := ⟨k - 76, by omega⟩
  have hr : r < 19 := by omega
  match r, hr with
  | 0, _ => exact zs_76 g
  | 1, _ => exact zs_77 g
  | 2, _ => exact zs_78 g
  | 3, _ => exact zs_79 g
  | 4, _ => exact zs_80 g
  | 5, _ => exact zs_81 g
  | 6, _ => exact zs_82 g
  | 7, _ => exact zs_83 g
  | 8, _ => exact zs_84 g
  | 9, _ => exact zs_85 g
  | 10, _ => exact zs_86 g
  | 11, _ => exact zs_87 g
  | 12, _ => exact zs_88 g
  | 13, _ => exact zs_89 g
  | 14, _ => exact zs_90 g
  | 15, _ => exact zs_91 g
  | 16, _ => exact zs_92 g
  | 17, _ => exact zs_93 g
  | 18, _ => exact zs_94 g
  | r + 19, h => exact absurd h (by omega)
theorem zSg_95 (g : yG) (k : Nat) (h1 : 95 ≤ k) (h2 : k < 114) : SC g k = sX11 g (zS1 g) k := by
  obtain ⟨r, rfl⟩ : ∃ r, k = 95 + r := ⟨k - 95, by omega⟩
  have hr : r < 19 := by omega
  match r, hr with
  | 0, _ => exact zs_95 g
  | 1, _ => exact zs_96 g
  | 2, _ => exact zs_97 g
  | 3, _ => exact zs_98 g
  | 4, _ => exact zs_99 g
  | 5, _ => exact zs_100 g
  | 6, _ => exact zs_101 g
  | 7, _ => exact zs_102 g
  | 8, _ => exact zs_103 g
  | 9, _ => exact zs_104 g
  | 10, _ => exact zs_105 g
  | 11, _ => exact zs_106 g
  | 12, _ => exact zs_107 g
  | 13, _ => exact zs_108 g
  | 14, _ => exact zs_109 g
  | 15, _ => exact zs_110 g
  | 16, _ => exact zs_111 g
  | 17, _ => exact zs_112 g
  | 18, _ => exact zs_113 g
  | r + 19, h => exact absurd h (by omega)
theorem zSg_114 (g : yG) (k : Nat) (h1 : 114 ≤ k) (h2 : k < 133) : SC g k = sX11 g (zS1 g) k := by
  obtain ⟨r, rfl⟩ : ∃ r, k = 114 + r := ⟨k - 114, by omega⟩
  have hr : r < 19 := by omega
  match r, hr with
  | 0, _ => exact zs_114 g
  | 1, _ => exact zs_115 g
  | 2, _ => exact zs_116 g
  | 3, _ => exact zs_117 g
  | 4, _ => exact zs_118 g
  | 5, _ => exact zs_119 g
  | 6, _ => exact zs_120 g
  | 7, _ => exact zs_121 g
  | 8, _ => exact zs_122 g
  | 9, _ => exact zs_123 g
  | 10, _ => exact zs_124 g
  | 11, _ => exact zs_125 g
  | 12, _ => exact zs_126 g
  | 13, _ => exact zs_127 g
  | 14, _ => exact zs_128 g
  | 15, _ => exact zs_129 g
  | 16, _ => exact zs_130 g
  | 17, _ => exact zs_131 g
  | 18, _ => exact zs_132 g
  | r + 19, h => exact absurd h (by omega)
theorem zSg_133 (g : yG) (k : Nat) (h1 : 133 ≤ k) (h2 : k < 152) : SC g k = sX11 g (zS1 g) k := by
  obtain ⟨r, rfl⟩ : ∃ r, k = 133 + r := ⟨k - 133, by omega⟩
  have hr : r < 19 := by omega
  match r, hr with
  | 0, _ => exact zs_133 g
  | 1, _ => exact zs_134 g
  | 2, _ => exact zs_135 g
  | 3, _ => exact zs_136 g
  | 4, _ => exact zs_137 g
  | 5, _ => exact zs_138 g
  | 6, _ => exact zs_139 g
  | 7, _ => exact zs_140 g
  | 8, _ => exact zs_141 g
  | 9, _ => exact zs_142 g
  | 10, _ => exact zs_143 g
  | 11, _ => exact zs_144 g
  | 12, _ => exact zs_145 g
  | 13, _ => exact zs_146 g
  | 14, _ => exact zs_147 g
  | 15, _ => exact zs_148 g
  | 16, _ => exact zs_149 g
  | 17, _ => exact zs_150 g
  | 18, _ => exact zs_151 g
  | r + 19, h => exact absurd h (by omega)
theorem zSg_152 (g : yG) (k : Nat) (h1 : 152 ≤ k) (h2 : k < 171) : SC g k = sX11 g (zS1 g) k := by
  obtain ⟨r, rfl⟩ : ∃ r, k = 152 + r := ⟨k - 152, by omega⟩
  have hr : r < 19 := by omega
  match r, hr with
  | 0, _ => exact zs_152 g
  | 1, _ => exact zs_153 g
  | 2, _ => exact zs_154 g
  | 3, _ => exact zs_155 g
  | 4, _ => exact zs_156 g
  | 5, _ => exact zs_157 g
  | 6, _ => exact zs_158 g
  | 7, _ => exact zs_159 g
  | 8, _ => exact zs_160 g
  | 9, _ => exact zs_161 g
  | 10, _ => exact zs_162 g
  | 11, _ => exact zs_163 g
  | 12, _ => exact zs_164 g
  | 13, _ => exact zs_165 g
  | 14, _ => exact zs_166 g
  | 15, _ => exact zs_167 g
  | 16, _ => exact zs_168 g
  | 17, _ => exact zs_169 g
  | 18, _ => exact zs_170 g
  | r + 19, h => exact absurd h (by omega)
theorem zS_all (g : yG) (k : Nat) (h : k < 171) : SC g k = sX11 g (zS1 g) k := by
  rcases Nat.lt_or_ge k 19 with z | z
  · exact zSg_0 g k (by omega) z
  rcases Nat.lt_or_ge k 38 with z | z
  · exact zSg_19 g k (by omega) z
  rcases Nat.lt_or_ge k 57 with z | z
  · exact zSg_38 g k (by omega) z
  rcases Nat.lt_or_ge k 76 with z | z
  · exact zSg_57 g k (by omega) z
  rcases Nat.lt_or_ge k 95 with z | z
  · exact zSg_76 g k (by omega) z
  rcases Nat.lt_or_ge k 114 with z | z
  · exact zSg_95 g k (by omega) z
  rcases Nat.lt_or_ge k 133 with z | z
  · exact zSg_114 g k (by omega) z
  rcases Nat.lt_or_ge k 152 with z | z
  · exact zSg_133 g k (by omega) z
  rcases Nat.lt_or_ge k 171 with z | z
  · exact zSg_152 g k (by omega) z
  exact absurd h (by omega)
