/-! the world's layout, and small words -/
def bi : Bool → Int
  | true => 1
  | false => 0
theorem bi_0 {b : Bool} : bi b = 0 ↔ b = false := by cases b <;> simp [bi]
theorem bi_n0 {b : Bool} : ¬ (bi b = 0) ↔ b = true := by cases b <;> simp [bi]
theorem bi_nn0 {b : Bool} : ¬ (bi b ≠ 0) ↔ b = false := by cases b <;> simp [bi]
theorem bi_01 {b : Bool} : bi b = 0 ∨ bi b = 1 := by cases b <;> simp [bi]
theorem bi_r {b : Bool} : -2147483648 ≤ bi b ∧ bi b < 2147483648 := by cases b <;> decide
theorem bi_t {b : Bool} : (if bi b = 0 then (0 : Int) else 1) = bi b := by cases b <;> rfl
def rmL (d : Nat) : Room := { frames := d, cells := 0, slots := 0, locals := 40 * d }
def rmA (d mc ms : Nat) : Room := { frames := d, cells := mc, slots := ms, locals := 40 * d }
theorem y_ps {α : Type} {a b : α} (h : a = b) : a = b := h
def kPic (g : yG) (k : Nat) : (Int → Int) → va_E := fun f => .inr (4, [yI (f 0), yI (f 1), yR g (k + 1), yR g (k + 2), yR g (k + 3), yR g (k + 4), yR g (k + 5)])
def kJou (g : yG) (k : Nat) : (Int → Int) → va_E := fun f => .inr (2, [yI (f 0), yJ (f 1), yR g (k + 1)])
def kSet : (Int → Int) → va_E := fun f => .inr (7, [yI (f 0), yI (f 1), yI (f 2), yI (f 3), yI (f 4), yI (f 5), yI (f 6)])
def kTap (g : yG) : (Int → Int) → va_E := fun f => .inr (9, [yR g 2, yI (f 1), yR g 3, yI (f 3), yI (f 4), yI (f 5), yI (f 6), yI (f 7), yI (f 8), yI (f 9)])
def kHis (g : yG) : (Int → Int) → va_E := fun f => .inr (1, [yR g 14, yI (f 1), yI (f 2)])
def kRng (g : yG) : (Int → Int) → va_E := fun _ => .inl (g.2.2.1 3, 11, .inr (.inr (.inr (.inr (fun j => some (g.1 + (15 + 9 * j)))))))
def kSnp (g : yG) (k : Nat) : (Int → Int) → va_E := fun _ => .inr (8, [yR g (k + 1), yR g (k + 7)])
def kRan (g : yG) : (Int → Int) → va_E := fun f => .inr (5, [yI (f 0), yI (f 1), yI (f 2), yI (f 3), yI (f 4), yI (f 5), yI (f 6), yR g 121, yR g 122, yI (f 9)])
def kSea (g : yG) : (Int → Int) → va_E := fun f => .inr (6, [yR g (f 0).toNat, yR g (f 1).toNat, yI (f 2), yI (f 3), yR g 124, yR g 125, yR g 126, yI (f 7), yI (f 8), yR g 127, yI (f 10), yJ (f 11), yI (f 12), yI (f 13), yI (f 14), yI (f 15), yI (f 16), yI (f 17), yI (f 18), yI (f 19)])
def kPar (g : yG) : (Int → Int) → va_E := fun f => .inr (3, [yR g 129, yR g 130, yI (f 2)])
def kFil (g : yG) : (Int → Int) → va_E := fun _ => .inr (0, [yR g 120, yR g 123, yR g 132, yR g 138, yR g 144])
def kHol (g : yG) : (Int → Int) → va_E := fun f => .inr (10, [yR g 1, yR g 4, yR g 5, yR g 11, yR g 13, yR g 114, yI (f 6), yR g 120, yR g 123, yR g 128, yR g 131, yR g 146, yR g 147, yR g 153, yI (f 14), yI (f 15)])
def kMod (g : yG) : (Int → Int) → va_E := fun f => .inr (11, [yI (f 0), yR g 156, yR g 157, yR g 161, yR g 162, yR g 163, yR g 164, yR g 165, yI (f 8), yI (f 9), yR g 166, yI (f 11), yI (f 12), yI (f 13), yI (f 14), yI (f 15), yI (f 16), yI (f 17), yI (f 18), yI (f 19), yI (f 20), yI (f 21), yI (f 22), yI (f 23), yI (f 24), yI (f 25), yI (f 26), yR g 167, yR g 168, yI (f 29), yI (f 30), yI (f 31), yI (f 32), yI (f 33), yI (f 34), yI (f 35), yI (f 36), yI (f 37), yR g 169, yR g 170, yI (f 40), yI (f 41), yI (f 42), yI (f 43)])
def kLay (g : yG) : (Int → Int) → va_E := fun _ => .inl (g.2.2.1 4, 3, .inr (.inr (.inr (.inr (fun j => some (g.1 + (158 + j)))))))
def scL (g : yG) : List ((Int → Int) → va_E) := [kHol g, kTap g, kI g 300, kI g 400, kSet, kPic g 5, kI g 400, kI g 400, kI g 400, kI g 400, kI g 400, kJou g 11, kI g 270, kHis g, kRng g, kSnp g 15, kPic g 16, kI g 400, kI g 400, kI g 400, kI g 400, kI g 400, kJou g 22, kI g 270, kSnp g 24, kPic g 25, kI g 400, kI g 400, kI g 400, kI g 400, kI g 400, kJou g 31, kI g 270, kSnp g 33, kPic g 34, kI g 400, kI g 400, kI g 400, kI g 400, kI g 400, kJou g 40, kI g 270, kSnp g 42, kPic g 43, kI g 400, kI g 400, kI g 400, kI g 400, kI g 400, kJou g 49, kI g 270, kSnp g 51, kPic g 52, kI g 400, kI g 400, kI g 400, kI g 400, kI g 400, kJou g 58, kI g 270, kSnp g 60, kPic g 61, kI g 400, kI g 400, kI g 400, kI g 400, kI g 400, kJou g 67, kI g 270, kSnp g 69, kPic g 70, kI g 400, kI g 400, kI g 400, kI g 400, kI g 400, kJou g 76, kI g 270, kSnp g 78, kPic g 79, kI g 400, kI g 400, kI g 400, kI g 400, kI g 400, kJou g 85, kI g 270, kSnp g 87, kPic g 88, kI g 400, kI g 400, kI g 400, kI g 400, kI g 400, kJou g 94, kI g 270, kSnp g 96, kPic g 97, kI g 400, kI g 400, kI g 400, kI g 400, kI g 400, kJou g 103, kI g 270, kSnp g 105, kPic g 106, kI g 400, kI g 400, kI g 400, kI g 400, kI g 400, kJou g 112, kI g 270, kPic g 114, kI g 400, kI g 400, kI g 400, kI g 400, kI g 400, kRan g, kI g 400, kI g 400, kSea g, kI g 49, kI g 49, kI g 392, kI g 441, kPar g, kI g 400, kI g 400, kFil g, kPic g 132, kI g 400, kI g 400, kI g 400, kI g 400, kI g 400, kPic g 138, kI g 400, kI g 400, kI g 400, kI g 400, kI g 400, kJou g 144, kI g 270, kSet, kPic g 147, kI g 400, kI g 400, kI g 400, kI g 400, kI g 400, kJou g 153, kI g 270, kMod g, kI g 2, kLay g, kI g 2273, kI g 2273, kI g 2273, kI g 3, kI g 3, kI g 2273, kI g 22730, kI g 400, kI g 7, kB g 300, kI g 400, kI g 400, kI g 400, kJ g 1]
def SC (g : yG) : yS := fun k => (scL g)[k]?
/-- the cells from k on are a picture -/
def isPic (k : Nat) : Prop := k + 5 < 172 ∧ ∀ g : yG, SC g k = some (kPic g k) ∧ SC g (k + 1) = some (kI g 400) ∧ SC g (k + 2) = some (kI g 400) ∧ SC g (k + 3) = some (kI g 400) ∧ SC g (k + 4) = some (kI g 400) ∧ SC g (k + 5) = some (kI g 400)
def isJou (k : Nat) : Prop := k + 1 < 172 ∧ ∀ g : yG, SC g k = some (kJou g k) ∧ SC g (k + 1) = some (kI g 270)
def isSet (k : Nat) : Prop := k < 172 ∧ ∀ g : yG, SC g k = some kSet
theorem pic_5 : isPic 5 := ⟨by decide, fun _ => ⟨rfl, rfl, rfl, rfl, rfl, rfl⟩⟩
theorem pic_114 : isPic 114 := ⟨by decide, fun _ => ⟨rfl, rfl, rfl, rfl, rfl, rfl⟩⟩
theorem pic_132 : isPic 132 := ⟨by decide, fun _ => ⟨rfl, rfl, rfl, rfl, rfl, rfl⟩⟩
theorem pic_138 : isPic 138 := ⟨by decide, fun _ => ⟨rfl, rfl, rfl, rfl, rfl, rfl⟩⟩
theorem pic_147 : isPic 147 := ⟨by decide, fun _ => ⟨rfl, rfl, rfl, rfl, rfl, rfl⟩⟩
theorem pic_16 : isPic 16 := ⟨by decide, fun _ => ⟨rfl, rfl, rfl, rfl, rfl, rfl⟩⟩
theorem pic_25 : isPic 25 := ⟨by decide, fun _ => ⟨rfl, rfl, rfl, rfl, rfl, rfl⟩⟩
theorem pic_34 : isPic 34 := ⟨by decide, fun _ => ⟨rfl, rfl, rfl, rfl, rfl, rfl⟩⟩
theorem pic_43 : isPic 43 := ⟨by decide, fun _ => ⟨rfl, rfl, rfl, rfl, rfl, rfl⟩⟩
theorem pic_52 : isPic 52 := ⟨by decide, fun _ => ⟨rfl, rfl, rfl, rfl, rfl, rfl⟩⟩
theorem pic_61 : isPic 61 := ⟨by decide, fun _ => ⟨rfl, rfl, rfl, rfl, rfl, rfl⟩⟩
theorem pic_70 : isPic 70 := ⟨by decide, fun _ => ⟨rfl, rfl, rfl, rfl, rfl, rfl⟩⟩
theorem pic_79 : isPic 79 := ⟨by decide, fun _ => ⟨rfl, rfl, rfl, rfl, rfl, rfl⟩⟩
theorem pic_88 : isPic 88 := ⟨by decide, fun _ => ⟨rfl, rfl, rfl, rfl, rfl, rfl⟩⟩
theorem pic_97 : isPic 97 := ⟨by decide, fun _ => ⟨rfl, rfl, rfl, rfl, rfl, rfl⟩⟩
theorem pic_106 : isPic 106 := ⟨by decide, fun _ => ⟨rfl, rfl, rfl, rfl, rfl, rfl⟩⟩
theorem jou_11 : isJou 11 := ⟨by decide, fun _ => ⟨rfl, rfl⟩⟩
theorem jou_144 : isJou 144 := ⟨by decide, fun _ => ⟨rfl, rfl⟩⟩
theorem jou_153 : isJou 153 := ⟨by decide, fun _ => ⟨rfl, rfl⟩⟩
theorem jou_22 : isJou 22 := ⟨by decide, fun _ => ⟨rfl, rfl⟩⟩
theorem jou_31 : isJou 31 := ⟨by decide, fun _ => ⟨rfl, rfl⟩⟩
theorem jou_40 : isJou 40 := ⟨by decide, fun _ => ⟨rfl, rfl⟩⟩
theorem jou_49 : isJou 49 := ⟨by decide, fun _ => ⟨rfl, rfl⟩⟩
theorem jou_58 : isJou 58 := ⟨by decide, fun _ => ⟨rfl, rfl⟩⟩
theorem jou_67 : isJou 67 := ⟨by decide, fun _ => ⟨rfl, rfl⟩⟩
theorem jou_76 : isJou 76 := ⟨by decide, fun _ => ⟨rfl, rfl⟩⟩
theorem jou_85 : isJou 85 := ⟨by decide, fun _ => ⟨rfl, rfl⟩⟩
theorem jou_94 : isJou 94 := ⟨by decide, fun _ => ⟨rfl, rfl⟩⟩
theorem jou_103 : isJou 103 := ⟨by decide, fun _ => ⟨rfl, rfl⟩⟩
theorem jou_112 : isJou 112 := ⟨by decide, fun _ => ⟨rfl, rfl⟩⟩
theorem set_4 : isSet 4 := ⟨by decide, fun _ => rfl⟩
theorem set_146 : isSet 146 := ⟨by decide, fun _ => rfl⟩
section YT
variable {x : yC} {l : Launch} {g : yG} {nL : Nat} {cc : ByteArray} {own : String} {ret : Option FieldType} {rm : Room} {Q : State → Prop} {sch : yS} {n : Nat} {σ : yM} {cells slots pc : Nat} {lv : List (Nat × Value)} {st : List Value}
theorem y_t_icmp_eq (hF : yF x l g nL cc own ret rm) {u v a b : Int} (h1 : decode cc pc = .ok (.if_icmp .eq 7, 3)) (h2 : decode cc (pc + 3) = .ok (.iconst u, 1)) (h3 : decode cc (pc + 4) = .ok (.goto 4, 3)) (h4 : decode cc (pc + 7) = .ok (.iconst v, 1)) (ha : -2147483648 ≤ a ∧ a < 2147483648) (hb2 : -2147483648 ≤ b ∧ b < 2147483648) (k : yV x g nL Q sch n σ cells slots (pc + 8) lv (yI (if a = b then v else u) :: st)) : yV x g nL Q sch n σ cells slots pc lv (yI b :: yI a :: st) := y_icmp_eq hF h1 (pc + 7) (by omega) ha hb2 (fun c => y_iconst hF h4 (by rw [if_pos c] at k; exact k)) (fun c => y_iconst hF h2 (y_goto hF h3 (pc + 8) (by omega) (by rw [if_neg (by omega)] at k; exact k)))
theorem y_t_icmp_ne (hF : yF x l g nL cc own ret rm) {u v a b : Int} (h1 : decode cc pc = .ok (.if_icmp .ne 7, 3)) (h2 : decode cc (pc + 3) = .ok (.iconst u, 1)) (h3 : decode cc (pc + 4) = .ok (.goto 4, 3)) (h4 : decode cc (pc + 7) = .ok (.iconst v, 1)) (ha : -2147483648 ≤ a ∧ a < 2147483648) (hb2 : -2147483648 ≤ b ∧ b < 2147483648) (k : yV x g nL Q sch n σ cells slots (pc + 8) lv (yI (if a ≠ b then v else u) :: st)) : yV x g nL Q sch n σ cells slots pc lv (yI b :: yI a :: st) := y_icmp_ne hF h1 (pc + 7) (by omega) ha hb2 (fun c => y_iconst hF h4 (by rw [if_pos c] at k; exact k)) (fun c => y_iconst hF h2 (y_goto hF h3 (pc + 8) (by omega) (by rw [if_neg (by omega)] at k; exact k)))
theorem y_t_icmp_lt (hF : yF x l g nL cc own ret rm) {u v a b : Int} (h1 : decode cc pc = .ok (.if_icmp .lt 7, 3)) (h2 : decode cc (pc + 3) = .ok (.iconst u, 1)) (h3 : decode cc (pc + 4) = .ok (.goto 4, 3)) (h4 : decode cc (pc + 7) = .ok (.iconst v, 1)) (ha : -2147483648 ≤ a ∧ a < 2147483648) (hb2 : -2147483648 ≤ b ∧ b < 2147483648) (k : yV x g nL Q sch n σ cells slots (pc + 8) lv (yI (if a < b then v else u) :: st)) : yV x g nL Q sch n σ cells slots pc lv (yI b :: yI a :: st) := y_icmp_lt hF h1 (pc + 7) (by omega) ha hb2 (fun c => y_iconst hF h4 (by rw [if_pos c] at k; exact k)) (fun c => y_iconst hF h2 (y_goto hF h3 (pc + 8) (by omega) (by rw [if_neg (by omega)] at k; exact k)))
theorem y_t_icmp_ge (hF : yF x l g nL cc own ret rm) {u v a b : Int} (h1 : decode cc pc = .ok (.if_icmp .ge 7, 3)) (h2 : decode cc (pc + 3) = .ok (.iconst u, 1)) (h3 : decode cc (pc + 4) = .ok (.goto 4, 3)) (h4 : decode cc (pc + 7) = .ok (.iconst v, 1)) (ha : -2147483648 ≤ a ∧ a < 2147483648) (hb2 : -2147483648 ≤ b ∧ b < 2147483648) (k : yV x g nL Q sch n σ cells slots (pc + 8) lv (yI (if b ≤ a then v else u) :: st)) : yV x g nL Q sch n σ cells slots pc lv (yI b :: yI a :: st) := y_icmp_ge hF h1 (pc + 7) (by omega) ha hb2 (fun c => y_iconst hF h4 (by rw [if_pos c] at k; exact k)) (fun c => y_iconst hF h2 (y_goto hF h3 (pc + 8) (by omega) (by rw [if_neg (by omega)] at k; exact k)))
theorem y_t_icmp_gt (hF : yF x l g nL cc own ret rm) {u v a b : Int} (h1 : decode cc pc = .ok (.if_icmp .gt 7, 3)) (h2 : decode cc (pc + 3) = .ok (.iconst u, 1)) (h3 : decode cc (pc + 4) = .ok (.goto 4, 3)) (h4 : decode cc (pc + 7) = .ok (.iconst v, 1)) (ha : -2147483648 ≤ a ∧ a < 2147483648) (hb2 : -2147483648 ≤ b ∧ b < 2147483648) (k : yV x g nL Q sch n σ cells slots (pc + 8) lv (yI (if b < a then v else u) :: st)) : yV x g nL Q sch n σ cells slots pc lv (yI b :: yI a :: st) := y_icmp_gt hF h1 (pc + 7) (by omega) ha hb2 (fun c => y_iconst hF h4 (by rw [if_pos c] at k; exact k)) (fun c => y_iconst hF h2 (y_goto hF h3 (pc + 8) (by omega) (by rw [if_neg (by omega)] at k; exact k)))
theorem y_t_icmp_le (hF : yF x l g nL cc own ret rm) {u v a b : Int} (h1 : decode cc pc = .ok (.if_icmp .le 7, 3)) (h2 : decode cc (pc + 3) = .ok (.iconst u, 1)) (h3 : decode cc (pc + 4) = .ok (.goto 4, 3)) (h4 : decode cc (pc + 7) = .ok (.iconst v, 1)) (ha : -2147483648 ≤ a ∧ a < 2147483648) (hb2 : -2147483648 ≤ b ∧ b < 2147483648) (k : yV x g nL Q sch n σ cells slots (pc + 8) lv (yI (if a ≤ b then v else u) :: st)) : yV x g nL Q sch n σ cells slots pc lv (yI b :: yI a :: st) := y_icmp_le hF h1 (pc + 7) (by omega) ha hb2 (fun c => y_iconst hF h4 (by rw [if_pos c] at k; exact k)) (fun c => y_iconst hF h2 (y_goto hF h3 (pc + 8) (by omega) (by rw [if_neg (by omega)] at k; exact k)))
theorem y_t_if_eq (hF : yF x l g nL cc own ret rm) {u v a : Int} (h1 : decode cc pc = .ok (.ifCond .eq 7, 3)) (h2 : decode cc (pc + 3) = .ok (.iconst u, 1)) (h3 : decode cc (pc + 4) = .ok (.goto 4, 3)) (h4 : decode cc (pc + 7) = .ok (.iconst v, 1)) (ha : -2147483648 ≤ a ∧ a < 2147483648) (k : yV x g nL Q sch n σ cells slots (pc + 8) lv (yI (if a = 0 then v else u) :: st)) : yV x g nL Q sch n σ cells slots pc lv (yI a :: st) := y_if_eq hF h1 (pc + 7) (by omega) ha (fun c => y_iconst hF h4 (by rw [if_pos c] at k; exact k)) (fun c => y_iconst hF h2 (y_goto hF h3 (pc + 8) (by omega) (by rw [if_neg (by omega)] at k; exact k)))
theorem y_t_if_ne (hF : yF x l g nL cc own ret rm) {u v a : Int} (h1 : decode cc pc = .ok (.ifCond .ne 7, 3)) (h2 : decode cc (pc + 3) = .ok (.iconst u, 1)) (h3 : decode cc (pc + 4) = .ok (.goto 4, 3)) (h4 : decode cc (pc + 7) = .ok (.iconst v, 1)) (ha : -2147483648 ≤ a ∧ a < 2147483648) (k : yV x g nL Q sch n σ cells slots (pc + 8) lv (yI (if a ≠ 0 then v else u) :: st)) : yV x g nL Q sch n σ cells slots pc lv (yI a :: st) := y_if_ne hF h1 (pc + 7) (by omega) ha (fun c => y_iconst hF h4 (by rw [if_pos c] at k; exact k)) (fun c => y_iconst hF h2 (y_goto hF h3 (pc + 8) (by omega) (by rw [if_neg (by omega)] at k; exact k)))
theorem y_t_if_lt (hF : yF x l g nL cc own ret rm) {u v a : Int} (h1 : decode cc pc = .ok (.ifCond .lt 7, 3)) (h2 : decode cc (pc + 3) = .ok (.iconst u, 1)) (h3 : decode cc (pc + 4) = .ok (.goto 4, 3)) (h4 : decode cc (pc + 7) = .ok (.iconst v, 1)) (ha : -2147483648 ≤ a ∧ a < 2147483648) (k : yV x g nL Q sch n σ cells slots (pc + 8) lv (yI (if a < 0 then v else u) :: st)) : yV x g nL Q sch n σ cells slots pc lv (yI a :: st) := y_if_lt hF h1 (pc + 7) (by omega) ha (fun c => y_iconst hF h4 (by rw [if_pos c] at k; exact k)) (fun c => y_iconst hF h2 (y_goto hF h3 (pc + 8) (by omega) (by rw [if_neg (by omega)] at k; exact k)))
theorem y_t_if_ge (hF : yF x l g nL cc own ret rm) {u v a : Int} (h1 : decode cc pc = .ok (.ifCond .ge 7, 3)) (h2 : decode cc (pc + 3) = .ok (.iconst u, 1)) (h3 : decode cc (pc + 4) = .ok (.goto 4, 3)) (h4 : decode cc (pc + 7) = .ok (.iconst v, 1)) (ha : -2147483648 ≤ a ∧ a < 2147483648) (k : yV x g nL Q sch n σ cells slots (pc + 8) lv (yI (if 0 ≤ a then v else u) :: st)) : yV x g nL Q sch n σ cells slots pc lv (yI a :: st) := y_if_ge hF h1 (pc + 7) (by omega) ha (fun c => y_iconst hF h4 (by rw [if_pos c] at k; exact k)) (fun c => y_iconst hF h2 (y_goto hF h3 (pc + 8) (by omega) (by rw [if_neg (by omega)] at k; exact k)))
theorem y_t_if_gt (hF : yF x l g nL cc own ret rm) {u v a : Int} (h1 : decode cc pc = .ok (.ifCond .gt 7, 3)) (h2 : decode cc (pc + 3) = .ok (.iconst u, 1)) (h3 : decode cc (pc + 4) = .ok (.goto 4, 3)) (h4 : decode cc (pc + 7) = .ok (.iconst v, 1)) (ha : -2147483648 ≤ a ∧ a < 2147483648) (k : yV x g nL Q sch n σ cells slots (pc + 8) lv (yI (if 0 < a then v else u) :: st)) : yV x g nL Q sch n σ cells slots pc lv (yI a :: st) := y_if_gt hF h1 (pc + 7) (by omega) ha (fun c => y_iconst hF h4 (by rw [if_pos c] at k; exact k)) (fun c => y_iconst hF h2 (y_goto hF h3 (pc + 8) (by omega) (by rw [if_neg (by omega)] at k; exact k)))
theorem y_t_if_le (hF : yF x l g nL cc own ret rm) {u v a : Int} (h1 : decode cc pc = .ok (.ifCond .le 7, 3)) (h2 : decode cc (pc + 3) = .ok (.iconst u, 1)) (h3 : decode cc (pc + 4) = .ok (.goto 4, 3)) (h4 : decode cc (pc + 7) = .ok (.iconst v, 1)) (ha : -2147483648 ≤ a ∧ a < 2147483648) (k : yV x g nL Q sch n σ cells slots (pc + 8) lv (yI (if a ≤ 0 then v else u) :: st)) : yV x g nL Q sch n σ cells slots pc lv (yI a :: st) := y_if_le hF h1 (pc + 7) (by omega) ha (fun c => y_iconst hF h4 (by rw [if_pos c] at k; exact k)) (fun c => y_iconst hF h2 (y_goto hF h3 (pc + 8) (by omega) (by rw [if_neg (by omega)] at k; exact k)))
end YT
theorem wk_598 : Cond.constantLong RX10 419 (Int64.ofInt 31) ∈ y_tb := y_in (List.mem_of_getElem? (i := 598) (by decide +kernel)) rfl
theorem wk_940 : Cond.constant RX6 175 (Int32.ofInt 2147483647) ∈ y_tb := y_in (List.mem_of_getElem? (i := 940) (by decide +kernel)) rfl
theorem wk_1071 : Cond.constant RX10 339 (Int32.ofInt 2147483647) ∈ y_tb := y_in (List.mem_of_getElem? (i := 1071) (by decide +kernel)) rfl
theorem wk_1159 : Cond.constant RX10 393 (Int32.ofInt (-1000000000)) ∈ y_tb := y_in (List.mem_of_getElem? (i := 1159) (by decide +kernel)) rfl
theorem wk_1571 : Cond.constant RX11 180 (Int32.ofInt 1000000000) ∈ y_tb := y_in (List.mem_of_getElem? (i := 1571) (by decide +kernel)) rfl
theorem wk_1719 : Cond.constant RX11 363 (Int32.ofInt (-1000000000)) ∈ y_tb := y_in (List.mem_of_getElem? (i := 1719) (by decide +kernel)) rfl
theorem wk_1752 : Cond.constantLong RX11 376 (Int64.ofInt 31) ∈ y_tb := y_in (List.mem_of_getElem? (i := 1752) (by decide +kernel)) rfl
