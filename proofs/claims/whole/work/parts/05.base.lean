/-! numbers: an int of the machine is J of an integer -/
def J (x : Int) : Int32 := Int32.ofInt x
def JL (x : Int) : Int64 := Int64.ofInt x
theorem J_add (x y : Int) : J x + J y = J (x + y) := (Int32.ofInt_add x y).symm
theorem J_sub (x y : Int) : J x - J y = J (x - y) := (Int32.ofInt_sub x y).symm
theorem J_mul (x y : Int) : J x * J y = J (x * y) := (Int32.ofInt_mul x y).symm
theorem J_t {x : Int} (h : -2147483648 ≤ x ∧ x ≤ 2147483647) : (J x).toInt = x := Int32.toInt_ofInt_of_le (by omega) (by omega)
theorem J_of (v : Int32) : v = J v.toInt := (Int32.ofInt_toInt v).symm
theorem J_rg (v : Int32) : -2147483648 ≤ v.toInt ∧ v.toInt ≤ 2147483647 := by
  have h1 := v.toInt_lt
  have h2 := v.le_toInt
  omega
theorem J_lt {x y : Int} (hx : -2147483648 ≤ x ∧ x ≤ 2147483647) (hy : -2147483648 ≤ y ∧ y ≤ 2147483647) : J x < J y ↔ x < y := by
  rw [Int32.lt_iff_toInt_lt, J_t hx, J_t hy]
theorem J_le {x y : Int} (hx : -2147483648 ≤ x ∧ x ≤ 2147483647) (hy : -2147483648 ≤ y ∧ y ≤ 2147483647) : J x ≤ J y ↔ x ≤ y := by
  rw [Int32.le_iff_toInt_le, J_t hx, J_t hy]
theorem J_eq {x y : Int} (hx : -2147483648 ≤ x ∧ x ≤ 2147483647) (hy : -2147483648 ≤ y ∧ y ≤ 2147483647) : J x = J y ↔ x = y := by
  rw [← Int32.toInt_inj, J_t hx, J_t hy]
theorem J_0 : J 0 = 0 := rfl
theorem J_cl {x : Int} {i : Nat} (hi : x = (i : Int)) (h : i < 2147483648) : (J x).toNatClampNeg = i := by
  subst hi
  rw [← Int32.toNat_toInt, J_t (by omega)]
  omega
theorem J_in {x : Int} {i n : Nat} (hi : x = (i : Int)) (h : i < n) (hn : n < 2147483648) : vp_in (J x) n := by
  subst hi
  refine vp_in_iff.mpr ?_
  rw [J_t (by omega)]
  omega
theorem J_div {x y : Int} (hx : 0 ≤ x ∧ x ≤ 2147483647) (hy : 0 < y ∧ y ≤ 2147483647) : J x / J y = J (x / y) := by
  have h0 : 0 ≤ x / y := Int.ediv_nonneg hx.1 (by omega)
  have h1 : x / y ≤ x := Int.ediv_le_self y hx.1
  apply Int32.toInt_inj.mp
  rw [Int32.toInt_div_of_ne_right _ _ (fun h => ?_), J_t (by omega), J_t (by omega), J_t (by omega), Int.tdiv_eq_ediv_of_nonneg hx.1]
  have := congrArg Int32.toInt h
  rw [J_t (by omega)] at this
  have h2 : (-1 : Int32).toInt = -1 := by decide
  omega
theorem J_rem {x y : Int} (hx : 0 ≤ x ∧ x ≤ 2147483647) (hy : 0 < y ∧ y ≤ 2147483647) : J x - J x / J y * J y = J (x % y) := by
  rw [J_div hx hy, J_mul, J_sub, Int.emod_def, Int.mul_comm]
theorem J_ne0 {y : Int} (hy : 0 < y ∧ y ≤ 2147483647) : ¬ J y = 0 := by
  intro h
  have := (J_eq (x := y) (y := 0) (by omega) (by omega)).mp h
  omega
/-- a truth as a number -/
def bI (P : Prop) [Decidable P] : Int := if P then 1 else 0
theorem bI_t {P : Prop} [Decidable P] (h : P) : bI P = 1 := if_pos h
theorem bI_f {P : Prop} [Decidable P] (h : ¬ P) : bI P = 0 := if_neg h
theorem bI_rg {P : Prop} [Decidable P] : bI P = 1 ∧ P ∨ bI P = 0 ∧ ¬ P := by
  by_cases h : P
  · exact Or.inl ⟨if_pos h, h⟩
  · exact Or.inr ⟨if_neg h, h⟩
/-! the state: blocks of integers -/
abbrev St : Type := Nat → Nat → Int
def upR (R : Nat → Int) (j : Nat) (v : Int) : Nat → Int := fun q => if q = j then v else R q
def setB (S : St) (b : Nat) (R : Nat → Int) : St := fun q => if q = b then R else S q
def up (S : St) (b j : Nat) (v : Int) : St := setB S b (upR (S b) j v)
theorem setB_at (S : St) (b : Nat) (R : Nat → Int) : setB S b R b = R := if_pos rfl
theorem setB_ne (S : St) {b c : Nat} (R : Nat → Int) (h : c ≠ b) : setB S b R c = S c := if_neg h
theorem setB_setB (S : St) (b : Nat) (R R' : Nat → Int) : setB (setB S b R) b R' = setB S b R' := by
  funext q
  by_cases h : q = b <;> simp [setB, h]
theorem setB_self (S : St) (b : Nat) : setB S b (S b) = S := by
  funext q
  by_cases h : q = b <;> simp [setB, h]
theorem upR_at (R : Nat → Int) (j : Nat) (v : Int) : upR R j v j = v := if_pos rfl
theorem upR_ne (R : Nat → Int) {j q : Nat} (v : Int) (h : q ≠ j) : upR R j v q = R q := if_neg h
theorem up_at (S : St) (b j : Nat) (v : Int) : up S b j v b j = v := by simp [up, setB, upR]
theorem up_nb (S : St) {b j c : Nat} (v : Int) (h : c ≠ b) : up S b j v c = S c := by simp [up, setB, h]
theorem up_b (S : St) (b j : Nat) (v : Int) : up S b j v b = upR (S b) j v := by simp [up, setB]
theorem up_nj (S : St) {b j c i : Nat} (v : Int) (h : i ≠ j) : up S b j v c i = S c i := by
  by_cases hc : c = b <;> simp [up, setB, upR, hc, h]
theorem up_up (S : St) (b j : Nat) (v w : Int) : up (up S b j v) b j w = up S b j w := by
  funext c i
  by_cases hc : c = b <;> by_cases hi : i = j <;> simp [up, setB, upR, hc, hi]
/-! the cells -/
abbrev XT : Type := va_G × (ClassId × ClassId × ClassId × ClassId) × (Nat → Nat) × (Nat → Nat)
def bd (n : Nat) (f : Nat → Int) : Nat → Int32 := fun j => J (if j < n then f j else 0)
def bdL (n : Nat) (f : Nat → Int) : Nat → Int64 := fun j => JL (if j < n then f j else 0)
abbrev arI (X : XT) (n : Nat) (f : Nat → Int) : va_E := .inl (X.2.1.1, n, .inl (bd n f))
abbrev arL (X : XT) (n : Nat) (f : Nat → Int) : va_E := .inl (X.2.1.2.1, n, .inr (.inl (bdL n f)))
abbrev arP (X : XT) (n : Nat) (f : Nat → Nat) : va_E := .inl (X.2.1.2.2.1, n, .inr (.inr (.inr (.inr (fun j => some (f j))))))
abbrev arS (X : XT) (n : Nat) (f : Nat → Nat) : va_E := .inl (X.2.1.2.2.2, n, .inr (.inr (.inr (.inr (fun j => some (f j))))))
abbrev tyX (X : XT) : List (ClassId × FieldType) := [(X.2.1.1, .int), (X.2.1.2.1, .long), (X.2.1.2.2.1, .object RX1), (X.2.1.2.2.2, .object RX3)]
abbrev pgF (S : St) (k i : Nat) : List Value := [.int (J (S k (18 + 5 * i))), .int (J (S k (19 + 5 * i))), .int (J (S k (20 + 5 * i))), .int (J (S k (21 + 5 * i))), .int (J (S k (22 + 5 * i)))]
abbrev scF (a : Nat → Nat) (S : St) (k : Nat) : List Value := [.int (J (S k 0)), .int (J (S k 1)), .int (J (S k 2)), .int (J (S k 3)), .int (J (S k 4)), .int (J (S k 5)), .ref (a (8 + k)), .ref (a (11 + k)), .ref (a (14 + k))]
abbrev shF (a : Nat → Nat) (S : St) (i : Nat) : List Value := [.int (J (S 6 i)), .int (J (S 7 i)), .ref (a (21 + i))]
abbrev taF (a : Nat → Nat) (S : St) : List Value := [.int (J (S 5 0)), .int (J (S 5 1)), .int (J (S 5 2)), .int (J (S 5 3)), .int (J (S 5 4)), .ref (a 7)]
abbrev inF (a : Nat → Nat) (S : St) : List Value := [.ref (a 1), .ref (a 2), .ref (a 3), .ref (a 4), .ref (a 5), .ref (a 6), .int (J (S 11 0))]
abbrev moF (a : Nat → Nat) (S : St) : List Value := [.ref (a 50), .ref (a 51), .ref (a 52), .ref (a 53), .ref (a 54), .int (J (S 25 0)), .int (J (S 25 1)), .int (J (S 25 2)), .int (J (S 25 3)), .long (JL (S 32 0)), .int (J (S 25 4)), .int (J (S 25 5)), .ref (a 55), .ref (a 56), .ref (a 57), .ref (a 58), .ref (a 59), .ref (a 60), .int (J (S 25 6))]
def cellAt (X : XT) (a : Nat → Nat) (S : St) (c : Nat) : va_E :=
  if c < 25 then
    (if c < 8 then (if c = 0 then .inr (4, inF a S) else if c = 1 then arI X 7 (S 3) else if c < 5 then .inr (1, scF a S (c - 2)) else if c = 5 then .inr (3, taF a S) else if c = 6 then arS X 4 (fun i => a (17 + i)) else arI X 120 (S 4))
     else if c < 17 then (if c < 11 then arI X 12 (fun j => S (c - 8) (6 + j)) else if c < 14 then arP X 8 (fun i => a (25 + 8 * (c - 11) + i)) else arI X 8 (S (c - 6)))
     else if c < 21 then .inr (2, shF a S (c - 17)) else arL X 40 (S (c - 9)))
  else if c < 49 then .inr (0, pgF S ((c - 25) / 8) ((c - 25) % 8))
  else if c < 55 then (if c = 49 then .inr (5, moF a S) else if c = 50 then arI X 58 (S 20) else if c = 51 then arI X 7 (S 21) else if c = 52 then arI X 58 (S 22) else if c = 53 then arI X 58 (S 23) else arI X 120 (S 24))
  else (if c = 55 then arI X 4 (S 26) else if c = 56 then arI X 4 (S 27) else if c = 57 then arL X 160 (S 30) else if c = 58 then arL X 40 (S 31) else if c = 59 then arI X 58 (S 28) else arI X 58 (S 29))
def ws (X : XT) (a : Nat → Nat) (S : St) : va_W := (List.range 61).map (fun c => (a c, cellAt X a S c))
theorem ws_at {X : XT} {a : Nat → Nat} {S : St} {c : Nat} {E : va_E} (h : c < 61) (e : cellAt X a S c = E) : (ws X a S)[c]? = some (a c, E) := by
  subst e
  simp [ws, List.getElem?_map, List.getElem?_range h]
theorem ce_sc (X : XT) (a : Nat → Nat) (S : St) {k : Nat} (hk : k < 3) : cellAt X a S (2 + k) = .inr (1, scF a S k) := by
  rcases (show k = 0 ∨ k = 1 ∨ k = 2 by omega) with rfl | rfl | rfl <;> rfl
theorem ce_dk (X : XT) (a : Nat → Nat) (S : St) {k : Nat} (hk : k < 3) : cellAt X a S (8 + k) = arI X 12 (fun j => S k (6 + j)) := by
  rcases (show k = 0 ∨ k = 1 ∨ k = 2 by omega) with rfl | rfl | rfl <;> rfl
theorem ce_pa (X : XT) (a : Nat → Nat) (S : St) {k : Nat} (hk : k < 3) : cellAt X a S (11 + k) = arP X 8 (fun i => a (25 + 8 * k + i)) := by
  rcases (show k = 0 ∨ k = 1 ∨ k = 2 by omega) with rfl | rfl | rfl <;> rfl
theorem ce_su (X : XT) (a : Nat → Nat) (S : St) {k : Nat} (hk : k < 3) : cellAt X a S (14 + k) = arI X 8 (S (8 + k)) := by
  rcases (show k = 0 ∨ k = 1 ∨ k = 2 by omega) with rfl | rfl | rfl <;> rfl
theorem ce_sh (X : XT) (a : Nat → Nat) (S : St) {i : Nat} (hi : i < 4) : cellAt X a S (17 + i) = .inr (2, shF a S i) := by
  rcases (show i = 0 ∨ i = 1 ∨ i = 2 ∨ i = 3 by omega) with rfl | rfl | rfl | rfl <;> rfl
theorem ce_nu (X : XT) (a : Nat → Nat) (S : St) {i : Nat} (hi : i < 4) : cellAt X a S (21 + i) = arL X 40 (S (12 + i)) := by
  rcases (show i = 0 ∨ i = 1 ∨ i = 2 ∨ i = 3 by omega) with rfl | rfl | rfl | rfl <;> rfl
theorem ce_pg (X : XT) (a : Nat → Nat) (S : St) {k i : Nat} (hk : k < 3) (hi : i < 8) : cellAt X a S (25 + 8 * k + i) = .inr (0, pgF S k i) := by
  unfold cellAt
  rw [if_neg (by omega), if_pos (by omega), show (25 + 8 * k + i - 25) / 8 = k by omega, show (25 + 8 * k + i - 25) % 8 = i by omega]
/-- which cell shows a place of the state, and how many places a block has -/
def own (b j : Nat) : Nat :=
  if b < 3 then (if j < 6 then 2 + b else if j < 18 then 8 + b else 25 + 8 * b + (j - 18) / 5)
  else if b = 3 then 1 else if b = 4 then 7 else if b = 5 then 5 else if b < 8 then 17 + j else if b < 11 then 6 + b else if b = 11 then 0 else if b < 16 then 9 + b
  else if b = 20 then 50 else if b = 21 then 51 else if b = 22 then 52 else if b = 23 then 53 else if b = 24 then 54 else if b = 25 then 49 else if b = 26 then 55 else if b = 27 then 56
  else if b = 28 then 59 else if b = 29 then 60 else if b = 30 then 57 else if b = 31 then 58 else if b = 32 then 49 else 61
def lim (b : Nat) : Nat :=
  if b < 3 then 58 else if b = 3 then 7 else if b = 4 then 120 else if b = 5 then 5 else if b < 8 then 4 else if b < 11 then 8 else if b = 11 then 1 else if b < 16 then 40
  else if b = 20 then 58 else if b = 21 then 7 else if b = 22 then 58 else if b = 23 then 58 else if b = 24 then 120 else if b = 25 then 7 else if b = 26 then 4 else if b = 27 then 4
  else if b = 28 then 58 else if b = 29 then 58 else if b = 30 then 160 else if b = 31 then 40 else if b = 32 then 1 else 0
theorem bd_cg {n : Nat} {f g : Nat → Int} (h : ∀ j, j < n → f j = g j) : bd n f = bd n g := by
  funext j
  by_cases hj : j < n
  · simp only [bd, if_pos hj, h j hj]
  · simp only [bd, if_neg hj]
theorem bdL_cg {n : Nat} {f g : Nat → Int} (h : ∀ j, j < n → f j = g j) : bdL n f = bdL n g := by
  funext j
  by_cases hj : j < n
  · simp only [bdL, if_pos hj, h j hj]
  · simp only [bdL, if_neg hj]
theorem arI_cg {X : XT} {n : Nat} {f g : Nat → Int} (h : ∀ j, j < n → f j = g j) : arI X n f = arI X n g := by
  show (Sum.inl _ : va_E) = _
  rw [bd_cg h]
theorem arL_cg {X : XT} {n : Nat} {f g : Nat → Int} (h : ∀ j, j < n → f j = g j) : arL X n f = arL X n g := by
  show (Sum.inl _ : va_E) = _
  rw [bdL_cg h]
theorem ow_sc {k j : Nat} (hk : k < 3) (hj : j < 6) : own k j = 2 + k := by unfold own; rw [if_pos hk, if_pos hj]
theorem ow_dk {k j : Nat} (hk : k < 3) (hj : j < 12) : own k (6 + j) = 8 + k := by unfold own; rw [if_pos hk, if_neg (by omega), if_pos (by omega)]
theorem ow_pg {k i j : Nat} (hk : k < 3) (h1 : 18 + 5 * i ≤ j) (h2 : j < 23 + 5 * i) : own k j = 25 + 8 * k + i := by unfold own; rw [if_pos hk, if_neg (by omega), if_neg (by omega)]; omega
theorem ow_su {k j : Nat} (hk : k < 3) : own (8 + k) j = 14 + k := by
  rcases (show k = 0 ∨ k = 1 ∨ k = 2 by omega) with rfl | rfl | rfl <;> rfl
theorem ow_nu {k j : Nat} (hk : k < 4) : own (12 + k) j = 21 + k := by
  rcases (show k = 0 ∨ k = 1 ∨ k = 2 ∨ k = 3 by omega) with rfl | rfl | rfl | rfl <;> rfl
theorem li_sc {k : Nat} (hk : k < 3) : lim k = 58 := by unfold lim; rw [if_pos hk]
theorem li_su {k : Nat} (hk : k < 3) : lim (8 + k) = 8 := by
  rcases (show k = 0 ∨ k = 1 ∨ k = 2 by omega) with rfl | rfl | rfl <;> rfl
theorem li_nu {k : Nat} (hk : k < 4) : lim (12 + k) = 40 := by
  rcases (show k = 0 ∨ k = 1 ∨ k = 2 ∨ k = 3 by omega) with rfl | rfl | rfl | rfl <;> rfl
theorem ce_cs {P : Nat → Prop} (h0 : P 0) (h1 : P 1) (h2 : ∀ k, k < 3 → P (2 + k)) (h5 : P 5) (h6 : P 6) (h7 : P 7) (h8 : ∀ k, k < 3 → P (8 + k)) (h11 : ∀ k, k < 3 → P (11 + k)) (h14 : ∀ k, k < 3 → P (14 + k)) (h17 : ∀ k, k < 4 → P (17 + k)) (h21 : ∀ k, k < 4 → P (21 + k)) (h25 : ∀ k i, k < 3 → i < 8 → P (25 + 8 * k + i)) (h49 : ∀ k, k < 12 → P (49 + k)) {c : Nat} (hc : c < 61) : P c := by
  by_cases q : c < 25
  · rcases (show c = 0 ∨ c = 1 ∨ c = 2 + (c - 2) ∧ c - 2 < 3 ∨ c = 5 ∨ c = 6 ∨ c = 7 ∨ c = 8 + (c - 8) ∧ 8 ≤ c ∧ c < 11 ∨ c = 11 + (c - 11) ∧ 11 ≤ c ∧ c < 14 ∨ c = 14 + (c - 14) ∧ 14 ≤ c ∧ c < 17 ∨ c = 17 + (c - 17) ∧ 17 ≤ c ∧ c < 21 ∨ c = 21 + (c - 21) ∧ 21 ≤ c by omega) with rfl | rfl | ⟨e, z⟩ | rfl | rfl | rfl | ⟨e, z, z2⟩ | ⟨e, z, z2⟩ | ⟨e, z, z2⟩ | ⟨e, z, z2⟩ | ⟨e, z⟩
    · exact h0
    · exact h1
    · rw [e]; exact h2 _ z
    · exact h5
    · exact h6
    · exact h7
    · rw [e]; exact h8 _ (by omega)
    · rw [e]; exact h11 _ (by omega)
    · rw [e]; exact h14 _ (by omega)
    · rw [e]; exact h17 _ (by omega)
    · rw [e]; exact h21 _ (by omega)
  · by_cases q2 : c < 49
    · have e : c = 25 + 8 * ((c - 25) / 8) + (c - 25) % 8 := by omega
      rw [e]; exact h25 _ _ (by omega) (by omega)
    · have e : c = 49 + (c - 49) := by omega
      rw [e]; exact h49 _ (by omega)
theorem lt12 {P : Nat → Prop} (h0 : P 0) (h1 : P 1) (h2 : P 2) (h3 : P 3) (h4 : P 4) (h5 : P 5) (h6 : P 6) (h7 : P 7) (h8 : P 8) (h9 : P 9) (h10 : P 10) (h11 : P 11) {k : Nat} (hk : k < 12) : P k := by
  rcases (show k = 0 ∨ k = 1 ∨ k = 2 ∨ k = 3 ∨ k = 4 ∨ k = 5 ∨ k = 6 ∨ k = 7 ∨ k = 8 ∨ k = 9 ∨ k = 10 ∨ k = 11 by omega) with rfl | rfl | rfl | rfl | rfl | rfl | rfl | rfl | rfl | rfl | rfl | rfl <;> assumption
theorem cell_cg {X : XT} {a : Nat → Nat} {S S' : St} {c : Nat} (hc : c < 61) (h : ∀ b j, j < lim b → own b j = c → S b j = S' b j) : cellAt X a S c = cellAt X a S' c := by
  revert h
  refine ce_cs (P := fun c => (∀ b j, j < lim b → own b j = c → S b j = S' b j) → cellAt X a S c = cellAt X a S' c) ?_ ?_ ?_ ?_ ?_ ?_ ?_ ?_ ?_ ?_ ?_ ?_ ?_ hc
  · intro h
    show (.inr (4, inF a S) : va_E) = .inr (4, inF a S')
    rw [inF, inF, h 11 0 (by decide) rfl]
  · intro h
    exact arI_cg (f := S 3) (g := S' 3) (fun j hj => h 3 j hj rfl)
  · intro k hk h
    rw [ce_sc X a S hk, ce_sc X a S' hk]
    have hh : ∀ j, j < 6 → S k j = S' k j := fun j hj => h k j (by rw [li_sc hk]; omega) (ow_sc hk hj)
    rw [scF, scF, hh 0 (by decide), hh 1 (by decide), hh 2 (by decide), hh 3 (by decide), hh 4 (by decide), hh 5 (by decide)]
  · intro h
    show (.inr (3, taF a S) : va_E) = .inr (3, taF a S')
    rw [taF, taF, h 5 0 (by decide) rfl, h 5 1 (by decide) rfl, h 5 2 (by decide) rfl, h 5 3 (by decide) rfl, h 5 4 (by decide) rfl]
  · intro h; rfl
  · intro h
    exact arI_cg (f := S 4) (g := S' 4) (fun j hj => h 4 j hj rfl)
  · intro k hk h
    rw [ce_dk X a S hk, ce_dk X a S' hk]
    exact arI_cg (fun j hj => h k (6 + j) (by rw [li_sc hk]; omega) (ow_dk hk hj))
  · intro k hk h
    rw [ce_pa X a S hk, ce_pa X a S' hk]
  · intro k hk h
    rw [ce_su X a S hk, ce_su X a S' hk]
    exact arI_cg (fun j hj => h _ j (by rw [li_su hk]; exact hj) (ow_su hk))
  · intro k hk h
    rw [ce_sh X a S hk, ce_sh X a S' hk]
    rw [shF, shF, h 6 k hk rfl, h 7 k hk rfl]
  · intro k hk h
    rw [ce_nu X a S hk, ce_nu X a S' hk]
    exact arL_cg (fun j hj => h _ j (by rw [li_nu hk]; exact hj) (ow_nu hk))
  · intro k i hk hi h
    rw [ce_pg X a S hk hi, ce_pg X a S' hk hi]
    have hh : ∀ j, 18 + 5 * i ≤ j → j < 23 + 5 * i → S k j = S' k j := fun j h1 h2 => h k j (by rw [li_sc hk]; omega) (ow_pg hk h1 h2)
    rw [pgF, pgF, hh (18 + 5 * i) (by omega) (by omega), hh (19 + 5 * i) (by omega) (by omega), hh (20 + 5 * i) (by omega) (by omega), hh (21 + 5 * i) (by omega) (by omega), hh (22 + 5 * i) (by omega) (by omega)]
  · intro k hk
    refine lt12 (P := fun k => (∀ b j, j < lim b → own b j = 49 + k → S b j = S' b j) → cellAt X a S (49 + k) = cellAt X a S' (49 + k)) ?_ ?_ ?_ ?_ ?_ ?_ ?_ ?_ ?_ ?_ ?_ ?_ hk
    · intro h
      show (.inr (5, moF a S) : va_E) = .inr (5, moF a S')
      rw [moF, moF, h 25 0 (by decide) rfl, h 25 1 (by decide) rfl, h 25 2 (by decide) rfl, h 25 3 (by decide) rfl, h 25 4 (by decide) rfl, h 25 5 (by decide) rfl, h 25 6 (by decide) rfl, h 32 0 (by decide) rfl]
    · intro h; exact arI_cg (f := S 20) (g := S' 20) (fun j hj => h 20 j hj rfl)
    · intro h; exact arI_cg (f := S 21) (g := S' 21) (fun j hj => h 21 j hj rfl)
    · intro h; exact arI_cg (f := S 22) (g := S' 22) (fun j hj => h 22 j hj rfl)
    · intro h; exact arI_cg (f := S 23) (g := S' 23) (fun j hj => h 23 j hj rfl)
    · intro h; exact arI_cg (f := S 24) (g := S' 24) (fun j hj => h 24 j hj rfl)
    · intro h; exact arI_cg (f := S 26) (g := S' 26) (fun j hj => h 26 j hj rfl)
    · intro h; exact arI_cg (f := S 27) (g := S' 27) (fun j hj => h 27 j hj rfl)
    · intro h; exact arL_cg (f := S 30) (g := S' 30) (fun j hj => h 30 j hj rfl)
    · intro h; exact arL_cg (f := S 31) (g := S' 31) (fun j hj => h 31 j hj rfl)
    · intro h; exact arI_cg (f := S 28) (g := S' 28) (fun j hj => h 28 j hj rfl)
    · intro h; exact arI_cg (f := S 29) (g := S' 29) (fun j hj => h 29 j hj rfl)
theorem ws_cg {X : XT} {a : Nat → Nat} {S S' : St} (h : ∀ b j, j < lim b → S b j = S' b j) : ws X a S = ws X a S' := by
  refine List.map_congr_left (fun c hc => ?_)
  rw [cell_cg (List.mem_range.mp hc) (fun b j hj _ => h b j hj)]
theorem ws_up {X : XT} {a : Nat → Nat} {S : St} {c b j : Nat} {v : Int} {E : va_E} (hc : c < 61) (ho : own b j = c) (hE : cellAt X a (up S b j v) c = E) : (ws X a S).set c (a c, E) = ws X a (up S b j v) := by
  refine List.ext_getElem? (fun i => ?_)
  rw [List.getElem?_set]
  by_cases hi : i < 61
  · by_cases e : c = i
    · subst e
      rw [if_pos rfl, if_pos (by simp [ws]; omega), ws_at hc hE]
    · rw [if_neg e, ws_at hi rfl, ws_at hi rfl, cell_cg (S := S) (S' := up S b j v) hi (fun b' j' _ h => ?_)]
      by_cases hb : b' = b
      · subst hb
        rw [up_nj S v (fun z => e (by rw [← ho, ← z, h]))]
      · rw [up_nb S v hb]
  · have h1 : (ws X a S)[i]? = none := by simp [ws]; omega
    have h2 : (ws X a (up S b j v))[i]? = none := by simp [ws]; omega
    rw [if_neg (by omega), h1, h2]
theorem ws_cp {X : XT} {a : Nat → Nat} {S S' : St} {c : Nat} {E : va_E} (hc : c < 61) (ho : ∀ b j, j < lim b → own b j ≠ c → S' b j = S b j) (hE : cellAt X a S' c = E) : (ws X a S).set c (a c, E) = ws X a S' := by
  refine List.ext_getElem? (fun i => ?_)
  rw [List.getElem?_set]
  by_cases hi : i < 61
  · by_cases e : c = i
    · subst e
      rw [if_pos rfl, if_pos (by simp [ws]; omega), ws_at hc hE]
    · rw [if_neg e, ws_at hi rfl, ws_at hi rfl, cell_cg (S := S) (S' := S') hi (fun b' j' hl h => (ho b' j' hl (fun z => e (by rw [← z, h]))).symm)]
  · have h1 : (ws X a S)[i]? = none := by simp [ws]; omega
    have h2 : (ws X a S')[i]? = none := by simp [ws]; omega
    rw [if_neg (by omega), h1, h2]
