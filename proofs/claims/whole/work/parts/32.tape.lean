theorem up_se {S : St} {b j : Nat} {x : Int} (h : x = S b j) : S = up S b j x := by
  subst h
  funext c i
  by_cases hc : c = b
  · subst hc
    rw [up_b]
    by_cases hi : i = j
    · subst hi; rw [upR_at]
    · rw [upR_ne _ _ hi]
  · rw [up_nb _ _ hc]
theorem up_4343 (S : St) (b i j : Nat) (x y x2 y2 : Int) : up (up (up (up S b i x) b j y) b i x2) b j y2 = up (up S b i x2) b j y2 := by
  rw [up_eq S b i x, up_set, up_set, up_set, up_eq S b i x2, up_set]
  refine congrArg _ (funext fun q => ?_)
  simp only [upR]
  (repeat' split) <;> rfl
/-- past the places at which f is so -/
def skN (f : Nat → Bool) : Nat → Nat → Nat
  | 0, p => p
  | n + 1, p => if f p = true then skN f n (p + 1) else p
theorem sk_t {f : Nat → Bool} {n p : Nat} (h : f p = true) : skN f (n + 1) p = skN f n (p + 1) := if_pos h
theorem sk_f {f : Nat → Bool} {n p : Nat} (h : ¬ f p = true) : skN f (n + 1) p = p := if_neg h
theorem sk_z (f : Nat → Bool) (p : Nat) : skN f 0 p = p := rfl
theorem sk_rg (f : Nat → Bool) : ∀ n p : Nat, p ≤ skN f n p ∧ skN f n p ≤ p + n
  | 0, p => by rw [sk_z]; omega
  | n + 1, p => by
    have h := sk_rg f n (p + 1)
    by_cases hf : f p = true
    · rw [sk_t hf]; omega
    · rw [sk_f hf]; omega
theorem sk_all (f : Nat → Bool) : ∀ n p j : Nat, p ≤ j → j < skN f n p → f j = true
  | 0, p, j, h1, h2 => by rw [sk_z] at h2; omega
  | n + 1, p, j, h1, h2 => by
    by_cases hf : f p = true
    · rw [sk_t hf] at h2
      by_cases e : j = p
      · rw [e]; exact hf
      · exact sk_all f n (p + 1) j (by omega) h2
    · rw [sk_f hf] at h2; omega
def fB (T : Nat → Int) : Nat → Bool := fun j => decide (T j = 32)
def fL (T : Nat → Int) : Nat → Bool := fun j => decide (97 ≤ T j ∧ T j ≤ 122)
def fD (T : Nat → Int) : Nat → Bool := fun j => decide (48 ≤ T j ∧ T j ≤ 57)
def zB (T : Nat → Int) (n p : Nat) : Nat := skN (fB T) (n - p) p
def zL (T : Nat → Int) (n p : Nat) : Nat := skN (fL T) (n - p) p
def zD (T : Nat → Int) (n p : Nat) : Nat := skN (fD T) (n - p) p
/-- the class's number out of k digits from b on -/
def vcF (T : Nat → Int) (b : Nat) : Nat → Int
  | 0 => 0
  | k + 1 => mnF 1000 (10 * vcF T b k + T (b + k) - 48)
theorem vc_s {T : Nat → Int} {p q : Nat} (h : p ≤ q) : vcF T p (q + 1 - p) = mnF 1000 (10 * vcF T p (q - p) + T q - 48) := by
  rw [show q + 1 - p = (q - p) + 1 by omega]
  show mnF 1000 (10 * vcF T p (q - p) + T (p + (q - p)) - 48) = _
  rw [show p + (q - p) = q by omega]
def tcF (T : Nat → Int) (n b : Nat) : Int := if n ≤ b then 0 else if 97 ≤ T b ∧ T b ≤ 122 then 1 else if 48 ≤ T b ∧ T b ≤ 57 then 2 else if T b = 59 then 3 else 4
def teF (T : Nat → Int) (n b : Nat) : Nat := if n ≤ b then b else if 97 ≤ T b ∧ T b ≤ 122 then zL T n b else if 48 ≤ T b ∧ T b ≤ 57 then zD T n b else b + 1
def tvF (T : Nat → Int) (n b : Nat) (v : Int) : Int := if tcF T n b = 2 then vcF T b (zD T n b - b) else v
theorem tv_ne {T : Nat → Int} {n b : Nat} {v : Int} (h : tcF T n b ≠ 2) : tvF T n b v = v := if_neg h
theorem tv_eq {T : Nat → Int} {n b : Nat} {v : Int} (h : tcF T n b = 2) : tvF T n b v = vcF T b (zD T n b - b) := if_pos h
def tnG (A : Nat → Int) (b t e v : Int) : Nat → Int := fun j => if j = 1 then t else if j = 2 then b else if j = 3 then e else if j = 4 then v else A j
/-- the tape's numbers at the next token -/
def tnF (T A : Nat → Int) : Nat → Int := tnG A (zB T (A 0).toNat (A 3).toNat : Nat) (tcF T (A 0).toNat (zB T (A 0).toNat (A 3).toNat)) (teF T (A 0).toNat (zB T (A 0).toNat (A 3).toNat) : Nat) (tvF T (A 0).toNat (zB T (A 0).toNat (A 3).toNat) (A 4))
theorem tn_cg {S : St} {T A : Nat → Int} {q : Nat} {t e v : Int} (hz : zB T (A 0).toNat (A 3).toNat = q) (ht : t = tcF T (A 0).toNat q) (he : e = ((teF T (A 0).toNat q : Nat) : Int)) (hv : v = tvF T (A 0).toNat q (A 4)) : setB S 5 (tnG A (q : Int) t e v) = setB S 5 (tnF T A) := by
  subst ht; subst he; subst hv; subst hz; rfl
theorem tn_a (S : St) (b t e : Int) : up (up (up S 5 3 e) 5 2 b) 5 1 t = setB S 5 (tnG (S 5) b t e (S 5 4)) := by
  rw [up_eq S 5 3 e, up_set, up_set]
  refine congrArg _ (funext fun q => ?_)
  simp only [upR, tnG]
  (repeat' split) <;> first | rfl | omega | (subst_vars; rfl)
theorem tn_b (S : St) (b t e e0 : Int) : up (up (up (up S 5 3 e0) 5 2 b) 5 1 t) 5 3 e = setB S 5 (tnG (S 5) b t e (S 5 4)) := by
  rw [up_eq S 5 3 e0, up_set, up_set, up_set]
  refine congrArg _ (funext fun q => ?_)
  simp only [upR, tnG]
  (repeat' split) <;> first | rfl | omega | (subst_vars; rfl)
theorem tn_c (S : St) (b t e e0 v : Int) : up (up (up (up (up S 5 3 e0) 5 2 b) 5 1 t) 5 4 v) 5 3 e = setB S 5 (tnG (S 5) b t e v) := by
  rw [up_eq S 5 3 e0, up_set, up_set, up_set, up_set]
  refine congrArg _ (funext fun q => ?_)
  simp only [upR, tnG]
  (repeat' split) <;> first | rfl | omega | (subst_vars; rfl)
abbrev wdP (T : Nat → Int) (b : Nat) (k : Int) (i : Nat) : Prop := k = ((wL i : Nat) : Int) ∧ ∀ j, j < wL i → T (b + j) = wB i j
/-- the word i stands here -/
abbrev isW (T A : Nat → Int) (i : Nat) : Prop := A 1 = 1 ∧ wdP T (A 2).toNat (A 3 - A 2) i
def nuF (A : Nat → Int) (lo hi : Int) : Int := if A 1 = 2 ∧ lo ≤ A 4 ∧ A 4 ≤ hi then A 4 else -1

set_option maxHeartbeats 4000000 in
set_option maxRecDepth 100000 in
theorem c_X4_isLetter (l : Launch) (X : XT) (a : Nat → Nat) (B : Nat) (S : St) (b : Int) (hb : -2147483648 ≤ b ∧ b ≤ 2147483647) : CT l X a B 0 yX4_isLetter cX4_isLetter 1 (some .boolean) [.int (J b)] S (Qi X a B (bI (97 ≤ b ∧ b ≤ 122)) (S)) := by
  refine CT.of (by decide +kernel) (Nat.le_of_ble_eq_true rfl) ?_
  intro p e s m below meth c ls hC hr hlk hI hl
  have hC : Cx p c cX4_isLetter 1 s m [.int (J b)].toArray RX4 X B := hC
  have hl : lv_has ls 1 [(0, .int (J b))] := hl
  refine r_iload_n hC hl dX4_isLetter_0 0 rfl ?_
  refine r_bipush hC (by decide) dX4_isLetter_1 ?_
  refine r_icmp_lt (tgt := 16) hC (by omega) (by omega) dX4_isLetter_3 (by decide) (fun c_1 => ?_) (fun c_1 => ?_)
  · skip
    refine r_iconst hC dX4_isLetter_16 ?_
    exact r_zret hC hr hlk hI (by decide) ((bI_f (by omega)).symm) (rfl) dX4_isLetter_17
  · skip
    refine r_iload_n hC hl dX4_isLetter_6 0 rfl ?_
    refine r_bipush hC (by decide) dX4_isLetter_7 ?_
    refine r_icmp_gt (tgt := 16) hC (by omega) (by omega) dX4_isLetter_9 (by decide) (fun c_2 => ?_) (fun c_2 => ?_)
    · skip
      refine r_iconst hC dX4_isLetter_16 ?_
      exact r_zret hC hr hlk hI (by decide) ((bI_f (by omega)).symm) (rfl) dX4_isLetter_17
    · skip
      refine r_iconst hC dX4_isLetter_12 ?_
      refine r_goto (tgt := 17) hC dX4_isLetter_13 (by decide) ?_
      exact r_zret hC hr hlk hI (by decide) ((bI_t (by omega)).symm) (rfl) dX4_isLetter_17

set_option maxHeartbeats 4000000 in
set_option maxRecDepth 100000 in
theorem c_X4_isDigit (l : Launch) (X : XT) (a : Nat → Nat) (B : Nat) (S : St) (b : Int) (hb : -2147483648 ≤ b ∧ b ≤ 2147483647) : CT l X a B 0 yX4_isDigit cX4_isDigit 1 (some .boolean) [.int (J b)] S (Qi X a B (bI (48 ≤ b ∧ b ≤ 57)) (S)) := by
  refine CT.of (by decide +kernel) (Nat.le_of_ble_eq_true rfl) ?_
  intro p e s m below meth c ls hC hr hlk hI hl
  have hC : Cx p c cX4_isDigit 1 s m [.int (J b)].toArray RX4 X B := hC
  have hl : lv_has ls 1 [(0, .int (J b))] := hl
  refine r_iload_n hC hl dX4_isDigit_0 0 rfl ?_
  refine r_bipush hC (by decide) dX4_isDigit_1 ?_
  refine r_icmp_lt (tgt := 16) hC (by omega) (by omega) dX4_isDigit_3 (by decide) (fun c_1 => ?_) (fun c_1 => ?_)
  · skip
    refine r_iconst hC dX4_isDigit_16 ?_
    exact r_zret hC hr hlk hI (by decide) ((bI_f (by omega)).symm) (rfl) dX4_isDigit_17
  · skip
    refine r_iload_n hC hl dX4_isDigit_6 0 rfl ?_
    refine r_bipush hC (by decide) dX4_isDigit_7 ?_
    refine r_icmp_gt (tgt := 16) hC (by omega) (by omega) dX4_isDigit_9 (by decide) (fun c_2 => ?_) (fun c_2 => ?_)
    · skip
      refine r_iconst hC dX4_isDigit_16 ?_
      exact r_zret hC hr hlk hI (by decide) ((bI_f (by omega)).symm) (rfl) dX4_isDigit_17
    · skip
      refine r_iconst hC dX4_isDigit_12 ?_
      refine r_goto (tgt := 17) hC dX4_isDigit_13 (by decide) ?_
      exact r_zret hC hr hlk hI (by decide) ((bI_t (by omega)).symm) (rfl) dX4_isDigit_17

set_option maxHeartbeats 4000000 in
set_option maxRecDepth 100000 in
theorem c_X4_passLetters (l : Launch) (X : XT) (a : Nat → Nat) (B : Nat) (S : St)  (hL : 0 ≤ S 5 0 ∧ S 5 0 ≤ 120) (h3 : 0 ≤ S 5 3 ∧ S 5 3 ≤ S 5 0) (hB : ∀ j, j < 120 → 0 ≤ S 4 j ∧ S 4 j ≤ 255) : CT l X a B 1 yX4_passLetters cX4_passLetters 1 none [.ref (a (5))] S (Qv X a B (up S 5 3 ((zL (S 4) (S 5 0).toNat (S 5 3).toNat : Nat) : Int))) := by
  refine CT.of (by decide +kernel) (Nat.le_of_ble_eq_true rfl) ?_
  intro p e s m below meth c ls hC hr hlk hI hl
  have hC : Cx p c cX4_passLetters 1 s m [.ref (a (5))].toArray RX4 X B := hC
  have hl : lv_has ls 1 [(0, .ref (a (5)))] := hl
  have hL0 : ∀ (fu : Nat) (q : Nat) (T : St) , (S 5 0).toNat - q < fu → ((S 5 3).toNat ≤ q ∧ q ≤ (S 5 0).toNat) → (T = up S 5 3 (q : Int)) → (skN (fL (S 4)) ((S 5 0).toNat - q) q = zL (S 4) (S 5 0).toNat (S 5 3).toNat) → ∀ (H : Heap) (locs : List Loc) (ls : Array Slot), IS X a B s (T) H locs → lv_has ls 1 [(0, .ref (a (5)))] → W p l e (rmD 1) s m [.ref (a (5))].toArray below meth c H locs 0 0 (MQ below (Qv X a B (up S 5 3 ((zL (S 4) (S 5 0).toNat (S 5 3).toNat : Nat) : Int))) [.ref (a (5))].toArray s 0 0 (fun q => B ≤ q)) (F0 m 0 ls []) := by
    intro fu
    induction fu with
    | zero => intro q T  hm; exact absurd hm (Nat.not_lt_zero _)
    | succ fu ih0 =>
      intro q T  hm hq hT hs H locs ls hI hl
      have t3 : T 5 3 = (q : Int) := by rw [hT, up_at]
      have t0 : T 5 0 = S 5 0 := by rw [hT, up_nj _ _ (by decide)]
      have t4 : T 4 = S 4 := by rw [hT, up_nb _ _ (by decide)]
      have hbq : T 4 (T 5 3).toNat = S 4 q := by rw [t4, t3]; rfl
      refine r_aload_n hC hl dX4_passLetters_0 0 rfl ?_
      refine g_ta  (v := .int (J (T 5 3))) hC hI 3 (by decide) fl_RX4_19 rfl rfl dX4_passLetters_1 ?_
      refine r_aload_n hC hl dX4_passLetters_4 0 rfl ?_
      refine g_ta  (v := .int (J (T 5 0))) hC hI 0 (by decide) fl_RX4_7 rfl rfl dX4_passLetters_5 ?_
      refine r_icmp_ge (tgt := 39) hC (by omega) (by omega) dX4_passLetters_8 (by decide) (fun c_1 => ?_) (fun c_1 => ?_)
      · skip
        have hz : zL (S 4) (S 5 0).toNat (S 5 3).toNat = q := by rw [← hs, show (S 5 0).toNat - q = 0 by omega]; rfl
        exact r_vret hC hr hlk hI (by rw [hT, hz]) dX4_passLetters_39
      · skip
        have hbr := hB q (by omega)
        refine r_aload_n hC hl dX4_passLetters_11 0 rfl ?_
        refine g_ta  (v := .ref (a (7))) hC hI 5 (by decide) fl_RX4_25 rfl rfl dX4_passLetters_12 ?_
        refine r_aload_n hC hl dX4_passLetters_15 0 rfl ?_
        refine g_ta  (v := .int (J (T 5 3))) hC hI 3 (by decide) fl_RX4_19 rfl rfl dX4_passLetters_16 ?_
        refine r_iald (cx := 7) (n := 120) (f := (fun S => S 4) (T)) (v := T 4 ((T 5 3).toNat)) hC hI (by decide) rfl (by decide) ((T 5 3).toNat) (by omega) (by omega) rfl dX4_passLetters_19 ?_
        refine r_as (y := S 4 q) hC hbq ?_
        refine r_cSi hC hI hl [.int (J (S 4 q))] [] (c_X4_isLetter l X a B T (S 4 q) (by omega)) ml_RX4_32 es_X4_isLetter ⟨Nat.le_of_ble_eq_true rfl, Nat.le_of_ble_eq_true rfl⟩ ⟨Nat.zero_le _, Nat.zero_le _⟩ (Nat.le_of_ble_eq_true rfl) rfl dX4_passLetters_20 (fun H locs hI => ?_)
        refine r_b_eq (tgt := 39) hC dX4_passLetters_23 (by decide) (fun c_2 => ?_) (fun c_2 => ?_)
        · skip
          have hz : zL (S 4) (S 5 0).toNat (S 5 3).toNat = q := by rw [← hs, show (S 5 0).toNat - q = ((S 5 0).toNat - (q + 1)) + 1 by omega, sk_f (f := fL (S 4)) (fun z => c_2 (of_decide_eq_true z))]
          exact r_vret hC hr hlk hI (by rw [hT, hz]) dX4_passLetters_39
        · skip
          refine r_aload_n hC hl dX4_passLetters_26 0 rfl ?_
          refine r_dup hC rfl dX4_passLetters_27 ?_
          refine g_ta  (v := .int (J (T 5 3))) hC hI 3 (by decide) fl_RX4_19 rfl rfl dX4_passLetters_28 ?_
          refine r_iconst hC dX4_passLetters_31 ?_
          refine r_iadd hC dX4_passLetters_32 ?_
          refine p_ta3  hC hI fl_RX4_19 dX4_passLetters_33 (fun H locs hI => ?_)
          refine r_goto (tgt := 0) hC dX4_passLetters_36 (by decide) ?_
          have hs2 : skN (fL (S 4)) ((S 5 0).toNat - (q + 1)) (q + 1) = zL (S 4) (S 5 0).toNat (S 5 3).toNat := by
            rw [← hs, show (S 5 0).toNat - q = ((S 5 0).toNat - (q + 1)) + 1 by omega, sk_t (f := fL (S 4)) (decide_eq_true (c_2))]
          exact ih0 (q + 1) _  (by omega) (by omega) (by rw [t3, hT, up_up]; rfl) hs2 _ _ _ hI (lv_sub hl [0] rfl)
  exact hL0 _ ((S 5 3).toNat) S  (Nat.lt_succ_self _) (by omega) (up_se (by omega)) rfl _ _ _ hI (lv_sub hl [0] rfl)

set_option maxHeartbeats 4000000 in
set_option maxRecDepth 100000 in
theorem c_X4_passDigits (l : Launch) (X : XT) (a : Nat → Nat) (B : Nat) (S : St)  (hL : 0 ≤ S 5 0 ∧ S 5 0 ≤ 120) (h3 : 0 ≤ S 5 3 ∧ S 5 3 ≤ S 5 0) (hB : ∀ j, j < 120 → 0 ≤ S 4 j ∧ S 4 j ≤ 255) : CT l X a B 1 yX4_passDigits cX4_passDigits 1 none [.ref (a (5))] S (Qv X a B (up (up S 5 4 (vcF (S 4) (S 5 3).toNat (zD (S 4) (S 5 0).toNat (S 5 3).toNat - (S 5 3).toNat))) 5 3 ((zD (S 4) (S 5 0).toNat (S 5 3).toNat : Nat) : Int))) := by
  refine CT.of (by decide +kernel) (Nat.le_of_ble_eq_true rfl) ?_
  intro p e s m below meth c ls hC hr hlk hI hl
  have hC : Cx p c cX4_passDigits 1 s m [.ref (a (5))].toArray RX4 X B := hC
  have hl : lv_has ls 1 [(0, .ref (a (5)))] := hl
  refine r_aload_n hC hl dX4_passDigits_0 0 rfl ?_
  refine r_iconst hC dX4_passDigits_1 ?_
  refine p_ta4  hC hI fl_RX4_22 dX4_passDigits_2 (fun H locs hI => ?_)
  have hL5 : ∀ (fu : Nat) (q : Nat) (T : St) , (S 5 0).toNat - q < fu → ((S 5 3).toNat ≤ q ∧ q ≤ (S 5 0).toNat) → (T = up (up S 5 4 (vcF (S 4) (S 5 3).toNat (q - (S 5 3).toNat))) 5 3 (q : Int)) → (skN (fD (S 4)) ((S 5 0).toNat - q) q = zD (S 4) (S 5 0).toNat (S 5 3).toNat) → (0 ≤ vcF (S 4) (S 5 3).toNat (q - (S 5 3).toNat) ∧ vcF (S 4) (S 5 3).toNat (q - (S 5 3).toNat) ≤ 1000) → ∀ (H : Heap) (locs : List Loc) (ls : Array Slot), IS X a B s (T) H locs → lv_has ls 1 [(0, .ref (a (5)))] → W p l e (rmD 1) s m [.ref (a (5))].toArray below meth c H locs 0 0 (MQ below (Qv X a B (up (up S 5 4 (vcF (S 4) (S 5 3).toNat (zD (S 4) (S 5 0).toNat (S 5 3).toNat - (S 5 3).toNat))) 5 3 ((zD (S 4) (S 5 0).toNat (S 5 3).toNat : Nat) : Int))) [.ref (a (5))].toArray s 0 0 (fun q => B ≤ q)) (F0 m 5 ls []) := by
    intro fu
    induction fu with
    | zero => intro q T  hm; exact absurd hm (Nat.not_lt_zero _)
    | succ fu ih5 =>
      intro q T  hm hq hT hs hv H locs ls hI hl
      have t3 : T 5 3 = (q : Int) := by rw [hT, up_at]
      have tv : T 5 4 = vcF (S 4) (S 5 3).toNat (q - (S 5 3).toNat) := by rw [hT, up_nj _ _ (by decide), up_at]
      have t0 : T 5 0 = S 5 0 := by rw [hT, up_nj _ _ (by decide), up_nj _ _ (by decide)]
      have t4 : T 4 = S 4 := by rw [hT, up_nb _ _ (by decide), up_nb _ _ (by decide)]
      have hbq : T 4 (T 5 3).toNat = S 4 q := by rw [t4, t3]; rfl
      refine r_aload_n hC hl dX4_passDigits_5 0 rfl ?_
      refine g_ta  (v := .int (J (T 5 3))) hC hI 3 (by decide) fl_RX4_19 rfl rfl dX4_passDigits_6 ?_
      refine r_aload_n hC hl dX4_passDigits_9 0 rfl ?_
      refine g_ta  (v := .int (J (T 5 0))) hC hI 0 (by decide) fl_RX4_7 rfl rfl dX4_passDigits_10 ?_
      refine r_icmp_ge (tgt := 74) hC (by omega) (by omega) dX4_passDigits_13 (by decide) (fun c_1 => ?_) (fun c_1 => ?_)
      · skip
        have hz : zD (S 4) (S 5 0).toNat (S 5 3).toNat = q := by rw [← hs, show (S 5 0).toNat - q = 0 by omega]; rfl
        exact r_vret hC hr hlk hI (by rw [hT, hz]) dX4_passDigits_74
      · skip
        have hbr := hB q (by omega)
        refine r_aload_n hC hl dX4_passDigits_16 0 rfl ?_
        refine g_ta  (v := .ref (a (7))) hC hI 5 (by decide) fl_RX4_25 rfl rfl dX4_passDigits_17 ?_
        refine r_aload_n hC hl dX4_passDigits_20 0 rfl ?_
        refine g_ta  (v := .int (J (T 5 3))) hC hI 3 (by decide) fl_RX4_19 rfl rfl dX4_passDigits_21 ?_
        refine r_iald (cx := 7) (n := 120) (f := (fun S => S 4) (T)) (v := T 4 ((T 5 3).toNat)) hC hI (by decide) rfl (by decide) ((T 5 3).toNat) (by omega) (by omega) rfl dX4_passDigits_24 ?_
        refine r_as (y := S 4 q) hC hbq ?_
        refine r_cSi hC hI hl [.int (J (S 4 q))] [] (c_X4_isDigit l X a B T (S 4 q) (by omega)) ml_RX4_39 es_X4_isDigit ⟨Nat.le_of_ble_eq_true rfl, Nat.le_of_ble_eq_true rfl⟩ ⟨Nat.zero_le _, Nat.zero_le _⟩ (Nat.le_of_ble_eq_true rfl) rfl dX4_passDigits_25 (fun H locs hI => ?_)
        refine r_b_eq (tgt := 74) hC dX4_passDigits_28 (by decide) (fun c_2 => ?_) (fun c_2 => ?_)
        · skip
          have hz : zD (S 4) (S 5 0).toNat (S 5 3).toNat = q := by rw [← hs, show (S 5 0).toNat - q = ((S 5 0).toNat - (q + 1)) + 1 by omega, sk_f (f := fD (S 4)) (fun z => c_2 (of_decide_eq_true z))]
          exact r_vret hC hr hlk hI (by rw [hT, hz]) dX4_passDigits_74
        · skip
          refine r_aload_n hC hl dX4_passDigits_31 0 rfl ?_
          refine r_sipush hC (by decide) dX4_passDigits_32 ?_
          refine r_bipush hC (by decide) dX4_passDigits_35 ?_
          refine r_aload_n hC hl dX4_passDigits_37 0 rfl ?_
          refine g_ta  (v := .int (J (T 5 4))) hC hI 4 (by decide) fl_RX4_22 rfl rfl dX4_passDigits_38 ?_
          refine r_imul hC dX4_passDigits_41 ?_
          refine r_aload_n hC hl dX4_passDigits_42 0 rfl ?_
          refine g_ta  (v := .ref (a (7))) hC hI 5 (by decide) fl_RX4_25 rfl rfl dX4_passDigits_43 ?_
          refine r_aload_n hC hl dX4_passDigits_46 0 rfl ?_
          refine g_ta  (v := .int (J (T 5 3))) hC hI 3 (by decide) fl_RX4_19 rfl rfl dX4_passDigits_47 ?_
          refine r_iald (cx := 7) (n := 120) (f := (fun S => S 4) (T)) (v := T 4 ((T 5 3).toNat)) hC hI (by decide) rfl (by decide) ((T 5 3).toNat) (by omega) (by omega) rfl dX4_passDigits_50 ?_
          refine r_as (y := S 4 q) hC hbq ?_
          refine r_iadd hC dX4_passDigits_51 ?_
          refine r_bipush hC (by decide) dX4_passDigits_52 ?_
          refine r_isub hC dX4_passDigits_54 ?_
          refine r_cSi hC hI hl [.int (J 1000), .int (J (((10 * (T 5 4)) + (S 4 q)) - 48))] [.ref (a (5))] (c_J9_min_7cf53 l X a B T 1000 (((10 * (T 5 4)) + (S 4 q)) - 48) (by omega) (by omega)) ml_RX4_45 es_J9_min_7cf53 ⟨Nat.le_of_ble_eq_true rfl, Nat.le_of_ble_eq_true rfl⟩ ⟨Nat.zero_le _, Nat.zero_le _⟩ (Nat.le_of_ble_eq_true rfl) rfl dX4_passDigits_55 (fun H locs hI => ?_)
          refine p_ta4  hC hI fl_RX4_22 dX4_passDigits_58 (fun H locs hI => ?_)
          refine r_aload_n hC hl dX4_passDigits_61 0 rfl ?_
          refine r_dup hC rfl dX4_passDigits_62 ?_
          refine g_ta  (v := .int (J (T 5 3))) hC hI 3 (by decide) fl_RX4_19 rfl (congrArg (fun z => some (Value.int (J z))) (show (up T 5 4 (mnF 1000 (((10 * (T 5 4)) + (S 4 q)) - 48))) 5 3 = _ by rw [up_nj (b := 5) (j := 4) (c := 5) (i := 3) _ _ (by omega)])) dX4_passDigits_63 ?_
          refine r_iconst hC dX4_passDigits_66 ?_
          refine r_iadd hC dX4_passDigits_67 ?_
          refine p_ta3  hC hI fl_RX4_19 dX4_passDigits_68 (fun H locs hI => ?_)
          refine r_goto (tgt := 5) hC dX4_passDigits_71 (by decide) ?_
          have hs2 : skN (fD (S 4)) ((S 5 0).toNat - (q + 1)) (q + 1) = zD (S 4) (S 5 0).toNat (S 5 3).toNat := by
            rw [← hs, show (S 5 0).toNat - q = ((S 5 0).toNat - (q + 1)) + 1 by omega, sk_t (f := fD (S 4)) (decide_eq_true (c_2))]
          exact ih5 (q + 1) _  (by omega) (by omega) (by rw [tv, t3, hT, up_4343, vc_s (by omega)]; rfl) hs2 (by rw [vc_s (by omega)]; unfold mnF; split <;> omega) _ _ _ hI (lv_sub hl [0] rfl)
  exact hL5 _ ((S 5 3).toNat) _  (Nat.lt_succ_self _) (by omega) (by rw [Nat.sub_self]; exact up_se (by rw [up_nj _ _ (by decide)]; omega)) rfl (by rw [Nat.sub_self]; exact ⟨Int.le_refl 0, by show (0 : Int) ≤ 1000; decide⟩) _ _ _ hI (lv_sub hl [0] rfl)

set_option maxHeartbeats 4000000 in
set_option maxRecDepth 100000 in
theorem c_X4_toNextToken (l : Launch) (X : XT) (a : Nat → Nat) (B : Nat) (S : St)  (hL : 0 ≤ S 5 0 ∧ S 5 0 ≤ 120) (h3 : 0 ≤ S 5 3 ∧ S 5 3 ≤ S 5 0) (hB : ∀ j, j < 120 → 0 ≤ S 4 j ∧ S 4 j ≤ 255) : CT l X a B 2 yX4_toNextToken cX4_toNextToken 1 none [.ref (a (5))] S (Qv X a B (setB S 5 (tnF (S 4) (S 5)))) := by
  refine CT.of (by decide +kernel) (Nat.le_of_ble_eq_true rfl) ?_
  intro p e s m below meth c ls hC hr hlk hI hl
  have hC : Cx p c cX4_toNextToken 1 s m [.ref (a (5))].toArray RX4 X B := hC
  have hl : lv_has ls 1 [(0, .ref (a (5)))] := hl
  have hL0 : ∀ (fu : Nat) (q : Nat) (T : St) , (S 5 0).toNat - q < fu → ((S 5 3).toNat ≤ q ∧ q ≤ (S 5 0).toNat) → (T = up S 5 3 (q : Int)) → (skN (fB (S 4)) ((S 5 0).toNat - q) q = zB (S 4) (S 5 0).toNat (S 5 3).toNat) → ∀ (H : Heap) (locs : List Loc) (ls : Array Slot), IS X a B s (T) H locs → lv_has ls 1 [(0, .ref (a (5)))] → W p l e (rmD 2) s m [.ref (a (5))].toArray below meth c H locs 0 0 (MQ below (Qv X a B (setB S 5 (tnF (S 4) (S 5)))) [.ref (a (5))].toArray s 0 0 (fun q => B ≤ q)) (F0 m 0 ls []) := by
    intro fu
    induction fu with
    | zero => intro q T  hm; exact absurd hm (Nat.not_lt_zero _)
    | succ fu ih0 =>
      intro q T  hm hq hT hs H locs ls hI hl
      have t3 : T 5 3 = (q : Int) := by rw [hT, up_at]
      have t0 : T 5 0 = S 5 0 := by rw [hT, up_nj _ _ (by decide)]
      have t4 : T 4 = S 4 := by rw [hT, up_nb _ _ (by decide)]
      have hbq : T 4 (T 5 3).toNat = S 4 q := by rw [t4, t3]; rfl
      refine r_aload_n hC hl dX4_toNextToken_0 0 rfl ?_
      refine g_ta  (v := .int (J (T 5 3))) hC hI 3 (by decide) fl_RX4_19 rfl rfl dX4_toNextToken_1 ?_
      refine r_aload_n hC hl dX4_toNextToken_4 0 rfl ?_
      refine g_ta  (v := .int (J (T 5 0))) hC hI 0 (by decide) fl_RX4_7 rfl rfl dX4_toNextToken_5 ?_
      refine r_icmp_ge (tgt := 38) hC (by omega) (by omega) dX4_toNextToken_8 (by decide) (fun c_1 => ?_) (fun c_1 => ?_)
      · skip
        have hz : zB (S 4) (S 5 0).toNat (S 5 3).toNat = q := by rw [← hs, show (S 5 0).toNat - q = 0 by omega]; rfl
        refine r_aload_n hC hl dX4_toNextToken_38 0 rfl ?_
        refine r_aload_n hC hl dX4_toNextToken_39 0 rfl ?_
        refine g_ta  (v := .int (J (T 5 3))) hC hI 3 (by decide) fl_RX4_19 rfl rfl dX4_toNextToken_40 ?_
        refine p_ta2  hC hI fl_RX4_16 dX4_toNextToken_43 (fun H locs hI => ?_)
        refine r_aload_n hC hl dX4_toNextToken_46 0 rfl ?_
        refine g_ta  (v := .int (J (T 5 3))) hC hI 3 (by decide) fl_RX4_19 rfl (congrArg (fun z => some (Value.int (J z))) (show (up T 5 2 (T 5 3)) 5 3 = _ by rw [up_nj (b := 5) (j := 2) (c := 5) (i := 3) _ _ (by omega)])) dX4_toNextToken_47 ?_
        refine r_aload_n hC hl dX4_toNextToken_50 0 rfl ?_
        refine g_ta  (v := .int (J (T 5 0))) hC hI 0 (by decide) fl_RX4_7 rfl (congrArg (fun z => some (Value.int (J z))) (show (up T 5 2 (T 5 3)) 5 0 = _ by rw [up_nj (b := 5) (j := 2) (c := 5) (i := 0) _ _ (by omega)])) dX4_toNextToken_51 ?_
        refine r_icmp_lt (tgt := 65) hC (by omega) (by omega) dX4_toNextToken_54 (by decide) (fun c_2 => ?_) (fun c_2 => ?_)
        · skip
          have hbr2 := hB q (by omega)
          refine r_aload_n hC hl dX4_toNextToken_65 0 rfl ?_
          refine g_ta  (v := .ref (a (7))) hC hI 5 (by decide) fl_RX4_25 rfl rfl dX4_toNextToken_66 ?_
          refine r_aload_n hC hl dX4_toNextToken_69 0 rfl ?_
          refine g_ta  (v := .int (J (T 5 3))) hC hI 3 (by decide) fl_RX4_19 rfl (congrArg (fun z => some (Value.int (J z))) (show (up T 5 2 (T 5 3)) 5 3 = _ by rw [up_nj (b := 5) (j := 2) (c := 5) (i := 3) _ _ (by omega)])) dX4_toNextToken_70 ?_
          refine r_iald (cx := 7) (n := 120) (f := (fun S => S 4) (up T 5 2 (T 5 3))) (v := T 4 ((T 5 3).toNat)) hC hI (by decide) rfl (by decide) ((T 5 3).toNat) (by omega) (by omega) (by show (up T 5 2 (T 5 3)) 4 ((T 5 3).toNat) = _; rw [up_nb (b := 5) (j := 2) (c := 4) _ _ (by omega)]) dX4_toNextToken_73 ?_
          refine r_as (y := S 4 q) hC hbq ?_
          refine r_cSi hC hI hl [.int (J (S 4 q))] [] (c_X4_isLetter l X a B (up T 5 2 (T 5 3)) (S 4 q) (by omega)) ml_RX4_32 es_X4_isLetter ⟨Nat.le_of_ble_eq_true rfl, Nat.le_of_ble_eq_true rfl⟩ ⟨Nat.zero_le _, Nat.zero_le _⟩ (Nat.le_of_ble_eq_true rfl) rfl dX4_toNextToken_74 (fun H locs hI => ?_)
          refine r_b_eq (tgt := 92) hC dX4_toNextToken_77 (by decide) (fun c_3 => ?_) (fun c_3 => ?_)
          · skip
            refine r_aload_n hC hl dX4_toNextToken_92 0 rfl ?_
            refine g_ta  (v := .ref (a (7))) hC hI 5 (by decide) fl_RX4_25 rfl rfl dX4_toNextToken_93 ?_
            refine r_aload_n hC hl dX4_toNextToken_96 0 rfl ?_
            refine g_ta  (v := .int (J (T 5 3))) hC hI 3 (by decide) fl_RX4_19 rfl (congrArg (fun z => some (Value.int (J z))) (show (up T 5 2 (T 5 3)) 5 3 = _ by rw [up_nj (b := 5) (j := 2) (c := 5) (i := 3) _ _ (by omega)])) dX4_toNextToken_97 ?_
            refine r_iald (cx := 7) (n := 120) (f := (fun S => S 4) (up T 5 2 (T 5 3))) (v := T 4 ((T 5 3).toNat)) hC hI (by decide) rfl (by decide) ((T 5 3).toNat) (by omega) (by omega) (by show (up T 5 2 (T 5 3)) 4 ((T 5 3).toNat) = _; rw [up_nb (b := 5) (j := 2) (c := 4) _ _ (by omega)]) dX4_toNextToken_100 ?_
            refine r_as (y := S 4 q) hC hbq ?_
            refine r_cSi hC hI hl [.int (J (S 4 q))] [] (c_X4_isDigit l X a B (up T 5 2 (T 5 3)) (S 4 q) (by omega)) ml_RX4_39 es_X4_isDigit ⟨Nat.le_of_ble_eq_true rfl, Nat.le_of_ble_eq_true rfl⟩ ⟨Nat.zero_le _, Nat.zero_le _⟩ (Nat.le_of_ble_eq_true rfl) rfl dX4_toNextToken_101 (fun H locs hI => ?_)
            refine r_b_eq (tgt := 119) hC dX4_toNextToken_104 (by decide) (fun c_4 => ?_) (fun c_4 => ?_)
            · skip
              refine r_aload_n hC hl dX4_toNextToken_119 0 rfl ?_
              refine r_aload_n hC hl dX4_toNextToken_120 0 rfl ?_
              refine g_ta  (v := .ref (a (7))) hC hI 5 (by decide) fl_RX4_25 rfl rfl dX4_toNextToken_121 ?_
              refine r_aload_n hC hl dX4_toNextToken_124 0 rfl ?_
              refine g_ta  (v := .int (J (T 5 3))) hC hI 3 (by decide) fl_RX4_19 rfl (congrArg (fun z => some (Value.int (J z))) (show (up T 5 2 (T 5 3)) 5 3 = _ by rw [up_nj (b := 5) (j := 2) (c := 5) (i := 3) _ _ (by omega)])) dX4_toNextToken_125 ?_
              refine r_iald (cx := 7) (n := 120) (f := (fun S => S 4) (up T 5 2 (T 5 3))) (v := T 4 ((T 5 3).toNat)) hC hI (by decide) rfl (by decide) ((T 5 3).toNat) (by omega) (by omega) (by show (up T 5 2 (T 5 3)) 4 ((T 5 3).toNat) = _; rw [up_nb (b := 5) (j := 2) (c := 4) _ _ (by omega)]) dX4_toNextToken_128 ?_
              refine r_as (y := S 4 q) hC hbq ?_
              refine r_bipush hC (by decide) dX4_toNextToken_129 ?_
              refine r_icmp_ne (tgt := 138) hC (by omega) (by omega) dX4_toNextToken_131 (by decide) (fun c_5 => ?_) (fun c_5 => ?_)
              · skip
                refine r_iconst hC dX4_toNextToken_138 ?_
                refine p_ta1  hC hI fl_RX4_13 dX4_toNextToken_139 (fun H locs hI => ?_)
                refine r_aload_n hC hl dX4_toNextToken_142 0 rfl ?_
                refine r_dup hC rfl dX4_toNextToken_143 ?_
                refine g_ta  (v := .int (J (T 5 3))) hC hI 3 (by decide) fl_RX4_19 rfl (congrArg (fun z => some (Value.int (J z))) (show (up (up T 5 2 (T 5 3)) 5 1 4) 5 3 = _ by rw [up_nj (b := 5) (j := 1) (c := 5) (i := 3) _ _ (by omega), up_nj (b := 5) (j := 2) (c := 5) (i := 3) _ _ (by omega)])) dX4_toNextToken_144 ?_
                refine r_iconst hC dX4_toNextToken_147 ?_
                refine r_iadd hC dX4_toNextToken_148 ?_
                refine p_ta3  hC hI fl_RX4_19 dX4_toNextToken_149 (fun H locs hI => ?_)
                exact r_vret hC hr hlk hI (by have ht : (4 : Int) = tcF (S 4) (S 5 0).toNat q := (by unfold tcF; rw [if_neg (by omega), if_neg (by omega), if_neg (by omega), if_neg (by omega)]); rw [t3, hT, tn_b]; exact tn_cg hz ht (by unfold teF; rw [if_neg (by omega), if_neg (by omega), if_neg (by omega)]; rfl) (tv_ne (by rw [← ht]; decide)).symm) dX4_toNextToken_152
              · skip
                refine r_iconst hC dX4_toNextToken_134 ?_
                refine r_goto (tgt := 139) hC dX4_toNextToken_135 (by decide) ?_
                refine p_ta1  hC hI fl_RX4_13 dX4_toNextToken_139 (fun H locs hI => ?_)
                refine r_aload_n hC hl dX4_toNextToken_142 0 rfl ?_
                refine r_dup hC rfl dX4_toNextToken_143 ?_
                refine g_ta  (v := .int (J (T 5 3))) hC hI 3 (by decide) fl_RX4_19 rfl (congrArg (fun z => some (Value.int (J z))) (show (up (up T 5 2 (T 5 3)) 5 1 3) 5 3 = _ by rw [up_nj (b := 5) (j := 1) (c := 5) (i := 3) _ _ (by omega), up_nj (b := 5) (j := 2) (c := 5) (i := 3) _ _ (by omega)])) dX4_toNextToken_144 ?_
                refine r_iconst hC dX4_toNextToken_147 ?_
                refine r_iadd hC dX4_toNextToken_148 ?_
                refine p_ta3  hC hI fl_RX4_19 dX4_toNextToken_149 (fun H locs hI => ?_)
                exact r_vret hC hr hlk hI (by have ht : (3 : Int) = tcF (S 4) (S 5 0).toNat q := (by unfold tcF; rw [if_neg (by omega), if_neg (by omega), if_neg (by omega), if_pos (by omega)]); rw [t3, hT, tn_b]; exact tn_cg hz ht (by unfold teF; rw [if_neg (by omega), if_neg (by omega), if_neg (by omega)]; rfl) (tv_ne (by rw [← ht]; decide)).symm) dX4_toNextToken_152
            · skip
              refine r_aload_n hC hl dX4_toNextToken_107 0 rfl ?_
              refine r_iconst hC dX4_toNextToken_108 ?_
              refine p_ta1  hC hI fl_RX4_13 dX4_toNextToken_109 (fun H locs hI => ?_)
              refine r_aload_n hC hl dX4_toNextToken_112 0 rfl ?_
              obtain ⟨U, eU⟩ : ∃ z : St, z = up (up T 5 2 (T 5 3)) 5 1 2 := ⟨_, rfl⟩
              rw [← eU] at hI
              have uT : U = up (up (up S 5 3 (q : Int)) 5 2 (q : Int)) 5 1 2 := by rw [eU, t3, hT]
              have u4 : U 4 = S 4 := by rw [uT, up_nb _ _ (by decide), up_nb _ _ (by decide), up_nb _ _ (by decide)]
              have u0 : U 5 0 = S 5 0 := by rw [uT, up_nj _ _ (by decide), up_nj _ _ (by decide), up_nj _ _ (by decide)]
              have u3 : U 5 3 = (q : Int) := by rw [uT, up_nj _ _ (by decide), up_nj _ _ (by decide), up_at]
              refine r_cVv hC hI hl [] [] (c_X4_passDigits l X a B U  (by rw [u0]; exact hL) (by rw [u3, u0]; omega) (by rw [u4]; exact hB)) ml_RX4_42 ev_X4_passDigits (rc_ta (S := U) hC hI) ⟨Nat.le_of_ble_eq_true rfl, Nat.le_of_ble_eq_true rfl⟩ ⟨Nat.zero_le _, Nat.zero_le _⟩ (Nat.le_of_ble_eq_true rfl) rfl dX4_toNextToken_113 (fun H locs hI => ?_)
              refine r_goto (tgt := 152) hC dX4_toNextToken_116 (by decide) ?_
              exact r_vret hC hr hlk hI (by have ht : (2 : Int) = tcF (S 4) (S 5 0).toNat q := (by unfold tcF; rw [if_neg (by omega), if_neg (by omega), if_pos (by omega)]); rw [u4, u0, u3, Int.toNat_natCast, uT, tn_c]; exact tn_cg hz ht (by unfold teF; rw [if_neg (by omega), if_neg (by omega), if_pos (by omega)]) (tv_eq ht.symm).symm) dX4_toNextToken_152
          · skip
            refine r_aload_n hC hl dX4_toNextToken_80 0 rfl ?_
            refine r_iconst hC dX4_toNextToken_81 ?_
            refine p_ta1  hC hI fl_RX4_13 dX4_toNextToken_82 (fun H locs hI => ?_)
            refine r_aload_n hC hl dX4_toNextToken_85 0 rfl ?_
            obtain ⟨U, eU⟩ : ∃ z : St, z = up (up T 5 2 (T 5 3)) 5 1 1 := ⟨_, rfl⟩
            rw [← eU] at hI
            have uT : U = up (up (up S 5 3 (q : Int)) 5 2 (q : Int)) 5 1 1 := by rw [eU, t3, hT]
            have u4 : U 4 = S 4 := by rw [uT, up_nb _ _ (by decide), up_nb _ _ (by decide), up_nb _ _ (by decide)]
            have u0 : U 5 0 = S 5 0 := by rw [uT, up_nj _ _ (by decide), up_nj _ _ (by decide), up_nj _ _ (by decide)]
            have u3 : U 5 3 = (q : Int) := by rw [uT, up_nj _ _ (by decide), up_nj _ _ (by decide), up_at]
            refine r_cVv hC hI hl [] [] (c_X4_passLetters l X a B U  (by rw [u0]; exact hL) (by rw [u3, u0]; omega) (by rw [u4]; exact hB)) ml_RX4_36 ev_X4_passLetters (rc_ta (S := U) hC hI) ⟨Nat.le_of_ble_eq_true rfl, Nat.le_of_ble_eq_true rfl⟩ ⟨Nat.zero_le _, Nat.zero_le _⟩ (Nat.le_of_ble_eq_true rfl) rfl dX4_toNextToken_86 (fun H locs hI => ?_)
            refine r_goto (tgt := 152) hC dX4_toNextToken_89 (by decide) ?_
            exact r_vret hC hr hlk hI (by have ht : (1 : Int) = tcF (S 4) (S 5 0).toNat q := (by unfold tcF; rw [if_neg (by omega), if_pos (by omega)]); rw [u4, u0, u3, Int.toNat_natCast, uT, tn_b]; exact tn_cg hz ht (by unfold teF; rw [if_neg (by omega), if_pos (by omega)]) (tv_ne (by rw [← ht]; decide)).symm) dX4_toNextToken_152
        · skip
          refine r_aload_n hC hl dX4_toNextToken_57 0 rfl ?_
          refine r_iconst hC dX4_toNextToken_58 ?_
          refine p_ta1  hC hI fl_RX4_13 dX4_toNextToken_59 (fun H locs hI => ?_)
          refine r_goto (tgt := 152) hC dX4_toNextToken_62 (by decide) ?_
          exact r_vret hC hr hlk hI (by have ht : (0 : Int) = tcF (S 4) (S 5 0).toNat q := (by unfold tcF; rw [if_pos (by omega)]); rw [t3, hT, tn_a]; exact tn_cg hz ht (by unfold teF; rw [if_pos (by omega)]) (tv_ne (by rw [← ht]; decide)).symm) dX4_toNextToken_152
      · skip
        have hbr := hB q (by omega)
        refine r_aload_n hC hl dX4_toNextToken_11 0 rfl ?_
        refine g_ta  (v := .ref (a (7))) hC hI 5 (by decide) fl_RX4_25 rfl rfl dX4_toNextToken_12 ?_
        refine r_aload_n hC hl dX4_toNextToken_15 0 rfl ?_
        refine g_ta  (v := .int (J (T 5 3))) hC hI 3 (by decide) fl_RX4_19 rfl rfl dX4_toNextToken_16 ?_
        refine r_iald (cx := 7) (n := 120) (f := (fun S => S 4) (T)) (v := T 4 ((T 5 3).toNat)) hC hI (by decide) rfl (by decide) ((T 5 3).toNat) (by omega) (by omega) rfl dX4_toNextToken_19 ?_
        refine r_as (y := S 4 q) hC hbq ?_
        refine r_bipush hC (by decide) dX4_toNextToken_20 ?_
        refine r_icmp_ne (tgt := 38) hC (by omega) (by omega) dX4_toNextToken_22 (by decide) (fun c_6 => ?_) (fun c_6 => ?_)
        · skip
          have hz : zB (S 4) (S 5 0).toNat (S 5 3).toNat = q := by rw [← hs, show (S 5 0).toNat - q = ((S 5 0).toNat - (q + 1)) + 1 by omega, sk_f (f := fB (S 4)) (fun z => absurd (of_decide_eq_true z) (by omega))]
          refine r_aload_n hC hl dX4_toNextToken_38 0 rfl ?_
          refine r_aload_n hC hl dX4_toNextToken_39 0 rfl ?_
          refine g_ta  (v := .int (J (T 5 3))) hC hI 3 (by decide) fl_RX4_19 rfl rfl dX4_toNextToken_40 ?_
          refine p_ta2  hC hI fl_RX4_16 dX4_toNextToken_43 (fun H locs hI => ?_)
          refine r_aload_n hC hl dX4_toNextToken_46 0 rfl ?_
          refine g_ta  (v := .int (J (T 5 3))) hC hI 3 (by decide) fl_RX4_19 rfl (congrArg (fun z => some (Value.int (J z))) (show (up T 5 2 (T 5 3)) 5 3 = _ by rw [up_nj (b := 5) (j := 2) (c := 5) (i := 3) _ _ (by omega)])) dX4_toNextToken_47 ?_
          refine r_aload_n hC hl dX4_toNextToken_50 0 rfl ?_
          refine g_ta  (v := .int (J (T 5 0))) hC hI 0 (by decide) fl_RX4_7 rfl (congrArg (fun z => some (Value.int (J z))) (show (up T 5 2 (T 5 3)) 5 0 = _ by rw [up_nj (b := 5) (j := 2) (c := 5) (i := 0) _ _ (by omega)])) dX4_toNextToken_51 ?_
          refine r_icmp_lt (tgt := 65) hC (by omega) (by omega) dX4_toNextToken_54 (by decide) (fun c_7 => ?_) (fun c_7 => ?_)
          · skip
            have hbr2 := hB q (by omega)
            refine r_aload_n hC hl dX4_toNextToken_65 0 rfl ?_
            refine g_ta  (v := .ref (a (7))) hC hI 5 (by decide) fl_RX4_25 rfl rfl dX4_toNextToken_66 ?_
            refine r_aload_n hC hl dX4_toNextToken_69 0 rfl ?_
            refine g_ta  (v := .int (J (T 5 3))) hC hI 3 (by decide) fl_RX4_19 rfl (congrArg (fun z => some (Value.int (J z))) (show (up T 5 2 (T 5 3)) 5 3 = _ by rw [up_nj (b := 5) (j := 2) (c := 5) (i := 3) _ _ (by omega)])) dX4_toNextToken_70 ?_
            refine r_iald (cx := 7) (n := 120) (f := (fun S => S 4) (up T 5 2 (T 5 3))) (v := T 4 ((T 5 3).toNat)) hC hI (by decide) rfl (by decide) ((T 5 3).toNat) (by omega) (by omega) (by show (up T 5 2 (T 5 3)) 4 ((T 5 3).toNat) = _; rw [up_nb (b := 5) (j := 2) (c := 4) _ _ (by omega)]) dX4_toNextToken_73 ?_
            refine r_as (y := S 4 q) hC hbq ?_
            refine r_cSi hC hI hl [.int (J (S 4 q))] [] (c_X4_isLetter l X a B (up T 5 2 (T 5 3)) (S 4 q) (by omega)) ml_RX4_32 es_X4_isLetter ⟨Nat.le_of_ble_eq_true rfl, Nat.le_of_ble_eq_true rfl⟩ ⟨Nat.zero_le _, Nat.zero_le _⟩ (Nat.le_of_ble_eq_true rfl) rfl dX4_toNextToken_74 (fun H locs hI => ?_)
            refine r_b_eq (tgt := 92) hC dX4_toNextToken_77 (by decide) (fun c_8 => ?_) (fun c_8 => ?_)
            · skip
              refine r_aload_n hC hl dX4_toNextToken_92 0 rfl ?_
              refine g_ta  (v := .ref (a (7))) hC hI 5 (by decide) fl_RX4_25 rfl rfl dX4_toNextToken_93 ?_
              refine r_aload_n hC hl dX4_toNextToken_96 0 rfl ?_
              refine g_ta  (v := .int (J (T 5 3))) hC hI 3 (by decide) fl_RX4_19 rfl (congrArg (fun z => some (Value.int (J z))) (show (up T 5 2 (T 5 3)) 5 3 = _ by rw [up_nj (b := 5) (j := 2) (c := 5) (i := 3) _ _ (by omega)])) dX4_toNextToken_97 ?_
              refine r_iald (cx := 7) (n := 120) (f := (fun S => S 4) (up T 5 2 (T 5 3))) (v := T 4 ((T 5 3).toNat)) hC hI (by decide) rfl (by decide) ((T 5 3).toNat) (by omega) (by omega) (by show (up T 5 2 (T 5 3)) 4 ((T 5 3).toNat) = _; rw [up_nb (b := 5) (j := 2) (c := 4) _ _ (by omega)]) dX4_toNextToken_100 ?_
              refine r_as (y := S 4 q) hC hbq ?_
              refine r_cSi hC hI hl [.int (J (S 4 q))] [] (c_X4_isDigit l X a B (up T 5 2 (T 5 3)) (S 4 q) (by omega)) ml_RX4_39 es_X4_isDigit ⟨Nat.le_of_ble_eq_true rfl, Nat.le_of_ble_eq_true rfl⟩ ⟨Nat.zero_le _, Nat.zero_le _⟩ (Nat.le_of_ble_eq_true rfl) rfl dX4_toNextToken_101 (fun H locs hI => ?_)
              refine r_b_eq (tgt := 119) hC dX4_toNextToken_104 (by decide) (fun c_9 => ?_) (fun c_9 => ?_)
              · skip
                refine r_aload_n hC hl dX4_toNextToken_119 0 rfl ?_
                refine r_aload_n hC hl dX4_toNextToken_120 0 rfl ?_
                refine g_ta  (v := .ref (a (7))) hC hI 5 (by decide) fl_RX4_25 rfl rfl dX4_toNextToken_121 ?_
                refine r_aload_n hC hl dX4_toNextToken_124 0 rfl ?_
                refine g_ta  (v := .int (J (T 5 3))) hC hI 3 (by decide) fl_RX4_19 rfl (congrArg (fun z => some (Value.int (J z))) (show (up T 5 2 (T 5 3)) 5 3 = _ by rw [up_nj (b := 5) (j := 2) (c := 5) (i := 3) _ _ (by omega)])) dX4_toNextToken_125 ?_
                refine r_iald (cx := 7) (n := 120) (f := (fun S => S 4) (up T 5 2 (T 5 3))) (v := T 4 ((T 5 3).toNat)) hC hI (by decide) rfl (by decide) ((T 5 3).toNat) (by omega) (by omega) (by show (up T 5 2 (T 5 3)) 4 ((T 5 3).toNat) = _; rw [up_nb (b := 5) (j := 2) (c := 4) _ _ (by omega)]) dX4_toNextToken_128 ?_
                refine r_as (y := S 4 q) hC hbq ?_
                refine r_bipush hC (by decide) dX4_toNextToken_129 ?_
                refine r_icmp_ne (tgt := 138) hC (by omega) (by omega) dX4_toNextToken_131 (by decide) (fun c_10 => ?_) (fun c_10 => ?_)
                · skip
                  refine r_iconst hC dX4_toNextToken_138 ?_
                  refine p_ta1  hC hI fl_RX4_13 dX4_toNextToken_139 (fun H locs hI => ?_)
                  refine r_aload_n hC hl dX4_toNextToken_142 0 rfl ?_
                  refine r_dup hC rfl dX4_toNextToken_143 ?_
                  refine g_ta  (v := .int (J (T 5 3))) hC hI 3 (by decide) fl_RX4_19 rfl (congrArg (fun z => some (Value.int (J z))) (show (up (up T 5 2 (T 5 3)) 5 1 4) 5 3 = _ by rw [up_nj (b := 5) (j := 1) (c := 5) (i := 3) _ _ (by omega), up_nj (b := 5) (j := 2) (c := 5) (i := 3) _ _ (by omega)])) dX4_toNextToken_144 ?_
                  refine r_iconst hC dX4_toNextToken_147 ?_
                  refine r_iadd hC dX4_toNextToken_148 ?_
                  refine p_ta3  hC hI fl_RX4_19 dX4_toNextToken_149 (fun H locs hI => ?_)
                  exact r_vret hC hr hlk hI (by have ht : (4 : Int) = tcF (S 4) (S 5 0).toNat q := (by unfold tcF; rw [if_neg (by omega), if_neg (by omega), if_neg (by omega), if_neg (by omega)]); rw [t3, hT, tn_b]; exact tn_cg hz ht (by unfold teF; rw [if_neg (by omega), if_neg (by omega), if_neg (by omega)]; rfl) (tv_ne (by rw [← ht]; decide)).symm) dX4_toNextToken_152
                · skip
                  refine r_iconst hC dX4_toNextToken_134 ?_
                  refine r_goto (tgt := 139) hC dX4_toNextToken_135 (by decide) ?_
                  refine p_ta1  hC hI fl_RX4_13 dX4_toNextToken_139 (fun H locs hI => ?_)
                  refine r_aload_n hC hl dX4_toNextToken_142 0 rfl ?_
                  refine r_dup hC rfl dX4_toNextToken_143 ?_
                  refine g_ta  (v := .int (J (T 5 3))) hC hI 3 (by decide) fl_RX4_19 rfl (congrArg (fun z => some (Value.int (J z))) (show (up (up T 5 2 (T 5 3)) 5 1 3) 5 3 = _ by rw [up_nj (b := 5) (j := 1) (c := 5) (i := 3) _ _ (by omega), up_nj (b := 5) (j := 2) (c := 5) (i := 3) _ _ (by omega)])) dX4_toNextToken_144 ?_
                  refine r_iconst hC dX4_toNextToken_147 ?_
                  refine r_iadd hC dX4_toNextToken_148 ?_
                  refine p_ta3  hC hI fl_RX4_19 dX4_toNextToken_149 (fun H locs hI => ?_)
                  exact r_vret hC hr hlk hI (by have ht : (3 : Int) = tcF (S 4) (S 5 0).toNat q := (by unfold tcF; rw [if_neg (by omega), if_neg (by omega), if_neg (by omega), if_pos (by omega)]); rw [t3, hT, tn_b]; exact tn_cg hz ht (by unfold teF; rw [if_neg (by omega), if_neg (by omega), if_neg (by omega)]; rfl) (tv_ne (by rw [← ht]; decide)).symm) dX4_toNextToken_152
              · skip
                refine r_aload_n hC hl dX4_toNextToken_107 0 rfl ?_
                refine r_iconst hC dX4_toNextToken_108 ?_
                refine p_ta1  hC hI fl_RX4_13 dX4_toNextToken_109 (fun H locs hI => ?_)
                refine r_aload_n hC hl dX4_toNextToken_112 0 rfl ?_
                obtain ⟨U, eU⟩ : ∃ z : St, z = up (up T 5 2 (T 5 3)) 5 1 2 := ⟨_, rfl⟩
                rw [← eU] at hI
                have uT : U = up (up (up S 5 3 (q : Int)) 5 2 (q : Int)) 5 1 2 := by rw [eU, t3, hT]
                have u4 : U 4 = S 4 := by rw [uT, up_nb _ _ (by decide), up_nb _ _ (by decide), up_nb _ _ (by decide)]
                have u0 : U 5 0 = S 5 0 := by rw [uT, up_nj _ _ (by decide), up_nj _ _ (by decide), up_nj _ _ (by decide)]
                have u3 : U 5 3 = (q : Int) := by rw [uT, up_nj _ _ (by decide), up_nj _ _ (by decide), up_at]
                refine r_cVv hC hI hl [] [] (c_X4_passDigits l X a B U  (by rw [u0]; exact hL) (by rw [u3, u0]; omega) (by rw [u4]; exact hB)) ml_RX4_42 ev_X4_passDigits (rc_ta (S := U) hC hI) ⟨Nat.le_of_ble_eq_true rfl, Nat.le_of_ble_eq_true rfl⟩ ⟨Nat.zero_le _, Nat.zero_le _⟩ (Nat.le_of_ble_eq_true rfl) rfl dX4_toNextToken_113 (fun H locs hI => ?_)
                refine r_goto (tgt := 152) hC dX4_toNextToken_116 (by decide) ?_
                exact r_vret hC hr hlk hI (by have ht : (2 : Int) = tcF (S 4) (S 5 0).toNat q := (by unfold tcF; rw [if_neg (by omega), if_neg (by omega), if_pos (by omega)]); rw [u4, u0, u3, Int.toNat_natCast, uT, tn_c]; exact tn_cg hz ht (by unfold teF; rw [if_neg (by omega), if_neg (by omega), if_pos (by omega)]) (tv_eq ht.symm).symm) dX4_toNextToken_152
            · skip
              refine r_aload_n hC hl dX4_toNextToken_80 0 rfl ?_
              refine r_iconst hC dX4_toNextToken_81 ?_
              refine p_ta1  hC hI fl_RX4_13 dX4_toNextToken_82 (fun H locs hI => ?_)
              refine r_aload_n hC hl dX4_toNextToken_85 0 rfl ?_
              obtain ⟨U, eU⟩ : ∃ z : St, z = up (up T 5 2 (T 5 3)) 5 1 1 := ⟨_, rfl⟩
              rw [← eU] at hI
              have uT : U = up (up (up S 5 3 (q : Int)) 5 2 (q : Int)) 5 1 1 := by rw [eU, t3, hT]
              have u4 : U 4 = S 4 := by rw [uT, up_nb _ _ (by decide), up_nb _ _ (by decide), up_nb _ _ (by decide)]
              have u0 : U 5 0 = S 5 0 := by rw [uT, up_nj _ _ (by decide), up_nj _ _ (by decide), up_nj _ _ (by decide)]
              have u3 : U 5 3 = (q : Int) := by rw [uT, up_nj _ _ (by decide), up_nj _ _ (by decide), up_at]
              refine r_cVv hC hI hl [] [] (c_X4_passLetters l X a B U  (by rw [u0]; exact hL) (by rw [u3, u0]; omega) (by rw [u4]; exact hB)) ml_RX4_36 ev_X4_passLetters (rc_ta (S := U) hC hI) ⟨Nat.le_of_ble_eq_true rfl, Nat.le_of_ble_eq_true rfl⟩ ⟨Nat.zero_le _, Nat.zero_le _⟩ (Nat.le_of_ble_eq_true rfl) rfl dX4_toNextToken_86 (fun H locs hI => ?_)
              refine r_goto (tgt := 152) hC dX4_toNextToken_89 (by decide) ?_
              exact r_vret hC hr hlk hI (by have ht : (1 : Int) = tcF (S 4) (S 5 0).toNat q := (by unfold tcF; rw [if_neg (by omega), if_pos (by omega)]); rw [u4, u0, u3, Int.toNat_natCast, uT, tn_b]; exact tn_cg hz ht (by unfold teF; rw [if_neg (by omega), if_pos (by omega)]) (tv_ne (by rw [← ht]; decide)).symm) dX4_toNextToken_152
          · skip
            refine r_aload_n hC hl dX4_toNextToken_57 0 rfl ?_
            refine r_iconst hC dX4_toNextToken_58 ?_
            refine p_ta1  hC hI fl_RX4_13 dX4_toNextToken_59 (fun H locs hI => ?_)
            refine r_goto (tgt := 152) hC dX4_toNextToken_62 (by decide) ?_
            exact r_vret hC hr hlk hI (by have ht : (0 : Int) = tcF (S 4) (S 5 0).toNat q := (by unfold tcF; rw [if_pos (by omega)]); rw [t3, hT, tn_a]; exact tn_cg hz ht (by unfold teF; rw [if_pos (by omega)]) (tv_ne (by rw [← ht]; decide)).symm) dX4_toNextToken_152
        · skip
          refine r_aload_n hC hl dX4_toNextToken_25 0 rfl ?_
          refine r_dup hC rfl dX4_toNextToken_26 ?_
          refine g_ta  (v := .int (J (T 5 3))) hC hI 3 (by decide) fl_RX4_19 rfl rfl dX4_toNextToken_27 ?_
          refine r_iconst hC dX4_toNextToken_30 ?_
          refine r_iadd hC dX4_toNextToken_31 ?_
          refine p_ta3  hC hI fl_RX4_19 dX4_toNextToken_32 (fun H locs hI => ?_)
          refine r_goto (tgt := 0) hC dX4_toNextToken_35 (by decide) ?_
          have hs2 : skN (fB (S 4)) ((S 5 0).toNat - (q + 1)) (q + 1) = zB (S 4) (S 5 0).toNat (S 5 3).toNat := by
            rw [← hs, show (S 5 0).toNat - q = ((S 5 0).toNat - (q + 1)) + 1 by omega, sk_t (f := fB (S 4)) (decide_eq_true (by omega))]
          exact ih0 (q + 1) _  (by omega) (by omega) (by rw [t3, hT, up_up]; rfl) hs2 _ _ _ hI (lv_sub hl [0] rfl)
  exact hL0 _ ((S 5 3).toNat) S  (Nat.lt_succ_self _) (by omega) (up_se (by omega)) rfl _ _ _ hI (lv_sub hl [0] rfl)

set_option maxHeartbeats 4000000 in
set_option maxRecDepth 100000 in
theorem c_X4_toFirstToken (l : Launch) (X : XT) (a : Nat → Nat) (B : Nat) (S : St)  (hL : 0 ≤ S 5 0 ∧ S 5 0 ≤ 120) (hB : ∀ j, j < 120 → 0 ≤ S 4 j ∧ S 4 j ≤ 255) : CT l X a B 3 yX4_toFirstToken cX4_toFirstToken 1 none [.ref (a (5))] S (Qv X a B (setB S 5 (tnF (S 4) (upR (S 5) 3 0)))) := by
  refine CT.of (by decide +kernel) (Nat.le_of_ble_eq_true rfl) ?_
  intro p e s m below meth c ls hC hr hlk hI hl
  have hC : Cx p c cX4_toFirstToken 1 s m [.ref (a (5))].toArray RX4 X B := hC
  have hl : lv_has ls 1 [(0, .ref (a (5)))] := hl
  refine r_aload_n hC hl dX4_toFirstToken_0 0 rfl ?_
  refine r_iconst hC dX4_toFirstToken_1 ?_
  refine p_ta3  hC hI fl_RX4_19 dX4_toFirstToken_2 (fun H locs hI => ?_)
  refine r_aload_n hC hl dX4_toFirstToken_5 0 rfl ?_
  refine r_cVv hC hI hl [] [] (c_X4_toNextToken l X a B (up S 5 3 0)  (by rw [up_nj _ _ (by decide)]; exact hL) (by rw [up_at, up_nj _ _ (by decide)]; omega) (by rw [up_nb _ _ (by decide)]; exact hB)) ml_RX4_29 ev_X4_toNextToken (rc_ta (S := up S 5 3 0) hC hI) ⟨Nat.le_of_ble_eq_true rfl, Nat.le_of_ble_eq_true rfl⟩ ⟨Nat.zero_le _, Nat.zero_le _⟩ (Nat.le_of_ble_eq_true rfl) rfl dX4_toFirstToken_6 (fun H locs hI => ?_)
  exact r_vret hC hr hlk hI (by rw [up_nb _ _ (by decide), up_b]; unfold up; rw [setB_setB]) dX4_toFirstToken_9

set_option maxHeartbeats 4000000 in
set_option maxRecDepth 100000 in
theorem c_X4_isWord (l : Launch) (X : XT) (a : Nat → Nat) (B : Nat) (S : St) (i : Nat) (hi : i < 11) (hL : 0 ≤ S 5 0 ∧ S 5 0 ≤ 120) (h1 : 0 ≤ S 5 1 ∧ S 5 1 ≤ 4) (h2 : 0 ≤ S 5 2 ∧ S 5 2 ≤ S 5 3) (h3 : S 5 3 ≤ S 5 0) (hB : ∀ j, j < 120 → 0 ≤ S 4 j ∧ S 4 j ≤ 255) : CT l X a B 4 yX4_isWord cX4_isWord 3 (some .boolean) [.ref (a (5)), .ref (X.2.2.1 i)] S (Qi X a B (bI (isW (S 4) (S 5) i)) (S)) := by
  refine CT.of (by decide +kernel) (Nat.le_of_ble_eq_true rfl) ?_
  intro p e s m below meth c ls hC hr hlk hI hl
  have hC : Cx p c cX4_isWord 3 s m [.ref (a (5)), .ref (X.2.2.1 i)].toArray RX4 X B := hC
  have hl : lv_has ls 3 [(0, .ref (a (5))), (1, .ref (X.2.2.1 i))] := hl
  have hwl := wL_rg i hi
  refine r_aload_n hC hl dX4_isWord_0 0 rfl ?_
  refine g_ta  (v := .int (J (S 5 1))) hC hI 1 (by decide) fl_RX4_13 rfl rfl dX4_isWord_1 ?_
  refine r_iconst hC dX4_isWord_4 ?_
  refine r_icmp_ne (tgt := 24) hC (by omega) (by omega) dX4_isWord_5 (by decide) (fun c_1 => ?_) (fun c_1 => ?_)
  · skip
    refine r_iconst hC dX4_isWord_24 ?_
    exact r_zret hC hr hlk hI (by decide) ((bI_f (by intro z; have z1 := z.1; have z2 := z.2.1; omega)).symm) (rfl) dX4_isWord_25
  · skip
    refine r_aload_n hC hl dX4_isWord_8 0 rfl ?_
    refine g_ta  (v := .int (J (S 5 3))) hC hI 3 (by decide) fl_RX4_19 rfl rfl dX4_isWord_9 ?_
    refine r_aload_n hC hl dX4_isWord_12 0 rfl ?_
    refine g_ta  (v := .int (J (S 5 2))) hC hI 2 (by decide) fl_RX4_16 rfl rfl dX4_isWord_13 ?_
    refine r_isub hC dX4_isWord_16 ?_
    refine r_aload_n hC hl dX4_isWord_17 1 rfl ?_
    refine r_cVi hC hI hl [] [.int (J ((S 5 3) - (S 5 2)))] (c_J0_length_8abf5 l X a B S i (by omega)) ml_RX4_51 ev_J0_length_8abf5 (vk_recv hC.2.2.2.2.2.2.1 (by omega) hI.2.2) ⟨Nat.le_of_ble_eq_true rfl, Nat.le_of_ble_eq_true rfl⟩ ⟨Nat.zero_le _, Nat.zero_le _⟩ (Nat.le_of_ble_eq_true rfl) rfl dX4_isWord_18 (fun H locs hI => ?_)
    refine r_icmp_eq (tgt := 26) hC (by omega) (by omega) dX4_isWord_21 (by decide) (fun c_2 => ?_) (fun c_2 => ?_)
    · skip
      refine r_iconst hC dX4_isWord_26 ?_
      refine r_istore_n (lv1 := [(2, .int (J 0)), (0, .ref (a (5))), (1, .ref (X.2.2.1 i))]) hC hl dX4_isWord_27 2 rfl (by decide) rfl (fun ls hl => ?_)
      have hL28 : ∀ (fu : Nat) (q : Nat) (x2 : Int), wL i - q < fu → (x2 = (q : Int)) → (q ≤ wL i) → (∀ j, j < q → S 4 ((S 5 2).toNat + j) = wB i j) → ∀ (H : Heap) (locs : List Loc) (ls : Array Slot), IS X a B s (S) H locs → lv_has ls 3 [(2, .int (J x2)), (0, .ref (a (5))), (1, .ref (X.2.2.1 i))] → W p l e (rmD 4) s m [.ref (a (5)), .ref (X.2.2.1 i)].toArray below meth c H locs 0 0 (MQ below (Qi X a B (bI (isW (S 4) (S 5) i)) (S)) [.ref (a (5)), .ref (X.2.2.1 i)].toArray s 0 0 (fun q => B ≤ q)) (F0 m 28 ls []) := by
        intro fu
        induction fu with
        | zero => intro q x2 hm; exact absurd hm (Nat.not_lt_zero _)
        | succ fu ih28 =>
          intro q x2 hm e2 hq hf H locs ls hI hl
          subst e2
          refine r_iload_n hC hl dX4_isWord_28 0 rfl ?_
          refine r_aload_n hC hl dX4_isWord_29 2 rfl ?_
          refine r_cVi hC hI hl [] [.int (J (q : Int))] (c_J0_length_8abf5 l X a B S i (by omega)) ml_RX4_51 ev_J0_length_8abf5 (vk_recv hC.2.2.2.2.2.2.1 (by omega) hI.2.2) ⟨Nat.le_of_ble_eq_true rfl, Nat.le_of_ble_eq_true rfl⟩ ⟨Nat.zero_le _, Nat.zero_le _⟩ (Nat.le_of_ble_eq_true rfl) rfl dX4_isWord_30 (fun H locs hI => ?_)
          refine r_icmp_ge (tgt := 63) hC (by omega) (by omega) dX4_isWord_33 (by decide) (fun c_3 => ?_) (fun c_3 => ?_)
          · skip
            refine r_iconst hC dX4_isWord_63 ?_
            exact r_zret hC hr hlk hI (by decide) ((bI_t (by exact ⟨by omega, by omega, fun j hj => hf j (by omega)⟩)).symm) (rfl) dX4_isWord_64
          · skip
            have hbr := hB ((S 5 2).toNat + q) (by omega)
            obtain ⟨hk1, hk2, hk3, hk4⟩ := wB_ok i hi q (by show q < wL i; omega)
            refine r_aload_n hC hl dX4_isWord_36 1 rfl ?_
            refine g_ta  (v := .ref (a (7))) hC hI 5 (by decide) fl_RX4_25 rfl rfl dX4_isWord_37 ?_
            refine r_aload_n hC hl dX4_isWord_40 1 rfl ?_
            refine g_ta  (v := .int (J (S 5 2))) hC hI 2 (by decide) fl_RX4_16 rfl rfl dX4_isWord_41 ?_
            refine r_iload_n hC hl dX4_isWord_44 0 rfl ?_
            refine r_iadd hC dX4_isWord_45 ?_
            refine r_as (y := (((S 5 2).toNat + q : Nat) : Int)) hC (by omega) ?_
            refine r_iald (cx := 7) (n := 120) (f := (fun S => S 4) (S)) (v := S 4 ((S 5 2).toNat + q)) hC hI (by decide) rfl (by decide) ((S 5 2).toNat + q) (by omega) (by omega) rfl dX4_isWord_46 ?_
            refine r_aload_n hC hl dX4_isWord_47 2 rfl ?_
            refine r_iload_n hC hl dX4_isWord_48 0 rfl ?_
            refine r_cVi hC hI hl [.int (J (q : Int))] [.int (J (S 4 ((S 5 2).toNat + q)))] (c_J0_charAt_5068e l X a B S i q (by omega) (by omega)) ml_RX4_56 ev_J0_charAt_5068e (vk_recv hC.2.2.2.2.2.2.1 (by omega) hI.2.2) ⟨Nat.le_of_ble_eq_true rfl, Nat.le_of_ble_eq_true rfl⟩ ⟨Nat.zero_le _, Nat.zero_le _⟩ (Nat.le_of_ble_eq_true rfl) rfl dX4_isWord_49 (fun H locs hI => ?_)
            refine r_icmp_eq (tgt := 57) hC (by omega) (by omega) dX4_isWord_52 (by decide) (fun c_4 => ?_) (fun c_4 => ?_)
            · skip
              refine r_iinc (lv1 := [(2, .int (J ((q : Int) + 1))), (0, .ref (a (5))), (1, .ref (X.2.2.1 i))]) hC hl dX4_isWord_57 0 rfl (by decide) rfl (fun ls hl => ?_)
              refine r_goto (tgt := 28) hC dX4_isWord_60 (by decide) ?_
              exact ih28 (q + 1) ((q : Int) + 1) (by omega) (by omega) (by omega) (lt_s hf c_4) _ _ _ hI (lv_sub hl [0, 1, 2] rfl)
            · skip
              refine r_iconst hC dX4_isWord_55 ?_
              exact r_zret hC hr hlk hI (by decide) ((bI_f (by intro z; exact c_4 (z.2.2 q (by omega)))).symm) (rfl) dX4_isWord_56
      exact hL28 _ 0 0 (Nat.lt_succ_self _) (by omega) (by omega) (fun j hj => absurd hj (Nat.not_lt_zero j)) _ _ _ hI (lv_sub hl [0, 1, 2] rfl)
    · skip
      refine r_iconst hC dX4_isWord_24 ?_
      exact r_zret hC hr hlk hI (by decide) ((bI_f (by intro z; have z1 := z.1; have z2 := z.2.1; omega)).symm) (rfl) dX4_isWord_25

set_option maxHeartbeats 4000000 in
set_option maxRecDepth 100000 in
theorem c_X4_number (l : Launch) (X : XT) (a : Nat → Nat) (B : Nat) (S : St) (lo : Int) (hi : Int) (hlo : -2147483648 ≤ lo ∧ lo ≤ 2147483647) (hh : -2147483648 ≤ hi ∧ hi ≤ 2147483647) (h1 : 0 ≤ S 5 1 ∧ S 5 1 ≤ 4) (hv : S 5 1 = 2 → 0 ≤ S 5 4 ∧ S 5 4 ≤ 1000) : CT l X a B 1 yX4_number cX4_number 3 (some .int) [.ref (a (5)), .int (J lo), .int (J hi)] S (Qi X a B (nuF (S 5) lo hi) (S)) := by
  refine CT.of (by decide +kernel) (Nat.le_of_ble_eq_true rfl) ?_
  intro p e s m below meth c ls hC hr hlk hI hl
  have hC : Cx p c cX4_number 3 s m [.ref (a (5)), .int (J lo), .int (J hi)].toArray RX4 X B := hC
  have hl : lv_has ls 3 [(0, .ref (a (5))), (1, .int (J lo)), (2, .int (J hi))] := hl
  refine r_aload_n hC hl dX4_number_0 0 rfl ?_
  refine g_ta  (v := .int (J (S 5 1))) hC hI 1 (by decide) fl_RX4_13 rfl rfl dX4_number_1 ?_
  refine r_iconst hC dX4_number_4 ?_
  refine r_icmp_ne (tgt := 27) hC (by omega) (by omega) dX4_number_5 (by decide) (fun c_1 => ?_) (fun c_1 => ?_)
  · skip
    refine r_iconst hC dX4_number_27 ?_
    exact r_iret hC hr hlk hI (by unfold nuF; (repeat' split) <;> omega) (rfl) dX4_number_28
  · skip
    have hv4 := hv (by omega)
    refine r_aload_n hC hl dX4_number_8 0 rfl ?_
    refine g_ta  (v := .int (J (S 5 4))) hC hI 4 (by decide) fl_RX4_22 rfl rfl dX4_number_9 ?_
    refine r_iload_n hC hl dX4_number_12 1 rfl ?_
    refine r_iload_n hC hl dX4_number_13 2 rfl ?_
    refine r_cNi hC hI hl [.int (J (S 5 4)), .int (J lo), .int (J hi)] [] (c_X6_isWithin l X a B S (S 5 4) lo hi (by omega) (by omega) (by omega)) hC.2.2.2.2.2.1.2.2.1 es_X6_isWithin ⟨Nat.le_of_ble_eq_true rfl, Nat.le_of_ble_eq_true rfl⟩ ⟨Nat.zero_le _, Nat.zero_le _⟩ (Nat.le_of_ble_eq_true rfl) rfl dX4_number_14 (fun H locs hI => ?_)
    refine r_b_eq (tgt := 27) hC dX4_number_17 (by decide) (fun c_2 => ?_) (fun c_2 => ?_)
    · skip
      refine r_iconst hC dX4_number_27 ?_
      exact r_iret hC hr hlk hI (by unfold nuF; (repeat' split) <;> omega) (rfl) dX4_number_28
    · skip
      refine r_aload_n hC hl dX4_number_20 0 rfl ?_
      refine g_ta  (v := .int (J (S 5 4))) hC hI 4 (by decide) fl_RX4_22 rfl rfl dX4_number_21 ?_
      refine r_goto (tgt := 28) hC dX4_number_24 (by decide) ?_
      exact r_iret hC hr hlk hI (by unfold nuF; (repeat' split) <;> omega) (rfl) dX4_number_28

set_option maxHeartbeats 4000000 in
set_option maxRecDepth 100000 in
theorem c_X4_addByte (l : Launch) (X : XT) (a : Nat → Nat) (B : Nat) (S : St) (v : Int) (hL : 0 ≤ S 5 0 ∧ S 5 0 < 120) : CT l X a B 0 yX4_addByte cX4_addByte 2 none [.ref (a (5)), .int (J v)] S (Qv X a B (up (up S 4 (S 5 0).toNat v) 5 0 (S 5 0 + 1))) := by
  refine CT.of (by decide +kernel) (Nat.le_of_ble_eq_true rfl) ?_
  intro p e s m below meth c ls hC hr hlk hI hl
  have hC : Cx p c cX4_addByte 2 s m [.ref (a (5)), .int (J v)].toArray RX4 X B := hC
  have hl : lv_has ls 2 [(0, .ref (a (5))), (1, .int (J v))] := hl
  refine r_aload_n hC hl dX4_addByte_0 0 rfl ?_
  refine g_ta  (v := .int (J (S 5 0))) hC hI 0 (by decide) fl_RX4_7 rfl rfl dX4_addByte_1 ?_
  refine r_bipush hC (by decide) dX4_addByte_4 ?_
  refine r_icmp_ge (tgt := 29) hC (by omega) (by omega) dX4_addByte_6 (by decide) (fun c_1 => ?_) (fun c_1 => ?_)
  · skip
    exfalso; omega
  · skip
    refine r_aload_n hC hl dX4_addByte_9 0 rfl ?_
    refine g_ta  (v := .ref (a (7))) hC hI 5 (by decide) fl_RX4_25 rfl rfl dX4_addByte_10 ?_
    refine r_aload_n hC hl dX4_addByte_13 0 rfl ?_
    refine g_ta  (v := .int (J (S 5 0))) hC hI 0 (by decide) fl_RX4_7 rfl rfl dX4_addByte_14 ?_
    refine r_iload_n hC hl dX4_addByte_17 1 rfl ?_
    refine r_iast (cx := 7) (n := 120) (F := fun S => S 4) hC hI (by decide) (fun _ => rfl) (by decide) ((S 5 0).toNat) (by omega) (by omega) (b := 4) (j := (S 5 0).toNat) rfl (fun q => by simp [up, setB, upR]) dX4_addByte_18 (fun H locs hI => ?_)
    refine r_aload_n hC hl dX4_addByte_19 0 rfl ?_
    refine r_dup hC rfl dX4_addByte_20 ?_
    refine g_ta  (v := .int (J (S 5 0))) hC hI 0 (by decide) fl_RX4_7 rfl (congrArg (fun z => some (Value.int (J z))) (show (up S 4 ((S 5 0).toNat) v) 5 0 = _ by rw [up_nb (b := 4) (j := (S 5 0).toNat) (c := 5) _ _ (by omega)])) dX4_addByte_21 ?_
    refine r_iconst hC dX4_addByte_24 ?_
    refine r_iadd hC dX4_addByte_25 ?_
    refine p_ta0  hC hI fl_RX4_7 dX4_addByte_26 (fun H locs hI => ?_)
    exact r_vret hC hr hlk hI (rfl) dX4_addByte_29
