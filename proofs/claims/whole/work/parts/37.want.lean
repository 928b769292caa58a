def VM (T A : Nat → Int) (w : Int) : Prop := (0 ≤ A 0 ∧ A 0 ≤ 120) ∧ (0 ≤ A 1 ∧ A 1 ≤ 3) ∧ (0 ≤ A 2 ∧ A 2 ≤ A 3) ∧ A 3 ≤ A 0 ∧ (-1 ≤ A 4 ∧ A 4 ≤ 10000) ∧ (∀ j, j < 120 → 0 ≤ T j ∧ T j ≤ 255) ∧ (A 5 = 0 ∨ A 5 = 1) ∧ (-1 ≤ w ∧ w ≤ 1000000000000000000)
theorem so_rg (T : Nat → Int) (n b : Nat) : 0 ≤ soF T n b ∧ soF T n b ≤ 3 := by
  unfold soF; (repeat' split) <;> omega
theorem so_2 {T : Nat → Int} {n b : Nat} (h : soF T n b = 2) : b < n ∧ 48 ≤ T b ∧ T b ≤ 57 := by
  unfold soF at h
  (repeat' split at h) <;> omega
theorem so_1 {T : Nat → Int} {n b : Nat} (h : soF T n b = 1) : b < n ∧ 97 ≤ T b ∧ T b ≤ 122 := by
  unfold soF at h
  (repeat' split at h) <;> omega
theorem vm_rg {T : Nat → Int} {b : Nat} : ∀ k : Nat, (∀ j, b ≤ j → j < b + k → 48 ≤ T j ∧ T j ≤ 57) → 0 ≤ vmF T b k ∧ vmF T b k ≤ 10000
  | 0, _ => by show (0 : Int) ≤ 0 ∧ (0 : Int) ≤ 10000; omega
  | k + 1, h => by
    have h1 := vm_rg k (fun j ha hb => h j ha (by omega))
    have h2 := h (b + k) (by omega) (by omega)
    show 0 ≤ (if 999 < vmF T b k then 10000 else 10 * vmF T b k + T (b + k) - 48) ∧ (if 999 < vmF T b k then 10000 else 10 * vmF T b k + T (b + k) - 48) ≤ 10000
    split <;> omega
theorem wh_rg {T : Nat → Int} {b : Nat} : ∀ k : Nat, (∀ j, b ≤ j → j < b + k → 97 ≤ T j ∧ T j ≤ 122) → (k ≤ 12 → 0 ≤ whF T b k ∧ whF T b k + 1 ≤ (27 : Int) ^ k) ∧ (12 < k → whF T b k = -1)
  | 0, _ => ⟨fun _ => by show (0 : Int) ≤ 0 ∧ (0 : Int) + 1 ≤ 1; omega, fun h => absurd h (by decide)⟩
  | k + 1, h => by
    have h1 := wh_rg k (fun j ha hb => h j ha (by omega))
    have h2 := h (b + k) (by omega) (by omega)
    refine ⟨fun hk => ?_, fun hk => ?_⟩
    · have h3 := h1.1 (by omega)
      have e1 : whF T b (k + 1) = 27 * whF T b k + T (b + k) - 96 := if_pos (by omega)
      rw [e1, Int.pow_succ]
      omega
    · exact if_neg (by omega)
theorem p27 : ∀ k, k ≤ 12 → (27 : Int) ^ k ≤ 1000000000000000000 := by
  intro k hk
  rcases (show k = 0 ∨ k = 1 ∨ k = 2 ∨ k = 3 ∨ k = 4 ∨ k = 5 ∨ k = 6 ∨ k = 7 ∨ k = 8 ∨ k = 9 ∨ k = 10 ∨ k = 11 ∨ k = 12 by omega) with rfl | rfl | rfl | rfl | rfl | rfl | rfl | rfl | rfl | rfl | rfl | rfl | rfl <;> decide
theorem wh_rg2 {T : Nat → Int} {b k : Nat} (h : ∀ j, b ≤ j → j < b + k → 97 ≤ T j ∧ T j ≤ 122) : -1 ≤ whF T b k ∧ whF T b k ≤ 1000000000000000000 := by
  have h1 := wh_rg k h
  by_cases hk : k ≤ 12
  · have h2 := h1.1 hk
    have h3 := p27 k hk
    omega
  · have h2 := h1.2 (by omega)
    omega
theorem ad_VM {T A : Nat → Int} (hL : 0 ≤ A 0 ∧ A 0 ≤ 120) (h3 : 0 ≤ A 3 ∧ A 3 ≤ A 0) (hB : ∀ j, j < 120 → 0 ≤ T j ∧ T j ≤ 255) (h5 : A 5 = 0 ∨ A 5 = 1) : VM T (adF T A) (adW T A) := by
  have hz := zB_rg (T := T) (n := (A 0).toNat) (p := (A 3).toNat) (by omega)
  have he := te_rg (T := T) hz.2
  have ht := so_rg T (A 0).toNat (zb T A)
  refine ⟨hL, ht, ?_, ?_, ?_, hB, h5, ?_⟩
  · show 0 ≤ ((zB T (A 0).toNat (A 3).toNat : Nat) : Int) ∧ ((zB T (A 0).toNat (A 3).toNat : Nat) : Int) ≤ ((teF T (A 0).toNat (zB T (A 0).toNat (A 3).toNat) : Nat) : Int)
    omega
  · show ((teF T (A 0).toNat (zB T (A 0).toNat (A 3).toNat) : Nat) : Int) ≤ A 0
    omega
  · show -1 ≤ avF T A (zb T A) ∧ avF T A (zb T A) ≤ 10000
    by_cases h2 : soF T (A 0).toNat (zb T A) = 2
    · rw [av_eq h2]
      have hr := zD_rg (T := T) (so_2 h2).1 (so_2 h2).2
      have hv := vm_rg (T := T) (b := zb T A) (zD T (A 0).toNat (zb T A) - zb T A) (fun j ha hb => zD_all (n := (A 0).toNat) j ha (by omega))
      omega
    · rw [av_ne h2]
      have hb := bt_cs hL hB (zb T A)
      omega
  · show -1 ≤ awF T (A 0).toNat (zb T A) ∧ awF T (A 0).toNat (zb T A) ≤ 1000000000000000000
    by_cases h2 : soF T (A 0).toNat (zb T A) = 1
    · rw [aw_eq h2]
      have hr := zL_rg (T := T) (so_1 h2).1 (so_1 h2).2
      exact wh_rg2 (fun j ha hb => zL_all (n := (A 0).toNat) j ha (by omega))
    · rw [aw_ne h2]; decide
theorem VM.ad {T A : Nat → Int} {w : Int} (h : VM T A w) : VM T (adF T A) (adW T A) := ad_VM h.1 ⟨by have h1 := h.2.2.1; omega, h.2.2.2.1⟩ h.2.2.2.2.2.1 h.2.2.2.2.2.2.1
theorem VM.g {T A : Nat → Int} {w x : Int} (hx : x = 0 ∨ x = 1) (h : VM T A w) : VM T (upR A 5 x) w := ⟨h.1, h.2.1, h.2.2.1, h.2.2.2.1, h.2.2.2.2.1, h.2.2.2.2.2.1, hx, h.2.2.2.2.2.2.2⟩
def khF (A : Nat → Int) (w : Int) : Int := if A 1 = 1 ∧ w = 315851 then 0 else if A 1 = 1 ∧ w = 82516 then 1 else if A 1 = 1 ∧ w = 175252482 then 2 else if A 1 = 1 ∧ w = 296643787 then 3 else if A 1 = 1 ∧ w = 459606 then 4 else if A 1 = 1 ∧ w = 11803757 then 5 else -1
abbrev wnO (A : Nat → Int) (lo hi : Int) : Prop := A 5 = 1 ∧ A 1 = 2 ∧ lo ≤ A 4 ∧ A 4 ≤ hi
def wnA (T A : Nat → Int) (lo hi : Int) : Nat → Int := if A 5 = 1 ∧ A 1 = 2 ∧ lo ≤ A 4 ∧ A 4 ≤ hi then adF T (upR A 5 1) else upR A 5 0
def wnW (T A : Nat → Int) (w lo hi : Int) : Int := if A 5 = 1 ∧ A 1 = 2 ∧ lo ≤ A 4 ∧ A 4 ≤ hi then adW T (upR A 5 1) else w
theorem wn_g {T A : Nat → Int} {lo hi : Int} (h : wnA T A lo hi 5 = 1) : A 5 = 1 ∧ A 1 = 2 ∧ lo ≤ A 4 ∧ A 4 ≤ hi := by
  unfold wnA at h
  by_cases h1 : A 5 = 1 ∧ A 1 = 2 ∧ lo ≤ A 4 ∧ A 4 ≤ hi
  · exact h1
  · rw [if_neg h1, upR_at] at h
    exact absurd h (by decide)
theorem wn_VM {T A : Nat → Int} {w lo hi : Int} (h : VM T A w) : VM T (wnA T A lo hi) (wnW T A w lo hi) := by
  unfold wnA wnW
  by_cases h1 : A 5 = 1 ∧ A 1 = 2 ∧ lo ≤ A 4 ∧ A 4 ≤ hi
  · rw [if_pos h1, if_pos h1]; exact (h.g (Or.inr rfl)).ad
  · rw [if_neg h1, if_neg h1]; exact h.g (Or.inl rfl)
theorem setB_up (S : St) (b j : Nat) (v : Int) (R : Nat → Int) : setB (up S b j v) b R = setB S b R := setB_setB _ _ _ _
theorem mo_eq {S T : St} {A R : Nat → Int} {w : Int} (h25 : T 25 = A) (h32 : T 32 0 = w) (h3x : ∀ j, j ≠ 0 → T 32 j = S 32 j) (h20 : T 20 = R) (ho : ∀ b, b ≠ 25 → b ≠ 32 → b ≠ 20 → T b = S b) : T = setB (up (setB S 25 A) 32 0 w) 20 R := by
  funext b
  by_cases h1 : b = 20
  · subst h1; rw [setB_at, h20]
  · rw [setB_ne _ _ h1]
    by_cases h2 : b = 32
    · subst h2
      rw [up_b]
      funext j
      by_cases hj : j = 0
      · subst hj; rw [upR_at, h32]
      · rw [upR_ne _ _ hj, setB_ne _ _ (by decide), h3x j hj]
    · rw [up_nb _ _ h2]
      by_cases h3 : b = 25
      · subst h3; rw [setB_at, h25]
      · rw [setB_ne _ _ h3, ho b h3 h2 h1]
def mwF (R : Nat → Int) (q : Int) : Int := wdF (dwF (fun ww => decide (csF q (ww : Int) ≤ R 3)) 99)
theorem mw_rg (R : Nat → Int) (q : Int) : 0 ≤ mwF R q ∧ mwF R q ≤ 99 := by
  have h1 := dw_rg (fun ww => decide (csF q (ww : Int) ≤ R 3)) 99
  have h2 := wd_cs (dwF (fun ww => decide (csF q (ww : Int) ≤ R 3)) 99)
  unfold mwF
  omega
def o1A (T A : Nat → Int) : Nat → Int := adF T (upR A 5 1)
def o1W (T A : Nat → Int) : Int := adW T (upR A 5 1)
def o2A (T A R : Nat → Int) (q : Int) : Nat → Int := wnA T (o1A T A) 1 (mwF R q)
def o2W (T A R : Nat → Int) (q : Int) : Int := wnW T (o1A T A) (o1W T A) 1 (mwF R q)
def woA (T A R : Nat → Int) (q : Int) : Nat → Int := if R 5 < 8 then (if o2A T A R q 5 = 1 ∧ o2A T A R q 1 = 1 ∧ o2W T A R q = 14432 then adF T (o2A T A R q) else o2A T A R q) else upR A 5 0
def woW (T A R : Nat → Int) (w q : Int) : Int := if R 5 < 8 then (if o2A T A R q 5 = 1 ∧ o2A T A R q 1 = 1 ∧ o2W T A R q = 14432 then adW T (o2A T A R q) else o2W T A R q) else w
def woR (T A R : Nat → Int) (q : Int) : Nat → Int := if R 5 < 8 ∧ o2A T A R q 5 = 1 then apF R q (o1A T A 4) (if o2A T A R q 1 = 1 ∧ o2W T A R q = 14432 then 1 else 0) else R
def wjA (T A : Nat → Int) (m : Int) : Nat → Int := wnA T (adF T A) 0 m
def wjW (T A : Nat → Int) (m : Int) : Int := wnW T (adF T A) (adW T A) 0 m
def wjR (T A R : Nat → Int) (z m : Int) : Nat → Int := if wjA T A m 5 = 1 then upR R z.toNat (adF T A 4) else R

set_option maxHeartbeats 4000000 in
set_option maxRecDepth 100000 in
theorem c_X7_isWord (l : Launch) (X : XT) (a : Nat → Nat) (B : Nat) (S : St) (x : Int) (h1 : 0 ≤ S 25 1 ∧ S 25 1 ≤ 3) (hw : -1 ≤ S 32 0 ∧ S 32 0 ≤ 1000000000000000000) (hx : 0 ≤ x ∧ x ≤ 1000000000000000000) : CT l X a B 0 yX7_isWord cX7_isWord 3 (some .boolean) [.ref (a (49)), .long (JL x)] S (Qi X a B (bI (S 25 1 = 1 ∧ S 32 0 = x)) (S)) := by
  refine CT.of (by decide +kernel) (Nat.le_of_ble_eq_true rfl) ?_
  intro p e s m below meth c ls hC hr hlk hI hl
  have hC : Cx p c cX7_isWord 3 s m [.ref (a (49)), .long (JL x)].toArray RX7 X B := hC
  have hl : lv_has ls 3 [(0, .ref (a (49))), (1, .long (JL x))] := hl
  refine r_aload_n hC hl dX7_isWord_0 0 rfl ?_
  refine g_mo  (v := .int (J (S 25 1))) hC hI 6 (by decide) fl_RX7_150 rfl rfl dX7_isWord_1 ?_
  refine r_iconst hC dX7_isWord_4 ?_
  refine r_icmp_ne (tgt := 21) hC (by omega) (by omega) dX7_isWord_5 (by decide) (fun c_1 => ?_) (fun c_1 => ?_)
  · skip
    refine r_iconst hC dX7_isWord_21 ?_
    exact r_zret hC hr hlk hI (by decide) ((bI_f (by omega)).symm) (rfl) dX7_isWord_22
  · skip
    refine r_aload_n hC hl dX7_isWord_8 0 rfl ?_
    refine g_mo  (v := .long (JL (S 32 0))) hC hI 9 (by decide) fl_RX7_153 rfl rfl dX7_isWord_9 ?_
    refine r_lload_n hC hl dX7_isWord_12 1 rfl ?_
    refine r_lcmp hC (by omega) (by omega) dX7_isWord_13 ?_
    refine r_c_ne (tgt := 21) hC dX7_isWord_14 (by decide) (fun c_2 => ?_) (fun c_2 => ?_)
    · skip
      refine r_iconst hC dX7_isWord_21 ?_
      exact r_zret hC hr hlk hI (by decide) ((bI_f (by omega)).symm) (rfl) dX7_isWord_22
    · skip
      refine r_iconst hC dX7_isWord_17 ?_
      refine r_goto (tgt := 22) hC dX7_isWord_18 (by decide) ?_
      exact r_zret hC hr hlk hI (by decide) ((bI_t (by omega)).symm) (rfl) dX7_isWord_22

set_option maxHeartbeats 4000000 in
set_option maxRecDepth 100000 in
theorem c_X7_kindHere (l : Launch) (X : XT) (a : Nat → Nat) (B : Nat) (S : St)  (h1 : 0 ≤ S 25 1 ∧ S 25 1 ≤ 3) (hw : -1 ≤ S 32 0 ∧ S 32 0 ≤ 1000000000000000000) : CT l X a B 1 yX7_kindHere cX7_kindHere 1 (some .int) [.ref (a (49))] S (Qi X a B (khF (S 25) (S 32 0)) (S)) := by
  refine CT.of (by decide +kernel) (Nat.le_of_ble_eq_true rfl) ?_
  intro p e s m below meth c ls hC hr hlk hI hl
  have hC : Cx p c cX7_kindHere 1 s m [.ref (a (49))].toArray RX7 X B := hC
  have hl : lv_has ls 1 [(0, .ref (a (49)))] := hl
  refine r_aload_n hC hl dX7_kindHere_0 0 rfl ?_
  refine r_ldc2 (x := (315851)) hC cl_RX7_166 (by decide) dX7_kindHere_1 ?_
  refine r_cVi hC hI hl [.long (JL (315851))] [] (c_X7_isWord l X a B S (315851) (by omega) (by omega) (by omega)) ml_RX7_168 ev_X7_isWord (rc_mo (S := S) hC hI) ⟨Nat.le_of_ble_eq_true rfl, Nat.le_of_ble_eq_true rfl⟩ ⟨Nat.zero_le _, Nat.zero_le _⟩ (Nat.le_of_ble_eq_true rfl) rfl dX7_kindHere_4 (fun H locs hI => ?_)
  refine r_b_eq (tgt := 14) hC dX7_kindHere_7 (by decide) (fun c_1 => ?_) (fun c_1 => ?_)
  · skip
    refine r_aload_n hC hl dX7_kindHere_14 0 rfl ?_
    refine r_ldc2 (x := (82516)) hC cl_RX7_172 (by decide) dX7_kindHere_15 ?_
    refine r_cVi hC hI hl [.long (JL (82516))] [] (c_X7_isWord l X a B S (82516) (by omega) (by omega) (by omega)) ml_RX7_168 ev_X7_isWord (rc_mo (S := S) hC hI) ⟨Nat.le_of_ble_eq_true rfl, Nat.le_of_ble_eq_true rfl⟩ ⟨Nat.zero_le _, Nat.zero_le _⟩ (Nat.le_of_ble_eq_true rfl) rfl dX7_kindHere_18 (fun H locs hI => ?_)
    refine r_b_eq (tgt := 28) hC dX7_kindHere_21 (by decide) (fun c_2 => ?_) (fun c_2 => ?_)
    · skip
      refine r_aload_n hC hl dX7_kindHere_28 0 rfl ?_
      refine r_ldc2 (x := (175252482)) hC cl_RX7_174 (by decide) dX7_kindHere_29 ?_
      refine r_cVi hC hI hl [.long (JL (175252482))] [] (c_X7_isWord l X a B S (175252482) (by omega) (by omega) (by omega)) ml_RX7_168 ev_X7_isWord (rc_mo (S := S) hC hI) ⟨Nat.le_of_ble_eq_true rfl, Nat.le_of_ble_eq_true rfl⟩ ⟨Nat.zero_le _, Nat.zero_le _⟩ (Nat.le_of_ble_eq_true rfl) rfl dX7_kindHere_32 (fun H locs hI => ?_)
      refine r_b_eq (tgt := 42) hC dX7_kindHere_35 (by decide) (fun c_3 => ?_) (fun c_3 => ?_)
      · skip
        refine r_aload_n hC hl dX7_kindHere_42 0 rfl ?_
        refine r_ldc2 (x := (296643787)) hC cl_RX7_176 (by decide) dX7_kindHere_43 ?_
        refine r_cVi hC hI hl [.long (JL (296643787))] [] (c_X7_isWord l X a B S (296643787) (by omega) (by omega) (by omega)) ml_RX7_168 ev_X7_isWord (rc_mo (S := S) hC hI) ⟨Nat.le_of_ble_eq_true rfl, Nat.le_of_ble_eq_true rfl⟩ ⟨Nat.zero_le _, Nat.zero_le _⟩ (Nat.le_of_ble_eq_true rfl) rfl dX7_kindHere_46 (fun H locs hI => ?_)
        refine r_b_eq (tgt := 56) hC dX7_kindHere_49 (by decide) (fun c_4 => ?_) (fun c_4 => ?_)
        · skip
          refine r_aload_n hC hl dX7_kindHere_56 0 rfl ?_
          refine r_ldc2 (x := (459606)) hC cl_RX7_178 (by decide) dX7_kindHere_57 ?_
          refine r_cVi hC hI hl [.long (JL (459606))] [] (c_X7_isWord l X a B S (459606) (by omega) (by omega) (by omega)) ml_RX7_168 ev_X7_isWord (rc_mo (S := S) hC hI) ⟨Nat.le_of_ble_eq_true rfl, Nat.le_of_ble_eq_true rfl⟩ ⟨Nat.zero_le _, Nat.zero_le _⟩ (Nat.le_of_ble_eq_true rfl) rfl dX7_kindHere_60 (fun H locs hI => ?_)
          refine r_b_eq (tgt := 70) hC dX7_kindHere_63 (by decide) (fun c_5 => ?_) (fun c_5 => ?_)
          · skip
            refine r_aload_n hC hl dX7_kindHere_70 0 rfl ?_
            refine r_ldc2 (x := (11803757)) hC cl_RX7_180 (by decide) dX7_kindHere_71 ?_
            refine r_cVi hC hI hl [.long (JL (11803757))] [] (c_X7_isWord l X a B S (11803757) (by omega) (by omega) (by omega)) ml_RX7_168 ev_X7_isWord (rc_mo (S := S) hC hI) ⟨Nat.le_of_ble_eq_true rfl, Nat.le_of_ble_eq_true rfl⟩ ⟨Nat.zero_le _, Nat.zero_le _⟩ (Nat.le_of_ble_eq_true rfl) rfl dX7_kindHere_74 (fun H locs hI => ?_)
            refine r_b_eq (tgt := 84) hC dX7_kindHere_77 (by decide) (fun c_6 => ?_) (fun c_6 => ?_)
            · skip
              refine r_iconst hC dX7_kindHere_84 ?_
              exact r_iret hC hr hlk hI (by unfold khF; (repeat' split) <;> omega) (rfl) dX7_kindHere_85
            · skip
              refine r_iconst hC dX7_kindHere_80 ?_
              refine r_goto (tgt := 85) hC dX7_kindHere_81 (by decide) ?_
              exact r_iret hC hr hlk hI (by unfold khF; (repeat' split) <;> omega) (rfl) dX7_kindHere_85
          · skip
            refine r_iconst hC dX7_kindHere_66 ?_
            refine r_goto (tgt := 85) hC dX7_kindHere_67 (by decide) ?_
            exact r_iret hC hr hlk hI (by unfold khF; (repeat' split) <;> omega) (rfl) dX7_kindHere_85
        · skip
          refine r_iconst hC dX7_kindHere_52 ?_
          refine r_goto (tgt := 85) hC dX7_kindHere_53 (by decide) ?_
          exact r_iret hC hr hlk hI (by unfold khF; (repeat' split) <;> omega) (rfl) dX7_kindHere_85
      · skip
        refine r_iconst hC dX7_kindHere_38 ?_
        refine r_goto (tgt := 85) hC dX7_kindHere_39 (by decide) ?_
        exact r_iret hC hr hlk hI (by unfold khF; (repeat' split) <;> omega) (rfl) dX7_kindHere_85
    · skip
      refine r_iconst hC dX7_kindHere_24 ?_
      refine r_goto (tgt := 85) hC dX7_kindHere_25 (by decide) ?_
      exact r_iret hC hr hlk hI (by unfold khF; (repeat' split) <;> omega) (rfl) dX7_kindHere_85
  · skip
    refine r_iconst hC dX7_kindHere_10 ?_
    refine r_goto (tgt := 85) hC dX7_kindHere_11 (by decide) ?_
    exact r_iret hC hr hlk hI (by unfold khF; (repeat' split) <;> omega) (rfl) dX7_kindHere_85

set_option maxHeartbeats 4000000 in
set_option maxRecDepth 100000 in
theorem c_X7_wantNumber (l : Launch) (X : XT) (a : Nat → Nat) (B : Nat) (S : St) (lo : Int) (hi : Int) (hM : VM (S 24) (S 25) (S 32 0)) (hlo : -2147483648 ≤ lo ∧ lo ≤ 2147483647) (hh : -2147483648 ≤ hi ∧ hi ≤ 2147483647) : CT l X a B 3 yX7_wantNumber cX7_wantNumber 4 (some .int) [.ref (a (49)), .int (J lo), .int (J hi)] S (Qi X a B (S 25 4) (up (setB S 25 (wnA (S 24) (S 25) lo hi)) 32 0 (wnW (S 24) (S 25) (S 32 0) lo hi))) := by
  refine CT.of (by decide +kernel) (Nat.le_of_ble_eq_true rfl) ?_
  intro p e s m below meth c ls hC hr hlk hI hl
  have hC : Cx p c cX7_wantNumber 4 s m [.ref (a (49)), .int (J lo), .int (J hi)].toArray RX7 X B := hC
  have hl : lv_has ls 4 [(0, .ref (a (49))), (1, .int (J lo)), (2, .int (J hi))] := hl
  obtain ⟨hL, h1, h2, h3, h4, hB, h5, hw⟩ := id hM
  refine r_aload_n hC hl dX7_wantNumber_0 0 rfl ?_
  refine g_mo  (v := .int (J (S 25 4))) hC hI 10 (by decide) fl_RX7_157 rfl rfl dX7_wantNumber_1 ?_
  refine r_istore_n (lv1 := [(3, .int (J (S 25 4))), (0, .ref (a (49))), (1, .int (J lo)), (2, .int (J hi))]) hC hl dX7_wantNumber_4 3 rfl (by decide) rfl (fun ls hl => ?_)
  refine r_aload_n hC hl dX7_wantNumber_5 1 rfl ?_
  refine r_aload_n hC hl dX7_wantNumber_6 1 rfl ?_
  refine g_mo  (v := .int (J (S 25 5))) hC hI 11 (by decide) fl_RX7_182 rfl rfl dX7_wantNumber_7 ?_
  refine r_if_eq (tgt := 34) hC (by omega) dX7_wantNumber_10 (by decide) (fun c_1 => ?_) (fun c_1 => ?_)
  · skip
    refine r_iconst hC dX7_wantNumber_34 ?_
    refine p_mo11  hC hI (by decide) fl_RX7_182 dX7_wantNumber_35 (fun H locs hI => ?_)
    refine r_aload_n hC hl dX7_wantNumber_38 1 rfl ?_
    refine g_mo  (v := .int (J 0)) hC hI 11 (by decide) fl_RX7_182 rfl (congrArg (fun z => some (Value.int (J z))) (show (up S 25 5 0) 25 5 = _ by rw [up_at])) dX7_wantNumber_39 ?_
    refine r_if_eq (tgt := 49) hC (by decide) dX7_wantNumber_42 (by decide) (fun _ => ?_) (fun z => absurd z (by decide))
    refine r_iload_n hC hl dX7_wantNumber_49 0 rfl ?_
    exact r_iret hC hr hlk hI (rfl) (by unfold wnA wnW; rw [if_neg (by omega), if_neg (by omega)]; exact up_se (S := setB S 25 (upR (S 25) 5 0)) (by rw [setB_ne _ _ (by decide)])) dX7_wantNumber_50
  · skip
    refine r_aload_n hC hl dX7_wantNumber_13 1 rfl ?_
    refine g_mo  (v := .int (J (S 25 1))) hC hI 6 (by decide) fl_RX7_150 rfl rfl dX7_wantNumber_14 ?_
    refine r_iconst hC dX7_wantNumber_17 ?_
    refine r_icmp_ne (tgt := 34) hC (by omega) (by omega) dX7_wantNumber_18 (by decide) (fun c_3 => ?_) (fun c_3 => ?_)
    · skip
      refine r_iconst hC dX7_wantNumber_34 ?_
      refine p_mo11  hC hI (by decide) fl_RX7_182 dX7_wantNumber_35 (fun H locs hI => ?_)
      refine r_aload_n hC hl dX7_wantNumber_38 1 rfl ?_
      refine g_mo  (v := .int (J 0)) hC hI 11 (by decide) fl_RX7_182 rfl (congrArg (fun z => some (Value.int (J z))) (show (up S 25 5 0) 25 5 = _ by rw [up_at])) dX7_wantNumber_39 ?_
      refine r_if_eq (tgt := 49) hC (by decide) dX7_wantNumber_42 (by decide) (fun _ => ?_) (fun z => absurd z (by decide))
      refine r_iload_n hC hl dX7_wantNumber_49 0 rfl ?_
      exact r_iret hC hr hlk hI (rfl) (by unfold wnA wnW; rw [if_neg (by omega), if_neg (by omega)]; exact up_se (S := setB S 25 (upR (S 25) 5 0)) (by rw [setB_ne _ _ (by decide)])) dX7_wantNumber_50
    · skip
      refine r_iload_n hC hl dX7_wantNumber_21 0 rfl ?_
      refine r_iload_n hC hl dX7_wantNumber_22 2 rfl ?_
      refine r_iload_n hC hl dX7_wantNumber_23 3 rfl ?_
      refine r_cSi hC hI hl [.int (J (S 25 4)), .int (J lo), .int (J hi)] [.ref (a (49))] (c_X7_in l X a B S (S 25 4) lo hi (by omega) (by omega) (by omega)) ml_RX7_45 es_X7_in ⟨Nat.le_of_ble_eq_true rfl, Nat.le_of_ble_eq_true rfl⟩ ⟨Nat.zero_le _, Nat.zero_le _⟩ (Nat.le_of_ble_eq_true rfl) rfl dX7_wantNumber_24 (fun H locs hI => ?_)
      refine r_b_eq (tgt := 34) hC dX7_wantNumber_27 (by decide) (fun c_5 => ?_) (fun c_5 => ?_)
      · skip
        refine r_iconst hC dX7_wantNumber_34 ?_
        refine p_mo11  hC hI (by decide) fl_RX7_182 dX7_wantNumber_35 (fun H locs hI => ?_)
        refine r_aload_n hC hl dX7_wantNumber_38 1 rfl ?_
        refine g_mo  (v := .int (J 0)) hC hI 11 (by decide) fl_RX7_182 rfl (congrArg (fun z => some (Value.int (J z))) (show (up S 25 5 0) 25 5 = _ by rw [up_at])) dX7_wantNumber_39 ?_
        refine r_if_eq (tgt := 49) hC (by decide) dX7_wantNumber_42 (by decide) (fun _ => ?_) (fun z => absurd z (by decide))
        refine r_iload_n hC hl dX7_wantNumber_49 0 rfl ?_
        exact r_iret hC hr hlk hI (rfl) (by unfold wnA wnW; rw [if_neg (by omega), if_neg (by omega)]; exact up_se (S := setB S 25 (upR (S 25) 5 0)) (by rw [setB_ne _ _ (by decide)])) dX7_wantNumber_50
      · skip
        refine r_iconst hC dX7_wantNumber_30 ?_
        refine r_goto (tgt := 35) hC dX7_wantNumber_31 (by decide) ?_
        refine p_mo11  hC hI (by decide) fl_RX7_182 dX7_wantNumber_35 (fun H locs hI => ?_)
        refine r_aload_n hC hl dX7_wantNumber_38 1 rfl ?_
        refine g_mo  (v := .int (J 1)) hC hI 11 (by decide) fl_RX7_182 rfl (congrArg (fun z => some (Value.int (J z))) (show (up S 25 5 1) 25 5 = _ by rw [up_at])) dX7_wantNumber_39 ?_
        refine r_if_eq (tgt := 49) hC (by decide) dX7_wantNumber_42 (by decide) (fun z => absurd z (by decide)) (fun _ => ?_)
        refine r_aload_n hC hl dX7_wantNumber_45 1 rfl ?_
        refine r_cVv hC hI hl [] [] (c_X7_advance l X a B (up S 25 5 1)  (by rw [up_nj _ _ (by decide)]; exact hL) (by rw [up_nj _ _ (by decide), up_nj _ _ (by decide)]; omega) (by rw [up_nb _ _ (by decide)]; exact hB)) ml_RX7_186 ev_X7_advance (rc_mo (S := up S 25 5 1) hC hI) ⟨Nat.le_of_ble_eq_true rfl, Nat.le_of_ble_eq_true rfl⟩ ⟨Nat.zero_le _, Nat.zero_le _⟩ (Nat.le_of_ble_eq_true rfl) rfl dX7_wantNumber_46 (fun H locs hI => ?_)
        refine r_iload_n hC hl dX7_wantNumber_49 0 rfl ?_
        exact r_iret hC hr hlk hI (rfl) (by unfold wnA wnW; rw [if_pos (by omega), if_pos (by omega), up_nb _ _ (by decide), up_b, setB_up]) dX7_wantNumber_50

theorem up_idR (R : Nat → Int) (j : Nat) : upR R j (R j) = R := by
  funext i
  by_cases h : i = j
  · subst h; rw [upR_at]
  · rw [upR_ne _ _ h]

set_option maxHeartbeats 4000000 in
set_option maxRecDepth 100000 in
theorem c_X7_wantOne (l : Launch) (X : XT) (a : Nat → Nat) (B : Nat) (S : St) (q : Int) (hV : VR 9999 (S 20)) (hM : VM (S 24) (S 25) (S 32 0)) (hq : 0 ≤ q ∧ q ≤ 5) : CT l X a B 4 yX7_wantOne cX7_wantOne 4 none [.ref (a (49)), .int (J q)] S (Qv X a B (setB (up (setB S 25 (woA (S 24) (S 25) (S 20) q)) 32 0 (woW (S 24) (S 25) (S 20) (S 32 0) q)) 20 (woR (S 24) (S 25) (S 20) q))) := by
  refine CT.of (by decide +kernel) (Nat.le_of_ble_eq_true rfl) ?_
  intro p e s m below meth c ls hC hr hlk hI hl
  have hC : Cx p c cX7_wantOne 4 s m [.ref (a (49)), .int (J q)].toArray RX7 X B := hC
  have hl : lv_has ls 4 [(0, .ref (a (49))), (1, .int (J q))] := hl
  obtain ⟨⟨hN, hBr, hBu, hIn, hLa, hPc⟩, hDk, hPg⟩ := id hV
  obtain ⟨hL, h1, h2, h3, h4, hB, h5, hw⟩ := id hM
  have hmw := mw_rg (S 20) q
  refine r_aload_n hC hl dX7_wantOne_0 0 rfl ?_
  refine r_aload_n hC hl dX7_wantOne_1 0 rfl ?_
  refine g_mo  (v := .ref (a (50))) hC hI 0 (by decide) fl_RX7_7 rfl rfl dX7_wantOne_2 ?_
  refine r_iconst hC dX7_wantOne_5 ?_
  refine r_iald (cx := 50) (n := 58) (f := (fun S => S 20) (S)) (v := S 20 5) hC hI (by decide) rfl (by decide) (5) (by omega) (by omega) rfl dX7_wantOne_6 ?_
  refine r_bipush hC (by decide) dX7_wantOne_7 ?_
  refine r_icmp_ge (tgt := 16) hC (by omega) (by omega) dX7_wantOne_9 (by decide) (fun c_1 => ?_) (fun c_1 => ?_)
  · skip
    refine r_iconst hC dX7_wantOne_16 ?_
    refine p_mo11  hC hI (by decide) fl_RX7_182 dX7_wantOne_17 (fun H locs hI => ?_)
    refine r_aload_n hC hl dX7_wantOne_20 0 rfl ?_
    refine g_mo  (v := .int (J 0)) hC hI 11 (by decide) fl_RX7_182 rfl (congrArg (fun z => some (Value.int (J z))) (show (up S 25 5 0) 25 5 = _ by rw [up_at])) dX7_wantOne_21 ?_
    refine r_if_ne (tgt := 28) hC (by decide) dX7_wantOne_24 (by decide) (fun z => absurd z (by decide)) (fun _ => ?_)
    exact r_vret hC hr hlk hI (mo_eq (by rw [up_b]; unfold woA; rw [if_neg (by omega)]) (by rw [up_nb _ _ (by decide)]; unfold woW; rw [if_neg (by omega)]) (fun j hj => by rw [up_nb _ _ (by decide)]) (by rw [up_nb _ _ (by decide)]; unfold woR; rw [if_neg (by omega)]) (fun b z1 z2 z3 => by rw [up_nb _ _ z1])) dX7_wantOne_27
  · skip
    refine r_iconst hC dX7_wantOne_12 ?_
    refine r_goto (tgt := 17) hC dX7_wantOne_13 (by decide) ?_
    refine p_mo11  hC hI (by decide) fl_RX7_182 dX7_wantOne_17 (fun H locs hI => ?_)
    refine r_aload_n hC hl dX7_wantOne_20 0 rfl ?_
    refine g_mo  (v := .int (J 1)) hC hI 11 (by decide) fl_RX7_182 rfl (congrArg (fun z => some (Value.int (J z))) (show (up S 25 5 1) 25 5 = _ by rw [up_at])) dX7_wantOne_21 ?_
    refine r_if_ne (tgt := 28) hC (by decide) dX7_wantOne_24 (by decide) (fun _ => ?_) (fun z => absurd z (by decide))
    refine r_aload_n hC hl dX7_wantOne_28 0 rfl ?_
    refine r_cVv hC hI hl [] [] (c_X7_advance l X a B (up S 25 5 1)  (by rw [up_nj _ _ (by decide)]; exact hL) (by rw [up_nj _ _ (by decide), up_nj _ _ (by decide)]; omega) (by rw [up_nb _ _ (by decide)]; exact hB)) ml_RX7_186 ev_X7_advance (rc_mo (S := up S 25 5 1) hC hI) ⟨Nat.le_of_ble_eq_true rfl, Nat.le_of_ble_eq_true rfl⟩ ⟨Nat.zero_le _, Nat.zero_le _⟩ (Nat.le_of_ble_eq_true rfl) rfl dX7_wantOne_29 (fun H locs hI => ?_)
    obtain ⟨T1, eT1⟩ : ∃ z : St, z = up (setB (up S 25 5 1) 25 (adF ((up S 25 5 1) 24) ((up S 25 5 1) 25))) 32 0 (adW ((up S 25 5 1) 24) ((up S 25 5 1) 25)) := ⟨_, rfl⟩
    rw [← eT1] at hI
    have T1A : T1 25 = o1A (S 24) (S 25) := by rw [eT1, up_nb _ _ (by decide), setB_at, up_nb _ _ (by decide), up_b]; rfl --]
    have T1W : T1 32 0 = o1W (S 24) (S 25) := by rw [eT1, up_at, up_nb _ _ (by decide), up_b]; rfl --]
    have T14 : T1 24 = S 24 := by rw [eT1, up_nb _ _ (by decide), setB_ne _ _ (by decide), up_nb _ _ (by decide)]
    have T10 : T1 20 = S 20 := by rw [eT1, up_nb _ _ (by decide), setB_ne _ _ (by decide), up_nb _ _ (by decide)]
    have T1M : VM (T1 24) (T1 25) (T1 32 0) := by rw [T14, T1A, T1W]; exact (hM.g (Or.inr rfl)).ad
    have T1o : ∀ b, b ≠ 25 → b ≠ 32 → T1 b = (up S 25 5 1) b := fun b z1 z2 => by rw [eT1, up_nb _ _ z2, setB_ne _ _ z1]
    have T1x : ∀ j, j ≠ 0 → T1 32 j = S 32 j := fun j hj => by rw [eT1, up_nj _ _ hj, setB_ne _ _ (by decide), up_nb _ _ (by decide)]
    have T15 := T1M.2.2.2.2.2.2.1
    refine r_aload_n hC hl dX7_wantOne_32 0 rfl ?_
    refine r_iconst hC dX7_wantOne_33 ?_
    refine r_aload_n hC hl dX7_wantOne_34 0 rfl ?_
    refine r_iload_n hC hl dX7_wantOne_35 1 rfl ?_
    refine r_cVi hC hI hl [.int (J q)] [.int (J 1), .ref (a (49))] (c_X7_wordsOf l X a B T1 q (by rw [T10]; exact hIn) (by omega)) ml_RX7_125 ev_X7_wordsOf (rc_mo (S := T1) hC hI) ⟨Nat.le_of_ble_eq_true rfl, Nat.le_of_ble_eq_true rfl⟩ ⟨Nat.zero_le _, Nat.zero_le _⟩ (Nat.le_of_ble_eq_true rfl) rfl dX7_wantOne_36 (fun H locs hI => ?_)
    refine r_as (y := mwF (S 20) q) hC (by rw [T10]; rfl) ?_
    refine r_cVi hC hI hl [.int (J 1), .int (J (mwF (S 20) q))] [] (c_X7_wantNumber l X a B T1 1 (mwF (S 20) q) T1M (by omega) (by omega)) ml_RX7_189 ev_X7_wantNumber (rc_mo (S := T1) hC hI) ⟨Nat.le_of_ble_eq_true rfl, Nat.le_of_ble_eq_true rfl⟩ ⟨Nat.zero_le _, Nat.zero_le _⟩ (Nat.le_of_ble_eq_true rfl) rfl dX7_wantOne_39 (fun H locs hI => ?_)
    obtain ⟨T2, eT2⟩ : ∃ z : St, z = up (setB T1 25 (wnA (T1 24) (T1 25) 1 (mwF (S 20) q))) 32 0 (wnW (T1 24) (T1 25) (T1 32 0) 1 (mwF (S 20) q)) := ⟨_, rfl⟩
    rw [← eT2] at hI
    have T2A : T2 25 = o2A (S 24) (S 25) (S 20) q := by rw [eT2, up_nb _ _ (by decide), setB_at, T14, T1A]; rfl --]
    have T2W : T2 32 0 = o2W (S 24) (S 25) (S 20) q := by rw [eT2, up_at, T14, T1A, T1W]; rfl --]
    have T24 : T2 24 = S 24 := by rw [eT2, up_nb _ _ (by decide), setB_ne _ _ (by decide), T14]
    have T20 : T2 20 = S 20 := by rw [eT2, up_nb _ _ (by decide), setB_ne _ _ (by decide), T10]
    have T2M : VM (T2 24) (T2 25) (T2 32 0) := by rw [T24, T2A, T2W]; exact wn_VM (hM.g (Or.inr rfl)).ad
    have T2o : ∀ b, b ≠ 25 → b ≠ 32 → T2 b = T1 b := fun b z1 z2 => by rw [eT2, up_nb _ _ z2, setB_ne _ _ z1]
    have T2x : ∀ j, j ≠ 0 → T2 32 j = S 32 j := fun j hj => by rw [eT2, up_nj _ _ hj, setB_ne _ _ (by decide), T1x j hj]
    have T25 := T2M.2.2.2.2.2.2.1
    have T2g : T2 25 5 = o2A (S 24) (S 25) (S 20) q 5 := by rw [T2A]
    have T2s : T2 25 1 = o2A (S 24) (S 25) (S 20) q 1 := by rw [T2A]
    refine r_as (y := o1A (S 24) (S 25) 4) hC (by rw [T1A]) ?_
    refine r_istore_n (lv1 := [(2, .int (J (o1A (S 24) (S 25) 4))), (0, .ref (a (49))), (1, .int (J q))]) hC hl dX7_wantOne_42 2 rfl (by decide) rfl (fun ls hl => ?_)
    refine r_iconst hC dX7_wantOne_43 ?_
    refine r_istore_n (lv1 := [(3, .int (J 0)), (2, .int (J (o1A (S 24) (S 25) 4))), (0, .ref (a (49))), (1, .int (J q))]) hC hl dX7_wantOne_44 3 rfl (by decide) rfl (fun ls hl => ?_)
    refine r_aload_n hC hl dX7_wantOne_45 2 rfl ?_
    refine g_mo  (v := .int (J (T2 25 5))) hC hI 11 (by decide) fl_RX7_182 rfl rfl dX7_wantOne_46 ?_
    refine r_if_eq (tgt := 68) hC (by omega) dX7_wantOne_49 (by decide) (fun c_4 => ?_) (fun c_4 => ?_)
    · skip
      refine r_aload_n hC hl dX7_wantOne_68 2 rfl ?_
      refine g_mo  (v := .int (J (T2 25 5))) hC hI 11 (by decide) fl_RX7_182 rfl rfl dX7_wantOne_69 ?_
      refine r_if_eq (tgt := 82) hC (by omega) dX7_wantOne_72 (by decide) (fun c_5 => ?_) (fun c_5 => ?_)
      · skip
        exact r_vret hC hr hlk hI (mo_eq (by rw [T2A]; unfold woA; rw [if_pos (by omega), if_neg (by omega)]) (by rw [T2W]; unfold woW; rw [if_pos (by omega), if_neg (by omega)]) T2x (by rw [T20]; unfold woR; rw [if_neg (by omega)]) (fun b z1 z2 z3 => by rw [T2o b z1 z2, T1o b z1 z2, up_nb _ _ z1])) dX7_wantOne_82
      · skip
        exfalso; omega
    · skip
      refine r_aload_n hC hl dX7_wantOne_52 2 rfl ?_
      refine r_ldc2 (x := (14432)) hC cl_RX7_192 (by decide) dX7_wantOne_53 ?_
      refine r_cVi hC hI hl [.long (JL (14432))] [] (c_X7_isWord l X a B T2 (14432) T2M.2.1 T2M.2.2.2.2.2.2.2 (by omega)) ml_RX7_168 ev_X7_isWord (rc_mo (S := T2) hC hI) ⟨Nat.le_of_ble_eq_true rfl, Nat.le_of_ble_eq_true rfl⟩ ⟨Nat.zero_le _, Nat.zero_le _⟩ (Nat.le_of_ble_eq_true rfl) rfl dX7_wantOne_56 (fun H locs hI => ?_)
      refine r_b_eq (tgt := 68) hC dX7_wantOne_59 (by decide) (fun c_6 => ?_) (fun c_6 => ?_)
      · skip
        refine r_aload_n hC hl dX7_wantOne_68 2 rfl ?_
        refine g_mo  (v := .int (J (T2 25 5))) hC hI 11 (by decide) fl_RX7_182 rfl rfl dX7_wantOne_69 ?_
        refine r_if_eq (tgt := 82) hC (by omega) dX7_wantOne_72 (by decide) (fun c_7 => ?_) (fun c_7 => ?_)
        · skip
          exfalso; omega
        · skip
          have hg := wn_g (T := S 24) (A := o1A (S 24) (S 25)) (lo := 1) (hi := mwF (S 20) q) (show o2A (S 24) (S 25) (S 20) q 5 = 1 by omega)
          refine r_aload_n hC hl dX7_wantOne_75 2 rfl ?_
          refine r_iload_n hC hl dX7_wantOne_76 3 rfl ?_
          refine r_iload_n hC hl dX7_wantOne_77 1 rfl ?_
          refine r_iload_n hC hl dX7_wantOne_78 0 rfl ?_
          refine r_cVv hC hI hl [.int (J q), .int (J (o1A (S 24) (S 25) 4)), .int (J 0)] [] (c_X7_adds l X a B T2 q (o1A (S 24) (S 25) 4) 0 (by first | (rw [T20]; exact hV) | (rw [T30]; exact hV)) (by first | (rw [T20]; omega) | (rw [T30]; omega)) (by omega) (by omega)) ml_RX7_96 ev_X7_adds (rc_mo (S := T2) hC hI) ⟨Nat.le_of_ble_eq_true rfl, Nat.le_of_ble_eq_true rfl⟩ ⟨Nat.zero_le _, Nat.zero_le _⟩ (Nat.le_of_ble_eq_true rfl) rfl dX7_wantOne_79 (fun H locs hI => ?_)
          exact r_vret hC hr hlk hI (mo_eq (by rw [setB_ne _ _ (by decide), T2A]; unfold woA; rw [if_pos (by omega), if_neg (by omega)]) (by rw [setB_ne _ _ (by decide), T2W]; unfold woW; rw [if_pos (by omega), if_neg (by omega)]) (fun j hj => by rw [setB_ne _ _ (by decide), T2x j hj]) (by rw [setB_at, T20]; unfold woR; rw [if_pos (by omega), if_neg (by omega)]) (fun b z1 z2 z3 => by rw [setB_ne _ _ z3, T2o b z1 z2, T1o b z1 z2, up_nb _ _ z1])) dX7_wantOne_82
      · skip
        refine r_aload_n hC hl dX7_wantOne_62 2 rfl ?_
        refine r_cVv hC hI hl [] [] (c_X7_advance l X a B T2  T2M.1 ⟨by have z := T2M.2.2.1; omega, T2M.2.2.2.1⟩ T2M.2.2.2.2.2.1) ml_RX7_186 ev_X7_advance (rc_mo (S := T2) hC hI) ⟨Nat.le_of_ble_eq_true rfl, Nat.le_of_ble_eq_true rfl⟩ ⟨Nat.zero_le _, Nat.zero_le _⟩ (Nat.le_of_ble_eq_true rfl) rfl dX7_wantOne_63 (fun H locs hI => ?_)
        obtain ⟨T3, eT3⟩ : ∃ z : St, z = up (setB T2 25 (adF (T2 24) (T2 25))) 32 0 (adW (T2 24) (T2 25)) := ⟨_, rfl⟩
        rw [← eT3] at hI
        have T3A : T3 25 = adF (S 24) (o2A (S 24) (S 25) (S 20) q) := by rw [eT3, up_nb _ _ (by decide), setB_at, T24, T2A]
        have T3W : T3 32 0 = adW (S 24) (o2A (S 24) (S 25) (S 20) q) := by rw [eT3, up_at, T24, T2A]
        have T34 : T3 24 = S 24 := by rw [eT3, up_nb _ _ (by decide), setB_ne _ _ (by decide), T24]
        have T30 : T3 20 = S 20 := by rw [eT3, up_nb _ _ (by decide), setB_ne _ _ (by decide), T20]
        have T3M : VM (T3 24) (T3 25) (T3 32 0) := by rw [T34, T3A, T3W]; exact (wn_VM (hM.g (Or.inr rfl)).ad).ad
        have T3o : ∀ b, b ≠ 25 → b ≠ 32 → T3 b = T2 b := fun b z1 z2 => by rw [eT3, up_nb _ _ z2, setB_ne _ _ z1]
        have T3x : ∀ j, j ≠ 0 → T3 32 j = S 32 j := fun j hj => by rw [eT3, up_nj _ _ hj, setB_ne _ _ (by decide), T2x j hj]
        have T35 := T3M.2.2.2.2.2.2.1
        have T3g : T3 25 5 = o2A (S 24) (S 25) (S 20) q 5 := by rw [T3A]; rfl
        refine r_iconst hC dX7_wantOne_66 ?_
        refine r_istore_n (lv1 := [(3, .int (J 1)), (2, .int (J (o1A (S 24) (S 25) 4))), (0, .ref (a (49))), (1, .int (J q))]) hC hl dX7_wantOne_67 3 rfl (by decide) rfl (fun ls hl => ?_)
        refine r_aload_n hC hl dX7_wantOne_68 2 rfl ?_
        refine g_mo  (v := .int (J (T3 25 5))) hC hI 11 (by decide) fl_RX7_182 rfl rfl dX7_wantOne_69 ?_
        refine r_if_eq (tgt := 82) hC (by omega) dX7_wantOne_72 (by decide) (fun c_8 => ?_) (fun c_8 => ?_)
        · skip
          exfalso; omega
        · skip
          have hg := wn_g (T := S 24) (A := o1A (S 24) (S 25)) (lo := 1) (hi := mwF (S 20) q) (show o2A (S 24) (S 25) (S 20) q 5 = 1 by omega)
          refine r_aload_n hC hl dX7_wantOne_75 2 rfl ?_
          refine r_iload_n hC hl dX7_wantOne_76 3 rfl ?_
          refine r_iload_n hC hl dX7_wantOne_77 1 rfl ?_
          refine r_iload_n hC hl dX7_wantOne_78 0 rfl ?_
          refine r_cVv hC hI hl [.int (J q), .int (J (o1A (S 24) (S 25) 4)), .int (J 1)] [] (c_X7_adds l X a B T3 q (o1A (S 24) (S 25) 4) 1 (by first | (rw [T20]; exact hV) | (rw [T30]; exact hV)) (by first | (rw [T20]; omega) | (rw [T30]; omega)) (by omega) (by omega)) ml_RX7_96 ev_X7_adds (rc_mo (S := T3) hC hI) ⟨Nat.le_of_ble_eq_true rfl, Nat.le_of_ble_eq_true rfl⟩ ⟨Nat.zero_le _, Nat.zero_le _⟩ (Nat.le_of_ble_eq_true rfl) rfl dX7_wantOne_79 (fun H locs hI => ?_)
          exact r_vret hC hr hlk hI (mo_eq (by rw [setB_ne _ _ (by decide), T3A]; unfold woA; rw [if_pos (by omega), if_pos (by omega)]) (by rw [setB_ne _ _ (by decide), T3W]; unfold woW; rw [if_pos (by omega), if_pos (by omega)]) (fun j hj => by rw [setB_ne _ _ (by decide), T3x j hj]) (by rw [setB_at, T30]; unfold woR; rw [if_pos (by omega), if_pos (by omega)]) (fun b z1 z2 z3 => by rw [setB_ne _ _ z3, T3o b z1 z2, T2o b z1 z2, T1o b z1 z2, up_nb _ _ z1])) dX7_wantOne_82

set_option maxHeartbeats 4000000 in
set_option maxRecDepth 100000 in
theorem c_X7_wantJar (l : Launch) (X : XT) (a : Nat → Nat) (B : Nat) (S : St) (z : Int) (u : Int) (hV : VR 9999 (S 20)) (hM : VM (S 24) (S 25) (S 32 0)) (hz : 0 ≤ z ∧ z ≤ 57) (hu : 0 ≤ u ∧ u ≤ 999) : CT l X a B 4 yX7_wantJar cX7_wantJar 4 none [.ref (a (49)), .int (J z), .int (J u)] S (Qv X a B (setB (up (setB S 25 (wjA (S 24) (S 25) u)) 32 0 (wjW (S 24) (S 25) u)) 20 (wjR (S 24) (S 25) (S 20) z u))) := by
  refine CT.of (by decide +kernel) (Nat.le_of_ble_eq_true rfl) ?_
  intro p e s m below meth c ls hC hr hlk hI hl
  have hC : Cx p c cX7_wantJar 4 s m [.ref (a (49)), .int (J z), .int (J u)].toArray RX7 X B := hC
  have hl : lv_has ls 4 [(0, .ref (a (49))), (1, .int (J z)), (2, .int (J u))] := hl
  obtain ⟨hL, h1, h2, h3, h4, hB, h5, hw⟩ := id hM
  refine r_aload_n hC hl dX7_wantJar_0 0 rfl ?_
  refine r_cVv hC hI hl [] [] (c_X7_advance l X a B S  hM.1 ⟨by have z := hM.2.2.1; omega, hM.2.2.2.1⟩ hM.2.2.2.2.2.1) ml_RX7_186 ev_X7_advance (rc_mo (S := S) hC hI) ⟨Nat.le_of_ble_eq_true rfl, Nat.le_of_ble_eq_true rfl⟩ ⟨Nat.zero_le _, Nat.zero_le _⟩ (Nat.le_of_ble_eq_true rfl) rfl dX7_wantJar_1 (fun H locs hI => ?_)
  obtain ⟨T1, eT1⟩ : ∃ z : St, z = up (setB S 25 (adF (S 24) (S 25))) 32 0 (adW (S 24) (S 25)) := ⟨_, rfl⟩
  rw [← eT1] at hI
  have T1A : T1 25 = adF (S 24) (S 25) := by rw [eT1, up_nb _ _ (by decide), setB_at]
  have T1W : T1 32 0 = adW (S 24) (S 25) := by rw [eT1, up_at]
  have T14 : T1 24 = S 24 := by rw [eT1, up_nb _ _ (by decide), setB_ne _ _ (by decide)]
  have T10 : T1 20 = S 20 := by rw [eT1, up_nb _ _ (by decide), setB_ne _ _ (by decide)]
  have T1M : VM (T1 24) (T1 25) (T1 32 0) := by rw [T14, T1A, T1W]; exact hM.ad
  have T1o : ∀ b, b ≠ 25 → b ≠ 32 → T1 b = S b := fun b z1 z2 => by rw [eT1, up_nb _ _ z2, setB_ne _ _ z1]
  have T1x : ∀ j, j ≠ 0 → T1 32 j = S 32 j := fun j hj => by rw [eT1, up_nj _ _ hj, setB_ne _ _ (by decide)]
  have T15 := T1M.2.2.2.2.2.2.1
  refine r_aload_n hC hl dX7_wantJar_4 0 rfl ?_
  refine r_iconst hC dX7_wantJar_5 ?_
  refine r_iload_n hC hl dX7_wantJar_6 2 rfl ?_
  refine r_cVi hC hI hl [.int (J 0), .int (J u)] [] (c_X7_wantNumber l X a B T1 0 u T1M (by omega) (by omega)) ml_RX7_189 ev_X7_wantNumber (rc_mo (S := T1) hC hI) ⟨Nat.le_of_ble_eq_true rfl, Nat.le_of_ble_eq_true rfl⟩ ⟨Nat.zero_le _, Nat.zero_le _⟩ (Nat.le_of_ble_eq_true rfl) rfl dX7_wantJar_7 (fun H locs hI => ?_)
  obtain ⟨T2, eT2⟩ : ∃ z : St, z = up (setB T1 25 (wnA (T1 24) (T1 25) 0 u)) 32 0 (wnW (T1 24) (T1 25) (T1 32 0) 0 u) := ⟨_, rfl⟩
  rw [← eT2] at hI
  have T2A : T2 25 = wjA (S 24) (S 25) u := by rw [eT2, up_nb _ _ (by decide), setB_at, T14, T1A]; rfl --]
  have T2W : T2 32 0 = wjW (S 24) (S 25) u := by rw [eT2, up_at, T14, T1A, T1W]; rfl --]
  have T24 : T2 24 = S 24 := by rw [eT2, up_nb _ _ (by decide), setB_ne _ _ (by decide), T14]
  have T20 : T2 20 = S 20 := by rw [eT2, up_nb _ _ (by decide), setB_ne _ _ (by decide), T10]
  have T2M : VM (T2 24) (T2 25) (T2 32 0) := by rw [T24, T2A, T2W]; exact wn_VM hM.ad
  have T2o : ∀ b, b ≠ 25 → b ≠ 32 → T2 b = T1 b := fun b z1 z2 => by rw [eT2, up_nb _ _ z2, setB_ne _ _ z1]
  have T2x : ∀ j, j ≠ 0 → T2 32 j = S 32 j := fun j hj => by rw [eT2, up_nj _ _ hj, setB_ne _ _ (by decide), T1x j hj]
  have T25 := T2M.2.2.2.2.2.2.1
  have T2g : T2 25 5 = wjA (S 24) (S 25) u 5 := by rw [T2A]
  refine r_as (y := adF (S 24) (S 25) 4) hC (by rw [T1A]) ?_
  refine r_istore_n (lv1 := [(3, .int (J (adF (S 24) (S 25) 4))), (0, .ref (a (49))), (1, .int (J z)), (2, .int (J u))]) hC hl dX7_wantJar_10 3 rfl (by decide) rfl (fun ls hl => ?_)
  refine r_aload_n hC hl dX7_wantJar_11 1 rfl ?_
  refine g_mo  (v := .ref (a (50))) hC hI 0 (by decide) fl_RX7_7 rfl rfl dX7_wantJar_12 ?_
  refine r_iload_n hC hl dX7_wantJar_15 2 rfl ?_
  refine r_aload_n hC hl dX7_wantJar_16 1 rfl ?_
  refine g_mo  (v := .int (J (T2 25 5))) hC hI 11 (by decide) fl_RX7_182 rfl rfl dX7_wantJar_17 ?_
  refine r_if_eq (tgt := 27) hC (by omega) dX7_wantJar_20 (by decide) (fun c_1 => ?_) (fun c_1 => ?_)
  · skip
    refine r_aload_n hC hl dX7_wantJar_27 1 rfl ?_
    refine g_mo  (v := .ref (a (50))) hC hI 0 (by decide) fl_RX7_7 rfl rfl dX7_wantJar_28 ?_
    refine r_iload_n hC hl dX7_wantJar_31 2 rfl ?_
    refine r_iald (cx := 50) (n := 58) (f := (fun S => S 20) (T2)) (v := T2 20 ((z).toNat)) hC hI (by decide) rfl (by decide) ((z).toNat) (by omega) (by omega) rfl dX7_wantJar_32 ?_
    refine r_iast (cx := 50) (n := 58) (F := fun S => S 20) hC hI (by decide) (fun _ => rfl) (by decide) ((z).toNat) (by omega) (by omega) (b := 20) (j := (z).toNat) rfl (fun q => by simp [up, setB, upR]) dX7_wantJar_33 (fun H locs hI => ?_)
    exact r_vret hC hr hlk hI (mo_eq (by rw [up_nb _ _ (by decide), T2A]) (by rw [up_nb _ _ (by decide), T2W]) (fun j hj => by rw [up_nb _ _ (by decide), T2x j hj]) (by rw [up_b, T20]; unfold wjR; rw [if_neg (by omega)]; exact up_idR _ _) (fun b z1 z2 z3 => by rw [up_nb _ _ z3, T2o b z1 z2, T1o b z1 z2])) dX7_wantJar_34
  · skip
    refine r_iload_n hC hl dX7_wantJar_23 0 rfl ?_
    refine r_goto (tgt := 33) hC dX7_wantJar_24 (by decide) ?_
    refine r_iast (cx := 50) (n := 58) (F := fun S => S 20) hC hI (by decide) (fun _ => rfl) (by decide) ((z).toNat) (by omega) (by omega) (b := 20) (j := (z).toNat) rfl (fun q => by simp [up, setB, upR]) dX7_wantJar_33 (fun H locs hI => ?_)
    exact r_vret hC hr hlk hI (mo_eq (by rw [up_nb _ _ (by decide), T2A]) (by rw [up_nb _ _ (by decide), T2W]) (fun j hj => by rw [up_nb _ _ (by decide), T2x j hj]) (by rw [up_b, T20]; unfold wjR; rw [if_pos (by omega)]) (fun b z1 z2 z3 => by rw [up_nb _ _ z3, T2o b z1 z2, T1o b z1 z2])) dX7_wantJar_34
