theorem it_rel {T A A2 R : Nat → Int} {w : Int} (h : RQ T A A2 w) (h5 : A2 5 = 1) : RQ T (itA T A R) (miA T A2 R w) (miW T A2 R w) ∧ (itO T A R = true ↔ miA T A2 R w 5 = 1) ∧ itR T A R = miR T A2 R w := by
  have hk := kd_rel h
  have hW6 : isW T A 6 ↔ A2 1 = 1 ∧ w = 79958 := h.w (by decide)
  have hW7 : isW T A 7 ↔ A2 1 = 1 ∧ w = 28120299247 := h.w (by decide)
  have hW8 : isW T A 8 ↔ A2 1 = 1 ∧ w = 6950 := h.w (by decide)
  have hW9 : isW T A 9 ↔ A2 1 = 1 ∧ w = 237292 := h.w (by decide)
  by_cases g : 0 ≤ khF A2 w
  · have gk : 0 ≤ kdF T A := by rw [hk]; exact g
    have eA : itA T A R = tpA T A R (khF A2 w) := by unfold itA; rw [if_pos gk, hk]
    have eO : itO T A R = decide (tpO T A R (khF A2 w)) := by unfold itO; rw [if_pos gk, hk]
    have eR : itR T A R = tpR T A R (khF A2 w) := by unfold itR; rw [if_pos gk, hk]
    have fA : miA T A2 R w = woA T A2 R (khF A2 w) := by unfold miA; rw [if_pos g]
    have fW : miW T A2 R w = woW T A2 R w (khF A2 w) := by unfold miW; rw [if_pos g]
    have fR : miR T A2 R w = woR T A2 R (khF A2 w) := by unfold miR; rw [if_pos g]
    obtain ⟨r1, r2, r3⟩ := tp_rel (R := R) (q := khF A2 w) h
    rw [eA, eO, eR, fA, fW, fR]
    exact ⟨r1, ⟨fun z => r2.mp (of_decide_eq_true z), fun z => decide_eq_true (r2.mpr z)⟩, r3⟩
  have ngk : ¬ 0 ≤ kdF T A := by rw [hk]; exact g
  by_cases c8 : A2 1 = 1 ∧ w = 6950
  · have n6 : ¬ isW T A 6 := fun z => by have y := hW6.mp z; omega
    have n7 : ¬ isW T A 7 := fun z => by have y := hW7.mp z; omega
    have p8 : isW T A 8 := hW8.mpr c8
    have eA : itA T A R = tjA T A 2 := by unfold itA; rw [if_neg ngk, if_neg n6, if_neg n7, if_pos p8]
    have eO : itO T A R = decide (tjO T A 2) := by unfold itO; rw [if_neg ngk, if_neg n6, if_neg n7, if_pos p8]
    have eR : itR T A R = tjR T A R 2 := by unfold itR; rw [if_neg ngk, if_neg n6, if_neg n7, if_pos p8]
    have fA : miA T A2 R w = wjA T A2 999 := by unfold miA; rw [if_neg g, if_pos c8]
    have fW : miW T A2 R w = wjW T A2 999 := by unfold miW; rw [if_neg g, if_pos c8]
    have fR : miR T A2 R w = wjR T A2 R 3 999 := by unfold miR; rw [if_neg g, if_pos c8]
    obtain ⟨r1, r2, r3⟩ := tj_rel (R := R) (u := 2) (z := 3) (m := 999) h h5 (by decide) (by decide) (by decide)
    rw [eA, eO, eR, fA, fW, fR]
    exact ⟨r1, ⟨fun z => r2.mp (of_decide_eq_true z), fun z => decide_eq_true (r2.mpr z)⟩, r3⟩
  by_cases c7 : A2 1 = 1 ∧ w = 28120299247
  · have n6 : ¬ isW T A 6 := fun z => by have y := hW6.mp z; omega
    have p7 : isW T A 7 := hW7.mpr c7
    have eA : itA T A R = tjA T A 0 := by unfold itA; rw [if_neg ngk, if_neg n6, if_pos p7]
    have eO : itO T A R = decide (tjO T A 0) := by unfold itO; rw [if_neg ngk, if_neg n6, if_pos p7]
    have eR : itR T A R = tjR T A R 0 := by unfold itR; rw [if_neg ngk, if_neg n6, if_pos p7]
    have fA : miA T A2 R w = wjA T A2 9 := by unfold miA; rw [if_neg g, if_neg c8, if_pos c7]
    have fW : miW T A2 R w = wjW T A2 9 := by unfold miW; rw [if_neg g, if_neg c8, if_pos c7]
    have fR : miR T A2 R w = wjR T A2 R 1 9 := by unfold miR; rw [if_neg g, if_neg c8, if_pos c7]
    obtain ⟨r1, r2, r3⟩ := tj_rel (R := R) (u := 0) (z := 1) (m := 9) h h5 (by decide) (by decide) (by decide)
    rw [eA, eO, eR, fA, fW, fR]
    exact ⟨r1, ⟨fun z => r2.mp (of_decide_eq_true z), fun z => decide_eq_true (r2.mpr z)⟩, r3⟩
  by_cases c9 : A2 1 = 1 ∧ w = 237292
  · have n6 : ¬ isW T A 6 := fun z => by have y := hW6.mp z; omega
    have n7 : ¬ isW T A 7 := fun z => by have y := hW7.mp z; omega
    have n8 : ¬ isW T A 8 := fun z => by have y := hW8.mp z; omega
    have p9 : isW T A 9 := hW9.mpr c9
    have eA : itA T A R = tjA T A 3 := by unfold itA; rw [if_neg ngk, if_neg n6, if_neg n7, if_neg n8, if_pos p9]
    have eO : itO T A R = decide (tjO T A 3) := by unfold itO; rw [if_neg ngk, if_neg n6, if_neg n7, if_neg n8, if_pos p9]
    have eR : itR T A R = tjR T A R 3 := by unfold itR; rw [if_neg ngk, if_neg n6, if_neg n7, if_neg n8, if_pos p9]
    have fA : miA T A2 R w = wjA T A2 9 := by unfold miA; rw [if_neg g, if_neg c8, if_neg c7, if_pos c9]
    have fW : miW T A2 R w = wjW T A2 9 := by unfold miW; rw [if_neg g, if_neg c8, if_neg c7, if_pos c9]
    have fR : miR T A2 R w = wjR T A2 R 4 9 := by unfold miR; rw [if_neg g, if_neg c8, if_neg c7, if_pos c9]
    obtain ⟨r1, r2, r3⟩ := tj_rel (R := R) (u := 3) (z := 4) (m := 9) h h5 (by decide) (by decide) (by decide)
    rw [eA, eO, eR, fA, fW, fR]
    exact ⟨r1, ⟨fun z => r2.mp (of_decide_eq_true z), fun z => decide_eq_true (r2.mpr z)⟩, r3⟩
  by_cases c6 : A2 1 = 1 ∧ w = 79958
  · have p6 : isW T A 6 := hW6.mpr c6
    have eA : itA T A R = tdA T A := by unfold itA; rw [if_neg ngk, if_pos p6]
    have eO : itO T A R = decide (tdO T A) := by unfold itO; rw [if_neg ngk, if_pos p6]
    have eR : itR T A R = tdR T A R := by unfold itR; rw [if_neg ngk, if_pos p6]
    have fA : miA T A2 R w = mdA T A2 := by unfold miA; rw [if_neg g, if_neg c8, if_neg c7, if_neg c9, if_pos c6]
    have fW : miW T A2 R w = mdW T A2 := by unfold miW; rw [if_neg g, if_neg c8, if_neg c7, if_neg c9, if_pos c6]
    have fR : miR T A2 R w = mdR T A2 R := by unfold miR; rw [if_neg g, if_neg c8, if_neg c7, if_neg c9, if_pos c6]
    obtain ⟨r1, r2, r3⟩ := td_rel (R := R) h h5
    rw [eA, eO, eR, fA, fW, fR]
    exact ⟨r1, ⟨fun z => r2.mp (of_decide_eq_true z), fun z => decide_eq_true (r2.mpr z)⟩, r3⟩
  have n6 : ¬ isW T A 6 := fun z => c6 (hW6.mp z)
  have n7 : ¬ isW T A 7 := fun z => c7 (hW7.mp z)
  have n8 : ¬ isW T A 8 := fun z => c8 (hW8.mp z)
  have n9 : ¬ isW T A 9 := fun z => c9 (hW9.mp z)
  have eA : itA T A R = A := by unfold itA; rw [if_neg ngk, if_neg n6, if_neg n7, if_neg n8, if_neg n9]
  have eO : itO T A R = false := by unfold itO; rw [if_neg ngk, if_neg n6, if_neg n7, if_neg n8, if_neg n9]
  have eR : itR T A R = R := by unfold itR; rw [if_neg ngk, if_neg n6, if_neg n7, if_neg n8, if_neg n9]
  have fA : miA T A2 R w = upR A2 5 0 := by unfold miA; rw [if_neg g, if_neg c8, if_neg c7, if_neg c9, if_neg c6]
  have fW : miW T A2 R w = w := by unfold miW; rw [if_neg g, if_neg c8, if_neg c7, if_neg c9, if_neg c6]
  have fR : miR T A2 R w = R := by unfold miR; rw [if_neg g, if_neg c8, if_neg c7, if_neg c9, if_neg c6]
  rw [eA, eO, eR, fA, fW, fR]
  exact ⟨h.g (Or.inl rfl), ⟨fun z => absurd z Bool.false_ne_true, fun z => absurd z (by rw [upR_at]; decide)⟩, rfl⟩

theorem tl_ml {T : Nat → Int} (hB : ∀ j, j < 120 → 0 ≤ T j ∧ T j ≤ 255) (R0 : Nat → Int) : ∀ (n i m : Nat) (A A2 R : Nat → Int) (w : Int), n + i = 120 → (i : Int) ≤ A2 3 → n + 1 ≤ m → VN A2 → A2 5 = 1 → RQ T A (adF T A2) (adW T A2) → (tlF T n A R ((i : Int) + 1)).1 = mtV (mlF T m A2 w R (i : Int)) ∧ (if 0 ≤ (tlF T n A R ((i : Int) + 1)).1 then (tlF T n A R ((i : Int) + 1)).2.2 else R0) = mtR (mlF T m A2 w R (i : Int)) R0
  | 0, i, m, A, A2, R, w, hi, hp, hm, hN, h5, hQ => by
    obtain ⟨m1, rfl⟩ : ∃ m1, m = m1 + 1 := ⟨m - 1, by omega⟩
    have e0 := hN.1; have e3 := hN.2.1
    have hz := zB_rg (T := T) (n := (A2 0).toNat) (p := (A2 3).toNat) (by omega)
    have s0 : adF T A2 1 = 0 := if_pos (by show (A2 0).toNat ≤ zB T (A2 0).toNat (A2 3).toNat; omega)
    have kh : khF (adF T A2) (adW T A2) = -1 := by unfold khF; (repeat' split) <;> omega
    have g : ¬ 0 ≤ khF (adF T A2) (adW T A2) := by rw [kh]; decide
    have c1 : ∀ x : Int, ¬ (adF T A2 1 = 1 ∧ adW T A2 = x) := fun x z => by have y := z.1; omega
    have fA : miA T (adF T A2) R (adW T A2) = upR (adF T A2) 5 0 := by unfold miA; rw [if_neg g, if_neg (c1 _), if_neg (c1 _), if_neg (c1 _), if_neg (c1 _)]
    have no : ¬ (miA T (adF T A2) R (adW T A2) 5 = 1 ∧ miA T (adF T A2) R (adW T A2) 1 = 3 ∧ miA T (adF T A2) R (adW T A2) 4 = 59) := fun z => by have y := z.1; rw [fA, upR_at] at y; exact absurd y (by decide)
    have no2 : ¬ (miA T (adF T A2) R (adW T A2) 5 = 1 ∧ miA T (adF T A2) R (adW T A2) 1 = 0) := fun z => by have y := z.1; rw [fA, upR_at] at y; exact absurd y (by decide)
    have hM : ((i : Int) + 1, miA T (adF T A2) R (adW T A2), miW T (adF T A2) R (adW T A2), miR T (adF T A2) R (adW T A2)) = mlF T (m1 + 1) A2 w R (i : Int) := by rw [ml_s, if_neg no]
    obtain ⟨t1, t2, t3, t4⟩ := mt_f (R0 := R0) hM no2
    have e2 : miA T (adF T A2) R (adW T A2) 2 = A 2 := by rw [fA]; exact hQ.1.2.1.symm
    have a2 := hQ.2.1.2.2.1
    rw [tl_z, t1, t3, e2]
    exact ⟨rfl, if_neg (by show ¬ 0 ≤ -1 - A 2; omega)⟩
  | n + 1, i, m, A, A2, R, w, hi, hp, hm, hN, h5, hQ => by
    obtain ⟨m1, rfl⟩ : ∃ m1, m = m1 + 1 := ⟨m - 1, by omega⟩
    have x5 : adF T A2 5 = 1 := h5
    obtain ⟨r1, r2, r3⟩ := it_rel (R := R) hQ x5
    have s1 := r1.1.2.2.2.1
    have z2 : itA T A R 2 = miA T (adF T A2) R (adW T A2) 2 := r1.1.2.1
    have a2 := r1.2.1.2.2.1
    have had : Adv (A2 3) (miA T (adF T A2) R (adW T A2)) := mi_adv hQ.2.2 (ad_adv0 hN.1 hN.2.1)
    have hstop : ¬ (miA T (adF T A2) R (adW T A2) 5 = 1 ∧ miA T (adF T A2) R (adW T A2) 1 = 3 ∧ miA T (adF T A2) R (adW T A2) 4 = 59) → ((i : Int) + 1, miA T (adF T A2) R (adW T A2), miW T (adF T A2) R (adW T A2), miR T (adF T A2) R (adW T A2)) = mlF T (m1 + 1) A2 w R (i : Int) := fun no => by rw [ml_s, if_neg no]
    rw [tl_s]
    by_cases hO : itO T A R = true
    · have k5 := r2.mp hO
      rw [if_pos hO]
      by_cases hE : itA T A R 1 = 0
      · have hE2 := s1.1.mp hE
        rw [if_pos hE]
        obtain ⟨t1, t2, t3, t4⟩ := mt_t (R0 := R0) (hstop (fun z => by have y := z.2.1; omega)) ⟨k5, hE2⟩
        rw [t1, t3, ← r3]
        exact ⟨rfl, if_pos (by show 0 ≤ (i : Int) + 1; omega)⟩
      · have hE2 : ¬ miA T (adF T A2) R (adW T A2) 1 = 0 := fun z => hE (s1.1.mpr z)
        rw [if_neg hE]
        by_cases hS : itA T A R 1 = 3
        · have hS2 := s1.2.2.2.mp hS
          rw [if_pos hS, ml_s, if_pos ⟨k5, hS2⟩, r3]
          have hadv := had.2 hE2
          have ih := tl_ml hB R0 n (i + 1) m1 (tnF T (itA T A R)) (miA T (adF T A2) R (adW T A2)) (miR T (adF T A2) R (adW T A2)) (miW T (adF T A2) R (adW T A2)) (by omega) (by omega) (by omega) r1.2.2.n k5 r1.ad
          exact ih
        · rw [if_neg hS]
          obtain ⟨t1, t2, t3, t4⟩ := mt_f (R0 := R0) (hstop (fun z => hS (s1.2.2.2.mpr z.2))) (fun z => hE2 z.2)
          rw [t1, t3, ← z2]
          exact ⟨rfl, if_neg (by show ¬ 0 ≤ -1 - itA T A R 2; omega)⟩
    · have k5 : ¬ miA T (adF T A2) R (adW T A2) 5 = 1 := fun z => hO (r2.mpr z)
      rw [if_neg hO]
      obtain ⟨t1, t2, t3, t4⟩ := mt_f (R0 := R0) (hstop (fun z => k5 z.1)) (fun z => k5 z.1)
      rw [t1, t3, ← z2]
      exact ⟨rfl, if_neg (by show ¬ 0 ≤ -1 - itA T A R 2; omega)⟩
theorem tx_rel {T A A2 R : Nat → Int} {w : Int} (hB : ∀ j, j < 120 → 0 ≤ T j ∧ T j ≤ 255) (hL : 0 ≤ A 0 ∧ A 0 ≤ 120) (e0 : A 0 = A2 0) (R0 : Nat → Int) : (tlF T 120 (tnF T (upR A 3 0)) R 1).1 = mtV (mlF T 200 (upR (upR A2 3 0) 5 1) w R 0) ∧ (if 0 ≤ (tlF T 120 (tnF T (upR A 3 0)) R 1).1 then (tlF T 120 (tnF T (upR A 3 0)) R 1).2.2 else R0) = mtR (mlF T 200 (upR (upR A2 3 0) 5 1) w R 0) R0 := by
  have hN : VN (upR (upR A2 3 0) 5 1) := ⟨by show 0 ≤ A2 0 ∧ A2 0 ≤ 120; rw [← e0]; exact hL, ⟨by show (0 : Int) ≤ 0; decide, by show (0 : Int) ≤ A2 0; rw [← e0]; exact hL.1⟩, Or.inr rfl⟩
  have hQ : RQ T (tnF T (upR A 3 0)) (adF T (upR (upR A2 3 0) 5 1)) (adW T (upR (upR A2 3 0) 5 1)) := ⟨rt_ad (A := upR A 3 0) (A2 := upR (upR A2 3 0) 5 1) hL ⟨by show (0 : Int) ≤ 0; decide, by show (0 : Int) ≤ A 0; exact hL.1⟩ hB e0 rfl, VA_0 hL hB, ad_VM hN.1 hN.2.1 hB hN.2.2⟩
  exact tl_ml hB R0 120 0 200 (tnF T (upR A 3 0)) (upR (upR A2 3 0) 5 1) R w rfl (by show (0 : Int) ≤ 0; decide) (by decide) hN rfl hQ
