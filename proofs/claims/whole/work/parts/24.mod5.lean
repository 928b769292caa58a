theorem be_step {f : Nat → Int} {n : Nat} {v : Int} (hv : f n = v) : beF f (n + 1) = if (beF f n).2 < v then ((n : Int), v) else beF f n := by
  subst hv; rfl
theorem be_rg2 {f : Nat → Int} {A : Int} (hA : -1 ≤ A) : ∀ n : Nat, (∀ i, i < n → f i ≤ A) → -1 ≤ (beF f n).2 ∧ (beF f n).2 ≤ A
  | 0, _ => by show (-1 : Int) ≤ -1 ∧ (-1 : Int) ≤ A; omega
  | n + 1, h => by
    have h1 := be_rg2 hA n (fun i hi => h i (by omega))
    have h2 := h n (by omega)
    rw [be_step rfl]
    split
    · show -1 ≤ f n ∧ f n ≤ A; omega
    · exact h1
theorem set_rt {S T : St} (t20 : T 20 = S 20) (t22 : T 22 = S 20) (eT : T = setB S 22 (S 20)) {R : Nat → Int} {U : St} (hU : U = setB T 20 R) : setB U 20 (U 22) = setB S 22 (S 20) := by
  subst hU
  rw [setB_ne _ _ (by decide), setB_setB, t22, ← t20, setB_self, t20]
  exact eT

set_option maxHeartbeats 4000000 in
set_option maxRecDepth 100000 in
theorem c_X7_white (l : Launch) (X : XT) (a : Nat → Nat) (B : Nat) (S : St) (w : Int) (hV : VR 9999 (S 20)) (hw : -2147483648 ≤ w ∧ w ≤ 2147483647) : CT l X a B 3 yX7_white cX7_white 3 (some .int) [.ref (a (49)), .int (J w)] S (Qi X a B (anF (if 0 ≤ w ∧ w < S 20 5 then onC (fsF (fun j => decide (bkP (S 20) w.toNat (j : Int) = 0)) (200 + 1) 0) else 0) (fsF (fun j => decide (bkP (S 20) w.toNat (j : Int) = 0)) (200 + 1) 0)) (if 0 ≤ w ∧ w < S 20 5 then fnF (setB S 22 (S 20)) 21 (onC (fsF (fun j => decide (bkP (S 20) w.toNat (j : Int) = 0)) (200 + 1) 0)) (setB S 22 (S 20)) else up S 21 0 (S 21 0 + 1))) := by
  refine CT.of (by decide +kernel) (Nat.le_of_ble_eq_true rfl) ?_
  intro p e s m below meth c ls hC hr hlk hI hl
  have hC : Cx p c cX7_white 3 s m [.ref (a (49)), .int (J w)].toArray RX7 X B := hC
  have hl : lv_has ls 3 [(0, .ref (a (49))), (1, .int (J w))] := hl
  obtain ⟨⟨hN, hBr, hBu, hIn, hLa, hPc⟩, hDk, hPg⟩ := id hV
  refine r_aload_n hC hl dX7_white_0 0 rfl ?_
  refine r_iload_n hC hl dX7_white_1 1 rfl ?_
  refine r_cVi hC hI hl [.int (J w)] [] (c_X7_isOne l X a B S w (by omega) (by omega)) ml_RX7_99 ev_X7_isOne (rc_mo (S := S) hC hI) ⟨Nat.le_of_ble_eq_true rfl, Nat.le_of_ble_eq_true rfl⟩ ⟨Nat.zero_le _, Nat.zero_le _⟩ (Nat.le_of_ble_eq_true rfl) rfl dX7_white_2 (fun H locs hI => ?_)
  refine r_b_ne (tgt := 15) hC dX7_white_5 (by decide) (fun c_1 => ?_) (fun c_1 => ?_)
  · skip
    refine r_aload_n hC hl dX7_white_15 0 rfl ?_
    refine r_iconst hC dX7_white_16 ?_
    refine r_aload_n hC hl dX7_white_17 0 rfl ?_
    refine g_mo  (v := .ref (a (52))) hC hI 2 (by decide) fl_RX7_16 rfl rfl dX7_white_18 ?_
    refine r_cVv hC hI hl [.int (J 1), .ref (a (52))] [] (c_X7_moveAll1 l X a B S 52 22 (by omega) (fun _ => rfl) (fun _ => rfl) (by omega) rfl) ml_RX7_117 ev_X7_moveAll (rc_mo (S := S) hC hI) ⟨Nat.le_of_ble_eq_true rfl, Nat.le_of_ble_eq_true rfl⟩ ⟨Nat.zero_le _, Nat.zero_le _⟩ (Nat.le_of_ble_eq_true rfl) rfl dX7_white_21 (fun H locs hI => ?_)
    obtain ⟨T, eT⟩ : ∃ z : St, z = setB S 22 (S 20) := ⟨_, rfl⟩
    rw [← eT] at hI
    have t20 : T 20 = S 20 := by rw [eT, setB_ne _ _ (by decide)]
    have t22 : T 22 = S 20 := by rw [eT, setB_at]
    have hVT : VR 9999 (T 20) := by rw [t20]; exact hV
    have t5 : T 20 5 = S 20 5 := by rw [t20]
    have t4 : T 20 4 = S 20 4 := by rw [t20]
    have hvp := hPg w.toNat (by omega)
    obtain ⟨h18, h19, h20, h21, h22⟩ := id hvp
    refine r_iconst hC dX7_white_24 ?_
    refine r_istore_n (lv1 := [(2, .int (J 0)), (0, .ref (a (49))), (1, .int (J w))]) hC hl dX7_white_25 2 rfl (by decide) rfl (fun ls hl => ?_)
    have hL26 : ∀ (fu : Nat) (q : Nat) (U : St) (x2 : Int), 200 + 1 - q < fu → (x2 = (q : Int)) → (q ≤ 200 + 1) → (U = setB T 20 (lgF (S 20) q)) → (fsF (fun j => decide (bkP (S 20) w.toNat (j : Int) = 0)) (200 + 1 - q) q = fsF (fun j => decide (bkP (S 20) w.toNat (j : Int) = 0)) (200 + 1) 0) → ∀ (H : Heap) (locs : List Loc) (ls : Array Slot), IS X a B s (U) H locs → lv_has ls 3 [(2, .int (J x2)), (0, .ref (a (49))), (1, .int (J w))] → W p l e (rmD 3) s m [.ref (a (49)), .int (J w)].toArray below meth c H locs 0 0 (MQ below (Qi X a B (anF (if 0 ≤ w ∧ w < S 20 5 then onC (fsF (fun j => decide (bkP (S 20) w.toNat (j : Int) = 0)) (200 + 1) 0) else 0) (fsF (fun j => decide (bkP (S 20) w.toNat (j : Int) = 0)) (200 + 1) 0)) (if 0 ≤ w ∧ w < S 20 5 then fnF (setB S 22 (S 20)) 21 (onC (fsF (fun j => decide (bkP (S 20) w.toNat (j : Int) = 0)) (200 + 1) 0)) (setB S 22 (S 20)) else up S 21 0 (S 21 0 + 1))) [.ref (a (49)), .int (J w)].toArray s 0 0 (fun q => B ≤ q)) (F0 m 26 ls []) := by
      intro fu
      induction fu with
      | zero => intro q U x2 hm; exact absurd hm (Nat.not_lt_zero _)
      | succ fu ih26 =>
        intro q U x2 hm e2 hq hU hf H locs ls hI hl
        subst e2
        have hUk : U 20 = lgF (S 20) q := by rw [hU, setB_at]
        have hVU : VR 20000 (U 20) := by rw [hUk]; exact VR_mono (by omega) (lg_VR (by omega) hV)
        have u5 : U 20 5 = S 20 5 := by rw [hUk, lg_o (by decide) (by decide) (by decide) (by omega)]
        refine r_iload_n hC hl dX7_white_26 0 rfl ?_
        refine r_sipush hC (by decide) dX7_white_27 ?_
        refine r_icmp_gt (tgt := 52) hC (by omega) (by omega) dX7_white_30 (by decide) (fun c_2 => ?_) (fun c_2 => ?_)
        · skip
          have hval : fsF (fun j => decide (bkP (S 20) w.toNat (j : Int) = 0)) (200 + 1) 0 = -1 := by rw [← hf, show 200 + 1 - q = 0 by omega]; rfl
          refine r_aload_n hC hl dX7_white_52 1 rfl ?_
          refine r_iconst hC dX7_white_53 ?_
          refine r_aload_n hC hl dX7_white_54 1 rfl ?_
          refine g_mo  (v := .ref (a (52))) hC hI 2 (by decide) fl_RX7_16 rfl rfl dX7_white_55 ?_
          refine r_cVv hC hI hl [.int (J 0), .ref (a (52))] [] (c_X7_moveAll0 l X a B U 52 22 (by omega) (fun _ => rfl) (fun _ => rfl) (by omega) rfl) ml_RX7_117 ev_X7_moveAll (rc_mo (S := U) hC hI) ⟨Nat.le_of_ble_eq_true rfl, Nat.le_of_ble_eq_true rfl⟩ ⟨Nat.zero_le _, Nat.zero_le _⟩ (Nat.le_of_ble_eq_true rfl) rfl dX7_white_58 (fun H locs hI => ?_)
          obtain ⟨Z, eZ⟩ : ∃ z : St, z = setB U 20 (U 22) := ⟨_, rfl⟩
          rw [← eZ] at hI
          have eZ2 : Z = setB S 22 (S 20) := by rw [eZ]; exact set_rt t20 t22 eT hU
          refine r_iload_n hC hl dX7_white_61 0 rfl ?_
          refine r_sipush hC (by decide) dX7_white_62 ?_
          refine r_icmp_le (tgt := 77) hC (by omega) (by omega) dX7_white_65 (by decide) (fun c_3 => ?_) (fun c_3 => ?_)
          · skip
            refine r_iload_n hC hl dX7_white_77 0 rfl ?_
            exact r_iret hC hr hlk hI (an_n (by rw [show (if 0 ≤ w ∧ w < S 20 5 then onC (fsF (fun j => decide (bkP (S 20) w.toNat (j : Int) = 0)) (200 + 1) 0) else 0) = onC (fsF (fun j => decide (bkP (S 20) w.toNat (j : Int) = 0)) (200 + 1) 0) by (repeat' split) <;> first | rfl | omega]; unfold onC; rw [if_neg (by omega)]; decide) (by omega)) (by rw [if_pos (by omega), eZ2]; exact fn_n (by unfold onC; rw [if_neg (by omega)]; decide) rfl) dX7_white_78
          · skip
            refine r_aload_n hC hl dX7_white_68 1 rfl ?_
            refine r_ldc (x := (-1000000004)) hC ct_RX7_124 (by decide) dX7_white_69 ?_
            refine r_cVi hC hI hl [.int (J (-1000000004))] [] (c_X7_finds3 l X a B Z  ) ml_RX7_57 ev_X7_finds (rc_mo (S := Z) hC hI) ⟨Nat.le_of_ble_eq_true rfl, Nat.le_of_ble_eq_true rfl⟩ ⟨Nat.zero_le _, Nat.zero_le _⟩ (Nat.le_of_ble_eq_true rfl) rfl dX7_white_71 (fun H locs hI => ?_)
            refine r_goto (tgt := 78) hC dX7_white_74 (by decide) ?_
            exact r_iret hC hr hlk hI (an_f 3 (by rw [show (if 0 ≤ w ∧ w < S 20 5 then onC (fsF (fun j => decide (bkP (S 20) w.toNat (j : Int) = 0)) (200 + 1) 0) else 0) = onC (fsF (fun j => decide (bkP (S 20) w.toNat (j : Int) = 0)) (200 + 1) 0) by (repeat' split) <;> first | rfl | omega]; unfold onC; rw [if_pos (by omega)]; rfl)) (by rw [if_pos (by omega), eZ2]; exact fn_f 3 (by unfold onC; rw [if_pos (by omega)]; rfl)) dX7_white_78
        · skip
          refine r_aload_n hC hl dX7_white_33 1 rfl ?_
          refine r_iload_n hC hl dX7_white_34 2 rfl ?_
          refine r_iconst hC dX7_white_35 ?_
          refine r_cVi hC hI hl [.int (J w), .int (J 2)] [] (c_X7_its2_i l X a B U w (by omega)) ml_RX7_64 ev_X7_its (rc_mo (S := U) hC hI) ⟨Nat.le_of_ble_eq_true rfl, Nat.le_of_ble_eq_true rfl⟩ ⟨Nat.zero_le _, Nat.zero_le _⟩ (Nat.le_of_ble_eq_true rfl) rfl dX7_white_36 (fun H locs hI => ?_)
          have hbk := bk_rg hvp (n := (q : Int)) (by omega)
          have ubk : U 20 (20 + 5 * w.toNat) = bkP (S 20) w.toNat (q : Int) := by rw [hUk, lg_b (by omega)]
          refine r_if_le (tgt := 52) hC (by omega) dX7_white_39 (by decide) (fun c_4 => ?_) (fun c_4 => ?_)
          · skip
            have hval : fsF (fun j => decide (bkP (S 20) w.toNat (j : Int) = 0)) (200 + 1) 0 = (q : Int) := by rw [← hf, show 200 + 1 - q = (200 - q) + 1 by omega, fs_t (by simp only [decide_eq_true_eq]; omega)]
            refine r_aload_n hC hl dX7_white_52 1 rfl ?_
            refine r_iconst hC dX7_white_53 ?_
            refine r_aload_n hC hl dX7_white_54 1 rfl ?_
            refine g_mo  (v := .ref (a (52))) hC hI 2 (by decide) fl_RX7_16 rfl rfl dX7_white_55 ?_
            refine r_cVv hC hI hl [.int (J 0), .ref (a (52))] [] (c_X7_moveAll0 l X a B U 52 22 (by omega) (fun _ => rfl) (fun _ => rfl) (by omega) rfl) ml_RX7_117 ev_X7_moveAll (rc_mo (S := U) hC hI) ⟨Nat.le_of_ble_eq_true rfl, Nat.le_of_ble_eq_true rfl⟩ ⟨Nat.zero_le _, Nat.zero_le _⟩ (Nat.le_of_ble_eq_true rfl) rfl dX7_white_58 (fun H locs hI => ?_)
            obtain ⟨Z, eZ⟩ : ∃ z : St, z = setB U 20 (U 22) := ⟨_, rfl⟩
            rw [← eZ] at hI
            have eZ2 : Z = setB S 22 (S 20) := by rw [eZ]; exact set_rt t20 t22 eT hU
            refine r_iload_n hC hl dX7_white_61 0 rfl ?_
            refine r_sipush hC (by decide) dX7_white_62 ?_
            refine r_icmp_le (tgt := 77) hC (by omega) (by omega) dX7_white_65 (by decide) (fun c_5 => ?_) (fun c_5 => ?_)
            · skip
              refine r_iload_n hC hl dX7_white_77 0 rfl ?_
              exact r_iret hC hr hlk hI (an_n (by rw [show (if 0 ≤ w ∧ w < S 20 5 then onC (fsF (fun j => decide (bkP (S 20) w.toNat (j : Int) = 0)) (200 + 1) 0) else 0) = onC (fsF (fun j => decide (bkP (S 20) w.toNat (j : Int) = 0)) (200 + 1) 0) by (repeat' split) <;> first | rfl | omega]; unfold onC; rw [if_neg (by omega)]; decide) (by omega)) (by rw [if_pos (by omega), eZ2]; exact fn_n (by unfold onC; rw [if_neg (by omega)]; decide) rfl) dX7_white_78
            · skip
              refine r_aload_n hC hl dX7_white_68 1 rfl ?_
              refine r_ldc (x := (-1000000004)) hC ct_RX7_124 (by decide) dX7_white_69 ?_
              refine r_cVi hC hI hl [.int (J (-1000000004))] [] (c_X7_finds3 l X a B Z  ) ml_RX7_57 ev_X7_finds (rc_mo (S := Z) hC hI) ⟨Nat.le_of_ble_eq_true rfl, Nat.le_of_ble_eq_true rfl⟩ ⟨Nat.zero_le _, Nat.zero_le _⟩ (Nat.le_of_ble_eq_true rfl) rfl dX7_white_71 (fun H locs hI => ?_)
              refine r_goto (tgt := 78) hC dX7_white_74 (by decide) ?_
              exact r_iret hC hr hlk hI (an_f 3 (by rw [show (if 0 ≤ w ∧ w < S 20 5 then onC (fsF (fun j => decide (bkP (S 20) w.toNat (j : Int) = 0)) (200 + 1) 0) else 0) = onC (fsF (fun j => decide (bkP (S 20) w.toNat (j : Int) = 0)) (200 + 1) 0) by (repeat' split) <;> first | rfl | omega]; unfold onC; rw [if_pos (by omega)]; rfl)) (by rw [if_pos (by omega), eZ2]; exact fn_f 3 (by unfold onC; rw [if_pos (by omega)]; rfl)) dX7_white_78
          · skip
            refine r_aload_n hC hl dX7_white_42 1 rfl ?_
            refine r_cVv hC hI hl [] [] (c_X7_oneNight l X a B U  hVU) ml_RX7_110 ev_X7_oneNight (rc_mo (S := U) hC hI) ⟨Nat.le_of_ble_eq_true rfl, Nat.le_of_ble_eq_true rfl⟩ ⟨Nat.zero_le _, Nat.zero_le _⟩ (Nat.le_of_ble_eq_true rfl) rfl dX7_white_43 (fun H locs hI => ?_)
            refine r_iinc (lv1 := [(2, .int (J ((q : Int) + 1))), (0, .ref (a (49))), (1, .int (J w))]) hC hl dX7_white_46 0 rfl (by decide) rfl (fun ls hl => ?_)
            refine r_goto (tgt := 26) hC dX7_white_49 (by decide) ?_
            have hf2 : fsF (fun j => decide (bkP (S 20) w.toNat (j : Int) = 0)) (200 + 1 - (q + 1)) (q + 1) = fsF (fun j => decide (bkP (S 20) w.toNat (j : Int) = 0)) (200 + 1) 0 := by
              rw [← hf, show 200 + 1 - q = (200 + 1 - (q + 1)) + 1 by omega, fs_f (by simp only [decide_eq_true_eq]; omega)]
            exact ih26 (q + 1) (setB U 20 (niF (U 20))) ((q : Int) + 1) (by omega) (by omega) (by omega) (by rw [hUk, hU, setB_setB, ni_lg (by omega) hV]) hf2 _ _ _ hI (lv_sub hl [0, 1, 2] rfl)
    exact hL26 _ 0 T 0 (Nat.lt_succ_self _) (by omega) (by omega) (by rw [lg_id hV, ← t20, setB_self]) rfl _ _ _ hI (lv_sub hl [0, 1, 2] rfl)
  · skip
    refine r_aload_n hC hl dX7_white_8 0 rfl ?_
    refine r_ldc (x := (-1000000001)) hC ct_RX7_44 (by decide) dX7_white_9 ?_
    refine r_cVi hC hI hl [.int (J (-1000000001))] [] (c_X7_finds0 l X a B S  ) ml_RX7_57 ev_X7_finds (rc_mo (S := S) hC hI) ⟨Nat.le_of_ble_eq_true rfl, Nat.le_of_ble_eq_true rfl⟩ ⟨Nat.zero_le _, Nat.zero_le _⟩ (Nat.le_of_ble_eq_true rfl) rfl dX7_white_11 (fun H locs hI => ?_)
    exact r_iret hC hr hlk hI (an_f 0 (by (repeat' split) <;> first | rfl | omega)) ((if_neg (by omega)).symm) dX7_white_14

set_option maxHeartbeats 4000000 in
set_option maxRecDepth 100000 in
theorem c_X7_comes (l : Launch) (X : XT) (a : Nat → Nat) (B : Nat) (S : St) (w : Int) (hV : VR 9999 (S 20)) (hw : -2147483648 ≤ w ∧ w ≤ 2147483647) : CT l X a B 3 yX7_comes cX7_comes 3 (some .int) [.ref (a (49)), .int (J w)] S (Qi X a B (anF (if 0 ≤ w ∧ w ≤ 999 then onC (fsF (fun j => decide (w ≤ iwF (S 20) (S 20 2 + S 20 1 * sumF (dkF (S 20)) j))) (200 + 1) 0) else 0) (fsF (fun j => decide (w ≤ iwF (S 20) (S 20 2 + S 20 1 * sumF (dkF (S 20)) j))) (200 + 1) 0)) (if 0 ≤ w ∧ w ≤ 999 then fnF (setB S 22 (S 20)) 21 (onC (fsF (fun j => decide (w ≤ iwF (S 20) (S 20 2 + S 20 1 * sumF (dkF (S 20)) j))) (200 + 1) 0)) (setB S 22 (S 20)) else up S 21 0 (S 21 0 + 1))) := by
  refine CT.of (by decide +kernel) (Nat.le_of_ble_eq_true rfl) ?_
  intro p e s m below meth c ls hC hr hlk hI hl
  have hC : Cx p c cX7_comes 3 s m [.ref (a (49)), .int (J w)].toArray RX7 X B := hC
  have hl : lv_has ls 3 [(0, .ref (a (49))), (1, .int (J w))] := hl
  obtain ⟨⟨hN, hBr, hBu, hIn, hLa, hPc⟩, hDk, hPg⟩ := id hV
  refine r_iload_n hC hl dX7_comes_0 1 rfl ?_
  refine r_iconst hC dX7_comes_1 ?_
  refine r_sipush hC (by decide) dX7_comes_2 ?_
  refine r_cSi hC hI hl [.int (J w), .int (J 0), .int (J 999)] [] (c_X7_in l X a B S w 0 999 (by omega) (by omega) (by omega)) ml_RX7_45 es_X7_in ⟨Nat.le_of_ble_eq_true rfl, Nat.le_of_ble_eq_true rfl⟩ ⟨Nat.zero_le _, Nat.zero_le _⟩ (Nat.le_of_ble_eq_true rfl) rfl dX7_comes_5 (fun H locs hI => ?_)
  refine r_b_ne (tgt := 18) hC dX7_comes_8 (by decide) (fun c_1 => ?_) (fun c_1 => ?_)
  · skip
    refine r_aload_n hC hl dX7_comes_18 0 rfl ?_
    refine r_iconst hC dX7_comes_19 ?_
    refine r_aload_n hC hl dX7_comes_20 0 rfl ?_
    refine g_mo  (v := .ref (a (52))) hC hI 2 (by decide) fl_RX7_16 rfl rfl dX7_comes_21 ?_
    refine r_cVv hC hI hl [.int (J 1), .ref (a (52))] [] (c_X7_moveAll1 l X a B S 52 22 (by omega) (fun _ => rfl) (fun _ => rfl) (by omega) rfl) ml_RX7_117 ev_X7_moveAll (rc_mo (S := S) hC hI) ⟨Nat.le_of_ble_eq_true rfl, Nat.le_of_ble_eq_true rfl⟩ ⟨Nat.zero_le _, Nat.zero_le _⟩ (Nat.le_of_ble_eq_true rfl) rfl dX7_comes_24 (fun H locs hI => ?_)
    obtain ⟨T, eT⟩ : ∃ z : St, z = setB S 22 (S 20) := ⟨_, rfl⟩
    rw [← eT] at hI
    have t20 : T 20 = S 20 := by rw [eT, setB_ne _ _ (by decide)]
    have t22 : T 22 = S 20 := by rw [eT, setB_at]
    have hVT : VR 9999 (T 20) := by rw [t20]; exact hV
    have t5 : T 20 5 = S 20 5 := by rw [t20]
    have t4 : T 20 4 = S 20 4 := by rw [t20]
    refine r_iconst hC dX7_comes_27 ?_
    refine r_istore_n (lv1 := [(2, .int (J 0)), (0, .ref (a (49))), (1, .int (J w))]) hC hl dX7_comes_28 2 rfl (by decide) rfl (fun ls hl => ?_)
    have hL29 : ∀ (fu : Nat) (q : Nat) (U : St) (x2 : Int), 200 + 1 - q < fu → (x2 = (q : Int)) → (q ≤ 200 + 1) → (U = setB T 20 (lgF (S 20) q)) → (fsF (fun j => decide (w ≤ iwF (S 20) (S 20 2 + S 20 1 * sumF (dkF (S 20)) j))) (200 + 1 - q) q = fsF (fun j => decide (w ≤ iwF (S 20) (S 20 2 + S 20 1 * sumF (dkF (S 20)) j))) (200 + 1) 0) → ∀ (H : Heap) (locs : List Loc) (ls : Array Slot), IS X a B s (U) H locs → lv_has ls 3 [(2, .int (J x2)), (0, .ref (a (49))), (1, .int (J w))] → W p l e (rmD 3) s m [.ref (a (49)), .int (J w)].toArray below meth c H locs 0 0 (MQ below (Qi X a B (anF (if 0 ≤ w ∧ w ≤ 999 then onC (fsF (fun j => decide (w ≤ iwF (S 20) (S 20 2 + S 20 1 * sumF (dkF (S 20)) j))) (200 + 1) 0) else 0) (fsF (fun j => decide (w ≤ iwF (S 20) (S 20 2 + S 20 1 * sumF (dkF (S 20)) j))) (200 + 1) 0)) (if 0 ≤ w ∧ w ≤ 999 then fnF (setB S 22 (S 20)) 21 (onC (fsF (fun j => decide (w ≤ iwF (S 20) (S 20 2 + S 20 1 * sumF (dkF (S 20)) j))) (200 + 1) 0)) (setB S 22 (S 20)) else up S 21 0 (S 21 0 + 1))) [.ref (a (49)), .int (J w)].toArray s 0 0 (fun q => B ≤ q)) (F0 m 29 ls []) := by
      intro fu
      induction fu with
      | zero => intro q U x2 hm; exact absurd hm (Nat.not_lt_zero _)
      | succ fu ih29 =>
        intro q U x2 hm e2 hq hU hf H locs ls hI hl
        subst e2
        have hUk : U 20 = lgF (S 20) q := by rw [hU, setB_at]
        have hVU : VR 20000 (U 20) := by rw [hUk]; exact VR_mono (by omega) (lg_VR (by omega) hV)
        have u5 : U 20 5 = S 20 5 := by rw [hUk, lg_o (by decide) (by decide) (by decide) (by omega)]
        have u3 : U 20 3 = iwF (S 20) (S 20 2 + S 20 1 * sumF (dkF (S 20)) q) := by rw [hUk, lg_3]
        have hiw := iw_rg hV (bw_rg hV hBr (n := q) (by omega))
        refine r_iload_n hC hl dX7_comes_29 0 rfl ?_
        refine r_sipush hC (by decide) dX7_comes_30 ?_
        refine r_icmp_gt (tgt := 56) hC (by omega) (by omega) dX7_comes_33 (by decide) (fun c_2 => ?_) (fun c_2 => ?_)
        · skip
          have hval : fsF (fun j => decide (w ≤ iwF (S 20) (S 20 2 + S 20 1 * sumF (dkF (S 20)) j))) (200 + 1) 0 = -1 := by rw [← hf, show 200 + 1 - q = 0 by omega]; rfl
          refine r_aload_n hC hl dX7_comes_56 1 rfl ?_
          refine r_iconst hC dX7_comes_57 ?_
          refine r_aload_n hC hl dX7_comes_58 1 rfl ?_
          refine g_mo  (v := .ref (a (52))) hC hI 2 (by decide) fl_RX7_16 rfl rfl dX7_comes_59 ?_
          refine r_cVv hC hI hl [.int (J 0), .ref (a (52))] [] (c_X7_moveAll0 l X a B U 52 22 (by omega) (fun _ => rfl) (fun _ => rfl) (by omega) rfl) ml_RX7_117 ev_X7_moveAll (rc_mo (S := U) hC hI) ⟨Nat.le_of_ble_eq_true rfl, Nat.le_of_ble_eq_true rfl⟩ ⟨Nat.zero_le _, Nat.zero_le _⟩ (Nat.le_of_ble_eq_true rfl) rfl dX7_comes_62 (fun H locs hI => ?_)
          obtain ⟨Z, eZ⟩ : ∃ z : St, z = setB U 20 (U 22) := ⟨_, rfl⟩
          rw [← eZ] at hI
          have eZ2 : Z = setB S 22 (S 20) := by rw [eZ]; exact set_rt t20 t22 eT hU
          refine r_iload_n hC hl dX7_comes_65 0 rfl ?_
          refine r_sipush hC (by decide) dX7_comes_66 ?_
          refine r_icmp_le (tgt := 81) hC (by omega) (by omega) dX7_comes_69 (by decide) (fun c_3 => ?_) (fun c_3 => ?_)
          · skip
            refine r_iload_n hC hl dX7_comes_81 0 rfl ?_
            exact r_iret hC hr hlk hI (an_n (by rw [show (if 0 ≤ w ∧ w ≤ 999 then onC (fsF (fun j => decide (w ≤ iwF (S 20) (S 20 2 + S 20 1 * sumF (dkF (S 20)) j))) (200 + 1) 0) else 0) = onC (fsF (fun j => decide (w ≤ iwF (S 20) (S 20 2 + S 20 1 * sumF (dkF (S 20)) j))) (200 + 1) 0) by (repeat' split) <;> first | rfl | omega]; unfold onC; rw [if_neg (by omega)]; decide) (by omega)) (by rw [if_pos (by omega), eZ2]; exact fn_n (by unfold onC; rw [if_neg (by omega)]; decide) rfl) dX7_comes_82
          · skip
            refine r_aload_n hC hl dX7_comes_72 1 rfl ?_
            refine r_ldc (x := (-1000000004)) hC ct_RX7_124 (by decide) dX7_comes_73 ?_
            refine r_cVi hC hI hl [.int (J (-1000000004))] [] (c_X7_finds3 l X a B Z  ) ml_RX7_57 ev_X7_finds (rc_mo (S := Z) hC hI) ⟨Nat.le_of_ble_eq_true rfl, Nat.le_of_ble_eq_true rfl⟩ ⟨Nat.zero_le _, Nat.zero_le _⟩ (Nat.le_of_ble_eq_true rfl) rfl dX7_comes_75 (fun H locs hI => ?_)
            refine r_goto (tgt := 82) hC dX7_comes_78 (by decide) ?_
            exact r_iret hC hr hlk hI (an_f 3 (by rw [show (if 0 ≤ w ∧ w ≤ 999 then onC (fsF (fun j => decide (w ≤ iwF (S 20) (S 20 2 + S 20 1 * sumF (dkF (S 20)) j))) (200 + 1) 0) else 0) = onC (fsF (fun j => decide (w ≤ iwF (S 20) (S 20 2 + S 20 1 * sumF (dkF (S 20)) j))) (200 + 1) 0) by (repeat' split) <;> first | rfl | omega]; unfold onC; rw [if_pos (by omega)]; rfl)) (by rw [if_pos (by omega), eZ2]; exact fn_f 3 (by unfold onC; rw [if_pos (by omega)]; rfl)) dX7_comes_82
        · skip
          refine r_aload_n hC hl dX7_comes_36 1 rfl ?_
          refine g_mo  (v := .ref (a (50))) hC hI 0 (by decide) fl_RX7_7 rfl rfl dX7_comes_37 ?_
          refine r_iconst hC dX7_comes_40 ?_
          refine r_iald (cx := 50) (n := 58) (f := (fun S => S 20) (U)) (v := U 20 3) hC hI (by decide) rfl (by decide) (3) (by omega) (by omega) rfl dX7_comes_41 ?_
          refine r_iload_n hC hl dX7_comes_42 2 rfl ?_
          refine r_icmp_ge (tgt := 56) hC (by omega) (by omega) dX7_comes_43 (by decide) (fun c_4 => ?_) (fun c_4 => ?_)
          · skip
            have hval : fsF (fun j => decide (w ≤ iwF (S 20) (S 20 2 + S 20 1 * sumF (dkF (S 20)) j))) (200 + 1) 0 = (q : Int) := by rw [← hf, show 200 + 1 - q = (200 - q) + 1 by omega, fs_t (by simp only [decide_eq_true_eq]; omega)]
            refine r_aload_n hC hl dX7_comes_56 1 rfl ?_
            refine r_iconst hC dX7_comes_57 ?_
            refine r_aload_n hC hl dX7_comes_58 1 rfl ?_
            refine g_mo  (v := .ref (a (52))) hC hI 2 (by decide) fl_RX7_16 rfl rfl dX7_comes_59 ?_
            refine r_cVv hC hI hl [.int (J 0), .ref (a (52))] [] (c_X7_moveAll0 l X a B U 52 22 (by omega) (fun _ => rfl) (fun _ => rfl) (by omega) rfl) ml_RX7_117 ev_X7_moveAll (rc_mo (S := U) hC hI) ⟨Nat.le_of_ble_eq_true rfl, Nat.le_of_ble_eq_true rfl⟩ ⟨Nat.zero_le _, Nat.zero_le _⟩ (Nat.le_of_ble_eq_true rfl) rfl dX7_comes_62 (fun H locs hI => ?_)
            obtain ⟨Z, eZ⟩ : ∃ z : St, z = setB U 20 (U 22) := ⟨_, rfl⟩
            rw [← eZ] at hI
            have eZ2 : Z = setB S 22 (S 20) := by rw [eZ]; exact set_rt t20 t22 eT hU
            refine r_iload_n hC hl dX7_comes_65 0 rfl ?_
            refine r_sipush hC (by decide) dX7_comes_66 ?_
            refine r_icmp_le (tgt := 81) hC (by omega) (by omega) dX7_comes_69 (by decide) (fun c_5 => ?_) (fun c_5 => ?_)
            · skip
              refine r_iload_n hC hl dX7_comes_81 0 rfl ?_
              exact r_iret hC hr hlk hI (an_n (by rw [show (if 0 ≤ w ∧ w ≤ 999 then onC (fsF (fun j => decide (w ≤ iwF (S 20) (S 20 2 + S 20 1 * sumF (dkF (S 20)) j))) (200 + 1) 0) else 0) = onC (fsF (fun j => decide (w ≤ iwF (S 20) (S 20 2 + S 20 1 * sumF (dkF (S 20)) j))) (200 + 1) 0) by (repeat' split) <;> first | rfl | omega]; unfold onC; rw [if_neg (by omega)]; decide) (by omega)) (by rw [if_pos (by omega), eZ2]; exact fn_n (by unfold onC; rw [if_neg (by omega)]; decide) rfl) dX7_comes_82
            · skip
              refine r_aload_n hC hl dX7_comes_72 1 rfl ?_
              refine r_ldc (x := (-1000000004)) hC ct_RX7_124 (by decide) dX7_comes_73 ?_
              refine r_cVi hC hI hl [.int (J (-1000000004))] [] (c_X7_finds3 l X a B Z  ) ml_RX7_57 ev_X7_finds (rc_mo (S := Z) hC hI) ⟨Nat.le_of_ble_eq_true rfl, Nat.le_of_ble_eq_true rfl⟩ ⟨Nat.zero_le _, Nat.zero_le _⟩ (Nat.le_of_ble_eq_true rfl) rfl dX7_comes_75 (fun H locs hI => ?_)
              refine r_goto (tgt := 82) hC dX7_comes_78 (by decide) ?_
              exact r_iret hC hr hlk hI (an_f 3 (by rw [show (if 0 ≤ w ∧ w ≤ 999 then onC (fsF (fun j => decide (w ≤ iwF (S 20) (S 20 2 + S 20 1 * sumF (dkF (S 20)) j))) (200 + 1) 0) else 0) = onC (fsF (fun j => decide (w ≤ iwF (S 20) (S 20 2 + S 20 1 * sumF (dkF (S 20)) j))) (200 + 1) 0) by (repeat' split) <;> first | rfl | omega]; unfold onC; rw [if_pos (by omega)]; rfl)) (by rw [if_pos (by omega), eZ2]; exact fn_f 3 (by unfold onC; rw [if_pos (by omega)]; rfl)) dX7_comes_82
          · skip
            refine r_aload_n hC hl dX7_comes_46 1 rfl ?_
            refine r_cVv hC hI hl [] [] (c_X7_oneNight l X a B U  hVU) ml_RX7_110 ev_X7_oneNight (rc_mo (S := U) hC hI) ⟨Nat.le_of_ble_eq_true rfl, Nat.le_of_ble_eq_true rfl⟩ ⟨Nat.zero_le _, Nat.zero_le _⟩ (Nat.le_of_ble_eq_true rfl) rfl dX7_comes_47 (fun H locs hI => ?_)
            refine r_iinc (lv1 := [(2, .int (J ((q : Int) + 1))), (0, .ref (a (49))), (1, .int (J w))]) hC hl dX7_comes_50 0 rfl (by decide) rfl (fun ls hl => ?_)
            refine r_goto (tgt := 29) hC dX7_comes_53 (by decide) ?_
            have hf2 : fsF (fun j => decide (w ≤ iwF (S 20) (S 20 2 + S 20 1 * sumF (dkF (S 20)) j))) (200 + 1 - (q + 1)) (q + 1) = fsF (fun j => decide (w ≤ iwF (S 20) (S 20 2 + S 20 1 * sumF (dkF (S 20)) j))) (200 + 1) 0 := by
              rw [← hf, show 200 + 1 - q = (200 + 1 - (q + 1)) + 1 by omega, fs_f (by simp only [decide_eq_true_eq]; omega)]
            exact ih29 (q + 1) (setB U 20 (niF (U 20))) ((q : Int) + 1) (by omega) (by omega) (by omega) (by rw [hUk, hU, setB_setB, ni_lg (by omega) hV]) hf2 _ _ _ hI (lv_sub hl [0, 1, 2] rfl)
    exact hL29 _ 0 T 0 (Nat.lt_succ_self _) (by omega) (by omega) (by rw [lg_id hV, ← t20, setB_self]) rfl _ _ _ hI (lv_sub hl [0, 1, 2] rfl)
  · skip
    refine r_aload_n hC hl dX7_comes_11 0 rfl ?_
    refine r_ldc (x := (-1000000001)) hC ct_RX7_44 (by decide) dX7_comes_12 ?_
    refine r_cVi hC hI hl [.int (J (-1000000001))] [] (c_X7_finds0 l X a B S  ) ml_RX7_57 ev_X7_finds (rc_mo (S := S) hC hI) ⟨Nat.le_of_ble_eq_true rfl, Nat.le_of_ble_eq_true rfl⟩ ⟨Nat.zero_le _, Nat.zero_le _⟩ (Nat.le_of_ble_eq_true rfl) rfl dX7_comes_14 (fun H locs hI => ?_)
    exact r_iret hC hr hlk hI (an_f 0 (by (repeat' split) <;> first | rfl | omega)) ((if_neg (by omega)).symm) dX7_comes_17

set_option maxHeartbeats 4000000 in
set_option maxRecDepth 100000 in
theorem c_X7_when (l : Launch) (X : XT) (a : Nat → Nat) (B : Nat) (S : St) (w : Int) (v : Int) (hV : VR 9999 (S 20)) (hw : -2147483648 ≤ w ∧ w ≤ 2147483647) (hv : -2147483648 ≤ v ∧ v ≤ 2147483647) : CT l X a B 3 yX7_when cX7_when 7 (some .int) [.ref (a (49)), .int (J w), .int (J v)] S (Qi X a B (anF (if (0 ≤ w ∧ w ≤ 5) ∧ 1 ≤ v ∧ v ≤ 99 then onC ((beF (fun j => if csF w v ≤ iwF (S 20) (S 20 2 + S 20 1 * sumF (dkF (S 20)) j) then tkF w (dkF (S 20) j) else -1) 12).1) else 0) ((beF (fun j => if csF w v ≤ iwF (S 20) (S 20 2 + S 20 1 * sumF (dkF (S 20)) j) then tkF w (dkF (S 20) j) else -1) 12).1)) (if (0 ≤ w ∧ w ≤ 5) ∧ 1 ≤ v ∧ v ≤ 99 then fnF (setB S 22 (S 20)) 21 (onC ((beF (fun j => if csF w v ≤ iwF (S 20) (S 20 2 + S 20 1 * sumF (dkF (S 20)) j) then tkF w (dkF (S 20) j) else -1) 12).1)) (setB S 22 (S 20)) else up S 21 0 (S 21 0 + 1))) := by
  refine CT.of (by decide +kernel) (Nat.le_of_ble_eq_true rfl) ?_
  intro p e s m below meth c ls hC hr hlk hI hl
  have hC : Cx p c cX7_when 7 s m [.ref (a (49)), .int (J w), .int (J v)].toArray RX7 X B := hC
  have hl : lv_has ls 7 [(0, .ref (a (49))), (1, .int (J w)), (2, .int (J v))] := hl
  obtain ⟨⟨hN, hBr, hBu, hIn, hLa, hPc⟩, hDk, hPg⟩ := id hV
  refine r_iload_n hC hl dX7_when_0 1 rfl ?_
  refine r_cSi hC hI hl [.int (J w)] [] (c_X7_isKind l X a B S w (by omega)) ml_RX7_90 es_X7_isKind ⟨Nat.le_of_ble_eq_true rfl, Nat.le_of_ble_eq_true rfl⟩ ⟨Nat.zero_le _, Nat.zero_le _⟩ (Nat.le_of_ble_eq_true rfl) rfl dX7_when_1 (fun H locs hI => ?_)
  refine r_b_eq (tgt := 17) hC dX7_when_4 (by decide) (fun c_1 => ?_) (fun c_1 => ?_)
  · skip
    refine r_aload_n hC hl dX7_when_17 0 rfl ?_
    refine r_ldc (x := (-1000000001)) hC ct_RX7_44 (by decide) dX7_when_18 ?_
    refine r_cVi hC hI hl [.int (J (-1000000001))] [] (c_X7_finds0 l X a B S  ) ml_RX7_57 ev_X7_finds (rc_mo (S := S) hC hI) ⟨Nat.le_of_ble_eq_true rfl, Nat.le_of_ble_eq_true rfl⟩ ⟨Nat.zero_le _, Nat.zero_le _⟩ (Nat.le_of_ble_eq_true rfl) rfl dX7_when_20 (fun H locs hI => ?_)
    exact r_iret hC hr hlk hI (an_f 0 (by (repeat' split) <;> first | rfl | omega)) ((if_neg (by omega)).symm) dX7_when_23
  · skip
    refine r_iload_n hC hl dX7_when_7 2 rfl ?_
    refine r_iconst hC dX7_when_8 ?_
    refine r_bipush hC (by decide) dX7_when_9 ?_
    refine r_cSi hC hI hl [.int (J v), .int (J 1), .int (J 99)] [] (c_X7_in l X a B S v 1 99 (by omega) (by omega) (by omega)) ml_RX7_45 es_X7_in ⟨Nat.le_of_ble_eq_true rfl, Nat.le_of_ble_eq_true rfl⟩ ⟨Nat.zero_le _, Nat.zero_le _⟩ (Nat.le_of_ble_eq_true rfl) rfl dX7_when_11 (fun H locs hI => ?_)
    refine r_b_ne (tgt := 24) hC dX7_when_14 (by decide) (fun c_2 => ?_) (fun c_2 => ?_)
    · skip
      refine r_iconst hC dX7_when_24 ?_
      refine r_istore_n (lv1 := [(3, .int (J (-1))), (0, .ref (a (49))), (1, .int (J w)), (2, .int (J v))]) hC hl dX7_when_25 3 rfl (by decide) rfl (fun ls hl => ?_)
      refine r_iconst hC dX7_when_26 ?_
      refine r_istore (lv1 := [(4, .int (J (-1))), (3, .int (J (-1))), (0, .ref (a (49))), (1, .int (J w)), (2, .int (J v))]) hC hl dX7_when_27 (by decide) rfl (fun ls hl => ?_)
      refine r_aload_n hC hl dX7_when_29 2 rfl ?_
      refine r_iconst hC dX7_when_30 ?_
      refine r_aload_n hC hl dX7_when_31 2 rfl ?_
      refine g_mo  (v := .ref (a (52))) hC hI 2 (by decide) fl_RX7_16 rfl rfl dX7_when_32 ?_
      refine r_cVv hC hI hl [.int (J 1), .ref (a (52))] [] (c_X7_moveAll1 l X a B S 52 22 (by omega) (fun _ => rfl) (fun _ => rfl) (by omega) rfl) ml_RX7_117 ev_X7_moveAll (rc_mo (S := S) hC hI) ⟨Nat.le_of_ble_eq_true rfl, Nat.le_of_ble_eq_true rfl⟩ ⟨Nat.zero_le _, Nat.zero_le _⟩ (Nat.le_of_ble_eq_true rfl) rfl dX7_when_35 (fun H locs hI => ?_)
      obtain ⟨T, eT⟩ : ∃ z : St, z = setB S 22 (S 20) := ⟨_, rfl⟩
      rw [← eT] at hI
      have t20 : T 20 = S 20 := by rw [eT, setB_ne _ _ (by decide)]
      have t22 : T 22 = S 20 := by rw [eT, setB_at]
      have hVT : VR 9999 (T 20) := by rw [t20]; exact hV
      have t5 : T 20 5 = S 20 5 := by rw [t20]
      have t4 : T 20 4 = S 20 4 := by rw [t20]
      have hcs := cs_rg (k := w) (w := v) (by omega)
      refine r_iconst hC dX7_when_38 ?_
      refine r_istore (lv1 := [(5, .int (J 0)), (4, .int (J (-1))), (3, .int (J (-1))), (0, .ref (a (49))), (1, .int (J w)), (2, .int (J v))]) hC hl dX7_when_39 (by decide) rfl (fun ls hl => ?_)
      have hL41 : ∀ (fu : Nat) (q : Nat) (U : St) (x5 x4 x3 : Int), 12 - q < fu → (x5 = (q : Int)) → (x4 = (beF (fun j => if csF w v ≤ iwF (S 20) (S 20 2 + S 20 1 * sumF (dkF (S 20)) j) then tkF w (dkF (S 20) j) else -1) q).2) → (x3 = (beF (fun j => if csF w v ≤ iwF (S 20) (S 20 2 + S 20 1 * sumF (dkF (S 20)) j) then tkF w (dkF (S 20) j) else -1) q).1) → (q ≤ 12) → (U = setB T 20 (lgF (S 20) q)) → ∀ (H : Heap) (locs : List Loc) (ls : Array Slot), IS X a B s (U) H locs → lv_has ls 7 [(5, .int (J x5)), (4, .int (J x4)), (3, .int (J x3)), (0, .ref (a (49))), (1, .int (J w)), (2, .int (J v))] → W p l e (rmD 3) s m [.ref (a (49)), .int (J w), .int (J v)].toArray below meth c H locs 0 0 (MQ below (Qi X a B (anF (if (0 ≤ w ∧ w ≤ 5) ∧ 1 ≤ v ∧ v ≤ 99 then onC ((beF (fun j => if csF w v ≤ iwF (S 20) (S 20 2 + S 20 1 * sumF (dkF (S 20)) j) then tkF w (dkF (S 20) j) else -1) 12).1) else 0) ((beF (fun j => if csF w v ≤ iwF (S 20) (S 20 2 + S 20 1 * sumF (dkF (S 20)) j) then tkF w (dkF (S 20) j) else -1) 12).1)) (if (0 ≤ w ∧ w ≤ 5) ∧ 1 ≤ v ∧ v ≤ 99 then fnF (setB S 22 (S 20)) 21 (onC ((beF (fun j => if csF w v ≤ iwF (S 20) (S 20 2 + S 20 1 * sumF (dkF (S 20)) j) then tkF w (dkF (S 20) j) else -1) 12).1)) (setB S 22 (S 20)) else up S 21 0 (S 21 0 + 1))) [.ref (a (49)), .int (J w), .int (J v)].toArray s 0 0 (fun q => B ≤ q)) (F0 m 41 ls []) := by
        intro fu
        induction fu with
        | zero => intro q U x5 x4 x3 hm; exact absurd hm (Nat.not_lt_zero _)
        | succ fu ih41 =>
          intro q U x5 x4 x3 hm e5 e4 e3 hq hU H locs ls hI hl
          subst e5; subst e4; subst e3
          have hUk : U 20 = lgF (S 20) q := by rw [hU, setB_at]
          have hVU : VR 20000 (U 20) := by rw [hUk]; exact VR_mono (by omega) (lg_VR (by omega) hV)
          have u5 : U 20 5 = S 20 5 := by rw [hUk, lg_o (by decide) (by decide) (by decide) (by omega)]
          have u3 : U 20 3 = iwF (S 20) (S 20 2 + S 20 1 * sumF (dkF (S 20)) q) := by rw [hUk, lg_3]
          have hiw := iw_rg hV (bw_rg hV hBr (n := q) (by omega))
          have hdk := dk_rg hV q
          have htk := tk_rg (k := w) hdk
          have hb := be_rg2 (f := (fun j => if csF w v ≤ iwF (S 20) (S 20 2 + S 20 1 * sumF (dkF (S 20)) j) then tkF w (dkF (S 20) j) else -1)) (A := 99) (by decide) q (fun i _ => by have h := tk_rg (k := w) (dk_rg hV i); show (if _ then _ else _) ≤ (99 : Int); split <;> omega)
          refine r_iload hC hl dX7_when_41 0 rfl ?_
          refine r_bipush hC (by decide) dX7_when_43 ?_
          refine r_icmp_ge (tgt := 116) hC (by omega) (by omega) dX7_when_45 (by decide) (fun c_3 => ?_) (fun c_3 => ?_)
          · skip
            have hval : (beF (fun j => if csF w v ≤ iwF (S 20) (S 20 2 + S 20 1 * sumF (dkF (S 20)) j) then tkF w (dkF (S 20) j) else -1) q).1 = (beF (fun j => if csF w v ≤ iwF (S 20) (S 20 2 + S 20 1 * sumF (dkF (S 20)) j) then tkF w (dkF (S 20) j) else -1) 12).1 := by rw [show q = 12 by omega]
            have hb1 := be_rg (fun j => if csF w v ≤ iwF (S 20) (S 20 2 + S 20 1 * sumF (dkF (S 20)) j) then tkF w (dkF (S 20) j) else -1) q
            refine r_aload_n hC hl dX7_when_116 3 rfl ?_
            refine r_iconst hC dX7_when_117 ?_
            refine r_aload_n hC hl dX7_when_118 3 rfl ?_
            refine g_mo  (v := .ref (a (52))) hC hI 2 (by decide) fl_RX7_16 rfl rfl dX7_when_119 ?_
            refine r_cVv hC hI hl [.int (J 0), .ref (a (52))] [] (c_X7_moveAll0 l X a B U 52 22 (by omega) (fun _ => rfl) (fun _ => rfl) (by omega) rfl) ml_RX7_117 ev_X7_moveAll (rc_mo (S := U) hC hI) ⟨Nat.le_of_ble_eq_true rfl, Nat.le_of_ble_eq_true rfl⟩ ⟨Nat.zero_le _, Nat.zero_le _⟩ (Nat.le_of_ble_eq_true rfl) rfl dX7_when_122 (fun H locs hI => ?_)
            obtain ⟨Z, eZ⟩ : ∃ z : St, z = setB U 20 (U 22) := ⟨_, rfl⟩
            rw [← eZ] at hI
            have eZ2 : Z = setB S 22 (S 20) := by rw [eZ]; exact set_rt t20 t22 eT hU
            refine r_iload_n hC hl dX7_when_125 2 rfl ?_
            refine r_if_ge (tgt := 138) hC (by omega) dX7_when_126 (by decide) (fun c_4 => ?_) (fun c_4 => ?_)
            · skip
              refine r_iload_n hC hl dX7_when_138 2 rfl ?_
              exact r_iret hC hr hlk hI (an_n (by rw [show (if (0 ≤ w ∧ w ≤ 5) ∧ 1 ≤ v ∧ v ≤ 99 then onC ((beF (fun j => if csF w v ≤ iwF (S 20) (S 20 2 + S 20 1 * sumF (dkF (S 20)) j) then tkF w (dkF (S 20) j) else -1) 12).1) else 0) = onC ((beF (fun j => if csF w v ≤ iwF (S 20) (S 20 2 + S 20 1 * sumF (dkF (S 20)) j) then tkF w (dkF (S 20) j) else -1) 12).1) by (repeat' split) <;> first | rfl | omega]; unfold onC; rw [if_neg (by omega)]; decide) (by omega)) (by rw [if_pos (by omega), eZ2]; exact fn_n (by unfold onC; rw [if_neg (by omega)]; decide) rfl) dX7_when_139
            · skip
              refine r_aload_n hC hl dX7_when_129 3 rfl ?_
              refine r_ldc (x := (-1000000004)) hC ct_RX7_124 (by decide) dX7_when_130 ?_
              refine r_cVi hC hI hl [.int (J (-1000000004))] [] (c_X7_finds3 l X a B Z  ) ml_RX7_57 ev_X7_finds (rc_mo (S := Z) hC hI) ⟨Nat.le_of_ble_eq_true rfl, Nat.le_of_ble_eq_true rfl⟩ ⟨Nat.zero_le _, Nat.zero_le _⟩ (Nat.le_of_ble_eq_true rfl) rfl dX7_when_132 (fun H locs hI => ?_)
              refine r_goto (tgt := 139) hC dX7_when_135 (by decide) ?_
              exact r_iret hC hr hlk hI (an_f 3 (by rw [show (if (0 ≤ w ∧ w ≤ 5) ∧ 1 ≤ v ∧ v ≤ 99 then onC ((beF (fun j => if csF w v ≤ iwF (S 20) (S 20 2 + S 20 1 * sumF (dkF (S 20)) j) then tkF w (dkF (S 20) j) else -1) 12).1) else 0) = onC ((beF (fun j => if csF w v ≤ iwF (S 20) (S 20 2 + S 20 1 * sumF (dkF (S 20)) j) then tkF w (dkF (S 20) j) else -1) 12).1) by (repeat' split) <;> first | rfl | omega]; unfold onC; rw [if_pos (by omega)]; rfl)) (by rw [if_pos (by omega), eZ2]; exact fn_f 3 (by unfold onC; rw [if_pos (by omega)]; rfl)) dX7_when_139
          · skip
            refine r_iload_n hC hl dX7_when_48 4 rfl ?_
            refine r_iload_n hC hl dX7_when_49 5 rfl ?_
            refine r_cSi hC hI hl [.int (J w), .int (J v)] [] (c_X7_costs l X a B U w v (by omega) (by omega)) ml_RX7_80 es_X7_costs ⟨Nat.le_of_ble_eq_true rfl, Nat.le_of_ble_eq_true rfl⟩ ⟨Nat.zero_le _, Nat.zero_le _⟩ (Nat.le_of_ble_eq_true rfl) rfl dX7_when_50 (fun H locs hI => ?_)
            refine r_aload_n hC hl dX7_when_53 3 rfl ?_
            refine g_mo  (v := .ref (a (50))) hC hI 0 (by decide) fl_RX7_7 rfl rfl dX7_when_54 ?_
            refine r_iconst hC dX7_when_57 ?_
            refine r_iald (cx := 50) (n := 58) (f := (fun S => S 20) (U)) (v := U 20 3) hC hI (by decide) rfl (by decide) (3) (by omega) (by omega) rfl dX7_when_58 ?_
            refine r_icmp_gt (tgt := 73) hC (by omega) (by omega) dX7_when_59 (by decide) (fun c_5 => ?_) (fun c_5 => ?_)
            · skip
              have hFq : (fun j => if csF w v ≤ iwF (S 20) (S 20 2 + S 20 1 * sumF (dkF (S 20)) j) then tkF w (dkF (S 20) j) else -1) q = -1 := if_neg (by omega)
              refine r_iconst hC dX7_when_73 ?_
              refine r_istore (lv1 := [(6, .int (J (-1))), (5, .int (J (q : Int))), (4, .int (J ((beF (fun j => if csF w v ≤ iwF (S 20) (S 20 2 + S 20 1 * sumF (dkF (S 20)) j) then tkF w (dkF (S 20) j) else -1) q).2))), (3, .int (J ((beF (fun j => if csF w v ≤ iwF (S 20) (S 20 2 + S 20 1 * sumF (dkF (S 20)) j) then tkF w (dkF (S 20) j) else -1) q).1))), (0, .ref (a (49))), (1, .int (J w)), (2, .int (J v))]) hC hl dX7_when_74 (by decide) rfl (fun ls hl => ?_)
              refine r_iload hC hl dX7_when_76 0 rfl ?_
              refine r_iload hC hl dX7_when_78 2 rfl ?_
              refine r_icmp_le (tgt := 88) hC (by omega) (by omega) dX7_when_80 (by decide) (fun c_6 => ?_) (fun c_6 => ?_)
              · skip
                refine r_iload_n hC hl dX7_when_88 3 rfl ?_
                refine r_istore_n (lv1 := [(3, .int (J ((beF (fun j => if csF w v ≤ iwF (S 20) (S 20 2 + S 20 1 * sumF (dkF (S 20)) j) then tkF w (dkF (S 20) j) else -1) q).1))), (6, .int (J (-1))), (5, .int (J (q : Int))), (4, .int (J ((beF (fun j => if csF w v ≤ iwF (S 20) (S 20 2 + S 20 1 * sumF (dkF (S 20)) j) then tkF w (dkF (S 20) j) else -1) q).2))), (0, .ref (a (49))), (1, .int (J w)), (2, .int (J v))]) hC hl dX7_when_89 3 rfl (by decide) rfl (fun ls hl => ?_)
                refine r_iload hC hl dX7_when_90 1 rfl ?_
                refine r_iload hC hl dX7_when_92 3 rfl ?_
                refine r_icmp_le (tgt := 102) hC (by omega) (by omega) dX7_when_94 (by decide) (fun c_7 => ?_) (fun c_7 => ?_)
                · skip
                  refine r_iload hC hl dX7_when_102 3 rfl ?_
                  refine r_istore (lv1 := [(4, .int (J ((beF (fun j => if csF w v ≤ iwF (S 20) (S 20 2 + S 20 1 * sumF (dkF (S 20)) j) then tkF w (dkF (S 20) j) else -1) q).2))), (3, .int (J ((beF (fun j => if csF w v ≤ iwF (S 20) (S 20 2 + S 20 1 * sumF (dkF (S 20)) j) then tkF w (dkF (S 20) j) else -1) q).1))), (6, .int (J (-1))), (5, .int (J (q : Int))), (0, .ref (a (49))), (1, .int (J w)), (2, .int (J v))]) hC hl dX7_when_104 (by decide) rfl (fun ls hl => ?_)
                  refine r_aload_n hC hl dX7_when_106 4 rfl ?_
                  refine r_cVv hC hI hl [] [] (c_X7_oneNight l X a B U  hVU) ml_RX7_110 ev_X7_oneNight (rc_mo (S := U) hC hI) ⟨Nat.le_of_ble_eq_true rfl, Nat.le_of_ble_eq_true rfl⟩ ⟨Nat.zero_le _, Nat.zero_le _⟩ (Nat.le_of_ble_eq_true rfl) rfl dX7_when_107 (fun H locs hI => ?_)
                  refine r_iinc (lv1 := [(5, .int (J ((q : Int) + 1))), (4, .int (J ((beF (fun j => if csF w v ≤ iwF (S 20) (S 20 2 + S 20 1 * sumF (dkF (S 20)) j) then tkF w (dkF (S 20) j) else -1) q).2))), (3, .int (J ((beF (fun j => if csF w v ≤ iwF (S 20) (S 20 2 + S 20 1 * sumF (dkF (S 20)) j) then tkF w (dkF (S 20) j) else -1) q).1))), (6, .int (J (-1))), (0, .ref (a (49))), (1, .int (J w)), (2, .int (J v))]) hC hl dX7_when_110 3 rfl (by decide) rfl (fun ls hl => ?_)
                  refine r_goto (tgt := 41) hC dX7_when_113 (by decide) ?_
                  have hbq := be_step (f := (fun j => if csF w v ≤ iwF (S 20) (S 20 2 + S 20 1 * sumF (dkF (S 20)) j) then tkF w (dkF (S 20) j) else -1)) (n := q) hFq
                  exact ih41 (q + 1) (setB U 20 (niF (U 20))) ((q : Int) + 1) ((beF (fun j => if csF w v ≤ iwF (S 20) (S 20 2 + S 20 1 * sumF (dkF (S 20)) j) then tkF w (dkF (S 20) j) else -1) q).2) ((beF (fun j => if csF w v ≤ iwF (S 20) (S 20 2 + S 20 1 * sumF (dkF (S 20)) j) then tkF w (dkF (S 20) j) else -1) q).1) (by omega) (by omega) (by rw [hbq]; split <;> first | rfl | (exfalso; omega)) (by rw [hbq]; split <;> first | rfl | (exfalso; omega)) (by omega) (by rw [hUk, hU, setB_setB, ni_lg (by omega) hV]) _ _ _ hI (lv_sub hl [0, 1, 2, 4, 5, 6] rfl)
                · skip
                  refine r_iload hC hl dX7_when_97 1 rfl ?_
                  refine r_goto (tgt := 104) hC dX7_when_99 (by decide) ?_
                  refine r_istore (lv1 := [(4, .int (J (-1))), (3, .int (J ((beF (fun j => if csF w v ≤ iwF (S 20) (S 20 2 + S 20 1 * sumF (dkF (S 20)) j) then tkF w (dkF (S 20) j) else -1) q).1))), (6, .int (J (-1))), (5, .int (J (q : Int))), (0, .ref (a (49))), (1, .int (J w)), (2, .int (J v))]) hC hl dX7_when_104 (by decide) rfl (fun ls hl => ?_)
                  refine r_aload_n hC hl dX7_when_106 4 rfl ?_
                  refine r_cVv hC hI hl [] [] (c_X7_oneNight l X a B U  hVU) ml_RX7_110 ev_X7_oneNight (rc_mo (S := U) hC hI) ⟨Nat.le_of_ble_eq_true rfl, Nat.le_of_ble_eq_true rfl⟩ ⟨Nat.zero_le _, Nat.zero_le _⟩ (Nat.le_of_ble_eq_true rfl) rfl dX7_when_107 (fun H locs hI => ?_)
                  refine r_iinc (lv1 := [(5, .int (J ((q : Int) + 1))), (4, .int (J (-1))), (3, .int (J ((beF (fun j => if csF w v ≤ iwF (S 20) (S 20 2 + S 20 1 * sumF (dkF (S 20)) j) then tkF w (dkF (S 20) j) else -1) q).1))), (6, .int (J (-1))), (0, .ref (a (49))), (1, .int (J w)), (2, .int (J v))]) hC hl dX7_when_110 3 rfl (by decide) rfl (fun ls hl => ?_)
                  refine r_goto (tgt := 41) hC dX7_when_113 (by decide) ?_
                  have hbq := be_step (f := (fun j => if csF w v ≤ iwF (S 20) (S 20 2 + S 20 1 * sumF (dkF (S 20)) j) then tkF w (dkF (S 20) j) else -1)) (n := q) hFq
                  exact ih41 (q + 1) (setB U 20 (niF (U 20))) ((q : Int) + 1) (-1) ((beF (fun j => if csF w v ≤ iwF (S 20) (S 20 2 + S 20 1 * sumF (dkF (S 20)) j) then tkF w (dkF (S 20) j) else -1) q).1) (by omega) (by omega) (by rw [hbq]; split <;> first | rfl | (exfalso; omega)) (by rw [hbq]; split <;> first | rfl | (exfalso; omega)) (by omega) (by rw [hUk, hU, setB_setB, ni_lg (by omega) hV]) _ _ _ hI (lv_sub hl [0, 1, 2, 4, 5, 6] rfl)
              · skip
                refine r_iload hC hl dX7_when_83 1 rfl ?_
                refine r_goto (tgt := 89) hC dX7_when_85 (by decide) ?_
                refine r_istore_n (lv1 := [(3, .int (J (q : Int))), (6, .int (J (-1))), (5, .int (J (q : Int))), (4, .int (J ((beF (fun j => if csF w v ≤ iwF (S 20) (S 20 2 + S 20 1 * sumF (dkF (S 20)) j) then tkF w (dkF (S 20) j) else -1) q).2))), (0, .ref (a (49))), (1, .int (J w)), (2, .int (J v))]) hC hl dX7_when_89 3 rfl (by decide) rfl (fun ls hl => ?_)
                refine r_iload hC hl dX7_when_90 1 rfl ?_
                refine r_iload hC hl dX7_when_92 3 rfl ?_
                refine r_icmp_le (tgt := 102) hC (by omega) (by omega) dX7_when_94 (by decide) (fun c_8 => ?_) (fun c_8 => ?_)
                · skip
                  refine r_iload hC hl dX7_when_102 3 rfl ?_
                  refine r_istore (lv1 := [(4, .int (J ((beF (fun j => if csF w v ≤ iwF (S 20) (S 20 2 + S 20 1 * sumF (dkF (S 20)) j) then tkF w (dkF (S 20) j) else -1) q).2))), (3, .int (J (q : Int))), (6, .int (J (-1))), (5, .int (J (q : Int))), (0, .ref (a (49))), (1, .int (J w)), (2, .int (J v))]) hC hl dX7_when_104 (by decide) rfl (fun ls hl => ?_)
                  refine r_aload_n hC hl dX7_when_106 4 rfl ?_
                  refine r_cVv hC hI hl [] [] (c_X7_oneNight l X a B U  hVU) ml_RX7_110 ev_X7_oneNight (rc_mo (S := U) hC hI) ⟨Nat.le_of_ble_eq_true rfl, Nat.le_of_ble_eq_true rfl⟩ ⟨Nat.zero_le _, Nat.zero_le _⟩ (Nat.le_of_ble_eq_true rfl) rfl dX7_when_107 (fun H locs hI => ?_)
                  refine r_iinc (lv1 := [(5, .int (J ((q : Int) + 1))), (4, .int (J ((beF (fun j => if csF w v ≤ iwF (S 20) (S 20 2 + S 20 1 * sumF (dkF (S 20)) j) then tkF w (dkF (S 20) j) else -1) q).2))), (3, .int (J (q : Int))), (6, .int (J (-1))), (0, .ref (a (49))), (1, .int (J w)), (2, .int (J v))]) hC hl dX7_when_110 3 rfl (by decide) rfl (fun ls hl => ?_)
                  refine r_goto (tgt := 41) hC dX7_when_113 (by decide) ?_
                  have hbq := be_step (f := (fun j => if csF w v ≤ iwF (S 20) (S 20 2 + S 20 1 * sumF (dkF (S 20)) j) then tkF w (dkF (S 20) j) else -1)) (n := q) hFq
                  exact ih41 (q + 1) (setB U 20 (niF (U 20))) ((q : Int) + 1) ((beF (fun j => if csF w v ≤ iwF (S 20) (S 20 2 + S 20 1 * sumF (dkF (S 20)) j) then tkF w (dkF (S 20) j) else -1) q).2) (q : Int) (by omega) (by omega) (by rw [hbq]; split <;> first | rfl | (exfalso; omega)) (by rw [hbq]; split <;> first | rfl | (exfalso; omega)) (by omega) (by rw [hUk, hU, setB_setB, ni_lg (by omega) hV]) _ _ _ hI (lv_sub hl [0, 1, 2, 4, 5, 6] rfl)
                · skip
                  refine r_iload hC hl dX7_when_97 1 rfl ?_
                  refine r_goto (tgt := 104) hC dX7_when_99 (by decide) ?_
                  refine r_istore (lv1 := [(4, .int (J (-1))), (3, .int (J (q : Int))), (6, .int (J (-1))), (5, .int (J (q : Int))), (0, .ref (a (49))), (1, .int (J w)), (2, .int (J v))]) hC hl dX7_when_104 (by decide) rfl (fun ls hl => ?_)
                  refine r_aload_n hC hl dX7_when_106 4 rfl ?_
                  refine r_cVv hC hI hl [] [] (c_X7_oneNight l X a B U  hVU) ml_RX7_110 ev_X7_oneNight (rc_mo (S := U) hC hI) ⟨Nat.le_of_ble_eq_true rfl, Nat.le_of_ble_eq_true rfl⟩ ⟨Nat.zero_le _, Nat.zero_le _⟩ (Nat.le_of_ble_eq_true rfl) rfl dX7_when_107 (fun H locs hI => ?_)
                  refine r_iinc (lv1 := [(5, .int (J ((q : Int) + 1))), (4, .int (J (-1))), (3, .int (J (q : Int))), (6, .int (J (-1))), (0, .ref (a (49))), (1, .int (J w)), (2, .int (J v))]) hC hl dX7_when_110 3 rfl (by decide) rfl (fun ls hl => ?_)
                  refine r_goto (tgt := 41) hC dX7_when_113 (by decide) ?_
                  have hbq := be_step (f := (fun j => if csF w v ≤ iwF (S 20) (S 20 2 + S 20 1 * sumF (dkF (S 20)) j) then tkF w (dkF (S 20) j) else -1)) (n := q) hFq
                  exact ih41 (q + 1) (setB U 20 (niF (U 20))) ((q : Int) + 1) (-1) (q : Int) (by omega) (by omega) (by rw [hbq]; split <;> first | rfl | (exfalso; omega)) (by rw [hbq]; split <;> first | rfl | (exfalso; omega)) (by omega) (by rw [hUk, hU, setB_setB, ni_lg (by omega) hV]) _ _ _ hI (lv_sub hl [0, 1, 2, 4, 5, 6] rfl)
            · skip
              have hFq : (fun j => if csF w v ≤ iwF (S 20) (S 20 2 + S 20 1 * sumF (dkF (S 20)) j) then tkF w (dkF (S 20) j) else -1) q = tkF w (dkF (S 20) q) := if_pos (by omega)
              refine r_iload_n hC hl dX7_when_62 4 rfl ?_
              refine r_aload_n hC hl dX7_when_63 3 rfl ?_
              refine r_cVi hC hI hl [] [.int (J w)] (c_X7_darkNow l X a B U  (by rw [hUk, lg_z]; omega)) ml_RX7_70 ev_X7_darkNow (rc_mo (S := U) hC hI) ⟨Nat.le_of_ble_eq_true rfl, Nat.le_of_ble_eq_true rfl⟩ ⟨Nat.zero_le _, Nat.zero_le _⟩ (Nat.le_of_ble_eq_true rfl) rfl dX7_when_64 (fun H locs hI => ?_)
              refine r_as (y := dkF (S 20) q) hC (by rw [hUk]; exact dk_lg hV) ?_
              refine r_cSi hC hI hl [.int (J w), .int (J (dkF (S 20) q))] [] (c_X7_takes l X a B U w (dkF (S 20) q) (by omega) (by omega)) ml_RX7_87 es_X7_takes ⟨Nat.le_of_ble_eq_true rfl, Nat.le_of_ble_eq_true rfl⟩ ⟨Nat.zero_le _, Nat.zero_le _⟩ (Nat.le_of_ble_eq_true rfl) rfl dX7_when_67 (fun H locs hI => ?_)
              refine r_goto (tgt := 74) hC dX7_when_70 (by decide) ?_
              refine r_istore (lv1 := [(6, .int (J (tkF w (dkF (S 20) q)))), (5, .int (J (q : Int))), (4, .int (J ((beF (fun j => if csF w v ≤ iwF (S 20) (S 20 2 + S 20 1 * sumF (dkF (S 20)) j) then tkF w (dkF (S 20) j) else -1) q).2))), (3, .int (J ((beF (fun j => if csF w v ≤ iwF (S 20) (S 20 2 + S 20 1 * sumF (dkF (S 20)) j) then tkF w (dkF (S 20) j) else -1) q).1))), (0, .ref (a (49))), (1, .int (J w)), (2, .int (J v))]) hC hl dX7_when_74 (by decide) rfl (fun ls hl => ?_)
              refine r_iload hC hl dX7_when_76 0 rfl ?_
              refine r_iload hC hl dX7_when_78 2 rfl ?_
              refine r_icmp_le (tgt := 88) hC (by omega) (by omega) dX7_when_80 (by decide) (fun c_9 => ?_) (fun c_9 => ?_)
              · skip
                refine r_iload_n hC hl dX7_when_88 3 rfl ?_
                refine r_istore_n (lv1 := [(3, .int (J ((beF (fun j => if csF w v ≤ iwF (S 20) (S 20 2 + S 20 1 * sumF (dkF (S 20)) j) then tkF w (dkF (S 20) j) else -1) q).1))), (6, .int (J (tkF w (dkF (S 20) q)))), (5, .int (J (q : Int))), (4, .int (J ((beF (fun j => if csF w v ≤ iwF (S 20) (S 20 2 + S 20 1 * sumF (dkF (S 20)) j) then tkF w (dkF (S 20) j) else -1) q).2))), (0, .ref (a (49))), (1, .int (J w)), (2, .int (J v))]) hC hl dX7_when_89 3 rfl (by decide) rfl (fun ls hl => ?_)
                refine r_iload hC hl dX7_when_90 1 rfl ?_
                refine r_iload hC hl dX7_when_92 3 rfl ?_
                refine r_icmp_le (tgt := 102) hC (by omega) (by omega) dX7_when_94 (by decide) (fun c_10 => ?_) (fun c_10 => ?_)
                · skip
                  refine r_iload hC hl dX7_when_102 3 rfl ?_
                  refine r_istore (lv1 := [(4, .int (J ((beF (fun j => if csF w v ≤ iwF (S 20) (S 20 2 + S 20 1 * sumF (dkF (S 20)) j) then tkF w (dkF (S 20) j) else -1) q).2))), (3, .int (J ((beF (fun j => if csF w v ≤ iwF (S 20) (S 20 2 + S 20 1 * sumF (dkF (S 20)) j) then tkF w (dkF (S 20) j) else -1) q).1))), (6, .int (J (tkF w (dkF (S 20) q)))), (5, .int (J (q : Int))), (0, .ref (a (49))), (1, .int (J w)), (2, .int (J v))]) hC hl dX7_when_104 (by decide) rfl (fun ls hl => ?_)
                  refine r_aload_n hC hl dX7_when_106 4 rfl ?_
                  refine r_cVv hC hI hl [] [] (c_X7_oneNight l X a B U  hVU) ml_RX7_110 ev_X7_oneNight (rc_mo (S := U) hC hI) ⟨Nat.le_of_ble_eq_true rfl, Nat.le_of_ble_eq_true rfl⟩ ⟨Nat.zero_le _, Nat.zero_le _⟩ (Nat.le_of_ble_eq_true rfl) rfl dX7_when_107 (fun H locs hI => ?_)
                  refine r_iinc (lv1 := [(5, .int (J ((q : Int) + 1))), (4, .int (J ((beF (fun j => if csF w v ≤ iwF (S 20) (S 20 2 + S 20 1 * sumF (dkF (S 20)) j) then tkF w (dkF (S 20) j) else -1) q).2))), (3, .int (J ((beF (fun j => if csF w v ≤ iwF (S 20) (S 20 2 + S 20 1 * sumF (dkF (S 20)) j) then tkF w (dkF (S 20) j) else -1) q).1))), (6, .int (J (tkF w (dkF (S 20) q)))), (0, .ref (a (49))), (1, .int (J w)), (2, .int (J v))]) hC hl dX7_when_110 3 rfl (by decide) rfl (fun ls hl => ?_)
                  refine r_goto (tgt := 41) hC dX7_when_113 (by decide) ?_
                  have hbq := be_step (f := (fun j => if csF w v ≤ iwF (S 20) (S 20 2 + S 20 1 * sumF (dkF (S 20)) j) then tkF w (dkF (S 20) j) else -1)) (n := q) hFq
                  exact ih41 (q + 1) (setB U 20 (niF (U 20))) ((q : Int) + 1) ((beF (fun j => if csF w v ≤ iwF (S 20) (S 20 2 + S 20 1 * sumF (dkF (S 20)) j) then tkF w (dkF (S 20) j) else -1) q).2) ((beF (fun j => if csF w v ≤ iwF (S 20) (S 20 2 + S 20 1 * sumF (dkF (S 20)) j) then tkF w (dkF (S 20) j) else -1) q).1) (by omega) (by omega) (by rw [hbq]; split <;> first | rfl | (exfalso; omega)) (by rw [hbq]; split <;> first | rfl | (exfalso; omega)) (by omega) (by rw [hUk, hU, setB_setB, ni_lg (by omega) hV]) _ _ _ hI (lv_sub hl [0, 1, 2, 4, 5, 6] rfl)
                · skip
                  refine r_iload hC hl dX7_when_97 1 rfl ?_
                  refine r_goto (tgt := 104) hC dX7_when_99 (by decide) ?_
                  refine r_istore (lv1 := [(4, .int (J (tkF w (dkF (S 20) q)))), (3, .int (J ((beF (fun j => if csF w v ≤ iwF (S 20) (S 20 2 + S 20 1 * sumF (dkF (S 20)) j) then tkF w (dkF (S 20) j) else -1) q).1))), (6, .int (J (tkF w (dkF (S 20) q)))), (5, .int (J (q : Int))), (0, .ref (a (49))), (1, .int (J w)), (2, .int (J v))]) hC hl dX7_when_104 (by decide) rfl (fun ls hl => ?_)
                  refine r_aload_n hC hl dX7_when_106 4 rfl ?_
                  refine r_cVv hC hI hl [] [] (c_X7_oneNight l X a B U  hVU) ml_RX7_110 ev_X7_oneNight (rc_mo (S := U) hC hI) ⟨Nat.le_of_ble_eq_true rfl, Nat.le_of_ble_eq_true rfl⟩ ⟨Nat.zero_le _, Nat.zero_le _⟩ (Nat.le_of_ble_eq_true rfl) rfl dX7_when_107 (fun H locs hI => ?_)
                  refine r_iinc (lv1 := [(5, .int (J ((q : Int) + 1))), (4, .int (J (tkF w (dkF (S 20) q)))), (3, .int (J ((beF (fun j => if csF w v ≤ iwF (S 20) (S 20 2 + S 20 1 * sumF (dkF (S 20)) j) then tkF w (dkF (S 20) j) else -1) q).1))), (6, .int (J (tkF w (dkF (S 20) q)))), (0, .ref (a (49))), (1, .int (J w)), (2, .int (J v))]) hC hl dX7_when_110 3 rfl (by decide) rfl (fun ls hl => ?_)
                  refine r_goto (tgt := 41) hC dX7_when_113 (by decide) ?_
                  have hbq := be_step (f := (fun j => if csF w v ≤ iwF (S 20) (S 20 2 + S 20 1 * sumF (dkF (S 20)) j) then tkF w (dkF (S 20) j) else -1)) (n := q) hFq
                  exact ih41 (q + 1) (setB U 20 (niF (U 20))) ((q : Int) + 1) (tkF w (dkF (S 20) q)) ((beF (fun j => if csF w v ≤ iwF (S 20) (S 20 2 + S 20 1 * sumF (dkF (S 20)) j) then tkF w (dkF (S 20) j) else -1) q).1) (by omega) (by omega) (by rw [hbq]; split <;> first | rfl | (exfalso; omega)) (by rw [hbq]; split <;> first | rfl | (exfalso; omega)) (by omega) (by rw [hUk, hU, setB_setB, ni_lg (by omega) hV]) _ _ _ hI (lv_sub hl [0, 1, 2, 4, 5, 6] rfl)
              · skip
                refine r_iload hC hl dX7_when_83 1 rfl ?_
                refine r_goto (tgt := 89) hC dX7_when_85 (by decide) ?_
                refine r_istore_n (lv1 := [(3, .int (J (q : Int))), (6, .int (J (tkF w (dkF (S 20) q)))), (5, .int (J (q : Int))), (4, .int (J ((beF (fun j => if csF w v ≤ iwF (S 20) (S 20 2 + S 20 1 * sumF (dkF (S 20)) j) then tkF w (dkF (S 20) j) else -1) q).2))), (0, .ref (a (49))), (1, .int (J w)), (2, .int (J v))]) hC hl dX7_when_89 3 rfl (by decide) rfl (fun ls hl => ?_)
                refine r_iload hC hl dX7_when_90 1 rfl ?_
                refine r_iload hC hl dX7_when_92 3 rfl ?_
                refine r_icmp_le (tgt := 102) hC (by omega) (by omega) dX7_when_94 (by decide) (fun c_11 => ?_) (fun c_11 => ?_)
                · skip
                  refine r_iload hC hl dX7_when_102 3 rfl ?_
                  refine r_istore (lv1 := [(4, .int (J ((beF (fun j => if csF w v ≤ iwF (S 20) (S 20 2 + S 20 1 * sumF (dkF (S 20)) j) then tkF w (dkF (S 20) j) else -1) q).2))), (3, .int (J (q : Int))), (6, .int (J (tkF w (dkF (S 20) q)))), (5, .int (J (q : Int))), (0, .ref (a (49))), (1, .int (J w)), (2, .int (J v))]) hC hl dX7_when_104 (by decide) rfl (fun ls hl => ?_)
                  refine r_aload_n hC hl dX7_when_106 4 rfl ?_
                  refine r_cVv hC hI hl [] [] (c_X7_oneNight l X a B U  hVU) ml_RX7_110 ev_X7_oneNight (rc_mo (S := U) hC hI) ⟨Nat.le_of_ble_eq_true rfl, Nat.le_of_ble_eq_true rfl⟩ ⟨Nat.zero_le _, Nat.zero_le _⟩ (Nat.le_of_ble_eq_true rfl) rfl dX7_when_107 (fun H locs hI => ?_)
                  refine r_iinc (lv1 := [(5, .int (J ((q : Int) + 1))), (4, .int (J ((beF (fun j => if csF w v ≤ iwF (S 20) (S 20 2 + S 20 1 * sumF (dkF (S 20)) j) then tkF w (dkF (S 20) j) else -1) q).2))), (3, .int (J (q : Int))), (6, .int (J (tkF w (dkF (S 20) q)))), (0, .ref (a (49))), (1, .int (J w)), (2, .int (J v))]) hC hl dX7_when_110 3 rfl (by decide) rfl (fun ls hl => ?_)
                  refine r_goto (tgt := 41) hC dX7_when_113 (by decide) ?_
                  have hbq := be_step (f := (fun j => if csF w v ≤ iwF (S 20) (S 20 2 + S 20 1 * sumF (dkF (S 20)) j) then tkF w (dkF (S 20) j) else -1)) (n := q) hFq
                  exact ih41 (q + 1) (setB U 20 (niF (U 20))) ((q : Int) + 1) ((beF (fun j => if csF w v ≤ iwF (S 20) (S 20 2 + S 20 1 * sumF (dkF (S 20)) j) then tkF w (dkF (S 20) j) else -1) q).2) (q : Int) (by omega) (by omega) (by rw [hbq]; split <;> first | rfl | (exfalso; omega)) (by rw [hbq]; split <;> first | rfl | (exfalso; omega)) (by omega) (by rw [hUk, hU, setB_setB, ni_lg (by omega) hV]) _ _ _ hI (lv_sub hl [0, 1, 2, 4, 5, 6] rfl)
                · skip
                  refine r_iload hC hl dX7_when_97 1 rfl ?_
                  refine r_goto (tgt := 104) hC dX7_when_99 (by decide) ?_
                  refine r_istore (lv1 := [(4, .int (J (tkF w (dkF (S 20) q)))), (3, .int (J (q : Int))), (6, .int (J (tkF w (dkF (S 20) q)))), (5, .int (J (q : Int))), (0, .ref (a (49))), (1, .int (J w)), (2, .int (J v))]) hC hl dX7_when_104 (by decide) rfl (fun ls hl => ?_)
                  refine r_aload_n hC hl dX7_when_106 4 rfl ?_
                  refine r_cVv hC hI hl [] [] (c_X7_oneNight l X a B U  hVU) ml_RX7_110 ev_X7_oneNight (rc_mo (S := U) hC hI) ⟨Nat.le_of_ble_eq_true rfl, Nat.le_of_ble_eq_true rfl⟩ ⟨Nat.zero_le _, Nat.zero_le _⟩ (Nat.le_of_ble_eq_true rfl) rfl dX7_when_107 (fun H locs hI => ?_)
                  refine r_iinc (lv1 := [(5, .int (J ((q : Int) + 1))), (4, .int (J (tkF w (dkF (S 20) q)))), (3, .int (J (q : Int))), (6, .int (J (tkF w (dkF (S 20) q)))), (0, .ref (a (49))), (1, .int (J w)), (2, .int (J v))]) hC hl dX7_when_110 3 rfl (by decide) rfl (fun ls hl => ?_)
                  refine r_goto (tgt := 41) hC dX7_when_113 (by decide) ?_
                  have hbq := be_step (f := (fun j => if csF w v ≤ iwF (S 20) (S 20 2 + S 20 1 * sumF (dkF (S 20)) j) then tkF w (dkF (S 20) j) else -1)) (n := q) hFq
                  exact ih41 (q + 1) (setB U 20 (niF (U 20))) ((q : Int) + 1) (tkF w (dkF (S 20) q)) (q : Int) (by omega) (by omega) (by rw [hbq]; split <;> first | rfl | (exfalso; omega)) (by rw [hbq]; split <;> first | rfl | (exfalso; omega)) (by omega) (by rw [hUk, hU, setB_setB, ni_lg (by omega) hV]) _ _ _ hI (lv_sub hl [0, 1, 2, 4, 5, 6] rfl)
      exact hL41 _ 0 T 0 (-1) (-1) (Nat.lt_succ_self _) (by omega) rfl rfl (by omega) (by rw [lg_id hV, ← t20, setB_self]) _ _ _ hI (lv_sub hl [0, 1, 2, 3, 4, 5] rfl)
    · skip
      refine r_aload_n hC hl dX7_when_17 0 rfl ?_
      refine r_ldc (x := (-1000000001)) hC ct_RX7_44 (by decide) dX7_when_18 ?_
      refine r_cVi hC hI hl [.int (J (-1000000001))] [] (c_X7_finds0 l X a B S  ) ml_RX7_57 ev_X7_finds (rc_mo (S := S) hC hI) ⟨Nat.le_of_ble_eq_true rfl, Nat.le_of_ble_eq_true rfl⟩ ⟨Nat.zero_le _, Nat.zero_le _⟩ (Nat.le_of_ble_eq_true rfl) rfl dX7_when_20 (fun H locs hI => ?_)
      exact r_iret hC hr hlk hI (an_f 0 (by (repeat' split) <;> first | rfl | omega)) ((if_neg (by omega)).symm) dX7_when_23
