set_option maxHeartbeats 4000000 in
set_option maxRecDepth 100000 in
theorem c_X7_itsG (l : Launch) (X : XT) (a : Nat → Nat) (B : Nat) (S : St) (w : Int) (v : Int) (hw : 0 ≤ w ∧ w ≤ 7) (hv : 0 ≤ v ∧ v ≤ 4) : CT l X a B 0 yX7_its cX7_its 3 (some .int) [.ref (a (49)), .int (J w), .int (J v)] S (Qi X a B (S 20 (18 + 5 * w.toNat + v.toNat)) (S)) := by
  refine CT.of (by decide +kernel) (Nat.le_of_ble_eq_true rfl) ?_
  intro p e s m below meth c ls hC hr hlk hI hl
  have hC : Cx p c cX7_its 3 s m [.ref (a (49)), .int (J w), .int (J v)].toArray RX7 X B := hC
  have hl : lv_has ls 3 [(0, .ref (a (49))), (1, .int (J w)), (2, .int (J v))] := hl
  refine r_aload_n hC hl dX7_its_0 0 rfl ?_
  refine g_mo  (v := .ref (a (50))) hC hI 0 (by decide) fl_RX7_7 rfl rfl dX7_its_1 ?_
  refine r_bipush hC (by decide) dX7_its_4 ?_
  refine r_iconst hC dX7_its_6 ?_
  refine r_iload_n hC hl dX7_its_7 1 rfl ?_
  refine r_imul hC dX7_its_8 ?_
  refine r_iadd hC dX7_its_9 ?_
  refine r_iload_n hC hl dX7_its_10 2 rfl ?_
  refine r_iadd hC dX7_its_11 ?_
  refine r_iald (cx := 50) (n := 58) (f := (fun S => S 20) (S)) (v := S 20 (((18 + (5 * w)) + v).toNat)) hC hI (by decide) rfl (by decide) (((18 + (5 * w)) + v).toNat) (by omega) (by omega) rfl dX7_its_12 ?_
  exact r_iret hC hr hlk hI (by congr 1; omega) (rfl) dX7_its_13

theorem c_X7_believed_i (l : Launch) (X : XT) (a : Nat → Nat) (B : Nat) (S : St) (i : Int) (hV : VP (S 20) i.toNat) (hL : 0 ≤ S 20 4 ∧ S 20 4 ≤ 9) (hi : 0 ≤ i ∧ i ≤ 7) : CT l X a B 1 yX7_believed cX7_believed 7 (some .int) [.ref (a (49)), .int (J i)] S (Qi X a B (b0F (S 20) i.toNat) (S)) := by
  have h := c_X7_believed l X a B S i.toNat (by omega) hV hL
  rw [show ((i.toNat : Nat) : Int) = i by omega] at h
  exact h

theorem c_X7_fades_i (l : Launch) (X : XT) (a : Nat → Nat) (B : Nat) (S : St) (i : Int) (hV : VP (S 20) i.toNat) (hi : 0 ≤ i ∧ i ≤ 7) : CT l X a B 1 yX7_fades cX7_fades 3 (some .int) [.ref (a (49)), .int (J i)] S (Qi X a B (fdP (S 20) i.toNat) (S)) := by
  have h := c_X7_fades l X a B S i.toNat (by omega) hV
  rw [show ((i.toNat : Nat) : Int) = i by omega] at h
  exact h

set_option maxHeartbeats 4000000 in
set_option maxRecDepth 100000 in
theorem c_X7_of (l : Launch) (X : XT) (a : Nat → Nat) (B : Nat) (S : St) (w : Int) (v : Int) (hV : VR 9999 (S 20)) (hw : -2147483648 ≤ w ∧ w ≤ 2147483647) (hv : -2147483648 ≤ v ∧ v ≤ 2147483647) : CT l X a B 2 yX7_of cX7_of 3 (some .int) [.ref (a (49)), .int (J w), .int (J v)] S (Qi X a B (anF (if (0 ≤ w ∧ w < S 20 5) ∧ 0 ≤ v ∧ v ≤ 8 then -1 else 0) (ofF (S 20) w.toNat v)) (fnF S 21 (if (0 ≤ w ∧ w < S 20 5) ∧ 0 ≤ v ∧ v ≤ 8 then -1 else 0) (S))) := by
  refine CT.of (by decide +kernel) (Nat.le_of_ble_eq_true rfl) ?_
  intro p e s m below meth c ls hC hr hlk hI hl
  have hC : Cx p c cX7_of 3 s m [.ref (a (49)), .int (J w), .int (J v)].toArray RX7 X B := hC
  have hl : lv_has ls 3 [(0, .ref (a (49))), (1, .int (J w)), (2, .int (J v))] := hl
  obtain ⟨⟨hN, hBr, hBu, hIn, hLa, hPc⟩, hDk, hPg⟩ := id hV
  refine r_aload_n hC hl dX7_of_0 0 rfl ?_
  refine r_iload_n hC hl dX7_of_1 1 rfl ?_
  refine r_cVi hC hI hl [.int (J w)] [] (c_X7_isOne l X a B S w (by omega) (by omega)) ml_RX7_99 ev_X7_isOne (rc_mo (S := S) hC hI) ⟨Nat.le_of_ble_eq_true rfl, Nat.le_of_ble_eq_true rfl⟩ ⟨Nat.zero_le _, Nat.zero_le _⟩ (Nat.le_of_ble_eq_true rfl) rfl dX7_of_2 (fun H locs hI => ?_)
  refine r_b_eq (tgt := 18) hC dX7_of_5 (by decide) (fun c_1 => ?_) (fun c_1 => ?_)
  · skip
    refine r_aload_n hC hl dX7_of_18 0 rfl ?_
    refine r_ldc (x := (-1000000001)) hC ct_RX7_44 (by decide) dX7_of_19 ?_
    refine r_cVi hC hI hl [.int (J (-1000000001))] [] (c_X7_finds0 l X a B S  ) ml_RX7_57 ev_X7_finds (rc_mo (S := S) hC hI) ⟨Nat.le_of_ble_eq_true rfl, Nat.le_of_ble_eq_true rfl⟩ ⟨Nat.zero_le _, Nat.zero_le _⟩ (Nat.le_of_ble_eq_true rfl) rfl dX7_of_21 (fun H locs hI => ?_)
    exact r_iret hC hr hlk hI (an_f 0 (by (repeat' split) <;> first | rfl | omega)) (fn_f 0 (by (repeat' split) <;> first | rfl | omega)) dX7_of_24
  · skip
    refine r_iload_n hC hl dX7_of_8 2 rfl ?_
    refine r_iconst hC dX7_of_9 ?_
    refine r_bipush hC (by decide) dX7_of_10 ?_
    refine r_cSi hC hI hl [.int (J v), .int (J 0), .int (J 8)] [] (c_X7_in l X a B S v 0 8 (by omega) (by omega) (by omega)) ml_RX7_45 es_X7_in ⟨Nat.le_of_ble_eq_true rfl, Nat.le_of_ble_eq_true rfl⟩ ⟨Nat.zero_le _, Nat.zero_le _⟩ (Nat.le_of_ble_eq_true rfl) rfl dX7_of_12 (fun H locs hI => ?_)
    refine r_b_ne (tgt := 25) hC dX7_of_15 (by decide) (fun c_2 => ?_) (fun c_2 => ?_)
    · skip
      have hvp := hPg w.toNat (by omega)
      obtain ⟨h18, h19, h20, h21, h22⟩ := id hvp
      have hd0 := dk_rg hV 0
      refine r_iload_n hC hl dX7_of_25 2 rfl ?_
      by_cases c_3 : v = 5
      · refine r_tin (tgt := 56) hC 5 c_3 (by decide) dX7_of_26 (by decide) (by decide) rfl (by decide) ?_
        refine r_aload_n hC hl dX7_of_56 0 rfl ?_
        refine r_iload_n hC hl dX7_of_57 1 rfl ?_
        refine r_iconst hC dX7_of_58 ?_
        refine r_cVi hC hI hl [.int (J w), .int (J 0)] [] (c_X7_its0_i l X a B S w (by omega)) ml_RX7_64 ev_X7_its (rc_mo (S := S) hC hI) ⟨Nat.le_of_ble_eq_true rfl, Nat.le_of_ble_eq_true rfl⟩ ⟨Nat.zero_le _, Nat.zero_le _⟩ (Nat.le_of_ble_eq_true rfl) rfl dX7_of_59 (fun H locs hI => ?_)
        refine r_aload_n hC hl dX7_of_62 0 rfl ?_
        refine r_iload_n hC hl dX7_of_63 1 rfl ?_
        refine r_iconst hC dX7_of_64 ?_
        refine r_cVi hC hI hl [.int (J w), .int (J 1)] [.int (J (S 20 (18 + 5 * w.toNat)))] (c_X7_its1_i l X a B S w (by omega)) ml_RX7_64 ev_X7_its (rc_mo (S := S) hC hI) ⟨Nat.le_of_ble_eq_true rfl, Nat.le_of_ble_eq_true rfl⟩ ⟨Nat.zero_le _, Nat.zero_le _⟩ (Nat.le_of_ble_eq_true rfl) rfl dX7_of_65 (fun H locs hI => ?_)
        refine r_cSi hC hI hl [.int (J (S 20 (18 + 5 * w.toNat))), .int (J (S 20 (19 + 5 * w.toNat)))] [] (c_X7_costs l X a B S (S 20 (18 + 5 * w.toNat)) (S 20 (19 + 5 * w.toNat)) (by omega) (by omega)) ml_RX7_80 es_X7_costs ⟨Nat.le_of_ble_eq_true rfl, Nat.le_of_ble_eq_true rfl⟩ ⟨Nat.zero_le _, Nat.zero_le _⟩ (Nat.le_of_ble_eq_true rfl) rfl dX7_of_68 (fun H locs hI => ?_)
        exact r_iret hC hr hlk hI (an_n (by (repeat' split) <;> first | rfl | omega) (by unfold ofF; (repeat' split) <;> first | omega | rfl | exact b0_eq hvp | (congr 1; omega))) (fn_n (by (repeat' split) <;> first | rfl | omega) (rfl)) dX7_of_71
      by_cases c_4 : v = 6
      · refine r_tin (tgt := 72) hC 6 c_4 (by decide) dX7_of_26 (by decide) (by decide) rfl (by decide) ?_
        refine r_aload_n hC hl dX7_of_72 0 rfl ?_
        refine r_iload_n hC hl dX7_of_73 1 rfl ?_
        refine r_iconst hC dX7_of_74 ?_
        refine r_cVi hC hI hl [.int (J w), .int (J 0)] [] (c_X7_its0_i l X a B S w (by omega)) ml_RX7_64 ev_X7_its (rc_mo (S := S) hC hI) ⟨Nat.le_of_ble_eq_true rfl, Nat.le_of_ble_eq_true rfl⟩ ⟨Nat.zero_le _, Nat.zero_le _⟩ (Nat.le_of_ble_eq_true rfl) rfl dX7_of_75 (fun H locs hI => ?_)
        refine r_aload_n hC hl dX7_of_78 0 rfl ?_
        refine r_cVi hC hI hl [] [.int (J (S 20 (18 + 5 * w.toNat)))] (c_X7_darkNow l X a B S  (by omega)) ml_RX7_70 ev_X7_darkNow (rc_mo (S := S) hC hI) ⟨Nat.le_of_ble_eq_true rfl, Nat.le_of_ble_eq_true rfl⟩ ⟨Nat.zero_le _, Nat.zero_le _⟩ (Nat.le_of_ble_eq_true rfl) rfl dX7_of_79 (fun H locs hI => ?_)
        refine r_cSi hC hI hl [.int (J (S 20 (18 + 5 * w.toNat))), .int (J (dkF (S 20) 0))] [] (c_X7_takes l X a B S (S 20 (18 + 5 * w.toNat)) (dkF (S 20) 0) (by omega) (by omega)) ml_RX7_87 es_X7_takes ⟨Nat.le_of_ble_eq_true rfl, Nat.le_of_ble_eq_true rfl⟩ ⟨Nat.zero_le _, Nat.zero_le _⟩ (Nat.le_of_ble_eq_true rfl) rfl dX7_of_82 (fun H locs hI => ?_)
        exact r_iret hC hr hlk hI (an_n (by (repeat' split) <;> first | rfl | omega) (by unfold ofF; (repeat' split) <;> first | omega | rfl | exact b0_eq hvp | (congr 1; omega))) (fn_n (by (repeat' split) <;> first | rfl | omega) (rfl)) dX7_of_85
      by_cases c_5 : v = 7
      · refine r_tin (tgt := 86) hC 7 c_5 (by decide) dX7_of_26 (by decide) (by decide) rfl (by decide) ?_
        refine r_aload_n hC hl dX7_of_86 0 rfl ?_
        refine r_iload_n hC hl dX7_of_87 1 rfl ?_
        refine r_cVi hC hI hl [.int (J w)] [] (c_X7_fades_i l X a B S w hvp (by omega)) ml_RX7_102 ev_X7_fades (rc_mo (S := S) hC hI) ⟨Nat.le_of_ble_eq_true rfl, Nat.le_of_ble_eq_true rfl⟩ ⟨Nat.zero_le _, Nat.zero_le _⟩ (Nat.le_of_ble_eq_true rfl) rfl dX7_of_88 (fun H locs hI => ?_)
        exact r_iret hC hr hlk hI (an_n (by (repeat' split) <;> first | rfl | omega) (by unfold ofF; (repeat' split) <;> first | omega | rfl | exact b0_eq hvp | (congr 1; omega))) (fn_n (by (repeat' split) <;> first | rfl | omega) (rfl)) dX7_of_91
      by_cases c_6 : v = 8
      · refine r_tin (tgt := 92) hC 8 c_6 (by decide) dX7_of_26 (by decide) (by decide) rfl (by decide) ?_
        refine r_aload_n hC hl dX7_of_92 0 rfl ?_
        refine r_iload_n hC hl dX7_of_93 1 rfl ?_
        refine r_cVi hC hI hl [.int (J w)] [] (c_X7_believed_i l X a B S w hvp (by omega) (by omega)) ml_RX7_67 ev_X7_believed (rc_mo (S := S) hC hI) ⟨Nat.le_of_ble_eq_true rfl, Nat.le_of_ble_eq_true rfl⟩ ⟨Nat.zero_le _, Nat.zero_le _⟩ (Nat.le_of_ble_eq_true rfl) rfl dX7_of_94 (fun H locs hI => ?_)
        exact r_iret hC hr hlk hI (an_n (by (repeat' split) <;> first | rfl | omega) (by unfold ofF; (repeat' split) <;> first | omega | rfl | exact b0_eq hvp | (congr 1; omega))) (fn_n (by (repeat' split) <;> first | rfl | omega) (rfl)) dX7_of_97
      refine r_tout (tgt := 98) hC (by omega) dX7_of_26 (by omega) (by decide) ?_
      refine r_aload_n hC hl dX7_of_98 0 rfl ?_
      refine r_iload_n hC hl dX7_of_99 1 rfl ?_
      refine r_iload_n hC hl dX7_of_100 2 rfl ?_
      refine r_cVi hC hI hl [.int (J w), .int (J v)] [] (c_X7_itsG l X a B S w v (by omega) (by omega)) ml_RX7_64 ev_X7_its (rc_mo (S := S) hC hI) ⟨Nat.le_of_ble_eq_true rfl, Nat.le_of_ble_eq_true rfl⟩ ⟨Nat.zero_le _, Nat.zero_le _⟩ (Nat.le_of_ble_eq_true rfl) rfl dX7_of_101 (fun H locs hI => ?_)
      exact r_iret hC hr hlk hI (an_n (by (repeat' split) <;> first | rfl | omega) (by unfold ofF; (repeat' split) <;> first | omega | rfl | exact b0_eq hvp | (congr 1; omega))) (fn_n (by (repeat' split) <;> first | rfl | omega) (rfl)) dX7_of_104
    · skip
      refine r_aload_n hC hl dX7_of_18 0 rfl ?_
      refine r_ldc (x := (-1000000001)) hC ct_RX7_44 (by decide) dX7_of_19 ?_
      refine r_cVi hC hI hl [.int (J (-1000000001))] [] (c_X7_finds0 l X a B S  ) ml_RX7_57 ev_X7_finds (rc_mo (S := S) hC hI) ⟨Nat.le_of_ble_eq_true rfl, Nat.le_of_ble_eq_true rfl⟩ ⟨Nat.zero_le _, Nat.zero_le _⟩ (Nat.le_of_ble_eq_true rfl) rfl dX7_of_21 (fun H locs hI => ?_)
      exact r_iret hC hr hlk hI (an_f 0 (by (repeat' split) <;> first | rfl | omega)) (fn_f 0 (by (repeat' split) <;> first | rfl | omega)) dX7_of_24

set_option maxHeartbeats 4000000 in
set_option maxRecDepth 100000 in
theorem c_X7_isPart (l : Launch) (X : XT) (a : Nat → Nat) (B : Nat) (S : St) (v : Int) (u : Int) (hv : -2147483648 ≤ v ∧ v ≤ 2147483647) (hu : -2147483648 ≤ u ∧ u ≤ 2147483647) : CT l X a B 1 yX7_isPart cX7_isPart 2 (some .boolean) [.int (J v), .int (J u)] S (Qi X a B (bI ((1 ≤ v ∧ v ≤ 4) ∧ leP v ≤ u ∧ u ≤ moP v)) (S)) := by
  refine CT.of (by decide +kernel) (Nat.le_of_ble_eq_true rfl) ?_
  intro p e s m below meth c ls hC hr hlk hI hl
  have hC : Cx p c cX7_isPart 2 s m [.int (J v), .int (J u)].toArray RX7 X B := hC
  have hl : lv_has ls 2 [(0, .int (J v)), (1, .int (J u))] := hl
  refine r_iload_n hC hl dX7_isPart_0 0 rfl ?_
  by_cases c_1 : v = 1
  · refine r_tin (tgt := 28) hC 1 c_1 (by decide) dX7_isPart_1 (by decide) (by decide) rfl (by decide) ?_
    refine r_iload_n hC hl dX7_isPart_28 1 rfl ?_
    refine r_iconst hC dX7_isPart_29 ?_
    refine r_bipush hC (by decide) dX7_isPart_30 ?_
    refine r_cSi hC hI hl [.int (J u), .int (J 1), .int (J 99)] [] (c_X7_in l X a B S u 1 99 (by omega) (by omega) (by omega)) ml_RX7_45 es_X7_in ⟨Nat.le_of_ble_eq_true rfl, Nat.le_of_ble_eq_true rfl⟩ ⟨Nat.zero_le _, Nat.zero_le _⟩ (Nat.le_of_ble_eq_true rfl) rfl dX7_isPart_32 (fun H locs hI => ?_)
    exact r_zret hC hr hlk hI (bI_01) ((bI_iff (by unfold leP moP; (repeat' split) <;> omega))) (rfl) dX7_isPart_35
  by_cases c_2 : v = 2
  · refine r_tin (tgt := 36) hC 2 c_2 (by decide) dX7_isPart_1 (by decide) (by decide) rfl (by decide) ?_
    refine r_iload_n hC hl dX7_isPart_36 1 rfl ?_
    refine r_iconst hC dX7_isPart_37 ?_
    refine r_bipush hC (by decide) dX7_isPart_38 ?_
    refine r_cSi hC hI hl [.int (J u), .int (J 0), .int (J 99)] [] (c_X7_in l X a B S u 0 99 (by omega) (by omega) (by omega)) ml_RX7_45 es_X7_in ⟨Nat.le_of_ble_eq_true rfl, Nat.le_of_ble_eq_true rfl⟩ ⟨Nat.zero_le _, Nat.zero_le _⟩ (Nat.le_of_ble_eq_true rfl) rfl dX7_isPart_40 (fun H locs hI => ?_)
    exact r_zret hC hr hlk hI (bI_01) ((bI_iff (by unfold leP moP; (repeat' split) <;> omega))) (rfl) dX7_isPart_43
  by_cases c_3 : v = 3
  · refine r_tin (tgt := 44) hC 3 c_3 (by decide) dX7_isPart_1 (by decide) (by decide) rfl (by decide) ?_
    refine r_iload_n hC hl dX7_isPart_44 1 rfl ?_
    refine r_iconst hC dX7_isPart_45 ?_
    refine r_iconst hC dX7_isPart_46 ?_
    refine r_cSi hC hI hl [.int (J u), .int (J 0), .int (J 1)] [] (c_X7_in l X a B S u 0 1 (by omega) (by omega) (by omega)) ml_RX7_45 es_X7_in ⟨Nat.le_of_ble_eq_true rfl, Nat.le_of_ble_eq_true rfl⟩ ⟨Nat.zero_le _, Nat.zero_le _⟩ (Nat.le_of_ble_eq_true rfl) rfl dX7_isPart_47 (fun H locs hI => ?_)
    exact r_zret hC hr hlk hI (bI_01) ((bI_iff (by unfold leP moP; (repeat' split) <;> omega))) (rfl) dX7_isPart_50
  refine r_tout (tgt := 51) hC (by omega) dX7_isPart_1 (by omega) (by decide) ?_
  refine r_iload_n hC hl dX7_isPart_51 0 rfl ?_
  refine r_iconst hC dX7_isPart_52 ?_
  refine r_icmp_ne (tgt := 71) hC (by omega) (by omega) dX7_isPart_53 (by decide) (fun c_4 => ?_) (fun c_4 => ?_)
  · skip
    refine r_iconst hC dX7_isPart_71 ?_
    exact r_zret hC hr hlk hI (by decide) ((bI_f (by unfold leP moP; (repeat' split) <;> omega)).symm) (rfl) dX7_isPart_72
  · skip
    refine r_iload_n hC hl dX7_isPart_56 1 rfl ?_
    refine r_iconst hC dX7_isPart_57 ?_
    refine r_sipush hC (by decide) dX7_isPart_58 ?_
    refine r_cSi hC hI hl [.int (J u), .int (J 0), .int (J 9999)] [] (c_X7_in l X a B S u 0 9999 (by omega) (by omega) (by omega)) ml_RX7_45 es_X7_in ⟨Nat.le_of_ble_eq_true rfl, Nat.le_of_ble_eq_true rfl⟩ ⟨Nat.zero_le _, Nat.zero_le _⟩ (Nat.le_of_ble_eq_true rfl) rfl dX7_isPart_61 (fun H locs hI => ?_)
    refine r_b_eq (tgt := 71) hC dX7_isPart_64 (by decide) (fun c_5 => ?_) (fun c_5 => ?_)
    · skip
      refine r_iconst hC dX7_isPart_71 ?_
      exact r_zret hC hr hlk hI (by decide) ((bI_f (by unfold leP moP; (repeat' split) <;> omega)).symm) (rfl) dX7_isPart_72
    · skip
      refine r_iconst hC dX7_isPart_67 ?_
      refine r_goto (tgt := 72) hC dX7_isPart_68 (by decide) ?_
      exact r_zret hC hr hlk hI (by decide) ((bI_t (by unfold leP moP; (repeat' split) <;> omega)).symm) (rfl) dX7_isPart_72

set_option maxHeartbeats 4000000 in
set_option maxRecDepth 100000 in
theorem c_X7_set (l : Launch) (X : XT) (a : Nat → Nat) (B : Nat) (S : St) (w : Int) (v : Int) (u : Int) (hV : VR 9999 (S 20)) (hw : -2147483648 ≤ w ∧ w ≤ 2147483647) (hv : -2147483648 ≤ v ∧ v ≤ 2147483647) (hu : -2147483648 ≤ u ∧ u ≤ 2147483647) : CT l X a B 2 yX7_set cX7_set 4 (some .int) [.ref (a (49)), .int (J w), .int (J v), .int (J u)] S (Qi X a B (anF (if (0 ≤ w ∧ w < S 20 5) ∧ (1 ≤ v ∧ v ≤ 4) ∧ leP v ≤ u ∧ u ≤ moP v then -1 else 0) (S 20 (18 + 5 * w.toNat + v.toNat))) (fnF S 21 (if (0 ≤ w ∧ w < S 20 5) ∧ (1 ≤ v ∧ v ≤ 4) ∧ leP v ≤ u ∧ u ≤ moP v then -1 else 0) (up S 20 (18 + 5 * w.toNat + v.toNat) u))) := by
  refine CT.of (by decide +kernel) (Nat.le_of_ble_eq_true rfl) ?_
  intro p e s m below meth c ls hC hr hlk hI hl
  have hC : Cx p c cX7_set 4 s m [.ref (a (49)), .int (J w), .int (J v), .int (J u)].toArray RX7 X B := hC
  have hl : lv_has ls 4 [(0, .ref (a (49))), (1, .int (J w)), (2, .int (J v)), (3, .int (J u))] := hl
  obtain ⟨⟨hN, hBr, hBu, hIn, hLa, hPc⟩, hDk, hPg⟩ := id hV
  refine r_aload_n hC hl dX7_set_0 0 rfl ?_
  refine r_iload_n hC hl dX7_set_1 1 rfl ?_
  refine r_cVi hC hI hl [.int (J w)] [] (c_X7_isOne l X a B S w (by omega) (by omega)) ml_RX7_99 ev_X7_isOne (rc_mo (S := S) hC hI) ⟨Nat.le_of_ble_eq_true rfl, Nat.le_of_ble_eq_true rfl⟩ ⟨Nat.zero_le _, Nat.zero_le _⟩ (Nat.le_of_ble_eq_true rfl) rfl dX7_set_2 (fun H locs hI => ?_)
  refine r_b_eq (tgt := 32) hC dX7_set_5 (by decide) (fun c_1 => ?_) (fun c_1 => ?_)
  · skip
    refine r_aload_n hC hl dX7_set_32 0 rfl ?_
    refine r_ldc (x := (-1000000001)) hC ct_RX7_44 (by decide) dX7_set_33 ?_
    refine r_cVi hC hI hl [.int (J (-1000000001))] [] (c_X7_finds0 l X a B S  ) ml_RX7_57 ev_X7_finds (rc_mo (S := S) hC hI) ⟨Nat.le_of_ble_eq_true rfl, Nat.le_of_ble_eq_true rfl⟩ ⟨Nat.zero_le _, Nat.zero_le _⟩ (Nat.le_of_ble_eq_true rfl) rfl dX7_set_35 (fun H locs hI => ?_)
    exact r_iret hC hr hlk hI (an_f 0 (by (repeat' split) <;> first | rfl | omega)) (fn_f 0 (by (repeat' split) <;> first | rfl | omega)) dX7_set_38
  · skip
    refine r_iload_n hC hl dX7_set_8 2 rfl ?_
    refine r_iload_n hC hl dX7_set_9 3 rfl ?_
    refine r_cSi hC hI hl [.int (J v), .int (J u)] [] (c_X7_isPart l X a B S v u (by omega) (by omega)) ml_RX7_105 es_X7_isPart ⟨Nat.le_of_ble_eq_true rfl, Nat.le_of_ble_eq_true rfl⟩ ⟨Nat.zero_le _, Nat.zero_le _⟩ (Nat.le_of_ble_eq_true rfl) rfl dX7_set_10 (fun H locs hI => ?_)
    refine r_b_eq (tgt := 32) hC dX7_set_13 (by decide) (fun c_2 => ?_) (fun c_2 => ?_)
    · skip
      refine r_aload_n hC hl dX7_set_32 0 rfl ?_
      refine r_ldc (x := (-1000000001)) hC ct_RX7_44 (by decide) dX7_set_33 ?_
      refine r_cVi hC hI hl [.int (J (-1000000001))] [] (c_X7_finds0 l X a B S  ) ml_RX7_57 ev_X7_finds (rc_mo (S := S) hC hI) ⟨Nat.le_of_ble_eq_true rfl, Nat.le_of_ble_eq_true rfl⟩ ⟨Nat.zero_le _, Nat.zero_le _⟩ (Nat.le_of_ble_eq_true rfl) rfl dX7_set_35 (fun H locs hI => ?_)
      exact r_iret hC hr hlk hI (an_f 0 (by (repeat' split) <;> first | rfl | omega)) (fn_f 0 (by (repeat' split) <;> first | rfl | omega)) dX7_set_38
    · skip
      refine r_aload_n hC hl dX7_set_16 0 rfl ?_
      refine r_bipush hC (by decide) dX7_set_17 ?_
      refine r_iconst hC dX7_set_19 ?_
      refine r_iload_n hC hl dX7_set_20 1 rfl ?_
      refine r_imul hC dX7_set_21 ?_
      refine r_iadd hC dX7_set_22 ?_
      refine r_iload_n hC hl dX7_set_23 2 rfl ?_
      refine r_iadd hC dX7_set_24 ?_
      refine r_iload_n hC hl dX7_set_25 3 rfl ?_
      refine r_cVi hC hI hl [.int (J ((18 + (5 * w)) + v)), .int (J u)] [] (c_X7_becomes l X a B S ((18 + (5 * w)) + v) u (by omega)) ml_RX7_53 ev_X7_becomes (rc_mo (S := S) hC hI) ⟨Nat.le_of_ble_eq_true rfl, Nat.le_of_ble_eq_true rfl⟩ ⟨Nat.zero_le _, Nat.zero_le _⟩ (Nat.le_of_ble_eq_true rfl) rfl dX7_set_26 (fun H locs hI => ?_)
      refine r_goto (tgt := 38) hC dX7_set_29 (by decide) ?_
      exact r_iret hC hr hlk hI (an_n (by (repeat' split) <;> first | rfl | omega) (by congr 1; omega)) (fn_n (by (repeat' split) <;> first | rfl | omega) (by congr 1; omega)) dX7_set_38

set_option maxHeartbeats 4000000 in
set_option maxRecDepth 100000 in
theorem c_X7_turn (l : Launch) (X : XT) (a : Nat → Nat) (B : Nat) (S : St) (w : Int) (v : Int) (hV : VR 9999 (S 20)) (hw : -2147483648 ≤ w ∧ w ≤ 2147483647) (hv : -2147483648 ≤ v ∧ v ≤ 2147483647) : CT l X a B 2 yX7_turn cX7_turn 3 (some .int) [.ref (a (49)), .int (J w), .int (J v)] S (Qi X a B (anF (if (0 ≤ w ∧ w < S 20 5) ∧ 0 ≤ v ∧ v ≤ 5 then -1 else 0) (S 20 (18 + 5 * w.toNat))) (fnF S 21 (if (0 ≤ w ∧ w < S 20 5) ∧ 0 ≤ v ∧ v ≤ 5 then -1 else 0) (up S 20 (18 + 5 * w.toNat) v))) := by
  refine CT.of (by decide +kernel) (Nat.le_of_ble_eq_true rfl) ?_
  intro p e s m below meth c ls hC hr hlk hI hl
  have hC : Cx p c cX7_turn 3 s m [.ref (a (49)), .int (J w), .int (J v)].toArray RX7 X B := hC
  have hl : lv_has ls 3 [(0, .ref (a (49))), (1, .int (J w)), (2, .int (J v))] := hl
  obtain ⟨⟨hN, hBr, hBu, hIn, hLa, hPc⟩, hDk, hPg⟩ := id hV
  refine r_aload_n hC hl dX7_turn_0 0 rfl ?_
  refine r_iload_n hC hl dX7_turn_1 1 rfl ?_
  refine r_cVi hC hI hl [.int (J w)] [] (c_X7_isOne l X a B S w (by omega) (by omega)) ml_RX7_99 ev_X7_isOne (rc_mo (S := S) hC hI) ⟨Nat.le_of_ble_eq_true rfl, Nat.le_of_ble_eq_true rfl⟩ ⟨Nat.zero_le _, Nat.zero_le _⟩ (Nat.le_of_ble_eq_true rfl) rfl dX7_turn_2 (fun H locs hI => ?_)
  refine r_b_eq (tgt := 29) hC dX7_turn_5 (by decide) (fun c_1 => ?_) (fun c_1 => ?_)
  · skip
    refine r_aload_n hC hl dX7_turn_29 0 rfl ?_
    refine r_ldc (x := (-1000000001)) hC ct_RX7_44 (by decide) dX7_turn_30 ?_
    refine r_cVi hC hI hl [.int (J (-1000000001))] [] (c_X7_finds0 l X a B S  ) ml_RX7_57 ev_X7_finds (rc_mo (S := S) hC hI) ⟨Nat.le_of_ble_eq_true rfl, Nat.le_of_ble_eq_true rfl⟩ ⟨Nat.zero_le _, Nat.zero_le _⟩ (Nat.le_of_ble_eq_true rfl) rfl dX7_turn_32 (fun H locs hI => ?_)
    exact r_iret hC hr hlk hI (an_f 0 (by (repeat' split) <;> first | rfl | omega)) (fn_f 0 (by (repeat' split) <;> first | rfl | omega)) dX7_turn_35
  · skip
    refine r_iload_n hC hl dX7_turn_8 2 rfl ?_
    refine r_cSi hC hI hl [.int (J v)] [] (c_X7_isKind l X a B S v (by omega)) ml_RX7_90 es_X7_isKind ⟨Nat.le_of_ble_eq_true rfl, Nat.le_of_ble_eq_true rfl⟩ ⟨Nat.zero_le _, Nat.zero_le _⟩ (Nat.le_of_ble_eq_true rfl) rfl dX7_turn_9 (fun H locs hI => ?_)
    refine r_b_eq (tgt := 29) hC dX7_turn_12 (by decide) (fun c_2 => ?_) (fun c_2 => ?_)
    · skip
      refine r_aload_n hC hl dX7_turn_29 0 rfl ?_
      refine r_ldc (x := (-1000000001)) hC ct_RX7_44 (by decide) dX7_turn_30 ?_
      refine r_cVi hC hI hl [.int (J (-1000000001))] [] (c_X7_finds0 l X a B S  ) ml_RX7_57 ev_X7_finds (rc_mo (S := S) hC hI) ⟨Nat.le_of_ble_eq_true rfl, Nat.le_of_ble_eq_true rfl⟩ ⟨Nat.zero_le _, Nat.zero_le _⟩ (Nat.le_of_ble_eq_true rfl) rfl dX7_turn_32 (fun H locs hI => ?_)
      exact r_iret hC hr hlk hI (an_f 0 (by (repeat' split) <;> first | rfl | omega)) (fn_f 0 (by (repeat' split) <;> first | rfl | omega)) dX7_turn_35
    · skip
      refine r_aload_n hC hl dX7_turn_15 0 rfl ?_
      refine r_bipush hC (by decide) dX7_turn_16 ?_
      refine r_iconst hC dX7_turn_18 ?_
      refine r_iload_n hC hl dX7_turn_19 1 rfl ?_
      refine r_imul hC dX7_turn_20 ?_
      refine r_iadd hC dX7_turn_21 ?_
      refine r_iload_n hC hl dX7_turn_22 2 rfl ?_
      refine r_cVi hC hI hl [.int (J (18 + (5 * w))), .int (J v)] [] (c_X7_becomes l X a B S (18 + (5 * w)) v (by omega)) ml_RX7_53 ev_X7_becomes (rc_mo (S := S) hC hI) ⟨Nat.le_of_ble_eq_true rfl, Nat.le_of_ble_eq_true rfl⟩ ⟨Nat.zero_le _, Nat.zero_le _⟩ (Nat.le_of_ble_eq_true rfl) rfl dX7_turn_23 (fun H locs hI => ?_)
      refine r_goto (tgt := 35) hC dX7_turn_26 (by decide) ?_
      exact r_iret hC hr hlk hI (an_n (by (repeat' split) <;> first | rfl | omega) (by congr 1; omega)) (fn_n (by (repeat' split) <;> first | rfl | omega) (by congr 1; omega)) dX7_turn_35

set_option maxHeartbeats 4000000 in
set_option maxRecDepth 100000 in
theorem c_X7_as (l : Launch) (X : XT) (a : Nat → Nat) (B : Nat) (S : St) (w : Int) (v : Int) (hV : VR 9999 (S 20)) (hw : -2147483648 ≤ w ∧ w ≤ 2147483647) (hv : -2147483648 ≤ v ∧ v ≤ 2147483647) : CT l X a B 2 yX7_as cX7_as 5 (some .int) [.ref (a (49)), .int (J w), .int (J v)] S (Qi X a B (anF (if ¬ ((0 ≤ w ∧ w < S 20 5) ∧ 0 ≤ v ∧ v ≤ 5) then 0 else if v = 0 ∨ S 20 (18 + 5 * w.toNat) = v ∨ (v = 1 ∧ S 20 (18 + 5 * w.toNat) = 4) ∨ (v = 2 ∧ S 20 (18 + 5 * w.toNat) = 5) then -1 else 2) (S 20 (20 + 5 * w.toNat))) (fnF S 21 (if ¬ ((0 ≤ w ∧ w < S 20 5) ∧ 0 ≤ v ∧ v ≤ 5) then 0 else if v = 0 ∨ S 20 (18 + 5 * w.toNat) = v ∨ (v = 1 ∧ S 20 (18 + 5 * w.toNat) = 4) ∨ (v = 2 ∧ S 20 (18 + 5 * w.toNat) = 5) then -1 else 2) (S))) := by
  refine CT.of (by decide +kernel) (Nat.le_of_ble_eq_true rfl) ?_
  intro p e s m below meth c ls hC hr hlk hI hl
  have hC : Cx p c cX7_as 5 s m [.ref (a (49)), .int (J w), .int (J v)].toArray RX7 X B := hC
  have hl : lv_has ls 5 [(0, .ref (a (49))), (1, .int (J w)), (2, .int (J v))] := hl
  obtain ⟨⟨hN, hBr, hBu, hIn, hLa, hPc⟩, hDk, hPg⟩ := id hV
  refine r_aload_n hC hl dX7_as_0 0 rfl ?_
  refine r_iload_n hC hl dX7_as_1 1 rfl ?_
  refine r_cVi hC hI hl [.int (J w)] [] (c_X7_isOne l X a B S w (by omega) (by omega)) ml_RX7_99 ev_X7_isOne (rc_mo (S := S) hC hI) ⟨Nat.le_of_ble_eq_true rfl, Nat.le_of_ble_eq_true rfl⟩ ⟨Nat.zero_le _, Nat.zero_le _⟩ (Nat.le_of_ble_eq_true rfl) rfl dX7_as_2 (fun H locs hI => ?_)
  refine r_b_eq (tgt := 15) hC dX7_as_5 (by decide) (fun c_1 => ?_) (fun c_1 => ?_)
  · skip
    refine r_aload_n hC hl dX7_as_15 0 rfl ?_
    refine r_ldc (x := (-1000000001)) hC ct_RX7_44 (by decide) dX7_as_16 ?_
    refine r_cVi hC hI hl [.int (J (-1000000001))] [] (c_X7_finds0 l X a B S  ) ml_RX7_57 ev_X7_finds (rc_mo (S := S) hC hI) ⟨Nat.le_of_ble_eq_true rfl, Nat.le_of_ble_eq_true rfl⟩ ⟨Nat.zero_le _, Nat.zero_le _⟩ (Nat.le_of_ble_eq_true rfl) rfl dX7_as_18 (fun H locs hI => ?_)
    exact r_iret hC hr hlk hI (an_f 0 (by (repeat' split) <;> first | rfl | omega)) (fn_f 0 (by (repeat' split) <;> first | rfl | omega)) dX7_as_21
  · skip
    refine r_iload_n hC hl dX7_as_8 2 rfl ?_
    refine r_cSi hC hI hl [.int (J v)] [] (c_X7_isKind l X a B S v (by omega)) ml_RX7_90 es_X7_isKind ⟨Nat.le_of_ble_eq_true rfl, Nat.le_of_ble_eq_true rfl⟩ ⟨Nat.zero_le _, Nat.zero_le _⟩ (Nat.le_of_ble_eq_true rfl) rfl dX7_as_9 (fun H locs hI => ?_)
    refine r_b_ne (tgt := 22) hC dX7_as_12 (by decide) (fun c_2 => ?_) (fun c_2 => ?_)
    · skip
      refine r_aload_n hC hl dX7_as_22 0 rfl ?_
      refine r_iload_n hC hl dX7_as_23 1 rfl ?_
      refine r_iconst hC dX7_as_24 ?_
      have hvp := hPg w.toNat (by omega)
      obtain ⟨h18, h19, h20, h21, h22⟩ := id hvp
      refine r_cVi hC hI hl [.int (J w), .int (J 0)] [] (c_X7_its0_i l X a B S w (by omega)) ml_RX7_64 ev_X7_its (rc_mo (S := S) hC hI) ⟨Nat.le_of_ble_eq_true rfl, Nat.le_of_ble_eq_true rfl⟩ ⟨Nat.zero_le _, Nat.zero_le _⟩ (Nat.le_of_ble_eq_true rfl) rfl dX7_as_25 (fun H locs hI => ?_)
      refine r_istore_n (lv1 := [(3, .int (J (S 20 (18 + 5 * w.toNat)))), (0, .ref (a (49))), (1, .int (J w)), (2, .int (J v))]) hC hl dX7_as_28 3 rfl (by decide) rfl (fun ls hl => ?_)
      refine r_iload_n hC hl dX7_as_29 3 rfl ?_
      refine r_if_eq (tgt := 58) hC (by omega) dX7_as_30 (by decide) (fun c_3 => ?_) (fun c_3 => ?_)
      · skip
        refine r_iconst hC dX7_as_58 ?_
        refine r_goto (tgt := 63) hC dX7_as_59 (by decide) ?_
        refine r_istore (lv1 := [(4, .int (J 1)), (3, .int (J (S 20 (18 + 5 * w.toNat)))), (0, .ref (a (49))), (1, .int (J w)), (2, .int (J v))]) hC hl dX7_as_63 (by decide) rfl (fun ls hl => ?_)
        refine r_iload hC hl dX7_as_65 0 rfl ?_
        refine r_if_eq (tgt := 79) hC (by decide) dX7_as_67 (by decide) (fun z => absurd z (by decide)) (fun _ => ?_)
        refine r_aload_n hC hl dX7_as_70 2 rfl ?_
        refine r_iload_n hC hl dX7_as_71 3 rfl ?_
        refine r_iconst hC dX7_as_72 ?_
        refine r_cVi hC hI hl [.int (J w), .int (J 2)] [] (c_X7_its2_i l X a B S w (by omega)) ml_RX7_64 ev_X7_its (rc_mo (S := S) hC hI) ⟨Nat.le_of_ble_eq_true rfl, Nat.le_of_ble_eq_true rfl⟩ ⟨Nat.zero_le _, Nat.zero_le _⟩ (Nat.le_of_ble_eq_true rfl) rfl dX7_as_73 (fun H locs hI => ?_)
        refine r_goto (tgt := 85) hC dX7_as_76 (by decide) ?_
        exact r_iret hC hr hlk hI (an_n (by (repeat' split) <;> first | rfl | omega) (rfl)) (fn_n (by (repeat' split) <;> first | rfl | omega) (rfl)) dX7_as_85
      · skip
        refine r_iload_n hC hl dX7_as_33 3 rfl ?_
        refine r_iload_n hC hl dX7_as_34 0 rfl ?_
        refine r_icmp_eq (tgt := 58) hC (by omega) (by omega) dX7_as_35 (by decide) (fun c_5 => ?_) (fun c_5 => ?_)
        · skip
          refine r_iconst hC dX7_as_58 ?_
          refine r_goto (tgt := 63) hC dX7_as_59 (by decide) ?_
          refine r_istore (lv1 := [(4, .int (J 1)), (3, .int (J (S 20 (18 + 5 * w.toNat)))), (0, .ref (a (49))), (1, .int (J w)), (2, .int (J v))]) hC hl dX7_as_63 (by decide) rfl (fun ls hl => ?_)
          refine r_iload hC hl dX7_as_65 0 rfl ?_
          refine r_if_eq (tgt := 79) hC (by decide) dX7_as_67 (by decide) (fun z => absurd z (by decide)) (fun _ => ?_)
          refine r_aload_n hC hl dX7_as_70 2 rfl ?_
          refine r_iload_n hC hl dX7_as_71 3 rfl ?_
          refine r_iconst hC dX7_as_72 ?_
          refine r_cVi hC hI hl [.int (J w), .int (J 2)] [] (c_X7_its2_i l X a B S w (by omega)) ml_RX7_64 ev_X7_its (rc_mo (S := S) hC hI) ⟨Nat.le_of_ble_eq_true rfl, Nat.le_of_ble_eq_true rfl⟩ ⟨Nat.zero_le _, Nat.zero_le _⟩ (Nat.le_of_ble_eq_true rfl) rfl dX7_as_73 (fun H locs hI => ?_)
          refine r_goto (tgt := 85) hC dX7_as_76 (by decide) ?_
          exact r_iret hC hr hlk hI (an_n (by (repeat' split) <;> first | rfl | omega) (rfl)) (fn_n (by (repeat' split) <;> first | rfl | omega) (rfl)) dX7_as_85
        · skip
          refine r_iload_n hC hl dX7_as_38 3 rfl ?_
          refine r_iconst hC dX7_as_39 ?_
          refine r_icmp_ne (tgt := 48) hC (by omega) (by omega) dX7_as_40 (by decide) (fun c_7 => ?_) (fun c_7 => ?_)
          · skip
            refine r_iload_n hC hl dX7_as_48 3 rfl ?_
            refine r_iconst hC dX7_as_49 ?_
            refine r_icmp_ne (tgt := 62) hC (by omega) (by omega) dX7_as_50 (by decide) (fun c_8 => ?_) (fun c_8 => ?_)
            · skip
              refine r_iconst hC dX7_as_62 ?_
              refine r_istore (lv1 := [(4, .int (J 0)), (3, .int (J (S 20 (18 + 5 * w.toNat)))), (0, .ref (a (49))), (1, .int (J w)), (2, .int (J v))]) hC hl dX7_as_63 (by decide) rfl (fun ls hl => ?_)
              refine r_iload hC hl dX7_as_65 0 rfl ?_
              refine r_if_eq (tgt := 79) hC (by decide) dX7_as_67 (by decide) (fun _ => ?_) (fun z => absurd z (by decide))
              refine r_aload_n hC hl dX7_as_79 2 rfl ?_
              refine r_ldc (x := (-1000000003)) hC ct_RX7_109 (by decide) dX7_as_80 ?_
              refine r_cVi hC hI hl [.int (J (-1000000003))] [] (c_X7_finds2 l X a B S  ) ml_RX7_57 ev_X7_finds (rc_mo (S := S) hC hI) ⟨Nat.le_of_ble_eq_true rfl, Nat.le_of_ble_eq_true rfl⟩ ⟨Nat.zero_le _, Nat.zero_le _⟩ (Nat.le_of_ble_eq_true rfl) rfl dX7_as_82 (fun H locs hI => ?_)
              exact r_iret hC hr hlk hI (an_f 2 (by (repeat' split) <;> first | rfl | omega)) (fn_f 2 (by (repeat' split) <;> first | rfl | omega)) dX7_as_85
            · skip
              refine r_iload_n hC hl dX7_as_53 0 rfl ?_
              refine r_iconst hC dX7_as_54 ?_
              refine r_icmp_ne (tgt := 62) hC (by omega) (by omega) dX7_as_55 (by decide) (fun c_10 => ?_) (fun c_10 => ?_)
              · skip
                refine r_iconst hC dX7_as_62 ?_
                refine r_istore (lv1 := [(4, .int (J 0)), (3, .int (J (S 20 (18 + 5 * w.toNat)))), (0, .ref (a (49))), (1, .int (J w)), (2, .int (J v))]) hC hl dX7_as_63 (by decide) rfl (fun ls hl => ?_)
                refine r_iload hC hl dX7_as_65 0 rfl ?_
                refine r_if_eq (tgt := 79) hC (by decide) dX7_as_67 (by decide) (fun _ => ?_) (fun z => absurd z (by decide))
                refine r_aload_n hC hl dX7_as_79 2 rfl ?_
                refine r_ldc (x := (-1000000003)) hC ct_RX7_109 (by decide) dX7_as_80 ?_
                refine r_cVi hC hI hl [.int (J (-1000000003))] [] (c_X7_finds2 l X a B S  ) ml_RX7_57 ev_X7_finds (rc_mo (S := S) hC hI) ⟨Nat.le_of_ble_eq_true rfl, Nat.le_of_ble_eq_true rfl⟩ ⟨Nat.zero_le _, Nat.zero_le _⟩ (Nat.le_of_ble_eq_true rfl) rfl dX7_as_82 (fun H locs hI => ?_)
                exact r_iret hC hr hlk hI (an_f 2 (by (repeat' split) <;> first | rfl | omega)) (fn_f 2 (by (repeat' split) <;> first | rfl | omega)) dX7_as_85
              · skip
                refine r_iconst hC dX7_as_58 ?_
                refine r_goto (tgt := 63) hC dX7_as_59 (by decide) ?_
                refine r_istore (lv1 := [(4, .int (J 1)), (3, .int (J (S 20 (18 + 5 * w.toNat)))), (0, .ref (a (49))), (1, .int (J w)), (2, .int (J v))]) hC hl dX7_as_63 (by decide) rfl (fun ls hl => ?_)
                refine r_iload hC hl dX7_as_65 0 rfl ?_
                refine r_if_eq (tgt := 79) hC (by decide) dX7_as_67 (by decide) (fun z => absurd z (by decide)) (fun _ => ?_)
                refine r_aload_n hC hl dX7_as_70 2 rfl ?_
                refine r_iload_n hC hl dX7_as_71 3 rfl ?_
                refine r_iconst hC dX7_as_72 ?_
                refine r_cVi hC hI hl [.int (J w), .int (J 2)] [] (c_X7_its2_i l X a B S w (by omega)) ml_RX7_64 ev_X7_its (rc_mo (S := S) hC hI) ⟨Nat.le_of_ble_eq_true rfl, Nat.le_of_ble_eq_true rfl⟩ ⟨Nat.zero_le _, Nat.zero_le _⟩ (Nat.le_of_ble_eq_true rfl) rfl dX7_as_73 (fun H locs hI => ?_)
                refine r_goto (tgt := 85) hC dX7_as_76 (by decide) ?_
                exact r_iret hC hr hlk hI (an_n (by (repeat' split) <;> first | rfl | omega) (rfl)) (fn_n (by (repeat' split) <;> first | rfl | omega) (rfl)) dX7_as_85
          · skip
            refine r_iload_n hC hl dX7_as_43 0 rfl ?_
            refine r_iconst hC dX7_as_44 ?_
            refine r_icmp_eq (tgt := 58) hC (by omega) (by omega) dX7_as_45 (by decide) (fun c_13 => ?_) (fun c_13 => ?_)
            · skip
              refine r_iconst hC dX7_as_58 ?_
              refine r_goto (tgt := 63) hC dX7_as_59 (by decide) ?_
              refine r_istore (lv1 := [(4, .int (J 1)), (3, .int (J (S 20 (18 + 5 * w.toNat)))), (0, .ref (a (49))), (1, .int (J w)), (2, .int (J v))]) hC hl dX7_as_63 (by decide) rfl (fun ls hl => ?_)
              refine r_iload hC hl dX7_as_65 0 rfl ?_
              refine r_if_eq (tgt := 79) hC (by decide) dX7_as_67 (by decide) (fun z => absurd z (by decide)) (fun _ => ?_)
              refine r_aload_n hC hl dX7_as_70 2 rfl ?_
              refine r_iload_n hC hl dX7_as_71 3 rfl ?_
              refine r_iconst hC dX7_as_72 ?_
              refine r_cVi hC hI hl [.int (J w), .int (J 2)] [] (c_X7_its2_i l X a B S w (by omega)) ml_RX7_64 ev_X7_its (rc_mo (S := S) hC hI) ⟨Nat.le_of_ble_eq_true rfl, Nat.le_of_ble_eq_true rfl⟩ ⟨Nat.zero_le _, Nat.zero_le _⟩ (Nat.le_of_ble_eq_true rfl) rfl dX7_as_73 (fun H locs hI => ?_)
              refine r_goto (tgt := 85) hC dX7_as_76 (by decide) ?_
              exact r_iret hC hr hlk hI (an_n (by (repeat' split) <;> first | rfl | omega) (rfl)) (fn_n (by (repeat' split) <;> first | rfl | omega) (rfl)) dX7_as_85
            · skip
              refine r_iload_n hC hl dX7_as_48 3 rfl ?_
              refine r_iconst hC dX7_as_49 ?_
              refine r_icmp_ne (tgt := 62) hC (by omega) (by omega) dX7_as_50 (by decide) (fun c_15 => ?_) (fun c_15 => ?_)
              · skip
                refine r_iconst hC dX7_as_62 ?_
                refine r_istore (lv1 := [(4, .int (J 0)), (3, .int (J (S 20 (18 + 5 * w.toNat)))), (0, .ref (a (49))), (1, .int (J w)), (2, .int (J v))]) hC hl dX7_as_63 (by decide) rfl (fun ls hl => ?_)
                refine r_iload hC hl dX7_as_65 0 rfl ?_
                refine r_if_eq (tgt := 79) hC (by decide) dX7_as_67 (by decide) (fun _ => ?_) (fun z => absurd z (by decide))
                refine r_aload_n hC hl dX7_as_79 2 rfl ?_
                refine r_ldc (x := (-1000000003)) hC ct_RX7_109 (by decide) dX7_as_80 ?_
                refine r_cVi hC hI hl [.int (J (-1000000003))] [] (c_X7_finds2 l X a B S  ) ml_RX7_57 ev_X7_finds (rc_mo (S := S) hC hI) ⟨Nat.le_of_ble_eq_true rfl, Nat.le_of_ble_eq_true rfl⟩ ⟨Nat.zero_le _, Nat.zero_le _⟩ (Nat.le_of_ble_eq_true rfl) rfl dX7_as_82 (fun H locs hI => ?_)
                exact r_iret hC hr hlk hI (an_f 2 (by (repeat' split) <;> first | rfl | omega)) (fn_f 2 (by (repeat' split) <;> first | rfl | omega)) dX7_as_85
              · skip
                refine r_iload_n hC hl dX7_as_53 0 rfl ?_
                refine r_iconst hC dX7_as_54 ?_
                refine r_icmp_ne (tgt := 62) hC (by omega) (by omega) dX7_as_55 (by decide) (fun c_17 => ?_) (fun c_17 => ?_)
                · skip
                  refine r_iconst hC dX7_as_62 ?_
                  refine r_istore (lv1 := [(4, .int (J 0)), (3, .int (J (S 20 (18 + 5 * w.toNat)))), (0, .ref (a (49))), (1, .int (J w)), (2, .int (J v))]) hC hl dX7_as_63 (by decide) rfl (fun ls hl => ?_)
                  refine r_iload hC hl dX7_as_65 0 rfl ?_
                  refine r_if_eq (tgt := 79) hC (by decide) dX7_as_67 (by decide) (fun _ => ?_) (fun z => absurd z (by decide))
                  refine r_aload_n hC hl dX7_as_79 2 rfl ?_
                  refine r_ldc (x := (-1000000003)) hC ct_RX7_109 (by decide) dX7_as_80 ?_
                  refine r_cVi hC hI hl [.int (J (-1000000003))] [] (c_X7_finds2 l X a B S  ) ml_RX7_57 ev_X7_finds (rc_mo (S := S) hC hI) ⟨Nat.le_of_ble_eq_true rfl, Nat.le_of_ble_eq_true rfl⟩ ⟨Nat.zero_le _, Nat.zero_le _⟩ (Nat.le_of_ble_eq_true rfl) rfl dX7_as_82 (fun H locs hI => ?_)
                  exact r_iret hC hr hlk hI (an_f 2 (by (repeat' split) <;> first | rfl | omega)) (fn_f 2 (by (repeat' split) <;> first | rfl | omega)) dX7_as_85
                · skip
                  refine r_iconst hC dX7_as_58 ?_
                  refine r_goto (tgt := 63) hC dX7_as_59 (by decide) ?_
                  refine r_istore (lv1 := [(4, .int (J 1)), (3, .int (J (S 20 (18 + 5 * w.toNat)))), (0, .ref (a (49))), (1, .int (J w)), (2, .int (J v))]) hC hl dX7_as_63 (by decide) rfl (fun ls hl => ?_)
                  refine r_iload hC hl dX7_as_65 0 rfl ?_
                  refine r_if_eq (tgt := 79) hC (by decide) dX7_as_67 (by decide) (fun z => absurd z (by decide)) (fun _ => ?_)
                  refine r_aload_n hC hl dX7_as_70 2 rfl ?_
                  refine r_iload_n hC hl dX7_as_71 3 rfl ?_
                  refine r_iconst hC dX7_as_72 ?_
                  refine r_cVi hC hI hl [.int (J w), .int (J 2)] [] (c_X7_its2_i l X a B S w (by omega)) ml_RX7_64 ev_X7_its (rc_mo (S := S) hC hI) ⟨Nat.le_of_ble_eq_true rfl, Nat.le_of_ble_eq_true rfl⟩ ⟨Nat.zero_le _, Nat.zero_le _⟩ (Nat.le_of_ble_eq_true rfl) rfl dX7_as_73 (fun H locs hI => ?_)
                  refine r_goto (tgt := 85) hC dX7_as_76 (by decide) ?_
                  exact r_iret hC hr hlk hI (an_n (by (repeat' split) <;> first | rfl | omega) (rfl)) (fn_n (by (repeat' split) <;> first | rfl | omega) (rfl)) dX7_as_85
    · skip
      refine r_aload_n hC hl dX7_as_15 0 rfl ?_
      refine r_ldc (x := (-1000000001)) hC ct_RX7_44 (by decide) dX7_as_16 ?_
      refine r_cVi hC hI hl [.int (J (-1000000001))] [] (c_X7_finds0 l X a B S  ) ml_RX7_57 ev_X7_finds (rc_mo (S := S) hC hI) ⟨Nat.le_of_ble_eq_true rfl, Nat.le_of_ble_eq_true rfl⟩ ⟨Nat.zero_le _, Nat.zero_le _⟩ (Nat.le_of_ble_eq_true rfl) rfl dX7_as_18 (fun H locs hI => ?_)
      exact r_iret hC hr hlk hI (an_f 0 (by (repeat' split) <;> first | rfl | omega)) (fn_f 0 (by (repeat' split) <;> first | rfl | omega)) dX7_as_21

set_option maxHeartbeats 4000000 in
set_option maxRecDepth 100000 in
theorem c_X7_looks (l : Launch) (X : XT) (a : Nat → Nat) (B : Nat) (S : St) (w : Int) (hV : VR 9999 (S 20)) (hw : -2147483648 ≤ w ∧ w ≤ 2147483647) : CT l X a B 2 yX7_looks cX7_looks 3 (some .int) [.ref (a (49)), .int (J w)] S (Qi X a B (anF (if ¬ (0 ≤ w ∧ w < S 20 5) then 0 else if S 20 4 = 0 then 4 else -1) (blP (S 20) w.toNat 0 (S 20 4))) (fnF S 21 (if ¬ (0 ≤ w ∧ w < S 20 5) then 0 else if S 20 4 = 0 then 4 else -1) (up S 20 (22 + 5 * w.toNat) (mnF 9999 (S 20 (22 + 5 * w.toNat) + 1))))) := by
  refine CT.of (by decide +kernel) (Nat.le_of_ble_eq_true rfl) ?_
  intro p e s m below meth c ls hC hr hlk hI hl
  have hC : Cx p c cX7_looks 3 s m [.ref (a (49)), .int (J w)].toArray RX7 X B := hC
  have hl : lv_has ls 3 [(0, .ref (a (49))), (1, .int (J w))] := hl
  obtain ⟨⟨hN, hBr, hBu, hIn, hLa, hPc⟩, hDk, hPg⟩ := id hV
  refine r_aload_n hC hl dX7_looks_0 0 rfl ?_
  refine r_iload_n hC hl dX7_looks_1 1 rfl ?_
  refine r_cVi hC hI hl [.int (J w)] [] (c_X7_isOne l X a B S w (by omega) (by omega)) ml_RX7_99 ev_X7_isOne (rc_mo (S := S) hC hI) ⟨Nat.le_of_ble_eq_true rfl, Nat.le_of_ble_eq_true rfl⟩ ⟨Nat.zero_le _, Nat.zero_le _⟩ (Nat.le_of_ble_eq_true rfl) rfl dX7_looks_2 (fun H locs hI => ?_)
  refine r_b_ne (tgt := 15) hC dX7_looks_5 (by decide) (fun c_1 => ?_) (fun c_1 => ?_)
  · skip
    refine r_aload_n hC hl dX7_looks_15 0 rfl ?_
    refine g_mo  (v := .ref (a (50))) hC hI 0 (by decide) fl_RX7_7 rfl rfl dX7_looks_16 ?_
    refine r_iconst hC dX7_looks_19 ?_
    refine r_iald (cx := 50) (n := 58) (f := (fun S => S 20) (S)) (v := S 20 4) hC hI (by decide) rfl (by decide) (4) (by omega) (by omega) rfl dX7_looks_20 ?_
    refine r_if_ne (tgt := 31) hC (by omega) dX7_looks_21 (by decide) (fun c_2 => ?_) (fun c_2 => ?_)
    · skip
      refine r_aload_n hC hl dX7_looks_31 0 rfl ?_
      refine r_iload_n hC hl dX7_looks_32 1 rfl ?_
      have hvp := hPg w.toNat (by omega)
      obtain ⟨h18, h19, h20, h21, h22⟩ := id hvp
      refine r_cVi hC hI hl [.int (J w)] [] (c_X7_believed_i l X a B S w hvp (by omega) (by omega)) ml_RX7_67 ev_X7_believed (rc_mo (S := S) hC hI) ⟨Nat.le_of_ble_eq_true rfl, Nat.le_of_ble_eq_true rfl⟩ ⟨Nat.zero_le _, Nat.zero_le _⟩ (Nat.le_of_ble_eq_true rfl) rfl dX7_looks_33 (fun H locs hI => ?_)
      refine r_istore_n (lv1 := [(2, .int (J (b0F (S 20) w.toNat))), (0, .ref (a (49))), (1, .int (J w))]) hC hl dX7_looks_36 2 rfl (by decide) rfl (fun ls hl => ?_)
      refine r_aload_n hC hl dX7_looks_37 1 rfl ?_
      refine r_iload_n hC hl dX7_looks_38 2 rfl ?_
      refine r_iconst hC dX7_looks_39 ?_
      refine r_aload_n hC hl dX7_looks_40 1 rfl ?_
      refine r_iload_n hC hl dX7_looks_41 2 rfl ?_
      refine r_iconst hC dX7_looks_42 ?_
      refine r_cVi hC hI hl [.int (J w), .int (J 4)] [.int (J 4), .int (J w), .ref (a (49))] (c_X7_its4_i l X a B S w (by omega)) ml_RX7_64 ev_X7_its (rc_mo (S := S) hC hI) ⟨Nat.le_of_ble_eq_true rfl, Nat.le_of_ble_eq_true rfl⟩ ⟨Nat.zero_le _, Nat.zero_le _⟩ (Nat.le_of_ble_eq_true rfl) rfl dX7_looks_43 (fun H locs hI => ?_)
      refine r_iconst hC dX7_looks_46 ?_
      refine r_iadd hC dX7_looks_47 ?_
      refine r_iconst hC dX7_looks_48 ?_
      refine r_sipush hC (by decide) dX7_looks_49 ?_
      refine r_cSi hC hI hl [.int (J ((S 20 (22 + 5 * w.toNat)) + 1)), .int (J 0), .int (J 9999)] [.int (J 4), .int (J w), .ref (a (49))] (c_X7_held l X a B S ((S 20 (22 + 5 * w.toNat)) + 1) 0 9999 (by omega) (by omega) (by omega)) ml_RX7_60 es_X7_held ⟨Nat.le_of_ble_eq_true rfl, Nat.le_of_ble_eq_true rfl⟩ ⟨Nat.zero_le _, Nat.zero_le _⟩ (Nat.le_of_ble_eq_true rfl) rfl dX7_looks_52 (fun H locs hI => ?_)
      refine r_cVv hC hI hl [.int (J w), .int (J 4), .int (J (hdF ((S 20 (22 + 5 * w.toNat)) + 1) 0 9999))] [] (c_X7_puts4_i l X a B S w (hdF ((S 20 (22 + 5 * w.toNat)) + 1) 0 9999) (by omega)) ml_RX7_83 ev_X7_puts (rc_mo (S := S) hC hI) ⟨Nat.le_of_ble_eq_true rfl, Nat.le_of_ble_eq_true rfl⟩ ⟨Nat.zero_le _, Nat.zero_le _⟩ (Nat.le_of_ble_eq_true rfl) rfl dX7_looks_55 (fun H locs hI => ?_)
      refine r_iload_n hC hl dX7_looks_58 0 rfl ?_
      exact r_iret hC hr hlk hI (an_n (by (repeat' split) <;> first | rfl | omega) (b0_eq hvp)) (fn_n (by (repeat' split) <;> first | rfl | omega) (by rw [show hdF (S 20 (22 + 5 * w.toNat) + 1) 0 9999 = mnF 9999 (S 20 (22 + 5 * w.toNat) + 1) by unfold hdF mnF; (repeat' split) <;> omega])) dX7_looks_59
    · skip
      refine r_aload_n hC hl dX7_looks_24 0 rfl ?_
      refine r_ldc (x := (-1000000005)) hC ct_RX7_95 (by decide) dX7_looks_25 ?_
      refine r_cVi hC hI hl [.int (J (-1000000005))] [] (c_X7_finds4 l X a B S  ) ml_RX7_57 ev_X7_finds (rc_mo (S := S) hC hI) ⟨Nat.le_of_ble_eq_true rfl, Nat.le_of_ble_eq_true rfl⟩ ⟨Nat.zero_le _, Nat.zero_le _⟩ (Nat.le_of_ble_eq_true rfl) rfl dX7_looks_27 (fun H locs hI => ?_)
      exact r_iret hC hr hlk hI (an_f 4 (by (repeat' split) <;> first | rfl | omega)) (fn_f 4 (by (repeat' split) <;> first | rfl | omega)) dX7_looks_30
  · skip
    refine r_aload_n hC hl dX7_looks_8 0 rfl ?_
    refine r_ldc (x := (-1000000001)) hC ct_RX7_44 (by decide) dX7_looks_9 ?_
    refine r_cVi hC hI hl [.int (J (-1000000001))] [] (c_X7_finds0 l X a B S  ) ml_RX7_57 ev_X7_finds (rc_mo (S := S) hC hI) ⟨Nat.le_of_ble_eq_true rfl, Nat.le_of_ble_eq_true rfl⟩ ⟨Nat.zero_le _, Nat.zero_le _⟩ (Nat.le_of_ble_eq_true rfl) rfl dX7_looks_11 (fun H locs hI => ?_)
    exact r_iret hC hr hlk hI (an_f 0 (by (repeat' split) <;> first | rfl | omega)) (fn_f 0 (by (repeat' split) <;> first | rfl | omega)) dX7_looks_14

set_option maxHeartbeats 4000000 in
set_option maxRecDepth 100000 in
theorem c_X7_over (l : Launch) (X : XT) (a : Nat → Nat) (B : Nat) (S : St) (w : Int) (hV : VR 9999 (S 20)) (hw : -2147483648 ≤ w ∧ w ≤ 2147483647) : CT l X a B 2 yX7_over cX7_over 3 (some .int) [.ref (a (49)), .int (J w)] S (Qi X a B (anF (if ¬ (0 ≤ w ∧ w < S 20 5) then 0 else if S 20 3 < csF (S 20 (18 + 5 * w.toNat)) (S 20 (19 + 5 * w.toNat)) then 4 else -1) (tkF (S 20 (18 + 5 * w.toNat)) (dkF (S 20) 0))) (fnF S 21 (if ¬ (0 ≤ w ∧ w < S 20 5) then 0 else if S 20 3 < csF (S 20 (18 + 5 * w.toNat)) (S 20 (19 + 5 * w.toNat)) then 4 else -1) (setB S 20 (spF (S 20) w.toNat)))) := by
  refine CT.of (by decide +kernel) (Nat.le_of_ble_eq_true rfl) ?_
  intro p e s m below meth c ls hC hr hlk hI hl
  have hC : Cx p c cX7_over 3 s m [.ref (a (49)), .int (J w)].toArray RX7 X B := hC
  have hl : lv_has ls 3 [(0, .ref (a (49))), (1, .int (J w))] := hl
  obtain ⟨⟨hN, hBr, hBu, hIn, hLa, hPc⟩, hDk, hPg⟩ := id hV
  refine r_aload_n hC hl dX7_over_0 0 rfl ?_
  refine r_iload_n hC hl dX7_over_1 1 rfl ?_
  refine r_cVi hC hI hl [.int (J w)] [] (c_X7_isOne l X a B S w (by omega) (by omega)) ml_RX7_99 ev_X7_isOne (rc_mo (S := S) hC hI) ⟨Nat.le_of_ble_eq_true rfl, Nat.le_of_ble_eq_true rfl⟩ ⟨Nat.zero_le _, Nat.zero_le _⟩ (Nat.le_of_ble_eq_true rfl) rfl dX7_over_2 (fun H locs hI => ?_)
  refine r_b_ne (tgt := 15) hC dX7_over_5 (by decide) (fun c_1 => ?_) (fun c_1 => ?_)
  · skip
    refine r_aload_n hC hl dX7_over_15 0 rfl ?_
    refine r_iload_n hC hl dX7_over_16 1 rfl ?_
    refine r_iconst hC dX7_over_17 ?_
    have hvp := hPg w.toNat (by omega)
    obtain ⟨h18, h19, h20, h21, h22⟩ := id hvp
    have hd0 := dk_rg hV 0
    have hcs := cs_rg (k := S 20 (18 + 5 * w.toNat)) h19
    refine r_cVi hC hI hl [.int (J w), .int (J 0)] [] (c_X7_its0_i l X a B S w (by omega)) ml_RX7_64 ev_X7_its (rc_mo (S := S) hC hI) ⟨Nat.le_of_ble_eq_true rfl, Nat.le_of_ble_eq_true rfl⟩ ⟨Nat.zero_le _, Nat.zero_le _⟩ (Nat.le_of_ble_eq_true rfl) rfl dX7_over_18 (fun H locs hI => ?_)
    refine r_aload_n hC hl dX7_over_21 0 rfl ?_
    refine r_iload_n hC hl dX7_over_22 1 rfl ?_
    refine r_iconst hC dX7_over_23 ?_
    refine r_cVi hC hI hl [.int (J w), .int (J 1)] [.int (J (S 20 (18 + 5 * w.toNat)))] (c_X7_its1_i l X a B S w (by omega)) ml_RX7_64 ev_X7_its (rc_mo (S := S) hC hI) ⟨Nat.le_of_ble_eq_true rfl, Nat.le_of_ble_eq_true rfl⟩ ⟨Nat.zero_le _, Nat.zero_le _⟩ (Nat.le_of_ble_eq_true rfl) rfl dX7_over_24 (fun H locs hI => ?_)
    refine r_cSi hC hI hl [.int (J (S 20 (18 + 5 * w.toNat))), .int (J (S 20 (19 + 5 * w.toNat)))] [] (c_X7_costs l X a B S (S 20 (18 + 5 * w.toNat)) (S 20 (19 + 5 * w.toNat)) (by omega) (by omega)) ml_RX7_80 es_X7_costs ⟨Nat.le_of_ble_eq_true rfl, Nat.le_of_ble_eq_true rfl⟩ ⟨Nat.zero_le _, Nat.zero_le _⟩ (Nat.le_of_ble_eq_true rfl) rfl dX7_over_27 (fun H locs hI => ?_)
    refine r_istore_n (lv1 := [(2, .int (J (csF (S 20 (18 + 5 * w.toNat)) (S 20 (19 + 5 * w.toNat))))), (0, .ref (a (49))), (1, .int (J w))]) hC hl dX7_over_30 2 rfl (by decide) rfl (fun ls hl => ?_)
    refine r_iload_n hC hl dX7_over_31 0 rfl ?_
    refine r_aload_n hC hl dX7_over_32 1 rfl ?_
    refine g_mo  (v := .ref (a (50))) hC hI 0 (by decide) fl_RX7_7 rfl rfl dX7_over_33 ?_
    refine r_iconst hC dX7_over_36 ?_
    refine r_iald (cx := 50) (n := 58) (f := (fun S => S 20) (S)) (v := S 20 3) hC hI (by decide) rfl (by decide) (3) (by omega) (by omega) rfl dX7_over_37 ?_
    refine r_icmp_le (tgt := 48) hC (by omega) (by omega) dX7_over_38 (by decide) (fun c_2 => ?_) (fun c_2 => ?_)
    · skip
      refine r_aload_n hC hl dX7_over_48 1 rfl ?_
      refine g_mo  (v := .ref (a (50))) hC hI 0 (by decide) fl_RX7_7 rfl rfl dX7_over_49 ?_
      refine r_iconst hC dX7_over_52 ?_
      refine r_dup2 hC rfl rfl dX7_over_53 ?_
      refine r_iald (cx := 50) (n := 58) (f := (fun S => S 20) (S)) (v := S 20 3) hC hI (by decide) rfl (by decide) (3) (by omega) (by omega) rfl dX7_over_54 ?_
      refine r_iload_n hC hl dX7_over_55 0 rfl ?_
      refine r_isub hC dX7_over_56 ?_
      refine r_iast (cx := 50) (n := 58) (F := fun S => S 20) hC hI (by decide) (fun _ => rfl) (by decide) (3) (by omega) (by omega) (b := 20) (j := 3) rfl (fun q => by simp [up, setB, upR]) dX7_over_57 (fun H locs hI => ?_)
      refine r_aload_n hC hl dX7_over_58 1 rfl ?_
      refine r_iload_n hC hl dX7_over_59 2 rfl ?_
      refine r_iconst hC dX7_over_60 ?_
      refine r_aload_n hC hl dX7_over_61 1 rfl ?_
      refine r_iload_n hC hl dX7_over_62 2 rfl ?_
      refine r_iconst hC dX7_over_63 ?_
      refine r_cVi hC hI hl [.int (J w), .int (J 0)] [.int (J 2), .int (J w), .ref (a (49))] (c_X7_its0_i l X a B (up S 20 3 ((S 20 3) - (csF (S 20 (18 + 5 * w.toNat)) (S 20 (19 + 5 * w.toNat))))) w (by omega)) ml_RX7_64 ev_X7_its (rc_mo (S := up S 20 3 ((S 20 3) - (csF (S 20 (18 + 5 * w.toNat)) (S 20 (19 + 5 * w.toNat))))) hC hI) ⟨Nat.le_of_ble_eq_true rfl, Nat.le_of_ble_eq_true rfl⟩ ⟨Nat.zero_le _, Nat.zero_le _⟩ (Nat.le_of_ble_eq_true rfl) rfl dX7_over_64 (fun H locs hI => ?_)
      refine r_as (y := S 20 (18 + 5 * w.toNat)) hC (up_nj _ _ (by omega)) ?_
      refine r_aload_n hC hl dX7_over_67 1 rfl ?_
      refine r_cVi hC hI hl [] [.int (J (S 20 (18 + 5 * w.toNat))), .int (J 2), .int (J w), .ref (a (49))] (c_X7_darkNow l X a B (up S 20 3 ((S 20 3) - (csF (S 20 (18 + 5 * w.toNat)) (S 20 (19 + 5 * w.toNat)))))  (by rw [up_nj _ _ (by decide)]; omega)) ml_RX7_70 ev_X7_darkNow (rc_mo (S := up S 20 3 ((S 20 3) - (csF (S 20 (18 + 5 * w.toNat)) (S 20 (19 + 5 * w.toNat))))) hC hI) ⟨Nat.le_of_ble_eq_true rfl, Nat.le_of_ble_eq_true rfl⟩ ⟨Nat.zero_le _, Nat.zero_le _⟩ (Nat.le_of_ble_eq_true rfl) rfl dX7_over_68 (fun H locs hI => ?_)
      refine r_as (y := dkF (S 20) 0) hC (dk_cg (by rw [up_nj _ _ (by decide)]) (fun j h1 h2 => by rw [up_nj _ _ (by omega)]) hN.1) ?_
      refine r_cSi hC hI hl [.int (J (S 20 (18 + 5 * w.toNat))), .int (J (dkF (S 20) 0))] [.int (J 2), .int (J w), .ref (a (49))] (c_X7_takes l X a B (up S 20 3 ((S 20 3) - (csF (S 20 (18 + 5 * w.toNat)) (S 20 (19 + 5 * w.toNat))))) (S 20 (18 + 5 * w.toNat)) (dkF (S 20) 0) (by omega) (by omega)) ml_RX7_87 es_X7_takes ⟨Nat.le_of_ble_eq_true rfl, Nat.le_of_ble_eq_true rfl⟩ ⟨Nat.zero_le _, Nat.zero_le _⟩ (Nat.le_of_ble_eq_true rfl) rfl dX7_over_71 (fun H locs hI => ?_)
      refine r_cVv hC hI hl [.int (J w), .int (J 2), .int (J (tkF (S 20 (18 + 5 * w.toNat)) (dkF (S 20) 0)))] [] (c_X7_puts2_i l X a B (up S 20 3 ((S 20 3) - (csF (S 20 (18 + 5 * w.toNat)) (S 20 (19 + 5 * w.toNat))))) w (tkF (S 20 (18 + 5 * w.toNat)) (dkF (S 20) 0)) (by omega)) ml_RX7_83 ev_X7_puts (rc_mo (S := up S 20 3 ((S 20 3) - (csF (S 20 (18 + 5 * w.toNat)) (S 20 (19 + 5 * w.toNat))))) hC hI) ⟨Nat.le_of_ble_eq_true rfl, Nat.le_of_ble_eq_true rfl⟩ ⟨Nat.zero_le _, Nat.zero_le _⟩ (Nat.le_of_ble_eq_true rfl) rfl dX7_over_74 (fun H locs hI => ?_)
      refine r_aload_n hC hl dX7_over_77 1 rfl ?_
      refine r_iload_n hC hl dX7_over_78 2 rfl ?_
      refine r_iconst hC dX7_over_79 ?_
      refine r_iconst hC dX7_over_80 ?_
      refine r_cVv hC hI hl [.int (J w), .int (J 4), .int (J 0)] [] (c_X7_puts4_i l X a B (up (up S 20 3 ((S 20 3) - (csF (S 20 (18 + 5 * w.toNat)) (S 20 (19 + 5 * w.toNat))))) 20 (20 + 5 * w.toNat) (tkF (S 20 (18 + 5 * w.toNat)) (dkF (S 20) 0))) w 0 (by omega)) ml_RX7_83 ev_X7_puts (rc_mo (S := up (up S 20 3 ((S 20 3) - (csF (S 20 (18 + 5 * w.toNat)) (S 20 (19 + 5 * w.toNat))))) 20 (20 + 5 * w.toNat) (tkF (S 20 (18 + 5 * w.toNat)) (dkF (S 20) 0))) hC hI) ⟨Nat.le_of_ble_eq_true rfl, Nat.le_of_ble_eq_true rfl⟩ ⟨Nat.zero_le _, Nat.zero_le _⟩ (Nat.le_of_ble_eq_true rfl) rfl dX7_over_81 (fun H locs hI => ?_)
      refine r_aload_n hC hl dX7_over_84 1 rfl ?_
      refine r_iload_n hC hl dX7_over_85 2 rfl ?_
      refine r_iconst hC dX7_over_86 ?_
      refine r_cVi hC hI hl [.int (J w), .int (J 2)] [] (c_X7_its2_i l X a B (up (up (up S 20 3 ((S 20 3) - (csF (S 20 (18 + 5 * w.toNat)) (S 20 (19 + 5 * w.toNat))))) 20 (20 + 5 * w.toNat) (tkF (S 20 (18 + 5 * w.toNat)) (dkF (S 20) 0))) 20 (22 + 5 * w.toNat) 0) w (by omega)) ml_RX7_64 ev_X7_its (rc_mo (S := up (up (up S 20 3 ((S 20 3) - (csF (S 20 (18 + 5 * w.toNat)) (S 20 (19 + 5 * w.toNat))))) 20 (20 + 5 * w.toNat) (tkF (S 20 (18 + 5 * w.toNat)) (dkF (S 20) 0))) 20 (22 + 5 * w.toNat) 0) hC hI) ⟨Nat.le_of_ble_eq_true rfl, Nat.le_of_ble_eq_true rfl⟩ ⟨Nat.zero_le _, Nat.zero_le _⟩ (Nat.le_of_ble_eq_true rfl) rfl dX7_over_87 (fun H locs hI => ?_)
      refine r_as (y := tkF (S 20 (18 + 5 * w.toNat)) (dkF (S 20) 0)) hC (by rw [up_nj _ _ (by omega), up_at]) ?_
      exact r_iret hC hr hlk hI (an_n (by (repeat' split) <;> first | rfl | omega) (rfl)) (fn_n (by (repeat' split) <;> first | rfl | omega) (by rw [up_eq S, up_set, up_set]; rfl)) dX7_over_90
    · skip
      refine r_aload_n hC hl dX7_over_41 1 rfl ?_
      refine r_ldc (x := (-1000000005)) hC ct_RX7_95 (by decide) dX7_over_42 ?_
      refine r_cVi hC hI hl [.int (J (-1000000005))] [] (c_X7_finds4 l X a B S  ) ml_RX7_57 ev_X7_finds (rc_mo (S := S) hC hI) ⟨Nat.le_of_ble_eq_true rfl, Nat.le_of_ble_eq_true rfl⟩ ⟨Nat.zero_le _, Nat.zero_le _⟩ (Nat.le_of_ble_eq_true rfl) rfl dX7_over_44 (fun H locs hI => ?_)
      exact r_iret hC hr hlk hI (an_f 4 (by (repeat' split) <;> first | rfl | omega)) (fn_f 4 (by (repeat' split) <;> first | rfl | omega)) dX7_over_47
  · skip
    refine r_aload_n hC hl dX7_over_8 0 rfl ?_
    refine r_ldc (x := (-1000000001)) hC ct_RX7_44 (by decide) dX7_over_9 ?_
    refine r_cVi hC hI hl [.int (J (-1000000001))] [] (c_X7_finds0 l X a B S  ) ml_RX7_57 ev_X7_finds (rc_mo (S := S) hC hI) ⟨Nat.le_of_ble_eq_true rfl, Nat.le_of_ble_eq_true rfl⟩ ⟨Nat.zero_le _, Nat.zero_le _⟩ (Nat.le_of_ble_eq_true rfl) rfl dX7_over_11 (fun H locs hI => ?_)
    exact r_iret hC hr hlk hI (an_f 0 (by (repeat' split) <;> first | rfl | omega)) (fn_f 0 (by (repeat' split) <;> first | rfl | omega)) dX7_over_14

set_option maxHeartbeats 4000000 in
set_option maxRecDepth 100000 in
theorem c_X7_nights (l : Launch) (X : XT) (a : Nat → Nat) (B : Nat) (S : St) (w : Int) (hV : VR 9999 (S 20)) (hw : -2147483648 ≤ w ∧ w ≤ 2147483647) : CT l X a B 4 yX7_nights cX7_nights 2 (some .int) [.ref (a (49)), .int (J w)] S (Qi X a B (anF (if ¬ (1 ≤ w ∧ w ≤ 100) then 0 else if 9999 < S 20 0 + w then 4 else -1) (iwF (S 20) (S 20 2 + S 20 1 * sumF (dkF (S 20)) w.toNat))) (fnF S 21 (if ¬ (1 ≤ w ∧ w ≤ 100) then 0 else if 9999 < S 20 0 + w then 4 else -1) (setB S 20 (lgF (S 20) w.toNat)))) := by
  refine CT.of (by decide +kernel) (Nat.le_of_ble_eq_true rfl) ?_
  intro p e s m below meth c ls hC hr hlk hI hl
  have hC : Cx p c cX7_nights 2 s m [.ref (a (49)), .int (J w)].toArray RX7 X B := hC
  have hl : lv_has ls 2 [(0, .ref (a (49))), (1, .int (J w))] := hl
  obtain ⟨⟨hN, hBr, hBu, hIn, hLa, hPc⟩, hDk, hPg⟩ := id hV
  refine r_iload_n hC hl dX7_nights_0 1 rfl ?_
  refine r_iconst hC dX7_nights_1 ?_
  refine r_bipush hC (by decide) dX7_nights_2 ?_
  refine r_cSi hC hI hl [.int (J w), .int (J 1), .int (J 100)] [] (c_X7_in l X a B S w 1 100 (by omega) (by omega) (by omega)) ml_RX7_45 es_X7_in ⟨Nat.le_of_ble_eq_true rfl, Nat.le_of_ble_eq_true rfl⟩ ⟨Nat.zero_le _, Nat.zero_le _⟩ (Nat.le_of_ble_eq_true rfl) rfl dX7_nights_4 (fun H locs hI => ?_)
  refine r_b_ne (tgt := 17) hC dX7_nights_7 (by decide) (fun c_1 => ?_) (fun c_1 => ?_)
  · skip
    refine r_aload_n hC hl dX7_nights_17 0 rfl ?_
    refine g_mo  (v := .ref (a (50))) hC hI 0 (by decide) fl_RX7_7 rfl rfl dX7_nights_18 ?_
    refine r_iconst hC dX7_nights_21 ?_
    refine r_iald (cx := 50) (n := 58) (f := (fun S => S 20) (S)) (v := S 20 0) hC hI (by decide) rfl (by decide) (0) (by omega) (by omega) rfl dX7_nights_22 ?_
    refine r_iload_n hC hl dX7_nights_23 1 rfl ?_
    refine r_iadd hC dX7_nights_24 ?_
    refine r_sipush hC (by decide) dX7_nights_25 ?_
    refine r_icmp_le (tgt := 38) hC (by omega) (by omega) dX7_nights_28 (by decide) (fun c_2 => ?_) (fun c_2 => ?_)
    · skip
      refine r_aload_n hC hl dX7_nights_38 0 rfl ?_
      refine r_iload_n hC hl dX7_nights_39 1 rfl ?_
      refine r_cVv hC hI hl [.int (J w)] [] (c_X7_passes_i l X a B S w 9999 hV (by omega) (by omega)) ml_RX7_113 ev_X7_passes (rc_mo (S := S) hC hI) ⟨Nat.le_of_ble_eq_true rfl, Nat.le_of_ble_eq_true rfl⟩ ⟨Nat.zero_le _, Nat.zero_le _⟩ (Nat.le_of_ble_eq_true rfl) rfl dX7_nights_40 (fun H locs hI => ?_)
      refine r_aload_n hC hl dX7_nights_43 0 rfl ?_
      refine g_mo  (v := .ref (a (50))) hC hI 0 (by decide) fl_RX7_7 rfl rfl dX7_nights_44 ?_
      refine r_iconst hC dX7_nights_47 ?_
      refine r_iald (cx := 50) (n := 58) (f := (fun S => S 20) (setB S 20 (lgF (S 20) w.toNat))) (v := (setB S 20 (lgF (S 20) w.toNat)) 20 3) hC hI (by decide) rfl (by decide) (3) (by omega) (by omega) rfl dX7_nights_48 ?_
      refine r_as (y := iwF (S 20) (S 20 2 + S 20 1 * sumF (dkF (S 20)) w.toNat)) hC (by rw [setB_at, lg_3]) ?_
      exact r_iret hC hr hlk hI (an_n (by (repeat' split) <;> first | rfl | omega) (rfl)) (fn_n (by (repeat' split) <;> first | rfl | omega) (rfl)) dX7_nights_49
    · skip
      refine r_aload_n hC hl dX7_nights_31 0 rfl ?_
      refine r_ldc (x := (-1000000005)) hC ct_RX7_95 (by decide) dX7_nights_32 ?_
      refine r_cVi hC hI hl [.int (J (-1000000005))] [] (c_X7_finds4 l X a B S  ) ml_RX7_57 ev_X7_finds (rc_mo (S := S) hC hI) ⟨Nat.le_of_ble_eq_true rfl, Nat.le_of_ble_eq_true rfl⟩ ⟨Nat.zero_le _, Nat.zero_le _⟩ (Nat.le_of_ble_eq_true rfl) rfl dX7_nights_34 (fun H locs hI => ?_)
      exact r_iret hC hr hlk hI (an_f 4 (by (repeat' split) <;> first | rfl | omega)) (fn_f 4 (by (repeat' split) <;> first | rfl | omega)) dX7_nights_37
  · skip
    refine r_aload_n hC hl dX7_nights_10 0 rfl ?_
    refine r_ldc (x := (-1000000001)) hC ct_RX7_44 (by decide) dX7_nights_11 ?_
    refine r_cVi hC hI hl [.int (J (-1000000001))] [] (c_X7_finds0 l X a B S  ) ml_RX7_57 ev_X7_finds (rc_mo (S := S) hC hI) ⟨Nat.le_of_ble_eq_true rfl, Nat.le_of_ble_eq_true rfl⟩ ⟨Nat.zero_le _, Nat.zero_le _⟩ (Nat.le_of_ble_eq_true rfl) rfl dX7_nights_13 (fun H locs hI => ?_)
    exact r_iret hC hr hlk hI (an_f 0 (by (repeat' split) <;> first | rfl | omega)) (fn_f 0 (by (repeat' split) <;> first | rfl | omega)) dX7_nights_16

set_option maxHeartbeats 4000000 in
set_option maxRecDepth 100000 in
theorem c_X7_ink (l : Launch) (X : XT) (a : Nat → Nat) (B : Nat) (S : St) (w : Int) (hV : VR 9999 (S 20)) (hw : -2147483648 ≤ w ∧ w ≤ 2147483647) : CT l X a B 5 yX7_ink cX7_ink 2 (some .int) [.ref (a (49)), .int (J w)] S (Qi X a B (anF (if 0 ≤ w ∧ w ≤ 200 then -1 else 0) (iwF (S 20) (S 20 2 + S 20 1 * sumF (dkF (S 20)) w.toNat))) (fnF S 21 (if 0 ≤ w ∧ w ≤ 200 then -1 else 0) (setB S 22 (S 20)))) := by
  refine CT.of (by decide +kernel) (Nat.le_of_ble_eq_true rfl) ?_
  intro p e s m below meth c ls hC hr hlk hI hl
  have hC : Cx p c cX7_ink 2 s m [.ref (a (49)), .int (J w)].toArray RX7 X B := hC
  have hl : lv_has ls 2 [(0, .ref (a (49))), (1, .int (J w))] := hl
  obtain ⟨⟨hN, hBr, hBu, hIn, hLa, hPc⟩, hDk, hPg⟩ := id hV
  refine r_iload_n hC hl dX7_ink_0 1 rfl ?_
  refine r_iconst hC dX7_ink_1 ?_
  refine r_sipush hC (by decide) dX7_ink_2 ?_
  refine r_cSi hC hI hl [.int (J w), .int (J 0), .int (J 200)] [] (c_X7_in l X a B S w 0 200 (by omega) (by omega) (by omega)) ml_RX7_45 es_X7_in ⟨Nat.le_of_ble_eq_true rfl, Nat.le_of_ble_eq_true rfl⟩ ⟨Nat.zero_le _, Nat.zero_le _⟩ (Nat.le_of_ble_eq_true rfl) rfl dX7_ink_5 (fun H locs hI => ?_)
  refine r_b_ne (tgt := 18) hC dX7_ink_8 (by decide) (fun c_1 => ?_) (fun c_1 => ?_)
  · skip
    refine r_aload_n hC hl dX7_ink_18 0 rfl ?_
    refine r_iconst hC dX7_ink_19 ?_
    refine r_aload_n hC hl dX7_ink_20 0 rfl ?_
    refine g_mo  (v := .ref (a (52))) hC hI 2 (by decide) fl_RX7_16 rfl rfl dX7_ink_21 ?_
    refine r_cVv hC hI hl [.int (J 1), .ref (a (52))] [] (c_X7_moveAll1 l X a B S 52 22 (by omega) (fun _ => rfl) (fun _ => rfl) (by omega) rfl) ml_RX7_117 ev_X7_moveAll (rc_mo (S := S) hC hI) ⟨Nat.le_of_ble_eq_true rfl, Nat.le_of_ble_eq_true rfl⟩ ⟨Nat.zero_le _, Nat.zero_le _⟩ (Nat.le_of_ble_eq_true rfl) rfl dX7_ink_24 (fun H locs hI => ?_)
    obtain ⟨T, eT⟩ : ∃ z : St, z = setB S 22 (S 20) := ⟨_, rfl⟩
    rw [← eT] at hI
    have t20 : T 20 = S 20 := by rw [eT, setB_ne _ _ (by decide)]
    have t22 : T 22 = S 20 := by rw [eT, setB_at]
    have hVT : VR 9999 (T 20) := by rw [t20]; exact hV
    have t5 : T 20 5 = S 20 5 := by rw [t20]
    have t4 : T 20 4 = S 20 4 := by rw [t20]
    refine r_aload_n hC hl dX7_ink_27 0 rfl ?_
    refine r_iload_n hC hl dX7_ink_28 1 rfl ?_
    refine r_iconst hC dX7_ink_29 ?_
    refine r_iconst hC dX7_ink_30 ?_
    refine r_cVi hC hI hl [.int (J w), .int (J 0), .int (J 0)] [] (c_X7_behind0_i l X a B T w 9999 hVT (by omega) (by omega)) ml_RX7_121 ev_X7_behind (rc_mo (S := T) hC hI) ⟨Nat.le_of_ble_eq_true rfl, Nat.le_of_ble_eq_true rfl⟩ ⟨Nat.zero_le _, Nat.zero_le _⟩ (Nat.le_of_ble_eq_true rfl) rfl dX7_ink_31 (fun H locs hI => ?_)
    refine r_as (y := iwF (S 20) (S 20 2 + S 20 1 * sumF (dkF (S 20)) w.toNat)) hC (by rw [t20]) ?_
    exact r_iret hC hr hlk hI (an_n (by (repeat' split) <;> first | rfl | omega) (rfl)) (fn_n (by (repeat' split) <;> first | rfl | omega) (by rw [t22, show setB T 20 (S 20) = T from by rw [← t20, setB_self]]; exact eT)) dX7_ink_34
  · skip
    refine r_aload_n hC hl dX7_ink_11 0 rfl ?_
    refine r_ldc (x := (-1000000001)) hC ct_RX7_44 (by decide) dX7_ink_12 ?_
    refine r_cVi hC hI hl [.int (J (-1000000001))] [] (c_X7_finds0 l X a B S  ) ml_RX7_57 ev_X7_finds (rc_mo (S := S) hC hI) ⟨Nat.le_of_ble_eq_true rfl, Nat.le_of_ble_eq_true rfl⟩ ⟨Nat.zero_le _, Nat.zero_le _⟩ (Nat.le_of_ble_eq_true rfl) rfl dX7_ink_14 (fun H locs hI => ?_)
    exact r_iret hC hr hlk hI (an_f 0 (by (repeat' split) <;> first | rfl | omega)) (fn_f 0 (by (repeat' split) <;> first | rfl | omega)) dX7_ink_17

set_option maxHeartbeats 4000000 in
set_option maxRecDepth 100000 in
theorem c_X7_all (l : Launch) (X : XT) (a : Nat → Nat) (B : Nat) (S : St) (w : Int) (hV : VR 9999 (S 20)) (hw : -2147483648 ≤ w ∧ w ≤ 2147483647) : CT l X a B 5 yX7_all cX7_all 2 (some .int) [.ref (a (49)), .int (J w)] S (Qi X a B (anF (if 0 ≤ w ∧ w ≤ 200 then -1 else 0) (sumF (fun i => blP (S 20) i w (S 20 4)) (S 20 5).toNat)) (fnF S 21 (if 0 ≤ w ∧ w ≤ 200 then -1 else 0) (setB S 22 (S 20)))) := by
  refine CT.of (by decide +kernel) (Nat.le_of_ble_eq_true rfl) ?_
  intro p e s m below meth c ls hC hr hlk hI hl
  have hC : Cx p c cX7_all 2 s m [.ref (a (49)), .int (J w)].toArray RX7 X B := hC
  have hl : lv_has ls 2 [(0, .ref (a (49))), (1, .int (J w))] := hl
  obtain ⟨⟨hN, hBr, hBu, hIn, hLa, hPc⟩, hDk, hPg⟩ := id hV
  refine r_iload_n hC hl dX7_all_0 1 rfl ?_
  refine r_iconst hC dX7_all_1 ?_
  refine r_sipush hC (by decide) dX7_all_2 ?_
  refine r_cSi hC hI hl [.int (J w), .int (J 0), .int (J 200)] [] (c_X7_in l X a B S w 0 200 (by omega) (by omega) (by omega)) ml_RX7_45 es_X7_in ⟨Nat.le_of_ble_eq_true rfl, Nat.le_of_ble_eq_true rfl⟩ ⟨Nat.zero_le _, Nat.zero_le _⟩ (Nat.le_of_ble_eq_true rfl) rfl dX7_all_5 (fun H locs hI => ?_)
  refine r_b_ne (tgt := 18) hC dX7_all_8 (by decide) (fun c_1 => ?_) (fun c_1 => ?_)
  · skip
    refine r_aload_n hC hl dX7_all_18 0 rfl ?_
    refine r_iconst hC dX7_all_19 ?_
    refine r_aload_n hC hl dX7_all_20 0 rfl ?_
    refine g_mo  (v := .ref (a (52))) hC hI 2 (by decide) fl_RX7_16 rfl rfl dX7_all_21 ?_
    refine r_cVv hC hI hl [.int (J 1), .ref (a (52))] [] (c_X7_moveAll1 l X a B S 52 22 (by omega) (fun _ => rfl) (fun _ => rfl) (by omega) rfl) ml_RX7_117 ev_X7_moveAll (rc_mo (S := S) hC hI) ⟨Nat.le_of_ble_eq_true rfl, Nat.le_of_ble_eq_true rfl⟩ ⟨Nat.zero_le _, Nat.zero_le _⟩ (Nat.le_of_ble_eq_true rfl) rfl dX7_all_24 (fun H locs hI => ?_)
    obtain ⟨T, eT⟩ : ∃ z : St, z = setB S 22 (S 20) := ⟨_, rfl⟩
    rw [← eT] at hI
    have t20 : T 20 = S 20 := by rw [eT, setB_ne _ _ (by decide)]
    have t22 : T 22 = S 20 := by rw [eT, setB_at]
    have hVT : VR 9999 (T 20) := by rw [t20]; exact hV
    have t5 : T 20 5 = S 20 5 := by rw [t20]
    have t4 : T 20 4 = S 20 4 := by rw [t20]
    refine r_aload_n hC hl dX7_all_27 0 rfl ?_
    refine r_iload_n hC hl dX7_all_28 1 rfl ?_
    refine r_iconst hC dX7_all_29 ?_
    refine r_iconst hC dX7_all_30 ?_
    refine r_cVi hC hI hl [.int (J w), .int (J 1), .int (J 0)] [] (c_X7_behind1_i l X a B T w 9999 hVT (by omega) (by omega)) ml_RX7_121 ev_X7_behind (rc_mo (S := T) hC hI) ⟨Nat.le_of_ble_eq_true rfl, Nat.le_of_ble_eq_true rfl⟩ ⟨Nat.zero_le _, Nat.zero_le _⟩ (Nat.le_of_ble_eq_true rfl) rfl dX7_all_31 (fun H locs hI => ?_)
    refine r_as (y := sumF (fun i => blP (S 20) i w (S 20 4)) (S 20 5).toNat) hC (by rw [t20]) ?_
    exact r_iret hC hr hlk hI (an_n (by (repeat' split) <;> first | rfl | omega) (rfl)) (fn_n (by (repeat' split) <;> first | rfl | omega) (by rw [t22, show setB T 20 (S 20) = T from by rw [← t20, setB_self]]; exact eT)) dX7_all_34
  · skip
    refine r_aload_n hC hl dX7_all_11 0 rfl ?_
    refine r_ldc (x := (-1000000001)) hC ct_RX7_44 (by decide) dX7_all_12 ?_
    refine r_cVi hC hI hl [.int (J (-1000000001))] [] (c_X7_finds0 l X a B S  ) ml_RX7_57 ev_X7_finds (rc_mo (S := S) hC hI) ⟨Nat.le_of_ble_eq_true rfl, Nat.le_of_ble_eq_true rfl⟩ ⟨Nat.zero_le _, Nat.zero_le _⟩ (Nat.le_of_ble_eq_true rfl) rfl dX7_all_14 (fun H locs hI => ?_)
    exact r_iret hC hr hlk hI (an_f 0 (by (repeat' split) <;> first | rfl | omega)) (fn_f 0 (by (repeat' split) <;> first | rfl | omega)) dX7_all_17

set_option maxHeartbeats 4000000 in
set_option maxRecDepth 100000 in
theorem c_X7_on (l : Launch) (X : XT) (a : Nat → Nat) (B : Nat) (S : St) (w : Int) (v : Int) (u : Int) (hV : VR 9999 (S 20)) (hw : -2147483648 ≤ w ∧ w ≤ 2147483647) (hv : -2147483648 ≤ v ∧ v ≤ 2147483647) (hu : -2147483648 ≤ u ∧ u ≤ 2147483647) : CT l X a B 5 yX7_on cX7_on 4 (some .int) [.ref (a (49)), .int (J w), .int (J v), .int (J u)] S (Qi X a B (anF (if (0 ≤ w ∧ w < S 20 5) ∧ (0 ≤ v ∧ v ≤ 200) ∧ 0 ≤ u ∧ u ≤ 1 then -1 else 0) (if u = 0 then bkP (S 20) w.toNat v else blP (S 20) w.toNat v (S 20 4))) (fnF S 21 (if (0 ≤ w ∧ w < S 20 5) ∧ (0 ≤ v ∧ v ≤ 200) ∧ 0 ≤ u ∧ u ≤ 1 then -1 else 0) (setB S 22 (S 20)))) := by
  refine CT.of (by decide +kernel) (Nat.le_of_ble_eq_true rfl) ?_
  intro p e s m below meth c ls hC hr hlk hI hl
  have hC : Cx p c cX7_on 4 s m [.ref (a (49)), .int (J w), .int (J v), .int (J u)].toArray RX7 X B := hC
  have hl : lv_has ls 4 [(0, .ref (a (49))), (1, .int (J w)), (2, .int (J v)), (3, .int (J u))] := hl
  obtain ⟨⟨hN, hBr, hBu, hIn, hLa, hPc⟩, hDk, hPg⟩ := id hV
  refine r_aload_n hC hl dX7_on_0 0 rfl ?_
  refine r_iload_n hC hl dX7_on_1 1 rfl ?_
  refine r_cVi hC hI hl [.int (J w)] [] (c_X7_isOne l X a B S w (by omega) (by omega)) ml_RX7_99 ev_X7_isOne (rc_mo (S := S) hC hI) ⟨Nat.le_of_ble_eq_true rfl, Nat.le_of_ble_eq_true rfl⟩ ⟨Nat.zero_le _, Nat.zero_le _⟩ (Nat.le_of_ble_eq_true rfl) rfl dX7_on_2 (fun H locs hI => ?_)
  refine r_b_eq (tgt := 28) hC dX7_on_5 (by decide) (fun c_1 => ?_) (fun c_1 => ?_)
  · skip
    refine r_aload_n hC hl dX7_on_28 0 rfl ?_
    refine r_ldc (x := (-1000000001)) hC ct_RX7_44 (by decide) dX7_on_29 ?_
    refine r_cVi hC hI hl [.int (J (-1000000001))] [] (c_X7_finds0 l X a B S  ) ml_RX7_57 ev_X7_finds (rc_mo (S := S) hC hI) ⟨Nat.le_of_ble_eq_true rfl, Nat.le_of_ble_eq_true rfl⟩ ⟨Nat.zero_le _, Nat.zero_le _⟩ (Nat.le_of_ble_eq_true rfl) rfl dX7_on_31 (fun H locs hI => ?_)
    exact r_iret hC hr hlk hI (an_f 0 (by (repeat' split) <;> first | rfl | omega)) (fn_f 0 (by (repeat' split) <;> first | rfl | omega)) dX7_on_34
  · skip
    refine r_iload_n hC hl dX7_on_8 2 rfl ?_
    refine r_iconst hC dX7_on_9 ?_
    refine r_sipush hC (by decide) dX7_on_10 ?_
    refine r_cSi hC hI hl [.int (J v), .int (J 0), .int (J 200)] [] (c_X7_in l X a B S v 0 200 (by omega) (by omega) (by omega)) ml_RX7_45 es_X7_in ⟨Nat.le_of_ble_eq_true rfl, Nat.le_of_ble_eq_true rfl⟩ ⟨Nat.zero_le _, Nat.zero_le _⟩ (Nat.le_of_ble_eq_true rfl) rfl dX7_on_13 (fun H locs hI => ?_)
    refine r_b_eq (tgt := 28) hC dX7_on_16 (by decide) (fun c_2 => ?_) (fun c_2 => ?_)
    · skip
      refine r_aload_n hC hl dX7_on_28 0 rfl ?_
      refine r_ldc (x := (-1000000001)) hC ct_RX7_44 (by decide) dX7_on_29 ?_
      refine r_cVi hC hI hl [.int (J (-1000000001))] [] (c_X7_finds0 l X a B S  ) ml_RX7_57 ev_X7_finds (rc_mo (S := S) hC hI) ⟨Nat.le_of_ble_eq_true rfl, Nat.le_of_ble_eq_true rfl⟩ ⟨Nat.zero_le _, Nat.zero_le _⟩ (Nat.le_of_ble_eq_true rfl) rfl dX7_on_31 (fun H locs hI => ?_)
      exact r_iret hC hr hlk hI (an_f 0 (by (repeat' split) <;> first | rfl | omega)) (fn_f 0 (by (repeat' split) <;> first | rfl | omega)) dX7_on_34
    · skip
      refine r_iload_n hC hl dX7_on_19 3 rfl ?_
      refine r_iconst hC dX7_on_20 ?_
      refine r_iconst hC dX7_on_21 ?_
      refine r_cSi hC hI hl [.int (J u), .int (J 0), .int (J 1)] [] (c_X7_in l X a B S u 0 1 (by omega) (by omega) (by omega)) ml_RX7_45 es_X7_in ⟨Nat.le_of_ble_eq_true rfl, Nat.le_of_ble_eq_true rfl⟩ ⟨Nat.zero_le _, Nat.zero_le _⟩ (Nat.le_of_ble_eq_true rfl) rfl dX7_on_22 (fun H locs hI => ?_)
      refine r_b_ne (tgt := 35) hC dX7_on_25 (by decide) (fun c_3 => ?_) (fun c_3 => ?_)
      · skip
        refine r_aload_n hC hl dX7_on_35 0 rfl ?_
        refine r_iconst hC dX7_on_36 ?_
        refine r_aload_n hC hl dX7_on_37 0 rfl ?_
        refine g_mo  (v := .ref (a (52))) hC hI 2 (by decide) fl_RX7_16 rfl rfl dX7_on_38 ?_
        refine r_cVv hC hI hl [.int (J 1), .ref (a (52))] [] (c_X7_moveAll1 l X a B S 52 22 (by omega) (fun _ => rfl) (fun _ => rfl) (by omega) rfl) ml_RX7_117 ev_X7_moveAll (rc_mo (S := S) hC hI) ⟨Nat.le_of_ble_eq_true rfl, Nat.le_of_ble_eq_true rfl⟩ ⟨Nat.zero_le _, Nat.zero_le _⟩ (Nat.le_of_ble_eq_true rfl) rfl dX7_on_41 (fun H locs hI => ?_)
        obtain ⟨T, eT⟩ : ∃ z : St, z = setB S 22 (S 20) := ⟨_, rfl⟩
        rw [← eT] at hI
        have t20 : T 20 = S 20 := by rw [eT, setB_ne _ _ (by decide)]
        have t22 : T 22 = S 20 := by rw [eT, setB_at]
        have hVT : VR 9999 (T 20) := by rw [t20]; exact hV
        have t5 : T 20 5 = S 20 5 := by rw [t20]
        have t4 : T 20 4 = S 20 4 := by rw [t20]
        refine r_aload_n hC hl dX7_on_44 0 rfl ?_
        refine r_iload_n hC hl dX7_on_45 2 rfl ?_
        refine r_iconst hC dX7_on_46 ?_
        refine r_iload_n hC hl dX7_on_47 3 rfl ?_
        refine r_iadd hC dX7_on_48 ?_
        refine r_iload_n hC hl dX7_on_49 1 rfl ?_
        refine r_cVi hC hI hl [.int (J v), .int (J (2 + u)), .int (J w)] [] (c_X7_behindW_i_i l X a B T v 9999 (2 + u) w hVT (by omega) (by omega) (by omega) (by omega) (by omega)) ml_RX7_121 ev_X7_behind (rc_mo (S := T) hC hI) ⟨Nat.le_of_ble_eq_true rfl, Nat.le_of_ble_eq_true rfl⟩ ⟨Nat.zero_le _, Nat.zero_le _⟩ (Nat.le_of_ble_eq_true rfl) rfl dX7_on_50 (fun H locs hI => ?_)
        refine r_as (y := if u = 0 then bkP (S 20) w.toNat v else blP (S 20) w.toNat v (S 20 4)) hC (by rw [t20]; (repeat' split) <;> first | rfl | omega) ?_
        exact r_iret hC hr hlk hI (an_n (by (repeat' split) <;> first | rfl | omega) (rfl)) (fn_n (by (repeat' split) <;> first | rfl | omega) (by rw [t22, show setB T 20 (S 20) = T from by rw [← t20, setB_self]]; exact eT)) dX7_on_53
      · skip
        refine r_aload_n hC hl dX7_on_28 0 rfl ?_
        refine r_ldc (x := (-1000000001)) hC ct_RX7_44 (by decide) dX7_on_29 ?_
        refine r_cVi hC hI hl [.int (J (-1000000001))] [] (c_X7_finds0 l X a B S  ) ml_RX7_57 ev_X7_finds (rc_mo (S := S) hC hI) ⟨Nat.le_of_ble_eq_true rfl, Nat.le_of_ble_eq_true rfl⟩ ⟨Nat.zero_le _, Nat.zero_le _⟩ (Nat.le_of_ble_eq_true rfl) rfl dX7_on_31 (fun H locs hI => ?_)
        exact r_iret hC hr hlk hI (an_f 0 (by (repeat' split) <;> first | rfl | omega)) (fn_f 0 (by (repeat' split) <;> first | rfl | omega)) dX7_on_34

set_option maxHeartbeats 4000000 in
set_option maxRecDepth 100000 in
theorem c_X7_count (l : Launch) (X : XT) (a : Nat → Nat) (B : Nat) (S : St) (w : Int) (hV : VR 9999 (S 20)) (hw : -2147483648 ≤ w ∧ w ≤ 2147483647) : CT l X a B 2 yX7_count cX7_count 2 (some .int) [.ref (a (49)), .int (J w)] S (Qi X a B (anF (if 0 ≤ w ∧ w ≤ 3 then -1 else 0) (ctF (S 20) (S 25 0) w)) (fnF S 21 (if 0 ≤ w ∧ w ≤ 3 then -1 else 0) (S))) := by
  refine CT.of (by decide +kernel) (Nat.le_of_ble_eq_true rfl) ?_
  intro p e s m below meth c ls hC hr hlk hI hl
  have hC : Cx p c cX7_count 2 s m [.ref (a (49)), .int (J w)].toArray RX7 X B := hC
  have hl : lv_has ls 2 [(0, .ref (a (49))), (1, .int (J w))] := hl
  obtain ⟨⟨hN, hBr, hBu, hIn, hLa, hPc⟩, hDk, hPg⟩ := id hV
  refine r_iload_n hC hl dX7_count_0 1 rfl ?_
  by_cases c_1 : w = 0
  · refine r_tin (tgt := 32) hC 0 c_1 (by decide) dX7_count_1 (by decide) (by decide) rfl (by decide) ?_
    refine r_aload_n hC hl dX7_count_32 0 rfl ?_
    refine g_mo  (v := .ref (a (50))) hC hI 0 (by decide) fl_RX7_7 rfl rfl dX7_count_33 ?_
    refine r_iconst hC dX7_count_36 ?_
    refine r_iald (cx := 50) (n := 58) (f := (fun S => S 20) (S)) (v := S 20 5) hC hI (by decide) rfl (by decide) (5) (by omega) (by omega) rfl dX7_count_37 ?_
    exact r_iret hC hr hlk hI (an_n (by (repeat' split) <;> first | rfl | omega) (by unfold ctF; subst_vars; first | rfl | (split <;> first | rfl | omega))) (fn_n (by (repeat' split) <;> first | rfl | omega) (rfl)) dX7_count_38
  by_cases c_2 : w = 1
  · refine r_tin (tgt := 39) hC 1 c_2 (by decide) dX7_count_1 (by decide) (by decide) rfl (by decide) ?_
    refine r_aload_n hC hl dX7_count_39 0 rfl ?_
    refine g_mo  (v := .int (J (S 25 0))) hC hI 5 (by decide) fl_RX7_131 rfl rfl dX7_count_40 ?_
    exact r_iret hC hr hlk hI (an_n (by (repeat' split) <;> first | rfl | omega) (by unfold ctF; subst_vars; first | rfl | (split <;> first | rfl | omega))) (fn_n (by (repeat' split) <;> first | rfl | omega) (rfl)) dX7_count_43
  by_cases c_3 : w = 2
  · refine r_tin (tgt := 44) hC 2 c_3 (by decide) dX7_count_1 (by decide) (by decide) rfl (by decide) ?_
    refine r_aload_n hC hl dX7_count_44 0 rfl ?_
    refine r_iconst hC dX7_count_45 ?_
    refine r_cVi hC hI hl [.int (J 3)] [] (c_X7_sumOf3 l X a B S  (VR_mono (by decide) hV)) ml_RX7_237 ev_X7_sumOf (rc_mo (S := S) hC hI) ⟨Nat.le_of_ble_eq_true rfl, Nat.le_of_ble_eq_true rfl⟩ ⟨Nat.zero_le _, Nat.zero_le _⟩ (Nat.le_of_ble_eq_true rfl) rfl dX7_count_46 (fun H locs hI => ?_)
    exact r_iret hC hr hlk hI (an_n (by (repeat' split) <;> first | rfl | omega) (by unfold ctF; subst_vars; first | rfl | (split <;> first | rfl | omega))) (fn_n (by (repeat' split) <;> first | rfl | omega) (rfl)) dX7_count_49
  by_cases c_4 : w = 3
  · refine r_tin (tgt := 50) hC 3 c_4 (by decide) dX7_count_1 (by decide) (by decide) rfl (by decide) ?_
    refine r_aload_n hC hl dX7_count_50 0 rfl ?_
    refine r_iconst hC dX7_count_51 ?_
    refine r_cVi hC hI hl [.int (J 1)] [] (c_X7_sumOf1 l X a B S  (VR_mono (by decide) hV)) ml_RX7_237 ev_X7_sumOf (rc_mo (S := S) hC hI) ⟨Nat.le_of_ble_eq_true rfl, Nat.le_of_ble_eq_true rfl⟩ ⟨Nat.zero_le _, Nat.zero_le _⟩ (Nat.le_of_ble_eq_true rfl) rfl dX7_count_52 (fun H locs hI => ?_)
    exact r_iret hC hr hlk hI (an_n (by (repeat' split) <;> first | rfl | omega) (by unfold ctF; subst_vars; first | rfl | (split <;> first | rfl | omega))) (fn_n (by (repeat' split) <;> first | rfl | omega) (rfl)) dX7_count_55
  refine r_tout (tgt := 56) hC (by omega) dX7_count_1 (by omega) (by decide) ?_
  refine r_aload_n hC hl dX7_count_56 0 rfl ?_
  refine r_ldc (x := (-1000000001)) hC ct_RX7_44 (by decide) dX7_count_57 ?_
  refine r_cVi hC hI hl [.int (J (-1000000001))] [] (c_X7_finds0 l X a B S  ) ml_RX7_57 ev_X7_finds (rc_mo (S := S) hC hI) ⟨Nat.le_of_ble_eq_true rfl, Nat.le_of_ble_eq_true rfl⟩ ⟨Nat.zero_le _, Nat.zero_le _⟩ (Nat.le_of_ble_eq_true rfl) rfl dX7_count_59 (fun H locs hI => ?_)
  exact r_iret hC hr hlk hI (an_f 0 (by (repeat' split) <;> first | rfl | omega)) (fn_f 0 (by (repeat' split) <;> first | rfl | omega)) dX7_count_62

set_option maxHeartbeats 4000000 in
set_option maxRecDepth 100000 in
theorem c_X7_image (l : Launch) (X : XT) (a : Nat → Nat) (B : Nat) (S : St)  (hV : VR 9999 (S 20)) : CT l X a B 1 yX7_image cX7_image 1 (some .int) [.ref (a (49))] S (Qi X a B (anF (-1) (1)) (fnF S 21 (-1) (up (setB S 28 (S 20)) 25 6 1))) := by
  refine CT.of (by decide +kernel) (Nat.le_of_ble_eq_true rfl) ?_
  intro p e s m below meth c ls hC hr hlk hI hl
  have hC : Cx p c cX7_image 1 s m [.ref (a (49))].toArray RX7 X B := hC
  have hl : lv_has ls 1 [(0, .ref (a (49)))] := hl
  obtain ⟨⟨hN, hBr, hBu, hIn, hLa, hPc⟩, hDk, hPg⟩ := id hV
  refine r_aload_n hC hl dX7_image_0 0 rfl ?_
  refine r_iconst hC dX7_image_1 ?_
  refine r_aload_n hC hl dX7_image_2 0 rfl ?_
  refine g_mo  (v := .ref (a (59))) hC hI 16 (by decide) fl_RX7_38 rfl rfl dX7_image_3 ?_
  refine r_cVv hC hI hl [.int (J 1), .ref (a (59))] [] (c_X7_moveAll1 l X a B S 59 28 (by omega) (fun _ => rfl) (fun _ => rfl) (by omega) rfl) ml_RX7_117 ev_X7_moveAll (rc_mo (S := S) hC hI) ⟨Nat.le_of_ble_eq_true rfl, Nat.le_of_ble_eq_true rfl⟩ ⟨Nat.zero_le _, Nat.zero_le _⟩ (Nat.le_of_ble_eq_true rfl) rfl dX7_image_6 (fun H locs hI => ?_)
  refine r_aload_n hC hl dX7_image_9 0 rfl ?_
  refine r_iconst hC dX7_image_10 ?_
  refine p_mo18  hC hI (by decide) fl_RX7_234 dX7_image_11 (fun H locs hI => ?_)
  refine r_iconst hC dX7_image_14 ?_
  exact r_iret hC hr hlk hI (an_n (by (repeat' split) <;> first | rfl | omega) (rfl)) (fn_n (by (repeat' split) <;> first | rfl | omega) (rfl)) dX7_image_15

set_option maxHeartbeats 4000000 in
set_option maxRecDepth 100000 in
theorem c_X7_undo (l : Launch) (X : XT) (a : Nat → Nat) (B : Nat) (S : St)  (hV : VR 9999 (S 20)) (hkp : S 25 6 = 0 ∨ S 25 6 = 1) : CT l X a B 1 yX7_undo cX7_undo 1 (some .int) [.ref (a (49))] S (Qi X a B (anF (if S 25 6 = 0 then 3 else -1) (S 28 5)) (fnF S 21 (if S 25 6 = 0 then 3 else -1) (setB S 20 (S 28)))) := by
  refine CT.of (by decide +kernel) (Nat.le_of_ble_eq_true rfl) ?_
  intro p e s m below meth c ls hC hr hlk hI hl
  have hC : Cx p c cX7_undo 1 s m [.ref (a (49))].toArray RX7 X B := hC
  have hl : lv_has ls 1 [(0, .ref (a (49)))] := hl
  obtain ⟨⟨hN, hBr, hBu, hIn, hLa, hPc⟩, hDk, hPg⟩ := id hV
  refine r_aload_n hC hl dX7_undo_0 0 rfl ?_
  refine g_mo  (v := .int (J (S 25 6))) hC hI 18 (by decide) fl_RX7_234 rfl rfl dX7_undo_1 ?_
  refine r_if_ne (tgt := 14) hC (by omega) dX7_undo_4 (by decide) (fun c_1 => ?_) (fun c_1 => ?_)
  · skip
    refine r_aload_n hC hl dX7_undo_14 0 rfl ?_
    refine r_iconst hC dX7_undo_15 ?_
    refine r_aload_n hC hl dX7_undo_16 0 rfl ?_
    refine g_mo  (v := .ref (a (59))) hC hI 16 (by decide) fl_RX7_38 rfl rfl dX7_undo_17 ?_
    refine r_cVv hC hI hl [.int (J 0), .ref (a (59))] [] (c_X7_moveAll0 l X a B S 59 28 (by omega) (fun _ => rfl) (fun _ => rfl) (by omega) rfl) ml_RX7_117 ev_X7_moveAll (rc_mo (S := S) hC hI) ⟨Nat.le_of_ble_eq_true rfl, Nat.le_of_ble_eq_true rfl⟩ ⟨Nat.zero_le _, Nat.zero_le _⟩ (Nat.le_of_ble_eq_true rfl) rfl dX7_undo_20 (fun H locs hI => ?_)
    refine r_aload_n hC hl dX7_undo_23 0 rfl ?_
    refine g_mo  (v := .ref (a (50))) hC hI 0 (by decide) fl_RX7_7 rfl rfl dX7_undo_24 ?_
    refine r_iconst hC dX7_undo_27 ?_
    refine r_iald (cx := 50) (n := 58) (f := (fun S => S 20) (setB S 20 (S 28))) (v := (setB S 20 (S 28)) 20 5) hC hI (by decide) rfl (by decide) (5) (by omega) (by omega) rfl dX7_undo_28 ?_
    refine r_as (y := S 28 5) hC (by rw [setB_at]) ?_
    exact r_iret hC hr hlk hI (an_n (by (repeat' split) <;> first | rfl | omega) (rfl)) (fn_n (by (repeat' split) <;> first | rfl | omega) (rfl)) dX7_undo_29
  · skip
    refine r_aload_n hC hl dX7_undo_7 0 rfl ?_
    refine r_ldc (x := (-1000000004)) hC ct_RX7_124 (by decide) dX7_undo_8 ?_
    refine r_cVi hC hI hl [.int (J (-1000000004))] [] (c_X7_finds3 l X a B S  ) ml_RX7_57 ev_X7_finds (rc_mo (S := S) hC hI) ⟨Nat.le_of_ble_eq_true rfl, Nat.le_of_ble_eq_true rfl⟩ ⟨Nat.zero_le _, Nat.zero_le _⟩ (Nat.le_of_ble_eq_true rfl) rfl dX7_undo_10 (fun H locs hI => ?_)
    exact r_iret hC hr hlk hI (an_f 3 (by (repeat' split) <;> first | rfl | omega)) (fn_f 3 (by (repeat' split) <;> first | rfl | omega)) dX7_undo_13

set_option maxHeartbeats 4000000 in
set_option maxRecDepth 100000 in
theorem c_X7_tear (l : Launch) (X : XT) (a : Nat → Nat) (B : Nat) (S : St)  (hV : VR 9999 (S 20)) (hkp : S 25 6 = 0 ∨ S 25 6 = 1) : CT l X a B 0 yX7_tear cX7_tear 2 (some .int) [.ref (a (49))] S (Qi X a B (anF (-1) (S 25 6)) (fnF S 21 (-1) (up S 25 6 0))) := by
  refine CT.of (by decide +kernel) (Nat.le_of_ble_eq_true rfl) ?_
  intro p e s m below meth c ls hC hr hlk hI hl
  have hC : Cx p c cX7_tear 2 s m [.ref (a (49))].toArray RX7 X B := hC
  have hl : lv_has ls 2 [(0, .ref (a (49)))] := hl
  obtain ⟨⟨hN, hBr, hBu, hIn, hLa, hPc⟩, hDk, hPg⟩ := id hV
  refine r_aload_n hC hl dX7_tear_0 0 rfl ?_
  refine g_mo  (v := .int (J (S 25 6))) hC hI 18 (by decide) fl_RX7_234 rfl rfl dX7_tear_1 ?_
  refine r_if_eq (tgt := 11) hC (by omega) dX7_tear_4 (by decide) (fun c_1 => ?_) (fun c_1 => ?_)
  · skip
    refine r_iconst hC dX7_tear_11 ?_
    refine r_istore_n (lv1 := [(1, .int (J 0)), (0, .ref (a (49)))]) hC hl dX7_tear_12 1 rfl (by decide) rfl (fun ls hl => ?_)
    refine r_aload_n hC hl dX7_tear_13 1 rfl ?_
    refine r_iconst hC dX7_tear_14 ?_
    refine p_mo18  hC hI (by decide) fl_RX7_234 dX7_tear_15 (fun H locs hI => ?_)
    refine r_iload_n hC hl dX7_tear_18 0 rfl ?_
    exact r_iret hC hr hlk hI (an_n (by (repeat' split) <;> first | rfl | omega) (by omega)) (fn_n (by (repeat' split) <;> first | rfl | omega) (rfl)) dX7_tear_19
  · skip
    refine r_iconst hC dX7_tear_7 ?_
    refine r_goto (tgt := 12) hC dX7_tear_8 (by decide) ?_
    refine r_istore_n (lv1 := [(1, .int (J 1)), (0, .ref (a (49)))]) hC hl dX7_tear_12 1 rfl (by decide) rfl (fun ls hl => ?_)
    refine r_aload_n hC hl dX7_tear_13 1 rfl ?_
    refine r_iconst hC dX7_tear_14 ?_
    refine p_mo18  hC hI (by decide) fl_RX7_234 dX7_tear_15 (fun H locs hI => ?_)
    refine r_iload_n hC hl dX7_tear_18 0 rfl ?_
    exact r_iret hC hr hlk hI (an_n (by (repeat' split) <;> first | rfl | omega) (by omega)) (fn_n (by (repeat' split) <;> first | rfl | omega) (rfl)) dX7_tear_19

set_option maxHeartbeats 4000000 in
set_option maxRecDepth 100000 in
theorem c_X7_status (l : Launch) (X : XT) (a : Nat → Nat) (B : Nat) (S : St) (w : Int) (hV : VR 9999 (S 20)) (hw : -2147483648 ≤ w ∧ w ≤ 2147483647) : CT l X a B 1 yX7_status cX7_status 4 (some .int) [.ref (a (49)), .int (J w)] S (Qi X a B (anF (if -1 ≤ w ∧ w ≤ 6 then -1 else 0) (if w < 0 then sumF (S 21) 7 else S 21 w.toNat)) (fnF S 21 (if -1 ≤ w ∧ w ≤ 6 then -1 else 0) (S))) := by
  refine CT.of (by decide +kernel) (Nat.le_of_ble_eq_true rfl) ?_
  intro p e s m below meth c ls hC hr hlk hI hl
  have hC : Cx p c cX7_status 4 s m [.ref (a (49)), .int (J w)].toArray RX7 X B := hC
  have hl : lv_has ls 4 [(0, .ref (a (49))), (1, .int (J w))] := hl
  obtain ⟨⟨hN, hBr, hBu, hIn, hLa, hPc⟩, hDk, hPg⟩ := id hV
  refine r_iload_n hC hl dX7_status_0 1 rfl ?_
  refine r_iconst hC dX7_status_1 ?_
  refine r_bipush hC (by decide) dX7_status_2 ?_
  refine r_cSi hC hI hl [.int (J w), .int (J (-1)), .int (J 6)] [] (c_X7_in l X a B S w (-1) 6 (by omega) (by omega) (by omega)) ml_RX7_45 es_X7_in ⟨Nat.le_of_ble_eq_true rfl, Nat.le_of_ble_eq_true rfl⟩ ⟨Nat.zero_le _, Nat.zero_le _⟩ (Nat.le_of_ble_eq_true rfl) rfl dX7_status_4 (fun H locs hI => ?_)
  refine r_b_ne (tgt := 17) hC dX7_status_7 (by decide) (fun c_1 => ?_) (fun c_1 => ?_)
  · skip
    refine r_iconst hC dX7_status_17 ?_
    refine r_istore_n (lv1 := [(2, .int (J 0)), (0, .ref (a (49))), (1, .int (J w))]) hC hl dX7_status_18 2 rfl (by decide) rfl (fun ls hl => ?_)
    refine r_iconst hC dX7_status_19 ?_
    refine r_istore_n (lv1 := [(3, .int (J 0)), (2, .int (J 0)), (0, .ref (a (49))), (1, .int (J w))]) hC hl dX7_status_20 3 rfl (by decide) rfl (fun ls hl => ?_)
    have hL21 : ∀ (fu : Nat) (q : Nat) (x3 x2 : Int), 7 - q < fu → (x3 = (q : Int)) → (x2 = sumF (S 21) q) → (q ≤ 7) → ∀ (H : Heap) (locs : List Loc) (ls : Array Slot), IS X a B s (S) H locs → lv_has ls 4 [(3, .int (J x3)), (2, .int (J x2)), (0, .ref (a (49))), (1, .int (J w))] → W p l e (rmD 1) s m [.ref (a (49)), .int (J w)].toArray below meth c H locs 0 0 (MQ below (Qi X a B (anF (if -1 ≤ w ∧ w ≤ 6 then -1 else 0) (if w < 0 then sumF (S 21) 7 else S 21 w.toNat)) (fnF S 21 (if -1 ≤ w ∧ w ≤ 6 then -1 else 0) (S))) [.ref (a (49)), .int (J w)].toArray s 0 0 (fun q => B ≤ q)) (F0 m 21 ls []) := by
      intro fu
      induction fu with
      | zero => intro q x3 x2 hm; exact absurd hm (Nat.not_lt_zero _)
      | succ fu ih21 =>
        intro q x3 x2 hm e3 e2 hq H locs ls hI hl
        subst e3; subst e2
        refine r_iload_n hC hl dX7_status_21 0 rfl ?_
        refine r_bipush hC (by decide) dX7_status_22 ?_
        refine r_icmp_ge (tgt := 42) hC (by omega) (by omega) dX7_status_24 (by decide) (fun c_2 => ?_) (fun c_2 => ?_)
        · skip
          refine r_iload_n hC hl dX7_status_42 3 rfl ?_
          refine r_if_ge (tgt := 50) hC (by omega) dX7_status_43 (by decide) (fun c_3 => ?_) (fun c_3 => ?_)
          · skip
            refine r_aload_n hC hl dX7_status_50 2 rfl ?_
            refine g_mo  (v := .ref (a (51))) hC hI 1 (by decide) fl_RX7_13 rfl rfl dX7_status_51 ?_
            refine r_iload_n hC hl dX7_status_54 3 rfl ?_
            refine r_if_ge (tgt := 62) hC (by omega) dX7_status_55 (by decide) (fun c_4 => ?_) (fun c_4 => ?_)
            · skip
              refine r_iload_n hC hl dX7_status_62 3 rfl ?_
              refine r_iald (cx := 51) (n := 7) (f := (fun S => S 21) (S)) (v := S 21 ((w).toNat)) hC hI (by decide) rfl (by decide) ((w).toNat) (by omega) (by omega) rfl dX7_status_63 ?_
              exact r_iret hC hr hlk hI (an_n (by (repeat' split) <;> first | rfl | omega) (by first | (rw [if_pos (by omega), show q = 7 by omega]) | (rw [if_neg (by omega)]))) (fn_n (by (repeat' split) <;> first | rfl | omega) (rfl)) dX7_status_64
            · skip
              exfalso; omega
          · skip
            refine r_iload_n hC hl dX7_status_46 1 rfl ?_
            refine r_goto (tgt := 64) hC dX7_status_47 (by decide) ?_
            exact r_iret hC hr hlk hI (an_n (by (repeat' split) <;> first | rfl | omega) (by first | (rw [if_pos (by omega), show q = 7 by omega]) | (rw [if_neg (by omega)]))) (fn_n (by (repeat' split) <;> first | rfl | omega) (rfl)) dX7_status_64
        · skip
          refine r_iload_n hC hl dX7_status_27 1 rfl ?_
          refine r_aload_n hC hl dX7_status_28 2 rfl ?_
          refine g_mo  (v := .ref (a (51))) hC hI 1 (by decide) fl_RX7_13 rfl rfl dX7_status_29 ?_
          refine r_iload_n hC hl dX7_status_32 0 rfl ?_
          refine r_iald (cx := 51) (n := 7) (f := (fun S => S 21) (S)) (v := S 21 q) hC hI (by decide) rfl (by decide) (q) (by omega) (by omega) rfl dX7_status_33 ?_
          refine r_iadd hC dX7_status_34 ?_
          refine r_istore_n (lv1 := [(2, .int (J ((sumF (S 21) q) + (S 21 q)))), (3, .int (J (q : Int))), (0, .ref (a (49))), (1, .int (J w))]) hC hl dX7_status_35 2 rfl (by decide) rfl (fun ls hl => ?_)
          refine r_iinc (lv1 := [(3, .int (J ((q : Int) + 1))), (2, .int (J ((sumF (S 21) q) + (S 21 q)))), (0, .ref (a (49))), (1, .int (J w))]) hC hl dX7_status_36 1 rfl (by decide) rfl (fun ls hl => ?_)
          refine r_goto (tgt := 21) hC dX7_status_39 (by decide) ?_
          exact ih21 (q + 1) ((q : Int) + 1) ((sumF (S 21) q) + (S 21 q)) (by omega) (by omega) rfl (by omega) _ _ _ hI (lv_sub hl [0, 1, 2, 3] rfl)
    exact hL21 _ 0 0 0 (Nat.lt_succ_self _) (by omega) rfl (by omega) _ _ _ hI (lv_sub hl [0, 1, 2, 3] rfl)
  · skip
    refine r_aload_n hC hl dX7_status_10 0 rfl ?_
    refine r_ldc (x := (-1000000001)) hC ct_RX7_44 (by decide) dX7_status_11 ?_
    refine r_cVi hC hI hl [.int (J (-1000000001))] [] (c_X7_finds0 l X a B S  ) ml_RX7_57 ev_X7_finds (rc_mo (S := S) hC hI) ⟨Nat.le_of_ble_eq_true rfl, Nat.le_of_ble_eq_true rfl⟩ ⟨Nat.zero_le _, Nat.zero_le _⟩ (Nat.le_of_ble_eq_true rfl) rfl dX7_status_13 (fun H locs hI => ?_)
    exact r_iret hC hr hlk hI (an_f 0 (by (repeat' split) <;> first | rfl | omega)) (fn_f 0 (by (repeat' split) <;> first | rfl | omega)) dX7_status_16
