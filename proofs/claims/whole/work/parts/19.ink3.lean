set_option maxHeartbeats 4000000 in
set_option maxRecDepth 100000 in
theorem c_X6_sheet (l : Launch) (X : XT) (a : Nat → Nat) (B : Nat) (S : St) (w : Int) (v : Int) (u : Int) (hV : VR 9999 (S 0)) (hw : -2147483648 ≤ w ∧ w ≤ 2147483647) (hv : -2147483648 ≤ v ∧ v ≤ 2147483647) (hu : -2147483648 ≤ u ∧ u ≤ 2147483647) (hSh : ∀ t, t < 4 → (S 6 t = 0 ∨ S 6 t = 8 ∨ S 6 t = 16 ∨ S 6 t = 64) ∧ (0 ≤ S 7 t ∧ S 7 t ≤ 40) ∧ ∀ j, j < 40 → -9223372036854775808 ≤ S (12 + t) j ∧ S (12 + t) j ≤ 9223372036854775807) : CT l X a B 2 yX6_sheet cX6_sheet 4 (some .int) [.ref (a (0)), .int (J w), .int (J v), .int (J u)] S (Qi X a B (anF (if ¬ ((0 ≤ w ∧ w ≤ 3) ∧ (v = 0 ∨ v = 8 ∨ v = 16 ∨ v = 64)) then 0 else if u < 0 then 6 else if 40 < u then 0 else -1) (if v = 0 then 0 else u)) (fnF S 3 (if ¬ ((0 ≤ w ∧ w ≤ 3) ∧ (v = 0 ∨ v = 8 ∨ v = 16 ∨ v = 64)) then 0 else if u < 0 then 6 else if 40 < u then 0 else -1) (setB (up (up S 6 w.toNat v) 7 w.toNat (if v = 0 then 0 else u)) (12 + w.toNat) (flF 0 (S (12 + w.toNat)) 40)))) := by
  refine CT.of (by decide +kernel) (Nat.le_of_ble_eq_true rfl) ?_
  intro p e s m below meth c ls hC hr hlk hI hl
  have hC : Cx p c cX6_sheet 4 s m [.ref (a (0)), .int (J w), .int (J v), .int (J u)].toArray RX6 X B := hC
  have hl : lv_has ls 4 [(0, .ref (a (0))), (1, .int (J w)), (2, .int (J v)), (3, .int (J u))] := hl
  obtain ⟨⟨hN, hBr, hBu, hIn, hLa, hPc⟩, hDk, hPg⟩ := id hV
  refine r_iload_n hC hl dX6_sheet_0 1 rfl ?_
  refine r_cSi hC hI hl [.int (J w)] [] (c_X6_isSheet l X a B S w (by omega)) ml_RX6_222 es_X6_isSheet ⟨Nat.le_of_ble_eq_true rfl, Nat.le_of_ble_eq_true rfl⟩ ⟨Nat.zero_le _, Nat.zero_le _⟩ (Nat.le_of_ble_eq_true rfl) rfl dX6_sheet_1 (fun H locs hI => ?_)
  refine r_b_eq (tgt := 14) hC dX6_sheet_4 (by decide) (fun c_1 => ?_) (fun c_1 => ?_)
  · skip
    refine r_aload_n hC hl dX6_sheet_14 0 rfl ?_
    refine r_iconst hC dX6_sheet_15 ?_
    refine r_cVi hC hI hl [.int (J 0)] [] (c_X6_found l X a B S 0 (by omega)) ml_RX6_48 ev_X6_found (rc_in (S := S) hC hI) ⟨Nat.le_of_ble_eq_true rfl, Nat.le_of_ble_eq_true rfl⟩ ⟨Nat.zero_le _, Nat.zero_le _⟩ (Nat.le_of_ble_eq_true rfl) rfl dX6_sheet_16 (fun H locs hI => ?_)
    exact r_iret hC hr hlk hI (an_f 0 (by (repeat' split) <;> first | rfl | omega)) (fn_f 0 (by (repeat' split) <;> first | rfl | omega)) dX6_sheet_19
  · skip
    refine r_iload_n hC hl dX6_sheet_7 2 rfl ?_
    refine r_cSi hC hI hl [.int (J v)] [] (c_X3_mayHaveBits l X a B S v (by omega)) ml_RX6_225 es_X3_mayHaveBits ⟨Nat.le_of_ble_eq_true rfl, Nat.le_of_ble_eq_true rfl⟩ ⟨Nat.zero_le _, Nat.zero_le _⟩ (Nat.le_of_ble_eq_true rfl) rfl dX6_sheet_8 (fun H locs hI => ?_)
    refine r_b_ne (tgt := 20) hC dX6_sheet_11 (by decide) (fun c_2 => ?_) (fun c_2 => ?_)
    · skip
      refine r_iload_n hC hl dX6_sheet_20 3 rfl ?_
      refine r_if_ge (tgt := 31) hC (by omega) dX6_sheet_21 (by decide) (fun c_3 => ?_) (fun c_3 => ?_)
      · skip
        refine r_iload_n hC hl dX6_sheet_31 3 rfl ?_
        refine r_bipush hC (by decide) dX6_sheet_32 ?_
        refine r_icmp_le (tgt := 43) hC (by omega) (by omega) dX6_sheet_34 (by decide) (fun c_4 => ?_) (fun c_4 => ?_)
        · skip
          refine r_aload_n hC hl dX6_sheet_43 0 rfl ?_
          refine g_in  (v := .ref (a (6))) hC hI 5 (by decide) fl_RX6_35 rfl rfl dX6_sheet_44 ?_
          refine r_iload_n hC hl dX6_sheet_47 1 rfl ?_
          refine r_sald (cx := 6) (n := 4) (f := fun i => a (17 + i)) hC hI (by decide) rfl (by decide) ((w).toNat) (by omega) (by omega) dX6_sheet_48 ?_
          refine r_iload_n hC hl dX6_sheet_49 2 rfl ?_
          refine r_iload_n hC hl dX6_sheet_50 3 rfl ?_
          refine r_cVv hC hI hl [.int (J v), .int (J u)] [] (c_X3_layOut l X a B S ((w).toNat) v u (by omega) (by omega)) ml_RX6_228 ev_X3_layOut (rc_sh (S := S) hC hI (by omega)) ⟨Nat.le_of_ble_eq_true rfl, Nat.le_of_ble_eq_true rfl⟩ ⟨Nat.zero_le _, Nat.zero_le _⟩ (Nat.le_of_ble_eq_true rfl) rfl dX6_sheet_51 (fun H locs hI => ?_)
          refine r_aload_n hC hl dX6_sheet_54 0 rfl ?_
          refine g_in  (v := .ref (a (6))) hC hI 5 (by decide) fl_RX6_35 rfl rfl dX6_sheet_55 ?_
          refine r_iload_n hC hl dX6_sheet_58 1 rfl ?_
          refine r_sald (cx := 6) (n := 4) (f := fun i => a (17 + i)) hC hI (by decide) rfl (by decide) ((w).toNat) (by omega) (by omega) dX6_sheet_59 ?_
          refine g_sh (i := (w).toNat) (v := .int (J ((setB (up (up S 6 ((w).toNat) v) 7 ((w).toNat) (if v = 0 then 0 else u)) (12 + ((w).toNat)) (flF 0 (S (12 + ((w).toNat))) 40)) 7 ((w).toNat)))) hC hI (by omega) 1 (by decide) fl_RX6_231 rfl rfl dX6_sheet_60 ?_
          refine r_as (y := if v = 0 then 0 else u) hC (by rw [setB_ne _ _ (by omega), up_at]) ?_
          exact r_iret hC hr hlk hI (an_n (by (repeat' split) <;> first | rfl | omega) (rfl)) (fn_n (by (repeat' split) <;> first | rfl | omega) (rfl)) dX6_sheet_63
        · skip
          refine r_aload_n hC hl dX6_sheet_37 0 rfl ?_
          refine r_iconst hC dX6_sheet_38 ?_
          refine r_cVi hC hI hl [.int (J 0)] [] (c_X6_found l X a B S 0 (by omega)) ml_RX6_48 ev_X6_found (rc_in (S := S) hC hI) ⟨Nat.le_of_ble_eq_true rfl, Nat.le_of_ble_eq_true rfl⟩ ⟨Nat.zero_le _, Nat.zero_le _⟩ (Nat.le_of_ble_eq_true rfl) rfl dX6_sheet_39 (fun H locs hI => ?_)
          exact r_iret hC hr hlk hI (an_f 0 (by (repeat' split) <;> first | rfl | omega)) (fn_f 0 (by (repeat' split) <;> first | rfl | omega)) dX6_sheet_42
      · skip
        refine r_aload_n hC hl dX6_sheet_24 0 rfl ?_
        refine r_bipush hC (by decide) dX6_sheet_25 ?_
        refine r_cVi hC hI hl [.int (J 6)] [] (c_X6_found l X a B S 6 (by omega)) ml_RX6_48 ev_X6_found (rc_in (S := S) hC hI) ⟨Nat.le_of_ble_eq_true rfl, Nat.le_of_ble_eq_true rfl⟩ ⟨Nat.zero_le _, Nat.zero_le _⟩ (Nat.le_of_ble_eq_true rfl) rfl dX6_sheet_27 (fun H locs hI => ?_)
        exact r_iret hC hr hlk hI (an_f 6 (by (repeat' split) <;> first | rfl | omega)) (fn_f 6 (by (repeat' split) <;> first | rfl | omega)) dX6_sheet_30
    · skip
      refine r_aload_n hC hl dX6_sheet_14 0 rfl ?_
      refine r_iconst hC dX6_sheet_15 ?_
      refine r_cVi hC hI hl [.int (J 0)] [] (c_X6_found l X a B S 0 (by omega)) ml_RX6_48 ev_X6_found (rc_in (S := S) hC hI) ⟨Nat.le_of_ble_eq_true rfl, Nat.le_of_ble_eq_true rfl⟩ ⟨Nat.zero_le _, Nat.zero_le _⟩ (Nat.le_of_ble_eq_true rfl) rfl dX6_sheet_16 (fun H locs hI => ?_)
      exact r_iret hC hr hlk hI (an_f 0 (by (repeat' split) <;> first | rfl | omega)) (fn_f 0 (by (repeat' split) <;> first | rfl | omega)) dX6_sheet_19

set_option maxHeartbeats 4000000 in
set_option maxRecDepth 100000 in
theorem c_X6_write (l : Launch) (X : XT) (a : Nat → Nat) (B : Nat) (S : St) (w : Int) (v : Int) (x : Int) (hV : VR 9999 (S 0)) (hw : -2147483648 ≤ w ∧ w ≤ 2147483647) (hv : -2147483648 ≤ v ∧ v ≤ 2147483647) (hSh : ∀ t, t < 4 → (S 6 t = 0 ∨ S 6 t = 8 ∨ S 6 t = 16 ∨ S 6 t = 64) ∧ (0 ≤ S 7 t ∧ S 7 t ≤ 40) ∧ ∀ j, j < 40 → -9223372036854775808 ≤ S (12 + t) j ∧ S (12 + t) j ≤ 9223372036854775807) : CT l X a B 2 yX6_write cX6_write 7 (some .long) [.ref (a (0)), .int (J w), .int (J v), .long (JL x)] S (Ql X a B (anF (if ¬ (0 ≤ w ∧ w ≤ 3) then 0 else if S 6 w.toNat = 0 then 5 else if ¬ (0 ≤ v ∧ v ≤ S 7 w.toNat - 1) then 0 else -1) (S (12 + w.toNat) v.toNat)) (fnF S 3 (if ¬ (0 ≤ w ∧ w ≤ 3) then 0 else if S 6 w.toNat = 0 then 5 else if ¬ (0 ≤ v ∧ v ≤ S 7 w.toNat - 1) then 0 else -1) (up S (12 + w.toNat) v.toNat (lbF (S 6 w.toNat) x)))) := by
  refine CT.of (by decide +kernel) (Nat.le_of_ble_eq_true rfl) ?_
  intro p e s m below meth c ls hC hr hlk hI hl
  have hC : Cx p c cX6_write 7 s m [.ref (a (0)), .int (J w), .int (J v), .long (JL x)].toArray RX6 X B := hC
  have hl : lv_has ls 7 [(0, .ref (a (0))), (1, .int (J w)), (2, .int (J v)), (3, .long (JL x))] := hl
  obtain ⟨⟨hN, hBr, hBu, hIn, hLa, hPc⟩, hDk, hPg⟩ := id hV
  refine r_iload_n hC hl dX6_write_0 1 rfl ?_
  refine r_cSi hC hI hl [.int (J w)] [] (c_X6_isSheet l X a B S w (by omega)) ml_RX6_222 es_X6_isSheet ⟨Nat.le_of_ble_eq_true rfl, Nat.le_of_ble_eq_true rfl⟩ ⟨Nat.zero_le _, Nat.zero_le _⟩ (Nat.le_of_ble_eq_true rfl) rfl dX6_write_1 (fun H locs hI => ?_)
  refine r_b_ne (tgt := 14) hC dX6_write_4 (by decide) (fun c_1 => ?_) (fun c_1 => ?_)
  · skip
    refine r_aload_n hC hl dX6_write_14 0 rfl ?_
    refine g_in  (v := .ref (a (6))) hC hI 5 (by decide) fl_RX6_35 rfl rfl dX6_write_15 ?_
    refine r_iload_n hC hl dX6_write_18 1 rfl ?_
    refine r_sald (cx := 6) (n := 4) (f := fun i => a (17 + i)) hC hI (by decide) rfl (by decide) ((w).toNat) (by omega) (by omega) dX6_write_19 ?_
    obtain ⟨hb4w, hlenw, hVLw⟩ := hSh w.toNat (by omega)
    refine r_cVi hC hI hl [] [] (c_X3_isMissing l X a B S ((w).toNat) (by omega) (hSh _ (by omega)).1) ml_RX6_232 ev_X3_isMissing (rc_sh (S := S) hC hI (by omega)) ⟨Nat.le_of_ble_eq_true rfl, Nat.le_of_ble_eq_true rfl⟩ ⟨Nat.zero_le _, Nat.zero_le _⟩ (Nat.le_of_ble_eq_true rfl) rfl dX6_write_20 (fun H locs hI => ?_)
    refine r_b_eq (tgt := 33) hC dX6_write_23 (by decide) (fun c_2 => ?_) (fun c_2 => ?_)
    · skip
      refine r_iload_n hC hl dX6_write_33 2 rfl ?_
      refine r_iconst hC dX6_write_34 ?_
      refine r_aload_n hC hl dX6_write_35 0 rfl ?_
      refine g_in  (v := .ref (a (6))) hC hI 5 (by decide) fl_RX6_35 rfl rfl dX6_write_36 ?_
      refine r_iload_n hC hl dX6_write_39 1 rfl ?_
      refine r_sald (cx := 6) (n := 4) (f := fun i => a (17 + i)) hC hI (by decide) rfl (by decide) ((w).toNat) (by omega) (by omega) dX6_write_40 ?_
      refine g_sh (i := (w).toNat) (v := .int (J (S 7 ((w).toNat)))) hC hI (by omega) 1 (by decide) fl_RX6_231 rfl rfl dX6_write_41 ?_
      refine r_iconst hC dX6_write_44 ?_
      refine r_isub hC dX6_write_45 ?_
      refine r_cSi hC hI hl [.int (J v), .int (J 0), .int (J ((S 7 ((w).toNat)) - 1))] [] (c_X6_isWithin l X a B S v 0 ((S 7 ((w).toNat)) - 1) (by omega) (by omega) (by omega)) ml_RX6_44 es_X6_isWithin ⟨Nat.le_of_ble_eq_true rfl, Nat.le_of_ble_eq_true rfl⟩ ⟨Nat.zero_le _, Nat.zero_le _⟩ (Nat.le_of_ble_eq_true rfl) rfl dX6_write_46 (fun H locs hI => ?_)
      refine r_b_ne (tgt := 59) hC dX6_write_49 (by decide) (fun c_3 => ?_) (fun c_3 => ?_)
      · skip
        refine r_aload_n hC hl dX6_write_59 0 rfl ?_
        refine g_in  (v := .ref (a (6))) hC hI 5 (by decide) fl_RX6_35 rfl rfl dX6_write_60 ?_
        refine r_iload_n hC hl dX6_write_63 1 rfl ?_
        refine r_sald (cx := 6) (n := 4) (f := fun i => a (17 + i)) hC hI (by decide) rfl (by decide) ((w).toNat) (by omega) (by omega) dX6_write_64 ?_
        refine g_sh (i := (w).toNat) (v := .ref (a (21 + ((w).toNat)))) hC hI (by omega) 2 (by decide) fl_RX6_235 rfl rfl dX6_write_65 ?_
        refine r_iload_n hC hl dX6_write_68 2 rfl ?_
        refine r_lald (cx := 21 + ((w).toNat)) (n := 40) (f := (fun S => S (12 + ((w).toNat))) (S)) (v := S (12 + ((w).toNat)) ((v).toNat)) hC hI (by omega) (ce_nu X a _ (by omega)) (by decide) ((v).toNat) (by omega) (by omega) rfl dX6_write_69 ?_
        refine r_lstore (lv1 := [(5, .long (JL (S (12 + ((w).toNat)) ((v).toNat)))), (0, .ref (a (0))), (1, .int (J w)), (2, .int (J v)), (3, .long (JL x))]) hC hl dX6_write_70 (by decide) rfl (fun ls hl => ?_)
        refine r_aload_n hC hl dX6_write_72 1 rfl ?_
        refine g_in  (v := .ref (a (6))) hC hI 5 (by decide) fl_RX6_35 rfl rfl dX6_write_73 ?_
        refine r_iload_n hC hl dX6_write_76 2 rfl ?_
        refine r_sald (cx := 6) (n := 4) (f := fun i => a (17 + i)) hC hI (by decide) rfl (by decide) ((w).toNat) (by omega) (by omega) dX6_write_77 ?_
        refine g_sh (i := (w).toNat) (v := .ref (a (21 + ((w).toNat)))) hC hI (by omega) 2 (by decide) fl_RX6_235 rfl rfl dX6_write_78 ?_
        refine r_iload_n hC hl dX6_write_81 3 rfl ?_
        refine r_aload_n hC hl dX6_write_82 1 rfl ?_
        refine g_in  (v := .ref (a (6))) hC hI 5 (by decide) fl_RX6_35 rfl rfl dX6_write_83 ?_
        refine r_iload_n hC hl dX6_write_86 2 rfl ?_
        refine r_sald (cx := 6) (n := 4) (f := fun i => a (17 + i)) hC hI (by decide) rfl (by decide) ((w).toNat) (by omega) (by omega) dX6_write_87 ?_
        refine r_lload_n hC hl dX6_write_88 4 rfl ?_
        refine r_cVl hC hI hl [.long (JL x)] [.int (J v), .ref (a (21 + ((w).toNat)))] (c_X3_lowestBits l X a B S ((w).toNat) x (by omega) (hSh _ (by omega)).1 (by omega)) ml_RX6_239 ev_X3_lowestBits (rc_sh (S := S) hC hI (by omega)) ⟨Nat.le_of_ble_eq_true rfl, Nat.le_of_ble_eq_true rfl⟩ ⟨Nat.zero_le _, Nat.zero_le _⟩ (Nat.le_of_ble_eq_true rfl) rfl dX6_write_89 (fun H locs hI => ?_)
        refine r_last (cx := 21 + ((w).toNat)) (n := 40) (F := fun S => S (12 + ((w).toNat))) hC hI (by omega) (fun S => ce_nu X a S (by omega)) (by decide) ((v).toNat) (by omega) (by omega) (b := 12 + ((w).toNat)) (j := (v).toNat) (ow_nu (by omega)) (fun q => by simp [up, setB, upR]) dX6_write_92 (fun H locs hI => ?_)
        refine r_lload hC hl dX6_write_93 0 rfl ?_
        exact r_lret hC hr hlk hI (an_n (by (repeat' split) <;> first | rfl | omega) rfl) (fn_n (by (repeat' split) <;> first | rfl | omega) rfl) dX6_write_95
      · skip
        refine r_aload_n hC hl dX6_write_52 0 rfl ?_
        refine r_iconst hC dX6_write_53 ?_
        refine r_cVi hC hI hl [.int (J 0)] [] (c_X6_found l X a B S 0 (by omega)) ml_RX6_48 ev_X6_found (rc_in (S := S) hC hI) ⟨Nat.le_of_ble_eq_true rfl, Nat.le_of_ble_eq_true rfl⟩ ⟨Nat.zero_le _, Nat.zero_le _⟩ (Nat.le_of_ble_eq_true rfl) rfl dX6_write_54 (fun H locs hI => ?_)
        refine r_i2l hC (by omega) dX6_write_57 ?_
        exact r_lret hC hr hlk hI (an_f 0 (by (repeat' split) <;> first | rfl | omega)) (fn_f 0 (by (repeat' split) <;> first | rfl | omega)) dX6_write_58
    · skip
      refine r_aload_n hC hl dX6_write_26 0 rfl ?_
      refine r_iconst hC dX6_write_27 ?_
      refine r_cVi hC hI hl [.int (J 5)] [] (c_X6_found l X a B S 5 (by omega)) ml_RX6_48 ev_X6_found (rc_in (S := S) hC hI) ⟨Nat.le_of_ble_eq_true rfl, Nat.le_of_ble_eq_true rfl⟩ ⟨Nat.zero_le _, Nat.zero_le _⟩ (Nat.le_of_ble_eq_true rfl) rfl dX6_write_28 (fun H locs hI => ?_)
      refine r_i2l hC (by omega) dX6_write_31 ?_
      exact r_lret hC hr hlk hI (an_f 5 (by (repeat' split) <;> first | rfl | omega)) (fn_f 5 (by (repeat' split) <;> first | rfl | omega)) dX6_write_32
  · skip
    refine r_aload_n hC hl dX6_write_7 0 rfl ?_
    refine r_iconst hC dX6_write_8 ?_
    refine r_cVi hC hI hl [.int (J 0)] [] (c_X6_found l X a B S 0 (by omega)) ml_RX6_48 ev_X6_found (rc_in (S := S) hC hI) ⟨Nat.le_of_ble_eq_true rfl, Nat.le_of_ble_eq_true rfl⟩ ⟨Nat.zero_le _, Nat.zero_le _⟩ (Nat.le_of_ble_eq_true rfl) rfl dX6_write_9 (fun H locs hI => ?_)
    refine r_i2l hC (by omega) dX6_write_12 ?_
    exact r_lret hC hr hlk hI (an_f 0 (by (repeat' split) <;> first | rfl | omega)) (fn_f 0 (by (repeat' split) <;> first | rfl | omega)) dX6_write_13

set_option maxHeartbeats 4000000 in
set_option maxRecDepth 100000 in
theorem c_X6_copy (l : Launch) (X : XT) (a : Nat → Nat) (B : Nat) (S : St) (w : Int) (f : Int) (v : Int) (g : Int) (n : Int) (hV : VR 9999 (S 0)) (hw : -2147483648 ≤ w ∧ w ≤ 2147483647) (hf : -2147483648 ≤ f ∧ f ≤ 2147483647) (hv : -2147483648 ≤ v ∧ v ≤ 2147483647) (hg : -2147483648 ≤ g ∧ g ≤ 2147483647) (hn : -2147483648 ≤ n ∧ n ≤ 2147483647) (hSh : ∀ t, t < 4 → (S 6 t = 0 ∨ S 6 t = 8 ∨ S 6 t = 16 ∨ S 6 t = 64) ∧ (0 ≤ S 7 t ∧ S 7 t ≤ 40) ∧ ∀ j, j < 40 → -9223372036854775808 ≤ S (12 + t) j ∧ S (12 + t) j ≤ 9223372036854775807) : CT l X a B 3 yX6_copy cX6_copy 6 (some .int) [.ref (a (0)), .int (J w), .int (J f), .int (J v), .int (J g), .int (J n)] S (Qi X a B (anF (if ¬ ((0 ≤ w ∧ w ≤ 3) ∧ 0 ≤ v ∧ v ≤ 3) then 0 else if S 6 w.toNat = 0 ∨ S 6 v.toNat = 0 then 5 else if S 6 w.toNat ≠ S 6 v.toNat then 2 else if ¬ ((0 ≤ f ∧ 0 ≤ n ∧ f ≤ S 7 w.toNat - n) ∧ 0 ≤ g ∧ 0 ≤ n ∧ g ≤ S 7 v.toNat - n) then 0 else -1) (n)) (fnF S 3 (if ¬ ((0 ≤ w ∧ w ≤ 3) ∧ 0 ≤ v ∧ v ≤ 3) then 0 else if S 6 w.toNat = 0 ∨ S 6 v.toNat = 0 then 5 else if S 6 w.toNat ≠ S 6 v.toNat then 2 else if ¬ ((0 ≤ f ∧ 0 ≤ n ∧ f ≤ S 7 w.toNat - n) ∧ 0 ≤ g ∧ 0 ≤ n ∧ g ≤ S 7 v.toNat - n) then 0 else -1) (setB S (12 + v.toNat) (fun j => if g.toNat ≤ j ∧ j < g.toNat + n.toNat then S (12 + w.toNat) (f.toNat + (j - g.toNat)) else S (12 + v.toNat) j)))) := by
  refine CT.of (by decide +kernel) (Nat.le_of_ble_eq_true rfl) ?_
  intro p e s m below meth c ls hC hr hlk hI hl
  have hC : Cx p c cX6_copy 6 s m [.ref (a (0)), .int (J w), .int (J f), .int (J v), .int (J g), .int (J n)].toArray RX6 X B := hC
  have hl : lv_has ls 6 [(0, .ref (a (0))), (1, .int (J w)), (2, .int (J f)), (3, .int (J v)), (4, .int (J g)), (5, .int (J n))] := hl
  obtain ⟨⟨hN, hBr, hBu, hIn, hLa, hPc⟩, hDk, hPg⟩ := id hV
  refine r_iload_n hC hl dX6_copy_0 1 rfl ?_
  refine r_cSi hC hI hl [.int (J w)] [] (c_X6_isSheet l X a B S w (by omega)) ml_RX6_222 es_X6_isSheet ⟨Nat.le_of_ble_eq_true rfl, Nat.le_of_ble_eq_true rfl⟩ ⟨Nat.zero_le _, Nat.zero_le _⟩ (Nat.le_of_ble_eq_true rfl) rfl dX6_copy_1 (fun H locs hI => ?_)
  refine r_b_eq (tgt := 14) hC dX6_copy_4 (by decide) (fun c_1 => ?_) (fun c_1 => ?_)
  · skip
    refine r_aload_n hC hl dX6_copy_14 0 rfl ?_
    refine r_iconst hC dX6_copy_15 ?_
    refine r_cVi hC hI hl [.int (J 0)] [] (c_X6_found l X a B S 0 (by omega)) ml_RX6_48 ev_X6_found (rc_in (S := S) hC hI) ⟨Nat.le_of_ble_eq_true rfl, Nat.le_of_ble_eq_true rfl⟩ ⟨Nat.zero_le _, Nat.zero_le _⟩ (Nat.le_of_ble_eq_true rfl) rfl dX6_copy_16 (fun H locs hI => ?_)
    exact r_iret hC hr hlk hI (an_f 0 (by (repeat' split) <;> first | rfl | omega)) (fn_f 0 (by (repeat' split) <;> first | rfl | omega)) dX6_copy_19
  · skip
    refine r_iload_n hC hl dX6_copy_7 3 rfl ?_
    refine r_cSi hC hI hl [.int (J v)] [] (c_X6_isSheet l X a B S v (by omega)) ml_RX6_222 es_X6_isSheet ⟨Nat.le_of_ble_eq_true rfl, Nat.le_of_ble_eq_true rfl⟩ ⟨Nat.zero_le _, Nat.zero_le _⟩ (Nat.le_of_ble_eq_true rfl) rfl dX6_copy_8 (fun H locs hI => ?_)
    refine r_b_ne (tgt := 20) hC dX6_copy_11 (by decide) (fun c_2 => ?_) (fun c_2 => ?_)
    · skip
      refine r_aload_n hC hl dX6_copy_20 0 rfl ?_
      refine g_in  (v := .ref (a (6))) hC hI 5 (by decide) fl_RX6_35 rfl rfl dX6_copy_21 ?_
      refine r_iload_n hC hl dX6_copy_24 1 rfl ?_
      refine r_sald (cx := 6) (n := 4) (f := fun i => a (17 + i)) hC hI (by decide) rfl (by decide) ((w).toNat) (by omega) (by omega) dX6_copy_25 ?_
      obtain ⟨hb4w, hlenw, hVLw⟩ := hSh w.toNat (by omega)
      obtain ⟨hb4v, hlenv, hVLv⟩ := hSh v.toNat (by omega)
      refine r_cVi hC hI hl [] [] (c_X3_isMissing l X a B S ((w).toNat) (by omega) (hSh _ (by omega)).1) ml_RX6_232 ev_X3_isMissing (rc_sh (S := S) hC hI (by omega)) ⟨Nat.le_of_ble_eq_true rfl, Nat.le_of_ble_eq_true rfl⟩ ⟨Nat.zero_le _, Nat.zero_le _⟩ (Nat.le_of_ble_eq_true rfl) rfl dX6_copy_26 (fun H locs hI => ?_)
      refine r_b_ne (tgt := 44) hC dX6_copy_29 (by decide) (fun c_3 => ?_) (fun c_3 => ?_)
      · skip
        refine r_aload_n hC hl dX6_copy_44 0 rfl ?_
        refine r_iconst hC dX6_copy_45 ?_
        refine r_cVi hC hI hl [.int (J 5)] [] (c_X6_found l X a B S 5 (by omega)) ml_RX6_48 ev_X6_found (rc_in (S := S) hC hI) ⟨Nat.le_of_ble_eq_true rfl, Nat.le_of_ble_eq_true rfl⟩ ⟨Nat.zero_le _, Nat.zero_le _⟩ (Nat.le_of_ble_eq_true rfl) rfl dX6_copy_46 (fun H locs hI => ?_)
        exact r_iret hC hr hlk hI (an_f 5 (by (repeat' split) <;> first | rfl | omega)) (fn_f 5 (by (repeat' split) <;> first | rfl | omega)) dX6_copy_49
      · skip
        refine r_aload_n hC hl dX6_copy_32 0 rfl ?_
        refine g_in  (v := .ref (a (6))) hC hI 5 (by decide) fl_RX6_35 rfl rfl dX6_copy_33 ?_
        refine r_iload_n hC hl dX6_copy_36 3 rfl ?_
        refine r_sald (cx := 6) (n := 4) (f := fun i => a (17 + i)) hC hI (by decide) rfl (by decide) ((v).toNat) (by omega) (by omega) dX6_copy_37 ?_
        refine r_cVi hC hI hl [] [] (c_X3_isMissing l X a B S ((v).toNat) (by omega) (hSh _ (by omega)).1) ml_RX6_232 ev_X3_isMissing (rc_sh (S := S) hC hI (by omega)) ⟨Nat.le_of_ble_eq_true rfl, Nat.le_of_ble_eq_true rfl⟩ ⟨Nat.zero_le _, Nat.zero_le _⟩ (Nat.le_of_ble_eq_true rfl) rfl dX6_copy_38 (fun H locs hI => ?_)
        refine r_b_eq (tgt := 50) hC dX6_copy_41 (by decide) (fun c_4 => ?_) (fun c_4 => ?_)
        · skip
          refine r_aload_n hC hl dX6_copy_50 0 rfl ?_
          refine g_in  (v := .ref (a (6))) hC hI 5 (by decide) fl_RX6_35 rfl rfl dX6_copy_51 ?_
          refine r_iload_n hC hl dX6_copy_54 1 rfl ?_
          refine r_sald (cx := 6) (n := 4) (f := fun i => a (17 + i)) hC hI (by decide) rfl (by decide) ((w).toNat) (by omega) (by omega) dX6_copy_55 ?_
          refine g_sh (i := (w).toNat) (v := .int (J (S 6 ((w).toNat)))) hC hI (by omega) 0 (by decide) fl_RX6_243 rfl rfl dX6_copy_56 ?_
          refine r_aload_n hC hl dX6_copy_59 0 rfl ?_
          refine g_in  (v := .ref (a (6))) hC hI 5 (by decide) fl_RX6_35 rfl rfl dX6_copy_60 ?_
          refine r_iload_n hC hl dX6_copy_63 3 rfl ?_
          refine r_sald (cx := 6) (n := 4) (f := fun i => a (17 + i)) hC hI (by decide) rfl (by decide) ((v).toNat) (by omega) (by omega) dX6_copy_64 ?_
          refine g_sh (i := (v).toNat) (v := .int (J (S 6 ((v).toNat)))) hC hI (by omega) 0 (by decide) fl_RX6_243 rfl rfl dX6_copy_65 ?_
          refine r_icmp_eq (tgt := 77) hC (by omega) (by omega) dX6_copy_68 (by decide) (fun c_5 => ?_) (fun c_5 => ?_)
          · skip
            refine r_aload_n hC hl dX6_copy_77 0 rfl ?_
            refine g_in  (v := .ref (a (6))) hC hI 5 (by decide) fl_RX6_35 rfl rfl dX6_copy_78 ?_
            refine r_iload_n hC hl dX6_copy_81 1 rfl ?_
            refine r_sald (cx := 6) (n := 4) (f := fun i => a (17 + i)) hC hI (by decide) rfl (by decide) ((w).toNat) (by omega) (by omega) dX6_copy_82 ?_
            refine r_iload_n hC hl dX6_copy_83 2 rfl ?_
            refine r_iload hC hl dX6_copy_84 5 rfl ?_
            refine r_cVi hC hI hl [.int (J f), .int (J n)] [] (c_X3_hasRow l X a B S ((w).toNat) f n (by omega) (hSh _ (by omega)).2.1 (by omega) (by omega)) ml_RX6_246 ev_X3_hasRow (rc_sh (S := S) hC hI (by omega)) ⟨Nat.le_of_ble_eq_true rfl, Nat.le_of_ble_eq_true rfl⟩ ⟨Nat.zero_le _, Nat.zero_le _⟩ (Nat.le_of_ble_eq_true rfl) rfl dX6_copy_86 (fun H locs hI => ?_)
            refine r_b_eq (tgt := 108) hC dX6_copy_89 (by decide) (fun c_6 => ?_) (fun c_6 => ?_)
            · skip
              refine r_aload_n hC hl dX6_copy_108 0 rfl ?_
              refine r_iconst hC dX6_copy_109 ?_
              refine r_cVi hC hI hl [.int (J 0)] [] (c_X6_found l X a B S 0 (by omega)) ml_RX6_48 ev_X6_found (rc_in (S := S) hC hI) ⟨Nat.le_of_ble_eq_true rfl, Nat.le_of_ble_eq_true rfl⟩ ⟨Nat.zero_le _, Nat.zero_le _⟩ (Nat.le_of_ble_eq_true rfl) rfl dX6_copy_110 (fun H locs hI => ?_)
              exact r_iret hC hr hlk hI (an_f 0 (by (repeat' split) <;> first | rfl | omega)) (fn_f 0 (by (repeat' split) <;> first | rfl | omega)) dX6_copy_113
            · skip
              refine r_aload_n hC hl dX6_copy_92 0 rfl ?_
              refine g_in  (v := .ref (a (6))) hC hI 5 (by decide) fl_RX6_35 rfl rfl dX6_copy_93 ?_
              refine r_iload_n hC hl dX6_copy_96 3 rfl ?_
              refine r_sald (cx := 6) (n := 4) (f := fun i => a (17 + i)) hC hI (by decide) rfl (by decide) ((v).toNat) (by omega) (by omega) dX6_copy_97 ?_
              refine r_iload hC hl dX6_copy_98 4 rfl ?_
              refine r_iload hC hl dX6_copy_100 5 rfl ?_
              refine r_cVi hC hI hl [.int (J g), .int (J n)] [] (c_X3_hasRow l X a B S ((v).toNat) g n (by omega) (hSh _ (by omega)).2.1 (by omega) (by omega)) ml_RX6_246 ev_X3_hasRow (rc_sh (S := S) hC hI (by omega)) ⟨Nat.le_of_ble_eq_true rfl, Nat.le_of_ble_eq_true rfl⟩ ⟨Nat.zero_le _, Nat.zero_le _⟩ (Nat.le_of_ble_eq_true rfl) rfl dX6_copy_102 (fun H locs hI => ?_)
              refine r_b_ne (tgt := 114) hC dX6_copy_105 (by decide) (fun c_7 => ?_) (fun c_7 => ?_)
              · skip
                refine r_aload_n hC hl dX6_copy_114 0 rfl ?_
                refine g_in  (v := .ref (a (6))) hC hI 5 (by decide) fl_RX6_35 rfl rfl dX6_copy_115 ?_
                refine r_iload_n hC hl dX6_copy_118 1 rfl ?_
                refine r_sald (cx := 6) (n := 4) (f := fun i => a (17 + i)) hC hI (by decide) rfl (by decide) ((w).toNat) (by omega) (by omega) dX6_copy_119 ?_
                refine g_sh (i := (w).toNat) (v := .ref (a (21 + ((w).toNat)))) hC hI (by omega) 2 (by decide) fl_RX6_235 rfl rfl dX6_copy_120 ?_
                refine r_iload_n hC hl dX6_copy_123 2 rfl ?_
                refine r_aload_n hC hl dX6_copy_124 0 rfl ?_
                refine g_in  (v := .ref (a (6))) hC hI 5 (by decide) fl_RX6_35 rfl rfl dX6_copy_125 ?_
                refine r_iload_n hC hl dX6_copy_128 3 rfl ?_
                refine r_sald (cx := 6) (n := 4) (f := fun i => a (17 + i)) hC hI (by decide) rfl (by decide) ((v).toNat) (by omega) (by omega) dX6_copy_129 ?_
                refine g_sh (i := (v).toNat) (v := .ref (a (21 + ((v).toNat)))) hC hI (by omega) 2 (by decide) fl_RX6_235 rfl rfl dX6_copy_130 ?_
                refine r_iload hC hl dX6_copy_133 4 rfl ?_
                refine r_iload hC hl dX6_copy_135 5 rfl ?_
                refine r_cpL hC hI hl (t1 := (w).toNat) (t2 := (v).toNat) (by omega) (by omega) ((f).toNat) ((g).toNat) ((n).toNat) (by omega) (by omega) (by omega) (by omega) (by omega) ml_RX6_249 ⟨Nat.le_of_ble_eq_true rfl, Nat.le_of_ble_eq_true rfl⟩ dX6_copy_137 (fun H locs hI => ?_)
                refine r_iload hC hl dX6_copy_140 5 rfl ?_
                exact r_iret hC hr hlk hI (an_n (by (repeat' split) <;> first | rfl | omega) rfl) (fn_n (by (repeat' split) <;> first | rfl | omega) rfl) dX6_copy_142
              · skip
                refine r_aload_n hC hl dX6_copy_108 0 rfl ?_
                refine r_iconst hC dX6_copy_109 ?_
                refine r_cVi hC hI hl [.int (J 0)] [] (c_X6_found l X a B S 0 (by omega)) ml_RX6_48 ev_X6_found (rc_in (S := S) hC hI) ⟨Nat.le_of_ble_eq_true rfl, Nat.le_of_ble_eq_true rfl⟩ ⟨Nat.zero_le _, Nat.zero_le _⟩ (Nat.le_of_ble_eq_true rfl) rfl dX6_copy_110 (fun H locs hI => ?_)
                exact r_iret hC hr hlk hI (an_f 0 (by (repeat' split) <;> first | rfl | omega)) (fn_f 0 (by (repeat' split) <;> first | rfl | omega)) dX6_copy_113
          · skip
            refine r_aload_n hC hl dX6_copy_71 0 rfl ?_
            refine r_iconst hC dX6_copy_72 ?_
            refine r_cVi hC hI hl [.int (J 2)] [] (c_X6_found l X a B S 2 (by omega)) ml_RX6_48 ev_X6_found (rc_in (S := S) hC hI) ⟨Nat.le_of_ble_eq_true rfl, Nat.le_of_ble_eq_true rfl⟩ ⟨Nat.zero_le _, Nat.zero_le _⟩ (Nat.le_of_ble_eq_true rfl) rfl dX6_copy_73 (fun H locs hI => ?_)
            exact r_iret hC hr hlk hI (an_f 2 (by (repeat' split) <;> first | rfl | omega)) (fn_f 2 (by (repeat' split) <;> first | rfl | omega)) dX6_copy_76
        · skip
          refine r_aload_n hC hl dX6_copy_44 0 rfl ?_
          refine r_iconst hC dX6_copy_45 ?_
          refine r_cVi hC hI hl [.int (J 5)] [] (c_X6_found l X a B S 5 (by omega)) ml_RX6_48 ev_X6_found (rc_in (S := S) hC hI) ⟨Nat.le_of_ble_eq_true rfl, Nat.le_of_ble_eq_true rfl⟩ ⟨Nat.zero_le _, Nat.zero_le _⟩ (Nat.le_of_ble_eq_true rfl) rfl dX6_copy_46 (fun H locs hI => ?_)
          exact r_iret hC hr hlk hI (an_f 5 (by (repeat' split) <;> first | rfl | omega)) (fn_f 5 (by (repeat' split) <;> first | rfl | omega)) dX6_copy_49
    · skip
      refine r_aload_n hC hl dX6_copy_14 0 rfl ?_
      refine r_iconst hC dX6_copy_15 ?_
      refine r_cVi hC hI hl [.int (J 0)] [] (c_X6_found l X a B S 0 (by omega)) ml_RX6_48 ev_X6_found (rc_in (S := S) hC hI) ⟨Nat.le_of_ble_eq_true rfl, Nat.le_of_ble_eq_true rfl⟩ ⟨Nat.zero_le _, Nat.zero_le _⟩ (Nat.le_of_ble_eq_true rfl) rfl dX6_copy_16 (fun H locs hI => ?_)
      exact r_iret hC hr hlk hI (an_f 0 (by (repeat' split) <;> first | rfl | omega)) (fn_f 0 (by (repeat' split) <;> first | rfl | omega)) dX6_copy_19

set_option maxHeartbeats 4000000 in
set_option maxRecDepth 100000 in
theorem c_X6_lays (l : Launch) (X : XT) (a : Nat → Nat) (B : Nat) (S : St) (w : Int) (hV : VR 9999 (S 0)) (hw : -2147483648 ≤ w ∧ w ≤ 2147483647) (hSh : ∀ t, t < 4 → (S 6 t = 0 ∨ S 6 t = 8 ∨ S 6 t = 16 ∨ S 6 t = 64) ∧ (0 ≤ S 7 t ∧ S 7 t ≤ 40) ∧ ∀ j, j < 40 → -9223372036854775808 ≤ S (12 + t) j ∧ S (12 + t) j ≤ 9223372036854775807) : CT l X a B 2 yX6_lays cX6_lays 2 (some .int) [.ref (a (0)), .int (J w)] S (Qi X a B (anF (if ¬ (0 ≤ w ∧ w ≤ 3) then 0 else if S 6 w.toNat = 0 then 5 else -1) (sumF (fun j => bI (0 ≤ S (12 + w.toNat) j ∧ S (12 + w.toNat) j ≤ 99)) (min (S 0 5).toNat (S 7 w.toNat).toNat))) (fnF S 3 (if ¬ (0 ≤ w ∧ w ≤ 3) then 0 else if S 6 w.toNat = 0 then 5 else -1) (setB S 0 (bkQ (S 0) (S (12 + w.toNat)) (min (S 0 5).toNat (S 7 w.toNat).toNat))))) := by
  refine CT.of (by decide +kernel) (Nat.le_of_ble_eq_true rfl) ?_
  intro p e s m below meth c ls hC hr hlk hI hl
  have hC : Cx p c cX6_lays 2 s m [.ref (a (0)), .int (J w)].toArray RX6 X B := hC
  have hl : lv_has ls 2 [(0, .ref (a (0))), (1, .int (J w))] := hl
  obtain ⟨⟨hN, hBr, hBu, hIn, hLa, hPc⟩, hDk, hPg⟩ := id hV
  refine r_iload_n hC hl dX6_lays_0 1 rfl ?_
  refine r_cSi hC hI hl [.int (J w)] [] (c_X6_isSheet l X a B S w (by omega)) ml_RX6_222 es_X6_isSheet ⟨Nat.le_of_ble_eq_true rfl, Nat.le_of_ble_eq_true rfl⟩ ⟨Nat.zero_le _, Nat.zero_le _⟩ (Nat.le_of_ble_eq_true rfl) rfl dX6_lays_1 (fun H locs hI => ?_)
  refine r_b_ne (tgt := 13) hC dX6_lays_4 (by decide) (fun c_1 => ?_) (fun c_1 => ?_)
  · skip
    refine r_aload_n hC hl dX6_lays_13 0 rfl ?_
    refine g_in  (v := .ref (a (6))) hC hI 5 (by decide) fl_RX6_35 rfl rfl dX6_lays_14 ?_
    refine r_iload_n hC hl dX6_lays_17 1 rfl ?_
    refine r_sald (cx := 6) (n := 4) (f := fun i => a (17 + i)) hC hI (by decide) rfl (by decide) ((w).toNat) (by omega) (by omega) dX6_lays_18 ?_
    obtain ⟨hb4w, hlenw, hVLw⟩ := hSh w.toNat (by omega)
    refine r_cVi hC hI hl [] [] (c_X3_isMissing l X a B S ((w).toNat) (by omega) (hSh _ (by omega)).1) ml_RX6_232 ev_X3_isMissing (rc_sh (S := S) hC hI (by omega)) ⟨Nat.le_of_ble_eq_true rfl, Nat.le_of_ble_eq_true rfl⟩ ⟨Nat.zero_le _, Nat.zero_le _⟩ (Nat.le_of_ble_eq_true rfl) rfl dX6_lays_19 (fun H locs hI => ?_)
    refine r_b_eq (tgt := 31) hC dX6_lays_22 (by decide) (fun c_2 => ?_) (fun c_2 => ?_)
    · skip
      refine r_aload_n hC hl dX6_lays_31 0 rfl ?_
      refine g_in  (v := .ref (a (2 + 0))) hC hI 1 (by decide) fl_RX6_16 rfl rfl dX6_lays_32 ?_
      refine r_aload_n hC hl dX6_lays_35 0 rfl ?_
      refine g_in  (v := .ref (a (6))) hC hI 5 (by decide) fl_RX6_35 rfl rfl dX6_lays_36 ?_
      refine r_iload_n hC hl dX6_lays_39 1 rfl ?_
      refine r_sald (cx := 6) (n := 4) (f := fun i => a (17 + i)) hC hI (by decide) rfl (by decide) ((w).toNat) (by omega) (by omega) dX6_lays_40 ?_
      refine r_cVi hC hI hl [.ref (a (17 + ((w).toNat)))] [] (c_X2_blacken l X a B S 0 ((w).toNat) (by omega) (by omega) hV (hSh _ (by omega)).2.1 (hSh _ (by omega)).2.2) ml_RX6_255 ev_X2_blacken (rc_sc (S := S) hC hI (by decide)) ⟨Nat.le_of_ble_eq_true rfl, Nat.le_of_ble_eq_true rfl⟩ ⟨Nat.zero_le _, Nat.zero_le _⟩ (Nat.le_of_ble_eq_true rfl) rfl dX6_lays_41 (fun H locs hI => ?_)
      exact r_iret hC hr hlk hI (an_n (by (repeat' split) <;> first | rfl | omega) (rfl)) (fn_n (by (repeat' split) <;> first | rfl | omega) (rfl)) dX6_lays_44
    · skip
      refine r_aload_n hC hl dX6_lays_25 0 rfl ?_
      refine r_iconst hC dX6_lays_26 ?_
      refine r_cVi hC hI hl [.int (J 5)] [] (c_X6_found l X a B S 5 (by omega)) ml_RX6_48 ev_X6_found (rc_in (S := S) hC hI) ⟨Nat.le_of_ble_eq_true rfl, Nat.le_of_ble_eq_true rfl⟩ ⟨Nat.zero_le _, Nat.zero_le _⟩ (Nat.le_of_ble_eq_true rfl) rfl dX6_lays_27 (fun H locs hI => ?_)
      exact r_iret hC hr hlk hI (an_f 5 (by (repeat' split) <;> first | rfl | omega)) (fn_f 5 (by (repeat' split) <;> first | rfl | omega)) dX6_lays_30
  · skip
    refine r_aload_n hC hl dX6_lays_7 0 rfl ?_
    refine r_iconst hC dX6_lays_8 ?_
    refine r_cVi hC hI hl [.int (J 0)] [] (c_X6_found l X a B S 0 (by omega)) ml_RX6_48 ev_X6_found (rc_in (S := S) hC hI) ⟨Nat.le_of_ble_eq_true rfl, Nat.le_of_ble_eq_true rfl⟩ ⟨Nat.zero_le _, Nat.zero_le _⟩ (Nat.le_of_ble_eq_true rfl) rfl dX6_lays_9 (fun H locs hI => ?_)
    exact r_iret hC hr hlk hI (an_f 0 (by (repeat' split) <;> first | rfl | omega)) (fn_f 0 (by (repeat' split) <;> first | rfl | omega)) dX6_lays_12

set_option maxHeartbeats 4000000 in
set_option maxRecDepth 100000 in
theorem c_X6_read (l : Launch) (X : XT) (a : Nat → Nat) (B : Nat) (S : St) (w : Int) (v : Int) (hV : VR 9999 (S 0)) (hw : -2147483648 ≤ w ∧ w ≤ 2147483647) (hv : -2147483648 ≤ v ∧ v ≤ 2147483647) (hSh : ∀ t, t < 4 → (S 6 t = 0 ∨ S 6 t = 8 ∨ S 6 t = 16 ∨ S 6 t = 64) ∧ (0 ≤ S 7 t ∧ S 7 t ≤ 40) ∧ ∀ j, j < 40 → -9223372036854775808 ≤ S (12 + t) j ∧ S (12 + t) j ≤ 9223372036854775807) : CT l X a B 4 yX6_read cX6_read 3 (some .int) [.ref (a (0)), .int (J w), .int (J v)] S (Qi X a B (anF (if ¬ (0 ≤ w ∧ w ≤ 3) then 0 else if S 6 w.toNat = 0 then 5 else if ¬ (0 ≤ v ∧ v < S 0 5) then 0 else -1) (sumF (fun q => sumF (fun r => bI (tlP (S (12 + w.toNat)) (S 7 w.toNat).toNat (r : Int) (fdF (q : Int) (S 0 (21 + 5 * v.toNat)) (S 0 (22 + 5 * v.toNat))))) 100) 6)) (fnF S 3 (if ¬ (0 ≤ w ∧ w ≤ 3) then 0 else if S 6 w.toNat = 0 then 5 else if ¬ (0 ≤ v ∧ v < S 0 5) then 0 else -1) (S))) := by
  refine CT.of (by decide +kernel) (Nat.le_of_ble_eq_true rfl) ?_
  intro p e s m below meth c ls hC hr hlk hI hl
  have hC : Cx p c cX6_read 3 s m [.ref (a (0)), .int (J w), .int (J v)].toArray RX6 X B := hC
  have hl : lv_has ls 3 [(0, .ref (a (0))), (1, .int (J w)), (2, .int (J v))] := hl
  obtain ⟨⟨hN, hBr, hBu, hIn, hLa, hPc⟩, hDk, hPg⟩ := id hV
  refine r_iload_n hC hl dX6_read_0 1 rfl ?_
  refine r_cSi hC hI hl [.int (J w)] [] (c_X6_isSheet l X a B S w (by omega)) ml_RX6_222 es_X6_isSheet ⟨Nat.le_of_ble_eq_true rfl, Nat.le_of_ble_eq_true rfl⟩ ⟨Nat.zero_le _, Nat.zero_le _⟩ (Nat.le_of_ble_eq_true rfl) rfl dX6_read_1 (fun H locs hI => ?_)
  refine r_b_ne (tgt := 13) hC dX6_read_4 (by decide) (fun c_1 => ?_) (fun c_1 => ?_)
  · skip
    refine r_aload_n hC hl dX6_read_13 0 rfl ?_
    refine g_in  (v := .ref (a (6))) hC hI 5 (by decide) fl_RX6_35 rfl rfl dX6_read_14 ?_
    refine r_iload_n hC hl dX6_read_17 1 rfl ?_
    refine r_sald (cx := 6) (n := 4) (f := fun i => a (17 + i)) hC hI (by decide) rfl (by decide) ((w).toNat) (by omega) (by omega) dX6_read_18 ?_
    obtain ⟨hb4w, hlenw, hVLw⟩ := hSh w.toNat (by omega)
    refine r_cVi hC hI hl [] [] (c_X3_isMissing l X a B S ((w).toNat) (by omega) (hSh _ (by omega)).1) ml_RX6_232 ev_X3_isMissing (rc_sh (S := S) hC hI (by omega)) ⟨Nat.le_of_ble_eq_true rfl, Nat.le_of_ble_eq_true rfl⟩ ⟨Nat.zero_le _, Nat.zero_le _⟩ (Nat.le_of_ble_eq_true rfl) rfl dX6_read_19 (fun H locs hI => ?_)
    refine r_b_eq (tgt := 31) hC dX6_read_22 (by decide) (fun c_2 => ?_) (fun c_2 => ?_)
    · skip
      refine r_aload_n hC hl dX6_read_31 0 rfl ?_
      refine g_in  (v := .ref (a (2 + 0))) hC hI 1 (by decide) fl_RX6_16 rfl rfl dX6_read_32 ?_
      refine r_iload_n hC hl dX6_read_35 2 rfl ?_
      refine r_cVi hC hI hl [.int (J v)] [] (c_X2_hasPage l X a B S 0 v (by omega) (by omega) (by omega)) ml_RX6_107 ev_X2_hasPage (rc_sc (S := S) hC hI (by decide)) ⟨Nat.le_of_ble_eq_true rfl, Nat.le_of_ble_eq_true rfl⟩ ⟨Nat.zero_le _, Nat.zero_le _⟩ (Nat.le_of_ble_eq_true rfl) rfl dX6_read_36 (fun H locs hI => ?_)
      refine r_b_ne (tgt := 48) hC dX6_read_39 (by decide) (fun c_3 => ?_) (fun c_3 => ?_)
      · skip
        refine r_aload_n hC hl dX6_read_48 0 rfl ?_
        refine g_in  (v := .ref (a (2 + 0))) hC hI 1 (by decide) fl_RX6_16 rfl rfl dX6_read_49 ?_
        refine g_sc (k1 := 0) (v := .ref (a (11 + 0))) hC hI (by decide) 7 (by decide) fl_RX6_110 rfl rfl dX6_read_52 ?_
        refine r_iload_n hC hl dX6_read_55 2 rfl ?_
        have hvp := hPg v.toNat (by omega)
        obtain ⟨h18, h19, h20, h21, h22⟩ := id hvp
        refine r_pald (cx := 11 + 0) hC hI (by omega) (ce_pa X a _ (by decide)) (by decide) ((v).toNat) (by omega) (by omega) dX6_read_56 ?_
        refine r_aload_n hC hl dX6_read_57 0 rfl ?_
        refine g_in  (v := .ref (a (6))) hC hI 5 (by decide) fl_RX6_35 rfl rfl dX6_read_58 ?_
        refine r_iload_n hC hl dX6_read_61 1 rfl ?_
        refine r_sald (cx := 6) (n := 4) (f := fun i => a (17 + i)) hC hI (by decide) rfl (by decide) ((w).toNat) (by omega) (by omega) dX6_read_62 ?_
        refine r_cVi hC hI hl [.ref (a (17 + ((w).toNat)))] [] (c_X1_waysToFadeAs l X a B S 0 ((v).toNat) ((w).toNat) (by omega) (by omega) (by omega) hvp (hSh _ (by omega)).2.1 (hSh _ (by omega)).2.2) ml_RX6_259 ev_X1_waysToFadeAs (rc_pg (S := S) hC hI (by decide) (by omega)) ⟨Nat.le_of_ble_eq_true rfl, Nat.le_of_ble_eq_true rfl⟩ ⟨Nat.zero_le _, Nat.zero_le _⟩ (Nat.le_of_ble_eq_true rfl) rfl dX6_read_63 (fun H locs hI => ?_)
        exact r_iret hC hr hlk hI (an_n (by (repeat' split) <;> first | rfl | omega) (rfl)) (fn_n (by (repeat' split) <;> first | rfl | omega) (rfl)) dX6_read_66
      · skip
        refine r_aload_n hC hl dX6_read_42 0 rfl ?_
        refine r_iconst hC dX6_read_43 ?_
        refine r_cVi hC hI hl [.int (J 0)] [] (c_X6_found l X a B S 0 (by omega)) ml_RX6_48 ev_X6_found (rc_in (S := S) hC hI) ⟨Nat.le_of_ble_eq_true rfl, Nat.le_of_ble_eq_true rfl⟩ ⟨Nat.zero_le _, Nat.zero_le _⟩ (Nat.le_of_ble_eq_true rfl) rfl dX6_read_44 (fun H locs hI => ?_)
        exact r_iret hC hr hlk hI (an_f 0 (by (repeat' split) <;> first | rfl | omega)) (fn_f 0 (by (repeat' split) <;> first | rfl | omega)) dX6_read_47
    · skip
      refine r_aload_n hC hl dX6_read_25 0 rfl ?_
      refine r_iconst hC dX6_read_26 ?_
      refine r_cVi hC hI hl [.int (J 5)] [] (c_X6_found l X a B S 5 (by omega)) ml_RX6_48 ev_X6_found (rc_in (S := S) hC hI) ⟨Nat.le_of_ble_eq_true rfl, Nat.le_of_ble_eq_true rfl⟩ ⟨Nat.zero_le _, Nat.zero_le _⟩ (Nat.le_of_ble_eq_true rfl) rfl dX6_read_27 (fun H locs hI => ?_)
      exact r_iret hC hr hlk hI (an_f 5 (by (repeat' split) <;> first | rfl | omega)) (fn_f 5 (by (repeat' split) <;> first | rfl | omega)) dX6_read_30
  · skip
    refine r_aload_n hC hl dX6_read_7 0 rfl ?_
    refine r_iconst hC dX6_read_8 ?_
    refine r_cVi hC hI hl [.int (J 0)] [] (c_X6_found l X a B S 0 (by omega)) ml_RX6_48 ev_X6_found (rc_in (S := S) hC hI) ⟨Nat.le_of_ble_eq_true rfl, Nat.le_of_ble_eq_true rfl⟩ ⟨Nat.zero_le _, Nat.zero_le _⟩ (Nat.le_of_ble_eq_true rfl) rfl dX6_read_9 (fun H locs hI => ?_)
    exact r_iret hC hr hlk hI (an_f 0 (by (repeat' split) <;> first | rfl | omega)) (fn_f 0 (by (repeat' split) <;> first | rfl | omega)) dX6_read_12

def bokF (R O : Nat → Int) (i q : Nat) : Nat → Int := fun j => if j < q then bkP R i (j : Int) else O j
theorem bok_up (R O : Nat → Int) (i q : Nat) : upR (bokF R O i q) q (bkP R i (q : Int)) = bokF R O i (q + 1) := by
  funext j
  unfold upR bokF
  by_cases h : j = q
  · subst h; rw [if_pos rfl, if_pos (by omega)]
  · rw [if_neg h]
    by_cases h2 : j < q
    · rw [if_pos h2, if_pos (by omega)]
    · rw [if_neg h2, if_neg (by omega)]

set_option maxHeartbeats 4000000 in
set_option maxRecDepth 100000 in
theorem c_X6_book (l : Launch) (X : XT) (a : Nat → Nat) (B : Nat) (S : St) (w : Int) (v : Int) (hV : VR 9999 (S 0)) (hw : -2147483648 ≤ w ∧ w ≤ 2147483647) (hv : -2147483648 ≤ v ∧ v ≤ 2147483647) (hSh : ∀ t, t < 4 → (S 6 t = 0 ∨ S 6 t = 8 ∨ S 6 t = 16 ∨ S 6 t = 64) ∧ (0 ≤ S 7 t ∧ S 7 t ≤ 40) ∧ ∀ j, j < 40 → -9223372036854775808 ≤ S (12 + t) j ∧ S (12 + t) j ≤ 9223372036854775807) : CT l X a B 3 yX6_book cX6_book 4 (some .int) [.ref (a (0)), .int (J w), .int (J v)] S (Qi X a B (anF (if ¬ (0 ≤ w ∧ w ≤ 3) then 0 else if S 6 w.toNat = 0 then 5 else if ¬ (0 ≤ v ∧ v < S 0 5) then 0 else -1) (S 7 w.toNat)) (fnF S 3 (if ¬ (0 ≤ w ∧ w ≤ 3) then 0 else if S 6 w.toNat = 0 then 5 else if ¬ (0 ≤ v ∧ v < S 0 5) then 0 else -1) (setB S (12 + w.toNat) (bokF (S 0) (S (12 + w.toNat)) v.toNat (S 7 w.toNat).toNat)))) := by
  refine CT.of (by decide +kernel) (Nat.le_of_ble_eq_true rfl) ?_
  intro p e s m below meth c ls hC hr hlk hI hl
  have hC : Cx p c cX6_book 4 s m [.ref (a (0)), .int (J w), .int (J v)].toArray RX6 X B := hC
  have hl : lv_has ls 4 [(0, .ref (a (0))), (1, .int (J w)), (2, .int (J v))] := hl
  obtain ⟨⟨hN, hBr, hBu, hIn, hLa, hPc⟩, hDk, hPg⟩ := id hV
  refine r_iload_n hC hl dX6_book_0 1 rfl ?_
  refine r_cSi hC hI hl [.int (J w)] [] (c_X6_isSheet l X a B S w (by omega)) ml_RX6_222 es_X6_isSheet ⟨Nat.le_of_ble_eq_true rfl, Nat.le_of_ble_eq_true rfl⟩ ⟨Nat.zero_le _, Nat.zero_le _⟩ (Nat.le_of_ble_eq_true rfl) rfl dX6_book_1 (fun H locs hI => ?_)
  refine r_b_ne (tgt := 13) hC dX6_book_4 (by decide) (fun c_1 => ?_) (fun c_1 => ?_)
  · skip
    refine r_aload_n hC hl dX6_book_13 0 rfl ?_
    refine g_in  (v := .ref (a (6))) hC hI 5 (by decide) fl_RX6_35 rfl rfl dX6_book_14 ?_
    refine r_iload_n hC hl dX6_book_17 1 rfl ?_
    refine r_sald (cx := 6) (n := 4) (f := fun i => a (17 + i)) hC hI (by decide) rfl (by decide) ((w).toNat) (by omega) (by omega) dX6_book_18 ?_
    obtain ⟨hb4w, hlenw, hVLw⟩ := hSh w.toNat (by omega)
    refine r_cVi hC hI hl [] [] (c_X3_isMissing l X a B S ((w).toNat) (by omega) (hSh _ (by omega)).1) ml_RX6_232 ev_X3_isMissing (rc_sh (S := S) hC hI (by omega)) ⟨Nat.le_of_ble_eq_true rfl, Nat.le_of_ble_eq_true rfl⟩ ⟨Nat.zero_le _, Nat.zero_le _⟩ (Nat.le_of_ble_eq_true rfl) rfl dX6_book_19 (fun H locs hI => ?_)
    refine r_b_eq (tgt := 31) hC dX6_book_22 (by decide) (fun c_2 => ?_) (fun c_2 => ?_)
    · skip
      refine r_aload_n hC hl dX6_book_31 0 rfl ?_
      refine g_in  (v := .ref (a (2 + 0))) hC hI 1 (by decide) fl_RX6_16 rfl rfl dX6_book_32 ?_
      refine r_iload_n hC hl dX6_book_35 2 rfl ?_
      refine r_cVi hC hI hl [.int (J v)] [] (c_X2_hasPage l X a B S 0 v (by omega) (by omega) (by omega)) ml_RX6_107 ev_X2_hasPage (rc_sc (S := S) hC hI (by decide)) ⟨Nat.le_of_ble_eq_true rfl, Nat.le_of_ble_eq_true rfl⟩ ⟨Nat.zero_le _, Nat.zero_le _⟩ (Nat.le_of_ble_eq_true rfl) rfl dX6_book_36 (fun H locs hI => ?_)
      refine r_b_ne (tgt := 48) hC dX6_book_39 (by decide) (fun c_3 => ?_) (fun c_3 => ?_)
      · skip
        have hvp := hPg v.toNat (by omega)
        obtain ⟨h18, h19, h20, h21, h22⟩ := id hvp
        refine r_iconst hC dX6_book_48 ?_
        refine r_istore_n (lv1 := [(3, .int (J 0)), (0, .ref (a (0))), (1, .int (J w)), (2, .int (J v))]) hC hl dX6_book_49 3 rfl (by decide) rfl (fun ls hl => ?_)
        have hL50 : ∀ (fu : Nat) (q : Nat) (T : St) (x3 : Int), (S 7 w.toNat).toNat - q < fu → (x3 = (q : Int)) → (q ≤ (S 7 w.toNat).toNat) → (T = setB S (12 + w.toNat) (bokF (S 0) (S (12 + w.toNat)) v.toNat q)) → ∀ (H : Heap) (locs : List Loc) (ls : Array Slot), IS X a B s (T) H locs → lv_has ls 4 [(3, .int (J x3)), (0, .ref (a (0))), (1, .int (J w)), (2, .int (J v))] → W p l e (rmD 3) s m [.ref (a (0)), .int (J w), .int (J v)].toArray below meth c H locs 0 0 (MQ below (Qi X a B (anF (if ¬ (0 ≤ w ∧ w ≤ 3) then 0 else if S 6 w.toNat = 0 then 5 else if ¬ (0 ≤ v ∧ v < S 0 5) then 0 else -1) (S 7 w.toNat)) (fnF S 3 (if ¬ (0 ≤ w ∧ w ≤ 3) then 0 else if S 6 w.toNat = 0 then 5 else if ¬ (0 ≤ v ∧ v < S 0 5) then 0 else -1) (setB S (12 + w.toNat) (bokF (S 0) (S (12 + w.toNat)) v.toNat (S 7 w.toNat).toNat)))) [.ref (a (0)), .int (J w), .int (J v)].toArray s 0 0 (fun q => B ≤ q)) (F0 m 50 ls []) := by
          intro fu
          induction fu with
          | zero => intro q T x3 hm; exact absurd hm (Nat.not_lt_zero _)
          | succ fu ih50 =>
            intro q T x3 hm e3 hq hT H locs ls hI hl
            subst e3
            have hT0 : T 0 = S 0 := by rw [hT, setB_ne _ _ (by omega)]
            have e7 : T 7 w.toNat = S 7 w.toNat := by rw [hT, setB_ne _ _ (by omega)]
            have hvpT : VP (T 0) v.toNat := by rw [hT0]; exact hvp
            have e5 : T 0 5 = S 0 5 := by rw [hT0]
            refine r_iload_n hC hl dX6_book_50 0 rfl ?_
            refine r_aload_n hC hl dX6_book_51 1 rfl ?_
            refine g_in  (v := .ref (a (6))) hC hI 5 (by decide) fl_RX6_35 rfl rfl dX6_book_52 ?_
            refine r_iload_n hC hl dX6_book_55 2 rfl ?_
            refine r_sald (cx := 6) (n := 4) (f := fun i => a (17 + i)) hC hI (by decide) rfl (by decide) ((w).toNat) (by omega) (by omega) dX6_book_56 ?_
            refine g_sh (i := (w).toNat) (v := .int (J (T 7 ((w).toNat)))) hC hI (by omega) 1 (by decide) fl_RX6_231 rfl rfl dX6_book_57 ?_
            refine r_icmp_ge (tgt := 94) hC (by omega) (by omega) dX6_book_60 (by decide) (fun c_4 => ?_) (fun c_4 => ?_)
            · skip
              refine r_aload_n hC hl dX6_book_94 1 rfl ?_
              refine g_in  (v := .ref (a (6))) hC hI 5 (by decide) fl_RX6_35 rfl rfl dX6_book_95 ?_
              refine r_iload_n hC hl dX6_book_98 2 rfl ?_
              refine r_sald (cx := 6) (n := 4) (f := fun i => a (17 + i)) hC hI (by decide) rfl (by decide) ((w).toNat) (by omega) (by omega) dX6_book_99 ?_
              refine g_sh (i := (w).toNat) (v := .int (J (T 7 ((w).toNat)))) hC hI (by omega) 1 (by decide) fl_RX6_231 rfl rfl dX6_book_100 ?_
              refine r_as (y := S 7 w.toNat) hC e7 ?_
              exact r_iret hC hr hlk hI (an_n (by (repeat' split) <;> first | rfl | omega) (rfl)) (fn_n (by (repeat' split) <;> first | rfl | omega) (by rw [hT, show q = (S 7 w.toNat).toNat by omega])) dX6_book_103
            · skip
              refine r_aload_n hC hl dX6_book_63 1 rfl ?_
              refine g_in  (v := .ref (a (6))) hC hI 5 (by decide) fl_RX6_35 rfl rfl dX6_book_64 ?_
              refine r_iload_n hC hl dX6_book_67 2 rfl ?_
              refine r_sald (cx := 6) (n := 4) (f := fun i => a (17 + i)) hC hI (by decide) rfl (by decide) ((w).toNat) (by omega) (by omega) dX6_book_68 ?_
              refine g_sh (i := (w).toNat) (v := .ref (a (21 + ((w).toNat)))) hC hI (by omega) 2 (by decide) fl_RX6_235 rfl rfl dX6_book_69 ?_
              refine r_iload_n hC hl dX6_book_72 0 rfl ?_
              refine r_aload_n hC hl dX6_book_73 1 rfl ?_
              refine g_in  (v := .ref (a (2 + 0))) hC hI 1 (by decide) fl_RX6_16 rfl rfl dX6_book_74 ?_
              refine g_sc (k1 := 0) (v := .ref (a (11 + 0))) hC hI (by decide) 7 (by decide) fl_RX6_110 rfl rfl dX6_book_77 ?_
              refine r_iload_n hC hl dX6_book_80 3 rfl ?_
              refine r_pald (cx := 11 + 0) hC hI (by omega) (ce_pa X a _ (by decide)) (by decide) ((v).toNat) (by omega) (by omega) dX6_book_81 ?_
              refine r_iload_n hC hl dX6_book_82 0 rfl ?_
              refine r_cVi hC hI hl [.int (J (q : Int))] [.int (J (q : Int)), .ref (a (21 + ((w).toNat)))] (c_X1_blackOn l X a B T 0 ((v).toNat) (q : Int) (by omega) (by omega) hvpT (by omega)) ml_RX6_173 ev_X1_blackOn (rc_pg (S := T) hC hI (by decide) (by omega)) ⟨Nat.le_of_ble_eq_true rfl, Nat.le_of_ble_eq_true rfl⟩ ⟨Nat.zero_le _, Nat.zero_le _⟩ (Nat.le_of_ble_eq_true rfl) rfl dX6_book_83 (fun H locs hI => ?_)
              have hbk := bk_rg hvpT (n := (q : Int)) (by omega)
              refine r_i2l hC (by omega) dX6_book_86 ?_
              refine r_last (cx := 21 + ((w).toNat)) (n := 40) (F := fun S => S (12 + ((w).toNat))) hC hI (by omega) (fun S => ce_nu X a S (by omega)) (by decide) (q) (by omega) (by omega) (b := 12 + ((w).toNat)) (j := q) (ow_nu (by omega)) (fun q => by simp [up, setB, upR]) dX6_book_87 (fun H locs hI => ?_)
              refine r_iinc (lv1 := [(3, .int (J ((q : Int) + 1))), (0, .ref (a (0))), (1, .int (J w)), (2, .int (J v))]) hC hl dX6_book_88 0 rfl (by decide) rfl (fun ls hl => ?_)
              refine r_goto (tgt := 50) hC dX6_book_91 (by decide) ?_
              exact ih50 (q + 1) (up T (12 + w.toNat) q (bkP (T 0) v.toNat (q : Int))) ((q : Int) + 1) (by omega) (by omega) (by omega) (by rw [hT0, hT, up_set]; exact congrArg _ (bok_up (S 0) (S (12 + w.toNat)) v.toNat q)) _ _ _ hI (lv_sub hl [0, 1, 2, 3] rfl)
        exact hL50 _ 0 S 0 (Nat.lt_succ_self _) (by omega) (by omega) (by rw [show bokF (S 0) (S (12 + w.toNat)) v.toNat 0 = S (12 + w.toNat) from funext fun j => if_neg (Nat.not_lt_zero j), setB_self]) _ _ _ hI (lv_sub hl [0, 1, 2, 3] rfl)
      · skip
        refine r_aload_n hC hl dX6_book_42 0 rfl ?_
        refine r_iconst hC dX6_book_43 ?_
        refine r_cVi hC hI hl [.int (J 0)] [] (c_X6_found l X a B S 0 (by omega)) ml_RX6_48 ev_X6_found (rc_in (S := S) hC hI) ⟨Nat.le_of_ble_eq_true rfl, Nat.le_of_ble_eq_true rfl⟩ ⟨Nat.zero_le _, Nat.zero_le _⟩ (Nat.le_of_ble_eq_true rfl) rfl dX6_book_44 (fun H locs hI => ?_)
        exact r_iret hC hr hlk hI (an_f 0 (by (repeat' split) <;> first | rfl | omega)) (fn_f 0 (by (repeat' split) <;> first | rfl | omega)) dX6_book_47
    · skip
      refine r_aload_n hC hl dX6_book_25 0 rfl ?_
      refine r_iconst hC dX6_book_26 ?_
      refine r_cVi hC hI hl [.int (J 5)] [] (c_X6_found l X a B S 5 (by omega)) ml_RX6_48 ev_X6_found (rc_in (S := S) hC hI) ⟨Nat.le_of_ble_eq_true rfl, Nat.le_of_ble_eq_true rfl⟩ ⟨Nat.zero_le _, Nat.zero_le _⟩ (Nat.le_of_ble_eq_true rfl) rfl dX6_book_27 (fun H locs hI => ?_)
      exact r_iret hC hr hlk hI (an_f 5 (by (repeat' split) <;> first | rfl | omega)) (fn_f 5 (by (repeat' split) <;> first | rfl | omega)) dX6_book_30
  · skip
    refine r_aload_n hC hl dX6_book_7 0 rfl ?_
    refine r_iconst hC dX6_book_8 ?_
    refine r_cVi hC hI hl [.int (J 0)] [] (c_X6_found l X a B S 0 (by omega)) ml_RX6_48 ev_X6_found (rc_in (S := S) hC hI) ⟨Nat.le_of_ble_eq_true rfl, Nat.le_of_ble_eq_true rfl⟩ ⟨Nat.zero_le _, Nat.zero_le _⟩ (Nat.le_of_ble_eq_true rfl) rfl dX6_book_9 (fun H locs hI => ?_)
    exact r_iret hC hr hlk hI (an_f 0 (by (repeat' split) <;> first | rfl | omega)) (fn_f 0 (by (repeat' split) <;> first | rfl | omega)) dX6_book_12

set_option maxHeartbeats 4000000 in
set_option maxRecDepth 100000 in
theorem c_X6_image (l : Launch) (X : XT) (a : Nat → Nat) (B : Nat) (S : St)  (hV : VR 9999 (S 0)) : CT l X a B 4 yX6_image cX6_image 1 (some .int) [.ref (a (0))] S (Qi X a B (anF (-1) (1)) (fnF S 3 (-1) (up (setB S 1 (S 0)) 11 0 1))) := by
  refine CT.of (by decide +kernel) (Nat.le_of_ble_eq_true rfl) ?_
  intro p e s m below meth c ls hC hr hlk hI hl
  have hC : Cx p c cX6_image 1 s m [.ref (a (0))].toArray RX6 X B := hC
  have hl : lv_has ls 1 [(0, .ref (a (0)))] := hl
  obtain ⟨⟨hN, hBr, hBu, hIn, hLa, hPc⟩, hDk, hPg⟩ := id hV
  refine r_aload_n hC hl dX6_image_0 0 rfl ?_
  refine g_in  (v := .ref (a (2 + 1))) hC hI 2 (by decide) fl_RX6_20 rfl rfl dX6_image_1 ?_
  refine r_aload_n hC hl dX6_image_4 0 rfl ?_
  refine g_in  (v := .ref (a (2 + 0))) hC hI 1 (by decide) fl_RX6_16 rfl rfl dX6_image_5 ?_
  refine r_cVv hC hI hl [.ref (a (2 + 0))] [] (c_X2_become l X a B S 1 0 (by omega) (by omega) (by omega)) ml_RX6_212 ev_X2_become (rc_sc (S := S) hC hI (by decide)) ⟨Nat.le_of_ble_eq_true rfl, Nat.le_of_ble_eq_true rfl⟩ ⟨Nat.zero_le _, Nat.zero_le _⟩ (Nat.le_of_ble_eq_true rfl) rfl dX6_image_8 (fun H locs hI => ?_)
  refine r_aload_n hC hl dX6_image_11 0 rfl ?_
  refine r_iconst hC dX6_image_12 ?_
  refine p_in6  hC hI (by decide) fl_RX6_262 dX6_image_13 (fun H locs hI => ?_)
  refine r_iconst hC dX6_image_16 ?_
  exact r_iret hC hr hlk hI (an_n (by (repeat' split) <;> first | rfl | omega) (rfl)) (fn_n (by (repeat' split) <;> first | rfl | omega) (rfl)) dX6_image_17

set_option maxHeartbeats 4000000 in
set_option maxRecDepth 100000 in
theorem c_X6_undo (l : Launch) (X : XT) (a : Nat → Nat) (B : Nat) (S : St)  (hV : VR 9999 (S 0)) (hkp : S 11 0 = 0 ∨ S 11 0 = 1) : CT l X a B 4 yX6_undo cX6_undo 1 (some .int) [.ref (a (0))] S (Qi X a B (anF (if S 11 0 = 0 then 3 else -1) (S 1 5)) (fnF S 3 (if S 11 0 = 0 then 3 else -1) (setB S 0 (S 1)))) := by
  refine CT.of (by decide +kernel) (Nat.le_of_ble_eq_true rfl) ?_
  intro p e s m below meth c ls hC hr hlk hI hl
  have hC : Cx p c cX6_undo 1 s m [.ref (a (0))].toArray RX6 X B := hC
  have hl : lv_has ls 1 [(0, .ref (a (0)))] := hl
  obtain ⟨⟨hN, hBr, hBu, hIn, hLa, hPc⟩, hDk, hPg⟩ := id hV
  refine r_aload_n hC hl dX6_undo_0 0 rfl ?_
  refine g_in  (v := .int (J (S 11 0))) hC hI 6 (by decide) fl_RX6_262 rfl rfl dX6_undo_1 ?_
  refine r_if_ne (tgt := 13) hC (by omega) dX6_undo_4 (by decide) (fun c_1 => ?_) (fun c_1 => ?_)
  · skip
    refine r_aload_n hC hl dX6_undo_13 0 rfl ?_
    refine g_in  (v := .ref (a (2 + 0))) hC hI 1 (by decide) fl_RX6_16 rfl rfl dX6_undo_14 ?_
    refine r_aload_n hC hl dX6_undo_17 0 rfl ?_
    refine g_in  (v := .ref (a (2 + 1))) hC hI 2 (by decide) fl_RX6_20 rfl rfl dX6_undo_18 ?_
    refine r_cVv hC hI hl [.ref (a (2 + 1))] [] (c_X2_become l X a B S 0 1 (by omega) (by omega) (by omega)) ml_RX6_212 ev_X2_become (rc_sc (S := S) hC hI (by decide)) ⟨Nat.le_of_ble_eq_true rfl, Nat.le_of_ble_eq_true rfl⟩ ⟨Nat.zero_le _, Nat.zero_le _⟩ (Nat.le_of_ble_eq_true rfl) rfl dX6_undo_21 (fun H locs hI => ?_)
    refine r_aload_n hC hl dX6_undo_24 0 rfl ?_
    refine g_in  (v := .ref (a (2 + 0))) hC hI 1 (by decide) fl_RX6_16 rfl rfl dX6_undo_25 ?_
    refine g_sc (k1 := 0) (v := .int (J ((setB S 0 (S 1)) 0 5))) hC hI (by decide) 5 (by decide) fl_RX6_266 rfl rfl dX6_undo_28 ?_
    refine r_as (y := S 1 5) hC (by rw [setB_at]) ?_
    exact r_iret hC hr hlk hI (an_n (by (repeat' split) <;> first | rfl | omega) (rfl)) (fn_n (by (repeat' split) <;> first | rfl | omega) (rfl)) dX6_undo_31
  · skip
    refine r_aload_n hC hl dX6_undo_7 0 rfl ?_
    refine r_iconst hC dX6_undo_8 ?_
    refine r_cVi hC hI hl [.int (J 3)] [] (c_X6_found l X a B S 3 (by omega)) ml_RX6_48 ev_X6_found (rc_in (S := S) hC hI) ⟨Nat.le_of_ble_eq_true rfl, Nat.le_of_ble_eq_true rfl⟩ ⟨Nat.zero_le _, Nat.zero_le _⟩ (Nat.le_of_ble_eq_true rfl) rfl dX6_undo_9 (fun H locs hI => ?_)
    exact r_iret hC hr hlk hI (an_f 3 (by (repeat' split) <;> first | rfl | omega)) (fn_f 3 (by (repeat' split) <;> first | rfl | omega)) dX6_undo_12

set_option maxHeartbeats 4000000 in
set_option maxRecDepth 100000 in
theorem c_X6_tear (l : Launch) (X : XT) (a : Nat → Nat) (B : Nat) (S : St)  (hV : VR 9999 (S 0)) (hkp : S 11 0 = 0 ∨ S 11 0 = 1) : CT l X a B 0 yX6_tear cX6_tear 2 (some .int) [.ref (a (0))] S (Qi X a B (anF (-1) (S 11 0)) (fnF S 3 (-1) (up S 11 0 0))) := by
  refine CT.of (by decide +kernel) (Nat.le_of_ble_eq_true rfl) ?_
  intro p e s m below meth c ls hC hr hlk hI hl
  have hC : Cx p c cX6_tear 2 s m [.ref (a (0))].toArray RX6 X B := hC
  have hl : lv_has ls 2 [(0, .ref (a (0)))] := hl
  obtain ⟨⟨hN, hBr, hBu, hIn, hLa, hPc⟩, hDk, hPg⟩ := id hV
  refine r_aload_n hC hl dX6_tear_0 0 rfl ?_
  refine g_in  (v := .int (J (S 11 0))) hC hI 6 (by decide) fl_RX6_262 rfl rfl dX6_tear_1 ?_
  refine r_if_eq (tgt := 11) hC (by omega) dX6_tear_4 (by decide) (fun c_1 => ?_) (fun c_1 => ?_)
  · skip
    refine r_iconst hC dX6_tear_11 ?_
    refine r_istore_n (lv1 := [(1, .int (J 0)), (0, .ref (a (0)))]) hC hl dX6_tear_12 1 rfl (by decide) rfl (fun ls hl => ?_)
    refine r_aload_n hC hl dX6_tear_13 1 rfl ?_
    refine r_iconst hC dX6_tear_14 ?_
    refine p_in6  hC hI (by decide) fl_RX6_262 dX6_tear_15 (fun H locs hI => ?_)
    refine r_iload_n hC hl dX6_tear_18 0 rfl ?_
    exact r_iret hC hr hlk hI (an_n (by (repeat' split) <;> first | rfl | omega) (by omega)) (fn_n (by (repeat' split) <;> first | rfl | omega) (rfl)) dX6_tear_19
  · skip
    refine r_iconst hC dX6_tear_7 ?_
    refine r_goto (tgt := 12) hC dX6_tear_8 (by decide) ?_
    refine r_istore_n (lv1 := [(1, .int (J 1)), (0, .ref (a (0)))]) hC hl dX6_tear_12 1 rfl (by decide) rfl (fun ls hl => ?_)
    refine r_aload_n hC hl dX6_tear_13 1 rfl ?_
    refine r_iconst hC dX6_tear_14 ?_
    refine p_in6  hC hI (by decide) fl_RX6_262 dX6_tear_15 (fun H locs hI => ?_)
    refine r_iload_n hC hl dX6_tear_18 0 rfl ?_
    exact r_iret hC hr hlk hI (an_n (by (repeat' split) <;> first | rfl | omega) (by omega)) (fn_n (by (repeat' split) <;> first | rfl | omega) (rfl)) dX6_tear_19

set_option maxHeartbeats 4000000 in
set_option maxRecDepth 100000 in
theorem c_X6_status (l : Launch) (X : XT) (a : Nat → Nat) (B : Nat) (S : St) (w : Int) (hV : VR 9999 (S 0)) (hw : -2147483648 ≤ w ∧ w ≤ 2147483647) : CT l X a B 2 yX6_status cX6_status 4 (some .int) [.ref (a (0)), .int (J w)] S (Qi X a B (anF (if -1 ≤ w ∧ w ≤ 6 then -1 else 0) (if w < 0 then sumF (S 3) 7 else S 3 w.toNat)) (fnF S 3 (if -1 ≤ w ∧ w ≤ 6 then -1 else 0) (S))) := by
  refine CT.of (by decide +kernel) (Nat.le_of_ble_eq_true rfl) ?_
  intro p e s m below meth c ls hC hr hlk hI hl
  have hC : Cx p c cX6_status 4 s m [.ref (a (0)), .int (J w)].toArray RX6 X B := hC
  have hl : lv_has ls 4 [(0, .ref (a (0))), (1, .int (J w))] := hl
  obtain ⟨⟨hN, hBr, hBu, hIn, hLa, hPc⟩, hDk, hPg⟩ := id hV
  refine r_iload_n hC hl dX6_status_0 1 rfl ?_
  refine r_iconst hC dX6_status_1 ?_
  refine r_bipush hC (by decide) dX6_status_2 ?_
  refine r_cSi hC hI hl [.int (J w), .int (J (-1)), .int (J 6)] [] (c_X6_isWithin l X a B S w (-1) 6 (by omega) (by omega) (by omega)) ml_RX6_44 es_X6_isWithin ⟨Nat.le_of_ble_eq_true rfl, Nat.le_of_ble_eq_true rfl⟩ ⟨Nat.zero_le _, Nat.zero_le _⟩ (Nat.le_of_ble_eq_true rfl) rfl dX6_status_4 (fun H locs hI => ?_)
  refine r_b_ne (tgt := 16) hC dX6_status_7 (by decide) (fun c_1 => ?_) (fun c_1 => ?_)
  · skip
    refine r_iload_n hC hl dX6_status_16 1 rfl ?_
    refine r_if_lt (tgt := 27) hC (by omega) dX6_status_17 (by decide) (fun c_2 => ?_) (fun c_2 => ?_)
    · skip
      refine r_iconst hC dX6_status_27 ?_
      refine r_istore_n (lv1 := [(2, .int (J 0)), (0, .ref (a (0))), (1, .int (J w))]) hC hl dX6_status_28 2 rfl (by decide) rfl (fun ls hl => ?_)
      refine r_iconst hC dX6_status_29 ?_
      refine r_istore_n (lv1 := [(3, .int (J 0)), (2, .int (J 0)), (0, .ref (a (0))), (1, .int (J w))]) hC hl dX6_status_30 3 rfl (by decide) rfl (fun ls hl => ?_)
      have hL31 : ∀ (fu : Nat) (q : Nat) (x3 x2 : Int), 7 - q < fu → (x3 = (q : Int)) → (x2 = sumF (S 3) q) → (q ≤ 7) → ∀ (H : Heap) (locs : List Loc) (ls : Array Slot), IS X a B s (S) H locs → lv_has ls 4 [(3, .int (J x3)), (2, .int (J x2)), (0, .ref (a (0))), (1, .int (J w))] → W p l e (rmD 2) s m [.ref (a (0)), .int (J w)].toArray below meth c H locs 0 0 (MQ below (Qi X a B (anF (if -1 ≤ w ∧ w ≤ 6 then -1 else 0) (if w < 0 then sumF (S 3) 7 else S 3 w.toNat)) (fnF S 3 (if -1 ≤ w ∧ w ≤ 6 then -1 else 0) (S))) [.ref (a (0)), .int (J w)].toArray s 0 0 (fun q => B ≤ q)) (F0 m 31 ls []) := by
        intro fu
        induction fu with
        | zero => intro q x3 x2 hm; exact absurd hm (Nat.not_lt_zero _)
        | succ fu ih31 =>
          intro q x3 x2 hm e3 e2 hq H locs ls hI hl
          subst e3; subst e2
          refine r_iload_n hC hl dX6_status_31 0 rfl ?_
          refine r_bipush hC (by decide) dX6_status_32 ?_
          refine r_icmp_ge (tgt := 52) hC (by omega) (by omega) dX6_status_34 (by decide) (fun c_3 => ?_) (fun c_3 => ?_)
          · skip
            refine r_iload_n hC hl dX6_status_52 1 rfl ?_
            exact r_iret hC hr hlk hI (an_n (by (repeat' split) <;> first | rfl | omega) (by rw [if_pos (by omega), show q = 7 by omega])) (fn_n (by (repeat' split) <;> first | rfl | omega) (rfl)) dX6_status_53
          · skip
            refine r_iload_n hC hl dX6_status_37 1 rfl ?_
            refine r_aload_n hC hl dX6_status_38 2 rfl ?_
            refine g_in  (v := .ref (a (1))) hC hI 0 (by decide) fl_RX6_9 rfl rfl dX6_status_39 ?_
            refine r_iload_n hC hl dX6_status_42 0 rfl ?_
            refine r_iald (cx := 1) (n := 7) (f := (fun S => S 3) (S)) (v := S 3 q) hC hI (by decide) rfl (by decide) (q) (by omega) (by omega) rfl dX6_status_43 ?_
            refine r_iadd hC dX6_status_44 ?_
            refine r_istore_n (lv1 := [(2, .int (J ((sumF (S 3) q) + (S 3 q)))), (3, .int (J (q : Int))), (0, .ref (a (0))), (1, .int (J w))]) hC hl dX6_status_45 2 rfl (by decide) rfl (fun ls hl => ?_)
            refine r_iinc (lv1 := [(3, .int (J ((q : Int) + 1))), (2, .int (J ((sumF (S 3) q) + (S 3 q)))), (0, .ref (a (0))), (1, .int (J w))]) hC hl dX6_status_46 1 rfl (by decide) rfl (fun ls hl => ?_)
            refine r_goto (tgt := 31) hC dX6_status_49 (by decide) ?_
            exact ih31 (q + 1) ((q : Int) + 1) ((sumF (S 3) q) + (S 3 q)) (by omega) (by omega) rfl (by omega) _ _ _ hI (lv_sub hl [0, 1, 2, 3] rfl)
      exact hL31 _ 0 0 0 (Nat.lt_succ_self _) (by omega) rfl (by omega) _ _ _ hI (lv_sub hl [0, 1, 2, 3] rfl)
    · skip
      refine r_aload_n hC hl dX6_status_20 0 rfl ?_
      refine g_in  (v := .ref (a (1))) hC hI 0 (by decide) fl_RX6_9 rfl rfl dX6_status_21 ?_
      refine r_iload_n hC hl dX6_status_24 1 rfl ?_
      refine r_iald (cx := 1) (n := 7) (f := (fun S => S 3) (S)) (v := S 3 ((w).toNat)) hC hI (by decide) rfl (by decide) ((w).toNat) (by omega) (by omega) rfl dX6_status_25 ?_
      exact r_iret hC hr hlk hI (an_n (by (repeat' split) <;> first | rfl | omega) ((if_neg (by omega)).symm)) (fn_n (by (repeat' split) <;> first | rfl | omega) (rfl)) dX6_status_26
  · skip
    refine r_aload_n hC hl dX6_status_10 0 rfl ?_
    refine r_iconst hC dX6_status_11 ?_
    refine r_cVi hC hI hl [.int (J 0)] [] (c_X6_found l X a B S 0 (by omega)) ml_RX6_48 ev_X6_found (rc_in (S := S) hC hI) ⟨Nat.le_of_ble_eq_true rfl, Nat.le_of_ble_eq_true rfl⟩ ⟨Nat.zero_le _, Nat.zero_le _⟩ (Nat.le_of_ble_eq_true rfl) rfl dX6_status_12 (fun H locs hI => ?_)
    exact r_iret hC hr hlk hI (an_f 0 (by (repeat' split) <;> first | rfl | omega)) (fn_f 0 (by (repeat' split) <;> first | rfl | omega)) dX6_status_15
