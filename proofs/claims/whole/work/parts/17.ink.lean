def anF (c v : Int) : Int := if 0 ≤ c then (-1000000001) - c else v
def fnF (S : St) (b : Nat) (c : Int) (S1 : St) : St := if 0 ≤ c then up S b c.toNat (S b c.toNat + 1) else S1
def onC (v : Int) : Int := if v < 0 then 3 else -1
theorem an_f {c v : Int} (f : Nat) (h : c = (f : Int)) : (-1000000001) - (f : Int) = anF c v := by
  subst h; unfold anF; rw [if_pos (by omega)]
theorem an_n {c v x : Int} (h : c < 0) (e : x = v) : x = anF c v := by
  subst e; unfold anF; rw [if_neg (by omega)]
theorem fn_f {S S1 : St} {b : Nat} {c : Int} (f : Nat) (h : c = (f : Int)) : up S b f (S b f + 1) = fnF S b c S1 := by
  subst h; unfold fnF; rw [if_pos (by omega)]; rfl
theorem fn_n {S S0 S1 : St} {b : Nat} {c : Int} (h : c < 0) (e : S0 = S1) : S0 = fnF S b c S1 := by
  subst e; unfold fnF; rw [if_neg (by omega)]
def nowF (R : Nat → Int) (w : Int) : Int := if w = 0 then R 0 else if w = 1 then dkF R 0 else if w = 6 then nwF R (R 5).toNat else if w = 7 then sumF (fun i => blP R i 0 (R 4)) (R 5).toNat else R (w.toNat - 1)
def ofF (R : Nat → Int) (i : Nat) (v : Int) : Int := if v = 5 then csF (R (18 + 5 * i)) (R (19 + 5 * i)) else if v = 6 then tkF (R (18 + 5 * i)) (dkF R 0) else if v = 7 then fdP R i else if v = 8 then blP R i 0 (R 4) else R (18 + 5 * i + v.toNat)
def ctF (R : Nat → Int) (tl w : Int) : Int := if w = 0 then R 5 else if w = 1 then tl else if w = 2 then sumF (fun i => R (21 + 5 * i)) (R 5).toNat else sumF (fun i => R (19 + 5 * i)) (R 5).toNat

set_option maxHeartbeats 4000000 in
set_option maxRecDepth 100000 in
theorem c_X6_found (l : Launch) (X : XT) (a : Nat → Nat) (B : Nat) (S : St) (f : Nat) (hf : f < 7) : CT l X a B 1 yX6_found cX6_found 2 (some .int) [.ref (a (0)), .int (J (f : Int))] S (Qi X a B ((-1000000001) - (f : Int)) (up S 3 f (S 3 f + 1))) := by
  refine CT.of (by decide +kernel) (Nat.le_of_ble_eq_true rfl) ?_
  intro p e s m below meth c ls hC hr hlk hI hl
  have hC : Cx p c cX6_found 2 s m [.ref (a (0)), .int (J (f : Int))].toArray RX6 X B := hC
  have hl : lv_has ls 2 [(0, .ref (a (0))), (1, .int (J (f : Int)))] := hl
  refine r_iload_n hC hl dX6_found_0 1 rfl ?_
  refine r_iconst hC dX6_found_1 ?_
  refine r_bipush hC (by decide) dX6_found_2 ?_
  refine r_cSi hC hI hl [.int (J (f : Int)), .int (J 0), .int (J 6)] [] (c_X6_isWithin l X a B S (f : Int) 0 6 (by omega) (by omega) (by omega)) ml_RX6_44 es_X6_isWithin ⟨Nat.le_of_ble_eq_true rfl, Nat.le_of_ble_eq_true rfl⟩ ⟨Nat.zero_le _, Nat.zero_le _⟩ (Nat.le_of_ble_eq_true rfl) rfl dX6_found_4 (fun H locs hI => ?_)
  refine r_b_eq (tgt := 20) hC dX6_found_7 (by decide) (fun c_1 => ?_) (fun c_1 => ?_)
  · skip
    exfalso; omega
  · skip
    refine r_aload_n hC hl dX6_found_10 0 rfl ?_
    refine g_in  (v := .ref (a (1))) hC hI 0 (by decide) fl_RX6_9 rfl rfl dX6_found_11 ?_
    refine r_iload_n hC hl dX6_found_14 1 rfl ?_
    refine r_dup2 hC rfl rfl dX6_found_15 ?_
    refine r_iald (cx := 1) (n := 7) (f := (fun S => S 3) (S)) (v := S 3 f) hC hI (by decide) rfl (by decide) (f) (by omega) (by omega) rfl dX6_found_16 ?_
    refine r_iconst hC dX6_found_17 ?_
    refine r_iadd hC dX6_found_18 ?_
    refine r_iast (cx := 1) (n := 7) (F := fun S => S 3) hC hI (by decide) (fun _ => rfl) (by decide) (f) (by omega) (by omega) (b := 3) (j := f) rfl (fun q => by simp [up, setB, upR]) dX6_found_19 (fun H locs hI => ?_)
    refine r_ldcw (x := (-1000000001)) hC ct_RX6_275 (by decide) dX6_found_20 ?_
    refine r_iload_n hC hl dX6_found_23 1 rfl ?_
    refine r_isub hC dX6_found_24 ?_
    exact r_iret hC hr hlk hI (rfl) (rfl) dX6_found_25

set_option maxHeartbeats 4000000 in
set_option maxRecDepth 100000 in
theorem c_X6_orNone (l : Launch) (X : XT) (a : Nat → Nat) (B : Nat) (S : St) (v : Int) (hv : -2147483648 ≤ v ∧ v ≤ 2147483647) : CT l X a B 2 yX6_orNone cX6_orNone 2 (some .int) [.ref (a (0)), .int (J v)] S (Qi X a B (anF (onC v) v) (fnF S 3 (onC v) S)) := by
  refine CT.of (by decide +kernel) (Nat.le_of_ble_eq_true rfl) ?_
  intro p e s m below meth c ls hC hr hlk hI hl
  have hC : Cx p c cX6_orNone 2 s m [.ref (a (0)), .int (J v)].toArray RX6 X B := hC
  have hl : lv_has ls 2 [(0, .ref (a (0))), (1, .int (J v))] := hl
  refine r_iload_n hC hl dX6_orNone_0 1 rfl ?_
  refine r_if_ge (tgt := 12) hC (by omega) dX6_orNone_1 (by decide) (fun c_1 => ?_) (fun c_1 => ?_)
  · skip
    refine r_iload_n hC hl dX6_orNone_12 1 rfl ?_
    exact r_iret hC hr hlk hI (an_n (by unfold onC; rw [if_neg (by omega)]; decide) rfl) (fn_n (by unfold onC; rw [if_neg (by omega)]; decide) rfl) dX6_orNone_13
  · skip
    refine r_aload_n hC hl dX6_orNone_4 0 rfl ?_
    refine r_iconst hC dX6_orNone_5 ?_
    refine r_cVi hC hI hl [.int (J 3)] [] (c_X6_found l X a B S 3 (by omega)) ml_RX6_48 ev_X6_found (rc_in (S := S) hC hI) ⟨Nat.le_of_ble_eq_true rfl, Nat.le_of_ble_eq_true rfl⟩ ⟨Nat.zero_le _, Nat.zero_le _⟩ (Nat.le_of_ble_eq_true rfl) rfl dX6_orNone_6 (fun H locs hI => ?_)
    refine r_goto (tgt := 13) hC dX6_orNone_9 (by decide) ?_
    exact r_iret hC hr hlk hI (an_f 3 (if_pos (by omega))) (fn_f 3 (if_pos (by omega))) dX6_orNone_13

set_option maxHeartbeats 4000000 in
set_option maxRecDepth 100000 in
theorem c_X6_isSheet (l : Launch) (X : XT) (a : Nat → Nat) (B : Nat) (S : St) (w : Int) (hw : -2147483648 ≤ w ∧ w ≤ 2147483647) : CT l X a B 1 yX6_isSheet cX6_isSheet 1 (some .boolean) [.int (J w)] S (Qi X a B (bI (0 ≤ w ∧ w ≤ 3)) (S)) := by
  refine CT.of (by decide +kernel) (Nat.le_of_ble_eq_true rfl) ?_
  intro p e s m below meth c ls hC hr hlk hI hl
  have hC : Cx p c cX6_isSheet 1 s m [.int (J w)].toArray RX6 X B := hC
  have hl : lv_has ls 1 [(0, .int (J w))] := hl
  refine r_iload_n hC hl dX6_isSheet_0 0 rfl ?_
  refine r_iconst hC dX6_isSheet_1 ?_
  refine r_iconst hC dX6_isSheet_2 ?_
  refine r_cSi hC hI hl [.int (J w), .int (J 0), .int (J 3)] [] (c_X6_isWithin l X a B S w 0 3 (by omega) (by omega) (by omega)) ml_RX6_44 es_X6_isWithin ⟨Nat.le_of_ble_eq_true rfl, Nat.le_of_ble_eq_true rfl⟩ ⟨Nat.zero_le _, Nat.zero_le _⟩ (Nat.le_of_ble_eq_true rfl) rfl dX6_isSheet_3 (fun H locs hI => ?_)
  exact r_zret hC hr hlk hI (bI_01) (rfl) (rfl) dX6_isSheet_6

set_option maxHeartbeats 4000000 in
set_option maxRecDepth 100000 in
theorem c_X6_jar (l : Launch) (X : XT) (a : Nat → Nat) (B : Nat) (S : St) (w : Int) (v : Int) (hV : VR 9999 (S 0)) (hw : -2147483648 ≤ w ∧ w ≤ 2147483647) (hv : -2147483648 ≤ v ∧ v ≤ 2147483647) : CT l X a B 2 yX6_jar cX6_jar 4 (some .int) [.ref (a (0)), .int (J w), .int (J v)] S (Qi X a B (anF (if (0 ≤ w ∧ w ≤ 3) ∧ 0 ≤ v ∧ v ≤ mjF w then -1 else 0) (S 0 (1 + w.toNat))) (fnF S 3 (if (0 ≤ w ∧ w ≤ 3) ∧ 0 ≤ v ∧ v ≤ mjF w then -1 else 0) (up S 0 (1 + w.toNat) v))) := by
  refine CT.of (by decide +kernel) (Nat.le_of_ble_eq_true rfl) ?_
  intro p e s m below meth c ls hC hr hlk hI hl
  have hC : Cx p c cX6_jar 4 s m [.ref (a (0)), .int (J w), .int (J v)].toArray RX6 X B := hC
  have hl : lv_has ls 4 [(0, .ref (a (0))), (1, .int (J w)), (2, .int (J v))] := hl
  obtain ⟨⟨hN, hBr, hBu, hIn, hLa, hPc⟩, hDk, hPg⟩ := id hV
  have hmj : -1 ≤ mjF w ∧ mjF w ≤ 999 := by unfold mjF; (repeat' split) <;> omega
  have hmw : 0 ≤ mjF w → 0 ≤ w ∧ w ≤ 3 := by unfold mjF; (repeat' split) <;> omega
  refine r_iload_n hC hl dX6_jar_0 2 rfl ?_
  refine r_iconst hC dX6_jar_1 ?_
  refine r_iload_n hC hl dX6_jar_2 1 rfl ?_
  refine r_cSi hC hI hl [.int (J w)] [.int (J 0), .int (J v)] (c_X2_mostInJar l X a B S w (by omega)) ml_RX6_40 es_X2_mostInJar ⟨Nat.le_of_ble_eq_true rfl, Nat.le_of_ble_eq_true rfl⟩ ⟨Nat.zero_le _, Nat.zero_le _⟩ (Nat.le_of_ble_eq_true rfl) rfl dX6_jar_3 (fun H locs hI => ?_)
  refine r_cSi hC hI hl [.int (J v), .int (J 0), .int (J (mjF w))] [] (c_X6_isWithin l X a B S v 0 (mjF w) (by omega) (by omega) (by omega)) ml_RX6_44 es_X6_isWithin ⟨Nat.le_of_ble_eq_true rfl, Nat.le_of_ble_eq_true rfl⟩ ⟨Nat.zero_le _, Nat.zero_le _⟩ (Nat.le_of_ble_eq_true rfl) rfl dX6_jar_6 (fun H locs hI => ?_)
  refine r_b_ne (tgt := 18) hC dX6_jar_9 (by decide) (fun c_1 => ?_) (fun c_1 => ?_)
  · skip
    refine r_aload_n hC hl dX6_jar_18 0 rfl ?_
    refine g_in  (v := .ref (a (2 + 0))) hC hI 1 (by decide) fl_RX6_16 rfl rfl dX6_jar_19 ?_
    refine r_iload_n hC hl dX6_jar_22 1 rfl ?_
    refine r_cVi hC hI hl [.int (J w)] [] (c_X2_jarHolds l X a B S 0 w (by omega) (by omega)) ml_RX6_51 ev_X2_jarHolds (rc_sc (S := S) hC hI (by decide)) ⟨Nat.le_of_ble_eq_true rfl, Nat.le_of_ble_eq_true rfl⟩ ⟨Nat.zero_le _, Nat.zero_le _⟩ (Nat.le_of_ble_eq_true rfl) rfl dX6_jar_23 (fun H locs hI => ?_)
    refine r_istore_n (lv1 := [(3, .int (J (S 0 (1 + w.toNat)))), (0, .ref (a (0))), (1, .int (J w)), (2, .int (J v))]) hC hl dX6_jar_26 3 rfl (by decide) rfl (fun ls hl => ?_)
    refine r_aload_n hC hl dX6_jar_27 1 rfl ?_
    refine g_in  (v := .ref (a (2 + 0))) hC hI 1 (by decide) fl_RX6_16 rfl rfl dX6_jar_28 ?_
    refine r_iload_n hC hl dX6_jar_31 2 rfl ?_
    refine r_iload_n hC hl dX6_jar_32 3 rfl ?_
    refine r_cVv hC hI hl [.int (J w), .int (J v)] [] (c_X2_fillJar l X a B S 0 w v (by omega) (by omega)) ml_RX6_54 ev_X2_fillJar (rc_sc (S := S) hC hI (by decide)) ⟨Nat.le_of_ble_eq_true rfl, Nat.le_of_ble_eq_true rfl⟩ ⟨Nat.zero_le _, Nat.zero_le _⟩ (Nat.le_of_ble_eq_true rfl) rfl dX6_jar_33 (fun H locs hI => ?_)
    refine r_iload_n hC hl dX6_jar_36 0 rfl ?_
    exact r_iret hC hr hlk hI (an_n (by (repeat' split) <;> first | rfl | omega) (rfl)) (fn_n (by (repeat' split) <;> first | rfl | omega) (rfl)) dX6_jar_37
  · skip
    refine r_aload_n hC hl dX6_jar_12 0 rfl ?_
    refine r_iconst hC dX6_jar_13 ?_
    refine r_cVi hC hI hl [.int (J 0)] [] (c_X6_found l X a B S 0 (by omega)) ml_RX6_48 ev_X6_found (rc_in (S := S) hC hI) ⟨Nat.le_of_ble_eq_true rfl, Nat.le_of_ble_eq_true rfl⟩ ⟨Nat.zero_le _, Nat.zero_le _⟩ (Nat.le_of_ble_eq_true rfl) rfl dX6_jar_14 (fun H locs hI => ?_)
    exact r_iret hC hr hlk hI (an_f 0 (by (repeat' split) <;> first | rfl | omega)) (fn_f 0 (by (repeat' split) <;> first | rfl | omega)) dX6_jar_17

set_option maxHeartbeats 4000000 in
set_option maxRecDepth 100000 in
theorem c_X6_dark (l : Launch) (X : XT) (a : Nat → Nat) (B : Nat) (S : St) (w : Int) (v : Int) (hV : VR 9999 (S 0)) (hw : -2147483648 ≤ w ∧ w ≤ 2147483647) (hv : -2147483648 ≤ v ∧ v ≤ 2147483647) : CT l X a B 2 yX6_dark cX6_dark 4 (some .int) [.ref (a (0)), .int (J w), .int (J v)] S (Qi X a B (anF (if (0 ≤ w ∧ w ≤ 11) ∧ 0 ≤ v ∧ v ≤ 20 then -1 else 0) (S 0 (6 + w.toNat))) (fnF S 3 (if (0 ≤ w ∧ w ≤ 11) ∧ 0 ≤ v ∧ v ≤ 20 then -1 else 0) (up S 0 (6 + w.toNat) v))) := by
  refine CT.of (by decide +kernel) (Nat.le_of_ble_eq_true rfl) ?_
  intro p e s m below meth c ls hC hr hlk hI hl
  have hC : Cx p c cX6_dark 4 s m [.ref (a (0)), .int (J w), .int (J v)].toArray RX6 X B := hC
  have hl : lv_has ls 4 [(0, .ref (a (0))), (1, .int (J w)), (2, .int (J v))] := hl
  obtain ⟨⟨hN, hBr, hBu, hIn, hLa, hPc⟩, hDk, hPg⟩ := id hV
  refine r_iload_n hC hl dX6_dark_0 1 rfl ?_
  refine r_iconst hC dX6_dark_1 ?_
  refine r_bipush hC (by decide) dX6_dark_2 ?_
  refine r_cSi hC hI hl [.int (J w), .int (J 0), .int (J 11)] [] (c_X6_isWithin l X a B S w 0 11 (by omega) (by omega) (by omega)) ml_RX6_44 es_X6_isWithin ⟨Nat.le_of_ble_eq_true rfl, Nat.le_of_ble_eq_true rfl⟩ ⟨Nat.zero_le _, Nat.zero_le _⟩ (Nat.le_of_ble_eq_true rfl) rfl dX6_dark_4 (fun H locs hI => ?_)
  refine r_b_eq (tgt := 20) hC dX6_dark_7 (by decide) (fun c_1 => ?_) (fun c_1 => ?_)
  · skip
    refine r_aload_n hC hl dX6_dark_20 0 rfl ?_
    refine r_iconst hC dX6_dark_21 ?_
    refine r_cVi hC hI hl [.int (J 0)] [] (c_X6_found l X a B S 0 (by omega)) ml_RX6_48 ev_X6_found (rc_in (S := S) hC hI) ⟨Nat.le_of_ble_eq_true rfl, Nat.le_of_ble_eq_true rfl⟩ ⟨Nat.zero_le _, Nat.zero_le _⟩ (Nat.le_of_ble_eq_true rfl) rfl dX6_dark_22 (fun H locs hI => ?_)
    exact r_iret hC hr hlk hI (an_f 0 (by (repeat' split) <;> first | rfl | omega)) (fn_f 0 (by (repeat' split) <;> first | rfl | omega)) dX6_dark_25
  · skip
    refine r_iload_n hC hl dX6_dark_10 2 rfl ?_
    refine r_iconst hC dX6_dark_11 ?_
    refine r_bipush hC (by decide) dX6_dark_12 ?_
    refine r_cSi hC hI hl [.int (J v), .int (J 0), .int (J 20)] [] (c_X6_isWithin l X a B S v 0 20 (by omega) (by omega) (by omega)) ml_RX6_44 es_X6_isWithin ⟨Nat.le_of_ble_eq_true rfl, Nat.le_of_ble_eq_true rfl⟩ ⟨Nat.zero_le _, Nat.zero_le _⟩ (Nat.le_of_ble_eq_true rfl) rfl dX6_dark_14 (fun H locs hI => ?_)
    refine r_b_ne (tgt := 26) hC dX6_dark_17 (by decide) (fun c_2 => ?_) (fun c_2 => ?_)
    · skip
      refine r_aload_n hC hl dX6_dark_26 0 rfl ?_
      refine g_in  (v := .ref (a (2 + 0))) hC hI 1 (by decide) fl_RX6_16 rfl rfl dX6_dark_27 ?_
      refine g_sc (k1 := 0) (v := .ref (a (8 + 0))) hC hI (by decide) 6 (by decide) fl_RX6_58 rfl rfl dX6_dark_30 ?_
      refine r_iload_n hC hl dX6_dark_33 1 rfl ?_
      refine r_iald (cx := 8 + 0) (n := 12) (f := (fun S j => S 0 (6 + j)) (S)) (v := S 0 (6 + ((w).toNat))) hC hI (by omega) (ce_dk X a _ (by decide)) (by decide) ((w).toNat) (by omega) (by omega) rfl dX6_dark_34 ?_
      refine r_istore_n (lv1 := [(3, .int (J (S 0 (6 + ((w).toNat))))), (0, .ref (a (0))), (1, .int (J w)), (2, .int (J v))]) hC hl dX6_dark_35 3 rfl (by decide) rfl (fun ls hl => ?_)
      refine r_aload_n hC hl dX6_dark_36 1 rfl ?_
      refine g_in  (v := .ref (a (2 + 0))) hC hI 1 (by decide) fl_RX6_16 rfl rfl dX6_dark_37 ?_
      refine g_sc (k1 := 0) (v := .ref (a (8 + 0))) hC hI (by decide) 6 (by decide) fl_RX6_58 rfl rfl dX6_dark_40 ?_
      refine r_iload_n hC hl dX6_dark_43 2 rfl ?_
      refine r_iload_n hC hl dX6_dark_44 3 rfl ?_
      refine r_iast (cx := 8 + 0) (n := 12) (F := fun S j => S 0 (6 + j)) hC hI (by omega) (fun S => ce_dk X a S (by decide)) (by decide) ((w).toNat) (by omega) (by omega) (b := 0) (j := 6 + ((w).toNat)) (ow_dk (by decide) (by omega)) (fun q => by simp [up, setB, upR]) dX6_dark_45 (fun H locs hI => ?_)
      refine r_iload_n hC hl dX6_dark_46 0 rfl ?_
      exact r_iret hC hr hlk hI (an_n (by (repeat' split) <;> first | rfl | omega) (rfl)) (fn_n (by (repeat' split) <;> first | rfl | omega) (rfl)) dX6_dark_47
    · skip
      refine r_aload_n hC hl dX6_dark_20 0 rfl ?_
      refine r_iconst hC dX6_dark_21 ?_
      refine r_cVi hC hI hl [.int (J 0)] [] (c_X6_found l X a B S 0 (by omega)) ml_RX6_48 ev_X6_found (rc_in (S := S) hC hI) ⟨Nat.le_of_ble_eq_true rfl, Nat.le_of_ble_eq_true rfl⟩ ⟨Nat.zero_le _, Nat.zero_le _⟩ (Nat.le_of_ble_eq_true rfl) rfl dX6_dark_22 (fun H locs hI => ?_)
      exact r_iret hC hr hlk hI (an_f 0 (by (repeat' split) <;> first | rfl | omega)) (fn_f 0 (by (repeat' split) <;> first | rfl | omega)) dX6_dark_25

set_option maxHeartbeats 4000000 in
set_option maxRecDepth 100000 in
theorem c_X6_now (l : Launch) (X : XT) (a : Nat → Nat) (B : Nat) (S : St) (w : Int) (hV : VR 9999 (S 0)) (hw : -2147483648 ≤ w ∧ w ≤ 2147483647) : CT l X a B 5 yX6_now cX6_now 2 (some .int) [.ref (a (0)), .int (J w)] S (Qi X a B (anF (if 0 ≤ w ∧ w ≤ 7 then -1 else 0) (nowF (S 0) w)) (fnF S 3 (if 0 ≤ w ∧ w ≤ 7 then -1 else 0) (S))) := by
  refine CT.of (by decide +kernel) (Nat.le_of_ble_eq_true rfl) ?_
  intro p e s m below meth c ls hC hr hlk hI hl
  have hC : Cx p c cX6_now 2 s m [.ref (a (0)), .int (J w)].toArray RX6 X B := hC
  have hl : lv_has ls 2 [(0, .ref (a (0))), (1, .int (J w))] := hl
  obtain ⟨⟨hN, hBr, hBu, hIn, hLa, hPc⟩, hDk, hPg⟩ := id hV
  refine r_iload_n hC hl dX6_now_0 1 rfl ?_
  by_cases c_1 : w = 0
  · refine r_tin (tgt := 48) hC 0 c_1 (by decide) dX6_now_1 (by decide) (by decide) rfl (by decide) ?_
    refine r_aload_n hC hl dX6_now_48 0 rfl ?_
    refine g_in  (v := .ref (a (2 + 0))) hC hI 1 (by decide) fl_RX6_16 rfl rfl dX6_now_49 ?_
    refine g_sc (k1 := 0) (v := .int (J (S 0 0))) hC hI (by decide) 0 (by decide) fl_RX6_61 rfl rfl dX6_now_52 ?_
    exact r_iret hC hr hlk hI (an_n (by (repeat' split) <;> first | rfl | omega) (by unfold nowF; subst_vars; rfl)) (fn_n (by (repeat' split) <;> first | rfl | omega) (rfl)) dX6_now_55
  by_cases c_2 : w = 1
  · refine r_tin (tgt := 56) hC 1 c_2 (by decide) dX6_now_1 (by decide) (by decide) rfl (by decide) ?_
    refine r_aload_n hC hl dX6_now_56 0 rfl ?_
    refine g_in  (v := .ref (a (2 + 0))) hC hI 1 (by decide) fl_RX6_16 rfl rfl dX6_now_57 ?_
    refine r_iconst hC dX6_now_60 ?_
    refine r_cVi hC hI hl [.int (J 0)] [] (c_X2_darkOn l X a B S 0 0 (by omega) (by omega) (by omega)) ml_RX6_65 ev_X2_darkOn (rc_sc (S := S) hC hI (by decide)) ⟨Nat.le_of_ble_eq_true rfl, Nat.le_of_ble_eq_true rfl⟩ ⟨Nat.zero_le _, Nat.zero_le _⟩ (Nat.le_of_ble_eq_true rfl) rfl dX6_now_61 (fun H locs hI => ?_)
    exact r_iret hC hr hlk hI (an_n (by (repeat' split) <;> first | rfl | omega) (by unfold nowF; subst_vars; rfl)) (fn_n (by (repeat' split) <;> first | rfl | omega) (rfl)) dX6_now_64
  by_cases c_3 : w = 2
  · refine r_tin (tgt := 65) hC 2 c_3 (by decide) dX6_now_1 (by decide) (by decide) rfl (by decide) ?_
    refine r_aload_n hC hl dX6_now_65 0 rfl ?_
    refine g_in  (v := .ref (a (2 + 0))) hC hI 1 (by decide) fl_RX6_16 rfl rfl dX6_now_66 ?_
    refine g_sc (k1 := 0) (v := .int (J (S 0 1))) hC hI (by decide) 1 (by decide) fl_RX6_68 rfl rfl dX6_now_69 ?_
    exact r_iret hC hr hlk hI (an_n (by (repeat' split) <;> first | rfl | omega) (by unfold nowF; subst_vars; rfl)) (fn_n (by (repeat' split) <;> first | rfl | omega) (rfl)) dX6_now_72
  by_cases c_4 : w = 3
  · refine r_tin (tgt := 73) hC 3 c_4 (by decide) dX6_now_1 (by decide) (by decide) rfl (by decide) ?_
    refine r_aload_n hC hl dX6_now_73 0 rfl ?_
    refine g_in  (v := .ref (a (2 + 0))) hC hI 1 (by decide) fl_RX6_16 rfl rfl dX6_now_74 ?_
    refine g_sc (k1 := 0) (v := .int (J (S 0 2))) hC hI (by decide) 2 (by decide) fl_RX6_71 rfl rfl dX6_now_77 ?_
    exact r_iret hC hr hlk hI (an_n (by (repeat' split) <;> first | rfl | omega) (by unfold nowF; subst_vars; rfl)) (fn_n (by (repeat' split) <;> first | rfl | omega) (rfl)) dX6_now_80
  by_cases c_5 : w = 4
  · refine r_tin (tgt := 81) hC 4 c_5 (by decide) dX6_now_1 (by decide) (by decide) rfl (by decide) ?_
    refine r_aload_n hC hl dX6_now_81 0 rfl ?_
    refine g_in  (v := .ref (a (2 + 0))) hC hI 1 (by decide) fl_RX6_16 rfl rfl dX6_now_82 ?_
    refine g_sc (k1 := 0) (v := .int (J (S 0 3))) hC hI (by decide) 3 (by decide) fl_RX6_74 rfl rfl dX6_now_85 ?_
    exact r_iret hC hr hlk hI (an_n (by (repeat' split) <;> first | rfl | omega) (by unfold nowF; subst_vars; rfl)) (fn_n (by (repeat' split) <;> first | rfl | omega) (rfl)) dX6_now_88
  by_cases c_6 : w = 5
  · refine r_tin (tgt := 89) hC 5 c_6 (by decide) dX6_now_1 (by decide) (by decide) rfl (by decide) ?_
    refine r_aload_n hC hl dX6_now_89 0 rfl ?_
    refine g_in  (v := .ref (a (2 + 0))) hC hI 1 (by decide) fl_RX6_16 rfl rfl dX6_now_90 ?_
    refine g_sc (k1 := 0) (v := .int (J (S 0 4))) hC hI (by decide) 4 (by decide) fl_RX6_77 rfl rfl dX6_now_93 ?_
    exact r_iret hC hr hlk hI (an_n (by (repeat' split) <;> first | rfl | omega) (by unfold nowF; subst_vars; rfl)) (fn_n (by (repeat' split) <;> first | rfl | omega) (rfl)) dX6_now_96
  by_cases c_7 : w = 6
  · refine r_tin (tgt := 97) hC 6 c_7 (by decide) dX6_now_1 (by decide) (by decide) rfl (by decide) ?_
    refine r_aload_n hC hl dX6_now_97 0 rfl ?_
    refine g_in  (v := .ref (a (2 + 0))) hC hI 1 (by decide) fl_RX6_16 rfl rfl dX6_now_98 ?_
    refine r_cVi hC hI hl [] [] (c_X2_notWhite l X a B S 0 (by omega) hV) ml_RX6_80 ev_X2_notWhite (rc_sc (S := S) hC hI (by decide)) ⟨Nat.le_of_ble_eq_true rfl, Nat.le_of_ble_eq_true rfl⟩ ⟨Nat.zero_le _, Nat.zero_le _⟩ (Nat.le_of_ble_eq_true rfl) rfl dX6_now_101 (fun H locs hI => ?_)
    exact r_iret hC hr hlk hI (an_n (by (repeat' split) <;> first | rfl | omega) (by unfold nowF; subst_vars; rfl)) (fn_n (by (repeat' split) <;> first | rfl | omega) (rfl)) dX6_now_104
  by_cases c_8 : w = 7
  · refine r_tin (tgt := 105) hC 7 c_8 (by decide) dX6_now_1 (by decide) (by decide) rfl (by decide) ?_
    refine r_aload_n hC hl dX6_now_105 0 rfl ?_
    refine g_in  (v := .ref (a (2 + 0))) hC hI 1 (by decide) fl_RX6_16 rfl rfl dX6_now_106 ?_
    refine r_iconst hC dX6_now_109 ?_
    refine r_aload_n hC hl dX6_now_110 0 rfl ?_
    refine g_in  (v := .ref (a (2 + 0))) hC hI 1 (by decide) fl_RX6_16 rfl rfl dX6_now_111 ?_
    refine g_sc (k1 := 0) (v := .int (J (S 0 4))) hC hI (by decide) 4 (by decide) fl_RX6_77 rfl rfl dX6_now_114 ?_
    refine r_cVi hC hI hl [.int (J 0), .int (J (S 0 4))] [] (c_X2_believedTogether l X a B S 0 0 (S 0 4) (by omega) hV (by omega) (by omega)) ml_RX6_84 ev_X2_believedTogether (rc_sc (S := S) hC hI (by decide)) ⟨Nat.le_of_ble_eq_true rfl, Nat.le_of_ble_eq_true rfl⟩ ⟨Nat.zero_le _, Nat.zero_le _⟩ (Nat.le_of_ble_eq_true rfl) rfl dX6_now_117 (fun H locs hI => ?_)
    exact r_iret hC hr hlk hI (an_n (by (repeat' split) <;> first | rfl | omega) (by unfold nowF; subst_vars; rfl)) (fn_n (by (repeat' split) <;> first | rfl | omega) (rfl)) dX6_now_120
  refine r_tout (tgt := 121) hC (by omega) dX6_now_1 (by omega) (by decide) ?_
  refine r_aload_n hC hl dX6_now_121 0 rfl ?_
  refine r_iconst hC dX6_now_122 ?_
  refine r_cVi hC hI hl [.int (J 0)] [] (c_X6_found l X a B S 0 (by omega)) ml_RX6_48 ev_X6_found (rc_in (S := S) hC hI) ⟨Nat.le_of_ble_eq_true rfl, Nat.le_of_ble_eq_true rfl⟩ ⟨Nat.zero_le _, Nat.zero_le _⟩ (Nat.le_of_ble_eq_true rfl) rfl dX6_now_123 (fun H locs hI => ?_)
  exact r_iret hC hr hlk hI (an_f 0 (by (repeat' split) <;> first | rfl | omega)) (fn_f 0 (by (repeat' split) <;> first | rfl | omega)) dX6_now_126

set_option maxHeartbeats 4000000 in
set_option maxRecDepth 100000 in
theorem c_X6_scribe (l : Launch) (X : XT) (a : Nat → Nat) (B : Nat) (S : St) (w : Int) (v : Int) (hV : VR 9999 (S 0)) (hw : -2147483648 ≤ w ∧ w ≤ 2147483647) (hv : -2147483648 ≤ v ∧ v ≤ 2147483647) : CT l X a B 4 yX6_scribe cX6_scribe 3 (some .int) [.ref (a (0)), .int (J w), .int (J v)] S (Qi X a B (anF (if ¬ ((0 ≤ w ∧ w ≤ 5) ∧ 1 ≤ v ∧ v ≤ 99) then 0 else if 8 ≤ S 0 5 then 1 else if S 0 3 < csF w v then 4 else -1) (S 0 5)) (fnF S 3 (if ¬ ((0 ≤ w ∧ w ≤ 5) ∧ 1 ≤ v ∧ v ≤ 99) then 0 else if 8 ≤ S 0 5 then 1 else if S 0 3 < csF w v then 4 else -1) (setB S 0 (apF (S 0) w v 0)))) := by
  refine CT.of (by decide +kernel) (Nat.le_of_ble_eq_true rfl) ?_
  intro p e s m below meth c ls hC hr hlk hI hl
  have hC : Cx p c cX6_scribe 3 s m [.ref (a (0)), .int (J w), .int (J v)].toArray RX6 X B := hC
  have hl : lv_has ls 3 [(0, .ref (a (0))), (1, .int (J w)), (2, .int (J v))] := hl
  obtain ⟨⟨hN, hBr, hBu, hIn, hLa, hPc⟩, hDk, hPg⟩ := id hV
  refine r_iload_n hC hl dX6_scribe_0 1 rfl ?_
  refine r_cSi hC hI hl [.int (J w)] [] (c_X0_isKind l X a B S w (by omega)) ml_RX6_88 es_X0_isKind ⟨Nat.le_of_ble_eq_true rfl, Nat.le_of_ble_eq_true rfl⟩ ⟨Nat.zero_le _, Nat.zero_le _⟩ (Nat.le_of_ble_eq_true rfl) rfl dX6_scribe_1 (fun H locs hI => ?_)
  refine r_b_eq (tgt := 17) hC dX6_scribe_4 (by decide) (fun c_1 => ?_) (fun c_1 => ?_)
  · skip
    refine r_aload_n hC hl dX6_scribe_17 0 rfl ?_
    refine r_iconst hC dX6_scribe_18 ?_
    refine r_cVi hC hI hl [.int (J 0)] [] (c_X6_found l X a B S 0 (by omega)) ml_RX6_48 ev_X6_found (rc_in (S := S) hC hI) ⟨Nat.le_of_ble_eq_true rfl, Nat.le_of_ble_eq_true rfl⟩ ⟨Nat.zero_le _, Nat.zero_le _⟩ (Nat.le_of_ble_eq_true rfl) rfl dX6_scribe_19 (fun H locs hI => ?_)
    exact r_iret hC hr hlk hI (an_f 0 (by (repeat' split) <;> first | rfl | omega)) (fn_f 0 (by (repeat' split) <;> first | rfl | omega)) dX6_scribe_22
  · skip
    refine r_iload_n hC hl dX6_scribe_7 2 rfl ?_
    refine r_iconst hC dX6_scribe_8 ?_
    refine r_bipush hC (by decide) dX6_scribe_9 ?_
    refine r_cSi hC hI hl [.int (J v), .int (J 1), .int (J 99)] [] (c_X6_isWithin l X a B S v 1 99 (by omega) (by omega) (by omega)) ml_RX6_44 es_X6_isWithin ⟨Nat.le_of_ble_eq_true rfl, Nat.le_of_ble_eq_true rfl⟩ ⟨Nat.zero_le _, Nat.zero_le _⟩ (Nat.le_of_ble_eq_true rfl) rfl dX6_scribe_11 (fun H locs hI => ?_)
    refine r_b_ne (tgt := 23) hC dX6_scribe_14 (by decide) (fun c_2 => ?_) (fun c_2 => ?_)
    · skip
      refine r_aload_n hC hl dX6_scribe_23 0 rfl ?_
      refine g_in  (v := .ref (a (2 + 0))) hC hI 1 (by decide) fl_RX6_16 rfl rfl dX6_scribe_24 ?_
      refine r_cVi hC hI hl [] [] (c_X2_isFull l X a B S 0 (by omega) (by omega)) ml_RX6_96 ev_X2_isFull (rc_sc (S := S) hC hI (by decide)) ⟨Nat.le_of_ble_eq_true rfl, Nat.le_of_ble_eq_true rfl⟩ ⟨Nat.zero_le _, Nat.zero_le _⟩ (Nat.le_of_ble_eq_true rfl) rfl dX6_scribe_27 (fun H locs hI => ?_)
      refine r_b_eq (tgt := 39) hC dX6_scribe_30 (by decide) (fun c_3 => ?_) (fun c_3 => ?_)
      · skip
        refine r_aload_n hC hl dX6_scribe_39 0 rfl ?_
        refine g_in  (v := .ref (a (2 + 0))) hC hI 1 (by decide) fl_RX6_16 rfl rfl dX6_scribe_40 ?_
        refine r_iload_n hC hl dX6_scribe_43 1 rfl ?_
        refine r_iload_n hC hl dX6_scribe_44 2 rfl ?_
        refine r_cVi hC hI hl [.int (J w), .int (J v)] [] (c_X2_hasInkFor l X a B S 0 w v (by omega) (by omega) (by omega) (by omega)) ml_RX6_100 ev_X2_hasInkFor (rc_sc (S := S) hC hI (by decide)) ⟨Nat.le_of_ble_eq_true rfl, Nat.le_of_ble_eq_true rfl⟩ ⟨Nat.zero_le _, Nat.zero_le _⟩ (Nat.le_of_ble_eq_true rfl) rfl dX6_scribe_45 (fun H locs hI => ?_)
        refine r_b_ne (tgt := 57) hC dX6_scribe_48 (by decide) (fun c_4 => ?_) (fun c_4 => ?_)
        · skip
          refine r_aload_n hC hl dX6_scribe_57 0 rfl ?_
          refine g_in  (v := .ref (a (2 + 0))) hC hI 1 (by decide) fl_RX6_16 rfl rfl dX6_scribe_58 ?_
          refine r_iload_n hC hl dX6_scribe_61 1 rfl ?_
          refine r_iload_n hC hl dX6_scribe_62 2 rfl ?_
          refine r_cVi hC hI hl [.int (J w), .int (J v)] [] (c_X2_addPage l X a B S 0 w v (by omega) hV (by omega) (by omega) (by omega)) ml_RX6_104 ev_X2_addPage (rc_sc (S := S) hC hI (by decide)) ⟨Nat.le_of_ble_eq_true rfl, Nat.le_of_ble_eq_true rfl⟩ ⟨Nat.zero_le _, Nat.zero_le _⟩ (Nat.le_of_ble_eq_true rfl) rfl dX6_scribe_63 (fun H locs hI => ?_)
          exact r_iret hC hr hlk hI (an_n (by (repeat' split) <;> first | rfl | omega) (rfl)) (fn_n (by (repeat' split) <;> first | rfl | omega) (rfl)) dX6_scribe_66
        · skip
          refine r_aload_n hC hl dX6_scribe_51 0 rfl ?_
          refine r_iconst hC dX6_scribe_52 ?_
          refine r_cVi hC hI hl [.int (J 4)] [] (c_X6_found l X a B S 4 (by omega)) ml_RX6_48 ev_X6_found (rc_in (S := S) hC hI) ⟨Nat.le_of_ble_eq_true rfl, Nat.le_of_ble_eq_true rfl⟩ ⟨Nat.zero_le _, Nat.zero_le _⟩ (Nat.le_of_ble_eq_true rfl) rfl dX6_scribe_53 (fun H locs hI => ?_)
          exact r_iret hC hr hlk hI (an_f 4 (by (repeat' split) <;> first | rfl | omega)) (fn_f 4 (by (repeat' split) <;> first | rfl | omega)) dX6_scribe_56
      · skip
        refine r_aload_n hC hl dX6_scribe_33 0 rfl ?_
        refine r_iconst hC dX6_scribe_34 ?_
        refine r_cVi hC hI hl [.int (J 1)] [] (c_X6_found l X a B S 1 (by omega)) ml_RX6_48 ev_X6_found (rc_in (S := S) hC hI) ⟨Nat.le_of_ble_eq_true rfl, Nat.le_of_ble_eq_true rfl⟩ ⟨Nat.zero_le _, Nat.zero_le _⟩ (Nat.le_of_ble_eq_true rfl) rfl dX6_scribe_35 (fun H locs hI => ?_)
        exact r_iret hC hr hlk hI (an_f 1 (by (repeat' split) <;> first | rfl | omega)) (fn_f 1 (by (repeat' split) <;> first | rfl | omega)) dX6_scribe_38
    · skip
      refine r_aload_n hC hl dX6_scribe_17 0 rfl ?_
      refine r_iconst hC dX6_scribe_18 ?_
      refine r_cVi hC hI hl [.int (J 0)] [] (c_X6_found l X a B S 0 (by omega)) ml_RX6_48 ev_X6_found (rc_in (S := S) hC hI) ⟨Nat.le_of_ble_eq_true rfl, Nat.le_of_ble_eq_true rfl⟩ ⟨Nat.zero_le _, Nat.zero_le _⟩ (Nat.le_of_ble_eq_true rfl) rfl dX6_scribe_19 (fun H locs hI => ?_)
      exact r_iret hC hr hlk hI (an_f 0 (by (repeat' split) <;> first | rfl | omega)) (fn_f 0 (by (repeat' split) <;> first | rfl | omega)) dX6_scribe_22

set_option maxHeartbeats 4000000 in
set_option maxRecDepth 100000 in
theorem c_X6_of (l : Launch) (X : XT) (a : Nat → Nat) (B : Nat) (S : St) (w : Int) (v : Int) (hV : VR 9999 (S 0)) (hw : -2147483648 ≤ w ∧ w ≤ 2147483647) (hv : -2147483648 ≤ v ∧ v ≤ 2147483647) : CT l X a B 4 yX6_of cX6_of 4 (some .int) [.ref (a (0)), .int (J w), .int (J v)] S (Qi X a B (anF (if (0 ≤ w ∧ w < S 0 5) ∧ 0 ≤ v ∧ v ≤ 8 then -1 else 0) (ofF (S 0) w.toNat v)) (fnF S 3 (if (0 ≤ w ∧ w < S 0 5) ∧ 0 ≤ v ∧ v ≤ 8 then -1 else 0) (S))) := by
  refine CT.of (by decide +kernel) (Nat.le_of_ble_eq_true rfl) ?_
  intro p e s m below meth c ls hC hr hlk hI hl
  have hC : Cx p c cX6_of 4 s m [.ref (a (0)), .int (J w), .int (J v)].toArray RX6 X B := hC
  have hl : lv_has ls 4 [(0, .ref (a (0))), (1, .int (J w)), (2, .int (J v))] := hl
  obtain ⟨⟨hN, hBr, hBu, hIn, hLa, hPc⟩, hDk, hPg⟩ := id hV
  refine r_aload_n hC hl dX6_of_0 0 rfl ?_
  refine g_in  (v := .ref (a (2 + 0))) hC hI 1 (by decide) fl_RX6_16 rfl rfl dX6_of_1 ?_
  refine r_iload_n hC hl dX6_of_4 1 rfl ?_
  refine r_cVi hC hI hl [.int (J w)] [] (c_X2_hasPage l X a B S 0 w (by omega) (by omega) (by omega)) ml_RX6_107 ev_X2_hasPage (rc_sc (S := S) hC hI (by decide)) ⟨Nat.le_of_ble_eq_true rfl, Nat.le_of_ble_eq_true rfl⟩ ⟨Nat.zero_le _, Nat.zero_le _⟩ (Nat.le_of_ble_eq_true rfl) rfl dX6_of_5 (fun H locs hI => ?_)
  refine r_b_ne (tgt := 17) hC dX6_of_8 (by decide) (fun c_1 => ?_) (fun c_1 => ?_)
  · skip
    have hvp := hPg w.toNat (by omega)
    obtain ⟨h18, h19, h20, h21, h22⟩ := id hvp
    have hd0 := dk_rg hV 0
    refine r_aload_n hC hl dX6_of_17 0 rfl ?_
    refine g_in  (v := .ref (a (2 + 0))) hC hI 1 (by decide) fl_RX6_16 rfl rfl dX6_of_18 ?_
    refine g_sc (k1 := 0) (v := .ref (a (11 + 0))) hC hI (by decide) 7 (by decide) fl_RX6_110 rfl rfl dX6_of_21 ?_
    refine r_iload_n hC hl dX6_of_24 1 rfl ?_
    refine r_pald (cx := 11 + 0) hC hI (by omega) (ce_pa X a _ (by decide)) (by decide) ((w).toNat) (by omega) (by omega) dX6_of_25 ?_
    refine r_astore_n (lv1 := [(3, .ref (a (25 + 8 * 0 + ((w).toNat)))), (0, .ref (a (0))), (1, .int (J w)), (2, .int (J v))]) hC hl dX6_of_26 3 rfl (by decide) rfl (fun ls hl => ?_)
    refine r_iload_n hC hl dX6_of_27 3 rfl ?_
    by_cases c_2 : v = 0
    · refine r_tin (tgt := 80) hC 0 c_2 (by decide) dX6_of_28 (by decide) (by decide) rfl (by decide) ?_
      refine r_aload_n hC hl dX6_of_80 0 rfl ?_
      refine g_pg (k1 := 0) (i := (w).toNat) (v := .int (J (S 0 (18 + 5 * ((w).toNat))))) hC hI (by decide) (by omega) 0 (by decide) fl_RX6_114 rfl rfl dX6_of_81 ?_
      exact r_iret hC hr hlk hI (an_n (by (repeat' split) <;> first | rfl | omega) (by unfold ofF; (repeat' split) <;> first | omega | rfl | (congr 1; omega))) (fn_n (by (repeat' split) <;> first | rfl | omega) (rfl)) dX6_of_84
    by_cases c_3 : v = 1
    · refine r_tin (tgt := 85) hC 1 c_3 (by decide) dX6_of_28 (by decide) (by decide) rfl (by decide) ?_
      refine r_aload_n hC hl dX6_of_85 0 rfl ?_
      refine g_pg (k1 := 0) (i := (w).toNat) (v := .int (J (S 0 (19 + 5 * ((w).toNat))))) hC hI (by decide) (by omega) 1 (by decide) fl_RX6_117 rfl rfl dX6_of_86 ?_
      exact r_iret hC hr hlk hI (an_n (by (repeat' split) <;> first | rfl | omega) (by unfold ofF; (repeat' split) <;> first | omega | rfl | (congr 1; omega))) (fn_n (by (repeat' split) <;> first | rfl | omega) (rfl)) dX6_of_89
    by_cases c_4 : v = 2
    · refine r_tin (tgt := 90) hC 2 c_4 (by decide) dX6_of_28 (by decide) (by decide) rfl (by decide) ?_
      refine r_aload_n hC hl dX6_of_90 0 rfl ?_
      refine g_pg (k1 := 0) (i := (w).toNat) (v := .int (J (S 0 (20 + 5 * ((w).toNat))))) hC hI (by decide) (by omega) 2 (by decide) fl_RX6_120 rfl rfl dX6_of_91 ?_
      exact r_iret hC hr hlk hI (an_n (by (repeat' split) <;> first | rfl | omega) (by unfold ofF; (repeat' split) <;> first | omega | rfl | (congr 1; omega))) (fn_n (by (repeat' split) <;> first | rfl | omega) (rfl)) dX6_of_94
    by_cases c_5 : v = 3
    · refine r_tin (tgt := 95) hC 3 c_5 (by decide) dX6_of_28 (by decide) (by decide) rfl (by decide) ?_
      refine r_aload_n hC hl dX6_of_95 0 rfl ?_
      refine g_pg (k1 := 0) (i := (w).toNat) (v := .int (J (S 0 (21 + 5 * ((w).toNat))))) hC hI (by decide) (by omega) 3 (by decide) fl_RX6_123 rfl rfl dX6_of_96 ?_
      exact r_iret hC hr hlk hI (an_n (by (repeat' split) <;> first | rfl | omega) (by unfold ofF; (repeat' split) <;> first | omega | rfl | (congr 1; omega))) (fn_n (by (repeat' split) <;> first | rfl | omega) (rfl)) dX6_of_99
    by_cases c_6 : v = 4
    · refine r_tin (tgt := 100) hC 4 c_6 (by decide) dX6_of_28 (by decide) (by decide) rfl (by decide) ?_
      refine r_aload_n hC hl dX6_of_100 0 rfl ?_
      refine g_pg (k1 := 0) (i := (w).toNat) (v := .int (J (S 0 (22 + 5 * ((w).toNat))))) hC hI (by decide) (by omega) 4 (by decide) fl_RX6_126 rfl rfl dX6_of_101 ?_
      exact r_iret hC hr hlk hI (an_n (by (repeat' split) <;> first | rfl | omega) (by unfold ofF; (repeat' split) <;> first | omega | rfl | (congr 1; omega))) (fn_n (by (repeat' split) <;> first | rfl | omega) (rfl)) dX6_of_104
    by_cases c_7 : v = 5
    · refine r_tin (tgt := 105) hC 5 c_7 (by decide) dX6_of_28 (by decide) (by decide) rfl (by decide) ?_
      refine r_aload_n hC hl dX6_of_105 0 rfl ?_
      refine g_pg (k1 := 0) (i := (w).toNat) (v := .int (J (S 0 (18 + 5 * ((w).toNat))))) hC hI (by decide) (by omega) 0 (by decide) fl_RX6_114 rfl rfl dX6_of_106 ?_
      refine r_aload_n hC hl dX6_of_109 0 rfl ?_
      refine g_pg (k1 := 0) (i := (w).toNat) (v := .int (J (S 0 (19 + 5 * ((w).toNat))))) hC hI (by decide) (by omega) 1 (by decide) fl_RX6_117 rfl rfl dX6_of_110 ?_
      refine r_cSi hC hI hl [.int (J (S 0 (18 + 5 * ((w).toNat)))), .int (J (S 0 (19 + 5 * ((w).toNat))))] [] (c_X0_costs l X a B S (S 0 (18 + 5 * ((w).toNat))) (S 0 (19 + 5 * ((w).toNat))) (by omega) (by omega)) ml_RX6_129 es_X0_costs ⟨Nat.le_of_ble_eq_true rfl, Nat.le_of_ble_eq_true rfl⟩ ⟨Nat.zero_le _, Nat.zero_le _⟩ (Nat.le_of_ble_eq_true rfl) rfl dX6_of_113 (fun H locs hI => ?_)
      exact r_iret hC hr hlk hI (an_n (by (repeat' split) <;> first | rfl | omega) (by unfold ofF; (repeat' split) <;> first | omega | rfl | (congr 1; omega))) (fn_n (by (repeat' split) <;> first | rfl | omega) (rfl)) dX6_of_116
    by_cases c_8 : v = 6
    · refine r_tin (tgt := 117) hC 6 c_8 (by decide) dX6_of_28 (by decide) (by decide) rfl (by decide) ?_
      refine r_aload_n hC hl dX6_of_117 0 rfl ?_
      refine g_pg (k1 := 0) (i := (w).toNat) (v := .int (J (S 0 (18 + 5 * ((w).toNat))))) hC hI (by decide) (by omega) 0 (by decide) fl_RX6_114 rfl rfl dX6_of_118 ?_
      refine r_aload_n hC hl dX6_of_121 1 rfl ?_
      refine g_in  (v := .ref (a (2 + 0))) hC hI 1 (by decide) fl_RX6_16 rfl rfl dX6_of_122 ?_
      refine r_iconst hC dX6_of_125 ?_
      refine r_cVi hC hI hl [.int (J 0)] [.int (J (S 0 (18 + 5 * ((w).toNat))))] (c_X2_darkOn l X a B S 0 0 (by omega) (by omega) (by omega)) ml_RX6_65 ev_X2_darkOn (rc_sc (S := S) hC hI (by decide)) ⟨Nat.le_of_ble_eq_true rfl, Nat.le_of_ble_eq_true rfl⟩ ⟨Nat.zero_le _, Nat.zero_le _⟩ (Nat.le_of_ble_eq_true rfl) rfl dX6_of_126 (fun H locs hI => ?_)
      refine r_cSi hC hI hl [.int (J (S 0 (18 + 5 * ((w).toNat)))), .int (J (dkF (S 0) 0))] [] (c_X0_takes l X a B S (S 0 (18 + 5 * ((w).toNat))) (dkF (S 0) 0) (by omega) (by omega)) ml_RX6_132 es_X0_takes ⟨Nat.le_of_ble_eq_true rfl, Nat.le_of_ble_eq_true rfl⟩ ⟨Nat.zero_le _, Nat.zero_le _⟩ (Nat.le_of_ble_eq_true rfl) rfl dX6_of_129 (fun H locs hI => ?_)
      exact r_iret hC hr hlk hI (an_n (by (repeat' split) <;> first | rfl | omega) (by unfold ofF; (repeat' split) <;> first | omega | rfl | (congr 1; omega))) (fn_n (by (repeat' split) <;> first | rfl | omega) (rfl)) dX6_of_132
    by_cases c_9 : v = 7
    · refine r_tin (tgt := 133) hC 7 c_9 (by decide) dX6_of_28 (by decide) (by decide) rfl (by decide) ?_
      refine r_aload_n hC hl dX6_of_133 0 rfl ?_
      refine g_pg (k1 := 0) (i := (w).toNat) (v := .int (J (S 0 (18 + 5 * ((w).toNat))))) hC hI (by decide) (by omega) 0 (by decide) fl_RX6_114 rfl rfl dX6_of_134 ?_
      refine r_aload_n hC hl dX6_of_137 0 rfl ?_
      refine g_pg (k1 := 0) (i := (w).toNat) (v := .int (J (S 0 (21 + 5 * ((w).toNat))))) hC hI (by decide) (by omega) 3 (by decide) fl_RX6_123 rfl rfl dX6_of_138 ?_
      refine r_aload_n hC hl dX6_of_141 0 rfl ?_
      refine g_pg (k1 := 0) (i := (w).toNat) (v := .int (J (S 0 (22 + 5 * ((w).toNat))))) hC hI (by decide) (by omega) 4 (by decide) fl_RX6_126 rfl rfl dX6_of_142 ?_
      refine r_cSi hC hI hl [.int (J (S 0 (18 + 5 * ((w).toNat)))), .int (J (S 0 (21 + 5 * ((w).toNat)))), .int (J (S 0 (22 + 5 * ((w).toNat))))] [] (c_X0_fades l X a B S (S 0 (18 + 5 * ((w).toNat))) (S 0 (21 + 5 * ((w).toNat))) (S 0 (22 + 5 * ((w).toNat))) (by omega) (by omega) (by omega)) ml_RX6_135 es_X0_fades ⟨Nat.le_of_ble_eq_true rfl, Nat.le_of_ble_eq_true rfl⟩ ⟨Nat.zero_le _, Nat.zero_le _⟩ (Nat.le_of_ble_eq_true rfl) rfl dX6_of_145 (fun H locs hI => ?_)
      exact r_iret hC hr hlk hI (an_n (by (repeat' split) <;> first | rfl | omega) (by unfold ofF; (repeat' split) <;> first | omega | rfl | (congr 1; omega))) (fn_n (by (repeat' split) <;> first | rfl | omega) (rfl)) dX6_of_148
    by_cases c_10 : v = 8
    · refine r_tin (tgt := 149) hC 8 c_10 (by decide) dX6_of_28 (by decide) (by decide) rfl (by decide) ?_
      refine r_aload_n hC hl dX6_of_149 0 rfl ?_
      refine r_iconst hC dX6_of_150 ?_
      refine r_aload_n hC hl dX6_of_151 1 rfl ?_
      refine g_in  (v := .ref (a (2 + 0))) hC hI 1 (by decide) fl_RX6_16 rfl rfl dX6_of_152 ?_
      refine g_sc (k1 := 0) (v := .int (J (S 0 4))) hC hI (by decide) 4 (by decide) fl_RX6_77 rfl rfl dX6_of_155 ?_
      refine r_cVi hC hI hl [.int (J 0), .int (J (S 0 4))] [] (c_X1_believedOn l X a B S 0 ((w).toNat) 0 (S 0 4) (by omega) (by omega) hvp (by omega) (by omega)) ml_RX6_139 ev_X1_believedOn (rc_pg (S := S) hC hI (by decide) (by omega)) ⟨Nat.le_of_ble_eq_true rfl, Nat.le_of_ble_eq_true rfl⟩ ⟨Nat.zero_le _, Nat.zero_le _⟩ (Nat.le_of_ble_eq_true rfl) rfl dX6_of_158 (fun H locs hI => ?_)
      exact r_iret hC hr hlk hI (an_n (by (repeat' split) <;> first | rfl | omega) (by unfold ofF; (repeat' split) <;> first | omega | rfl | (congr 1; omega))) (fn_n (by (repeat' split) <;> first | rfl | omega) (rfl)) dX6_of_161
    refine r_tout (tgt := 162) hC (by omega) dX6_of_28 (by omega) (by decide) ?_
    refine r_aload_n hC hl dX6_of_162 1 rfl ?_
    refine r_iconst hC dX6_of_163 ?_
    refine r_cVi hC hI hl [.int (J 0)] [] (c_X6_found l X a B S 0 (by omega)) ml_RX6_48 ev_X6_found (rc_in (S := S) hC hI) ⟨Nat.le_of_ble_eq_true rfl, Nat.le_of_ble_eq_true rfl⟩ ⟨Nat.zero_le _, Nat.zero_le _⟩ (Nat.le_of_ble_eq_true rfl) rfl dX6_of_164 (fun H locs hI => ?_)
    exact r_iret hC hr hlk hI (an_f 0 (by (repeat' split) <;> first | rfl | omega)) (fn_f 0 (by (repeat' split) <;> first | rfl | omega)) dX6_of_167
  · skip
    refine r_aload_n hC hl dX6_of_11 0 rfl ?_
    refine r_iconst hC dX6_of_12 ?_
    refine r_cVi hC hI hl [.int (J 0)] [] (c_X6_found l X a B S 0 (by omega)) ml_RX6_48 ev_X6_found (rc_in (S := S) hC hI) ⟨Nat.le_of_ble_eq_true rfl, Nat.le_of_ble_eq_true rfl⟩ ⟨Nat.zero_le _, Nat.zero_le _⟩ (Nat.le_of_ble_eq_true rfl) rfl dX6_of_13 (fun H locs hI => ?_)
    exact r_iret hC hr hlk hI (an_f 0 (by (repeat' split) <;> first | rfl | omega)) (fn_f 0 (by (repeat' split) <;> first | rfl | omega)) dX6_of_16
