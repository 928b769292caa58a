set_option maxHeartbeats 4000000 in
set_option maxRecDepth 100000 in
theorem c_X7_its0 (l : Launch) (X : XT) (a : Nat → Nat) (B : Nat) (S : St) (i : Nat) (hi : i < 8) : CT l X a B 0 yX7_its cX7_its 3 (some .int) [.ref (a (49)), .int (J (i : Int)), .int (J 0)] S (Qi X a B (S 20 (18 + 5 * i)) (S)) := by
  refine CT.of (by decide +kernel) (Nat.le_of_ble_eq_true rfl) ?_
  intro p e s m below meth c ls hC hr hlk hI hl
  have hC : Cx p c cX7_its 3 s m [.ref (a (49)), .int (J (i : Int)), .int (J 0)].toArray RX7 X B := hC
  have hl : lv_has ls 3 [(0, .ref (a (49))), (1, .int (J (i : Int))), (2, .int (J 0))] := hl
  refine r_aload_n hC hl dX7_its_0 0 rfl ?_
  refine g_mo  (v := .ref (a (50))) hC hI 0 (by decide) fl_RX7_7 rfl rfl dX7_its_1 ?_
  refine r_bipush hC (by decide) dX7_its_4 ?_
  refine r_iconst hC dX7_its_6 ?_
  refine r_iload_n hC hl dX7_its_7 1 rfl ?_
  refine r_imul hC dX7_its_8 ?_
  refine r_iadd hC dX7_its_9 ?_
  refine r_iload_n hC hl dX7_its_10 2 rfl ?_
  refine r_iadd hC dX7_its_11 ?_
  refine r_iald (cx := 50) (n := 58) (f := (fun S => S 20) (S)) (v := S 20 ((18 + (5 * i)) + 0)) hC hI (by decide) rfl (by decide) ((18 + (5 * i)) + 0) (by omega) (by omega) rfl dX7_its_12 ?_
  exact r_iret hC hr hlk hI (by first | rfl | (congr 1; omega)) (rfl) dX7_its_13

set_option maxHeartbeats 4000000 in
set_option maxRecDepth 100000 in
theorem c_X7_its1 (l : Launch) (X : XT) (a : Nat → Nat) (B : Nat) (S : St) (i : Nat) (hi : i < 8) : CT l X a B 0 yX7_its cX7_its 3 (some .int) [.ref (a (49)), .int (J (i : Int)), .int (J 1)] S (Qi X a B (S 20 (19 + 5 * i)) (S)) := by
  refine CT.of (by decide +kernel) (Nat.le_of_ble_eq_true rfl) ?_
  intro p e s m below meth c ls hC hr hlk hI hl
  have hC : Cx p c cX7_its 3 s m [.ref (a (49)), .int (J (i : Int)), .int (J 1)].toArray RX7 X B := hC
  have hl : lv_has ls 3 [(0, .ref (a (49))), (1, .int (J (i : Int))), (2, .int (J 1))] := hl
  refine r_aload_n hC hl dX7_its_0 0 rfl ?_
  refine g_mo  (v := .ref (a (50))) hC hI 0 (by decide) fl_RX7_7 rfl rfl dX7_its_1 ?_
  refine r_bipush hC (by decide) dX7_its_4 ?_
  refine r_iconst hC dX7_its_6 ?_
  refine r_iload_n hC hl dX7_its_7 1 rfl ?_
  refine r_imul hC dX7_its_8 ?_
  refine r_iadd hC dX7_its_9 ?_
  refine r_iload_n hC hl dX7_its_10 2 rfl ?_
  refine r_iadd hC dX7_its_11 ?_
  refine r_iald (cx := 50) (n := 58) (f := (fun S => S 20) (S)) (v := S 20 ((18 + (5 * i)) + 1)) hC hI (by decide) rfl (by decide) ((18 + (5 * i)) + 1) (by omega) (by omega) rfl dX7_its_12 ?_
  exact r_iret hC hr hlk hI (by first | rfl | (congr 1; omega)) (rfl) dX7_its_13

set_option maxHeartbeats 4000000 in
set_option maxRecDepth 100000 in
theorem c_X7_its2 (l : Launch) (X : XT) (a : Nat → Nat) (B : Nat) (S : St) (i : Nat) (hi : i < 8) : CT l X a B 0 yX7_its cX7_its 3 (some .int) [.ref (a (49)), .int (J (i : Int)), .int (J 2)] S (Qi X a B (S 20 (20 + 5 * i)) (S)) := by
  refine CT.of (by decide +kernel) (Nat.le_of_ble_eq_true rfl) ?_
  intro p e s m below meth c ls hC hr hlk hI hl
  have hC : Cx p c cX7_its 3 s m [.ref (a (49)), .int (J (i : Int)), .int (J 2)].toArray RX7 X B := hC
  have hl : lv_has ls 3 [(0, .ref (a (49))), (1, .int (J (i : Int))), (2, .int (J 2))] := hl
  refine r_aload_n hC hl dX7_its_0 0 rfl ?_
  refine g_mo  (v := .ref (a (50))) hC hI 0 (by decide) fl_RX7_7 rfl rfl dX7_its_1 ?_
  refine r_bipush hC (by decide) dX7_its_4 ?_
  refine r_iconst hC dX7_its_6 ?_
  refine r_iload_n hC hl dX7_its_7 1 rfl ?_
  refine r_imul hC dX7_its_8 ?_
  refine r_iadd hC dX7_its_9 ?_
  refine r_iload_n hC hl dX7_its_10 2 rfl ?_
  refine r_iadd hC dX7_its_11 ?_
  refine r_iald (cx := 50) (n := 58) (f := (fun S => S 20) (S)) (v := S 20 ((18 + (5 * i)) + 2)) hC hI (by decide) rfl (by decide) ((18 + (5 * i)) + 2) (by omega) (by omega) rfl dX7_its_12 ?_
  exact r_iret hC hr hlk hI (by first | rfl | (congr 1; omega)) (rfl) dX7_its_13

set_option maxHeartbeats 4000000 in
set_option maxRecDepth 100000 in
theorem c_X7_its3 (l : Launch) (X : XT) (a : Nat → Nat) (B : Nat) (S : St) (i : Nat) (hi : i < 8) : CT l X a B 0 yX7_its cX7_its 3 (some .int) [.ref (a (49)), .int (J (i : Int)), .int (J 3)] S (Qi X a B (S 20 (21 + 5 * i)) (S)) := by
  refine CT.of (by decide +kernel) (Nat.le_of_ble_eq_true rfl) ?_
  intro p e s m below meth c ls hC hr hlk hI hl
  have hC : Cx p c cX7_its 3 s m [.ref (a (49)), .int (J (i : Int)), .int (J 3)].toArray RX7 X B := hC
  have hl : lv_has ls 3 [(0, .ref (a (49))), (1, .int (J (i : Int))), (2, .int (J 3))] := hl
  refine r_aload_n hC hl dX7_its_0 0 rfl ?_
  refine g_mo  (v := .ref (a (50))) hC hI 0 (by decide) fl_RX7_7 rfl rfl dX7_its_1 ?_
  refine r_bipush hC (by decide) dX7_its_4 ?_
  refine r_iconst hC dX7_its_6 ?_
  refine r_iload_n hC hl dX7_its_7 1 rfl ?_
  refine r_imul hC dX7_its_8 ?_
  refine r_iadd hC dX7_its_9 ?_
  refine r_iload_n hC hl dX7_its_10 2 rfl ?_
  refine r_iadd hC dX7_its_11 ?_
  refine r_iald (cx := 50) (n := 58) (f := (fun S => S 20) (S)) (v := S 20 ((18 + (5 * i)) + 3)) hC hI (by decide) rfl (by decide) ((18 + (5 * i)) + 3) (by omega) (by omega) rfl dX7_its_12 ?_
  exact r_iret hC hr hlk hI (by first | rfl | (congr 1; omega)) (rfl) dX7_its_13

set_option maxHeartbeats 4000000 in
set_option maxRecDepth 100000 in
theorem c_X7_its4 (l : Launch) (X : XT) (a : Nat → Nat) (B : Nat) (S : St) (i : Nat) (hi : i < 8) : CT l X a B 0 yX7_its cX7_its 3 (some .int) [.ref (a (49)), .int (J (i : Int)), .int (J 4)] S (Qi X a B (S 20 (22 + 5 * i)) (S)) := by
  refine CT.of (by decide +kernel) (Nat.le_of_ble_eq_true rfl) ?_
  intro p e s m below meth c ls hC hr hlk hI hl
  have hC : Cx p c cX7_its 3 s m [.ref (a (49)), .int (J (i : Int)), .int (J 4)].toArray RX7 X B := hC
  have hl : lv_has ls 3 [(0, .ref (a (49))), (1, .int (J (i : Int))), (2, .int (J 4))] := hl
  refine r_aload_n hC hl dX7_its_0 0 rfl ?_
  refine g_mo  (v := .ref (a (50))) hC hI 0 (by decide) fl_RX7_7 rfl rfl dX7_its_1 ?_
  refine r_bipush hC (by decide) dX7_its_4 ?_
  refine r_iconst hC dX7_its_6 ?_
  refine r_iload_n hC hl dX7_its_7 1 rfl ?_
  refine r_imul hC dX7_its_8 ?_
  refine r_iadd hC dX7_its_9 ?_
  refine r_iload_n hC hl dX7_its_10 2 rfl ?_
  refine r_iadd hC dX7_its_11 ?_
  refine r_iald (cx := 50) (n := 58) (f := (fun S => S 20) (S)) (v := S 20 ((18 + (5 * i)) + 4)) hC hI (by decide) rfl (by decide) ((18 + (5 * i)) + 4) (by omega) (by omega) rfl dX7_its_12 ?_
  exact r_iret hC hr hlk hI (by first | rfl | (congr 1; omega)) (rfl) dX7_its_13

set_option maxHeartbeats 4000000 in
set_option maxRecDepth 100000 in
theorem c_X7_puts0 (l : Launch) (X : XT) (a : Nat → Nat) (B : Nat) (S : St) (i : Nat) (v : Int) (hi : i < 8) : CT l X a B 0 yX7_puts cX7_puts 4 none [.ref (a (49)), .int (J (i : Int)), .int (J 0), .int (J v)] S (Qv X a B (up S 20 (18 + 5 * i) v)) := by
  refine CT.of (by decide +kernel) (Nat.le_of_ble_eq_true rfl) ?_
  intro p e s m below meth c ls hC hr hlk hI hl
  have hC : Cx p c cX7_puts 4 s m [.ref (a (49)), .int (J (i : Int)), .int (J 0), .int (J v)].toArray RX7 X B := hC
  have hl : lv_has ls 4 [(0, .ref (a (49))), (1, .int (J (i : Int))), (2, .int (J 0)), (3, .int (J v))] := hl
  refine r_aload_n hC hl dX7_puts_0 0 rfl ?_
  refine g_mo  (v := .ref (a (50))) hC hI 0 (by decide) fl_RX7_7 rfl rfl dX7_puts_1 ?_
  refine r_bipush hC (by decide) dX7_puts_4 ?_
  refine r_iconst hC dX7_puts_6 ?_
  refine r_iload_n hC hl dX7_puts_7 1 rfl ?_
  refine r_imul hC dX7_puts_8 ?_
  refine r_iadd hC dX7_puts_9 ?_
  refine r_iload_n hC hl dX7_puts_10 2 rfl ?_
  refine r_iadd hC dX7_puts_11 ?_
  refine r_iload_n hC hl dX7_puts_12 3 rfl ?_
  refine r_iast (cx := 50) (n := 58) (F := fun S => S 20) hC hI (by decide) (fun _ => rfl) (by decide) ((18 + (5 * i)) + 0) (by omega) (by omega) (b := 20) (j := (18 + (5 * i)) + 0) rfl (fun q => by simp [up, setB, upR]) dX7_puts_13 (fun H locs hI => ?_)
  exact r_vret hC hr hlk hI (by first | rfl | (congr 1; omega)) dX7_puts_14

set_option maxHeartbeats 4000000 in
set_option maxRecDepth 100000 in
theorem c_X7_puts1 (l : Launch) (X : XT) (a : Nat → Nat) (B : Nat) (S : St) (i : Nat) (v : Int) (hi : i < 8) : CT l X a B 0 yX7_puts cX7_puts 4 none [.ref (a (49)), .int (J (i : Int)), .int (J 1), .int (J v)] S (Qv X a B (up S 20 (19 + 5 * i) v)) := by
  refine CT.of (by decide +kernel) (Nat.le_of_ble_eq_true rfl) ?_
  intro p e s m below meth c ls hC hr hlk hI hl
  have hC : Cx p c cX7_puts 4 s m [.ref (a (49)), .int (J (i : Int)), .int (J 1), .int (J v)].toArray RX7 X B := hC
  have hl : lv_has ls 4 [(0, .ref (a (49))), (1, .int (J (i : Int))), (2, .int (J 1)), (3, .int (J v))] := hl
  refine r_aload_n hC hl dX7_puts_0 0 rfl ?_
  refine g_mo  (v := .ref (a (50))) hC hI 0 (by decide) fl_RX7_7 rfl rfl dX7_puts_1 ?_
  refine r_bipush hC (by decide) dX7_puts_4 ?_
  refine r_iconst hC dX7_puts_6 ?_
  refine r_iload_n hC hl dX7_puts_7 1 rfl ?_
  refine r_imul hC dX7_puts_8 ?_
  refine r_iadd hC dX7_puts_9 ?_
  refine r_iload_n hC hl dX7_puts_10 2 rfl ?_
  refine r_iadd hC dX7_puts_11 ?_
  refine r_iload_n hC hl dX7_puts_12 3 rfl ?_
  refine r_iast (cx := 50) (n := 58) (F := fun S => S 20) hC hI (by decide) (fun _ => rfl) (by decide) ((18 + (5 * i)) + 1) (by omega) (by omega) (b := 20) (j := (18 + (5 * i)) + 1) rfl (fun q => by simp [up, setB, upR]) dX7_puts_13 (fun H locs hI => ?_)
  exact r_vret hC hr hlk hI (by first | rfl | (congr 1; omega)) dX7_puts_14

set_option maxHeartbeats 4000000 in
set_option maxRecDepth 100000 in
theorem c_X7_puts2 (l : Launch) (X : XT) (a : Nat → Nat) (B : Nat) (S : St) (i : Nat) (v : Int) (hi : i < 8) : CT l X a B 0 yX7_puts cX7_puts 4 none [.ref (a (49)), .int (J (i : Int)), .int (J 2), .int (J v)] S (Qv X a B (up S 20 (20 + 5 * i) v)) := by
  refine CT.of (by decide +kernel) (Nat.le_of_ble_eq_true rfl) ?_
  intro p e s m below meth c ls hC hr hlk hI hl
  have hC : Cx p c cX7_puts 4 s m [.ref (a (49)), .int (J (i : Int)), .int (J 2), .int (J v)].toArray RX7 X B := hC
  have hl : lv_has ls 4 [(0, .ref (a (49))), (1, .int (J (i : Int))), (2, .int (J 2)), (3, .int (J v))] := hl
  refine r_aload_n hC hl dX7_puts_0 0 rfl ?_
  refine g_mo  (v := .ref (a (50))) hC hI 0 (by decide) fl_RX7_7 rfl rfl dX7_puts_1 ?_
  refine r_bipush hC (by decide) dX7_puts_4 ?_
  refine r_iconst hC dX7_puts_6 ?_
  refine r_iload_n hC hl dX7_puts_7 1 rfl ?_
  refine r_imul hC dX7_puts_8 ?_
  refine r_iadd hC dX7_puts_9 ?_
  refine r_iload_n hC hl dX7_puts_10 2 rfl ?_
  refine r_iadd hC dX7_puts_11 ?_
  refine r_iload_n hC hl dX7_puts_12 3 rfl ?_
  refine r_iast (cx := 50) (n := 58) (F := fun S => S 20) hC hI (by decide) (fun _ => rfl) (by decide) ((18 + (5 * i)) + 2) (by omega) (by omega) (b := 20) (j := (18 + (5 * i)) + 2) rfl (fun q => by simp [up, setB, upR]) dX7_puts_13 (fun H locs hI => ?_)
  exact r_vret hC hr hlk hI (by first | rfl | (congr 1; omega)) dX7_puts_14

set_option maxHeartbeats 4000000 in
set_option maxRecDepth 100000 in
theorem c_X7_puts3 (l : Launch) (X : XT) (a : Nat → Nat) (B : Nat) (S : St) (i : Nat) (v : Int) (hi : i < 8) : CT l X a B 0 yX7_puts cX7_puts 4 none [.ref (a (49)), .int (J (i : Int)), .int (J 3), .int (J v)] S (Qv X a B (up S 20 (21 + 5 * i) v)) := by
  refine CT.of (by decide +kernel) (Nat.le_of_ble_eq_true rfl) ?_
  intro p e s m below meth c ls hC hr hlk hI hl
  have hC : Cx p c cX7_puts 4 s m [.ref (a (49)), .int (J (i : Int)), .int (J 3), .int (J v)].toArray RX7 X B := hC
  have hl : lv_has ls 4 [(0, .ref (a (49))), (1, .int (J (i : Int))), (2, .int (J 3)), (3, .int (J v))] := hl
  refine r_aload_n hC hl dX7_puts_0 0 rfl ?_
  refine g_mo  (v := .ref (a (50))) hC hI 0 (by decide) fl_RX7_7 rfl rfl dX7_puts_1 ?_
  refine r_bipush hC (by decide) dX7_puts_4 ?_
  refine r_iconst hC dX7_puts_6 ?_
  refine r_iload_n hC hl dX7_puts_7 1 rfl ?_
  refine r_imul hC dX7_puts_8 ?_
  refine r_iadd hC dX7_puts_9 ?_
  refine r_iload_n hC hl dX7_puts_10 2 rfl ?_
  refine r_iadd hC dX7_puts_11 ?_
  refine r_iload_n hC hl dX7_puts_12 3 rfl ?_
  refine r_iast (cx := 50) (n := 58) (F := fun S => S 20) hC hI (by decide) (fun _ => rfl) (by decide) ((18 + (5 * i)) + 3) (by omega) (by omega) (b := 20) (j := (18 + (5 * i)) + 3) rfl (fun q => by simp [up, setB, upR]) dX7_puts_13 (fun H locs hI => ?_)
  exact r_vret hC hr hlk hI (by first | rfl | (congr 1; omega)) dX7_puts_14

set_option maxHeartbeats 4000000 in
set_option maxRecDepth 100000 in
theorem c_X7_puts4 (l : Launch) (X : XT) (a : Nat → Nat) (B : Nat) (S : St) (i : Nat) (v : Int) (hi : i < 8) : CT l X a B 0 yX7_puts cX7_puts 4 none [.ref (a (49)), .int (J (i : Int)), .int (J 4), .int (J v)] S (Qv X a B (up S 20 (22 + 5 * i) v)) := by
  refine CT.of (by decide +kernel) (Nat.le_of_ble_eq_true rfl) ?_
  intro p e s m below meth c ls hC hr hlk hI hl
  have hC : Cx p c cX7_puts 4 s m [.ref (a (49)), .int (J (i : Int)), .int (J 4), .int (J v)].toArray RX7 X B := hC
  have hl : lv_has ls 4 [(0, .ref (a (49))), (1, .int (J (i : Int))), (2, .int (J 4)), (3, .int (J v))] := hl
  refine r_aload_n hC hl dX7_puts_0 0 rfl ?_
  refine g_mo  (v := .ref (a (50))) hC hI 0 (by decide) fl_RX7_7 rfl rfl dX7_puts_1 ?_
  refine r_bipush hC (by decide) dX7_puts_4 ?_
  refine r_iconst hC dX7_puts_6 ?_
  refine r_iload_n hC hl dX7_puts_7 1 rfl ?_
  refine r_imul hC dX7_puts_8 ?_
  refine r_iadd hC dX7_puts_9 ?_
  refine r_iload_n hC hl dX7_puts_10 2 rfl ?_
  refine r_iadd hC dX7_puts_11 ?_
  refine r_iload_n hC hl dX7_puts_12 3 rfl ?_
  refine r_iast (cx := 50) (n := 58) (F := fun S => S 20) hC hI (by decide) (fun _ => rfl) (by decide) ((18 + (5 * i)) + 4) (by omega) (by omega) (b := 20) (j := (18 + (5 * i)) + 4) rfl (fun q => by simp [up, setB, upR]) dX7_puts_13 (fun H locs hI => ?_)
  exact r_vret hC hr hlk hI (by first | rfl | (congr 1; omega)) dX7_puts_14

theorem c_X7_its0_i (l : Launch) (X : XT) (a : Nat → Nat) (B : Nat) (S : St) (i : Int) (hi : 0 ≤ i ∧ i ≤ 7) : CT l X a B 0 yX7_its cX7_its 3 (some .int) [.ref (a (49)), .int (J i), .int (J 0)] S (Qi X a B (S 20 (18 + 5 * i.toNat)) (S)) := by
  have h := c_X7_its0 l X a B S i.toNat (by omega)
  rw [show ((i.toNat : Nat) : Int) = i by omega] at h
  exact h

theorem c_X7_puts0_i (l : Launch) (X : XT) (a : Nat → Nat) (B : Nat) (S : St) (i : Int) (v : Int) (hi : 0 ≤ i ∧ i ≤ 7) : CT l X a B 0 yX7_puts cX7_puts 4 none [.ref (a (49)), .int (J i), .int (J 0), .int (J v)] S (Qv X a B (up S 20 (18 + 5 * i.toNat) v)) := by
  have h := c_X7_puts0 l X a B S i.toNat v (by omega)
  rw [show ((i.toNat : Nat) : Int) = i by omega] at h
  exact h

theorem c_X7_its1_i (l : Launch) (X : XT) (a : Nat → Nat) (B : Nat) (S : St) (i : Int) (hi : 0 ≤ i ∧ i ≤ 7) : CT l X a B 0 yX7_its cX7_its 3 (some .int) [.ref (a (49)), .int (J i), .int (J 1)] S (Qi X a B (S 20 (19 + 5 * i.toNat)) (S)) := by
  have h := c_X7_its1 l X a B S i.toNat (by omega)
  rw [show ((i.toNat : Nat) : Int) = i by omega] at h
  exact h

theorem c_X7_puts1_i (l : Launch) (X : XT) (a : Nat → Nat) (B : Nat) (S : St) (i : Int) (v : Int) (hi : 0 ≤ i ∧ i ≤ 7) : CT l X a B 0 yX7_puts cX7_puts 4 none [.ref (a (49)), .int (J i), .int (J 1), .int (J v)] S (Qv X a B (up S 20 (19 + 5 * i.toNat) v)) := by
  have h := c_X7_puts1 l X a B S i.toNat v (by omega)
  rw [show ((i.toNat : Nat) : Int) = i by omega] at h
  exact h

theorem c_X7_its2_i (l : Launch) (X : XT) (a : Nat → Nat) (B : Nat) (S : St) (i : Int) (hi : 0 ≤ i ∧ i ≤ 7) : CT l X a B 0 yX7_its cX7_its 3 (some .int) [.ref (a (49)), .int (J i), .int (J 2)] S (Qi X a B (S 20 (20 + 5 * i.toNat)) (S)) := by
  have h := c_X7_its2 l X a B S i.toNat (by omega)
  rw [show ((i.toNat : Nat) : Int) = i by omega] at h
  exact h

theorem c_X7_puts2_i (l : Launch) (X : XT) (a : Nat → Nat) (B : Nat) (S : St) (i : Int) (v : Int) (hi : 0 ≤ i ∧ i ≤ 7) : CT l X a B 0 yX7_puts cX7_puts 4 none [.ref (a (49)), .int (J i), .int (J 2), .int (J v)] S (Qv X a B (up S 20 (20 + 5 * i.toNat) v)) := by
  have h := c_X7_puts2 l X a B S i.toNat v (by omega)
  rw [show ((i.toNat : Nat) : Int) = i by omega] at h
  exact h

theorem c_X7_its3_i (l : Launch) (X : XT) (a : Nat → Nat) (B : Nat) (S : St) (i : Int) (hi : 0 ≤ i ∧ i ≤ 7) : CT l X a B 0 yX7_its cX7_its 3 (some .int) [.ref (a (49)), .int (J i), .int (J 3)] S (Qi X a B (S 20 (21 + 5 * i.toNat)) (S)) := by
  have h := c_X7_its3 l X a B S i.toNat (by omega)
  rw [show ((i.toNat : Nat) : Int) = i by omega] at h
  exact h

theorem c_X7_puts3_i (l : Launch) (X : XT) (a : Nat → Nat) (B : Nat) (S : St) (i : Int) (v : Int) (hi : 0 ≤ i ∧ i ≤ 7) : CT l X a B 0 yX7_puts cX7_puts 4 none [.ref (a (49)), .int (J i), .int (J 3), .int (J v)] S (Qv X a B (up S 20 (21 + 5 * i.toNat) v)) := by
  have h := c_X7_puts3 l X a B S i.toNat v (by omega)
  rw [show ((i.toNat : Nat) : Int) = i by omega] at h
  exact h

theorem c_X7_its4_i (l : Launch) (X : XT) (a : Nat → Nat) (B : Nat) (S : St) (i : Int) (hi : 0 ≤ i ∧ i ≤ 7) : CT l X a B 0 yX7_its cX7_its 3 (some .int) [.ref (a (49)), .int (J i), .int (J 4)] S (Qi X a B (S 20 (22 + 5 * i.toNat)) (S)) := by
  have h := c_X7_its4 l X a B S i.toNat (by omega)
  rw [show ((i.toNat : Nat) : Int) = i by omega] at h
  exact h

theorem c_X7_puts4_i (l : Launch) (X : XT) (a : Nat → Nat) (B : Nat) (S : St) (i : Int) (v : Int) (hi : 0 ≤ i ∧ i ≤ 7) : CT l X a B 0 yX7_puts cX7_puts 4 none [.ref (a (49)), .int (J i), .int (J 4), .int (J v)] S (Qv X a B (up S 20 (22 + 5 * i.toNat) v)) := by
  have h := c_X7_puts4 l X a B S i.toNat v (by omega)
  rw [show ((i.toNat : Nat) : Int) = i by omega] at h
  exact h

set_option maxHeartbeats 4000000 in
set_option maxRecDepth 100000 in
theorem c_X7_becomes (l : Launch) (X : XT) (a : Nat → Nat) (B : Nat) (S : St) (z : Int) (v : Int) (hz : 0 ≤ z ∧ z ≤ 57) : CT l X a B 0 yX7_becomes cX7_becomes 4 (some .int) [.ref (a (49)), .int (J z), .int (J v)] S (Qi X a B (S 20 z.toNat) (up S 20 z.toNat v)) := by
  refine CT.of (by decide +kernel) (Nat.le_of_ble_eq_true rfl) ?_
  intro p e s m below meth c ls hC hr hlk hI hl
  have hC : Cx p c cX7_becomes 4 s m [.ref (a (49)), .int (J z), .int (J v)].toArray RX7 X B := hC
  have hl : lv_has ls 4 [(0, .ref (a (49))), (1, .int (J z)), (2, .int (J v))] := hl
  refine r_aload_n hC hl dX7_becomes_0 0 rfl ?_
  refine g_mo  (v := .ref (a (50))) hC hI 0 (by decide) fl_RX7_7 rfl rfl dX7_becomes_1 ?_
  refine r_iload_n hC hl dX7_becomes_4 1 rfl ?_
  refine r_iald (cx := 50) (n := 58) (f := (fun S => S 20) (S)) (v := S 20 ((z).toNat)) hC hI (by decide) rfl (by decide) ((z).toNat) (by omega) (by omega) rfl dX7_becomes_5 ?_
  refine r_istore_n (lv1 := [(3, .int (J (S 20 ((z).toNat)))), (0, .ref (a (49))), (1, .int (J z)), (2, .int (J v))]) hC hl dX7_becomes_6 3 rfl (by decide) rfl (fun ls hl => ?_)
  refine r_aload_n hC hl dX7_becomes_7 1 rfl ?_
  refine g_mo  (v := .ref (a (50))) hC hI 0 (by decide) fl_RX7_7 rfl rfl dX7_becomes_8 ?_
  refine r_iload_n hC hl dX7_becomes_11 2 rfl ?_
  refine r_iload_n hC hl dX7_becomes_12 3 rfl ?_
  refine r_iast (cx := 50) (n := 58) (F := fun S => S 20) hC hI (by decide) (fun _ => rfl) (by decide) ((z).toNat) (by omega) (by omega) (b := 20) (j := (z).toNat) rfl (fun q => by simp [up, setB, upR]) dX7_becomes_13 (fun H locs hI => ?_)
  refine r_iload_n hC hl dX7_becomes_14 0 rfl ?_
  exact r_iret hC hr hlk hI (rfl) (rfl) dX7_becomes_15

set_option maxHeartbeats 4000000 in
set_option maxRecDepth 100000 in
theorem c_X7_isOne (l : Launch) (X : XT) (a : Nat → Nat) (B : Nat) (S : St) (w : Int) (h5 : 0 ≤ S 20 5 ∧ S 20 5 ≤ 8) (hw : -2147483648 ≤ w ∧ w ≤ 2147483647) : CT l X a B 1 yX7_isOne cX7_isOne 2 (some .boolean) [.ref (a (49)), .int (J w)] S (Qi X a B (bI (0 ≤ w ∧ w < S 20 5)) (S)) := by
  refine CT.of (by decide +kernel) (Nat.le_of_ble_eq_true rfl) ?_
  intro p e s m below meth c ls hC hr hlk hI hl
  have hC : Cx p c cX7_isOne 2 s m [.ref (a (49)), .int (J w)].toArray RX7 X B := hC
  have hl : lv_has ls 2 [(0, .ref (a (49))), (1, .int (J w))] := hl
  refine r_iload_n hC hl dX7_isOne_0 1 rfl ?_
  refine r_iconst hC dX7_isOne_1 ?_
  refine r_aload_n hC hl dX7_isOne_2 0 rfl ?_
  refine g_mo  (v := .ref (a (50))) hC hI 0 (by decide) fl_RX7_7 rfl rfl dX7_isOne_3 ?_
  refine r_iconst hC dX7_isOne_6 ?_
  refine r_iald (cx := 50) (n := 58) (f := (fun S => S 20) (S)) (v := S 20 5) hC hI (by decide) rfl (by decide) (5) (by omega) (by omega) rfl dX7_isOne_7 ?_
  refine r_iconst hC dX7_isOne_8 ?_
  refine r_isub hC dX7_isOne_9 ?_
  refine r_cSi hC hI hl [.int (J w), .int (J 0), .int (J ((S 20 5) - 1))] [] (c_X7_in l X a B S w 0 ((S 20 5) - 1) (by omega) (by omega) (by omega)) ml_RX7_45 es_X7_in ⟨Nat.le_of_ble_eq_true rfl, Nat.le_of_ble_eq_true rfl⟩ ⟨Nat.zero_le _, Nat.zero_le _⟩ (Nat.le_of_ble_eq_true rfl) rfl dX7_isOne_10 (fun H locs hI => ?_)
  exact r_zret hC hr hlk hI (bI_01) ((bI_iff (by omega))) (rfl) dX7_isOne_13

set_option maxHeartbeats 4000000 in
set_option maxRecDepth 100000 in
theorem c_X7_finds0 (l : Launch) (X : XT) (a : Nat → Nat) (B : Nat) (S : St)   : CT l X a B 0 yX7_finds cX7_finds 2 (some .int) [.ref (a (49)), .int (J (-1000000001))] S (Qi X a B ((-1000000001) - ((0 : Nat) : Int)) (up S 21 0 (S 21 0 + 1))) := by
  refine CT.of (by decide +kernel) (Nat.le_of_ble_eq_true rfl) ?_
  intro p e s m below meth c ls hC hr hlk hI hl
  have hC : Cx p c cX7_finds 2 s m [.ref (a (49)), .int (J (-1000000001))].toArray RX7 X B := hC
  have hl : lv_has ls 2 [(0, .ref (a (49))), (1, .int (J (-1000000001)))] := hl
  refine r_aload_n hC hl dX7_finds_0 0 rfl ?_
  refine g_mo  (v := .ref (a (51))) hC hI 1 (by decide) fl_RX7_13 rfl rfl dX7_finds_1 ?_
  refine r_ldc (x := (-1000000001)) hC ct_RX7_44 (by decide) dX7_finds_4 ?_
  refine r_iload_n hC hl dX7_finds_6 1 rfl ?_
  refine r_isub hC dX7_finds_7 ?_
  refine r_dup2 hC rfl rfl dX7_finds_8 ?_
  refine r_iald (cx := 51) (n := 7) (f := (fun S => S 21) (S)) (v := S 21 (((-1000000001) - (-1000000001)).toNat)) hC hI (by decide) rfl (by decide) (((-1000000001) - (-1000000001)).toNat) (by omega) (by omega) rfl dX7_finds_9 ?_
  refine r_iconst hC dX7_finds_10 ?_
  refine r_iadd hC dX7_finds_11 ?_
  refine r_iast (cx := 51) (n := 7) (F := fun S => S 21) hC hI (by decide) (fun _ => rfl) (by decide) (((-1000000001) - (-1000000001)).toNat) (by omega) (by omega) (b := 21) (j := ((-1000000001) - (-1000000001)).toNat) rfl (fun q => by simp [up, setB, upR]) dX7_finds_12 (fun H locs hI => ?_)
  refine r_iload_n hC hl dX7_finds_13 1 rfl ?_
  exact r_iret hC hr hlk hI (by omega) (rfl) dX7_finds_14

set_option maxHeartbeats 4000000 in
set_option maxRecDepth 100000 in
theorem c_X7_finds1 (l : Launch) (X : XT) (a : Nat → Nat) (B : Nat) (S : St)   : CT l X a B 0 yX7_finds cX7_finds 2 (some .int) [.ref (a (49)), .int (J (-1000000002))] S (Qi X a B ((-1000000001) - ((1 : Nat) : Int)) (up S 21 1 (S 21 1 + 1))) := by
  refine CT.of (by decide +kernel) (Nat.le_of_ble_eq_true rfl) ?_
  intro p e s m below meth c ls hC hr hlk hI hl
  have hC : Cx p c cX7_finds 2 s m [.ref (a (49)), .int (J (-1000000002))].toArray RX7 X B := hC
  have hl : lv_has ls 2 [(0, .ref (a (49))), (1, .int (J (-1000000002)))] := hl
  refine r_aload_n hC hl dX7_finds_0 0 rfl ?_
  refine g_mo  (v := .ref (a (51))) hC hI 1 (by decide) fl_RX7_13 rfl rfl dX7_finds_1 ?_
  refine r_ldc (x := (-1000000001)) hC ct_RX7_44 (by decide) dX7_finds_4 ?_
  refine r_iload_n hC hl dX7_finds_6 1 rfl ?_
  refine r_isub hC dX7_finds_7 ?_
  refine r_dup2 hC rfl rfl dX7_finds_8 ?_
  refine r_iald (cx := 51) (n := 7) (f := (fun S => S 21) (S)) (v := S 21 (((-1000000001) - (-1000000002)).toNat)) hC hI (by decide) rfl (by decide) (((-1000000001) - (-1000000002)).toNat) (by omega) (by omega) rfl dX7_finds_9 ?_
  refine r_iconst hC dX7_finds_10 ?_
  refine r_iadd hC dX7_finds_11 ?_
  refine r_iast (cx := 51) (n := 7) (F := fun S => S 21) hC hI (by decide) (fun _ => rfl) (by decide) (((-1000000001) - (-1000000002)).toNat) (by omega) (by omega) (b := 21) (j := ((-1000000001) - (-1000000002)).toNat) rfl (fun q => by simp [up, setB, upR]) dX7_finds_12 (fun H locs hI => ?_)
  refine r_iload_n hC hl dX7_finds_13 1 rfl ?_
  exact r_iret hC hr hlk hI (by omega) (rfl) dX7_finds_14

set_option maxHeartbeats 4000000 in
set_option maxRecDepth 100000 in
theorem c_X7_finds2 (l : Launch) (X : XT) (a : Nat → Nat) (B : Nat) (S : St)   : CT l X a B 0 yX7_finds cX7_finds 2 (some .int) [.ref (a (49)), .int (J (-1000000003))] S (Qi X a B ((-1000000001) - ((2 : Nat) : Int)) (up S 21 2 (S 21 2 + 1))) := by
  refine CT.of (by decide +kernel) (Nat.le_of_ble_eq_true rfl) ?_
  intro p e s m below meth c ls hC hr hlk hI hl
  have hC : Cx p c cX7_finds 2 s m [.ref (a (49)), .int (J (-1000000003))].toArray RX7 X B := hC
  have hl : lv_has ls 2 [(0, .ref (a (49))), (1, .int (J (-1000000003)))] := hl
  refine r_aload_n hC hl dX7_finds_0 0 rfl ?_
  refine g_mo  (v := .ref (a (51))) hC hI 1 (by decide) fl_RX7_13 rfl rfl dX7_finds_1 ?_
  refine r_ldc (x := (-1000000001)) hC ct_RX7_44 (by decide) dX7_finds_4 ?_
  refine r_iload_n hC hl dX7_finds_6 1 rfl ?_
  refine r_isub hC dX7_finds_7 ?_
  refine r_dup2 hC rfl rfl dX7_finds_8 ?_
  refine r_iald (cx := 51) (n := 7) (f := (fun S => S 21) (S)) (v := S 21 (((-1000000001) - (-1000000003)).toNat)) hC hI (by decide) rfl (by decide) (((-1000000001) - (-1000000003)).toNat) (by omega) (by omega) rfl dX7_finds_9 ?_
  refine r_iconst hC dX7_finds_10 ?_
  refine r_iadd hC dX7_finds_11 ?_
  refine r_iast (cx := 51) (n := 7) (F := fun S => S 21) hC hI (by decide) (fun _ => rfl) (by decide) (((-1000000001) - (-1000000003)).toNat) (by omega) (by omega) (b := 21) (j := ((-1000000001) - (-1000000003)).toNat) rfl (fun q => by simp [up, setB, upR]) dX7_finds_12 (fun H locs hI => ?_)
  refine r_iload_n hC hl dX7_finds_13 1 rfl ?_
  exact r_iret hC hr hlk hI (by omega) (rfl) dX7_finds_14

set_option maxHeartbeats 4000000 in
set_option maxRecDepth 100000 in
theorem c_X7_finds3 (l : Launch) (X : XT) (a : Nat → Nat) (B : Nat) (S : St)   : CT l X a B 0 yX7_finds cX7_finds 2 (some .int) [.ref (a (49)), .int (J (-1000000004))] S (Qi X a B ((-1000000001) - ((3 : Nat) : Int)) (up S 21 3 (S 21 3 + 1))) := by
  refine CT.of (by decide +kernel) (Nat.le_of_ble_eq_true rfl) ?_
  intro p e s m below meth c ls hC hr hlk hI hl
  have hC : Cx p c cX7_finds 2 s m [.ref (a (49)), .int (J (-1000000004))].toArray RX7 X B := hC
  have hl : lv_has ls 2 [(0, .ref (a (49))), (1, .int (J (-1000000004)))] := hl
  refine r_aload_n hC hl dX7_finds_0 0 rfl ?_
  refine g_mo  (v := .ref (a (51))) hC hI 1 (by decide) fl_RX7_13 rfl rfl dX7_finds_1 ?_
  refine r_ldc (x := (-1000000001)) hC ct_RX7_44 (by decide) dX7_finds_4 ?_
  refine r_iload_n hC hl dX7_finds_6 1 rfl ?_
  refine r_isub hC dX7_finds_7 ?_
  refine r_dup2 hC rfl rfl dX7_finds_8 ?_
  refine r_iald (cx := 51) (n := 7) (f := (fun S => S 21) (S)) (v := S 21 (((-1000000001) - (-1000000004)).toNat)) hC hI (by decide) rfl (by decide) (((-1000000001) - (-1000000004)).toNat) (by omega) (by omega) rfl dX7_finds_9 ?_
  refine r_iconst hC dX7_finds_10 ?_
  refine r_iadd hC dX7_finds_11 ?_
  refine r_iast (cx := 51) (n := 7) (F := fun S => S 21) hC hI (by decide) (fun _ => rfl) (by decide) (((-1000000001) - (-1000000004)).toNat) (by omega) (by omega) (b := 21) (j := ((-1000000001) - (-1000000004)).toNat) rfl (fun q => by simp [up, setB, upR]) dX7_finds_12 (fun H locs hI => ?_)
  refine r_iload_n hC hl dX7_finds_13 1 rfl ?_
  exact r_iret hC hr hlk hI (by omega) (rfl) dX7_finds_14

set_option maxHeartbeats 4000000 in
set_option maxRecDepth 100000 in
theorem c_X7_finds4 (l : Launch) (X : XT) (a : Nat → Nat) (B : Nat) (S : St)   : CT l X a B 0 yX7_finds cX7_finds 2 (some .int) [.ref (a (49)), .int (J (-1000000005))] S (Qi X a B ((-1000000001) - ((4 : Nat) : Int)) (up S 21 4 (S 21 4 + 1))) := by
  refine CT.of (by decide +kernel) (Nat.le_of_ble_eq_true rfl) ?_
  intro p e s m below meth c ls hC hr hlk hI hl
  have hC : Cx p c cX7_finds 2 s m [.ref (a (49)), .int (J (-1000000005))].toArray RX7 X B := hC
  have hl : lv_has ls 2 [(0, .ref (a (49))), (1, .int (J (-1000000005)))] := hl
  refine r_aload_n hC hl dX7_finds_0 0 rfl ?_
  refine g_mo  (v := .ref (a (51))) hC hI 1 (by decide) fl_RX7_13 rfl rfl dX7_finds_1 ?_
  refine r_ldc (x := (-1000000001)) hC ct_RX7_44 (by decide) dX7_finds_4 ?_
  refine r_iload_n hC hl dX7_finds_6 1 rfl ?_
  refine r_isub hC dX7_finds_7 ?_
  refine r_dup2 hC rfl rfl dX7_finds_8 ?_
  refine r_iald (cx := 51) (n := 7) (f := (fun S => S 21) (S)) (v := S 21 (((-1000000001) - (-1000000005)).toNat)) hC hI (by decide) rfl (by decide) (((-1000000001) - (-1000000005)).toNat) (by omega) (by omega) rfl dX7_finds_9 ?_
  refine r_iconst hC dX7_finds_10 ?_
  refine r_iadd hC dX7_finds_11 ?_
  refine r_iast (cx := 51) (n := 7) (F := fun S => S 21) hC hI (by decide) (fun _ => rfl) (by decide) (((-1000000001) - (-1000000005)).toNat) (by omega) (by omega) (b := 21) (j := ((-1000000001) - (-1000000005)).toNat) rfl (fun q => by simp [up, setB, upR]) dX7_finds_12 (fun H locs hI => ?_)
  refine r_iload_n hC hl dX7_finds_13 1 rfl ?_
  exact r_iret hC hr hlk hI (by omega) (rfl) dX7_finds_14

set_option maxHeartbeats 4000000 in
set_option maxRecDepth 100000 in
theorem c_X7_finds5 (l : Launch) (X : XT) (a : Nat → Nat) (B : Nat) (S : St)   : CT l X a B 0 yX7_finds cX7_finds 2 (some .int) [.ref (a (49)), .int (J (-1000000006))] S (Qi X a B ((-1000000001) - ((5 : Nat) : Int)) (up S 21 5 (S 21 5 + 1))) := by
  refine CT.of (by decide +kernel) (Nat.le_of_ble_eq_true rfl) ?_
  intro p e s m below meth c ls hC hr hlk hI hl
  have hC : Cx p c cX7_finds 2 s m [.ref (a (49)), .int (J (-1000000006))].toArray RX7 X B := hC
  have hl : lv_has ls 2 [(0, .ref (a (49))), (1, .int (J (-1000000006)))] := hl
  refine r_aload_n hC hl dX7_finds_0 0 rfl ?_
  refine g_mo  (v := .ref (a (51))) hC hI 1 (by decide) fl_RX7_13 rfl rfl dX7_finds_1 ?_
  refine r_ldc (x := (-1000000001)) hC ct_RX7_44 (by decide) dX7_finds_4 ?_
  refine r_iload_n hC hl dX7_finds_6 1 rfl ?_
  refine r_isub hC dX7_finds_7 ?_
  refine r_dup2 hC rfl rfl dX7_finds_8 ?_
  refine r_iald (cx := 51) (n := 7) (f := (fun S => S 21) (S)) (v := S 21 (((-1000000001) - (-1000000006)).toNat)) hC hI (by decide) rfl (by decide) (((-1000000001) - (-1000000006)).toNat) (by omega) (by omega) rfl dX7_finds_9 ?_
  refine r_iconst hC dX7_finds_10 ?_
  refine r_iadd hC dX7_finds_11 ?_
  refine r_iast (cx := 51) (n := 7) (F := fun S => S 21) hC hI (by decide) (fun _ => rfl) (by decide) (((-1000000001) - (-1000000006)).toNat) (by omega) (by omega) (b := 21) (j := ((-1000000001) - (-1000000006)).toNat) rfl (fun q => by simp [up, setB, upR]) dX7_finds_12 (fun H locs hI => ?_)
  refine r_iload_n hC hl dX7_finds_13 1 rfl ?_
  exact r_iret hC hr hlk hI (by omega) (rfl) dX7_finds_14

set_option maxHeartbeats 4000000 in
set_option maxRecDepth 100000 in
theorem c_X7_finds6 (l : Launch) (X : XT) (a : Nat → Nat) (B : Nat) (S : St)   : CT l X a B 0 yX7_finds cX7_finds 2 (some .int) [.ref (a (49)), .int (J (-1000000007))] S (Qi X a B ((-1000000001) - ((6 : Nat) : Int)) (up S 21 6 (S 21 6 + 1))) := by
  refine CT.of (by decide +kernel) (Nat.le_of_ble_eq_true rfl) ?_
  intro p e s m below meth c ls hC hr hlk hI hl
  have hC : Cx p c cX7_finds 2 s m [.ref (a (49)), .int (J (-1000000007))].toArray RX7 X B := hC
  have hl : lv_has ls 2 [(0, .ref (a (49))), (1, .int (J (-1000000007)))] := hl
  refine r_aload_n hC hl dX7_finds_0 0 rfl ?_
  refine g_mo  (v := .ref (a (51))) hC hI 1 (by decide) fl_RX7_13 rfl rfl dX7_finds_1 ?_
  refine r_ldc (x := (-1000000001)) hC ct_RX7_44 (by decide) dX7_finds_4 ?_
  refine r_iload_n hC hl dX7_finds_6 1 rfl ?_
  refine r_isub hC dX7_finds_7 ?_
  refine r_dup2 hC rfl rfl dX7_finds_8 ?_
  refine r_iald (cx := 51) (n := 7) (f := (fun S => S 21) (S)) (v := S 21 (((-1000000001) - (-1000000007)).toNat)) hC hI (by decide) rfl (by decide) (((-1000000001) - (-1000000007)).toNat) (by omega) (by omega) rfl dX7_finds_9 ?_
  refine r_iconst hC dX7_finds_10 ?_
  refine r_iadd hC dX7_finds_11 ?_
  refine r_iast (cx := 51) (n := 7) (F := fun S => S 21) hC hI (by decide) (fun _ => rfl) (by decide) (((-1000000001) - (-1000000007)).toNat) (by omega) (by omega) (b := 21) (j := ((-1000000001) - (-1000000007)).toNat) rfl (fun q => by simp [up, setB, upR]) dX7_finds_12 (fun H locs hI => ?_)
  refine r_iload_n hC hl dX7_finds_13 1 rfl ?_
  exact r_iret hC hr hlk hI (by omega) (rfl) dX7_finds_14

set_option maxHeartbeats 4000000 in
set_option maxRecDepth 100000 in
theorem c_X7_mostOf (l : Launch) (X : XT) (a : Nat → Nat) (B : Nat) (S : St) (w : Int) (hw : 0 ≤ w ∧ w ≤ 3) : CT l X a B 0 yX7_mostOf cX7_mostOf 1 (some .int) [.int (J w)] S (Qi X a B (mjF w) (S)) := by
  refine CT.of (by decide +kernel) (Nat.le_of_ble_eq_true rfl) ?_
  intro p e s m below meth c ls hC hr hlk hI hl
  have hC : Cx p c cX7_mostOf 1 s m [.int (J w)].toArray RX7 X B := hC
  have hl : lv_has ls 1 [(0, .int (J w))] := hl
  refine r_iload_n hC hl dX7_mostOf_0 0 rfl ?_
  refine r_iconst hC dX7_mostOf_1 ?_
  refine r_icmp_ne (tgt := 10) hC (by omega) (by omega) dX7_mostOf_2 (by decide) (fun c_1 => ?_) (fun c_1 => ?_)
  · skip
    refine r_iload_n hC hl dX7_mostOf_10 0 rfl ?_
    refine r_iconst hC dX7_mostOf_11 ?_
    refine r_icmp_ne (tgt := 21) hC (by omega) (by omega) dX7_mostOf_12 (by decide) (fun c_2 => ?_) (fun c_2 => ?_)
    · skip
      refine r_bipush hC (by decide) dX7_mostOf_21 ?_
      exact r_iret hC hr hlk hI (by unfold mjF; (repeat' split) <;> omega) (rfl) dX7_mostOf_23
    · skip
      refine r_sipush hC (by decide) dX7_mostOf_15 ?_
      refine r_goto (tgt := 23) hC dX7_mostOf_18 (by decide) ?_
      exact r_iret hC hr hlk hI (by unfold mjF; (repeat' split) <;> omega) (rfl) dX7_mostOf_23
  · skip
    refine r_bipush hC (by decide) dX7_mostOf_5 ?_
    refine r_goto (tgt := 23) hC dX7_mostOf_7 (by decide) ?_
    exact r_iret hC hr hlk hI (by unfold mjF; (repeat' split) <;> omega) (rfl) dX7_mostOf_23

set_option maxHeartbeats 4000000 in
set_option maxRecDepth 100000 in
theorem c_X7_darkNow (l : Launch) (X : XT) (a : Nat → Nat) (B : Nat) (S : St)  (hN : 0 ≤ S 20 0 ∧ S 20 0 ≤ 1000000) : CT l X a B 0 yX7_darkNow cX7_darkNow 1 (some .int) [.ref (a (49))] S (Qi X a B (dkF (S 20) 0) (S)) := by
  refine CT.of (by decide +kernel) (Nat.le_of_ble_eq_true rfl) ?_
  intro p e s m below meth c ls hC hr hlk hI hl
  have hC : Cx p c cX7_darkNow 1 s m [.ref (a (49))].toArray RX7 X B := hC
  have hl : lv_has ls 1 [(0, .ref (a (49)))] := hl
  refine r_aload_n hC hl dX7_darkNow_0 0 rfl ?_
  refine g_mo  (v := .ref (a (50))) hC hI 0 (by decide) fl_RX7_7 rfl rfl dX7_darkNow_1 ?_
  refine r_bipush hC (by decide) dX7_darkNow_4 ?_
  refine r_aload_n hC hl dX7_darkNow_6 0 rfl ?_
  refine g_mo  (v := .ref (a (50))) hC hI 0 (by decide) fl_RX7_7 rfl rfl dX7_darkNow_7 ?_
  refine r_iconst hC dX7_darkNow_10 ?_
  refine r_iald (cx := 50) (n := 58) (f := (fun S => S 20) (S)) (v := S 20 0) hC hI (by decide) rfl (by decide) (0) (by omega) (by omega) rfl dX7_darkNow_11 ?_
  refine r_bipush hC (by decide) dX7_darkNow_12 ?_
  refine r_irem hC (by omega) (by omega) dX7_darkNow_14 ?_
  refine r_iadd hC dX7_darkNow_15 ?_
  refine r_iald (cx := 50) (n := 58) (f := (fun S => S 20) (S)) (v := S 20 ((6 + ((S 20 0) % 12)).toNat)) hC hI (by decide) rfl (by decide) ((6 + ((S 20 0) % 12)).toNat) (by omega) (by omega) rfl dX7_darkNow_16 ?_
  exact r_iret hC hr hlk hI (by unfold dkF; congr 1; omega) (rfl) dX7_darkNow_17

set_option maxHeartbeats 4000000 in
set_option maxRecDepth 100000 in
theorem c_X7_fades (l : Launch) (X : XT) (a : Nat → Nat) (B : Nat) (S : St) (i : Nat) (hi : i < 8) (hV : VP (S 20) i) : CT l X a B 1 yX7_fades cX7_fades 3 (some .int) [.ref (a (49)), .int (J (i : Int))] S (Qi X a B (fdP (S 20) i) (S)) := by
  refine CT.of (by decide +kernel) (Nat.le_of_ble_eq_true rfl) ?_
  intro p e s m below meth c ls hC hr hlk hI hl
  have hC : Cx p c cX7_fades 3 s m [.ref (a (49)), .int (J (i : Int))].toArray RX7 X B := hC
  have hl : lv_has ls 3 [(0, .ref (a (49))), (1, .int (J (i : Int)))] := hl
  obtain ⟨h18, h19, h20, h21, h22⟩ := id hV
  refine r_aload_n hC hl dX7_fades_0 0 rfl ?_
  refine r_iload_n hC hl dX7_fades_1 1 rfl ?_
  refine r_iconst hC dX7_fades_2 ?_
  refine r_cVi hC hI hl [.int (J (i : Int)), .int (J 3)] [] (c_X7_its3 l X a B S i (by omega)) ml_RX7_64 ev_X7_its (rc_mo (S := S) hC hI) ⟨Nat.le_of_ble_eq_true rfl, Nat.le_of_ble_eq_true rfl⟩ ⟨Nat.zero_le _, Nat.zero_le _⟩ (Nat.le_of_ble_eq_true rfl) rfl dX7_fades_3 (fun H locs hI => ?_)
  refine r_iconst hC dX7_fades_6 ?_
  refine r_icmp_ne (tgt := 15) hC (by omega) (by omega) dX7_fades_7 (by decide) (fun c_1 => ?_) (fun c_1 => ?_)
  · skip
    refine r_iconst hC dX7_fades_15 ?_
    refine r_istore_n (lv1 := [(2, .int (J 0)), (0, .ref (a (49))), (1, .int (J (i : Int)))]) hC hl dX7_fades_16 2 rfl (by decide) rfl (fun ls hl => ?_)
    refine r_aload_n hC hl dX7_fades_17 1 rfl ?_
    refine r_iload_n hC hl dX7_fades_18 2 rfl ?_
    refine r_iconst hC dX7_fades_19 ?_
    refine r_cVi hC hI hl [.int (J (i : Int)), .int (J 0)] [] (c_X7_its0 l X a B S i (by omega)) ml_RX7_64 ev_X7_its (rc_mo (S := S) hC hI) ⟨Nat.le_of_ble_eq_true rfl, Nat.le_of_ble_eq_true rfl⟩ ⟨Nat.zero_le _, Nat.zero_le _⟩ (Nat.le_of_ble_eq_true rfl) rfl dX7_fades_20 (fun H locs hI => ?_)
    by_cases c_2 : S 20 (18 + 5 * i) = 1
    · refine r_tin (tgt := 56) hC 1 c_2 (by decide) dX7_fades_23 (by decide) (by decide) rfl (by decide) ?_
      refine r_iload_n hC hl dX7_fades_56 0 rfl ?_
      refine r_iconst hC dX7_fades_57 ?_
      refine r_idiv hC (by omega) (by omega) dX7_fades_58 ?_
      exact r_iret hC hr hlk hI (by simp only [fdP, fdF]; (repeat' split) <;> omega) (rfl) dX7_fades_59
    by_cases c_3 : S 20 (18 + 5 * i) = 2
    · refine r_tin (tgt := 77) hC 2 c_3 (by decide) dX7_fades_23 (by decide) (by decide) rfl (by decide) ?_
      refine r_iload_n hC hl dX7_fades_77 0 rfl ?_
      refine r_iconst hC dX7_fades_78 ?_
      refine r_iadd hC dX7_fades_79 ?_
      exact r_iret hC hr hlk hI (by simp only [fdP, fdF]; (repeat' split) <;> omega) (rfl) dX7_fades_80
    by_cases c_4 : S 20 (18 + 5 * i) = 4
    · refine r_tin (tgt := 60) hC 4 c_4 (by decide) dX7_fades_23 (by decide) (by decide) rfl (by decide) ?_
      refine r_aload_n hC hl dX7_fades_60 1 rfl ?_
      refine r_iload_n hC hl dX7_fades_61 2 rfl ?_
      refine r_iconst hC dX7_fades_62 ?_
      refine r_cVi hC hI hl [.int (J (i : Int)), .int (J 4)] [] (c_X7_its4 l X a B S i (by omega)) ml_RX7_64 ev_X7_its (rc_mo (S := S) hC hI) ⟨Nat.le_of_ble_eq_true rfl, Nat.le_of_ble_eq_true rfl⟩ ⟨Nat.zero_le _, Nat.zero_le _⟩ (Nat.le_of_ble_eq_true rfl) rfl dX7_fades_63 (fun H locs hI => ?_)
      refine r_if_ne (tgt := 73) hC (by omega) dX7_fades_66 (by decide) (fun c_5 => ?_) (fun c_5 => ?_)
      · skip
        refine r_iload_n hC hl dX7_fades_73 0 rfl ?_
        refine r_iconst hC dX7_fades_74 ?_
        refine r_idiv hC (by omega) (by omega) dX7_fades_75 ?_
        exact r_iret hC hr hlk hI (by simp only [fdP, fdF]; (repeat' split) <;> omega) (rfl) dX7_fades_76
      · skip
        refine r_iconst hC dX7_fades_69 ?_
        refine r_goto (tgt := 76) hC dX7_fades_70 (by decide) ?_
        exact r_iret hC hr hlk hI (by simp only [fdP, fdF]; (repeat' split) <;> omega) (rfl) dX7_fades_76
    by_cases c_6 : S 20 (18 + 5 * i) = 5
    · refine r_tin (tgt := 81) hC 5 c_6 (by decide) dX7_fades_23 (by decide) (by decide) rfl (by decide) ?_
      refine r_iload_n hC hl dX7_fades_81 0 rfl ?_
      refine r_iconst hC dX7_fades_82 ?_
      refine r_iadd hC dX7_fades_83 ?_
      refine r_aload_n hC hl dX7_fades_84 1 rfl ?_
      refine r_iload_n hC hl dX7_fades_85 2 rfl ?_
      refine r_iconst hC dX7_fades_86 ?_
      refine r_cVi hC hI hl [.int (J (i : Int)), .int (J 4)] [.int (J (0 + 1))] (c_X7_its4 l X a B S i (by omega)) ml_RX7_64 ev_X7_its (rc_mo (S := S) hC hI) ⟨Nat.le_of_ble_eq_true rfl, Nat.le_of_ble_eq_true rfl⟩ ⟨Nat.zero_le _, Nat.zero_le _⟩ (Nat.le_of_ble_eq_true rfl) rfl dX7_fades_87 (fun H locs hI => ?_)
      refine r_iconst hC dX7_fades_90 ?_
      refine r_idiv hC (by omega) (by omega) dX7_fades_91 ?_
      refine r_iadd hC dX7_fades_92 ?_
      exact r_iret hC hr hlk hI (by simp only [fdP, fdF]; (repeat' split) <;> omega) (rfl) dX7_fades_93
    by_cases c_7 : S 20 (18 + 5 * i) = 3
    · refine r_tin (tgt := 94) hC 3 c_7 (by decide) dX7_fades_23 (by decide) (by decide) rfl (by decide) ?_
      refine r_iload_n hC hl dX7_fades_94 0 rfl ?_
      exact r_iret hC hr hlk hI (by simp only [fdP, fdF]; (repeat' split) <;> omega) (rfl) dX7_fades_95
    refine r_tout (tgt := 94) hC (by omega) dX7_fades_23 (by omega) (by decide) ?_
    refine r_iload_n hC hl dX7_fades_94 0 rfl ?_
    exact r_iret hC hr hlk hI (by simp only [fdP, fdF]; (repeat' split) <;> omega) (rfl) dX7_fades_95
  · skip
    refine r_bipush hC (by decide) dX7_fades_10 ?_
    refine r_goto (tgt := 16) hC dX7_fades_12 (by decide) ?_
    refine r_istore_n (lv1 := [(2, .int (J 9)), (0, .ref (a (49))), (1, .int (J (i : Int)))]) hC hl dX7_fades_16 2 rfl (by decide) rfl (fun ls hl => ?_)
    refine r_aload_n hC hl dX7_fades_17 1 rfl ?_
    refine r_iload_n hC hl dX7_fades_18 2 rfl ?_
    refine r_iconst hC dX7_fades_19 ?_
    refine r_cVi hC hI hl [.int (J (i : Int)), .int (J 0)] [] (c_X7_its0 l X a B S i (by omega)) ml_RX7_64 ev_X7_its (rc_mo (S := S) hC hI) ⟨Nat.le_of_ble_eq_true rfl, Nat.le_of_ble_eq_true rfl⟩ ⟨Nat.zero_le _, Nat.zero_le _⟩ (Nat.le_of_ble_eq_true rfl) rfl dX7_fades_20 (fun H locs hI => ?_)
    by_cases c_8 : S 20 (18 + 5 * i) = 1
    · refine r_tin (tgt := 56) hC 1 c_8 (by decide) dX7_fades_23 (by decide) (by decide) rfl (by decide) ?_
      refine r_iload_n hC hl dX7_fades_56 0 rfl ?_
      refine r_iconst hC dX7_fades_57 ?_
      refine r_idiv hC (by omega) (by omega) dX7_fades_58 ?_
      exact r_iret hC hr hlk hI (by simp only [fdP, fdF]; (repeat' split) <;> omega) (rfl) dX7_fades_59
    by_cases c_9 : S 20 (18 + 5 * i) = 2
    · refine r_tin (tgt := 77) hC 2 c_9 (by decide) dX7_fades_23 (by decide) (by decide) rfl (by decide) ?_
      refine r_iload_n hC hl dX7_fades_77 0 rfl ?_
      refine r_iconst hC dX7_fades_78 ?_
      refine r_iadd hC dX7_fades_79 ?_
      exact r_iret hC hr hlk hI (by simp only [fdP, fdF]; (repeat' split) <;> omega) (rfl) dX7_fades_80
    by_cases c_10 : S 20 (18 + 5 * i) = 4
    · refine r_tin (tgt := 60) hC 4 c_10 (by decide) dX7_fades_23 (by decide) (by decide) rfl (by decide) ?_
      refine r_aload_n hC hl dX7_fades_60 1 rfl ?_
      refine r_iload_n hC hl dX7_fades_61 2 rfl ?_
      refine r_iconst hC dX7_fades_62 ?_
      refine r_cVi hC hI hl [.int (J (i : Int)), .int (J 4)] [] (c_X7_its4 l X a B S i (by omega)) ml_RX7_64 ev_X7_its (rc_mo (S := S) hC hI) ⟨Nat.le_of_ble_eq_true rfl, Nat.le_of_ble_eq_true rfl⟩ ⟨Nat.zero_le _, Nat.zero_le _⟩ (Nat.le_of_ble_eq_true rfl) rfl dX7_fades_63 (fun H locs hI => ?_)
      refine r_if_ne (tgt := 73) hC (by omega) dX7_fades_66 (by decide) (fun c_11 => ?_) (fun c_11 => ?_)
      · skip
        refine r_iload_n hC hl dX7_fades_73 0 rfl ?_
        refine r_iconst hC dX7_fades_74 ?_
        refine r_idiv hC (by omega) (by omega) dX7_fades_75 ?_
        exact r_iret hC hr hlk hI (by simp only [fdP, fdF]; (repeat' split) <;> omega) (rfl) dX7_fades_76
      · skip
        refine r_iconst hC dX7_fades_69 ?_
        refine r_goto (tgt := 76) hC dX7_fades_70 (by decide) ?_
        exact r_iret hC hr hlk hI (by simp only [fdP, fdF]; (repeat' split) <;> omega) (rfl) dX7_fades_76
    by_cases c_12 : S 20 (18 + 5 * i) = 5
    · refine r_tin (tgt := 81) hC 5 c_12 (by decide) dX7_fades_23 (by decide) (by decide) rfl (by decide) ?_
      refine r_iload_n hC hl dX7_fades_81 0 rfl ?_
      refine r_iconst hC dX7_fades_82 ?_
      refine r_iadd hC dX7_fades_83 ?_
      refine r_aload_n hC hl dX7_fades_84 1 rfl ?_
      refine r_iload_n hC hl dX7_fades_85 2 rfl ?_
      refine r_iconst hC dX7_fades_86 ?_
      refine r_cVi hC hI hl [.int (J (i : Int)), .int (J 4)] [.int (J (9 + 1))] (c_X7_its4 l X a B S i (by omega)) ml_RX7_64 ev_X7_its (rc_mo (S := S) hC hI) ⟨Nat.le_of_ble_eq_true rfl, Nat.le_of_ble_eq_true rfl⟩ ⟨Nat.zero_le _, Nat.zero_le _⟩ (Nat.le_of_ble_eq_true rfl) rfl dX7_fades_87 (fun H locs hI => ?_)
      refine r_iconst hC dX7_fades_90 ?_
      refine r_idiv hC (by omega) (by omega) dX7_fades_91 ?_
      refine r_iadd hC dX7_fades_92 ?_
      exact r_iret hC hr hlk hI (by simp only [fdP, fdF]; (repeat' split) <;> omega) (rfl) dX7_fades_93
    by_cases c_13 : S 20 (18 + 5 * i) = 3
    · refine r_tin (tgt := 94) hC 3 c_13 (by decide) dX7_fades_23 (by decide) (by decide) rfl (by decide) ?_
      refine r_iload_n hC hl dX7_fades_94 0 rfl ?_
      exact r_iret hC hr hlk hI (by simp only [fdP, fdF]; (repeat' split) <;> omega) (rfl) dX7_fades_95
    refine r_tout (tgt := 94) hC (by omega) dX7_fades_23 (by omega) (by decide) ?_
    refine r_iload_n hC hl dX7_fades_94 0 rfl ?_
    exact r_iret hC hr hlk hI (by simp only [fdP, fdF]; (repeat' split) <;> omega) (rfl) dX7_fades_95

def b0F (R : Nat → Int) (i : Nat) : Int := blF (R (18 + 5 * i)) (R (20 + 5 * i)) (R (22 + 5 * i)) (R 4)
theorem b0_eq {R : Nat → Int} {i : Nat} (hV : VP R i) : b0F R i = blP R i 0 (R 4) := by
  unfold b0F blP blA fadedF
  rw [Int.zero_mul, Int.sub_zero, show mxF 0 (R (20 + 5 * i)) = R (20 + 5 * i) from by have h := hV.2.2.1; unfold mxF; split <;> omega]
theorem b0_rg {R : Nat → Int} {i : Nat} (hV : VP R i) (hw : 0 ≤ R 4 ∧ R 4 ≤ 9) : 0 ≤ b0F R i ∧ b0F R i ≤ 300 := bl_rg hV.2.2.1 hV.2.2.2.2 hw

set_option maxHeartbeats 4000000 in
set_option maxRecDepth 100000 in
theorem c_X7_believed (l : Launch) (X : XT) (a : Nat → Nat) (B : Nat) (S : St) (i : Nat) (hi : i < 8) (hV : VP (S 20) i) (hL : 0 ≤ S 20 4 ∧ S 20 4 ≤ 9) : CT l X a B 1 yX7_believed cX7_believed 7 (some .int) [.ref (a (49)), .int (J (i : Int))] S (Qi X a B (b0F (S 20) i) (S)) := by
  refine CT.of (by decide +kernel) (Nat.le_of_ble_eq_true rfl) ?_
  intro p e s m below meth c ls hC hr hlk hI hl
  have hC : Cx p c cX7_believed 7 s m [.ref (a (49)), .int (J (i : Int))].toArray RX7 X B := hC
  have hl : lv_has ls 7 [(0, .ref (a (49))), (1, .int (J (i : Int)))] := hl
  obtain ⟨h18, h19, h20, h21, h22⟩ := id hV
  have hbl := mul_bd h20 hL
  refine r_aload_n hC hl dX7_believed_0 0 rfl ?_
  refine r_iload_n hC hl dX7_believed_1 1 rfl ?_
  refine r_iconst hC dX7_believed_2 ?_
  refine r_cVi hC hI hl [.int (J (i : Int)), .int (J 2)] [] (c_X7_its2 l X a B S i (by omega)) ml_RX7_64 ev_X7_its (rc_mo (S := S) hC hI) ⟨Nat.le_of_ble_eq_true rfl, Nat.le_of_ble_eq_true rfl⟩ ⟨Nat.zero_le _, Nat.zero_le _⟩ (Nat.le_of_ble_eq_true rfl) rfl dX7_believed_3 (fun H locs hI => ?_)
  refine r_istore_n (lv1 := [(2, .int (J (S 20 (20 + 5 * i)))), (0, .ref (a (49))), (1, .int (J (i : Int)))]) hC hl dX7_believed_6 2 rfl (by decide) rfl (fun ls hl => ?_)
  refine r_aload_n hC hl dX7_believed_7 1 rfl ?_
  refine g_mo  (v := .ref (a (50))) hC hI 0 (by decide) fl_RX7_7 rfl rfl dX7_believed_8 ?_
  refine r_iconst hC dX7_believed_11 ?_
  refine r_iald (cx := 50) (n := 58) (f := (fun S => S 20) (S)) (v := S 20 4) hC hI (by decide) rfl (by decide) (4) (by omega) (by omega) rfl dX7_believed_12 ?_
  refine r_istore_n (lv1 := [(3, .int (J (S 20 4))), (2, .int (J (S 20 (20 + 5 * i)))), (0, .ref (a (49))), (1, .int (J (i : Int)))]) hC hl dX7_believed_13 3 rfl (by decide) rfl (fun ls hl => ?_)
  refine r_iload_n hC hl dX7_believed_14 1 rfl ?_
  refine r_if_ne (tgt := 20) hC (by omega) dX7_believed_15 (by decide) (fun c_1 => ?_) (fun c_1 => ?_)
  · skip
    refine r_iload_n hC hl dX7_believed_20 1 rfl ?_
    refine r_iload_n hC hl dX7_believed_21 0 rfl ?_
    refine r_imul hC dX7_believed_22 ?_
    refine r_bipush hC (by decide) dX7_believed_23 ?_
    refine r_idiv hC (by omega) (by omega) dX7_believed_25 ?_
    refine r_istore (lv1 := [(4, .int (J (((S 20 (20 + 5 * i)) * (S 20 4)) / 9))), (3, .int (J (S 20 4))), (2, .int (J (S 20 (20 + 5 * i)))), (0, .ref (a (49))), (1, .int (J (i : Int)))]) hC hl dX7_believed_26 (by decide) rfl (fun ls hl => ?_)
    refine r_iload_n hC hl dX7_believed_28 2 rfl ?_
    refine r_bipush hC (by decide) dX7_believed_29 ?_
    refine r_icmp_le (tgt := 41) hC (by omega) (by omega) dX7_believed_31 (by decide) (fun c_2 => ?_) (fun c_2 => ?_)
    · skip
      refine r_iload hC hl dX7_believed_41 0 rfl ?_
      refine r_istore (lv1 := [(5, .int (J (((S 20 (20 + 5 * i)) * (S 20 4)) / 9))), (4, .int (J (((S 20 (20 + 5 * i)) * (S 20 4)) / 9))), (3, .int (J (S 20 4))), (2, .int (J (S 20 (20 + 5 * i)))), (0, .ref (a (49))), (1, .int (J (i : Int)))]) hC hl dX7_believed_43 (by decide) rfl (fun ls hl => ?_)
      refine r_iload hC hl dX7_believed_45 1 rfl ?_
      refine r_aload_n hC hl dX7_believed_47 4 rfl ?_
      refine r_iload_n hC hl dX7_believed_48 5 rfl ?_
      refine r_iconst hC dX7_believed_49 ?_
      refine r_cVi hC hI hl [.int (J (i : Int)), .int (J 4)] [.int (J (((S 20 (20 + 5 * i)) * (S 20 4)) / 9))] (c_X7_its4 l X a B S i (by omega)) ml_RX7_64 ev_X7_its (rc_mo (S := S) hC hI) ⟨Nat.le_of_ble_eq_true rfl, Nat.le_of_ble_eq_true rfl⟩ ⟨Nat.zero_le _, Nat.zero_le _⟩ (Nat.le_of_ble_eq_true rfl) rfl dX7_believed_50 (fun H locs hI => ?_)
      refine r_icmp_le (tgt := 68) hC (by omega) (by omega) dX7_believed_53 (by decide) (fun c_3 => ?_) (fun c_3 => ?_)
      · skip
        refine r_iconst hC dX7_believed_68 ?_
        refine r_istore (lv1 := [(6, .int (J 0)), (5, .int (J (((S 20 (20 + 5 * i)) * (S 20 4)) / 9))), (4, .int (J (((S 20 (20 + 5 * i)) * (S 20 4)) / 9))), (3, .int (J (S 20 4))), (2, .int (J (S 20 (20 + 5 * i)))), (0, .ref (a (49))), (1, .int (J (i : Int)))]) hC hl dX7_believed_69 (by decide) rfl (fun ls hl => ?_)
        refine r_aload_n hC hl dX7_believed_71 5 rfl ?_
        refine r_iload_n hC hl dX7_believed_72 6 rfl ?_
        refine r_iconst hC dX7_believed_73 ?_
        refine r_cVi hC hI hl [.int (J (i : Int)), .int (J 0)] [] (c_X7_its0 l X a B S i (by omega)) ml_RX7_64 ev_X7_its (rc_mo (S := S) hC hI) ⟨Nat.le_of_ble_eq_true rfl, Nat.le_of_ble_eq_true rfl⟩ ⟨Nat.zero_le _, Nat.zero_le _⟩ (Nat.le_of_ble_eq_true rfl) rfl dX7_believed_74 (fun H locs hI => ?_)
        by_cases c_4 : S 20 (18 + 5 * i) = 1
        · refine r_tin (tgt := 112) hC 1 c_4 (by decide) dX7_believed_77 (by decide) (by decide) rfl (by decide) ?_
          refine r_iload hC hl dX7_believed_112 1 rfl ?_
          exact r_iret hC hr hlk hI (by simp only [b0F, blF, mxF]; (repeat' split) <;> omega) (rfl) dX7_believed_114
        by_cases c_5 : S 20 (18 + 5 * i) = 2
        · refine r_tin (tgt := 120) hC 2 c_5 (by decide) dX7_believed_77 (by decide) (by decide) rfl (by decide) ?_
          refine r_iload hC hl dX7_believed_120 0 rfl ?_
          exact r_iret hC hr hlk hI (by simp only [b0F, blF, mxF]; (repeat' split) <;> omega) (rfl) dX7_believed_122
        by_cases c_6 : S 20 (18 + 5 * i) = 3
        · refine r_tin (tgt := 128) hC 3 c_6 (by decide) dX7_believed_77 (by decide) (by decide) rfl (by decide) ?_
          refine r_iload_n hC hl dX7_believed_128 3 rfl ?_
          refine r_iconst hC dX7_believed_129 ?_
          refine r_icmp_lt (tgt := 137) hC (by omega) (by omega) dX7_believed_130 (by decide) (fun c_7 => ?_) (fun c_7 => ?_)
          · skip
            refine r_iconst hC dX7_believed_137 ?_
            exact r_iret hC hr hlk hI (by simp only [b0F, blF, mxF]; (repeat' split) <;> omega) (rfl) dX7_believed_138
          · skip
            refine r_iload_n hC hl dX7_believed_133 4 rfl ?_
            refine r_goto (tgt := 138) hC dX7_believed_134 (by decide) ?_
            exact r_iret hC hr hlk hI (by simp only [b0F, blF, mxF]; (repeat' split) <;> omega) (rfl) dX7_believed_138
        by_cases c_8 : S 20 (18 + 5 * i) = 4
        · refine r_tin (tgt := 115) hC 4 c_8 (by decide) dX7_believed_77 (by decide) (by decide) rfl (by decide) ?_
          refine r_iconst hC dX7_believed_115 ?_
          refine r_iload hC hl dX7_believed_116 1 rfl ?_
          refine r_imul hC dX7_believed_118 ?_
          exact r_iret hC hr hlk hI (by simp only [b0F, blF, mxF]; (repeat' split) <;> omega) (rfl) dX7_believed_119
        by_cases c_9 : S 20 (18 + 5 * i) = 5
        · refine r_tin (tgt := 123) hC 5 c_9 (by decide) dX7_believed_77 (by decide) (by decide) rfl (by decide) ?_
          refine r_iload hC hl dX7_believed_123 0 rfl ?_
          refine r_iload_n hC hl dX7_believed_125 3 rfl ?_
          refine r_iadd hC dX7_believed_126 ?_
          exact r_iret hC hr hlk hI (by simp only [b0F, blF, mxF]; (repeat' split) <;> omega) (rfl) dX7_believed_127
        refine r_tout (tgt := 139) hC (by omega) dX7_believed_77 (by omega) (by decide) ?_
        refine r_iload hC hl dX7_believed_139 2 rfl ?_
        exact r_iret hC hr hlk hI (by simp only [b0F, blF, mxF]; (repeat' split) <;> omega) (rfl) dX7_believed_141
      · skip
        refine r_iload hC hl dX7_believed_56 1 rfl ?_
        refine r_aload_n hC hl dX7_believed_58 4 rfl ?_
        refine r_iload_n hC hl dX7_believed_59 5 rfl ?_
        refine r_iconst hC dX7_believed_60 ?_
        refine r_cVi hC hI hl [.int (J (i : Int)), .int (J 4)] [.int (J (((S 20 (20 + 5 * i)) * (S 20 4)) / 9))] (c_X7_its4 l X a B S i (by omega)) ml_RX7_64 ev_X7_its (rc_mo (S := S) hC hI) ⟨Nat.le_of_ble_eq_true rfl, Nat.le_of_ble_eq_true rfl⟩ ⟨Nat.zero_le _, Nat.zero_le _⟩ (Nat.le_of_ble_eq_true rfl) rfl dX7_believed_61 (fun H locs hI => ?_)
        refine r_isub hC dX7_believed_64 ?_
        refine r_goto (tgt := 69) hC dX7_believed_65 (by decide) ?_
        refine r_istore (lv1 := [(6, .int (J ((((S 20 (20 + 5 * i)) * (S 20 4)) / 9) - (S 20 (22 + 5 * i))))), (5, .int (J (((S 20 (20 + 5 * i)) * (S 20 4)) / 9))), (4, .int (J (((S 20 (20 + 5 * i)) * (S 20 4)) / 9))), (3, .int (J (S 20 4))), (2, .int (J (S 20 (20 + 5 * i)))), (0, .ref (a (49))), (1, .int (J (i : Int)))]) hC hl dX7_believed_69 (by decide) rfl (fun ls hl => ?_)
        refine r_aload_n hC hl dX7_believed_71 5 rfl ?_
        refine r_iload_n hC hl dX7_believed_72 6 rfl ?_
        refine r_iconst hC dX7_believed_73 ?_
        refine r_cVi hC hI hl [.int (J (i : Int)), .int (J 0)] [] (c_X7_its0 l X a B S i (by omega)) ml_RX7_64 ev_X7_its (rc_mo (S := S) hC hI) ⟨Nat.le_of_ble_eq_true rfl, Nat.le_of_ble_eq_true rfl⟩ ⟨Nat.zero_le _, Nat.zero_le _⟩ (Nat.le_of_ble_eq_true rfl) rfl dX7_believed_74 (fun H locs hI => ?_)
        by_cases c_10 : S 20 (18 + 5 * i) = 1
        · refine r_tin (tgt := 112) hC 1 c_10 (by decide) dX7_believed_77 (by decide) (by decide) rfl (by decide) ?_
          refine r_iload hC hl dX7_believed_112 1 rfl ?_
          exact r_iret hC hr hlk hI (by simp only [b0F, blF, mxF]; (repeat' split) <;> omega) (rfl) dX7_believed_114
        by_cases c_11 : S 20 (18 + 5 * i) = 2
        · refine r_tin (tgt := 120) hC 2 c_11 (by decide) dX7_believed_77 (by decide) (by decide) rfl (by decide) ?_
          refine r_iload hC hl dX7_believed_120 0 rfl ?_
          exact r_iret hC hr hlk hI (by simp only [b0F, blF, mxF]; (repeat' split) <;> omega) (rfl) dX7_believed_122
        by_cases c_12 : S 20 (18 + 5 * i) = 3
        · refine r_tin (tgt := 128) hC 3 c_12 (by decide) dX7_believed_77 (by decide) (by decide) rfl (by decide) ?_
          refine r_iload_n hC hl dX7_believed_128 3 rfl ?_
          refine r_iconst hC dX7_believed_129 ?_
          refine r_icmp_lt (tgt := 137) hC (by omega) (by omega) dX7_believed_130 (by decide) (fun c_13 => ?_) (fun c_13 => ?_)
          · skip
            refine r_iconst hC dX7_believed_137 ?_
            exact r_iret hC hr hlk hI (by simp only [b0F, blF, mxF]; (repeat' split) <;> omega) (rfl) dX7_believed_138
          · skip
            refine r_iload_n hC hl dX7_believed_133 4 rfl ?_
            refine r_goto (tgt := 138) hC dX7_believed_134 (by decide) ?_
            exact r_iret hC hr hlk hI (by simp only [b0F, blF, mxF]; (repeat' split) <;> omega) (rfl) dX7_believed_138
        by_cases c_14 : S 20 (18 + 5 * i) = 4
        · refine r_tin (tgt := 115) hC 4 c_14 (by decide) dX7_believed_77 (by decide) (by decide) rfl (by decide) ?_
          refine r_iconst hC dX7_believed_115 ?_
          refine r_iload hC hl dX7_believed_116 1 rfl ?_
          refine r_imul hC dX7_believed_118 ?_
          exact r_iret hC hr hlk hI (by simp only [b0F, blF, mxF]; (repeat' split) <;> omega) (rfl) dX7_believed_119
        by_cases c_15 : S 20 (18 + 5 * i) = 5
        · refine r_tin (tgt := 123) hC 5 c_15 (by decide) dX7_believed_77 (by decide) (by decide) rfl (by decide) ?_
          refine r_iload hC hl dX7_believed_123 0 rfl ?_
          refine r_iload_n hC hl dX7_believed_125 3 rfl ?_
          refine r_iadd hC dX7_believed_126 ?_
          exact r_iret hC hr hlk hI (by simp only [b0F, blF, mxF]; (repeat' split) <;> omega) (rfl) dX7_believed_127
        refine r_tout (tgt := 139) hC (by omega) dX7_believed_77 (by omega) (by decide) ?_
        refine r_iload hC hl dX7_believed_139 2 rfl ?_
        exact r_iret hC hr hlk hI (by simp only [b0F, blF, mxF]; (repeat' split) <;> omega) (rfl) dX7_believed_141
    · skip
      refine r_iload hC hl dX7_believed_34 0 rfl ?_
      refine r_iconst hC dX7_believed_36 ?_
      refine r_iadd hC dX7_believed_37 ?_
      refine r_goto (tgt := 43) hC dX7_believed_38 (by decide) ?_
      refine r_istore (lv1 := [(5, .int (J ((((S 20 (20 + 5 * i)) * (S 20 4)) / 9) + 5))), (4, .int (J (((S 20 (20 + 5 * i)) * (S 20 4)) / 9))), (3, .int (J (S 20 4))), (2, .int (J (S 20 (20 + 5 * i)))), (0, .ref (a (49))), (1, .int (J (i : Int)))]) hC hl dX7_believed_43 (by decide) rfl (fun ls hl => ?_)
      refine r_iload hC hl dX7_believed_45 1 rfl ?_
      refine r_aload_n hC hl dX7_believed_47 4 rfl ?_
      refine r_iload_n hC hl dX7_believed_48 5 rfl ?_
      refine r_iconst hC dX7_believed_49 ?_
      refine r_cVi hC hI hl [.int (J (i : Int)), .int (J 4)] [.int (J (((S 20 (20 + 5 * i)) * (S 20 4)) / 9))] (c_X7_its4 l X a B S i (by omega)) ml_RX7_64 ev_X7_its (rc_mo (S := S) hC hI) ⟨Nat.le_of_ble_eq_true rfl, Nat.le_of_ble_eq_true rfl⟩ ⟨Nat.zero_le _, Nat.zero_le _⟩ (Nat.le_of_ble_eq_true rfl) rfl dX7_believed_50 (fun H locs hI => ?_)
      refine r_icmp_le (tgt := 68) hC (by omega) (by omega) dX7_believed_53 (by decide) (fun c_16 => ?_) (fun c_16 => ?_)
      · skip
        refine r_iconst hC dX7_believed_68 ?_
        refine r_istore (lv1 := [(6, .int (J 0)), (5, .int (J ((((S 20 (20 + 5 * i)) * (S 20 4)) / 9) + 5))), (4, .int (J (((S 20 (20 + 5 * i)) * (S 20 4)) / 9))), (3, .int (J (S 20 4))), (2, .int (J (S 20 (20 + 5 * i)))), (0, .ref (a (49))), (1, .int (J (i : Int)))]) hC hl dX7_believed_69 (by decide) rfl (fun ls hl => ?_)
        refine r_aload_n hC hl dX7_believed_71 5 rfl ?_
        refine r_iload_n hC hl dX7_believed_72 6 rfl ?_
        refine r_iconst hC dX7_believed_73 ?_
        refine r_cVi hC hI hl [.int (J (i : Int)), .int (J 0)] [] (c_X7_its0 l X a B S i (by omega)) ml_RX7_64 ev_X7_its (rc_mo (S := S) hC hI) ⟨Nat.le_of_ble_eq_true rfl, Nat.le_of_ble_eq_true rfl⟩ ⟨Nat.zero_le _, Nat.zero_le _⟩ (Nat.le_of_ble_eq_true rfl) rfl dX7_believed_74 (fun H locs hI => ?_)
        by_cases c_17 : S 20 (18 + 5 * i) = 1
        · refine r_tin (tgt := 112) hC 1 c_17 (by decide) dX7_believed_77 (by decide) (by decide) rfl (by decide) ?_
          refine r_iload hC hl dX7_believed_112 1 rfl ?_
          exact r_iret hC hr hlk hI (by simp only [b0F, blF, mxF]; (repeat' split) <;> omega) (rfl) dX7_believed_114
        by_cases c_18 : S 20 (18 + 5 * i) = 2
        · refine r_tin (tgt := 120) hC 2 c_18 (by decide) dX7_believed_77 (by decide) (by decide) rfl (by decide) ?_
          refine r_iload hC hl dX7_believed_120 0 rfl ?_
          exact r_iret hC hr hlk hI (by simp only [b0F, blF, mxF]; (repeat' split) <;> omega) (rfl) dX7_believed_122
        by_cases c_19 : S 20 (18 + 5 * i) = 3
        · refine r_tin (tgt := 128) hC 3 c_19 (by decide) dX7_believed_77 (by decide) (by decide) rfl (by decide) ?_
          refine r_iload_n hC hl dX7_believed_128 3 rfl ?_
          refine r_iconst hC dX7_believed_129 ?_
          refine r_icmp_lt (tgt := 137) hC (by omega) (by omega) dX7_believed_130 (by decide) (fun c_20 => ?_) (fun c_20 => ?_)
          · skip
            refine r_iconst hC dX7_believed_137 ?_
            exact r_iret hC hr hlk hI (by simp only [b0F, blF, mxF]; (repeat' split) <;> omega) (rfl) dX7_believed_138
          · skip
            refine r_iload_n hC hl dX7_believed_133 4 rfl ?_
            refine r_goto (tgt := 138) hC dX7_believed_134 (by decide) ?_
            exact r_iret hC hr hlk hI (by simp only [b0F, blF, mxF]; (repeat' split) <;> omega) (rfl) dX7_believed_138
        by_cases c_21 : S 20 (18 + 5 * i) = 4
        · refine r_tin (tgt := 115) hC 4 c_21 (by decide) dX7_believed_77 (by decide) (by decide) rfl (by decide) ?_
          refine r_iconst hC dX7_believed_115 ?_
          refine r_iload hC hl dX7_believed_116 1 rfl ?_
          refine r_imul hC dX7_believed_118 ?_
          exact r_iret hC hr hlk hI (by simp only [b0F, blF, mxF]; (repeat' split) <;> omega) (rfl) dX7_believed_119
        by_cases c_22 : S 20 (18 + 5 * i) = 5
        · refine r_tin (tgt := 123) hC 5 c_22 (by decide) dX7_believed_77 (by decide) (by decide) rfl (by decide) ?_
          refine r_iload hC hl dX7_believed_123 0 rfl ?_
          refine r_iload_n hC hl dX7_believed_125 3 rfl ?_
          refine r_iadd hC dX7_believed_126 ?_
          exact r_iret hC hr hlk hI (by simp only [b0F, blF, mxF]; (repeat' split) <;> omega) (rfl) dX7_believed_127
        refine r_tout (tgt := 139) hC (by omega) dX7_believed_77 (by omega) (by decide) ?_
        refine r_iload hC hl dX7_believed_139 2 rfl ?_
        exact r_iret hC hr hlk hI (by simp only [b0F, blF, mxF]; (repeat' split) <;> omega) (rfl) dX7_believed_141
      · skip
        refine r_iload hC hl dX7_believed_56 1 rfl ?_
        refine r_aload_n hC hl dX7_believed_58 4 rfl ?_
        refine r_iload_n hC hl dX7_believed_59 5 rfl ?_
        refine r_iconst hC dX7_believed_60 ?_
        refine r_cVi hC hI hl [.int (J (i : Int)), .int (J 4)] [.int (J (((S 20 (20 + 5 * i)) * (S 20 4)) / 9))] (c_X7_its4 l X a B S i (by omega)) ml_RX7_64 ev_X7_its (rc_mo (S := S) hC hI) ⟨Nat.le_of_ble_eq_true rfl, Nat.le_of_ble_eq_true rfl⟩ ⟨Nat.zero_le _, Nat.zero_le _⟩ (Nat.le_of_ble_eq_true rfl) rfl dX7_believed_61 (fun H locs hI => ?_)
        refine r_isub hC dX7_believed_64 ?_
        refine r_goto (tgt := 69) hC dX7_believed_65 (by decide) ?_
        refine r_istore (lv1 := [(6, .int (J ((((S 20 (20 + 5 * i)) * (S 20 4)) / 9) - (S 20 (22 + 5 * i))))), (5, .int (J ((((S 20 (20 + 5 * i)) * (S 20 4)) / 9) + 5))), (4, .int (J (((S 20 (20 + 5 * i)) * (S 20 4)) / 9))), (3, .int (J (S 20 4))), (2, .int (J (S 20 (20 + 5 * i)))), (0, .ref (a (49))), (1, .int (J (i : Int)))]) hC hl dX7_believed_69 (by decide) rfl (fun ls hl => ?_)
        refine r_aload_n hC hl dX7_believed_71 5 rfl ?_
        refine r_iload_n hC hl dX7_believed_72 6 rfl ?_
        refine r_iconst hC dX7_believed_73 ?_
        refine r_cVi hC hI hl [.int (J (i : Int)), .int (J 0)] [] (c_X7_its0 l X a B S i (by omega)) ml_RX7_64 ev_X7_its (rc_mo (S := S) hC hI) ⟨Nat.le_of_ble_eq_true rfl, Nat.le_of_ble_eq_true rfl⟩ ⟨Nat.zero_le _, Nat.zero_le _⟩ (Nat.le_of_ble_eq_true rfl) rfl dX7_believed_74 (fun H locs hI => ?_)
        by_cases c_23 : S 20 (18 + 5 * i) = 1
        · refine r_tin (tgt := 112) hC 1 c_23 (by decide) dX7_believed_77 (by decide) (by decide) rfl (by decide) ?_
          refine r_iload hC hl dX7_believed_112 1 rfl ?_
          exact r_iret hC hr hlk hI (by simp only [b0F, blF, mxF]; (repeat' split) <;> omega) (rfl) dX7_believed_114
        by_cases c_24 : S 20 (18 + 5 * i) = 2
        · refine r_tin (tgt := 120) hC 2 c_24 (by decide) dX7_believed_77 (by decide) (by decide) rfl (by decide) ?_
          refine r_iload hC hl dX7_believed_120 0 rfl ?_
          exact r_iret hC hr hlk hI (by simp only [b0F, blF, mxF]; (repeat' split) <;> omega) (rfl) dX7_believed_122
        by_cases c_25 : S 20 (18 + 5 * i) = 3
        · refine r_tin (tgt := 128) hC 3 c_25 (by decide) dX7_believed_77 (by decide) (by decide) rfl (by decide) ?_
          refine r_iload_n hC hl dX7_believed_128 3 rfl ?_
          refine r_iconst hC dX7_believed_129 ?_
          refine r_icmp_lt (tgt := 137) hC (by omega) (by omega) dX7_believed_130 (by decide) (fun c_26 => ?_) (fun c_26 => ?_)
          · skip
            refine r_iconst hC dX7_believed_137 ?_
            exact r_iret hC hr hlk hI (by simp only [b0F, blF, mxF]; (repeat' split) <;> omega) (rfl) dX7_believed_138
          · skip
            refine r_iload_n hC hl dX7_believed_133 4 rfl ?_
            refine r_goto (tgt := 138) hC dX7_believed_134 (by decide) ?_
            exact r_iret hC hr hlk hI (by simp only [b0F, blF, mxF]; (repeat' split) <;> omega) (rfl) dX7_believed_138
        by_cases c_27 : S 20 (18 + 5 * i) = 4
        · refine r_tin (tgt := 115) hC 4 c_27 (by decide) dX7_believed_77 (by decide) (by decide) rfl (by decide) ?_
          refine r_iconst hC dX7_believed_115 ?_
          refine r_iload hC hl dX7_believed_116 1 rfl ?_
          refine r_imul hC dX7_believed_118 ?_
          exact r_iret hC hr hlk hI (by simp only [b0F, blF, mxF]; (repeat' split) <;> omega) (rfl) dX7_believed_119
        by_cases c_28 : S 20 (18 + 5 * i) = 5
        · refine r_tin (tgt := 123) hC 5 c_28 (by decide) dX7_believed_77 (by decide) (by decide) rfl (by decide) ?_
          refine r_iload hC hl dX7_believed_123 0 rfl ?_
          refine r_iload_n hC hl dX7_believed_125 3 rfl ?_
          refine r_iadd hC dX7_believed_126 ?_
          exact r_iret hC hr hlk hI (by simp only [b0F, blF, mxF]; (repeat' split) <;> omega) (rfl) dX7_believed_127
        refine r_tout (tgt := 139) hC (by omega) dX7_believed_77 (by omega) (by decide) ?_
        refine r_iload hC hl dX7_believed_139 2 rfl ?_
        exact r_iret hC hr hlk hI (by simp only [b0F, blF, mxF]; (repeat' split) <;> omega) (rfl) dX7_believed_141
  · skip
    refine r_iconst hC dX7_believed_18 ?_
    exact r_iret hC hr hlk hI (by simp only [b0F, blF, mxF]; (repeat' split) <;> omega) (rfl) dX7_believed_19

set_option maxHeartbeats 4000000 in
set_option maxRecDepth 100000 in
theorem c_X7_allBelieved (l : Launch) (X : XT) (a : Nat → Nat) (B : Nat) (S : St)  (hV : VR 20000 (S 20)) : CT l X a B 2 yX7_allBelieved cX7_allBelieved 3 (some .int) [.ref (a (49))] S (Qi X a B (sumF (fun i => blP (S 20) i 0 (S 20 4)) (S 20 5).toNat) (S)) := by
  refine CT.of (by decide +kernel) (Nat.le_of_ble_eq_true rfl) ?_
  intro p e s m below meth c ls hC hr hlk hI hl
  have hC : Cx p c cX7_allBelieved 3 s m [.ref (a (49))].toArray RX7 X B := hC
  have hl : lv_has ls 3 [(0, .ref (a (49)))] := hl
  obtain ⟨⟨hN, hBr, hBu, hIn, hLa, hPc⟩, hDk, hPg⟩ := id hV
  refine r_iconst hC dX7_allBelieved_0 ?_
  refine r_istore_n (lv1 := [(1, .int (J 0)), (0, .ref (a (49)))]) hC hl dX7_allBelieved_1 1 rfl (by decide) rfl (fun ls hl => ?_)
  refine r_iconst hC dX7_allBelieved_2 ?_
  refine r_istore_n (lv1 := [(2, .int (J 0)), (1, .int (J 0)), (0, .ref (a (49)))]) hC hl dX7_allBelieved_3 2 rfl (by decide) rfl (fun ls hl => ?_)
  have hL4 : ∀ (fu : Nat) (q : Nat) (x2 x1 : Int), (S 20 5).toNat - q < fu → (x2 = (q : Int)) → (x1 = sumF (fun i => blP (S 20) i 0 (S 20 4)) q) → (q ≤ (S 20 5).toNat) → ∀ (H : Heap) (locs : List Loc) (ls : Array Slot), IS X a B s (S) H locs → lv_has ls 3 [(2, .int (J x2)), (1, .int (J x1)), (0, .ref (a (49)))] → W p l e (rmD 2) s m [.ref (a (49))].toArray below meth c H locs 0 0 (MQ below (Qi X a B (sumF (fun i => blP (S 20) i 0 (S 20 4)) (S 20 5).toNat) (S)) [.ref (a (49))].toArray s 0 0 (fun q => B ≤ q)) (F0 m 4 ls []) := by
    intro fu
    induction fu with
    | zero => intro q x2 x1 hm; exact absurd hm (Nat.not_lt_zero _)
    | succ fu ih4 =>
      intro q x2 x1 hm e2 e1 hq H locs ls hI hl
      subst e2; subst e1
      refine r_iload_n hC hl dX7_allBelieved_4 0 rfl ?_
      refine r_aload_n hC hl dX7_allBelieved_5 2 rfl ?_
      refine g_mo  (v := .ref (a (50))) hC hI 0 (by decide) fl_RX7_7 rfl rfl dX7_allBelieved_6 ?_
      refine r_iconst hC dX7_allBelieved_9 ?_
      refine r_iald (cx := 50) (n := 58) (f := (fun S => S 20) (S)) (v := S 20 5) hC hI (by decide) rfl (by decide) (5) (by omega) (by omega) rfl dX7_allBelieved_10 ?_
      refine r_icmp_ge (tgt := 28) hC (by omega) (by omega) dX7_allBelieved_11 (by decide) (fun c_1 => ?_) (fun c_1 => ?_)
      · skip
        refine r_iload_n hC hl dX7_allBelieved_28 1 rfl ?_
        exact r_iret hC hr hlk hI (by rw [show q = (S 20 5).toNat by omega]) (rfl) dX7_allBelieved_29
      · skip
        refine r_iload_n hC hl dX7_allBelieved_14 1 rfl ?_
        refine r_aload_n hC hl dX7_allBelieved_15 2 rfl ?_
        refine r_iload_n hC hl dX7_allBelieved_16 0 rfl ?_
        refine r_cVi hC hI hl [.int (J (q : Int))] [.int (J (sumF (fun i => blP (S 20) i 0 (S 20 4)) q))] (c_X7_believed l X a B S q (by omega) (hPg q (by omega)) (by omega)) ml_RX7_67 ev_X7_believed (rc_mo (S := S) hC hI) ⟨Nat.le_of_ble_eq_true rfl, Nat.le_of_ble_eq_true rfl⟩ ⟨Nat.zero_le _, Nat.zero_le _⟩ (Nat.le_of_ble_eq_true rfl) rfl dX7_allBelieved_17 (fun H locs hI => ?_)
        refine r_iadd hC dX7_allBelieved_20 ?_
        refine r_istore_n (lv1 := [(1, .int (J ((sumF (fun i => blP (S 20) i 0 (S 20 4)) q) + (b0F (S 20) q)))), (2, .int (J (q : Int))), (0, .ref (a (49)))]) hC hl dX7_allBelieved_21 1 rfl (by decide) rfl (fun ls hl => ?_)
        refine r_iinc (lv1 := [(2, .int (J ((q : Int) + 1))), (1, .int (J ((sumF (fun i => blP (S 20) i 0 (S 20 4)) q) + (b0F (S 20) q)))), (0, .ref (a (49)))]) hC hl dX7_allBelieved_22 1 rfl (by decide) rfl (fun ls hl => ?_)
        refine r_goto (tgt := 4) hC dX7_allBelieved_25 (by decide) ?_
        exact ih4 (q + 1) ((q : Int) + 1) ((sumF (fun i => blP (S 20) i 0 (S 20 4)) q) + (b0F (S 20) q)) (by omega) (by omega) (by rw [b0_eq (hPg q (by omega))]; rfl) (by omega) _ _ _ hI (lv_sub hl [0, 1, 2] rfl)
  exact hL4 _ 0 0 0 (Nat.lt_succ_self _) (by omega) rfl (by omega) _ _ _ hI (lv_sub hl [0, 1, 2] rfl)

set_option maxHeartbeats 4000000 in
set_option maxRecDepth 100000 in
theorem c_X7_sumOf3 (l : Launch) (X : XT) (a : Nat → Nat) (B : Nat) (S : St)  (hV : VR 20000 (S 20)) : CT l X a B 1 yX7_sumOf cX7_sumOf 4 (some .int) [.ref (a (49)), .int (J 3)] S (Qi X a B (sumF (fun i => S 20 (21 + 5 * i)) (S 20 5).toNat) (S)) := by
  refine CT.of (by decide +kernel) (Nat.le_of_ble_eq_true rfl) ?_
  intro p e s m below meth c ls hC hr hlk hI hl
  have hC : Cx p c cX7_sumOf 4 s m [.ref (a (49)), .int (J 3)].toArray RX7 X B := hC
  have hl : lv_has ls 4 [(0, .ref (a (49))), (1, .int (J 3))] := hl
  obtain ⟨⟨hN, hBr, hBu, hIn, hLa, hPc⟩, hDk, hPg⟩ := id hV
  refine r_iconst hC dX7_sumOf_0 ?_
  refine r_istore_n (lv1 := [(2, .int (J 0)), (0, .ref (a (49))), (1, .int (J 3))]) hC hl dX7_sumOf_1 2 rfl (by decide) rfl (fun ls hl => ?_)
  refine r_iconst hC dX7_sumOf_2 ?_
  refine r_istore_n (lv1 := [(3, .int (J 0)), (2, .int (J 0)), (0, .ref (a (49))), (1, .int (J 3))]) hC hl dX7_sumOf_3 3 rfl (by decide) rfl (fun ls hl => ?_)
  have hL4 : ∀ (fu : Nat) (q : Nat) (x3 x2 : Int), (S 20 5).toNat - q < fu → (x3 = (q : Int)) → (x2 = sumF (fun i => S 20 (21 + 5 * i)) q) → (q ≤ (S 20 5).toNat) → ∀ (H : Heap) (locs : List Loc) (ls : Array Slot), IS X a B s (S) H locs → lv_has ls 4 [(3, .int (J x3)), (2, .int (J x2)), (0, .ref (a (49))), (1, .int (J 3))] → W p l e (rmD 1) s m [.ref (a (49)), .int (J 3)].toArray below meth c H locs 0 0 (MQ below (Qi X a B (sumF (fun i => S 20 (21 + 5 * i)) (S 20 5).toNat) (S)) [.ref (a (49)), .int (J 3)].toArray s 0 0 (fun q => B ≤ q)) (F0 m 4 ls []) := by
    intro fu
    induction fu with
    | zero => intro q x3 x2 hm; exact absurd hm (Nat.not_lt_zero _)
    | succ fu ih4 =>
      intro q x3 x2 hm e3 e2 hq H locs ls hI hl
      subst e3; subst e2
      refine r_iload_n hC hl dX7_sumOf_4 0 rfl ?_
      refine r_aload_n hC hl dX7_sumOf_5 2 rfl ?_
      refine g_mo  (v := .ref (a (50))) hC hI 0 (by decide) fl_RX7_7 rfl rfl dX7_sumOf_6 ?_
      refine r_iconst hC dX7_sumOf_9 ?_
      refine r_iald (cx := 50) (n := 58) (f := (fun S => S 20) (S)) (v := S 20 5) hC hI (by decide) rfl (by decide) (5) (by omega) (by omega) rfl dX7_sumOf_10 ?_
      refine r_icmp_ge (tgt := 29) hC (by omega) (by omega) dX7_sumOf_11 (by decide) (fun c_1 => ?_) (fun c_1 => ?_)
      · skip
        refine r_iload_n hC hl dX7_sumOf_29 1 rfl ?_
        exact r_iret hC hr hlk hI (by rw [show q = (S 20 5).toNat by omega]) (rfl) dX7_sumOf_30
      · skip
        refine r_iload_n hC hl dX7_sumOf_14 1 rfl ?_
        refine r_aload_n hC hl dX7_sumOf_15 2 rfl ?_
        refine r_iload_n hC hl dX7_sumOf_16 0 rfl ?_
        refine r_iload_n hC hl dX7_sumOf_17 3 rfl ?_
        refine r_cVi hC hI hl [.int (J (q : Int)), .int (J 3)] [.int (J (sumF (fun i => S 20 (21 + 5 * i)) q))] (c_X7_its3 l X a B S q (by omega)) ml_RX7_64 ev_X7_its (rc_mo (S := S) hC hI) ⟨Nat.le_of_ble_eq_true rfl, Nat.le_of_ble_eq_true rfl⟩ ⟨Nat.zero_le _, Nat.zero_le _⟩ (Nat.le_of_ble_eq_true rfl) rfl dX7_sumOf_18 (fun H locs hI => ?_)
        refine r_iadd hC dX7_sumOf_21 ?_
        refine r_istore_n (lv1 := [(2, .int (J ((sumF (fun i => S 20 (21 + 5 * i)) q) + (S 20 (21 + 5 * q))))), (3, .int (J (q : Int))), (0, .ref (a (49))), (1, .int (J 3))]) hC hl dX7_sumOf_22 2 rfl (by decide) rfl (fun ls hl => ?_)
        refine r_iinc (lv1 := [(3, .int (J ((q : Int) + 1))), (2, .int (J ((sumF (fun i => S 20 (21 + 5 * i)) q) + (S 20 (21 + 5 * q))))), (0, .ref (a (49))), (1, .int (J 3))]) hC hl dX7_sumOf_23 1 rfl (by decide) rfl (fun ls hl => ?_)
        refine r_goto (tgt := 4) hC dX7_sumOf_26 (by decide) ?_
        exact ih4 (q + 1) ((q : Int) + 1) ((sumF (fun i => S 20 (21 + 5 * i)) q) + (S 20 (21 + 5 * q))) (by omega) (by omega) rfl (by omega) _ _ _ hI (lv_sub hl [0, 1, 2, 3] rfl)
  exact hL4 _ 0 0 0 (Nat.lt_succ_self _) (by omega) rfl (by omega) _ _ _ hI (lv_sub hl [0, 1, 2, 3] rfl)

set_option maxHeartbeats 4000000 in
set_option maxRecDepth 100000 in
theorem c_X7_sumOf1 (l : Launch) (X : XT) (a : Nat → Nat) (B : Nat) (S : St)  (hV : VR 20000 (S 20)) : CT l X a B 1 yX7_sumOf cX7_sumOf 4 (some .int) [.ref (a (49)), .int (J 1)] S (Qi X a B (sumF (fun i => S 20 (19 + 5 * i)) (S 20 5).toNat) (S)) := by
  refine CT.of (by decide +kernel) (Nat.le_of_ble_eq_true rfl) ?_
  intro p e s m below meth c ls hC hr hlk hI hl
  have hC : Cx p c cX7_sumOf 4 s m [.ref (a (49)), .int (J 1)].toArray RX7 X B := hC
  have hl : lv_has ls 4 [(0, .ref (a (49))), (1, .int (J 1))] := hl
  obtain ⟨⟨hN, hBr, hBu, hIn, hLa, hPc⟩, hDk, hPg⟩ := id hV
  refine r_iconst hC dX7_sumOf_0 ?_
  refine r_istore_n (lv1 := [(2, .int (J 0)), (0, .ref (a (49))), (1, .int (J 1))]) hC hl dX7_sumOf_1 2 rfl (by decide) rfl (fun ls hl => ?_)
  refine r_iconst hC dX7_sumOf_2 ?_
  refine r_istore_n (lv1 := [(3, .int (J 0)), (2, .int (J 0)), (0, .ref (a (49))), (1, .int (J 1))]) hC hl dX7_sumOf_3 3 rfl (by decide) rfl (fun ls hl => ?_)
  have hL4 : ∀ (fu : Nat) (q : Nat) (x3 x2 : Int), (S 20 5).toNat - q < fu → (x3 = (q : Int)) → (x2 = sumF (fun i => S 20 (19 + 5 * i)) q) → (q ≤ (S 20 5).toNat) → ∀ (H : Heap) (locs : List Loc) (ls : Array Slot), IS X a B s (S) H locs → lv_has ls 4 [(3, .int (J x3)), (2, .int (J x2)), (0, .ref (a (49))), (1, .int (J 1))] → W p l e (rmD 1) s m [.ref (a (49)), .int (J 1)].toArray below meth c H locs 0 0 (MQ below (Qi X a B (sumF (fun i => S 20 (19 + 5 * i)) (S 20 5).toNat) (S)) [.ref (a (49)), .int (J 1)].toArray s 0 0 (fun q => B ≤ q)) (F0 m 4 ls []) := by
    intro fu
    induction fu with
    | zero => intro q x3 x2 hm; exact absurd hm (Nat.not_lt_zero _)
    | succ fu ih4 =>
      intro q x3 x2 hm e3 e2 hq H locs ls hI hl
      subst e3; subst e2
      refine r_iload_n hC hl dX7_sumOf_4 0 rfl ?_
      refine r_aload_n hC hl dX7_sumOf_5 2 rfl ?_
      refine g_mo  (v := .ref (a (50))) hC hI 0 (by decide) fl_RX7_7 rfl rfl dX7_sumOf_6 ?_
      refine r_iconst hC dX7_sumOf_9 ?_
      refine r_iald (cx := 50) (n := 58) (f := (fun S => S 20) (S)) (v := S 20 5) hC hI (by decide) rfl (by decide) (5) (by omega) (by omega) rfl dX7_sumOf_10 ?_
      refine r_icmp_ge (tgt := 29) hC (by omega) (by omega) dX7_sumOf_11 (by decide) (fun c_1 => ?_) (fun c_1 => ?_)
      · skip
        refine r_iload_n hC hl dX7_sumOf_29 1 rfl ?_
        exact r_iret hC hr hlk hI (by rw [show q = (S 20 5).toNat by omega]) (rfl) dX7_sumOf_30
      · skip
        refine r_iload_n hC hl dX7_sumOf_14 1 rfl ?_
        refine r_aload_n hC hl dX7_sumOf_15 2 rfl ?_
        refine r_iload_n hC hl dX7_sumOf_16 0 rfl ?_
        refine r_iload_n hC hl dX7_sumOf_17 3 rfl ?_
        refine r_cVi hC hI hl [.int (J (q : Int)), .int (J 1)] [.int (J (sumF (fun i => S 20 (19 + 5 * i)) q))] (c_X7_its1 l X a B S q (by omega)) ml_RX7_64 ev_X7_its (rc_mo (S := S) hC hI) ⟨Nat.le_of_ble_eq_true rfl, Nat.le_of_ble_eq_true rfl⟩ ⟨Nat.zero_le _, Nat.zero_le _⟩ (Nat.le_of_ble_eq_true rfl) rfl dX7_sumOf_18 (fun H locs hI => ?_)
        refine r_iadd hC dX7_sumOf_21 ?_
        refine r_istore_n (lv1 := [(2, .int (J ((sumF (fun i => S 20 (19 + 5 * i)) q) + (S 20 (19 + 5 * q))))), (3, .int (J (q : Int))), (0, .ref (a (49))), (1, .int (J 1))]) hC hl dX7_sumOf_22 2 rfl (by decide) rfl (fun ls hl => ?_)
        refine r_iinc (lv1 := [(3, .int (J ((q : Int) + 1))), (2, .int (J ((sumF (fun i => S 20 (19 + 5 * i)) q) + (S 20 (19 + 5 * q))))), (0, .ref (a (49))), (1, .int (J 1))]) hC hl dX7_sumOf_23 1 rfl (by decide) rfl (fun ls hl => ?_)
        refine r_goto (tgt := 4) hC dX7_sumOf_26 (by decide) ?_
        exact ih4 (q + 1) ((q : Int) + 1) ((sumF (fun i => S 20 (19 + 5 * i)) q) + (S 20 (19 + 5 * q))) (by omega) (by omega) rfl (by omega) _ _ _ hI (lv_sub hl [0, 1, 2, 3] rfl)
  exact hL4 _ 0 0 0 (Nat.lt_succ_self _) (by omega) rfl (by omega) _ _ _ hI (lv_sub hl [0, 1, 2, 3] rfl)

def niQ (R : Nat → Int) (q : Nat) : Nat → Int := fun j => if j = 2 then (R 2 + dkF R 0 * R 1) % 9 else if j = 3 then hdF (R 3 + (R 2 + dkF R 0 * R 1) / 9) 0 999 else if 18 ≤ j ∧ (j - 18) % 5 = 2 ∧ (j - 18) / 5 < q then hdF (R j - fdP R ((j - 18) / 5)) 0 99 else R j
def niF (R : Nat → Int) : Nat → Int := upR (niQ R (R 5).toNat) 0 (R 0 + 1)
theorem ni_0 (R : Nat → Int) : upR (upR R 3 (hdF (R 3 + (R 2 + dkF R 0 * R 1) / 9) 0 999)) 2 ((R 2 + dkF R 0 * R 1) % 9) = niQ R 0 := by
  funext j
  simp only [upR, niQ]
  (repeat' split) <;> first | rfl | omega
theorem ni_up (R : Nat → Int) (q : Nat) : upR (niQ R q) (20 + 5 * q) (hdF (R (20 + 5 * q) - fdP R q) 0 99) = niQ R (q + 1) := by
  funext j
  by_cases hj : j = 20 + 5 * q
  · subst hj
    rw [upR_at]
    unfold niQ
    rw [if_neg (by omega), if_neg (by omega), if_pos (by omega), show (20 + 5 * q - 18) / 5 = q by omega]
  · rw [upR_ne _ _ hj]
    unfold niQ
    by_cases h2 : j = 2
    · rw [if_pos h2, if_pos h2]
    · by_cases h3 : j = 3
      · rw [if_neg h2, if_pos h3, if_neg h2, if_pos h3]
      · rw [if_neg h2, if_neg h3, if_neg h2, if_neg h3]
        by_cases h4 : 18 ≤ j ∧ (j - 18) % 5 = 2 ∧ (j - 18) / 5 < q
        · rw [if_pos h4, if_pos (by omega)]
        · rw [if_neg h4, if_neg (by omega)]
theorem ni_pg (R : Nat → Int) (q j : Nat) (h1 : 18 + 5 * q ≤ j) (h2 : j < 23 + 5 * q) : niQ R q j = R j := by
  unfold niQ
  rw [if_neg (by omega), if_neg (by omega), if_neg (by omega)]
theorem fdP_cg {R R' : Nat → Int} {i : Nat} (h : ∀ j, 18 + 5 * i ≤ j → j < 23 + 5 * i → R' j = R j) : fdP R' i = fdP R i := by
  unfold fdP
  rw [h (18 + 5 * i) (by omega) (by omega), h (21 + 5 * i) (by omega) (by omega), h (22 + 5 * i) (by omega) (by omega)]

set_option maxHeartbeats 4000000 in
set_option maxRecDepth 100000 in
theorem c_X7_oneNight (l : Launch) (X : XT) (a : Nat → Nat) (B : Nat) (S : St)  (hV : VR 20000 (S 20)) : CT l X a B 2 yX7_oneNight cX7_oneNight 3 none [.ref (a (49))] S (Qv X a B (setB S 20 (niF (S 20)))) := by
  refine CT.of (by decide +kernel) (Nat.le_of_ble_eq_true rfl) ?_
  intro p e s m below meth c ls hC hr hlk hI hl
  have hC : Cx p c cX7_oneNight 3 s m [.ref (a (49))].toArray RX7 X B := hC
  have hl : lv_has ls 3 [(0, .ref (a (49)))] := hl
  obtain ⟨⟨hN, hBr, hBu, hIn, hLa, hPc⟩, hDk, hPg⟩ := id hV
  have hd0 := dk_rg hV 0
  have hm := mul_bd hd0 hBr
  refine r_aload_n hC hl dX7_oneNight_0 0 rfl ?_
  refine g_mo  (v := .ref (a (50))) hC hI 0 (by decide) fl_RX7_7 rfl rfl dX7_oneNight_1 ?_
  refine r_iconst hC dX7_oneNight_4 ?_
  refine r_iald (cx := 50) (n := 58) (f := (fun S => S 20) (S)) (v := S 20 2) hC hI (by decide) rfl (by decide) (2) (by omega) (by omega) rfl dX7_oneNight_5 ?_
  refine r_aload_n hC hl dX7_oneNight_6 0 rfl ?_
  refine r_cVi hC hI hl [] [.int (J (S 20 2))] (c_X7_darkNow l X a B S  (by omega)) ml_RX7_70 ev_X7_darkNow (rc_mo (S := S) hC hI) ⟨Nat.le_of_ble_eq_true rfl, Nat.le_of_ble_eq_true rfl⟩ ⟨Nat.zero_le _, Nat.zero_le _⟩ (Nat.le_of_ble_eq_true rfl) rfl dX7_oneNight_7 (fun H locs hI => ?_)
  refine r_aload_n hC hl dX7_oneNight_10 0 rfl ?_
  refine g_mo  (v := .ref (a (50))) hC hI 0 (by decide) fl_RX7_7 rfl rfl dX7_oneNight_11 ?_
  refine r_iconst hC dX7_oneNight_14 ?_
  refine r_iald (cx := 50) (n := 58) (f := (fun S => S 20) (S)) (v := S 20 1) hC hI (by decide) rfl (by decide) (1) (by omega) (by omega) rfl dX7_oneNight_15 ?_
  refine r_imul hC dX7_oneNight_16 ?_
  refine r_iadd hC dX7_oneNight_17 ?_
  refine r_istore_n (lv1 := [(1, .int (J ((S 20 2) + ((dkF (S 20) 0) * (S 20 1))))), (0, .ref (a (49)))]) hC hl dX7_oneNight_18 1 rfl (by decide) rfl (fun ls hl => ?_)
  refine r_aload_n hC hl dX7_oneNight_19 1 rfl ?_
  refine g_mo  (v := .ref (a (50))) hC hI 0 (by decide) fl_RX7_7 rfl rfl dX7_oneNight_20 ?_
  refine r_iconst hC dX7_oneNight_23 ?_
  refine r_aload_n hC hl dX7_oneNight_24 1 rfl ?_
  refine g_mo  (v := .ref (a (50))) hC hI 0 (by decide) fl_RX7_7 rfl rfl dX7_oneNight_25 ?_
  refine r_iconst hC dX7_oneNight_28 ?_
  refine r_iald (cx := 50) (n := 58) (f := (fun S => S 20) (S)) (v := S 20 3) hC hI (by decide) rfl (by decide) (3) (by omega) (by omega) rfl dX7_oneNight_29 ?_
  refine r_iload_n hC hl dX7_oneNight_30 0 rfl ?_
  refine r_bipush hC (by decide) dX7_oneNight_31 ?_
  refine r_idiv hC (by omega) (by omega) dX7_oneNight_33 ?_
  refine r_iadd hC dX7_oneNight_34 ?_
  refine r_iconst hC dX7_oneNight_35 ?_
  refine r_sipush hC (by decide) dX7_oneNight_36 ?_
  refine r_cSi hC hI hl [.int (J ((S 20 3) + (((S 20 2) + ((dkF (S 20) 0) * (S 20 1))) / 9))), .int (J 0), .int (J 999)] [.int (J 3), .ref (a (50))] (c_X7_held l X a B S ((S 20 3) + (((S 20 2) + ((dkF (S 20) 0) * (S 20 1))) / 9)) 0 999 (by omega) (by omega) (by omega)) ml_RX7_60 es_X7_held ⟨Nat.le_of_ble_eq_true rfl, Nat.le_of_ble_eq_true rfl⟩ ⟨Nat.zero_le _, Nat.zero_le _⟩ (Nat.le_of_ble_eq_true rfl) rfl dX7_oneNight_39 (fun H locs hI => ?_)
  refine r_iast (cx := 50) (n := 58) (F := fun S => S 20) hC hI (by decide) (fun _ => rfl) (by decide) (3) (by omega) (by omega) (b := 20) (j := 3) rfl (fun q => by simp [up, setB, upR]) dX7_oneNight_42 (fun H locs hI => ?_)
  refine r_aload_n hC hl dX7_oneNight_43 1 rfl ?_
  refine g_mo  (v := .ref (a (50))) hC hI 0 (by decide) fl_RX7_7 rfl rfl dX7_oneNight_44 ?_
  refine r_iconst hC dX7_oneNight_47 ?_
  refine r_iload_n hC hl dX7_oneNight_48 0 rfl ?_
  refine r_bipush hC (by decide) dX7_oneNight_49 ?_
  refine r_irem hC (by omega) (by omega) dX7_oneNight_51 ?_
  refine r_iast (cx := 50) (n := 58) (F := fun S => S 20) hC hI (by decide) (fun _ => rfl) (by decide) (2) (by omega) (by omega) (b := 20) (j := 2) rfl (fun q => by simp [up, setB, upR]) dX7_oneNight_52 (fun H locs hI => ?_)
  refine r_iconst hC dX7_oneNight_53 ?_
  refine r_istore_n (lv1 := [(2, .int (J 0)), (1, .int (J ((S 20 2) + ((dkF (S 20) 0) * (S 20 1))))), (0, .ref (a (49)))]) hC hl dX7_oneNight_54 2 rfl (by decide) rfl (fun ls hl => ?_)
  have hL55 : ∀ (fu : Nat) (q : Nat) (T : St) (x2 : Int), (S 20 5).toNat - q < fu → (x2 = (q : Int)) → (q ≤ (S 20 5).toNat) → (T = setB S 20 (niQ (S 20) q)) → ∀ (H : Heap) (locs : List Loc) (ls : Array Slot), IS X a B s (T) H locs → lv_has ls 3 [(2, .int (J x2)), (0, .ref (a (49)))] → W p l e (rmD 2) s m [.ref (a (49))].toArray below meth c H locs 0 0 (MQ below (Qv X a B (setB S 20 (niF (S 20)))) [.ref (a (49))].toArray s 0 0 (fun q => B ≤ q)) (F0 m 55 ls []) := by
    intro fu
    induction fu with
    | zero => intro q T x2 hm; exact absurd hm (Nat.not_lt_zero _)
    | succ fu ih55 =>
      intro q T x2 hm e2 hq hT H locs ls hI hl
      subst e2
      have hTk : T 20 = niQ (S 20) q := by rw [hT, setB_at]
      have e5 : T 20 5 = S 20 5 := by rw [hTk]; unfold niQ; rw [if_neg (by omega), if_neg (by omega), if_neg (by omega)]
      have e0 : T 20 0 = S 20 0 := by rw [hTk]; unfold niQ; rw [if_neg (by omega), if_neg (by omega), if_neg (by omega)]
      refine r_iload_n hC hl dX7_oneNight_55 0 rfl ?_
      refine r_aload_n hC hl dX7_oneNight_56 1 rfl ?_
      refine g_mo  (v := .ref (a (50))) hC hI 0 (by decide) fl_RX7_7 rfl rfl dX7_oneNight_57 ?_
      refine r_iconst hC dX7_oneNight_60 ?_
      refine r_iald (cx := 50) (n := 58) (f := (fun S => S 20) (T)) (v := T 20 5) hC hI (by decide) rfl (by decide) (5) (by omega) (by omega) rfl dX7_oneNight_61 ?_
      refine r_icmp_ge (tgt := 95) hC (by omega) (by omega) dX7_oneNight_62 (by decide) (fun c_1 => ?_) (fun c_1 => ?_)
      · skip
        refine r_aload_n hC hl dX7_oneNight_95 1 rfl ?_
        refine g_mo  (v := .ref (a (50))) hC hI 0 (by decide) fl_RX7_7 rfl rfl dX7_oneNight_96 ?_
        refine r_iconst hC dX7_oneNight_99 ?_
        refine r_dup2 hC rfl rfl dX7_oneNight_100 ?_
        refine r_iald (cx := 50) (n := 58) (f := (fun S => S 20) (T)) (v := T 20 0) hC hI (by decide) rfl (by decide) (0) (by omega) (by omega) rfl dX7_oneNight_101 ?_
        refine r_iconst hC dX7_oneNight_102 ?_
        refine r_iadd hC dX7_oneNight_103 ?_
        refine r_iast (cx := 50) (n := 58) (F := fun S => S 20) hC hI (by decide) (fun _ => rfl) (by decide) (0) (by omega) (by omega) (b := 20) (j := 0) rfl (fun q => by simp [up, setB, upR]) dX7_oneNight_104 (fun H locs hI => ?_)
        exact r_vret hC hr hlk hI (by rw [e0, hT, up_set, show q = (S 20 5).toNat by omega]; rfl) dX7_oneNight_105
      · skip
        have hcg : ∀ j, 18 + 5 * q ≤ j → j < 23 + 5 * q → T 20 j = S 20 j := fun j h1 h2 => by rw [hTk, ni_pg _ _ _ h1 h2]
        have hvp : VP (T 20) q := VP_cg hcg (hPg q (by omega))
        have hfd : fdP (T 20) q = fdP (S 20) q := fdP_cg hcg
        have hfr := fd_rg hvp.1 hvp.2.2.2.1 hvp.2.2.2.2
        have hbr := hvp.2.2.1
        have hfr2 : 0 ≤ fdP (T 20) q ∧ fdP (T 20) q ≤ 2600 := hfr
        refine r_aload_n hC hl dX7_oneNight_65 1 rfl ?_
        refine r_iload_n hC hl dX7_oneNight_66 0 rfl ?_
        refine r_iconst hC dX7_oneNight_67 ?_
        refine r_aload_n hC hl dX7_oneNight_68 1 rfl ?_
        refine r_iload_n hC hl dX7_oneNight_69 0 rfl ?_
        refine r_iconst hC dX7_oneNight_70 ?_
        refine r_cVi hC hI hl [.int (J (q : Int)), .int (J 2)] [.int (J 2), .int (J (q : Int)), .ref (a (49))] (c_X7_its2 l X a B T q (by omega)) ml_RX7_64 ev_X7_its (rc_mo (S := T) hC hI) ⟨Nat.le_of_ble_eq_true rfl, Nat.le_of_ble_eq_true rfl⟩ ⟨Nat.zero_le _, Nat.zero_le _⟩ (Nat.le_of_ble_eq_true rfl) rfl dX7_oneNight_71 (fun H locs hI => ?_)
        refine r_aload_n hC hl dX7_oneNight_74 1 rfl ?_
        refine r_iload_n hC hl dX7_oneNight_75 0 rfl ?_
        refine r_cVi hC hI hl [.int (J (q : Int))] [.int (J (T 20 (20 + 5 * q))), .int (J 2), .int (J (q : Int)), .ref (a (49))] (c_X7_fades l X a B T q (by omega) hvp) ml_RX7_102 ev_X7_fades (rc_mo (S := T) hC hI) ⟨Nat.le_of_ble_eq_true rfl, Nat.le_of_ble_eq_true rfl⟩ ⟨Nat.zero_le _, Nat.zero_le _⟩ (Nat.le_of_ble_eq_true rfl) rfl dX7_oneNight_76 (fun H locs hI => ?_)
        refine r_isub hC dX7_oneNight_79 ?_
        refine r_iconst hC dX7_oneNight_80 ?_
        refine r_bipush hC (by decide) dX7_oneNight_81 ?_
        refine r_cSi hC hI hl [.int (J ((T 20 (20 + 5 * q)) - (fdP (T 20) q))), .int (J 0), .int (J 99)] [.int (J 2), .int (J (q : Int)), .ref (a (49))] (c_X7_held l X a B T ((T 20 (20 + 5 * q)) - (fdP (T 20) q)) 0 99 (by omega) (by omega) (by omega)) ml_RX7_60 es_X7_held ⟨Nat.le_of_ble_eq_true rfl, Nat.le_of_ble_eq_true rfl⟩ ⟨Nat.zero_le _, Nat.zero_le _⟩ (Nat.le_of_ble_eq_true rfl) rfl dX7_oneNight_83 (fun H locs hI => ?_)
        refine r_cVv hC hI hl [.int (J (q : Int)), .int (J 2), .int (J (hdF ((T 20 (20 + 5 * q)) - (fdP (T 20) q)) 0 99))] [] (c_X7_puts2 l X a B T q (hdF ((T 20 (20 + 5 * q)) - (fdP (T 20) q)) 0 99) (by omega)) ml_RX7_83 ev_X7_puts (rc_mo (S := T) hC hI) ⟨Nat.le_of_ble_eq_true rfl, Nat.le_of_ble_eq_true rfl⟩ ⟨Nat.zero_le _, Nat.zero_le _⟩ (Nat.le_of_ble_eq_true rfl) rfl dX7_oneNight_86 (fun H locs hI => ?_)
        refine r_iinc (lv1 := [(2, .int (J ((q : Int) + 1))), (0, .ref (a (49)))]) hC hl dX7_oneNight_89 0 rfl (by decide) rfl (fun ls hl => ?_)
        refine r_goto (tgt := 55) hC dX7_oneNight_92 (by decide) ?_
        exact ih55 (q + 1) (up T 20 (20 + 5 * q) (hdF (T 20 (20 + 5 * q) - fdP (T 20) q) 0 99)) ((q : Int) + 1) (by omega) (by omega) (by omega) (by rw [hfd, hcg (20 + 5 * q) (by omega) (by omega), hT, up_set]; exact congrArg _ (ni_up (S 20) q)) _ _ _ hI (lv_sub hl [0, 1] rfl)
  exact hL55 _ 0 (up (up S 20 3 (hdF (S 20 3 + ((S 20 2 + (dkF (S 20) 0 * S 20 1)) / 9)) 0 999)) 20 2 ((S 20 2 + (dkF (S 20) 0 * S 20 1)) % 9)) 0 (Nat.lt_succ_self _) (by omega) (by omega) (by rw [up_eq S, up_set]; exact congrArg _ (ni_0 (S 20))) _ _ _ hI (lv_sub hl [0, 2] rfl)
