def fadedF (b f n : Int) : Int := mxF 0 (b - n * f)
def fdP (R : Nat → Int) (i : Nat) : Int := fdF (R (18 + 5 * i)) (R (21 + 5 * i)) (R (22 + 5 * i))
def bkP (R : Nat → Int) (i : Nat) (n : Int) : Int := fadedF (R (20 + 5 * i)) (fdP R i) n
def blA (R : Nat → Int) (i : Nat) (k u n w : Int) : Int := blF k (fadedF (R (20 + 5 * i)) (fdF k u (R (22 + 5 * i))) n) (R (22 + 5 * i)) w
def blP (R : Nat → Int) (i : Nat) (n w : Int) : Int := blA R i (R (18 + 5 * i)) (R (21 + 5 * i)) n w
def VP (R : Nat → Int) (i : Nat) : Prop := (0 ≤ R (18 + 5 * i) ∧ R (18 + 5 * i) ≤ 5) ∧ (0 ≤ R (19 + 5 * i) ∧ R (19 + 5 * i) ≤ 99) ∧ (0 ≤ R (20 + 5 * i) ∧ R (20 + 5 * i) ≤ 99) ∧ (0 ≤ R (21 + 5 * i) ∧ R (21 + 5 * i) ≤ 1) ∧ (0 ≤ R (22 + 5 * i) ∧ R (22 + 5 * i) ≤ 9999)
def VR (N : Int) (R : Nat → Int) : Prop := ((0 ≤ R 0 ∧ R 0 ≤ N) ∧ (0 ≤ R 1 ∧ R 1 ≤ 9) ∧ (0 ≤ R 2 ∧ R 2 ≤ 8) ∧ (0 ≤ R 3 ∧ R 3 ≤ 999) ∧ (0 ≤ R 4 ∧ R 4 ≤ 9) ∧ (0 ≤ R 5 ∧ R 5 ≤ 8)) ∧ (∀ j, j < 12 → 0 ≤ R (6 + j) ∧ R (6 + j) ≤ 20) ∧ ∀ i, i < 8 → VP R i
theorem fd_rg {k u r : Int} (hk : 0 ≤ k ∧ k ≤ 5) (hu : 0 ≤ u ∧ u ≤ 1) (hr : 0 ≤ r ∧ r ≤ 9999) : 0 ≤ fdF k u r ∧ fdF k u r ≤ 2600 := by
  unfold fdF; (repeat' split) <;> omega
theorem mx_rg {x y A : Int} (hx : 0 ≤ x ∧ x ≤ A) (hy : y ≤ A) : 0 ≤ mxF x y ∧ mxF x y ≤ A := by
  unfold mxF; split <;> omega
theorem fad_rg {b f n : Int} (hb : 0 ≤ b ∧ b ≤ 99) (hf : 0 ≤ f ∧ f ≤ 2600) (hn : 0 ≤ n ∧ n ≤ 300) : 0 ≤ fadedF b f n ∧ fadedF b f n ≤ 99 := by
  have h := mul_bd hn hf
  exact mx_rg (by omega) (by omega)
theorem bl_rg {k b r w : Int} (hb : 0 ≤ b ∧ b ≤ 99) (hr : 0 ≤ r ∧ r ≤ 9999) (hw : 0 ≤ w ∧ w ≤ 9) : 0 ≤ blF k b r w ∧ blF k b r w ≤ 300 := by
  have h := mul_bd hb hw
  unfold blF mxF; (repeat' split) <;> omega
theorem bk_rg {R : Nat → Int} {i : Nat} (hV : VP R i) {n : Int} (hn : 0 ≤ n ∧ n ≤ 300) : 0 ≤ bkP R i n ∧ bkP R i n ≤ 99 := fad_rg hV.2.2.1 (fd_rg hV.1 hV.2.2.2.1 hV.2.2.2.2) hn
theorem blA_rg {R : Nat → Int} {i : Nat} (hV : VP R i) {k u n w : Int} (hk : 0 ≤ k ∧ k ≤ 5) (hu : 0 ≤ u ∧ u ≤ 1) (hn : 0 ≤ n ∧ n ≤ 300) (hw : 0 ≤ w ∧ w ≤ 9) : 0 ≤ blA R i k u n w ∧ blA R i k u n w ≤ 300 := bl_rg (fad_rg hV.2.2.1 (fd_rg hk hu hV.2.2.2.2) hn) hV.2.2.2.2 hw
theorem blP_rg {R : Nat → Int} {i : Nat} (hV : VP R i) {n w : Int} (hn : 0 ≤ n ∧ n ≤ 300) (hw : 0 ≤ w ∧ w ≤ 9) : 0 ≤ blP R i n w ∧ blP R i n w ≤ 300 := blA_rg hV hV.1 hV.2.2.2.1 hn hw

def leP (w : Int) : Int := if w = 1 then 1 else 0

set_option maxHeartbeats 4000000 in
set_option maxRecDepth 100000 in
theorem c_X1_least (l : Launch) (X : XT) (a : Nat → Nat) (B : Nat) (S : St) (w : Int) (hw : -2147483648 ≤ w ∧ w ≤ 2147483647) : CT l X a B 0 yX1_least cX1_least 1 (some .int) [.int (J w)] S (Qi X a B (leP w) (S)) := by
  refine CT.of (by decide +kernel) (Nat.le_of_ble_eq_true rfl) ?_
  intro p e s m below meth c ls hC hr hlk hI hl
  have hC : Cx p c cX1_least 1 s m [.int (J w)].toArray RX1 X B := hC
  have hl : lv_has ls 1 [(0, .int (J w))] := hl
  refine r_iload_n hC hl dX1_least_0 0 rfl ?_
  refine r_iconst hC dX1_least_1 ?_
  refine r_icmp_ne (tgt := 9) hC (by omega) (by omega) dX1_least_2 (by decide) (fun c_1 => ?_) (fun c_1 => ?_)
  · skip
    refine r_iconst hC dX1_least_9 ?_
    exact r_iret hC hr hlk hI (by unfold leP; split <;> omega) (rfl) dX1_least_10
  · skip
    refine r_iconst hC dX1_least_5 ?_
    refine r_goto (tgt := 10) hC dX1_least_6 (by decide) ?_
    exact r_iret hC hr hlk hI (by unfold leP; split <;> omega) (rfl) dX1_least_10

def moP (w : Int) : Int := if w = 1 then 99 else if w = 2 then 99 else if w = 3 then 1 else if w = 4 then 9999 else -1

set_option maxHeartbeats 4000000 in
set_option maxRecDepth 100000 in
theorem c_X1_most (l : Launch) (X : XT) (a : Nat → Nat) (B : Nat) (S : St) (w : Int) (hw : -2147483648 ≤ w ∧ w ≤ 2147483647) : CT l X a B 0 yX1_most cX1_most 1 (some .int) [.int (J w)] S (Qi X a B (moP w) (S)) := by
  refine CT.of (by decide +kernel) (Nat.le_of_ble_eq_true rfl) ?_
  intro p e s m below meth c ls hC hr hlk hI hl
  have hC : Cx p c cX1_most 1 s m [.int (J w)].toArray RX1 X B := hC
  have hl : lv_has ls 1 [(0, .int (J w))] := hl
  refine r_iload_n hC hl dX1_most_0 0 rfl ?_
  by_cases c_1 : w = 1
  · refine r_tin (tgt := 32) hC 1 c_1 (by decide) dX1_most_1 (by decide) (by decide) rfl (by decide) ?_
    refine r_bipush hC (by decide) dX1_most_32 ?_
    exact r_iret hC hr hlk hI (by unfold moP; (repeat' split) <;> omega) (rfl) dX1_most_34
  by_cases c_2 : w = 2
  · refine r_tin (tgt := 35) hC 2 c_2 (by decide) dX1_most_1 (by decide) (by decide) rfl (by decide) ?_
    refine r_bipush hC (by decide) dX1_most_35 ?_
    exact r_iret hC hr hlk hI (by unfold moP; (repeat' split) <;> omega) (rfl) dX1_most_37
  by_cases c_3 : w = 3
  · refine r_tin (tgt := 38) hC 3 c_3 (by decide) dX1_most_1 (by decide) (by decide) rfl (by decide) ?_
    refine r_iconst hC dX1_most_38 ?_
    exact r_iret hC hr hlk hI (by unfold moP; (repeat' split) <;> omega) (rfl) dX1_most_39
  by_cases c_4 : w = 4
  · refine r_tin (tgt := 40) hC 4 c_4 (by decide) dX1_most_1 (by decide) (by decide) rfl (by decide) ?_
    refine r_sipush hC (by decide) dX1_most_40 ?_
    exact r_iret hC hr hlk hI (by unfold moP; (repeat' split) <;> omega) (rfl) dX1_most_43
  refine r_tout (tgt := 44) hC (by omega) dX1_most_1 (by omega) (by decide) ?_
  refine r_iconst hC dX1_most_44 ?_
  exact r_iret hC hr hlk hI (by unfold moP; (repeat' split) <;> omega) (rfl) dX1_most_45

set_option maxHeartbeats 4000000 in
set_option maxRecDepth 100000 in
theorem c_X1_has (l : Launch) (X : XT) (a : Nat → Nat) (B : Nat) (S : St) (k : Nat) (i : Nat) (w : Int) (hk : k < 3) (hi : i < 8) (hw : 1 ≤ w ∧ w ≤ 4) : CT l X a B 0 yX1_has cX1_has 2 (some .int) [.ref (a (25 + 8 * k + i)), .int (J w)] S (Qi X a B (S k (18 + 5 * i + w.toNat)) (S)) := by
  refine CT.of (by decide +kernel) (Nat.le_of_ble_eq_true rfl) ?_
  intro p e s m below meth c ls hC hr hlk hI hl
  have hC : Cx p c cX1_has 2 s m [.ref (a (25 + 8 * k + i)), .int (J w)].toArray RX1 X B := hC
  have hl : lv_has ls 2 [(0, .ref (a (25 + 8 * k + i))), (1, .int (J w))] := hl
  refine r_iload_n hC hl dX1_has_0 1 rfl ?_
  by_cases c_1 : w = 1
  · refine r_tin (tgt := 28) hC 1 c_1 (by decide) dX1_has_1 (by decide) (by decide) rfl (by decide) ?_
    refine r_aload_n hC hl dX1_has_28 0 rfl ?_
    refine g_pg (k1 := k) (i := i) (v := .int (J (S k (19 + 5 * i)))) hC hI (by omega) (by omega) 1 (by decide) fl_RX1_13 rfl rfl dX1_has_29 ?_
    exact r_iret hC hr hlk hI (by congr 1; omega) (rfl) dX1_has_32
  by_cases c_2 : w = 2
  · refine r_tin (tgt := 33) hC 2 c_2 (by decide) dX1_has_1 (by decide) (by decide) rfl (by decide) ?_
    refine r_aload_n hC hl dX1_has_33 0 rfl ?_
    refine g_pg (k1 := k) (i := i) (v := .int (J (S k (20 + 5 * i)))) hC hI (by omega) (by omega) 2 (by decide) fl_RX1_16 rfl rfl dX1_has_34 ?_
    exact r_iret hC hr hlk hI (by congr 1; omega) (rfl) dX1_has_37
  by_cases c_3 : w = 3
  · refine r_tin (tgt := 38) hC 3 c_3 (by decide) dX1_has_1 (by decide) (by decide) rfl (by decide) ?_
    refine r_aload_n hC hl dX1_has_38 0 rfl ?_
    refine g_pg (k1 := k) (i := i) (v := .int (J (S k (21 + 5 * i)))) hC hI (by omega) (by omega) 3 (by decide) fl_RX1_19 rfl rfl dX1_has_39 ?_
    exact r_iret hC hr hlk hI (by congr 1; omega) (rfl) dX1_has_42
  refine r_tout (tgt := 43) hC (by omega) dX1_has_1 (by omega) (by decide) ?_
  refine r_aload_n hC hl dX1_has_43 0 rfl ?_
  refine g_pg (k1 := k) (i := i) (v := .int (J (S k (22 + 5 * i)))) hC hI (by omega) (by omega) 4 (by decide) fl_RX1_22 rfl rfl dX1_has_44 ?_
  exact r_iret hC hr hlk hI (by congr 1; omega) (rfl) dX1_has_47

set_option maxHeartbeats 4000000 in
set_option maxRecDepth 100000 in
theorem c_X1_put (l : Launch) (X : XT) (a : Nat → Nat) (B : Nat) (S : St) (k : Nat) (i : Nat) (w : Int) (v : Int) (hk : k < 3) (hi : i < 8) (hw : 1 ≤ w ∧ w ≤ 4) : CT l X a B 0 yX1_put cX1_put 3 none [.ref (a (25 + 8 * k + i)), .int (J w), .int (J v)] S (Qv X a B (up S k (18 + 5 * i + w.toNat) v)) := by
  refine CT.of (by decide +kernel) (Nat.le_of_ble_eq_true rfl) ?_
  intro p e s m below meth c ls hC hr hlk hI hl
  have hC : Cx p c cX1_put 3 s m [.ref (a (25 + 8 * k + i)), .int (J w), .int (J v)].toArray RX1 X B := hC
  have hl : lv_has ls 3 [(0, .ref (a (25 + 8 * k + i))), (1, .int (J w)), (2, .int (J v))] := hl
  refine r_iload_n hC hl dX1_put_0 1 rfl ?_
  by_cases c_1 : w = 1
  · refine r_tin (tgt := 28) hC 1 c_1 (by decide) dX1_put_1 (by decide) (by decide) rfl (by decide) ?_
    refine r_aload_n hC hl dX1_put_28 0 rfl ?_
    refine r_iload_n hC hl dX1_put_29 2 rfl ?_
    refine p_pg1 (k1 := k) (i := i) hC hI (by omega) (by omega) fl_RX1_13 dX1_put_30 (fun H locs hI => ?_)
    refine r_goto (tgt := 57) hC dX1_put_33 (by decide) ?_
    exact r_vret hC hr hlk hI (by congr 1; omega) dX1_put_57
  by_cases c_2 : w = 2
  · refine r_tin (tgt := 36) hC 2 c_2 (by decide) dX1_put_1 (by decide) (by decide) rfl (by decide) ?_
    refine r_aload_n hC hl dX1_put_36 0 rfl ?_
    refine r_iload_n hC hl dX1_put_37 2 rfl ?_
    refine p_pg2 (k1 := k) (i := i) hC hI (by omega) (by omega) fl_RX1_16 dX1_put_38 (fun H locs hI => ?_)
    refine r_goto (tgt := 57) hC dX1_put_41 (by decide) ?_
    exact r_vret hC hr hlk hI (by congr 1; omega) dX1_put_57
  by_cases c_3 : w = 3
  · refine r_tin (tgt := 44) hC 3 c_3 (by decide) dX1_put_1 (by decide) (by decide) rfl (by decide) ?_
    refine r_aload_n hC hl dX1_put_44 0 rfl ?_
    refine r_iload_n hC hl dX1_put_45 2 rfl ?_
    refine p_pg3 (k1 := k) (i := i) hC hI (by omega) (by omega) fl_RX1_19 dX1_put_46 (fun H locs hI => ?_)
    refine r_goto (tgt := 57) hC dX1_put_49 (by decide) ?_
    exact r_vret hC hr hlk hI (by congr 1; omega) dX1_put_57
  refine r_tout (tgt := 52) hC (by omega) dX1_put_1 (by omega) (by decide) ?_
  refine r_aload_n hC hl dX1_put_52 0 rfl ?_
  refine r_iload_n hC hl dX1_put_53 2 rfl ?_
  refine p_pg4 (k1 := k) (i := i) hC hI (by omega) (by omega) fl_RX1_22 dX1_put_54 (fun H locs hI => ?_)
  exact r_vret hC hr hlk hI (by congr 1; omega) dX1_put_57

set_option maxHeartbeats 4000000 in
set_option maxRecDepth 100000 in
theorem c_X1_faded (l : Launch) (X : XT) (a : Nat → Nat) (B : Nat) (S : St) (b : Int) (f : Int) (n : Int) (hb : 0 ≤ b ∧ b ≤ 99) (hf : 0 ≤ f ∧ f ≤ 2600) (hn : 0 ≤ n ∧ n ≤ 300) : CT l X a B 1 yX1_faded cX1_faded 3 (some .int) [.int (J b), .int (J f), .int (J n)] S (Qi X a B (fadedF b f n) (S)) := by
  refine CT.of (by decide +kernel) (Nat.le_of_ble_eq_true rfl) ?_
  intro p e s m below meth c ls hC hr hlk hI hl
  have hC : Cx p c cX1_faded 3 s m [.int (J b), .int (J f), .int (J n)].toArray RX1 X B := hC
  have hl : lv_has ls 3 [(0, .int (J b)), (1, .int (J f)), (2, .int (J n))] := hl
  have hnf := mul_bd hn hf
  refine r_iconst hC dX1_faded_0 ?_
  refine r_iload_n hC hl dX1_faded_1 0 rfl ?_
  refine r_iload_n hC hl dX1_faded_2 2 rfl ?_
  refine r_iload_n hC hl dX1_faded_3 1 rfl ?_
  refine r_imul hC dX1_faded_4 ?_
  refine r_isub hC dX1_faded_5 ?_
  refine r_cSi hC hI hl [.int (J 0), .int (J (b - (n * f)))] [] (c_J9_max_7cf53 l X a B S 0 (b - (n * f)) (by omega) (by omega)) ml_RX1_58 es_J9_max_7cf53 ⟨Nat.le_of_ble_eq_true rfl, Nat.le_of_ble_eq_true rfl⟩ ⟨Nat.zero_le _, Nat.zero_le _⟩ (Nat.le_of_ble_eq_true rfl) rfl dX1_faded_6 (fun H locs hI => ?_)
  exact r_iret hC hr hlk hI (rfl) (rfl) dX1_faded_9

set_option maxHeartbeats 4000000 in
set_option maxRecDepth 100000 in
theorem c_X1_blackOn (l : Launch) (X : XT) (a : Nat → Nat) (B : Nat) (S : St) (k : Nat) (i : Nat) (n : Int) (hk : k < 3) (hi : i < 8) (hV : VP (S k) i) (hn : 0 ≤ n ∧ n ≤ 300) : CT l X a B 2 yX1_blackOn cX1_blackOn 2 (some .int) [.ref (a (25 + 8 * k + i)), .int (J n)] S (Qi X a B (bkP (S k) i n) (S)) := by
  refine CT.of (by decide +kernel) (Nat.le_of_ble_eq_true rfl) ?_
  intro p e s m below meth c ls hC hr hlk hI hl
  have hC : Cx p c cX1_blackOn 2 s m [.ref (a (25 + 8 * k + i)), .int (J n)].toArray RX1 X B := hC
  have hl : lv_has ls 2 [(0, .ref (a (25 + 8 * k + i))), (1, .int (J n))] := hl
  obtain ⟨h18, h19, h20, h21, h22⟩ := id hV
  have hfd := fd_rg h18 h21 h22
  refine r_aload_n hC hl dX1_blackOn_0 0 rfl ?_
  refine g_pg (k1 := k) (i := i) (v := .int (J (S k (20 + 5 * i)))) hC hI (by omega) (by omega) 2 (by decide) fl_RX1_16 rfl rfl dX1_blackOn_1 ?_
  refine r_aload_n hC hl dX1_blackOn_4 0 rfl ?_
  refine g_pg (k1 := k) (i := i) (v := .int (J (S k (18 + 5 * i)))) hC hI (by omega) (by omega) 0 (by decide) fl_RX1_7 rfl rfl dX1_blackOn_5 ?_
  refine r_aload_n hC hl dX1_blackOn_8 0 rfl ?_
  refine g_pg (k1 := k) (i := i) (v := .int (J (S k (21 + 5 * i)))) hC hI (by omega) (by omega) 3 (by decide) fl_RX1_19 rfl rfl dX1_blackOn_9 ?_
  refine r_aload_n hC hl dX1_blackOn_12 0 rfl ?_
  refine g_pg (k1 := k) (i := i) (v := .int (J (S k (22 + 5 * i)))) hC hI (by omega) (by omega) 4 (by decide) fl_RX1_22 rfl rfl dX1_blackOn_13 ?_
  refine r_cSi hC hI hl [.int (J (S k (18 + 5 * i))), .int (J (S k (21 + 5 * i))), .int (J (S k (22 + 5 * i)))] [.int (J (S k (20 + 5 * i)))] (c_X0_fades l X a B S (S k (18 + 5 * i)) (S k (21 + 5 * i)) (S k (22 + 5 * i)) (by omega) (by omega) (by omega)) ml_RX1_25 es_X0_fades ⟨Nat.le_of_ble_eq_true rfl, Nat.le_of_ble_eq_true rfl⟩ ⟨Nat.zero_le _, Nat.zero_le _⟩ (Nat.le_of_ble_eq_true rfl) rfl dX1_blackOn_16 (fun H locs hI => ?_)
  refine r_iload_n hC hl dX1_blackOn_19 1 rfl ?_
  refine r_cSi hC hI hl [.int (J (S k (20 + 5 * i))), .int (J (fdF (S k (18 + 5 * i)) (S k (21 + 5 * i)) (S k (22 + 5 * i)))), .int (J n)] [] (c_X1_faded l X a B S (S k (20 + 5 * i)) (fdF (S k (18 + 5 * i)) (S k (21 + 5 * i)) (S k (22 + 5 * i))) n (by omega) (by omega) (by omega)) ml_RX1_31 es_X1_faded ⟨Nat.le_of_ble_eq_true rfl, Nat.le_of_ble_eq_true rfl⟩ ⟨Nat.zero_le _, Nat.zero_le _⟩ (Nat.le_of_ble_eq_true rfl) rfl dX1_blackOn_20 (fun H locs hI => ?_)
  exact r_iret hC hr hlk hI (rfl) (rfl) dX1_blackOn_23

set_option maxHeartbeats 4000000 in
set_option maxRecDepth 100000 in
theorem c_X1_believedAs (l : Launch) (X : XT) (a : Nat → Nat) (B : Nat) (S : St) (k : Nat) (i : Nat) (q : Int) (u : Int) (n : Int) (w : Int) (hk : k < 3) (hi : i < 8) (hV : VP (S k) i) (hq : 0 ≤ q ∧ q ≤ 5) (hu : 0 ≤ u ∧ u ≤ 1) (hn : 0 ≤ n ∧ n ≤ 300) (hw : 0 ≤ w ∧ w ≤ 9) : CT l X a B 2 yX1_believedAs cX1_believedAs 6 (some .int) [.ref (a (25 + 8 * k + i)), .int (J q), .int (J u), .int (J n), .int (J w)] S (Qi X a B (blA (S k) i q u n w) (S)) := by
  refine CT.of (by decide +kernel) (Nat.le_of_ble_eq_true rfl) ?_
  intro p e s m below meth c ls hC hr hlk hI hl
  have hC : Cx p c cX1_believedAs 6 s m [.ref (a (25 + 8 * k + i)), .int (J q), .int (J u), .int (J n), .int (J w)].toArray RX1 X B := hC
  have hl : lv_has ls 6 [(0, .ref (a (25 + 8 * k + i))), (1, .int (J q)), (2, .int (J u)), (3, .int (J n)), (4, .int (J w))] := hl
  obtain ⟨h18, h19, h20, h21, h22⟩ := id hV
  have hfd := fd_rg hq hu h22
  have hfa := fad_rg h20 hfd hn
  refine r_aload_n hC hl dX1_believedAs_0 0 rfl ?_
  refine g_pg (k1 := k) (i := i) (v := .int (J (S k (20 + 5 * i)))) hC hI (by omega) (by omega) 2 (by decide) fl_RX1_16 rfl rfl dX1_believedAs_1 ?_
  refine r_iload_n hC hl dX1_believedAs_4 1 rfl ?_
  refine r_iload_n hC hl dX1_believedAs_5 2 rfl ?_
  refine r_aload_n hC hl dX1_believedAs_6 0 rfl ?_
  refine g_pg (k1 := k) (i := i) (v := .int (J (S k (22 + 5 * i)))) hC hI (by omega) (by omega) 4 (by decide) fl_RX1_22 rfl rfl dX1_believedAs_7 ?_
  refine r_cSi hC hI hl [.int (J q), .int (J u), .int (J (S k (22 + 5 * i)))] [.int (J (S k (20 + 5 * i)))] (c_X0_fades l X a B S q u (S k (22 + 5 * i)) (by omega) (by omega) (by omega)) ml_RX1_25 es_X0_fades ⟨Nat.le_of_ble_eq_true rfl, Nat.le_of_ble_eq_true rfl⟩ ⟨Nat.zero_le _, Nat.zero_le _⟩ (Nat.le_of_ble_eq_true rfl) rfl dX1_believedAs_10 (fun H locs hI => ?_)
  refine r_iload_n hC hl dX1_believedAs_13 3 rfl ?_
  refine r_cSi hC hI hl [.int (J (S k (20 + 5 * i))), .int (J (fdF q u (S k (22 + 5 * i)))), .int (J n)] [] (c_X1_faded l X a B S (S k (20 + 5 * i)) (fdF q u (S k (22 + 5 * i))) n (by omega) (by omega) (by omega)) ml_RX1_31 es_X1_faded ⟨Nat.le_of_ble_eq_true rfl, Nat.le_of_ble_eq_true rfl⟩ ⟨Nat.zero_le _, Nat.zero_le _⟩ (Nat.le_of_ble_eq_true rfl) rfl dX1_believedAs_14 (fun H locs hI => ?_)
  refine r_istore (lv1 := [(5, .int (J (fadedF (S k (20 + 5 * i)) (fdF q u (S k (22 + 5 * i))) n))), (0, .ref (a (25 + 8 * k + i))), (1, .int (J q)), (2, .int (J u)), (3, .int (J n)), (4, .int (J w))]) hC hl dX1_believedAs_17 (by decide) rfl (fun ls hl => ?_)
  refine r_iload_n hC hl dX1_believedAs_19 2 rfl ?_
  refine r_iload hC hl dX1_believedAs_20 0 rfl ?_
  refine r_aload_n hC hl dX1_believedAs_22 1 rfl ?_
  refine g_pg (k1 := k) (i := i) (v := .int (J (S k (22 + 5 * i)))) hC hI (by omega) (by omega) 4 (by decide) fl_RX1_22 rfl rfl dX1_believedAs_23 ?_
  refine r_iload hC hl dX1_believedAs_26 5 rfl ?_
  refine r_cSi hC hI hl [.int (J q), .int (J (fadedF (S k (20 + 5 * i)) (fdF q u (S k (22 + 5 * i))) n)), .int (J (S k (22 + 5 * i))), .int (J w)] [] (c_X0_believed l X a B S q (fadedF (S k (20 + 5 * i)) (fdF q u (S k (22 + 5 * i))) n) (S k (22 + 5 * i)) w (by omega) (by omega) (by omega) (by omega)) ml_RX1_38 es_X0_believed ⟨Nat.le_of_ble_eq_true rfl, Nat.le_of_ble_eq_true rfl⟩ ⟨Nat.zero_le _, Nat.zero_le _⟩ (Nat.le_of_ble_eq_true rfl) rfl dX1_believedAs_28 (fun H locs hI => ?_)
  exact r_iret hC hr hlk hI (rfl) (rfl) dX1_believedAs_31

set_option maxHeartbeats 4000000 in
set_option maxRecDepth 100000 in
theorem c_X1_believedOn (l : Launch) (X : XT) (a : Nat → Nat) (B : Nat) (S : St) (k : Nat) (i : Nat) (n : Int) (w : Int) (hk : k < 3) (hi : i < 8) (hV : VP (S k) i) (hn : 0 ≤ n ∧ n ≤ 300) (hw : 0 ≤ w ∧ w ≤ 9) : CT l X a B 3 yX1_believedOn cX1_believedOn 3 (some .int) [.ref (a (25 + 8 * k + i)), .int (J n), .int (J w)] S (Qi X a B (blP (S k) i n w) (S)) := by
  refine CT.of (by decide +kernel) (Nat.le_of_ble_eq_true rfl) ?_
  intro p e s m below meth c ls hC hr hlk hI hl
  have hC : Cx p c cX1_believedOn 3 s m [.ref (a (25 + 8 * k + i)), .int (J n), .int (J w)].toArray RX1 X B := hC
  have hl : lv_has ls 3 [(0, .ref (a (25 + 8 * k + i))), (1, .int (J n)), (2, .int (J w))] := hl
  obtain ⟨h18, h19, h20, h21, h22⟩ := id hV
  refine r_aload_n hC hl dX1_believedOn_0 0 rfl ?_
  refine r_aload_n hC hl dX1_believedOn_1 0 rfl ?_
  refine g_pg (k1 := k) (i := i) (v := .int (J (S k (18 + 5 * i)))) hC hI (by omega) (by omega) 0 (by decide) fl_RX1_7 rfl rfl dX1_believedOn_2 ?_
  refine r_aload_n hC hl dX1_believedOn_5 0 rfl ?_
  refine g_pg (k1 := k) (i := i) (v := .int (J (S k (21 + 5 * i)))) hC hI (by omega) (by omega) 3 (by decide) fl_RX1_19 rfl rfl dX1_believedOn_6 ?_
  refine r_iload_n hC hl dX1_believedOn_9 1 rfl ?_
  refine r_iload_n hC hl dX1_believedOn_10 2 rfl ?_
  refine r_cVi hC hI hl [.int (J (S k (18 + 5 * i))), .int (J (S k (21 + 5 * i))), .int (J n), .int (J w)] [] (c_X1_believedAs l X a B S k i (S k (18 + 5 * i)) (S k (21 + 5 * i)) n w (by omega) (by omega) hV (by omega) (by omega) (by omega) (by omega)) ml_RX1_34 ev_X1_believedAs (rc_pg (S := S) hC hI (by omega) (by omega)) ⟨Nat.le_of_ble_eq_true rfl, Nat.le_of_ble_eq_true rfl⟩ ⟨Nat.zero_le _, Nat.zero_le _⟩ (Nat.le_of_ble_eq_true rfl) rfl dX1_believedOn_11 (fun H locs hI => ?_)
  exact r_iret hC hr hlk hI (rfl) (rfl) dX1_believedOn_14
