theorem fs_rg (f : Nat → Bool) : ∀ n i : Nat, -1 ≤ fsF f n i ∧ fsF f n i < ((i + n : Nat) : Int)
  | 0, i => by show (-1 : Int) ≤ -1 ∧ (-1 : Int) < _; omega
  | n + 1, i => by
    have h := fs_rg f n (i + 1)
    show -1 ≤ (if _ then _ else _) ∧ (if _ then _ else _) < _
    split <;> omega
theorem be_rg (f : Nat → Int) : ∀ n : Nat, -1 ≤ (beF f n).1 ∧ (beF f n).1 ≤ (n : Int)
  | 0 => by show (-1 : Int) ≤ -1 ∧ (-1 : Int) ≤ _; omega
  | n + 1 => by
    have h := be_rg f n
    show -1 ≤ (if _ then _ else _ : Int × Int).1 ∧ (if _ then _ else _ : Int × Int).1 ≤ _
    split
    · show -1 ≤ (n : Int) ∧ (n : Int) ≤ _; omega
    · omega
theorem dw_rg (f : Nat → Bool) : ∀ n : Nat, -1 ≤ dwF f n ∧ dwF f n ≤ (n : Int)
  | 0 => by show (-1 : Int) ≤ -1 ∧ (-1 : Int) ≤ _; omega
  | n + 1 => by
    have h := dw_rg f n
    have e : dwF f (n + 1) = if f (n + 1) = true then ((n + 1 : Nat) : Int) else dwF f n := rfl
    rw [e]
    split <;> omega

theorem rgo {x m : Int} (h : -1 ≤ x ∧ x < m) (hm : m ≤ 2147483647) : -2147483648 ≤ x ∧ x ≤ 2147483647 := by omega
theorem rgo2 {x m : Int} (h : -1 ≤ x ∧ x ≤ m) (hm : m ≤ 2147483647) : -2147483648 ≤ x ∧ x ≤ 2147483647 := by omega

set_option maxHeartbeats 4000000 in
set_option maxRecDepth 100000 in
theorem c_X0_isOneOf (l : Launch) (X : XT) (a : Nat → Nat) (B : Nat) (S : St) (k : Int) (v : Int) (hk : 0 ≤ k ∧ k ≤ 5) (hv : 0 ≤ v ∧ v ≤ 5) : CT l X a B 0 yX0_isOneOf cX0_isOneOf 2 (some .boolean) [.int (J k), .int (J v)] S (Qi X a B (bI (v = 0 ∨ k = v ∨ (v = 1 ∧ k = 4) ∨ (v = 2 ∧ k = 5))) (S)) := by
  refine CT.of (by decide +kernel) (Nat.le_of_ble_eq_true rfl) ?_
  intro p e s m below meth c ls hC hr hlk hI hl
  have hC : Cx p c cX0_isOneOf 2 s m [.int (J k), .int (J v)].toArray RX0 X B := hC
  have hl : lv_has ls 2 [(0, .int (J k)), (1, .int (J v))] := hl
  refine r_iload_n hC hl dX0_isOneOf_0 1 rfl ?_
  by_cases c_1 : v = 0
  · refine r_tin (tgt := 28) hC 0 c_1 (by decide) dX0_isOneOf_1 (by decide) (by decide) rfl (by decide) ?_
    refine r_iconst hC dX0_isOneOf_28 ?_
    exact r_zret hC hr hlk hI (by decide) ((bI_t (by omega)).symm) (rfl) dX0_isOneOf_29
  by_cases c_2 : v = 1
  · refine r_tin (tgt := 30) hC 1 c_2 (by decide) dX0_isOneOf_1 (by decide) (by decide) rfl (by decide) ?_
    refine r_iload_n hC hl dX0_isOneOf_30 0 rfl ?_
    refine r_iconst hC dX0_isOneOf_31 ?_
    refine r_icmp_eq (tgt := 40) hC (by omega) (by omega) dX0_isOneOf_32 (by decide) (fun c_3 => ?_) (fun c_3 => ?_)
    · skip
      refine r_iconst hC dX0_isOneOf_40 ?_
      refine r_goto (tgt := 45) hC dX0_isOneOf_41 (by decide) ?_
      exact r_zret hC hr hlk hI (by decide) ((bI_t (by omega)).symm) (rfl) dX0_isOneOf_45
    · skip
      refine r_iload_n hC hl dX0_isOneOf_35 0 rfl ?_
      refine r_iconst hC dX0_isOneOf_36 ?_
      refine r_icmp_ne (tgt := 44) hC (by omega) (by omega) dX0_isOneOf_37 (by decide) (fun c_4 => ?_) (fun c_4 => ?_)
      · skip
        refine r_iconst hC dX0_isOneOf_44 ?_
        exact r_zret hC hr hlk hI (by decide) ((bI_f (by omega)).symm) (rfl) dX0_isOneOf_45
      · skip
        refine r_iconst hC dX0_isOneOf_40 ?_
        refine r_goto (tgt := 45) hC dX0_isOneOf_41 (by decide) ?_
        exact r_zret hC hr hlk hI (by decide) ((bI_t (by omega)).symm) (rfl) dX0_isOneOf_45
  by_cases c_5 : v = 2
  · refine r_tin (tgt := 46) hC 2 c_5 (by decide) dX0_isOneOf_1 (by decide) (by decide) rfl (by decide) ?_
    refine r_iload_n hC hl dX0_isOneOf_46 0 rfl ?_
    refine r_iconst hC dX0_isOneOf_47 ?_
    refine r_icmp_eq (tgt := 56) hC (by omega) (by omega) dX0_isOneOf_48 (by decide) (fun c_6 => ?_) (fun c_6 => ?_)
    · skip
      refine r_iconst hC dX0_isOneOf_56 ?_
      refine r_goto (tgt := 61) hC dX0_isOneOf_57 (by decide) ?_
      exact r_zret hC hr hlk hI (by decide) ((bI_t (by omega)).symm) (rfl) dX0_isOneOf_61
    · skip
      refine r_iload_n hC hl dX0_isOneOf_51 0 rfl ?_
      refine r_iconst hC dX0_isOneOf_52 ?_
      refine r_icmp_ne (tgt := 60) hC (by omega) (by omega) dX0_isOneOf_53 (by decide) (fun c_7 => ?_) (fun c_7 => ?_)
      · skip
        refine r_iconst hC dX0_isOneOf_60 ?_
        exact r_zret hC hr hlk hI (by decide) ((bI_f (by omega)).symm) (rfl) dX0_isOneOf_61
      · skip
        refine r_iconst hC dX0_isOneOf_56 ?_
        refine r_goto (tgt := 61) hC dX0_isOneOf_57 (by decide) ?_
        exact r_zret hC hr hlk hI (by decide) ((bI_t (by omega)).symm) (rfl) dX0_isOneOf_61
  refine r_tout (tgt := 62) hC (by omega) dX0_isOneOf_1 (by omega) (by decide) ?_
  refine r_iload_n hC hl dX0_isOneOf_62 0 rfl ?_
  refine r_iload_n hC hl dX0_isOneOf_63 1 rfl ?_
  refine r_icmp_ne (tgt := 71) hC (by omega) (by omega) dX0_isOneOf_64 (by decide) (fun c_8 => ?_) (fun c_8 => ?_)
  · skip
    refine r_iconst hC dX0_isOneOf_71 ?_
    exact r_zret hC hr hlk hI (by decide) ((bI_f (by omega)).symm) (rfl) dX0_isOneOf_72
  · skip
    refine r_iconst hC dX0_isOneOf_67 ?_
    refine r_goto (tgt := 72) hC dX0_isOneOf_68 (by decide) ?_
    exact r_zret hC hr hlk hI (by decide) ((bI_t (by omega)).symm) (rfl) dX0_isOneOf_72

theorem c_X2_letGo_i (l : Launch) (X : XT) (a : Nat → Nat) (B : Nat) (S : St) (k : Nat) (n : Int) (hk : k < 3) (hV : VR 9999 (S k)) (hn : 0 ≤ n ∧ n ≤ 300) : CT l X a B 3 yX2_letGo cX2_letGo 4 none [.ref (a (2 + k)), .int (J n)] S (Qv X a B (setB S k (lgF (S k) n.toNat))) := by
  have h := c_X2_letGo l X a B S k n.toNat hk hV (by omega)
  rw [show ((n.toNat : Nat) : Int) = n by omega] at h
  exact h

theorem c_X2_inkOn_i (l : Launch) (X : XT) (a : Nat → Nat) (B : Nat) (S : St) (k : Nat) (n : Int) (w : Int) (hk : k < 3) (hV : VR 9999 (S k)) (hw : 0 ≤ w ∧ w ≤ 9) (hn : 0 ≤ n ∧ n ≤ 300) : CT l X a B 3 yX2_inkOn cX2_inkOn 3 (some .int) [.ref (a (2 + k)), .int (J n), .int (J w)] S (Qi X a B (iwF (S k) (S k 2 + w * sumF (dkF (S k)) n.toNat)) (S)) := by
  have h := c_X2_inkOn l X a B S k n.toNat w hk hV (by omega) hw
  rw [show ((n.toNat : Nat) : Int) = n by omega] at h
  exact h

theorem c_X2_fewestBrothers_i (l : Launch) (X : XT) (a : Nat → Nat) (B : Nat) (S : St) (k : Nat) (n : Int) (v : Int) (hk : k < 3) (hV : VR 9999 (S k)) (hv : 0 ≤ v ∧ v ≤ 999) (hn : 0 ≤ n ∧ n ≤ 300) : CT l X a B 3 yX2_fewestBrothers cX2_fewestBrothers 5 (some .int) [.ref (a (2 + k)), .int (J n), .int (J v)] S (Qi X a B (fsF (fun j => decide (v ≤ iwF (S k) (S k 2 + (j : Int) * sumF (dkF (S k)) n.toNat))) 10 0) (S)) := by
  have h := c_X2_fewestBrothers l X a B S k n.toNat v hk hV (by omega) hv
  rw [show ((n.toNat : Nat) : Int) = n by omega] at h
  exact h

set_option maxHeartbeats 4000000 in
set_option maxRecDepth 100000 in
theorem c_X6_set (l : Launch) (X : XT) (a : Nat → Nat) (B : Nat) (S : St) (w : Int) (v : Int) (u : Int) (hV : VR 9999 (S 0)) (hw : -2147483648 ≤ w ∧ w ≤ 2147483647) (hv : -2147483648 ≤ v ∧ v ≤ 2147483647) (hu : -2147483648 ≤ u ∧ u ≤ 2147483647) : CT l X a B 2 yX6_set cX6_set 5 (some .int) [.ref (a (0)), .int (J w), .int (J v), .int (J u)] S (Qi X a B (anF (if (0 ≤ w ∧ w < S 0 5) ∧ (1 ≤ v ∧ v ≤ 4) ∧ leP v ≤ u ∧ u ≤ moP v then -1 else 0) (S 0 (18 + 5 * w.toNat + v.toNat))) (fnF S 3 (if (0 ≤ w ∧ w < S 0 5) ∧ (1 ≤ v ∧ v ≤ 4) ∧ leP v ≤ u ∧ u ≤ moP v then -1 else 0) (up S 0 (18 + 5 * w.toNat + v.toNat) u))) := by
  refine CT.of (by decide +kernel) (Nat.le_of_ble_eq_true rfl) ?_
  intro p e s m below meth c ls hC hr hlk hI hl
  have hC : Cx p c cX6_set 5 s m [.ref (a (0)), .int (J w), .int (J v), .int (J u)].toArray RX6 X B := hC
  have hl : lv_has ls 5 [(0, .ref (a (0))), (1, .int (J w)), (2, .int (J v)), (3, .int (J u))] := hl
  obtain ⟨⟨hN, hBr, hBu, hIn, hLa, hPc⟩, hDk, hPg⟩ := id hV
  have hle : (v = 1 ∧ leP v = 1) ∨ (v ≠ 1 ∧ leP v = 0) := by unfold leP; split <;> omega
  have hmo : ((1 ≤ v ∧ v ≤ 4) ∨ moP v = -1) ∧ -1 ≤ moP v ∧ moP v ≤ 9999 := by unfold moP; (repeat' split) <;> omega
  refine r_aload_n hC hl dX6_set_0 0 rfl ?_
  refine g_in  (v := .ref (a (2 + 0))) hC hI 1 (by decide) fl_RX6_16 rfl rfl dX6_set_1 ?_
  refine r_iload_n hC hl dX6_set_4 1 rfl ?_
  refine r_cVi hC hI hl [.int (J w)] [] (c_X2_hasPage l X a B S 0 w (by omega) (by omega) (by omega)) ml_RX6_107 ev_X2_hasPage (rc_sc (S := S) hC hI (by decide)) ⟨Nat.le_of_ble_eq_true rfl, Nat.le_of_ble_eq_true rfl⟩ ⟨Nat.zero_le _, Nat.zero_le _⟩ (Nat.le_of_ble_eq_true rfl) rfl dX6_set_5 (fun H locs hI => ?_)
  refine r_b_eq (tgt := 26) hC dX6_set_8 (by decide) (fun c_1 => ?_) (fun c_1 => ?_)
  · skip
    refine r_aload_n hC hl dX6_set_26 0 rfl ?_
    refine r_iconst hC dX6_set_27 ?_
    refine r_cVi hC hI hl [.int (J 0)] [] (c_X6_found l X a B S 0 (by omega)) ml_RX6_48 ev_X6_found (rc_in (S := S) hC hI) ⟨Nat.le_of_ble_eq_true rfl, Nat.le_of_ble_eq_true rfl⟩ ⟨Nat.zero_le _, Nat.zero_le _⟩ (Nat.le_of_ble_eq_true rfl) rfl dX6_set_28 (fun H locs hI => ?_)
    exact r_iret hC hr hlk hI (an_f 0 (by (repeat' split) <;> first | rfl | omega)) (fn_f 0 (by (repeat' split) <;> first | rfl | omega)) dX6_set_31
  · skip
    refine r_iload_n hC hl dX6_set_11 3 rfl ?_
    refine r_iload_n hC hl dX6_set_12 2 rfl ?_
    refine r_cSi hC hI hl [.int (J v)] [.int (J u)] (c_X1_least l X a B S v (by omega)) ml_RX6_142 es_X1_least ⟨Nat.le_of_ble_eq_true rfl, Nat.le_of_ble_eq_true rfl⟩ ⟨Nat.zero_le _, Nat.zero_le _⟩ (Nat.le_of_ble_eq_true rfl) rfl dX6_set_13 (fun H locs hI => ?_)
    refine r_iload_n hC hl dX6_set_16 2 rfl ?_
    refine r_cSi hC hI hl [.int (J v)] [.int (J (leP v)), .int (J u)] (c_X1_most l X a B S v (by omega)) ml_RX6_145 es_X1_most ⟨Nat.le_of_ble_eq_true rfl, Nat.le_of_ble_eq_true rfl⟩ ⟨Nat.zero_le _, Nat.zero_le _⟩ (Nat.le_of_ble_eq_true rfl) rfl dX6_set_17 (fun H locs hI => ?_)
    refine r_cSi hC hI hl [.int (J u), .int (J (leP v)), .int (J (moP v))] [] (c_X6_isWithin l X a B S u (leP v) (moP v) (by omega) (by omega) (by omega)) ml_RX6_44 es_X6_isWithin ⟨Nat.le_of_ble_eq_true rfl, Nat.le_of_ble_eq_true rfl⟩ ⟨Nat.zero_le _, Nat.zero_le _⟩ (Nat.le_of_ble_eq_true rfl) rfl dX6_set_20 (fun H locs hI => ?_)
    refine r_b_ne (tgt := 32) hC dX6_set_23 (by decide) (fun c_2 => ?_) (fun c_2 => ?_)
    · skip
      refine r_aload_n hC hl dX6_set_32 0 rfl ?_
      refine g_in  (v := .ref (a (2 + 0))) hC hI 1 (by decide) fl_RX6_16 rfl rfl dX6_set_33 ?_
      refine g_sc (k1 := 0) (v := .ref (a (11 + 0))) hC hI (by decide) 7 (by decide) fl_RX6_110 rfl rfl dX6_set_36 ?_
      refine r_iload_n hC hl dX6_set_39 1 rfl ?_
      refine r_pald (cx := 11 + 0) hC hI (by omega) (ce_pa X a _ (by decide)) (by decide) ((w).toNat) (by omega) (by omega) dX6_set_40 ?_
      refine r_iload_n hC hl dX6_set_41 2 rfl ?_
      refine r_cVi hC hI hl [.int (J v)] [] (c_X1_has l X a B S 0 ((w).toNat) v (by omega) (by omega) (by omega)) ml_RX6_148 ev_X1_has (rc_pg (S := S) hC hI (by decide) (by omega)) ⟨Nat.le_of_ble_eq_true rfl, Nat.le_of_ble_eq_true rfl⟩ ⟨Nat.zero_le _, Nat.zero_le _⟩ (Nat.le_of_ble_eq_true rfl) rfl dX6_set_42 (fun H locs hI => ?_)
      refine r_istore (lv1 := [(4, .int (J (S 0 (18 + 5 * ((w).toNat) + v.toNat)))), (0, .ref (a (0))), (1, .int (J w)), (2, .int (J v)), (3, .int (J u))]) hC hl dX6_set_45 (by decide) rfl (fun ls hl => ?_)
      refine r_aload_n hC hl dX6_set_47 1 rfl ?_
      refine g_in  (v := .ref (a (2 + 0))) hC hI 1 (by decide) fl_RX6_16 rfl rfl dX6_set_48 ?_
      refine g_sc (k1 := 0) (v := .ref (a (11 + 0))) hC hI (by decide) 7 (by decide) fl_RX6_110 rfl rfl dX6_set_51 ?_
      refine r_iload_n hC hl dX6_set_54 2 rfl ?_
      refine r_pald (cx := 11 + 0) hC hI (by omega) (ce_pa X a _ (by decide)) (by decide) ((w).toNat) (by omega) (by omega) dX6_set_55 ?_
      refine r_iload_n hC hl dX6_set_56 3 rfl ?_
      refine r_iload_n hC hl dX6_set_57 4 rfl ?_
      refine r_cVv hC hI hl [.int (J v), .int (J u)] [] (c_X1_put l X a B S 0 ((w).toNat) v u (by omega) (by omega) (by omega)) ml_RX6_151 ev_X1_put (rc_pg (S := S) hC hI (by decide) (by omega)) ⟨Nat.le_of_ble_eq_true rfl, Nat.le_of_ble_eq_true rfl⟩ ⟨Nat.zero_le _, Nat.zero_le _⟩ (Nat.le_of_ble_eq_true rfl) rfl dX6_set_58 (fun H locs hI => ?_)
      refine r_iload hC hl dX6_set_61 0 rfl ?_
      exact r_iret hC hr hlk hI (an_n (by (repeat' split) <;> first | rfl | omega) (rfl)) (fn_n (by (repeat' split) <;> first | rfl | omega) (rfl)) dX6_set_63
    · skip
      refine r_aload_n hC hl dX6_set_26 0 rfl ?_
      refine r_iconst hC dX6_set_27 ?_
      refine r_cVi hC hI hl [.int (J 0)] [] (c_X6_found l X a B S 0 (by omega)) ml_RX6_48 ev_X6_found (rc_in (S := S) hC hI) ⟨Nat.le_of_ble_eq_true rfl, Nat.le_of_ble_eq_true rfl⟩ ⟨Nat.zero_le _, Nat.zero_le _⟩ (Nat.le_of_ble_eq_true rfl) rfl dX6_set_28 (fun H locs hI => ?_)
      exact r_iret hC hr hlk hI (an_f 0 (by (repeat' split) <;> first | rfl | omega)) (fn_f 0 (by (repeat' split) <;> first | rfl | omega)) dX6_set_31

set_option maxHeartbeats 4000000 in
set_option maxRecDepth 100000 in
theorem c_X6_turn (l : Launch) (X : XT) (a : Nat → Nat) (B : Nat) (S : St) (w : Int) (v : Int) (hV : VR 9999 (S 0)) (hw : -2147483648 ≤ w ∧ w ≤ 2147483647) (hv : -2147483648 ≤ v ∧ v ≤ 2147483647) : CT l X a B 2 yX6_turn cX6_turn 4 (some .int) [.ref (a (0)), .int (J w), .int (J v)] S (Qi X a B (anF (if (0 ≤ w ∧ w < S 0 5) ∧ 0 ≤ v ∧ v ≤ 5 then -1 else 0) (S 0 (18 + 5 * w.toNat))) (fnF S 3 (if (0 ≤ w ∧ w < S 0 5) ∧ 0 ≤ v ∧ v ≤ 5 then -1 else 0) (up S 0 (18 + 5 * w.toNat) v))) := by
  refine CT.of (by decide +kernel) (Nat.le_of_ble_eq_true rfl) ?_
  intro p e s m below meth c ls hC hr hlk hI hl
  have hC : Cx p c cX6_turn 4 s m [.ref (a (0)), .int (J w), .int (J v)].toArray RX6 X B := hC
  have hl : lv_has ls 4 [(0, .ref (a (0))), (1, .int (J w)), (2, .int (J v))] := hl
  obtain ⟨⟨hN, hBr, hBu, hIn, hLa, hPc⟩, hDk, hPg⟩ := id hV
  refine r_aload_n hC hl dX6_turn_0 0 rfl ?_
  refine g_in  (v := .ref (a (2 + 0))) hC hI 1 (by decide) fl_RX6_16 rfl rfl dX6_turn_1 ?_
  refine r_iload_n hC hl dX6_turn_4 1 rfl ?_
  refine r_cVi hC hI hl [.int (J w)] [] (c_X2_hasPage l X a B S 0 w (by omega) (by omega) (by omega)) ml_RX6_107 ev_X2_hasPage (rc_sc (S := S) hC hI (by decide)) ⟨Nat.le_of_ble_eq_true rfl, Nat.le_of_ble_eq_true rfl⟩ ⟨Nat.zero_le _, Nat.zero_le _⟩ (Nat.le_of_ble_eq_true rfl) rfl dX6_turn_5 (fun H locs hI => ?_)
  refine r_b_eq (tgt := 18) hC dX6_turn_8 (by decide) (fun c_1 => ?_) (fun c_1 => ?_)
  · skip
    refine r_aload_n hC hl dX6_turn_18 0 rfl ?_
    refine r_iconst hC dX6_turn_19 ?_
    refine r_cVi hC hI hl [.int (J 0)] [] (c_X6_found l X a B S 0 (by omega)) ml_RX6_48 ev_X6_found (rc_in (S := S) hC hI) ⟨Nat.le_of_ble_eq_true rfl, Nat.le_of_ble_eq_true rfl⟩ ⟨Nat.zero_le _, Nat.zero_le _⟩ (Nat.le_of_ble_eq_true rfl) rfl dX6_turn_20 (fun H locs hI => ?_)
    exact r_iret hC hr hlk hI (an_f 0 (by (repeat' split) <;> first | rfl | omega)) (fn_f 0 (by (repeat' split) <;> first | rfl | omega)) dX6_turn_23
  · skip
    refine r_iload_n hC hl dX6_turn_11 2 rfl ?_
    refine r_cSi hC hI hl [.int (J v)] [] (c_X0_isKind l X a B S v (by omega)) ml_RX6_88 es_X0_isKind ⟨Nat.le_of_ble_eq_true rfl, Nat.le_of_ble_eq_true rfl⟩ ⟨Nat.zero_le _, Nat.zero_le _⟩ (Nat.le_of_ble_eq_true rfl) rfl dX6_turn_12 (fun H locs hI => ?_)
    refine r_b_ne (tgt := 24) hC dX6_turn_15 (by decide) (fun c_2 => ?_) (fun c_2 => ?_)
    · skip
      refine r_aload_n hC hl dX6_turn_24 0 rfl ?_
      refine g_in  (v := .ref (a (2 + 0))) hC hI 1 (by decide) fl_RX6_16 rfl rfl dX6_turn_25 ?_
      refine g_sc (k1 := 0) (v := .ref (a (11 + 0))) hC hI (by decide) 7 (by decide) fl_RX6_110 rfl rfl dX6_turn_28 ?_
      refine r_iload_n hC hl dX6_turn_31 1 rfl ?_
      refine r_pald (cx := 11 + 0) hC hI (by omega) (ce_pa X a _ (by decide)) (by decide) ((w).toNat) (by omega) (by omega) dX6_turn_32 ?_
      refine g_pg (k1 := 0) (i := (w).toNat) (v := .int (J (S 0 (18 + 5 * ((w).toNat))))) hC hI (by decide) (by omega) 0 (by decide) fl_RX6_114 rfl rfl dX6_turn_33 ?_
      refine r_istore_n (lv1 := [(3, .int (J (S 0 (18 + 5 * ((w).toNat))))), (0, .ref (a (0))), (1, .int (J w)), (2, .int (J v))]) hC hl dX6_turn_36 3 rfl (by decide) rfl (fun ls hl => ?_)
      refine r_aload_n hC hl dX6_turn_37 1 rfl ?_
      refine g_in  (v := .ref (a (2 + 0))) hC hI 1 (by decide) fl_RX6_16 rfl rfl dX6_turn_38 ?_
      refine g_sc (k1 := 0) (v := .ref (a (11 + 0))) hC hI (by decide) 7 (by decide) fl_RX6_110 rfl rfl dX6_turn_41 ?_
      refine r_iload_n hC hl dX6_turn_44 2 rfl ?_
      refine r_pald (cx := 11 + 0) hC hI (by omega) (ce_pa X a _ (by decide)) (by decide) ((w).toNat) (by omega) (by omega) dX6_turn_45 ?_
      refine r_iload_n hC hl dX6_turn_46 3 rfl ?_
      refine p_pg0 (k1 := 0) (i := (w).toNat) hC hI (by decide) (by omega) fl_RX6_114 dX6_turn_47 (fun H locs hI => ?_)
      refine r_iload_n hC hl dX6_turn_50 0 rfl ?_
      exact r_iret hC hr hlk hI (an_n (by (repeat' split) <;> first | rfl | omega) (rfl)) (fn_n (by (repeat' split) <;> first | rfl | omega) (rfl)) dX6_turn_51
    · skip
      refine r_aload_n hC hl dX6_turn_18 0 rfl ?_
      refine r_iconst hC dX6_turn_19 ?_
      refine r_cVi hC hI hl [.int (J 0)] [] (c_X6_found l X a B S 0 (by omega)) ml_RX6_48 ev_X6_found (rc_in (S := S) hC hI) ⟨Nat.le_of_ble_eq_true rfl, Nat.le_of_ble_eq_true rfl⟩ ⟨Nat.zero_le _, Nat.zero_le _⟩ (Nat.le_of_ble_eq_true rfl) rfl dX6_turn_20 (fun H locs hI => ?_)
      exact r_iret hC hr hlk hI (an_f 0 (by (repeat' split) <;> first | rfl | omega)) (fn_f 0 (by (repeat' split) <;> first | rfl | omega)) dX6_turn_23

set_option maxHeartbeats 4000000 in
set_option maxRecDepth 100000 in
theorem c_X6_as (l : Launch) (X : XT) (a : Nat → Nat) (B : Nat) (S : St) (w : Int) (v : Int) (hV : VR 9999 (S 0)) (hw : -2147483648 ≤ w ∧ w ≤ 2147483647) (hv : -2147483648 ≤ v ∧ v ≤ 2147483647) : CT l X a B 2 yX6_as cX6_as 3 (some .int) [.ref (a (0)), .int (J w), .int (J v)] S (Qi X a B (anF (if ¬ ((0 ≤ w ∧ w < S 0 5) ∧ 0 ≤ v ∧ v ≤ 5) then 0 else if v = 0 ∨ S 0 (18 + 5 * w.toNat) = v ∨ (v = 1 ∧ S 0 (18 + 5 * w.toNat) = 4) ∨ (v = 2 ∧ S 0 (18 + 5 * w.toNat) = 5) then -1 else 2) (S 0 (20 + 5 * w.toNat))) (fnF S 3 (if ¬ ((0 ≤ w ∧ w < S 0 5) ∧ 0 ≤ v ∧ v ≤ 5) then 0 else if v = 0 ∨ S 0 (18 + 5 * w.toNat) = v ∨ (v = 1 ∧ S 0 (18 + 5 * w.toNat) = 4) ∨ (v = 2 ∧ S 0 (18 + 5 * w.toNat) = 5) then -1 else 2) (S))) := by
  refine CT.of (by decide +kernel) (Nat.le_of_ble_eq_true rfl) ?_
  intro p e s m below meth c ls hC hr hlk hI hl
  have hC : Cx p c cX6_as 3 s m [.ref (a (0)), .int (J w), .int (J v)].toArray RX6 X B := hC
  have hl : lv_has ls 3 [(0, .ref (a (0))), (1, .int (J w)), (2, .int (J v))] := hl
  obtain ⟨⟨hN, hBr, hBu, hIn, hLa, hPc⟩, hDk, hPg⟩ := id hV
  refine r_aload_n hC hl dX6_as_0 0 rfl ?_
  refine g_in  (v := .ref (a (2 + 0))) hC hI 1 (by decide) fl_RX6_16 rfl rfl dX6_as_1 ?_
  refine r_iload_n hC hl dX6_as_4 1 rfl ?_
  refine r_cVi hC hI hl [.int (J w)] [] (c_X2_hasPage l X a B S 0 w (by omega) (by omega) (by omega)) ml_RX6_107 ev_X2_hasPage (rc_sc (S := S) hC hI (by decide)) ⟨Nat.le_of_ble_eq_true rfl, Nat.le_of_ble_eq_true rfl⟩ ⟨Nat.zero_le _, Nat.zero_le _⟩ (Nat.le_of_ble_eq_true rfl) rfl dX6_as_5 (fun H locs hI => ?_)
  refine r_b_eq (tgt := 18) hC dX6_as_8 (by decide) (fun c_1 => ?_) (fun c_1 => ?_)
  · skip
    refine r_aload_n hC hl dX6_as_18 0 rfl ?_
    refine r_iconst hC dX6_as_19 ?_
    refine r_cVi hC hI hl [.int (J 0)] [] (c_X6_found l X a B S 0 (by omega)) ml_RX6_48 ev_X6_found (rc_in (S := S) hC hI) ⟨Nat.le_of_ble_eq_true rfl, Nat.le_of_ble_eq_true rfl⟩ ⟨Nat.zero_le _, Nat.zero_le _⟩ (Nat.le_of_ble_eq_true rfl) rfl dX6_as_20 (fun H locs hI => ?_)
    exact r_iret hC hr hlk hI (an_f 0 (by (repeat' split) <;> first | rfl | omega)) (fn_f 0 (by (repeat' split) <;> first | rfl | omega)) dX6_as_23
  · skip
    refine r_iload_n hC hl dX6_as_11 2 rfl ?_
    refine r_cSi hC hI hl [.int (J v)] [] (c_X0_isKind l X a B S v (by omega)) ml_RX6_88 es_X0_isKind ⟨Nat.le_of_ble_eq_true rfl, Nat.le_of_ble_eq_true rfl⟩ ⟨Nat.zero_le _, Nat.zero_le _⟩ (Nat.le_of_ble_eq_true rfl) rfl dX6_as_12 (fun H locs hI => ?_)
    refine r_b_ne (tgt := 24) hC dX6_as_15 (by decide) (fun c_2 => ?_) (fun c_2 => ?_)
    · skip
      refine r_aload_n hC hl dX6_as_24 0 rfl ?_
      refine g_in  (v := .ref (a (2 + 0))) hC hI 1 (by decide) fl_RX6_16 rfl rfl dX6_as_25 ?_
      refine g_sc (k1 := 0) (v := .ref (a (11 + 0))) hC hI (by decide) 7 (by decide) fl_RX6_110 rfl rfl dX6_as_28 ?_
      refine r_iload_n hC hl dX6_as_31 1 rfl ?_
      refine r_pald (cx := 11 + 0) hC hI (by omega) (ce_pa X a _ (by decide)) (by decide) ((w).toNat) (by omega) (by omega) dX6_as_32 ?_
      have hvp := hPg w.toNat (by omega)
      obtain ⟨h18, h19, h20, h21, h22⟩ := id hvp
      refine g_pg (k1 := 0) (i := (w).toNat) (v := .int (J (S 0 (18 + 5 * ((w).toNat))))) hC hI (by decide) (by omega) 0 (by decide) fl_RX6_114 rfl rfl dX6_as_33 ?_
      refine r_iload_n hC hl dX6_as_36 2 rfl ?_
      refine r_cSi hC hI hl [.int (J (S 0 (18 + 5 * ((w).toNat)))), .int (J v)] [] (c_X0_isOneOf l X a B S (S 0 (18 + 5 * ((w).toNat))) v (by omega) (by omega)) ml_RX6_154 es_X0_isOneOf ⟨Nat.le_of_ble_eq_true rfl, Nat.le_of_ble_eq_true rfl⟩ ⟨Nat.zero_le _, Nat.zero_le _⟩ (Nat.le_of_ble_eq_true rfl) rfl dX6_as_37 (fun H locs hI => ?_)
      refine r_b_ne (tgt := 49) hC dX6_as_40 (by decide) (fun c_3 => ?_) (fun c_3 => ?_)
      · skip
        refine r_aload_n hC hl dX6_as_49 0 rfl ?_
        refine g_in  (v := .ref (a (2 + 0))) hC hI 1 (by decide) fl_RX6_16 rfl rfl dX6_as_50 ?_
        refine g_sc (k1 := 0) (v := .ref (a (11 + 0))) hC hI (by decide) 7 (by decide) fl_RX6_110 rfl rfl dX6_as_53 ?_
        refine r_iload_n hC hl dX6_as_56 1 rfl ?_
        refine r_pald (cx := 11 + 0) hC hI (by omega) (ce_pa X a _ (by decide)) (by decide) ((w).toNat) (by omega) (by omega) dX6_as_57 ?_
        refine g_pg (k1 := 0) (i := (w).toNat) (v := .int (J (S 0 (20 + 5 * ((w).toNat))))) hC hI (by decide) (by omega) 2 (by decide) fl_RX6_120 rfl rfl dX6_as_58 ?_
        exact r_iret hC hr hlk hI (an_n (by (repeat' split) <;> first | rfl | omega) (rfl)) (fn_n (by (repeat' split) <;> first | rfl | omega) (rfl)) dX6_as_61
      · skip
        refine r_aload_n hC hl dX6_as_43 0 rfl ?_
        refine r_iconst hC dX6_as_44 ?_
        refine r_cVi hC hI hl [.int (J 2)] [] (c_X6_found l X a B S 2 (by omega)) ml_RX6_48 ev_X6_found (rc_in (S := S) hC hI) ⟨Nat.le_of_ble_eq_true rfl, Nat.le_of_ble_eq_true rfl⟩ ⟨Nat.zero_le _, Nat.zero_le _⟩ (Nat.le_of_ble_eq_true rfl) rfl dX6_as_45 (fun H locs hI => ?_)
        exact r_iret hC hr hlk hI (an_f 2 (by (repeat' split) <;> first | rfl | omega)) (fn_f 2 (by (repeat' split) <;> first | rfl | omega)) dX6_as_48
    · skip
      refine r_aload_n hC hl dX6_as_18 0 rfl ?_
      refine r_iconst hC dX6_as_19 ?_
      refine r_cVi hC hI hl [.int (J 0)] [] (c_X6_found l X a B S 0 (by omega)) ml_RX6_48 ev_X6_found (rc_in (S := S) hC hI) ⟨Nat.le_of_ble_eq_true rfl, Nat.le_of_ble_eq_true rfl⟩ ⟨Nat.zero_le _, Nat.zero_le _⟩ (Nat.le_of_ble_eq_true rfl) rfl dX6_as_20 (fun H locs hI => ?_)
      exact r_iret hC hr hlk hI (an_f 0 (by (repeat' split) <;> first | rfl | omega)) (fn_f 0 (by (repeat' split) <;> first | rfl | omega)) dX6_as_23

set_option maxHeartbeats 4000000 in
set_option maxRecDepth 100000 in
theorem c_X6_looks (l : Launch) (X : XT) (a : Nat → Nat) (B : Nat) (S : St) (w : Int) (hV : VR 9999 (S 0)) (hw : -2147483648 ≤ w ∧ w ≤ 2147483647) : CT l X a B 4 yX6_looks cX6_looks 4 (some .int) [.ref (a (0)), .int (J w)] S (Qi X a B (anF (if ¬ (0 ≤ w ∧ w < S 0 5) then 0 else if S 0 4 = 0 then 4 else -1) (blP (S 0) w.toNat 0 (S 0 4))) (fnF S 3 (if ¬ (0 ≤ w ∧ w < S 0 5) then 0 else if S 0 4 = 0 then 4 else -1) (up S 0 (22 + 5 * w.toNat) (mnF 9999 (S 0 (22 + 5 * w.toNat) + 1))))) := by
  refine CT.of (by decide +kernel) (Nat.le_of_ble_eq_true rfl) ?_
  intro p e s m below meth c ls hC hr hlk hI hl
  have hC : Cx p c cX6_looks 4 s m [.ref (a (0)), .int (J w)].toArray RX6 X B := hC
  have hl : lv_has ls 4 [(0, .ref (a (0))), (1, .int (J w))] := hl
  obtain ⟨⟨hN, hBr, hBu, hIn, hLa, hPc⟩, hDk, hPg⟩ := id hV
  refine r_aload_n hC hl dX6_looks_0 0 rfl ?_
  refine g_in  (v := .ref (a (2 + 0))) hC hI 1 (by decide) fl_RX6_16 rfl rfl dX6_looks_1 ?_
  refine r_iload_n hC hl dX6_looks_4 1 rfl ?_
  refine r_cVi hC hI hl [.int (J w)] [] (c_X2_hasPage l X a B S 0 w (by omega) (by omega) (by omega)) ml_RX6_107 ev_X2_hasPage (rc_sc (S := S) hC hI (by decide)) ⟨Nat.le_of_ble_eq_true rfl, Nat.le_of_ble_eq_true rfl⟩ ⟨Nat.zero_le _, Nat.zero_le _⟩ (Nat.le_of_ble_eq_true rfl) rfl dX6_looks_5 (fun H locs hI => ?_)
  refine r_b_ne (tgt := 17) hC dX6_looks_8 (by decide) (fun c_1 => ?_) (fun c_1 => ?_)
  · skip
    refine r_aload_n hC hl dX6_looks_17 0 rfl ?_
    refine g_in  (v := .ref (a (2 + 0))) hC hI 1 (by decide) fl_RX6_16 rfl rfl dX6_looks_18 ?_
    refine g_sc (k1 := 0) (v := .int (J (S 0 4))) hC hI (by decide) 4 (by decide) fl_RX6_77 rfl rfl dX6_looks_21 ?_
    refine r_if_ne (tgt := 33) hC (by omega) dX6_looks_24 (by decide) (fun c_2 => ?_) (fun c_2 => ?_)
    · skip
      refine r_aload_n hC hl dX6_looks_33 0 rfl ?_
      refine g_in  (v := .ref (a (2 + 0))) hC hI 1 (by decide) fl_RX6_16 rfl rfl dX6_looks_34 ?_
      refine g_sc (k1 := 0) (v := .ref (a (11 + 0))) hC hI (by decide) 7 (by decide) fl_RX6_110 rfl rfl dX6_looks_37 ?_
      refine r_iload_n hC hl dX6_looks_40 1 rfl ?_
      have hvp := hPg w.toNat (by omega)
      obtain ⟨h18, h19, h20, h21, h22⟩ := id hvp
      refine r_pald (cx := 11 + 0) hC hI (by omega) (ce_pa X a _ (by decide)) (by decide) ((w).toNat) (by omega) (by omega) dX6_looks_41 ?_
      refine r_astore_n (lv1 := [(2, .ref (a (25 + 8 * 0 + ((w).toNat)))), (0, .ref (a (0))), (1, .int (J w))]) hC hl dX6_looks_42 2 rfl (by decide) rfl (fun ls hl => ?_)
      refine r_aload_n hC hl dX6_looks_43 0 rfl ?_
      refine r_iconst hC dX6_looks_44 ?_
      refine r_aload_n hC hl dX6_looks_45 1 rfl ?_
      refine g_in  (v := .ref (a (2 + 0))) hC hI 1 (by decide) fl_RX6_16 rfl rfl dX6_looks_46 ?_
      refine g_sc (k1 := 0) (v := .int (J (S 0 4))) hC hI (by decide) 4 (by decide) fl_RX6_77 rfl rfl dX6_looks_49 ?_
      refine r_cVi hC hI hl [.int (J 0), .int (J (S 0 4))] [] (c_X1_believedOn l X a B S 0 ((w).toNat) 0 (S 0 4) (by omega) (by omega) hvp (by omega) (by omega)) ml_RX6_139 ev_X1_believedOn (rc_pg (S := S) hC hI (by decide) (by omega)) ⟨Nat.le_of_ble_eq_true rfl, Nat.le_of_ble_eq_true rfl⟩ ⟨Nat.zero_le _, Nat.zero_le _⟩ (Nat.le_of_ble_eq_true rfl) rfl dX6_looks_52 (fun H locs hI => ?_)
      refine r_istore_n (lv1 := [(3, .int (J (blP (S 0) ((w).toNat) 0 (S 0 4)))), (2, .ref (a (25 + 8 * 0 + ((w).toNat)))), (0, .ref (a (0))), (1, .int (J w))]) hC hl dX6_looks_55 3 rfl (by decide) rfl (fun ls hl => ?_)
      refine r_aload_n hC hl dX6_looks_56 1 rfl ?_
      refine r_sipush hC (by decide) dX6_looks_57 ?_
      refine r_aload_n hC hl dX6_looks_60 1 rfl ?_
      refine g_pg (k1 := 0) (i := (w).toNat) (v := .int (J (S 0 (22 + 5 * ((w).toNat))))) hC hI (by decide) (by omega) 4 (by decide) fl_RX6_126 rfl rfl dX6_looks_61 ?_
      refine r_iconst hC dX6_looks_64 ?_
      refine r_iadd hC dX6_looks_65 ?_
      refine r_cSi hC hI hl [.int (J 9999), .int (J ((S 0 (22 + 5 * ((w).toNat))) + 1))] [.ref (a (25 + 8 * 0 + ((w).toNat)))] (c_J9_min_7cf53 l X a B S 9999 ((S 0 (22 + 5 * ((w).toNat))) + 1) (by omega) (by omega)) ml_RX6_157 es_J9_min_7cf53 ⟨Nat.le_of_ble_eq_true rfl, Nat.le_of_ble_eq_true rfl⟩ ⟨Nat.zero_le _, Nat.zero_le _⟩ (Nat.le_of_ble_eq_true rfl) rfl dX6_looks_66 (fun H locs hI => ?_)
      refine p_pg4 (k1 := 0) (i := (w).toNat) hC hI (by decide) (by omega) fl_RX6_126 dX6_looks_69 (fun H locs hI => ?_)
      refine r_iload_n hC hl dX6_looks_72 0 rfl ?_
      exact r_iret hC hr hlk hI (an_n (by (repeat' split) <;> first | rfl | omega) (rfl)) (fn_n (by (repeat' split) <;> first | rfl | omega) (rfl)) dX6_looks_73
    · skip
      refine r_aload_n hC hl dX6_looks_27 0 rfl ?_
      refine r_iconst hC dX6_looks_28 ?_
      refine r_cVi hC hI hl [.int (J 4)] [] (c_X6_found l X a B S 4 (by omega)) ml_RX6_48 ev_X6_found (rc_in (S := S) hC hI) ⟨Nat.le_of_ble_eq_true rfl, Nat.le_of_ble_eq_true rfl⟩ ⟨Nat.zero_le _, Nat.zero_le _⟩ (Nat.le_of_ble_eq_true rfl) rfl dX6_looks_29 (fun H locs hI => ?_)
      exact r_iret hC hr hlk hI (an_f 4 (by (repeat' split) <;> first | rfl | omega)) (fn_f 4 (by (repeat' split) <;> first | rfl | omega)) dX6_looks_32
  · skip
    refine r_aload_n hC hl dX6_looks_11 0 rfl ?_
    refine r_iconst hC dX6_looks_12 ?_
    refine r_cVi hC hI hl [.int (J 0)] [] (c_X6_found l X a B S 0 (by omega)) ml_RX6_48 ev_X6_found (rc_in (S := S) hC hI) ⟨Nat.le_of_ble_eq_true rfl, Nat.le_of_ble_eq_true rfl⟩ ⟨Nat.zero_le _, Nat.zero_le _⟩ (Nat.le_of_ble_eq_true rfl) rfl dX6_looks_13 (fun H locs hI => ?_)
    exact r_iret hC hr hlk hI (an_f 0 (by (repeat' split) <;> first | rfl | omega)) (fn_f 0 (by (repeat' split) <;> first | rfl | omega)) dX6_looks_16

set_option maxHeartbeats 4000000 in
set_option maxRecDepth 100000 in
theorem c_X6_over (l : Launch) (X : XT) (a : Nat → Nat) (B : Nat) (S : St) (w : Int) (hV : VR 9999 (S 0)) (hw : -2147483648 ≤ w ∧ w ≤ 2147483647) : CT l X a B 3 yX6_over cX6_over 3 (some .int) [.ref (a (0)), .int (J w)] S (Qi X a B (anF (if ¬ (0 ≤ w ∧ w < S 0 5) then 0 else if S 0 3 < csF (S 0 (18 + 5 * w.toNat)) (S 0 (19 + 5 * w.toNat)) then 4 else -1) (tkF (S 0 (18 + 5 * w.toNat)) (dkF (S 0) 0))) (fnF S 3 (if ¬ (0 ≤ w ∧ w < S 0 5) then 0 else if S 0 3 < csF (S 0 (18 + 5 * w.toNat)) (S 0 (19 + 5 * w.toNat)) then 4 else -1) (setB S 0 (spF (S 0) w.toNat)))) := by
  refine CT.of (by decide +kernel) (Nat.le_of_ble_eq_true rfl) ?_
  intro p e s m below meth c ls hC hr hlk hI hl
  have hC : Cx p c cX6_over 3 s m [.ref (a (0)), .int (J w)].toArray RX6 X B := hC
  have hl : lv_has ls 3 [(0, .ref (a (0))), (1, .int (J w))] := hl
  obtain ⟨⟨hN, hBr, hBu, hIn, hLa, hPc⟩, hDk, hPg⟩ := id hV
  refine r_aload_n hC hl dX6_over_0 0 rfl ?_
  refine g_in  (v := .ref (a (2 + 0))) hC hI 1 (by decide) fl_RX6_16 rfl rfl dX6_over_1 ?_
  refine r_iload_n hC hl dX6_over_4 1 rfl ?_
  refine r_cVi hC hI hl [.int (J w)] [] (c_X2_hasPage l X a B S 0 w (by omega) (by omega) (by omega)) ml_RX6_107 ev_X2_hasPage (rc_sc (S := S) hC hI (by decide)) ⟨Nat.le_of_ble_eq_true rfl, Nat.le_of_ble_eq_true rfl⟩ ⟨Nat.zero_le _, Nat.zero_le _⟩ (Nat.le_of_ble_eq_true rfl) rfl dX6_over_5 (fun H locs hI => ?_)
  refine r_b_ne (tgt := 17) hC dX6_over_8 (by decide) (fun c_1 => ?_) (fun c_1 => ?_)
  · skip
    refine r_aload_n hC hl dX6_over_17 0 rfl ?_
    refine g_in  (v := .ref (a (2 + 0))) hC hI 1 (by decide) fl_RX6_16 rfl rfl dX6_over_18 ?_
    refine g_sc (k1 := 0) (v := .ref (a (11 + 0))) hC hI (by decide) 7 (by decide) fl_RX6_110 rfl rfl dX6_over_21 ?_
    refine r_iload_n hC hl dX6_over_24 1 rfl ?_
    have hvp := hPg w.toNat (by omega)
    obtain ⟨h18, h19, h20, h21, h22⟩ := id hvp
    have hd0 := dk_rg hV 0
    refine r_pald (cx := 11 + 0) hC hI (by omega) (ce_pa X a _ (by decide)) (by decide) ((w).toNat) (by omega) (by omega) dX6_over_25 ?_
    refine r_astore_n (lv1 := [(2, .ref (a (25 + 8 * 0 + ((w).toNat)))), (0, .ref (a (0))), (1, .int (J w))]) hC hl dX6_over_26 2 rfl (by decide) rfl (fun ls hl => ?_)
    refine r_aload_n hC hl dX6_over_27 1 rfl ?_
    refine g_in  (v := .ref (a (2 + 0))) hC hI 1 (by decide) fl_RX6_16 rfl rfl dX6_over_28 ?_
    refine r_aload_n hC hl dX6_over_31 0 rfl ?_
    refine g_pg (k1 := 0) (i := (w).toNat) (v := .int (J (S 0 (18 + 5 * ((w).toNat))))) hC hI (by decide) (by omega) 0 (by decide) fl_RX6_114 rfl rfl dX6_over_32 ?_
    refine r_aload_n hC hl dX6_over_35 0 rfl ?_
    refine g_pg (k1 := 0) (i := (w).toNat) (v := .int (J (S 0 (19 + 5 * ((w).toNat))))) hC hI (by decide) (by omega) 1 (by decide) fl_RX6_117 rfl rfl dX6_over_36 ?_
    refine r_cVi hC hI hl [.int (J (S 0 (18 + 5 * ((w).toNat)))), .int (J (S 0 (19 + 5 * ((w).toNat))))] [] (c_X2_hasInkFor l X a B S 0 (S 0 (18 + 5 * ((w).toNat))) (S 0 (19 + 5 * ((w).toNat))) (by omega) (by omega) (by omega) (by omega)) ml_RX6_100 ev_X2_hasInkFor (rc_sc (S := S) hC hI (by decide)) ⟨Nat.le_of_ble_eq_true rfl, Nat.le_of_ble_eq_true rfl⟩ ⟨Nat.zero_le _, Nat.zero_le _⟩ (Nat.le_of_ble_eq_true rfl) rfl dX6_over_39 (fun H locs hI => ?_)
    refine r_b_ne (tgt := 51) hC dX6_over_42 (by decide) (fun c_2 => ?_) (fun c_2 => ?_)
    · skip
      refine r_aload_n hC hl dX6_over_51 1 rfl ?_
      refine g_in  (v := .ref (a (2 + 0))) hC hI 1 (by decide) fl_RX6_16 rfl rfl dX6_over_52 ?_
      refine r_aload_n hC hl dX6_over_55 0 rfl ?_
      refine r_cVv hC hI hl [.ref (a (25 + 8 * 0 + ((w).toNat)))] [] (c_X2_spendInkOn l X a B S 0 ((w).toNat) (by omega) (by omega) (by omega) (by omega) (by omega) (by omega)) ml_RX6_162 ev_X2_spendInkOn (rc_sc (S := S) hC hI (by decide)) ⟨Nat.le_of_ble_eq_true rfl, Nat.le_of_ble_eq_true rfl⟩ ⟨Nat.zero_le _, Nat.zero_le _⟩ (Nat.le_of_ble_eq_true rfl) rfl dX6_over_56 (fun H locs hI => ?_)
      refine r_aload_n hC hl dX6_over_59 0 rfl ?_
      refine g_pg (k1 := 0) (i := (w).toNat) (v := .int (J ((setB S 0 (spF (S 0) ((w).toNat))) 0 (20 + 5 * ((w).toNat))))) hC hI (by decide) (by omega) 2 (by decide) fl_RX6_120 rfl rfl dX6_over_60 ?_
      refine r_as (y := tkF (S 0 (18 + 5 * w.toNat)) (dkF (S 0) 0)) hC (by rw [setB_at]; unfold spF; rw [upR_ne _ _ (by omega), upR_at]) ?_
      exact r_iret hC hr hlk hI (an_n (by (repeat' split) <;> first | rfl | omega) (rfl)) (fn_n (by (repeat' split) <;> first | rfl | omega) (rfl)) dX6_over_63
    · skip
      refine r_aload_n hC hl dX6_over_45 1 rfl ?_
      refine r_iconst hC dX6_over_46 ?_
      refine r_cVi hC hI hl [.int (J 4)] [] (c_X6_found l X a B S 4 (by omega)) ml_RX6_48 ev_X6_found (rc_in (S := S) hC hI) ⟨Nat.le_of_ble_eq_true rfl, Nat.le_of_ble_eq_true rfl⟩ ⟨Nat.zero_le _, Nat.zero_le _⟩ (Nat.le_of_ble_eq_true rfl) rfl dX6_over_47 (fun H locs hI => ?_)
      exact r_iret hC hr hlk hI (an_f 4 (by (repeat' split) <;> first | rfl | omega)) (fn_f 4 (by (repeat' split) <;> first | rfl | omega)) dX6_over_50
  · skip
    refine r_aload_n hC hl dX6_over_11 0 rfl ?_
    refine r_iconst hC dX6_over_12 ?_
    refine r_cVi hC hI hl [.int (J 0)] [] (c_X6_found l X a B S 0 (by omega)) ml_RX6_48 ev_X6_found (rc_in (S := S) hC hI) ⟨Nat.le_of_ble_eq_true rfl, Nat.le_of_ble_eq_true rfl⟩ ⟨Nat.zero_le _, Nat.zero_le _⟩ (Nat.le_of_ble_eq_true rfl) rfl dX6_over_13 (fun H locs hI => ?_)
    exact r_iret hC hr hlk hI (an_f 0 (by (repeat' split) <;> first | rfl | omega)) (fn_f 0 (by (repeat' split) <;> first | rfl | omega)) dX6_over_16

set_option maxHeartbeats 4000000 in
set_option maxRecDepth 100000 in
theorem c_X6_nights (l : Launch) (X : XT) (a : Nat → Nat) (B : Nat) (S : St) (w : Int) (hV : VR 9999 (S 0)) (hw : -2147483648 ≤ w ∧ w ≤ 2147483647) : CT l X a B 4 yX6_nights cX6_nights 2 (some .int) [.ref (a (0)), .int (J w)] S (Qi X a B (anF (if ¬ (1 ≤ w ∧ w ≤ 100) then 0 else if 9999 < S 0 0 + w then 4 else -1) (iwF (S 0) (S 0 2 + S 0 1 * sumF (dkF (S 0)) w.toNat))) (fnF S 3 (if ¬ (1 ≤ w ∧ w ≤ 100) then 0 else if 9999 < S 0 0 + w then 4 else -1) (setB S 0 (lgF (S 0) w.toNat)))) := by
  refine CT.of (by decide +kernel) (Nat.le_of_ble_eq_true rfl) ?_
  intro p e s m below meth c ls hC hr hlk hI hl
  have hC : Cx p c cX6_nights 2 s m [.ref (a (0)), .int (J w)].toArray RX6 X B := hC
  have hl : lv_has ls 2 [(0, .ref (a (0))), (1, .int (J w))] := hl
  obtain ⟨⟨hN, hBr, hBu, hIn, hLa, hPc⟩, hDk, hPg⟩ := id hV
  refine r_iload_n hC hl dX6_nights_0 1 rfl ?_
  refine r_iconst hC dX6_nights_1 ?_
  refine r_bipush hC (by decide) dX6_nights_2 ?_
  refine r_cSi hC hI hl [.int (J w), .int (J 1), .int (J 100)] [] (c_X6_isWithin l X a B S w 1 100 (by omega) (by omega) (by omega)) ml_RX6_44 es_X6_isWithin ⟨Nat.le_of_ble_eq_true rfl, Nat.le_of_ble_eq_true rfl⟩ ⟨Nat.zero_le _, Nat.zero_le _⟩ (Nat.le_of_ble_eq_true rfl) rfl dX6_nights_4 (fun H locs hI => ?_)
  refine r_b_ne (tgt := 16) hC dX6_nights_7 (by decide) (fun c_1 => ?_) (fun c_1 => ?_)
  · skip
    refine r_aload_n hC hl dX6_nights_16 0 rfl ?_
    refine g_in  (v := .ref (a (2 + 0))) hC hI 1 (by decide) fl_RX6_16 rfl rfl dX6_nights_17 ?_
    refine g_sc (k1 := 0) (v := .int (J (S 0 0))) hC hI (by decide) 0 (by decide) fl_RX6_61 rfl rfl dX6_nights_20 ?_
    refine r_iload_n hC hl dX6_nights_23 1 rfl ?_
    refine r_iadd hC dX6_nights_24 ?_
    refine r_sipush hC (by decide) dX6_nights_25 ?_
    refine r_icmp_le (tgt := 37) hC (by omega) (by omega) dX6_nights_28 (by decide) (fun c_2 => ?_) (fun c_2 => ?_)
    · skip
      refine r_aload_n hC hl dX6_nights_37 0 rfl ?_
      refine g_in  (v := .ref (a (2 + 0))) hC hI 1 (by decide) fl_RX6_16 rfl rfl dX6_nights_38 ?_
      refine r_iload_n hC hl dX6_nights_41 1 rfl ?_
      refine r_cVv hC hI hl [.int (J w)] [] (c_X2_letGo_i l X a B S 0 w (by omega) hV (by omega)) ml_RX6_166 ev_X2_letGo (rc_sc (S := S) hC hI (by decide)) ⟨Nat.le_of_ble_eq_true rfl, Nat.le_of_ble_eq_true rfl⟩ ⟨Nat.zero_le _, Nat.zero_le _⟩ (Nat.le_of_ble_eq_true rfl) rfl dX6_nights_42 (fun H locs hI => ?_)
      refine r_aload_n hC hl dX6_nights_45 0 rfl ?_
      refine g_in  (v := .ref (a (2 + 0))) hC hI 1 (by decide) fl_RX6_16 rfl rfl dX6_nights_46 ?_
      refine g_sc (k1 := 0) (v := .int (J ((setB S 0 (lgF (S 0) w.toNat)) 0 3))) hC hI (by decide) 3 (by decide) fl_RX6_74 rfl rfl dX6_nights_49 ?_
      refine r_as (y := iwF (S 0) (S 0 2 + S 0 1 * sumF (dkF (S 0)) w.toNat)) hC (by rw [setB_at]; rfl) ?_
      exact r_iret hC hr hlk hI (an_n (by (repeat' split) <;> first | rfl | omega) (rfl)) (fn_n (by (repeat' split) <;> first | rfl | omega) (rfl)) dX6_nights_52
    · skip
      refine r_aload_n hC hl dX6_nights_31 0 rfl ?_
      refine r_iconst hC dX6_nights_32 ?_
      refine r_cVi hC hI hl [.int (J 4)] [] (c_X6_found l X a B S 4 (by omega)) ml_RX6_48 ev_X6_found (rc_in (S := S) hC hI) ⟨Nat.le_of_ble_eq_true rfl, Nat.le_of_ble_eq_true rfl⟩ ⟨Nat.zero_le _, Nat.zero_le _⟩ (Nat.le_of_ble_eq_true rfl) rfl dX6_nights_33 (fun H locs hI => ?_)
      exact r_iret hC hr hlk hI (an_f 4 (by (repeat' split) <;> first | rfl | omega)) (fn_f 4 (by (repeat' split) <;> first | rfl | omega)) dX6_nights_36
  · skip
    refine r_aload_n hC hl dX6_nights_10 0 rfl ?_
    refine r_iconst hC dX6_nights_11 ?_
    refine r_cVi hC hI hl [.int (J 0)] [] (c_X6_found l X a B S 0 (by omega)) ml_RX6_48 ev_X6_found (rc_in (S := S) hC hI) ⟨Nat.le_of_ble_eq_true rfl, Nat.le_of_ble_eq_true rfl⟩ ⟨Nat.zero_le _, Nat.zero_le _⟩ (Nat.le_of_ble_eq_true rfl) rfl dX6_nights_12 (fun H locs hI => ?_)
    exact r_iret hC hr hlk hI (an_f 0 (by (repeat' split) <;> first | rfl | omega)) (fn_f 0 (by (repeat' split) <;> first | rfl | omega)) dX6_nights_15

set_option maxHeartbeats 4000000 in
set_option maxRecDepth 100000 in
theorem c_X6_ink (l : Launch) (X : XT) (a : Nat → Nat) (B : Nat) (S : St) (w : Int) (hV : VR 9999 (S 0)) (hw : -2147483648 ≤ w ∧ w ≤ 2147483647) : CT l X a B 4 yX6_ink cX6_ink 2 (some .int) [.ref (a (0)), .int (J w)] S (Qi X a B (anF (if 0 ≤ w ∧ w ≤ 200 then -1 else 0) (iwF (S 0) (S 0 2 + S 0 1 * sumF (dkF (S 0)) w.toNat))) (fnF S 3 (if 0 ≤ w ∧ w ≤ 200 then -1 else 0) (S))) := by
  refine CT.of (by decide +kernel) (Nat.le_of_ble_eq_true rfl) ?_
  intro p e s m below meth c ls hC hr hlk hI hl
  have hC : Cx p c cX6_ink 2 s m [.ref (a (0)), .int (J w)].toArray RX6 X B := hC
  have hl : lv_has ls 2 [(0, .ref (a (0))), (1, .int (J w))] := hl
  obtain ⟨⟨hN, hBr, hBu, hIn, hLa, hPc⟩, hDk, hPg⟩ := id hV
  refine r_iload_n hC hl dX6_ink_0 1 rfl ?_
  refine r_iconst hC dX6_ink_1 ?_
  refine r_sipush hC (by decide) dX6_ink_2 ?_
  refine r_cSi hC hI hl [.int (J w), .int (J 0), .int (J 200)] [] (c_X6_isWithin l X a B S w 0 200 (by omega) (by omega) (by omega)) ml_RX6_44 es_X6_isWithin ⟨Nat.le_of_ble_eq_true rfl, Nat.le_of_ble_eq_true rfl⟩ ⟨Nat.zero_le _, Nat.zero_le _⟩ (Nat.le_of_ble_eq_true rfl) rfl dX6_ink_5 (fun H locs hI => ?_)
  refine r_b_ne (tgt := 17) hC dX6_ink_8 (by decide) (fun c_1 => ?_) (fun c_1 => ?_)
  · skip
    refine r_aload_n hC hl dX6_ink_17 0 rfl ?_
    refine g_in  (v := .ref (a (2 + 0))) hC hI 1 (by decide) fl_RX6_16 rfl rfl dX6_ink_18 ?_
    refine r_iload_n hC hl dX6_ink_21 1 rfl ?_
    refine r_aload_n hC hl dX6_ink_22 0 rfl ?_
    refine g_in  (v := .ref (a (2 + 0))) hC hI 1 (by decide) fl_RX6_16 rfl rfl dX6_ink_23 ?_
    refine g_sc (k1 := 0) (v := .int (J (S 0 1))) hC hI (by decide) 1 (by decide) fl_RX6_68 rfl rfl dX6_ink_26 ?_
    refine r_cVi hC hI hl [.int (J w), .int (J (S 0 1))] [] (c_X2_inkOn_i l X a B S 0 w (S 0 1) (by omega) hV (by omega) (by omega)) ml_RX6_170 ev_X2_inkOn (rc_sc (S := S) hC hI (by decide)) ⟨Nat.le_of_ble_eq_true rfl, Nat.le_of_ble_eq_true rfl⟩ ⟨Nat.zero_le _, Nat.zero_le _⟩ (Nat.le_of_ble_eq_true rfl) rfl dX6_ink_29 (fun H locs hI => ?_)
    exact r_iret hC hr hlk hI (an_n (by (repeat' split) <;> first | rfl | omega) (rfl)) (fn_n (by (repeat' split) <;> first | rfl | omega) (rfl)) dX6_ink_32
  · skip
    refine r_aload_n hC hl dX6_ink_11 0 rfl ?_
    refine r_iconst hC dX6_ink_12 ?_
    refine r_cVi hC hI hl [.int (J 0)] [] (c_X6_found l X a B S 0 (by omega)) ml_RX6_48 ev_X6_found (rc_in (S := S) hC hI) ⟨Nat.le_of_ble_eq_true rfl, Nat.le_of_ble_eq_true rfl⟩ ⟨Nat.zero_le _, Nat.zero_le _⟩ (Nat.le_of_ble_eq_true rfl) rfl dX6_ink_13 (fun H locs hI => ?_)
    exact r_iret hC hr hlk hI (an_f 0 (by (repeat' split) <;> first | rfl | omega)) (fn_f 0 (by (repeat' split) <;> first | rfl | omega)) dX6_ink_16

set_option maxHeartbeats 4000000 in
set_option maxRecDepth 100000 in
theorem c_X6_on (l : Launch) (X : XT) (a : Nat → Nat) (B : Nat) (S : St) (w : Int) (v : Int) (u : Int) (hV : VR 9999 (S 0)) (hw : -2147483648 ≤ w ∧ w ≤ 2147483647) (hv : -2147483648 ≤ v ∧ v ≤ 2147483647) (hu : -2147483648 ≤ u ∧ u ≤ 2147483647) : CT l X a B 4 yX6_on cX6_on 5 (some .int) [.ref (a (0)), .int (J w), .int (J v), .int (J u)] S (Qi X a B (anF (if (0 ≤ w ∧ w < S 0 5) ∧ (0 ≤ v ∧ v ≤ 200) ∧ 0 ≤ u ∧ u ≤ 1 then -1 else 0) (if u = 0 then bkP (S 0) w.toNat v else blP (S 0) w.toNat v (S 0 4))) (fnF S 3 (if (0 ≤ w ∧ w < S 0 5) ∧ (0 ≤ v ∧ v ≤ 200) ∧ 0 ≤ u ∧ u ≤ 1 then -1 else 0) (S))) := by
  refine CT.of (by decide +kernel) (Nat.le_of_ble_eq_true rfl) ?_
  intro p e s m below meth c ls hC hr hlk hI hl
  have hC : Cx p c cX6_on 5 s m [.ref (a (0)), .int (J w), .int (J v), .int (J u)].toArray RX6 X B := hC
  have hl : lv_has ls 5 [(0, .ref (a (0))), (1, .int (J w)), (2, .int (J v)), (3, .int (J u))] := hl
  obtain ⟨⟨hN, hBr, hBu, hIn, hLa, hPc⟩, hDk, hPg⟩ := id hV
  refine r_aload_n hC hl dX6_on_0 0 rfl ?_
  refine g_in  (v := .ref (a (2 + 0))) hC hI 1 (by decide) fl_RX6_16 rfl rfl dX6_on_1 ?_
  refine r_iload_n hC hl dX6_on_4 1 rfl ?_
  refine r_cVi hC hI hl [.int (J w)] [] (c_X2_hasPage l X a B S 0 w (by omega) (by omega) (by omega)) ml_RX6_107 ev_X2_hasPage (rc_sc (S := S) hC hI (by decide)) ⟨Nat.le_of_ble_eq_true rfl, Nat.le_of_ble_eq_true rfl⟩ ⟨Nat.zero_le _, Nat.zero_le _⟩ (Nat.le_of_ble_eq_true rfl) rfl dX6_on_5 (fun H locs hI => ?_)
  refine r_b_eq (tgt := 31) hC dX6_on_8 (by decide) (fun c_1 => ?_) (fun c_1 => ?_)
  · skip
    refine r_aload_n hC hl dX6_on_31 0 rfl ?_
    refine r_iconst hC dX6_on_32 ?_
    refine r_cVi hC hI hl [.int (J 0)] [] (c_X6_found l X a B S 0 (by omega)) ml_RX6_48 ev_X6_found (rc_in (S := S) hC hI) ⟨Nat.le_of_ble_eq_true rfl, Nat.le_of_ble_eq_true rfl⟩ ⟨Nat.zero_le _, Nat.zero_le _⟩ (Nat.le_of_ble_eq_true rfl) rfl dX6_on_33 (fun H locs hI => ?_)
    exact r_iret hC hr hlk hI (an_f 0 (by (repeat' split) <;> first | rfl | omega)) (fn_f 0 (by (repeat' split) <;> first | rfl | omega)) dX6_on_36
  · skip
    refine r_iload_n hC hl dX6_on_11 2 rfl ?_
    refine r_iconst hC dX6_on_12 ?_
    refine r_sipush hC (by decide) dX6_on_13 ?_
    refine r_cSi hC hI hl [.int (J v), .int (J 0), .int (J 200)] [] (c_X6_isWithin l X a B S v 0 200 (by omega) (by omega) (by omega)) ml_RX6_44 es_X6_isWithin ⟨Nat.le_of_ble_eq_true rfl, Nat.le_of_ble_eq_true rfl⟩ ⟨Nat.zero_le _, Nat.zero_le _⟩ (Nat.le_of_ble_eq_true rfl) rfl dX6_on_16 (fun H locs hI => ?_)
    refine r_b_eq (tgt := 31) hC dX6_on_19 (by decide) (fun c_2 => ?_) (fun c_2 => ?_)
    · skip
      refine r_aload_n hC hl dX6_on_31 0 rfl ?_
      refine r_iconst hC dX6_on_32 ?_
      refine r_cVi hC hI hl [.int (J 0)] [] (c_X6_found l X a B S 0 (by omega)) ml_RX6_48 ev_X6_found (rc_in (S := S) hC hI) ⟨Nat.le_of_ble_eq_true rfl, Nat.le_of_ble_eq_true rfl⟩ ⟨Nat.zero_le _, Nat.zero_le _⟩ (Nat.le_of_ble_eq_true rfl) rfl dX6_on_33 (fun H locs hI => ?_)
      exact r_iret hC hr hlk hI (an_f 0 (by (repeat' split) <;> first | rfl | omega)) (fn_f 0 (by (repeat' split) <;> first | rfl | omega)) dX6_on_36
    · skip
      refine r_iload_n hC hl dX6_on_22 3 rfl ?_
      refine r_iconst hC dX6_on_23 ?_
      refine r_iconst hC dX6_on_24 ?_
      refine r_cSi hC hI hl [.int (J u), .int (J 0), .int (J 1)] [] (c_X6_isWithin l X a B S u 0 1 (by omega) (by omega) (by omega)) ml_RX6_44 es_X6_isWithin ⟨Nat.le_of_ble_eq_true rfl, Nat.le_of_ble_eq_true rfl⟩ ⟨Nat.zero_le _, Nat.zero_le _⟩ (Nat.le_of_ble_eq_true rfl) rfl dX6_on_25 (fun H locs hI => ?_)
      refine r_b_ne (tgt := 37) hC dX6_on_28 (by decide) (fun c_3 => ?_) (fun c_3 => ?_)
      · skip
        refine r_aload_n hC hl dX6_on_37 0 rfl ?_
        refine g_in  (v := .ref (a (2 + 0))) hC hI 1 (by decide) fl_RX6_16 rfl rfl dX6_on_38 ?_
        refine g_sc (k1 := 0) (v := .ref (a (11 + 0))) hC hI (by decide) 7 (by decide) fl_RX6_110 rfl rfl dX6_on_41 ?_
        refine r_iload_n hC hl dX6_on_44 1 rfl ?_
        have hvp := hPg w.toNat (by omega)
        obtain ⟨h18, h19, h20, h21, h22⟩ := id hvp
        refine r_pald (cx := 11 + 0) hC hI (by omega) (ce_pa X a _ (by decide)) (by decide) ((w).toNat) (by omega) (by omega) dX6_on_45 ?_
        refine r_astore (lv1 := [(4, .ref (a (25 + 8 * 0 + ((w).toNat)))), (0, .ref (a (0))), (1, .int (J w)), (2, .int (J v)), (3, .int (J u))]) hC hl dX6_on_46 (by decide) rfl (fun ls hl => ?_)
        refine r_iload_n hC hl dX6_on_48 4 rfl ?_
        refine r_if_ne (tgt := 61) hC (by omega) dX6_on_49 (by decide) (fun c_4 => ?_) (fun c_4 => ?_)
        · skip
          refine r_aload hC hl dX6_on_61 0 rfl ?_
          refine r_iload_n hC hl dX6_on_63 3 rfl ?_
          refine r_aload_n hC hl dX6_on_64 1 rfl ?_
          refine g_in  (v := .ref (a (2 + 0))) hC hI 1 (by decide) fl_RX6_16 rfl rfl dX6_on_65 ?_
          refine g_sc (k1 := 0) (v := .int (J (S 0 4))) hC hI (by decide) 4 (by decide) fl_RX6_77 rfl rfl dX6_on_68 ?_
          refine r_cVi hC hI hl [.int (J v), .int (J (S 0 4))] [] (c_X1_believedOn l X a B S 0 ((w).toNat) v (S 0 4) (by omega) (by omega) hvp (by omega) (by omega)) ml_RX6_139 ev_X1_believedOn (rc_pg (S := S) hC hI (by decide) (by omega)) ⟨Nat.le_of_ble_eq_true rfl, Nat.le_of_ble_eq_true rfl⟩ ⟨Nat.zero_le _, Nat.zero_le _⟩ (Nat.le_of_ble_eq_true rfl) rfl dX6_on_71 (fun H locs hI => ?_)
          exact r_iret hC hr hlk hI (an_n (by (repeat' split) <;> first | rfl | omega) (by split <;> first | rfl | omega)) (fn_n (by (repeat' split) <;> first | rfl | omega) (rfl)) dX6_on_74
        · skip
          refine r_aload hC hl dX6_on_52 0 rfl ?_
          refine r_iload_n hC hl dX6_on_54 3 rfl ?_
          refine r_cVi hC hI hl [.int (J v)] [] (c_X1_blackOn l X a B S 0 ((w).toNat) v (by omega) (by omega) hvp (by omega)) ml_RX6_173 ev_X1_blackOn (rc_pg (S := S) hC hI (by decide) (by omega)) ⟨Nat.le_of_ble_eq_true rfl, Nat.le_of_ble_eq_true rfl⟩ ⟨Nat.zero_le _, Nat.zero_le _⟩ (Nat.le_of_ble_eq_true rfl) rfl dX6_on_55 (fun H locs hI => ?_)
          refine r_goto (tgt := 74) hC dX6_on_58 (by decide) ?_
          exact r_iret hC hr hlk hI (an_n (by (repeat' split) <;> first | rfl | omega) (by split <;> first | rfl | omega)) (fn_n (by (repeat' split) <;> first | rfl | omega) (rfl)) dX6_on_74
      · skip
        refine r_aload_n hC hl dX6_on_31 0 rfl ?_
        refine r_iconst hC dX6_on_32 ?_
        refine r_cVi hC hI hl [.int (J 0)] [] (c_X6_found l X a B S 0 (by omega)) ml_RX6_48 ev_X6_found (rc_in (S := S) hC hI) ⟨Nat.le_of_ble_eq_true rfl, Nat.le_of_ble_eq_true rfl⟩ ⟨Nat.zero_le _, Nat.zero_le _⟩ (Nat.le_of_ble_eq_true rfl) rfl dX6_on_33 (fun H locs hI => ?_)
        exact r_iret hC hr hlk hI (an_f 0 (by (repeat' split) <;> first | rfl | omega)) (fn_f 0 (by (repeat' split) <;> first | rfl | omega)) dX6_on_36

set_option maxHeartbeats 4000000 in
set_option maxRecDepth 100000 in
theorem c_X6_all (l : Launch) (X : XT) (a : Nat → Nat) (B : Nat) (S : St) (w : Int) (hV : VR 9999 (S 0)) (hw : -2147483648 ≤ w ∧ w ≤ 2147483647) : CT l X a B 5 yX6_all cX6_all 2 (some .int) [.ref (a (0)), .int (J w)] S (Qi X a B (anF (if 0 ≤ w ∧ w ≤ 200 then -1 else 0) (sumF (fun i => blP (S 0) i w (S 0 4)) (S 0 5).toNat)) (fnF S 3 (if 0 ≤ w ∧ w ≤ 200 then -1 else 0) (S))) := by
  refine CT.of (by decide +kernel) (Nat.le_of_ble_eq_true rfl) ?_
  intro p e s m below meth c ls hC hr hlk hI hl
  have hC : Cx p c cX6_all 2 s m [.ref (a (0)), .int (J w)].toArray RX6 X B := hC
  have hl : lv_has ls 2 [(0, .ref (a (0))), (1, .int (J w))] := hl
  obtain ⟨⟨hN, hBr, hBu, hIn, hLa, hPc⟩, hDk, hPg⟩ := id hV
  refine r_iload_n hC hl dX6_all_0 1 rfl ?_
  refine r_iconst hC dX6_all_1 ?_
  refine r_sipush hC (by decide) dX6_all_2 ?_
  refine r_cSi hC hI hl [.int (J w), .int (J 0), .int (J 200)] [] (c_X6_isWithin l X a B S w 0 200 (by omega) (by omega) (by omega)) ml_RX6_44 es_X6_isWithin ⟨Nat.le_of_ble_eq_true rfl, Nat.le_of_ble_eq_true rfl⟩ ⟨Nat.zero_le _, Nat.zero_le _⟩ (Nat.le_of_ble_eq_true rfl) rfl dX6_all_5 (fun H locs hI => ?_)
  refine r_b_ne (tgt := 17) hC dX6_all_8 (by decide) (fun c_1 => ?_) (fun c_1 => ?_)
  · skip
    refine r_aload_n hC hl dX6_all_17 0 rfl ?_
    refine g_in  (v := .ref (a (2 + 0))) hC hI 1 (by decide) fl_RX6_16 rfl rfl dX6_all_18 ?_
    refine r_iload_n hC hl dX6_all_21 1 rfl ?_
    refine r_aload_n hC hl dX6_all_22 0 rfl ?_
    refine g_in  (v := .ref (a (2 + 0))) hC hI 1 (by decide) fl_RX6_16 rfl rfl dX6_all_23 ?_
    refine g_sc (k1 := 0) (v := .int (J (S 0 4))) hC hI (by decide) 4 (by decide) fl_RX6_77 rfl rfl dX6_all_26 ?_
    refine r_cVi hC hI hl [.int (J w), .int (J (S 0 4))] [] (c_X2_believedTogether l X a B S 0 w (S 0 4) (by omega) hV (by omega) (by omega)) ml_RX6_84 ev_X2_believedTogether (rc_sc (S := S) hC hI (by decide)) ⟨Nat.le_of_ble_eq_true rfl, Nat.le_of_ble_eq_true rfl⟩ ⟨Nat.zero_le _, Nat.zero_le _⟩ (Nat.le_of_ble_eq_true rfl) rfl dX6_all_29 (fun H locs hI => ?_)
    exact r_iret hC hr hlk hI (an_n (by (repeat' split) <;> first | rfl | omega) (rfl)) (fn_n (by (repeat' split) <;> first | rfl | omega) (rfl)) dX6_all_32
  · skip
    refine r_aload_n hC hl dX6_all_11 0 rfl ?_
    refine r_iconst hC dX6_all_12 ?_
    refine r_cVi hC hI hl [.int (J 0)] [] (c_X6_found l X a B S 0 (by omega)) ml_RX6_48 ev_X6_found (rc_in (S := S) hC hI) ⟨Nat.le_of_ble_eq_true rfl, Nat.le_of_ble_eq_true rfl⟩ ⟨Nat.zero_le _, Nat.zero_le _⟩ (Nat.le_of_ble_eq_true rfl) rfl dX6_all_13 (fun H locs hI => ?_)
    exact r_iret hC hr hlk hI (an_f 0 (by (repeat' split) <;> first | rfl | omega)) (fn_f 0 (by (repeat' split) <;> first | rfl | omega)) dX6_all_16

set_option maxHeartbeats 4000000 in
set_option maxRecDepth 100000 in
theorem c_X6_white (l : Launch) (X : XT) (a : Nat → Nat) (B : Nat) (S : St) (w : Int) (hV : VR 9999 (S 0)) (hw : -2147483648 ≤ w ∧ w ≤ 2147483647) : CT l X a B 4 yX6_white cX6_white 2 (some .int) [.ref (a (0)), .int (J w)] S (Qi X a B (anF (if 0 ≤ w ∧ w < S 0 5 then onC (fsF (fun j => decide (bkP (S 0) w.toNat (j : Int) = 0)) (200 + 1) 0) else 0) (fsF (fun j => decide (bkP (S 0) w.toNat (j : Int) = 0)) (200 + 1) 0)) (fnF S 3 (if 0 ≤ w ∧ w < S 0 5 then onC (fsF (fun j => decide (bkP (S 0) w.toNat (j : Int) = 0)) (200 + 1) 0) else 0) (S))) := by
  refine CT.of (by decide +kernel) (Nat.le_of_ble_eq_true rfl) ?_
  intro p e s m below meth c ls hC hr hlk hI hl
  have hC : Cx p c cX6_white 2 s m [.ref (a (0)), .int (J w)].toArray RX6 X B := hC
  have hl : lv_has ls 2 [(0, .ref (a (0))), (1, .int (J w))] := hl
  obtain ⟨⟨hN, hBr, hBu, hIn, hLa, hPc⟩, hDk, hPg⟩ := id hV
  refine r_aload_n hC hl dX6_white_0 0 rfl ?_
  refine g_in  (v := .ref (a (2 + 0))) hC hI 1 (by decide) fl_RX6_16 rfl rfl dX6_white_1 ?_
  refine r_iload_n hC hl dX6_white_4 1 rfl ?_
  refine r_cVi hC hI hl [.int (J w)] [] (c_X2_hasPage l X a B S 0 w (by omega) (by omega) (by omega)) ml_RX6_107 ev_X2_hasPage (rc_sc (S := S) hC hI (by decide)) ⟨Nat.le_of_ble_eq_true rfl, Nat.le_of_ble_eq_true rfl⟩ ⟨Nat.zero_le _, Nat.zero_le _⟩ (Nat.le_of_ble_eq_true rfl) rfl dX6_white_5 (fun H locs hI => ?_)
  refine r_b_ne (tgt := 17) hC dX6_white_8 (by decide) (fun c_1 => ?_) (fun c_1 => ?_)
  · skip
    refine r_aload_n hC hl dX6_white_17 0 rfl ?_
    refine r_aload_n hC hl dX6_white_18 0 rfl ?_
    refine g_in  (v := .ref (a (2 + 0))) hC hI 1 (by decide) fl_RX6_16 rfl rfl dX6_white_19 ?_
    refine g_sc (k1 := 0) (v := .ref (a (11 + 0))) hC hI (by decide) 7 (by decide) fl_RX6_110 rfl rfl dX6_white_22 ?_
    refine r_iload_n hC hl dX6_white_25 1 rfl ?_
    have hvp := hPg w.toNat (by omega)
    obtain ⟨h18, h19, h20, h21, h22⟩ := id hvp
    refine r_pald (cx := 11 + 0) hC hI (by omega) (ce_pa X a _ (by decide)) (by decide) ((w).toNat) (by omega) (by omega) dX6_white_26 ?_
    refine r_sipush hC (by decide) dX6_white_27 ?_
    refine r_cVi hC hI hl [.int (J 200)] [.ref (a (0))] (c_X1_firstWhite l X a B S 0 ((w).toNat) 200 (by omega) (by omega) hvp (by omega)) ml_RX6_176 ev_X1_firstWhite (rc_pg (S := S) hC hI (by decide) (by omega)) ⟨Nat.le_of_ble_eq_true rfl, Nat.le_of_ble_eq_true rfl⟩ ⟨Nat.zero_le _, Nat.zero_le _⟩ (Nat.le_of_ble_eq_true rfl) rfl dX6_white_30 (fun H locs hI => ?_)
    refine r_cVi hC hI hl [.int (J (fsF (fun j => decide (bkP (S 0) ((w).toNat) (j : Int) = 0)) (200 + 1) 0))] [] (c_X6_orNone l X a B S (fsF (fun j => decide (bkP (S 0) ((w).toNat) (j : Int) = 0)) (200 + 1) 0) (rgo (fs_rg _ _ _) (by decide))) ml_RX6_179 ev_X6_orNone (rc_in (S := S) hC hI) ⟨Nat.le_of_ble_eq_true rfl, Nat.le_of_ble_eq_true rfl⟩ ⟨Nat.zero_le _, Nat.zero_le _⟩ (Nat.le_of_ble_eq_true rfl) rfl dX6_white_33 (fun H locs hI => ?_)
    exact r_iret hC hr hlk hI (by rw [show (if 0 ≤ w ∧ w < S 0 5 then onC (fsF (fun j => decide (bkP (S 0) w.toNat (j : Int) = 0)) (200 + 1) 0) else 0) = onC (fsF (fun j => decide (bkP (S 0) w.toNat (j : Int) = 0)) (200 + 1) 0) by (repeat' split) <;> first | rfl | omega]) (by rw [show (if 0 ≤ w ∧ w < S 0 5 then onC (fsF (fun j => decide (bkP (S 0) w.toNat (j : Int) = 0)) (200 + 1) 0) else 0) = onC (fsF (fun j => decide (bkP (S 0) w.toNat (j : Int) = 0)) (200 + 1) 0) by (repeat' split) <;> first | rfl | omega]) dX6_white_36
  · skip
    refine r_aload_n hC hl dX6_white_11 0 rfl ?_
    refine r_iconst hC dX6_white_12 ?_
    refine r_cVi hC hI hl [.int (J 0)] [] (c_X6_found l X a B S 0 (by omega)) ml_RX6_48 ev_X6_found (rc_in (S := S) hC hI) ⟨Nat.le_of_ble_eq_true rfl, Nat.le_of_ble_eq_true rfl⟩ ⟨Nat.zero_le _, Nat.zero_le _⟩ (Nat.le_of_ble_eq_true rfl) rfl dX6_white_13 (fun H locs hI => ?_)
    exact r_iret hC hr hlk hI (an_f 0 (by (repeat' split) <;> first | rfl | omega)) (fn_f 0 (by (repeat' split) <;> first | rfl | omega)) dX6_white_16

set_option maxHeartbeats 4000000 in
set_option maxRecDepth 100000 in
theorem c_X6_comes (l : Launch) (X : XT) (a : Nat → Nat) (B : Nat) (S : St) (w : Int) (hV : VR 9999 (S 0)) (hw : -2147483648 ≤ w ∧ w ≤ 2147483647) : CT l X a B 3 yX6_comes cX6_comes 2 (some .int) [.ref (a (0)), .int (J w)] S (Qi X a B (anF (if 0 ≤ w ∧ w ≤ 999 then onC (fsF (fun j => decide (w ≤ iwF (S 0) (S 0 2 + S 0 1 * sumF (dkF (S 0)) j))) (200 + 1) 0) else 0) (fsF (fun j => decide (w ≤ iwF (S 0) (S 0 2 + S 0 1 * sumF (dkF (S 0)) j))) (200 + 1) 0)) (fnF S 3 (if 0 ≤ w ∧ w ≤ 999 then onC (fsF (fun j => decide (w ≤ iwF (S 0) (S 0 2 + S 0 1 * sumF (dkF (S 0)) j))) (200 + 1) 0) else 0) (S))) := by
  refine CT.of (by decide +kernel) (Nat.le_of_ble_eq_true rfl) ?_
  intro p e s m below meth c ls hC hr hlk hI hl
  have hC : Cx p c cX6_comes 2 s m [.ref (a (0)), .int (J w)].toArray RX6 X B := hC
  have hl : lv_has ls 2 [(0, .ref (a (0))), (1, .int (J w))] := hl
  obtain ⟨⟨hN, hBr, hBu, hIn, hLa, hPc⟩, hDk, hPg⟩ := id hV
  refine r_iload_n hC hl dX6_comes_0 1 rfl ?_
  refine r_iconst hC dX6_comes_1 ?_
  refine r_sipush hC (by decide) dX6_comes_2 ?_
  refine r_cSi hC hI hl [.int (J w), .int (J 0), .int (J 999)] [] (c_X6_isWithin l X a B S w 0 999 (by omega) (by omega) (by omega)) ml_RX6_44 es_X6_isWithin ⟨Nat.le_of_ble_eq_true rfl, Nat.le_of_ble_eq_true rfl⟩ ⟨Nat.zero_le _, Nat.zero_le _⟩ (Nat.le_of_ble_eq_true rfl) rfl dX6_comes_5 (fun H locs hI => ?_)
  refine r_b_ne (tgt := 17) hC dX6_comes_8 (by decide) (fun c_1 => ?_) (fun c_1 => ?_)
  · skip
    refine r_aload_n hC hl dX6_comes_17 0 rfl ?_
    refine r_aload_n hC hl dX6_comes_18 0 rfl ?_
    refine g_in  (v := .ref (a (2 + 0))) hC hI 1 (by decide) fl_RX6_16 rfl rfl dX6_comes_19 ?_
    refine r_iload_n hC hl dX6_comes_22 1 rfl ?_
    refine r_sipush hC (by decide) dX6_comes_23 ?_
    refine r_cVi hC hI hl [.int (J w), .int (J 200)] [.ref (a (0))] (c_X2_firstWithInk l X a B S 0 w 200 (by omega) hV (by omega) (by omega)) ml_RX6_182 ev_X2_firstWithInk (rc_sc (S := S) hC hI (by decide)) ⟨Nat.le_of_ble_eq_true rfl, Nat.le_of_ble_eq_true rfl⟩ ⟨Nat.zero_le _, Nat.zero_le _⟩ (Nat.le_of_ble_eq_true rfl) rfl dX6_comes_26 (fun H locs hI => ?_)
    refine r_cVi hC hI hl [.int (J (fsF (fun j => decide (w ≤ iwF (S 0) (S 0 2 + S 0 1 * sumF (dkF (S 0)) j))) (200 + 1) 0))] [] (c_X6_orNone l X a B S (fsF (fun j => decide (w ≤ iwF (S 0) (S 0 2 + S 0 1 * sumF (dkF (S 0)) j))) (200 + 1) 0) (rgo (fs_rg _ _ _) (by decide))) ml_RX6_179 ev_X6_orNone (rc_in (S := S) hC hI) ⟨Nat.le_of_ble_eq_true rfl, Nat.le_of_ble_eq_true rfl⟩ ⟨Nat.zero_le _, Nat.zero_le _⟩ (Nat.le_of_ble_eq_true rfl) rfl dX6_comes_29 (fun H locs hI => ?_)
    exact r_iret hC hr hlk hI (by rw [show (if 0 ≤ w ∧ w ≤ 999 then onC (fsF (fun j => decide (w ≤ iwF (S 0) (S 0 2 + S 0 1 * sumF (dkF (S 0)) j))) (200 + 1) 0) else 0) = onC (fsF (fun j => decide (w ≤ iwF (S 0) (S 0 2 + S 0 1 * sumF (dkF (S 0)) j))) (200 + 1) 0) by (repeat' split) <;> first | rfl | omega]) (by rw [show (if 0 ≤ w ∧ w ≤ 999 then onC (fsF (fun j => decide (w ≤ iwF (S 0) (S 0 2 + S 0 1 * sumF (dkF (S 0)) j))) (200 + 1) 0) else 0) = onC (fsF (fun j => decide (w ≤ iwF (S 0) (S 0 2 + S 0 1 * sumF (dkF (S 0)) j))) (200 + 1) 0) by (repeat' split) <;> first | rfl | omega]) dX6_comes_32
  · skip
    refine r_aload_n hC hl dX6_comes_11 0 rfl ?_
    refine r_iconst hC dX6_comes_12 ?_
    refine r_cVi hC hI hl [.int (J 0)] [] (c_X6_found l X a B S 0 (by omega)) ml_RX6_48 ev_X6_found (rc_in (S := S) hC hI) ⟨Nat.le_of_ble_eq_true rfl, Nat.le_of_ble_eq_true rfl⟩ ⟨Nat.zero_le _, Nat.zero_le _⟩ (Nat.le_of_ble_eq_true rfl) rfl dX6_comes_13 (fun H locs hI => ?_)
    exact r_iret hC hr hlk hI (an_f 0 (by (repeat' split) <;> first | rfl | omega)) (fn_f 0 (by (repeat' split) <;> first | rfl | omega)) dX6_comes_16

set_option maxHeartbeats 4000000 in
set_option maxRecDepth 100000 in
theorem c_X6_when (l : Launch) (X : XT) (a : Nat → Nat) (B : Nat) (S : St) (w : Int) (v : Int) (hV : VR 9999 (S 0)) (hw : -2147483648 ≤ w ∧ w ≤ 2147483647) (hv : -2147483648 ≤ v ∧ v ≤ 2147483647) : CT l X a B 3 yX6_when cX6_when 3 (some .int) [.ref (a (0)), .int (J w), .int (J v)] S (Qi X a B (anF (if (0 ≤ w ∧ w ≤ 5) ∧ 1 ≤ v ∧ v ≤ 99 then onC ((beF (fun j => if csF w v ≤ iwF (S 0) (S 0 2 + S 0 1 * sumF (dkF (S 0)) j) then tkF w (dkF (S 0) j) else -1) 12).1) else 0) ((beF (fun j => if csF w v ≤ iwF (S 0) (S 0 2 + S 0 1 * sumF (dkF (S 0)) j) then tkF w (dkF (S 0) j) else -1) 12).1)) (fnF S 3 (if (0 ≤ w ∧ w ≤ 5) ∧ 1 ≤ v ∧ v ≤ 99 then onC ((beF (fun j => if csF w v ≤ iwF (S 0) (S 0 2 + S 0 1 * sumF (dkF (S 0)) j) then tkF w (dkF (S 0) j) else -1) 12).1) else 0) (S))) := by
  refine CT.of (by decide +kernel) (Nat.le_of_ble_eq_true rfl) ?_
  intro p e s m below meth c ls hC hr hlk hI hl
  have hC : Cx p c cX6_when 3 s m [.ref (a (0)), .int (J w), .int (J v)].toArray RX6 X B := hC
  have hl : lv_has ls 3 [(0, .ref (a (0))), (1, .int (J w)), (2, .int (J v))] := hl
  obtain ⟨⟨hN, hBr, hBu, hIn, hLa, hPc⟩, hDk, hPg⟩ := id hV
  refine r_iload_n hC hl dX6_when_0 1 rfl ?_
  refine r_cSi hC hI hl [.int (J w)] [] (c_X0_isKind l X a B S w (by omega)) ml_RX6_88 es_X0_isKind ⟨Nat.le_of_ble_eq_true rfl, Nat.le_of_ble_eq_true rfl⟩ ⟨Nat.zero_le _, Nat.zero_le _⟩ (Nat.le_of_ble_eq_true rfl) rfl dX6_when_1 (fun H locs hI => ?_)
  refine r_b_eq (tgt := 17) hC dX6_when_4 (by decide) (fun c_1 => ?_) (fun c_1 => ?_)
  · skip
    refine r_aload_n hC hl dX6_when_17 0 rfl ?_
    refine r_iconst hC dX6_when_18 ?_
    refine r_cVi hC hI hl [.int (J 0)] [] (c_X6_found l X a B S 0 (by omega)) ml_RX6_48 ev_X6_found (rc_in (S := S) hC hI) ⟨Nat.le_of_ble_eq_true rfl, Nat.le_of_ble_eq_true rfl⟩ ⟨Nat.zero_le _, Nat.zero_le _⟩ (Nat.le_of_ble_eq_true rfl) rfl dX6_when_19 (fun H locs hI => ?_)
    exact r_iret hC hr hlk hI (an_f 0 (by (repeat' split) <;> first | rfl | omega)) (fn_f 0 (by (repeat' split) <;> first | rfl | omega)) dX6_when_22
  · skip
    refine r_iload_n hC hl dX6_when_7 2 rfl ?_
    refine r_iconst hC dX6_when_8 ?_
    refine r_bipush hC (by decide) dX6_when_9 ?_
    refine r_cSi hC hI hl [.int (J v), .int (J 1), .int (J 99)] [] (c_X6_isWithin l X a B S v 1 99 (by omega) (by omega) (by omega)) ml_RX6_44 es_X6_isWithin ⟨Nat.le_of_ble_eq_true rfl, Nat.le_of_ble_eq_true rfl⟩ ⟨Nat.zero_le _, Nat.zero_le _⟩ (Nat.le_of_ble_eq_true rfl) rfl dX6_when_11 (fun H locs hI => ?_)
    refine r_b_ne (tgt := 23) hC dX6_when_14 (by decide) (fun c_2 => ?_) (fun c_2 => ?_)
    · skip
      refine r_aload_n hC hl dX6_when_23 0 rfl ?_
      refine r_aload_n hC hl dX6_when_24 0 rfl ?_
      refine g_in  (v := .ref (a (2 + 0))) hC hI 1 (by decide) fl_RX6_16 rfl rfl dX6_when_25 ?_
      refine r_iload_n hC hl dX6_when_28 1 rfl ?_
      refine r_iload_n hC hl dX6_when_29 2 rfl ?_
      refine r_cVi hC hI hl [.int (J w), .int (J v)] [.ref (a (0))] (c_X2_blackestNight l X a B S 0 w v (by omega) hV (by omega) (by omega)) ml_RX6_185 ev_X2_blackestNight (rc_sc (S := S) hC hI (by decide)) ⟨Nat.le_of_ble_eq_true rfl, Nat.le_of_ble_eq_true rfl⟩ ⟨Nat.zero_le _, Nat.zero_le _⟩ (Nat.le_of_ble_eq_true rfl) rfl dX6_when_30 (fun H locs hI => ?_)
      refine r_cVi hC hI hl [.int (J ((beF (fun j => if csF w v ≤ iwF (S 0) (S 0 2 + S 0 1 * sumF (dkF (S 0)) j) then tkF w (dkF (S 0) j) else -1) 12).1))] [] (c_X6_orNone l X a B S ((beF (fun j => if csF w v ≤ iwF (S 0) (S 0 2 + S 0 1 * sumF (dkF (S 0)) j) then tkF w (dkF (S 0) j) else -1) 12).1) (rgo2 (be_rg _ _) (by decide))) ml_RX6_179 ev_X6_orNone (rc_in (S := S) hC hI) ⟨Nat.le_of_ble_eq_true rfl, Nat.le_of_ble_eq_true rfl⟩ ⟨Nat.zero_le _, Nat.zero_le _⟩ (Nat.le_of_ble_eq_true rfl) rfl dX6_when_33 (fun H locs hI => ?_)
      exact r_iret hC hr hlk hI (by rw [show (if (0 ≤ w ∧ w ≤ 5) ∧ 1 ≤ v ∧ v ≤ 99 then onC ((beF (fun j => if csF w v ≤ iwF (S 0) (S 0 2 + S 0 1 * sumF (dkF (S 0)) j) then tkF w (dkF (S 0) j) else -1) 12).1) else 0) = onC ((beF (fun j => if csF w v ≤ iwF (S 0) (S 0 2 + S 0 1 * sumF (dkF (S 0)) j) then tkF w (dkF (S 0) j) else -1) 12).1) by (repeat' split) <;> first | rfl | omega]) (by rw [show (if (0 ≤ w ∧ w ≤ 5) ∧ 1 ≤ v ∧ v ≤ 99 then onC ((beF (fun j => if csF w v ≤ iwF (S 0) (S 0 2 + S 0 1 * sumF (dkF (S 0)) j) then tkF w (dkF (S 0) j) else -1) 12).1) else 0) = onC ((beF (fun j => if csF w v ≤ iwF (S 0) (S 0 2 + S 0 1 * sumF (dkF (S 0)) j) then tkF w (dkF (S 0) j) else -1) 12).1) by (repeat' split) <;> first | rfl | omega]) dX6_when_36
    · skip
      refine r_aload_n hC hl dX6_when_17 0 rfl ?_
      refine r_iconst hC dX6_when_18 ?_
      refine r_cVi hC hI hl [.int (J 0)] [] (c_X6_found l X a B S 0 (by omega)) ml_RX6_48 ev_X6_found (rc_in (S := S) hC hI) ⟨Nat.le_of_ble_eq_true rfl, Nat.le_of_ble_eq_true rfl⟩ ⟨Nat.zero_le _, Nat.zero_le _⟩ (Nat.le_of_ble_eq_true rfl) rfl dX6_when_19 (fun H locs hI => ?_)
      exact r_iret hC hr hlk hI (an_f 0 (by (repeat' split) <;> first | rfl | omega)) (fn_f 0 (by (repeat' split) <;> first | rfl | omega)) dX6_when_22

set_option maxHeartbeats 4000000 in
set_option maxRecDepth 100000 in
theorem c_X6_enough (l : Launch) (X : XT) (a : Nat → Nat) (B : Nat) (S : St) (w : Int) (v : Int) (hV : VR 9999 (S 0)) (hw : -2147483648 ≤ w ∧ w ≤ 2147483647) (hv : -2147483648 ≤ v ∧ v ≤ 2147483647) : CT l X a B 4 yX6_enough cX6_enough 3 (some .int) [.ref (a (0)), .int (J w), .int (J v)] S (Qi X a B (anF (if (1 ≤ w ∧ w ≤ 60) ∧ 0 ≤ v ∧ v ≤ 999 then onC (fsF (fun j => decide (v ≤ iwF (S 0) (S 0 2 + (j : Int) * sumF (dkF (S 0)) w.toNat))) 10 0) else 0) (fsF (fun j => decide (v ≤ iwF (S 0) (S 0 2 + (j : Int) * sumF (dkF (S 0)) w.toNat))) 10 0)) (fnF S 3 (if (1 ≤ w ∧ w ≤ 60) ∧ 0 ≤ v ∧ v ≤ 999 then onC (fsF (fun j => decide (v ≤ iwF (S 0) (S 0 2 + (j : Int) * sumF (dkF (S 0)) w.toNat))) 10 0) else 0) (S))) := by
  refine CT.of (by decide +kernel) (Nat.le_of_ble_eq_true rfl) ?_
  intro p e s m below meth c ls hC hr hlk hI hl
  have hC : Cx p c cX6_enough 3 s m [.ref (a (0)), .int (J w), .int (J v)].toArray RX6 X B := hC
  have hl : lv_has ls 3 [(0, .ref (a (0))), (1, .int (J w)), (2, .int (J v))] := hl
  obtain ⟨⟨hN, hBr, hBu, hIn, hLa, hPc⟩, hDk, hPg⟩ := id hV
  refine r_iload_n hC hl dX6_enough_0 1 rfl ?_
  refine r_iconst hC dX6_enough_1 ?_
  refine r_bipush hC (by decide) dX6_enough_2 ?_
  refine r_cSi hC hI hl [.int (J w), .int (J 1), .int (J 60)] [] (c_X6_isWithin l X a B S w 1 60 (by omega) (by omega) (by omega)) ml_RX6_44 es_X6_isWithin ⟨Nat.le_of_ble_eq_true rfl, Nat.le_of_ble_eq_true rfl⟩ ⟨Nat.zero_le _, Nat.zero_le _⟩ (Nat.le_of_ble_eq_true rfl) rfl dX6_enough_4 (fun H locs hI => ?_)
  refine r_b_eq (tgt := 21) hC dX6_enough_7 (by decide) (fun c_1 => ?_) (fun c_1 => ?_)
  · skip
    refine r_aload_n hC hl dX6_enough_21 0 rfl ?_
    refine r_iconst hC dX6_enough_22 ?_
    refine r_cVi hC hI hl [.int (J 0)] [] (c_X6_found l X a B S 0 (by omega)) ml_RX6_48 ev_X6_found (rc_in (S := S) hC hI) ⟨Nat.le_of_ble_eq_true rfl, Nat.le_of_ble_eq_true rfl⟩ ⟨Nat.zero_le _, Nat.zero_le _⟩ (Nat.le_of_ble_eq_true rfl) rfl dX6_enough_23 (fun H locs hI => ?_)
    exact r_iret hC hr hlk hI (an_f 0 (by (repeat' split) <;> first | rfl | omega)) (fn_f 0 (by (repeat' split) <;> first | rfl | omega)) dX6_enough_26
  · skip
    refine r_iload_n hC hl dX6_enough_10 2 rfl ?_
    refine r_iconst hC dX6_enough_11 ?_
    refine r_sipush hC (by decide) dX6_enough_12 ?_
    refine r_cSi hC hI hl [.int (J v), .int (J 0), .int (J 999)] [] (c_X6_isWithin l X a B S v 0 999 (by omega) (by omega) (by omega)) ml_RX6_44 es_X6_isWithin ⟨Nat.le_of_ble_eq_true rfl, Nat.le_of_ble_eq_true rfl⟩ ⟨Nat.zero_le _, Nat.zero_le _⟩ (Nat.le_of_ble_eq_true rfl) rfl dX6_enough_15 (fun H locs hI => ?_)
    refine r_b_ne (tgt := 27) hC dX6_enough_18 (by decide) (fun c_2 => ?_) (fun c_2 => ?_)
    · skip
      refine r_aload_n hC hl dX6_enough_27 0 rfl ?_
      refine r_aload_n hC hl dX6_enough_28 0 rfl ?_
      refine g_in  (v := .ref (a (2 + 0))) hC hI 1 (by decide) fl_RX6_16 rfl rfl dX6_enough_29 ?_
      refine r_iload_n hC hl dX6_enough_32 1 rfl ?_
      refine r_iload_n hC hl dX6_enough_33 2 rfl ?_
      refine r_cVi hC hI hl [.int (J w), .int (J v)] [.ref (a (0))] (c_X2_fewestBrothers_i l X a B S 0 w v (by omega) hV (by omega) (by omega)) ml_RX6_191 ev_X2_fewestBrothers (rc_sc (S := S) hC hI (by decide)) ⟨Nat.le_of_ble_eq_true rfl, Nat.le_of_ble_eq_true rfl⟩ ⟨Nat.zero_le _, Nat.zero_le _⟩ (Nat.le_of_ble_eq_true rfl) rfl dX6_enough_34 (fun H locs hI => ?_)
      refine r_cVi hC hI hl [.int (J (fsF (fun j => decide (v ≤ iwF (S 0) (S 0 2 + (j : Int) * sumF (dkF (S 0)) w.toNat))) 10 0))] [] (c_X6_orNone l X a B S (fsF (fun j => decide (v ≤ iwF (S 0) (S 0 2 + (j : Int) * sumF (dkF (S 0)) w.toNat))) 10 0) (rgo (fs_rg _ _ _) (by decide))) ml_RX6_179 ev_X6_orNone (rc_in (S := S) hC hI) ⟨Nat.le_of_ble_eq_true rfl, Nat.le_of_ble_eq_true rfl⟩ ⟨Nat.zero_le _, Nat.zero_le _⟩ (Nat.le_of_ble_eq_true rfl) rfl dX6_enough_37 (fun H locs hI => ?_)
      exact r_iret hC hr hlk hI (by rw [show (if (1 ≤ w ∧ w ≤ 60) ∧ 0 ≤ v ∧ v ≤ 999 then onC (fsF (fun j => decide (v ≤ iwF (S 0) (S 0 2 + (j : Int) * sumF (dkF (S 0)) w.toNat))) 10 0) else 0) = onC (fsF (fun j => decide (v ≤ iwF (S 0) (S 0 2 + (j : Int) * sumF (dkF (S 0)) w.toNat))) 10 0) by (repeat' split) <;> first | rfl | omega]) (by rw [show (if (1 ≤ w ∧ w ≤ 60) ∧ 0 ≤ v ∧ v ≤ 999 then onC (fsF (fun j => decide (v ≤ iwF (S 0) (S 0 2 + (j : Int) * sumF (dkF (S 0)) w.toNat))) 10 0) else 0) = onC (fsF (fun j => decide (v ≤ iwF (S 0) (S 0 2 + (j : Int) * sumF (dkF (S 0)) w.toNat))) 10 0) by (repeat' split) <;> first | rfl | omega]) dX6_enough_40
    · skip
      refine r_aload_n hC hl dX6_enough_21 0 rfl ?_
      refine r_iconst hC dX6_enough_22 ?_
      refine r_cVi hC hI hl [.int (J 0)] [] (c_X6_found l X a B S 0 (by omega)) ml_RX6_48 ev_X6_found (rc_in (S := S) hC hI) ⟨Nat.le_of_ble_eq_true rfl, Nat.le_of_ble_eq_true rfl⟩ ⟨Nat.zero_le _, Nat.zero_le _⟩ (Nat.le_of_ble_eq_true rfl) rfl dX6_enough_23 (fun H locs hI => ?_)
      exact r_iret hC hr hlk hI (an_f 0 (by (repeat' split) <;> first | rfl | omega)) (fn_f 0 (by (repeat' split) <;> first | rfl | omega)) dX6_enough_26

set_option maxHeartbeats 4000000 in
set_option maxRecDepth 100000 in
theorem c_X6_kind (l : Launch) (X : XT) (a : Nat → Nat) (B : Nat) (S : St) (w : Int) (v : Int) (hV : VR 9999 (S 0)) (hw : -2147483648 ≤ w ∧ w ≤ 2147483647) (hv : -2147483648 ≤ v ∧ v ≤ 2147483647) : CT l X a B 4 yX6_kind cX6_kind 3 (some .int) [.ref (a (0)), .int (J w), .int (J v)] S (Qi X a B (anF (if (0 ≤ w ∧ w < S 0 5) ∧ 0 ≤ v ∧ v ≤ 60 then -1 else 0) ((beF (fun j => blA (S 0) w.toNat (j : Int) (S 0 (21 + 5 * w.toNat)) v (S 0 4)) 6).1)) (fnF S 3 (if (0 ≤ w ∧ w < S 0 5) ∧ 0 ≤ v ∧ v ≤ 60 then -1 else 0) (S))) := by
  refine CT.of (by decide +kernel) (Nat.le_of_ble_eq_true rfl) ?_
  intro p e s m below meth c ls hC hr hlk hI hl
  have hC : Cx p c cX6_kind 3 s m [.ref (a (0)), .int (J w), .int (J v)].toArray RX6 X B := hC
  have hl : lv_has ls 3 [(0, .ref (a (0))), (1, .int (J w)), (2, .int (J v))] := hl
  obtain ⟨⟨hN, hBr, hBu, hIn, hLa, hPc⟩, hDk, hPg⟩ := id hV
  refine r_aload_n hC hl dX6_kind_0 0 rfl ?_
  refine g_in  (v := .ref (a (2 + 0))) hC hI 1 (by decide) fl_RX6_16 rfl rfl dX6_kind_1 ?_
  refine r_iload_n hC hl dX6_kind_4 1 rfl ?_
  refine r_cVi hC hI hl [.int (J w)] [] (c_X2_hasPage l X a B S 0 w (by omega) (by omega) (by omega)) ml_RX6_107 ev_X2_hasPage (rc_sc (S := S) hC hI (by decide)) ⟨Nat.le_of_ble_eq_true rfl, Nat.le_of_ble_eq_true rfl⟩ ⟨Nat.zero_le _, Nat.zero_le _⟩ (Nat.le_of_ble_eq_true rfl) rfl dX6_kind_5 (fun H locs hI => ?_)
  refine r_b_eq (tgt := 21) hC dX6_kind_8 (by decide) (fun c_1 => ?_) (fun c_1 => ?_)
  · skip
    refine r_aload_n hC hl dX6_kind_21 0 rfl ?_
    refine r_iconst hC dX6_kind_22 ?_
    refine r_cVi hC hI hl [.int (J 0)] [] (c_X6_found l X a B S 0 (by omega)) ml_RX6_48 ev_X6_found (rc_in (S := S) hC hI) ⟨Nat.le_of_ble_eq_true rfl, Nat.le_of_ble_eq_true rfl⟩ ⟨Nat.zero_le _, Nat.zero_le _⟩ (Nat.le_of_ble_eq_true rfl) rfl dX6_kind_23 (fun H locs hI => ?_)
    exact r_iret hC hr hlk hI (an_f 0 (by (repeat' split) <;> first | rfl | omega)) (fn_f 0 (by (repeat' split) <;> first | rfl | omega)) dX6_kind_26
  · skip
    refine r_iload_n hC hl dX6_kind_11 2 rfl ?_
    refine r_iconst hC dX6_kind_12 ?_
    refine r_bipush hC (by decide) dX6_kind_13 ?_
    refine r_cSi hC hI hl [.int (J v), .int (J 0), .int (J 60)] [] (c_X6_isWithin l X a B S v 0 60 (by omega) (by omega) (by omega)) ml_RX6_44 es_X6_isWithin ⟨Nat.le_of_ble_eq_true rfl, Nat.le_of_ble_eq_true rfl⟩ ⟨Nat.zero_le _, Nat.zero_le _⟩ (Nat.le_of_ble_eq_true rfl) rfl dX6_kind_15 (fun H locs hI => ?_)
    refine r_b_ne (tgt := 27) hC dX6_kind_18 (by decide) (fun c_2 => ?_) (fun c_2 => ?_)
    · skip
      refine r_aload_n hC hl dX6_kind_27 0 rfl ?_
      refine g_in  (v := .ref (a (2 + 0))) hC hI 1 (by decide) fl_RX6_16 rfl rfl dX6_kind_28 ?_
      refine g_sc (k1 := 0) (v := .ref (a (11 + 0))) hC hI (by decide) 7 (by decide) fl_RX6_110 rfl rfl dX6_kind_31 ?_
      refine r_iload_n hC hl dX6_kind_34 1 rfl ?_
      have hvp := hPg w.toNat (by omega)
      obtain ⟨h18, h19, h20, h21, h22⟩ := id hvp
      refine r_pald (cx := 11 + 0) hC hI (by omega) (ce_pa X a _ (by decide)) (by decide) ((w).toNat) (by omega) (by omega) dX6_kind_35 ?_
      refine r_iload_n hC hl dX6_kind_36 2 rfl ?_
      refine r_aload_n hC hl dX6_kind_37 0 rfl ?_
      refine g_in  (v := .ref (a (2 + 0))) hC hI 1 (by decide) fl_RX6_16 rfl rfl dX6_kind_38 ?_
      refine g_sc (k1 := 0) (v := .int (J (S 0 4))) hC hI (by decide) 4 (by decide) fl_RX6_77 rfl rfl dX6_kind_41 ?_
      refine r_cVi hC hI hl [.int (J v), .int (J (S 0 4))] [] (c_X1_mostBelievedKind l X a B S 0 ((w).toNat) v (S 0 4) (by omega) (by omega) hvp (by omega) (by omega)) ml_RX6_194 ev_X1_mostBelievedKind (rc_pg (S := S) hC hI (by decide) (by omega)) ⟨Nat.le_of_ble_eq_true rfl, Nat.le_of_ble_eq_true rfl⟩ ⟨Nat.zero_le _, Nat.zero_le _⟩ (Nat.le_of_ble_eq_true rfl) rfl dX6_kind_44 (fun H locs hI => ?_)
      exact r_iret hC hr hlk hI (an_n (by (repeat' split) <;> first | rfl | omega) (rfl)) (fn_n (by (repeat' split) <;> first | rfl | omega) (rfl)) dX6_kind_47
    · skip
      refine r_aload_n hC hl dX6_kind_21 0 rfl ?_
      refine r_iconst hC dX6_kind_22 ?_
      refine r_cVi hC hI hl [.int (J 0)] [] (c_X6_found l X a B S 0 (by omega)) ml_RX6_48 ev_X6_found (rc_in (S := S) hC hI) ⟨Nat.le_of_ble_eq_true rfl, Nat.le_of_ble_eq_true rfl⟩ ⟨Nat.zero_le _, Nat.zero_le _⟩ (Nat.le_of_ble_eq_true rfl) rfl dX6_kind_23 (fun H locs hI => ?_)
      exact r_iret hC hr hlk hI (an_f 0 (by (repeat' split) <;> first | rfl | omega)) (fn_f 0 (by (repeat' split) <;> first | rfl | omega)) dX6_kind_26

set_option maxHeartbeats 4000000 in
set_option maxRecDepth 100000 in
theorem c_X6_lamp (l : Launch) (X : XT) (a : Nat → Nat) (B : Nat) (S : St) (w : Int) (v : Int) (hV : VR 9999 (S 0)) (hw : -2147483648 ≤ w ∧ w ≤ 2147483647) (hv : -2147483648 ≤ v ∧ v ≤ 2147483647) : CT l X a B 6 yX6_lamp cX6_lamp 3 (some .int) [.ref (a (0)), .int (J w), .int (J v)] S (Qi X a B (anF (if (0 ≤ w ∧ w ≤ 60) ∧ 0 ≤ v ∧ v ≤ 9999 then onC (fsF (fun j => decide (v ≤ sumF (fun i => blP (S 0) i w (j : Int)) (S 0 5).toNat)) 10 0) else 0) (fsF (fun j => decide (v ≤ sumF (fun i => blP (S 0) i w (j : Int)) (S 0 5).toNat)) 10 0)) (fnF S 3 (if (0 ≤ w ∧ w ≤ 60) ∧ 0 ≤ v ∧ v ≤ 9999 then onC (fsF (fun j => decide (v ≤ sumF (fun i => blP (S 0) i w (j : Int)) (S 0 5).toNat)) 10 0) else 0) (S))) := by
  refine CT.of (by decide +kernel) (Nat.le_of_ble_eq_true rfl) ?_
  intro p e s m below meth c ls hC hr hlk hI hl
  have hC : Cx p c cX6_lamp 3 s m [.ref (a (0)), .int (J w), .int (J v)].toArray RX6 X B := hC
  have hl : lv_has ls 3 [(0, .ref (a (0))), (1, .int (J w)), (2, .int (J v))] := hl
  obtain ⟨⟨hN, hBr, hBu, hIn, hLa, hPc⟩, hDk, hPg⟩ := id hV
  refine r_iload_n hC hl dX6_lamp_0 1 rfl ?_
  refine r_iconst hC dX6_lamp_1 ?_
  refine r_bipush hC (by decide) dX6_lamp_2 ?_
  refine r_cSi hC hI hl [.int (J w), .int (J 0), .int (J 60)] [] (c_X6_isWithin l X a B S w 0 60 (by omega) (by omega) (by omega)) ml_RX6_44 es_X6_isWithin ⟨Nat.le_of_ble_eq_true rfl, Nat.le_of_ble_eq_true rfl⟩ ⟨Nat.zero_le _, Nat.zero_le _⟩ (Nat.le_of_ble_eq_true rfl) rfl dX6_lamp_4 (fun H locs hI => ?_)
  refine r_b_eq (tgt := 21) hC dX6_lamp_7 (by decide) (fun c_1 => ?_) (fun c_1 => ?_)
  · skip
    refine r_aload_n hC hl dX6_lamp_21 0 rfl ?_
    refine r_iconst hC dX6_lamp_22 ?_
    refine r_cVi hC hI hl [.int (J 0)] [] (c_X6_found l X a B S 0 (by omega)) ml_RX6_48 ev_X6_found (rc_in (S := S) hC hI) ⟨Nat.le_of_ble_eq_true rfl, Nat.le_of_ble_eq_true rfl⟩ ⟨Nat.zero_le _, Nat.zero_le _⟩ (Nat.le_of_ble_eq_true rfl) rfl dX6_lamp_23 (fun H locs hI => ?_)
    exact r_iret hC hr hlk hI (an_f 0 (by (repeat' split) <;> first | rfl | omega)) (fn_f 0 (by (repeat' split) <;> first | rfl | omega)) dX6_lamp_26
  · skip
    refine r_iload_n hC hl dX6_lamp_10 2 rfl ?_
    refine r_iconst hC dX6_lamp_11 ?_
    refine r_sipush hC (by decide) dX6_lamp_12 ?_
    refine r_cSi hC hI hl [.int (J v), .int (J 0), .int (J 9999)] [] (c_X6_isWithin l X a B S v 0 9999 (by omega) (by omega) (by omega)) ml_RX6_44 es_X6_isWithin ⟨Nat.le_of_ble_eq_true rfl, Nat.le_of_ble_eq_true rfl⟩ ⟨Nat.zero_le _, Nat.zero_le _⟩ (Nat.le_of_ble_eq_true rfl) rfl dX6_lamp_15 (fun H locs hI => ?_)
    refine r_b_ne (tgt := 27) hC dX6_lamp_18 (by decide) (fun c_2 => ?_) (fun c_2 => ?_)
    · skip
      refine r_aload_n hC hl dX6_lamp_27 0 rfl ?_
      refine r_aload_n hC hl dX6_lamp_28 0 rfl ?_
      refine g_in  (v := .ref (a (2 + 0))) hC hI 1 (by decide) fl_RX6_16 rfl rfl dX6_lamp_29 ?_
      refine r_iload_n hC hl dX6_lamp_32 1 rfl ?_
      refine r_iload_n hC hl dX6_lamp_33 2 rfl ?_
      refine r_cVi hC hI hl [.int (J w), .int (J v)] [.ref (a (0))] (c_X2_leastLamp l X a B S 0 w v (by omega) hV (by omega) (by omega)) ml_RX6_197 ev_X2_leastLamp (rc_sc (S := S) hC hI (by decide)) ⟨Nat.le_of_ble_eq_true rfl, Nat.le_of_ble_eq_true rfl⟩ ⟨Nat.zero_le _, Nat.zero_le _⟩ (Nat.le_of_ble_eq_true rfl) rfl dX6_lamp_34 (fun H locs hI => ?_)
      refine r_cVi hC hI hl [.int (J (fsF (fun j => decide (v ≤ sumF (fun i => blP (S 0) i w (j : Int)) (S 0 5).toNat)) 10 0))] [] (c_X6_orNone l X a B S (fsF (fun j => decide (v ≤ sumF (fun i => blP (S 0) i w (j : Int)) (S 0 5).toNat)) 10 0) (rgo (fs_rg _ _ _) (by decide))) ml_RX6_179 ev_X6_orNone (rc_in (S := S) hC hI) ⟨Nat.le_of_ble_eq_true rfl, Nat.le_of_ble_eq_true rfl⟩ ⟨Nat.zero_le _, Nat.zero_le _⟩ (Nat.le_of_ble_eq_true rfl) rfl dX6_lamp_37 (fun H locs hI => ?_)
      exact r_iret hC hr hlk hI (by rw [show (if (0 ≤ w ∧ w ≤ 60) ∧ 0 ≤ v ∧ v ≤ 9999 then onC (fsF (fun j => decide (v ≤ sumF (fun i => blP (S 0) i w (j : Int)) (S 0 5).toNat)) 10 0) else 0) = onC (fsF (fun j => decide (v ≤ sumF (fun i => blP (S 0) i w (j : Int)) (S 0 5).toNat)) 10 0) by (repeat' split) <;> first | rfl | omega]) (by rw [show (if (0 ≤ w ∧ w ≤ 60) ∧ 0 ≤ v ∧ v ≤ 9999 then onC (fsF (fun j => decide (v ≤ sumF (fun i => blP (S 0) i w (j : Int)) (S 0 5).toNat)) 10 0) else 0) = onC (fsF (fun j => decide (v ≤ sumF (fun i => blP (S 0) i w (j : Int)) (S 0 5).toNat)) 10 0) by (repeat' split) <;> first | rfl | omega]) dX6_lamp_40
    · skip
      refine r_aload_n hC hl dX6_lamp_21 0 rfl ?_
      refine r_iconst hC dX6_lamp_22 ?_
      refine r_cVi hC hI hl [.int (J 0)] [] (c_X6_found l X a B S 0 (by omega)) ml_RX6_48 ev_X6_found (rc_in (S := S) hC hI) ⟨Nat.le_of_ble_eq_true rfl, Nat.le_of_ble_eq_true rfl⟩ ⟨Nat.zero_le _, Nat.zero_le _⟩ (Nat.le_of_ble_eq_true rfl) rfl dX6_lamp_23 (fun H locs hI => ?_)
      exact r_iret hC hr hlk hI (an_f 0 (by (repeat' split) <;> first | rfl | omega)) (fn_f 0 (by (repeat' split) <;> first | rfl | omega)) dX6_lamp_26

set_option maxHeartbeats 4000000 in
set_option maxRecDepth 100000 in
theorem c_X6_longest (l : Launch) (X : XT) (a : Nat → Nat) (B : Nat) (S : St) (w : Int) (hV : VR 9999 (S 0)) (hw : -2147483648 ≤ w ∧ w ≤ 2147483647) : CT l X a B 4 yX6_longest cX6_longest 2 (some .int) [.ref (a (0)), .int (J w)] S (Qi X a B (anF (if ¬ (0 ≤ w ∧ w ≤ 5) then 0 else if 8 ≤ S 0 5 then 1 else onC (dwF (fun q => decide (csF w (q : Int) ≤ S 0 3)) 99)) (dwF (fun q => decide (csF w (q : Int) ≤ S 0 3)) 99)) (fnF S 3 (if ¬ (0 ≤ w ∧ w ≤ 5) then 0 else if 8 ≤ S 0 5 then 1 else onC (dwF (fun q => decide (csF w (q : Int) ≤ S 0 3)) 99)) (S))) := by
  refine CT.of (by decide +kernel) (Nat.le_of_ble_eq_true rfl) ?_
  intro p e s m below meth c ls hC hr hlk hI hl
  have hC : Cx p c cX6_longest 2 s m [.ref (a (0)), .int (J w)].toArray RX6 X B := hC
  have hl : lv_has ls 2 [(0, .ref (a (0))), (1, .int (J w))] := hl
  obtain ⟨⟨hN, hBr, hBu, hIn, hLa, hPc⟩, hDk, hPg⟩ := id hV
  refine r_iload_n hC hl dX6_longest_0 1 rfl ?_
  refine r_cSi hC hI hl [.int (J w)] [] (c_X0_isKind l X a B S w (by omega)) ml_RX6_88 es_X0_isKind ⟨Nat.le_of_ble_eq_true rfl, Nat.le_of_ble_eq_true rfl⟩ ⟨Nat.zero_le _, Nat.zero_le _⟩ (Nat.le_of_ble_eq_true rfl) rfl dX6_longest_1 (fun H locs hI => ?_)
  refine r_b_ne (tgt := 13) hC dX6_longest_4 (by decide) (fun c_1 => ?_) (fun c_1 => ?_)
  · skip
    refine r_aload_n hC hl dX6_longest_13 0 rfl ?_
    refine g_in  (v := .ref (a (2 + 0))) hC hI 1 (by decide) fl_RX6_16 rfl rfl dX6_longest_14 ?_
    refine r_cVi hC hI hl [] [] (c_X2_isFull l X a B S 0 (by omega) (by omega)) ml_RX6_96 ev_X2_isFull (rc_sc (S := S) hC hI (by decide)) ⟨Nat.le_of_ble_eq_true rfl, Nat.le_of_ble_eq_true rfl⟩ ⟨Nat.zero_le _, Nat.zero_le _⟩ (Nat.le_of_ble_eq_true rfl) rfl dX6_longest_17 (fun H locs hI => ?_)
    refine r_b_eq (tgt := 29) hC dX6_longest_20 (by decide) (fun c_2 => ?_) (fun c_2 => ?_)
    · skip
      refine r_aload_n hC hl dX6_longest_29 0 rfl ?_
      refine r_aload_n hC hl dX6_longest_30 0 rfl ?_
      refine g_in  (v := .ref (a (2 + 0))) hC hI 1 (by decide) fl_RX6_16 rfl rfl dX6_longest_31 ?_
      refine r_iload_n hC hl dX6_longest_34 1 rfl ?_
      refine r_cVi hC hI hl [.int (J w)] [.ref (a (0))] (c_X2_mostWords l X a B S 0 w (by omega) hV (by omega)) ml_RX6_200 ev_X2_mostWords (rc_sc (S := S) hC hI (by decide)) ⟨Nat.le_of_ble_eq_true rfl, Nat.le_of_ble_eq_true rfl⟩ ⟨Nat.zero_le _, Nat.zero_le _⟩ (Nat.le_of_ble_eq_true rfl) rfl dX6_longest_35 (fun H locs hI => ?_)
      refine r_cVi hC hI hl [.int (J (dwF (fun ww => decide (csF w (ww : Int) ≤ S 0 3)) 99))] [] (c_X6_orNone l X a B S (dwF (fun ww => decide (csF w (ww : Int) ≤ S 0 3)) 99) (rgo2 (dw_rg _ _) (by decide))) ml_RX6_179 ev_X6_orNone (rc_in (S := S) hC hI) ⟨Nat.le_of_ble_eq_true rfl, Nat.le_of_ble_eq_true rfl⟩ ⟨Nat.zero_le _, Nat.zero_le _⟩ (Nat.le_of_ble_eq_true rfl) rfl dX6_longest_38 (fun H locs hI => ?_)
      exact r_iret hC hr hlk hI (by rw [show (if ¬ (0 ≤ w ∧ w ≤ 5) then 0 else if 8 ≤ S 0 5 then 1 else onC (dwF (fun q => decide (csF w (q : Int) ≤ S 0 3)) 99)) = onC (dwF (fun q => decide (csF w (q : Int) ≤ S 0 3)) 99) by (repeat' split) <;> first | rfl | omega]) (by rw [show (if ¬ (0 ≤ w ∧ w ≤ 5) then 0 else if 8 ≤ S 0 5 then 1 else onC (dwF (fun q => decide (csF w (q : Int) ≤ S 0 3)) 99)) = onC (dwF (fun q => decide (csF w (q : Int) ≤ S 0 3)) 99) by (repeat' split) <;> first | rfl | omega]) dX6_longest_41
    · skip
      refine r_aload_n hC hl dX6_longest_23 0 rfl ?_
      refine r_iconst hC dX6_longest_24 ?_
      refine r_cVi hC hI hl [.int (J 1)] [] (c_X6_found l X a B S 1 (by omega)) ml_RX6_48 ev_X6_found (rc_in (S := S) hC hI) ⟨Nat.le_of_ble_eq_true rfl, Nat.le_of_ble_eq_true rfl⟩ ⟨Nat.zero_le _, Nat.zero_le _⟩ (Nat.le_of_ble_eq_true rfl) rfl dX6_longest_25 (fun H locs hI => ?_)
      exact r_iret hC hr hlk hI (an_f 1 (by (repeat' split) <;> first | rfl | omega)) (fn_f 1 (by (repeat' split) <;> first | rfl | omega)) dX6_longest_28
  · skip
    refine r_aload_n hC hl dX6_longest_7 0 rfl ?_
    refine r_iconst hC dX6_longest_8 ?_
    refine r_cVi hC hI hl [.int (J 0)] [] (c_X6_found l X a B S 0 (by omega)) ml_RX6_48 ev_X6_found (rc_in (S := S) hC hI) ⟨Nat.le_of_ble_eq_true rfl, Nat.le_of_ble_eq_true rfl⟩ ⟨Nat.zero_le _, Nat.zero_le _⟩ (Nat.le_of_ble_eq_true rfl) rfl dX6_longest_9 (fun H locs hI => ?_)
    exact r_iret hC hr hlk hI (an_f 0 (by (repeat' split) <;> first | rfl | omega)) (fn_f 0 (by (repeat' split) <;> first | rfl | omega)) dX6_longest_12

set_option maxHeartbeats 4000000 in
set_option maxRecDepth 100000 in
theorem c_X6_shade (l : Launch) (X : XT) (a : Nat → Nat) (B : Nat) (S : St) (w : Int) (hV : VR 9999 (S 0)) (hw : -2147483648 ≤ w ∧ w ≤ 2147483647) : CT l X a B 5 yX6_shade cX6_shade 2 (some .int) [.ref (a (0)), .int (J w)] S (Qi X a B (anF (if 1 ≤ w ∧ w ≤ 60 then onC (bsF (fun j => decide (S 0 (21 + 5 * j) = 1)) (stD (S 0) w) (S 0 5).toNat) else 0) (bsF (fun j => decide (S 0 (21 + 5 * j) = 1)) (stD (S 0) w) (S 0 5).toNat)) (if 1 ≤ w ∧ w ≤ 60 then fnF (setB S (8 + 0) (meF (S 0) w (S (8 + 0)) (S 0 5).toNat)) 3 (onC (bsF (fun j => decide (S 0 (21 + 5 * j) = 1)) (stD (S 0) w) (S 0 5).toNat)) (setB S (8 + 0) (meF (S 0) w (S (8 + 0)) (S 0 5).toNat)) else up S 3 0 (S 3 0 + 1))) := by
  refine CT.of (by decide +kernel) (Nat.le_of_ble_eq_true rfl) ?_
  intro p e s m below meth c ls hC hr hlk hI hl
  have hC : Cx p c cX6_shade 2 s m [.ref (a (0)), .int (J w)].toArray RX6 X B := hC
  have hl : lv_has ls 2 [(0, .ref (a (0))), (1, .int (J w))] := hl
  obtain ⟨⟨hN, hBr, hBu, hIn, hLa, hPc⟩, hDk, hPg⟩ := id hV
  have hpw := pow_rg (q := (S 0 5).toNat) (by omega)
  have hpn : ((2 ^ (S 0 5).toNat : Nat) : Int) = (2 : Int) ^ (S 0 5).toNat := by rw [Int.natCast_pow]; rfl
  refine r_iload_n hC hl dX6_shade_0 1 rfl ?_
  refine r_iconst hC dX6_shade_1 ?_
  refine r_bipush hC (by decide) dX6_shade_2 ?_
  refine r_cSi hC hI hl [.int (J w), .int (J 1), .int (J 60)] [] (c_X6_isWithin l X a B S w 1 60 (by omega) (by omega) (by omega)) ml_RX6_44 es_X6_isWithin ⟨Nat.le_of_ble_eq_true rfl, Nat.le_of_ble_eq_true rfl⟩ ⟨Nat.zero_le _, Nat.zero_le _⟩ (Nat.le_of_ble_eq_true rfl) rfl dX6_shade_4 (fun H locs hI => ?_)
  refine r_b_ne (tgt := 16) hC dX6_shade_7 (by decide) (fun c_1 => ?_) (fun c_1 => ?_)
  · skip
    refine r_aload_n hC hl dX6_shade_16 0 rfl ?_
    refine r_aload_n hC hl dX6_shade_17 0 rfl ?_
    refine g_in  (v := .ref (a (2 + 0))) hC hI 1 (by decide) fl_RX6_16 rfl rfl dX6_shade_18 ?_
    refine r_iload_n hC hl dX6_shade_21 1 rfl ?_
    refine r_cVi hC hI hl [.int (J w)] [.ref (a (0))] (c_X2_bestShaded l X a B S 0 w (by omega) hV (by omega)) ml_RX6_188 ev_X2_bestShaded (rc_sc (S := S) hC hI (by decide)) ⟨Nat.le_of_ble_eq_true rfl, Nat.le_of_ble_eq_true rfl⟩ ⟨Nat.zero_le _, Nat.zero_le _⟩ (Nat.le_of_ble_eq_true rfl) rfl dX6_shade_22 (fun H locs hI => ?_)
    refine r_cVi hC hI hl [.int (J (bsF (fun j => decide (S 0 (21 + 5 * j) = 1)) (stD (S 0) w) (S 0 5).toNat))] [] (c_X6_orNone l X a B (setB S (8 + 0) (meF (S 0) w (S (8 + 0)) (S 0 5).toNat)) (bsF (fun j => decide (S 0 (21 + 5 * j) = 1)) (stD (S 0) w) (S 0 5).toNat) (rgo (bs_rg _ _ _) (by omega))) ml_RX6_179 ev_X6_orNone (rc_in (S := setB S (8 + 0) (meF (S 0) w (S (8 + 0)) (S 0 5).toNat)) hC hI) ⟨Nat.le_of_ble_eq_true rfl, Nat.le_of_ble_eq_true rfl⟩ ⟨Nat.zero_le _, Nat.zero_le _⟩ (Nat.le_of_ble_eq_true rfl) rfl dX6_shade_25 (fun H locs hI => ?_)
    exact r_iret hC hr hlk hI (by rw [show (if 1 ≤ w ∧ w ≤ 60 then onC (bsF (fun j => decide (S 0 (21 + 5 * j) = 1)) (stD (S 0) w) (S 0 5).toNat) else 0) = onC (bsF (fun j => decide (S 0 (21 + 5 * j) = 1)) (stD (S 0) w) (S 0 5).toNat) by (repeat' split) <;> first | rfl | omega]) ((if_pos (by omega)).symm) dX6_shade_28
  · skip
    refine r_aload_n hC hl dX6_shade_10 0 rfl ?_
    refine r_iconst hC dX6_shade_11 ?_
    refine r_cVi hC hI hl [.int (J 0)] [] (c_X6_found l X a B S 0 (by omega)) ml_RX6_48 ev_X6_found (rc_in (S := S) hC hI) ⟨Nat.le_of_ble_eq_true rfl, Nat.le_of_ble_eq_true rfl⟩ ⟨Nat.zero_le _, Nat.zero_le _⟩ (Nat.le_of_ble_eq_true rfl) rfl dX6_shade_12 (fun H locs hI => ?_)
    exact r_iret hC hr hlk hI (an_f 0 (by (repeat' split) <;> first | rfl | omega)) ((if_neg (by omega)).symm) dX6_shade_15

set_option maxHeartbeats 4000000 in
set_option maxRecDepth 100000 in
theorem c_X6_sunny (l : Launch) (X : XT) (a : Nat → Nat) (B : Nat) (S : St) (w : Int) (v : Int) (hV : VR 9999 (S 0)) (hw : -2147483648 ≤ w ∧ w ≤ 2147483647) (hv : -2147483648 ≤ v ∧ v ≤ 2147483647) : CT l X a B 5 yX6_sunny cX6_sunny 3 (some .int) [.ref (a (0)), .int (J w), .int (J v)] S (Qi X a B (anF (if (1 ≤ w ∧ w ≤ 20) ∧ 0 ≤ v ∧ v ≤ 9999 then onC (msF (fun m1 => decide (v ≤ sumF (fun j => blA (S 0) j (S 0 (18 + 5 * j)) 0 w (S 0 4)) (S 0 5).toNat - tkS (stD (S 0) w) m1 (S 0 5).toNat)) (2 ^ (S 0 5).toNat)) else 0) (msF (fun m1 => decide (v ≤ sumF (fun j => blA (S 0) j (S 0 (18 + 5 * j)) 0 w (S 0 4)) (S 0 5).toNat - tkS (stD (S 0) w) m1 (S 0 5).toNat)) (2 ^ (S 0 5).toNat))) (if (1 ≤ w ∧ w ≤ 20) ∧ 0 ≤ v ∧ v ≤ 9999 then fnF (setB S (8 + 0) (meF (S 0) w (S (8 + 0)) (S 0 5).toNat)) 3 (onC (msF (fun m1 => decide (v ≤ sumF (fun j => blA (S 0) j (S 0 (18 + 5 * j)) 0 w (S 0 4)) (S 0 5).toNat - tkS (stD (S 0) w) m1 (S 0 5).toNat)) (2 ^ (S 0 5).toNat))) (setB S (8 + 0) (meF (S 0) w (S (8 + 0)) (S 0 5).toNat)) else up S 3 0 (S 3 0 + 1))) := by
  refine CT.of (by decide +kernel) (Nat.le_of_ble_eq_true rfl) ?_
  intro p e s m below meth c ls hC hr hlk hI hl
  have hC : Cx p c cX6_sunny 3 s m [.ref (a (0)), .int (J w), .int (J v)].toArray RX6 X B := hC
  have hl : lv_has ls 3 [(0, .ref (a (0))), (1, .int (J w)), (2, .int (J v))] := hl
  obtain ⟨⟨hN, hBr, hBu, hIn, hLa, hPc⟩, hDk, hPg⟩ := id hV
  have hpw := pow_rg (q := (S 0 5).toNat) (by omega)
  have hpn : ((2 ^ (S 0 5).toNat : Nat) : Int) = (2 : Int) ^ (S 0 5).toNat := by rw [Int.natCast_pow]; rfl
  refine r_iload_n hC hl dX6_sunny_0 1 rfl ?_
  refine r_iconst hC dX6_sunny_1 ?_
  refine r_bipush hC (by decide) dX6_sunny_2 ?_
  refine r_cSi hC hI hl [.int (J w), .int (J 1), .int (J 20)] [] (c_X6_isWithin l X a B S w 1 20 (by omega) (by omega) (by omega)) ml_RX6_44 es_X6_isWithin ⟨Nat.le_of_ble_eq_true rfl, Nat.le_of_ble_eq_true rfl⟩ ⟨Nat.zero_le _, Nat.zero_le _⟩ (Nat.le_of_ble_eq_true rfl) rfl dX6_sunny_4 (fun H locs hI => ?_)
  refine r_b_eq (tgt := 21) hC dX6_sunny_7 (by decide) (fun c_1 => ?_) (fun c_1 => ?_)
  · skip
    refine r_aload_n hC hl dX6_sunny_21 0 rfl ?_
    refine r_iconst hC dX6_sunny_22 ?_
    refine r_cVi hC hI hl [.int (J 0)] [] (c_X6_found l X a B S 0 (by omega)) ml_RX6_48 ev_X6_found (rc_in (S := S) hC hI) ⟨Nat.le_of_ble_eq_true rfl, Nat.le_of_ble_eq_true rfl⟩ ⟨Nat.zero_le _, Nat.zero_le _⟩ (Nat.le_of_ble_eq_true rfl) rfl dX6_sunny_23 (fun H locs hI => ?_)
    exact r_iret hC hr hlk hI (an_f 0 (by (repeat' split) <;> first | rfl | omega)) ((if_neg (by omega)).symm) dX6_sunny_26
  · skip
    refine r_iload_n hC hl dX6_sunny_10 2 rfl ?_
    refine r_iconst hC dX6_sunny_11 ?_
    refine r_sipush hC (by decide) dX6_sunny_12 ?_
    refine r_cSi hC hI hl [.int (J v), .int (J 0), .int (J 9999)] [] (c_X6_isWithin l X a B S v 0 9999 (by omega) (by omega) (by omega)) ml_RX6_44 es_X6_isWithin ⟨Nat.le_of_ble_eq_true rfl, Nat.le_of_ble_eq_true rfl⟩ ⟨Nat.zero_le _, Nat.zero_le _⟩ (Nat.le_of_ble_eq_true rfl) rfl dX6_sunny_15 (fun H locs hI => ?_)
    refine r_b_ne (tgt := 27) hC dX6_sunny_18 (by decide) (fun c_2 => ?_) (fun c_2 => ?_)
    · skip
      refine r_aload_n hC hl dX6_sunny_27 0 rfl ?_
      refine r_aload_n hC hl dX6_sunny_28 0 rfl ?_
      refine g_in  (v := .ref (a (2 + 0))) hC hI 1 (by decide) fl_RX6_16 rfl rfl dX6_sunny_29 ?_
      refine r_iload_n hC hl dX6_sunny_32 1 rfl ?_
      refine r_iload_n hC hl dX6_sunny_33 2 rfl ?_
      refine r_cVi hC hI hl [.int (J w), .int (J v)] [.ref (a (0))] (c_X2_mostInSun l X a B S 0 w v (by omega) hV (by omega) (by omega)) ml_RX6_203 ev_X2_mostInSun (rc_sc (S := S) hC hI (by decide)) ⟨Nat.le_of_ble_eq_true rfl, Nat.le_of_ble_eq_true rfl⟩ ⟨Nat.zero_le _, Nat.zero_le _⟩ (Nat.le_of_ble_eq_true rfl) rfl dX6_sunny_34 (fun H locs hI => ?_)
      refine r_cVi hC hI hl [.int (J (msF (fun m1 => decide (v ≤ sumF (fun j => blA (S 0) j (S 0 (18 + 5 * j)) 0 w (S 0 4)) (S 0 5).toNat - tkS (stD (S 0) w) m1 (S 0 5).toNat)) (2 ^ (S 0 5).toNat)))] [] (c_X6_orNone l X a B (setB S (8 + 0) (meF (S 0) w (S (8 + 0)) (S 0 5).toNat)) (msF (fun m1 => decide (v ≤ sumF (fun j => blA (S 0) j (S 0 (18 + 5 * j)) 0 w (S 0 4)) (S 0 5).toNat - tkS (stD (S 0) w) m1 (S 0 5).toNat)) (2 ^ (S 0 5).toNat)) (rgo (ms_rg _ _) (by omega))) ml_RX6_179 ev_X6_orNone (rc_in (S := setB S (8 + 0) (meF (S 0) w (S (8 + 0)) (S 0 5).toNat)) hC hI) ⟨Nat.le_of_ble_eq_true rfl, Nat.le_of_ble_eq_true rfl⟩ ⟨Nat.zero_le _, Nat.zero_le _⟩ (Nat.le_of_ble_eq_true rfl) rfl dX6_sunny_37 (fun H locs hI => ?_)
      exact r_iret hC hr hlk hI (by rw [show (if (1 ≤ w ∧ w ≤ 20) ∧ 0 ≤ v ∧ v ≤ 9999 then onC (msF (fun m1 => decide (v ≤ sumF (fun j => blA (S 0) j (S 0 (18 + 5 * j)) 0 w (S 0 4)) (S 0 5).toNat - tkS (stD (S 0) w) m1 (S 0 5).toNat)) (2 ^ (S 0 5).toNat)) else 0) = onC (msF (fun m1 => decide (v ≤ sumF (fun j => blA (S 0) j (S 0 (18 + 5 * j)) 0 w (S 0 4)) (S 0 5).toNat - tkS (stD (S 0) w) m1 (S 0 5).toNat)) (2 ^ (S 0 5).toNat)) by (repeat' split) <;> first | rfl | omega]) ((if_pos (by omega)).symm) dX6_sunny_40
    · skip
      refine r_aload_n hC hl dX6_sunny_21 0 rfl ?_
      refine r_iconst hC dX6_sunny_22 ?_
      refine r_cVi hC hI hl [.int (J 0)] [] (c_X6_found l X a B S 0 (by omega)) ml_RX6_48 ev_X6_found (rc_in (S := S) hC hI) ⟨Nat.le_of_ble_eq_true rfl, Nat.le_of_ble_eq_true rfl⟩ ⟨Nat.zero_le _, Nat.zero_le _⟩ (Nat.le_of_ble_eq_true rfl) rfl dX6_sunny_23 (fun H locs hI => ?_)
      exact r_iret hC hr hlk hI (an_f 0 (by (repeat' split) <;> first | rfl | omega)) ((if_neg (by omega)).symm) dX6_sunny_26

set_option maxHeartbeats 4000000 in
set_option maxRecDepth 100000 in
theorem c_X6_count (l : Launch) (X : XT) (a : Nat → Nat) (B : Nat) (S : St) (w : Int) (hV : VR 9999 (S 0)) (hw : -2147483648 ≤ w ∧ w ≤ 2147483647) : CT l X a B 2 yX6_count cX6_count 2 (some .int) [.ref (a (0)), .int (J w)] S (Qi X a B (anF (if 0 ≤ w ∧ w ≤ 3 then -1 else 0) (ctF (S 0) (S 5 0) w)) (fnF S 3 (if 0 ≤ w ∧ w ≤ 3 then -1 else 0) (S))) := by
  refine CT.of (by decide +kernel) (Nat.le_of_ble_eq_true rfl) ?_
  intro p e s m below meth c ls hC hr hlk hI hl
  have hC : Cx p c cX6_count 2 s m [.ref (a (0)), .int (J w)].toArray RX6 X B := hC
  have hl : lv_has ls 2 [(0, .ref (a (0))), (1, .int (J w))] := hl
  obtain ⟨⟨hN, hBr, hBu, hIn, hLa, hPc⟩, hDk, hPg⟩ := id hV
  refine r_iload_n hC hl dX6_count_0 1 rfl ?_
  by_cases c_1 : w = 0
  · refine r_tin (tgt := 32) hC 0 c_1 (by decide) dX6_count_1 (by decide) (by decide) rfl (by decide) ?_
    refine r_aload_n hC hl dX6_count_32 0 rfl ?_
    refine g_in  (v := .ref (a (2 + 0))) hC hI 1 (by decide) fl_RX6_16 rfl rfl dX6_count_33 ?_
    refine g_sc (k1 := 0) (v := .int (J (S 0 5))) hC hI (by decide) 5 (by decide) fl_RX6_266 rfl rfl dX6_count_36 ?_
    exact r_iret hC hr hlk hI (an_n (by (repeat' split) <;> first | rfl | omega) (by unfold ctF; subst_vars; first | rfl | (split <;> first | rfl | omega))) (fn_n (by (repeat' split) <;> first | rfl | omega) (rfl)) dX6_count_39
  by_cases c_2 : w = 1
  · refine r_tin (tgt := 40) hC 1 c_2 (by decide) dX6_count_1 (by decide) (by decide) rfl (by decide) ?_
    refine r_aload_n hC hl dX6_count_40 0 rfl ?_
    refine g_in  (v := .ref (a (5))) hC hI 4 (by decide) fl_RX6_29 rfl rfl dX6_count_41 ?_
    refine g_ta  (v := .int (J (S 5 0))) hC hI 0 (by decide) fl_RX6_206 rfl rfl dX6_count_44 ?_
    exact r_iret hC hr hlk hI (an_n (by (repeat' split) <;> first | rfl | omega) (by unfold ctF; subst_vars; first | rfl | (split <;> first | rfl | omega))) (fn_n (by (repeat' split) <;> first | rfl | omega) (rfl)) dX6_count_47
  by_cases c_3 : w = 2
  · refine r_tin (tgt := 48) hC 2 c_3 (by decide) dX6_count_1 (by decide) (by decide) rfl (by decide) ?_
    refine r_aload_n hC hl dX6_count_48 0 rfl ?_
    refine g_in  (v := .ref (a (2 + 0))) hC hI 1 (by decide) fl_RX6_16 rfl rfl dX6_count_49 ?_
    refine r_cVi hC hI hl [] [] (c_X2_pagesInSun l X a B S 0 (by omega) hV) ml_RX6_269 ev_X2_pagesInSun (rc_sc (S := S) hC hI (by decide)) ⟨Nat.le_of_ble_eq_true rfl, Nat.le_of_ble_eq_true rfl⟩ ⟨Nat.zero_le _, Nat.zero_le _⟩ (Nat.le_of_ble_eq_true rfl) rfl dX6_count_52 (fun H locs hI => ?_)
    exact r_iret hC hr hlk hI (an_n (by (repeat' split) <;> first | rfl | omega) (by unfold ctF; subst_vars; first | rfl | (split <;> first | rfl | omega))) (fn_n (by (repeat' split) <;> first | rfl | omega) (rfl)) dX6_count_55
  by_cases c_4 : w = 3
  · refine r_tin (tgt := 56) hC 3 c_4 (by decide) dX6_count_1 (by decide) (by decide) rfl (by decide) ?_
    refine r_aload_n hC hl dX6_count_56 0 rfl ?_
    refine g_in  (v := .ref (a (2 + 0))) hC hI 1 (by decide) fl_RX6_16 rfl rfl dX6_count_57 ?_
    refine r_cVi hC hI hl [] [] (c_X2_wordsTogether l X a B S 0 (by omega) hV) ml_RX6_272 ev_X2_wordsTogether (rc_sc (S := S) hC hI (by decide)) ⟨Nat.le_of_ble_eq_true rfl, Nat.le_of_ble_eq_true rfl⟩ ⟨Nat.zero_le _, Nat.zero_le _⟩ (Nat.le_of_ble_eq_true rfl) rfl dX6_count_60 (fun H locs hI => ?_)
    exact r_iret hC hr hlk hI (an_n (by (repeat' split) <;> first | rfl | omega) (by unfold ctF; subst_vars; first | rfl | (split <;> first | rfl | omega))) (fn_n (by (repeat' split) <;> first | rfl | omega) (rfl)) dX6_count_63
  refine r_tout (tgt := 64) hC (by omega) dX6_count_1 (by omega) (by decide) ?_
  refine r_aload_n hC hl dX6_count_64 0 rfl ?_
  refine r_iconst hC dX6_count_65 ?_
  refine r_cVi hC hI hl [.int (J 0)] [] (c_X6_found l X a B S 0 (by omega)) ml_RX6_48 ev_X6_found (rc_in (S := S) hC hI) ⟨Nat.le_of_ble_eq_true rfl, Nat.le_of_ble_eq_true rfl⟩ ⟨Nat.zero_le _, Nat.zero_le _⟩ (Nat.le_of_ble_eq_true rfl) rfl dX6_count_66 (fun H locs hI => ?_)
  exact r_iret hC hr hlk hI (an_f 0 (by (repeat' split) <;> first | rfl | omega)) (fn_f 0 (by (repeat' split) <;> first | rfl | omega)) dX6_count_69
