set_option maxHeartbeats 4000000 in
set_option maxRecDepth 100000 in
theorem c_X7_behind0 (l : Launch) (X : XT) (a : Nat → Nat) (B : Nat) (S : St) (n : Nat) (M : Int) (hV : VR M (S 20)) (hM : M ≤ 15000) (hn : n ≤ 300) : CT l X a B 4 yX7_behind cX7_behind 5 (some .int) [.ref (a (49)), .int (J (n : Int)), .int (J 0), .int (J 0)] S (Qi X a B (iwF (S 20) (S 20 2 + S 20 1 * sumF (dkF (S 20)) n)) (setB S 20 (S 22))) := by
  refine CT.of (by decide +kernel) (Nat.le_of_ble_eq_true rfl) ?_
  intro p e s m below meth c ls hC hr hlk hI hl
  have hC : Cx p c cX7_behind 5 s m [.ref (a (49)), .int (J (n : Int)), .int (J 0), .int (J 0)].toArray RX7 X B := hC
  have hl : lv_has ls 5 [(0, .ref (a (49))), (1, .int (J (n : Int))), (2, .int (J 0)), (3, .int (J 0))] := hl
  obtain ⟨⟨hN, hBr, hBu, hIn, hLa, hPc⟩, hDk, hPg⟩ := id hV
  refine r_aload_n hC hl dX7_behind_0 0 rfl ?_
  refine r_iload_n hC hl dX7_behind_1 1 rfl ?_
  refine r_cVv hC hI hl [.int (J (n : Int))] [] (c_X7_passes l X a B S n M hV (by omega) (by omega)) ml_RX7_113 ev_X7_passes (rc_mo (S := S) hC hI) ⟨Nat.le_of_ble_eq_true rfl, Nat.le_of_ble_eq_true rfl⟩ ⟨Nat.zero_le _, Nat.zero_le _⟩ (Nat.le_of_ble_eq_true rfl) rfl dX7_behind_2 (fun H locs hI => ?_)
  obtain ⟨T, eT⟩ : ∃ z : St, z = setB S 20 (lgF (S 20) n) := ⟨_, rfl⟩
  rw [← eT] at hI
  have hTk : T 20 = lgF (S 20) n := by rw [eT, setB_at]
  have hT2 : T 22 = S 22 := by rw [eT, setB_ne _ _ (by decide)]
  have hVT : VR 20000 (T 20) := by rw [hTk]; exact VR_mono (by omega) (lg_VR (by omega) hV)
  have e5 : T 20 5 = S 20 5 := by rw [hTk, lg_o (by decide) (by decide) (by decide) (by omega)]
  have e4 : T 20 4 = S 20 4 := by rw [hTk, lg_o (by decide) (by decide) (by decide) (by omega)]
  refine r_iload_n hC hl dX7_behind_5 2 rfl ?_
  refine r_if_ne (tgt := 18) hC (by decide) dX7_behind_6 (by decide) (fun z => absurd z (by decide)) (fun _ => ?_)
  refine r_aload_n hC hl dX7_behind_9 0 rfl ?_
  refine g_mo  (v := .ref (a (50))) hC hI 0 (by decide) fl_RX7_7 rfl rfl dX7_behind_10 ?_
  refine r_iconst hC dX7_behind_13 ?_
  refine r_iald (cx := 50) (n := 58) (f := (fun S => S 20) (T)) (v := T 20 3) hC hI (by decide) rfl (by decide) (3) (by omega) (by omega) rfl dX7_behind_14 ?_
  refine r_as (y := iwF (S 20) (S 20 2 + S 20 1 * sumF (dkF (S 20)) n)) hC (by rw [hTk, lg_3]) ?_
  refine r_goto (tgt := 49) hC dX7_behind_15 (by decide) ?_
  refine r_istore (lv1 := [(4, .int (J (iwF (S 20) (S 20 2 + S 20 1 * sumF (dkF (S 20)) n)))), (0, .ref (a (49))), (1, .int (J (n : Int))), (2, .int (J 0)), (3, .int (J 0))]) hC hl dX7_behind_49 (by decide) rfl (fun ls hl => ?_)
  refine r_aload_n hC hl dX7_behind_51 1 rfl ?_
  refine r_iconst hC dX7_behind_52 ?_
  refine r_aload_n hC hl dX7_behind_53 1 rfl ?_
  refine g_mo  (v := .ref (a (52))) hC hI 2 (by decide) fl_RX7_16 rfl rfl dX7_behind_54 ?_
  refine r_cVv hC hI hl [.int (J 0), .ref (a (52))] [] (c_X7_moveAll0 l X a B T 52 22 (by omega) (fun _ => rfl) (fun _ => rfl) (by omega) rfl) ml_RX7_117 ev_X7_moveAll (rc_mo (S := T) hC hI) ⟨Nat.le_of_ble_eq_true rfl, Nat.le_of_ble_eq_true rfl⟩ ⟨Nat.zero_le _, Nat.zero_le _⟩ (Nat.le_of_ble_eq_true rfl) rfl dX7_behind_57 (fun H locs hI => ?_)
  refine r_iload hC hl dX7_behind_60 0 rfl ?_
  exact r_iret hC hr hlk hI (rfl) (by rw [hT2, eT, setB_setB]) dX7_behind_62

set_option maxHeartbeats 4000000 in
set_option maxRecDepth 100000 in
theorem c_X7_behind1 (l : Launch) (X : XT) (a : Nat → Nat) (B : Nat) (S : St) (n : Nat) (M : Int) (hV : VR M (S 20)) (hM : M ≤ 15000) (hn : n ≤ 300) : CT l X a B 4 yX7_behind cX7_behind 5 (some .int) [.ref (a (49)), .int (J (n : Int)), .int (J 1), .int (J 0)] S (Qi X a B (sumF (fun i => blP (S 20) i (n : Int) (S 20 4)) (S 20 5).toNat) (setB S 20 (S 22))) := by
  refine CT.of (by decide +kernel) (Nat.le_of_ble_eq_true rfl) ?_
  intro p e s m below meth c ls hC hr hlk hI hl
  have hC : Cx p c cX7_behind 5 s m [.ref (a (49)), .int (J (n : Int)), .int (J 1), .int (J 0)].toArray RX7 X B := hC
  have hl : lv_has ls 5 [(0, .ref (a (49))), (1, .int (J (n : Int))), (2, .int (J 1)), (3, .int (J 0))] := hl
  obtain ⟨⟨hN, hBr, hBu, hIn, hLa, hPc⟩, hDk, hPg⟩ := id hV
  refine r_aload_n hC hl dX7_behind_0 0 rfl ?_
  refine r_iload_n hC hl dX7_behind_1 1 rfl ?_
  refine r_cVv hC hI hl [.int (J (n : Int))] [] (c_X7_passes l X a B S n M hV (by omega) (by omega)) ml_RX7_113 ev_X7_passes (rc_mo (S := S) hC hI) ⟨Nat.le_of_ble_eq_true rfl, Nat.le_of_ble_eq_true rfl⟩ ⟨Nat.zero_le _, Nat.zero_le _⟩ (Nat.le_of_ble_eq_true rfl) rfl dX7_behind_2 (fun H locs hI => ?_)
  obtain ⟨T, eT⟩ : ∃ z : St, z = setB S 20 (lgF (S 20) n) := ⟨_, rfl⟩
  rw [← eT] at hI
  have hTk : T 20 = lgF (S 20) n := by rw [eT, setB_at]
  have hT2 : T 22 = S 22 := by rw [eT, setB_ne _ _ (by decide)]
  have hVT : VR 20000 (T 20) := by rw [hTk]; exact VR_mono (by omega) (lg_VR (by omega) hV)
  have e5 : T 20 5 = S 20 5 := by rw [hTk, lg_o (by decide) (by decide) (by decide) (by omega)]
  have e4 : T 20 4 = S 20 4 := by rw [hTk, lg_o (by decide) (by decide) (by decide) (by omega)]
  refine r_iload_n hC hl dX7_behind_5 2 rfl ?_
  refine r_if_ne (tgt := 18) hC (by decide) dX7_behind_6 (by decide) (fun _ => ?_) (fun z => absurd z (by decide))
  refine r_iload_n hC hl dX7_behind_18 2 rfl ?_
  refine r_iconst hC dX7_behind_19 ?_
  refine r_icmp_ne (tgt := 30) hC (by decide) (by decide) dX7_behind_20 (by decide) (fun z => absurd z (by decide)) (fun _ => ?_)
  refine r_aload_n hC hl dX7_behind_23 0 rfl ?_
  refine r_cVi hC hI hl [] [] (c_X7_allBelieved l X a B T  hVT) ml_RX7_77 ev_X7_allBelieved (rc_mo (S := T) hC hI) ⟨Nat.le_of_ble_eq_true rfl, Nat.le_of_ble_eq_true rfl⟩ ⟨Nat.zero_le _, Nat.zero_le _⟩ (Nat.le_of_ble_eq_true rfl) rfl dX7_behind_24 (fun H locs hI => ?_)
  refine r_as (y := sumF (fun i => blP (S 20) i (n : Int) (S 20 4)) (S 20 5).toNat) hC (by rw [e5, hTk, lg_o (j := 4) (by decide) (by decide) (by decide) (by omega)]; exact al_lg (by omega) hV _) ?_
  refine r_goto (tgt := 49) hC dX7_behind_27 (by decide) ?_
  refine r_istore (lv1 := [(4, .int (J (sumF (fun i => blP (S 20) i (n : Int) (S 20 4)) (S 20 5).toNat))), (0, .ref (a (49))), (1, .int (J (n : Int))), (2, .int (J 1)), (3, .int (J 0))]) hC hl dX7_behind_49 (by decide) rfl (fun ls hl => ?_)
  refine r_aload_n hC hl dX7_behind_51 1 rfl ?_
  refine r_iconst hC dX7_behind_52 ?_
  refine r_aload_n hC hl dX7_behind_53 1 rfl ?_
  refine g_mo  (v := .ref (a (52))) hC hI 2 (by decide) fl_RX7_16 rfl rfl dX7_behind_54 ?_
  refine r_cVv hC hI hl [.int (J 0), .ref (a (52))] [] (c_X7_moveAll0 l X a B T 52 22 (by omega) (fun _ => rfl) (fun _ => rfl) (by omega) rfl) ml_RX7_117 ev_X7_moveAll (rc_mo (S := T) hC hI) ⟨Nat.le_of_ble_eq_true rfl, Nat.le_of_ble_eq_true rfl⟩ ⟨Nat.zero_le _, Nat.zero_le _⟩ (Nat.le_of_ble_eq_true rfl) rfl dX7_behind_57 (fun H locs hI => ?_)
  refine r_iload hC hl dX7_behind_60 0 rfl ?_
  exact r_iret hC hr hlk hI (rfl) (by rw [hT2, eT, setB_setB]) dX7_behind_62

set_option maxHeartbeats 4000000 in
set_option maxRecDepth 100000 in
theorem c_X7_behindW (l : Launch) (X : XT) (a : Nat → Nat) (B : Nat) (S : St) (n : Nat) (M : Int) (u : Int) (i : Nat) (hV : VR M (S 20)) (hM : M ≤ 15000) (hn : n ≤ 300) (hu : 2 ≤ u ∧ u ≤ 3) (hi : i < 8) (hic : i < (S 20 5).toNat) : CT l X a B 4 yX7_behind cX7_behind 5 (some .int) [.ref (a (49)), .int (J (n : Int)), .int (J u), .int (J (i : Int))] S (Qi X a B (if u = 2 then bkP (S 20) i (n : Int) else blP (S 20) i (n : Int) (S 20 4)) (setB S 20 (S 22))) := by
  refine CT.of (by decide +kernel) (Nat.le_of_ble_eq_true rfl) ?_
  intro p e s m below meth c ls hC hr hlk hI hl
  have hC : Cx p c cX7_behind 5 s m [.ref (a (49)), .int (J (n : Int)), .int (J u), .int (J (i : Int))].toArray RX7 X B := hC
  have hl : lv_has ls 5 [(0, .ref (a (49))), (1, .int (J (n : Int))), (2, .int (J u)), (3, .int (J (i : Int)))] := hl
  obtain ⟨⟨hN, hBr, hBu, hIn, hLa, hPc⟩, hDk, hPg⟩ := id hV
  refine r_aload_n hC hl dX7_behind_0 0 rfl ?_
  refine r_iload_n hC hl dX7_behind_1 1 rfl ?_
  refine r_cVv hC hI hl [.int (J (n : Int))] [] (c_X7_passes l X a B S n M hV (by omega) (by omega)) ml_RX7_113 ev_X7_passes (rc_mo (S := S) hC hI) ⟨Nat.le_of_ble_eq_true rfl, Nat.le_of_ble_eq_true rfl⟩ ⟨Nat.zero_le _, Nat.zero_le _⟩ (Nat.le_of_ble_eq_true rfl) rfl dX7_behind_2 (fun H locs hI => ?_)
  obtain ⟨T, eT⟩ : ∃ z : St, z = setB S 20 (lgF (S 20) n) := ⟨_, rfl⟩
  rw [← eT] at hI
  have hTk : T 20 = lgF (S 20) n := by rw [eT, setB_at]
  have hT2 : T 22 = S 22 := by rw [eT, setB_ne _ _ (by decide)]
  have hVT : VR 20000 (T 20) := by rw [hTk]; exact VR_mono (by omega) (lg_VR (by omega) hV)
  have e5 : T 20 5 = S 20 5 := by rw [hTk, lg_o (by decide) (by decide) (by decide) (by omega)]
  have e4 : T 20 4 = S 20 4 := by rw [hTk, lg_o (by decide) (by decide) (by decide) (by omega)]
  refine r_iload_n hC hl dX7_behind_5 2 rfl ?_
  refine r_if_ne (tgt := 18) hC (by omega) dX7_behind_6 (by decide) (fun c_1 => ?_) (fun c_1 => ?_)
  · skip
    refine r_iload_n hC hl dX7_behind_18 2 rfl ?_
    refine r_iconst hC dX7_behind_19 ?_
    refine r_icmp_ne (tgt := 30) hC (by omega) (by omega) dX7_behind_20 (by decide) (fun c_2 => ?_) (fun c_2 => ?_)
    · skip
      refine r_iload_n hC hl dX7_behind_30 2 rfl ?_
      refine r_iconst hC dX7_behind_31 ?_
      refine r_icmp_ne (tgt := 44) hC (by omega) (by omega) dX7_behind_32 (by decide) (fun c_3 => ?_) (fun c_3 => ?_)
      · skip
        refine r_aload_n hC hl dX7_behind_44 0 rfl ?_
        refine r_iload_n hC hl dX7_behind_45 3 rfl ?_
        refine r_cVi hC hI hl [.int (J (i : Int))] [] (c_X7_believed l X a B T i (by omega) (hVT.2.2 i hi) (by omega)) ml_RX7_67 ev_X7_believed (rc_mo (S := T) hC hI) ⟨Nat.le_of_ble_eq_true rfl, Nat.le_of_ble_eq_true rfl⟩ ⟨Nat.zero_le _, Nat.zero_le _⟩ (Nat.le_of_ble_eq_true rfl) rfl dX7_behind_46 (fun H locs hI => ?_)
        refine r_as (y := if u = 2 then bkP (S 20) i (n : Int) else blP (S 20) i (n : Int) (S 20 4)) hC (by rw [if_neg (by omega), b0_eq (hVT.2.2 i hi), hTk, lg_o (j := 4) (by decide) (by decide) (by decide) (by omega), bl_lg (by omega) hV hic]) ?_
        refine r_istore (lv1 := [(4, .int (J (if u = 2 then bkP (S 20) i (n : Int) else blP (S 20) i (n : Int) (S 20 4)))), (0, .ref (a (49))), (1, .int (J (n : Int))), (2, .int (J u)), (3, .int (J (i : Int)))]) hC hl dX7_behind_49 (by decide) rfl (fun ls hl => ?_)
        refine r_aload_n hC hl dX7_behind_51 1 rfl ?_
        refine r_iconst hC dX7_behind_52 ?_
        refine r_aload_n hC hl dX7_behind_53 1 rfl ?_
        refine g_mo  (v := .ref (a (52))) hC hI 2 (by decide) fl_RX7_16 rfl rfl dX7_behind_54 ?_
        refine r_cVv hC hI hl [.int (J 0), .ref (a (52))] [] (c_X7_moveAll0 l X a B T 52 22 (by omega) (fun _ => rfl) (fun _ => rfl) (by omega) rfl) ml_RX7_117 ev_X7_moveAll (rc_mo (S := T) hC hI) ⟨Nat.le_of_ble_eq_true rfl, Nat.le_of_ble_eq_true rfl⟩ ⟨Nat.zero_le _, Nat.zero_le _⟩ (Nat.le_of_ble_eq_true rfl) rfl dX7_behind_57 (fun H locs hI => ?_)
        refine r_iload hC hl dX7_behind_60 0 rfl ?_
        exact r_iret hC hr hlk hI (rfl) (by rw [hT2, eT, setB_setB]) dX7_behind_62
      · skip
        refine r_aload_n hC hl dX7_behind_35 0 rfl ?_
        refine r_iload_n hC hl dX7_behind_36 3 rfl ?_
        refine r_iconst hC dX7_behind_37 ?_
        refine r_cVi hC hI hl [.int (J (i : Int)), .int (J 2)] [] (c_X7_its2 l X a B T i (by omega)) ml_RX7_64 ev_X7_its (rc_mo (S := T) hC hI) ⟨Nat.le_of_ble_eq_true rfl, Nat.le_of_ble_eq_true rfl⟩ ⟨Nat.zero_le _, Nat.zero_le _⟩ (Nat.le_of_ble_eq_true rfl) rfl dX7_behind_38 (fun H locs hI => ?_)
        refine r_as (y := if u = 2 then bkP (S 20) i (n : Int) else blP (S 20) i (n : Int) (S 20 4)) hC (by rw [if_pos (by omega), hTk, lg_b hic]) ?_
        refine r_goto (tgt := 49) hC dX7_behind_41 (by decide) ?_
        refine r_istore (lv1 := [(4, .int (J (if u = 2 then bkP (S 20) i (n : Int) else blP (S 20) i (n : Int) (S 20 4)))), (0, .ref (a (49))), (1, .int (J (n : Int))), (2, .int (J u)), (3, .int (J (i : Int)))]) hC hl dX7_behind_49 (by decide) rfl (fun ls hl => ?_)
        refine r_aload_n hC hl dX7_behind_51 1 rfl ?_
        refine r_iconst hC dX7_behind_52 ?_
        refine r_aload_n hC hl dX7_behind_53 1 rfl ?_
        refine g_mo  (v := .ref (a (52))) hC hI 2 (by decide) fl_RX7_16 rfl rfl dX7_behind_54 ?_
        refine r_cVv hC hI hl [.int (J 0), .ref (a (52))] [] (c_X7_moveAll0 l X a B T 52 22 (by omega) (fun _ => rfl) (fun _ => rfl) (by omega) rfl) ml_RX7_117 ev_X7_moveAll (rc_mo (S := T) hC hI) ⟨Nat.le_of_ble_eq_true rfl, Nat.le_of_ble_eq_true rfl⟩ ⟨Nat.zero_le _, Nat.zero_le _⟩ (Nat.le_of_ble_eq_true rfl) rfl dX7_behind_57 (fun H locs hI => ?_)
        refine r_iload hC hl dX7_behind_60 0 rfl ?_
        exact r_iret hC hr hlk hI (rfl) (by rw [hT2, eT, setB_setB]) dX7_behind_62
    · skip
      exfalso; omega
  · skip
    exfalso; omega

theorem c_X7_behind0_i (l : Launch) (X : XT) (a : Nat → Nat) (B : Nat) (S : St) (n : Int) (M : Int) (hV : VR M (S 20)) (hM : M ≤ 15000) (hn : 0 ≤ n ∧ n ≤ 300) : CT l X a B 4 yX7_behind cX7_behind 5 (some .int) [.ref (a (49)), .int (J n), .int (J 0), .int (J 0)] S (Qi X a B (iwF (S 20) (S 20 2 + S 20 1 * sumF (dkF (S 20)) n.toNat)) (setB S 20 (S 22))) := by
  have h := c_X7_behind0 l X a B S n.toNat M hV hM (by omega)
  rw [show ((n.toNat : Nat) : Int) = n by omega] at h
  exact h

theorem c_X7_behind1_i (l : Launch) (X : XT) (a : Nat → Nat) (B : Nat) (S : St) (n : Int) (M : Int) (hV : VR M (S 20)) (hM : M ≤ 15000) (hn : 0 ≤ n ∧ n ≤ 300) : CT l X a B 4 yX7_behind cX7_behind 5 (some .int) [.ref (a (49)), .int (J n), .int (J 1), .int (J 0)] S (Qi X a B (sumF (fun i => blP (S 20) i n (S 20 4)) (S 20 5).toNat) (setB S 20 (S 22))) := by
  have h := c_X7_behind1 l X a B S n.toNat M hV hM (by omega)
  rw [show ((n.toNat : Nat) : Int) = n by omega] at h
  exact h

theorem c_X7_behindW_i (l : Launch) (X : XT) (a : Nat → Nat) (B : Nat) (S : St) (n : Int) (M : Int) (u : Int) (i : Nat) (hV : VR M (S 20)) (hM : M ≤ 15000) (hu : 2 ≤ u ∧ u ≤ 3) (hi : i < 8) (hic : i < (S 20 5).toNat) (hn : 0 ≤ n ∧ n ≤ 300) : CT l X a B 4 yX7_behind cX7_behind 5 (some .int) [.ref (a (49)), .int (J n), .int (J u), .int (J (i : Int))] S (Qi X a B (if u = 2 then bkP (S 20) i n else blP (S 20) i n (S 20 4)) (setB S 20 (S 22))) := by
  have h := c_X7_behindW l X a B S n.toNat M u i hV hM (by omega) hu hi hic
  rw [show ((n.toNat : Nat) : Int) = n by omega] at h
  exact h

theorem c_X7_behindW_i_i (l : Launch) (X : XT) (a : Nat → Nat) (B : Nat) (S : St) (n : Int) (M : Int) (u : Int) (i : Int) (hV : VR M (S 20)) (hM : M ≤ 15000) (hu : 2 ≤ u ∧ u ≤ 3) (hic : i.toNat < (S 20 5).toNat) (hn : 0 ≤ n ∧ n ≤ 300) (hi : 0 ≤ i ∧ i ≤ 7) : CT l X a B 4 yX7_behind cX7_behind 5 (some .int) [.ref (a (49)), .int (J n), .int (J u), .int (J i)] S (Qi X a B (if u = 2 then bkP (S 20) i.toNat n else blP (S 20) i.toNat n (S 20 4)) (setB S 20 (S 22))) := by
  have h := c_X7_behindW_i l X a B S n M u i.toNat hV hM hu (by omega) hic hn
  rw [show ((i.toNat : Nat) : Int) = i by omega] at h
  exact h

set_option maxHeartbeats 4000000 in
set_option maxRecDepth 100000 in
theorem c_X7_adds (l : Launch) (X : XT) (a : Nat → Nat) (B : Nat) (S : St) (q : Int) (w : Int) (su : Int) (hV : VR 9999 (S 20)) (h8 : S 20 5 < 8) (hq : 0 ≤ q ∧ q ≤ 5) (hw : 0 ≤ w ∧ w ≤ 99) : CT l X a B 2 yX7_adds cX7_adds 5 none [.ref (a (49)), .int (J q), .int (J w), .int (J su)] S (Qv X a B (setB S 20 (apF (S 20) q w su))) := by
  refine CT.of (by decide +kernel) (Nat.le_of_ble_eq_true rfl) ?_
  intro p e s m below meth c ls hC hr hlk hI hl
  have hC : Cx p c cX7_adds 5 s m [.ref (a (49)), .int (J q), .int (J w), .int (J su)].toArray RX7 X B := hC
  have hl : lv_has ls 5 [(0, .ref (a (49))), (1, .int (J q)), (2, .int (J w)), (3, .int (J su))] := hl
  obtain ⟨⟨hN, hBr, hBu, hIn, hLa, hPc⟩, hDk, hPg⟩ := id hV
  have hd0 := dk_rg hV 0
  refine r_aload_n hC hl dX7_adds_0 0 rfl ?_
  refine g_mo  (v := .ref (a (50))) hC hI 0 (by decide) fl_RX7_7 rfl rfl dX7_adds_1 ?_
  refine r_iconst hC dX7_adds_4 ?_
  refine r_iald (cx := 50) (n := 58) (f := (fun S => S 20) (S)) (v := S 20 5) hC hI (by decide) rfl (by decide) (5) (by omega) (by omega) rfl dX7_adds_5 ?_
  refine r_istore (lv1 := [(4, .int (J (S 20 5))), (0, .ref (a (49))), (1, .int (J q)), (2, .int (J w)), (3, .int (J su))]) hC hl dX7_adds_6 (by decide) rfl (fun ls hl => ?_)
  refine r_aload_n hC hl dX7_adds_8 1 rfl ?_
  refine g_mo  (v := .ref (a (50))) hC hI 0 (by decide) fl_RX7_7 rfl rfl dX7_adds_9 ?_
  refine r_iconst hC dX7_adds_12 ?_
  refine r_dup2 hC rfl rfl dX7_adds_13 ?_
  refine r_iald (cx := 50) (n := 58) (f := (fun S => S 20) (S)) (v := S 20 3) hC hI (by decide) rfl (by decide) (3) (by omega) (by omega) rfl dX7_adds_14 ?_
  refine r_iload_n hC hl dX7_adds_15 2 rfl ?_
  refine r_iload_n hC hl dX7_adds_16 3 rfl ?_
  refine r_cSi hC hI hl [.int (J q), .int (J w)] [.int (J (S 20 3)), .int (J 3), .ref (a (50))] (c_X7_costs l X a B S q w (by omega) (by omega)) ml_RX7_80 es_X7_costs ⟨Nat.le_of_ble_eq_true rfl, Nat.le_of_ble_eq_true rfl⟩ ⟨Nat.zero_le _, Nat.zero_le _⟩ (Nat.le_of_ble_eq_true rfl) rfl dX7_adds_17 (fun H locs hI => ?_)
  refine r_isub hC dX7_adds_20 ?_
  refine r_iast (cx := 50) (n := 58) (F := fun S => S 20) hC hI (by decide) (fun _ => rfl) (by decide) (3) (by omega) (by omega) (b := 20) (j := 3) rfl (fun q => by simp [up, setB, upR]) dX7_adds_21 (fun H locs hI => ?_)
  refine r_aload_n hC hl dX7_adds_22 1 rfl ?_
  refine r_iload hC hl dX7_adds_23 0 rfl ?_
  refine r_iconst hC dX7_adds_25 ?_
  refine r_iload_n hC hl dX7_adds_26 2 rfl ?_
  refine r_cVv hC hI hl [.int (J (S 20 5)), .int (J 0), .int (J q)] [] (c_X7_puts0_i l X a B (up S 20 3 ((S 20 3) - (csF q w))) (S 20 5) q (by omega)) ml_RX7_83 ev_X7_puts (rc_mo (S := up S 20 3 ((S 20 3) - (csF q w))) hC hI) ⟨Nat.le_of_ble_eq_true rfl, Nat.le_of_ble_eq_true rfl⟩ ⟨Nat.zero_le _, Nat.zero_le _⟩ (Nat.le_of_ble_eq_true rfl) rfl dX7_adds_27 (fun H locs hI => ?_)
  refine r_aload_n hC hl dX7_adds_30 1 rfl ?_
  refine r_iload hC hl dX7_adds_31 0 rfl ?_
  refine r_iconst hC dX7_adds_33 ?_
  refine r_iload_n hC hl dX7_adds_34 3 rfl ?_
  refine r_cVv hC hI hl [.int (J (S 20 5)), .int (J 1), .int (J w)] [] (c_X7_puts1_i l X a B (up (up S 20 3 ((S 20 3) - (csF q w))) 20 (18 + 5 * (S 20 5).toNat) q) (S 20 5) w (by omega)) ml_RX7_83 ev_X7_puts (rc_mo (S := up (up S 20 3 ((S 20 3) - (csF q w))) 20 (18 + 5 * (S 20 5).toNat) q) hC hI) ⟨Nat.le_of_ble_eq_true rfl, Nat.le_of_ble_eq_true rfl⟩ ⟨Nat.zero_le _, Nat.zero_le _⟩ (Nat.le_of_ble_eq_true rfl) rfl dX7_adds_35 (fun H locs hI => ?_)
  refine r_aload_n hC hl dX7_adds_38 1 rfl ?_
  refine r_iload hC hl dX7_adds_39 0 rfl ?_
  refine r_iconst hC dX7_adds_41 ?_
  refine r_iload_n hC hl dX7_adds_42 2 rfl ?_
  refine r_aload_n hC hl dX7_adds_43 1 rfl ?_
  obtain ⟨T, eT⟩ : ∃ z : St, z = up (up (up S 20 3 ((S 20 3) - (csF q w))) 20 (18 + 5 * (S 20 5).toNat) q) 20 (19 + 5 * (S 20 5).toNat) w := ⟨_, rfl⟩
  rw [← eT] at hI
  have t0 : T 20 0 = S 20 0 := by rw [eT, up_nj _ _ (by omega), up_nj _ _ (by omega), up_nj _ _ (by omega)]
  have td : dkF (T 20) 0 = dkF (S 20) 0 := dk_cg t0 (fun j h1 h2 => by rw [eT, up_nj _ _ (by omega), up_nj _ _ (by omega), up_nj _ _ (by omega)]) hN.1
  have t5 : T 20 5 = S 20 5 := by rw [eT, up_nj _ _ (by omega), up_nj _ _ (by omega), up_nj _ _ (by omega)]
  refine r_cVi hC hI hl [] [.int (J q), .int (J 2), .int (J (S 20 5)), .ref (a (49))] (c_X7_darkNow l X a B T  (by omega)) ml_RX7_70 ev_X7_darkNow (rc_mo (S := T) hC hI) ⟨Nat.le_of_ble_eq_true rfl, Nat.le_of_ble_eq_true rfl⟩ ⟨Nat.zero_le _, Nat.zero_le _⟩ (Nat.le_of_ble_eq_true rfl) rfl dX7_adds_44 (fun H locs hI => ?_)
  refine r_as (y := dkF (S 20) 0) hC td ?_
  refine r_cSi hC hI hl [.int (J q), .int (J (dkF (S 20) 0))] [.int (J 2), .int (J (S 20 5)), .ref (a (49))] (c_X7_takes l X a B T q (dkF (S 20) 0) (by omega) (by omega)) ml_RX7_87 es_X7_takes ⟨Nat.le_of_ble_eq_true rfl, Nat.le_of_ble_eq_true rfl⟩ ⟨Nat.zero_le _, Nat.zero_le _⟩ (Nat.le_of_ble_eq_true rfl) rfl dX7_adds_47 (fun H locs hI => ?_)
  refine r_cVv hC hI hl [.int (J (S 20 5)), .int (J 2), .int (J (tkF q (dkF (S 20) 0)))] [] (c_X7_puts2_i l X a B T (S 20 5) (tkF q (dkF (S 20) 0)) (by omega)) ml_RX7_83 ev_X7_puts (rc_mo (S := T) hC hI) ⟨Nat.le_of_ble_eq_true rfl, Nat.le_of_ble_eq_true rfl⟩ ⟨Nat.zero_le _, Nat.zero_le _⟩ (Nat.le_of_ble_eq_true rfl) rfl dX7_adds_50 (fun H locs hI => ?_)
  refine r_aload_n hC hl dX7_adds_53 1 rfl ?_
  refine r_iload hC hl dX7_adds_54 0 rfl ?_
  refine r_iconst hC dX7_adds_56 ?_
  refine r_iload_n hC hl dX7_adds_57 4 rfl ?_
  refine r_cVv hC hI hl [.int (J (S 20 5)), .int (J 3), .int (J su)] [] (c_X7_puts3_i l X a B (up T 20 (20 + 5 * (S 20 5).toNat) (tkF q (dkF (S 20) 0))) (S 20 5) su (by omega)) ml_RX7_83 ev_X7_puts (rc_mo (S := up T 20 (20 + 5 * (S 20 5).toNat) (tkF q (dkF (S 20) 0))) hC hI) ⟨Nat.le_of_ble_eq_true rfl, Nat.le_of_ble_eq_true rfl⟩ ⟨Nat.zero_le _, Nat.zero_le _⟩ (Nat.le_of_ble_eq_true rfl) rfl dX7_adds_58 (fun H locs hI => ?_)
  refine r_aload_n hC hl dX7_adds_61 1 rfl ?_
  refine r_iload hC hl dX7_adds_62 0 rfl ?_
  refine r_iconst hC dX7_adds_64 ?_
  refine r_iconst hC dX7_adds_65 ?_
  refine r_cVv hC hI hl [.int (J (S 20 5)), .int (J 4), .int (J 0)] [] (c_X7_puts4_i l X a B (up (up T 20 (20 + 5 * (S 20 5).toNat) (tkF q (dkF (S 20) 0))) 20 (21 + 5 * (S 20 5).toNat) su) (S 20 5) 0 (by omega)) ml_RX7_83 ev_X7_puts (rc_mo (S := up (up T 20 (20 + 5 * (S 20 5).toNat) (tkF q (dkF (S 20) 0))) 20 (21 + 5 * (S 20 5).toNat) su) hC hI) ⟨Nat.le_of_ble_eq_true rfl, Nat.le_of_ble_eq_true rfl⟩ ⟨Nat.zero_le _, Nat.zero_le _⟩ (Nat.le_of_ble_eq_true rfl) rfl dX7_adds_66 (fun H locs hI => ?_)
  refine r_aload_n hC hl dX7_adds_69 1 rfl ?_
  refine g_mo  (v := .ref (a (50))) hC hI 0 (by decide) fl_RX7_7 rfl rfl dX7_adds_70 ?_
  refine r_iconst hC dX7_adds_73 ?_
  refine r_dup2 hC rfl rfl dX7_adds_74 ?_
  refine r_iald (cx := 50) (n := 58) (f := (fun S => S 20) (up (up (up T 20 (20 + 5 * (S 20 5).toNat) (tkF q (dkF (S 20) 0))) 20 (21 + 5 * (S 20 5).toNat) su) 20 (22 + 5 * (S 20 5).toNat) 0)) (v := T 20 5) hC hI (by decide) rfl (by decide) (5) (by omega) (by omega) (by show (up (up (up T 20 (20 + 5 * (S 20 5).toNat) (tkF q (dkF (S 20) 0))) 20 (21 + 5 * (S 20 5).toNat) su) 20 (22 + 5 * (S 20 5).toNat) 0) 20 5 = _; rw [up_nj (b := 20) (j := 22 + 5 * (S 20 5).toNat) (c := 20) (i := 5) _ _ (by omega), up_nj (b := 20) (j := 21 + 5 * (S 20 5).toNat) (c := 20) (i := 5) _ _ (by omega), up_nj (b := 20) (j := 20 + 5 * (S 20 5).toNat) (c := 20) (i := 5) _ _ (by omega)]) dX7_adds_75 ?_
  refine r_iconst hC dX7_adds_76 ?_
  refine r_iadd hC dX7_adds_77 ?_
  refine r_iast (cx := 50) (n := 58) (F := fun S => S 20) hC hI (by decide) (fun _ => rfl) (by decide) (5) (by omega) (by omega) (b := 20) (j := 5) rfl (fun q => by simp [up, setB, upR]) dX7_adds_78 (fun H locs hI => ?_)
  exact r_vret hC hr hlk hI (by rw [t5, eT, up_eq S, up_set, up_set, up_set, up_set, up_set, up_set]; rfl) dX7_adds_79

set_option maxHeartbeats 4000000 in
set_option maxRecDepth 100000 in
theorem c_X7_jar (l : Launch) (X : XT) (a : Nat → Nat) (B : Nat) (S : St) (w : Int) (v : Int) (hV : VR 9999 (S 20)) (hw : -2147483648 ≤ w ∧ w ≤ 2147483647) (hv : -2147483648 ≤ v ∧ v ≤ 2147483647) : CT l X a B 1 yX7_jar cX7_jar 3 (some .int) [.ref (a (49)), .int (J w), .int (J v)] S (Qi X a B (anF (if (0 ≤ w ∧ w ≤ 3) ∧ 0 ≤ v ∧ v ≤ mjF w then -1 else 0) (S 20 (1 + w.toNat))) (fnF S 21 (if (0 ≤ w ∧ w ≤ 3) ∧ 0 ≤ v ∧ v ≤ mjF w then -1 else 0) (up S 20 (1 + w.toNat) v))) := by
  refine CT.of (by decide +kernel) (Nat.le_of_ble_eq_true rfl) ?_
  intro p e s m below meth c ls hC hr hlk hI hl
  have hC : Cx p c cX7_jar 3 s m [.ref (a (49)), .int (J w), .int (J v)].toArray RX7 X B := hC
  have hl : lv_has ls 3 [(0, .ref (a (49))), (1, .int (J w)), (2, .int (J v))] := hl
  obtain ⟨⟨hN, hBr, hBu, hIn, hLa, hPc⟩, hDk, hPg⟩ := id hV
  have hmj : -1 ≤ mjF w ∧ mjF w ≤ 999 := by unfold mjF; (repeat' split) <;> omega
  refine r_iload_n hC hl dX7_jar_0 1 rfl ?_
  refine r_iconst hC dX7_jar_1 ?_
  refine r_iconst hC dX7_jar_2 ?_
  refine r_cSi hC hI hl [.int (J w), .int (J 0), .int (J 3)] [] (c_X7_in l X a B S w 0 3 (by omega) (by omega) (by omega)) ml_RX7_45 es_X7_in ⟨Nat.le_of_ble_eq_true rfl, Nat.le_of_ble_eq_true rfl⟩ ⟨Nat.zero_le _, Nat.zero_le _⟩ (Nat.le_of_ble_eq_true rfl) rfl dX7_jar_3 (fun H locs hI => ?_)
  refine r_b_eq (tgt := 32) hC dX7_jar_6 (by decide) (fun c_1 => ?_) (fun c_1 => ?_)
  · skip
    refine r_aload_n hC hl dX7_jar_32 0 rfl ?_
    refine r_ldc (x := (-1000000001)) hC ct_RX7_44 (by decide) dX7_jar_33 ?_
    refine r_cVi hC hI hl [.int (J (-1000000001))] [] (c_X7_finds0 l X a B S  ) ml_RX7_57 ev_X7_finds (rc_mo (S := S) hC hI) ⟨Nat.le_of_ble_eq_true rfl, Nat.le_of_ble_eq_true rfl⟩ ⟨Nat.zero_le _, Nat.zero_le _⟩ (Nat.le_of_ble_eq_true rfl) rfl dX7_jar_35 (fun H locs hI => ?_)
    exact r_iret hC hr hlk hI (an_f 0 (by (repeat' split) <;> first | rfl | omega)) (fn_f 0 (by (repeat' split) <;> first | rfl | omega)) dX7_jar_38
  · skip
    refine r_iload_n hC hl dX7_jar_9 2 rfl ?_
    refine r_iconst hC dX7_jar_10 ?_
    refine r_iload_n hC hl dX7_jar_11 1 rfl ?_
    refine r_cSi hC hI hl [.int (J w)] [.int (J 0), .int (J v)] (c_X7_mostOf l X a B S w (by omega)) ml_RX7_49 es_X7_mostOf ⟨Nat.le_of_ble_eq_true rfl, Nat.le_of_ble_eq_true rfl⟩ ⟨Nat.zero_le _, Nat.zero_le _⟩ (Nat.le_of_ble_eq_true rfl) rfl dX7_jar_12 (fun H locs hI => ?_)
    refine r_cSi hC hI hl [.int (J v), .int (J 0), .int (J (mjF w))] [] (c_X7_in l X a B S v 0 (mjF w) (by omega) (by omega) (by omega)) ml_RX7_45 es_X7_in ⟨Nat.le_of_ble_eq_true rfl, Nat.le_of_ble_eq_true rfl⟩ ⟨Nat.zero_le _, Nat.zero_le _⟩ (Nat.le_of_ble_eq_true rfl) rfl dX7_jar_15 (fun H locs hI => ?_)
    refine r_b_eq (tgt := 32) hC dX7_jar_18 (by decide) (fun c_2 => ?_) (fun c_2 => ?_)
    · skip
      refine r_aload_n hC hl dX7_jar_32 0 rfl ?_
      refine r_ldc (x := (-1000000001)) hC ct_RX7_44 (by decide) dX7_jar_33 ?_
      refine r_cVi hC hI hl [.int (J (-1000000001))] [] (c_X7_finds0 l X a B S  ) ml_RX7_57 ev_X7_finds (rc_mo (S := S) hC hI) ⟨Nat.le_of_ble_eq_true rfl, Nat.le_of_ble_eq_true rfl⟩ ⟨Nat.zero_le _, Nat.zero_le _⟩ (Nat.le_of_ble_eq_true rfl) rfl dX7_jar_35 (fun H locs hI => ?_)
      exact r_iret hC hr hlk hI (an_f 0 (by (repeat' split) <;> first | rfl | omega)) (fn_f 0 (by (repeat' split) <;> first | rfl | omega)) dX7_jar_38
    · skip
      refine r_aload_n hC hl dX7_jar_21 0 rfl ?_
      refine r_iconst hC dX7_jar_22 ?_
      refine r_iload_n hC hl dX7_jar_23 1 rfl ?_
      refine r_iadd hC dX7_jar_24 ?_
      refine r_iload_n hC hl dX7_jar_25 2 rfl ?_
      refine r_cVi hC hI hl [.int (J (1 + w)), .int (J v)] [] (c_X7_becomes l X a B S (1 + w) v (by omega)) ml_RX7_53 ev_X7_becomes (rc_mo (S := S) hC hI) ⟨Nat.le_of_ble_eq_true rfl, Nat.le_of_ble_eq_true rfl⟩ ⟨Nat.zero_le _, Nat.zero_le _⟩ (Nat.le_of_ble_eq_true rfl) rfl dX7_jar_26 (fun H locs hI => ?_)
      refine r_goto (tgt := 38) hC dX7_jar_29 (by decide) ?_
      exact r_iret hC hr hlk hI (an_n (by (repeat' split) <;> first | rfl | omega) (by congr 1; omega)) (fn_n (by (repeat' split) <;> first | rfl | omega) (by congr 1; omega)) dX7_jar_38

set_option maxHeartbeats 4000000 in
set_option maxRecDepth 100000 in
theorem c_X7_dark (l : Launch) (X : XT) (a : Nat → Nat) (B : Nat) (S : St) (w : Int) (v : Int) (hV : VR 9999 (S 20)) (hw : -2147483648 ≤ w ∧ w ≤ 2147483647) (hv : -2147483648 ≤ v ∧ v ≤ 2147483647) : CT l X a B 1 yX7_dark cX7_dark 3 (some .int) [.ref (a (49)), .int (J w), .int (J v)] S (Qi X a B (anF (if (0 ≤ w ∧ w ≤ 11) ∧ 0 ≤ v ∧ v ≤ 20 then -1 else 0) (S 20 (6 + w.toNat))) (fnF S 21 (if (0 ≤ w ∧ w ≤ 11) ∧ 0 ≤ v ∧ v ≤ 20 then -1 else 0) (up S 20 (6 + w.toNat) v))) := by
  refine CT.of (by decide +kernel) (Nat.le_of_ble_eq_true rfl) ?_
  intro p e s m below meth c ls hC hr hlk hI hl
  have hC : Cx p c cX7_dark 3 s m [.ref (a (49)), .int (J w), .int (J v)].toArray RX7 X B := hC
  have hl : lv_has ls 3 [(0, .ref (a (49))), (1, .int (J w)), (2, .int (J v))] := hl
  obtain ⟨⟨hN, hBr, hBu, hIn, hLa, hPc⟩, hDk, hPg⟩ := id hV
  refine r_iload_n hC hl dX7_dark_0 1 rfl ?_
  refine r_iconst hC dX7_dark_1 ?_
  refine r_bipush hC (by decide) dX7_dark_2 ?_
  refine r_cSi hC hI hl [.int (J w), .int (J 0), .int (J 11)] [] (c_X7_in l X a B S w 0 11 (by omega) (by omega) (by omega)) ml_RX7_45 es_X7_in ⟨Nat.le_of_ble_eq_true rfl, Nat.le_of_ble_eq_true rfl⟩ ⟨Nat.zero_le _, Nat.zero_le _⟩ (Nat.le_of_ble_eq_true rfl) rfl dX7_dark_4 (fun H locs hI => ?_)
  refine r_b_eq (tgt := 32) hC dX7_dark_7 (by decide) (fun c_1 => ?_) (fun c_1 => ?_)
  · skip
    refine r_aload_n hC hl dX7_dark_32 0 rfl ?_
    refine r_ldc (x := (-1000000001)) hC ct_RX7_44 (by decide) dX7_dark_33 ?_
    refine r_cVi hC hI hl [.int (J (-1000000001))] [] (c_X7_finds0 l X a B S  ) ml_RX7_57 ev_X7_finds (rc_mo (S := S) hC hI) ⟨Nat.le_of_ble_eq_true rfl, Nat.le_of_ble_eq_true rfl⟩ ⟨Nat.zero_le _, Nat.zero_le _⟩ (Nat.le_of_ble_eq_true rfl) rfl dX7_dark_35 (fun H locs hI => ?_)
    exact r_iret hC hr hlk hI (an_f 0 (by (repeat' split) <;> first | rfl | omega)) (fn_f 0 (by (repeat' split) <;> first | rfl | omega)) dX7_dark_38
  · skip
    refine r_iload_n hC hl dX7_dark_10 2 rfl ?_
    refine r_iconst hC dX7_dark_11 ?_
    refine r_bipush hC (by decide) dX7_dark_12 ?_
    refine r_cSi hC hI hl [.int (J v), .int (J 0), .int (J 20)] [] (c_X7_in l X a B S v 0 20 (by omega) (by omega) (by omega)) ml_RX7_45 es_X7_in ⟨Nat.le_of_ble_eq_true rfl, Nat.le_of_ble_eq_true rfl⟩ ⟨Nat.zero_le _, Nat.zero_le _⟩ (Nat.le_of_ble_eq_true rfl) rfl dX7_dark_14 (fun H locs hI => ?_)
    refine r_b_eq (tgt := 32) hC dX7_dark_17 (by decide) (fun c_2 => ?_) (fun c_2 => ?_)
    · skip
      refine r_aload_n hC hl dX7_dark_32 0 rfl ?_
      refine r_ldc (x := (-1000000001)) hC ct_RX7_44 (by decide) dX7_dark_33 ?_
      refine r_cVi hC hI hl [.int (J (-1000000001))] [] (c_X7_finds0 l X a B S  ) ml_RX7_57 ev_X7_finds (rc_mo (S := S) hC hI) ⟨Nat.le_of_ble_eq_true rfl, Nat.le_of_ble_eq_true rfl⟩ ⟨Nat.zero_le _, Nat.zero_le _⟩ (Nat.le_of_ble_eq_true rfl) rfl dX7_dark_35 (fun H locs hI => ?_)
      exact r_iret hC hr hlk hI (an_f 0 (by (repeat' split) <;> first | rfl | omega)) (fn_f 0 (by (repeat' split) <;> first | rfl | omega)) dX7_dark_38
    · skip
      refine r_aload_n hC hl dX7_dark_20 0 rfl ?_
      refine r_bipush hC (by decide) dX7_dark_21 ?_
      refine r_iload_n hC hl dX7_dark_23 1 rfl ?_
      refine r_iadd hC dX7_dark_24 ?_
      refine r_iload_n hC hl dX7_dark_25 2 rfl ?_
      refine r_cVi hC hI hl [.int (J (6 + w)), .int (J v)] [] (c_X7_becomes l X a B S (6 + w) v (by omega)) ml_RX7_53 ev_X7_becomes (rc_mo (S := S) hC hI) ⟨Nat.le_of_ble_eq_true rfl, Nat.le_of_ble_eq_true rfl⟩ ⟨Nat.zero_le _, Nat.zero_le _⟩ (Nat.le_of_ble_eq_true rfl) rfl dX7_dark_26 (fun H locs hI => ?_)
      refine r_goto (tgt := 38) hC dX7_dark_29 (by decide) ?_
      exact r_iret hC hr hlk hI (an_n (by (repeat' split) <;> first | rfl | omega) (by congr 1; omega)) (fn_n (by (repeat' split) <;> first | rfl | omega) (by congr 1; omega)) dX7_dark_38

set_option maxHeartbeats 4000000 in
set_option maxRecDepth 100000 in
theorem c_X7_now (l : Launch) (X : XT) (a : Nat → Nat) (B : Nat) (S : St) (w : Int) (hV : VR 9999 (S 20)) (hw : -2147483648 ≤ w ∧ w ≤ 2147483647) : CT l X a B 3 yX7_now cX7_now 2 (some .int) [.ref (a (49)), .int (J w)] S (Qi X a B (anF (if 0 ≤ w ∧ w ≤ 7 then -1 else 0) (nowF (S 20) w)) (fnF S 21 (if 0 ≤ w ∧ w ≤ 7 then -1 else 0) (S))) := by
  refine CT.of (by decide +kernel) (Nat.le_of_ble_eq_true rfl) ?_
  intro p e s m below meth c ls hC hr hlk hI hl
  have hC : Cx p c cX7_now 2 s m [.ref (a (49)), .int (J w)].toArray RX7 X B := hC
  have hl : lv_has ls 2 [(0, .ref (a (49))), (1, .int (J w))] := hl
  obtain ⟨⟨hN, hBr, hBu, hIn, hLa, hPc⟩, hDk, hPg⟩ := id hV
  refine r_iload_n hC hl dX7_now_0 1 rfl ?_
  by_cases c_1 : w = 0
  · refine r_tin (tgt := 48) hC 0 c_1 (by decide) dX7_now_1 (by decide) (by decide) rfl (by decide) ?_
    refine r_aload_n hC hl dX7_now_48 0 rfl ?_
    refine g_mo  (v := .ref (a (50))) hC hI 0 (by decide) fl_RX7_7 rfl rfl dX7_now_49 ?_
    refine r_iconst hC dX7_now_52 ?_
    refine r_iald (cx := 50) (n := 58) (f := (fun S => S 20) (S)) (v := S 20 0) hC hI (by decide) rfl (by decide) (0) (by omega) (by omega) rfl dX7_now_53 ?_
    exact r_iret hC hr hlk hI (an_n (by (repeat' split) <;> first | rfl | omega) (by unfold nowF; (repeat' split) <;> first | omega | rfl | (congr 1; omega))) (fn_n (by (repeat' split) <;> first | rfl | omega) (rfl)) dX7_now_54
  by_cases c_2 : w = 1
  · refine r_tin (tgt := 55) hC 1 c_2 (by decide) dX7_now_1 (by decide) (by decide) rfl (by decide) ?_
    refine r_aload_n hC hl dX7_now_55 0 rfl ?_
    refine r_cVi hC hI hl [] [] (c_X7_darkNow l X a B S  (by omega)) ml_RX7_70 ev_X7_darkNow (rc_mo (S := S) hC hI) ⟨Nat.le_of_ble_eq_true rfl, Nat.le_of_ble_eq_true rfl⟩ ⟨Nat.zero_le _, Nat.zero_le _⟩ (Nat.le_of_ble_eq_true rfl) rfl dX7_now_56 (fun H locs hI => ?_)
    exact r_iret hC hr hlk hI (an_n (by (repeat' split) <;> first | rfl | omega) (by unfold nowF; (repeat' split) <;> first | omega | rfl | (congr 1; omega))) (fn_n (by (repeat' split) <;> first | rfl | omega) (rfl)) dX7_now_59
  by_cases c_3 : w = 6
  · refine r_tin (tgt := 60) hC 6 c_3 (by decide) dX7_now_1 (by decide) (by decide) rfl (by decide) ?_
    refine r_aload_n hC hl dX7_now_60 0 rfl ?_
    refine r_cVi hC hI hl [] [] (c_X7_notWhite l X a B S  (VR_mono (by decide) hV)) ml_RX7_74 ev_X7_notWhite (rc_mo (S := S) hC hI) ⟨Nat.le_of_ble_eq_true rfl, Nat.le_of_ble_eq_true rfl⟩ ⟨Nat.zero_le _, Nat.zero_le _⟩ (Nat.le_of_ble_eq_true rfl) rfl dX7_now_61 (fun H locs hI => ?_)
    exact r_iret hC hr hlk hI (an_n (by (repeat' split) <;> first | rfl | omega) (by unfold nowF; (repeat' split) <;> first | omega | rfl | (congr 1; omega))) (fn_n (by (repeat' split) <;> first | rfl | omega) (rfl)) dX7_now_64
  by_cases c_4 : w = 7
  · refine r_tin (tgt := 65) hC 7 c_4 (by decide) dX7_now_1 (by decide) (by decide) rfl (by decide) ?_
    refine r_aload_n hC hl dX7_now_65 0 rfl ?_
    refine r_cVi hC hI hl [] [] (c_X7_allBelieved l X a B S  (VR_mono (by decide) hV)) ml_RX7_77 ev_X7_allBelieved (rc_mo (S := S) hC hI) ⟨Nat.le_of_ble_eq_true rfl, Nat.le_of_ble_eq_true rfl⟩ ⟨Nat.zero_le _, Nat.zero_le _⟩ (Nat.le_of_ble_eq_true rfl) rfl dX7_now_66 (fun H locs hI => ?_)
    exact r_iret hC hr hlk hI (an_n (by (repeat' split) <;> first | rfl | omega) (by unfold nowF; (repeat' split) <;> first | omega | rfl | (congr 1; omega))) (fn_n (by (repeat' split) <;> first | rfl | omega) (rfl)) dX7_now_69
  by_cases c_5 : w = 2
  · refine r_tin (tgt := 70) hC 2 c_5 (by decide) dX7_now_1 (by decide) (by decide) rfl (by decide) ?_
    refine r_iload_n hC hl dX7_now_70 1 rfl ?_
    refine r_iconst hC dX7_now_71 ?_
    refine r_iconst hC dX7_now_72 ?_
    refine r_cSi hC hI hl [.int (J w), .int (J 2), .int (J 5)] [] (c_X7_in l X a B S w 2 5 (by omega) (by omega) (by omega)) ml_RX7_45 es_X7_in ⟨Nat.le_of_ble_eq_true rfl, Nat.le_of_ble_eq_true rfl⟩ ⟨Nat.zero_le _, Nat.zero_le _⟩ (Nat.le_of_ble_eq_true rfl) rfl dX7_now_73 (fun H locs hI => ?_)
    refine r_b_eq (tgt := 92) hC dX7_now_76 (by decide) (fun c_6 => ?_) (fun c_6 => ?_)
    · skip
      refine r_aload_n hC hl dX7_now_92 0 rfl ?_
      refine r_ldc (x := (-1000000001)) hC ct_RX7_44 (by decide) dX7_now_93 ?_
      refine r_cVi hC hI hl [.int (J (-1000000001))] [] (c_X7_finds0 l X a B S  ) ml_RX7_57 ev_X7_finds (rc_mo (S := S) hC hI) ⟨Nat.le_of_ble_eq_true rfl, Nat.le_of_ble_eq_true rfl⟩ ⟨Nat.zero_le _, Nat.zero_le _⟩ (Nat.le_of_ble_eq_true rfl) rfl dX7_now_95 (fun H locs hI => ?_)
      exact r_iret hC hr hlk hI (an_f 0 (by (repeat' split) <;> first | rfl | omega)) (fn_f 0 (by (repeat' split) <;> first | rfl | omega)) dX7_now_98
    · skip
      refine r_aload_n hC hl dX7_now_79 0 rfl ?_
      refine g_mo  (v := .ref (a (50))) hC hI 0 (by decide) fl_RX7_7 rfl rfl dX7_now_80 ?_
      refine r_iconst hC dX7_now_83 ?_
      refine r_iload_n hC hl dX7_now_84 1 rfl ?_
      refine r_iadd hC dX7_now_85 ?_
      refine r_iconst hC dX7_now_86 ?_
      refine r_isub hC dX7_now_87 ?_
      refine r_iald (cx := 50) (n := 58) (f := (fun S => S 20) (S)) (v := S 20 (((1 + w) - 2).toNat)) hC hI (by decide) rfl (by decide) (((1 + w) - 2).toNat) (by omega) (by omega) rfl dX7_now_88 ?_
      refine r_goto (tgt := 98) hC dX7_now_89 (by decide) ?_
      exact r_iret hC hr hlk hI (an_n (by (repeat' split) <;> first | rfl | omega) (by unfold nowF; (repeat' split) <;> first | omega | rfl | (congr 1; omega))) (fn_n (by (repeat' split) <;> first | rfl | omega) (rfl)) dX7_now_98
  by_cases c_7 : w = 3
  · refine r_tin (tgt := 70) hC 3 c_7 (by decide) dX7_now_1 (by decide) (by decide) rfl (by decide) ?_
    refine r_iload_n hC hl dX7_now_70 1 rfl ?_
    refine r_iconst hC dX7_now_71 ?_
    refine r_iconst hC dX7_now_72 ?_
    refine r_cSi hC hI hl [.int (J w), .int (J 2), .int (J 5)] [] (c_X7_in l X a B S w 2 5 (by omega) (by omega) (by omega)) ml_RX7_45 es_X7_in ⟨Nat.le_of_ble_eq_true rfl, Nat.le_of_ble_eq_true rfl⟩ ⟨Nat.zero_le _, Nat.zero_le _⟩ (Nat.le_of_ble_eq_true rfl) rfl dX7_now_73 (fun H locs hI => ?_)
    refine r_b_eq (tgt := 92) hC dX7_now_76 (by decide) (fun c_8 => ?_) (fun c_8 => ?_)
    · skip
      refine r_aload_n hC hl dX7_now_92 0 rfl ?_
      refine r_ldc (x := (-1000000001)) hC ct_RX7_44 (by decide) dX7_now_93 ?_
      refine r_cVi hC hI hl [.int (J (-1000000001))] [] (c_X7_finds0 l X a B S  ) ml_RX7_57 ev_X7_finds (rc_mo (S := S) hC hI) ⟨Nat.le_of_ble_eq_true rfl, Nat.le_of_ble_eq_true rfl⟩ ⟨Nat.zero_le _, Nat.zero_le _⟩ (Nat.le_of_ble_eq_true rfl) rfl dX7_now_95 (fun H locs hI => ?_)
      exact r_iret hC hr hlk hI (an_f 0 (by (repeat' split) <;> first | rfl | omega)) (fn_f 0 (by (repeat' split) <;> first | rfl | omega)) dX7_now_98
    · skip
      refine r_aload_n hC hl dX7_now_79 0 rfl ?_
      refine g_mo  (v := .ref (a (50))) hC hI 0 (by decide) fl_RX7_7 rfl rfl dX7_now_80 ?_
      refine r_iconst hC dX7_now_83 ?_
      refine r_iload_n hC hl dX7_now_84 1 rfl ?_
      refine r_iadd hC dX7_now_85 ?_
      refine r_iconst hC dX7_now_86 ?_
      refine r_isub hC dX7_now_87 ?_
      refine r_iald (cx := 50) (n := 58) (f := (fun S => S 20) (S)) (v := S 20 (((1 + w) - 2).toNat)) hC hI (by decide) rfl (by decide) (((1 + w) - 2).toNat) (by omega) (by omega) rfl dX7_now_88 ?_
      refine r_goto (tgt := 98) hC dX7_now_89 (by decide) ?_
      exact r_iret hC hr hlk hI (an_n (by (repeat' split) <;> first | rfl | omega) (by unfold nowF; (repeat' split) <;> first | omega | rfl | (congr 1; omega))) (fn_n (by (repeat' split) <;> first | rfl | omega) (rfl)) dX7_now_98
  by_cases c_9 : w = 4
  · refine r_tin (tgt := 70) hC 4 c_9 (by decide) dX7_now_1 (by decide) (by decide) rfl (by decide) ?_
    refine r_iload_n hC hl dX7_now_70 1 rfl ?_
    refine r_iconst hC dX7_now_71 ?_
    refine r_iconst hC dX7_now_72 ?_
    refine r_cSi hC hI hl [.int (J w), .int (J 2), .int (J 5)] [] (c_X7_in l X a B S w 2 5 (by omega) (by omega) (by omega)) ml_RX7_45 es_X7_in ⟨Nat.le_of_ble_eq_true rfl, Nat.le_of_ble_eq_true rfl⟩ ⟨Nat.zero_le _, Nat.zero_le _⟩ (Nat.le_of_ble_eq_true rfl) rfl dX7_now_73 (fun H locs hI => ?_)
    refine r_b_eq (tgt := 92) hC dX7_now_76 (by decide) (fun c_10 => ?_) (fun c_10 => ?_)
    · skip
      refine r_aload_n hC hl dX7_now_92 0 rfl ?_
      refine r_ldc (x := (-1000000001)) hC ct_RX7_44 (by decide) dX7_now_93 ?_
      refine r_cVi hC hI hl [.int (J (-1000000001))] [] (c_X7_finds0 l X a B S  ) ml_RX7_57 ev_X7_finds (rc_mo (S := S) hC hI) ⟨Nat.le_of_ble_eq_true rfl, Nat.le_of_ble_eq_true rfl⟩ ⟨Nat.zero_le _, Nat.zero_le _⟩ (Nat.le_of_ble_eq_true rfl) rfl dX7_now_95 (fun H locs hI => ?_)
      exact r_iret hC hr hlk hI (an_f 0 (by (repeat' split) <;> first | rfl | omega)) (fn_f 0 (by (repeat' split) <;> first | rfl | omega)) dX7_now_98
    · skip
      refine r_aload_n hC hl dX7_now_79 0 rfl ?_
      refine g_mo  (v := .ref (a (50))) hC hI 0 (by decide) fl_RX7_7 rfl rfl dX7_now_80 ?_
      refine r_iconst hC dX7_now_83 ?_
      refine r_iload_n hC hl dX7_now_84 1 rfl ?_
      refine r_iadd hC dX7_now_85 ?_
      refine r_iconst hC dX7_now_86 ?_
      refine r_isub hC dX7_now_87 ?_
      refine r_iald (cx := 50) (n := 58) (f := (fun S => S 20) (S)) (v := S 20 (((1 + w) - 2).toNat)) hC hI (by decide) rfl (by decide) (((1 + w) - 2).toNat) (by omega) (by omega) rfl dX7_now_88 ?_
      refine r_goto (tgt := 98) hC dX7_now_89 (by decide) ?_
      exact r_iret hC hr hlk hI (an_n (by (repeat' split) <;> first | rfl | omega) (by unfold nowF; (repeat' split) <;> first | omega | rfl | (congr 1; omega))) (fn_n (by (repeat' split) <;> first | rfl | omega) (rfl)) dX7_now_98
  by_cases c_11 : w = 5
  · refine r_tin (tgt := 70) hC 5 c_11 (by decide) dX7_now_1 (by decide) (by decide) rfl (by decide) ?_
    refine r_iload_n hC hl dX7_now_70 1 rfl ?_
    refine r_iconst hC dX7_now_71 ?_
    refine r_iconst hC dX7_now_72 ?_
    refine r_cSi hC hI hl [.int (J w), .int (J 2), .int (J 5)] [] (c_X7_in l X a B S w 2 5 (by omega) (by omega) (by omega)) ml_RX7_45 es_X7_in ⟨Nat.le_of_ble_eq_true rfl, Nat.le_of_ble_eq_true rfl⟩ ⟨Nat.zero_le _, Nat.zero_le _⟩ (Nat.le_of_ble_eq_true rfl) rfl dX7_now_73 (fun H locs hI => ?_)
    refine r_b_eq (tgt := 92) hC dX7_now_76 (by decide) (fun c_12 => ?_) (fun c_12 => ?_)
    · skip
      refine r_aload_n hC hl dX7_now_92 0 rfl ?_
      refine r_ldc (x := (-1000000001)) hC ct_RX7_44 (by decide) dX7_now_93 ?_
      refine r_cVi hC hI hl [.int (J (-1000000001))] [] (c_X7_finds0 l X a B S  ) ml_RX7_57 ev_X7_finds (rc_mo (S := S) hC hI) ⟨Nat.le_of_ble_eq_true rfl, Nat.le_of_ble_eq_true rfl⟩ ⟨Nat.zero_le _, Nat.zero_le _⟩ (Nat.le_of_ble_eq_true rfl) rfl dX7_now_95 (fun H locs hI => ?_)
      exact r_iret hC hr hlk hI (an_f 0 (by (repeat' split) <;> first | rfl | omega)) (fn_f 0 (by (repeat' split) <;> first | rfl | omega)) dX7_now_98
    · skip
      refine r_aload_n hC hl dX7_now_79 0 rfl ?_
      refine g_mo  (v := .ref (a (50))) hC hI 0 (by decide) fl_RX7_7 rfl rfl dX7_now_80 ?_
      refine r_iconst hC dX7_now_83 ?_
      refine r_iload_n hC hl dX7_now_84 1 rfl ?_
      refine r_iadd hC dX7_now_85 ?_
      refine r_iconst hC dX7_now_86 ?_
      refine r_isub hC dX7_now_87 ?_
      refine r_iald (cx := 50) (n := 58) (f := (fun S => S 20) (S)) (v := S 20 (((1 + w) - 2).toNat)) hC hI (by decide) rfl (by decide) (((1 + w) - 2).toNat) (by omega) (by omega) rfl dX7_now_88 ?_
      refine r_goto (tgt := 98) hC dX7_now_89 (by decide) ?_
      exact r_iret hC hr hlk hI (an_n (by (repeat' split) <;> first | rfl | omega) (by unfold nowF; (repeat' split) <;> first | omega | rfl | (congr 1; omega))) (fn_n (by (repeat' split) <;> first | rfl | omega) (rfl)) dX7_now_98
  refine r_tout (tgt := 70) hC (by omega) dX7_now_1 (by omega) (by decide) ?_
  refine r_iload_n hC hl dX7_now_70 1 rfl ?_
  refine r_iconst hC dX7_now_71 ?_
  refine r_iconst hC dX7_now_72 ?_
  refine r_cSi hC hI hl [.int (J w), .int (J 2), .int (J 5)] [] (c_X7_in l X a B S w 2 5 (by omega) (by omega) (by omega)) ml_RX7_45 es_X7_in ⟨Nat.le_of_ble_eq_true rfl, Nat.le_of_ble_eq_true rfl⟩ ⟨Nat.zero_le _, Nat.zero_le _⟩ (Nat.le_of_ble_eq_true rfl) rfl dX7_now_73 (fun H locs hI => ?_)
  refine r_b_eq (tgt := 92) hC dX7_now_76 (by decide) (fun c_13 => ?_) (fun c_13 => ?_)
  · skip
    refine r_aload_n hC hl dX7_now_92 0 rfl ?_
    refine r_ldc (x := (-1000000001)) hC ct_RX7_44 (by decide) dX7_now_93 ?_
    refine r_cVi hC hI hl [.int (J (-1000000001))] [] (c_X7_finds0 l X a B S  ) ml_RX7_57 ev_X7_finds (rc_mo (S := S) hC hI) ⟨Nat.le_of_ble_eq_true rfl, Nat.le_of_ble_eq_true rfl⟩ ⟨Nat.zero_le _, Nat.zero_le _⟩ (Nat.le_of_ble_eq_true rfl) rfl dX7_now_95 (fun H locs hI => ?_)
    exact r_iret hC hr hlk hI (an_f 0 (by (repeat' split) <;> first | rfl | omega)) (fn_f 0 (by (repeat' split) <;> first | rfl | omega)) dX7_now_98
  · skip
    refine r_aload_n hC hl dX7_now_79 0 rfl ?_
    refine g_mo  (v := .ref (a (50))) hC hI 0 (by decide) fl_RX7_7 rfl rfl dX7_now_80 ?_
    refine r_iconst hC dX7_now_83 ?_
    refine r_iload_n hC hl dX7_now_84 1 rfl ?_
    refine r_iadd hC dX7_now_85 ?_
    refine r_iconst hC dX7_now_86 ?_
    refine r_isub hC dX7_now_87 ?_
    refine r_iald (cx := 50) (n := 58) (f := (fun S => S 20) (S)) (v := S 20 (((1 + w) - 2).toNat)) hC hI (by decide) rfl (by decide) (((1 + w) - 2).toNat) (by omega) (by omega) rfl dX7_now_88 ?_
    refine r_goto (tgt := 98) hC dX7_now_89 (by decide) ?_
    exact r_iret hC hr hlk hI (an_n (by (repeat' split) <;> first | rfl | omega) (by unfold nowF; (repeat' split) <;> first | omega | rfl | (congr 1; omega))) (fn_n (by (repeat' split) <;> first | rfl | omega) (rfl)) dX7_now_98

set_option maxHeartbeats 4000000 in
set_option maxRecDepth 100000 in
theorem c_X7_scribe (l : Launch) (X : XT) (a : Nat → Nat) (B : Nat) (S : St) (w : Int) (v : Int) (hV : VR 9999 (S 20)) (hw : -2147483648 ≤ w ∧ w ≤ 2147483647) (hv : -2147483648 ≤ v ∧ v ≤ 2147483647) : CT l X a B 3 yX7_scribe cX7_scribe 3 (some .int) [.ref (a (49)), .int (J w), .int (J v)] S (Qi X a B (anF (if ¬ ((0 ≤ w ∧ w ≤ 5) ∧ 1 ≤ v ∧ v ≤ 99) then 0 else if 8 ≤ S 20 5 then 1 else if S 20 3 < csF w v then 4 else -1) (S 20 5)) (fnF S 21 (if ¬ ((0 ≤ w ∧ w ≤ 5) ∧ 1 ≤ v ∧ v ≤ 99) then 0 else if 8 ≤ S 20 5 then 1 else if S 20 3 < csF w v then 4 else -1) (setB S 20 (apF (S 20) w v 0)))) := by
  refine CT.of (by decide +kernel) (Nat.le_of_ble_eq_true rfl) ?_
  intro p e s m below meth c ls hC hr hlk hI hl
  have hC : Cx p c cX7_scribe 3 s m [.ref (a (49)), .int (J w), .int (J v)].toArray RX7 X B := hC
  have hl : lv_has ls 3 [(0, .ref (a (49))), (1, .int (J w)), (2, .int (J v))] := hl
  obtain ⟨⟨hN, hBr, hBu, hIn, hLa, hPc⟩, hDk, hPg⟩ := id hV
  have hcs := cs_rg (k := w) (w := v)
  refine r_iload_n hC hl dX7_scribe_0 1 rfl ?_
  refine r_cSi hC hI hl [.int (J w)] [] (c_X7_isKind l X a B S w (by omega)) ml_RX7_90 es_X7_isKind ⟨Nat.le_of_ble_eq_true rfl, Nat.le_of_ble_eq_true rfl⟩ ⟨Nat.zero_le _, Nat.zero_le _⟩ (Nat.le_of_ble_eq_true rfl) rfl dX7_scribe_1 (fun H locs hI => ?_)
  refine r_b_eq (tgt := 17) hC dX7_scribe_4 (by decide) (fun c_1 => ?_) (fun c_1 => ?_)
  · skip
    refine r_aload_n hC hl dX7_scribe_17 0 rfl ?_
    refine r_ldc (x := (-1000000001)) hC ct_RX7_44 (by decide) dX7_scribe_18 ?_
    refine r_cVi hC hI hl [.int (J (-1000000001))] [] (c_X7_finds0 l X a B S  ) ml_RX7_57 ev_X7_finds (rc_mo (S := S) hC hI) ⟨Nat.le_of_ble_eq_true rfl, Nat.le_of_ble_eq_true rfl⟩ ⟨Nat.zero_le _, Nat.zero_le _⟩ (Nat.le_of_ble_eq_true rfl) rfl dX7_scribe_20 (fun H locs hI => ?_)
    exact r_iret hC hr hlk hI (an_f 0 (by (repeat' split) <;> first | rfl | omega)) (fn_f 0 (by (repeat' split) <;> first | rfl | omega)) dX7_scribe_23
  · skip
    refine r_iload_n hC hl dX7_scribe_7 2 rfl ?_
    refine r_iconst hC dX7_scribe_8 ?_
    refine r_bipush hC (by decide) dX7_scribe_9 ?_
    refine r_cSi hC hI hl [.int (J v), .int (J 1), .int (J 99)] [] (c_X7_in l X a B S v 1 99 (by omega) (by omega) (by omega)) ml_RX7_45 es_X7_in ⟨Nat.le_of_ble_eq_true rfl, Nat.le_of_ble_eq_true rfl⟩ ⟨Nat.zero_le _, Nat.zero_le _⟩ (Nat.le_of_ble_eq_true rfl) rfl dX7_scribe_11 (fun H locs hI => ?_)
    refine r_b_ne (tgt := 24) hC dX7_scribe_14 (by decide) (fun c_2 => ?_) (fun c_2 => ?_)
    · skip
      refine r_aload_n hC hl dX7_scribe_24 0 rfl ?_
      refine g_mo  (v := .ref (a (50))) hC hI 0 (by decide) fl_RX7_7 rfl rfl dX7_scribe_25 ?_
      refine r_iconst hC dX7_scribe_28 ?_
      refine r_iald (cx := 50) (n := 58) (f := (fun S => S 20) (S)) (v := S 20 5) hC hI (by decide) rfl (by decide) (5) (by omega) (by omega) rfl dX7_scribe_29 ?_
      refine r_bipush hC (by decide) dX7_scribe_30 ?_
      refine r_icmp_ne (tgt := 42) hC (by omega) (by omega) dX7_scribe_32 (by decide) (fun c_3 => ?_) (fun c_3 => ?_)
      · skip
        refine r_iload_n hC hl dX7_scribe_42 1 rfl ?_
        refine r_iload_n hC hl dX7_scribe_43 2 rfl ?_
        refine r_cSi hC hI hl [.int (J w), .int (J v)] [] (c_X7_costs l X a B S w v (by omega) (by omega)) ml_RX7_80 es_X7_costs ⟨Nat.le_of_ble_eq_true rfl, Nat.le_of_ble_eq_true rfl⟩ ⟨Nat.zero_le _, Nat.zero_le _⟩ (Nat.le_of_ble_eq_true rfl) rfl dX7_scribe_44 (fun H locs hI => ?_)
        have hcs2 := hcs (by omega)
        refine r_aload_n hC hl dX7_scribe_47 0 rfl ?_
        refine g_mo  (v := .ref (a (50))) hC hI 0 (by decide) fl_RX7_7 rfl rfl dX7_scribe_48 ?_
        refine r_iconst hC dX7_scribe_51 ?_
        refine r_iald (cx := 50) (n := 58) (f := (fun S => S 20) (S)) (v := S 20 3) hC hI (by decide) rfl (by decide) (3) (by omega) (by omega) rfl dX7_scribe_52 ?_
        refine r_icmp_le (tgt := 63) hC (by omega) (by omega) dX7_scribe_53 (by decide) (fun c_4 => ?_) (fun c_4 => ?_)
        · skip
          refine r_aload_n hC hl dX7_scribe_63 0 rfl ?_
          refine r_iload_n hC hl dX7_scribe_64 1 rfl ?_
          refine r_iload_n hC hl dX7_scribe_65 2 rfl ?_
          refine r_iconst hC dX7_scribe_66 ?_
          refine r_cVv hC hI hl [.int (J w), .int (J v), .int (J 0)] [] (c_X7_adds l X a B S w v 0 hV (by omega) (by omega) (by omega)) ml_RX7_96 ev_X7_adds (rc_mo (S := S) hC hI) ⟨Nat.le_of_ble_eq_true rfl, Nat.le_of_ble_eq_true rfl⟩ ⟨Nat.zero_le _, Nat.zero_le _⟩ (Nat.le_of_ble_eq_true rfl) rfl dX7_scribe_67 (fun H locs hI => ?_)
          refine r_aload_n hC hl dX7_scribe_70 0 rfl ?_
          refine g_mo  (v := .ref (a (50))) hC hI 0 (by decide) fl_RX7_7 rfl rfl dX7_scribe_71 ?_
          refine r_iconst hC dX7_scribe_74 ?_
          refine r_iald (cx := 50) (n := 58) (f := (fun S => S 20) (setB S 20 (apF (S 20) w v 0))) (v := (setB S 20 (apF (S 20) w v 0)) 20 5) hC hI (by decide) rfl (by decide) (5) (by omega) (by omega) rfl dX7_scribe_75 ?_
          refine r_as (y := S 20 5 + 1) hC (by rw [setB_at]; exact upR_at _ _ _) ?_
          refine r_iconst hC dX7_scribe_76 ?_
          refine r_isub hC dX7_scribe_77 ?_
          exact r_iret hC hr hlk hI (an_n (by (repeat' split) <;> first | rfl | omega) (by omega)) (fn_n (by (repeat' split) <;> first | rfl | omega) (rfl)) dX7_scribe_78
        · skip
          refine r_aload_n hC hl dX7_scribe_56 0 rfl ?_
          refine r_ldc (x := (-1000000005)) hC ct_RX7_95 (by decide) dX7_scribe_57 ?_
          refine r_cVi hC hI hl [.int (J (-1000000005))] [] (c_X7_finds4 l X a B S  ) ml_RX7_57 ev_X7_finds (rc_mo (S := S) hC hI) ⟨Nat.le_of_ble_eq_true rfl, Nat.le_of_ble_eq_true rfl⟩ ⟨Nat.zero_le _, Nat.zero_le _⟩ (Nat.le_of_ble_eq_true rfl) rfl dX7_scribe_59 (fun H locs hI => ?_)
          exact r_iret hC hr hlk hI (an_f 4 (by (repeat' split) <;> first | rfl | omega)) (fn_f 4 (by (repeat' split) <;> first | rfl | omega)) dX7_scribe_62
      · skip
        refine r_aload_n hC hl dX7_scribe_35 0 rfl ?_
        refine r_ldc (x := (-1000000002)) hC ct_RX7_94 (by decide) dX7_scribe_36 ?_
        refine r_cVi hC hI hl [.int (J (-1000000002))] [] (c_X7_finds1 l X a B S  ) ml_RX7_57 ev_X7_finds (rc_mo (S := S) hC hI) ⟨Nat.le_of_ble_eq_true rfl, Nat.le_of_ble_eq_true rfl⟩ ⟨Nat.zero_le _, Nat.zero_le _⟩ (Nat.le_of_ble_eq_true rfl) rfl dX7_scribe_38 (fun H locs hI => ?_)
        exact r_iret hC hr hlk hI (an_f 1 (by (repeat' split) <;> first | rfl | omega)) (fn_f 1 (by (repeat' split) <;> first | rfl | omega)) dX7_scribe_41
    · skip
      refine r_aload_n hC hl dX7_scribe_17 0 rfl ?_
      refine r_ldc (x := (-1000000001)) hC ct_RX7_44 (by decide) dX7_scribe_18 ?_
      refine r_cVi hC hI hl [.int (J (-1000000001))] [] (c_X7_finds0 l X a B S  ) ml_RX7_57 ev_X7_finds (rc_mo (S := S) hC hI) ⟨Nat.le_of_ble_eq_true rfl, Nat.le_of_ble_eq_true rfl⟩ ⟨Nat.zero_le _, Nat.zero_le _⟩ (Nat.le_of_ble_eq_true rfl) rfl dX7_scribe_20 (fun H locs hI => ?_)
      exact r_iret hC hr hlk hI (an_f 0 (by (repeat' split) <;> first | rfl | omega)) (fn_f 0 (by (repeat' split) <;> first | rfl | omega)) dX7_scribe_23
