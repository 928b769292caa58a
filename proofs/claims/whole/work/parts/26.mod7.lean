set_option maxHeartbeats 4000000 in
set_option maxRecDepth 100000 in
theorem c_X7_kind (l : Launch) (X : XT) (a : Nat → Nat) (B : Nat) (S : St) (w : Int) (v : Int) (hV : VR 9999 (S 20)) (hw : -2147483648 ≤ w ∧ w ≤ 2147483647) (hv : -2147483648 ≤ v ∧ v ≤ 2147483647) : CT l X a B 5 yX7_kind cX7_kind 7 (some .int) [.ref (a (49)), .int (J w), .int (J v)] S (Qi X a B (anF (if (0 ≤ w ∧ w < S 20 5) ∧ 0 ≤ v ∧ v ≤ 60 then -1 else 0) ((beF (fun j => blA (S 20) w.toNat (j : Int) (S 20 (21 + 5 * w.toNat)) v (S 20 4)) 6).1)) (fnF S 21 (if (0 ≤ w ∧ w < S 20 5) ∧ 0 ≤ v ∧ v ≤ 60 then -1 else 0) (setB S 22 (S 20)))) := by
  refine CT.of (by decide +kernel) (Nat.le_of_ble_eq_true rfl) ?_
  intro p e s m below meth c ls hC hr hlk hI hl
  have hC : Cx p c cX7_kind 7 s m [.ref (a (49)), .int (J w), .int (J v)].toArray RX7 X B := hC
  have hl : lv_has ls 7 [(0, .ref (a (49))), (1, .int (J w)), (2, .int (J v))] := hl
  obtain ⟨⟨hN, hBr, hBu, hIn, hLa, hPc⟩, hDk, hPg⟩ := id hV
  refine r_aload_n hC hl dX7_kind_0 0 rfl ?_
  refine r_iload_n hC hl dX7_kind_1 1 rfl ?_
  refine r_cVi hC hI hl [.int (J w)] [] (c_X7_isOne l X a B S w (by omega) (by omega)) ml_RX7_99 ev_X7_isOne (rc_mo (S := S) hC hI) ⟨Nat.le_of_ble_eq_true rfl, Nat.le_of_ble_eq_true rfl⟩ ⟨Nat.zero_le _, Nat.zero_le _⟩ (Nat.le_of_ble_eq_true rfl) rfl dX7_kind_2 (fun H locs hI => ?_)
  refine r_b_eq (tgt := 18) hC dX7_kind_5 (by decide) (fun c_1 => ?_) (fun c_1 => ?_)
  · skip
    refine r_aload_n hC hl dX7_kind_18 0 rfl ?_
    refine r_ldc (x := (-1000000001)) hC ct_RX7_44 (by decide) dX7_kind_19 ?_
    refine r_cVi hC hI hl [.int (J (-1000000001))] [] (c_X7_finds0 l X a B S  ) ml_RX7_57 ev_X7_finds (rc_mo (S := S) hC hI) ⟨Nat.le_of_ble_eq_true rfl, Nat.le_of_ble_eq_true rfl⟩ ⟨Nat.zero_le _, Nat.zero_le _⟩ (Nat.le_of_ble_eq_true rfl) rfl dX7_kind_21 (fun H locs hI => ?_)
    exact r_iret hC hr hlk hI (an_f 0 (by (repeat' split) <;> first | rfl | omega)) (fn_f 0 (by (repeat' split) <;> first | rfl | omega)) dX7_kind_24
  · skip
    refine r_iload_n hC hl dX7_kind_8 2 rfl ?_
    refine r_iconst hC dX7_kind_9 ?_
    refine r_bipush hC (by decide) dX7_kind_10 ?_
    refine r_cSi hC hI hl [.int (J v), .int (J 0), .int (J 60)] [] (c_X7_in l X a B S v 0 60 (by omega) (by omega) (by omega)) ml_RX7_45 es_X7_in ⟨Nat.le_of_ble_eq_true rfl, Nat.le_of_ble_eq_true rfl⟩ ⟨Nat.zero_le _, Nat.zero_le _⟩ (Nat.le_of_ble_eq_true rfl) rfl dX7_kind_12 (fun H locs hI => ?_)
    refine r_b_ne (tgt := 25) hC dX7_kind_15 (by decide) (fun c_2 => ?_) (fun c_2 => ?_)
    · skip
      refine r_iconst hC dX7_kind_25 ?_
      refine r_istore_n (lv1 := [(3, .int (J 0)), (0, .ref (a (49))), (1, .int (J w)), (2, .int (J v))]) hC hl dX7_kind_26 3 rfl (by decide) rfl (fun ls hl => ?_)
      refine r_iconst hC dX7_kind_27 ?_
      refine r_istore (lv1 := [(4, .int (J (-1))), (3, .int (J 0)), (0, .ref (a (49))), (1, .int (J w)), (2, .int (J v))]) hC hl dX7_kind_28 (by decide) rfl (fun ls hl => ?_)
      refine r_aload_n hC hl dX7_kind_30 2 rfl ?_
      refine r_iconst hC dX7_kind_31 ?_
      refine r_aload_n hC hl dX7_kind_32 2 rfl ?_
      refine g_mo  (v := .ref (a (52))) hC hI 2 (by decide) fl_RX7_16 rfl rfl dX7_kind_33 ?_
      refine r_cVv hC hI hl [.int (J 1), .ref (a (52))] [] (c_X7_moveAll1 l X a B S 52 22 (by omega) (fun _ => rfl) (fun _ => rfl) (by omega) rfl) ml_RX7_117 ev_X7_moveAll (rc_mo (S := S) hC hI) ⟨Nat.le_of_ble_eq_true rfl, Nat.le_of_ble_eq_true rfl⟩ ⟨Nat.zero_le _, Nat.zero_le _⟩ (Nat.le_of_ble_eq_true rfl) rfl dX7_kind_36 (fun H locs hI => ?_)
      obtain ⟨T, eT⟩ : ∃ z : St, z = setB S 22 (S 20) := ⟨_, rfl⟩
      rw [← eT] at hI
      have t20 : T 20 = S 20 := by rw [eT, setB_ne _ _ (by decide)]
      have t22 : T 22 = S 20 := by rw [eT, setB_at]
      have hVT : VR 9999 (T 20) := by rw [t20]; exact hV
      have t5 : T 20 5 = S 20 5 := by rw [t20]
      have t4 : T 20 4 = S 20 4 := by rw [t20]
      have hvp := hPg w.toNat (by omega)
      obtain ⟨h18, h19, h20, h21, h22⟩ := id hvp
      refine r_iconst hC dX7_kind_39 ?_
      refine r_istore (lv1 := [(5, .int (J 0)), (4, .int (J (-1))), (3, .int (J 0)), (0, .ref (a (49))), (1, .int (J w)), (2, .int (J v))]) hC hl dX7_kind_40 (by decide) rfl (fun ls hl => ?_)
      have hL42 : ∀ (fu : Nat) (q : Nat) (U : St) (x5 x4 x3 : Int), 6 - q < fu → (x5 = (q : Int)) → (x4 = (beF (fun j => blA (S 20) w.toNat (j : Int) (S 20 (21 + 5 * w.toNat)) v (S 20 4)) q).2) → (x3 = if q = 0 then 0 else (beF (fun j => blA (S 20) w.toNat (j : Int) (S 20 (21 + 5 * w.toNat)) v (S 20 4)) q).1) → (q ≤ 6) → (U = T) → ∀ (H : Heap) (locs : List Loc) (ls : Array Slot), IS X a B s (U) H locs → lv_has ls 7 [(5, .int (J x5)), (4, .int (J x4)), (3, .int (J x3)), (0, .ref (a (49))), (1, .int (J w)), (2, .int (J v))] → W p l e (rmD 5) s m [.ref (a (49)), .int (J w), .int (J v)].toArray below meth c H locs 0 0 (MQ below (Qi X a B (anF (if (0 ≤ w ∧ w < S 20 5) ∧ 0 ≤ v ∧ v ≤ 60 then -1 else 0) ((beF (fun j => blA (S 20) w.toNat (j : Int) (S 20 (21 + 5 * w.toNat)) v (S 20 4)) 6).1)) (fnF S 21 (if (0 ≤ w ∧ w < S 20 5) ∧ 0 ≤ v ∧ v ≤ 60 then -1 else 0) (setB S 22 (S 20)))) [.ref (a (49)), .int (J w), .int (J v)].toArray s 0 0 (fun q => B ≤ q)) (F0 m 42 ls []) := by
        intro fu
        induction fu with
        | zero => intro q U x5 x4 x3 hm; exact absurd hm (Nat.not_lt_zero _)
        | succ fu ih42 =>
          intro q U x5 x4 x3 hm e5 e4 e3 hq hU H locs ls hI hl
          subst e5; subst e4; subst e3
          have hb := be_rg2 (f := (fun j => blA (S 20) w.toNat (j : Int) (S 20 (21 + 5 * w.toNat)) v (S 20 4))) (A := 300) (by decide) q (fun i hi => (blA_rg hvp (by omega) h21 (by omega) hLa).2)
          have hq0 : q = 0 → (beF (fun j => blA (S 20) w.toNat (j : Int) (S 20 (21 + 5 * w.toNat)) v (S 20 4)) q).2 = -1 := fun z => by rw [z]; rfl
          refine r_iload hC hl dX7_kind_42 0 rfl ?_
          refine r_iconst hC dX7_kind_44 ?_
          refine r_icmp_gt (tgt := 101) hC (by omega) (by omega) dX7_kind_45 (by decide) (fun c_3 => ?_) (fun c_3 => ?_)
          · skip
            refine r_iload_n hC hl dX7_kind_101 2 rfl ?_
            exact r_iret hC hr hlk hI (an_n (by (repeat' split) <;> first | rfl | omega) (by rw [if_neg (by omega), show q = 6 by omega])) (fn_n (by (repeat' split) <;> first | rfl | omega) (by rw [hU]; exact eT)) dX7_kind_102
          · skip
            refine r_aload_n hC hl dX7_kind_48 3 rfl ?_
            refine r_iload_n hC hl dX7_kind_49 4 rfl ?_
            refine r_iconst hC dX7_kind_50 ?_
            refine r_iload hC hl dX7_kind_51 0 rfl ?_
            refine r_cVv hC hI hl [.int (J w), .int (J 0), .int (J (q : Int))] [] (c_X7_puts0_i l X a B U w (q : Int) (by omega)) ml_RX7_83 ev_X7_puts (rc_mo (S := U) hC hI) ⟨Nat.le_of_ble_eq_true rfl, Nat.le_of_ble_eq_true rfl⟩ ⟨Nat.zero_le _, Nat.zero_le _⟩ (Nat.le_of_ble_eq_true rfl) rfl dX7_kind_53 (fun H locs hI => ?_)
            obtain ⟨Q1, eQ1⟩ : ∃ z : St, z = up U 20 (18 + 5 * w.toNat) (q : Int) := ⟨_, rfl⟩
            rw [← eQ1] at hI
            have w20 : Q1 20 = upR (S 20) (18 + 5 * w.toNat) (q : Int) := by rw [eQ1, hU, up_b, t20]
            have hVW : VR 9999 (Q1 20) := by rw [w20]; exact VR_k (by omega) (by omega) hV
            have w5 : Q1 20 5 = S 20 5 := by rw [w20, upR_ne _ _ (by omega)]
            have hbl := blA_rg hvp (k := (q : Int)) (u := S 20 (21 + 5 * w.toNat)) (n := v) (w := S 20 4) (by omega) h21 (by omega) hLa
            refine r_aload_n hC hl dX7_kind_56 3 rfl ?_
            refine r_iload_n hC hl dX7_kind_57 5 rfl ?_
            refine r_iconst hC dX7_kind_58 ?_
            refine r_iload_n hC hl dX7_kind_59 4 rfl ?_
            refine r_cVi hC hI hl [.int (J v), .int (J 3), .int (J w)] [] (c_X7_behindW_i_i l X a B Q1 v 9999 3 w hVW (by omega) (by omega) (by omega) (by omega) (by omega)) ml_RX7_121 ev_X7_behind (rc_mo (S := Q1) hC hI) ⟨Nat.le_of_ble_eq_true rfl, Nat.le_of_ble_eq_true rfl⟩ ⟨Nat.zero_le _, Nat.zero_le _⟩ (Nat.le_of_ble_eq_true rfl) rfl dX7_kind_60 (fun H locs hI => ?_)
            refine r_as (y := blA (S 20) w.toNat (q : Int) (S 20 (21 + 5 * w.toNat)) v (S 20 4)) hC (by rw [if_neg (by decide), w20]; exact bl_k) ?_
            refine r_istore (lv1 := [(6, .int (J (blA (S 20) w.toNat (q : Int) (S 20 (21 + 5 * w.toNat)) v (S 20 4)))), (5, .int (J (q : Int))), (4, .int (J ((beF (fun j => blA (S 20) w.toNat (j : Int) (S 20 (21 + 5 * w.toNat)) v (S 20 4)) q).2))), (3, .int (J (if q = 0 then 0 else (beF (fun j => blA (S 20) w.toNat (j : Int) (S 20 (21 + 5 * w.toNat)) v (S 20 4)) q).1))), (0, .ref (a (49))), (1, .int (J w)), (2, .int (J v))]) hC hl dX7_kind_63 (by decide) rfl (fun ls hl => ?_)
            refine r_iload hC hl dX7_kind_65 0 rfl ?_
            refine r_iload hC hl dX7_kind_67 2 rfl ?_
            refine r_icmp_le (tgt := 77) hC (by omega) (by omega) dX7_kind_69 (by decide) (fun c_4 => ?_) (fun c_4 => ?_)
            · skip
              refine r_iload_n hC hl dX7_kind_77 3 rfl ?_
              refine r_istore_n (lv1 := [(3, .int (J (if q = 0 then 0 else (beF (fun j => blA (S 20) w.toNat (j : Int) (S 20 (21 + 5 * w.toNat)) v (S 20 4)) q).1))), (6, .int (J (blA (S 20) w.toNat (q : Int) (S 20 (21 + 5 * w.toNat)) v (S 20 4)))), (5, .int (J (q : Int))), (4, .int (J ((beF (fun j => blA (S 20) w.toNat (j : Int) (S 20 (21 + 5 * w.toNat)) v (S 20 4)) q).2))), (0, .ref (a (49))), (1, .int (J w)), (2, .int (J v))]) hC hl dX7_kind_78 3 rfl (by decide) rfl (fun ls hl => ?_)
              refine r_iload hC hl dX7_kind_79 1 rfl ?_
              refine r_iload hC hl dX7_kind_81 3 rfl ?_
              refine r_icmp_le (tgt := 91) hC (by omega) (by omega) dX7_kind_83 (by decide) (fun c_5 => ?_) (fun c_5 => ?_)
              · skip
                refine r_iload hC hl dX7_kind_91 3 rfl ?_
                refine r_istore (lv1 := [(4, .int (J ((beF (fun j => blA (S 20) w.toNat (j : Int) (S 20 (21 + 5 * w.toNat)) v (S 20 4)) q).2))), (3, .int (J (if q = 0 then 0 else (beF (fun j => blA (S 20) w.toNat (j : Int) (S 20 (21 + 5 * w.toNat)) v (S 20 4)) q).1))), (6, .int (J (blA (S 20) w.toNat (q : Int) (S 20 (21 + 5 * w.toNat)) v (S 20 4)))), (5, .int (J (q : Int))), (0, .ref (a (49))), (1, .int (J w)), (2, .int (J v))]) hC hl dX7_kind_93 (by decide) rfl (fun ls hl => ?_)
                refine r_iinc (lv1 := [(5, .int (J ((q : Int) + 1))), (4, .int (J ((beF (fun j => blA (S 20) w.toNat (j : Int) (S 20 (21 + 5 * w.toNat)) v (S 20 4)) q).2))), (3, .int (J (if q = 0 then 0 else (beF (fun j => blA (S 20) w.toNat (j : Int) (S 20 (21 + 5 * w.toNat)) v (S 20 4)) q).1))), (6, .int (J (blA (S 20) w.toNat (q : Int) (S 20 (21 + 5 * w.toNat)) v (S 20 4)))), (0, .ref (a (49))), (1, .int (J w)), (2, .int (J v))]) hC hl dX7_kind_95 3 rfl (by decide) rfl (fun ls hl => ?_)
                refine r_goto (tgt := 42) hC dX7_kind_98 (by decide) ?_
                have hbq := be_step (f := (fun j => blA (S 20) w.toNat (j : Int) (S 20 (21 + 5 * w.toNat)) v (S 20 4))) (n := q) (v := blA (S 20) w.toNat (q : Int) (S 20 (21 + 5 * w.toNat)) v (S 20 4)) rfl
                exact ih42 (q + 1) (setB Q1 20 (Q1 22)) ((q : Int) + 1) ((beF (fun j => blA (S 20) w.toNat (j : Int) (S 20 (21 + 5 * w.toNat)) v (S 20 4)) q).2) (if q = 0 then 0 else (beF (fun j => blA (S 20) w.toNat (j : Int) (S 20 (21 + 5 * w.toNat)) v (S 20 4)) q).1) (by omega) (by omega) (by rw [hbq]; split <;> first | rfl | (exfalso; omega)) (by rw [hbq, if_neg (Nat.succ_ne_zero q)]; (repeat' split) <;> first | rfl | (exfalso; omega)) (by omega) (by rw [eQ1, hU]; exact rt1 t20 t22) _ _ _ hI (lv_sub hl [0, 1, 2, 4, 5, 6] rfl)
              · skip
                refine r_iload hC hl dX7_kind_86 1 rfl ?_
                refine r_goto (tgt := 93) hC dX7_kind_88 (by decide) ?_
                refine r_istore (lv1 := [(4, .int (J (blA (S 20) w.toNat (q : Int) (S 20 (21 + 5 * w.toNat)) v (S 20 4)))), (3, .int (J (if q = 0 then 0 else (beF (fun j => blA (S 20) w.toNat (j : Int) (S 20 (21 + 5 * w.toNat)) v (S 20 4)) q).1))), (6, .int (J (blA (S 20) w.toNat (q : Int) (S 20 (21 + 5 * w.toNat)) v (S 20 4)))), (5, .int (J (q : Int))), (0, .ref (a (49))), (1, .int (J w)), (2, .int (J v))]) hC hl dX7_kind_93 (by decide) rfl (fun ls hl => ?_)
                refine r_iinc (lv1 := [(5, .int (J ((q : Int) + 1))), (4, .int (J (blA (S 20) w.toNat (q : Int) (S 20 (21 + 5 * w.toNat)) v (S 20 4)))), (3, .int (J (if q = 0 then 0 else (beF (fun j => blA (S 20) w.toNat (j : Int) (S 20 (21 + 5 * w.toNat)) v (S 20 4)) q).1))), (6, .int (J (blA (S 20) w.toNat (q : Int) (S 20 (21 + 5 * w.toNat)) v (S 20 4)))), (0, .ref (a (49))), (1, .int (J w)), (2, .int (J v))]) hC hl dX7_kind_95 3 rfl (by decide) rfl (fun ls hl => ?_)
                refine r_goto (tgt := 42) hC dX7_kind_98 (by decide) ?_
                have hbq := be_step (f := (fun j => blA (S 20) w.toNat (j : Int) (S 20 (21 + 5 * w.toNat)) v (S 20 4))) (n := q) (v := blA (S 20) w.toNat (q : Int) (S 20 (21 + 5 * w.toNat)) v (S 20 4)) rfl
                exact ih42 (q + 1) (setB Q1 20 (Q1 22)) ((q : Int) + 1) (blA (S 20) w.toNat (q : Int) (S 20 (21 + 5 * w.toNat)) v (S 20 4)) (if q = 0 then 0 else (beF (fun j => blA (S 20) w.toNat (j : Int) (S 20 (21 + 5 * w.toNat)) v (S 20 4)) q).1) (by omega) (by omega) (by rw [hbq]; split <;> first | rfl | (exfalso; omega)) (by rw [hbq, if_neg (Nat.succ_ne_zero q)]; (repeat' split) <;> first | rfl | (exfalso; omega)) (by omega) (by rw [eQ1, hU]; exact rt1 t20 t22) _ _ _ hI (lv_sub hl [0, 1, 2, 4, 5, 6] rfl)
            · skip
              refine r_iload hC hl dX7_kind_72 1 rfl ?_
              refine r_goto (tgt := 78) hC dX7_kind_74 (by decide) ?_
              refine r_istore_n (lv1 := [(3, .int (J (q : Int))), (6, .int (J (blA (S 20) w.toNat (q : Int) (S 20 (21 + 5 * w.toNat)) v (S 20 4)))), (5, .int (J (q : Int))), (4, .int (J ((beF (fun j => blA (S 20) w.toNat (j : Int) (S 20 (21 + 5 * w.toNat)) v (S 20 4)) q).2))), (0, .ref (a (49))), (1, .int (J w)), (2, .int (J v))]) hC hl dX7_kind_78 3 rfl (by decide) rfl (fun ls hl => ?_)
              refine r_iload hC hl dX7_kind_79 1 rfl ?_
              refine r_iload hC hl dX7_kind_81 3 rfl ?_
              refine r_icmp_le (tgt := 91) hC (by omega) (by omega) dX7_kind_83 (by decide) (fun c_6 => ?_) (fun c_6 => ?_)
              · skip
                refine r_iload hC hl dX7_kind_91 3 rfl ?_
                refine r_istore (lv1 := [(4, .int (J ((beF (fun j => blA (S 20) w.toNat (j : Int) (S 20 (21 + 5 * w.toNat)) v (S 20 4)) q).2))), (3, .int (J (q : Int))), (6, .int (J (blA (S 20) w.toNat (q : Int) (S 20 (21 + 5 * w.toNat)) v (S 20 4)))), (5, .int (J (q : Int))), (0, .ref (a (49))), (1, .int (J w)), (2, .int (J v))]) hC hl dX7_kind_93 (by decide) rfl (fun ls hl => ?_)
                refine r_iinc (lv1 := [(5, .int (J ((q : Int) + 1))), (4, .int (J ((beF (fun j => blA (S 20) w.toNat (j : Int) (S 20 (21 + 5 * w.toNat)) v (S 20 4)) q).2))), (3, .int (J (q : Int))), (6, .int (J (blA (S 20) w.toNat (q : Int) (S 20 (21 + 5 * w.toNat)) v (S 20 4)))), (0, .ref (a (49))), (1, .int (J w)), (2, .int (J v))]) hC hl dX7_kind_95 3 rfl (by decide) rfl (fun ls hl => ?_)
                refine r_goto (tgt := 42) hC dX7_kind_98 (by decide) ?_
                have hbq := be_step (f := (fun j => blA (S 20) w.toNat (j : Int) (S 20 (21 + 5 * w.toNat)) v (S 20 4))) (n := q) (v := blA (S 20) w.toNat (q : Int) (S 20 (21 + 5 * w.toNat)) v (S 20 4)) rfl
                exact ih42 (q + 1) (setB Q1 20 (Q1 22)) ((q : Int) + 1) ((beF (fun j => blA (S 20) w.toNat (j : Int) (S 20 (21 + 5 * w.toNat)) v (S 20 4)) q).2) (q : Int) (by omega) (by omega) (by rw [hbq]; split <;> first | rfl | (exfalso; omega)) (by rw [hbq, if_neg (Nat.succ_ne_zero q)]; (repeat' split) <;> first | rfl | (exfalso; omega)) (by omega) (by rw [eQ1, hU]; exact rt1 t20 t22) _ _ _ hI (lv_sub hl [0, 1, 2, 4, 5, 6] rfl)
              · skip
                refine r_iload hC hl dX7_kind_86 1 rfl ?_
                refine r_goto (tgt := 93) hC dX7_kind_88 (by decide) ?_
                refine r_istore (lv1 := [(4, .int (J (blA (S 20) w.toNat (q : Int) (S 20 (21 + 5 * w.toNat)) v (S 20 4)))), (3, .int (J (q : Int))), (6, .int (J (blA (S 20) w.toNat (q : Int) (S 20 (21 + 5 * w.toNat)) v (S 20 4)))), (5, .int (J (q : Int))), (0, .ref (a (49))), (1, .int (J w)), (2, .int (J v))]) hC hl dX7_kind_93 (by decide) rfl (fun ls hl => ?_)
                refine r_iinc (lv1 := [(5, .int (J ((q : Int) + 1))), (4, .int (J (blA (S 20) w.toNat (q : Int) (S 20 (21 + 5 * w.toNat)) v (S 20 4)))), (3, .int (J (q : Int))), (6, .int (J (blA (S 20) w.toNat (q : Int) (S 20 (21 + 5 * w.toNat)) v (S 20 4)))), (0, .ref (a (49))), (1, .int (J w)), (2, .int (J v))]) hC hl dX7_kind_95 3 rfl (by decide) rfl (fun ls hl => ?_)
                refine r_goto (tgt := 42) hC dX7_kind_98 (by decide) ?_
                have hbq := be_step (f := (fun j => blA (S 20) w.toNat (j : Int) (S 20 (21 + 5 * w.toNat)) v (S 20 4))) (n := q) (v := blA (S 20) w.toNat (q : Int) (S 20 (21 + 5 * w.toNat)) v (S 20 4)) rfl
                exact ih42 (q + 1) (setB Q1 20 (Q1 22)) ((q : Int) + 1) (blA (S 20) w.toNat (q : Int) (S 20 (21 + 5 * w.toNat)) v (S 20 4)) (q : Int) (by omega) (by omega) (by rw [hbq]; split <;> first | rfl | (exfalso; omega)) (by rw [hbq, if_neg (Nat.succ_ne_zero q)]; (repeat' split) <;> first | rfl | (exfalso; omega)) (by omega) (by rw [eQ1, hU]; exact rt1 t20 t22) _ _ _ hI (lv_sub hl [0, 1, 2, 4, 5, 6] rfl)
      exact hL42 _ 0 T 0 (-1) 0 (Nat.lt_succ_self _) (by omega) rfl rfl (by omega) rfl _ _ _ hI (lv_sub hl [0, 1, 2, 3, 4, 5] rfl)
    · skip
      refine r_aload_n hC hl dX7_kind_18 0 rfl ?_
      refine r_ldc (x := (-1000000001)) hC ct_RX7_44 (by decide) dX7_kind_19 ?_
      refine r_cVi hC hI hl [.int (J (-1000000001))] [] (c_X7_finds0 l X a B S  ) ml_RX7_57 ev_X7_finds (rc_mo (S := S) hC hI) ⟨Nat.le_of_ble_eq_true rfl, Nat.le_of_ble_eq_true rfl⟩ ⟨Nat.zero_le _, Nat.zero_le _⟩ (Nat.le_of_ble_eq_true rfl) rfl dX7_kind_21 (fun H locs hI => ?_)
      exact r_iret hC hr hlk hI (an_f 0 (by (repeat' split) <;> first | rfl | omega)) (fn_f 0 (by (repeat' split) <;> first | rfl | omega)) dX7_kind_24

theorem tb_clr : ∀ n, n < 256 → J ((n : Nat) : Int) &&& J (((n : Nat) : Int) - 1) = J ((n &&& (n - 1) : Nat) : Int) := by decide +kernel
theorem tb_pc : ∀ n, n < 256 → n ≠ 0 → pcN (n &&& (n - 1)) + 1 = pcN n ∧ (n &&& (n - 1)) < n := by decide +kernel
section R26
variable {p : Program} {l : Launch} {e : Env} {R : Room} {s : State} {m : MethodId} {args : Array Value} {below : List Frame} {meth : Method} {c : Code} {H : Heap} {locs : List Loc} {cells slots : Nat} {Q : State → Prop}
variable {cc : ByteArray} {nL pc : Nat} {own : String} {ls : Array Slot} {rest st : List Value} {X : XT} {a : Nat → Nat} {B : Nat} {S S' : St} {lv : List (Nat × Value)}
theorem r_clr (hC : Cx p c cc nL s m args own X B) {n : Nat} (hn : n < 256) (hdg : decode cc pc = .ok (.iand, 1)) (k : W p l e R s m args below meth c H locs cells slots Q (F0 m (pc + 1) ls (.int (J ((n &&& (n - 1) : Nat) : Int)) :: rest))) : W p l e R s m args below meth c H locs cells slots Q (F0 m pc ls (.int (J ((n : Int) - 1)) :: .int (J (n : Int)) :: rest)) := lv_iand hC.1 hC.2.1 hdg (by rw [tb_clr n hn]; exact k)
end R26

set_option maxHeartbeats 4000000 in
set_option maxRecDepth 100000 in
theorem c_X7_bits (l : Launch) (X : XT) (a : Nat → Nat) (B : Nat) (S : St) (m1 : Nat) (hm1 : m1 < 256) : CT l X a B 0 yX7_bits cX7_bits 3 (some .int) [.int (J (m1 : Int))] S (Qi X a B (pcN m1) (S)) := by
  refine CT.of (by decide +kernel) (Nat.le_of_ble_eq_true rfl) ?_
  intro p e s m below meth c ls hC hr hlk hI hl
  have hC : Cx p c cX7_bits 3 s m [.int (J (m1 : Int))].toArray RX7 X B := hC
  have hl : lv_has ls 3 [(0, .int (J (m1 : Int)))] := hl
  refine r_iconst hC dX7_bits_0 ?_
  refine r_istore_n (lv1 := [(1, .int (J 0)), (0, .int (J (m1 : Int)))]) hC hl dX7_bits_1 1 rfl (by decide) rfl (fun ls hl => ?_)
  refine r_iload_n hC hl dX7_bits_2 1 rfl ?_
  refine r_istore_n (lv1 := [(2, .int (J (m1 : Int))), (1, .int (J 0)), (0, .int (J (m1 : Int)))]) hC hl dX7_bits_3 2 rfl (by decide) rfl (fun ls hl => ?_)
  have hL4 : ∀ (fu : Nat) (t : Nat) (x2 x1 : Int), t < fu → (x2 = (t : Int)) → (x1 = pcN m1 - pcN t) → (t ≤ m1) → ∀ (H : Heap) (locs : List Loc) (ls : Array Slot), IS X a B s (S) H locs → lv_has ls 3 [(2, .int (J x2)), (1, .int (J x1)), (0, .int (J (m1 : Int)))] → W p l e (rmD 0) s m [.int (J (m1 : Int))].toArray below meth c H locs 0 0 (MQ below (Qi X a B (pcN m1) (S)) [.int (J (m1 : Int))].toArray s 0 0 (fun q => B ≤ q)) (F0 m 4 ls []) := by
    intro fu
    induction fu with
    | zero => intro t x2 x1 hm; exact absurd hm (Nat.not_lt_zero _)
    | succ fu ih4 =>
      intro t x2 x1 hm e2 e1 ht H locs ls hI hl
      subst e2; subst e1
      refine r_iload_n hC hl dX7_bits_4 0 rfl ?_
      refine r_if_eq (tgt := 20) hC (by omega) dX7_bits_5 (by decide) (fun c_1 => ?_) (fun c_1 => ?_)
      · skip
        refine r_iload_n hC hl dX7_bits_20 1 rfl ?_
        exact r_iret hC hr hlk hI (by rw [show t = 0 by omega, show pcN 0 = 0 from by decide]; omega) (rfl) dX7_bits_21
      · skip
        refine r_iinc (lv1 := [(1, .int (J (pcN m1 - pcN t + 1))), (2, .int (J (t : Int))), (0, .int (J (m1 : Int)))]) hC hl dX7_bits_8 1 rfl (by decide) rfl (fun ls hl => ?_)
        refine r_iload_n hC hl dX7_bits_11 1 rfl ?_
        refine r_iload_n hC hl dX7_bits_12 1 rfl ?_
        refine r_iconst hC dX7_bits_13 ?_
        refine r_isub hC dX7_bits_14 ?_
        refine r_clr hC (n := t) (by omega) dX7_bits_15 ?_
        refine r_istore_n (lv1 := [(2, .int (J ((t &&& (t - 1)) : Int))), (1, .int (J (pcN m1 - pcN t + 1))), (0, .int (J (m1 : Int)))]) hC hl dX7_bits_16 2 rfl (by decide) rfl (fun ls hl => ?_)
        refine r_goto (tgt := 4) hC dX7_bits_17 (by decide) ?_
        have hpc := tb_pc t (by omega) (by omega)
        exact ih4 (t &&& (t - 1)) ((t &&& (t - 1)) : Int) (pcN m1 - pcN t + 1) (by have hpc := tb_pc t (by omega) (by omega); omega) rfl (by omega) (by omega) _ _ _ hI (lv_sub hl [0, 1, 2] rfl)
  exact hL4 _ m1 (m1 : Int) 0 (Nat.lt_succ_self _) (by omega) (by omega) (by omega) _ _ _ hI (lv_sub hl [0, 1, 2] rfl)
