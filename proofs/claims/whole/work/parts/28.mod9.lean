def sbF (R : Nat → Int) (m1 q : Nat) : Nat → Int := fun j => if 18 ≤ j ∧ (j - 18) % 5 = 3 ∧ (j - 18) / 5 < q then ((m1 / 2 ^ ((j - 18) / 5) % 2 : Nat) : Int) else R j
theorem sb_0 (R : Nat → Int) (m1 : Nat) : sbF R m1 0 = R := funext fun j => if_neg (fun z => Nat.not_lt_zero _ z.2.2)
theorem sb_up (R : Nat → Int) (m1 q : Nat) : upR (sbF R m1 q) (21 + 5 * q) ((m1 / 2 ^ q % 2 : Nat) : Int) = sbF R m1 (q + 1) := by
  funext j
  by_cases hj : j = 21 + 5 * q
  · subst hj
    rw [upR_at]
    unfold sbF
    rw [if_pos (by omega), show (21 + 5 * q - 18) / 5 = q by omega]
  · rw [upR_ne _ _ hj]
    unfold sbF
    by_cases h4 : 18 ≤ j ∧ (j - 18) % 5 = 3 ∧ (j - 18) / 5 < q
    · rw [if_pos h4, if_pos (by omega)]
    · rw [if_neg h4, if_neg (by omega)]
theorem sb_o {R : Nat → Int} {m1 q j : Nat} (h : ¬ (18 ≤ j ∧ (j - 18) % 5 = 3)) : sbF R m1 q j = R j := if_neg (fun z => h ⟨z.1, z.2.1⟩)
theorem sb_21 {R : Nat → Int} {m1 q i : Nat} (h : i < q) : sbF R m1 q (21 + 5 * i) = ((m1 / 2 ^ i % 2 : Nat) : Int) := by
  unfold sbF
  rw [if_pos (by omega), show (21 + 5 * i - 18) / 5 = i by omega]
theorem sb_VR {N : Int} {R : Nat → Int} {m1 q : Nat} (hV : VR N R) : VR N (sbF R m1 q) := by
  obtain ⟨⟨hN, hBr, hBu, hIn, hLa, hPc⟩, hDk, hPg⟩ := id hV
  refine ⟨⟨?_, ?_, ?_, ?_, ?_, ?_⟩, fun j hj => ?_, fun i hi => ?_⟩
  · rw [sb_o (by omega)]; exact hN
  · rw [sb_o (by omega)]; exact hBr
  · rw [sb_o (by omega)]; exact hBu
  · rw [sb_o (by omega)]; exact hIn
  · rw [sb_o (by omega)]; exact hLa
  · rw [sb_o (by omega)]; exact hPc
  · rw [sb_o (by omega)]; exact hDk j hj
  · have hp := hPg i hi
    unfold VP
    rw [sb_o (j := 18 + 5 * i) (by omega), sb_o (j := 19 + 5 * i) (by omega), sb_o (j := 20 + 5 * i) (by omega), sb_o (j := 22 + 5 * i) (by omega)]
    refine ⟨hp.1, hp.2.1, hp.2.2.1, ?_, hp.2.2.2.2⟩
    by_cases h : i < q
    · rw [sb_21 h]; omega
    · unfold sbF
      rw [if_neg (by omega)]; exact hp.2.2.2.1
theorem sb_bl {R : Nat → Int} {m1 q i : Nat} {n : Int} (h : i < q) : blP (sbF R m1 q) i n (R 4) = blA R i (R (18 + 5 * i)) 0 n (R 4) - (if m1 / 2 ^ i % 2 = 1 then stD R n i else 0) := by
  unfold blP
  rw [sb_21 h, sb_o (j := 18 + 5 * i) (by omega)]
  have e : ∀ u : Int, blA (sbF R m1 q) i (R (18 + 5 * i)) u n (R 4) = blA R i (R (18 + 5 * i)) u n (R 4) := fun u => by
    unfold blA
    rw [sb_o (j := 20 + 5 * i) (by omega), sb_o (j := 22 + 5 * i) (by omega)]
  rw [e]
  by_cases hb : m1 / 2 ^ i % 2 = 1
  · rw [if_pos hb, hb]
    unfold stD
    show blA R i (R (18 + 5 * i)) 1 n (R 4) = _
    omega
  · rw [if_neg hb, show m1 / 2 ^ i % 2 = 0 by omega]
    show blA R i (R (18 + 5 * i)) 0 n (R 4) = _
    omega
theorem sb_sum {R : Nat → Int} {m1 q : Nat} {n : Int} : ∀ c : Nat, c ≤ q → sumF (fun i => blP (sbF R m1 q) i n (R 4)) c = sumF (fun j => blA R j (R (18 + 5 * j)) 0 n (R 4)) c - tkS (stD R n) m1 c
  | 0, _ => rfl
  | c + 1, hc => by
    show sumF (fun i => blP (sbF R m1 q) i n (R 4)) c + blP (sbF R m1 q) c n (R 4) = sumF (fun j => blA R j (R (18 + 5 * j)) 0 n (R 4)) c + blA R c (R (18 + 5 * c)) 0 n (R 4) - (tkS (stD R n) m1 c + (if m1 / 2 ^ c % 2 = 1 then stD R n c else 0))
    rw [sb_sum c (by omega), sb_bl (by omega)]
    omega
theorem sb_al {R : Nat → Int} {m1 q : Nat} {n : Int} (hq : q = (R 5).toNat) : sumF (fun i => blP (sbF R m1 q) i n (sbF R m1 q 4)) (sbF R m1 q 5).toNat = sumF (fun j => blA R j (R (18 + 5 * j)) 0 n (R 4)) (R 5).toNat - tkS (stD R n) m1 (R 5).toNat := by
  rw [sb_o (j := 4) (by omega), sb_o (j := 5) (by omega)]
  exact sb_sum _ (by omega)

set_option maxHeartbeats 4000000 in
set_option maxRecDepth 100000 in
theorem c_X7_sunny (l : Launch) (X : XT) (a : Nat → Nat) (B : Nat) (S : St) (w : Int) (v : Int) (hV : VR 9999 (S 20)) (hw : -2147483648 ≤ w ∧ w ≤ 2147483647) (hv : -2147483648 ≤ v ∧ v ≤ 2147483647) : CT l X a B 5 yX7_sunny cX7_sunny 6 (some .int) [.ref (a (49)), .int (J w), .int (J v)] S (Qi X a B (anF (if (1 ≤ w ∧ w ≤ 20) ∧ 0 ≤ v ∧ v ≤ 9999 then onC (msF (fun m1 => decide (v ≤ sumF (fun j => blA (S 20) j (S 20 (18 + 5 * j)) 0 w (S 20 4)) (S 20 5).toNat - tkS (stD (S 20) w) m1 (S 20 5).toNat)) (2 ^ (S 20 5).toNat)) else 0) (msF (fun m1 => decide (v ≤ sumF (fun j => blA (S 20) j (S 20 (18 + 5 * j)) 0 w (S 20 4)) (S 20 5).toNat - tkS (stD (S 20) w) m1 (S 20 5).toNat)) (2 ^ (S 20 5).toNat))) (if (1 ≤ w ∧ w ≤ 20) ∧ 0 ≤ v ∧ v ≤ 9999 then fnF (setB S 22 (S 20)) 21 (onC (msF (fun m1 => decide (v ≤ sumF (fun j => blA (S 20) j (S 20 (18 + 5 * j)) 0 w (S 20 4)) (S 20 5).toNat - tkS (stD (S 20) w) m1 (S 20 5).toNat)) (2 ^ (S 20 5).toNat))) (setB S 22 (S 20)) else up S 21 0 (S 21 0 + 1))) := by
  refine CT.of (by decide +kernel) (Nat.le_of_ble_eq_true rfl) ?_
  intro p e s m below meth c ls hC hr hlk hI hl
  have hC : Cx p c cX7_sunny 6 s m [.ref (a (49)), .int (J w), .int (J v)].toArray RX7 X B := hC
  have hl : lv_has ls 6 [(0, .ref (a (49))), (1, .int (J w)), (2, .int (J v))] := hl
  obtain ⟨⟨hN, hBr, hBu, hIn, hLa, hPc⟩, hDk, hPg⟩ := id hV
  have hpw := pow_rg (q := (S 20 5).toNat) (by omega)
  have hpn : ((2 ^ (S 20 5).toNat : Nat) : Int) = (2 : Int) ^ (S 20 5).toNat := by rw [Int.natCast_pow]; rfl
  refine r_iload_n hC hl dX7_sunny_0 1 rfl ?_
  refine r_iconst hC dX7_sunny_1 ?_
  refine r_bipush hC (by decide) dX7_sunny_2 ?_
  refine r_cSi hC hI hl [.int (J w), .int (J 1), .int (J 20)] [] (c_X7_in l X a B S w 1 20 (by omega) (by omega) (by omega)) ml_RX7_45 es_X7_in ⟨Nat.le_of_ble_eq_true rfl, Nat.le_of_ble_eq_true rfl⟩ ⟨Nat.zero_le _, Nat.zero_le _⟩ (Nat.le_of_ble_eq_true rfl) rfl dX7_sunny_4 (fun H locs hI => ?_)
  refine r_b_eq (tgt := 21) hC dX7_sunny_7 (by decide) (fun c_1 => ?_) (fun c_1 => ?_)
  · skip
    refine r_aload_n hC hl dX7_sunny_21 0 rfl ?_
    refine r_ldc (x := (-1000000001)) hC ct_RX7_44 (by decide) dX7_sunny_22 ?_
    refine r_cVi hC hI hl [.int (J (-1000000001))] [] (c_X7_finds0 l X a B S  ) ml_RX7_57 ev_X7_finds (rc_mo (S := S) hC hI) ⟨Nat.le_of_ble_eq_true rfl, Nat.le_of_ble_eq_true rfl⟩ ⟨Nat.zero_le _, Nat.zero_le _⟩ (Nat.le_of_ble_eq_true rfl) rfl dX7_sunny_24 (fun H locs hI => ?_)
    exact r_iret hC hr hlk hI (an_f 0 (by (repeat' split) <;> first | rfl | omega)) ((if_neg (by omega)).symm) dX7_sunny_27
  · skip
    refine r_iload_n hC hl dX7_sunny_10 2 rfl ?_
    refine r_iconst hC dX7_sunny_11 ?_
    refine r_sipush hC (by decide) dX7_sunny_12 ?_
    refine r_cSi hC hI hl [.int (J v), .int (J 0), .int (J 9999)] [] (c_X7_in l X a B S v 0 9999 (by omega) (by omega) (by omega)) ml_RX7_45 es_X7_in ⟨Nat.le_of_ble_eq_true rfl, Nat.le_of_ble_eq_true rfl⟩ ⟨Nat.zero_le _, Nat.zero_le _⟩ (Nat.le_of_ble_eq_true rfl) rfl dX7_sunny_15 (fun H locs hI => ?_)
    refine r_b_ne (tgt := 28) hC dX7_sunny_18 (by decide) (fun c_2 => ?_) (fun c_2 => ?_)
    · skip
      refine r_iconst hC dX7_sunny_28 ?_
      refine r_istore_n (lv1 := [(3, .int (J (-1))), (0, .ref (a (49))), (1, .int (J w)), (2, .int (J v))]) hC hl dX7_sunny_29 3 rfl (by decide) rfl (fun ls hl => ?_)
      refine r_aload_n hC hl dX7_sunny_30 1 rfl ?_
      refine r_iconst hC dX7_sunny_31 ?_
      refine r_aload_n hC hl dX7_sunny_32 1 rfl ?_
      refine g_mo  (v := .ref (a (52))) hC hI 2 (by decide) fl_RX7_16 rfl rfl dX7_sunny_33 ?_
      refine r_cVv hC hI hl [.int (J 1), .ref (a (52))] [] (c_X7_moveAll1 l X a B S 52 22 (by omega) (fun _ => rfl) (fun _ => rfl) (by omega) rfl) ml_RX7_117 ev_X7_moveAll (rc_mo (S := S) hC hI) ⟨Nat.le_of_ble_eq_true rfl, Nat.le_of_ble_eq_true rfl⟩ ⟨Nat.zero_le _, Nat.zero_le _⟩ (Nat.le_of_ble_eq_true rfl) rfl dX7_sunny_36 (fun H locs hI => ?_)
      obtain ⟨T, eT⟩ : ∃ z : St, z = setB S 22 (S 20) := ⟨_, rfl⟩
      rw [← eT] at hI
      have t20 : T 20 = S 20 := by rw [eT, setB_ne _ _ (by decide)]
      have t22 : T 22 = S 20 := by rw [eT, setB_at]
      have hVT : VR 9999 (T 20) := by rw [t20]; exact hV
      have t5 : T 20 5 = S 20 5 := by rw [t20]
      have t4 : T 20 4 = S 20 4 := by rw [t20]
      have hsr := sh_rg hV (n := w) (by omega) (c := (S 20 5).toNat) (by omega)
      have htr : ∀ m1 : Nat, -2400 ≤ tkS (stD (S 20) w) m1 (S 20 5).toNat ∧ tkS (stD (S 20) w) m1 (S 20 5).toNat ≤ 2400 := fun m1 => tk_rgS (by omega) (fun q hq => st_rg (hPg q (by omega)) (by omega) hLa)
      refine r_iconst hC dX7_sunny_39 ?_
      refine r_istore (lv1 := [(4, .int (J 0)), (3, .int (J (-1))), (0, .ref (a (49))), (1, .int (J w)), (2, .int (J v))]) hC hl dX7_sunny_40 (by decide) rfl (fun ls hl => ?_)
      have hL42 : ∀ (fu : Nat) (mm : Nat) (U : St) (x4 x3 : Int), 2 ^ (S 20 5).toNat - mm < fu → (x4 = (mm : Int)) → (x3 = msF (fun m1 => decide (v ≤ sumF (fun j => blA (S 20) j (S 20 (18 + 5 * j)) 0 w (S 20 4)) (S 20 5).toNat - tkS (stD (S 20) w) m1 (S 20 5).toNat)) mm) → (mm ≤ 2 ^ (S 20 5).toNat) → (U = T) → ∀ (H : Heap) (locs : List Loc) (ls : Array Slot), IS X a B s (U) H locs → lv_has ls 6 [(4, .int (J x4)), (3, .int (J x3)), (0, .ref (a (49))), (1, .int (J w)), (2, .int (J v))] → W p l e (rmD 5) s m [.ref (a (49)), .int (J w), .int (J v)].toArray below meth c H locs 0 0 (MQ below (Qi X a B (anF (if (1 ≤ w ∧ w ≤ 20) ∧ 0 ≤ v ∧ v ≤ 9999 then onC (msF (fun m1 => decide (v ≤ sumF (fun j => blA (S 20) j (S 20 (18 + 5 * j)) 0 w (S 20 4)) (S 20 5).toNat - tkS (stD (S 20) w) m1 (S 20 5).toNat)) (2 ^ (S 20 5).toNat)) else 0) (msF (fun m1 => decide (v ≤ sumF (fun j => blA (S 20) j (S 20 (18 + 5 * j)) 0 w (S 20 4)) (S 20 5).toNat - tkS (stD (S 20) w) m1 (S 20 5).toNat)) (2 ^ (S 20 5).toNat))) (if (1 ≤ w ∧ w ≤ 20) ∧ 0 ≤ v ∧ v ≤ 9999 then fnF (setB S 22 (S 20)) 21 (onC (msF (fun m1 => decide (v ≤ sumF (fun j => blA (S 20) j (S 20 (18 + 5 * j)) 0 w (S 20 4)) (S 20 5).toNat - tkS (stD (S 20) w) m1 (S 20 5).toNat)) (2 ^ (S 20 5).toNat))) (setB S 22 (S 20)) else up S 21 0 (S 21 0 + 1))) [.ref (a (49)), .int (J w), .int (J v)].toArray s 0 0 (fun q => B ≤ q)) (F0 m 42 ls []) := by
        intro fu
        induction fu with
        | zero => intro mm U x4 x3 hm; exact absurd hm (Nat.not_lt_zero _)
        | succ fu ih42 =>
          intro mm U x4 x3 hm e4 e3 hmm hU H locs ls hI hl
          subst e4; subst e3
          have u5 : U 20 5 = S 20 5 := by rw [hU, t20]
          have hms := ms_rg (fun m1 => decide (v ≤ sumF (fun j => blA (S 20) j (S 20 (18 + 5 * j)) 0 w (S 20 4)) (S 20 5).toNat - tkS (stD (S 20) w) m1 (S 20 5).toNat)) mm
          have hp1 := pc_rg mm
          have hp2 := pc_rg (msF (fun m1 => decide (v ≤ sumF (fun j => blA (S 20) j (S 20 (18 + 5 * j)) 0 w (S 20 4)) (S 20 5).toNat - tkS (stD (S 20) w) m1 (S 20 5).toNat)) mm).toNat
          have htq := htr mm
          refine r_iload hC hl dX7_sunny_42 0 rfl ?_
          refine r_iconst hC dX7_sunny_44 ?_
          refine r_aload_n hC hl dX7_sunny_45 2 rfl ?_
          refine g_mo  (v := .ref (a (50))) hC hI 0 (by decide) fl_RX7_7 rfl rfl dX7_sunny_46 ?_
          refine r_iconst hC dX7_sunny_49 ?_
          refine r_iald (cx := 50) (n := 58) (f := (fun S => S 20) (U)) (v := U 20 5) hC hI (by decide) rfl (by decide) (5) (by omega) (by omega) rfl dX7_sunny_50 ?_
          refine r_shl1 hC ((U 20 5).toNat) (by omega) (by omega) dX7_sunny_51 ?_
          refine r_as (y := (2 : Int) ^ (S 20 5).toNat) hC (by rw [u5]) ?_
          refine r_icmp_ge (tgt := 141) hC (by omega) (by omega) dX7_sunny_52 (by decide) (fun c_3 => ?_) (fun c_3 => ?_)
          · skip
            have eU2 : U = setB S 22 (S 20) := by rw [hU]; exact eT
            have hval : msF (fun m1 => decide (v ≤ sumF (fun j => blA (S 20) j (S 20 (18 + 5 * j)) 0 w (S 20 4)) (S 20 5).toNat - tkS (stD (S 20) w) m1 (S 20 5).toNat)) mm = msF (fun m1 => decide (v ≤ sumF (fun j => blA (S 20) j (S 20 (18 + 5 * j)) 0 w (S 20 4)) (S 20 5).toNat - tkS (stD (S 20) w) m1 (S 20 5).toNat)) (2 ^ (S 20 5).toNat) := by rw [show mm = 2 ^ (S 20 5).toNat by omega]
            refine r_iload_n hC hl dX7_sunny_141 1 rfl ?_
            refine r_if_ge (tgt := 154) hC (by omega) dX7_sunny_142 (by decide) (fun c_4 => ?_) (fun c_4 => ?_)
            · skip
              refine r_iload_n hC hl dX7_sunny_154 1 rfl ?_
              exact r_iret hC hr hlk hI (an_n (by rw [show (if (1 ≤ w ∧ w ≤ 20) ∧ 0 ≤ v ∧ v ≤ 9999 then onC (msF (fun m1 => decide (v ≤ sumF (fun j => blA (S 20) j (S 20 (18 + 5 * j)) 0 w (S 20 4)) (S 20 5).toNat - tkS (stD (S 20) w) m1 (S 20 5).toNat)) (2 ^ (S 20 5).toNat)) else 0) = onC (msF (fun m1 => decide (v ≤ sumF (fun j => blA (S 20) j (S 20 (18 + 5 * j)) 0 w (S 20 4)) (S 20 5).toNat - tkS (stD (S 20) w) m1 (S 20 5).toNat)) (2 ^ (S 20 5).toNat)) by (repeat' split) <;> first | rfl | omega]; unfold onC; rw [if_neg (by omega)]; decide) (by omega)) (by rw [if_pos (by omega), eU2]; exact fn_n (by unfold onC; rw [if_neg (by omega)]; decide) rfl) dX7_sunny_155
            · skip
              refine r_aload_n hC hl dX7_sunny_145 2 rfl ?_
              refine r_ldc (x := (-1000000004)) hC ct_RX7_124 (by decide) dX7_sunny_146 ?_
              refine r_cVi hC hI hl [.int (J (-1000000004))] [] (c_X7_finds3 l X a B U  ) ml_RX7_57 ev_X7_finds (rc_mo (S := U) hC hI) ⟨Nat.le_of_ble_eq_true rfl, Nat.le_of_ble_eq_true rfl⟩ ⟨Nat.zero_le _, Nat.zero_le _⟩ (Nat.le_of_ble_eq_true rfl) rfl dX7_sunny_148 (fun H locs hI => ?_)
              refine r_goto (tgt := 155) hC dX7_sunny_151 (by decide) ?_
              exact r_iret hC hr hlk hI (an_f 3 (by rw [show (if (1 ≤ w ∧ w ≤ 20) ∧ 0 ≤ v ∧ v ≤ 9999 then onC (msF (fun m1 => decide (v ≤ sumF (fun j => blA (S 20) j (S 20 (18 + 5 * j)) 0 w (S 20 4)) (S 20 5).toNat - tkS (stD (S 20) w) m1 (S 20 5).toNat)) (2 ^ (S 20 5).toNat)) else 0) = onC (msF (fun m1 => decide (v ≤ sumF (fun j => blA (S 20) j (S 20 (18 + 5 * j)) 0 w (S 20 4)) (S 20 5).toNat - tkS (stD (S 20) w) m1 (S 20 5).toNat)) (2 ^ (S 20 5).toNat)) by (repeat' split) <;> first | rfl | omega]; unfold onC; rw [if_pos (by omega)]; rfl)) (by rw [if_pos (by omega), eU2]; exact fn_f 3 (by unfold onC; rw [if_pos (by omega)]; rfl)) dX7_sunny_155
          · skip
            refine r_iconst hC dX7_sunny_55 ?_
            refine r_istore (lv1 := [(5, .int (J 0)), (4, .int (J (mm : Int))), (3, .int (J (msF (fun m1 => decide (v ≤ sumF (fun j => blA (S 20) j (S 20 (18 + 5 * j)) 0 w (S 20 4)) (S 20 5).toNat - tkS (stD (S 20) w) m1 (S 20 5).toNat)) mm))), (0, .ref (a (49))), (1, .int (J w)), (2, .int (J v))]) hC hl dX7_sunny_56 (by decide) rfl (fun ls hl => ?_)
            have hL58 : ∀ (fu : Nat) (q : Nat) (Q : St) (x5 : Int), (S 20 5).toNat - q < fu → (x5 = (q : Int)) → (q ≤ (S 20 5).toNat) → (Q = setB T 20 (sbF (S 20) mm q)) → ∀ (H : Heap) (locs : List Loc) (ls : Array Slot), IS X a B s (Q) H locs → lv_has ls 6 [(5, .int (J x5)), (4, .int (J (mm : Int))), (3, .int (J (msF (fun m1 => decide (v ≤ sumF (fun j => blA (S 20) j (S 20 (18 + 5 * j)) 0 w (S 20 4)) (S 20 5).toNat - tkS (stD (S 20) w) m1 (S 20 5).toNat)) mm))), (0, .ref (a (49))), (1, .int (J w)), (2, .int (J v))] → W p l e (rmD 5) s m [.ref (a (49)), .int (J w), .int (J v)].toArray below meth c H locs 0 0 (MQ below (Qi X a B (anF (if (1 ≤ w ∧ w ≤ 20) ∧ 0 ≤ v ∧ v ≤ 9999 then onC (msF (fun m1 => decide (v ≤ sumF (fun j => blA (S 20) j (S 20 (18 + 5 * j)) 0 w (S 20 4)) (S 20 5).toNat - tkS (stD (S 20) w) m1 (S 20 5).toNat)) (2 ^ (S 20 5).toNat)) else 0) (msF (fun m1 => decide (v ≤ sumF (fun j => blA (S 20) j (S 20 (18 + 5 * j)) 0 w (S 20 4)) (S 20 5).toNat - tkS (stD (S 20) w) m1 (S 20 5).toNat)) (2 ^ (S 20 5).toNat))) (if (1 ≤ w ∧ w ≤ 20) ∧ 0 ≤ v ∧ v ≤ 9999 then fnF (setB S 22 (S 20)) 21 (onC (msF (fun m1 => decide (v ≤ sumF (fun j => blA (S 20) j (S 20 (18 + 5 * j)) 0 w (S 20 4)) (S 20 5).toNat - tkS (stD (S 20) w) m1 (S 20 5).toNat)) (2 ^ (S 20 5).toNat))) (setB S 22 (S 20)) else up S 21 0 (S 21 0 + 1))) [.ref (a (49)), .int (J w), .int (J v)].toArray s 0 0 (fun q => B ≤ q)) (F0 m 58 ls []) := by
              intro fu
              induction fu with
              | zero => intro q Q x5 hm; exact absurd hm (Nat.not_lt_zero _)
              | succ fu ih58 =>
                intro q Q x5 hm e5 hq hQ H locs ls hI hl
                subst e5
                have hQk : Q 20 = sbF (S 20) mm q := by rw [hQ, setB_at]
                have q5 : Q 20 5 = S 20 5 := by rw [hQk, sb_o (by omega)]
                have hVQ : VR 9999 (Q 20) := by rw [hQk]; exact sb_VR hV
                refine r_iload hC hl dX7_sunny_58 0 rfl ?_
                refine r_aload_n hC hl dX7_sunny_60 3 rfl ?_
                refine g_mo  (v := .ref (a (50))) hC hI 0 (by decide) fl_RX7_7 rfl rfl dX7_sunny_61 ?_
                refine r_iconst hC dX7_sunny_64 ?_
                refine r_iald (cx := 50) (n := 58) (f := (fun S => S 20) (Q)) (v := Q 20 5) hC hI (by decide) rfl (by decide) (5) (by omega) (by omega) rfl dX7_sunny_65 ?_
                refine r_icmp_ge (tgt := 89) hC (by omega) (by omega) dX7_sunny_66 (by decide) (fun c_5 => ?_) (fun c_5 => ?_)
                · skip
                  refine r_aload_n hC hl dX7_sunny_89 3 rfl ?_
                  refine r_iload_n hC hl dX7_sunny_90 4 rfl ?_
                  refine r_iconst hC dX7_sunny_91 ?_
                  refine r_iconst hC dX7_sunny_92 ?_
                  refine r_cVi hC hI hl [.int (J w), .int (J 1), .int (J 0)] [] (c_X7_behind1_i l X a B Q w 9999 hVQ (by omega) (by omega)) ml_RX7_121 ev_X7_behind (rc_mo (S := Q) hC hI) ⟨Nat.le_of_ble_eq_true rfl, Nat.le_of_ble_eq_true rfl⟩ ⟨Nat.zero_le _, Nat.zero_le _⟩ (Nat.le_of_ble_eq_true rfl) rfl dX7_sunny_93 (fun H locs hI => ?_)
                  refine r_as (y := sumF (fun j => blA (S 20) j (S 20 (18 + 5 * j)) 0 w (S 20 4)) (S 20 5).toNat - tkS (stD (S 20) w) mm (S 20 5).toNat) hC (by rw [hQk]; exact sb_al (by omega)) ?_
                  refine r_iload_n hC hl dX7_sunny_96 5 rfl ?_
                  refine r_icmp_lt (tgt := 104) hC (by omega) (by omega) dX7_sunny_97 (by decide) (fun c_6 => ?_) (fun c_6 => ?_)
                  · skip
                    refine r_iconst hC dX7_sunny_104 ?_
                    refine r_istore (lv1 := [(5, .int (J 0)), (4, .int (J (mm : Int))), (3, .int (J (msF (fun m1 => decide (v ≤ sumF (fun j => blA (S 20) j (S 20 (18 + 5 * j)) 0 w (S 20 4)) (S 20 5).toNat - tkS (stD (S 20) w) m1 (S 20 5).toNat)) mm))), (0, .ref (a (49))), (1, .int (J w)), (2, .int (J v))]) hC hl dX7_sunny_105 (by decide) rfl (fun ls hl => ?_)
                    refine r_iload hC hl dX7_sunny_107 0 rfl ?_
                    refine r_if_eq (tgt := 133) hC (by decide) dX7_sunny_109 (by decide) (fun _ => ?_) (fun z => absurd z (by decide))
                    refine r_iload_n hC hl dX7_sunny_133 2 rfl ?_
                    refine r_istore_n (lv1 := [(3, .int (J (msF (fun m1 => decide (v ≤ sumF (fun j => blA (S 20) j (S 20 (18 + 5 * j)) 0 w (S 20 4)) (S 20 5).toNat - tkS (stD (S 20) w) m1 (S 20 5).toNat)) mm))), (5, .int (J 0)), (4, .int (J (mm : Int))), (0, .ref (a (49))), (1, .int (J w)), (2, .int (J v))]) hC hl dX7_sunny_134 3 rfl (by decide) rfl (fun ls hl => ?_)
                    refine r_iinc (lv1 := [(4, .int (J ((mm : Int) + 1))), (3, .int (J (msF (fun m1 => decide (v ≤ sumF (fun j => blA (S 20) j (S 20 (18 + 5 * j)) 0 w (S 20 4)) (S 20 5).toNat - tkS (stD (S 20) w) m1 (S 20 5).toNat)) mm))), (5, .int (J 0)), (0, .ref (a (49))), (1, .int (J w)), (2, .int (J v))]) hC hl dX7_sunny_135 2 rfl (by decide) rfl (fun ls hl => ?_)
                    refine r_goto (tgt := 42) hC dX7_sunny_138 (by decide) ?_
                    exact ih42 (mm + 1) (setB Q 20 (Q 22)) ((mm : Int) + 1) (msF (fun m1 => decide (v ≤ sumF (fun j => blA (S 20) j (S 20 (18 + 5 * j)) 0 w (S 20 4)) (S 20 5).toNat - tkS (stD (S 20) w) m1 (S 20 5).toNat)) mm) (by omega) (by omega) (ms_f (fun z => absurd (of_decide_eq_true z.1) (by omega))).symm (by omega) (by rw [hQ]; exact (set_rt t20 t22 eT rfl).trans eT.symm) _ _ _ hI (lv_sub hl [0, 1, 3, 4, 5] rfl)
                  · skip
                    refine r_iconst hC dX7_sunny_100 ?_
                    refine r_goto (tgt := 105) hC dX7_sunny_101 (by decide) ?_
                    refine r_istore (lv1 := [(5, .int (J 1)), (4, .int (J (mm : Int))), (3, .int (J (msF (fun m1 => decide (v ≤ sumF (fun j => blA (S 20) j (S 20 (18 + 5 * j)) 0 w (S 20 4)) (S 20 5).toNat - tkS (stD (S 20) w) m1 (S 20 5).toNat)) mm))), (0, .ref (a (49))), (1, .int (J w)), (2, .int (J v))]) hC hl dX7_sunny_105 (by decide) rfl (fun ls hl => ?_)
                    refine r_iload hC hl dX7_sunny_107 0 rfl ?_
                    refine r_if_eq (tgt := 133) hC (by decide) dX7_sunny_109 (by decide) (fun z => absurd z (by decide)) (fun _ => ?_)
                    refine r_iload_n hC hl dX7_sunny_112 2 rfl ?_
                    refine r_if_lt (tgt := 128) hC (by omega) dX7_sunny_113 (by decide) (fun c_9 => ?_) (fun c_9 => ?_)
                    · skip
                      refine r_iload hC hl dX7_sunny_128 1 rfl ?_
                      refine r_goto (tgt := 134) hC dX7_sunny_130 (by decide) ?_
                      refine r_istore_n (lv1 := [(3, .int (J (mm : Int))), (5, .int (J 1)), (4, .int (J (mm : Int))), (0, .ref (a (49))), (1, .int (J w)), (2, .int (J v))]) hC hl dX7_sunny_134 3 rfl (by decide) rfl (fun ls hl => ?_)
                      refine r_iinc (lv1 := [(4, .int (J ((mm : Int) + 1))), (3, .int (J (mm : Int))), (5, .int (J 1)), (0, .ref (a (49))), (1, .int (J w)), (2, .int (J v))]) hC hl dX7_sunny_135 2 rfl (by decide) rfl (fun ls hl => ?_)
                      refine r_goto (tgt := 42) hC dX7_sunny_138 (by decide) ?_
                      exact ih42 (mm + 1) (setB Q 20 (Q 22)) ((mm : Int) + 1) (mm : Int) (by omega) (by omega) (ms_t (decide_eq_true (by omega)) (Or.inl (by omega))).symm (by omega) (by rw [hQ]; exact (set_rt t20 t22 eT rfl).trans eT.symm) _ _ _ hI (lv_sub hl [0, 1, 3, 4, 5] rfl)
                    · skip
                      refine r_iload hC hl dX7_sunny_116 1 rfl ?_
                      refine r_cSi hC hI hl [.int (J (mm : Int))] [] (c_X7_bits l X a B (setB Q 20 (Q 22)) mm (by omega)) ml_RX7_128 es_X7_bits ⟨Nat.le_of_ble_eq_true rfl, Nat.le_of_ble_eq_true rfl⟩ ⟨Nat.zero_le _, Nat.zero_le _⟩ (Nat.le_of_ble_eq_true rfl) rfl dX7_sunny_118 (fun H locs hI => ?_)
                      refine r_iload_n hC hl dX7_sunny_121 2 rfl ?_
                      refine r_as (y := (((msF (fun m1 => decide (v ≤ sumF (fun j => blA (S 20) j (S 20 (18 + 5 * j)) 0 w (S 20 4)) (S 20 5).toNat - tkS (stD (S 20) w) m1 (S 20 5).toNat)) mm).toNat : Nat) : Int)) hC (by omega) ?_
                      refine r_cSi hC hI hl [.int (J (((msF (fun m1 => decide (v ≤ sumF (fun j => blA (S 20) j (S 20 (18 + 5 * j)) 0 w (S 20 4)) (S 20 5).toNat - tkS (stD (S 20) w) m1 (S 20 5).toNat)) mm).toNat : Nat) : Int))] [.int (J (pcN mm))] (c_X7_bits l X a B (setB Q 20 (Q 22)) ((msF (fun m1 => decide (v ≤ sumF (fun j => blA (S 20) j (S 20 (18 + 5 * j)) 0 w (S 20 4)) (S 20 5).toNat - tkS (stD (S 20) w) m1 (S 20 5).toNat)) mm).toNat) (by omega)) ml_RX7_128 es_X7_bits ⟨Nat.le_of_ble_eq_true rfl, Nat.le_of_ble_eq_true rfl⟩ ⟨Nat.zero_le _, Nat.zero_le _⟩ (Nat.le_of_ble_eq_true rfl) rfl dX7_sunny_122 (fun H locs hI => ?_)
                      refine r_icmp_le (tgt := 133) hC (by omega) (by omega) dX7_sunny_125 (by decide) (fun c_10 => ?_) (fun c_10 => ?_)
                      · skip
                        refine r_iload_n hC hl dX7_sunny_133 2 rfl ?_
                        refine r_istore_n (lv1 := [(3, .int (J (msF (fun m1 => decide (v ≤ sumF (fun j => blA (S 20) j (S 20 (18 + 5 * j)) 0 w (S 20 4)) (S 20 5).toNat - tkS (stD (S 20) w) m1 (S 20 5).toNat)) mm))), (5, .int (J 1)), (4, .int (J (mm : Int))), (0, .ref (a (49))), (1, .int (J w)), (2, .int (J v))]) hC hl dX7_sunny_134 3 rfl (by decide) rfl (fun ls hl => ?_)
                        refine r_iinc (lv1 := [(4, .int (J ((mm : Int) + 1))), (3, .int (J (msF (fun m1 => decide (v ≤ sumF (fun j => blA (S 20) j (S 20 (18 + 5 * j)) 0 w (S 20 4)) (S 20 5).toNat - tkS (stD (S 20) w) m1 (S 20 5).toNat)) mm))), (5, .int (J 1)), (0, .ref (a (49))), (1, .int (J w)), (2, .int (J v))]) hC hl dX7_sunny_135 2 rfl (by decide) rfl (fun ls hl => ?_)
                        refine r_goto (tgt := 42) hC dX7_sunny_138 (by decide) ?_
                        exact ih42 (mm + 1) (setB Q 20 (Q 22)) ((mm : Int) + 1) (msF (fun m1 => decide (v ≤ sumF (fun j => blA (S 20) j (S 20 (18 + 5 * j)) 0 w (S 20 4)) (S 20 5).toNat - tkS (stD (S 20) w) m1 (S 20 5).toNat)) mm) (by omega) (by omega) (ms_f (fun z => by rcases z.2 with z | z <;> omega)).symm (by omega) (by rw [hQ]; exact (set_rt t20 t22 eT rfl).trans eT.symm) _ _ _ hI (lv_sub hl [0, 1, 3, 4, 5] rfl)
                      · skip
                        refine r_iload hC hl dX7_sunny_128 1 rfl ?_
                        refine r_goto (tgt := 134) hC dX7_sunny_130 (by decide) ?_
                        refine r_istore_n (lv1 := [(3, .int (J (mm : Int))), (5, .int (J 1)), (4, .int (J (mm : Int))), (0, .ref (a (49))), (1, .int (J w)), (2, .int (J v))]) hC hl dX7_sunny_134 3 rfl (by decide) rfl (fun ls hl => ?_)
                        refine r_iinc (lv1 := [(4, .int (J ((mm : Int) + 1))), (3, .int (J (mm : Int))), (5, .int (J 1)), (0, .ref (a (49))), (1, .int (J w)), (2, .int (J v))]) hC hl dX7_sunny_135 2 rfl (by decide) rfl (fun ls hl => ?_)
                        refine r_goto (tgt := 42) hC dX7_sunny_138 (by decide) ?_
                        exact ih42 (mm + 1) (setB Q 20 (Q 22)) ((mm : Int) + 1) (mm : Int) (by omega) (by omega) (ms_t (decide_eq_true (by omega)) (Or.inr (by omega))).symm (by omega) (by rw [hQ]; exact (set_rt t20 t22 eT rfl).trans eT.symm) _ _ _ hI (lv_sub hl [0, 1, 3, 4, 5] rfl)
                · skip
                  refine r_aload_n hC hl dX7_sunny_69 3 rfl ?_
                  refine r_iload hC hl dX7_sunny_70 0 rfl ?_
                  refine r_iconst hC dX7_sunny_72 ?_
                  refine r_iload hC hl dX7_sunny_73 1 rfl ?_
                  refine r_iload hC hl dX7_sunny_75 0 rfl ?_
                  refine r_ishr hC (m1 := mm) (q := q) (by omega) (by omega) dX7_sunny_77 ?_
                  refine r_iconst hC dX7_sunny_78 ?_
                  refine r_iand1 hC (m1 := mm / 2 ^ q) (Nat.lt_of_le_of_lt (Nat.div_le_self _ _) (by omega)) dX7_sunny_79 ?_
                  refine r_as (y := ((mm / 2 ^ q % 2 : Nat) : Int)) hC rfl ?_
                  refine r_cVv hC hI hl [.int (J (q : Int)), .int (J 3), .int (J ((mm / 2 ^ q % 2 : Nat) : Int))] [] (c_X7_puts3 l X a B Q q ((mm / 2 ^ q % 2 : Nat) : Int) (by omega)) ml_RX7_83 ev_X7_puts (rc_mo (S := Q) hC hI) ⟨Nat.le_of_ble_eq_true rfl, Nat.le_of_ble_eq_true rfl⟩ ⟨Nat.zero_le _, Nat.zero_le _⟩ (Nat.le_of_ble_eq_true rfl) rfl dX7_sunny_80 (fun H locs hI => ?_)
                  refine r_iinc (lv1 := [(5, .int (J ((q : Int) + 1))), (4, .int (J (mm : Int))), (3, .int (J (msF (fun m1 => decide (v ≤ sumF (fun j => blA (S 20) j (S 20 (18 + 5 * j)) 0 w (S 20 4)) (S 20 5).toNat - tkS (stD (S 20) w) m1 (S 20 5).toNat)) mm))), (0, .ref (a (49))), (1, .int (J w)), (2, .int (J v))]) hC hl dX7_sunny_83 0 rfl (by decide) rfl (fun ls hl => ?_)
                  refine r_goto (tgt := 58) hC dX7_sunny_86 (by decide) ?_
                  exact ih58 (q + 1) (up Q 20 (21 + 5 * q) ((mm / 2 ^ q % 2 : Nat) : Int)) ((q : Int) + 1) (by omega) (by omega) (by omega) (by rw [hQ, up_set]; exact congrArg _ (sb_up (S 20) mm q)) _ _ _ hI (lv_sub hl [0, 1, 2, 3, 4, 5] rfl)
            exact hL58 _ 0 U 0 (Nat.lt_succ_self _) (by omega) (by omega) (by rw [hU, sb_0, ← t20, setB_self]) _ _ _ hI (lv_sub hl [0, 1, 2, 3, 4, 5] rfl)
      exact hL42 _ 0 T 0 (-1) (Nat.lt_succ_self _) (by omega) rfl (by omega) rfl _ _ _ hI (lv_sub hl [0, 1, 2, 3, 4] rfl)
    · skip
      refine r_aload_n hC hl dX7_sunny_21 0 rfl ?_
      refine r_ldc (x := (-1000000001)) hC ct_RX7_44 (by decide) dX7_sunny_22 ?_
      refine r_cVi hC hI hl [.int (J (-1000000001))] [] (c_X7_finds0 l X a B S  ) ml_RX7_57 ev_X7_finds (rc_mo (S := S) hC hI) ⟨Nat.le_of_ble_eq_true rfl, Nat.le_of_ble_eq_true rfl⟩ ⟨Nat.zero_le _, Nat.zero_le _⟩ (Nat.le_of_ble_eq_true rfl) rfl dX7_sunny_24 (fun H locs hI => ?_)
      exact r_iret hC hr hlk hI (an_f 0 (by (repeat' split) <;> first | rfl | omega)) ((if_neg (by omega)).symm) dX7_sunny_27
