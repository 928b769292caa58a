theorem sh_bv8 (b : BitVec 64) : (b <<< 56).sshiftRight 56 = (b.setWidth 8).signExtend 64 := by
  apply BitVec.eq_of_getLsbD_eq
  intro i hi
  rw [BitVec.getLsbD_sshiftRight, BitVec.getLsbD_signExtend]
  by_cases h : i < 8
  · rw [if_pos (by omega), if_pos h, BitVec.getLsbD_shiftLeft, BitVec.getLsbD_setWidth, show 56 + i - 56 = i by omega]
    simp only [show ¬ (64 ≤ i) by omega, show 56 + i < 64 by omega, show ¬ (56 + i < 56) by omega, h, decide_true, decide_false, Bool.not_false, Bool.true_and, hi]
  · rw [if_neg (by omega), if_neg h, BitVec.msb_eq_getLsbD_last, BitVec.msb_eq_getLsbD_last, BitVec.getLsbD_shiftLeft, BitVec.getLsbD_setWidth]
    simp [hi]
theorem sh_bv16 (b : BitVec 64) : (b <<< 48).sshiftRight 48 = (b.setWidth 16).signExtend 64 := by
  apply BitVec.eq_of_getLsbD_eq
  intro i hi
  rw [BitVec.getLsbD_sshiftRight, BitVec.getLsbD_signExtend]
  by_cases h : i < 16
  · rw [if_pos (by omega), if_pos h, BitVec.getLsbD_shiftLeft, BitVec.getLsbD_setWidth, show 48 + i - 48 = i by omega]
    simp only [show ¬ (64 ≤ i) by omega, show 48 + i < 64 by omega, show ¬ (48 + i < 48) by omega, h, decide_true, decide_false, Bool.not_false, Bool.true_and, hi]
  · rw [if_neg (by omega), if_neg h, BitVec.msb_eq_getLsbD_last, BitVec.msb_eq_getLsbD_last, BitVec.getLsbD_shiftLeft, BitVec.getLsbD_setWidth]
    simp [hi]
theorem sh8 (x : Int64) : (x <<< (56 : Int64)) >>> (56 : Int64) = x.toInt8.toInt64 := by
  apply Int64.toBitVec_inj.1
  rw [Int64.toBitVec_shiftRight, Int64.toBitVec_shiftLeft, Int8.toBitVec_toInt64, Int64.toBitVec_toInt8, show ((56 : Int64).toBitVec.smod 64) = 56#64 by decide, BitVec.signExtend_eq_setWidth_of_le x.toBitVec (by decide)]
  exact sh_bv8 _
theorem sh16 (x : Int64) : (x <<< (48 : Int64)) >>> (48 : Int64) = x.toInt16.toInt64 := by
  apply Int64.toBitVec_inj.1
  rw [Int64.toBitVec_shiftRight, Int64.toBitVec_shiftLeft, Int16.toBitVec_toInt64, Int64.toBitVec_toInt16, show ((48 : Int64).toBitVec.smod 64) = 48#64 by decide, BitVec.signExtend_eq_setWidth_of_le x.toBitVec (by decide)]
  exact sh_bv16 _
theorem sh_8 (v : Int) : ((JL v) <<< (56 : Int64)) >>> (56 : Int64) = JL (Int8.ofInt v).toInt := by
  rw [sh8]; unfold JL; rw [Int64.toInt8_ofInt, Int64.ofInt_int8ToInt]
theorem sh_16 (v : Int) : ((JL v) <<< (48 : Int64)) >>> (48 : Int64) = JL (Int16.ofInt v).toInt := by
  rw [sh16]; unfold JL; rw [Int64.toInt16_ofInt, Int64.ofInt_int16ToInt]

theorem sh_56 : (J 56).toInt64 &&& 63 = 56 := by decide
theorem sh_48 : (J 48).toInt64 &&& 63 = 48 := by decide
/-- the row N laid over O from b on, n of it -/
def sgF (O N : Nat → Int) (b n : Nat) : Nat → Int := fun j => if b ≤ j ∧ j < b + n then N (j - b) else O j
theorem sg_0 (O N : Nat → Int) (b : Nat) : sgF O N b 0 = O := funext fun j => if_neg (by omega)
theorem sg_up (O N : Nat → Int) (b n : Nat) {x : Int} (hx : x = N n) : upR (sgF O N b n) (b + n) x = sgF O N b (n + 1) := by
  funext j
  by_cases h : j = b + n
  · subst h
    rw [upR_at, hx]
    unfold sgF
    rw [if_pos (by omega), show b + n - b = n by omega]
  · rw [upR_ne _ _ h]
    unfold sgF
    by_cases h2 : b ≤ j ∧ j < b + n
    · rw [if_pos h2, if_pos (by omega)]
    · rw [if_neg h2, if_neg (by omega)]
theorem sg_in {O N : Nat → Int} {b n i : Nat} (h : i < n) : sgF O N b n (b + i) = N i := by
  unfold sgF
  rw [if_pos (by omega), show b + i - b = i by omega]
def bsN (w : Int) : Nat := if ¬ (0 ≤ w ∧ w ≤ 3) then 0 else 5
theorem bsN_lt (w : Int) : bsN w < 7 := by unfold bsN; split <;> omega
def bsF5 (w z : Int) : Int := if ¬ (0 ≤ w ∧ w ≤ 3) then -1000000001 else if z = 0 then -1000000006 else 0
theorem bs5_e {w z : Int} (h : bsF5 w z ≠ 0) : bsF5 w z = (-1000000001) - (bsN w : Int) := by
  unfold bsF5 at *; unfold bsN; (repeat' split) <;> first | rfl | (exfalso; simp_all)
theorem bs5_r (w z : Int) : -2147483648 ≤ bsF5 w z ∧ bsF5 w z ≤ 2147483647 := by
  unfold bsF5; (repeat' split) <;> omega
theorem bs5_z {w z : Int} (h : bsF5 w z = 0) : (0 ≤ w ∧ w ≤ 3) ∧ z ≠ 0 := by
  unfold bsF5 at h
  by_cases h1 : 0 ≤ w ∧ w ≤ 3
  · rw [if_neg (fun q => q h1)] at h
    by_cases h2 : z = 0
    · rw [if_pos h2] at h; omega
    · exact ⟨h1, h2⟩
  · rw [if_pos h1] at h; omega
theorem bs5_c {w z c : Int} (h : bsF5 w z ≠ 0) : (if ¬ (0 ≤ w ∧ w ≤ 3) then (0 : Int) else if z = 0 then 5 else c) = (bsN w : Int) := by
  unfold bsF5 at h; unfold bsN
  by_cases h1 : 0 ≤ w ∧ w ≤ 3
  · have h2 : ¬ ¬ (0 ≤ w ∧ w ≤ 3) := fun q => q h1
    rw [if_neg h2] at h
    rw [if_neg h2, if_neg h2]
    by_cases h3 : z = 0
    · rw [if_pos h3]; rfl
    · rw [if_neg h3] at h; exact absurd rfl h
  · rw [if_pos h1, if_pos h1]; rfl
theorem stB {T : St} {b : Nat} {R : Nat → Int} (h : T b = R) : T = setB T b R := by rw [← h, setB_self]

set_option maxHeartbeats 4000000 in
set_option maxRecDepth 100000 in
theorem c_X7_findsG (l : Launch) (X : XT) (a : Nat → Nat) (B : Nat) (S : St) (x : Int) (f : Nat) (hx : x = (-1000000001) - (f : Int)) (hf : f < 7) : CT l X a B 0 yX7_finds cX7_finds 2 (some .int) [.ref (a (49)), .int (J x)] S (Qi X a B ((-1000000001) - (f : Int)) (up S 21 f (S 21 f + 1))) := by
  refine CT.of (by decide +kernel) (Nat.le_of_ble_eq_true rfl) ?_
  intro p e s m below meth c ls hC hr hlk hI hl
  have hC : Cx p c cX7_finds 2 s m [.ref (a (49)), .int (J x)].toArray RX7 X B := hC
  have hl : lv_has ls 2 [(0, .ref (a (49))), (1, .int (J x))] := hl
  refine r_aload_n hC hl dX7_finds_0 0 rfl ?_
  refine g_mo  (v := .ref (a (51))) hC hI 1 (by decide) fl_RX7_13 rfl rfl dX7_finds_1 ?_
  refine r_ldc (x := (-1000000001)) hC ct_RX7_44 (by decide) dX7_finds_4 ?_
  refine r_iload_n hC hl dX7_finds_6 1 rfl ?_
  refine r_isub hC dX7_finds_7 ?_
  refine r_dup2 hC rfl rfl dX7_finds_8 ?_
  refine r_iald (cx := 51) (n := 7) (f := (fun S => S 21) (S)) (v := S 21 (((-1000000001) - x).toNat)) hC hI (by decide) rfl (by decide) (((-1000000001) - x).toNat) (by omega) (by omega) rfl dX7_finds_9 ?_
  refine r_iconst hC dX7_finds_10 ?_
  refine r_iadd hC dX7_finds_11 ?_
  refine r_iast (cx := 51) (n := 7) (F := fun S => S 21) hC hI (by decide) (fun _ => rfl) (by decide) (((-1000000001) - x).toNat) (by omega) (by omega) (b := 21) (j := ((-1000000001) - x).toNat) rfl (fun q => by simp [up, setB, upR]) dX7_finds_12 (fun H locs hI => ?_)
  refine r_iload_n hC hl dX7_finds_13 1 rfl ?_
  exact r_iret hC hr hlk hI (by omega) (by rw [show ((-1000000001) - x).toNat = f by omega]) dX7_finds_14

set_option maxHeartbeats 4000000 in
set_option maxRecDepth 100000 in
theorem c_X7_isSheet (l : Launch) (X : XT) (a : Nat → Nat) (B : Nat) (S : St) (w : Int) (hw : -2147483648 ≤ w ∧ w ≤ 2147483647) : CT l X a B 1 yX7_isSheet cX7_isSheet 1 (some .boolean) [.int (J w)] S (Qi X a B (bI (0 ≤ w ∧ w ≤ 3)) (S)) := by
  refine CT.of (by decide +kernel) (Nat.le_of_ble_eq_true rfl) ?_
  intro p e s m below meth c ls hC hr hlk hI hl
  have hC : Cx p c cX7_isSheet 1 s m [.int (J w)].toArray RX7 X B := hC
  have hl : lv_has ls 1 [(0, .int (J w))] := hl
  refine r_iload_n hC hl dX7_isSheet_0 0 rfl ?_
  refine r_iconst hC dX7_isSheet_1 ?_
  refine r_iconst hC dX7_isSheet_2 ?_
  refine r_cSi hC hI hl [.int (J w), .int (J 0), .int (J 3)] [] (c_X7_in l X a B S w 0 3 (by omega) (by omega) (by omega)) ml_RX7_45 es_X7_in ⟨Nat.le_of_ble_eq_true rfl, Nat.le_of_ble_eq_true rfl⟩ ⟨Nat.zero_le _, Nat.zero_le _⟩ (Nat.le_of_ble_eq_true rfl) rfl dX7_isSheet_3 (fun H locs hI => ?_)
  exact r_zret hC hr hlk hI (bI_01) (rfl) (rfl) dX7_isSheet_6

set_option maxHeartbeats 4000000 in
set_option maxRecDepth 100000 in
theorem c_X7_narrow (l : Launch) (X : XT) (a : Nat → Nat) (B : Nat) (S : St) (w : Int) (v : Int) (hw : -2147483648 ≤ w ∧ w ≤ 2147483647) : CT l X a B 0 yX7_narrow cX7_narrow 3 (some .long) [.int (J w), .long (JL v)] S (Ql X a B (lbF w v) (S)) := by
  refine CT.of (by decide +kernel) (Nat.le_of_ble_eq_true rfl) ?_
  intro p e s m below meth c ls hC hr hlk hI hl
  have hC : Cx p c cX7_narrow 3 s m [.int (J w), .long (JL v)].toArray RX7 X B := hC
  have hl : lv_has ls 3 [(0, .int (J w)), (1, .long (JL v))] := hl
  refine r_iload_n hC hl dX7_narrow_0 0 rfl ?_
  refine r_bipush hC (by decide) dX7_narrow_1 ?_
  refine r_icmp_ne (tgt := 16) hC (by omega) (by omega) dX7_narrow_3 (by decide) (fun c_1 => ?_) (fun c_1 => ?_)
  · skip
    refine r_iload_n hC hl dX7_narrow_16 0 rfl ?_
    refine r_bipush hC (by decide) dX7_narrow_17 ?_
    refine r_icmp_ne (tgt := 32) hC (by omega) (by omega) dX7_narrow_19 (by decide) (fun c_2 => ?_) (fun c_2 => ?_)
    · skip
      refine r_lload_n hC hl dX7_narrow_32 1 rfl ?_
      exact r_lret hC hr hlk hI (by unfold lbF; (repeat' split) <;> first | rfl | omega) (rfl) dX7_narrow_33
    · skip
      refine r_lload_n hC hl dX7_narrow_22 1 rfl ?_
      refine r_bipush hC (by decide) dX7_narrow_23 ?_
      refine lv_lshl (v := JL v <<< (48 : Int64)) hC.1 hC.2.1 dX7_narrow_25 (by rw [sh_48]) ?_
      refine r_bipush hC (by decide) dX7_narrow_26 ?_
      refine lv_lshr (v := JL (Int16.ofInt v).toInt) hC.1 hC.2.1 dX7_narrow_28 (by rw [sh_48]; exact sh_16 v) ?_
      refine r_goto (tgt := 33) hC dX7_narrow_29 (by decide) ?_
      exact r_lret hC hr hlk hI (by unfold lbF; (repeat' split) <;> first | rfl | omega) (rfl) dX7_narrow_33
  · skip
    refine r_lload_n hC hl dX7_narrow_6 1 rfl ?_
    refine r_bipush hC (by decide) dX7_narrow_7 ?_
    refine lv_lshl (v := JL v <<< (56 : Int64)) hC.1 hC.2.1 dX7_narrow_9 (by rw [sh_56]) ?_
    refine r_bipush hC (by decide) dX7_narrow_10 ?_
    refine lv_lshr (v := JL (Int8.ofInt v).toInt) hC.1 hC.2.1 dX7_narrow_12 (by rw [sh_56]; exact sh_8 v) ?_
    refine r_goto (tgt := 33) hC dX7_narrow_13 (by decide) ?_
    exact r_lret hC hr hlk hI (by unfold lbF; (repeat' split) <;> first | rfl | omega) (rfl) dX7_narrow_33

set_option maxHeartbeats 4000000 in
set_option maxRecDepth 100000 in
theorem c_X7_sheet (l : Launch) (X : XT) (a : Nat → Nat) (B : Nat) (S : St) (w : Int) (v : Int) (u : Int) (hV : VR 9999 (S 20)) (hw : -2147483648 ≤ w ∧ w ≤ 2147483647) (hv : -2147483648 ≤ v ∧ v ≤ 2147483647) (hu : -2147483648 ≤ u ∧ u ≤ 2147483647) (hSm : ∀ t, t < 4 → (S 26 t = 0 ∨ S 26 t = 8 ∨ S 26 t = 16 ∨ S 26 t = 64) ∧ 0 ≤ S 27 t ∧ S 27 t ≤ 40) : CT l X a B 2 yX7_sheet cX7_sheet 5 (some .int) [.ref (a (49)), .int (J w), .int (J v), .int (J u)] S (Qi X a B (anF (if ¬ ((0 ≤ w ∧ w ≤ 3) ∧ (v = 0 ∨ v = 8 ∨ v = 16 ∨ v = 64)) then 0 else if u < 0 then 6 else if 40 < u then 0 else -1) (if v = 0 then 0 else u)) (fnF S 21 (if ¬ ((0 ≤ w ∧ w ≤ 3) ∧ (v = 0 ∨ v = 8 ∨ v = 16 ∨ v = 64)) then 0 else if u < 0 then 6 else if 40 < u then 0 else -1) (setB (up (up S 26 w.toNat v) 27 w.toNat (if v = 0 then 0 else u)) 30 (sgF (S 30) (fun _ => 0) (40 * w.toNat) (40))))) := by
  refine CT.of (by decide +kernel) (Nat.le_of_ble_eq_true rfl) ?_
  intro p e s m below meth c ls hC hr hlk hI hl
  have hC : Cx p c cX7_sheet 5 s m [.ref (a (49)), .int (J w), .int (J v), .int (J u)].toArray RX7 X B := hC
  have hl : lv_has ls 5 [(0, .ref (a (49))), (1, .int (J w)), (2, .int (J v)), (3, .int (J u))] := hl
  obtain ⟨⟨hN, hBr, hBu, hIn, hLa, hPc⟩, hDk, hPg⟩ := id hV
  refine r_iload_n hC hl dX7_sheet_0 1 rfl ?_
  refine r_cSi hC hI hl [.int (J w)] [] (c_X7_isSheet l X a B S w (by omega)) ml_RX7_215 es_X7_isSheet ⟨Nat.le_of_ble_eq_true rfl, Nat.le_of_ble_eq_true rfl⟩ ⟨Nat.zero_le _, Nat.zero_le _⟩ (Nat.le_of_ble_eq_true rfl) rfl dX7_sheet_1 (fun H locs hI => ?_)
  refine r_b_eq (tgt := 29) hC dX7_sheet_4 (by decide) (fun c_1 => ?_) (fun c_1 => ?_)
  · skip
    refine r_aload_n hC hl dX7_sheet_29 0 rfl ?_
    refine r_ldc (x := (-1000000001)) hC ct_RX7_44 (by decide) dX7_sheet_30 ?_
    refine r_cVi hC hI hl [.int (J (-1000000001))] [] (c_X7_finds0 l X a B S  ) ml_RX7_57 ev_X7_finds (rc_mo (S := S) hC hI) ⟨Nat.le_of_ble_eq_true rfl, Nat.le_of_ble_eq_true rfl⟩ ⟨Nat.zero_le _, Nat.zero_le _⟩ (Nat.le_of_ble_eq_true rfl) rfl dX7_sheet_32 (fun H locs hI => ?_)
    exact r_iret hC hr hlk hI (an_f 0 (by (repeat' split) <;> first | rfl | omega)) (fn_f 0 (by (repeat' split) <;> first | rfl | omega)) dX7_sheet_35
  · skip
    refine r_iload_n hC hl dX7_sheet_7 2 rfl ?_
    refine r_if_eq (tgt := 36) hC (by omega) dX7_sheet_8 (by decide) (fun c_2 => ?_) (fun c_2 => ?_)
    · skip
      refine r_iload_n hC hl dX7_sheet_36 3 rfl ?_
      refine r_if_ge (tgt := 47) hC (by omega) dX7_sheet_37 (by decide) (fun c_3 => ?_) (fun c_3 => ?_)
      · skip
        refine r_iload_n hC hl dX7_sheet_47 3 rfl ?_
        refine r_bipush hC (by decide) dX7_sheet_48 ?_
        refine r_icmp_le (tgt := 60) hC (by omega) (by omega) dX7_sheet_50 (by decide) (fun c_4 => ?_) (fun c_4 => ?_)
        · skip
          refine r_aload_n hC hl dX7_sheet_60 0 rfl ?_
          refine g_mo  (v := .ref (a (55))) hC hI 12 (by decide) fl_RX7_25 rfl rfl dX7_sheet_61 ?_
          refine r_iload_n hC hl dX7_sheet_64 1 rfl ?_
          refine r_iload_n hC hl dX7_sheet_65 2 rfl ?_
          refine r_iast (cx := 55) (n := 4) (F := fun S => S 26) hC hI (by decide) (fun _ => rfl) (by decide) ((w).toNat) (by omega) (by omega) (b := 26) (j := (w).toNat) rfl (fun q => by simp [up, setB, upR]) dX7_sheet_66 (fun H locs hI => ?_)
          refine r_aload_n hC hl dX7_sheet_67 0 rfl ?_
          refine g_mo  (v := .ref (a (56))) hC hI 13 (by decide) fl_RX7_28 rfl rfl dX7_sheet_68 ?_
          refine r_iload_n hC hl dX7_sheet_71 1 rfl ?_
          refine r_iload_n hC hl dX7_sheet_72 2 rfl ?_
          refine r_if_ne (tgt := 80) hC (by omega) dX7_sheet_73 (by decide) (fun c_5 => ?_) (fun c_5 => ?_)
          · skip
            refine r_iload_n hC hl dX7_sheet_80 3 rfl ?_
            refine r_iast (cx := 56) (n := 4) (F := fun S => S 27) hC hI (by decide) (fun _ => rfl) (by decide) ((w).toNat) (by omega) (by omega) (b := 27) (j := (w).toNat) rfl (fun q => by simp [up, setB, upR]) dX7_sheet_81 (fun H locs hI => ?_)
            refine r_iconst hC dX7_sheet_82 ?_
            refine r_istore (lv1 := [(4, .int (J 0)), (0, .ref (a (49))), (1, .int (J w)), (2, .int (J v)), (3, .int (J u))]) hC hl dX7_sheet_83 (by decide) rfl (fun ls hl => ?_)
            have hL85 : ∀ (fu : Nat) (q : Nat) (T : St) (x4 : Int), 40 - q < fu → (x4 = (q : Int)) → (q ≤ 40) → (T = setB (up (up S 26 w.toNat v) 27 w.toNat (if v = 0 then 0 else u)) 30 (sgF (S 30) (fun _ => 0) (40 * w.toNat) (q))) → ∀ (H : Heap) (locs : List Loc) (ls : Array Slot), IS X a B s (T) H locs → lv_has ls 5 [(4, .int (J x4)), (0, .ref (a (49))), (1, .int (J w))] → W p l e (rmD 2) s m [.ref (a (49)), .int (J w), .int (J v), .int (J u)].toArray below meth c H locs 0 0 (MQ below (Qi X a B (anF (if ¬ ((0 ≤ w ∧ w ≤ 3) ∧ (v = 0 ∨ v = 8 ∨ v = 16 ∨ v = 64)) then 0 else if u < 0 then 6 else if 40 < u then 0 else -1) (if v = 0 then 0 else u)) (fnF S 21 (if ¬ ((0 ≤ w ∧ w ≤ 3) ∧ (v = 0 ∨ v = 8 ∨ v = 16 ∨ v = 64)) then 0 else if u < 0 then 6 else if 40 < u then 0 else -1) (setB (up (up S 26 w.toNat v) 27 w.toNat (if v = 0 then 0 else u)) 30 (sgF (S 30) (fun _ => 0) (40 * w.toNat) (40))))) [.ref (a (49)), .int (J w), .int (J v), .int (J u)].toArray s 0 0 (fun q => B ≤ q)) (F0 m 85 ls []) := by
              intro fu
              induction fu with
              | zero => intro q T x4 hm; exact absurd hm (Nat.not_lt_zero _)
              | succ fu ih85 =>
                intro q T x4 hm e4 hq hT H locs ls hI hl
                subst e4
                refine r_iload hC hl dX7_sheet_85 0 rfl ?_
                refine r_bipush hC (by decide) dX7_sheet_87 ?_
                refine r_icmp_ge (tgt := 111) hC (by omega) (by omega) dX7_sheet_89 (by decide) (fun c_6 => ?_) (fun c_6 => ?_)
                · skip
                  refine r_aload_n hC hl dX7_sheet_111 1 rfl ?_
                  refine g_mo  (v := .ref (a (56))) hC hI 13 (by decide) fl_RX7_28 rfl rfl dX7_sheet_112 ?_
                  refine r_iload_n hC hl dX7_sheet_115 2 rfl ?_
                  refine r_iald (cx := 56) (n := 4) (f := (fun S => S 27) (T)) (v := T 27 ((w).toNat)) hC hI (by decide) rfl (by decide) ((w).toNat) (by omega) (by omega) rfl dX7_sheet_116 ?_
                  refine r_as (y := if v = 0 then 0 else u) hC (by rw [hT, setB_ne _ _ (by omega), up_at]) ?_
                  exact r_iret hC hr hlk hI (an_n (by (repeat' split) <;> first | rfl | omega) (rfl)) (fn_n (by (repeat' split) <;> first | rfl | omega) (by rw [hT, show q = 40 by omega])) dX7_sheet_117
                · skip
                  refine r_aload_n hC hl dX7_sheet_92 1 rfl ?_
                  refine g_mo  (v := .ref (a (57))) hC hI 14 (by decide) fl_RX7_31 rfl rfl dX7_sheet_93 ?_
                  refine r_bipush hC (by decide) dX7_sheet_96 ?_
                  refine r_iload_n hC hl dX7_sheet_98 2 rfl ?_
                  refine r_imul hC dX7_sheet_99 ?_
                  refine r_iload hC hl dX7_sheet_100 0 rfl ?_
                  refine r_iadd hC dX7_sheet_102 ?_
                  refine r_as (y := ((40 * w.toNat + q : Nat) : Int)) hC (by omega) ?_
                  refine r_lconst (x := 0) hC rfl dX7_sheet_103 ?_
                  refine r_last (cx := 57) (n := 160) (F := fun S => S 30) hC hI (by decide) (fun _ => rfl) (by decide) (40 * w.toNat + q) (by omega) (by omega) (b := 30) (j := 40 * w.toNat + q) rfl (fun q => by simp [up, setB, upR]) dX7_sheet_104 (fun H locs hI => ?_)
                  refine r_iinc (lv1 := [(4, .int (J ((q : Int) + 1))), (0, .ref (a (49))), (1, .int (J w))]) hC hl dX7_sheet_105 0 rfl (by decide) rfl (fun ls hl => ?_)
                  refine r_goto (tgt := 85) hC dX7_sheet_108 (by decide) ?_
                  exact ih85 (q + 1) (up T 30 (40 * w.toNat + q) 0) ((q : Int) + 1) (by omega) (by omega) (by omega) (by rw [hT, up_set]; exact congrArg _ (sg_up (S 30) (fun _ => 0) (40 * w.toNat) q rfl)) _ _ _ hI (lv_sub hl [0, 1, 2] rfl)
            exact hL85 _ 0 _ 0 (Nat.lt_succ_self _) (by omega) (by omega) (by rw [sg_0]; first | (exfalso; omega) | (rw [if_pos (by omega)]; exact stB (by rw [up_nb _ _ (by omega), up_nb _ _ (by omega)])) | (rw [if_neg (by omega)]; exact stB (by rw [up_nb _ _ (by omega), up_nb _ _ (by omega)]))) _ _ _ hI (lv_sub hl [0, 1, 2] rfl)
          · skip
            refine r_iconst hC dX7_sheet_76 ?_
            refine r_goto (tgt := 81) hC dX7_sheet_77 (by decide) ?_
            refine r_iast (cx := 56) (n := 4) (F := fun S => S 27) hC hI (by decide) (fun _ => rfl) (by decide) ((w).toNat) (by omega) (by omega) (b := 27) (j := (w).toNat) rfl (fun q => by simp [up, setB, upR]) dX7_sheet_81 (fun H locs hI => ?_)
            refine r_iconst hC dX7_sheet_82 ?_
            refine r_istore (lv1 := [(4, .int (J 0)), (0, .ref (a (49))), (1, .int (J w)), (2, .int (J v)), (3, .int (J u))]) hC hl dX7_sheet_83 (by decide) rfl (fun ls hl => ?_)
            have hL85 : ∀ (fu : Nat) (q : Nat) (T : St) (x4 : Int), 40 - q < fu → (x4 = (q : Int)) → (q ≤ 40) → (T = setB (up (up S 26 w.toNat v) 27 w.toNat (if v = 0 then 0 else u)) 30 (sgF (S 30) (fun _ => 0) (40 * w.toNat) (q))) → ∀ (H : Heap) (locs : List Loc) (ls : Array Slot), IS X a B s (T) H locs → lv_has ls 5 [(4, .int (J x4)), (0, .ref (a (49))), (1, .int (J w))] → W p l e (rmD 2) s m [.ref (a (49)), .int (J w), .int (J v), .int (J u)].toArray below meth c H locs 0 0 (MQ below (Qi X a B (anF (if ¬ ((0 ≤ w ∧ w ≤ 3) ∧ (v = 0 ∨ v = 8 ∨ v = 16 ∨ v = 64)) then 0 else if u < 0 then 6 else if 40 < u then 0 else -1) (if v = 0 then 0 else u)) (fnF S 21 (if ¬ ((0 ≤ w ∧ w ≤ 3) ∧ (v = 0 ∨ v = 8 ∨ v = 16 ∨ v = 64)) then 0 else if u < 0 then 6 else if 40 < u then 0 else -1) (setB (up (up S 26 w.toNat v) 27 w.toNat (if v = 0 then 0 else u)) 30 (sgF (S 30) (fun _ => 0) (40 * w.toNat) (40))))) [.ref (a (49)), .int (J w), .int (J v), .int (J u)].toArray s 0 0 (fun q => B ≤ q)) (F0 m 85 ls []) := by
              intro fu
              induction fu with
              | zero => intro q T x4 hm; exact absurd hm (Nat.not_lt_zero _)
              | succ fu ih85 =>
                intro q T x4 hm e4 hq hT H locs ls hI hl
                subst e4
                refine r_iload hC hl dX7_sheet_85 0 rfl ?_
                refine r_bipush hC (by decide) dX7_sheet_87 ?_
                refine r_icmp_ge (tgt := 111) hC (by omega) (by omega) dX7_sheet_89 (by decide) (fun c_7 => ?_) (fun c_7 => ?_)
                · skip
                  refine r_aload_n hC hl dX7_sheet_111 1 rfl ?_
                  refine g_mo  (v := .ref (a (56))) hC hI 13 (by decide) fl_RX7_28 rfl rfl dX7_sheet_112 ?_
                  refine r_iload_n hC hl dX7_sheet_115 2 rfl ?_
                  refine r_iald (cx := 56) (n := 4) (f := (fun S => S 27) (T)) (v := T 27 ((w).toNat)) hC hI (by decide) rfl (by decide) ((w).toNat) (by omega) (by omega) rfl dX7_sheet_116 ?_
                  refine r_as (y := if v = 0 then 0 else u) hC (by rw [hT, setB_ne _ _ (by omega), up_at]) ?_
                  exact r_iret hC hr hlk hI (an_n (by (repeat' split) <;> first | rfl | omega) (rfl)) (fn_n (by (repeat' split) <;> first | rfl | omega) (by rw [hT, show q = 40 by omega])) dX7_sheet_117
                · skip
                  refine r_aload_n hC hl dX7_sheet_92 1 rfl ?_
                  refine g_mo  (v := .ref (a (57))) hC hI 14 (by decide) fl_RX7_31 rfl rfl dX7_sheet_93 ?_
                  refine r_bipush hC (by decide) dX7_sheet_96 ?_
                  refine r_iload_n hC hl dX7_sheet_98 2 rfl ?_
                  refine r_imul hC dX7_sheet_99 ?_
                  refine r_iload hC hl dX7_sheet_100 0 rfl ?_
                  refine r_iadd hC dX7_sheet_102 ?_
                  refine r_as (y := ((40 * w.toNat + q : Nat) : Int)) hC (by omega) ?_
                  refine r_lconst (x := 0) hC rfl dX7_sheet_103 ?_
                  refine r_last (cx := 57) (n := 160) (F := fun S => S 30) hC hI (by decide) (fun _ => rfl) (by decide) (40 * w.toNat + q) (by omega) (by omega) (b := 30) (j := 40 * w.toNat + q) rfl (fun q => by simp [up, setB, upR]) dX7_sheet_104 (fun H locs hI => ?_)
                  refine r_iinc (lv1 := [(4, .int (J ((q : Int) + 1))), (0, .ref (a (49))), (1, .int (J w))]) hC hl dX7_sheet_105 0 rfl (by decide) rfl (fun ls hl => ?_)
                  refine r_goto (tgt := 85) hC dX7_sheet_108 (by decide) ?_
                  exact ih85 (q + 1) (up T 30 (40 * w.toNat + q) 0) ((q : Int) + 1) (by omega) (by omega) (by omega) (by rw [hT, up_set]; exact congrArg _ (sg_up (S 30) (fun _ => 0) (40 * w.toNat) q rfl)) _ _ _ hI (lv_sub hl [0, 1, 2] rfl)
            exact hL85 _ 0 _ 0 (Nat.lt_succ_self _) (by omega) (by omega) (by rw [sg_0]; first | (exfalso; omega) | (rw [if_pos (by omega)]; exact stB (by rw [up_nb _ _ (by omega), up_nb _ _ (by omega)])) | (rw [if_neg (by omega)]; exact stB (by rw [up_nb _ _ (by omega), up_nb _ _ (by omega)]))) _ _ _ hI (lv_sub hl [0, 1, 2] rfl)
        · skip
          refine r_aload_n hC hl dX7_sheet_53 0 rfl ?_
          refine r_ldc (x := (-1000000001)) hC ct_RX7_44 (by decide) dX7_sheet_54 ?_
          refine r_cVi hC hI hl [.int (J (-1000000001))] [] (c_X7_finds0 l X a B S  ) ml_RX7_57 ev_X7_finds (rc_mo (S := S) hC hI) ⟨Nat.le_of_ble_eq_true rfl, Nat.le_of_ble_eq_true rfl⟩ ⟨Nat.zero_le _, Nat.zero_le _⟩ (Nat.le_of_ble_eq_true rfl) rfl dX7_sheet_56 (fun H locs hI => ?_)
          exact r_iret hC hr hlk hI (an_f 0 (by (repeat' split) <;> first | rfl | omega)) (fn_f 0 (by (repeat' split) <;> first | rfl | omega)) dX7_sheet_59
      · skip
        refine r_aload_n hC hl dX7_sheet_40 0 rfl ?_
        refine r_ldc (x := (-1000000007)) hC ct_RX7_218 (by decide) dX7_sheet_41 ?_
        refine r_cVi hC hI hl [.int (J (-1000000007))] [] (c_X7_finds6 l X a B S  ) ml_RX7_57 ev_X7_finds (rc_mo (S := S) hC hI) ⟨Nat.le_of_ble_eq_true rfl, Nat.le_of_ble_eq_true rfl⟩ ⟨Nat.zero_le _, Nat.zero_le _⟩ (Nat.le_of_ble_eq_true rfl) rfl dX7_sheet_43 (fun H locs hI => ?_)
        exact r_iret hC hr hlk hI (an_f 6 (by (repeat' split) <;> first | rfl | omega)) (fn_f 6 (by (repeat' split) <;> first | rfl | omega)) dX7_sheet_46
    · skip
      refine r_iload_n hC hl dX7_sheet_11 2 rfl ?_
      refine r_bipush hC (by decide) dX7_sheet_12 ?_
      refine r_icmp_eq (tgt := 36) hC (by omega) (by omega) dX7_sheet_14 (by decide) (fun c_8 => ?_) (fun c_8 => ?_)
      · skip
        refine r_iload_n hC hl dX7_sheet_36 3 rfl ?_
        refine r_if_ge (tgt := 47) hC (by omega) dX7_sheet_37 (by decide) (fun c_9 => ?_) (fun c_9 => ?_)
        · skip
          refine r_iload_n hC hl dX7_sheet_47 3 rfl ?_
          refine r_bipush hC (by decide) dX7_sheet_48 ?_
          refine r_icmp_le (tgt := 60) hC (by omega) (by omega) dX7_sheet_50 (by decide) (fun c_10 => ?_) (fun c_10 => ?_)
          · skip
            refine r_aload_n hC hl dX7_sheet_60 0 rfl ?_
            refine g_mo  (v := .ref (a (55))) hC hI 12 (by decide) fl_RX7_25 rfl rfl dX7_sheet_61 ?_
            refine r_iload_n hC hl dX7_sheet_64 1 rfl ?_
            refine r_iload_n hC hl dX7_sheet_65 2 rfl ?_
            refine r_iast (cx := 55) (n := 4) (F := fun S => S 26) hC hI (by decide) (fun _ => rfl) (by decide) ((w).toNat) (by omega) (by omega) (b := 26) (j := (w).toNat) rfl (fun q => by simp [up, setB, upR]) dX7_sheet_66 (fun H locs hI => ?_)
            refine r_aload_n hC hl dX7_sheet_67 0 rfl ?_
            refine g_mo  (v := .ref (a (56))) hC hI 13 (by decide) fl_RX7_28 rfl rfl dX7_sheet_68 ?_
            refine r_iload_n hC hl dX7_sheet_71 1 rfl ?_
            refine r_iload_n hC hl dX7_sheet_72 2 rfl ?_
            refine r_if_ne (tgt := 80) hC (by omega) dX7_sheet_73 (by decide) (fun c_11 => ?_) (fun c_11 => ?_)
            · skip
              refine r_iload_n hC hl dX7_sheet_80 3 rfl ?_
              refine r_iast (cx := 56) (n := 4) (F := fun S => S 27) hC hI (by decide) (fun _ => rfl) (by decide) ((w).toNat) (by omega) (by omega) (b := 27) (j := (w).toNat) rfl (fun q => by simp [up, setB, upR]) dX7_sheet_81 (fun H locs hI => ?_)
              refine r_iconst hC dX7_sheet_82 ?_
              refine r_istore (lv1 := [(4, .int (J 0)), (0, .ref (a (49))), (1, .int (J w)), (2, .int (J v)), (3, .int (J u))]) hC hl dX7_sheet_83 (by decide) rfl (fun ls hl => ?_)
              have hL85 : ∀ (fu : Nat) (q : Nat) (T : St) (x4 : Int), 40 - q < fu → (x4 = (q : Int)) → (q ≤ 40) → (T = setB (up (up S 26 w.toNat v) 27 w.toNat (if v = 0 then 0 else u)) 30 (sgF (S 30) (fun _ => 0) (40 * w.toNat) (q))) → ∀ (H : Heap) (locs : List Loc) (ls : Array Slot), IS X a B s (T) H locs → lv_has ls 5 [(4, .int (J x4)), (0, .ref (a (49))), (1, .int (J w))] → W p l e (rmD 2) s m [.ref (a (49)), .int (J w), .int (J v), .int (J u)].toArray below meth c H locs 0 0 (MQ below (Qi X a B (anF (if ¬ ((0 ≤ w ∧ w ≤ 3) ∧ (v = 0 ∨ v = 8 ∨ v = 16 ∨ v = 64)) then 0 else if u < 0 then 6 else if 40 < u then 0 else -1) (if v = 0 then 0 else u)) (fnF S 21 (if ¬ ((0 ≤ w ∧ w ≤ 3) ∧ (v = 0 ∨ v = 8 ∨ v = 16 ∨ v = 64)) then 0 else if u < 0 then 6 else if 40 < u then 0 else -1) (setB (up (up S 26 w.toNat v) 27 w.toNat (if v = 0 then 0 else u)) 30 (sgF (S 30) (fun _ => 0) (40 * w.toNat) (40))))) [.ref (a (49)), .int (J w), .int (J v), .int (J u)].toArray s 0 0 (fun q => B ≤ q)) (F0 m 85 ls []) := by
                intro fu
                induction fu with
                | zero => intro q T x4 hm; exact absurd hm (Nat.not_lt_zero _)
                | succ fu ih85 =>
                  intro q T x4 hm e4 hq hT H locs ls hI hl
                  subst e4
                  refine r_iload hC hl dX7_sheet_85 0 rfl ?_
                  refine r_bipush hC (by decide) dX7_sheet_87 ?_
                  refine r_icmp_ge (tgt := 111) hC (by omega) (by omega) dX7_sheet_89 (by decide) (fun c_12 => ?_) (fun c_12 => ?_)
                  · skip
                    refine r_aload_n hC hl dX7_sheet_111 1 rfl ?_
                    refine g_mo  (v := .ref (a (56))) hC hI 13 (by decide) fl_RX7_28 rfl rfl dX7_sheet_112 ?_
                    refine r_iload_n hC hl dX7_sheet_115 2 rfl ?_
                    refine r_iald (cx := 56) (n := 4) (f := (fun S => S 27) (T)) (v := T 27 ((w).toNat)) hC hI (by decide) rfl (by decide) ((w).toNat) (by omega) (by omega) rfl dX7_sheet_116 ?_
                    refine r_as (y := if v = 0 then 0 else u) hC (by rw [hT, setB_ne _ _ (by omega), up_at]) ?_
                    exact r_iret hC hr hlk hI (an_n (by (repeat' split) <;> first | rfl | omega) (rfl)) (fn_n (by (repeat' split) <;> first | rfl | omega) (by rw [hT, show q = 40 by omega])) dX7_sheet_117
                  · skip
                    refine r_aload_n hC hl dX7_sheet_92 1 rfl ?_
                    refine g_mo  (v := .ref (a (57))) hC hI 14 (by decide) fl_RX7_31 rfl rfl dX7_sheet_93 ?_
                    refine r_bipush hC (by decide) dX7_sheet_96 ?_
                    refine r_iload_n hC hl dX7_sheet_98 2 rfl ?_
                    refine r_imul hC dX7_sheet_99 ?_
                    refine r_iload hC hl dX7_sheet_100 0 rfl ?_
                    refine r_iadd hC dX7_sheet_102 ?_
                    refine r_as (y := ((40 * w.toNat + q : Nat) : Int)) hC (by omega) ?_
                    refine r_lconst (x := 0) hC rfl dX7_sheet_103 ?_
                    refine r_last (cx := 57) (n := 160) (F := fun S => S 30) hC hI (by decide) (fun _ => rfl) (by decide) (40 * w.toNat + q) (by omega) (by omega) (b := 30) (j := 40 * w.toNat + q) rfl (fun q => by simp [up, setB, upR]) dX7_sheet_104 (fun H locs hI => ?_)
                    refine r_iinc (lv1 := [(4, .int (J ((q : Int) + 1))), (0, .ref (a (49))), (1, .int (J w))]) hC hl dX7_sheet_105 0 rfl (by decide) rfl (fun ls hl => ?_)
                    refine r_goto (tgt := 85) hC dX7_sheet_108 (by decide) ?_
                    exact ih85 (q + 1) (up T 30 (40 * w.toNat + q) 0) ((q : Int) + 1) (by omega) (by omega) (by omega) (by rw [hT, up_set]; exact congrArg _ (sg_up (S 30) (fun _ => 0) (40 * w.toNat) q rfl)) _ _ _ hI (lv_sub hl [0, 1, 2] rfl)
              exact hL85 _ 0 _ 0 (Nat.lt_succ_self _) (by omega) (by omega) (by rw [sg_0]; first | (exfalso; omega) | (rw [if_pos (by omega)]; exact stB (by rw [up_nb _ _ (by omega), up_nb _ _ (by omega)])) | (rw [if_neg (by omega)]; exact stB (by rw [up_nb _ _ (by omega), up_nb _ _ (by omega)]))) _ _ _ hI (lv_sub hl [0, 1, 2] rfl)
            · skip
              refine r_iconst hC dX7_sheet_76 ?_
              refine r_goto (tgt := 81) hC dX7_sheet_77 (by decide) ?_
              refine r_iast (cx := 56) (n := 4) (F := fun S => S 27) hC hI (by decide) (fun _ => rfl) (by decide) ((w).toNat) (by omega) (by omega) (b := 27) (j := (w).toNat) rfl (fun q => by simp [up, setB, upR]) dX7_sheet_81 (fun H locs hI => ?_)
              refine r_iconst hC dX7_sheet_82 ?_
              refine r_istore (lv1 := [(4, .int (J 0)), (0, .ref (a (49))), (1, .int (J w)), (2, .int (J v)), (3, .int (J u))]) hC hl dX7_sheet_83 (by decide) rfl (fun ls hl => ?_)
              have hL85 : ∀ (fu : Nat) (q : Nat) (T : St) (x4 : Int), 40 - q < fu → (x4 = (q : Int)) → (q ≤ 40) → (T = setB (up (up S 26 w.toNat v) 27 w.toNat (if v = 0 then 0 else u)) 30 (sgF (S 30) (fun _ => 0) (40 * w.toNat) (q))) → ∀ (H : Heap) (locs : List Loc) (ls : Array Slot), IS X a B s (T) H locs → lv_has ls 5 [(4, .int (J x4)), (0, .ref (a (49))), (1, .int (J w))] → W p l e (rmD 2) s m [.ref (a (49)), .int (J w), .int (J v), .int (J u)].toArray below meth c H locs 0 0 (MQ below (Qi X a B (anF (if ¬ ((0 ≤ w ∧ w ≤ 3) ∧ (v = 0 ∨ v = 8 ∨ v = 16 ∨ v = 64)) then 0 else if u < 0 then 6 else if 40 < u then 0 else -1) (if v = 0 then 0 else u)) (fnF S 21 (if ¬ ((0 ≤ w ∧ w ≤ 3) ∧ (v = 0 ∨ v = 8 ∨ v = 16 ∨ v = 64)) then 0 else if u < 0 then 6 else if 40 < u then 0 else -1) (setB (up (up S 26 w.toNat v) 27 w.toNat (if v = 0 then 0 else u)) 30 (sgF (S 30) (fun _ => 0) (40 * w.toNat) (40))))) [.ref (a (49)), .int (J w), .int (J v), .int (J u)].toArray s 0 0 (fun q => B ≤ q)) (F0 m 85 ls []) := by
                intro fu
                induction fu with
                | zero => intro q T x4 hm; exact absurd hm (Nat.not_lt_zero _)
                | succ fu ih85 =>
                  intro q T x4 hm e4 hq hT H locs ls hI hl
                  subst e4
                  refine r_iload hC hl dX7_sheet_85 0 rfl ?_
                  refine r_bipush hC (by decide) dX7_sheet_87 ?_
                  refine r_icmp_ge (tgt := 111) hC (by omega) (by omega) dX7_sheet_89 (by decide) (fun c_13 => ?_) (fun c_13 => ?_)
                  · skip
                    refine r_aload_n hC hl dX7_sheet_111 1 rfl ?_
                    refine g_mo  (v := .ref (a (56))) hC hI 13 (by decide) fl_RX7_28 rfl rfl dX7_sheet_112 ?_
                    refine r_iload_n hC hl dX7_sheet_115 2 rfl ?_
                    refine r_iald (cx := 56) (n := 4) (f := (fun S => S 27) (T)) (v := T 27 ((w).toNat)) hC hI (by decide) rfl (by decide) ((w).toNat) (by omega) (by omega) rfl dX7_sheet_116 ?_
                    refine r_as (y := if v = 0 then 0 else u) hC (by rw [hT, setB_ne _ _ (by omega), up_at]) ?_
                    exact r_iret hC hr hlk hI (an_n (by (repeat' split) <;> first | rfl | omega) (rfl)) (fn_n (by (repeat' split) <;> first | rfl | omega) (by rw [hT, show q = 40 by omega])) dX7_sheet_117
                  · skip
                    refine r_aload_n hC hl dX7_sheet_92 1 rfl ?_
                    refine g_mo  (v := .ref (a (57))) hC hI 14 (by decide) fl_RX7_31 rfl rfl dX7_sheet_93 ?_
                    refine r_bipush hC (by decide) dX7_sheet_96 ?_
                    refine r_iload_n hC hl dX7_sheet_98 2 rfl ?_
                    refine r_imul hC dX7_sheet_99 ?_
                    refine r_iload hC hl dX7_sheet_100 0 rfl ?_
                    refine r_iadd hC dX7_sheet_102 ?_
                    refine r_as (y := ((40 * w.toNat + q : Nat) : Int)) hC (by omega) ?_
                    refine r_lconst (x := 0) hC rfl dX7_sheet_103 ?_
                    refine r_last (cx := 57) (n := 160) (F := fun S => S 30) hC hI (by decide) (fun _ => rfl) (by decide) (40 * w.toNat + q) (by omega) (by omega) (b := 30) (j := 40 * w.toNat + q) rfl (fun q => by simp [up, setB, upR]) dX7_sheet_104 (fun H locs hI => ?_)
                    refine r_iinc (lv1 := [(4, .int (J ((q : Int) + 1))), (0, .ref (a (49))), (1, .int (J w))]) hC hl dX7_sheet_105 0 rfl (by decide) rfl (fun ls hl => ?_)
                    refine r_goto (tgt := 85) hC dX7_sheet_108 (by decide) ?_
                    exact ih85 (q + 1) (up T 30 (40 * w.toNat + q) 0) ((q : Int) + 1) (by omega) (by omega) (by omega) (by rw [hT, up_set]; exact congrArg _ (sg_up (S 30) (fun _ => 0) (40 * w.toNat) q rfl)) _ _ _ hI (lv_sub hl [0, 1, 2] rfl)
              exact hL85 _ 0 _ 0 (Nat.lt_succ_self _) (by omega) (by omega) (by rw [sg_0]; first | (exfalso; omega) | (rw [if_pos (by omega)]; exact stB (by rw [up_nb _ _ (by omega), up_nb _ _ (by omega)])) | (rw [if_neg (by omega)]; exact stB (by rw [up_nb _ _ (by omega), up_nb _ _ (by omega)]))) _ _ _ hI (lv_sub hl [0, 1, 2] rfl)
          · skip
            refine r_aload_n hC hl dX7_sheet_53 0 rfl ?_
            refine r_ldc (x := (-1000000001)) hC ct_RX7_44 (by decide) dX7_sheet_54 ?_
            refine r_cVi hC hI hl [.int (J (-1000000001))] [] (c_X7_finds0 l X a B S  ) ml_RX7_57 ev_X7_finds (rc_mo (S := S) hC hI) ⟨Nat.le_of_ble_eq_true rfl, Nat.le_of_ble_eq_true rfl⟩ ⟨Nat.zero_le _, Nat.zero_le _⟩ (Nat.le_of_ble_eq_true rfl) rfl dX7_sheet_56 (fun H locs hI => ?_)
            exact r_iret hC hr hlk hI (an_f 0 (by (repeat' split) <;> first | rfl | omega)) (fn_f 0 (by (repeat' split) <;> first | rfl | omega)) dX7_sheet_59
        · skip
          refine r_aload_n hC hl dX7_sheet_40 0 rfl ?_
          refine r_ldc (x := (-1000000007)) hC ct_RX7_218 (by decide) dX7_sheet_41 ?_
          refine r_cVi hC hI hl [.int (J (-1000000007))] [] (c_X7_finds6 l X a B S  ) ml_RX7_57 ev_X7_finds (rc_mo (S := S) hC hI) ⟨Nat.le_of_ble_eq_true rfl, Nat.le_of_ble_eq_true rfl⟩ ⟨Nat.zero_le _, Nat.zero_le _⟩ (Nat.le_of_ble_eq_true rfl) rfl dX7_sheet_43 (fun H locs hI => ?_)
          exact r_iret hC hr hlk hI (an_f 6 (by (repeat' split) <;> first | rfl | omega)) (fn_f 6 (by (repeat' split) <;> first | rfl | omega)) dX7_sheet_46
      · skip
        refine r_iload_n hC hl dX7_sheet_17 2 rfl ?_
        refine r_bipush hC (by decide) dX7_sheet_18 ?_
        refine r_icmp_eq (tgt := 36) hC (by omega) (by omega) dX7_sheet_20 (by decide) (fun c_14 => ?_) (fun c_14 => ?_)
        · skip
          refine r_iload_n hC hl dX7_sheet_36 3 rfl ?_
          refine r_if_ge (tgt := 47) hC (by omega) dX7_sheet_37 (by decide) (fun c_15 => ?_) (fun c_15 => ?_)
          · skip
            refine r_iload_n hC hl dX7_sheet_47 3 rfl ?_
            refine r_bipush hC (by decide) dX7_sheet_48 ?_
            refine r_icmp_le (tgt := 60) hC (by omega) (by omega) dX7_sheet_50 (by decide) (fun c_16 => ?_) (fun c_16 => ?_)
            · skip
              refine r_aload_n hC hl dX7_sheet_60 0 rfl ?_
              refine g_mo  (v := .ref (a (55))) hC hI 12 (by decide) fl_RX7_25 rfl rfl dX7_sheet_61 ?_
              refine r_iload_n hC hl dX7_sheet_64 1 rfl ?_
              refine r_iload_n hC hl dX7_sheet_65 2 rfl ?_
              refine r_iast (cx := 55) (n := 4) (F := fun S => S 26) hC hI (by decide) (fun _ => rfl) (by decide) ((w).toNat) (by omega) (by omega) (b := 26) (j := (w).toNat) rfl (fun q => by simp [up, setB, upR]) dX7_sheet_66 (fun H locs hI => ?_)
              refine r_aload_n hC hl dX7_sheet_67 0 rfl ?_
              refine g_mo  (v := .ref (a (56))) hC hI 13 (by decide) fl_RX7_28 rfl rfl dX7_sheet_68 ?_
              refine r_iload_n hC hl dX7_sheet_71 1 rfl ?_
              refine r_iload_n hC hl dX7_sheet_72 2 rfl ?_
              refine r_if_ne (tgt := 80) hC (by omega) dX7_sheet_73 (by decide) (fun c_17 => ?_) (fun c_17 => ?_)
              · skip
                refine r_iload_n hC hl dX7_sheet_80 3 rfl ?_
                refine r_iast (cx := 56) (n := 4) (F := fun S => S 27) hC hI (by decide) (fun _ => rfl) (by decide) ((w).toNat) (by omega) (by omega) (b := 27) (j := (w).toNat) rfl (fun q => by simp [up, setB, upR]) dX7_sheet_81 (fun H locs hI => ?_)
                refine r_iconst hC dX7_sheet_82 ?_
                refine r_istore (lv1 := [(4, .int (J 0)), (0, .ref (a (49))), (1, .int (J w)), (2, .int (J v)), (3, .int (J u))]) hC hl dX7_sheet_83 (by decide) rfl (fun ls hl => ?_)
                have hL85 : ∀ (fu : Nat) (q : Nat) (T : St) (x4 : Int), 40 - q < fu → (x4 = (q : Int)) → (q ≤ 40) → (T = setB (up (up S 26 w.toNat v) 27 w.toNat (if v = 0 then 0 else u)) 30 (sgF (S 30) (fun _ => 0) (40 * w.toNat) (q))) → ∀ (H : Heap) (locs : List Loc) (ls : Array Slot), IS X a B s (T) H locs → lv_has ls 5 [(4, .int (J x4)), (0, .ref (a (49))), (1, .int (J w))] → W p l e (rmD 2) s m [.ref (a (49)), .int (J w), .int (J v), .int (J u)].toArray below meth c H locs 0 0 (MQ below (Qi X a B (anF (if ¬ ((0 ≤ w ∧ w ≤ 3) ∧ (v = 0 ∨ v = 8 ∨ v = 16 ∨ v = 64)) then 0 else if u < 0 then 6 else if 40 < u then 0 else -1) (if v = 0 then 0 else u)) (fnF S 21 (if ¬ ((0 ≤ w ∧ w ≤ 3) ∧ (v = 0 ∨ v = 8 ∨ v = 16 ∨ v = 64)) then 0 else if u < 0 then 6 else if 40 < u then 0 else -1) (setB (up (up S 26 w.toNat v) 27 w.toNat (if v = 0 then 0 else u)) 30 (sgF (S 30) (fun _ => 0) (40 * w.toNat) (40))))) [.ref (a (49)), .int (J w), .int (J v), .int (J u)].toArray s 0 0 (fun q => B ≤ q)) (F0 m 85 ls []) := by
                  intro fu
                  induction fu with
                  | zero => intro q T x4 hm; exact absurd hm (Nat.not_lt_zero _)
                  | succ fu ih85 =>
                    intro q T x4 hm e4 hq hT H locs ls hI hl
                    subst e4
                    refine r_iload hC hl dX7_sheet_85 0 rfl ?_
                    refine r_bipush hC (by decide) dX7_sheet_87 ?_
                    refine r_icmp_ge (tgt := 111) hC (by omega) (by omega) dX7_sheet_89 (by decide) (fun c_18 => ?_) (fun c_18 => ?_)
                    · skip
                      refine r_aload_n hC hl dX7_sheet_111 1 rfl ?_
                      refine g_mo  (v := .ref (a (56))) hC hI 13 (by decide) fl_RX7_28 rfl rfl dX7_sheet_112 ?_
                      refine r_iload_n hC hl dX7_sheet_115 2 rfl ?_
                      refine r_iald (cx := 56) (n := 4) (f := (fun S => S 27) (T)) (v := T 27 ((w).toNat)) hC hI (by decide) rfl (by decide) ((w).toNat) (by omega) (by omega) rfl dX7_sheet_116 ?_
                      refine r_as (y := if v = 0 then 0 else u) hC (by rw [hT, setB_ne _ _ (by omega), up_at]) ?_
                      exact r_iret hC hr hlk hI (an_n (by (repeat' split) <;> first | rfl | omega) (rfl)) (fn_n (by (repeat' split) <;> first | rfl | omega) (by rw [hT, show q = 40 by omega])) dX7_sheet_117
                    · skip
                      refine r_aload_n hC hl dX7_sheet_92 1 rfl ?_
                      refine g_mo  (v := .ref (a (57))) hC hI 14 (by decide) fl_RX7_31 rfl rfl dX7_sheet_93 ?_
                      refine r_bipush hC (by decide) dX7_sheet_96 ?_
                      refine r_iload_n hC hl dX7_sheet_98 2 rfl ?_
                      refine r_imul hC dX7_sheet_99 ?_
                      refine r_iload hC hl dX7_sheet_100 0 rfl ?_
                      refine r_iadd hC dX7_sheet_102 ?_
                      refine r_as (y := ((40 * w.toNat + q : Nat) : Int)) hC (by omega) ?_
                      refine r_lconst (x := 0) hC rfl dX7_sheet_103 ?_
                      refine r_last (cx := 57) (n := 160) (F := fun S => S 30) hC hI (by decide) (fun _ => rfl) (by decide) (40 * w.toNat + q) (by omega) (by omega) (b := 30) (j := 40 * w.toNat + q) rfl (fun q => by simp [up, setB, upR]) dX7_sheet_104 (fun H locs hI => ?_)
                      refine r_iinc (lv1 := [(4, .int (J ((q : Int) + 1))), (0, .ref (a (49))), (1, .int (J w))]) hC hl dX7_sheet_105 0 rfl (by decide) rfl (fun ls hl => ?_)
                      refine r_goto (tgt := 85) hC dX7_sheet_108 (by decide) ?_
                      exact ih85 (q + 1) (up T 30 (40 * w.toNat + q) 0) ((q : Int) + 1) (by omega) (by omega) (by omega) (by rw [hT, up_set]; exact congrArg _ (sg_up (S 30) (fun _ => 0) (40 * w.toNat) q rfl)) _ _ _ hI (lv_sub hl [0, 1, 2] rfl)
                exact hL85 _ 0 _ 0 (Nat.lt_succ_self _) (by omega) (by omega) (by rw [sg_0]; first | (exfalso; omega) | (rw [if_pos (by omega)]; exact stB (by rw [up_nb _ _ (by omega), up_nb _ _ (by omega)])) | (rw [if_neg (by omega)]; exact stB (by rw [up_nb _ _ (by omega), up_nb _ _ (by omega)]))) _ _ _ hI (lv_sub hl [0, 1, 2] rfl)
              · skip
                refine r_iconst hC dX7_sheet_76 ?_
                refine r_goto (tgt := 81) hC dX7_sheet_77 (by decide) ?_
                refine r_iast (cx := 56) (n := 4) (F := fun S => S 27) hC hI (by decide) (fun _ => rfl) (by decide) ((w).toNat) (by omega) (by omega) (b := 27) (j := (w).toNat) rfl (fun q => by simp [up, setB, upR]) dX7_sheet_81 (fun H locs hI => ?_)
                refine r_iconst hC dX7_sheet_82 ?_
                refine r_istore (lv1 := [(4, .int (J 0)), (0, .ref (a (49))), (1, .int (J w)), (2, .int (J v)), (3, .int (J u))]) hC hl dX7_sheet_83 (by decide) rfl (fun ls hl => ?_)
                have hL85 : ∀ (fu : Nat) (q : Nat) (T : St) (x4 : Int), 40 - q < fu → (x4 = (q : Int)) → (q ≤ 40) → (T = setB (up (up S 26 w.toNat v) 27 w.toNat (if v = 0 then 0 else u)) 30 (sgF (S 30) (fun _ => 0) (40 * w.toNat) (q))) → ∀ (H : Heap) (locs : List Loc) (ls : Array Slot), IS X a B s (T) H locs → lv_has ls 5 [(4, .int (J x4)), (0, .ref (a (49))), (1, .int (J w))] → W p l e (rmD 2) s m [.ref (a (49)), .int (J w), .int (J v), .int (J u)].toArray below meth c H locs 0 0 (MQ below (Qi X a B (anF (if ¬ ((0 ≤ w ∧ w ≤ 3) ∧ (v = 0 ∨ v = 8 ∨ v = 16 ∨ v = 64)) then 0 else if u < 0 then 6 else if 40 < u then 0 else -1) (if v = 0 then 0 else u)) (fnF S 21 (if ¬ ((0 ≤ w ∧ w ≤ 3) ∧ (v = 0 ∨ v = 8 ∨ v = 16 ∨ v = 64)) then 0 else if u < 0 then 6 else if 40 < u then 0 else -1) (setB (up (up S 26 w.toNat v) 27 w.toNat (if v = 0 then 0 else u)) 30 (sgF (S 30) (fun _ => 0) (40 * w.toNat) (40))))) [.ref (a (49)), .int (J w), .int (J v), .int (J u)].toArray s 0 0 (fun q => B ≤ q)) (F0 m 85 ls []) := by
                  intro fu
                  induction fu with
                  | zero => intro q T x4 hm; exact absurd hm (Nat.not_lt_zero _)
                  | succ fu ih85 =>
                    intro q T x4 hm e4 hq hT H locs ls hI hl
                    subst e4
                    refine r_iload hC hl dX7_sheet_85 0 rfl ?_
                    refine r_bipush hC (by decide) dX7_sheet_87 ?_
                    refine r_icmp_ge (tgt := 111) hC (by omega) (by omega) dX7_sheet_89 (by decide) (fun c_19 => ?_) (fun c_19 => ?_)
                    · skip
                      refine r_aload_n hC hl dX7_sheet_111 1 rfl ?_
                      refine g_mo  (v := .ref (a (56))) hC hI 13 (by decide) fl_RX7_28 rfl rfl dX7_sheet_112 ?_
                      refine r_iload_n hC hl dX7_sheet_115 2 rfl ?_
                      refine r_iald (cx := 56) (n := 4) (f := (fun S => S 27) (T)) (v := T 27 ((w).toNat)) hC hI (by decide) rfl (by decide) ((w).toNat) (by omega) (by omega) rfl dX7_sheet_116 ?_
                      refine r_as (y := if v = 0 then 0 else u) hC (by rw [hT, setB_ne _ _ (by omega), up_at]) ?_
                      exact r_iret hC hr hlk hI (an_n (by (repeat' split) <;> first | rfl | omega) (rfl)) (fn_n (by (repeat' split) <;> first | rfl | omega) (by rw [hT, show q = 40 by omega])) dX7_sheet_117
                    · skip
                      refine r_aload_n hC hl dX7_sheet_92 1 rfl ?_
                      refine g_mo  (v := .ref (a (57))) hC hI 14 (by decide) fl_RX7_31 rfl rfl dX7_sheet_93 ?_
                      refine r_bipush hC (by decide) dX7_sheet_96 ?_
                      refine r_iload_n hC hl dX7_sheet_98 2 rfl ?_
                      refine r_imul hC dX7_sheet_99 ?_
                      refine r_iload hC hl dX7_sheet_100 0 rfl ?_
                      refine r_iadd hC dX7_sheet_102 ?_
                      refine r_as (y := ((40 * w.toNat + q : Nat) : Int)) hC (by omega) ?_
                      refine r_lconst (x := 0) hC rfl dX7_sheet_103 ?_
                      refine r_last (cx := 57) (n := 160) (F := fun S => S 30) hC hI (by decide) (fun _ => rfl) (by decide) (40 * w.toNat + q) (by omega) (by omega) (b := 30) (j := 40 * w.toNat + q) rfl (fun q => by simp [up, setB, upR]) dX7_sheet_104 (fun H locs hI => ?_)
                      refine r_iinc (lv1 := [(4, .int (J ((q : Int) + 1))), (0, .ref (a (49))), (1, .int (J w))]) hC hl dX7_sheet_105 0 rfl (by decide) rfl (fun ls hl => ?_)
                      refine r_goto (tgt := 85) hC dX7_sheet_108 (by decide) ?_
                      exact ih85 (q + 1) (up T 30 (40 * w.toNat + q) 0) ((q : Int) + 1) (by omega) (by omega) (by omega) (by rw [hT, up_set]; exact congrArg _ (sg_up (S 30) (fun _ => 0) (40 * w.toNat) q rfl)) _ _ _ hI (lv_sub hl [0, 1, 2] rfl)
                exact hL85 _ 0 _ 0 (Nat.lt_succ_self _) (by omega) (by omega) (by rw [sg_0]; first | (exfalso; omega) | (rw [if_pos (by omega)]; exact stB (by rw [up_nb _ _ (by omega), up_nb _ _ (by omega)])) | (rw [if_neg (by omega)]; exact stB (by rw [up_nb _ _ (by omega), up_nb _ _ (by omega)]))) _ _ _ hI (lv_sub hl [0, 1, 2] rfl)
            · skip
              refine r_aload_n hC hl dX7_sheet_53 0 rfl ?_
              refine r_ldc (x := (-1000000001)) hC ct_RX7_44 (by decide) dX7_sheet_54 ?_
              refine r_cVi hC hI hl [.int (J (-1000000001))] [] (c_X7_finds0 l X a B S  ) ml_RX7_57 ev_X7_finds (rc_mo (S := S) hC hI) ⟨Nat.le_of_ble_eq_true rfl, Nat.le_of_ble_eq_true rfl⟩ ⟨Nat.zero_le _, Nat.zero_le _⟩ (Nat.le_of_ble_eq_true rfl) rfl dX7_sheet_56 (fun H locs hI => ?_)
              exact r_iret hC hr hlk hI (an_f 0 (by (repeat' split) <;> first | rfl | omega)) (fn_f 0 (by (repeat' split) <;> first | rfl | omega)) dX7_sheet_59
          · skip
            refine r_aload_n hC hl dX7_sheet_40 0 rfl ?_
            refine r_ldc (x := (-1000000007)) hC ct_RX7_218 (by decide) dX7_sheet_41 ?_
            refine r_cVi hC hI hl [.int (J (-1000000007))] [] (c_X7_finds6 l X a B S  ) ml_RX7_57 ev_X7_finds (rc_mo (S := S) hC hI) ⟨Nat.le_of_ble_eq_true rfl, Nat.le_of_ble_eq_true rfl⟩ ⟨Nat.zero_le _, Nat.zero_le _⟩ (Nat.le_of_ble_eq_true rfl) rfl dX7_sheet_43 (fun H locs hI => ?_)
            exact r_iret hC hr hlk hI (an_f 6 (by (repeat' split) <;> first | rfl | omega)) (fn_f 6 (by (repeat' split) <;> first | rfl | omega)) dX7_sheet_46
        · skip
          refine r_iload_n hC hl dX7_sheet_23 2 rfl ?_
          refine r_bipush hC (by decide) dX7_sheet_24 ?_
          refine r_icmp_eq (tgt := 36) hC (by omega) (by omega) dX7_sheet_26 (by decide) (fun c_20 => ?_) (fun c_20 => ?_)
          · skip
            refine r_iload_n hC hl dX7_sheet_36 3 rfl ?_
            refine r_if_ge (tgt := 47) hC (by omega) dX7_sheet_37 (by decide) (fun c_21 => ?_) (fun c_21 => ?_)
            · skip
              refine r_iload_n hC hl dX7_sheet_47 3 rfl ?_
              refine r_bipush hC (by decide) dX7_sheet_48 ?_
              refine r_icmp_le (tgt := 60) hC (by omega) (by omega) dX7_sheet_50 (by decide) (fun c_22 => ?_) (fun c_22 => ?_)
              · skip
                refine r_aload_n hC hl dX7_sheet_60 0 rfl ?_
                refine g_mo  (v := .ref (a (55))) hC hI 12 (by decide) fl_RX7_25 rfl rfl dX7_sheet_61 ?_
                refine r_iload_n hC hl dX7_sheet_64 1 rfl ?_
                refine r_iload_n hC hl dX7_sheet_65 2 rfl ?_
                refine r_iast (cx := 55) (n := 4) (F := fun S => S 26) hC hI (by decide) (fun _ => rfl) (by decide) ((w).toNat) (by omega) (by omega) (b := 26) (j := (w).toNat) rfl (fun q => by simp [up, setB, upR]) dX7_sheet_66 (fun H locs hI => ?_)
                refine r_aload_n hC hl dX7_sheet_67 0 rfl ?_
                refine g_mo  (v := .ref (a (56))) hC hI 13 (by decide) fl_RX7_28 rfl rfl dX7_sheet_68 ?_
                refine r_iload_n hC hl dX7_sheet_71 1 rfl ?_
                refine r_iload_n hC hl dX7_sheet_72 2 rfl ?_
                refine r_if_ne (tgt := 80) hC (by omega) dX7_sheet_73 (by decide) (fun c_23 => ?_) (fun c_23 => ?_)
                · skip
                  refine r_iload_n hC hl dX7_sheet_80 3 rfl ?_
                  refine r_iast (cx := 56) (n := 4) (F := fun S => S 27) hC hI (by decide) (fun _ => rfl) (by decide) ((w).toNat) (by omega) (by omega) (b := 27) (j := (w).toNat) rfl (fun q => by simp [up, setB, upR]) dX7_sheet_81 (fun H locs hI => ?_)
                  refine r_iconst hC dX7_sheet_82 ?_
                  refine r_istore (lv1 := [(4, .int (J 0)), (0, .ref (a (49))), (1, .int (J w)), (2, .int (J v)), (3, .int (J u))]) hC hl dX7_sheet_83 (by decide) rfl (fun ls hl => ?_)
                  have hL85 : ∀ (fu : Nat) (q : Nat) (T : St) (x4 : Int), 40 - q < fu → (x4 = (q : Int)) → (q ≤ 40) → (T = setB (up (up S 26 w.toNat v) 27 w.toNat (if v = 0 then 0 else u)) 30 (sgF (S 30) (fun _ => 0) (40 * w.toNat) (q))) → ∀ (H : Heap) (locs : List Loc) (ls : Array Slot), IS X a B s (T) H locs → lv_has ls 5 [(4, .int (J x4)), (0, .ref (a (49))), (1, .int (J w))] → W p l e (rmD 2) s m [.ref (a (49)), .int (J w), .int (J v), .int (J u)].toArray below meth c H locs 0 0 (MQ below (Qi X a B (anF (if ¬ ((0 ≤ w ∧ w ≤ 3) ∧ (v = 0 ∨ v = 8 ∨ v = 16 ∨ v = 64)) then 0 else if u < 0 then 6 else if 40 < u then 0 else -1) (if v = 0 then 0 else u)) (fnF S 21 (if ¬ ((0 ≤ w ∧ w ≤ 3) ∧ (v = 0 ∨ v = 8 ∨ v = 16 ∨ v = 64)) then 0 else if u < 0 then 6 else if 40 < u then 0 else -1) (setB (up (up S 26 w.toNat v) 27 w.toNat (if v = 0 then 0 else u)) 30 (sgF (S 30) (fun _ => 0) (40 * w.toNat) (40))))) [.ref (a (49)), .int (J w), .int (J v), .int (J u)].toArray s 0 0 (fun q => B ≤ q)) (F0 m 85 ls []) := by
                    intro fu
                    induction fu with
                    | zero => intro q T x4 hm; exact absurd hm (Nat.not_lt_zero _)
                    | succ fu ih85 =>
                      intro q T x4 hm e4 hq hT H locs ls hI hl
                      subst e4
                      refine r_iload hC hl dX7_sheet_85 0 rfl ?_
                      refine r_bipush hC (by decide) dX7_sheet_87 ?_
                      refine r_icmp_ge (tgt := 111) hC (by omega) (by omega) dX7_sheet_89 (by decide) (fun c_24 => ?_) (fun c_24 => ?_)
                      · skip
                        refine r_aload_n hC hl dX7_sheet_111 1 rfl ?_
                        refine g_mo  (v := .ref (a (56))) hC hI 13 (by decide) fl_RX7_28 rfl rfl dX7_sheet_112 ?_
                        refine r_iload_n hC hl dX7_sheet_115 2 rfl ?_
                        refine r_iald (cx := 56) (n := 4) (f := (fun S => S 27) (T)) (v := T 27 ((w).toNat)) hC hI (by decide) rfl (by decide) ((w).toNat) (by omega) (by omega) rfl dX7_sheet_116 ?_
                        refine r_as (y := if v = 0 then 0 else u) hC (by rw [hT, setB_ne _ _ (by omega), up_at]) ?_
                        exact r_iret hC hr hlk hI (an_n (by (repeat' split) <;> first | rfl | omega) (rfl)) (fn_n (by (repeat' split) <;> first | rfl | omega) (by rw [hT, show q = 40 by omega])) dX7_sheet_117
                      · skip
                        refine r_aload_n hC hl dX7_sheet_92 1 rfl ?_
                        refine g_mo  (v := .ref (a (57))) hC hI 14 (by decide) fl_RX7_31 rfl rfl dX7_sheet_93 ?_
                        refine r_bipush hC (by decide) dX7_sheet_96 ?_
                        refine r_iload_n hC hl dX7_sheet_98 2 rfl ?_
                        refine r_imul hC dX7_sheet_99 ?_
                        refine r_iload hC hl dX7_sheet_100 0 rfl ?_
                        refine r_iadd hC dX7_sheet_102 ?_
                        refine r_as (y := ((40 * w.toNat + q : Nat) : Int)) hC (by omega) ?_
                        refine r_lconst (x := 0) hC rfl dX7_sheet_103 ?_
                        refine r_last (cx := 57) (n := 160) (F := fun S => S 30) hC hI (by decide) (fun _ => rfl) (by decide) (40 * w.toNat + q) (by omega) (by omega) (b := 30) (j := 40 * w.toNat + q) rfl (fun q => by simp [up, setB, upR]) dX7_sheet_104 (fun H locs hI => ?_)
                        refine r_iinc (lv1 := [(4, .int (J ((q : Int) + 1))), (0, .ref (a (49))), (1, .int (J w))]) hC hl dX7_sheet_105 0 rfl (by decide) rfl (fun ls hl => ?_)
                        refine r_goto (tgt := 85) hC dX7_sheet_108 (by decide) ?_
                        exact ih85 (q + 1) (up T 30 (40 * w.toNat + q) 0) ((q : Int) + 1) (by omega) (by omega) (by omega) (by rw [hT, up_set]; exact congrArg _ (sg_up (S 30) (fun _ => 0) (40 * w.toNat) q rfl)) _ _ _ hI (lv_sub hl [0, 1, 2] rfl)
                  exact hL85 _ 0 _ 0 (Nat.lt_succ_self _) (by omega) (by omega) (by rw [sg_0]; first | (exfalso; omega) | (rw [if_pos (by omega)]; exact stB (by rw [up_nb _ _ (by omega), up_nb _ _ (by omega)])) | (rw [if_neg (by omega)]; exact stB (by rw [up_nb _ _ (by omega), up_nb _ _ (by omega)]))) _ _ _ hI (lv_sub hl [0, 1, 2] rfl)
                · skip
                  refine r_iconst hC dX7_sheet_76 ?_
                  refine r_goto (tgt := 81) hC dX7_sheet_77 (by decide) ?_
                  refine r_iast (cx := 56) (n := 4) (F := fun S => S 27) hC hI (by decide) (fun _ => rfl) (by decide) ((w).toNat) (by omega) (by omega) (b := 27) (j := (w).toNat) rfl (fun q => by simp [up, setB, upR]) dX7_sheet_81 (fun H locs hI => ?_)
                  refine r_iconst hC dX7_sheet_82 ?_
                  refine r_istore (lv1 := [(4, .int (J 0)), (0, .ref (a (49))), (1, .int (J w)), (2, .int (J v)), (3, .int (J u))]) hC hl dX7_sheet_83 (by decide) rfl (fun ls hl => ?_)
                  have hL85 : ∀ (fu : Nat) (q : Nat) (T : St) (x4 : Int), 40 - q < fu → (x4 = (q : Int)) → (q ≤ 40) → (T = setB (up (up S 26 w.toNat v) 27 w.toNat (if v = 0 then 0 else u)) 30 (sgF (S 30) (fun _ => 0) (40 * w.toNat) (q))) → ∀ (H : Heap) (locs : List Loc) (ls : Array Slot), IS X a B s (T) H locs → lv_has ls 5 [(4, .int (J x4)), (0, .ref (a (49))), (1, .int (J w))] → W p l e (rmD 2) s m [.ref (a (49)), .int (J w), .int (J v), .int (J u)].toArray below meth c H locs 0 0 (MQ below (Qi X a B (anF (if ¬ ((0 ≤ w ∧ w ≤ 3) ∧ (v = 0 ∨ v = 8 ∨ v = 16 ∨ v = 64)) then 0 else if u < 0 then 6 else if 40 < u then 0 else -1) (if v = 0 then 0 else u)) (fnF S 21 (if ¬ ((0 ≤ w ∧ w ≤ 3) ∧ (v = 0 ∨ v = 8 ∨ v = 16 ∨ v = 64)) then 0 else if u < 0 then 6 else if 40 < u then 0 else -1) (setB (up (up S 26 w.toNat v) 27 w.toNat (if v = 0 then 0 else u)) 30 (sgF (S 30) (fun _ => 0) (40 * w.toNat) (40))))) [.ref (a (49)), .int (J w), .int (J v), .int (J u)].toArray s 0 0 (fun q => B ≤ q)) (F0 m 85 ls []) := by
                    intro fu
                    induction fu with
                    | zero => intro q T x4 hm; exact absurd hm (Nat.not_lt_zero _)
                    | succ fu ih85 =>
                      intro q T x4 hm e4 hq hT H locs ls hI hl
                      subst e4
                      refine r_iload hC hl dX7_sheet_85 0 rfl ?_
                      refine r_bipush hC (by decide) dX7_sheet_87 ?_
                      refine r_icmp_ge (tgt := 111) hC (by omega) (by omega) dX7_sheet_89 (by decide) (fun c_25 => ?_) (fun c_25 => ?_)
                      · skip
                        refine r_aload_n hC hl dX7_sheet_111 1 rfl ?_
                        refine g_mo  (v := .ref (a (56))) hC hI 13 (by decide) fl_RX7_28 rfl rfl dX7_sheet_112 ?_
                        refine r_iload_n hC hl dX7_sheet_115 2 rfl ?_
                        refine r_iald (cx := 56) (n := 4) (f := (fun S => S 27) (T)) (v := T 27 ((w).toNat)) hC hI (by decide) rfl (by decide) ((w).toNat) (by omega) (by omega) rfl dX7_sheet_116 ?_
                        refine r_as (y := if v = 0 then 0 else u) hC (by rw [hT, setB_ne _ _ (by omega), up_at]) ?_
                        exact r_iret hC hr hlk hI (an_n (by (repeat' split) <;> first | rfl | omega) (rfl)) (fn_n (by (repeat' split) <;> first | rfl | omega) (by rw [hT, show q = 40 by omega])) dX7_sheet_117
                      · skip
                        refine r_aload_n hC hl dX7_sheet_92 1 rfl ?_
                        refine g_mo  (v := .ref (a (57))) hC hI 14 (by decide) fl_RX7_31 rfl rfl dX7_sheet_93 ?_
                        refine r_bipush hC (by decide) dX7_sheet_96 ?_
                        refine r_iload_n hC hl dX7_sheet_98 2 rfl ?_
                        refine r_imul hC dX7_sheet_99 ?_
                        refine r_iload hC hl dX7_sheet_100 0 rfl ?_
                        refine r_iadd hC dX7_sheet_102 ?_
                        refine r_as (y := ((40 * w.toNat + q : Nat) : Int)) hC (by omega) ?_
                        refine r_lconst (x := 0) hC rfl dX7_sheet_103 ?_
                        refine r_last (cx := 57) (n := 160) (F := fun S => S 30) hC hI (by decide) (fun _ => rfl) (by decide) (40 * w.toNat + q) (by omega) (by omega) (b := 30) (j := 40 * w.toNat + q) rfl (fun q => by simp [up, setB, upR]) dX7_sheet_104 (fun H locs hI => ?_)
                        refine r_iinc (lv1 := [(4, .int (J ((q : Int) + 1))), (0, .ref (a (49))), (1, .int (J w))]) hC hl dX7_sheet_105 0 rfl (by decide) rfl (fun ls hl => ?_)
                        refine r_goto (tgt := 85) hC dX7_sheet_108 (by decide) ?_
                        exact ih85 (q + 1) (up T 30 (40 * w.toNat + q) 0) ((q : Int) + 1) (by omega) (by omega) (by omega) (by rw [hT, up_set]; exact congrArg _ (sg_up (S 30) (fun _ => 0) (40 * w.toNat) q rfl)) _ _ _ hI (lv_sub hl [0, 1, 2] rfl)
                  exact hL85 _ 0 _ 0 (Nat.lt_succ_self _) (by omega) (by omega) (by rw [sg_0]; first | (exfalso; omega) | (rw [if_pos (by omega)]; exact stB (by rw [up_nb _ _ (by omega), up_nb _ _ (by omega)])) | (rw [if_neg (by omega)]; exact stB (by rw [up_nb _ _ (by omega), up_nb _ _ (by omega)]))) _ _ _ hI (lv_sub hl [0, 1, 2] rfl)
              · skip
                refine r_aload_n hC hl dX7_sheet_53 0 rfl ?_
                refine r_ldc (x := (-1000000001)) hC ct_RX7_44 (by decide) dX7_sheet_54 ?_
                refine r_cVi hC hI hl [.int (J (-1000000001))] [] (c_X7_finds0 l X a B S  ) ml_RX7_57 ev_X7_finds (rc_mo (S := S) hC hI) ⟨Nat.le_of_ble_eq_true rfl, Nat.le_of_ble_eq_true rfl⟩ ⟨Nat.zero_le _, Nat.zero_le _⟩ (Nat.le_of_ble_eq_true rfl) rfl dX7_sheet_56 (fun H locs hI => ?_)
                exact r_iret hC hr hlk hI (an_f 0 (by (repeat' split) <;> first | rfl | omega)) (fn_f 0 (by (repeat' split) <;> first | rfl | omega)) dX7_sheet_59
            · skip
              refine r_aload_n hC hl dX7_sheet_40 0 rfl ?_
              refine r_ldc (x := (-1000000007)) hC ct_RX7_218 (by decide) dX7_sheet_41 ?_
              refine r_cVi hC hI hl [.int (J (-1000000007))] [] (c_X7_finds6 l X a B S  ) ml_RX7_57 ev_X7_finds (rc_mo (S := S) hC hI) ⟨Nat.le_of_ble_eq_true rfl, Nat.le_of_ble_eq_true rfl⟩ ⟨Nat.zero_le _, Nat.zero_le _⟩ (Nat.le_of_ble_eq_true rfl) rfl dX7_sheet_43 (fun H locs hI => ?_)
              exact r_iret hC hr hlk hI (an_f 6 (by (repeat' split) <;> first | rfl | omega)) (fn_f 6 (by (repeat' split) <;> first | rfl | omega)) dX7_sheet_46
          · skip
            refine r_aload_n hC hl dX7_sheet_29 0 rfl ?_
            refine r_ldc (x := (-1000000001)) hC ct_RX7_44 (by decide) dX7_sheet_30 ?_
            refine r_cVi hC hI hl [.int (J (-1000000001))] [] (c_X7_finds0 l X a B S  ) ml_RX7_57 ev_X7_finds (rc_mo (S := S) hC hI) ⟨Nat.le_of_ble_eq_true rfl, Nat.le_of_ble_eq_true rfl⟩ ⟨Nat.zero_le _, Nat.zero_le _⟩ (Nat.le_of_ble_eq_true rfl) rfl dX7_sheet_32 (fun H locs hI => ?_)
            exact r_iret hC hr hlk hI (an_f 0 (by (repeat' split) <;> first | rfl | omega)) (fn_f 0 (by (repeat' split) <;> first | rfl | omega)) dX7_sheet_35

set_option maxHeartbeats 4000000 in
set_option maxRecDepth 100000 in
theorem c_X7_write (l : Launch) (X : XT) (a : Nat → Nat) (B : Nat) (S : St) (w : Int) (v : Int) (x : Int) (hw : -2147483648 ≤ w ∧ w ≤ 2147483647) (hv : -2147483648 ≤ v ∧ v ≤ 2147483647) (hSm : ∀ t, t < 4 → (S 26 t = 0 ∨ S 26 t = 8 ∨ S 26 t = 16 ∨ S 26 t = 64) ∧ 0 ≤ S 27 t ∧ S 27 t ≤ 40) : CT l X a B 2 yX7_write cX7_write 7 (some .long) [.ref (a (49)), .int (J w), .int (J v), .long (JL x)] S (Ql X a B (anF (if ¬ (0 ≤ w ∧ w ≤ 3) then 0 else if S 26 w.toNat = 0 then 5 else if ¬ (0 ≤ v ∧ v ≤ S 27 w.toNat - 1) then 0 else -1) ((fun j => S 30 (40 * w.toNat + j)) v.toNat)) (fnF S 21 (if ¬ (0 ≤ w ∧ w ≤ 3) then 0 else if S 26 w.toNat = 0 then 5 else if ¬ (0 ≤ v ∧ v ≤ S 27 w.toNat - 1) then 0 else -1) (up S 30 (40 * w.toNat + v.toNat) (lbF (S 26 w.toNat) x)))) := by
  refine CT.of (by decide +kernel) (Nat.le_of_ble_eq_true rfl) ?_
  intro p e s m below meth c ls hC hr hlk hI hl
  have hC : Cx p c cX7_write 7 s m [.ref (a (49)), .int (J w), .int (J v), .long (JL x)].toArray RX7 X B := hC
  have hl : lv_has ls 7 [(0, .ref (a (49))), (1, .int (J w)), (2, .int (J v)), (3, .long (JL x))] := hl
  refine r_iload_n hC hl dX7_write_0 1 rfl ?_
  refine r_cSi hC hI hl [.int (J w)] [] (c_X7_isSheet l X a B S w (by omega)) ml_RX7_215 es_X7_isSheet ⟨Nat.le_of_ble_eq_true rfl, Nat.le_of_ble_eq_true rfl⟩ ⟨Nat.zero_le _, Nat.zero_le _⟩ (Nat.le_of_ble_eq_true rfl) rfl dX7_write_1 (fun H locs hI => ?_)
  refine r_b_ne (tgt := 15) hC dX7_write_4 (by decide) (fun c_1 => ?_) (fun c_1 => ?_)
  · skip
    obtain ⟨hb4w, hlenw⟩ := hSm w.toNat (by omega)
    refine r_aload_n hC hl dX7_write_15 0 rfl ?_
    refine g_mo  (v := .ref (a (55))) hC hI 12 (by decide) fl_RX7_25 rfl rfl dX7_write_16 ?_
    refine r_iload_n hC hl dX7_write_19 1 rfl ?_
    refine r_iald (cx := 55) (n := 4) (f := (fun S => S 26) (S)) (v := S 26 ((w).toNat)) hC hI (by decide) rfl (by decide) ((w).toNat) (by omega) (by omega) rfl dX7_write_20 ?_
    refine r_if_ne (tgt := 32) hC (by omega) dX7_write_21 (by decide) (fun c_2 => ?_) (fun c_2 => ?_)
    · skip
      refine r_iload_n hC hl dX7_write_32 2 rfl ?_
      refine r_iconst hC dX7_write_33 ?_
      refine r_aload_n hC hl dX7_write_34 0 rfl ?_
      refine g_mo  (v := .ref (a (56))) hC hI 13 (by decide) fl_RX7_28 rfl rfl dX7_write_35 ?_
      refine r_iload_n hC hl dX7_write_38 1 rfl ?_
      refine r_iald (cx := 56) (n := 4) (f := (fun S => S 27) (S)) (v := S 27 ((w).toNat)) hC hI (by decide) rfl (by decide) ((w).toNat) (by omega) (by omega) rfl dX7_write_39 ?_
      refine r_iconst hC dX7_write_40 ?_
      refine r_isub hC dX7_write_41 ?_
      refine r_cSi hC hI hl [.int (J v), .int (J 0), .int (J ((S 27 ((w).toNat)) - 1))] [] (c_X7_in l X a B S v 0 ((S 27 ((w).toNat)) - 1) (by omega) (by omega) (by omega)) ml_RX7_45 es_X7_in ⟨Nat.le_of_ble_eq_true rfl, Nat.le_of_ble_eq_true rfl⟩ ⟨Nat.zero_le _, Nat.zero_le _⟩ (Nat.le_of_ble_eq_true rfl) rfl dX7_write_42 (fun H locs hI => ?_)
      refine r_b_ne (tgt := 56) hC dX7_write_45 (by decide) (fun c_3 => ?_) (fun c_3 => ?_)
      · skip
        refine r_aload_n hC hl dX7_write_56 0 rfl ?_
        refine g_mo  (v := .ref (a (57))) hC hI 14 (by decide) fl_RX7_31 rfl rfl dX7_write_57 ?_
        refine r_bipush hC (by decide) dX7_write_60 ?_
        refine r_iload_n hC hl dX7_write_62 1 rfl ?_
        refine r_imul hC dX7_write_63 ?_
        refine r_iload_n hC hl dX7_write_64 2 rfl ?_
        refine r_iadd hC dX7_write_65 ?_
        refine r_as (y := ((40 * w.toNat + v.toNat : Nat) : Int)) hC (by omega) ?_
        refine r_lald (cx := 57) (n := 160) (f := (fun S => S 30) (S)) (v := S 30 (40 * w.toNat + v.toNat)) hC hI (by decide) rfl (by decide) (40 * w.toNat + v.toNat) (by omega) (by omega) rfl dX7_write_66 ?_
        refine r_lstore (lv1 := [(5, .long (JL (S 30 (40 * w.toNat + v.toNat)))), (0, .ref (a (49))), (1, .int (J w)), (2, .int (J v)), (3, .long (JL x))]) hC hl dX7_write_67 (by decide) rfl (fun ls hl => ?_)
        refine r_aload_n hC hl dX7_write_69 1 rfl ?_
        refine g_mo  (v := .ref (a (57))) hC hI 14 (by decide) fl_RX7_31 rfl rfl dX7_write_70 ?_
        refine r_bipush hC (by decide) dX7_write_73 ?_
        refine r_iload_n hC hl dX7_write_75 2 rfl ?_
        refine r_imul hC dX7_write_76 ?_
        refine r_iload_n hC hl dX7_write_77 3 rfl ?_
        refine r_iadd hC dX7_write_78 ?_
        refine r_as (y := ((40 * w.toNat + v.toNat : Nat) : Int)) hC (by omega) ?_
        refine r_aload_n hC hl dX7_write_79 1 rfl ?_
        refine g_mo  (v := .ref (a (55))) hC hI 12 (by decide) fl_RX7_25 rfl rfl dX7_write_80 ?_
        refine r_iload_n hC hl dX7_write_83 2 rfl ?_
        refine r_iald (cx := 55) (n := 4) (f := (fun S => S 26) (S)) (v := S 26 ((w).toNat)) hC hI (by decide) rfl (by decide) ((w).toNat) (by omega) (by omega) rfl dX7_write_84 ?_
        refine r_lload_n hC hl dX7_write_85 4 rfl ?_
        refine r_cSl hC hI hl [.int (J (S 26 ((w).toNat))), .long (JL x)] [.int (J ((40 * w.toNat + v.toNat : Nat) : Int)), .ref (a (57))] (c_X7_narrow l X a B S (S 26 ((w).toNat)) x (by omega)) ml_RX7_220 es_X7_narrow ⟨Nat.le_of_ble_eq_true rfl, Nat.le_of_ble_eq_true rfl⟩ ⟨Nat.zero_le _, Nat.zero_le _⟩ (Nat.le_of_ble_eq_true rfl) rfl dX7_write_86 (fun H locs hI => ?_)
        refine r_last (cx := 57) (n := 160) (F := fun S => S 30) hC hI (by decide) (fun _ => rfl) (by decide) (40 * w.toNat + v.toNat) (by omega) (by omega) (b := 30) (j := 40 * w.toNat + v.toNat) rfl (fun q => by simp [up, setB, upR]) dX7_write_89 (fun H locs hI => ?_)
        refine r_lload hC hl dX7_write_90 0 rfl ?_
        exact r_lret hC hr hlk hI (an_n (by (repeat' split) <;> first | rfl | omega) rfl) (fn_n (by (repeat' split) <;> first | rfl | omega) rfl) dX7_write_92
      · skip
        refine r_aload_n hC hl dX7_write_48 0 rfl ?_
        refine r_ldc (x := (-1000000001)) hC ct_RX7_44 (by decide) dX7_write_49 ?_
        refine r_cVi hC hI hl [.int (J (-1000000001))] [] (c_X7_finds0 l X a B S  ) ml_RX7_57 ev_X7_finds (rc_mo (S := S) hC hI) ⟨Nat.le_of_ble_eq_true rfl, Nat.le_of_ble_eq_true rfl⟩ ⟨Nat.zero_le _, Nat.zero_le _⟩ (Nat.le_of_ble_eq_true rfl) rfl dX7_write_51 (fun H locs hI => ?_)
        refine r_i2l hC (by omega) dX7_write_54 ?_
        exact r_lret hC hr hlk hI (an_f 0 (by (repeat' split) <;> first | rfl | omega)) (fn_f 0 (by (repeat' split) <;> first | rfl | omega)) dX7_write_55
    · skip
      refine r_aload_n hC hl dX7_write_24 0 rfl ?_
      refine r_ldc (x := (-1000000006)) hC ct_RX7_219 (by decide) dX7_write_25 ?_
      refine r_cVi hC hI hl [.int (J (-1000000006))] [] (c_X7_finds5 l X a B S  ) ml_RX7_57 ev_X7_finds (rc_mo (S := S) hC hI) ⟨Nat.le_of_ble_eq_true rfl, Nat.le_of_ble_eq_true rfl⟩ ⟨Nat.zero_le _, Nat.zero_le _⟩ (Nat.le_of_ble_eq_true rfl) rfl dX7_write_27 (fun H locs hI => ?_)
      refine r_i2l hC (by omega) dX7_write_30 ?_
      exact r_lret hC hr hlk hI (an_f 5 (by (repeat' split) <;> first | rfl | omega)) (fn_f 5 (by (repeat' split) <;> first | rfl | omega)) dX7_write_31
  · skip
    refine r_aload_n hC hl dX7_write_7 0 rfl ?_
    refine r_ldc (x := (-1000000001)) hC ct_RX7_44 (by decide) dX7_write_8 ?_
    refine r_cVi hC hI hl [.int (J (-1000000001))] [] (c_X7_finds0 l X a B S  ) ml_RX7_57 ev_X7_finds (rc_mo (S := S) hC hI) ⟨Nat.le_of_ble_eq_true rfl, Nat.le_of_ble_eq_true rfl⟩ ⟨Nat.zero_le _, Nat.zero_le _⟩ (Nat.le_of_ble_eq_true rfl) rfl dX7_write_10 (fun H locs hI => ?_)
    refine r_i2l hC (by omega) dX7_write_13 ?_
    exact r_lret hC hr hlk hI (an_f 0 (by (repeat' split) <;> first | rfl | omega)) (fn_f 0 (by (repeat' split) <;> first | rfl | omega)) dX7_write_14

set_option maxHeartbeats 4000000 in
set_option maxRecDepth 100000 in
theorem c_X7_isPart_ (l : Launch) (X : XT) (a : Nat → Nat) (B : Nat) (S : St) (w : Int) (f : Int) (n : Int) (hw : 0 ≤ w ∧ w ≤ 3) (hlen : 0 ≤ S 27 w.toNat ∧ S 27 w.toNat ≤ 40) (hf : -2147483648 ≤ f ∧ f ≤ 2147483647) (hn : -2147483648 ≤ n ∧ n ≤ 2147483647) : CT l X a B 0 yX7_isPart_ cX7_isPart_ 4 (some .boolean) [.ref (a (49)), .int (J w), .int (J f), .int (J n)] S (Qi X a B (bI (0 ≤ f ∧ 0 ≤ n ∧ f ≤ S 27 w.toNat - n)) (S)) := by
  refine CT.of (by decide +kernel) (Nat.le_of_ble_eq_true rfl) ?_
  intro p e s m below meth c ls hC hr hlk hI hl
  have hC : Cx p c cX7_isPart_ 4 s m [.ref (a (49)), .int (J w), .int (J f), .int (J n)].toArray RX7 X B := hC
  have hl : lv_has ls 4 [(0, .ref (a (49))), (1, .int (J w)), (2, .int (J f)), (3, .int (J n))] := hl
  refine r_iload_n hC hl dX7_isPart__0 2 rfl ?_
  refine r_if_lt (tgt := 34) hC (by omega) dX7_isPart__1 (by decide) (fun c_1 => ?_) (fun c_1 => ?_)
  · skip
    refine r_iconst hC dX7_isPart__34 ?_
    exact r_zret hC hr hlk hI (by decide) ((bI_f (by omega)).symm) (rfl) dX7_isPart__35
  · skip
    refine r_iload_n hC hl dX7_isPart__4 3 rfl ?_
    refine r_if_lt (tgt := 34) hC (by omega) dX7_isPart__5 (by decide) (fun c_2 => ?_) (fun c_2 => ?_)
    · skip
      refine r_iconst hC dX7_isPart__34 ?_
      exact r_zret hC hr hlk hI (by decide) ((bI_f (by omega)).symm) (rfl) dX7_isPart__35
    · skip
      refine r_iload_n hC hl dX7_isPart__8 3 rfl ?_
      refine r_aload_n hC hl dX7_isPart__9 0 rfl ?_
      refine g_mo  (v := .ref (a (56))) hC hI 13 (by decide) fl_RX7_28 rfl rfl dX7_isPart__10 ?_
      refine r_iload_n hC hl dX7_isPart__13 1 rfl ?_
      refine r_iald (cx := 56) (n := 4) (f := (fun S => S 27) (S)) (v := S 27 ((w).toNat)) hC hI (by decide) rfl (by decide) ((w).toNat) (by omega) (by omega) rfl dX7_isPart__14 ?_
      refine r_icmp_gt (tgt := 34) hC (by omega) (by omega) dX7_isPart__15 (by decide) (fun c_3 => ?_) (fun c_3 => ?_)
      · skip
        refine r_iconst hC dX7_isPart__34 ?_
        exact r_zret hC hr hlk hI (by decide) ((bI_f (by omega)).symm) (rfl) dX7_isPart__35
      · skip
        refine r_iload_n hC hl dX7_isPart__18 2 rfl ?_
        refine r_aload_n hC hl dX7_isPart__19 0 rfl ?_
        refine g_mo  (v := .ref (a (56))) hC hI 13 (by decide) fl_RX7_28 rfl rfl dX7_isPart__20 ?_
        refine r_iload_n hC hl dX7_isPart__23 1 rfl ?_
        refine r_iald (cx := 56) (n := 4) (f := (fun S => S 27) (S)) (v := S 27 ((w).toNat)) hC hI (by decide) rfl (by decide) ((w).toNat) (by omega) (by omega) rfl dX7_isPart__24 ?_
        refine r_iload_n hC hl dX7_isPart__25 3 rfl ?_
        refine r_isub hC dX7_isPart__26 ?_
        refine r_icmp_gt (tgt := 34) hC (by omega) (by omega) dX7_isPart__27 (by decide) (fun c_4 => ?_) (fun c_4 => ?_)
        · skip
          refine r_iconst hC dX7_isPart__34 ?_
          exact r_zret hC hr hlk hI (by decide) ((bI_f (by omega)).symm) (rfl) dX7_isPart__35
        · skip
          refine r_iconst hC dX7_isPart__30 ?_
          refine r_goto (tgt := 35) hC dX7_isPart__31 (by decide) ?_
          exact r_zret hC hr hlk hI (by decide) ((bI_t (by omega)).symm) (rfl) dX7_isPart__35

set_option maxHeartbeats 4000000 in
set_option maxRecDepth 100000 in
theorem c_X7_copy (l : Launch) (X : XT) (a : Nat → Nat) (B : Nat) (S : St) (w : Int) (f : Int) (v : Int) (g : Int) (n : Int) (hV : VR 9999 (S 20)) (hw : -2147483648 ≤ w ∧ w ≤ 2147483647) (hf : -2147483648 ≤ f ∧ f ≤ 2147483647) (hv : -2147483648 ≤ v ∧ v ≤ 2147483647) (hg : -2147483648 ≤ g ∧ g ≤ 2147483647) (hn : -2147483648 ≤ n ∧ n ≤ 2147483647) (hSm : ∀ t, t < 4 → (S 26 t = 0 ∨ S 26 t = 8 ∨ S 26 t = 16 ∨ S 26 t = 64) ∧ 0 ≤ S 27 t ∧ S 27 t ≤ 40) : CT l X a B 2 yX7_copy cX7_copy 7 (some .int) [.ref (a (49)), .int (J w), .int (J f), .int (J v), .int (J g), .int (J n)] S (Qi X a B (anF (if ¬ ((0 ≤ w ∧ w ≤ 3) ∧ 0 ≤ v ∧ v ≤ 3) then 0 else if S 26 w.toNat = 0 ∨ S 26 v.toNat = 0 then 5 else if S 26 w.toNat ≠ S 26 v.toNat then 2 else if ¬ ((0 ≤ f ∧ 0 ≤ n ∧ f ≤ S 27 w.toNat - n) ∧ 0 ≤ g ∧ 0 ≤ n ∧ g ≤ S 27 v.toNat - n) then 0 else -1) (n)) (fnF S 21 (if ¬ ((0 ≤ w ∧ w ≤ 3) ∧ 0 ≤ v ∧ v ≤ 3) then 0 else if S 26 w.toNat = 0 ∨ S 26 v.toNat = 0 then 5 else if S 26 w.toNat ≠ S 26 v.toNat then 2 else if ¬ ((0 ≤ f ∧ 0 ≤ n ∧ f ≤ S 27 w.toNat - n) ∧ 0 ≤ g ∧ 0 ≤ n ∧ g ≤ S 27 v.toNat - n) then 0 else -1) (setB (setB S 31 (sgF (S 31) (fun i => S 30 (40 * w.toNat + f.toNat + i)) 0 (n.toNat))) 30 (sgF (S 30) (fun i => S 30 (40 * w.toNat + f.toNat + i)) (40 * v.toNat + g.toNat) (n.toNat))))) := by
  refine CT.of (by decide +kernel) (Nat.le_of_ble_eq_true rfl) ?_
  intro p e s m below meth c ls hC hr hlk hI hl
  have hC : Cx p c cX7_copy 7 s m [.ref (a (49)), .int (J w), .int (J f), .int (J v), .int (J g), .int (J n)].toArray RX7 X B := hC
  have hl : lv_has ls 7 [(0, .ref (a (49))), (1, .int (J w)), (2, .int (J f)), (3, .int (J v)), (4, .int (J g)), (5, .int (J n))] := hl
  obtain ⟨⟨hN, hBr, hBu, hIn, hLa, hPc⟩, hDk, hPg⟩ := id hV
  refine r_iload_n hC hl dX7_copy_0 1 rfl ?_
  refine r_cSi hC hI hl [.int (J w)] [] (c_X7_isSheet l X a B S w (by omega)) ml_RX7_215 es_X7_isSheet ⟨Nat.le_of_ble_eq_true rfl, Nat.le_of_ble_eq_true rfl⟩ ⟨Nat.zero_le _, Nat.zero_le _⟩ (Nat.le_of_ble_eq_true rfl) rfl dX7_copy_1 (fun H locs hI => ?_)
  refine r_b_eq (tgt := 14) hC dX7_copy_4 (by decide) (fun c_1 => ?_) (fun c_1 => ?_)
  · skip
    refine r_aload_n hC hl dX7_copy_14 0 rfl ?_
    refine r_ldc (x := (-1000000001)) hC ct_RX7_44 (by decide) dX7_copy_15 ?_
    refine r_cVi hC hI hl [.int (J (-1000000001))] [] (c_X7_finds0 l X a B S  ) ml_RX7_57 ev_X7_finds (rc_mo (S := S) hC hI) ⟨Nat.le_of_ble_eq_true rfl, Nat.le_of_ble_eq_true rfl⟩ ⟨Nat.zero_le _, Nat.zero_le _⟩ (Nat.le_of_ble_eq_true rfl) rfl dX7_copy_17 (fun H locs hI => ?_)
    exact r_iret hC hr hlk hI (an_f 0 (by (repeat' split) <;> first | rfl | omega)) (fn_f 0 (by (repeat' split) <;> first | rfl | omega)) dX7_copy_20
  · skip
    refine r_iload_n hC hl dX7_copy_7 3 rfl ?_
    refine r_cSi hC hI hl [.int (J v)] [] (c_X7_isSheet l X a B S v (by omega)) ml_RX7_215 es_X7_isSheet ⟨Nat.le_of_ble_eq_true rfl, Nat.le_of_ble_eq_true rfl⟩ ⟨Nat.zero_le _, Nat.zero_le _⟩ (Nat.le_of_ble_eq_true rfl) rfl dX7_copy_8 (fun H locs hI => ?_)
    refine r_b_ne (tgt := 21) hC dX7_copy_11 (by decide) (fun c_2 => ?_) (fun c_2 => ?_)
    · skip
      obtain ⟨hb4w, hlenw⟩ := hSm w.toNat (by omega)
      obtain ⟨hb4v, hlenv⟩ := hSm v.toNat (by omega)
      refine r_aload_n hC hl dX7_copy_21 0 rfl ?_
      refine g_mo  (v := .ref (a (55))) hC hI 12 (by decide) fl_RX7_25 rfl rfl dX7_copy_22 ?_
      refine r_iload_n hC hl dX7_copy_25 1 rfl ?_
      refine r_iald (cx := 55) (n := 4) (f := (fun S => S 26) (S)) (v := S 26 ((w).toNat)) hC hI (by decide) rfl (by decide) ((w).toNat) (by omega) (by omega) rfl dX7_copy_26 ?_
      refine r_if_eq (tgt := 39) hC (by omega) dX7_copy_27 (by decide) (fun c_3 => ?_) (fun c_3 => ?_)
      · skip
        refine r_aload_n hC hl dX7_copy_39 0 rfl ?_
        refine r_ldc (x := (-1000000006)) hC ct_RX7_219 (by decide) dX7_copy_40 ?_
        refine r_cVi hC hI hl [.int (J (-1000000006))] [] (c_X7_finds5 l X a B S  ) ml_RX7_57 ev_X7_finds (rc_mo (S := S) hC hI) ⟨Nat.le_of_ble_eq_true rfl, Nat.le_of_ble_eq_true rfl⟩ ⟨Nat.zero_le _, Nat.zero_le _⟩ (Nat.le_of_ble_eq_true rfl) rfl dX7_copy_42 (fun H locs hI => ?_)
        exact r_iret hC hr hlk hI (an_f 5 (by (repeat' split) <;> first | rfl | omega)) (fn_f 5 (by (repeat' split) <;> first | rfl | omega)) dX7_copy_45
      · skip
        refine r_aload_n hC hl dX7_copy_30 0 rfl ?_
        refine g_mo  (v := .ref (a (55))) hC hI 12 (by decide) fl_RX7_25 rfl rfl dX7_copy_31 ?_
        refine r_iload_n hC hl dX7_copy_34 3 rfl ?_
        refine r_iald (cx := 55) (n := 4) (f := (fun S => S 26) (S)) (v := S 26 ((v).toNat)) hC hI (by decide) rfl (by decide) ((v).toNat) (by omega) (by omega) rfl dX7_copy_35 ?_
        refine r_if_ne (tgt := 46) hC (by omega) dX7_copy_36 (by decide) (fun c_4 => ?_) (fun c_4 => ?_)
        · skip
          refine r_aload_n hC hl dX7_copy_46 0 rfl ?_
          refine g_mo  (v := .ref (a (55))) hC hI 12 (by decide) fl_RX7_25 rfl rfl dX7_copy_47 ?_
          refine r_iload_n hC hl dX7_copy_50 1 rfl ?_
          refine r_iald (cx := 55) (n := 4) (f := (fun S => S 26) (S)) (v := S 26 ((w).toNat)) hC hI (by decide) rfl (by decide) ((w).toNat) (by omega) (by omega) rfl dX7_copy_51 ?_
          refine r_aload_n hC hl dX7_copy_52 0 rfl ?_
          refine g_mo  (v := .ref (a (55))) hC hI 12 (by decide) fl_RX7_25 rfl rfl dX7_copy_53 ?_
          refine r_iload_n hC hl dX7_copy_56 3 rfl ?_
          refine r_iald (cx := 55) (n := 4) (f := (fun S => S 26) (S)) (v := S 26 ((v).toNat)) hC hI (by decide) rfl (by decide) ((v).toNat) (by omega) (by omega) rfl dX7_copy_57 ?_
          refine r_icmp_eq (tgt := 68) hC (by omega) (by omega) dX7_copy_58 (by decide) (fun c_5 => ?_) (fun c_5 => ?_)
          · skip
            refine r_aload_n hC hl dX7_copy_68 0 rfl ?_
            refine r_iload_n hC hl dX7_copy_69 1 rfl ?_
            refine r_iload_n hC hl dX7_copy_70 2 rfl ?_
            refine r_iload hC hl dX7_copy_71 5 rfl ?_
            refine r_cVi hC hI hl [.int (J w), .int (J f), .int (J n)] [] (c_X7_isPart_ l X a B S w f n (by omega) (hSm _ (by omega)).2 (by omega) (by omega)) ml_RX7_224 ev_X7_isPart_ (rc_mo (S := S) hC hI) ⟨Nat.le_of_ble_eq_true rfl, Nat.le_of_ble_eq_true rfl⟩ ⟨Nat.zero_le _, Nat.zero_le _⟩ (Nat.le_of_ble_eq_true rfl) rfl dX7_copy_73 (fun H locs hI => ?_)
            refine r_b_eq (tgt := 91) hC dX7_copy_76 (by decide) (fun c_6 => ?_) (fun c_6 => ?_)
            · skip
              refine r_aload_n hC hl dX7_copy_91 0 rfl ?_
              refine r_ldc (x := (-1000000001)) hC ct_RX7_44 (by decide) dX7_copy_92 ?_
              refine r_cVi hC hI hl [.int (J (-1000000001))] [] (c_X7_finds0 l X a B S  ) ml_RX7_57 ev_X7_finds (rc_mo (S := S) hC hI) ⟨Nat.le_of_ble_eq_true rfl, Nat.le_of_ble_eq_true rfl⟩ ⟨Nat.zero_le _, Nat.zero_le _⟩ (Nat.le_of_ble_eq_true rfl) rfl dX7_copy_94 (fun H locs hI => ?_)
              exact r_iret hC hr hlk hI (an_f 0 (by (repeat' split) <;> first | rfl | omega)) (fn_f 0 (by (repeat' split) <;> first | rfl | omega)) dX7_copy_97
            · skip
              refine r_aload_n hC hl dX7_copy_79 0 rfl ?_
              refine r_iload_n hC hl dX7_copy_80 3 rfl ?_
              refine r_iload hC hl dX7_copy_81 4 rfl ?_
              refine r_iload hC hl dX7_copy_83 5 rfl ?_
              refine r_cVi hC hI hl [.int (J v), .int (J g), .int (J n)] [] (c_X7_isPart_ l X a B S v g n (by omega) (hSm _ (by omega)).2 (by omega) (by omega)) ml_RX7_224 ev_X7_isPart_ (rc_mo (S := S) hC hI) ⟨Nat.le_of_ble_eq_true rfl, Nat.le_of_ble_eq_true rfl⟩ ⟨Nat.zero_le _, Nat.zero_le _⟩ (Nat.le_of_ble_eq_true rfl) rfl dX7_copy_85 (fun H locs hI => ?_)
              refine r_b_ne (tgt := 98) hC dX7_copy_88 (by decide) (fun c_7 => ?_) (fun c_7 => ?_)
              · skip
                refine r_iconst hC dX7_copy_98 ?_
                refine r_istore (lv1 := [(6, .int (J 0)), (0, .ref (a (49))), (1, .int (J w)), (2, .int (J f)), (3, .int (J v)), (4, .int (J g)), (5, .int (J n))]) hC hl dX7_copy_99 (by decide) rfl (fun ls hl => ?_)
                have hL101 : ∀ (fu : Nat) (q : Nat) (T : St) (x6 : Int), n.toNat - q < fu → (x6 = (q : Int)) → (q ≤ n.toNat) → (T = setB S 31 (sgF (S 31) (fun i => S 30 (40 * w.toNat + f.toNat + i)) 0 (q))) → ∀ (H : Heap) (locs : List Loc) (ls : Array Slot), IS X a B s (T) H locs → lv_has ls 7 [(6, .int (J x6)), (0, .ref (a (49))), (1, .int (J w)), (2, .int (J f)), (3, .int (J v)), (4, .int (J g)), (5, .int (J n))] → W p l e (rmD 2) s m [.ref (a (49)), .int (J w), .int (J f), .int (J v), .int (J g), .int (J n)].toArray below meth c H locs 0 0 (MQ below (Qi X a B (anF (if ¬ ((0 ≤ w ∧ w ≤ 3) ∧ 0 ≤ v ∧ v ≤ 3) then 0 else if S 26 w.toNat = 0 ∨ S 26 v.toNat = 0 then 5 else if S 26 w.toNat ≠ S 26 v.toNat then 2 else if ¬ ((0 ≤ f ∧ 0 ≤ n ∧ f ≤ S 27 w.toNat - n) ∧ 0 ≤ g ∧ 0 ≤ n ∧ g ≤ S 27 v.toNat - n) then 0 else -1) (n)) (fnF S 21 (if ¬ ((0 ≤ w ∧ w ≤ 3) ∧ 0 ≤ v ∧ v ≤ 3) then 0 else if S 26 w.toNat = 0 ∨ S 26 v.toNat = 0 then 5 else if S 26 w.toNat ≠ S 26 v.toNat then 2 else if ¬ ((0 ≤ f ∧ 0 ≤ n ∧ f ≤ S 27 w.toNat - n) ∧ 0 ≤ g ∧ 0 ≤ n ∧ g ≤ S 27 v.toNat - n) then 0 else -1) (setB (setB S 31 (sgF (S 31) (fun i => S 30 (40 * w.toNat + f.toNat + i)) 0 (n.toNat))) 30 (sgF (S 30) (fun i => S 30 (40 * w.toNat + f.toNat + i)) (40 * v.toNat + g.toNat) (n.toNat))))) [.ref (a (49)), .int (J w), .int (J f), .int (J v), .int (J g), .int (J n)].toArray s 0 0 (fun q => B ≤ q)) (F0 m 101 ls []) := by
                  intro fu
                  induction fu with
                  | zero => intro q T x6 hm; exact absurd hm (Nat.not_lt_zero _)
                  | succ fu ih101 =>
                    intro q T x6 hm e6 hq hT H locs ls hI hl
                    subst e6
                    have t30 : T 30 = S 30 := by rw [hT, setB_ne _ _ (by decide)]
                    refine r_iload hC hl dX7_copy_101 0 rfl ?_
                    refine r_iload hC hl dX7_copy_103 6 rfl ?_
                    refine r_icmp_ge (tgt := 135) hC (by omega) (by omega) dX7_copy_105 (by decide) (fun c_8 => ?_) (fun c_8 => ?_)
                    · skip
                      refine r_iconst hC dX7_copy_135 ?_
                      refine r_istore (lv1 := [(6, .int (J 0)), (0, .ref (a (49))), (1, .int (J w)), (2, .int (J f)), (3, .int (J v)), (4, .int (J g)), (5, .int (J n))]) hC hl dX7_copy_136 (by decide) rfl (fun ls hl => ?_)
                      have hL138 : ∀ (fu : Nat) (r : Nat) (U : St) (x6 : Int), n.toNat - r < fu → (x6 = (r : Int)) → (r ≤ n.toNat) → (U = setB (setB S 31 (sgF (S 31) (fun i => S 30 (40 * w.toNat + f.toNat + i)) 0 (n.toNat))) 30 (sgF (S 30) (fun i => S 30 (40 * w.toNat + f.toNat + i)) (40 * v.toNat + g.toNat) (r))) → ∀ (H : Heap) (locs : List Loc) (ls : Array Slot), IS X a B s (U) H locs → lv_has ls 7 [(6, .int (J x6)), (0, .ref (a (49))), (1, .int (J w)), (2, .int (J f)), (3, .int (J v)), (4, .int (J g)), (5, .int (J n))] → W p l e (rmD 2) s m [.ref (a (49)), .int (J w), .int (J f), .int (J v), .int (J g), .int (J n)].toArray below meth c H locs 0 0 (MQ below (Qi X a B (anF (if ¬ ((0 ≤ w ∧ w ≤ 3) ∧ 0 ≤ v ∧ v ≤ 3) then 0 else if S 26 w.toNat = 0 ∨ S 26 v.toNat = 0 then 5 else if S 26 w.toNat ≠ S 26 v.toNat then 2 else if ¬ ((0 ≤ f ∧ 0 ≤ n ∧ f ≤ S 27 w.toNat - n) ∧ 0 ≤ g ∧ 0 ≤ n ∧ g ≤ S 27 v.toNat - n) then 0 else -1) (n)) (fnF S 21 (if ¬ ((0 ≤ w ∧ w ≤ 3) ∧ 0 ≤ v ∧ v ≤ 3) then 0 else if S 26 w.toNat = 0 ∨ S 26 v.toNat = 0 then 5 else if S 26 w.toNat ≠ S 26 v.toNat then 2 else if ¬ ((0 ≤ f ∧ 0 ≤ n ∧ f ≤ S 27 w.toNat - n) ∧ 0 ≤ g ∧ 0 ≤ n ∧ g ≤ S 27 v.toNat - n) then 0 else -1) (setB (setB S 31 (sgF (S 31) (fun i => S 30 (40 * w.toNat + f.toNat + i)) 0 (n.toNat))) 30 (sgF (S 30) (fun i => S 30 (40 * w.toNat + f.toNat + i)) (40 * v.toNat + g.toNat) (n.toNat))))) [.ref (a (49)), .int (J w), .int (J f), .int (J v), .int (J g), .int (J n)].toArray s 0 0 (fun q => B ≤ q)) (F0 m 138 ls []) := by
                        intro fu
                        induction fu with
                        | zero => intro r U x6 hm; exact absurd hm (Nat.not_lt_zero _)
                        | succ fu ih138 =>
                          intro r U x6 hm e6 hr1 hU H locs ls hI hl
                          subst e6
                          refine r_iload hC hl dX7_copy_138 0 rfl ?_
                          refine r_iload hC hl dX7_copy_140 6 rfl ?_
                          refine r_icmp_ge (tgt := 173) hC (by omega) (by omega) dX7_copy_142 (by decide) (fun c_9 => ?_) (fun c_9 => ?_)
                          · skip
                            refine r_iload hC hl dX7_copy_173 6 rfl ?_
                            exact r_iret hC hr hlk hI (an_n (by (repeat' split) <;> first | rfl | omega) (rfl)) (fn_n (by (repeat' split) <;> first | rfl | omega) (by rw [hU, show r = n.toNat by omega])) dX7_copy_175
                          · skip
                            refine r_aload_n hC hl dX7_copy_145 1 rfl ?_
                            refine g_mo  (v := .ref (a (57))) hC hI 14 (by decide) fl_RX7_31 rfl rfl dX7_copy_146 ?_
                            refine r_bipush hC (by decide) dX7_copy_149 ?_
                            refine r_iload_n hC hl dX7_copy_151 4 rfl ?_
                            refine r_imul hC dX7_copy_152 ?_
                            refine r_iload hC hl dX7_copy_153 5 rfl ?_
                            refine r_iadd hC dX7_copy_155 ?_
                            refine r_iload hC hl dX7_copy_156 0 rfl ?_
                            refine r_iadd hC dX7_copy_158 ?_
                            refine r_as (y := ((40 * v.toNat + g.toNat + r : Nat) : Int)) hC (by omega) ?_
                            refine r_aload_n hC hl dX7_copy_159 1 rfl ?_
                            refine g_mo  (v := .ref (a (58))) hC hI 15 (by decide) fl_RX7_35 rfl rfl dX7_copy_160 ?_
                            refine r_iload hC hl dX7_copy_163 0 rfl ?_
                            refine r_lald (cx := 58) (n := 40) (f := (fun S => S 31) (U)) (v := U 31 r) hC hI (by decide) rfl (by decide) (r) (by omega) (by omega) rfl dX7_copy_165 ?_
                            refine r_last (cx := 57) (n := 160) (F := fun S => S 30) hC hI (by decide) (fun _ => rfl) (by decide) (40 * v.toNat + g.toNat + r) (by omega) (by omega) (b := 30) (j := 40 * v.toNat + g.toNat + r) rfl (fun q => by simp [up, setB, upR]) dX7_copy_166 (fun H locs hI => ?_)
                            refine r_iinc (lv1 := [(6, .int (J ((r : Int) + 1))), (0, .ref (a (49))), (1, .int (J w)), (2, .int (J f)), (3, .int (J v)), (4, .int (J g)), (5, .int (J n))]) hC hl dX7_copy_167 0 rfl (by decide) rfl (fun ls hl => ?_)
                            refine r_goto (tgt := 138) hC dX7_copy_170 (by decide) ?_
                            have u31 : U 31 r = (fun i => S 30 (40 * w.toNat + f.toNat + i)) r := by
                              rw [hU, setB_ne _ _ (by decide), setB_at]
                              have h := sg_in (O := S 31) (N := (fun i => S 30 (40 * w.toNat + f.toNat + i))) (b := 0) (n := n.toNat) (i := r) (by omega)
                              rw [Nat.zero_add] at h
                              exact h
                            exact ih138 (r + 1) (up U 30 (40 * v.toNat + g.toNat + r) (U 31 r)) ((r : Int) + 1) (by omega) (by omega) (by omega) (by rw [u31, hU, up_set]; exact congrArg _ (sg_up (S 30) (fun i => S 30 (40 * w.toNat + f.toNat + i)) (40 * v.toNat + g.toNat) r rfl)) _ _ _ hI (lv_sub hl [0, 1, 2, 3, 4, 5, 6] rfl)
                      exact hL138 _ 0 T 0 (Nat.lt_succ_self _) (by omega) (by omega) (by rw [sg_0, hT, show q = n.toNat by omega]; exact stB (by rw [setB_ne _ _ (by decide)])) _ _ _ hI (lv_sub hl [0, 1, 2, 3, 4, 5, 6] rfl)
                    · skip
                      refine r_aload_n hC hl dX7_copy_108 1 rfl ?_
                      refine g_mo  (v := .ref (a (58))) hC hI 15 (by decide) fl_RX7_35 rfl rfl dX7_copy_109 ?_
                      refine r_iload hC hl dX7_copy_112 0 rfl ?_
                      refine r_aload_n hC hl dX7_copy_114 1 rfl ?_
                      refine g_mo  (v := .ref (a (57))) hC hI 14 (by decide) fl_RX7_31 rfl rfl dX7_copy_115 ?_
                      refine r_bipush hC (by decide) dX7_copy_118 ?_
                      refine r_iload_n hC hl dX7_copy_120 2 rfl ?_
                      refine r_imul hC dX7_copy_121 ?_
                      refine r_iload_n hC hl dX7_copy_122 3 rfl ?_
                      refine r_iadd hC dX7_copy_123 ?_
                      refine r_iload hC hl dX7_copy_124 0 rfl ?_
                      refine r_iadd hC dX7_copy_126 ?_
                      refine r_as (y := ((40 * w.toNat + f.toNat + q : Nat) : Int)) hC (by omega) ?_
                      refine r_lald (cx := 57) (n := 160) (f := (fun S => S 30) (T)) (v := T 30 (40 * w.toNat + f.toNat + q)) hC hI (by decide) rfl (by decide) (40 * w.toNat + f.toNat + q) (by omega) (by omega) rfl dX7_copy_127 ?_
                      refine r_last (cx := 58) (n := 40) (F := fun S => S 31) hC hI (by decide) (fun _ => rfl) (by decide) (q) (by omega) (by omega) (b := 31) (j := q) rfl (fun q => by simp [up, setB, upR]) dX7_copy_128 (fun H locs hI => ?_)
                      refine r_iinc (lv1 := [(6, .int (J ((q : Int) + 1))), (0, .ref (a (49))), (1, .int (J w)), (2, .int (J f)), (3, .int (J v)), (4, .int (J g)), (5, .int (J n))]) hC hl dX7_copy_129 0 rfl (by decide) rfl (fun ls hl => ?_)
                      refine r_goto (tgt := 101) hC dX7_copy_132 (by decide) ?_
                      exact ih101 (q + 1) (up T 31 q (T 30 (40 * w.toNat + f.toNat + q))) ((q : Int) + 1) (by omega) (by omega) (by omega) (by rw [t30, hT, up_set]; exact congrArg _ (by have h := sg_up (S 31) (fun i => S 30 (40 * w.toNat + f.toNat + i)) 0 q rfl; rw [Nat.zero_add] at h; exact h)) _ _ _ hI (lv_sub hl [0, 1, 2, 3, 4, 5, 6] rfl)
                exact hL101 _ 0 S 0 (Nat.lt_succ_self _) (by omega) (by omega) (by rw [sg_0, setB_self]) _ _ _ hI (lv_sub hl [0, 1, 2, 3, 4, 5, 6] rfl)
              · skip
                refine r_aload_n hC hl dX7_copy_91 0 rfl ?_
                refine r_ldc (x := (-1000000001)) hC ct_RX7_44 (by decide) dX7_copy_92 ?_
                refine r_cVi hC hI hl [.int (J (-1000000001))] [] (c_X7_finds0 l X a B S  ) ml_RX7_57 ev_X7_finds (rc_mo (S := S) hC hI) ⟨Nat.le_of_ble_eq_true rfl, Nat.le_of_ble_eq_true rfl⟩ ⟨Nat.zero_le _, Nat.zero_le _⟩ (Nat.le_of_ble_eq_true rfl) rfl dX7_copy_94 (fun H locs hI => ?_)
                exact r_iret hC hr hlk hI (an_f 0 (by (repeat' split) <;> first | rfl | omega)) (fn_f 0 (by (repeat' split) <;> first | rfl | omega)) dX7_copy_97
          · skip
            refine r_aload_n hC hl dX7_copy_61 0 rfl ?_
            refine r_ldc (x := (-1000000003)) hC ct_RX7_109 (by decide) dX7_copy_62 ?_
            refine r_cVi hC hI hl [.int (J (-1000000003))] [] (c_X7_finds2 l X a B S  ) ml_RX7_57 ev_X7_finds (rc_mo (S := S) hC hI) ⟨Nat.le_of_ble_eq_true rfl, Nat.le_of_ble_eq_true rfl⟩ ⟨Nat.zero_le _, Nat.zero_le _⟩ (Nat.le_of_ble_eq_true rfl) rfl dX7_copy_64 (fun H locs hI => ?_)
            exact r_iret hC hr hlk hI (an_f 2 (by (repeat' split) <;> first | rfl | omega)) (fn_f 2 (by (repeat' split) <;> first | rfl | omega)) dX7_copy_67
        · skip
          refine r_aload_n hC hl dX7_copy_39 0 rfl ?_
          refine r_ldc (x := (-1000000006)) hC ct_RX7_219 (by decide) dX7_copy_40 ?_
          refine r_cVi hC hI hl [.int (J (-1000000006))] [] (c_X7_finds5 l X a B S  ) ml_RX7_57 ev_X7_finds (rc_mo (S := S) hC hI) ⟨Nat.le_of_ble_eq_true rfl, Nat.le_of_ble_eq_true rfl⟩ ⟨Nat.zero_le _, Nat.zero_le _⟩ (Nat.le_of_ble_eq_true rfl) rfl dX7_copy_42 (fun H locs hI => ?_)
          exact r_iret hC hr hlk hI (an_f 5 (by (repeat' split) <;> first | rfl | omega)) (fn_f 5 (by (repeat' split) <;> first | rfl | omega)) dX7_copy_45
    · skip
      refine r_aload_n hC hl dX7_copy_14 0 rfl ?_
      refine r_ldc (x := (-1000000001)) hC ct_RX7_44 (by decide) dX7_copy_15 ?_
      refine r_cVi hC hI hl [.int (J (-1000000001))] [] (c_X7_finds0 l X a B S  ) ml_RX7_57 ev_X7_finds (rc_mo (S := S) hC hI) ⟨Nat.le_of_ble_eq_true rfl, Nat.le_of_ble_eq_true rfl⟩ ⟨Nat.zero_le _, Nat.zero_le _⟩ (Nat.le_of_ble_eq_true rfl) rfl dX7_copy_17 (fun H locs hI => ?_)
      exact r_iret hC hr hlk hI (an_f 0 (by (repeat' split) <;> first | rfl | omega)) (fn_f 0 (by (repeat' split) <;> first | rfl | omega)) dX7_copy_20

set_option maxHeartbeats 4000000 in
set_option maxRecDepth 100000 in
theorem c_X7_badSheet (l : Launch) (X : XT) (a : Nat → Nat) (B : Nat) (S : St) (w : Int) (hw : -2147483648 ≤ w ∧ w ≤ 2147483647) (hSm : ∀ t, t < 4 → (S 26 t = 0 ∨ S 26 t = 8 ∨ S 26 t = 16 ∨ S 26 t = 64) ∧ 0 ≤ S 27 t ∧ S 27 t ≤ 40) : CT l X a B 2 yX7_badSheet cX7_badSheet 2 (some .int) [.ref (a (49)), .int (J w)] S (Qi X a B (bsF5 w (S 26 w.toNat)) (S)) := by
  refine CT.of (by decide +kernel) (Nat.le_of_ble_eq_true rfl) ?_
  intro p e s m below meth c ls hC hr hlk hI hl
  have hC : Cx p c cX7_badSheet 2 s m [.ref (a (49)), .int (J w)].toArray RX7 X B := hC
  have hl : lv_has ls 2 [(0, .ref (a (49))), (1, .int (J w))] := hl
  refine r_iload_n hC hl dX7_badSheet_0 1 rfl ?_
  refine r_cSi hC hI hl [.int (J w)] [] (c_X7_isSheet l X a B S w (by omega)) ml_RX7_215 es_X7_isSheet ⟨Nat.le_of_ble_eq_true rfl, Nat.le_of_ble_eq_true rfl⟩ ⟨Nat.zero_le _, Nat.zero_le _⟩ (Nat.le_of_ble_eq_true rfl) rfl dX7_badSheet_1 (fun H locs hI => ?_)
  refine r_b_ne (tgt := 12) hC dX7_badSheet_4 (by decide) (fun c_1 => ?_) (fun c_1 => ?_)
  · skip
    obtain ⟨hb4w, hlenw⟩ := hSm w.toNat (by omega)
    refine r_aload_n hC hl dX7_badSheet_12 0 rfl ?_
    refine g_mo  (v := .ref (a (55))) hC hI 12 (by decide) fl_RX7_25 rfl rfl dX7_badSheet_13 ?_
    refine r_iload_n hC hl dX7_badSheet_16 1 rfl ?_
    refine r_iald (cx := 55) (n := 4) (f := (fun S => S 26) (S)) (v := S 26 ((w).toNat)) hC hI (by decide) rfl (by decide) ((w).toNat) (by omega) (by omega) rfl dX7_badSheet_17 ?_
    refine r_if_ne (tgt := 26) hC (by omega) dX7_badSheet_18 (by decide) (fun c_2 => ?_) (fun c_2 => ?_)
    · skip
      refine r_iconst hC dX7_badSheet_26 ?_
      exact r_iret hC hr hlk hI (by unfold bsF5; (repeat' split) <;> first | rfl | omega) (rfl) dX7_badSheet_27
    · skip
      refine r_ldc (x := (-1000000006)) hC ct_RX7_219 (by decide) dX7_badSheet_21 ?_
      refine r_goto (tgt := 27) hC dX7_badSheet_23 (by decide) ?_
      exact r_iret hC hr hlk hI (by unfold bsF5; (repeat' split) <;> first | rfl | omega) (rfl) dX7_badSheet_27
  · skip
    refine r_ldc (x := (-1000000001)) hC ct_RX7_44 (by decide) dX7_badSheet_7 ?_
    refine r_goto (tgt := 27) hC dX7_badSheet_9 (by decide) ?_
    exact r_iret hC hr hlk hI (by unfold bsF5; (repeat' split) <;> first | rfl | omega) (rfl) dX7_badSheet_27
