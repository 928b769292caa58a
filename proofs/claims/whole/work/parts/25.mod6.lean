def wdF (v : Int) : Int := if v < 0 then 0 else v
theorem wd_cs (v : Int) : (v < 0 ∧ wdF v = 0) ∨ (0 ≤ v ∧ wdF v = v) := by
  unfold wdF; split <;> omega
theorem dw_pos (f : Nat → Bool) : ∀ n : Nat, dwF f n < 0 ∨ 1 ≤ dwF f n
  | 0 => Or.inl (by show (-1 : Int) < 0; decide)
  | n + 1 => by
    have h := dw_pos f n
    have e : dwF f (n + 1) = if f (n + 1) = true then ((n + 1 : Nat) : Int) else dwF f n := rfl
    rw [e]
    split <;> omega
theorem VR_1 {N x : Int} {R : Nat → Int} (hx : 0 ≤ x ∧ x ≤ 9) (hV : VR N R) : VR N (upR R 1 x) := ⟨⟨hV.1.1, hx, hV.1.2.2⟩, fun j hj => by rw [upR_ne _ _ (by omega)]; exact hV.2.1 j hj, fun i hi => VP_cg (fun j h1 h2 => upR_ne _ _ (by omega)) (hV.2.2 i hi)⟩
theorem VR_4 {N x : Int} {R : Nat → Int} (hx : 0 ≤ x ∧ x ≤ 9) (hV : VR N R) : VR N (upR R 4 x) := ⟨⟨hV.1.1, hV.1.2.1, hV.1.2.2.1, hV.1.2.2.2.1, hx, hV.1.2.2.2.2.2⟩, fun j hj => by rw [upR_ne _ _ (by omega)]; exact hV.2.1 j hj, fun i hi => VP_cg (fun j h1 h2 => upR_ne _ _ (by omega)) (hV.2.2 i hi)⟩
theorem VR_g {N x : Int} {R : Nat → Int} {p j : Nat} (hV : VR N R) (h1 : 18 + 5 * p ≤ j) (hp : VP (upR R j x) p) (h2 : j < 23 + 5 * p) : VR N (upR R j x) := by
  refine ⟨⟨?_, ?_, ?_, ?_, ?_, ?_⟩, fun q hq => ?_, fun i hi => ?_⟩
  · rw [upR_ne _ _ (by omega)]; exact hV.1.1
  · rw [upR_ne _ _ (by omega)]; exact hV.1.2.1
  · rw [upR_ne _ _ (by omega)]; exact hV.1.2.2.1
  · rw [upR_ne _ _ (by omega)]; exact hV.1.2.2.2.1
  · rw [upR_ne _ _ (by omega)]; exact hV.1.2.2.2.2.1
  · rw [upR_ne _ _ (by omega)]; exact hV.1.2.2.2.2.2
  · rw [upR_ne _ _ (by omega)]; exact hV.2.1 q hq
  · by_cases e : i = p
    · rw [e]; exact hp
    · exact VP_cg (fun q h3 h4 => upR_ne _ _ (by omega)) (hV.2.2 i hi)
theorem VR_k {N x : Int} {R : Nat → Int} {p : Nat} (hx : 0 ≤ x ∧ x ≤ 5) (hp : p < 8) (hV : VR N R) : VR N (upR R (18 + 5 * p) x) := by
  have h := hV.2.2 p hp
  refine VR_g hV (p := p) (by omega) ⟨?_, ?_, ?_, ?_, ?_⟩ (by omega)
  · rw [upR_at]; exact hx
  · rw [upR_ne _ _ (by omega)]; exact h.2.1
  · rw [upR_ne _ _ (by omega)]; exact h.2.2.1
  · rw [upR_ne _ _ (by omega)]; exact h.2.2.2.1
  · rw [upR_ne _ _ (by omega)]; exact h.2.2.2.2
theorem VR_s {N x : Int} {R : Nat → Int} {p : Nat} (hx : 0 ≤ x ∧ x ≤ 1) (hp : p < 8) (hV : VR N R) : VR N (upR R (21 + 5 * p) x) := by
  have h := hV.2.2 p hp
  refine VR_g hV (p := p) (by omega) ⟨?_, ?_, ?_, ?_, ?_⟩ (by omega)
  · rw [upR_ne _ _ (by omega)]; exact h.1
  · rw [upR_ne _ _ (by omega)]; exact h.2.1
  · rw [upR_ne _ _ (by omega)]; exact h.2.2.1
  · rw [upR_at]; exact hx
  · rw [upR_ne _ _ (by omega)]; exact h.2.2.2.2
theorem iw_1 {N : Int} {R : Nat → Int} {x : Int} {n : Nat} (hV : VR N R) : iwF (upR R 1 x) (upR R 1 x 2 + upR R 1 x 1 * sumF (dkF (upR R 1 x)) n) = iwF R (R 2 + x * sumF (dkF R) n) := by
  rw [sum_cg (f := dkF (upR R 1 x)) (g := dkF R) n (fun i _ => dk_cg rfl (fun j h1 h2 => upR_ne _ _ (by omega)) hV.1.1.1)]
  rfl
theorem bt_4 {R : Nat → Int} {x n : Int} : sumF (fun i => blP (upR R 4 x) i n (upR R 4 x 4)) (upR R 4 x 5).toNat = sumF (fun i => blP R i n x) (R 5).toNat := by
  show sumF _ (R 5).toNat = _
  refine sum_cg _ (fun i _ => ?_)
  unfold blP blA
  rw [upR_at, upR_ne (q := 18 + 5 * i) _ _ (by omega), upR_ne (q := 20 + 5 * i) _ _ (by omega), upR_ne (q := 21 + 5 * i) _ _ (by omega), upR_ne (q := 22 + 5 * i) _ _ (by omega)]
theorem bl_k {R : Nat → Int} {x n : Int} {p : Nat} : blP (upR R (18 + 5 * p) x) p n (upR R (18 + 5 * p) x 4) = blA R p x (R (21 + 5 * p)) n (R 4) := by
  unfold blP blA
  rw [upR_at, upR_ne (q := 20 + 5 * p) _ _ (by omega), upR_ne (q := 21 + 5 * p) _ _ (by omega), upR_ne (q := 22 + 5 * p) _ _ (by omega), upR_ne (q := 4) _ _ (by omega)]
theorem rt1 {S T : St} (t20 : T 20 = S 20) (t22 : T 22 = S 20) {j : Nat} {x : Int} : setB (up T 20 j x) 20 (up T 20 j x 22) = T := by
  rw [up_nb T x (by decide), t22, ← t20]
  unfold up
  rw [setB_setB, setB_self]

set_option maxHeartbeats 4000000 in
set_option maxRecDepth 100000 in
theorem c_X7_wordsOf (l : Launch) (X : XT) (a : Nat → Nat) (B : Nat) (S : St) (q : Int) (h3 : 0 ≤ S 20 3 ∧ S 20 3 ≤ 999) (hq : 0 ≤ q ∧ q ≤ 5) : CT l X a B 1 yX7_wordsOf cX7_wordsOf 3 (some .int) [.ref (a (49)), .int (J q)] S (Qi X a B (wdF (dwF (fun ww => decide (csF q (ww : Int) ≤ S 20 3)) 99)) (S)) := by
  refine CT.of (by decide +kernel) (Nat.le_of_ble_eq_true rfl) ?_
  intro p e s m below meth c ls hC hr hlk hI hl
  have hC : Cx p c cX7_wordsOf 3 s m [.ref (a (49)), .int (J q)].toArray RX7 X B := hC
  have hl : lv_has ls 3 [(0, .ref (a (49))), (1, .int (J q))] := hl
  refine r_bipush hC (by decide) dX7_wordsOf_0 ?_
  refine r_istore_n (lv1 := [(2, .int (J 99)), (0, .ref (a (49))), (1, .int (J q))]) hC hl dX7_wordsOf_2 2 rfl (by decide) rfl (fun ls hl => ?_)
  have hL3 : ∀ (fu : Nat) (t : Nat) (x2 : Int), t < fu → (x2 = (t : Int)) → (t ≤ 99) → (dwF (fun ww => decide (csF q (ww : Int) ≤ S 20 3)) t = dwF (fun ww => decide (csF q (ww : Int) ≤ S 20 3)) 99) → ∀ (H : Heap) (locs : List Loc) (ls : Array Slot), IS X a B s (S) H locs → lv_has ls 3 [(2, .int (J x2)), (0, .ref (a (49))), (1, .int (J q))] → W p l e (rmD 1) s m [.ref (a (49)), .int (J q)].toArray below meth c H locs 0 0 (MQ below (Qi X a B (wdF (dwF (fun ww => decide (csF q (ww : Int) ≤ S 20 3)) 99)) (S)) [.ref (a (49)), .int (J q)].toArray s 0 0 (fun q => B ≤ q)) (F0 m 3 ls []) := by
    intro fu
    induction fu with
    | zero => intro t x2 hm; exact absurd hm (Nat.not_lt_zero _)
    | succ fu ih3 =>
      intro t x2 hm e2 ht hf H locs ls hI hl
      subst e2
      refine r_iload_n hC hl dX7_wordsOf_3 0 rfl ?_
      refine r_if_le (tgt := 27) hC (by omega) dX7_wordsOf_4 (by decide) (fun c_1 => ?_) (fun c_1 => ?_)
      · skip
        have hz : dwF (fun ww => decide (csF q (ww : Int) ≤ S 20 3)) 99 = -1 := by rw [← hf, show t = 0 by omega]; rfl
        have hwd := wd_cs (dwF (fun ww => decide (csF q (ww : Int) ≤ S 20 3)) 99)
        refine r_iload_n hC hl dX7_wordsOf_27 0 rfl ?_
        exact r_iret hC hr hlk hI (by omega) (rfl) dX7_wordsOf_28
      · skip
        refine r_iload_n hC hl dX7_wordsOf_7 2 rfl ?_
        refine r_iload_n hC hl dX7_wordsOf_8 0 rfl ?_
        have hcs := cs_rg (k := q) (w := (t : Int)) (by omega)
        refine r_cSi hC hI hl [.int (J q), .int (J (t : Int))] [] (c_X7_costs l X a B S q (t : Int) (by omega) (by omega)) ml_RX7_80 es_X7_costs ⟨Nat.le_of_ble_eq_true rfl, Nat.le_of_ble_eq_true rfl⟩ ⟨Nat.zero_le _, Nat.zero_le _⟩ (Nat.le_of_ble_eq_true rfl) rfl dX7_wordsOf_9 (fun H locs hI => ?_)
        refine r_aload_n hC hl dX7_wordsOf_12 1 rfl ?_
        refine g_mo  (v := .ref (a (50))) hC hI 0 (by decide) fl_RX7_7 rfl rfl dX7_wordsOf_13 ?_
        refine r_iconst hC dX7_wordsOf_16 ?_
        refine r_iald (cx := 50) (n := 58) (f := (fun S => S 20) (S)) (v := S 20 3) hC hI (by decide) rfl (by decide) (3) (by omega) (by omega) rfl dX7_wordsOf_17 ?_
        refine r_icmp_le (tgt := 27) hC (by omega) (by omega) dX7_wordsOf_18 (by decide) (fun c_2 => ?_) (fun c_2 => ?_)
        · skip
          have hz : dwF (fun ww => decide (csF q (ww : Int) ≤ S 20 3)) 99 = (t : Int) := by
            rw [← hf, show t = (t - 1) + 1 by omega]
            exact if_pos (by simp only [decide_eq_true_eq, show t - 1 + 1 = t by omega]; omega)
          have hwd := wd_cs (dwF (fun ww => decide (csF q (ww : Int) ≤ S 20 3)) 99)
          refine r_iload_n hC hl dX7_wordsOf_27 0 rfl ?_
          exact r_iret hC hr hlk hI (by omega) (rfl) dX7_wordsOf_28
        · skip
          refine r_iinc (lv1 := [(2, .int (J ((t : Int) + (-1)))), (0, .ref (a (49))), (1, .int (J q))]) hC hl dX7_wordsOf_21 0 rfl (by decide) rfl (fun ls hl => ?_)
          refine r_goto (tgt := 3) hC dX7_wordsOf_24 (by decide) ?_
          have hf2 : dwF (fun ww => decide (csF q (ww : Int) ≤ S 20 3)) (t - 1) = dwF (fun ww => decide (csF q (ww : Int) ≤ S 20 3)) 99 := by
            rw [← hf, show t = (t - 1) + 1 by omega]
            exact (if_neg (by simp only [decide_eq_true_eq, show t - 1 + 1 = t by omega]; omega)).symm
          exact ih3 (t - 1) ((t : Int) + (-1)) (by omega) (by omega) (by omega) hf2 _ _ _ hI (lv_sub hl [0, 1, 2] rfl)
  exact hL3 _ 99 99 (Nat.lt_succ_self _) (by omega) (by omega) rfl _ _ _ hI (lv_sub hl [0, 1, 2] rfl)

set_option maxHeartbeats 4000000 in
set_option maxRecDepth 100000 in
theorem c_X7_longest (l : Launch) (X : XT) (a : Nat → Nat) (B : Nat) (S : St) (w : Int) (hV : VR 9999 (S 20)) (hw : -2147483648 ≤ w ∧ w ≤ 2147483647) : CT l X a B 2 yX7_longest cX7_longest 2 (some .int) [.ref (a (49)), .int (J w)] S (Qi X a B (anF (if ¬ (0 ≤ w ∧ w ≤ 5) then 0 else if 8 ≤ S 20 5 then 1 else onC (dwF (fun q => decide (csF w (q : Int) ≤ S 20 3)) 99)) (dwF (fun q => decide (csF w (q : Int) ≤ S 20 3)) 99)) (fnF S 21 (if ¬ (0 ≤ w ∧ w ≤ 5) then 0 else if 8 ≤ S 20 5 then 1 else onC (dwF (fun q => decide (csF w (q : Int) ≤ S 20 3)) 99)) (S))) := by
  refine CT.of (by decide +kernel) (Nat.le_of_ble_eq_true rfl) ?_
  intro p e s m below meth c ls hC hr hlk hI hl
  have hC : Cx p c cX7_longest 2 s m [.ref (a (49)), .int (J w)].toArray RX7 X B := hC
  have hl : lv_has ls 2 [(0, .ref (a (49))), (1, .int (J w))] := hl
  obtain ⟨⟨hN, hBr, hBu, hIn, hLa, hPc⟩, hDk, hPg⟩ := id hV
  have hwd := wd_cs (dwF (fun q => decide (csF w (q : Int) ≤ S 20 3)) 99)
  have hdp := dw_pos (fun q => decide (csF w (q : Int) ≤ S 20 3)) 99
  have hdr := dw_rg (fun q => decide (csF w (q : Int) ≤ S 20 3)) 99
  refine r_iload_n hC hl dX7_longest_0 1 rfl ?_
  refine r_cSi hC hI hl [.int (J w)] [] (c_X7_isKind l X a B S w (by omega)) ml_RX7_90 es_X7_isKind ⟨Nat.le_of_ble_eq_true rfl, Nat.le_of_ble_eq_true rfl⟩ ⟨Nat.zero_le _, Nat.zero_le _⟩ (Nat.le_of_ble_eq_true rfl) rfl dX7_longest_1 (fun H locs hI => ?_)
  refine r_b_ne (tgt := 14) hC dX7_longest_4 (by decide) (fun c_1 => ?_) (fun c_1 => ?_)
  · skip
    refine r_aload_n hC hl dX7_longest_14 0 rfl ?_
    refine g_mo  (v := .ref (a (50))) hC hI 0 (by decide) fl_RX7_7 rfl rfl dX7_longest_15 ?_
    refine r_iconst hC dX7_longest_18 ?_
    refine r_iald (cx := 50) (n := 58) (f := (fun S => S 20) (S)) (v := S 20 5) hC hI (by decide) rfl (by decide) (5) (by omega) (by omega) rfl dX7_longest_19 ?_
    refine r_bipush hC (by decide) dX7_longest_20 ?_
    refine r_icmp_ne (tgt := 32) hC (by omega) (by omega) dX7_longest_22 (by decide) (fun c_2 => ?_) (fun c_2 => ?_)
    · skip
      refine r_aload_n hC hl dX7_longest_32 0 rfl ?_
      refine r_iload_n hC hl dX7_longest_33 1 rfl ?_
      refine r_cVi hC hI hl [.int (J w)] [] (c_X7_wordsOf l X a B S w (by omega) (by omega)) ml_RX7_125 ev_X7_wordsOf (rc_mo (S := S) hC hI) ⟨Nat.le_of_ble_eq_true rfl, Nat.le_of_ble_eq_true rfl⟩ ⟨Nat.zero_le _, Nat.zero_le _⟩ (Nat.le_of_ble_eq_true rfl) rfl dX7_longest_34 (fun H locs hI => ?_)
      refine r_if_le (tgt := 48) hC (by omega) dX7_longest_37 (by decide) (fun c_3 => ?_) (fun c_3 => ?_)
      · skip
        refine r_aload_n hC hl dX7_longest_48 0 rfl ?_
        refine r_ldc (x := (-1000000004)) hC ct_RX7_124 (by decide) dX7_longest_49 ?_
        refine r_cVi hC hI hl [.int (J (-1000000004))] [] (c_X7_finds3 l X a B S  ) ml_RX7_57 ev_X7_finds (rc_mo (S := S) hC hI) ⟨Nat.le_of_ble_eq_true rfl, Nat.le_of_ble_eq_true rfl⟩ ⟨Nat.zero_le _, Nat.zero_le _⟩ (Nat.le_of_ble_eq_true rfl) rfl dX7_longest_51 (fun H locs hI => ?_)
        exact r_iret hC hr hlk hI (an_f 3 (by rw [show (if ¬ (0 ≤ w ∧ w ≤ 5) then 0 else if 8 ≤ S 20 5 then 1 else onC (dwF (fun q => decide (csF w (q : Int) ≤ S 20 3)) 99)) = onC (dwF (fun q => decide (csF w (q : Int) ≤ S 20 3)) 99) by (repeat' split) <;> first | rfl | omega]; unfold onC; rw [if_pos (by omega)]; rfl)) (fn_f 3 (by rw [show (if ¬ (0 ≤ w ∧ w ≤ 5) then 0 else if 8 ≤ S 20 5 then 1 else onC (dwF (fun q => decide (csF w (q : Int) ≤ S 20 3)) 99)) = onC (dwF (fun q => decide (csF w (q : Int) ≤ S 20 3)) 99) by (repeat' split) <;> first | rfl | omega]; unfold onC; rw [if_pos (by omega)]; rfl)) dX7_longest_54
      · skip
        refine r_aload_n hC hl dX7_longest_40 0 rfl ?_
        refine r_iload_n hC hl dX7_longest_41 1 rfl ?_
        refine r_cVi hC hI hl [.int (J w)] [] (c_X7_wordsOf l X a B S w (by omega) (by omega)) ml_RX7_125 ev_X7_wordsOf (rc_mo (S := S) hC hI) ⟨Nat.le_of_ble_eq_true rfl, Nat.le_of_ble_eq_true rfl⟩ ⟨Nat.zero_le _, Nat.zero_le _⟩ (Nat.le_of_ble_eq_true rfl) rfl dX7_longest_42 (fun H locs hI => ?_)
        refine r_goto (tgt := 54) hC dX7_longest_45 (by decide) ?_
        exact r_iret hC hr hlk hI (an_n (by rw [show (if ¬ (0 ≤ w ∧ w ≤ 5) then 0 else if 8 ≤ S 20 5 then 1 else onC (dwF (fun q => decide (csF w (q : Int) ≤ S 20 3)) 99)) = onC (dwF (fun q => decide (csF w (q : Int) ≤ S 20 3)) 99) by (repeat' split) <;> first | rfl | omega]; unfold onC; rw [if_neg (by omega)]; decide) (by omega)) (fn_n (by rw [show (if ¬ (0 ≤ w ∧ w ≤ 5) then 0 else if 8 ≤ S 20 5 then 1 else onC (dwF (fun q => decide (csF w (q : Int) ≤ S 20 3)) 99)) = onC (dwF (fun q => decide (csF w (q : Int) ≤ S 20 3)) 99) by (repeat' split) <;> first | rfl | omega]; unfold onC; rw [if_neg (by omega)]; decide) (rfl)) dX7_longest_54
    · skip
      refine r_aload_n hC hl dX7_longest_25 0 rfl ?_
      refine r_ldc (x := (-1000000002)) hC ct_RX7_94 (by decide) dX7_longest_26 ?_
      refine r_cVi hC hI hl [.int (J (-1000000002))] [] (c_X7_finds1 l X a B S  ) ml_RX7_57 ev_X7_finds (rc_mo (S := S) hC hI) ⟨Nat.le_of_ble_eq_true rfl, Nat.le_of_ble_eq_true rfl⟩ ⟨Nat.zero_le _, Nat.zero_le _⟩ (Nat.le_of_ble_eq_true rfl) rfl dX7_longest_28 (fun H locs hI => ?_)
      exact r_iret hC hr hlk hI (an_f 1 (by (repeat' split) <;> first | rfl | omega)) (fn_f 1 (by (repeat' split) <;> first | rfl | omega)) dX7_longest_31
  · skip
    refine r_aload_n hC hl dX7_longest_7 0 rfl ?_
    refine r_ldc (x := (-1000000001)) hC ct_RX7_44 (by decide) dX7_longest_8 ?_
    refine r_cVi hC hI hl [.int (J (-1000000001))] [] (c_X7_finds0 l X a B S  ) ml_RX7_57 ev_X7_finds (rc_mo (S := S) hC hI) ⟨Nat.le_of_ble_eq_true rfl, Nat.le_of_ble_eq_true rfl⟩ ⟨Nat.zero_le _, Nat.zero_le _⟩ (Nat.le_of_ble_eq_true rfl) rfl dX7_longest_10 (fun H locs hI => ?_)
    exact r_iret hC hr hlk hI (an_f 0 (by (repeat' split) <;> first | rfl | omega)) (fn_f 0 (by (repeat' split) <;> first | rfl | omega)) dX7_longest_13

set_option maxHeartbeats 4000000 in
set_option maxRecDepth 100000 in
theorem c_X7_enough (l : Launch) (X : XT) (a : Nat → Nat) (B : Nat) (S : St) (w : Int) (v : Int) (hV : VR 9999 (S 20)) (hw : -2147483648 ≤ w ∧ w ≤ 2147483647) (hv : -2147483648 ≤ v ∧ v ≤ 2147483647) : CT l X a B 5 yX7_enough cX7_enough 5 (some .int) [.ref (a (49)), .int (J w), .int (J v)] S (Qi X a B (anF (if (1 ≤ w ∧ w ≤ 60) ∧ 0 ≤ v ∧ v ≤ 999 then onC (fsF (fun j => decide (v ≤ iwF (S 20) (S 20 2 + (j : Int) * sumF (dkF (S 20)) w.toNat))) 10 0) else 0) (fsF (fun j => decide (v ≤ iwF (S 20) (S 20 2 + (j : Int) * sumF (dkF (S 20)) w.toNat))) 10 0)) (if (1 ≤ w ∧ w ≤ 60) ∧ 0 ≤ v ∧ v ≤ 999 then fnF (setB S 22 (S 20)) 21 (onC (fsF (fun j => decide (v ≤ iwF (S 20) (S 20 2 + (j : Int) * sumF (dkF (S 20)) w.toNat))) 10 0)) (setB S 22 (S 20)) else up S 21 0 (S 21 0 + 1))) := by
  refine CT.of (by decide +kernel) (Nat.le_of_ble_eq_true rfl) ?_
  intro p e s m below meth c ls hC hr hlk hI hl
  have hC : Cx p c cX7_enough 5 s m [.ref (a (49)), .int (J w), .int (J v)].toArray RX7 X B := hC
  have hl : lv_has ls 5 [(0, .ref (a (49))), (1, .int (J w)), (2, .int (J v))] := hl
  obtain ⟨⟨hN, hBr, hBu, hIn, hLa, hPc⟩, hDk, hPg⟩ := id hV
  refine r_iload_n hC hl dX7_enough_0 1 rfl ?_
  refine r_iconst hC dX7_enough_1 ?_
  refine r_bipush hC (by decide) dX7_enough_2 ?_
  refine r_cSi hC hI hl [.int (J w), .int (J 1), .int (J 60)] [] (c_X7_in l X a B S w 1 60 (by omega) (by omega) (by omega)) ml_RX7_45 es_X7_in ⟨Nat.le_of_ble_eq_true rfl, Nat.le_of_ble_eq_true rfl⟩ ⟨Nat.zero_le _, Nat.zero_le _⟩ (Nat.le_of_ble_eq_true rfl) rfl dX7_enough_4 (fun H locs hI => ?_)
  refine r_b_eq (tgt := 21) hC dX7_enough_7 (by decide) (fun c_1 => ?_) (fun c_1 => ?_)
  · skip
    refine r_aload_n hC hl dX7_enough_21 0 rfl ?_
    refine r_ldc (x := (-1000000001)) hC ct_RX7_44 (by decide) dX7_enough_22 ?_
    refine r_cVi hC hI hl [.int (J (-1000000001))] [] (c_X7_finds0 l X a B S  ) ml_RX7_57 ev_X7_finds (rc_mo (S := S) hC hI) ⟨Nat.le_of_ble_eq_true rfl, Nat.le_of_ble_eq_true rfl⟩ ⟨Nat.zero_le _, Nat.zero_le _⟩ (Nat.le_of_ble_eq_true rfl) rfl dX7_enough_24 (fun H locs hI => ?_)
    exact r_iret hC hr hlk hI (an_f 0 (by (repeat' split) <;> first | rfl | omega)) ((if_neg (by omega)).symm) dX7_enough_27
  · skip
    refine r_iload_n hC hl dX7_enough_10 2 rfl ?_
    refine r_iconst hC dX7_enough_11 ?_
    refine r_sipush hC (by decide) dX7_enough_12 ?_
    refine r_cSi hC hI hl [.int (J v), .int (J 0), .int (J 999)] [] (c_X7_in l X a B S v 0 999 (by omega) (by omega) (by omega)) ml_RX7_45 es_X7_in ⟨Nat.le_of_ble_eq_true rfl, Nat.le_of_ble_eq_true rfl⟩ ⟨Nat.zero_le _, Nat.zero_le _⟩ (Nat.le_of_ble_eq_true rfl) rfl dX7_enough_15 (fun H locs hI => ?_)
    refine r_b_ne (tgt := 28) hC dX7_enough_18 (by decide) (fun c_2 => ?_) (fun c_2 => ?_)
    · skip
      refine r_iconst hC dX7_enough_28 ?_
      refine r_istore_n (lv1 := [(3, .int (J (-1))), (0, .ref (a (49))), (1, .int (J w)), (2, .int (J v))]) hC hl dX7_enough_29 3 rfl (by decide) rfl (fun ls hl => ?_)
      refine r_iconst hC dX7_enough_30 ?_
      refine r_istore (lv1 := [(4, .int (J 0)), (3, .int (J (-1))), (0, .ref (a (49))), (1, .int (J w)), (2, .int (J v))]) hC hl dX7_enough_31 (by decide) rfl (fun ls hl => ?_)
      refine r_aload_n hC hl dX7_enough_33 2 rfl ?_
      refine r_iconst hC dX7_enough_34 ?_
      refine r_aload_n hC hl dX7_enough_35 2 rfl ?_
      refine g_mo  (v := .ref (a (52))) hC hI 2 (by decide) fl_RX7_16 rfl rfl dX7_enough_36 ?_
      refine r_cVv hC hI hl [.int (J 1), .ref (a (52))] [] (c_X7_moveAll1 l X a B S 52 22 (by omega) (fun _ => rfl) (fun _ => rfl) (by omega) rfl) ml_RX7_117 ev_X7_moveAll (rc_mo (S := S) hC hI) ⟨Nat.le_of_ble_eq_true rfl, Nat.le_of_ble_eq_true rfl⟩ ⟨Nat.zero_le _, Nat.zero_le _⟩ (Nat.le_of_ble_eq_true rfl) rfl dX7_enough_39 (fun H locs hI => ?_)
      obtain ⟨T, eT⟩ : ∃ z : St, z = setB S 22 (S 20) := ⟨_, rfl⟩
      rw [← eT] at hI
      have t20 : T 20 = S 20 := by rw [eT, setB_ne _ _ (by decide)]
      have t22 : T 22 = S 20 := by rw [eT, setB_at]
      have hVT : VR 9999 (T 20) := by rw [t20]; exact hV
      have t5 : T 20 5 = S 20 5 := by rw [t20]
      have t4 : T 20 4 = S 20 4 := by rw [t20]
      have hL42 : ∀ (fu : Nat) (q : Nat) (g4 : Int) (U : St) (x4 x3 : Int), 10 - q < fu → (x4 = g4 + 0) → (x3 = (q : Int) - 1) → (q ≤ 10) → ((g4 = 0 ∧ fsF (fun j => decide (v ≤ iwF (S 20) (S 20 2 + (j : Int) * sumF (dkF (S 20)) w.toNat))) (10 - q) q = fsF (fun j => decide (v ≤ iwF (S 20) (S 20 2 + (j : Int) * sumF (dkF (S 20)) w.toNat))) 10 0) ∨ (g4 = 1 ∧ fsF (fun j => decide (v ≤ iwF (S 20) (S 20 2 + (j : Int) * sumF (dkF (S 20)) w.toNat))) 10 0 = (q : Int) - 1 ∧ 1 ≤ q)) → (U = T) → ∀ (H : Heap) (locs : List Loc) (ls : Array Slot), IS X a B s (U) H locs → lv_has ls 5 [(4, .int (J x4)), (3, .int (J x3)), (0, .ref (a (49))), (1, .int (J w)), (2, .int (J v))] → W p l e (rmD 5) s m [.ref (a (49)), .int (J w), .int (J v)].toArray below meth c H locs 0 0 (MQ below (Qi X a B (anF (if (1 ≤ w ∧ w ≤ 60) ∧ 0 ≤ v ∧ v ≤ 999 then onC (fsF (fun j => decide (v ≤ iwF (S 20) (S 20 2 + (j : Int) * sumF (dkF (S 20)) w.toNat))) 10 0) else 0) (fsF (fun j => decide (v ≤ iwF (S 20) (S 20 2 + (j : Int) * sumF (dkF (S 20)) w.toNat))) 10 0)) (if (1 ≤ w ∧ w ≤ 60) ∧ 0 ≤ v ∧ v ≤ 999 then fnF (setB S 22 (S 20)) 21 (onC (fsF (fun j => decide (v ≤ iwF (S 20) (S 20 2 + (j : Int) * sumF (dkF (S 20)) w.toNat))) 10 0)) (setB S 22 (S 20)) else up S 21 0 (S 21 0 + 1))) [.ref (a (49)), .int (J w), .int (J v)].toArray s 0 0 (fun q => B ≤ q)) (F0 m 42 ls []) := by
        intro fu
        induction fu with
        | zero => intro q g4 U x4 x3 hm; exact absurd hm (Nat.not_lt_zero _)
        | succ fu ih42 =>
          intro q g4 U x4 x3 hm e4 e3 hq he hU H locs ls hI hl
          subst e4; subst e3
          have h10 : q = 10 → fsF (fun j => decide (v ≤ iwF (S 20) (S 20 2 + (j : Int) * sumF (dkF (S 20)) w.toNat))) (10 - q) q = -1 := fun z => by rw [z]; rfl
          have hiw : q < 10 → 0 ≤ iwF (S 20) (S 20 2 + (q : Int) * sumF (dkF (S 20)) w.toNat) ∧ iwF (S 20) (S 20 2 + (q : Int) * sumF (dkF (S 20)) w.toNat) ≤ 999 := fun z => iw_rg hV (bw_rg hV (by omega) (by omega))
          refine r_iload_n hC hl dX7_enough_42 1 rfl ?_
          refine r_bipush hC (by decide) dX7_enough_43 ?_
          refine r_icmp_ge (tgt := 84) hC (by omega) (by omega) dX7_enough_45 (by decide) (fun c_3 => ?_) (fun c_3 => ?_)
          · skip
            have eU2 : U = setB S 22 (S 20) := by rw [hU]; exact eT
            refine r_iload hC hl dX7_enough_84 0 rfl ?_
            refine r_if_eq (tgt := 93) hC (by omega) dX7_enough_86 (by decide) (fun c_4 => ?_) (fun c_4 => ?_)
            · skip
              refine r_aload_n hC hl dX7_enough_93 2 rfl ?_
              refine r_ldc (x := (-1000000004)) hC ct_RX7_124 (by decide) dX7_enough_94 ?_
              refine r_cVi hC hI hl [.int (J (-1000000004))] [] (c_X7_finds3 l X a B U  ) ml_RX7_57 ev_X7_finds (rc_mo (S := U) hC hI) ⟨Nat.le_of_ble_eq_true rfl, Nat.le_of_ble_eq_true rfl⟩ ⟨Nat.zero_le _, Nat.zero_le _⟩ (Nat.le_of_ble_eq_true rfl) rfl dX7_enough_96 (fun H locs hI => ?_)
              exact r_iret hC hr hlk hI (an_f 3 (by rw [show (if (1 ≤ w ∧ w ≤ 60) ∧ 0 ≤ v ∧ v ≤ 999 then onC (fsF (fun j => decide (v ≤ iwF (S 20) (S 20 2 + (j : Int) * sumF (dkF (S 20)) w.toNat))) 10 0) else 0) = onC (fsF (fun j => decide (v ≤ iwF (S 20) (S 20 2 + (j : Int) * sumF (dkF (S 20)) w.toNat))) 10 0) by (repeat' split) <;> first | rfl | omega]; unfold onC; rw [if_pos (by omega)]; rfl)) (by rw [if_pos (by omega), eU2]; exact fn_f 3 (by unfold onC; rw [if_pos (by omega)]; rfl)) dX7_enough_99
            · skip
              refine r_iload_n hC hl dX7_enough_89 1 rfl ?_
              refine r_goto (tgt := 99) hC dX7_enough_90 (by decide) ?_
              exact r_iret hC hr hlk hI (an_n (by rw [show (if (1 ≤ w ∧ w ≤ 60) ∧ 0 ≤ v ∧ v ≤ 999 then onC (fsF (fun j => decide (v ≤ iwF (S 20) (S 20 2 + (j : Int) * sumF (dkF (S 20)) w.toNat))) 10 0) else 0) = onC (fsF (fun j => decide (v ≤ iwF (S 20) (S 20 2 + (j : Int) * sumF (dkF (S 20)) w.toNat))) 10 0) by (repeat' split) <;> first | rfl | omega]; unfold onC; rw [if_neg (by omega)]; decide) (by omega)) (by rw [if_pos (by omega), eU2]; exact fn_n (by unfold onC; rw [if_neg (by omega)]; decide) rfl) dX7_enough_99
          · skip
            refine r_iload hC hl dX7_enough_48 0 rfl ?_
            refine r_if_ne (tgt := 84) hC (by omega) dX7_enough_50 (by decide) (fun c_5 => ?_) (fun c_5 => ?_)
            · skip
              have eU2 : U = setB S 22 (S 20) := by rw [hU]; exact eT
              refine r_iload hC hl dX7_enough_84 0 rfl ?_
              refine r_if_eq (tgt := 93) hC (by omega) dX7_enough_86 (by decide) (fun c_6 => ?_) (fun c_6 => ?_)
              · skip
                refine r_aload_n hC hl dX7_enough_93 2 rfl ?_
                refine r_ldc (x := (-1000000004)) hC ct_RX7_124 (by decide) dX7_enough_94 ?_
                refine r_cVi hC hI hl [.int (J (-1000000004))] [] (c_X7_finds3 l X a B U  ) ml_RX7_57 ev_X7_finds (rc_mo (S := U) hC hI) ⟨Nat.le_of_ble_eq_true rfl, Nat.le_of_ble_eq_true rfl⟩ ⟨Nat.zero_le _, Nat.zero_le _⟩ (Nat.le_of_ble_eq_true rfl) rfl dX7_enough_96 (fun H locs hI => ?_)
                exact r_iret hC hr hlk hI (an_f 3 (by rw [show (if (1 ≤ w ∧ w ≤ 60) ∧ 0 ≤ v ∧ v ≤ 999 then onC (fsF (fun j => decide (v ≤ iwF (S 20) (S 20 2 + (j : Int) * sumF (dkF (S 20)) w.toNat))) 10 0) else 0) = onC (fsF (fun j => decide (v ≤ iwF (S 20) (S 20 2 + (j : Int) * sumF (dkF (S 20)) w.toNat))) 10 0) by (repeat' split) <;> first | rfl | omega]; unfold onC; rw [if_pos (by omega)]; rfl)) (by rw [if_pos (by omega), eU2]; exact fn_f 3 (by unfold onC; rw [if_pos (by omega)]; rfl)) dX7_enough_99
              · skip
                refine r_iload_n hC hl dX7_enough_89 1 rfl ?_
                refine r_goto (tgt := 99) hC dX7_enough_90 (by decide) ?_
                exact r_iret hC hr hlk hI (an_n (by rw [show (if (1 ≤ w ∧ w ≤ 60) ∧ 0 ≤ v ∧ v ≤ 999 then onC (fsF (fun j => decide (v ≤ iwF (S 20) (S 20 2 + (j : Int) * sumF (dkF (S 20)) w.toNat))) 10 0) else 0) = onC (fsF (fun j => decide (v ≤ iwF (S 20) (S 20 2 + (j : Int) * sumF (dkF (S 20)) w.toNat))) 10 0) by (repeat' split) <;> first | rfl | omega]; unfold onC; rw [if_neg (by omega)]; decide) (by omega)) (by rw [if_pos (by omega), eU2]; exact fn_n (by unfold onC; rw [if_neg (by omega)]; decide) rfl) dX7_enough_99
            · skip
              refine r_iinc (lv1 := [(3, .int (J ((q : Int) - 1 + 1))), (4, .int (J (g4 + 0))), (0, .ref (a (49))), (1, .int (J w)), (2, .int (J v))]) hC hl dX7_enough_53 1 rfl (by decide) rfl (fun ls hl => ?_)
              refine r_aload_n hC hl dX7_enough_56 2 rfl ?_
              refine g_mo  (v := .ref (a (50))) hC hI 0 (by decide) fl_RX7_7 rfl rfl dX7_enough_57 ?_
              refine r_iconst hC dX7_enough_60 ?_
              refine r_iload_n hC hl dX7_enough_61 0 rfl ?_
              refine r_iast (cx := 50) (n := 58) (F := fun S => S 20) hC hI (by decide) (fun _ => rfl) (by decide) (1) (by omega) (by omega) (b := 20) (j := 1) rfl (fun q => by simp [up, setB, upR]) dX7_enough_62 (fun H locs hI => ?_)
              obtain ⟨Q1, eQ1⟩ : ∃ z : St, z = up U 20 1 ((q : Int) - 1 + 1) := ⟨_, rfl⟩
              rw [← eQ1] at hI
              have w20 : Q1 20 = upR (S 20) 1 (q : Int) := by rw [eQ1, hU, up_b, t20, show (q : Int) - 1 + 1 = (q : Int) by omega]
              have hVW : VR 9999 (Q1 20) := by rw [w20]; exact VR_1 (by omega) hV
              have he0 : fsF (fun j => decide (v ≤ iwF (S 20) (S 20 2 + (j : Int) * sumF (dkF (S 20)) w.toNat))) (10 - q) q = fsF (fun j => decide (v ≤ iwF (S 20) (S 20 2 + (j : Int) * sumF (dkF (S 20)) w.toNat))) 10 0 := by
                rcases he with h | h
                · exact h.2
                · exfalso; omega
              refine r_aload_n hC hl dX7_enough_63 2 rfl ?_
              refine r_iload_n hC hl dX7_enough_64 3 rfl ?_
              refine r_iconst hC dX7_enough_65 ?_
              refine r_iconst hC dX7_enough_66 ?_
              refine r_cVi hC hI hl [.int (J w), .int (J 0), .int (J 0)] [] (c_X7_behind0_i l X a B Q1 w 9999 hVW (by omega) (by omega)) ml_RX7_121 ev_X7_behind (rc_mo (S := Q1) hC hI) ⟨Nat.le_of_ble_eq_true rfl, Nat.le_of_ble_eq_true rfl⟩ ⟨Nat.zero_le _, Nat.zero_le _⟩ (Nat.le_of_ble_eq_true rfl) rfl dX7_enough_67 (fun H locs hI => ?_)
              refine r_as (y := iwF (S 20) (S 20 2 + (q : Int) * sumF (dkF (S 20)) w.toNat)) hC (by rw [w20]; exact iw_1 hV) ?_
              refine r_iload_n hC hl dX7_enough_70 4 rfl ?_
              refine r_icmp_lt (tgt := 78) hC (by omega) (by omega) dX7_enough_71 (by decide) (fun c_7 => ?_) (fun c_7 => ?_)
              · skip
                refine r_iconst hC dX7_enough_78 ?_
                refine r_istore (lv1 := [(4, .int (J 0)), (3, .int (J ((q : Int) - 1 + 1))), (0, .ref (a (49))), (1, .int (J w)), (2, .int (J v))]) hC hl dX7_enough_79 (by decide) rfl (fun ls hl => ?_)
                refine r_goto (tgt := 42) hC dX7_enough_81 (by decide) ?_
                exact ih42 (q + 1) 0 (setB Q1 20 (Q1 22)) 0 ((q : Int) - 1 + 1) (by omega) (by omega) (by omega) (by omega) (Or.inl ⟨rfl, by rw [← he0, show 10 - q = (10 - (q + 1)) + 1 by omega, fs_f (by simp only [decide_eq_true_eq]; omega)]⟩) (by rw [eQ1, hU]; exact rt1 t20 t22) _ _ _ hI (lv_sub hl [0, 1, 2, 3, 4] rfl)
              · skip
                refine r_iconst hC dX7_enough_74 ?_
                refine r_goto (tgt := 79) hC dX7_enough_75 (by decide) ?_
                refine r_istore (lv1 := [(4, .int (J 1)), (3, .int (J ((q : Int) - 1 + 1))), (0, .ref (a (49))), (1, .int (J w)), (2, .int (J v))]) hC hl dX7_enough_79 (by decide) rfl (fun ls hl => ?_)
                refine r_goto (tgt := 42) hC dX7_enough_81 (by decide) ?_
                exact ih42 (q + 1) 1 (setB Q1 20 (Q1 22)) 1 ((q : Int) - 1 + 1) (by omega) (by omega) (by omega) (by omega) (Or.inr ⟨rfl, by rw [← he0, show 10 - q = (10 - (q + 1)) + 1 by omega, fs_t (by simp only [decide_eq_true_eq]; omega)]; omega, by omega⟩) (by rw [eQ1, hU]; exact rt1 t20 t22) _ _ _ hI (lv_sub hl [0, 1, 2, 3, 4] rfl)
      exact hL42 _ 0 0 T 0 (-1) (Nat.lt_succ_self _) (by omega) (by omega) (by omega) (Or.inl ⟨rfl, rfl⟩) rfl _ _ _ hI (lv_sub hl [0, 1, 2, 3, 4] rfl)
    · skip
      refine r_aload_n hC hl dX7_enough_21 0 rfl ?_
      refine r_ldc (x := (-1000000001)) hC ct_RX7_44 (by decide) dX7_enough_22 ?_
      refine r_cVi hC hI hl [.int (J (-1000000001))] [] (c_X7_finds0 l X a B S  ) ml_RX7_57 ev_X7_finds (rc_mo (S := S) hC hI) ⟨Nat.le_of_ble_eq_true rfl, Nat.le_of_ble_eq_true rfl⟩ ⟨Nat.zero_le _, Nat.zero_le _⟩ (Nat.le_of_ble_eq_true rfl) rfl dX7_enough_24 (fun H locs hI => ?_)
      exact r_iret hC hr hlk hI (an_f 0 (by (repeat' split) <;> first | rfl | omega)) ((if_neg (by omega)).symm) dX7_enough_27

set_option maxHeartbeats 4000000 in
set_option maxRecDepth 100000 in
theorem c_X7_lamp (l : Launch) (X : XT) (a : Nat → Nat) (B : Nat) (S : St) (w : Int) (v : Int) (hV : VR 9999 (S 20)) (hw : -2147483648 ≤ w ∧ w ≤ 2147483647) (hv : -2147483648 ≤ v ∧ v ≤ 2147483647) : CT l X a B 5 yX7_lamp cX7_lamp 5 (some .int) [.ref (a (49)), .int (J w), .int (J v)] S (Qi X a B (anF (if (0 ≤ w ∧ w ≤ 60) ∧ 0 ≤ v ∧ v ≤ 9999 then onC (fsF (fun j => decide (v ≤ sumF (fun i => blP (S 20) i w (j : Int)) (S 20 5).toNat)) 10 0) else 0) (fsF (fun j => decide (v ≤ sumF (fun i => blP (S 20) i w (j : Int)) (S 20 5).toNat)) 10 0)) (if (0 ≤ w ∧ w ≤ 60) ∧ 0 ≤ v ∧ v ≤ 9999 then fnF (setB S 22 (S 20)) 21 (onC (fsF (fun j => decide (v ≤ sumF (fun i => blP (S 20) i w (j : Int)) (S 20 5).toNat)) 10 0)) (setB S 22 (S 20)) else up S 21 0 (S 21 0 + 1))) := by
  refine CT.of (by decide +kernel) (Nat.le_of_ble_eq_true rfl) ?_
  intro p e s m below meth c ls hC hr hlk hI hl
  have hC : Cx p c cX7_lamp 5 s m [.ref (a (49)), .int (J w), .int (J v)].toArray RX7 X B := hC
  have hl : lv_has ls 5 [(0, .ref (a (49))), (1, .int (J w)), (2, .int (J v))] := hl
  obtain ⟨⟨hN, hBr, hBu, hIn, hLa, hPc⟩, hDk, hPg⟩ := id hV
  refine r_iload_n hC hl dX7_lamp_0 1 rfl ?_
  refine r_iconst hC dX7_lamp_1 ?_
  refine r_bipush hC (by decide) dX7_lamp_2 ?_
  refine r_cSi hC hI hl [.int (J w), .int (J 0), .int (J 60)] [] (c_X7_in l X a B S w 0 60 (by omega) (by omega) (by omega)) ml_RX7_45 es_X7_in ⟨Nat.le_of_ble_eq_true rfl, Nat.le_of_ble_eq_true rfl⟩ ⟨Nat.zero_le _, Nat.zero_le _⟩ (Nat.le_of_ble_eq_true rfl) rfl dX7_lamp_4 (fun H locs hI => ?_)
  refine r_b_eq (tgt := 21) hC dX7_lamp_7 (by decide) (fun c_1 => ?_) (fun c_1 => ?_)
  · skip
    refine r_aload_n hC hl dX7_lamp_21 0 rfl ?_
    refine r_ldc (x := (-1000000001)) hC ct_RX7_44 (by decide) dX7_lamp_22 ?_
    refine r_cVi hC hI hl [.int (J (-1000000001))] [] (c_X7_finds0 l X a B S  ) ml_RX7_57 ev_X7_finds (rc_mo (S := S) hC hI) ⟨Nat.le_of_ble_eq_true rfl, Nat.le_of_ble_eq_true rfl⟩ ⟨Nat.zero_le _, Nat.zero_le _⟩ (Nat.le_of_ble_eq_true rfl) rfl dX7_lamp_24 (fun H locs hI => ?_)
    exact r_iret hC hr hlk hI (an_f 0 (by (repeat' split) <;> first | rfl | omega)) ((if_neg (by omega)).symm) dX7_lamp_27
  · skip
    refine r_iload_n hC hl dX7_lamp_10 2 rfl ?_
    refine r_iconst hC dX7_lamp_11 ?_
    refine r_sipush hC (by decide) dX7_lamp_12 ?_
    refine r_cSi hC hI hl [.int (J v), .int (J 0), .int (J 9999)] [] (c_X7_in l X a B S v 0 9999 (by omega) (by omega) (by omega)) ml_RX7_45 es_X7_in ⟨Nat.le_of_ble_eq_true rfl, Nat.le_of_ble_eq_true rfl⟩ ⟨Nat.zero_le _, Nat.zero_le _⟩ (Nat.le_of_ble_eq_true rfl) rfl dX7_lamp_15 (fun H locs hI => ?_)
    refine r_b_ne (tgt := 28) hC dX7_lamp_18 (by decide) (fun c_2 => ?_) (fun c_2 => ?_)
    · skip
      refine r_iconst hC dX7_lamp_28 ?_
      refine r_istore_n (lv1 := [(3, .int (J (-1))), (0, .ref (a (49))), (1, .int (J w)), (2, .int (J v))]) hC hl dX7_lamp_29 3 rfl (by decide) rfl (fun ls hl => ?_)
      refine r_iconst hC dX7_lamp_30 ?_
      refine r_istore (lv1 := [(4, .int (J 0)), (3, .int (J (-1))), (0, .ref (a (49))), (1, .int (J w)), (2, .int (J v))]) hC hl dX7_lamp_31 (by decide) rfl (fun ls hl => ?_)
      refine r_aload_n hC hl dX7_lamp_33 2 rfl ?_
      refine r_iconst hC dX7_lamp_34 ?_
      refine r_aload_n hC hl dX7_lamp_35 2 rfl ?_
      refine g_mo  (v := .ref (a (52))) hC hI 2 (by decide) fl_RX7_16 rfl rfl dX7_lamp_36 ?_
      refine r_cVv hC hI hl [.int (J 1), .ref (a (52))] [] (c_X7_moveAll1 l X a B S 52 22 (by omega) (fun _ => rfl) (fun _ => rfl) (by omega) rfl) ml_RX7_117 ev_X7_moveAll (rc_mo (S := S) hC hI) ⟨Nat.le_of_ble_eq_true rfl, Nat.le_of_ble_eq_true rfl⟩ ⟨Nat.zero_le _, Nat.zero_le _⟩ (Nat.le_of_ble_eq_true rfl) rfl dX7_lamp_39 (fun H locs hI => ?_)
      obtain ⟨T, eT⟩ : ∃ z : St, z = setB S 22 (S 20) := ⟨_, rfl⟩
      rw [← eT] at hI
      have t20 : T 20 = S 20 := by rw [eT, setB_ne _ _ (by decide)]
      have t22 : T 22 = S 20 := by rw [eT, setB_at]
      have hVT : VR 9999 (T 20) := by rw [t20]; exact hV
      have t5 : T 20 5 = S 20 5 := by rw [t20]
      have t4 : T 20 4 = S 20 4 := by rw [t20]
      have hL42 : ∀ (fu : Nat) (q : Nat) (g4 : Int) (U : St) (x4 x3 : Int), 10 - q < fu → (x4 = g4 + 0) → (x3 = (q : Int) - 1) → (q ≤ 10) → ((g4 = 0 ∧ fsF (fun j => decide (v ≤ sumF (fun i => blP (S 20) i w (j : Int)) (S 20 5).toNat)) (10 - q) q = fsF (fun j => decide (v ≤ sumF (fun i => blP (S 20) i w (j : Int)) (S 20 5).toNat)) 10 0) ∨ (g4 = 1 ∧ fsF (fun j => decide (v ≤ sumF (fun i => blP (S 20) i w (j : Int)) (S 20 5).toNat)) 10 0 = (q : Int) - 1 ∧ 1 ≤ q)) → (U = T) → ∀ (H : Heap) (locs : List Loc) (ls : Array Slot), IS X a B s (U) H locs → lv_has ls 5 [(4, .int (J x4)), (3, .int (J x3)), (0, .ref (a (49))), (1, .int (J w)), (2, .int (J v))] → W p l e (rmD 5) s m [.ref (a (49)), .int (J w), .int (J v)].toArray below meth c H locs 0 0 (MQ below (Qi X a B (anF (if (0 ≤ w ∧ w ≤ 60) ∧ 0 ≤ v ∧ v ≤ 9999 then onC (fsF (fun j => decide (v ≤ sumF (fun i => blP (S 20) i w (j : Int)) (S 20 5).toNat)) 10 0) else 0) (fsF (fun j => decide (v ≤ sumF (fun i => blP (S 20) i w (j : Int)) (S 20 5).toNat)) 10 0)) (if (0 ≤ w ∧ w ≤ 60) ∧ 0 ≤ v ∧ v ≤ 9999 then fnF (setB S 22 (S 20)) 21 (onC (fsF (fun j => decide (v ≤ sumF (fun i => blP (S 20) i w (j : Int)) (S 20 5).toNat)) 10 0)) (setB S 22 (S 20)) else up S 21 0 (S 21 0 + 1))) [.ref (a (49)), .int (J w), .int (J v)].toArray s 0 0 (fun q => B ≤ q)) (F0 m 42 ls []) := by
        intro fu
        induction fu with
        | zero => intro q g4 U x4 x3 hm; exact absurd hm (Nat.not_lt_zero _)
        | succ fu ih42 =>
          intro q g4 U x4 x3 hm e4 e3 hq he hU H locs ls hI hl
          subst e4; subst e3
          have h10 : q = 10 → fsF (fun j => decide (v ≤ sumF (fun i => blP (S 20) i w (j : Int)) (S 20 5).toNat)) (10 - q) q = -1 := fun z => by rw [z]; rfl
          have hiw : q < 10 → 0 ≤ sumF (fun i => blP (S 20) i w (q : Int)) (S 20 5).toNat ∧ sumF (fun i => blP (S 20) i w (q : Int)) (S 20 5).toNat ≤ 2400 := fun z => bt_rg hV (by omega) (by omega) (by omega)
          refine r_iload_n hC hl dX7_lamp_42 1 rfl ?_
          refine r_bipush hC (by decide) dX7_lamp_43 ?_
          refine r_icmp_ge (tgt := 84) hC (by omega) (by omega) dX7_lamp_45 (by decide) (fun c_3 => ?_) (fun c_3 => ?_)
          · skip
            have eU2 : U = setB S 22 (S 20) := by rw [hU]; exact eT
            refine r_iload hC hl dX7_lamp_84 0 rfl ?_
            refine r_if_eq (tgt := 93) hC (by omega) dX7_lamp_86 (by decide) (fun c_4 => ?_) (fun c_4 => ?_)
            · skip
              refine r_aload_n hC hl dX7_lamp_93 2 rfl ?_
              refine r_ldc (x := (-1000000004)) hC ct_RX7_124 (by decide) dX7_lamp_94 ?_
              refine r_cVi hC hI hl [.int (J (-1000000004))] [] (c_X7_finds3 l X a B U  ) ml_RX7_57 ev_X7_finds (rc_mo (S := U) hC hI) ⟨Nat.le_of_ble_eq_true rfl, Nat.le_of_ble_eq_true rfl⟩ ⟨Nat.zero_le _, Nat.zero_le _⟩ (Nat.le_of_ble_eq_true rfl) rfl dX7_lamp_96 (fun H locs hI => ?_)
              exact r_iret hC hr hlk hI (an_f 3 (by rw [show (if (0 ≤ w ∧ w ≤ 60) ∧ 0 ≤ v ∧ v ≤ 9999 then onC (fsF (fun j => decide (v ≤ sumF (fun i => blP (S 20) i w (j : Int)) (S 20 5).toNat)) 10 0) else 0) = onC (fsF (fun j => decide (v ≤ sumF (fun i => blP (S 20) i w (j : Int)) (S 20 5).toNat)) 10 0) by (repeat' split) <;> first | rfl | omega]; unfold onC; rw [if_pos (by omega)]; rfl)) (by rw [if_pos (by omega), eU2]; exact fn_f 3 (by unfold onC; rw [if_pos (by omega)]; rfl)) dX7_lamp_99
            · skip
              refine r_iload_n hC hl dX7_lamp_89 1 rfl ?_
              refine r_goto (tgt := 99) hC dX7_lamp_90 (by decide) ?_
              exact r_iret hC hr hlk hI (an_n (by rw [show (if (0 ≤ w ∧ w ≤ 60) ∧ 0 ≤ v ∧ v ≤ 9999 then onC (fsF (fun j => decide (v ≤ sumF (fun i => blP (S 20) i w (j : Int)) (S 20 5).toNat)) 10 0) else 0) = onC (fsF (fun j => decide (v ≤ sumF (fun i => blP (S 20) i w (j : Int)) (S 20 5).toNat)) 10 0) by (repeat' split) <;> first | rfl | omega]; unfold onC; rw [if_neg (by omega)]; decide) (by omega)) (by rw [if_pos (by omega), eU2]; exact fn_n (by unfold onC; rw [if_neg (by omega)]; decide) rfl) dX7_lamp_99
          · skip
            refine r_iload hC hl dX7_lamp_48 0 rfl ?_
            refine r_if_ne (tgt := 84) hC (by omega) dX7_lamp_50 (by decide) (fun c_5 => ?_) (fun c_5 => ?_)
            · skip
              have eU2 : U = setB S 22 (S 20) := by rw [hU]; exact eT
              refine r_iload hC hl dX7_lamp_84 0 rfl ?_
              refine r_if_eq (tgt := 93) hC (by omega) dX7_lamp_86 (by decide) (fun c_6 => ?_) (fun c_6 => ?_)
              · skip
                refine r_aload_n hC hl dX7_lamp_93 2 rfl ?_
                refine r_ldc (x := (-1000000004)) hC ct_RX7_124 (by decide) dX7_lamp_94 ?_
                refine r_cVi hC hI hl [.int (J (-1000000004))] [] (c_X7_finds3 l X a B U  ) ml_RX7_57 ev_X7_finds (rc_mo (S := U) hC hI) ⟨Nat.le_of_ble_eq_true rfl, Nat.le_of_ble_eq_true rfl⟩ ⟨Nat.zero_le _, Nat.zero_le _⟩ (Nat.le_of_ble_eq_true rfl) rfl dX7_lamp_96 (fun H locs hI => ?_)
                exact r_iret hC hr hlk hI (an_f 3 (by rw [show (if (0 ≤ w ∧ w ≤ 60) ∧ 0 ≤ v ∧ v ≤ 9999 then onC (fsF (fun j => decide (v ≤ sumF (fun i => blP (S 20) i w (j : Int)) (S 20 5).toNat)) 10 0) else 0) = onC (fsF (fun j => decide (v ≤ sumF (fun i => blP (S 20) i w (j : Int)) (S 20 5).toNat)) 10 0) by (repeat' split) <;> first | rfl | omega]; unfold onC; rw [if_pos (by omega)]; rfl)) (by rw [if_pos (by omega), eU2]; exact fn_f 3 (by unfold onC; rw [if_pos (by omega)]; rfl)) dX7_lamp_99
              · skip
                refine r_iload_n hC hl dX7_lamp_89 1 rfl ?_
                refine r_goto (tgt := 99) hC dX7_lamp_90 (by decide) ?_
                exact r_iret hC hr hlk hI (an_n (by rw [show (if (0 ≤ w ∧ w ≤ 60) ∧ 0 ≤ v ∧ v ≤ 9999 then onC (fsF (fun j => decide (v ≤ sumF (fun i => blP (S 20) i w (j : Int)) (S 20 5).toNat)) 10 0) else 0) = onC (fsF (fun j => decide (v ≤ sumF (fun i => blP (S 20) i w (j : Int)) (S 20 5).toNat)) 10 0) by (repeat' split) <;> first | rfl | omega]; unfold onC; rw [if_neg (by omega)]; decide) (by omega)) (by rw [if_pos (by omega), eU2]; exact fn_n (by unfold onC; rw [if_neg (by omega)]; decide) rfl) dX7_lamp_99
            · skip
              refine r_iinc (lv1 := [(3, .int (J ((q : Int) - 1 + 1))), (4, .int (J (g4 + 0))), (0, .ref (a (49))), (1, .int (J w)), (2, .int (J v))]) hC hl dX7_lamp_53 1 rfl (by decide) rfl (fun ls hl => ?_)
              refine r_aload_n hC hl dX7_lamp_56 2 rfl ?_
              refine g_mo  (v := .ref (a (50))) hC hI 0 (by decide) fl_RX7_7 rfl rfl dX7_lamp_57 ?_
              refine r_iconst hC dX7_lamp_60 ?_
              refine r_iload_n hC hl dX7_lamp_61 0 rfl ?_
              refine r_iast (cx := 50) (n := 58) (F := fun S => S 20) hC hI (by decide) (fun _ => rfl) (by decide) (4) (by omega) (by omega) (b := 20) (j := 4) rfl (fun q => by simp [up, setB, upR]) dX7_lamp_62 (fun H locs hI => ?_)
              obtain ⟨Q1, eQ1⟩ : ∃ z : St, z = up U 20 4 ((q : Int) - 1 + 1) := ⟨_, rfl⟩
              rw [← eQ1] at hI
              have w20 : Q1 20 = upR (S 20) 4 (q : Int) := by rw [eQ1, hU, up_b, t20, show (q : Int) - 1 + 1 = (q : Int) by omega]
              have hVW : VR 9999 (Q1 20) := by rw [w20]; exact VR_4 (by omega) hV
              have he0 : fsF (fun j => decide (v ≤ sumF (fun i => blP (S 20) i w (j : Int)) (S 20 5).toNat)) (10 - q) q = fsF (fun j => decide (v ≤ sumF (fun i => blP (S 20) i w (j : Int)) (S 20 5).toNat)) 10 0 := by
                rcases he with h | h
                · exact h.2
                · exfalso; omega
              refine r_aload_n hC hl dX7_lamp_63 2 rfl ?_
              refine r_iload_n hC hl dX7_lamp_64 3 rfl ?_
              refine r_iconst hC dX7_lamp_65 ?_
              refine r_iconst hC dX7_lamp_66 ?_
              refine r_cVi hC hI hl [.int (J w), .int (J 1), .int (J 0)] [] (c_X7_behind1_i l X a B Q1 w 9999 hVW (by omega) (by omega)) ml_RX7_121 ev_X7_behind (rc_mo (S := Q1) hC hI) ⟨Nat.le_of_ble_eq_true rfl, Nat.le_of_ble_eq_true rfl⟩ ⟨Nat.zero_le _, Nat.zero_le _⟩ (Nat.le_of_ble_eq_true rfl) rfl dX7_lamp_67 (fun H locs hI => ?_)
              refine r_as (y := sumF (fun i => blP (S 20) i w (q : Int)) (S 20 5).toNat) hC (by rw [w20]; exact bt_4) ?_
              refine r_iload_n hC hl dX7_lamp_70 4 rfl ?_
              refine r_icmp_lt (tgt := 78) hC (by omega) (by omega) dX7_lamp_71 (by decide) (fun c_7 => ?_) (fun c_7 => ?_)
              · skip
                refine r_iconst hC dX7_lamp_78 ?_
                refine r_istore (lv1 := [(4, .int (J 0)), (3, .int (J ((q : Int) - 1 + 1))), (0, .ref (a (49))), (1, .int (J w)), (2, .int (J v))]) hC hl dX7_lamp_79 (by decide) rfl (fun ls hl => ?_)
                refine r_goto (tgt := 42) hC dX7_lamp_81 (by decide) ?_
                exact ih42 (q + 1) 0 (setB Q1 20 (Q1 22)) 0 ((q : Int) - 1 + 1) (by omega) (by omega) (by omega) (by omega) (Or.inl ⟨rfl, by rw [← he0, show 10 - q = (10 - (q + 1)) + 1 by omega, fs_f (by simp only [decide_eq_true_eq]; omega)]⟩) (by rw [eQ1, hU]; exact rt1 t20 t22) _ _ _ hI (lv_sub hl [0, 1, 2, 3, 4] rfl)
              · skip
                refine r_iconst hC dX7_lamp_74 ?_
                refine r_goto (tgt := 79) hC dX7_lamp_75 (by decide) ?_
                refine r_istore (lv1 := [(4, .int (J 1)), (3, .int (J ((q : Int) - 1 + 1))), (0, .ref (a (49))), (1, .int (J w)), (2, .int (J v))]) hC hl dX7_lamp_79 (by decide) rfl (fun ls hl => ?_)
                refine r_goto (tgt := 42) hC dX7_lamp_81 (by decide) ?_
                exact ih42 (q + 1) 1 (setB Q1 20 (Q1 22)) 1 ((q : Int) - 1 + 1) (by omega) (by omega) (by omega) (by omega) (Or.inr ⟨rfl, by rw [← he0, show 10 - q = (10 - (q + 1)) + 1 by omega, fs_t (by simp only [decide_eq_true_eq]; omega)]; omega, by omega⟩) (by rw [eQ1, hU]; exact rt1 t20 t22) _ _ _ hI (lv_sub hl [0, 1, 2, 3, 4] rfl)
      exact hL42 _ 0 0 T 0 (-1) (Nat.lt_succ_self _) (by omega) (by omega) (by omega) (Or.inl ⟨rfl, rfl⟩) rfl _ _ _ hI (lv_sub hl [0, 1, 2, 3, 4] rfl)
    · skip
      refine r_aload_n hC hl dX7_lamp_21 0 rfl ?_
      refine r_ldc (x := (-1000000001)) hC ct_RX7_44 (by decide) dX7_lamp_22 ?_
      refine r_cVi hC hI hl [.int (J (-1000000001))] [] (c_X7_finds0 l X a B S  ) ml_RX7_57 ev_X7_finds (rc_mo (S := S) hC hI) ⟨Nat.le_of_ble_eq_true rfl, Nat.le_of_ble_eq_true rfl⟩ ⟨Nat.zero_le _, Nat.zero_le _⟩ (Nat.le_of_ble_eq_true rfl) rfl dX7_lamp_24 (fun H locs hI => ?_)
      exact r_iret hC hr hlk hI (an_f 0 (by (repeat' split) <;> first | rfl | omega)) ((if_neg (by omega)).symm) dX7_lamp_27
