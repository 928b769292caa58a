def apF (R : Nat → Int) (q w su : Int) : Nat → Int := upR (upR (upR (upR (upR (upR (upR R 3 (R 3 - csF q w)) (18 + 5 * (R 5).toNat) q) (19 + 5 * (R 5).toNat) w) (20 + 5 * (R 5).toNat) (tkF q (dkF R 0))) (21 + 5 * (R 5).toNat) su) (22 + 5 * (R 5).toNat) 0) 5 (R 5 + 1)
theorem ap_eq (R : Nat → Int) (q w : Int) (h0 : 0 ≤ R 0) (i : Nat) (hi : i = (R 5).toNat) : upR (spF (upR (upR (upR R (18 + 5 * i) q) (19 + 5 * i) w) (21 + 5 * i) 0) i) 5 (R 5 + 1) = apF R q w 0 := by
  subst hi
  generalize hR : upR (upR (upR R (18 + 5 * (R 5).toNat) q) (19 + 5 * (R 5).toNat) w) (21 + 5 * (R 5).toNat) 0 = R1
  have e18 : R1 (18 + 5 * (R 5).toNat) = q := by rw [← hR, upR_ne _ _ (by omega), upR_ne _ _ (by omega), upR_at]
  have e19 : R1 (19 + 5 * (R 5).toNat) = w := by rw [← hR, upR_ne _ _ (by omega), upR_at]
  have e3 : R1 3 = R 3 := by rw [← hR, upR_ne _ _ (by omega), upR_ne _ _ (by omega), upR_ne _ _ (by omega)]
  have ed : dkF R1 0 = dkF R 0 := dk_cg (by rw [← hR, upR_ne _ _ (by omega), upR_ne _ _ (by omega), upR_ne _ _ (by omega)]) (fun j h1 h2 => by rw [← hR, upR_ne _ _ (by omega), upR_ne _ _ (by omega), upR_ne _ _ (by omega)]) h0
  unfold spF apF
  rw [e18, e19, e3, ed, ← hR]
  funext j
  simp only [upR]
  (repeat' split) <;> first | rfl | omega
def lgQ (R : Nat → Int) (n : Nat) (q : Nat) : Nat → Int := fun j => if j = 2 then (R 2 + R 1 * sumF (dkF R) n) % 9 else if j = 3 then iwF R (R 2 + R 1 * sumF (dkF R) n) else if 18 ≤ j ∧ (j - 18) % 5 = 2 ∧ (j - 18) / 5 < q then bkP R ((j - 18) / 5) (n : Int) else R j
def lgF (R : Nat → Int) (n : Nat) : Nat → Int := upR (lgQ R n (R 5).toNat) 0 (R 0 + (n : Int))
theorem lg_0 (R : Nat → Int) (n : Nat) : upR (upR R 3 (iwF R (R 2 + R 1 * sumF (dkF R) n))) 2 ((R 2 + R 1 * sumF (dkF R) n) % 9) = lgQ R n 0 := by
  funext j
  simp only [upR, lgQ]
  (repeat' split) <;> first | rfl | omega
theorem lg_up (R : Nat → Int) (n q : Nat) : upR (lgQ R n q) (20 + 5 * q) (bkP R q (n : Int)) = lgQ R n (q + 1) := by
  funext j
  by_cases hj : j = 20 + 5 * q
  · subst hj
    rw [upR_at]
    unfold lgQ
    rw [if_neg (by omega), if_neg (by omega), if_pos (by omega), show (20 + 5 * q - 18) / 5 = q by omega]
  · rw [upR_ne _ _ hj]
    unfold lgQ
    by_cases h2 : j = 2
    · rw [if_pos h2, if_pos h2]
    · by_cases h3 : j = 3
      · rw [if_neg h2, if_pos h3, if_neg h2, if_pos h3]
      · rw [if_neg h2, if_neg h3, if_neg h2, if_neg h3]
        by_cases h4 : 18 ≤ j ∧ (j - 18) % 5 = 2 ∧ (j - 18) / 5 < q
        · rw [if_pos h4, if_pos (by omega)]
        · rw [if_neg h4, if_neg (by omega)]
theorem lg_pg (R : Nat → Int) (n q j : Nat) (h1 : 18 + 5 * q ≤ j) (h2 : j < 23 + 5 * q) : lgQ R n q j = R j := by
  unfold lgQ
  rw [if_neg (by omega), if_neg (by omega), if_neg (by omega)]
def bkQ (R N : Nat → Int) (q : Nat) : Nat → Int := fun j => if 18 ≤ j ∧ (j - 18) % 5 = 2 ∧ (j - 18) / 5 < q ∧ 0 ≤ N ((j - 18) / 5) ∧ N ((j - 18) / 5) ≤ 99 then N ((j - 18) / 5) else R j
theorem bq_0 (R N : Nat → Int) : bkQ R N 0 = R := by
  funext j
  unfold bkQ
  rw [if_neg (by omega)]
theorem bq_t (R N : Nat → Int) (q : Nat) (h : 0 ≤ N q ∧ N q ≤ 99) : upR (bkQ R N q) (20 + 5 * q) (N q) = bkQ R N (q + 1) := by
  funext j
  by_cases hj : j = 20 + 5 * q
  · subst hj
    have e : (20 + 5 * q - 18) / 5 = q := by omega
    rw [upR_at]
    unfold bkQ
    rw [e, if_pos (by omega)]
  · rw [upR_ne _ _ hj]
    unfold bkQ
    by_cases h4 : 18 ≤ j ∧ (j - 18) % 5 = 2 ∧ (j - 18) / 5 < q ∧ 0 ≤ N ((j - 18) / 5) ∧ N ((j - 18) / 5) ≤ 99
    · rw [if_pos h4, if_pos (by omega)]
    · rw [if_neg h4, if_neg (by omega)]
theorem bq_f (R N : Nat → Int) (q : Nat) (h : ¬ (0 ≤ N q ∧ N q ≤ 99)) : bkQ R N q = bkQ R N (q + 1) := by
  funext j
  unfold bkQ
  by_cases hq : (j - 18) / 5 = q
  · rw [hq, if_neg (by omega), if_neg (by omega)]
  · by_cases h4 : 18 ≤ j ∧ (j - 18) % 5 = 2 ∧ (j - 18) / 5 < q ∧ 0 ≤ N ((j - 18) / 5) ∧ N ((j - 18) / 5) ≤ 99
    · rw [if_pos h4, if_pos (by omega)]
    · rw [if_neg h4, if_neg (by omega)]
def cpP (R R2 : Nat → Int) (i : Nat) : Nat → Int := fun j => if 18 + 5 * i ≤ j ∧ j < 23 + 5 * i then R2 j else R j
def bcF (R R2 : Nat → Int) (q : Nat) : Nat → Int := fun j => if j < 18 + 5 * q then R2 j else R j
theorem bc_up (R R2 : Nat → Int) (q : Nat) : cpP (bcF R R2 q) R2 q = bcF R R2 (q + 1) := by
  funext j
  unfold cpP bcF
  (repeat' split) <;> first | rfl | omega
theorem cp_eq (R R2 : Nat → Int) (i : Nat) : upR (upR (upR (upR (upR R (18 + 5 * i) (R2 (18 + 5 * i))) (19 + 5 * i) (R2 (19 + 5 * i))) (20 + 5 * i) (R2 (20 + 5 * i))) (21 + 5 * i) (R2 (21 + 5 * i))) (22 + 5 * i) (R2 (22 + 5 * i)) = cpP R R2 i := by
  funext j
  simp only [upR, cpP]
  (repeat' split) <;> first | rfl | (exfalso; omega) | (subst_vars; rfl)
theorem bc_end (S : St) {k k2 b j : Nat} (hk : k < 3) (hj : j < lim b) : setB S k (bcF (S k) (S k2) 8) b j = setB S k (S k2) b j := by
  by_cases hb : b = k
  · subst hb
    rw [setB_at, setB_at]
    rw [li_sc hk] at hj
    exact if_pos (by omega)
  · rw [setB_ne _ _ hb, setB_ne _ _ hb]
theorem bc_0 (R R2 : Nat → Int) : (fun j => if 6 ≤ j ∧ j < 18 then R2 j else upR (upR (upR (upR (upR (upR R 0 (R2 0)) 1 (R2 1)) 2 (R2 2)) 3 (R2 3)) 4 (R2 4)) 5 (R2 5) j) = bcF R R2 0 := by
  funext j
  simp only [upR, bcF]
  (repeat' split) <;> first | rfl | (exfalso; omega) | (subst_vars; rfl)

set_option maxHeartbeats 4000000 in
set_option maxRecDepth 100000 in
theorem c_X2_addPage (l : Launch) (X : XT) (a : Nat → Nat) (B : Nat) (S : St) (k : Nat) (q : Int) (w : Int) (hk : k < 3) (hV : VR 9999 (S k)) (h8 : S k 5 < 8) (hq : 0 ≤ q ∧ q ≤ 5) (hw : 0 ≤ w ∧ w ≤ 99) : CT l X a B 3 yX2_addPage cX2_addPage 4 (some .int) [.ref (a (2 + k)), .int (J q), .int (J w)] S (Qi X a B (S k 5) (setB S k (apF (S k) q w 0))) := by
  refine CT.of (by decide +kernel) (Nat.le_of_ble_eq_true rfl) ?_
  intro p e s m below meth c ls hC hr hlk hI hl
  have hC : Cx p c cX2_addPage 4 s m [.ref (a (2 + k)), .int (J q), .int (J w)].toArray RX2 X B := hC
  have hl : lv_has ls 4 [(0, .ref (a (2 + k))), (1, .int (J q)), (2, .int (J w))] := hl
  obtain ⟨⟨hN, hBr, hBu, hIn, hLa, hPc⟩, hDk, hPg⟩ := id hV
  have hd0 := dk_rg hV 0
  refine r_aload_n hC hl dX2_addPage_0 0 rfl ?_
  refine r_cVi hC hI hl [] [] (c_X2_isFull l X a B S k (by omega) (by omega)) ml_RX2_58 ev_X2_isFull (rc_sc (S := S) hC hI (by omega)) ⟨Nat.le_of_ble_eq_true rfl, Nat.le_of_ble_eq_true rfl⟩ ⟨Nat.zero_le _, Nat.zero_le _⟩ (Nat.le_of_ble_eq_true rfl) rfl dX2_addPage_1 (fun H locs hI => ?_)
  refine r_b_eq (tgt := 9) hC dX2_addPage_4 (by decide) (fun c_1 => ?_) (fun c_1 => ?_)
  · skip
    refine r_aload_n hC hl dX2_addPage_9 0 rfl ?_
    refine g_sc (k1 := k) (v := .ref (a (11 + k))) hC hI (by omega) 7 (by decide) fl_RX2_34 rfl rfl dX2_addPage_10 ?_
    refine r_aload_n hC hl dX2_addPage_13 0 rfl ?_
    refine g_sc (k1 := k) (v := .int (J (S k 5))) hC hI (by omega) 5 (by decide) fl_RX2_25 rfl rfl dX2_addPage_14 ?_
    refine r_pald (cx := 11 + k) hC hI (by omega) (ce_pa X a _ (by omega)) (by decide) ((S k 5).toNat) (by omega) (by omega) dX2_addPage_17 ?_
    refine r_astore_n (lv1 := [(3, .ref (a (25 + 8 * k + ((S k 5).toNat)))), (0, .ref (a (2 + k))), (1, .int (J q)), (2, .int (J w))]) hC hl dX2_addPage_18 3 rfl (by decide) rfl (fun ls hl => ?_)
    refine r_aload_n hC hl dX2_addPage_19 0 rfl ?_
    refine r_iload_n hC hl dX2_addPage_20 2 rfl ?_
    refine p_pg0 (k1 := k) (i := (S k 5).toNat) hC hI (by omega) (by omega) fl_RX2_62 dX2_addPage_21 (fun H locs hI => ?_)
    refine r_aload_n hC hl dX2_addPage_24 0 rfl ?_
    refine r_iload_n hC hl dX2_addPage_25 3 rfl ?_
    refine p_pg1 (k1 := k) (i := (S k 5).toNat) hC hI (by omega) (by omega) fl_RX2_65 dX2_addPage_26 (fun H locs hI => ?_)
    refine r_aload_n hC hl dX2_addPage_29 0 rfl ?_
    refine r_iconst hC dX2_addPage_30 ?_
    refine p_pg3 (k1 := k) (i := (S k 5).toNat) hC hI (by omega) (by omega) fl_RX2_68 dX2_addPage_31 (fun H locs hI => ?_)
    refine r_aload_n hC hl dX2_addPage_34 1 rfl ?_
    refine r_aload_n hC hl dX2_addPage_35 0 rfl ?_
    obtain ⟨T, eT⟩ : ∃ z : St, z = up (up (up S k (18 + 5 * ((S k 5).toNat)) q) k (19 + 5 * ((S k 5).toNat)) w) k (21 + 5 * ((S k 5).toNat)) 0 := ⟨_, rfl⟩
    rw [← eT] at hI
    have eT2 : T = setB S k (upR (upR (upR (S k) (18 + 5 * (S k 5).toNat) q) (19 + 5 * (S k 5).toNat) w) (21 + 5 * (S k 5).toNat) 0) := by rw [eT, up_eq S, up_set, up_set]
    have tR : T k = upR (upR (upR (S k) (18 + 5 * (S k 5).toNat) q) (19 + 5 * (S k 5).toNat) w) (21 + 5 * (S k 5).toNat) 0 := by rw [eT2, setB_at]
    have t0 : T k 0 = S k 0 := by rw [tR, upR_ne _ _ (by omega), upR_ne _ _ (by omega), upR_ne _ _ (by omega)]
    have td : dkF (T k) 0 = dkF (S k) 0 := dk_cg t0 (fun j h1 h2 => by rw [tR, upR_ne _ _ (by omega), upR_ne _ _ (by omega), upR_ne _ _ (by omega)]) hN.1
    have t18 : T k (18 + 5 * (S k 5).toNat) = q := by rw [tR, upR_ne _ _ (by omega), upR_ne _ _ (by omega), upR_at]
    have t19 : T k (19 + 5 * (S k 5).toNat) = w := by rw [tR, upR_ne _ _ (by omega), upR_at]
    have t5 : T k 5 = S k 5 := by rw [tR, upR_ne _ _ (by omega), upR_ne _ _ (by omega), upR_ne _ _ (by omega)]
    refine r_cVv hC hI hl [.ref (a (25 + 8 * k + ((S k 5).toNat)))] [] (c_X2_spendInkOn l X a B T k ((S k 5).toNat) (by omega) (by omega) (by omega) (by omega) (by omega) (by omega)) ml_RX2_71 ev_X2_spendInkOn (rc_sc (S := T) hC hI (by omega)) ⟨Nat.le_of_ble_eq_true rfl, Nat.le_of_ble_eq_true rfl⟩ ⟨Nat.zero_le _, Nat.zero_le _⟩ (Nat.le_of_ble_eq_true rfl) rfl dX2_addPage_36 (fun H locs hI => ?_)
    refine r_aload_n hC hl dX2_addPage_39 1 rfl ?_
    refine r_dup hC rfl dX2_addPage_40 ?_
    have tc : setB T k (spF (T k) (S k 5).toNat) k 5 = S k 5 := by rw [setB_at]; unfold spF; rw [upR_ne _ _ (by omega), upR_ne _ _ (by omega), upR_ne _ _ (by omega), t5]
    refine g_sc (k1 := k) (v := .int (J ((setB T k (spF (T k) ((S k 5).toNat))) k 5))) hC hI (by omega) 5 (by decide) fl_RX2_25 rfl rfl dX2_addPage_41 ?_
    refine r_as (y := S k 5) hC tc ?_
    refine r_iconst hC dX2_addPage_44 ?_
    refine r_iadd hC dX2_addPage_45 ?_
    refine p_sc5 (k1 := k) hC hI (by omega) fl_RX2_25 dX2_addPage_46 (fun H locs hI => ?_)
    refine r_aload_n hC hl dX2_addPage_49 1 rfl ?_
    refine g_sc (k1 := k) (v := .int (J ((S k 5) + 1))) hC hI (by omega) 5 (by decide) fl_RX2_25 rfl (congrArg (fun z => some (Value.int (J z))) (show (up (setB T k (spF (T k) ((S k 5).toNat))) k 5 ((S k 5) + 1)) k 5 = _ by rw [up_at])) dX2_addPage_50 ?_
    refine r_iconst hC dX2_addPage_53 ?_
    refine r_isub hC dX2_addPage_54 ?_
    exact r_iret hC hr hlk hI (by omega) (by rw [up_set, tR, eT2, setB_setB]; exact congrArg _ (ap_eq (S k) q w hN.1 _ rfl)) dX2_addPage_55
  · skip
    exfalso; omega

set_option maxHeartbeats 4000000 in
set_option maxRecDepth 100000 in
theorem c_X2_letGo (l : Launch) (X : XT) (a : Nat → Nat) (B : Nat) (S : St) (k : Nat) (n : Nat) (hk : k < 3) (hV : VR 9999 (S k)) (hn : n ≤ 300) : CT l X a B 3 yX2_letGo cX2_letGo 4 none [.ref (a (2 + k)), .int (J (n : Int))] S (Qv X a B (setB S k (lgF (S k) n))) := by
  refine CT.of (by decide +kernel) (Nat.le_of_ble_eq_true rfl) ?_
  intro p e s m below meth c ls hC hr hlk hI hl
  have hC : Cx p c cX2_letGo 4 s m [.ref (a (2 + k)), .int (J (n : Int))].toArray RX2 X B := hC
  have hl : lv_has ls 4 [(0, .ref (a (2 + k))), (1, .int (J (n : Int)))] := hl
  obtain ⟨⟨hN, hBr, hBu, hIn, hLa, hPc⟩, hDk, hPg⟩ := id hV
  have hbw := bw_rg hV hBr hn
  refine r_aload_n hC hl dX2_letGo_0 0 rfl ?_
  refine g_sc (k1 := k) (v := .int (J (S k 2))) hC hI (by omega) 2 (by decide) fl_RX2_16 rfl rfl dX2_letGo_1 ?_
  refine r_aload_n hC hl dX2_letGo_4 0 rfl ?_
  refine g_sc (k1 := k) (v := .int (J (S k 1))) hC hI (by omega) 1 (by decide) fl_RX2_13 rfl rfl dX2_letGo_5 ?_
  refine r_aload_n hC hl dX2_letGo_8 0 rfl ?_
  refine r_iload_n hC hl dX2_letGo_9 1 rfl ?_
  refine r_cVi hC hI hl [.int (J (n : Int))] [.int (J (S k 1)), .int (J (S k 2))] (c_X2_darkTogether l X a B S k n (by omega) hV (by omega)) ml_RX2_95 ev_X2_darkTogether (rc_sc (S := S) hC hI (by omega)) ⟨Nat.le_of_ble_eq_true rfl, Nat.le_of_ble_eq_true rfl⟩ ⟨Nat.zero_le _, Nat.zero_le _⟩ (Nat.le_of_ble_eq_true rfl) rfl dX2_letGo_10 (fun H locs hI => ?_)
  refine r_imul hC dX2_letGo_13 ?_
  refine r_iadd hC dX2_letGo_14 ?_
  refine r_istore_n (lv1 := [(2, .int (J ((S k 2) + ((S k 1) * (sumF (dkF (S k)) n))))), (0, .ref (a (2 + k))), (1, .int (J (n : Int)))]) hC hl dX2_letGo_15 2 rfl (by decide) rfl (fun ls hl => ?_)
  refine r_aload_n hC hl dX2_letGo_16 1 rfl ?_
  refine r_aload_n hC hl dX2_letGo_17 1 rfl ?_
  refine r_iload_n hC hl dX2_letGo_18 0 rfl ?_
  refine r_cVi hC hI hl [.int (J ((S k 2) + ((S k 1) * (sumF (dkF (S k)) n))))] [.ref (a (2 + k))] (c_X2_inkWith l X a B S k ((S k 2) + ((S k 1) * (sumF (dkF (S k)) n))) (by omega) (by omega) (by omega)) ml_RX2_98 ev_X2_inkWith (rc_sc (S := S) hC hI (by omega)) ⟨Nat.le_of_ble_eq_true rfl, Nat.le_of_ble_eq_true rfl⟩ ⟨Nat.zero_le _, Nat.zero_le _⟩ (Nat.le_of_ble_eq_true rfl) rfl dX2_letGo_19 (fun H locs hI => ?_)
  refine p_sc3 (k1 := k) hC hI (by omega) fl_RX2_19 dX2_letGo_22 (fun H locs hI => ?_)
  refine r_aload_n hC hl dX2_letGo_25 1 rfl ?_
  refine r_iload_n hC hl dX2_letGo_26 0 rfl ?_
  refine r_bipush hC (by decide) dX2_letGo_27 ?_
  refine r_irem hC (by omega) (by omega) dX2_letGo_29 ?_
  refine p_sc2 (k1 := k) hC hI (by omega) fl_RX2_16 dX2_letGo_30 (fun H locs hI => ?_)
  refine r_iconst hC dX2_letGo_33 ?_
  refine r_istore_n (lv1 := [(3, .int (J 0)), (2, .int (J ((S k 2) + ((S k 1) * (sumF (dkF (S k)) n))))), (0, .ref (a (2 + k))), (1, .int (J (n : Int)))]) hC hl dX2_letGo_34 3 rfl (by decide) rfl (fun ls hl => ?_)
  have hL35 : ∀ (fu : Nat) (q : Nat) (T : St) (x3 : Int), (S k 5).toNat - q < fu → (x3 = (q : Int)) → (q ≤ (S k 5).toNat) → (T = setB S k (lgQ (S k) n q)) → ∀ (H : Heap) (locs : List Loc) (ls : Array Slot), IS X a B s (T) H locs → lv_has ls 4 [(3, .int (J x3)), (0, .ref (a (2 + k))), (1, .int (J (n : Int)))] → W p l e (rmD 3) s m [.ref (a (2 + k)), .int (J (n : Int))].toArray below meth c H locs 0 0 (MQ below (Qv X a B (setB S k (lgF (S k) n))) [.ref (a (2 + k)), .int (J (n : Int))].toArray s 0 0 (fun q => B ≤ q)) (F0 m 35 ls []) := by
    intro fu
    induction fu with
    | zero => intro q T x3 hm; exact absurd hm (Nat.not_lt_zero _)
    | succ fu ih35 =>
      intro q T x3 hm e3 hq hT H locs ls hI hl
      subst e3
      have hTk : T k = lgQ (S k) n q := by rw [hT, setB_at]
      have e5 : T k 5 = S k 5 := by rw [hTk]; unfold lgQ; rw [if_neg (by omega), if_neg (by omega), if_neg (by omega)]
      have e0 : T k 0 = S k 0 := by rw [hTk]; unfold lgQ; rw [if_neg (by omega), if_neg (by omega), if_neg (by omega)]
      refine r_iload_n hC hl dX2_letGo_35 0 rfl ?_
      refine r_aload_n hC hl dX2_letGo_36 1 rfl ?_
      refine g_sc (k1 := k) (v := .int (J (T k 5))) hC hI (by omega) 5 (by decide) fl_RX2_25 rfl rfl dX2_letGo_37 ?_
      refine r_icmp_ge (tgt := 68) hC (by omega) (by omega) dX2_letGo_40 (by decide) (fun c_1 => ?_) (fun c_1 => ?_)
      · skip
        refine r_aload_n hC hl dX2_letGo_68 1 rfl ?_
        refine r_dup hC rfl dX2_letGo_69 ?_
        refine g_sc (k1 := k) (v := .int (J (T k 0))) hC hI (by omega) 0 (by decide) fl_RX2_7 rfl rfl dX2_letGo_70 ?_
        refine r_iload_n hC hl dX2_letGo_73 2 rfl ?_
        refine r_iadd hC dX2_letGo_74 ?_
        refine p_sc0 (k1 := k) hC hI (by omega) fl_RX2_7 dX2_letGo_75 (fun H locs hI => ?_)
        exact r_vret hC hr hlk hI (by rw [e0, hT, up_set, show q = (S k 5).toNat by omega]; rfl) dX2_letGo_78
      · skip
        have hcg : ∀ j, 18 + 5 * q ≤ j → j < 23 + 5 * q → T k j = S k j := fun j h1 h2 => by rw [hTk, lg_pg _ _ _ _ h1 h2]
        have hvp : VP (T k) q := VP_cg hcg (hPg q (by omega))
        have hbk : bkP (T k) q (n : Int) = bkP (S k) q (n : Int) := bkP_cg hcg
        refine r_aload_n hC hl dX2_letGo_43 1 rfl ?_
        refine g_sc (k1 := k) (v := .ref (a (11 + k))) hC hI (by omega) 7 (by decide) fl_RX2_34 rfl rfl dX2_letGo_44 ?_
        refine r_iload_n hC hl dX2_letGo_47 0 rfl ?_
        refine r_pald (cx := 11 + k) hC hI (by omega) (ce_pa X a _ (by omega)) (by decide) (q) (by omega) (by omega) dX2_letGo_48 ?_
        refine r_aload_n hC hl dX2_letGo_49 1 rfl ?_
        refine g_sc (k1 := k) (v := .ref (a (11 + k))) hC hI (by omega) 7 (by decide) fl_RX2_34 rfl rfl dX2_letGo_50 ?_
        refine r_iload_n hC hl dX2_letGo_53 0 rfl ?_
        refine r_pald (cx := 11 + k) hC hI (by omega) (ce_pa X a _ (by omega)) (by decide) (q) (by omega) (by omega) dX2_letGo_54 ?_
        refine r_iload_n hC hl dX2_letGo_55 2 rfl ?_
        refine r_cVi hC hI hl [.int (J (n : Int))] [.ref (a (25 + 8 * k + q))] (c_X1_blackOn l X a B T k q (n : Int) (by omega) (by omega) hvp (by omega)) ml_RX2_101 ev_X1_blackOn (rc_pg (S := T) hC hI (by omega) (by omega)) ⟨Nat.le_of_ble_eq_true rfl, Nat.le_of_ble_eq_true rfl⟩ ⟨Nat.zero_le _, Nat.zero_le _⟩ (Nat.le_of_ble_eq_true rfl) rfl dX2_letGo_56 (fun H locs hI => ?_)
        refine p_pg2 (k1 := k) (i := q) hC hI (by omega) (by omega) fl_RX2_81 dX2_letGo_59 (fun H locs hI => ?_)
        refine r_iinc (lv1 := [(3, .int (J ((q : Int) + 1))), (0, .ref (a (2 + k))), (1, .int (J (n : Int)))]) hC hl dX2_letGo_62 0 rfl (by decide) rfl (fun ls hl => ?_)
        refine r_goto (tgt := 35) hC dX2_letGo_65 (by decide) ?_
        exact ih35 (q + 1) (up T k (20 + 5 * q) (bkP (T k) q (n : Int))) ((q : Int) + 1) (by omega) (by omega) (by omega) (by rw [hbk, hT, up_set]; exact congrArg _ (lg_up (S k) n q)) _ _ _ hI (lv_sub hl [0, 1, 2] rfl)
  exact hL35 _ 0 (up (up S k 3 (iwF (S k) (S k 2 + (S k 1 * sumF (dkF (S k)) n)))) k 2 ((S k 2 + (S k 1 * sumF (dkF (S k)) n)) % 9)) 0 (Nat.lt_succ_self _) (by omega) (by omega) (by rw [up_eq S, up_set]; exact congrArg _ (lg_0 (S k) n)) _ _ _ hI (lv_sub hl [0, 2, 3] rfl)

set_option maxHeartbeats 4000000 in
set_option maxRecDepth 100000 in
theorem c_X2_blacken (l : Launch) (X : XT) (a : Nat → Nat) (B : Nat) (S : St) (k : Nat) (t : Nat) (hk : k < 3) (ht : t < 4) (hV : VR 9999 (S k)) (hlen : 0 ≤ S 7 t ∧ S 7 t ≤ 40) (hVL : ∀ j, j < 40 → -9223372036854775808 ≤ S (12 + t) j ∧ S (12 + t) j ≤ 9223372036854775807) : CT l X a B 0 yX2_blacken cX2_blacken 6 (some .int) [.ref (a (2 + k)), .ref (a (17 + t))] S (Qi X a B (sumF (fun j => bI (0 ≤ S (12 + t) j ∧ S (12 + t) j ≤ 99)) (min (S k 5).toNat (S 7 t).toNat)) (setB S k (bkQ (S k) (S (12 + t)) (min (S k 5).toNat (S 7 t).toNat)))) := by
  refine CT.of (by decide +kernel) (Nat.le_of_ble_eq_true rfl) ?_
  intro p e s m below meth c ls hC hr hlk hI hl
  have hC : Cx p c cX2_blacken 6 s m [.ref (a (2 + k)), .ref (a (17 + t))].toArray RX2 X B := hC
  have hl : lv_has ls 6 [(0, .ref (a (2 + k))), (1, .ref (a (17 + t)))] := hl
  obtain ⟨⟨hN, hBr, hBu, hIn, hLa, hPc⟩, hDk, hPg⟩ := id hV
  refine r_iconst hC dX2_blacken_0 ?_
  refine r_istore_n (lv1 := [(2, .int (J 0)), (0, .ref (a (2 + k))), (1, .ref (a (17 + t)))]) hC hl dX2_blacken_1 2 rfl (by decide) rfl (fun ls hl => ?_)
  refine r_iconst hC dX2_blacken_2 ?_
  refine r_istore_n (lv1 := [(3, .int (J 0)), (2, .int (J 0)), (0, .ref (a (2 + k))), (1, .ref (a (17 + t)))]) hC hl dX2_blacken_3 3 rfl (by decide) rfl (fun ls hl => ?_)
  have hL4 : ∀ (fu : Nat) (q : Nat) (T : St) (x3 x2 : Int), (min (S k 5).toNat (S 7 t).toNat) - q < fu → (x3 = (q : Int)) → (x2 = sumF (fun j => bI (0 ≤ S (12 + t) j ∧ S (12 + t) j ≤ 99)) q) → (q ≤ min (S k 5).toNat (S 7 t).toNat) → (T = setB S k (bkQ (S k) (S (12 + t)) q)) → ∀ (H : Heap) (locs : List Loc) (ls : Array Slot), IS X a B s (T) H locs → lv_has ls 6 [(3, .int (J x3)), (2, .int (J x2)), (0, .ref (a (2 + k))), (1, .ref (a (17 + t)))] → W p l e (rmD 0) s m [.ref (a (2 + k)), .ref (a (17 + t))].toArray below meth c H locs 0 0 (MQ below (Qi X a B (sumF (fun j => bI (0 ≤ S (12 + t) j ∧ S (12 + t) j ≤ 99)) (min (S k 5).toNat (S 7 t).toNat)) (setB S k (bkQ (S k) (S (12 + t)) (min (S k 5).toNat (S 7 t).toNat)))) [.ref (a (2 + k)), .ref (a (17 + t))].toArray s 0 0 (fun q => B ≤ q)) (F0 m 4 ls []) := by
    intro fu
    induction fu with
    | zero => intro q T x3 x2 hm; exact absurd hm (Nat.not_lt_zero _)
    | succ fu ih4 =>
      intro q T x3 x2 hm e3 e2 hq hT H locs ls hI hl
      subst e3; subst e2
      have hTk : T k = bkQ (S k) (S (12 + t)) q := by rw [hT, setB_at]
      have e5 : T k 5 = S k 5 := by rw [hTk]; unfold bkQ; rw [if_neg (by omega)]
      have e7 : T 7 t = S 7 t := by rw [hT, setB_ne _ _ (by omega)]
      have hTn : T (12 + t) = S (12 + t) := by rw [hT, setB_ne _ _ (by omega)]
      have hnq : T (12 + t) q = S (12 + t) q := by rw [hTn]
      refine r_iload_n hC hl dX2_blacken_4 0 rfl ?_
      refine r_aload_n hC hl dX2_blacken_5 2 rfl ?_
      refine g_sc (k1 := k) (v := .int (J (T k 5))) hC hI (by omega) 5 (by decide) fl_RX2_25 rfl rfl dX2_blacken_6 ?_
      refine r_icmp_ge (tgt := 65) hC (by omega) (by omega) dX2_blacken_9 (by decide) (fun c_1 => ?_) (fun c_1 => ?_)
      · skip
        refine r_iload_n hC hl dX2_blacken_65 1 rfl ?_
        exact r_iret hC hr hlk hI (by rw [show q = min (S k 5).toNat (S 7 t).toNat by omega]) (by rw [hT, show q = min (S k 5).toNat (S 7 t).toNat by omega]) dX2_blacken_66
      · skip
        refine r_iload_n hC hl dX2_blacken_12 0 rfl ?_
        refine r_aload_n hC hl dX2_blacken_13 3 rfl ?_
        refine g_sh (i := t) (v := .int (J (T 7 t))) hC hI (by omega) 1 (by decide) fl_RX2_129 rfl rfl dX2_blacken_14 ?_
        refine r_icmp_ge (tgt := 65) hC (by omega) (by omega) dX2_blacken_17 (by decide) (fun c_2 => ?_) (fun c_2 => ?_)
        · skip
          refine r_iload_n hC hl dX2_blacken_65 1 rfl ?_
          exact r_iret hC hr hlk hI (by rw [show q = min (S k 5).toNat (S 7 t).toNat by omega]) (by rw [hT, show q = min (S k 5).toNat (S 7 t).toNat by omega]) dX2_blacken_66
        · skip
          have hvl := hVL q (by omega)
          refine r_aload_n hC hl dX2_blacken_20 3 rfl ?_
          refine g_sh (i := t) (v := .ref (a (21 + t))) hC hI (by omega) 2 (by decide) fl_RX2_134 rfl rfl dX2_blacken_21 ?_
          refine r_iload_n hC hl dX2_blacken_24 0 rfl ?_
          refine r_lald (cx := 21 + t) (n := 40) (f := (fun S => S (12 + t)) (T)) (v := T (12 + t) q) hC hI (by omega) (ce_nu X a _ (by omega)) (by decide) (q) (by omega) (by omega) rfl dX2_blacken_25 ?_
          refine r_lstore (lv1 := [(4, .long (JL (T (12 + t) q))), (3, .int (J (q : Int))), (2, .int (J (sumF (fun j => bI (0 ≤ S (12 + t) j ∧ S (12 + t) j ≤ 99)) q))), (0, .ref (a (2 + k))), (1, .ref (a (17 + t)))]) hC hl dX2_blacken_26 (by decide) rfl (fun ls hl => ?_)
          refine r_lload hC hl dX2_blacken_28 0 rfl ?_
          refine r_lconst (x := 0) hC rfl dX2_blacken_30 ?_
          refine r_lcmp hC (by omega) (by omega) dX2_blacken_31 ?_
          refine r_c_lt (tgt := 59) hC dX2_blacken_32 (by decide) (fun c_3 => ?_) (fun c_3 => ?_)
          · skip
            refine r_iinc (lv1 := [(3, .int (J ((q : Int) + 1))), (4, .long (JL (T (12 + t) q))), (2, .int (J (sumF (fun j => bI (0 ≤ S (12 + t) j ∧ S (12 + t) j ≤ 99)) q))), (0, .ref (a (2 + k))), (1, .ref (a (17 + t)))]) hC hl dX2_blacken_59 1 rfl (by decide) rfl (fun ls hl => ?_)
            refine r_goto (tgt := 4) hC dX2_blacken_62 (by decide) ?_
            exact ih4 (q + 1) T ((q : Int) + 1) (sumF (fun j => bI (0 ≤ S (12 + t) j ∧ S (12 + t) j ≤ 99)) q) (by omega) (by omega) (by show _ = sumF (fun j => bI (0 ≤ S (12 + t) j ∧ S (12 + t) j ≤ 99)) q + bI _; rw [bI_f (by omega), Int.add_zero]) (by omega) (by rw [hT, bq_f _ _ _ (by omega)]) _ _ _ hI (lv_sub hl [0, 2, 3, 4] rfl)
          · skip
            refine r_lload hC hl dX2_blacken_35 0 rfl ?_
            refine r_ldc2 (x := (99)) hC cl_RX2_138 (by decide) dX2_blacken_37 ?_
            refine r_lcmp hC (by omega) (by omega) dX2_blacken_40 ?_
            refine r_c_gt (tgt := 59) hC dX2_blacken_41 (by decide) (fun c_4 => ?_) (fun c_4 => ?_)
            · skip
              refine r_iinc (lv1 := [(3, .int (J ((q : Int) + 1))), (4, .long (JL (T (12 + t) q))), (2, .int (J (sumF (fun j => bI (0 ≤ S (12 + t) j ∧ S (12 + t) j ≤ 99)) q))), (0, .ref (a (2 + k))), (1, .ref (a (17 + t)))]) hC hl dX2_blacken_59 1 rfl (by decide) rfl (fun ls hl => ?_)
              refine r_goto (tgt := 4) hC dX2_blacken_62 (by decide) ?_
              exact ih4 (q + 1) T ((q : Int) + 1) (sumF (fun j => bI (0 ≤ S (12 + t) j ∧ S (12 + t) j ≤ 99)) q) (by omega) (by omega) (by show _ = sumF (fun j => bI (0 ≤ S (12 + t) j ∧ S (12 + t) j ≤ 99)) q + bI _; rw [bI_f (by omega), Int.add_zero]) (by omega) (by rw [hT, bq_f _ _ _ (by omega)]) _ _ _ hI (lv_sub hl [0, 2, 3, 4] rfl)
            · skip
              refine r_aload_n hC hl dX2_blacken_44 3 rfl ?_
              refine g_sc (k1 := k) (v := .ref (a (11 + k))) hC hI (by omega) 7 (by decide) fl_RX2_34 rfl rfl dX2_blacken_45 ?_
              refine r_iload_n hC hl dX2_blacken_48 1 rfl ?_
              refine r_pald (cx := 11 + k) hC hI (by omega) (ce_pa X a _ (by omega)) (by decide) (q) (by omega) (by omega) dX2_blacken_49 ?_
              refine r_lload hC hl dX2_blacken_50 0 rfl ?_
              refine r_l2i hC dX2_blacken_52 ?_
              refine p_pg2 (k1 := k) (i := q) hC hI (by omega) (by omega) fl_RX2_81 dX2_blacken_53 (fun H locs hI => ?_)
              refine r_iinc (lv1 := [(2, .int (J (sumF (fun j => bI (0 ≤ S (12 + t) j ∧ S (12 + t) j ≤ 99)) q + 1))), (4, .long (JL (T (12 + t) q))), (3, .int (J (q : Int))), (0, .ref (a (2 + k))), (1, .ref (a (17 + t)))]) hC hl dX2_blacken_56 2 rfl (by decide) rfl (fun ls hl => ?_)
              refine r_iinc (lv1 := [(3, .int (J ((q : Int) + 1))), (2, .int (J (sumF (fun j => bI (0 ≤ S (12 + t) j ∧ S (12 + t) j ≤ 99)) q + 1))), (4, .long (JL (T (12 + t) q))), (0, .ref (a (2 + k))), (1, .ref (a (17 + t)))]) hC hl dX2_blacken_59 2 rfl (by decide) rfl (fun ls hl => ?_)
              refine r_goto (tgt := 4) hC dX2_blacken_62 (by decide) ?_
              exact ih4 (q + 1) (up T k (20 + 5 * q) (T (12 + t) q)) ((q : Int) + 1) (sumF (fun j => bI (0 ≤ S (12 + t) j ∧ S (12 + t) j ≤ 99)) q + 1) (by omega) (by omega) (by show _ = sumF (fun j => bI (0 ≤ S (12 + t) j ∧ S (12 + t) j ≤ 99)) q + bI _; rw [bI_t (by omega)]) (by omega) (by rw [hTn, hT, up_set, bq_t _ _ _ (by omega)]) _ _ _ hI (lv_sub hl [0, 1, 3, 4] rfl)
  exact hL4 _ 0 S 0 0 (Nat.lt_succ_self _) (by omega) rfl (by omega) (by rw [bq_0, setB_self]) _ _ _ hI (lv_sub hl [0, 1, 2, 3] rfl)

set_option maxHeartbeats 4000000 in
set_option maxRecDepth 100000 in
theorem c_X1_become (l : Launch) (X : XT) (a : Nat → Nat) (B : Nat) (S : St) (k : Nat) (i : Nat) (k2 : Nat) (hk : k < 3) (hi : i < 8) (hk2 : k2 < 3) (hne : k2 ≠ k) : CT l X a B 0 yX1_become cX1_become 2 none [.ref (a (25 + 8 * k + i)), .ref (a (25 + 8 * k2 + i))] S (Qv X a B (setB S k (cpP (S k) (S k2) i))) := by
  refine CT.of (by decide +kernel) (Nat.le_of_ble_eq_true rfl) ?_
  intro p e s m below meth c ls hC hr hlk hI hl
  have hC : Cx p c cX1_become 2 s m [.ref (a (25 + 8 * k + i)), .ref (a (25 + 8 * k2 + i))].toArray RX1 X B := hC
  have hl : lv_has ls 2 [(0, .ref (a (25 + 8 * k + i))), (1, .ref (a (25 + 8 * k2 + i)))] := hl
  refine r_aload_n hC hl dX1_become_0 0 rfl ?_
  refine r_aload_n hC hl dX1_become_1 1 rfl ?_
  refine g_pg (k1 := k2) (i := i) (v := .int (J (S k2 (18 + 5 * i)))) hC hI (by omega) (by omega) 0 (by decide) fl_RX1_7 rfl rfl dX1_become_2 ?_
  refine p_pg0 (k1 := k) (i := i) hC hI (by omega) (by omega) fl_RX1_7 dX1_become_5 (fun H locs hI => ?_)
  refine r_aload_n hC hl dX1_become_8 0 rfl ?_
  refine r_aload_n hC hl dX1_become_9 1 rfl ?_
  refine g_pg (k1 := k2) (i := i) (v := .int (J (S k2 (19 + 5 * i)))) hC hI (by omega) (by omega) 1 (by decide) fl_RX1_13 rfl (congrArg (fun z => some (Value.int (J z))) (show (up S k (18 + 5 * i) (S k2 (18 + 5 * i))) k2 (19 + 5 * i) = _ by rw [up_nb (b := k) (j := 18 + 5 * i) (c := k2) _ _ (by omega)])) dX1_become_10 ?_
  refine p_pg1 (k1 := k) (i := i) hC hI (by omega) (by omega) fl_RX1_13 dX1_become_13 (fun H locs hI => ?_)
  refine r_aload_n hC hl dX1_become_16 0 rfl ?_
  refine r_aload_n hC hl dX1_become_17 1 rfl ?_
  refine g_pg (k1 := k2) (i := i) (v := .int (J (S k2 (20 + 5 * i)))) hC hI (by omega) (by omega) 2 (by decide) fl_RX1_16 rfl (congrArg (fun z => some (Value.int (J z))) (show (up (up S k (18 + 5 * i) (S k2 (18 + 5 * i))) k (19 + 5 * i) (S k2 (19 + 5 * i))) k2 (20 + 5 * i) = _ by rw [up_nb (b := k) (j := 19 + 5 * i) (c := k2) _ _ (by omega), up_nb (b := k) (j := 18 + 5 * i) (c := k2) _ _ (by omega)])) dX1_become_18 ?_
  refine p_pg2 (k1 := k) (i := i) hC hI (by omega) (by omega) fl_RX1_16 dX1_become_21 (fun H locs hI => ?_)
  refine r_aload_n hC hl dX1_become_24 0 rfl ?_
  refine r_aload_n hC hl dX1_become_25 1 rfl ?_
  refine g_pg (k1 := k2) (i := i) (v := .int (J (S k2 (21 + 5 * i)))) hC hI (by omega) (by omega) 3 (by decide) fl_RX1_19 rfl (congrArg (fun z => some (Value.int (J z))) (show (up (up (up S k (18 + 5 * i) (S k2 (18 + 5 * i))) k (19 + 5 * i) (S k2 (19 + 5 * i))) k (20 + 5 * i) (S k2 (20 + 5 * i))) k2 (21 + 5 * i) = _ by rw [up_nb (b := k) (j := 20 + 5 * i) (c := k2) _ _ (by omega), up_nb (b := k) (j := 19 + 5 * i) (c := k2) _ _ (by omega), up_nb (b := k) (j := 18 + 5 * i) (c := k2) _ _ (by omega)])) dX1_become_26 ?_
  refine p_pg3 (k1 := k) (i := i) hC hI (by omega) (by omega) fl_RX1_19 dX1_become_29 (fun H locs hI => ?_)
  refine r_aload_n hC hl dX1_become_32 0 rfl ?_
  refine r_aload_n hC hl dX1_become_33 1 rfl ?_
  refine g_pg (k1 := k2) (i := i) (v := .int (J (S k2 (22 + 5 * i)))) hC hI (by omega) (by omega) 4 (by decide) fl_RX1_22 rfl (congrArg (fun z => some (Value.int (J z))) (show (up (up (up (up S k (18 + 5 * i) (S k2 (18 + 5 * i))) k (19 + 5 * i) (S k2 (19 + 5 * i))) k (20 + 5 * i) (S k2 (20 + 5 * i))) k (21 + 5 * i) (S k2 (21 + 5 * i))) k2 (22 + 5 * i) = _ by rw [up_nb (b := k) (j := 21 + 5 * i) (c := k2) _ _ (by omega), up_nb (b := k) (j := 20 + 5 * i) (c := k2) _ _ (by omega), up_nb (b := k) (j := 19 + 5 * i) (c := k2) _ _ (by omega), up_nb (b := k) (j := 18 + 5 * i) (c := k2) _ _ (by omega)])) dX1_become_34 ?_
  refine p_pg4 (k1 := k) (i := i) hC hI (by omega) (by omega) fl_RX1_22 dX1_become_37 (fun H locs hI => ?_)
  exact r_vret hC hr hlk hI (by rw [up_eq S, up_set, up_set, up_set, up_set]; exact congrArg _ (cp_eq (S k) (S k2) i)) dX1_become_40

set_option maxHeartbeats 4000000 in
set_option maxRecDepth 100000 in
theorem c_X2_become (l : Launch) (X : XT) (a : Nat → Nat) (B : Nat) (S : St) (k : Nat) (k2 : Nat) (hk : k < 3) (hk2 : k2 < 3) (hne : k2 ≠ k) : CT l X a B 3 yX2_become cX2_become 3 none [.ref (a (2 + k)), .ref (a (2 + k2))] S (Qv X a B (setB S k (S k2))) := by
  refine CT.of (by decide +kernel) (Nat.le_of_ble_eq_true rfl) ?_
  intro p e s m below meth c ls hC hr hlk hI hl
  have hC : Cx p c cX2_become 3 s m [.ref (a (2 + k)), .ref (a (2 + k2))].toArray RX2 X B := hC
  have hl : lv_has ls 3 [(0, .ref (a (2 + k))), (1, .ref (a (2 + k2)))] := hl
  refine r_aload_n hC hl dX2_become_0 0 rfl ?_
  refine r_aload_n hC hl dX2_become_1 1 rfl ?_
  refine g_sc (k1 := k2) (v := .int (J (S k2 0))) hC hI (by omega) 0 (by decide) fl_RX2_7 rfl rfl dX2_become_2 ?_
  refine p_sc0 (k1 := k) hC hI (by omega) fl_RX2_7 dX2_become_5 (fun H locs hI => ?_)
  refine r_aload_n hC hl dX2_become_8 0 rfl ?_
  refine r_aload_n hC hl dX2_become_9 1 rfl ?_
  refine g_sc (k1 := k2) (v := .int (J (S k2 1))) hC hI (by omega) 1 (by decide) fl_RX2_13 rfl (congrArg (fun z => some (Value.int (J z))) (show (up S k 0 (S k2 0)) k2 1 = _ by rw [up_nb (b := k) (j := 0) (c := k2) _ _ (by omega)])) dX2_become_10 ?_
  refine p_sc1 (k1 := k) hC hI (by omega) fl_RX2_13 dX2_become_13 (fun H locs hI => ?_)
  refine r_aload_n hC hl dX2_become_16 0 rfl ?_
  refine r_aload_n hC hl dX2_become_17 1 rfl ?_
  refine g_sc (k1 := k2) (v := .int (J (S k2 2))) hC hI (by omega) 2 (by decide) fl_RX2_16 rfl (congrArg (fun z => some (Value.int (J z))) (show (up (up S k 0 (S k2 0)) k 1 (S k2 1)) k2 2 = _ by rw [up_nb (b := k) (j := 1) (c := k2) _ _ (by omega), up_nb (b := k) (j := 0) (c := k2) _ _ (by omega)])) dX2_become_18 ?_
  refine p_sc2 (k1 := k) hC hI (by omega) fl_RX2_16 dX2_become_21 (fun H locs hI => ?_)
  refine r_aload_n hC hl dX2_become_24 0 rfl ?_
  refine r_aload_n hC hl dX2_become_25 1 rfl ?_
  refine g_sc (k1 := k2) (v := .int (J (S k2 3))) hC hI (by omega) 3 (by decide) fl_RX2_19 rfl (congrArg (fun z => some (Value.int (J z))) (show (up (up (up S k 0 (S k2 0)) k 1 (S k2 1)) k 2 (S k2 2)) k2 3 = _ by rw [up_nb (b := k) (j := 2) (c := k2) _ _ (by omega), up_nb (b := k) (j := 1) (c := k2) _ _ (by omega), up_nb (b := k) (j := 0) (c := k2) _ _ (by omega)])) dX2_become_26 ?_
  refine p_sc3 (k1 := k) hC hI (by omega) fl_RX2_19 dX2_become_29 (fun H locs hI => ?_)
  refine r_aload_n hC hl dX2_become_32 0 rfl ?_
  refine r_aload_n hC hl dX2_become_33 1 rfl ?_
  refine g_sc (k1 := k2) (v := .int (J (S k2 4))) hC hI (by omega) 4 (by decide) fl_RX2_22 rfl (congrArg (fun z => some (Value.int (J z))) (show (up (up (up (up S k 0 (S k2 0)) k 1 (S k2 1)) k 2 (S k2 2)) k 3 (S k2 3)) k2 4 = _ by rw [up_nb (b := k) (j := 3) (c := k2) _ _ (by omega), up_nb (b := k) (j := 2) (c := k2) _ _ (by omega), up_nb (b := k) (j := 1) (c := k2) _ _ (by omega), up_nb (b := k) (j := 0) (c := k2) _ _ (by omega)])) dX2_become_34 ?_
  refine p_sc4 (k1 := k) hC hI (by omega) fl_RX2_22 dX2_become_37 (fun H locs hI => ?_)
  refine r_aload_n hC hl dX2_become_40 0 rfl ?_
  refine r_aload_n hC hl dX2_become_41 1 rfl ?_
  refine g_sc (k1 := k2) (v := .int (J (S k2 5))) hC hI (by omega) 5 (by decide) fl_RX2_25 rfl (congrArg (fun z => some (Value.int (J z))) (show (up (up (up (up (up S k 0 (S k2 0)) k 1 (S k2 1)) k 2 (S k2 2)) k 3 (S k2 3)) k 4 (S k2 4)) k2 5 = _ by rw [up_nb (b := k) (j := 4) (c := k2) _ _ (by omega), up_nb (b := k) (j := 3) (c := k2) _ _ (by omega), up_nb (b := k) (j := 2) (c := k2) _ _ (by omega), up_nb (b := k) (j := 1) (c := k2) _ _ (by omega), up_nb (b := k) (j := 0) (c := k2) _ _ (by omega)])) dX2_become_42 ?_
  refine p_sc5 (k1 := k) hC hI (by omega) fl_RX2_25 dX2_become_45 (fun H locs hI => ?_)
  obtain ⟨T0, eT0⟩ : ∃ z : St, z = up (up (up (up (up (up S k 0 (S k2 0)) k 1 (S k2 1)) k 2 (S k2 2)) k 3 (S k2 3)) k 4 (S k2 4)) k 5 (S k2 5) := ⟨_, rfl⟩
  rw [← eT0] at hI
  have eT2 : T0 = setB S k (upR (upR (upR (upR (upR (upR (S k) 0 (S k2 0)) 1 (S k2 1)) 2 (S k2 2)) 3 (S k2 3)) 4 (S k2 4)) 5 (S k2 5)) := by rw [eT0, up_eq S, up_set, up_set, up_set, up_set, up_set]
  have tk : T0 k = upR (upR (upR (upR (upR (upR (S k) 0 (S k2 0)) 1 (S k2 1)) 2 (S k2 2)) 3 (S k2 3)) 4 (S k2 4)) 5 (S k2 5) := by rw [eT2, setB_at]
  have tk2 : T0 k2 = S k2 := by rw [eT2, setB_ne _ _ hne]
  refine r_aload_n hC hl dX2_become_48 1 rfl ?_
  refine g_sc (k1 := k2) (v := .ref (a (8 + k2))) hC hI (by omega) 6 (by decide) fl_RX2_28 rfl rfl dX2_become_49 ?_
  refine r_iconst hC dX2_become_52 ?_
  refine r_aload_n hC hl dX2_become_53 0 rfl ?_
  refine g_sc (k1 := k) (v := .ref (a (8 + k))) hC hI (by omega) 6 (by decide) fl_RX2_28 rfl rfl dX2_become_54 ?_
  refine r_iconst hC dX2_become_57 ?_
  refine r_bipush hC (by decide) dX2_become_58 ?_
  refine r_cpD hC hI hl (k1 := k) (k2 := k2) (by omega) (by omega) ml_RX2_42 ⟨Nat.le_of_ble_eq_true rfl, Nat.le_of_ble_eq_true rfl⟩ dX2_become_60 (fun H locs hI => ?_)
  refine r_iconst hC dX2_become_63 ?_
  refine r_istore_n (lv1 := [(2, .int (J 0)), (0, .ref (a (2 + k))), (1, .ref (a (2 + k2)))]) hC hl dX2_become_64 2 rfl (by decide) rfl (fun ls hl => ?_)
  have hL65 : ∀ (fu : Nat) (q : Nat) (T : St) (x2 : Int), 8 - q < fu → (x2 = (q : Int)) → (q ≤ 8) → (T = setB S k (bcF (S k) (S k2) q)) → ∀ (H : Heap) (locs : List Loc) (ls : Array Slot), IS X a B s (T) H locs → lv_has ls 3 [(2, .int (J x2)), (0, .ref (a (2 + k))), (1, .ref (a (2 + k2)))] → W p l e (rmD 3) s m [.ref (a (2 + k)), .ref (a (2 + k2))].toArray below meth c H locs 0 0 (MQ below (Qv X a B (setB S k (S k2))) [.ref (a (2 + k)), .ref (a (2 + k2))].toArray s 0 0 (fun q => B ≤ q)) (F0 m 65 ls []) := by
    intro fu
    induction fu with
    | zero => intro q T x2 hm; exact absurd hm (Nat.not_lt_zero _)
    | succ fu ih65 =>
      intro q T x2 hm e2 hq hT H locs ls hI hl
      subst e2
      have hTk : T k = bcF (S k) (S k2) q := by rw [hT, setB_at]
      have hTk2 : T k2 = S k2 := by rw [hT, setB_ne _ _ hne]
      refine r_iload_n hC hl dX2_become_65 0 rfl ?_
      refine r_bipush hC (by decide) dX2_become_66 ?_
      refine r_icmp_ge (tgt := 92) hC (by omega) (by omega) dX2_become_68 (by decide) (fun c_1 => ?_) (fun c_1 => ?_)
      · skip
        have hI := hI.cg (S' := setB S k (S k2)) (fun b j hj => by rw [hT, show q = 8 by omega]; exact bc_end S hk hj)
        exact r_vret hC hr hlk hI (rfl) dX2_become_92
      · skip
        refine r_aload_n hC hl dX2_become_71 1 rfl ?_
        refine g_sc (k1 := k) (v := .ref (a (11 + k))) hC hI (by omega) 7 (by decide) fl_RX2_34 rfl rfl dX2_become_72 ?_
        refine r_iload_n hC hl dX2_become_75 0 rfl ?_
        refine r_pald (cx := 11 + k) hC hI (by omega) (ce_pa X a _ (by omega)) (by decide) (q) (by omega) (by omega) dX2_become_76 ?_
        refine r_aload_n hC hl dX2_become_77 2 rfl ?_
        refine g_sc (k1 := k2) (v := .ref (a (11 + k2))) hC hI (by omega) 7 (by decide) fl_RX2_34 rfl rfl dX2_become_78 ?_
        refine r_iload_n hC hl dX2_become_81 0 rfl ?_
        refine r_pald (cx := 11 + k2) hC hI (by omega) (ce_pa X a _ (by omega)) (by decide) (q) (by omega) (by omega) dX2_become_82 ?_
        refine r_cVv hC hI hl [.ref (a (25 + 8 * k2 + q))] [] (c_X1_become l X a B T k q k2 (by omega) (by omega) (by omega) (by omega)) ml_RX2_48 ev_X1_become (rc_pg (S := T) hC hI (by omega) (by omega)) ⟨Nat.le_of_ble_eq_true rfl, Nat.le_of_ble_eq_true rfl⟩ ⟨Nat.zero_le _, Nat.zero_le _⟩ (Nat.le_of_ble_eq_true rfl) rfl dX2_become_83 (fun H locs hI => ?_)
        refine r_iinc (lv1 := [(2, .int (J ((q : Int) + 1))), (0, .ref (a (2 + k))), (1, .ref (a (2 + k2)))]) hC hl dX2_become_86 0 rfl (by decide) rfl (fun ls hl => ?_)
        refine r_goto (tgt := 65) hC dX2_become_89 (by decide) ?_
        exact ih65 (q + 1) (setB T k (cpP (T k) (T k2) q)) ((q : Int) + 1) (by omega) (by omega) (by omega) (by rw [hTk, hTk2, hT, setB_setB]; exact congrArg _ (bc_up (S k) (S k2) q)) _ _ _ hI (lv_sub hl [0, 1, 2] rfl)
  exact hL65 _ 0 (setB T0 k (fun j => if 6 ≤ j ∧ j < 18 then T0 k2 j else T0 k j)) 0 (Nat.lt_succ_self _) (by omega) (by omega) (by rw [tk2, tk, eT2, setB_setB]; exact congrArg _ (bc_0 (S k) (S k2))) _ _ _ hI (lv_sub hl [0, 1, 2] rfl)
