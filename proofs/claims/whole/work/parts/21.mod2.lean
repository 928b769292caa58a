theorem lg_o {R : Nat → Int} {n j : Nat} (h0 : j ≠ 0) (h2 : j ≠ 2) (h3 : j ≠ 3) (h : ¬ (18 ≤ j ∧ (j - 18) % 5 = 2 ∧ (j - 18) / 5 < (R 5).toNat)) : lgF R n j = R j := by
  unfold lgF
  rw [upR_ne _ _ h0]
  unfold lgQ
  rw [if_neg h2, if_neg h3, if_neg h]
theorem lg_z (R : Nat → Int) (n : Nat) : lgF R n 0 = R 0 + (n : Int) := upR_at _ _ _
theorem lg_2 (R : Nat → Int) (n : Nat) : lgF R n 2 = (R 2 + R 1 * sumF (dkF R) n) % 9 := by
  unfold lgF
  rw [upR_ne _ _ (by decide)]
  exact if_pos rfl
theorem lg_3 (R : Nat → Int) (n : Nat) : lgF R n 3 = iwF R (R 2 + R 1 * sumF (dkF R) n) := by
  unfold lgF
  rw [upR_ne _ _ (by decide)]
  unfold lgQ
  rw [if_neg (by decide), if_pos rfl]
theorem lg_b {R : Nat → Int} {n i : Nat} (hi : i < (R 5).toNat) : lgF R n (20 + 5 * i) = bkP R i (n : Int) := by
  unfold lgF
  rw [upR_ne _ _ (by omega)]
  unfold lgQ
  rw [if_neg (by omega), if_neg (by omega), if_pos (by omega), show (20 + 5 * i - 18) / 5 = i by omega]
theorem VR_mono {N M : Int} {R : Nat → Int} (h : N ≤ M) (hV : VR N R) : VR M R := ⟨⟨⟨hV.1.1.1, Int.le_trans hV.1.1.2 h⟩, hV.1.2⟩, hV.2⟩
theorem lg_VR {N : Int} {R : Nat → Int} {n : Nat} (hn : n ≤ 300) (hV : VR N R) : VR (N + (n : Int)) (lgF R n) := by
  obtain ⟨⟨hN, hBr, hBu, hIn, hLa, hPc⟩, hDk, hPg⟩ := id hV
  have hbw := bw_rg hV hBr hn
  have hiw := iw_rg hV hbw
  refine ⟨⟨?_, ?_, ?_, ?_, ?_, ?_⟩, fun j hj => ?_, fun i hi => ?_⟩
  · rw [lg_z]; omega
  · rw [lg_o (by decide) (by decide) (by decide) (by omega)]; exact hBr
  · rw [lg_2]; omega
  · rw [lg_3]; exact hiw
  · rw [lg_o (by decide) (by decide) (by decide) (by omega)]; exact hLa
  · rw [lg_o (by decide) (by decide) (by decide) (by omega)]; exact hPc
  · rw [lg_o (by omega) (by omega) (by omega) (by omega)]; exact hDk j hj
  · have hp := hPg i hi
    unfold VP
    rw [lg_o (j := 18 + 5 * i) (by omega) (by omega) (by omega) (by omega), lg_o (j := 19 + 5 * i) (by omega) (by omega) (by omega) (by omega), lg_o (j := 21 + 5 * i) (by omega) (by omega) (by omega) (by omega), lg_o (j := 22 + 5 * i) (by omega) (by omega) (by omega) (by omega)]
    refine ⟨hp.1, hp.2.1, ?_, hp.2.2.2⟩
    by_cases h : i < (R 5).toNat
    · rw [lg_b h]; exact bk_rg hp (by omega)
    · rw [lg_o (by omega) (by omega) (by omega) (by omega)]; exact hp.2.2.1
theorem dk_lg {N : Int} {R : Nat → Int} {n : Nat} (hV : VR N R) : dkF (lgF R n) 0 = dkF R n := by
  have hN := hV.1.1
  unfold dkF
  rw [lg_z, lg_o (by omega) (by omega) (by omega) (by omega)]
  congr 1
  omega
theorem fd_lg {R : Nat → Int} {n i : Nat} : fdP (lgF R n) i = fdP R i := by
  unfold fdP
  rw [lg_o (j := 18 + 5 * i) (by omega) (by omega) (by omega) (by omega), lg_o (j := 21 + 5 * i) (by omega) (by omega) (by omega) (by omega), lg_o (j := 22 + 5 * i) (by omega) (by omega) (by omega) (by omega)]
theorem fad_s (b f n : Int) (hb : 0 ≤ b ∧ b ≤ 99) (hf : 0 ≤ f) (hn : 0 ≤ n) : hdF (fadedF b f n - f) 0 99 = fadedF b f (n + 1) := by
  have h1 : 0 ≤ n * f := Int.mul_nonneg hn hf
  unfold fadedF
  rw [Int.add_mul, Int.one_mul]
  unfold hdF mxF
  (repeat' split) <;> omega
theorem ni_lg {N : Int} {R : Nat → Int} {n : Nat} (hn : n < 300) (hV : VR N R) : niF (lgF R n) = lgF R (n + 1) := by
  obtain ⟨⟨hN, hBr, hBu, hIn, hLa, hPc⟩, hDk, hPg⟩ := id hV
  have hbw := bw_rg hV hBr (n := n) (by omega)
  have hdk := dk_rg hV n
  have hmp := mul_bd hBr hdk
  have hdt : R 2 + R 1 * sumF (dkF R) (n + 1) = R 2 + R 1 * sumF (dkF R) n + R 1 * dkF R n := by
    show R 2 + R 1 * (sumF (dkF R) n + dkF R n) = _
    rw [Int.mul_add, Int.add_assoc]
  have e5 : lgF R n 5 = R 5 := lg_o (by decide) (by decide) (by decide) (by omega)
  have e1 : lgF R n 1 = R 1 := lg_o (by decide) (by decide) (by decide) (by omega)
  have hcm : dkF R n * R 1 = R 1 * dkF R n := Int.mul_comm _ _
  funext j
  by_cases h0 : j = 0
  · subst h0
    unfold niF
    rw [upR_at, lg_z, lg_z]
    omega
  · unfold niF
    rw [upR_ne _ _ h0]
    unfold niQ
    rw [dk_lg hV, e1, e5, hcm]
    by_cases h2 : j = 2
    · subst h2
      rw [if_pos rfl, lg_2, lg_2, hdt]
      omega
    · by_cases h3 : j = 3
      · subst h3
        rw [if_neg (by decide), if_pos rfl, lg_3, lg_3, lg_2, hdt]
        unfold iwF hdF mnF
        (repeat' split) <;> omega
      · rw [if_neg h2, if_neg h3]
        by_cases h4 : 18 ≤ j ∧ (j - 18) % 5 = 2 ∧ (j - 18) / 5 < (R 5).toNat
        · rw [if_pos h4]
          obtain ⟨i, hi⟩ : ∃ i, i = (j - 18) / 5 := ⟨_, rfl⟩
          have hj : j = 20 + 5 * i := by omega
          subst hj
          rw [show (20 + 5 * i - 18) / 5 = i by omega, lg_b (by omega), lg_b (by omega), fd_lg]
          have hp := hPg i (by omega)
          exact fad_s _ _ _ hp.2.2.1 (fd_rg hp.1 hp.2.2.2.1 hp.2.2.2.2).1 (by omega)
        · rw [if_neg h4, lg_o h0 h2 h3 h4, lg_o h0 h2 h3 h4]
theorem lg_id {N : Int} {R : Nat → Int} (hV : VR N R) : lgF R 0 = R := by
  obtain ⟨⟨hN, hBr, hBu, hIn, hLa, hPc⟩, hDk, hPg⟩ := id hV
  have e : R 2 + R 1 * sumF (dkF R) 0 = R 2 := by show R 2 + R 1 * 0 = _; rw [Int.mul_zero, Int.add_zero]
  funext j
  by_cases h0 : j = 0
  · subst h0; rw [lg_z]; omega
  · by_cases h2 : j = 2
    · subst h2; rw [lg_2, e]; omega
    · by_cases h3 : j = 3
      · subst h3; rw [lg_3, e]; unfold iwF mnF; split <;> omega
      · by_cases h4 : 18 ≤ j ∧ (j - 18) % 5 = 2 ∧ (j - 18) / 5 < (R 5).toNat
        · obtain ⟨i, hi⟩ : ∃ i, i = (j - 18) / 5 := ⟨_, rfl⟩
          have hj : j = 20 + 5 * i := by omega
          subst hj
          have hp := hPg i (by omega)
          have hb := hp.2.2.1
          rw [lg_b (by omega)]
          unfold bkP fadedF mxF
          rw [show ((0 : Nat) : Int) * fdP R i = 0 from Int.zero_mul _]
          split <;> omega
        · rw [lg_o h0 h2 h3 h4]
theorem bl_lg {N : Int} {R : Nat → Int} {n i : Nat} (hn : n ≤ 300) (hV : VR N R) (hi : i < (R 5).toNat) (w : Int) : blP (lgF R n) i 0 w = blP R i (n : Int) w := by
  have hp := hV.2.2 i (by have := hV.1.2.2.2.2.2; omega)
  have hb := bk_rg hp (n := (n : Int)) (by omega)
  unfold blP blA
  rw [lg_o (j := 18 + 5 * i) (by omega) (by omega) (by omega) (by omega), lg_o (j := 21 + 5 * i) (by omega) (by omega) (by omega) (by omega), lg_o (j := 22 + 5 * i) (by omega) (by omega) (by omega) (by omega), lg_b hi]
  have e : fadedF (bkP R i (n : Int)) (fdF (R (18 + 5 * i)) (R (21 + 5 * i)) (R (22 + 5 * i))) 0 = bkP R i (n : Int) := by
    unfold fadedF
    rw [Int.zero_mul, Int.sub_zero]
    generalize bkP R i (n : Int) = b at hb
    unfold mxF; split <;> omega
  rw [e]
  rfl
theorem al_lg {N : Int} {R : Nat → Int} {n : Nat} (hn : n ≤ 300) (hV : VR N R) (w : Int) : sumF (fun i => blP (lgF R n) i 0 w) (R 5).toNat = sumF (fun i => blP R i (n : Int) w) (R 5).toNat := sum_cg _ (fun i hi => bl_lg hn hV hi w)

set_option maxHeartbeats 4000000 in
set_option maxRecDepth 100000 in
theorem c_X7_notWhite (l : Launch) (X : XT) (a : Nat → Nat) (B : Nat) (S : St)  (hV : VR 20000 (S 20)) : CT l X a B 1 yX7_notWhite cX7_notWhite 3 (some .int) [.ref (a (49))] S (Qi X a B (nwF (S 20) (S 20 5).toNat) (S)) := by
  refine CT.of (by decide +kernel) (Nat.le_of_ble_eq_true rfl) ?_
  intro p e s m below meth c ls hC hr hlk hI hl
  have hC : Cx p c cX7_notWhite 3 s m [.ref (a (49))].toArray RX7 X B := hC
  have hl : lv_has ls 3 [(0, .ref (a (49)))] := hl
  obtain ⟨⟨hN, hBr, hBu, hIn, hLa, hPc⟩, hDk, hPg⟩ := id hV
  refine r_iconst hC dX7_notWhite_0 ?_
  refine r_istore_n (lv1 := [(1, .int (J 0)), (0, .ref (a (49)))]) hC hl dX7_notWhite_1 1 rfl (by decide) rfl (fun ls hl => ?_)
  refine r_iconst hC dX7_notWhite_2 ?_
  refine r_istore_n (lv1 := [(2, .int (J 0)), (1, .int (J 0)), (0, .ref (a (49)))]) hC hl dX7_notWhite_3 2 rfl (by decide) rfl (fun ls hl => ?_)
  have hL4 : ∀ (fu : Nat) (q : Nat) (x2 x1 : Int), (S 20 5).toNat - q < fu → (x2 = (q : Int)) → (x1 = nwF (S 20) q) → (q ≤ (S 20 5).toNat) → ∀ (H : Heap) (locs : List Loc) (ls : Array Slot), IS X a B s (S) H locs → lv_has ls 3 [(2, .int (J x2)), (1, .int (J x1)), (0, .ref (a (49)))] → W p l e (rmD 1) s m [.ref (a (49))].toArray below meth c H locs 0 0 (MQ below (Qi X a B (nwF (S 20) (S 20 5).toNat) (S)) [.ref (a (49))].toArray s 0 0 (fun q => B ≤ q)) (F0 m 4 ls []) := by
    intro fu
    induction fu with
    | zero => intro q x2 x1 hm; exact absurd hm (Nat.not_lt_zero _)
    | succ fu ih4 =>
      intro q x2 x1 hm e2 e1 hq H locs ls hI hl
      subst e2; subst e1
      have hnw := nw_rg (S 20) q
      refine r_iload_n hC hl dX7_notWhite_4 0 rfl ?_
      refine r_aload_n hC hl dX7_notWhite_5 2 rfl ?_
      refine g_mo  (v := .ref (a (50))) hC hI 0 (by decide) fl_RX7_7 rfl rfl dX7_notWhite_6 ?_
      refine r_iconst hC dX7_notWhite_9 ?_
      refine r_iald (cx := 50) (n := 58) (f := (fun S => S 20) (S)) (v := S 20 5) hC hI (by decide) rfl (by decide) (5) (by omega) (by omega) rfl dX7_notWhite_10 ?_
      refine r_icmp_ge (tgt := 39) hC (by omega) (by omega) dX7_notWhite_11 (by decide) (fun c_1 => ?_) (fun c_1 => ?_)
      · skip
        refine r_iload_n hC hl dX7_notWhite_39 1 rfl ?_
        exact r_iret hC hr hlk hI (by rw [show q = (S 20 5).toNat by omega]) (rfl) dX7_notWhite_40
      · skip
        refine r_iload_n hC hl dX7_notWhite_14 1 rfl ?_
        refine r_aload_n hC hl dX7_notWhite_15 2 rfl ?_
        refine r_iload_n hC hl dX7_notWhite_16 0 rfl ?_
        refine r_iconst hC dX7_notWhite_17 ?_
        refine r_cVi hC hI hl [.int (J (q : Int)), .int (J 2)] [.int (J (nwF (S 20) q))] (c_X7_its2 l X a B S q (by omega)) ml_RX7_64 ev_X7_its (rc_mo (S := S) hC hI) ⟨Nat.le_of_ble_eq_true rfl, Nat.le_of_ble_eq_true rfl⟩ ⟨Nat.zero_le _, Nat.zero_le _⟩ (Nat.le_of_ble_eq_true rfl) rfl dX7_notWhite_18 (fun H locs hI => ?_)
        have hvp := hPg q (by omega)
        have hbk := hvp.2.2.1
        refine r_if_le (tgt := 30) hC (by omega) dX7_notWhite_21 (by decide) (fun c_2 => ?_) (fun c_2 => ?_)
        · skip
          refine r_iconst hC dX7_notWhite_30 ?_
          refine r_ior0 hC dX7_notWhite_31 ?_
          refine r_istore_n (lv1 := [(1, .int (J (nwF (S 20) q))), (2, .int (J (q : Int))), (0, .ref (a (49)))]) hC hl dX7_notWhite_32 1 rfl (by decide) rfl (fun ls hl => ?_)
          refine r_iinc (lv1 := [(2, .int (J ((q : Int) + 1))), (1, .int (J (nwF (S 20) q))), (0, .ref (a (49)))]) hC hl dX7_notWhite_33 1 rfl (by decide) rfl (fun ls hl => ?_)
          refine r_goto (tgt := 4) hC dX7_notWhite_36 (by decide) ?_
          exact ih4 (q + 1) ((q : Int) + 1) (nwF (S 20) q) (by omega) (by omega) (by show _ = nwF (S 20) q + (if 0 < S 20 (20 + 5 * q) then (2 : Int) ^ q else 0); rw [if_neg (by omega), Int.add_zero]) (by omega) _ _ _ hI (lv_sub hl [0, 1, 2] rfl)
        · skip
          refine r_iconst hC dX7_notWhite_24 ?_
          refine r_iload_n hC hl dX7_notWhite_25 0 rfl ?_
          refine r_shl1 hC q (by omega) (by omega) dX7_notWhite_26 ?_
          refine r_goto (tgt := 31) hC dX7_notWhite_27 (by decide) ?_
          refine r_ior hC q (by omega) (by omega) dX7_notWhite_31 ?_
          refine r_istore_n (lv1 := [(1, .int (J (nwF (S 20) q + (2 : Int) ^ q))), (2, .int (J (q : Int))), (0, .ref (a (49)))]) hC hl dX7_notWhite_32 1 rfl (by decide) rfl (fun ls hl => ?_)
          refine r_iinc (lv1 := [(2, .int (J ((q : Int) + 1))), (1, .int (J (nwF (S 20) q + (2 : Int) ^ q))), (0, .ref (a (49)))]) hC hl dX7_notWhite_33 1 rfl (by decide) rfl (fun ls hl => ?_)
          refine r_goto (tgt := 4) hC dX7_notWhite_36 (by decide) ?_
          exact ih4 (q + 1) ((q : Int) + 1) (nwF (S 20) q + (2 : Int) ^ q) (by omega) (by omega) (by show _ = nwF (S 20) q + (if 0 < S 20 (20 + 5 * q) then (2 : Int) ^ q else 0); rw [if_pos c_2]) (by omega) _ _ _ hI (lv_sub hl [0, 1, 2] rfl)
  exact hL4 _ 0 0 0 (Nat.lt_succ_self _) (by omega) rfl (by omega) _ _ _ hI (lv_sub hl [0, 1, 2] rfl)

set_option maxHeartbeats 4000000 in
set_option maxRecDepth 100000 in
theorem c_X7_passes (l : Launch) (X : XT) (a : Nat → Nat) (B : Nat) (S : St) (n : Nat) (M : Int) (hV : VR M (S 20)) (hM : M ≤ 15000) (hn : n ≤ 300) : CT l X a B 3 yX7_passes cX7_passes 3 none [.ref (a (49)), .int (J (n : Int))] S (Qv X a B (setB S 20 (lgF (S 20) n))) := by
  refine CT.of (by decide +kernel) (Nat.le_of_ble_eq_true rfl) ?_
  intro p e s m below meth c ls hC hr hlk hI hl
  have hC : Cx p c cX7_passes 3 s m [.ref (a (49)), .int (J (n : Int))].toArray RX7 X B := hC
  have hl : lv_has ls 3 [(0, .ref (a (49))), (1, .int (J (n : Int)))] := hl
  refine r_iconst hC dX7_passes_0 ?_
  refine r_istore_n (lv1 := [(2, .int (J 0)), (0, .ref (a (49))), (1, .int (J (n : Int)))]) hC hl dX7_passes_1 2 rfl (by decide) rfl (fun ls hl => ?_)
  have hL2 : ∀ (fu : Nat) (q : Nat) (T : St) (x2 : Int), n - q < fu → (x2 = (q : Int)) → (q ≤ n) → (T = setB S 20 (lgF (S 20) q)) → ∀ (H : Heap) (locs : List Loc) (ls : Array Slot), IS X a B s (T) H locs → lv_has ls 3 [(2, .int (J x2)), (0, .ref (a (49))), (1, .int (J (n : Int)))] → W p l e (rmD 3) s m [.ref (a (49)), .int (J (n : Int))].toArray below meth c H locs 0 0 (MQ below (Qv X a B (setB S 20 (lgF (S 20) n))) [.ref (a (49)), .int (J (n : Int))].toArray s 0 0 (fun q => B ≤ q)) (F0 m 2 ls []) := by
    intro fu
    induction fu with
    | zero => intro q T x2 hm; exact absurd hm (Nat.not_lt_zero _)
    | succ fu ih2 =>
      intro q T x2 hm e2 hq hT H locs ls hI hl
      subst e2
      have hTk : T 20 = lgF (S 20) q := by rw [hT, setB_at]
      have hVT : VR 20000 (T 20) := by rw [hTk]; exact VR_mono (by omega) (lg_VR (by omega) hV)
      refine r_iload_n hC hl dX7_passes_2 0 rfl ?_
      refine r_iload_n hC hl dX7_passes_3 2 rfl ?_
      refine r_icmp_ge (tgt := 17) hC (by omega) (by omega) dX7_passes_4 (by decide) (fun c_1 => ?_) (fun c_1 => ?_)
      · skip
        exact r_vret hC hr hlk hI (by rw [hT, show q = n by omega]) dX7_passes_17
      · skip
        refine r_aload_n hC hl dX7_passes_7 1 rfl ?_
        refine r_cVv hC hI hl [] [] (c_X7_oneNight l X a B T  hVT) ml_RX7_110 ev_X7_oneNight (rc_mo (S := T) hC hI) ⟨Nat.le_of_ble_eq_true rfl, Nat.le_of_ble_eq_true rfl⟩ ⟨Nat.zero_le _, Nat.zero_le _⟩ (Nat.le_of_ble_eq_true rfl) rfl dX7_passes_8 (fun H locs hI => ?_)
        refine r_iinc (lv1 := [(2, .int (J ((q : Int) + 1))), (0, .ref (a (49))), (1, .int (J (n : Int)))]) hC hl dX7_passes_11 0 rfl (by decide) rfl (fun ls hl => ?_)
        refine r_goto (tgt := 2) hC dX7_passes_14 (by decide) ?_
        exact ih2 (q + 1) (setB T 20 (niF (T 20))) ((q : Int) + 1) (by omega) (by omega) (by omega) (by rw [hTk, hT, setB_setB, ni_lg (by omega) hV]) _ _ _ hI (lv_sub hl [0, 1, 2] rfl)
  exact hL2 _ 0 S 0 (Nat.lt_succ_self _) (by omega) (by omega) (by rw [lg_id hV, setB_self]) _ _ _ hI (lv_sub hl [0, 1, 2] rfl)

theorem c_X7_passes_i (l : Launch) (X : XT) (a : Nat → Nat) (B : Nat) (S : St) (n : Int) (M : Int) (hV : VR M (S 20)) (hM : M ≤ 15000) (hn : 0 ≤ n ∧ n ≤ 300) : CT l X a B 3 yX7_passes cX7_passes 3 none [.ref (a (49)), .int (J n)] S (Qv X a B (setB S 20 (lgF (S 20) n.toNat))) := by
  have h := c_X7_passes l X a B S n.toNat M hV hM (by omega)
  rw [show ((n.toNat : Nat) : Int) = n by omega] at h
  exact h

def mvF (R O : Nat → Int) (q : Nat) : Nat → Int := fun j => if j < q then R j else O j
theorem mv_up (R O : Nat → Int) (q : Nat) : upR (mvF R O q) q (R q) = mvF R O (q + 1) := by
  funext j
  unfold upR mvF
  by_cases h : j = q
  · subst h; rw [if_pos rfl, if_pos (by omega)]
  · rw [if_neg h]
    by_cases h2 : j < q
    · rw [if_pos h2, if_pos (by omega)]
    · rw [if_neg h2, if_neg (by omega)]
theorem mv_end {S : St} {b c d j : Nat} (hl : lim b = 58) (hj : j < lim d) : setB S b (mvF (S c) (S b) 58) d j = setB S b (S c) d j := by
  by_cases hb : d = b
  · subst hb
    rw [setB_at, setB_at]
    exact if_pos (by omega)
  · rw [setB_ne _ _ hb, setB_ne _ _ hb]

set_option maxHeartbeats 4000000 in
set_option maxRecDepth 100000 in
theorem c_X7_moveAll1 (l : Launch) (X : XT) (a : Nat → Nat) (B : Nat) (S : St) (cx : Nat) (b : Nat) (hcx : cx < 61) (hcell : ∀ S : St, cellAt X a S cx = arI X 58 (S b)) (hown : ∀ j, own b j = cx) (hb : b ≠ 20) (hlim : lim b = 58) : CT l X a B 0 yX7_moveAll cX7_moveAll 4 none [.ref (a (49)), .int (J 1), .ref (a (cx))] S (Qv X a B (setB S b (S 20))) := by
  refine CT.of (by decide +kernel) (Nat.le_of_ble_eq_true rfl) ?_
  intro p e s m below meth c ls hC hr hlk hI hl
  have hC : Cx p c cX7_moveAll 4 s m [.ref (a (49)), .int (J 1), .ref (a (cx))].toArray RX7 X B := hC
  have hl : lv_has ls 4 [(0, .ref (a (49))), (1, .int (J 1)), (2, .ref (a (cx)))] := hl
  refine r_iconst hC dX7_moveAll_0 ?_
  refine r_istore_n (lv1 := [(3, .int (J 0)), (0, .ref (a (49))), (1, .int (J 1)), (2, .ref (a (cx)))]) hC hl dX7_moveAll_1 3 rfl (by decide) rfl (fun ls hl => ?_)
  have hL2 : ∀ (fu : Nat) (q : Nat) (T : St) (x3 : Int), 58 - q < fu → (x3 = (q : Int)) → (q ≤ 58) → (T = setB S b (mvF (S 20) (S b) q)) → ∀ (H : Heap) (locs : List Loc) (ls : Array Slot), IS X a B s (T) H locs → lv_has ls 4 [(3, .int (J x3)), (0, .ref (a (49))), (1, .int (J 1)), (2, .ref (a (cx)))] → W p l e (rmD 0) s m [.ref (a (49)), .int (J 1), .ref (a (cx))].toArray below meth c H locs 0 0 (MQ below (Qv X a B (setB S b (S 20))) [.ref (a (49)), .int (J 1), .ref (a (cx))].toArray s 0 0 (fun q => B ≤ q)) (F0 m 2 ls []) := by
    intro fu
    induction fu with
    | zero => intro q T x3 hm; exact absurd hm (Nat.not_lt_zero _)
    | succ fu ih2 =>
      intro q T x3 hm e3 hq hT H locs ls hI hl
      subst e3
      have hTs : T 20 = S 20 := by rw [hT, setB_ne _ _ (by omega)]
      refine r_iload_n hC hl dX7_moveAll_2 0 rfl ?_
      refine r_bipush hC (by decide) dX7_moveAll_3 ?_
      refine r_icmp_ge (tgt := 39) hC (by omega) (by omega) dX7_moveAll_5 (by decide) (fun c_1 => ?_) (fun c_1 => ?_)
      · skip
        have hI := hI.cg (S' := setB S b (S 20)) (fun d j hj => by rw [hT, show q = 58 by omega]; exact mv_end hlim hj)
        exact r_vret hC hr hlk hI (rfl) dX7_moveAll_39
      · skip
        refine r_iload_n hC hl dX7_moveAll_8 2 rfl ?_
        refine r_if_eq (tgt := 24) hC (by decide) dX7_moveAll_9 (by decide) (fun z => absurd z (by decide)) (fun _ => ?_)
        refine r_aload_n hC hl dX7_moveAll_12 3 rfl ?_
        refine r_iload_n hC hl dX7_moveAll_13 0 rfl ?_
        refine r_aload_n hC hl dX7_moveAll_14 1 rfl ?_
        refine g_mo  (v := .ref (a (50))) hC hI 0 (by decide) fl_RX7_7 rfl rfl dX7_moveAll_15 ?_
        refine r_iload_n hC hl dX7_moveAll_18 0 rfl ?_
        refine r_iald (cx := 50) (n := 58) (f := (fun S => S 20) (T)) (v := T 20 q) hC hI (by decide) rfl (by decide) (q) (by omega) (by omega) rfl dX7_moveAll_19 ?_
        refine r_iast (cx := cx) (n := 58) (F := fun S => S b) hC hI (by omega) (hcell) (by decide) (q) (by omega) (by omega) (b := b) (j := q) (hown _) (fun q => by simp [up, setB, upR]) dX7_moveAll_20 (fun H locs hI => ?_)
        refine r_goto (tgt := 33) hC dX7_moveAll_21 (by decide) ?_
        refine r_iinc (lv1 := [(3, .int (J ((q : Int) + 1))), (0, .ref (a (49))), (1, .int (J 1)), (2, .ref (a (cx)))]) hC hl dX7_moveAll_33 0 rfl (by decide) rfl (fun ls hl => ?_)
        refine r_goto (tgt := 2) hC dX7_moveAll_36 (by decide) ?_
        exact ih2 (q + 1) (up T b q (T 20 q)) ((q : Int) + 1) (by omega) (by omega) (by omega) (by rw [hTs, hT, up_set]; exact congrArg _ (mv_up (S 20) (S b) q)) _ _ _ hI (lv_sub hl [0, 1, 2, 3] rfl)
  exact hL2 _ 0 S 0 (Nat.lt_succ_self _) (by omega) (by omega) (by rw [show mvF (S 20) (S b) 0 = S b from funext fun j => if_neg (Nat.not_lt_zero j), setB_self]) _ _ _ hI (lv_sub hl [0, 1, 2, 3] rfl)

set_option maxHeartbeats 4000000 in
set_option maxRecDepth 100000 in
theorem c_X7_moveAll0 (l : Launch) (X : XT) (a : Nat → Nat) (B : Nat) (S : St) (cx : Nat) (b : Nat) (hcx : cx < 61) (hcell : ∀ S : St, cellAt X a S cx = arI X 58 (S b)) (hown : ∀ j, own b j = cx) (hb : b ≠ 20) (hlim : lim b = 58) : CT l X a B 0 yX7_moveAll cX7_moveAll 4 none [.ref (a (49)), .int (J 0), .ref (a (cx))] S (Qv X a B (setB S 20 (S b))) := by
  refine CT.of (by decide +kernel) (Nat.le_of_ble_eq_true rfl) ?_
  intro p e s m below meth c ls hC hr hlk hI hl
  have hC : Cx p c cX7_moveAll 4 s m [.ref (a (49)), .int (J 0), .ref (a (cx))].toArray RX7 X B := hC
  have hl : lv_has ls 4 [(0, .ref (a (49))), (1, .int (J 0)), (2, .ref (a (cx)))] := hl
  refine r_iconst hC dX7_moveAll_0 ?_
  refine r_istore_n (lv1 := [(3, .int (J 0)), (0, .ref (a (49))), (1, .int (J 0)), (2, .ref (a (cx)))]) hC hl dX7_moveAll_1 3 rfl (by decide) rfl (fun ls hl => ?_)
  have hL2 : ∀ (fu : Nat) (q : Nat) (T : St) (x3 : Int), 58 - q < fu → (x3 = (q : Int)) → (q ≤ 58) → (T = setB S 20 (mvF (S b) (S 20) q)) → ∀ (H : Heap) (locs : List Loc) (ls : Array Slot), IS X a B s (T) H locs → lv_has ls 4 [(3, .int (J x3)), (0, .ref (a (49))), (1, .int (J 0)), (2, .ref (a (cx)))] → W p l e (rmD 0) s m [.ref (a (49)), .int (J 0), .ref (a (cx))].toArray below meth c H locs 0 0 (MQ below (Qv X a B (setB S 20 (S b))) [.ref (a (49)), .int (J 0), .ref (a (cx))].toArray s 0 0 (fun q => B ≤ q)) (F0 m 2 ls []) := by
    intro fu
    induction fu with
    | zero => intro q T x3 hm; exact absurd hm (Nat.not_lt_zero _)
    | succ fu ih2 =>
      intro q T x3 hm e3 hq hT H locs ls hI hl
      subst e3
      have hTs : T b = S b := by rw [hT, setB_ne _ _ (by omega)]
      refine r_iload_n hC hl dX7_moveAll_2 0 rfl ?_
      refine r_bipush hC (by decide) dX7_moveAll_3 ?_
      refine r_icmp_ge (tgt := 39) hC (by omega) (by omega) dX7_moveAll_5 (by decide) (fun c_1 => ?_) (fun c_1 => ?_)
      · skip
        have hI := hI.cg (S' := setB S 20 (S b)) (fun d j hj => by rw [hT, show q = 58 by omega]; exact mv_end rfl hj)
        exact r_vret hC hr hlk hI (rfl) dX7_moveAll_39
      · skip
        refine r_iload_n hC hl dX7_moveAll_8 2 rfl ?_
        refine r_if_eq (tgt := 24) hC (by decide) dX7_moveAll_9 (by decide) (fun _ => ?_) (fun z => absurd z (by decide))
        refine r_aload_n hC hl dX7_moveAll_24 1 rfl ?_
        refine g_mo  (v := .ref (a (50))) hC hI 0 (by decide) fl_RX7_7 rfl rfl dX7_moveAll_25 ?_
        refine r_iload_n hC hl dX7_moveAll_28 0 rfl ?_
        refine r_aload_n hC hl dX7_moveAll_29 3 rfl ?_
        refine r_iload_n hC hl dX7_moveAll_30 0 rfl ?_
        refine r_iald (cx := cx) (n := 58) (f := (fun S => S b) (T)) (v := T b q) hC hI (by omega) (hcell _) (by decide) (q) (by omega) (by omega) rfl dX7_moveAll_31 ?_
        refine r_iast (cx := 50) (n := 58) (F := fun S => S 20) hC hI (by decide) (fun _ => rfl) (by decide) (q) (by omega) (by omega) (b := 20) (j := q) rfl (fun q => by simp [up, setB, upR]) dX7_moveAll_32 (fun H locs hI => ?_)
        refine r_iinc (lv1 := [(3, .int (J ((q : Int) + 1))), (0, .ref (a (49))), (1, .int (J 0)), (2, .ref (a (cx)))]) hC hl dX7_moveAll_33 0 rfl (by decide) rfl (fun ls hl => ?_)
        refine r_goto (tgt := 2) hC dX7_moveAll_36 (by decide) ?_
        exact ih2 (q + 1) (up T 20 q (T b q)) ((q : Int) + 1) (by omega) (by omega) (by omega) (by rw [hTs, hT, up_set]; exact congrArg _ (mv_up (S b) (S 20) q)) _ _ _ hI (lv_sub hl [0, 1, 2, 3] rfl)
  exact hL2 _ 0 S 0 (Nat.lt_succ_self _) (by omega) (by omega) (by rw [show mvF (S b) (S 20) 0 = S 20 from funext fun j => if_neg (Nat.not_lt_zero j), setB_self]) _ _ _ hI (lv_sub hl [0, 1, 2, 3] rfl)
