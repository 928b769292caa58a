theorem VP_cg {R R' : Nat → Int} {i : Nat} (h : ∀ j, 18 + 5 * i ≤ j → j < 23 + 5 * i → R' j = R j) (hV : VP R i) : VP R' i := by
  unfold VP at hV ⊢
  rw [h (18 + 5 * i) (by omega) (by omega), h (19 + 5 * i) (by omega) (by omega), h (20 + 5 * i) (by omega) (by omega), h (21 + 5 * i) (by omega) (by omega), h (22 + 5 * i) (by omega) (by omega)]
  exact hV
theorem bkP_cg {R R' : Nat → Int} {i : Nat} {n : Int} (h : ∀ j, 18 + 5 * i ≤ j → j < 23 + 5 * i → R' j = R j) : bkP R' i n = bkP R i n := by
  unfold bkP fdP
  rw [h (18 + 5 * i) (by omega) (by omega), h (20 + 5 * i) (by omega) (by omega), h (21 + 5 * i) (by omega) (by omega), h (22 + 5 * i) (by omega) (by omega)]
def stD (R : Nat → Int) (n : Int) (j : Nat) : Int := blA R j (R (18 + 5 * j)) 0 n (R 4) - blA R j (R (18 + 5 * j)) 1 n (R 4)
def meF (R : Nat → Int) (n : Int) (O : Nat → Int) (q : Nat) : Nat → Int := fun j => if j < q then stD R n j else O j
theorem me_up (R : Nat → Int) (n : Int) (O : Nat → Int) (q : Nat) : upR (meF R n O q) q (stD R n q) = meF R n O (q + 1) := by
  funext j
  unfold upR meF
  by_cases h : j = q
  · subst h; rw [if_pos rfl, if_pos (by omega)]
  · rw [if_neg h]
    by_cases h2 : j < q
    · rw [if_pos h2, if_pos (by omega)]
    · rw [if_neg h2, if_neg (by omega)]
theorem st_rg {R : Nat → Int} {j : Nat} (hV : VP R j) {n : Int} (hn : 0 ≤ n ∧ n ≤ 300) (hw : 0 ≤ R 4 ∧ R 4 ≤ 9) : -300 ≤ stD R n j ∧ stD R n j ≤ 300 := by
  have h1 := blA_rg hV (k := R (18 + 5 * j)) (u := 0) hV.1 (by omega) hn hw
  have h2 := blA_rg hV (k := R (18 + 5 * j)) (u := 1) hV.1 (by omega) hn hw
  unfold stD; omega

set_option maxHeartbeats 4000000 in
set_option maxRecDepth 100000 in
theorem c_X2_measureSun (l : Launch) (X : XT) (a : Nat → Nat) (B : Nat) (S : St) (k : Nat) (n : Int) (hk : k < 3) (hV : VR 9999 (S k)) (hn : 0 ≤ n ∧ n ≤ 300) : CT l X a B 3 yX2_measureSun cX2_measureSun 5 (some .int) [.ref (a (2 + k)), .int (J n)] S (Qi X a B (sumF (fun j => blA (S k) j (S k (18 + 5 * j)) 0 n (S k 4)) (S k 5).toNat) (setB S (8 + k) (meF (S k) n (S (8 + k)) (S k 5).toNat))) := by
  refine CT.of (by decide +kernel) (Nat.le_of_ble_eq_true rfl) ?_
  intro p e s m below meth c ls hC hr hlk hI hl
  have hC : Cx p c cX2_measureSun 5 s m [.ref (a (2 + k)), .int (J n)].toArray RX2 X B := hC
  have hl : lv_has ls 5 [(0, .ref (a (2 + k))), (1, .int (J n))] := hl
  obtain ⟨⟨hN, hBr, hBu, hIn, hLa, hPc⟩, hDk, hPg⟩ := id hV
  refine r_iconst hC dX2_measureSun_0 ?_
  refine r_istore_n (lv1 := [(2, .int (J 0)), (0, .ref (a (2 + k))), (1, .int (J n))]) hC hl dX2_measureSun_1 2 rfl (by decide) rfl (fun ls hl => ?_)
  refine r_iconst hC dX2_measureSun_2 ?_
  refine r_istore_n (lv1 := [(3, .int (J 0)), (2, .int (J 0)), (0, .ref (a (2 + k))), (1, .int (J n))]) hC hl dX2_measureSun_3 3 rfl (by decide) rfl (fun ls hl => ?_)
  have hL4 : ∀ (fu : Nat) (q : Nat) (T : St) (x3 x2 : Int), (S k 5).toNat - q < fu → (x3 = (q : Int)) → (x2 = sumF (fun j => blA (S k) j (S k (18 + 5 * j)) 0 n (S k 4)) q) → (q ≤ (S k 5).toNat) → (T = setB S (8 + k) (meF (S k) n (S (8 + k)) q)) → ∀ (H : Heap) (locs : List Loc) (ls : Array Slot), IS X a B s (T) H locs → lv_has ls 5 [(3, .int (J x3)), (2, .int (J x2)), (0, .ref (a (2 + k))), (1, .int (J n))] → W p l e (rmD 3) s m [.ref (a (2 + k)), .int (J n)].toArray below meth c H locs 0 0 (MQ below (Qi X a B (sumF (fun j => blA (S k) j (S k (18 + 5 * j)) 0 n (S k 4)) (S k 5).toNat) (setB S (8 + k) (meF (S k) n (S (8 + k)) (S k 5).toNat))) [.ref (a (2 + k)), .int (J n)].toArray s 0 0 (fun q => B ≤ q)) (F0 m 4 ls []) := by
    intro fu
    induction fu with
    | zero => intro q T x3 x2 hm; exact absurd hm (Nat.not_lt_zero _)
    | succ fu ih4 =>
      intro q T x3 x2 hm e3 e2 hq hT H locs ls hI hl
      subst e3; subst e2
      have hTk : T k = S k := by rw [hT, setB_ne _ _ (by omega)]
      have e5 : T k 5 = S k 5 := by rw [hTk]
      have e4 : T k 4 = S k 4 := by rw [hTk]
      refine r_iload_n hC hl dX2_measureSun_4 0 rfl ?_
      refine r_aload_n hC hl dX2_measureSun_5 2 rfl ?_
      refine g_sc (k1 := k) (v := .int (J (T k 5))) hC hI (by omega) 5 (by decide) fl_RX2_25 rfl rfl dX2_measureSun_6 ?_
      refine r_icmp_ge (tgt := 82) hC (by omega) (by omega) dX2_measureSun_9 (by decide) (fun c_1 => ?_) (fun c_1 => ?_)
      · skip
        refine r_iload_n hC hl dX2_measureSun_82 1 rfl ?_
        exact r_iret hC hr hlk hI (by rw [show q = (S k 5).toNat by omega]) (by rw [hT, show q = (S k 5).toNat by omega]) dX2_measureSun_83
      · skip
        have hvp : VP (T k) q := by rw [hTk]; exact hPg q (by omega)
        have h18 := hvp.1
        refine r_aload_n hC hl dX2_measureSun_12 2 rfl ?_
        refine g_sc (k1 := k) (v := .ref (a (11 + k))) hC hI (by omega) 7 (by decide) fl_RX2_34 rfl rfl dX2_measureSun_13 ?_
        refine r_iload_n hC hl dX2_measureSun_16 0 rfl ?_
        refine r_pald (cx := 11 + k) hC hI (by omega) (ce_pa X a _ (by omega)) (by decide) (q) (by omega) (by omega) dX2_measureSun_17 ?_
        refine r_aload_n hC hl dX2_measureSun_18 2 rfl ?_
        refine g_sc (k1 := k) (v := .ref (a (11 + k))) hC hI (by omega) 7 (by decide) fl_RX2_34 rfl rfl dX2_measureSun_19 ?_
        refine r_iload_n hC hl dX2_measureSun_22 0 rfl ?_
        refine r_pald (cx := 11 + k) hC hI (by omega) (ce_pa X a _ (by omega)) (by decide) (q) (by omega) (by omega) dX2_measureSun_23 ?_
        refine g_pg (k1 := k) (i := q) (v := .int (J (T k (18 + 5 * q)))) hC hI (by omega) (by omega) 0 (by decide) fl_RX2_62 rfl rfl dX2_measureSun_24 ?_
        refine r_iconst hC dX2_measureSun_27 ?_
        refine r_iload_n hC hl dX2_measureSun_28 3 rfl ?_
        refine r_aload_n hC hl dX2_measureSun_29 2 rfl ?_
        refine g_sc (k1 := k) (v := .int (J (T k 4))) hC hI (by omega) 4 (by decide) fl_RX2_22 rfl rfl dX2_measureSun_30 ?_
        refine r_cVi hC hI hl [.int (J (T k (18 + 5 * q))), .int (J 0), .int (J n), .int (J (T k 4))] [] (c_X1_believedAs l X a B T k q (T k (18 + 5 * q)) 0 n (T k 4) (by omega) (by omega) hvp (by omega) (by omega) (by omega) (by omega)) ml_RX2_125 ev_X1_believedAs (rc_pg (S := T) hC hI (by omega) (by omega)) ⟨Nat.le_of_ble_eq_true rfl, Nat.le_of_ble_eq_true rfl⟩ ⟨Nat.zero_le _, Nat.zero_le _⟩ (Nat.le_of_ble_eq_true rfl) rfl dX2_measureSun_33 (fun H locs hI => ?_)
        refine r_istore (lv1 := [(4, .int (J (blA (T k) q (T k (18 + 5 * q)) 0 n (T k 4)))), (3, .int (J (q : Int))), (2, .int (J (sumF (fun j => blA (S k) j (S k (18 + 5 * j)) 0 n (S k 4)) q))), (0, .ref (a (2 + k))), (1, .int (J n))]) hC hl dX2_measureSun_36 (by decide) rfl (fun ls hl => ?_)
        refine r_aload_n hC hl dX2_measureSun_38 3 rfl ?_
        refine g_sc (k1 := k) (v := .ref (a (14 + k))) hC hI (by omega) 8 (by decide) fl_RX2_38 rfl rfl dX2_measureSun_39 ?_
        refine r_iload_n hC hl dX2_measureSun_42 1 rfl ?_
        refine r_iload hC hl dX2_measureSun_43 0 rfl ?_
        refine r_aload_n hC hl dX2_measureSun_45 3 rfl ?_
        refine g_sc (k1 := k) (v := .ref (a (11 + k))) hC hI (by omega) 7 (by decide) fl_RX2_34 rfl rfl dX2_measureSun_46 ?_
        refine r_iload_n hC hl dX2_measureSun_49 1 rfl ?_
        refine r_pald (cx := 11 + k) hC hI (by omega) (ce_pa X a _ (by omega)) (by decide) (q) (by omega) (by omega) dX2_measureSun_50 ?_
        refine r_aload_n hC hl dX2_measureSun_51 3 rfl ?_
        refine g_sc (k1 := k) (v := .ref (a (11 + k))) hC hI (by omega) 7 (by decide) fl_RX2_34 rfl rfl dX2_measureSun_52 ?_
        refine r_iload_n hC hl dX2_measureSun_55 1 rfl ?_
        refine r_pald (cx := 11 + k) hC hI (by omega) (ce_pa X a _ (by omega)) (by decide) (q) (by omega) (by omega) dX2_measureSun_56 ?_
        refine g_pg (k1 := k) (i := q) (v := .int (J (T k (18 + 5 * q)))) hC hI (by omega) (by omega) 0 (by decide) fl_RX2_62 rfl rfl dX2_measureSun_57 ?_
        refine r_iconst hC dX2_measureSun_60 ?_
        refine r_iload_n hC hl dX2_measureSun_61 4 rfl ?_
        refine r_aload_n hC hl dX2_measureSun_62 3 rfl ?_
        refine g_sc (k1 := k) (v := .int (J (T k 4))) hC hI (by omega) 4 (by decide) fl_RX2_22 rfl rfl dX2_measureSun_63 ?_
        refine r_cVi hC hI hl [.int (J (T k (18 + 5 * q))), .int (J 1), .int (J n), .int (J (T k 4))] [.int (J (blA (T k) q (T k (18 + 5 * q)) 0 n (T k 4))), .int (J (q : Int)), .ref (a (14 + k))] (c_X1_believedAs l X a B T k q (T k (18 + 5 * q)) 1 n (T k 4) (by omega) (by omega) hvp (by omega) (by omega) (by omega) (by omega)) ml_RX2_125 ev_X1_believedAs (rc_pg (S := T) hC hI (by omega) (by omega)) ⟨Nat.le_of_ble_eq_true rfl, Nat.le_of_ble_eq_true rfl⟩ ⟨Nat.zero_le _, Nat.zero_le _⟩ (Nat.le_of_ble_eq_true rfl) rfl dX2_measureSun_66 (fun H locs hI => ?_)
        refine r_isub hC dX2_measureSun_69 ?_
        refine r_iast (cx := 14 + k) (n := 8) (F := fun S => S (8 + k)) hC hI (by omega) (fun S => ce_su X a S (by omega)) (by decide) (q) (by omega) (by omega) (b := 8 + k) (j := q) (ow_su (by omega)) (fun q => by simp [up, setB, upR]) dX2_measureSun_70 (fun H locs hI => ?_)
        refine r_iload_n hC hl dX2_measureSun_71 2 rfl ?_
        refine r_iload hC hl dX2_measureSun_72 0 rfl ?_
        refine r_iadd hC dX2_measureSun_74 ?_
        refine r_istore_n (lv1 := [(2, .int (J ((sumF (fun j => blA (S k) j (S k (18 + 5 * j)) 0 n (S k 4)) q) + (blA (T k) q (T k (18 + 5 * q)) 0 n (T k 4))))), (4, .int (J (blA (T k) q (T k (18 + 5 * q)) 0 n (T k 4)))), (3, .int (J (q : Int))), (0, .ref (a (2 + k))), (1, .int (J n))]) hC hl dX2_measureSun_75 2 rfl (by decide) rfl (fun ls hl => ?_)
        refine r_iinc (lv1 := [(3, .int (J ((q : Int) + 1))), (2, .int (J ((sumF (fun j => blA (S k) j (S k (18 + 5 * j)) 0 n (S k 4)) q) + (blA (T k) q (T k (18 + 5 * q)) 0 n (T k 4))))), (4, .int (J (blA (T k) q (T k (18 + 5 * q)) 0 n (T k 4)))), (0, .ref (a (2 + k))), (1, .int (J n))]) hC hl dX2_measureSun_76 2 rfl (by decide) rfl (fun ls hl => ?_)
        refine r_goto (tgt := 4) hC dX2_measureSun_79 (by decide) ?_
        exact ih4 (q + 1) (up T (8 + k) q (blA (T k) q (T k (18 + 5 * q)) 0 n (T k 4) - blA (T k) q (T k (18 + 5 * q)) 1 n (T k 4))) ((q : Int) + 1) ((sumF (fun j => blA (S k) j (S k (18 + 5 * j)) 0 n (S k 4)) q) + (blA (T k) q (T k (18 + 5 * q)) 0 n (T k 4))) (by omega) (by omega) (by rw [hTk]; rfl) (by omega) (by rw [hTk, hT, up_set]; exact congrArg _ (me_up (S k) n (S (8 + k)) q)) _ _ _ hI (lv_sub hl [0, 1, 3, 4] rfl)
  exact hL4 _ 0 S 0 0 (Nat.lt_succ_self _) (by omega) rfl (by omega) (by rw [show meF (S k) n (S (8 + k)) 0 = S (8 + k) from funext fun j => if_neg (Nat.not_lt_zero j), setB_self]) _ _ _ hI (lv_sub hl [0, 1, 2, 3] rfl)

/-- the first of those with f at which st is most -/
def bsF (f : Nat → Bool) (st : Nat → Int) : Nat → Int
  | 0 => -1
  | n + 1 => if f n = true ∧ (bsF f st n < 0 ∨ st (bsF f st n).toNat < st n) then (n : Int) else bsF f st n
theorem bs_rg (f : Nat → Bool) (st : Nat → Int) : ∀ n : Nat, -1 ≤ bsF f st n ∧ bsF f st n < n
  | 0 => by show (-1 : Int) ≤ -1 ∧ (-1 : Int) < ((0 : Nat) : Int); omega
  | n + 1 => by
    have h := bs_rg f st n
    show -1 ≤ (if _ then _ else _) ∧ (if _ then _ else _) < _
    split <;> omega
theorem bs_t {f : Nat → Bool} {st : Nat → Int} {n : Nat} (h : f n = true) (h2 : bsF f st n < 0 ∨ st (bsF f st n).toNat < st n) : bsF f st (n + 1) = (n : Int) := if_pos ⟨h, h2⟩
theorem bs_f {f : Nat → Bool} {st : Nat → Int} {n : Nat} (h : ¬ (f n = true ∧ (bsF f st n < 0 ∨ st (bsF f st n).toNat < st n))) : bsF f st (n + 1) = bsF f st n := if_neg h

set_option maxHeartbeats 4000000 in
set_option maxRecDepth 100000 in
theorem c_X2_bestShaded (l : Launch) (X : XT) (a : Nat → Nat) (B : Nat) (S : St) (k : Nat) (n : Int) (hk : k < 3) (hV : VR 9999 (S k)) (hn : 0 ≤ n ∧ n ≤ 300) : CT l X a B 4 yX2_bestShaded cX2_bestShaded 4 (some .int) [.ref (a (2 + k)), .int (J n)] S (Qi X a B (bsF (fun j => decide (S k (21 + 5 * j) = 1)) (stD (S k) n) (S k 5).toNat) (setB S (8 + k) (meF (S k) n (S (8 + k)) (S k 5).toNat))) := by
  refine CT.of (by decide +kernel) (Nat.le_of_ble_eq_true rfl) ?_
  intro p e s m below meth c ls hC hr hlk hI hl
  have hC : Cx p c cX2_bestShaded 4 s m [.ref (a (2 + k)), .int (J n)].toArray RX2 X B := hC
  have hl : lv_has ls 4 [(0, .ref (a (2 + k))), (1, .int (J n))] := hl
  obtain ⟨⟨hN, hBr, hBu, hIn, hLa, hPc⟩, hDk, hPg⟩ := id hV
  refine r_aload_n hC hl dX2_bestShaded_0 0 rfl ?_
  refine r_iload_n hC hl dX2_bestShaded_1 1 rfl ?_
  refine r_cVi hC hI hl [.int (J n)] [] (c_X2_measureSun l X a B S k n (by omega) hV (by omega)) ml_RX2_107 ev_X2_measureSun (rc_sc (S := S) hC hI (by omega)) ⟨Nat.le_of_ble_eq_true rfl, Nat.le_of_ble_eq_true rfl⟩ ⟨Nat.zero_le _, Nat.zero_le _⟩ (Nat.le_of_ble_eq_true rfl) rfl dX2_bestShaded_2 (fun H locs hI => ?_)
  obtain ⟨T, eT⟩ : ∃ z : St, z = setB S (8 + k) (meF (S k) n (S (8 + k)) (S k 5).toNat) := ⟨_, rfl⟩
  rw [← eT] at hI
  have hTk : T k = S k := by rw [eT, setB_ne _ _ (by omega)]
  have hT8 : ∀ j, j < (S k 5).toNat → T (8 + k) j = stD (S k) n j := fun j hj => by rw [eT, setB_at]; exact if_pos hj
  have e5 : T k 5 = S k 5 := by rw [hTk]
  refine r_pop hC rfl dX2_bestShaded_5 ?_
  refine r_iconst hC dX2_bestShaded_6 ?_
  refine r_istore_n (lv1 := [(2, .int (J (-1))), (0, .ref (a (2 + k))), (1, .int (J n))]) hC hl dX2_bestShaded_7 2 rfl (by decide) rfl (fun ls hl => ?_)
  refine r_iconst hC dX2_bestShaded_8 ?_
  refine r_istore_n (lv1 := [(3, .int (J 0)), (2, .int (J (-1))), (0, .ref (a (2 + k))), (1, .int (J n))]) hC hl dX2_bestShaded_9 3 rfl (by decide) rfl (fun ls hl => ?_)
  have hL10 : ∀ (fu : Nat) (q : Nat) (x3 x2 : Int), (S k 5).toNat - q < fu → (x3 = (q : Int)) → (x2 = bsF (fun j => decide (S k (21 + 5 * j) = 1)) (stD (S k) n) q) → (q ≤ (S k 5).toNat) → ∀ (H : Heap) (locs : List Loc) (ls : Array Slot), IS X a B s (T) H locs → lv_has ls 4 [(3, .int (J x3)), (2, .int (J x2)), (0, .ref (a (2 + k))), (1, .int (J n))] → W p l e (rmD 4) s m [.ref (a (2 + k)), .int (J n)].toArray below meth c H locs 0 0 (MQ below (Qi X a B (bsF (fun j => decide (S k (21 + 5 * j) = 1)) (stD (S k) n) (S k 5).toNat) (setB S (8 + k) (meF (S k) n (S (8 + k)) (S k 5).toNat))) [.ref (a (2 + k)), .int (J n)].toArray s 0 0 (fun q => B ≤ q)) (F0 m 10 ls []) := by
    intro fu
    induction fu with
    | zero => intro q x3 x2 hm; exact absurd hm (Nat.not_lt_zero _)
    | succ fu ih10 =>
      intro q x3 x2 hm e3 e2 hq H locs ls hI hl
      subst e3; subst e2
      have hbs := bs_rg (fun j => decide (S k (21 + 5 * j) = 1)) (stD (S k) n) q
      refine r_iload_n hC hl dX2_bestShaded_10 0 rfl ?_
      refine r_aload_n hC hl dX2_bestShaded_11 2 rfl ?_
      refine g_sc (k1 := k) (v := .int (J (T k 5))) hC hI (by omega) 5 (by decide) fl_RX2_25 rfl rfl dX2_bestShaded_12 ?_
      refine r_icmp_ge (tgt := 58) hC (by omega) (by omega) dX2_bestShaded_15 (by decide) (fun c_1 => ?_) (fun c_1 => ?_)
      · skip
        refine r_iload_n hC hl dX2_bestShaded_58 1 rfl ?_
        exact r_iret hC hr hlk hI (by rw [show q = (S k 5).toNat by omega]) (eT) dX2_bestShaded_59
      · skip
        refine r_aload_n hC hl dX2_bestShaded_18 2 rfl ?_
        refine g_sc (k1 := k) (v := .ref (a (11 + k))) hC hI (by omega) 7 (by decide) fl_RX2_34 rfl rfl dX2_bestShaded_19 ?_
        refine r_iload_n hC hl dX2_bestShaded_22 0 rfl ?_
        refine r_pald (cx := 11 + k) hC hI (by omega) (ce_pa X a _ (by omega)) (by decide) (q) (by omega) (by omega) dX2_bestShaded_23 ?_
        have hvp := hPg q (by omega)
        have hv21 := hvp.2.2.2.1
        have e21 : T k (21 + 5 * q) = S k (21 + 5 * q) := by rw [hTk]
        refine g_pg (k1 := k) (i := q) (v := .int (J (T k (21 + 5 * q)))) hC hI (by omega) (by omega) 3 (by decide) fl_RX2_68 rfl rfl dX2_bestShaded_24 ?_
        refine r_iconst hC dX2_bestShaded_27 ?_
        refine r_icmp_ne (tgt := 52) hC (by omega) (by omega) dX2_bestShaded_28 (by decide) (fun c_2 => ?_) (fun c_2 => ?_)
        · skip
          refine r_iinc (lv1 := [(3, .int (J ((q : Int) + 1))), (2, .int (J (bsF (fun j => decide (S k (21 + 5 * j) = 1)) (stD (S k) n) q))), (0, .ref (a (2 + k))), (1, .int (J n))]) hC hl dX2_bestShaded_52 0 rfl (by decide) rfl (fun ls hl => ?_)
          refine r_goto (tgt := 10) hC dX2_bestShaded_55 (by decide) ?_
          exact ih10 (q + 1) ((q : Int) + 1) (bsF (fun j => decide (S k (21 + 5 * j) = 1)) (stD (S k) n) q) (by omega) (by omega) (bs_f (fun z => c_2 (by have := of_decide_eq_true z.1; rw [hTk]; exact this))).symm (by omega) _ _ _ hI (lv_sub hl [0, 1, 2, 3] rfl)
        · skip
          have h21 : S k (21 + 5 * q) = 1 := by omega
          have hs1 := st_rg hvp hn hLa
          refine r_iload_n hC hl dX2_bestShaded_31 1 rfl ?_
          refine r_if_lt (tgt := 50) hC (by omega) dX2_bestShaded_32 (by decide) (fun c_3 => ?_) (fun c_3 => ?_)
          · skip
            refine r_iload_n hC hl dX2_bestShaded_50 0 rfl ?_
            refine r_istore_n (lv1 := [(2, .int (J (q : Int))), (3, .int (J (q : Int))), (0, .ref (a (2 + k))), (1, .int (J n))]) hC hl dX2_bestShaded_51 2 rfl (by decide) rfl (fun ls hl => ?_)
            refine r_iinc (lv1 := [(3, .int (J ((q : Int) + 1))), (2, .int (J (q : Int))), (0, .ref (a (2 + k))), (1, .int (J n))]) hC hl dX2_bestShaded_52 1 rfl (by decide) rfl (fun ls hl => ?_)
            refine r_goto (tgt := 10) hC dX2_bestShaded_55 (by decide) ?_
            exact ih10 (q + 1) ((q : Int) + 1) (q : Int) (by omega) (by omega) (bs_t (decide_eq_true h21) (Or.inl c_3)).symm (by omega) _ _ _ hI (lv_sub hl [0, 1, 2, 3] rfl)
          · skip
            refine r_aload_n hC hl dX2_bestShaded_35 2 rfl ?_
            refine g_sc (k1 := k) (v := .ref (a (14 + k))) hC hI (by omega) 8 (by decide) fl_RX2_38 rfl rfl dX2_bestShaded_36 ?_
            refine r_iload_n hC hl dX2_bestShaded_39 0 rfl ?_
            refine r_iald (cx := 14 + k) (n := 8) (f := (fun S => S (8 + k)) (T)) (v := T (8 + k) q) hC hI (by omega) (ce_su X a _ (by omega)) (by decide) (q) (by omega) (by omega) rfl dX2_bestShaded_40 ?_
            refine r_as (y := stD (S k) n q) hC (hT8 q (by omega)) ?_
            have hs2 := st_rg (hPg (bsF (fun j => decide (S k (21 + 5 * j) = 1)) (stD (S k) n) q).toNat (by omega)) hn hLa
            refine r_aload_n hC hl dX2_bestShaded_41 2 rfl ?_
            refine g_sc (k1 := k) (v := .ref (a (14 + k))) hC hI (by omega) 8 (by decide) fl_RX2_38 rfl rfl dX2_bestShaded_42 ?_
            refine r_iload_n hC hl dX2_bestShaded_45 1 rfl ?_
            refine r_iald (cx := 14 + k) (n := 8) (f := (fun S => S (8 + k)) (T)) (v := T (8 + k) ((bsF (fun j => decide (S k (21 + 5 * j) = 1)) (stD (S k) n) q).toNat)) hC hI (by omega) (ce_su X a _ (by omega)) (by decide) ((bsF (fun j => decide (S k (21 + 5 * j) = 1)) (stD (S k) n) q).toNat) (by omega) (by omega) rfl dX2_bestShaded_46 ?_
            refine r_as (y := stD (S k) n ((bsF (fun j => decide (S k (21 + 5 * j) = 1)) (stD (S k) n) q).toNat)) hC (hT8 _ (by omega)) ?_
            refine r_icmp_le (tgt := 52) hC (by omega) (by omega) dX2_bestShaded_47 (by decide) (fun c_4 => ?_) (fun c_4 => ?_)
            · skip
              refine r_iinc (lv1 := [(3, .int (J ((q : Int) + 1))), (2, .int (J (bsF (fun j => decide (S k (21 + 5 * j) = 1)) (stD (S k) n) q))), (0, .ref (a (2 + k))), (1, .int (J n))]) hC hl dX2_bestShaded_52 0 rfl (by decide) rfl (fun ls hl => ?_)
              refine r_goto (tgt := 10) hC dX2_bestShaded_55 (by decide) ?_
              exact ih10 (q + 1) ((q : Int) + 1) (bsF (fun j => decide (S k (21 + 5 * j) = 1)) (stD (S k) n) q) (by omega) (by omega) (bs_f (fun z => by rcases z.2 with z | z <;> omega)).symm (by omega) _ _ _ hI (lv_sub hl [0, 1, 2, 3] rfl)
            · skip
              refine r_iload_n hC hl dX2_bestShaded_50 0 rfl ?_
              refine r_istore_n (lv1 := [(2, .int (J (q : Int))), (3, .int (J (q : Int))), (0, .ref (a (2 + k))), (1, .int (J n))]) hC hl dX2_bestShaded_51 2 rfl (by decide) rfl (fun ls hl => ?_)
              refine r_iinc (lv1 := [(3, .int (J ((q : Int) + 1))), (2, .int (J (q : Int))), (0, .ref (a (2 + k))), (1, .int (J n))]) hC hl dX2_bestShaded_52 1 rfl (by decide) rfl (fun ls hl => ?_)
              refine r_goto (tgt := 10) hC dX2_bestShaded_55 (by decide) ?_
              exact ih10 (q + 1) ((q : Int) + 1) (q : Int) (by omega) (by omega) (bs_t (decide_eq_true h21) (Or.inr c_4)).symm (by omega) _ _ _ hI (lv_sub hl [0, 1, 2, 3] rfl)
  exact hL10 _ 0 0 (-1) (Nat.lt_succ_self _) (by omega) rfl (by omega) _ _ _ hI (lv_sub hl [0, 1, 2, 3] rfl)

def tkS (st : Nat → Int) (m1 : Nat) (c : Nat) : Int := sumF (fun q => if m1 / 2 ^ q % 2 = 1 then st q else 0) c

set_option maxHeartbeats 4000000 in
set_option maxRecDepth 100000 in
theorem c_X2_takenBySun (l : Launch) (X : XT) (a : Nat → Nat) (B : Nat) (S : St) (k : Nat) (m1 : Nat) (hk : k < 3) (hV : VR 9999 (S k)) (hm1 : m1 < 256) : CT l X a B 0 yX2_takenBySun cX2_takenBySun 4 (some .int) [.ref (a (2 + k)), .int (J (m1 : Int))] S (Qi X a B (tkS (S (8 + k)) m1 (S k 5).toNat) (S)) := by
  refine CT.of (by decide +kernel) (Nat.le_of_ble_eq_true rfl) ?_
  intro p e s m below meth c ls hC hr hlk hI hl
  have hC : Cx p c cX2_takenBySun 4 s m [.ref (a (2 + k)), .int (J (m1 : Int))].toArray RX2 X B := hC
  have hl : lv_has ls 4 [(0, .ref (a (2 + k))), (1, .int (J (m1 : Int)))] := hl
  obtain ⟨⟨hN, hBr, hBu, hIn, hLa, hPc⟩, hDk, hPg⟩ := id hV
  refine r_iconst hC dX2_takenBySun_0 ?_
  refine r_istore_n (lv1 := [(2, .int (J 0)), (0, .ref (a (2 + k))), (1, .int (J (m1 : Int)))]) hC hl dX2_takenBySun_1 2 rfl (by decide) rfl (fun ls hl => ?_)
  refine r_iconst hC dX2_takenBySun_2 ?_
  refine r_istore_n (lv1 := [(3, .int (J 0)), (2, .int (J 0)), (0, .ref (a (2 + k))), (1, .int (J (m1 : Int)))]) hC hl dX2_takenBySun_3 3 rfl (by decide) rfl (fun ls hl => ?_)
  have hL4 : ∀ (fu : Nat) (q : Nat) (x3 x2 : Int), (S k 5).toNat - q < fu → (x3 = (q : Int)) → (x2 = tkS (S (8 + k)) m1 q) → (q ≤ (S k 5).toNat) → ∀ (H : Heap) (locs : List Loc) (ls : Array Slot), IS X a B s (S) H locs → lv_has ls 4 [(3, .int (J x3)), (2, .int (J x2)), (0, .ref (a (2 + k))), (1, .int (J (m1 : Int)))] → W p l e (rmD 0) s m [.ref (a (2 + k)), .int (J (m1 : Int))].toArray below meth c H locs 0 0 (MQ below (Qi X a B (tkS (S (8 + k)) m1 (S k 5).toNat) (S)) [.ref (a (2 + k)), .int (J (m1 : Int))].toArray s 0 0 (fun q => B ≤ q)) (F0 m 4 ls []) := by
    intro fu
    induction fu with
    | zero => intro q x3 x2 hm; exact absurd hm (Nat.not_lt_zero _)
    | succ fu ih4 =>
      intro q x3 x2 hm e3 e2 hq H locs ls hI hl
      subst e3; subst e2
      refine r_iload_n hC hl dX2_takenBySun_4 0 rfl ?_
      refine r_aload_n hC hl dX2_takenBySun_5 2 rfl ?_
      refine g_sc (k1 := k) (v := .int (J (S k 5))) hC hI (by omega) 5 (by decide) fl_RX2_25 rfl rfl dX2_takenBySun_6 ?_
      refine r_icmp_ge (tgt := 36) hC (by omega) (by omega) dX2_takenBySun_9 (by decide) (fun c_1 => ?_) (fun c_1 => ?_)
      · skip
        refine r_iload_n hC hl dX2_takenBySun_36 1 rfl ?_
        exact r_iret hC hr hlk hI (by rw [show q = (S k 5).toNat by omega]) (rfl) dX2_takenBySun_37
      · skip
        refine r_iload_n hC hl dX2_takenBySun_12 3 rfl ?_
        refine r_iload_n hC hl dX2_takenBySun_13 0 rfl ?_
        refine r_ishr hC (m1 := m1) (q := q) (by omega) (by omega) dX2_takenBySun_14 ?_
        have hdv := Nat.div_le_self m1 (2 ^ q)
        refine r_iconst hC dX2_takenBySun_15 ?_
        refine r_iand1 hC (m1 := m1 / 2 ^ q) (Nat.lt_of_le_of_lt (Nat.div_le_self _ _) hm1) dX2_takenBySun_16 ?_
        refine r_iconst hC dX2_takenBySun_17 ?_
        refine r_icmp_ne (tgt := 30) hC (by omega) (by omega) dX2_takenBySun_18 (by decide) (fun c_2 => ?_) (fun c_2 => ?_)
        · skip
          refine r_iinc (lv1 := [(3, .int (J ((q : Int) + 1))), (2, .int (J (tkS (S (8 + k)) m1 q))), (0, .ref (a (2 + k))), (1, .int (J (m1 : Int)))]) hC hl dX2_takenBySun_30 0 rfl (by decide) rfl (fun ls hl => ?_)
          refine r_goto (tgt := 4) hC dX2_takenBySun_33 (by decide) ?_
          exact ih4 (q + 1) ((q : Int) + 1) (tkS (S (8 + k)) m1 q) (by omega) (by omega) (by show _ = tkS (S (8 + k)) m1 q + (if m1 / 2 ^ q % 2 = 1 then S (8 + k) q else 0); rw [if_neg (by omega), Int.add_zero]) (by omega) _ _ _ hI (lv_sub hl [0, 1, 2, 3] rfl)
        · skip
          refine r_iload_n hC hl dX2_takenBySun_21 1 rfl ?_
          refine r_aload_n hC hl dX2_takenBySun_22 2 rfl ?_
          refine g_sc (k1 := k) (v := .ref (a (14 + k))) hC hI (by omega) 8 (by decide) fl_RX2_38 rfl rfl dX2_takenBySun_23 ?_
          refine r_iload_n hC hl dX2_takenBySun_26 0 rfl ?_
          refine r_iald (cx := 14 + k) (n := 8) (f := (fun S => S (8 + k)) (S)) (v := S (8 + k) q) hC hI (by omega) (ce_su X a _ (by omega)) (by decide) (q) (by omega) (by omega) rfl dX2_takenBySun_27 ?_
          refine r_iadd hC dX2_takenBySun_28 ?_
          refine r_istore_n (lv1 := [(2, .int (J ((tkS (S (8 + k)) m1 q) + (S (8 + k) q)))), (3, .int (J (q : Int))), (0, .ref (a (2 + k))), (1, .int (J (m1 : Int)))]) hC hl dX2_takenBySun_29 2 rfl (by decide) rfl (fun ls hl => ?_)
          refine r_iinc (lv1 := [(3, .int (J ((q : Int) + 1))), (2, .int (J ((tkS (S (8 + k)) m1 q) + (S (8 + k) q)))), (0, .ref (a (2 + k))), (1, .int (J (m1 : Int)))]) hC hl dX2_takenBySun_30 1 rfl (by decide) rfl (fun ls hl => ?_)
          refine r_goto (tgt := 4) hC dX2_takenBySun_33 (by decide) ?_
          exact ih4 (q + 1) ((q : Int) + 1) ((tkS (S (8 + k)) m1 q) + (S (8 + k) q)) (by omega) (by omega) (by show _ = tkS (S (8 + k)) m1 q + (if m1 / 2 ^ q % 2 = 1 then S (8 + k) q else 0); rw [if_pos (by omega)]) (by omega) _ _ _ hI (lv_sub hl [0, 1, 2, 3] rfl)
  exact hL4 _ 0 0 0 (Nat.lt_succ_self _) (by omega) rfl (by omega) _ _ _ hI (lv_sub hl [0, 1, 2, 3] rfl)

/-- of those below n with f, the one of most bits, of several the least -/
def msF (f : Nat → Bool) : Nat → Int
  | 0 => -1
  | n + 1 => if f n = true ∧ (msF f n < 0 ∨ pcN (msF f n).toNat < pcN n) then (n : Int) else msF f n
theorem ms_rg (f : Nat → Bool) : ∀ n : Nat, -1 ≤ msF f n ∧ msF f n < n
  | 0 => by show (-1 : Int) ≤ -1 ∧ (-1 : Int) < ((0 : Nat) : Int); omega
  | n + 1 => by
    have h := ms_rg f n
    show -1 ≤ (if _ then _ else _) ∧ (if _ then _ else _) < _
    split <;> omega
theorem ms_t {f : Nat → Bool} {n : Nat} (h : f n = true) (h2 : msF f n < 0 ∨ pcN (msF f n).toNat < pcN n) : msF f (n + 1) = (n : Int) := if_pos ⟨h, h2⟩
theorem ms_f {f : Nat → Bool} {n : Nat} (h : ¬ (f n = true ∧ (msF f n < 0 ∨ pcN (msF f n).toNat < pcN n))) : msF f (n + 1) = msF f n := if_neg h
theorem tk_rgS {st : Nat → Int} {m1 c : Nat} (hc : c ≤ 8) (h : ∀ q, q < c → -300 ≤ st q ∧ st q ≤ 300) : -2400 ≤ tkS st m1 c ∧ tkS st m1 c ≤ 2400 := by
  have h2 : ∀ c : Nat, (∀ q, q < c → -300 ≤ st q ∧ st q ≤ 300) → -300 * (c : Int) ≤ tkS st m1 c ∧ tkS st m1 c ≤ 300 * (c : Int) := by
    intro c
    induction c with
    | zero => intro _; show -300 * ((0 : Nat) : Int) ≤ 0 ∧ (0 : Int) ≤ _; omega
    | succ c ih =>
      intro h
      have h1 := ih (fun q hq => h q (by omega))
      have h3 := h c (by omega)
      show _ ≤ tkS st m1 c + (if m1 / 2 ^ c % 2 = 1 then st c else 0) ∧ tkS st m1 c + (if m1 / 2 ^ c % 2 = 1 then st c else 0) ≤ _
      split <;> omega
  have h3 := h2 c h
  omega
theorem tkS_cg {st st' : Nat → Int} {m1 c : Nat} (h : ∀ q, q < c → st q = st' q) : tkS st m1 c = tkS st' m1 c := sum_cg c (fun i hi => by rw [h i hi])
theorem sh_rg {N : Int} {R : Nat → Int} (hV : VR N R) {n : Int} (hn : 0 ≤ n ∧ n ≤ 300) {c : Nat} (hc : c ≤ 8) : 0 ≤ sumF (fun j => blA R j (R (18 + 5 * j)) 0 n (R 4)) c ∧ sumF (fun j => blA R j (R (18 + 5 * j)) 0 n (R 4)) c ≤ 2400 := by
  have h := sum_rg (f := fun j => blA R j (R (18 + 5 * j)) 0 n (R 4)) (A := 300) c (fun i hi => blA_rg (hV.2.2 i (by omega)) (hV.2.2 i (by omega)).1 (by omega) hn hV.1.2.2.2.2.1)
  omega

set_option maxHeartbeats 4000000 in
set_option maxRecDepth 100000 in
theorem c_X2_mostInSun (l : Launch) (X : XT) (a : Nat → Nat) (B : Nat) (S : St) (k : Nat) (n : Int) (v : Int) (hk : k < 3) (hV : VR 9999 (S k)) (hn : 0 ≤ n ∧ n ≤ 300) (hv : 0 ≤ v ∧ v ≤ 9999) : CT l X a B 4 yX2_mostInSun cX2_mostInSun 7 (some .int) [.ref (a (2 + k)), .int (J n), .int (J v)] S (Qi X a B (msF (fun m1 => decide (v ≤ sumF (fun j => blA (S k) j (S k (18 + 5 * j)) 0 n (S k 4)) (S k 5).toNat - tkS (stD (S k) n) m1 (S k 5).toNat)) (2 ^ (S k 5).toNat)) (setB S (8 + k) (meF (S k) n (S (8 + k)) (S k 5).toNat))) := by
  refine CT.of (by decide +kernel) (Nat.le_of_ble_eq_true rfl) ?_
  intro p e s m below meth c ls hC hr hlk hI hl
  have hC : Cx p c cX2_mostInSun 7 s m [.ref (a (2 + k)), .int (J n), .int (J v)].toArray RX2 X B := hC
  have hl : lv_has ls 7 [(0, .ref (a (2 + k))), (1, .int (J n)), (2, .int (J v))] := hl
  obtain ⟨⟨hN, hBr, hBu, hIn, hLa, hPc⟩, hDk, hPg⟩ := id hV
  have hpw := pow_rg (q := (S k 5).toNat) (by omega)
  have hpn : ((2 ^ (S k 5).toNat : Nat) : Int) = (2 : Int) ^ (S k 5).toNat := by rw [Int.natCast_pow]; rfl
  have hsr := sh_rg hV hn (c := (S k 5).toNat) (by omega)
  refine r_aload_n hC hl dX2_mostInSun_0 0 rfl ?_
  refine r_iload_n hC hl dX2_mostInSun_1 1 rfl ?_
  refine r_cVi hC hI hl [.int (J n)] [] (c_X2_measureSun l X a B S k n (by omega) hV (by omega)) ml_RX2_107 ev_X2_measureSun (rc_sc (S := S) hC hI (by omega)) ⟨Nat.le_of_ble_eq_true rfl, Nat.le_of_ble_eq_true rfl⟩ ⟨Nat.zero_le _, Nat.zero_le _⟩ (Nat.le_of_ble_eq_true rfl) rfl dX2_mostInSun_2 (fun H locs hI => ?_)
  obtain ⟨T, eT⟩ : ∃ z : St, z = setB S (8 + k) (meF (S k) n (S (8 + k)) (S k 5).toNat) := ⟨_, rfl⟩
  rw [← eT] at hI
  have hTk : T k = S k := by rw [eT, setB_ne _ _ (by omega)]
  have hT8 : ∀ j, j < (S k 5).toNat → T (8 + k) j = stD (S k) n j := fun j hj => by rw [eT, setB_at]; exact if_pos hj
  have e5 : T k 5 = S k 5 := by rw [hTk]
  have hVT : VR 9999 (T k) := by rw [hTk]; exact hV
  have htk : ∀ m1 : Nat, tkS (T (8 + k)) m1 (T k 5).toNat = tkS (stD (S k) n) m1 (S k 5).toNat := fun m1 => by rw [e5]; exact tkS_cg hT8
  have htr : ∀ m1 : Nat, -2400 ≤ tkS (stD (S k) n) m1 (S k 5).toNat ∧ tkS (stD (S k) n) m1 (S k 5).toNat ≤ 2400 := fun m1 => tk_rgS (by omega) (fun q hq => st_rg (hPg q (by omega)) hn hLa)
  refine r_istore_n (lv1 := [(3, .int (J (sumF (fun j => blA (S k) j (S k (18 + 5 * j)) 0 n (S k 4)) (S k 5).toNat))), (0, .ref (a (2 + k))), (1, .int (J n)), (2, .int (J v))]) hC hl dX2_mostInSun_5 3 rfl (by decide) rfl (fun ls hl => ?_)
  refine r_iconst hC dX2_mostInSun_6 ?_
  refine r_istore (lv1 := [(4, .int (J (-1))), (3, .int (J (sumF (fun j => blA (S k) j (S k (18 + 5 * j)) 0 n (S k 4)) (S k 5).toNat))), (0, .ref (a (2 + k))), (1, .int (J n)), (2, .int (J v))]) hC hl dX2_mostInSun_7 (by decide) rfl (fun ls hl => ?_)
  refine r_iconst hC dX2_mostInSun_9 ?_
  refine r_istore (lv1 := [(5, .int (J 0)), (4, .int (J (-1))), (3, .int (J (sumF (fun j => blA (S k) j (S k (18 + 5 * j)) 0 n (S k 4)) (S k 5).toNat))), (0, .ref (a (2 + k))), (1, .int (J n)), (2, .int (J v))]) hC hl dX2_mostInSun_10 (by decide) rfl (fun ls hl => ?_)
  have hL12 : ∀ (fu : Nat) (q : Nat) (x5 x4 : Int), 2 ^ (S k 5).toNat - q < fu → (x5 = (q : Int)) → (x4 = msF (fun m1 => decide (v ≤ sumF (fun j => blA (S k) j (S k (18 + 5 * j)) 0 n (S k 4)) (S k 5).toNat - tkS (stD (S k) n) m1 (S k 5).toNat)) q) → (q ≤ 2 ^ (S k 5).toNat) → ∀ (H : Heap) (locs : List Loc) (ls : Array Slot), IS X a B s (T) H locs → lv_has ls 7 [(5, .int (J x5)), (4, .int (J x4)), (3, .int (J (sumF (fun j => blA (S k) j (S k (18 + 5 * j)) 0 n (S k 4)) (S k 5).toNat))), (0, .ref (a (2 + k))), (1, .int (J n)), (2, .int (J v))] → W p l e (rmD 4) s m [.ref (a (2 + k)), .int (J n), .int (J v)].toArray below meth c H locs 0 0 (MQ below (Qi X a B (msF (fun m1 => decide (v ≤ sumF (fun j => blA (S k) j (S k (18 + 5 * j)) 0 n (S k 4)) (S k 5).toNat - tkS (stD (S k) n) m1 (S k 5).toNat)) (2 ^ (S k 5).toNat)) (setB S (8 + k) (meF (S k) n (S (8 + k)) (S k 5).toNat))) [.ref (a (2 + k)), .int (J n), .int (J v)].toArray s 0 0 (fun q => B ≤ q)) (F0 m 12 ls []) := by
    intro fu
    induction fu with
    | zero => intro q x5 x4 hm; exact absurd hm (Nat.not_lt_zero _)
    | succ fu ih12 =>
      intro q x5 x4 hm e5 e4 hq H locs ls hI hl
      subst e5; subst e4
      have hms := ms_rg (fun m1 => decide (v ≤ sumF (fun j => blA (S k) j (S k (18 + 5 * j)) 0 n (S k 4)) (S k 5).toNat - tkS (stD (S k) n) m1 (S k 5).toNat)) q
      have hp1 := pc_rg q
      have hp2 := pc_rg (msF (fun m1 => decide (v ≤ sumF (fun j => blA (S k) j (S k (18 + 5 * j)) 0 n (S k 4)) (S k 5).toNat - tkS (stD (S k) n) m1 (S k 5).toNat)) q).toNat
      have htq := htr q
      refine r_iload hC hl dX2_mostInSun_12 0 rfl ?_
      refine r_iconst hC dX2_mostInSun_14 ?_
      refine r_aload_n hC hl dX2_mostInSun_15 3 rfl ?_
      refine g_sc (k1 := k) (v := .int (J (T k 5))) hC hI (by omega) 5 (by decide) fl_RX2_25 rfl rfl dX2_mostInSun_16 ?_
      refine r_shl1 hC ((T k 5).toNat) (by omega) (by omega) dX2_mostInSun_19 ?_
      refine r_as (y := (2 : Int) ^ (S k 5).toNat) hC (by rw [e5]) ?_
      refine r_icmp_ge (tgt := 75) hC (by omega) (by omega) dX2_mostInSun_20 (by decide) (fun c_1 => ?_) (fun c_1 => ?_)
      · skip
        refine r_iload hC hl dX2_mostInSun_75 1 rfl ?_
        exact r_iret hC hr hlk hI (by rw [show q = 2 ^ (S k 5).toNat by omega]) (eT) dX2_mostInSun_77
      · skip
        refine r_iload hC hl dX2_mostInSun_23 1 rfl ?_
        refine r_if_lt (tgt := 41) hC (by omega) dX2_mostInSun_25 (by decide) (fun c_2 => ?_) (fun c_2 => ?_)
        · skip
          refine r_iconst hC dX2_mostInSun_41 ?_
          refine r_goto (tgt := 46) hC dX2_mostInSun_42 (by decide) ?_
          refine r_istore (lv1 := [(6, .int (J 1)), (5, .int (J (q : Int))), (4, .int (J (msF (fun m1 => decide (v ≤ sumF (fun j => blA (S k) j (S k (18 + 5 * j)) 0 n (S k 4)) (S k 5).toNat - tkS (stD (S k) n) m1 (S k 5).toNat)) q))), (3, .int (J (sumF (fun j => blA (S k) j (S k (18 + 5 * j)) 0 n (S k 4)) (S k 5).toNat))), (0, .ref (a (2 + k))), (1, .int (J n)), (2, .int (J v))]) hC hl dX2_mostInSun_46 (by decide) rfl (fun ls hl => ?_)
          refine r_iload hC hl dX2_mostInSun_48 0 rfl ?_
          refine r_if_eq (tgt := 69) hC (by decide) dX2_mostInSun_50 (by decide) (fun z => absurd z (by decide)) (fun _ => ?_)
          refine r_iload_n hC hl dX2_mostInSun_53 3 rfl ?_
          refine r_aload_n hC hl dX2_mostInSun_54 4 rfl ?_
          refine r_iload hC hl dX2_mostInSun_55 1 rfl ?_
          refine r_cVi hC hI hl [.int (J (q : Int))] [.int (J (sumF (fun j => blA (S k) j (S k (18 + 5 * j)) 0 n (S k 4)) (S k 5).toNat))] (c_X2_takenBySun l X a B T k q (by omega) hVT (by omega)) ml_RX2_122 ev_X2_takenBySun (rc_sc (S := T) hC hI (by omega)) ⟨Nat.le_of_ble_eq_true rfl, Nat.le_of_ble_eq_true rfl⟩ ⟨Nat.zero_le _, Nat.zero_le _⟩ (Nat.le_of_ble_eq_true rfl) rfl dX2_mostInSun_57 (fun H locs hI => ?_)
          refine r_as (y := tkS (stD (S k) n) q (S k 5).toNat) hC (htk q) ?_
          refine r_isub hC dX2_mostInSun_60 ?_
          refine r_iload_n hC hl dX2_mostInSun_61 6 rfl ?_
          refine r_icmp_lt (tgt := 69) hC (by omega) (by omega) dX2_mostInSun_62 (by decide) (fun c_4 => ?_) (fun c_4 => ?_)
          · skip
            refine r_iinc (lv1 := [(5, .int (J ((q : Int) + 1))), (6, .int (J 1)), (4, .int (J (msF (fun m1 => decide (v ≤ sumF (fun j => blA (S k) j (S k (18 + 5 * j)) 0 n (S k 4)) (S k 5).toNat - tkS (stD (S k) n) m1 (S k 5).toNat)) q))), (3, .int (J (sumF (fun j => blA (S k) j (S k (18 + 5 * j)) 0 n (S k 4)) (S k 5).toNat))), (0, .ref (a (2 + k))), (1, .int (J n)), (2, .int (J v))]) hC hl dX2_mostInSun_69 1 rfl (by decide) rfl (fun ls hl => ?_)
            refine r_goto (tgt := 12) hC dX2_mostInSun_72 (by decide) ?_
            exact ih12 (q + 1) ((q : Int) + 1) (msF (fun m1 => decide (v ≤ sumF (fun j => blA (S k) j (S k (18 + 5 * j)) 0 n (S k 4)) (S k 5).toNat - tkS (stD (S k) n) m1 (S k 5).toNat)) q) (by omega) (by omega) (ms_f (fun z => absurd (of_decide_eq_true z.1) (by omega))).symm (by omega) _ _ _ hI (lv_sub hl [0, 2, 3, 4, 5, 6] rfl)
          · skip
            refine r_iload hC hl dX2_mostInSun_65 1 rfl ?_
            refine r_istore (lv1 := [(4, .int (J (q : Int))), (6, .int (J 1)), (5, .int (J (q : Int))), (3, .int (J (sumF (fun j => blA (S k) j (S k (18 + 5 * j)) 0 n (S k 4)) (S k 5).toNat))), (0, .ref (a (2 + k))), (1, .int (J n)), (2, .int (J v))]) hC hl dX2_mostInSun_67 (by decide) rfl (fun ls hl => ?_)
            refine r_iinc (lv1 := [(5, .int (J ((q : Int) + 1))), (4, .int (J (q : Int))), (6, .int (J 1)), (3, .int (J (sumF (fun j => blA (S k) j (S k (18 + 5 * j)) 0 n (S k 4)) (S k 5).toNat))), (0, .ref (a (2 + k))), (1, .int (J n)), (2, .int (J v))]) hC hl dX2_mostInSun_69 2 rfl (by decide) rfl (fun ls hl => ?_)
            refine r_goto (tgt := 12) hC dX2_mostInSun_72 (by decide) ?_
            exact ih12 (q + 1) ((q : Int) + 1) (q : Int) (by omega) (by omega) (ms_t (decide_eq_true c_4) (Or.inl c_2)).symm (by omega) _ _ _ hI (lv_sub hl [0, 1, 3, 4, 5, 6] rfl)
        · skip
          refine r_iload hC hl dX2_mostInSun_28 0 rfl ?_
          refine r_cSi hC hI hl [.int (J (q : Int))] [] (c_J6_bitCount_0f7a4 l X a B T q (by omega)) ml_RX2_117 es_J6_bitCount_0f7a4 ⟨Nat.le_of_ble_eq_true rfl, Nat.le_of_ble_eq_true rfl⟩ ⟨Nat.zero_le _, Nat.zero_le _⟩ (Nat.le_of_ble_eq_true rfl) rfl dX2_mostInSun_30 (fun H locs hI => ?_)
          refine r_iload hC hl dX2_mostInSun_33 1 rfl ?_
          refine r_as (y := (((msF (fun m1 => decide (v ≤ sumF (fun j => blA (S k) j (S k (18 + 5 * j)) 0 n (S k 4)) (S k 5).toNat - tkS (stD (S k) n) m1 (S k 5).toNat)) q).toNat : Nat) : Int)) hC (by omega) ?_
          refine r_cSi hC hI hl [.int (J (((msF (fun m1 => decide (v ≤ sumF (fun j => blA (S k) j (S k (18 + 5 * j)) 0 n (S k 4)) (S k 5).toNat - tkS (stD (S k) n) m1 (S k 5).toNat)) q).toNat : Nat) : Int))] [.int (J (pcN q))] (c_J6_bitCount_0f7a4 l X a B T ((msF (fun m1 => decide (v ≤ sumF (fun j => blA (S k) j (S k (18 + 5 * j)) 0 n (S k 4)) (S k 5).toNat - tkS (stD (S k) n) m1 (S k 5).toNat)) q).toNat) (by omega)) ml_RX2_117 es_J6_bitCount_0f7a4 ⟨Nat.le_of_ble_eq_true rfl, Nat.le_of_ble_eq_true rfl⟩ ⟨Nat.zero_le _, Nat.zero_le _⟩ (Nat.le_of_ble_eq_true rfl) rfl dX2_mostInSun_35 (fun H locs hI => ?_)
          refine r_icmp_le (tgt := 45) hC (by omega) (by omega) dX2_mostInSun_38 (by decide) (fun c_5 => ?_) (fun c_5 => ?_)
          · skip
            refine r_iconst hC dX2_mostInSun_45 ?_
            refine r_istore (lv1 := [(6, .int (J 0)), (5, .int (J (q : Int))), (4, .int (J (msF (fun m1 => decide (v ≤ sumF (fun j => blA (S k) j (S k (18 + 5 * j)) 0 n (S k 4)) (S k 5).toNat - tkS (stD (S k) n) m1 (S k 5).toNat)) q))), (3, .int (J (sumF (fun j => blA (S k) j (S k (18 + 5 * j)) 0 n (S k 4)) (S k 5).toNat))), (0, .ref (a (2 + k))), (1, .int (J n)), (2, .int (J v))]) hC hl dX2_mostInSun_46 (by decide) rfl (fun ls hl => ?_)
            refine r_iload hC hl dX2_mostInSun_48 0 rfl ?_
            refine r_if_eq (tgt := 69) hC (by decide) dX2_mostInSun_50 (by decide) (fun _ => ?_) (fun z => absurd z (by decide))
            refine r_iinc (lv1 := [(5, .int (J ((q : Int) + 1))), (6, .int (J 0)), (4, .int (J (msF (fun m1 => decide (v ≤ sumF (fun j => blA (S k) j (S k (18 + 5 * j)) 0 n (S k 4)) (S k 5).toNat - tkS (stD (S k) n) m1 (S k 5).toNat)) q))), (3, .int (J (sumF (fun j => blA (S k) j (S k (18 + 5 * j)) 0 n (S k 4)) (S k 5).toNat))), (0, .ref (a (2 + k))), (1, .int (J n)), (2, .int (J v))]) hC hl dX2_mostInSun_69 1 rfl (by decide) rfl (fun ls hl => ?_)
            refine r_goto (tgt := 12) hC dX2_mostInSun_72 (by decide) ?_
            exact ih12 (q + 1) ((q : Int) + 1) (msF (fun m1 => decide (v ≤ sumF (fun j => blA (S k) j (S k (18 + 5 * j)) 0 n (S k 4)) (S k 5).toNat - tkS (stD (S k) n) m1 (S k 5).toNat)) q) (by omega) (by omega) (ms_f (fun z => by rcases z.2 with z | z <;> omega)).symm (by omega) _ _ _ hI (lv_sub hl [0, 2, 3, 4, 5, 6] rfl)
          · skip
            refine r_iconst hC dX2_mostInSun_41 ?_
            refine r_goto (tgt := 46) hC dX2_mostInSun_42 (by decide) ?_
            refine r_istore (lv1 := [(6, .int (J 1)), (5, .int (J (q : Int))), (4, .int (J (msF (fun m1 => decide (v ≤ sumF (fun j => blA (S k) j (S k (18 + 5 * j)) 0 n (S k 4)) (S k 5).toNat - tkS (stD (S k) n) m1 (S k 5).toNat)) q))), (3, .int (J (sumF (fun j => blA (S k) j (S k (18 + 5 * j)) 0 n (S k 4)) (S k 5).toNat))), (0, .ref (a (2 + k))), (1, .int (J n)), (2, .int (J v))]) hC hl dX2_mostInSun_46 (by decide) rfl (fun ls hl => ?_)
            refine r_iload hC hl dX2_mostInSun_48 0 rfl ?_
            refine r_if_eq (tgt := 69) hC (by decide) dX2_mostInSun_50 (by decide) (fun z => absurd z (by decide)) (fun _ => ?_)
            refine r_iload_n hC hl dX2_mostInSun_53 3 rfl ?_
            refine r_aload_n hC hl dX2_mostInSun_54 4 rfl ?_
            refine r_iload hC hl dX2_mostInSun_55 1 rfl ?_
            refine r_cVi hC hI hl [.int (J (q : Int))] [.int (J (sumF (fun j => blA (S k) j (S k (18 + 5 * j)) 0 n (S k 4)) (S k 5).toNat))] (c_X2_takenBySun l X a B T k q (by omega) hVT (by omega)) ml_RX2_122 ev_X2_takenBySun (rc_sc (S := T) hC hI (by omega)) ⟨Nat.le_of_ble_eq_true rfl, Nat.le_of_ble_eq_true rfl⟩ ⟨Nat.zero_le _, Nat.zero_le _⟩ (Nat.le_of_ble_eq_true rfl) rfl dX2_mostInSun_57 (fun H locs hI => ?_)
            refine r_as (y := tkS (stD (S k) n) q (S k 5).toNat) hC (htk q) ?_
            refine r_isub hC dX2_mostInSun_60 ?_
            refine r_iload_n hC hl dX2_mostInSun_61 6 rfl ?_
            refine r_icmp_lt (tgt := 69) hC (by omega) (by omega) dX2_mostInSun_62 (by decide) (fun c_8 => ?_) (fun c_8 => ?_)
            · skip
              refine r_iinc (lv1 := [(5, .int (J ((q : Int) + 1))), (6, .int (J 1)), (4, .int (J (msF (fun m1 => decide (v ≤ sumF (fun j => blA (S k) j (S k (18 + 5 * j)) 0 n (S k 4)) (S k 5).toNat - tkS (stD (S k) n) m1 (S k 5).toNat)) q))), (3, .int (J (sumF (fun j => blA (S k) j (S k (18 + 5 * j)) 0 n (S k 4)) (S k 5).toNat))), (0, .ref (a (2 + k))), (1, .int (J n)), (2, .int (J v))]) hC hl dX2_mostInSun_69 1 rfl (by decide) rfl (fun ls hl => ?_)
              refine r_goto (tgt := 12) hC dX2_mostInSun_72 (by decide) ?_
              exact ih12 (q + 1) ((q : Int) + 1) (msF (fun m1 => decide (v ≤ sumF (fun j => blA (S k) j (S k (18 + 5 * j)) 0 n (S k 4)) (S k 5).toNat - tkS (stD (S k) n) m1 (S k 5).toNat)) q) (by omega) (by omega) (ms_f (fun z => absurd (of_decide_eq_true z.1) (by omega))).symm (by omega) _ _ _ hI (lv_sub hl [0, 2, 3, 4, 5, 6] rfl)
            · skip
              refine r_iload hC hl dX2_mostInSun_65 1 rfl ?_
              refine r_istore (lv1 := [(4, .int (J (q : Int))), (6, .int (J 1)), (5, .int (J (q : Int))), (3, .int (J (sumF (fun j => blA (S k) j (S k (18 + 5 * j)) 0 n (S k 4)) (S k 5).toNat))), (0, .ref (a (2 + k))), (1, .int (J n)), (2, .int (J v))]) hC hl dX2_mostInSun_67 (by decide) rfl (fun ls hl => ?_)
              refine r_iinc (lv1 := [(5, .int (J ((q : Int) + 1))), (4, .int (J (q : Int))), (6, .int (J 1)), (3, .int (J (sumF (fun j => blA (S k) j (S k (18 + 5 * j)) 0 n (S k 4)) (S k 5).toNat))), (0, .ref (a (2 + k))), (1, .int (J n)), (2, .int (J v))]) hC hl dX2_mostInSun_69 2 rfl (by decide) rfl (fun ls hl => ?_)
              refine r_goto (tgt := 12) hC dX2_mostInSun_72 (by decide) ?_
              exact ih12 (q + 1) ((q : Int) + 1) (q : Int) (by omega) (by omega) (ms_t (decide_eq_true c_8) (Or.inr c_5)).symm (by omega) _ _ _ hI (lv_sub hl [0, 1, 3, 4, 5, 6] rfl)
  exact hL12 _ 0 0 (-1) (Nat.lt_succ_self _) (by omega) rfl (by omega) _ _ _ hI (lv_sub hl [0, 1, 2, 3, 4, 5] rfl)
