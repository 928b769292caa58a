def dkF (R : Nat → Int) (n : Nat) : Int := R (6 + ((R 0 + (n : Int)) % 12).toNat)
def iwF (R : Nat → Int) (b : Int) : Int := mnF 999 (R 3 + b / 9)
theorem dk_rg {N : Int} {R : Nat → Int} (hV : VR N R) (n : Nat) : 0 ≤ dkF R n ∧ dkF R n ≤ 20 := hV.2.1 _ (by have := hV.1.1; omega)
theorem dt_rg {N : Int} {R : Nat → Int} (hV : VR N R) (n : Nat) : 0 ≤ sumF (dkF R) n ∧ sumF (dkF R) n ≤ 20 * n := sum_rg n (fun i _ => dk_rg hV i)
theorem iw_rg {N : Int} {R : Nat → Int} (hV : VR N R) {b : Int} (hb : 0 ≤ b ∧ b ≤ 100000) : 0 ≤ iwF R b ∧ iwF R b ≤ 999 := by
  have h := hV.1.2.2.2.1
  unfold iwF mnF; split <;> omega
theorem bw_rg {N : Int} {R : Nat → Int} (hV : VR N R) {w : Int} (hw : 0 ≤ w ∧ w ≤ 9) {n : Nat} (hn : n ≤ 300) : 0 ≤ R 2 + w * sumF (dkF R) n ∧ R 2 + w * sumF (dkF R) n ≤ 100000 := by
  have h1 := hV.1.2.2.1
  have h2 := dt_rg hV n
  have h3 := mul_bd hw (B := 6000) (y := sumF (dkF R) n) (by omega)
  omega
theorem cs_rg {k w : Int} (hw : 0 ≤ w ∧ w ≤ 99) : 1 ≤ csF k w ∧ csF k w ≤ 10 := by
  unfold csF mxF; (repeat' split) <;> omega
theorem tk_rg {k d : Int} (hd : 0 ≤ d ∧ d ≤ 20) : 0 ≤ tkF k d ∧ tkF k d ≤ 99 := by
  unfold tkF mnF mxF; (repeat' split) <;> omega
abbrev tlP (N : Nat → Int) (len : Nat) (b f : Int) : Prop := ∀ j, j < len → N j = fadedF b f (j : Int)

set_option maxHeartbeats 4000000 in
set_option maxRecDepth 100000 in
theorem c_X1_tells (l : Launch) (X : XT) (a : Nat → Nat) (B : Nat) (S : St) (t : Nat) (b : Int) (f : Int) (ht : t < 4) (hlen : 0 ≤ S 7 t ∧ S 7 t ≤ 40) (hVL : ∀ j, j < 40 → -9223372036854775808 ≤ S (12 + t) j ∧ S (12 + t) j ≤ 9223372036854775807) (hb : 0 ≤ b ∧ b ≤ 99) (hf : 0 ≤ f ∧ f ≤ 2600) : CT l X a B 2 yX1_tells cX1_tells 4 (some .boolean) [.ref (a (17 + t)), .int (J b), .int (J f)] S (Qi X a B (bI (tlP (S (12 + t)) (S 7 t).toNat b f)) (S)) := by
  refine CT.of (by decide +kernel) (Nat.le_of_ble_eq_true rfl) ?_
  intro p e s m below meth c ls hC hr hlk hI hl
  have hC : Cx p c cX1_tells 4 s m [.ref (a (17 + t)), .int (J b), .int (J f)].toArray RX1 X B := hC
  have hl : lv_has ls 4 [(0, .ref (a (17 + t))), (1, .int (J b)), (2, .int (J f))] := hl
  have hf0 := hf
  refine r_iconst hC dX1_tells_0 ?_
  refine r_istore_n (lv1 := [(3, .int (J 0)), (0, .ref (a (17 + t))), (1, .int (J b)), (2, .int (J f))]) hC hl dX1_tells_1 3 rfl (by decide) rfl (fun ls hl => ?_)
  have hL2 : ∀ (fu : Nat) (q : Nat) (x3 : Int), (S 7 t).toNat - q < fu → (x3 = (q : Int)) → (q ≤ (S 7 t).toNat) → (∀ j, j < q → S (12 + t) j = fadedF b f (j : Int)) → ∀ (H : Heap) (locs : List Loc) (ls : Array Slot), IS X a B s (S) H locs → lv_has ls 4 [(3, .int (J x3)), (0, .ref (a (17 + t))), (1, .int (J b)), (2, .int (J f))] → W p l e (rmD 2) s m [.ref (a (17 + t)), .int (J b), .int (J f)].toArray below meth c H locs 0 0 (MQ below (Qi X a B (bI (tlP (S (12 + t)) (S 7 t).toNat b f)) (S)) [.ref (a (17 + t)), .int (J b), .int (J f)].toArray s 0 0 (fun q => B ≤ q)) (F0 m 2 ls []) := by
    intro fu
    induction fu with
    | zero => intro q x3 hm; exact absurd hm (Nat.not_lt_zero _)
    | succ fu ih2 =>
      intro q x3 hm e3 hq hf H locs ls hI hl
      subst e3
      refine r_iload_n hC hl dX1_tells_2 0 rfl ?_
      refine r_aload_n hC hl dX1_tells_3 1 rfl ?_
      refine g_sh (i := t) (v := .int (J (S 7 t))) hC hI (by omega) 1 (by decide) fl_RX1_49 rfl rfl dX1_tells_4 ?_
      refine r_icmp_ge (tgt := 35) hC (by omega) (by omega) dX1_tells_7 (by decide) (fun c_1 => ?_) (fun c_1 => ?_)
      · skip
        refine r_iconst hC dX1_tells_35 ?_
        exact r_zret hC hr hlk hI (by decide) ((bI_t (by intro j hj; exact hf j (by omega))).symm) (rfl) dX1_tells_36
      · skip
        refine r_aload_n hC hl dX1_tells_10 1 rfl ?_
        refine g_sh (i := t) (v := .ref (a (21 + t))) hC hI (by omega) 2 (by decide) fl_RX1_54 rfl rfl dX1_tells_11 ?_
        refine r_iload_n hC hl dX1_tells_14 0 rfl ?_
        refine r_lald (cx := 21 + t) (n := 40) (f := (fun S => S (12 + t)) (S)) (v := S (12 + t) q) hC hI (by omega) (ce_nu X a _ (by omega)) (by decide) (q) (by omega) (by omega) rfl dX1_tells_15 ?_
        refine r_iload_n hC hl dX1_tells_16 2 rfl ?_
        refine r_iload_n hC hl dX1_tells_17 3 rfl ?_
        refine r_iload_n hC hl dX1_tells_18 0 rfl ?_
        refine r_cSi hC hI hl [.int (J b), .int (J f), .int (J (q : Int))] [.long (JL (S (12 + t) q))] (c_X1_faded l X a B S b f (q : Int) (by omega) (by omega) (by omega)) ml_RX1_31 es_X1_faded ⟨Nat.le_of_ble_eq_true rfl, Nat.le_of_ble_eq_true rfl⟩ ⟨Nat.zero_le _, Nat.zero_le _⟩ (Nat.le_of_ble_eq_true rfl) rfl dX1_tells_19 (fun H locs hI => ?_)
        have hfa := fad_rg hb hf0 (n := (q : Int)) (by omega)
        refine r_i2l hC (by omega) dX1_tells_22 ?_
        refine r_lcmp hC (hVL q (by omega)) (by omega) dX1_tells_23 ?_
        refine r_c_eq (tgt := 29) hC dX1_tells_24 (by decide) (fun c_2 => ?_) (fun c_2 => ?_)
        · skip
          refine r_iinc (lv1 := [(3, .int (J ((q : Int) + 1))), (0, .ref (a (17 + t))), (1, .int (J b)), (2, .int (J f))]) hC hl dX1_tells_29 0 rfl (by decide) rfl (fun ls hl => ?_)
          refine r_goto (tgt := 2) hC dX1_tells_32 (by decide) ?_
          exact ih2 (q + 1) ((q : Int) + 1) (by omega) (by omega) (by omega) (lt_s hf c_2) _ _ _ hI (lv_sub hl [0, 1, 2, 3] rfl)
        · skip
          refine r_iconst hC dX1_tells_27 ?_
          exact r_zret hC hr hlk hI (by decide) ((bI_f (by exact fun z => c_2 (z q (by omega)))).symm) (rfl) dX1_tells_28
  exact hL2 _ 0 0 (Nat.lt_succ_self _) (by omega) (by omega) (fun j hj => absurd hj (Nat.not_lt_zero j)) _ _ _ hI (lv_sub hl [0, 1, 2, 3] rfl)

set_option maxHeartbeats 4000000 in
set_option maxRecDepth 100000 in
theorem c_X1_waysToFadeAs (l : Launch) (X : XT) (a : Nat → Nat) (B : Nat) (S : St) (k : Nat) (i : Nat) (t : Nat) (hk : k < 3) (hi : i < 8) (ht : t < 4) (hV : VP (S k) i) (hlen : 0 ≤ S 7 t ∧ S 7 t ≤ 40) (hVL : ∀ j, j < 40 → -9223372036854775808 ≤ S (12 + t) j ∧ S (12 + t) j ≤ 9223372036854775807) : CT l X a B 3 yX1_waysToFadeAs cX1_waysToFadeAs 6 (some .int) [.ref (a (25 + 8 * k + i)), .ref (a (17 + t))] S (Qi X a B (sumF (fun q => sumF (fun r => bI (tlP (S (12 + t)) (S 7 t).toNat (r : Int) (fdF (q : Int) (S k (21 + 5 * i)) (S k (22 + 5 * i))))) 100) 6) (S)) := by
  refine CT.of (by decide +kernel) (Nat.le_of_ble_eq_true rfl) ?_
  intro p e s m below meth c ls hC hr hlk hI hl
  have hC : Cx p c cX1_waysToFadeAs 6 s m [.ref (a (25 + 8 * k + i)), .ref (a (17 + t))].toArray RX1 X B := hC
  have hl : lv_has ls 6 [(0, .ref (a (25 + 8 * k + i))), (1, .ref (a (17 + t)))] := hl
  obtain ⟨h18, h19, h20, h21, h22⟩ := id hV
  refine r_iconst hC dX1_waysToFadeAs_0 ?_
  refine r_istore_n (lv1 := [(2, .int (J 0)), (0, .ref (a (25 + 8 * k + i))), (1, .ref (a (17 + t)))]) hC hl dX1_waysToFadeAs_1 2 rfl (by decide) rfl (fun ls hl => ?_)
  refine r_iconst hC dX1_waysToFadeAs_2 ?_
  refine r_istore_n (lv1 := [(3, .int (J 0)), (2, .int (J 0)), (0, .ref (a (25 + 8 * k + i))), (1, .ref (a (17 + t)))]) hC hl dX1_waysToFadeAs_3 3 rfl (by decide) rfl (fun ls hl => ?_)
  have hL4 : ∀ (fu : Nat) (q : Nat) (x3 x2 : Int), 6 - q < fu → (x3 = (q : Int)) → (x2 = sumF (fun q => sumF (fun r => bI (tlP (S (12 + t)) (S 7 t).toNat (r : Int) (fdF (q : Int) (S k (21 + 5 * i)) (S k (22 + 5 * i))))) 100) q) → (q ≤ 6) → ∀ (H : Heap) (locs : List Loc) (ls : Array Slot), IS X a B s (S) H locs → lv_has ls 6 [(3, .int (J x3)), (2, .int (J x2)), (0, .ref (a (25 + 8 * k + i))), (1, .ref (a (17 + t)))] → W p l e (rmD 3) s m [.ref (a (25 + 8 * k + i)), .ref (a (17 + t))].toArray below meth c H locs 0 0 (MQ below (Qi X a B (sumF (fun q => sumF (fun r => bI (tlP (S (12 + t)) (S 7 t).toNat (r : Int) (fdF (q : Int) (S k (21 + 5 * i)) (S k (22 + 5 * i))))) 100) 6) (S)) [.ref (a (25 + 8 * k + i)), .ref (a (17 + t))].toArray s 0 0 (fun q => B ≤ q)) (F0 m 4 ls []) := by
    intro fu
    induction fu with
    | zero => intro q x3 x2 hm; exact absurd hm (Nat.not_lt_zero _)
    | succ fu ih4 =>
      intro q x3 x2 hm e3 e2 hq H locs ls hI hl
      subst e3; subst e2
      refine r_iload_n hC hl dX1_waysToFadeAs_4 0 rfl ?_
      refine r_bipush hC (by decide) dX1_waysToFadeAs_5 ?_
      refine r_icmp_ge (tgt := 60) hC (by omega) (by omega) dX1_waysToFadeAs_7 (by decide) (fun c_1 => ?_) (fun c_1 => ?_)
      · skip
        refine r_iload_n hC hl dX1_waysToFadeAs_60 1 rfl ?_
        exact r_iret hC hr hlk hI (by rw [show q = 6 by omega]) (rfl) dX1_waysToFadeAs_61
      · skip
        refine r_iload_n hC hl dX1_waysToFadeAs_10 0 rfl ?_
        refine r_aload_n hC hl dX1_waysToFadeAs_11 2 rfl ?_
        refine g_pg (k1 := k) (i := i) (v := .int (J (S k (21 + 5 * i)))) hC hI (by omega) (by omega) 3 (by decide) fl_RX1_19 rfl rfl dX1_waysToFadeAs_12 ?_
        refine r_aload_n hC hl dX1_waysToFadeAs_15 2 rfl ?_
        refine g_pg (k1 := k) (i := i) (v := .int (J (S k (22 + 5 * i)))) hC hI (by omega) (by omega) 4 (by decide) fl_RX1_22 rfl rfl dX1_waysToFadeAs_16 ?_
        refine r_cSi hC hI hl [.int (J (q : Int)), .int (J (S k (21 + 5 * i))), .int (J (S k (22 + 5 * i)))] [] (c_X0_fades l X a B S (q : Int) (S k (21 + 5 * i)) (S k (22 + 5 * i)) (by omega) (by omega) (by omega)) ml_RX1_25 es_X0_fades ⟨Nat.le_of_ble_eq_true rfl, Nat.le_of_ble_eq_true rfl⟩ ⟨Nat.zero_le _, Nat.zero_le _⟩ (Nat.le_of_ble_eq_true rfl) rfl dX1_waysToFadeAs_19 (fun H locs hI => ?_)
        refine r_istore (lv1 := [(4, .int (J (fdF (q : Int) (S k (21 + 5 * i)) (S k (22 + 5 * i))))), (3, .int (J (q : Int))), (2, .int (J (sumF (fun q => sumF (fun r => bI (tlP (S (12 + t)) (S 7 t).toNat (r : Int) (fdF (q : Int) (S k (21 + 5 * i)) (S k (22 + 5 * i))))) 100) q))), (0, .ref (a (25 + 8 * k + i))), (1, .ref (a (17 + t)))]) hC hl dX1_waysToFadeAs_22 (by decide) rfl (fun ls hl => ?_)
        refine r_iconst hC dX1_waysToFadeAs_24 ?_
        refine r_istore (lv1 := [(5, .int (J 0)), (4, .int (J (fdF (q : Int) (S k (21 + 5 * i)) (S k (22 + 5 * i))))), (3, .int (J (q : Int))), (2, .int (J (sumF (fun q => sumF (fun r => bI (tlP (S (12 + t)) (S 7 t).toNat (r : Int) (fdF (q : Int) (S k (21 + 5 * i)) (S k (22 + 5 * i))))) 100) q))), (0, .ref (a (25 + 8 * k + i))), (1, .ref (a (17 + t)))]) hC hl dX1_waysToFadeAs_25 (by decide) rfl (fun ls hl => ?_)
        have hfd := fd_rg (k := (q : Int)) (by omega) h21 h22
        have hL27 : ∀ (fu : Nat) (r : Nat) (x5 x2 : Int), 100 - r < fu → (x5 = (r : Int)) → (x2 = sumF (fun q => sumF (fun r => bI (tlP (S (12 + t)) (S 7 t).toNat (r : Int) (fdF (q : Int) (S k (21 + 5 * i)) (S k (22 + 5 * i))))) 100) q + sumF (fun r => bI (tlP (S (12 + t)) (S 7 t).toNat (r : Int) (fdF (q : Int) (S k (21 + 5 * i)) (S k (22 + 5 * i))))) r) → (r ≤ 100) → ∀ (H : Heap) (locs : List Loc) (ls : Array Slot), IS X a B s (S) H locs → lv_has ls 6 [(5, .int (J x5)), (4, .int (J (fdF (q : Int) (S k (21 + 5 * i)) (S k (22 + 5 * i))))), (3, .int (J (q : Int))), (2, .int (J x2)), (0, .ref (a (25 + 8 * k + i))), (1, .ref (a (17 + t)))] → W p l e (rmD 3) s m [.ref (a (25 + 8 * k + i)), .ref (a (17 + t))].toArray below meth c H locs 0 0 (MQ below (Qi X a B (sumF (fun q => sumF (fun r => bI (tlP (S (12 + t)) (S 7 t).toNat (r : Int) (fdF (q : Int) (S k (21 + 5 * i)) (S k (22 + 5 * i))))) 100) 6) (S)) [.ref (a (25 + 8 * k + i)), .ref (a (17 + t))].toArray s 0 0 (fun q => B ≤ q)) (F0 m 27 ls []) := by
          intro fu
          induction fu with
          | zero => intro r x5 x2 hm; exact absurd hm (Nat.not_lt_zero _)
          | succ fu ih27 =>
            intro r x5 x2 hm e5 e2 hr0 H locs ls hI hl
            subst e5; subst e2
            refine r_iload hC hl dX1_waysToFadeAs_27 0 rfl ?_
            refine r_bipush hC (by decide) dX1_waysToFadeAs_29 ?_
            refine r_icmp_gt (tgt := 54) hC (by omega) (by omega) dX1_waysToFadeAs_31 (by decide) (fun c_2 => ?_) (fun c_2 => ?_)
            · skip
              refine r_iinc (lv1 := [(3, .int (J ((q : Int) + 1))), (5, .int (J (r : Int))), (4, .int (J (fdF (q : Int) (S k (21 + 5 * i)) (S k (22 + 5 * i))))), (2, .int (J (sumF (fun q => sumF (fun r => bI (tlP (S (12 + t)) (S 7 t).toNat (r : Int) (fdF (q : Int) (S k (21 + 5 * i)) (S k (22 + 5 * i))))) 100) q + sumF (fun r => bI (tlP (S (12 + t)) (S 7 t).toNat (r : Int) (fdF (q : Int) (S k (21 + 5 * i)) (S k (22 + 5 * i))))) r))), (0, .ref (a (25 + 8 * k + i))), (1, .ref (a (17 + t)))]) hC hl dX1_waysToFadeAs_54 2 rfl (by decide) rfl (fun ls hl => ?_)
              refine r_goto (tgt := 4) hC dX1_waysToFadeAs_57 (by decide) ?_
              exact ih4 (q + 1) ((q : Int) + 1) (sumF (fun q => sumF (fun r => bI (tlP (S (12 + t)) (S 7 t).toNat (r : Int) (fdF (q : Int) (S k (21 + 5 * i)) (S k (22 + 5 * i))))) 100) q + sumF (fun r => bI (tlP (S (12 + t)) (S 7 t).toNat (r : Int) (fdF (q : Int) (S k (21 + 5 * i)) (S k (22 + 5 * i))))) r) (by omega) (by omega) (by rw [show r = 100 by omega]; rfl) (by omega) _ _ _ hI (lv_sub hl [0, 3, 4, 5] rfl)
            · skip
              refine r_aload_n hC hl dX1_waysToFadeAs_34 5 rfl ?_
              refine r_iload hC hl dX1_waysToFadeAs_35 0 rfl ?_
              refine r_iload hC hl dX1_waysToFadeAs_37 1 rfl ?_
              refine r_cSi hC hI hl [.ref (a (17 + t)), .int (J (r : Int)), .int (J (fdF (q : Int) (S k (21 + 5 * i)) (S k (22 + 5 * i))))] [] (c_X1_tells l X a B S t (r : Int) (fdF (q : Int) (S k (21 + 5 * i)) (S k (22 + 5 * i))) (by omega) (by omega) hVL (by omega) (by omega)) ml_RX1_45 es_X1_tells ⟨Nat.le_of_ble_eq_true rfl, Nat.le_of_ble_eq_true rfl⟩ ⟨Nat.zero_le _, Nat.zero_le _⟩ (Nat.le_of_ble_eq_true rfl) rfl dX1_waysToFadeAs_39 (fun H locs hI => ?_)
              refine r_b_eq (tgt := 48) hC dX1_waysToFadeAs_42 (by decide) (fun c_3 => ?_) (fun c_3 => ?_)
              · skip
                refine r_iinc (lv1 := [(5, .int (J ((r : Int) + 1))), (4, .int (J (fdF (q : Int) (S k (21 + 5 * i)) (S k (22 + 5 * i))))), (3, .int (J (q : Int))), (2, .int (J (sumF (fun q => sumF (fun r => bI (tlP (S (12 + t)) (S 7 t).toNat (r : Int) (fdF (q : Int) (S k (21 + 5 * i)) (S k (22 + 5 * i))))) 100) q + sumF (fun r => bI (tlP (S (12 + t)) (S 7 t).toNat (r : Int) (fdF (q : Int) (S k (21 + 5 * i)) (S k (22 + 5 * i))))) r))), (0, .ref (a (25 + 8 * k + i))), (1, .ref (a (17 + t)))]) hC hl dX1_waysToFadeAs_48 0 rfl (by decide) rfl (fun ls hl => ?_)
                refine r_goto (tgt := 27) hC dX1_waysToFadeAs_51 (by decide) ?_
                exact ih27 (r + 1) ((r : Int) + 1) (sumF (fun q => sumF (fun r => bI (tlP (S (12 + t)) (S 7 t).toNat (r : Int) (fdF (q : Int) (S k (21 + 5 * i)) (S k (22 + 5 * i))))) 100) q + sumF (fun r => bI (tlP (S (12 + t)) (S 7 t).toNat (r : Int) (fdF (q : Int) (S k (21 + 5 * i)) (S k (22 + 5 * i))))) r) (by omega) (by omega) (by rw [← Int.add_zero (_ + _), Int.add_assoc]; exact congrArg _ (congrArg _ (bI_f c_3).symm)) (by omega) _ _ _ hI (lv_sub hl [0, 1, 2, 3, 4, 5] rfl)
              · skip
                refine r_iinc (lv1 := [(2, .int (J (sumF (fun q => sumF (fun r => bI (tlP (S (12 + t)) (S 7 t).toNat (r : Int) (fdF (q : Int) (S k (21 + 5 * i)) (S k (22 + 5 * i))))) 100) q + sumF (fun r => bI (tlP (S (12 + t)) (S 7 t).toNat (r : Int) (fdF (q : Int) (S k (21 + 5 * i)) (S k (22 + 5 * i))))) r + 1))), (5, .int (J (r : Int))), (4, .int (J (fdF (q : Int) (S k (21 + 5 * i)) (S k (22 + 5 * i))))), (3, .int (J (q : Int))), (0, .ref (a (25 + 8 * k + i))), (1, .ref (a (17 + t)))]) hC hl dX1_waysToFadeAs_45 3 rfl (by decide) rfl (fun ls hl => ?_)
                refine r_iinc (lv1 := [(5, .int (J ((r : Int) + 1))), (2, .int (J (sumF (fun q => sumF (fun r => bI (tlP (S (12 + t)) (S 7 t).toNat (r : Int) (fdF (q : Int) (S k (21 + 5 * i)) (S k (22 + 5 * i))))) 100) q + sumF (fun r => bI (tlP (S (12 + t)) (S 7 t).toNat (r : Int) (fdF (q : Int) (S k (21 + 5 * i)) (S k (22 + 5 * i))))) r + 1))), (4, .int (J (fdF (q : Int) (S k (21 + 5 * i)) (S k (22 + 5 * i))))), (3, .int (J (q : Int))), (0, .ref (a (25 + 8 * k + i))), (1, .ref (a (17 + t)))]) hC hl dX1_waysToFadeAs_48 1 rfl (by decide) rfl (fun ls hl => ?_)
                refine r_goto (tgt := 27) hC dX1_waysToFadeAs_51 (by decide) ?_
                exact ih27 (r + 1) ((r : Int) + 1) (sumF (fun q => sumF (fun r => bI (tlP (S (12 + t)) (S 7 t).toNat (r : Int) (fdF (q : Int) (S k (21 + 5 * i)) (S k (22 + 5 * i))))) 100) q + sumF (fun r => bI (tlP (S (12 + t)) (S 7 t).toNat (r : Int) (fdF (q : Int) (S k (21 + 5 * i)) (S k (22 + 5 * i))))) r + 1) (by omega) (by omega) (by rw [Int.add_assoc]; exact congrArg _ (congrArg _ (bI_t c_3).symm)) (by omega) _ _ _ hI (lv_sub hl [0, 2, 3, 1, 4, 5] rfl)
        exact hL27 _ 0 0 (sumF (fun q => sumF (fun r => bI (tlP (S (12 + t)) (S 7 t).toNat (r : Int) (fdF (q : Int) (S k (21 + 5 * i)) (S k (22 + 5 * i))))) 100) q) (Nat.lt_succ_self _) (by omega) (Int.add_zero _).symm (by omega) _ _ _ hI (lv_sub hl [0, 1, 2, 3, 4, 5] rfl)
  exact hL4 _ 0 0 0 (Nat.lt_succ_self _) (by omega) rfl (by omega) _ _ _ hI (lv_sub hl [0, 1, 2, 3] rfl)

def mjF (w : Int) : Int := if w = 0 then 9 else if w = 1 then 8 else if w = 2 then 999 else if w = 3 then 9 else -1

set_option maxHeartbeats 4000000 in
set_option maxRecDepth 100000 in
theorem c_X2_mostInJar (l : Launch) (X : XT) (a : Nat → Nat) (B : Nat) (S : St) (w : Int) (hw : -2147483648 ≤ w ∧ w ≤ 2147483647) : CT l X a B 0 yX2_mostInJar cX2_mostInJar 1 (some .int) [.int (J w)] S (Qi X a B (mjF w) (S)) := by
  refine CT.of (by decide +kernel) (Nat.le_of_ble_eq_true rfl) ?_
  intro p e s m below meth c ls hC hr hlk hI hl
  have hC : Cx p c cX2_mostInJar 1 s m [.int (J w)].toArray RX2 X B := hC
  have hl : lv_has ls 1 [(0, .int (J w))] := hl
  refine r_iload_n hC hl dX2_mostInJar_0 0 rfl ?_
  by_cases c_1 : w = 0
  · refine r_tin (tgt := 32) hC 0 c_1 (by decide) dX2_mostInJar_1 (by decide) (by decide) rfl (by decide) ?_
    refine r_bipush hC (by decide) dX2_mostInJar_32 ?_
    exact r_iret hC hr hlk hI (by unfold mjF; (repeat' split) <;> omega) (rfl) dX2_mostInJar_34
  by_cases c_2 : w = 1
  · refine r_tin (tgt := 35) hC 1 c_2 (by decide) dX2_mostInJar_1 (by decide) (by decide) rfl (by decide) ?_
    refine r_bipush hC (by decide) dX2_mostInJar_35 ?_
    exact r_iret hC hr hlk hI (by unfold mjF; (repeat' split) <;> omega) (rfl) dX2_mostInJar_37
  by_cases c_3 : w = 2
  · refine r_tin (tgt := 38) hC 2 c_3 (by decide) dX2_mostInJar_1 (by decide) (by decide) rfl (by decide) ?_
    refine r_sipush hC (by decide) dX2_mostInJar_38 ?_
    exact r_iret hC hr hlk hI (by unfold mjF; (repeat' split) <;> omega) (rfl) dX2_mostInJar_41
  by_cases c_4 : w = 3
  · refine r_tin (tgt := 42) hC 3 c_4 (by decide) dX2_mostInJar_1 (by decide) (by decide) rfl (by decide) ?_
    refine r_bipush hC (by decide) dX2_mostInJar_42 ?_
    exact r_iret hC hr hlk hI (by unfold mjF; (repeat' split) <;> omega) (rfl) dX2_mostInJar_44
  refine r_tout (tgt := 45) hC (by omega) dX2_mostInJar_1 (by omega) (by decide) ?_
  refine r_iconst hC dX2_mostInJar_45 ?_
  exact r_iret hC hr hlk hI (by unfold mjF; (repeat' split) <;> omega) (rfl) dX2_mostInJar_46

set_option maxHeartbeats 4000000 in
set_option maxRecDepth 100000 in
theorem c_X2_jarHolds (l : Launch) (X : XT) (a : Nat → Nat) (B : Nat) (S : St) (k : Nat) (w : Int) (hk : k < 3) (hw : 0 ≤ w ∧ w ≤ 3) : CT l X a B 0 yX2_jarHolds cX2_jarHolds 2 (some .int) [.ref (a (2 + k)), .int (J w)] S (Qi X a B (S k (1 + w.toNat)) (S)) := by
  refine CT.of (by decide +kernel) (Nat.le_of_ble_eq_true rfl) ?_
  intro p e s m below meth c ls hC hr hlk hI hl
  have hC : Cx p c cX2_jarHolds 2 s m [.ref (a (2 + k)), .int (J w)].toArray RX2 X B := hC
  have hl : lv_has ls 2 [(0, .ref (a (2 + k))), (1, .int (J w))] := hl
  refine r_iload_n hC hl dX2_jarHolds_0 1 rfl ?_
  by_cases c_1 : w = 0
  · refine r_tin (tgt := 28) hC 0 c_1 (by decide) dX2_jarHolds_1 (by decide) (by decide) rfl (by decide) ?_
    refine r_aload_n hC hl dX2_jarHolds_28 0 rfl ?_
    refine g_sc (k1 := k) (v := .int (J (S k 1))) hC hI (by omega) 1 (by decide) fl_RX2_13 rfl rfl dX2_jarHolds_29 ?_
    exact r_iret hC hr hlk hI (by congr 1; omega) (rfl) dX2_jarHolds_32
  by_cases c_2 : w = 1
  · refine r_tin (tgt := 33) hC 1 c_2 (by decide) dX2_jarHolds_1 (by decide) (by decide) rfl (by decide) ?_
    refine r_aload_n hC hl dX2_jarHolds_33 0 rfl ?_
    refine g_sc (k1 := k) (v := .int (J (S k 2))) hC hI (by omega) 2 (by decide) fl_RX2_16 rfl rfl dX2_jarHolds_34 ?_
    exact r_iret hC hr hlk hI (by congr 1; omega) (rfl) dX2_jarHolds_37
  by_cases c_3 : w = 2
  · refine r_tin (tgt := 38) hC 2 c_3 (by decide) dX2_jarHolds_1 (by decide) (by decide) rfl (by decide) ?_
    refine r_aload_n hC hl dX2_jarHolds_38 0 rfl ?_
    refine g_sc (k1 := k) (v := .int (J (S k 3))) hC hI (by omega) 3 (by decide) fl_RX2_19 rfl rfl dX2_jarHolds_39 ?_
    exact r_iret hC hr hlk hI (by congr 1; omega) (rfl) dX2_jarHolds_42
  refine r_tout (tgt := 43) hC (by omega) dX2_jarHolds_1 (by omega) (by decide) ?_
  refine r_aload_n hC hl dX2_jarHolds_43 0 rfl ?_
  refine g_sc (k1 := k) (v := .int (J (S k 4))) hC hI (by omega) 4 (by decide) fl_RX2_22 rfl rfl dX2_jarHolds_44 ?_
  exact r_iret hC hr hlk hI (by congr 1; omega) (rfl) dX2_jarHolds_47

set_option maxHeartbeats 4000000 in
set_option maxRecDepth 100000 in
theorem c_X2_fillJar (l : Launch) (X : XT) (a : Nat → Nat) (B : Nat) (S : St) (k : Nat) (w : Int) (v : Int) (hk : k < 3) (hw : 0 ≤ w ∧ w ≤ 3) : CT l X a B 0 yX2_fillJar cX2_fillJar 3 none [.ref (a (2 + k)), .int (J w), .int (J v)] S (Qv X a B (up S k (1 + w.toNat) v)) := by
  refine CT.of (by decide +kernel) (Nat.le_of_ble_eq_true rfl) ?_
  intro p e s m below meth c ls hC hr hlk hI hl
  have hC : Cx p c cX2_fillJar 3 s m [.ref (a (2 + k)), .int (J w), .int (J v)].toArray RX2 X B := hC
  have hl : lv_has ls 3 [(0, .ref (a (2 + k))), (1, .int (J w)), (2, .int (J v))] := hl
  refine r_iload_n hC hl dX2_fillJar_0 1 rfl ?_
  by_cases c_1 : w = 0
  · refine r_tin (tgt := 28) hC 0 c_1 (by decide) dX2_fillJar_1 (by decide) (by decide) rfl (by decide) ?_
    refine r_aload_n hC hl dX2_fillJar_28 0 rfl ?_
    refine r_iload_n hC hl dX2_fillJar_29 2 rfl ?_
    refine p_sc1 (k1 := k) hC hI (by omega) fl_RX2_13 dX2_fillJar_30 (fun H locs hI => ?_)
    refine r_goto (tgt := 57) hC dX2_fillJar_33 (by decide) ?_
    exact r_vret hC hr hlk hI (by congr 1; omega) dX2_fillJar_57
  by_cases c_2 : w = 1
  · refine r_tin (tgt := 36) hC 1 c_2 (by decide) dX2_fillJar_1 (by decide) (by decide) rfl (by decide) ?_
    refine r_aload_n hC hl dX2_fillJar_36 0 rfl ?_
    refine r_iload_n hC hl dX2_fillJar_37 2 rfl ?_
    refine p_sc2 (k1 := k) hC hI (by omega) fl_RX2_16 dX2_fillJar_38 (fun H locs hI => ?_)
    refine r_goto (tgt := 57) hC dX2_fillJar_41 (by decide) ?_
    exact r_vret hC hr hlk hI (by congr 1; omega) dX2_fillJar_57
  by_cases c_3 : w = 2
  · refine r_tin (tgt := 44) hC 2 c_3 (by decide) dX2_fillJar_1 (by decide) (by decide) rfl (by decide) ?_
    refine r_aload_n hC hl dX2_fillJar_44 0 rfl ?_
    refine r_iload_n hC hl dX2_fillJar_45 2 rfl ?_
    refine p_sc3 (k1 := k) hC hI (by omega) fl_RX2_19 dX2_fillJar_46 (fun H locs hI => ?_)
    refine r_goto (tgt := 57) hC dX2_fillJar_49 (by decide) ?_
    exact r_vret hC hr hlk hI (by congr 1; omega) dX2_fillJar_57
  refine r_tout (tgt := 52) hC (by omega) dX2_fillJar_1 (by omega) (by decide) ?_
  refine r_aload_n hC hl dX2_fillJar_52 0 rfl ?_
  refine r_iload_n hC hl dX2_fillJar_53 2 rfl ?_
  refine p_sc4 (k1 := k) hC hI (by omega) fl_RX2_22 dX2_fillJar_54 (fun H locs hI => ?_)
  exact r_vret hC hr hlk hI (by congr 1; omega) dX2_fillJar_57

set_option maxHeartbeats 4000000 in
set_option maxRecDepth 100000 in
theorem c_X2_hasPage (l : Launch) (X : XT) (a : Nat → Nat) (B : Nat) (S : St) (k : Nat) (w : Int) (hk : k < 3) (h5 : 0 ≤ S k 5 ∧ S k 5 ≤ 8) (hw : -2147483648 ≤ w ∧ w ≤ 2147483647) : CT l X a B 0 yX2_hasPage cX2_hasPage 2 (some .boolean) [.ref (a (2 + k)), .int (J w)] S (Qi X a B (bI (0 ≤ w ∧ w < S k 5)) (S)) := by
  refine CT.of (by decide +kernel) (Nat.le_of_ble_eq_true rfl) ?_
  intro p e s m below meth c ls hC hr hlk hI hl
  have hC : Cx p c cX2_hasPage 2 s m [.ref (a (2 + k)), .int (J w)].toArray RX2 X B := hC
  have hl : lv_has ls 2 [(0, .ref (a (2 + k))), (1, .int (J w))] := hl
  refine r_iload_n hC hl dX2_hasPage_0 1 rfl ?_
  refine r_if_lt (tgt := 16) hC (by omega) dX2_hasPage_1 (by decide) (fun c_1 => ?_) (fun c_1 => ?_)
  · skip
    refine r_iconst hC dX2_hasPage_16 ?_
    exact r_zret hC hr hlk hI (by decide) ((bI_f (by omega)).symm) (rfl) dX2_hasPage_17
  · skip
    refine r_iload_n hC hl dX2_hasPage_4 1 rfl ?_
    refine r_aload_n hC hl dX2_hasPage_5 0 rfl ?_
    refine g_sc (k1 := k) (v := .int (J (S k 5))) hC hI (by omega) 5 (by decide) fl_RX2_25 rfl rfl dX2_hasPage_6 ?_
    refine r_icmp_ge (tgt := 16) hC (by omega) (by omega) dX2_hasPage_9 (by decide) (fun c_2 => ?_) (fun c_2 => ?_)
    · skip
      refine r_iconst hC dX2_hasPage_16 ?_
      exact r_zret hC hr hlk hI (by decide) ((bI_f (by omega)).symm) (rfl) dX2_hasPage_17
    · skip
      refine r_iconst hC dX2_hasPage_12 ?_
      refine r_goto (tgt := 17) hC dX2_hasPage_13 (by decide) ?_
      exact r_zret hC hr hlk hI (by decide) ((bI_t (by omega)).symm) (rfl) dX2_hasPage_17

set_option maxHeartbeats 4000000 in
set_option maxRecDepth 100000 in
theorem c_X2_isFull (l : Launch) (X : XT) (a : Nat → Nat) (B : Nat) (S : St) (k : Nat) (hk : k < 3) (h5 : 0 ≤ S k 5 ∧ S k 5 ≤ 8) : CT l X a B 0 yX2_isFull cX2_isFull 1 (some .boolean) [.ref (a (2 + k))] S (Qi X a B (bI (8 ≤ S k 5)) (S)) := by
  refine CT.of (by decide +kernel) (Nat.le_of_ble_eq_true rfl) ?_
  intro p e s m below meth c ls hC hr hlk hI hl
  have hC : Cx p c cX2_isFull 1 s m [.ref (a (2 + k))].toArray RX2 X B := hC
  have hl : lv_has ls 1 [(0, .ref (a (2 + k)))] := hl
  refine r_aload_n hC hl dX2_isFull_0 0 rfl ?_
  refine g_sc (k1 := k) (v := .int (J (S k 5))) hC hI (by omega) 5 (by decide) fl_RX2_25 rfl rfl dX2_isFull_1 ?_
  refine r_bipush hC (by decide) dX2_isFull_4 ?_
  refine r_icmp_lt (tgt := 13) hC (by omega) (by omega) dX2_isFull_6 (by decide) (fun c_1 => ?_) (fun c_1 => ?_)
  · skip
    refine r_iconst hC dX2_isFull_13 ?_
    exact r_zret hC hr hlk hI (by decide) ((bI_f (by omega)).symm) (rfl) dX2_isFull_14
  · skip
    refine r_iconst hC dX2_isFull_9 ?_
    refine r_goto (tgt := 14) hC dX2_isFull_10 (by decide) ?_
    exact r_zret hC hr hlk hI (by decide) ((bI_t (by omega)).symm) (rfl) dX2_isFull_14

set_option maxHeartbeats 4000000 in
set_option maxRecDepth 100000 in
theorem c_X2_hasInkFor (l : Launch) (X : XT) (a : Nat → Nat) (B : Nat) (S : St) (k : Nat) (q : Int) (w : Int) (hk : k < 3) (h3 : 0 ≤ S k 3 ∧ S k 3 ≤ 999) (hq : 0 ≤ q ∧ q ≤ 5) (hw : 0 ≤ w ∧ w ≤ 99) : CT l X a B 2 yX2_hasInkFor cX2_hasInkFor 3 (some .boolean) [.ref (a (2 + k)), .int (J q), .int (J w)] S (Qi X a B (bI (csF q w ≤ S k 3)) (S)) := by
  refine CT.of (by decide +kernel) (Nat.le_of_ble_eq_true rfl) ?_
  intro p e s m below meth c ls hC hr hlk hI hl
  have hC : Cx p c cX2_hasInkFor 3 s m [.ref (a (2 + k)), .int (J q), .int (J w)].toArray RX2 X B := hC
  have hl : lv_has ls 3 [(0, .ref (a (2 + k))), (1, .int (J q)), (2, .int (J w))] := hl
  have hcs := cs_rg (k := q) hw
  refine r_aload_n hC hl dX2_hasInkFor_0 0 rfl ?_
  refine g_sc (k1 := k) (v := .int (J (S k 3))) hC hI (by omega) 3 (by decide) fl_RX2_19 rfl rfl dX2_hasInkFor_1 ?_
  refine r_iload_n hC hl dX2_hasInkFor_4 1 rfl ?_
  refine r_iload_n hC hl dX2_hasInkFor_5 2 rfl ?_
  refine r_cSi hC hI hl [.int (J q), .int (J w)] [.int (J (S k 3))] (c_X0_costs l X a B S q w (by omega) (by omega)) ml_RX2_52 es_X0_costs ⟨Nat.le_of_ble_eq_true rfl, Nat.le_of_ble_eq_true rfl⟩ ⟨Nat.zero_le _, Nat.zero_le _⟩ (Nat.le_of_ble_eq_true rfl) rfl dX2_hasInkFor_6 (fun H locs hI => ?_)
  refine r_icmp_lt (tgt := 16) hC (by omega) (by omega) dX2_hasInkFor_9 (by decide) (fun c_1 => ?_) (fun c_1 => ?_)
  · skip
    refine r_iconst hC dX2_hasInkFor_16 ?_
    exact r_zret hC hr hlk hI (by decide) ((bI_f (by omega)).symm) (rfl) dX2_hasInkFor_17
  · skip
    refine r_iconst hC dX2_hasInkFor_12 ?_
    refine r_goto (tgt := 17) hC dX2_hasInkFor_13 (by decide) ?_
    exact r_zret hC hr hlk hI (by decide) ((bI_t (by omega)).symm) (rfl) dX2_hasInkFor_17

set_option maxHeartbeats 4000000 in
set_option maxRecDepth 100000 in
theorem c_X2_darkOn (l : Launch) (X : XT) (a : Nat → Nat) (B : Nat) (S : St) (k : Nat) (n : Nat) (hk : k < 3) (hN : 0 ≤ S k 0 ∧ S k 0 ≤ 9999) (hn : n ≤ 300) : CT l X a B 1 yX2_darkOn cX2_darkOn 2 (some .int) [.ref (a (2 + k)), .int (J (n : Int))] S (Qi X a B (dkF (S k) n) (S)) := by
  refine CT.of (by decide +kernel) (Nat.le_of_ble_eq_true rfl) ?_
  intro p e s m below meth c ls hC hr hlk hI hl
  have hC : Cx p c cX2_darkOn 2 s m [.ref (a (2 + k)), .int (J (n : Int))].toArray RX2 X B := hC
  have hl : lv_has ls 2 [(0, .ref (a (2 + k))), (1, .int (J (n : Int)))] := hl
  refine r_aload_n hC hl dX2_darkOn_0 0 rfl ?_
  refine g_sc (k1 := k) (v := .ref (a (8 + k))) hC hI (by omega) 6 (by decide) fl_RX2_28 rfl rfl dX2_darkOn_1 ?_
  refine r_aload_n hC hl dX2_darkOn_4 0 rfl ?_
  refine g_sc (k1 := k) (v := .int (J (S k 0))) hC hI (by omega) 0 (by decide) fl_RX2_7 rfl rfl dX2_darkOn_5 ?_
  refine r_iload_n hC hl dX2_darkOn_8 1 rfl ?_
  refine r_iadd hC dX2_darkOn_9 ?_
  refine r_bipush hC (by decide) dX2_darkOn_10 ?_
  refine r_cSi hC hI hl [.int (J ((S k 0) + (n : Int))), .int (J 12)] [.ref (a (8 + k))] (c_J9_floorMod_7cf53 l X a B S ((S k 0) + (n : Int)) 12 (by omega) (by omega)) ml_RX2_87 es_J9_floorMod_7cf53 ⟨Nat.le_of_ble_eq_true rfl, Nat.le_of_ble_eq_true rfl⟩ ⟨Nat.zero_le _, Nat.zero_le _⟩ (Nat.le_of_ble_eq_true rfl) rfl dX2_darkOn_12 (fun H locs hI => ?_)
  refine r_iald (cx := 8 + k) (n := 12) (f := (fun S j => S k (6 + j)) (S)) (v := S k (6 + ((((S k 0) + (n : Int)) % 12).toNat))) hC hI (by omega) (ce_dk X a _ (by omega)) (by decide) ((((S k 0) + (n : Int)) % 12).toNat) (by omega) (by omega) rfl dX2_darkOn_15 ?_
  exact r_iret hC hr hlk hI (rfl) (rfl) dX2_darkOn_16

set_option maxHeartbeats 4000000 in
set_option maxRecDepth 100000 in
theorem c_X2_darkTogether (l : Launch) (X : XT) (a : Nat → Nat) (B : Nat) (S : St) (k : Nat) (n : Nat) (hk : k < 3) (hV : VR 9999 (S k)) (hn : n ≤ 300) : CT l X a B 2 yX2_darkTogether cX2_darkTogether 4 (some .int) [.ref (a (2 + k)), .int (J (n : Int))] S (Qi X a B (sumF (dkF (S k)) n) (S)) := by
  refine CT.of (by decide +kernel) (Nat.le_of_ble_eq_true rfl) ?_
  intro p e s m below meth c ls hC hr hlk hI hl
  have hC : Cx p c cX2_darkTogether 4 s m [.ref (a (2 + k)), .int (J (n : Int))].toArray RX2 X B := hC
  have hl : lv_has ls 4 [(0, .ref (a (2 + k))), (1, .int (J (n : Int)))] := hl
  obtain ⟨⟨hN, hBr, hBu, hIn, hLa, hPc⟩, hDk, hPg⟩ := id hV
  refine r_iconst hC dX2_darkTogether_0 ?_
  refine r_istore_n (lv1 := [(2, .int (J 0)), (0, .ref (a (2 + k))), (1, .int (J (n : Int)))]) hC hl dX2_darkTogether_1 2 rfl (by decide) rfl (fun ls hl => ?_)
  refine r_iconst hC dX2_darkTogether_2 ?_
  refine r_istore_n (lv1 := [(3, .int (J 0)), (2, .int (J 0)), (0, .ref (a (2 + k))), (1, .int (J (n : Int)))]) hC hl dX2_darkTogether_3 3 rfl (by decide) rfl (fun ls hl => ?_)
  have hL4 : ∀ (fu : Nat) (q : Nat) (x3 x2 : Int), n - q < fu → (x3 = (q : Int)) → (x2 = sumF (dkF (S k)) q) → (q ≤ n) → ∀ (H : Heap) (locs : List Loc) (ls : Array Slot), IS X a B s (S) H locs → lv_has ls 4 [(3, .int (J x3)), (2, .int (J x2)), (0, .ref (a (2 + k))), (1, .int (J (n : Int)))] → W p l e (rmD 2) s m [.ref (a (2 + k)), .int (J (n : Int))].toArray below meth c H locs 0 0 (MQ below (Qi X a B (sumF (dkF (S k)) n) (S)) [.ref (a (2 + k)), .int (J (n : Int))].toArray s 0 0 (fun q => B ≤ q)) (F0 m 4 ls []) := by
    intro fu
    induction fu with
    | zero => intro q x3 x2 hm; exact absurd hm (Nat.not_lt_zero _)
    | succ fu ih4 =>
      intro q x3 x2 hm e3 e2 hq H locs ls hI hl
      subst e3; subst e2
      refine r_iload_n hC hl dX2_darkTogether_4 0 rfl ?_
      refine r_iload_n hC hl dX2_darkTogether_5 3 rfl ?_
      refine r_icmp_ge (tgt := 23) hC (by omega) (by omega) dX2_darkTogether_6 (by decide) (fun c_1 => ?_) (fun c_1 => ?_)
      · skip
        refine r_iload_n hC hl dX2_darkTogether_23 1 rfl ?_
        exact r_iret hC hr hlk hI (by rw [show q = n by omega]) (rfl) dX2_darkTogether_24
      · skip
        refine r_iload_n hC hl dX2_darkTogether_9 1 rfl ?_
        refine r_aload_n hC hl dX2_darkTogether_10 2 rfl ?_
        refine r_iload_n hC hl dX2_darkTogether_11 0 rfl ?_
        refine r_cVi hC hI hl [.int (J (q : Int))] [.int (J (sumF (dkF (S k)) q))] (c_X2_darkOn l X a B S k q (by omega) (by omega) (by omega)) ml_RX2_74 ev_X2_darkOn (rc_sc (S := S) hC hI (by omega)) ⟨Nat.le_of_ble_eq_true rfl, Nat.le_of_ble_eq_true rfl⟩ ⟨Nat.zero_le _, Nat.zero_le _⟩ (Nat.le_of_ble_eq_true rfl) rfl dX2_darkTogether_12 (fun H locs hI => ?_)
        refine r_iadd hC dX2_darkTogether_15 ?_
        refine r_istore_n (lv1 := [(2, .int (J ((sumF (dkF (S k)) q) + (dkF (S k) q)))), (3, .int (J (q : Int))), (0, .ref (a (2 + k))), (1, .int (J (n : Int)))]) hC hl dX2_darkTogether_16 2 rfl (by decide) rfl (fun ls hl => ?_)
        refine r_iinc (lv1 := [(3, .int (J ((q : Int) + 1))), (2, .int (J ((sumF (dkF (S k)) q) + (dkF (S k) q)))), (0, .ref (a (2 + k))), (1, .int (J (n : Int)))]) hC hl dX2_darkTogether_17 1 rfl (by decide) rfl (fun ls hl => ?_)
        refine r_goto (tgt := 4) hC dX2_darkTogether_20 (by decide) ?_
        exact ih4 (q + 1) ((q : Int) + 1) ((sumF (dkF (S k)) q) + (dkF (S k) q)) (by omega) (by omega) rfl (by omega) _ _ _ hI (lv_sub hl [0, 1, 2, 3] rfl)
  exact hL4 _ 0 0 0 (Nat.lt_succ_self _) (by omega) rfl (by omega) _ _ _ hI (lv_sub hl [0, 1, 2, 3] rfl)

set_option maxHeartbeats 4000000 in
set_option maxRecDepth 100000 in
theorem c_X2_inkWith (l : Launch) (X : XT) (a : Nat → Nat) (B : Nat) (S : St) (k : Nat) (b : Int) (hk : k < 3) (h3 : 0 ≤ S k 3 ∧ S k 3 ≤ 999) (hb : 0 ≤ b ∧ b ≤ 100000) : CT l X a B 1 yX2_inkWith cX2_inkWith 2 (some .int) [.ref (a (2 + k)), .int (J b)] S (Qi X a B (iwF (S k) b) (S)) := by
  refine CT.of (by decide +kernel) (Nat.le_of_ble_eq_true rfl) ?_
  intro p e s m below meth c ls hC hr hlk hI hl
  have hC : Cx p c cX2_inkWith 2 s m [.ref (a (2 + k)), .int (J b)].toArray RX2 X B := hC
  have hl : lv_has ls 2 [(0, .ref (a (2 + k))), (1, .int (J b))] := hl
  refine r_sipush hC (by decide) dX2_inkWith_0 ?_
  refine r_aload_n hC hl dX2_inkWith_3 0 rfl ?_
  refine g_sc (k1 := k) (v := .int (J (S k 3))) hC hI (by omega) 3 (by decide) fl_RX2_19 rfl rfl dX2_inkWith_4 ?_
  refine r_iload_n hC hl dX2_inkWith_7 1 rfl ?_
  refine r_bipush hC (by decide) dX2_inkWith_8 ?_
  refine r_idiv hC (by omega) (by omega) dX2_inkWith_10 ?_
  refine r_iadd hC dX2_inkWith_11 ?_
  refine r_cSi hC hI hl [.int (J 999), .int (J ((S k 3) + (b / 9)))] [] (c_J9_min_7cf53 l X a B S 999 ((S k 3) + (b / 9)) (by omega) (by omega)) ml_RX2_92 es_J9_min_7cf53 ⟨Nat.le_of_ble_eq_true rfl, Nat.le_of_ble_eq_true rfl⟩ ⟨Nat.zero_le _, Nat.zero_le _⟩ (Nat.le_of_ble_eq_true rfl) rfl dX2_inkWith_12 (fun H locs hI => ?_)
  exact r_iret hC hr hlk hI (rfl) (rfl) dX2_inkWith_15

set_option maxHeartbeats 4000000 in
set_option maxRecDepth 100000 in
theorem c_X2_inkOn (l : Launch) (X : XT) (a : Nat → Nat) (B : Nat) (S : St) (k : Nat) (n : Nat) (w : Int) (hk : k < 3) (hV : VR 9999 (S k)) (hn : n ≤ 300) (hw : 0 ≤ w ∧ w ≤ 9) : CT l X a B 3 yX2_inkOn cX2_inkOn 3 (some .int) [.ref (a (2 + k)), .int (J (n : Int)), .int (J w)] S (Qi X a B (iwF (S k) (S k 2 + w * sumF (dkF (S k)) n)) (S)) := by
  refine CT.of (by decide +kernel) (Nat.le_of_ble_eq_true rfl) ?_
  intro p e s m below meth c ls hC hr hlk hI hl
  have hC : Cx p c cX2_inkOn 3 s m [.ref (a (2 + k)), .int (J (n : Int)), .int (J w)].toArray RX2 X B := hC
  have hl : lv_has ls 3 [(0, .ref (a (2 + k))), (1, .int (J (n : Int))), (2, .int (J w))] := hl
  obtain ⟨⟨hN, hBr, hBu, hIn, hLa, hPc⟩, hDk, hPg⟩ := id hV
  have hbw := bw_rg hV hw hn
  refine r_aload_n hC hl dX2_inkOn_0 0 rfl ?_
  refine r_aload_n hC hl dX2_inkOn_1 0 rfl ?_
  refine g_sc (k1 := k) (v := .int (J (S k 2))) hC hI (by omega) 2 (by decide) fl_RX2_16 rfl rfl dX2_inkOn_2 ?_
  refine r_iload_n hC hl dX2_inkOn_5 2 rfl ?_
  refine r_aload_n hC hl dX2_inkOn_6 0 rfl ?_
  refine r_iload_n hC hl dX2_inkOn_7 1 rfl ?_
  refine r_cVi hC hI hl [.int (J (n : Int))] [.int (J w), .int (J (S k 2)), .ref (a (2 + k))] (c_X2_darkTogether l X a B S k n (by omega) hV (by omega)) ml_RX2_95 ev_X2_darkTogether (rc_sc (S := S) hC hI (by omega)) ⟨Nat.le_of_ble_eq_true rfl, Nat.le_of_ble_eq_true rfl⟩ ⟨Nat.zero_le _, Nat.zero_le _⟩ (Nat.le_of_ble_eq_true rfl) rfl dX2_inkOn_8 (fun H locs hI => ?_)
  refine r_imul hC dX2_inkOn_11 ?_
  refine r_iadd hC dX2_inkOn_12 ?_
  refine r_cVi hC hI hl [.int (J ((S k 2) + (w * (sumF (dkF (S k)) n))))] [] (c_X2_inkWith l X a B S k ((S k 2) + (w * (sumF (dkF (S k)) n))) (by omega) (by omega) (by omega)) ml_RX2_98 ev_X2_inkWith (rc_sc (S := S) hC hI (by omega)) ⟨Nat.le_of_ble_eq_true rfl, Nat.le_of_ble_eq_true rfl⟩ ⟨Nat.zero_le _, Nat.zero_le _⟩ (Nat.le_of_ble_eq_true rfl) rfl dX2_inkOn_13 (fun H locs hI => ?_)
  exact r_iret hC hr hlk hI (rfl) (rfl) dX2_inkOn_16

set_option maxHeartbeats 4000000 in
set_option maxRecDepth 100000 in
theorem c_X2_believedTogether (l : Launch) (X : XT) (a : Nat → Nat) (B : Nat) (S : St) (k : Nat) (n : Int) (w : Int) (hk : k < 3) (hV : VR 9999 (S k)) (hn : 0 ≤ n ∧ n ≤ 300) (hw : 0 ≤ w ∧ w ≤ 9) : CT l X a B 4 yX2_believedTogether cX2_believedTogether 5 (some .int) [.ref (a (2 + k)), .int (J n), .int (J w)] S (Qi X a B (sumF (fun i => blP (S k) i n w) (S k 5).toNat) (S)) := by
  refine CT.of (by decide +kernel) (Nat.le_of_ble_eq_true rfl) ?_
  intro p e s m below meth c ls hC hr hlk hI hl
  have hC : Cx p c cX2_believedTogether 5 s m [.ref (a (2 + k)), .int (J n), .int (J w)].toArray RX2 X B := hC
  have hl : lv_has ls 5 [(0, .ref (a (2 + k))), (1, .int (J n)), (2, .int (J w))] := hl
  obtain ⟨⟨hN, hBr, hBu, hIn, hLa, hPc⟩, hDk, hPg⟩ := id hV
  refine r_iconst hC dX2_believedTogether_0 ?_
  refine r_istore_n (lv1 := [(3, .int (J 0)), (0, .ref (a (2 + k))), (1, .int (J n)), (2, .int (J w))]) hC hl dX2_believedTogether_1 3 rfl (by decide) rfl (fun ls hl => ?_)
  refine r_iconst hC dX2_believedTogether_2 ?_
  refine r_istore (lv1 := [(4, .int (J 0)), (3, .int (J 0)), (0, .ref (a (2 + k))), (1, .int (J n)), (2, .int (J w))]) hC hl dX2_believedTogether_3 (by decide) rfl (fun ls hl => ?_)
  have hL5 : ∀ (fu : Nat) (q : Nat) (x4 x3 : Int), (S k 5).toNat - q < fu → (x4 = (q : Int)) → (x3 = sumF (fun i => blP (S k) i n w) q) → (q ≤ (S k 5).toNat) → ∀ (H : Heap) (locs : List Loc) (ls : Array Slot), IS X a B s (S) H locs → lv_has ls 5 [(4, .int (J x4)), (3, .int (J x3)), (0, .ref (a (2 + k))), (1, .int (J n)), (2, .int (J w))] → W p l e (rmD 4) s m [.ref (a (2 + k)), .int (J n), .int (J w)].toArray below meth c H locs 0 0 (MQ below (Qi X a B (sumF (fun i => blP (S k) i n w) (S k 5).toNat) (S)) [.ref (a (2 + k)), .int (J n), .int (J w)].toArray s 0 0 (fun q => B ≤ q)) (F0 m 5 ls []) := by
    intro fu
    induction fu with
    | zero => intro q x4 x3 hm; exact absurd hm (Nat.not_lt_zero _)
    | succ fu ih5 =>
      intro q x4 x3 hm e4 e3 hq H locs ls hI hl
      subst e4; subst e3
      refine r_iload hC hl dX2_believedTogether_5 0 rfl ?_
      refine r_aload_n hC hl dX2_believedTogether_7 2 rfl ?_
      refine g_sc (k1 := k) (v := .int (J (S k 5))) hC hI (by omega) 5 (by decide) fl_RX2_25 rfl rfl dX2_believedTogether_8 ?_
      refine r_icmp_ge (tgt := 35) hC (by omega) (by omega) dX2_believedTogether_11 (by decide) (fun c_1 => ?_) (fun c_1 => ?_)
      · skip
        refine r_iload_n hC hl dX2_believedTogether_35 1 rfl ?_
        exact r_iret hC hr hlk hI (by rw [show q = (S k 5).toNat by omega]) (rfl) dX2_believedTogether_36
      · skip
        refine r_iload_n hC hl dX2_believedTogether_14 1 rfl ?_
        refine r_aload_n hC hl dX2_believedTogether_15 2 rfl ?_
        refine g_sc (k1 := k) (v := .ref (a (11 + k))) hC hI (by omega) 7 (by decide) fl_RX2_34 rfl rfl dX2_believedTogether_16 ?_
        refine r_iload hC hl dX2_believedTogether_19 0 rfl ?_
        refine r_pald (cx := 11 + k) hC hI (by omega) (ce_pa X a _ (by omega)) (by decide) (q) (by omega) (by omega) dX2_believedTogether_21 ?_
        refine r_iload_n hC hl dX2_believedTogether_22 3 rfl ?_
        refine r_iload_n hC hl dX2_believedTogether_23 4 rfl ?_
        refine r_cVi hC hI hl [.int (J n), .int (J w)] [.int (J (sumF (fun i => blP (S k) i n w) q))] (c_X1_believedOn l X a B S k q n w (by omega) (by omega) (hPg q (by omega)) (by omega) (by omega)) ml_RX2_104 ev_X1_believedOn (rc_pg (S := S) hC hI (by omega) (by omega)) ⟨Nat.le_of_ble_eq_true rfl, Nat.le_of_ble_eq_true rfl⟩ ⟨Nat.zero_le _, Nat.zero_le _⟩ (Nat.le_of_ble_eq_true rfl) rfl dX2_believedTogether_24 (fun H locs hI => ?_)
        refine r_iadd hC dX2_believedTogether_27 ?_
        refine r_istore_n (lv1 := [(3, .int (J ((sumF (fun i => blP (S k) i n w) q) + (blP (S k) q n w)))), (4, .int (J (q : Int))), (0, .ref (a (2 + k))), (1, .int (J n)), (2, .int (J w))]) hC hl dX2_believedTogether_28 3 rfl (by decide) rfl (fun ls hl => ?_)
        refine r_iinc (lv1 := [(4, .int (J ((q : Int) + 1))), (3, .int (J ((sumF (fun i => blP (S k) i n w) q) + (blP (S k) q n w)))), (0, .ref (a (2 + k))), (1, .int (J n)), (2, .int (J w))]) hC hl dX2_believedTogether_29 1 rfl (by decide) rfl (fun ls hl => ?_)
        refine r_goto (tgt := 5) hC dX2_believedTogether_32 (by decide) ?_
        exact ih5 (q + 1) ((q : Int) + 1) ((sumF (fun i => blP (S k) i n w) q) + (blP (S k) q n w)) (by omega) (by omega) rfl (by omega) _ _ _ hI (lv_sub hl [0, 1, 2, 3, 4] rfl)
  exact hL5 _ 0 0 0 (Nat.lt_succ_self _) (by omega) rfl (by omega) _ _ _ hI (lv_sub hl [0, 1, 2, 3, 4] rfl)

set_option maxHeartbeats 4000000 in
set_option maxRecDepth 100000 in
theorem c_X2_pagesInSun (l : Launch) (X : XT) (a : Nat → Nat) (B : Nat) (S : St) (k : Nat) (hk : k < 3) (hV : VR 9999 (S k)) : CT l X a B 0 yX2_pagesInSun cX2_pagesInSun 3 (some .int) [.ref (a (2 + k))] S (Qi X a B (sumF (fun i => S k (21 + 5 * i)) (S k 5).toNat) (S)) := by
  refine CT.of (by decide +kernel) (Nat.le_of_ble_eq_true rfl) ?_
  intro p e s m below meth c ls hC hr hlk hI hl
  have hC : Cx p c cX2_pagesInSun 3 s m [.ref (a (2 + k))].toArray RX2 X B := hC
  have hl : lv_has ls 3 [(0, .ref (a (2 + k)))] := hl
  obtain ⟨⟨hN, hBr, hBu, hIn, hLa, hPc⟩, hDk, hPg⟩ := id hV
  refine r_iconst hC dX2_pagesInSun_0 ?_
  refine r_istore_n (lv1 := [(1, .int (J 0)), (0, .ref (a (2 + k)))]) hC hl dX2_pagesInSun_1 1 rfl (by decide) rfl (fun ls hl => ?_)
  refine r_iconst hC dX2_pagesInSun_2 ?_
  refine r_istore_n (lv1 := [(2, .int (J 0)), (1, .int (J 0)), (0, .ref (a (2 + k)))]) hC hl dX2_pagesInSun_3 2 rfl (by decide) rfl (fun ls hl => ?_)
  have hL4 : ∀ (fu : Nat) (q : Nat) (x2 x1 : Int), (S k 5).toNat - q < fu → (x2 = (q : Int)) → (x1 = sumF (fun i => S k (21 + 5 * i)) q) → (q ≤ (S k 5).toNat) → ∀ (H : Heap) (locs : List Loc) (ls : Array Slot), IS X a B s (S) H locs → lv_has ls 3 [(2, .int (J x2)), (1, .int (J x1)), (0, .ref (a (2 + k)))] → W p l e (rmD 0) s m [.ref (a (2 + k))].toArray below meth c H locs 0 0 (MQ below (Qi X a B (sumF (fun i => S k (21 + 5 * i)) (S k 5).toNat) (S)) [.ref (a (2 + k))].toArray s 0 0 (fun q => B ≤ q)) (F0 m 4 ls []) := by
    intro fu
    induction fu with
    | zero => intro q x2 x1 hm; exact absurd hm (Nat.not_lt_zero _)
    | succ fu ih4 =>
      intro q x2 x1 hm e2 e1 hq H locs ls hI hl
      subst e2; subst e1
      refine r_iload_n hC hl dX2_pagesInSun_4 0 rfl ?_
      refine r_aload_n hC hl dX2_pagesInSun_5 2 rfl ?_
      refine g_sc (k1 := k) (v := .int (J (S k 5))) hC hI (by omega) 5 (by decide) fl_RX2_25 rfl rfl dX2_pagesInSun_6 ?_
      refine r_icmp_ge (tgt := 30) hC (by omega) (by omega) dX2_pagesInSun_9 (by decide) (fun c_1 => ?_) (fun c_1 => ?_)
      · skip
        refine r_iload_n hC hl dX2_pagesInSun_30 1 rfl ?_
        exact r_iret hC hr hlk hI (by rw [show q = (S k 5).toNat by omega]) (rfl) dX2_pagesInSun_31
      · skip
        refine r_iload_n hC hl dX2_pagesInSun_12 1 rfl ?_
        refine r_aload_n hC hl dX2_pagesInSun_13 2 rfl ?_
        refine g_sc (k1 := k) (v := .ref (a (11 + k))) hC hI (by omega) 7 (by decide) fl_RX2_34 rfl rfl dX2_pagesInSun_14 ?_
        refine r_iload_n hC hl dX2_pagesInSun_17 0 rfl ?_
        refine r_pald (cx := 11 + k) hC hI (by omega) (ce_pa X a _ (by omega)) (by decide) (q) (by omega) (by omega) dX2_pagesInSun_18 ?_
        refine g_pg (k1 := k) (i := q) (v := .int (J (S k (21 + 5 * q)))) hC hI (by omega) (by omega) 3 (by decide) fl_RX2_68 rfl rfl dX2_pagesInSun_19 ?_
        refine r_iadd hC dX2_pagesInSun_22 ?_
        refine r_istore_n (lv1 := [(1, .int (J ((sumF (fun i => S k (21 + 5 * i)) q) + (S k (21 + 5 * q))))), (2, .int (J (q : Int))), (0, .ref (a (2 + k)))]) hC hl dX2_pagesInSun_23 1 rfl (by decide) rfl (fun ls hl => ?_)
        refine r_iinc (lv1 := [(2, .int (J ((q : Int) + 1))), (1, .int (J ((sumF (fun i => S k (21 + 5 * i)) q) + (S k (21 + 5 * q))))), (0, .ref (a (2 + k)))]) hC hl dX2_pagesInSun_24 1 rfl (by decide) rfl (fun ls hl => ?_)
        refine r_goto (tgt := 4) hC dX2_pagesInSun_27 (by decide) ?_
        exact ih4 (q + 1) ((q : Int) + 1) ((sumF (fun i => S k (21 + 5 * i)) q) + (S k (21 + 5 * q))) (by omega) (by omega) rfl (by omega) _ _ _ hI (lv_sub hl [0, 1, 2] rfl)
  exact hL4 _ 0 0 0 (Nat.lt_succ_self _) (by omega) rfl (by omega) _ _ _ hI (lv_sub hl [0, 1, 2] rfl)

set_option maxHeartbeats 4000000 in
set_option maxRecDepth 100000 in
theorem c_X2_wordsTogether (l : Launch) (X : XT) (a : Nat → Nat) (B : Nat) (S : St) (k : Nat) (hk : k < 3) (hV : VR 9999 (S k)) : CT l X a B 0 yX2_wordsTogether cX2_wordsTogether 3 (some .int) [.ref (a (2 + k))] S (Qi X a B (sumF (fun i => S k (19 + 5 * i)) (S k 5).toNat) (S)) := by
  refine CT.of (by decide +kernel) (Nat.le_of_ble_eq_true rfl) ?_
  intro p e s m below meth c ls hC hr hlk hI hl
  have hC : Cx p c cX2_wordsTogether 3 s m [.ref (a (2 + k))].toArray RX2 X B := hC
  have hl : lv_has ls 3 [(0, .ref (a (2 + k)))] := hl
  obtain ⟨⟨hN, hBr, hBu, hIn, hLa, hPc⟩, hDk, hPg⟩ := id hV
  refine r_iconst hC dX2_wordsTogether_0 ?_
  refine r_istore_n (lv1 := [(1, .int (J 0)), (0, .ref (a (2 + k)))]) hC hl dX2_wordsTogether_1 1 rfl (by decide) rfl (fun ls hl => ?_)
  refine r_iconst hC dX2_wordsTogether_2 ?_
  refine r_istore_n (lv1 := [(2, .int (J 0)), (1, .int (J 0)), (0, .ref (a (2 + k)))]) hC hl dX2_wordsTogether_3 2 rfl (by decide) rfl (fun ls hl => ?_)
  have hL4 : ∀ (fu : Nat) (q : Nat) (x2 x1 : Int), (S k 5).toNat - q < fu → (x2 = (q : Int)) → (x1 = sumF (fun i => S k (19 + 5 * i)) q) → (q ≤ (S k 5).toNat) → ∀ (H : Heap) (locs : List Loc) (ls : Array Slot), IS X a B s (S) H locs → lv_has ls 3 [(2, .int (J x2)), (1, .int (J x1)), (0, .ref (a (2 + k)))] → W p l e (rmD 0) s m [.ref (a (2 + k))].toArray below meth c H locs 0 0 (MQ below (Qi X a B (sumF (fun i => S k (19 + 5 * i)) (S k 5).toNat) (S)) [.ref (a (2 + k))].toArray s 0 0 (fun q => B ≤ q)) (F0 m 4 ls []) := by
    intro fu
    induction fu with
    | zero => intro q x2 x1 hm; exact absurd hm (Nat.not_lt_zero _)
    | succ fu ih4 =>
      intro q x2 x1 hm e2 e1 hq H locs ls hI hl
      subst e2; subst e1
      refine r_iload_n hC hl dX2_wordsTogether_4 0 rfl ?_
      refine r_aload_n hC hl dX2_wordsTogether_5 2 rfl ?_
      refine g_sc (k1 := k) (v := .int (J (S k 5))) hC hI (by omega) 5 (by decide) fl_RX2_25 rfl rfl dX2_wordsTogether_6 ?_
      refine r_icmp_ge (tgt := 30) hC (by omega) (by omega) dX2_wordsTogether_9 (by decide) (fun c_1 => ?_) (fun c_1 => ?_)
      · skip
        refine r_iload_n hC hl dX2_wordsTogether_30 1 rfl ?_
        exact r_iret hC hr hlk hI (by rw [show q = (S k 5).toNat by omega]) (rfl) dX2_wordsTogether_31
      · skip
        refine r_iload_n hC hl dX2_wordsTogether_12 1 rfl ?_
        refine r_aload_n hC hl dX2_wordsTogether_13 2 rfl ?_
        refine g_sc (k1 := k) (v := .ref (a (11 + k))) hC hI (by omega) 7 (by decide) fl_RX2_34 rfl rfl dX2_wordsTogether_14 ?_
        refine r_iload_n hC hl dX2_wordsTogether_17 0 rfl ?_
        refine r_pald (cx := 11 + k) hC hI (by omega) (ce_pa X a _ (by omega)) (by decide) (q) (by omega) (by omega) dX2_wordsTogether_18 ?_
        refine g_pg (k1 := k) (i := q) (v := .int (J (S k (19 + 5 * q)))) hC hI (by omega) (by omega) 1 (by decide) fl_RX2_65 rfl rfl dX2_wordsTogether_19 ?_
        refine r_iadd hC dX2_wordsTogether_22 ?_
        refine r_istore_n (lv1 := [(1, .int (J ((sumF (fun i => S k (19 + 5 * i)) q) + (S k (19 + 5 * q))))), (2, .int (J (q : Int))), (0, .ref (a (2 + k)))]) hC hl dX2_wordsTogether_23 1 rfl (by decide) rfl (fun ls hl => ?_)
        refine r_iinc (lv1 := [(2, .int (J ((q : Int) + 1))), (1, .int (J ((sumF (fun i => S k (19 + 5 * i)) q) + (S k (19 + 5 * q))))), (0, .ref (a (2 + k)))]) hC hl dX2_wordsTogether_24 1 rfl (by decide) rfl (fun ls hl => ?_)
        refine r_goto (tgt := 4) hC dX2_wordsTogether_27 (by decide) ?_
        exact ih4 (q + 1) ((q : Int) + 1) ((sumF (fun i => S k (19 + 5 * i)) q) + (S k (19 + 5 * q))) (by omega) (by omega) rfl (by omega) _ _ _ hI (lv_sub hl [0, 1, 2] rfl)
  exact hL4 _ 0 0 0 (Nat.lt_succ_self _) (by omega) rfl (by omega) _ _ _ hI (lv_sub hl [0, 1, 2] rfl)

theorem bt_rg {N : Int} {R : Nat → Int} (hV : VR N R) {n w : Int} (hn : 0 ≤ n ∧ n ≤ 300) (hw : 0 ≤ w ∧ w ≤ 9) {c : Nat} (hc : c ≤ 8) : 0 ≤ sumF (fun i => blP R i n w) c ∧ sumF (fun i => blP R i n w) c ≤ 2400 := by
  have h := sum_rg (f := fun i => blP R i n w) (A := 300) c (fun i hi => blP_rg (hV.2.2 i (by omega)) hn hw)
  omega

set_option maxHeartbeats 4000000 in
set_option maxRecDepth 100000 in
theorem c_X2_firstWithInk (l : Launch) (X : XT) (a : Nat → Nat) (B : Nat) (S : St) (k : Nat) (v : Int) (mo : Nat) (hk : k < 3) (hV : VR 9999 (S k)) (hv : 0 ≤ v ∧ v ≤ 999) (hmo : mo ≤ 250) : CT l X a B 2 yX2_firstWithInk cX2_firstWithInk 5 (some .int) [.ref (a (2 + k)), .int (J v), .int (J (mo : Int))] S (Qi X a B (fsF (fun j => decide (v ≤ iwF (S k) (S k 2 + S k 1 * sumF (dkF (S k)) j))) (mo + 1) 0) (S)) := by
  refine CT.of (by decide +kernel) (Nat.le_of_ble_eq_true rfl) ?_
  intro p e s m below meth c ls hC hr hlk hI hl
  have hC : Cx p c cX2_firstWithInk 5 s m [.ref (a (2 + k)), .int (J v), .int (J (mo : Int))].toArray RX2 X B := hC
  have hl : lv_has ls 5 [(0, .ref (a (2 + k))), (1, .int (J v)), (2, .int (J (mo : Int)))] := hl
  obtain ⟨⟨hN, hBr, hBu, hIn, hLa, hPc⟩, hDk, hPg⟩ := id hV
  refine r_aload_n hC hl dX2_firstWithInk_0 0 rfl ?_
  refine g_sc (k1 := k) (v := .int (J (S k 2))) hC hI (by omega) 2 (by decide) fl_RX2_16 rfl rfl dX2_firstWithInk_1 ?_
  refine r_istore_n (lv1 := [(3, .int (J (S k 2))), (0, .ref (a (2 + k))), (1, .int (J v)), (2, .int (J (mo : Int)))]) hC hl dX2_firstWithInk_4 3 rfl (by decide) rfl (fun ls hl => ?_)
  refine r_iconst hC dX2_firstWithInk_5 ?_
  refine r_istore (lv1 := [(4, .int (J 0)), (3, .int (J (S k 2))), (0, .ref (a (2 + k))), (1, .int (J v)), (2, .int (J (mo : Int)))]) hC hl dX2_firstWithInk_6 (by decide) rfl (fun ls hl => ?_)
  have hL8 : ∀ (fu : Nat) (q : Nat) (x4 x3 : Int), (mo + 1) - q < fu → (x4 = (q : Int)) → (x3 = S k 2 + S k 1 * sumF (dkF (S k)) q) → (q ≤ (mo + 1)) → (fsF (fun j => decide (v ≤ iwF (S k) (S k 2 + S k 1 * sumF (dkF (S k)) j))) ((mo + 1) - q) q = fsF (fun j => decide (v ≤ iwF (S k) (S k 2 + S k 1 * sumF (dkF (S k)) j))) (mo + 1) 0) → ∀ (H : Heap) (locs : List Loc) (ls : Array Slot), IS X a B s (S) H locs → lv_has ls 5 [(4, .int (J x4)), (3, .int (J x3)), (0, .ref (a (2 + k))), (1, .int (J v)), (2, .int (J (mo : Int)))] → W p l e (rmD 2) s m [.ref (a (2 + k)), .int (J v), .int (J (mo : Int))].toArray below meth c H locs 0 0 (MQ below (Qi X a B (fsF (fun j => decide (v ≤ iwF (S k) (S k 2 + S k 1 * sumF (dkF (S k)) j))) (mo + 1) 0) (S)) [.ref (a (2 + k)), .int (J v), .int (J (mo : Int))].toArray s 0 0 (fun q => B ≤ q)) (F0 m 8 ls []) := by
    intro fu
    induction fu with
    | zero => intro q x4 x3 hm; exact absurd hm (Nat.not_lt_zero _)
    | succ fu ih8 =>
      intro q x4 x3 hm e4 e3 hq hf H locs ls hI hl
      subst e4; subst e3
      refine r_iload hC hl dX2_firstWithInk_8 0 rfl ?_
      refine r_iload_n hC hl dX2_firstWithInk_10 4 rfl ?_
      refine r_icmp_gt (tgt := 46) hC (by omega) (by omega) dX2_firstWithInk_11 (by decide) (fun c_1 => ?_) (fun c_1 => ?_)
      · skip
        refine r_iconst hC dX2_firstWithInk_46 ?_
        exact r_iret hC hr hlk hI (by rw [← hf, show (mo + 1) - q = 0 by omega]; rfl) (rfl) dX2_firstWithInk_47
      · skip
        have hbw := bw_rg hV hBr (n := q) (by omega)
        have hiw := iw_rg hV hbw
        refine r_aload_n hC hl dX2_firstWithInk_14 2 rfl ?_
        refine r_iload_n hC hl dX2_firstWithInk_15 1 rfl ?_
        refine r_cVi hC hI hl [.int (J (S k 2 + S k 1 * sumF (dkF (S k)) q))] [] (c_X2_inkWith l X a B S k (S k 2 + S k 1 * sumF (dkF (S k)) q) (by omega) (by omega) (by omega)) ml_RX2_98 ev_X2_inkWith (rc_sc (S := S) hC hI (by omega)) ⟨Nat.le_of_ble_eq_true rfl, Nat.le_of_ble_eq_true rfl⟩ ⟨Nat.zero_le _, Nat.zero_le _⟩ (Nat.le_of_ble_eq_true rfl) rfl dX2_firstWithInk_16 (fun H locs hI => ?_)
        refine r_iload_n hC hl dX2_firstWithInk_19 3 rfl ?_
        refine r_icmp_lt (tgt := 26) hC (by omega) (by omega) dX2_firstWithInk_20 (by decide) (fun c_2 => ?_) (fun c_2 => ?_)
        · skip
          refine r_iload_n hC hl dX2_firstWithInk_26 1 rfl ?_
          refine r_aload_n hC hl dX2_firstWithInk_27 2 rfl ?_
          refine g_sc (k1 := k) (v := .int (J (S k 1))) hC hI (by omega) 1 (by decide) fl_RX2_13 rfl rfl dX2_firstWithInk_28 ?_
          refine r_aload_n hC hl dX2_firstWithInk_31 2 rfl ?_
          refine r_iload hC hl dX2_firstWithInk_32 0 rfl ?_
          refine r_cVi hC hI hl [.int (J (q : Int))] [.int (J (S k 1)), .int (J (S k 2 + S k 1 * sumF (dkF (S k)) q))] (c_X2_darkOn l X a B S k q (by omega) (by omega) (by omega)) ml_RX2_74 ev_X2_darkOn (rc_sc (S := S) hC hI (by omega)) ⟨Nat.le_of_ble_eq_true rfl, Nat.le_of_ble_eq_true rfl⟩ ⟨Nat.zero_le _, Nat.zero_le _⟩ (Nat.le_of_ble_eq_true rfl) rfl dX2_firstWithInk_34 (fun H locs hI => ?_)
          refine r_imul hC dX2_firstWithInk_37 ?_
          refine r_iadd hC dX2_firstWithInk_38 ?_
          refine r_istore_n (lv1 := [(3, .int (J ((S k 2 + S k 1 * sumF (dkF (S k)) q) + ((S k 1) * (dkF (S k) q))))), (4, .int (J (q : Int))), (0, .ref (a (2 + k))), (1, .int (J v)), (2, .int (J (mo : Int)))]) hC hl dX2_firstWithInk_39 3 rfl (by decide) rfl (fun ls hl => ?_)
          refine r_iinc (lv1 := [(4, .int (J ((q : Int) + 1))), (3, .int (J ((S k 2 + S k 1 * sumF (dkF (S k)) q) + ((S k 1) * (dkF (S k) q))))), (0, .ref (a (2 + k))), (1, .int (J v)), (2, .int (J (mo : Int)))]) hC hl dX2_firstWithInk_40 1 rfl (by decide) rfl (fun ls hl => ?_)
          refine r_goto (tgt := 8) hC dX2_firstWithInk_43 (by decide) ?_
          have hf2 : fsF (fun j => decide (v ≤ iwF (S k) (S k 2 + S k 1 * sumF (dkF (S k)) j))) ((mo + 1) - (q + 1)) (q + 1) = fsF (fun j => decide (v ≤ iwF (S k) (S k 2 + S k 1 * sumF (dkF (S k)) j))) (mo + 1) 0 := by
            rw [← hf, show (mo + 1) - q = ((mo + 1) - (q + 1)) + 1 by omega, fs_f (by simp only [decide_eq_true_eq]; omega)]
          exact ih8 (q + 1) ((q : Int) + 1) ((S k 2 + S k 1 * sumF (dkF (S k)) q) + ((S k 1) * (dkF (S k) q))) (by omega) (by omega) (by show _ = S k 2 + S k 1 * (sumF (dkF (S k)) q + dkF (S k) q); rw [Int.mul_add, Int.add_assoc]) (by omega) hf2 _ _ _ hI (lv_sub hl [0, 1, 2, 3, 4] rfl)
        · skip
          refine r_iload hC hl dX2_firstWithInk_23 0 rfl ?_
          exact r_iret hC hr hlk hI (by rw [← hf, show (mo + 1) - q = ((mo + 1) - (q + 1)) + 1 by omega, fs_t (by simp only [decide_eq_true_eq]; omega)]) (rfl) dX2_firstWithInk_25
  exact hL8 _ 0 0 (S k 2) (Nat.lt_succ_self _) (by omega) (by show _ = S k 2 + S k 1 * 0; rw [Int.mul_zero, Int.add_zero]) (by omega) rfl _ _ _ hI (lv_sub hl [0, 1, 2, 3, 4] rfl)

set_option maxHeartbeats 4000000 in
set_option maxRecDepth 100000 in
theorem c_X2_fewestBrothers (l : Launch) (X : XT) (a : Nat → Nat) (B : Nat) (S : St) (k : Nat) (n : Nat) (v : Int) (hk : k < 3) (hV : VR 9999 (S k)) (hn : n ≤ 300) (hv : 0 ≤ v ∧ v ≤ 999) : CT l X a B 3 yX2_fewestBrothers cX2_fewestBrothers 5 (some .int) [.ref (a (2 + k)), .int (J (n : Int)), .int (J v)] S (Qi X a B (fsF (fun j => decide (v ≤ iwF (S k) (S k 2 + (j : Int) * sumF (dkF (S k)) n))) 10 0) (S)) := by
  refine CT.of (by decide +kernel) (Nat.le_of_ble_eq_true rfl) ?_
  intro p e s m below meth c ls hC hr hlk hI hl
  have hC : Cx p c cX2_fewestBrothers 5 s m [.ref (a (2 + k)), .int (J (n : Int)), .int (J v)].toArray RX2 X B := hC
  have hl : lv_has ls 5 [(0, .ref (a (2 + k))), (1, .int (J (n : Int))), (2, .int (J v))] := hl
  obtain ⟨⟨hN, hBr, hBu, hIn, hLa, hPc⟩, hDk, hPg⟩ := id hV
  refine r_aload_n hC hl dX2_fewestBrothers_0 0 rfl ?_
  refine r_iload_n hC hl dX2_fewestBrothers_1 1 rfl ?_
  refine r_cVi hC hI hl [.int (J (n : Int))] [] (c_X2_darkTogether l X a B S k n (by omega) hV (by omega)) ml_RX2_95 ev_X2_darkTogether (rc_sc (S := S) hC hI (by omega)) ⟨Nat.le_of_ble_eq_true rfl, Nat.le_of_ble_eq_true rfl⟩ ⟨Nat.zero_le _, Nat.zero_le _⟩ (Nat.le_of_ble_eq_true rfl) rfl dX2_fewestBrothers_2 (fun H locs hI => ?_)
  refine r_istore_n (lv1 := [(3, .int (J (sumF (dkF (S k)) n))), (0, .ref (a (2 + k))), (1, .int (J (n : Int))), (2, .int (J v))]) hC hl dX2_fewestBrothers_5 3 rfl (by decide) rfl (fun ls hl => ?_)
  refine r_iconst hC dX2_fewestBrothers_6 ?_
  refine r_istore (lv1 := [(4, .int (J 0)), (3, .int (J (sumF (dkF (S k)) n))), (0, .ref (a (2 + k))), (1, .int (J (n : Int))), (2, .int (J v))]) hC hl dX2_fewestBrothers_7 (by decide) rfl (fun ls hl => ?_)
  have hL9 : ∀ (fu : Nat) (q : Nat) (x4 : Int), 10 - q < fu → (x4 = (q : Int)) → (q ≤ 10) → (fsF (fun j => decide (v ≤ iwF (S k) (S k 2 + (j : Int) * sumF (dkF (S k)) n))) (10 - q) q = fsF (fun j => decide (v ≤ iwF (S k) (S k 2 + (j : Int) * sumF (dkF (S k)) n))) 10 0) → ∀ (H : Heap) (locs : List Loc) (ls : Array Slot), IS X a B s (S) H locs → lv_has ls 5 [(4, .int (J x4)), (3, .int (J (sumF (dkF (S k)) n))), (0, .ref (a (2 + k))), (1, .int (J (n : Int))), (2, .int (J v))] → W p l e (rmD 3) s m [.ref (a (2 + k)), .int (J (n : Int)), .int (J v)].toArray below meth c H locs 0 0 (MQ below (Qi X a B (fsF (fun j => decide (v ≤ iwF (S k) (S k 2 + (j : Int) * sumF (dkF (S k)) n))) 10 0) (S)) [.ref (a (2 + k)), .int (J (n : Int)), .int (J v)].toArray s 0 0 (fun q => B ≤ q)) (F0 m 9 ls []) := by
    intro fu
    induction fu with
    | zero => intro q x4 hm; exact absurd hm (Nat.not_lt_zero _)
    | succ fu ih9 =>
      intro q x4 hm e4 hq hf H locs ls hI hl
      subst e4
      refine r_iload hC hl dX2_fewestBrothers_9 0 rfl ?_
      refine r_bipush hC (by decide) dX2_fewestBrothers_11 ?_
      refine r_icmp_gt (tgt := 42) hC (by omega) (by omega) dX2_fewestBrothers_13 (by decide) (fun c_1 => ?_) (fun c_1 => ?_)
      · skip
        refine r_iconst hC dX2_fewestBrothers_42 ?_
        exact r_iret hC hr hlk hI (by rw [← hf, show 10 - q = 0 by omega]; rfl) (rfl) dX2_fewestBrothers_43
      · skip
        have hbw := bw_rg hV (w := (q : Int)) (by omega) hn
        have hiw := iw_rg hV hbw
        refine r_aload_n hC hl dX2_fewestBrothers_16 2 rfl ?_
        refine r_aload_n hC hl dX2_fewestBrothers_17 2 rfl ?_
        refine g_sc (k1 := k) (v := .int (J (S k 2))) hC hI (by omega) 2 (by decide) fl_RX2_16 rfl rfl dX2_fewestBrothers_18 ?_
        refine r_iload hC hl dX2_fewestBrothers_21 0 rfl ?_
        refine r_iload_n hC hl dX2_fewestBrothers_23 1 rfl ?_
        refine r_imul hC dX2_fewestBrothers_24 ?_
        refine r_iadd hC dX2_fewestBrothers_25 ?_
        refine r_cVi hC hI hl [.int (J ((S k 2) + ((q : Int) * (sumF (dkF (S k)) n))))] [] (c_X2_inkWith l X a B S k ((S k 2) + ((q : Int) * (sumF (dkF (S k)) n))) (by omega) (by omega) (by omega)) ml_RX2_98 ev_X2_inkWith (rc_sc (S := S) hC hI (by omega)) ⟨Nat.le_of_ble_eq_true rfl, Nat.le_of_ble_eq_true rfl⟩ ⟨Nat.zero_le _, Nat.zero_le _⟩ (Nat.le_of_ble_eq_true rfl) rfl dX2_fewestBrothers_26 (fun H locs hI => ?_)
        refine r_iload_n hC hl dX2_fewestBrothers_29 4 rfl ?_
        refine r_icmp_lt (tgt := 36) hC (by omega) (by omega) dX2_fewestBrothers_30 (by decide) (fun c_2 => ?_) (fun c_2 => ?_)
        · skip
          refine r_iinc (lv1 := [(4, .int (J ((q : Int) + 1))), (3, .int (J (sumF (dkF (S k)) n))), (0, .ref (a (2 + k))), (1, .int (J (n : Int))), (2, .int (J v))]) hC hl dX2_fewestBrothers_36 0 rfl (by decide) rfl (fun ls hl => ?_)
          refine r_goto (tgt := 9) hC dX2_fewestBrothers_39 (by decide) ?_
          have hf2 : fsF (fun j => decide (v ≤ iwF (S k) (S k 2 + (j : Int) * sumF (dkF (S k)) n))) (10 - (q + 1)) (q + 1) = fsF (fun j => decide (v ≤ iwF (S k) (S k 2 + (j : Int) * sumF (dkF (S k)) n))) 10 0 := by
            rw [← hf, show 10 - q = (10 - (q + 1)) + 1 by omega, fs_f (by simp only [decide_eq_true_eq]; omega)]
          exact ih9 (q + 1) ((q : Int) + 1) (by omega) (by omega) (by omega) hf2 _ _ _ hI (lv_sub hl [0, 1, 2, 3, 4] rfl)
        · skip
          refine r_iload hC hl dX2_fewestBrothers_33 0 rfl ?_
          exact r_iret hC hr hlk hI (by rw [← hf, show 10 - q = (10 - (q + 1)) + 1 by omega, fs_t (by simp only [decide_eq_true_eq]; omega)]) (rfl) dX2_fewestBrothers_35
  exact hL9 _ 0 0 (Nat.lt_succ_self _) (by omega) (by omega) rfl _ _ _ hI (lv_sub hl [0, 1, 2, 3, 4] rfl)

set_option maxHeartbeats 4000000 in
set_option maxRecDepth 100000 in
theorem c_X2_leastLamp (l : Launch) (X : XT) (a : Nat → Nat) (B : Nat) (S : St) (k : Nat) (n : Int) (v : Int) (hk : k < 3) (hV : VR 9999 (S k)) (hn : 0 ≤ n ∧ n ≤ 300) (hv : 0 ≤ v ∧ v ≤ 9999) : CT l X a B 5 yX2_leastLamp cX2_leastLamp 4 (some .int) [.ref (a (2 + k)), .int (J n), .int (J v)] S (Qi X a B (fsF (fun j => decide (v ≤ sumF (fun i => blP (S k) i n (j : Int)) (S k 5).toNat)) 10 0) (S)) := by
  refine CT.of (by decide +kernel) (Nat.le_of_ble_eq_true rfl) ?_
  intro p e s m below meth c ls hC hr hlk hI hl
  have hC : Cx p c cX2_leastLamp 4 s m [.ref (a (2 + k)), .int (J n), .int (J v)].toArray RX2 X B := hC
  have hl : lv_has ls 4 [(0, .ref (a (2 + k))), (1, .int (J n)), (2, .int (J v))] := hl
  obtain ⟨⟨hN, hBr, hBu, hIn, hLa, hPc⟩, hDk, hPg⟩ := id hV
  refine r_iconst hC dX2_leastLamp_0 ?_
  refine r_istore_n (lv1 := [(3, .int (J 0)), (0, .ref (a (2 + k))), (1, .int (J n)), (2, .int (J v))]) hC hl dX2_leastLamp_1 3 rfl (by decide) rfl (fun ls hl => ?_)
  have hL2 : ∀ (fu : Nat) (q : Nat) (x3 : Int), 10 - q < fu → (x3 = (q : Int)) → (q ≤ 10) → (fsF (fun j => decide (v ≤ sumF (fun i => blP (S k) i n (j : Int)) (S k 5).toNat)) (10 - q) q = fsF (fun j => decide (v ≤ sumF (fun i => blP (S k) i n (j : Int)) (S k 5).toNat)) 10 0) → ∀ (H : Heap) (locs : List Loc) (ls : Array Slot), IS X a B s (S) H locs → lv_has ls 4 [(3, .int (J x3)), (0, .ref (a (2 + k))), (1, .int (J n)), (2, .int (J v))] → W p l e (rmD 5) s m [.ref (a (2 + k)), .int (J n), .int (J v)].toArray below meth c H locs 0 0 (MQ below (Qi X a B (fsF (fun j => decide (v ≤ sumF (fun i => blP (S k) i n (j : Int)) (S k 5).toNat)) 10 0) (S)) [.ref (a (2 + k)), .int (J n), .int (J v)].toArray s 0 0 (fun q => B ≤ q)) (F0 m 2 ls []) := by
    intro fu
    induction fu with
    | zero => intro q x3 hm; exact absurd hm (Nat.not_lt_zero _)
    | succ fu ih2 =>
      intro q x3 hm e3 hq hf H locs ls hI hl
      subst e3
      refine r_iload_n hC hl dX2_leastLamp_2 0 rfl ?_
      refine r_bipush hC (by decide) dX2_leastLamp_3 ?_
      refine r_icmp_gt (tgt := 26) hC (by omega) (by omega) dX2_leastLamp_5 (by decide) (fun c_1 => ?_) (fun c_1 => ?_)
      · skip
        refine r_iconst hC dX2_leastLamp_26 ?_
        exact r_iret hC hr hlk hI (by rw [← hf, show 10 - q = 0 by omega]; rfl) (rfl) dX2_leastLamp_27
      · skip
        have hbt := bt_rg hV (n := n) (w := (q : Int)) hn (by omega) (c := (S k 5).toNat) (by omega)
        refine r_aload_n hC hl dX2_leastLamp_8 1 rfl ?_
        refine r_iload_n hC hl dX2_leastLamp_9 2 rfl ?_
        refine r_iload_n hC hl dX2_leastLamp_10 0 rfl ?_
        refine r_cVi hC hI hl [.int (J n), .int (J (q : Int))] [] (c_X2_believedTogether l X a B S k n (q : Int) (by omega) hV (by omega) (by omega)) ml_RX2_110 ev_X2_believedTogether (rc_sc (S := S) hC hI (by omega)) ⟨Nat.le_of_ble_eq_true rfl, Nat.le_of_ble_eq_true rfl⟩ ⟨Nat.zero_le _, Nat.zero_le _⟩ (Nat.le_of_ble_eq_true rfl) rfl dX2_leastLamp_11 (fun H locs hI => ?_)
        refine r_iload_n hC hl dX2_leastLamp_14 3 rfl ?_
        refine r_icmp_lt (tgt := 20) hC (by omega) (by omega) dX2_leastLamp_15 (by decide) (fun c_2 => ?_) (fun c_2 => ?_)
        · skip
          refine r_iinc (lv1 := [(3, .int (J ((q : Int) + 1))), (0, .ref (a (2 + k))), (1, .int (J n)), (2, .int (J v))]) hC hl dX2_leastLamp_20 0 rfl (by decide) rfl (fun ls hl => ?_)
          refine r_goto (tgt := 2) hC dX2_leastLamp_23 (by decide) ?_
          have hf2 : fsF (fun j => decide (v ≤ sumF (fun i => blP (S k) i n (j : Int)) (S k 5).toNat)) (10 - (q + 1)) (q + 1) = fsF (fun j => decide (v ≤ sumF (fun i => blP (S k) i n (j : Int)) (S k 5).toNat)) 10 0 := by
            rw [← hf, show 10 - q = (10 - (q + 1)) + 1 by omega, fs_f (by simp only [decide_eq_true_eq]; omega)]
          exact ih2 (q + 1) ((q : Int) + 1) (by omega) (by omega) (by omega) hf2 _ _ _ hI (lv_sub hl [0, 1, 2, 3] rfl)
        · skip
          refine r_iload_n hC hl dX2_leastLamp_18 0 rfl ?_
          exact r_iret hC hr hlk hI (by rw [← hf, show 10 - q = (10 - (q + 1)) + 1 by omega, fs_t (by simp only [decide_eq_true_eq]; omega)]) (rfl) dX2_leastLamp_19
  exact hL2 _ 0 0 (Nat.lt_succ_self _) (by omega) (by omega) rfl _ _ _ hI (lv_sub hl [0, 1, 2, 3] rfl)
