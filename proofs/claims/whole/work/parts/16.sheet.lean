section R16
variable {p : Program} {l : Launch} {e : Env} {R : Room} {s : State} {m : MethodId} {args : Array Value} {below : List Frame} {meth : Method} {c : Code} {H : Heap} {locs : List Loc} {cells slots : Nat} {Q : State → Prop}
variable {cc : ByteArray} {nL pc : Nat} {own : String} {ls : Array Slot} {rest st : List Value} {X : XT} {a : Nat → Nat} {B : Nat} {S S' : St} {lv : List (Nat × Value)}
theorem r_ldcw (hC : Cx p c cc nL s m args own X B) {index : Nat} {v : Int32} (hw : Cond.constant own index v ∈ TB) {x : Int} (hv : v = J x) (hdg : decode cc pc = .ok (.ldc_w index, 3)) (k : W p l e R s m args below meth c H locs cells slots Q (F0 m (pc + 3) ls (.int (J x) :: rest))) : W p l e R s m args below meth c H locs cells slots Q (F0 m pc ls rest) := by subst hv; exact lv_ldcw hC.1 hC.2.1 hC.2.2.2.1 (hC.2.2.2.2.1 _ hw) hdg k
end R16
def lbF (bt v : Int) : Int := if bt = 8 then (Int8.ofInt v).toInt else if bt = 16 then (Int16.ofInt v).toInt else v
theorem i8_rg (x : Int) : -128 ≤ (Int8.ofInt x).toInt ∧ (Int8.ofInt x).toInt ≤ 127 := by
  have h1 := (Int8.ofInt x).toInt_lt
  have h2 := (Int8.ofInt x).le_toInt
  omega
theorem i16_rg (x : Int) : -32768 ≤ (Int16.ofInt x).toInt ∧ (Int16.ofInt x).toInt ≤ 32767 := by
  have h1 := (Int16.ofInt x).toInt_lt
  have h2 := (Int16.ofInt x).le_toInt
  omega
def flF (v : Int) (O : Nat → Int) (q : Nat) : Nat → Int := fun j => if j < q then v else O j
theorem fl_up (v : Int) (O : Nat → Int) (q : Nat) : upR (flF v O q) q v = flF v O (q + 1) := by
  funext j
  unfold upR flF
  (repeat' split) <;> first | rfl | omega

set_option maxHeartbeats 4000000 in
set_option maxRecDepth 100000 in
theorem c_J7_fill_d0a16 (l : Launch) (X : XT) (a : Nat → Nat) (B : Nat) (S : St) (t : Nat) (v : Int) (ht : t < 4) : CT l X a B 0 yJ7_fill_d0a16 cJ7_fill_d0a16 5 none [.ref (a (21 + t)), .long (JL v)] S (Qv X a B (setB S (12 + t) (flF v (S (12 + t)) 40))) := by
  refine CT.of (by decide +kernel) (Nat.le_of_ble_eq_true rfl) ?_
  intro p e s m below meth c ls hC hr hlk hI hl
  have hC : Cx p c cJ7_fill_d0a16 5 s m [.ref (a (21 + t)), .long (JL v)].toArray RJ7 X B := hC
  have hl : lv_has ls 5 [(0, .ref (a (21 + t))), (1, .long (JL v))] := hl
  refine r_iconst hC dJ7_fill_d0a16_0 ?_
  refine r_istore_n (lv1 := [(3, .int (J 0)), (0, .ref (a (21 + t))), (1, .long (JL v))]) hC hl dJ7_fill_d0a16_1 3 rfl (by decide) rfl (fun ls hl => ?_)
  refine r_aload_n hC hl dJ7_fill_d0a16_2 1 rfl ?_
  refine va_alen (v := J 40) hC.1 hC.2.1 hC.2.2.2.2.2.1.1 hI.1 (21 + t) 1 (ws_at (by omega) (ce_nu X a _ (by omega))) rfl rfl dJ7_fill_d0a16_3 ?_
  refine r_istore (lv1 := [(4, .int (J 40)), (3, .int (J 0)), (0, .ref (a (21 + t))), (1, .long (JL v))]) hC hl dJ7_fill_d0a16_4 (by decide) rfl (fun ls hl => ?_)
  have hL6 : ∀ (fu : Nat) (q : Nat) (T : St) (x3 : Int), 40 - q < fu → (x3 = (q : Int)) → (q ≤ 40) → (T = setB S (12 + t) (flF v (S (12 + t)) q)) → ∀ (H : Heap) (locs : List Loc) (ls : Array Slot), IS X a B s (T) H locs → lv_has ls 5 [(4, .int (J 40)), (3, .int (J x3)), (0, .ref (a (21 + t))), (1, .long (JL v))] → W p l e (rmD 0) s m [.ref (a (21 + t)), .long (JL v)].toArray below meth c H locs 0 0 (MQ below (Qv X a B (setB S (12 + t) (flF v (S (12 + t)) 40))) [.ref (a (21 + t)), .long (JL v)].toArray s 0 0 (fun q => B ≤ q)) (F0 m 6 ls []) := by
    intro fu
    induction fu with
    | zero => intro q T x3 hm; exact absurd hm (Nat.not_lt_zero _)
    | succ fu ih6 =>
      intro q T x3 hm e3 hq hT H locs ls hI hl
      subst e3
      refine r_iload_n hC hl dJ7_fill_d0a16_6 1 rfl ?_
      refine r_iload hC hl dJ7_fill_d0a16_7 0 rfl ?_
      refine r_icmp_ge (tgt := 22) hC (by omega) (by omega) dJ7_fill_d0a16_9 (by decide) (fun c_1 => ?_) (fun c_1 => ?_)
      · skip
        exact r_vret hC hr hlk hI (by rw [hT, show q = 40 by omega]) dJ7_fill_d0a16_22
      · skip
        refine r_aload_n hC hl dJ7_fill_d0a16_12 2 rfl ?_
        refine r_iload_n hC hl dJ7_fill_d0a16_13 1 rfl ?_
        refine r_lload_n hC hl dJ7_fill_d0a16_14 3 rfl ?_
        refine r_last (cx := 21 + t) (n := 40) (F := fun S => S (12 + t)) hC hI (by omega) (fun S => ce_nu X a S (by omega)) (by decide) (q) (by omega) (by omega) (b := 12 + t) (j := q) (ow_nu (by omega)) (fun q => by simp [up, setB, upR]) dJ7_fill_d0a16_15 (fun H locs hI => ?_)
        refine r_iinc (lv1 := [(3, .int (J ((q : Int) + 1))), (4, .int (J 40)), (0, .ref (a (21 + t))), (1, .long (JL v))]) hC hl dJ7_fill_d0a16_16 1 rfl (by decide) rfl (fun ls hl => ?_)
        refine r_goto (tgt := 6) hC dJ7_fill_d0a16_19 (by decide) ?_
        exact ih6 (q + 1) (up T (12 + t) q v) ((q : Int) + 1) (by omega) (by omega) (by omega) (by rw [hT, up_set]; exact congrArg _ (fl_up v (S (12 + t)) q)) _ _ _ hI (lv_sub hl [1, 0, 2, 3] rfl)
  exact hL6 _ 0 S 0 (Nat.lt_succ_self _) (by omega) (by omega) (by rw [show flF v (S (12 + t)) 0 = S (12 + t) from funext fun j => if_neg (Nat.not_lt_zero j), setB_self]) _ _ _ hI (lv_sub hl [0, 1, 2, 3] rfl)

set_option maxHeartbeats 4000000 in
set_option maxRecDepth 100000 in
theorem c_X3_isMissing (l : Launch) (X : XT) (a : Nat → Nat) (B : Nat) (S : St) (t : Nat) (ht : t < 4) (hb4 : S 6 t = 0 ∨ S 6 t = 8 ∨ S 6 t = 16 ∨ S 6 t = 64) : CT l X a B 0 yX3_isMissing cX3_isMissing 1 (some .boolean) [.ref (a (17 + t))] S (Qi X a B (bI (S 6 t = 0)) (S)) := by
  refine CT.of (by decide +kernel) (Nat.le_of_ble_eq_true rfl) ?_
  intro p e s m below meth c ls hC hr hlk hI hl
  have hC : Cx p c cX3_isMissing 1 s m [.ref (a (17 + t))].toArray RX3 X B := hC
  have hl : lv_has ls 1 [(0, .ref (a (17 + t)))] := hl
  refine r_aload_n hC hl dX3_isMissing_0 0 rfl ?_
  refine g_sh (i := t) (v := .int (J (S 6 t))) hC hI (by omega) 0 (by decide) fl_RX3_7 rfl rfl dX3_isMissing_1 ?_
  refine r_if_ne (tgt := 11) hC (by omega) dX3_isMissing_4 (by decide) (fun c_1 => ?_) (fun c_1 => ?_)
  · skip
    refine r_iconst hC dX3_isMissing_11 ?_
    exact r_zret hC hr hlk hI (by decide) ((bI_f (by omega)).symm) (rfl) dX3_isMissing_12
  · skip
    refine r_iconst hC dX3_isMissing_7 ?_
    refine r_goto (tgt := 12) hC dX3_isMissing_8 (by decide) ?_
    exact r_zret hC hr hlk hI (by decide) ((bI_t (by omega)).symm) (rfl) dX3_isMissing_12

set_option maxHeartbeats 4000000 in
set_option maxRecDepth 100000 in
theorem c_X3_mayHaveBits (l : Launch) (X : XT) (a : Nat → Nat) (B : Nat) (S : St) (w : Int) (hw : -2147483648 ≤ w ∧ w ≤ 2147483647) : CT l X a B 0 yX3_mayHaveBits cX3_mayHaveBits 1 (some .boolean) [.int (J w)] S (Qi X a B (bI (w = 0 ∨ w = 8 ∨ w = 16 ∨ w = 64)) (S)) := by
  refine CT.of (by decide +kernel) (Nat.le_of_ble_eq_true rfl) ?_
  intro p e s m below meth c ls hC hr hlk hI hl
  have hC : Cx p c cX3_mayHaveBits 1 s m [.int (J w)].toArray RX3 X B := hC
  have hl : lv_has ls 1 [(0, .int (J w))] := hl
  refine r_iload_n hC hl dX3_mayHaveBits_0 0 rfl ?_
  refine r_if_eq (tgt := 22) hC (by omega) dX3_mayHaveBits_1 (by decide) (fun c_1 => ?_) (fun c_1 => ?_)
  · skip
    refine r_iconst hC dX3_mayHaveBits_22 ?_
    refine r_goto (tgt := 27) hC dX3_mayHaveBits_23 (by decide) ?_
    exact r_zret hC hr hlk hI (by decide) ((bI_t (by omega)).symm) (rfl) dX3_mayHaveBits_27
  · skip
    refine r_iload_n hC hl dX3_mayHaveBits_4 0 rfl ?_
    refine r_bipush hC (by decide) dX3_mayHaveBits_5 ?_
    refine r_icmp_eq (tgt := 22) hC (by omega) (by omega) dX3_mayHaveBits_7 (by decide) (fun c_2 => ?_) (fun c_2 => ?_)
    · skip
      refine r_iconst hC dX3_mayHaveBits_22 ?_
      refine r_goto (tgt := 27) hC dX3_mayHaveBits_23 (by decide) ?_
      exact r_zret hC hr hlk hI (by decide) ((bI_t (by omega)).symm) (rfl) dX3_mayHaveBits_27
    · skip
      refine r_iload_n hC hl dX3_mayHaveBits_10 0 rfl ?_
      refine r_bipush hC (by decide) dX3_mayHaveBits_11 ?_
      refine r_icmp_eq (tgt := 22) hC (by omega) (by omega) dX3_mayHaveBits_13 (by decide) (fun c_3 => ?_) (fun c_3 => ?_)
      · skip
        refine r_iconst hC dX3_mayHaveBits_22 ?_
        refine r_goto (tgt := 27) hC dX3_mayHaveBits_23 (by decide) ?_
        exact r_zret hC hr hlk hI (by decide) ((bI_t (by omega)).symm) (rfl) dX3_mayHaveBits_27
      · skip
        refine r_iload_n hC hl dX3_mayHaveBits_16 0 rfl ?_
        refine r_bipush hC (by decide) dX3_mayHaveBits_17 ?_
        refine r_icmp_ne (tgt := 26) hC (by omega) (by omega) dX3_mayHaveBits_19 (by decide) (fun c_4 => ?_) (fun c_4 => ?_)
        · skip
          refine r_iconst hC dX3_mayHaveBits_26 ?_
          exact r_zret hC hr hlk hI (by decide) ((bI_f (by omega)).symm) (rfl) dX3_mayHaveBits_27
        · skip
          refine r_iconst hC dX3_mayHaveBits_22 ?_
          refine r_goto (tgt := 27) hC dX3_mayHaveBits_23 (by decide) ?_
          exact r_zret hC hr hlk hI (by decide) ((bI_t (by omega)).symm) (rfl) dX3_mayHaveBits_27

set_option maxHeartbeats 4000000 in
set_option maxRecDepth 100000 in
theorem c_X3_hasRow (l : Launch) (X : XT) (a : Nat → Nat) (B : Nat) (S : St) (t : Nat) (f : Int) (n : Int) (ht : t < 4) (hlen : 0 ≤ S 7 t ∧ S 7 t ≤ 40) (hf : -2147483648 ≤ f ∧ f ≤ 2147483647) (hn : -2147483648 ≤ n ∧ n ≤ 2147483647) : CT l X a B 0 yX3_hasRow cX3_hasRow 3 (some .boolean) [.ref (a (17 + t)), .int (J f), .int (J n)] S (Qi X a B (bI (0 ≤ f ∧ 0 ≤ n ∧ f ≤ S 7 t - n)) (S)) := by
  refine CT.of (by decide +kernel) (Nat.le_of_ble_eq_true rfl) ?_
  intro p e s m below meth c ls hC hr hlk hI hl
  have hC : Cx p c cX3_hasRow 3 s m [.ref (a (17 + t)), .int (J f), .int (J n)].toArray RX3 X B := hC
  have hl : lv_has ls 3 [(0, .ref (a (17 + t))), (1, .int (J f)), (2, .int (J n))] := hl
  refine r_iload_n hC hl dX3_hasRow_0 1 rfl ?_
  refine r_if_lt (tgt := 22) hC (by omega) dX3_hasRow_1 (by decide) (fun c_1 => ?_) (fun c_1 => ?_)
  · skip
    refine r_iconst hC dX3_hasRow_22 ?_
    exact r_zret hC hr hlk hI (by decide) ((bI_f (by omega)).symm) (rfl) dX3_hasRow_23
  · skip
    refine r_iload_n hC hl dX3_hasRow_4 2 rfl ?_
    refine r_if_lt (tgt := 22) hC (by omega) dX3_hasRow_5 (by decide) (fun c_2 => ?_) (fun c_2 => ?_)
    · skip
      refine r_iconst hC dX3_hasRow_22 ?_
      exact r_zret hC hr hlk hI (by decide) ((bI_f (by omega)).symm) (rfl) dX3_hasRow_23
    · skip
      refine r_iload_n hC hl dX3_hasRow_8 1 rfl ?_
      refine r_aload_n hC hl dX3_hasRow_9 0 rfl ?_
      refine g_sh (i := t) (v := .int (J (S 7 t))) hC hI (by omega) 1 (by decide) fl_RX3_13 rfl rfl dX3_hasRow_10 ?_
      refine r_iload_n hC hl dX3_hasRow_13 2 rfl ?_
      refine r_isub hC dX3_hasRow_14 ?_
      refine r_icmp_gt (tgt := 22) hC (by omega) (by omega) dX3_hasRow_15 (by decide) (fun c_3 => ?_) (fun c_3 => ?_)
      · skip
        refine r_iconst hC dX3_hasRow_22 ?_
        exact r_zret hC hr hlk hI (by decide) ((bI_f (by omega)).symm) (rfl) dX3_hasRow_23
      · skip
        refine r_iconst hC dX3_hasRow_18 ?_
        refine r_goto (tgt := 23) hC dX3_hasRow_19 (by decide) ?_
        exact r_zret hC hr hlk hI (by decide) ((bI_t (by omega)).symm) (rfl) dX3_hasRow_23

set_option maxHeartbeats 4000000 in
set_option maxRecDepth 100000 in
theorem c_X3_lowestBits (l : Launch) (X : XT) (a : Nat → Nat) (B : Nat) (S : St) (t : Nat) (v : Int) (ht : t < 4) (hb4 : S 6 t = 0 ∨ S 6 t = 8 ∨ S 6 t = 16 ∨ S 6 t = 64) (hz : S 6 t ≠ 0) : CT l X a B 0 yX3_lowestBits cX3_lowestBits 3 (some .long) [.ref (a (17 + t)), .long (JL v)] S (Ql X a B (lbF (S 6 t) v) (S)) := by
  refine CT.of (by decide +kernel) (Nat.le_of_ble_eq_true rfl) ?_
  intro p e s m below meth c ls hC hr hlk hI hl
  have hC : Cx p c cX3_lowestBits 3 s m [.ref (a (17 + t)), .long (JL v)].toArray RX3 X B := hC
  have hl : lv_has ls 3 [(0, .ref (a (17 + t))), (1, .long (JL v))] := hl
  have hi8 := i8_rg v
  have hi16 := i16_rg v
  refine r_aload_n hC hl dX3_lowestBits_0 0 rfl ?_
  refine g_sh (i := t) (v := .int (J (S 6 t))) hC hI (by omega) 0 (by decide) fl_RX3_7 rfl rfl dX3_lowestBits_1 ?_
  by_cases c_1 : S 6 t = 8
  · refine r_look (tgt := 32) hC (by omega) dX3_lowestBits_4 (by decide) (by rw [c_1]) (by decide) ?_
    refine r_lload_n hC hl dX3_lowestBits_32 1 rfl ?_
    refine r_l2i hC dX3_lowestBits_33 ?_
    refine r_i2b hC dX3_lowestBits_34 ?_
    refine r_i2l hC (by omega) dX3_lowestBits_35 ?_
    exact r_lret hC hr hlk hI (by unfold lbF; (repeat' split) <;> first | rfl | omega) (rfl) dX3_lowestBits_36
  by_cases c_2 : S 6 t = 16
  · refine r_look (tgt := 37) hC (by omega) dX3_lowestBits_4 (by decide) (by rw [c_2]) (by decide) ?_
    refine r_lload_n hC hl dX3_lowestBits_37 1 rfl ?_
    refine r_l2i hC dX3_lowestBits_38 ?_
    refine r_i2s hC dX3_lowestBits_39 ?_
    refine r_i2l hC (by omega) dX3_lowestBits_40 ?_
    exact r_lret hC hr hlk hI (by unfold lbF; (repeat' split) <;> first | rfl | omega) (rfl) dX3_lowestBits_41
  have hdf : S 6 t = 64 := by omega
  refine r_look (tgt := 42) hC (by omega) dX3_lowestBits_4 (by decide) (by rw [hdf]) (by decide) ?_
  refine r_lload_n hC hl dX3_lowestBits_42 1 rfl ?_
  exact r_lret hC hr hlk hI (by unfold lbF; (repeat' split) <;> first | rfl | omega) (rfl) dX3_lowestBits_43

set_option maxHeartbeats 4000000 in
set_option maxRecDepth 100000 in
theorem c_X3_layOut (l : Launch) (X : XT) (a : Nat → Nat) (B : Nat) (S : St) (t : Nat) (w : Int) (n : Int) (ht : t < 4) (hw : -2147483648 ≤ w ∧ w ≤ 2147483647) : CT l X a B 1 yX3_layOut cX3_layOut 3 none [.ref (a (17 + t)), .int (J w), .int (J n)] S (Qv X a B (setB (up (up S 6 t w) 7 t (if w = 0 then 0 else n)) (12 + t) (flF 0 (S (12 + t)) 40))) := by
  refine CT.of (by decide +kernel) (Nat.le_of_ble_eq_true rfl) ?_
  intro p e s m below meth c ls hC hr hlk hI hl
  have hC : Cx p c cX3_layOut 3 s m [.ref (a (17 + t)), .int (J w), .int (J n)].toArray RX3 X B := hC
  have hl : lv_has ls 3 [(0, .ref (a (17 + t))), (1, .int (J w)), (2, .int (J n))] := hl
  refine r_aload_n hC hl dX3_layOut_0 0 rfl ?_
  refine r_iload_n hC hl dX3_layOut_1 1 rfl ?_
  refine p_sh0 (i := t) hC hI (by omega) fl_RX3_7 dX3_layOut_2 (fun H locs hI => ?_)
  refine r_aload_n hC hl dX3_layOut_5 0 rfl ?_
  refine r_iload_n hC hl dX3_layOut_6 1 rfl ?_
  refine r_if_ne (tgt := 14) hC (by omega) dX3_layOut_7 (by decide) (fun c_1 => ?_) (fun c_1 => ?_)
  · skip
    refine r_iload_n hC hl dX3_layOut_14 2 rfl ?_
    refine p_sh1 (i := t) hC hI (by omega) fl_RX3_13 dX3_layOut_15 (fun H locs hI => ?_)
    refine r_aload_n hC hl dX3_layOut_18 0 rfl ?_
    refine g_sh (i := t) (v := .ref (a (21 + t))) hC hI (by omega) 2 (by decide) fl_RX3_16 rfl rfl dX3_layOut_19 ?_
    refine r_lconst (x := 0) hC rfl dX3_layOut_22 ?_
    refine r_cSv hC hI hl [.ref (a (21 + t)), .long (JL 0)] [] (c_J7_fill_d0a16 l X a B (up (up S 6 t w) 7 t n) t 0 (by omega)) ml_RX3_20 es_J7_fill_d0a16 ⟨Nat.le_of_ble_eq_true rfl, Nat.le_of_ble_eq_true rfl⟩ ⟨Nat.zero_le _, Nat.zero_le _⟩ (Nat.le_of_ble_eq_true rfl) rfl dX3_layOut_23 (fun H locs hI => ?_)
    exact r_vret hC hr hlk hI (by first | rw [if_pos (by omega), up_nb _ _ (by omega), up_nb _ _ (by omega)] | rw [if_neg (by omega), up_nb _ _ (by omega), up_nb _ _ (by omega)]) dX3_layOut_26
  · skip
    refine r_iconst hC dX3_layOut_10 ?_
    refine r_goto (tgt := 15) hC dX3_layOut_11 (by decide) ?_
    refine p_sh1 (i := t) hC hI (by omega) fl_RX3_13 dX3_layOut_15 (fun H locs hI => ?_)
    refine r_aload_n hC hl dX3_layOut_18 0 rfl ?_
    refine g_sh (i := t) (v := .ref (a (21 + t))) hC hI (by omega) 2 (by decide) fl_RX3_16 rfl rfl dX3_layOut_19 ?_
    refine r_lconst (x := 0) hC rfl dX3_layOut_22 ?_
    refine r_cSv hC hI hl [.ref (a (21 + t)), .long (JL 0)] [] (c_J7_fill_d0a16 l X a B (up (up S 6 t w) 7 t 0) t 0 (by omega)) ml_RX3_20 es_J7_fill_d0a16 ⟨Nat.le_of_ble_eq_true rfl, Nat.le_of_ble_eq_true rfl⟩ ⟨Nat.zero_le _, Nat.zero_le _⟩ (Nat.le_of_ble_eq_true rfl) rfl dX3_layOut_23 (fun H locs hI => ?_)
    exact r_vret hC hr hlk hI (by first | rw [if_pos (by omega), up_nb _ _ (by omega), up_nb _ _ (by omega)] | rw [if_neg (by omega), up_nb _ _ (by omega), up_nb _ _ (by omega)]) dX3_layOut_26
