/-- the words' letters and lengths -/
def wB (i j : Nat) : Int := ((sByt.getD i []).getD j 0).toInt
def wL (i : Nat) : Nat := sLen.getD i 0
theorem wB_ok : ∀ i, i < 11 → ∀ j, j < sLen.getD i 0 → ((sByt.getD i []).getD j 0 &&& 255 = J (wB i j)) ∧ ((J (wB i j)).toUInt32 % 65536).toInt32 = J (wB i j) ∧ (J (wB i j)).toUInt32.toUInt16.toUInt32.toInt32 = J (wB i j) ∧ (97 ≤ wB i j ∧ wB i j ≤ 122) := by decide +kernel
theorem wL_rg : ∀ i, i < 11 → 3 ≤ wL i ∧ wL i ≤ 8 := by decide
theorem wL_j : ∀ i, i < 11 → Int32.ofNat (sLen.getD i 0) = J ((wL i : Nat) : Int) := by decide +kernel
theorem nar_c {x : Int} (h : (J x).toUInt32.toUInt16.toUInt32.toInt32 = J x) : narrow .char (.int (J x)) = .int (J x) := congrArg Value.int h
section R31
variable {p : Program} {l : Launch} {e : Env} {R : Room} {s : State} {m : MethodId} {args : Array Value} {below : List Frame} {meth : Method} {c : Code} {H : Heap} {locs : List Loc} {cells slots : Nat} {Q : State → Prop}
variable {cc : ByteArray} {nL pc : Nat} {own : String} {ls : Array Slot} {rest st : List Value} {X : XT} {a : Nat → Nat} {B : Nat} {S S' : St} {lv : List (Nat × Value)}
theorem r_nret (hC : Cx p c cc nL s m args own X B) {ty : FieldType} (hr : meth.sig.returnType = some ty) (hlk : meth.locks = false) (hI : IS X a B s S H locs) {x r : Int} (hn : narrow ty (.int (J x)) = .int (J x)) (er : x = r) (eS : S = S') (hdg : decode cc pc = .ok (.ireturn, 1)) : W p l e R s m args below meth c H locs cells slots (MQ below (Qi X a B r S') args s cells slots (fun q => B ≤ q)) (F0 m pc ls [.int (J x)]) := by
  subst er; subst eS
  exact W.zret (v := J x) hC.1 hC.2.1 hr hn (fun t ht hW => ⟨⟨J x, (), rfl, rfl, hI.iw hC ht hW⟩, hI.2.2.F ht⟩) hI.2.2.2.2 hdg hlk
theorem r_cst (hC : Cx p c cc nL s m args RJ0 X B) (hI : IS X a B s S H locs) (hdg : decode cc pc = .ok (.getstatic 38, 3)) (k : W p l e R s m args below meth c H locs cells slots Q (F0 m (pc + 3) ls (.int (J 1) :: rest))) : W p l e R s m args below meth c H locs cells slots Q (F0 m pc ls rest) := va_gets (v := .int (J 1)) hC.1 hC.2.1 hC.2.2.2.2.2.2.2.1 hI.2.2 hC.2.2.2.1 (hC.2.2.2.2.1 _ fl_RJ0_38) (fun _ h => h) hdg k
theorem r_cod (hC : Cx p c cc nL s m args RJ0 X B) (hI : IS X a B s S H locs) {i : Nat} (hi : i < 11) (hdg : decode cc pc = .ok (.getfield 15, 3)) (k : W p l e R s m args below meth c H locs cells slots Q (F0 m (pc + 3) ls (.int (J 0) :: rest))) : W p l e R s m args below meth c H locs cells slots Q (F0 m pc ls (.ref (X.2.2.1 i) :: rest)) := vk_getf (v := .int (J 0)) hC.1 hC.2.1 (hC.2.2.2.2.2.2.1.1 i hi).2.1 hI.2.2 hC.2.2.2.1 (hC.2.2.2.2.1 _ fl_RJ0_15) (fun _ h => h) hdg k
theorem r_val (hC : Cx p c cc nL s m args RJ0 X B) (hI : IS X a B s S H locs) {i : Nat} (hi : i < 11) (hdg : decode cc pc = .ok (.getfield 9, 3)) (k : W p l e R s m args below meth c H locs cells slots Q (F0 m (pc + 3) ls (.ref (X.2.2.2 i) :: rest))) : W p l e R s m args below meth c H locs cells slots Q (F0 m pc ls (.ref (X.2.2.1 i) :: rest)) := vk_getf (v := .ref (X.2.2.2 i)) hC.1 hC.2.1 (hC.2.2.2.2.2.2.1.1 i hi).2.2.1 hI.2.2 hC.2.2.2.1 (hC.2.2.2.2.1 _ fl_RJ0_9) (fun _ h => h) hdg k
theorem r_vlen (hC : Cx p c cc nL s m args own X B) (hI : IS X a B s S H locs) {i : Nat} (hi : i < 11) (hdg : decode cc pc = .ok (.arraylength, 1)) (k : W p l e R s m args below meth c H locs cells slots Q (F0 m (pc + 1) ls (.int (J ((wL i : Nat) : Int)) :: rest))) : W p l e R s m args below meth c H locs cells slots Q (F0 m pc ls (.ref (X.2.2.2 i) :: rest)) := va_tlen hC.1 hC.2.1 (hC.2.2.2.2.2.2.1.1 i hi).2.2.2 hI.2.2 (wL_j i hi) hdg k
theorem r_vbl (hC : Cx p c cc nL s m args own X B) (hI : IS X a B s S H locs) {i j : Nat} (hi : i < 11) (hj : j < wL i) (hdg : decode cc pc = .ok (.baload, 1)) (k : W p l e R s m args below meth c H locs cells slots Q (F0 m (pc + 1) ls (.int ((sByt.getD i []).getD j 0) :: rest))) : W p l e R s m args below meth c H locs cells slots Q (F0 m pc ls (.int (J (j : Int)) :: .ref (X.2.2.2 i) :: rest)) := va_tb hC.1 hC.2.1 (hC.2.2.2.2.2.2.1.1 i hi).2.2.2 hI.2.2 (J_in rfl hj (by have h : sLen.getD i 0 ≤ 8 := (wL_rg i hi).2; omega)) (by rw [J_cl (i := j) rfl (by have h : wL i ≤ 8 := (wL_rg i hi).2; omega)]) hdg k
theorem r_a255 (hC : Cx p c cc nL s m args own X B) {v : Int32} {x : Int} (e1 : v &&& 255 = J x) (hdg : decode cc pc = .ok (.iand, 1)) (k : W p l e R s m args below meth c H locs cells slots Q (F0 m (pc + 1) ls (.int (J x) :: rest))) : W p l e R s m args below meth c H locs cells slots Q (F0 m pc ls (.int (J 255) :: .int v :: rest)) := lv_iand hC.1 hC.2.1 hdg (by rw [show v &&& J 255 = J x from e1]; exact k)
theorem r_i2c (hC : Cx p c cc nL s m args own X B) {x : Int} (e1 : ((J x).toUInt32 % 65536).toInt32 = J x) (hdg : decode cc pc = .ok (.i2c, 1)) (k : W p l e R s m args below meth c H locs cells slots Q (F0 m (pc + 1) ls (.int (J x) :: rest))) : W p l e R s m args below meth c H locs cells slots Q (F0 m pc ls (.int (J x) :: rest)) := lv_i2c hC.1 hC.2.1 hdg e1 k
theorem r_ish0 (hC : Cx p c cc nL s m args own X B) {x : Int} (hdg : decode cc pc = .ok (.ishr, 1)) (k : W p l e R s m args below meth c H locs cells slots Q (F0 m (pc + 1) ls (.int (J x) :: rest))) : W p l e R s m args below meth c H locs cells slots Q (F0 m pc ls (.int (J 0) :: .int (J x) :: rest)) := lv_ishr hC.1 hC.2.1 hdg (by rw [show J 0 &&& (31 : Int32) = 0 from by decide, Int32.shiftRight_zero]; exact k)
end R31

set_option maxHeartbeats 4000000 in
set_option maxRecDepth 100000 in
theorem c_J0_coder_7d493 (l : Launch) (X : XT) (a : Nat → Nat) (B : Nat) (S : St) (i : Nat) (hi : i < 11) : CT l X a B 0 yJ0_coder_7d493 cJ0_coder_7d493 1 (some .byte) [.ref (X.2.2.1 i)] S (Qi X a B (0) (S)) := by
  refine CT.of (by decide +kernel) (Nat.le_of_ble_eq_true rfl) ?_
  intro p e s m below meth c ls hC hr hlk hI hl
  have hC : Cx p c cJ0_coder_7d493 1 s m [.ref (X.2.2.1 i)].toArray RJ0 X B := hC
  have hl : lv_has ls 1 [(0, .ref (X.2.2.1 i))] := hl
  refine r_cst hC hI dJ0_coder_7d493_0 ?_
  refine r_if_eq (tgt := 13) hC (by decide) dJ0_coder_7d493_3 (by decide) (fun z => absurd z (by decide)) (fun _ => ?_)
  refine r_aload_n hC hl dJ0_coder_7d493_6 0 rfl ?_
  refine r_cod hC hI hi dJ0_coder_7d493_7 ?_
  refine r_goto (tgt := 14) hC dJ0_coder_7d493_10 (by decide) ?_
  exact r_nret hC hr hlk hI (by decide) (rfl) (rfl) dJ0_coder_7d493_14

set_option maxHeartbeats 4000000 in
set_option maxRecDepth 100000 in
theorem c_J0_isLatin1_aae02 (l : Launch) (X : XT) (a : Nat → Nat) (B : Nat) (S : St) (i : Nat) (hi : i < 11) : CT l X a B 0 yJ0_isLatin1_aae02 cJ0_isLatin1_aae02 1 (some .boolean) [.ref (X.2.2.1 i)] S (Qi X a B (1) (S)) := by
  refine CT.of (by decide +kernel) (Nat.le_of_ble_eq_true rfl) ?_
  intro p e s m below meth c ls hC hr hlk hI hl
  have hC : Cx p c cJ0_isLatin1_aae02 1 s m [.ref (X.2.2.1 i)].toArray RJ0 X B := hC
  have hl : lv_has ls 1 [(0, .ref (X.2.2.1 i))] := hl
  refine r_cst hC hI dJ0_isLatin1_aae02_0 ?_
  refine r_if_eq (tgt := 17) hC (by decide) dJ0_isLatin1_aae02_3 (by decide) (fun z => absurd z (by decide)) (fun _ => ?_)
  refine r_aload_n hC hl dJ0_isLatin1_aae02_6 0 rfl ?_
  refine r_cod hC hI hi dJ0_isLatin1_aae02_7 ?_
  refine r_if_ne (tgt := 17) hC (by decide) dJ0_isLatin1_aae02_10 (by decide) (fun z => absurd z (by decide)) (fun _ => ?_)
  refine r_iconst hC dJ0_isLatin1_aae02_13 ?_
  refine r_goto (tgt := 18) hC dJ0_isLatin1_aae02_14 (by decide) ?_
  exact r_zret hC hr hlk hI (by decide) (rfl) (rfl) dJ0_isLatin1_aae02_18

set_option maxHeartbeats 4000000 in
set_option maxRecDepth 100000 in
theorem c_J0_length_8abf5 (l : Launch) (X : XT) (a : Nat → Nat) (B : Nat) (S : St) (i : Nat) (hi : i < 11) : CT l X a B 1 yJ0_length_8abf5 cJ0_length_8abf5 1 (some .int) [.ref (X.2.2.1 i)] S (Qi X a B (((wL i : Nat) : Int)) (S)) := by
  refine CT.of (by decide +kernel) (Nat.le_of_ble_eq_true rfl) ?_
  intro p e s m below meth c ls hC hr hlk hI hl
  have hC : Cx p c cJ0_length_8abf5 1 s m [.ref (X.2.2.1 i)].toArray RJ0 X B := hC
  have hl : lv_has ls 1 [(0, .ref (X.2.2.1 i))] := hl
  refine r_aload_n hC hl dJ0_length_8abf5_0 0 rfl ?_
  refine r_val hC hI hi dJ0_length_8abf5_1 ?_
  refine r_vlen hC hI hi dJ0_length_8abf5_4 ?_
  refine r_aload_n hC hl dJ0_length_8abf5_5 0 rfl ?_
  refine r_cVi hC hI hl [] [.int (J ((wL i) : Int))] (c_J0_coder_7d493 l X a B S i (by omega)) ml_RJ0_335 ev_J0_coder_7d493 (vk_recv hC.2.2.2.2.2.2.1 (by omega) hI.2.2) ⟨Nat.le_of_ble_eq_true rfl, Nat.le_of_ble_eq_true rfl⟩ ⟨Nat.zero_le _, Nat.zero_le _⟩ (Nat.le_of_ble_eq_true rfl) rfl dJ0_length_8abf5_6 (fun H locs hI => ?_)
  refine r_ish0 hC dJ0_length_8abf5_9 ?_
  exact r_iret hC hr hlk hI (rfl) (rfl) dJ0_length_8abf5_10

set_option maxHeartbeats 4000000 in
set_option maxRecDepth 100000 in
theorem c_J3_checkIndex0 (l : Launch) (X : XT) (a : Nat → Nat) (B : Nat) (S : St) (x : Int) (n : Int) (hx : 0 ≤ x ∧ x < n) (hn : n ≤ 1000) : CT l X a B 0 yJ3_checkIndex_8e157 cJ3_checkIndex_8e157 3 (some .int) [.int (J x), .int (J n), .null] S (Qi X a B (x) (S)) := by
  refine CT.of (by decide +kernel) (Nat.le_of_ble_eq_true rfl) ?_
  intro p e s m below meth c ls hC hr hlk hI hl
  have hC : Cx p c cJ3_checkIndex_8e157 3 s m [.int (J x), .int (J n), .null].toArray RJ3 X B := hC
  have hl : lv_has ls 3 [(0, .int (J x)), (1, .int (J n)), (2, .null)] := hl
  refine r_iload_n hC hl dJ3_checkIndex_8e157_0 0 rfl ?_
  refine r_if_lt (tgt := 9) hC (by omega) dJ3_checkIndex_8e157_1 (by decide) (fun c_1 => ?_) (fun c_1 => ?_)
  · skip
    exfalso; omega
  · skip
    refine r_iload_n hC hl dJ3_checkIndex_8e157_4 0 rfl ?_
    refine r_iload_n hC hl dJ3_checkIndex_8e157_5 1 rfl ?_
    refine r_icmp_lt (tgt := 16) hC (by omega) (by omega) dJ3_checkIndex_8e157_6 (by decide) (fun c_2 => ?_) (fun c_2 => ?_)
    · skip
      refine r_iload_n hC hl dJ3_checkIndex_8e157_16 0 rfl ?_
      exact r_iret hC hr hlk hI (rfl) (rfl) dJ3_checkIndex_8e157_17
    · skip
      exfalso; omega

set_option maxHeartbeats 4000000 in
set_option maxRecDepth 100000 in
theorem c_J3_checkIndexR (l : Launch) (X : XT) (a : Nat → Nat) (B : Nat) (S : St) (x : Int) (n : Int) (t : Nat) (hx : 0 ≤ x ∧ x < n) (hn : n ≤ 1000) : CT l X a B 0 yJ3_checkIndex_8e157 cJ3_checkIndex_8e157 3 (some .int) [.int (J x), .int (J n), .ref t] S (Qi X a B (x) (S)) := by
  refine CT.of (by decide +kernel) (Nat.le_of_ble_eq_true rfl) ?_
  intro p e s m below meth c ls hC hr hlk hI hl
  have hC : Cx p c cJ3_checkIndex_8e157 3 s m [.int (J x), .int (J n), .ref t].toArray RJ3 X B := hC
  have hl : lv_has ls 3 [(0, .int (J x)), (1, .int (J n)), (2, .ref t)] := hl
  refine r_iload_n hC hl dJ3_checkIndex_8e157_0 0 rfl ?_
  refine r_if_lt (tgt := 9) hC (by omega) dJ3_checkIndex_8e157_1 (by decide) (fun c_1 => ?_) (fun c_1 => ?_)
  · skip
    exfalso; omega
  · skip
    refine r_iload_n hC hl dJ3_checkIndex_8e157_4 0 rfl ?_
    refine r_iload_n hC hl dJ3_checkIndex_8e157_5 1 rfl ?_
    refine r_icmp_lt (tgt := 16) hC (by omega) (by omega) dJ3_checkIndex_8e157_6 (by decide) (fun c_2 => ?_) (fun c_2 => ?_)
    · skip
      refine r_iload_n hC hl dJ3_checkIndex_8e157_16 0 rfl ?_
      exact r_iret hC hr hlk hI (rfl) (rfl) dJ3_checkIndex_8e157_17
    · skip
      exfalso; omega

set_option maxHeartbeats 4000000 in
set_option maxRecDepth 100000 in
theorem c_J0_checkIndex_df160 (l : Launch) (X : XT) (a : Nat → Nat) (B : Nat) (S : St) (x : Int) (n : Int) (hx : 0 ≤ x ∧ x < n) (hn : n ≤ 1000) : CT l X a B 1 yJ0_checkIndex_df160 cJ0_checkIndex_df160 2 none [.int (J x), .int (J n)] S (Qv X a B (S)) := by
  refine CT.of (by decide +kernel) (Nat.le_of_ble_eq_true rfl) ?_
  intro p e s m below meth c ls hC hr hlk hI hl
  have hC : Cx p c cJ0_checkIndex_df160 2 s m [.int (J x), .int (J n)].toArray RJ0 X B := hC
  have hl : lv_has ls 2 [(0, .int (J x)), (1, .int (J n))] := hl
  refine r_iload_n hC hl dJ0_checkIndex_df160_0 0 rfl ?_
  refine r_iload_n hC hl dJ0_checkIndex_df160_1 1 rfl ?_
  rcases hC.2.2.2.2.2.2.2.2 with hz | ⟨tz, hz⟩
  · refine va_gets hC.1 hC.2.1 hz hI.2.2 hC.2.2.2.1 (hC.2.2.2.2.1 _ fl_RJ0_1053) (fun _ h => h) dJ0_checkIndex_df160_2 ?_
    refine r_cSi hC hI hl [.int (J x), .int (J n), .null] [] (c_J3_checkIndex0 l X a B S x n (by omega) (by omega)) ml_RJ0_1059 es_J3_checkIndex_8e157 ⟨Nat.le_of_ble_eq_true rfl, Nat.le_of_ble_eq_true rfl⟩ ⟨Nat.zero_le _, Nat.zero_le _⟩ (Nat.le_of_ble_eq_true rfl) rfl dJ0_checkIndex_df160_5 (fun H locs hI => ?_)
    refine r_pop hC rfl dJ0_checkIndex_df160_8 ?_
    exact r_vret hC hr hlk hI (rfl) dJ0_checkIndex_df160_9
  refine va_gets hC.1 hC.2.1 hz hI.2.2 hC.2.2.2.1 (hC.2.2.2.2.1 _ fl_RJ0_1053) (fun _ h => h) dJ0_checkIndex_df160_2 ?_
  refine r_cSi hC hI hl [.int (J x), .int (J n), .ref tz] [] (c_J3_checkIndexR l X a B S x n tz (by omega) (by omega)) ml_RJ0_1059 es_J3_checkIndex_8e157 ⟨Nat.le_of_ble_eq_true rfl, Nat.le_of_ble_eq_true rfl⟩ ⟨Nat.zero_le _, Nat.zero_le _⟩ (Nat.le_of_ble_eq_true rfl) rfl dJ0_checkIndex_df160_5 (fun H locs hI => ?_)
  refine r_pop hC rfl dJ0_checkIndex_df160_8 ?_
  exact r_vret hC hr hlk hI (rfl) dJ0_checkIndex_df160_9

set_option maxHeartbeats 4000000 in
set_option maxRecDepth 100000 in
theorem c_J1_charAt_3b067 (l : Launch) (X : XT) (a : Nat → Nat) (B : Nat) (S : St) (i : Nat) (j : Nat) (hi : i < 11) (hj : j < wL i) : CT l X a B 2 yJ1_charAt_3b067 cJ1_charAt_3b067 2 (some .char) [.ref (X.2.2.2 i), .int (J (j : Int))] S (Qi X a B (wB i j) (S)) := by
  refine CT.of (by decide +kernel) (Nat.le_of_ble_eq_true rfl) ?_
  intro p e s m below meth c ls hC hr hlk hI hl
  have hC : Cx p c cJ1_charAt_3b067 2 s m [.ref (X.2.2.2 i), .int (J (j : Int))].toArray RJ1 X B := hC
  have hl : lv_has ls 2 [(0, .ref (X.2.2.2 i)), (1, .int (J (j : Int)))] := hl
  have hw := wL_rg i hi
  obtain ⟨hk1, hk2, hk3, hk4⟩ := wB_ok i hi j hj
  refine r_iload_n hC hl dJ1_charAt_3b067_0 1 rfl ?_
  refine r_aload_n hC hl dJ1_charAt_3b067_1 0 rfl ?_
  refine r_vlen hC hI hi dJ1_charAt_3b067_2 ?_
  refine r_cSv hC hI hl [.int (J (j : Int)), .int (J ((wL i) : Int))] [] (c_J0_checkIndex_df160 l X a B S (j : Int) ((wL i) : Int) (by omega) (by omega)) ml_RJ1_9 es_J0_checkIndex_df160 ⟨Nat.le_of_ble_eq_true rfl, Nat.le_of_ble_eq_true rfl⟩ ⟨Nat.zero_le _, Nat.zero_le _⟩ (Nat.le_of_ble_eq_true rfl) rfl dJ1_charAt_3b067_3 (fun H locs hI => ?_)
  refine r_aload_n hC hl dJ1_charAt_3b067_6 0 rfl ?_
  refine r_iload_n hC hl dJ1_charAt_3b067_7 1 rfl ?_
  refine r_vbl hC hI hi hj dJ1_charAt_3b067_8 ?_
  refine r_sipush hC (by decide) dJ1_charAt_3b067_9 ?_
  refine r_a255 hC hk1 dJ1_charAt_3b067_12 ?_
  refine r_i2c hC hk2 dJ1_charAt_3b067_13 ?_
  exact r_nret hC hr hlk hI (nar_c hk3) (rfl) (rfl) dJ1_charAt_3b067_14

set_option maxHeartbeats 4000000 in
set_option maxRecDepth 100000 in
theorem c_J0_charAt_5068e (l : Launch) (X : XT) (a : Nat → Nat) (B : Nat) (S : St) (i : Nat) (j : Nat) (hi : i < 11) (hj : j < wL i) : CT l X a B 3 yJ0_charAt_5068e cJ0_charAt_5068e 2 (some .char) [.ref (X.2.2.1 i), .int (J (j : Int))] S (Qi X a B (wB i j) (S)) := by
  refine CT.of (by decide +kernel) (Nat.le_of_ble_eq_true rfl) ?_
  intro p e s m below meth c ls hC hr hlk hI hl
  have hC : Cx p c cJ0_charAt_5068e 2 s m [.ref (X.2.2.1 i), .int (J (j : Int))].toArray RJ0 X B := hC
  have hl : lv_has ls 2 [(0, .ref (X.2.2.1 i)), (1, .int (J (j : Int)))] := hl
  obtain ⟨hk1, hk2, hk3, hk4⟩ := wB_ok i hi j hj
  refine r_aload_n hC hl dJ0_charAt_5068e_0 0 rfl ?_
  refine r_cVi hC hI hl [] [] (c_J0_isLatin1_aae02 l X a B S i (by omega)) ml_RJ0_492 ev_J0_isLatin1_aae02 (vk_recv hC.2.2.2.2.2.2.1 (by omega) hI.2.2) ⟨Nat.le_of_ble_eq_true rfl, Nat.le_of_ble_eq_true rfl⟩ ⟨Nat.zero_le _, Nat.zero_le _⟩ (Nat.le_of_ble_eq_true rfl) rfl dJ0_charAt_5068e_1 (fun H locs hI => ?_)
  refine r_if_eq (tgt := 16) hC (by decide) dJ0_charAt_5068e_4 (by decide) (fun z => absurd z (by decide)) (fun _ => ?_)
  refine r_aload_n hC hl dJ0_charAt_5068e_7 0 rfl ?_
  refine r_val hC hI hi dJ0_charAt_5068e_8 ?_
  refine r_iload_n hC hl dJ0_charAt_5068e_11 1 rfl ?_
  refine r_cSi hC hI hl [.ref (X.2.2.2 i), .int (J (j : Int))] [] (c_J1_charAt_3b067 l X a B S i j (by omega) (by omega)) ml_RJ0_495 es_J1_charAt_3b067 ⟨Nat.le_of_ble_eq_true rfl, Nat.le_of_ble_eq_true rfl⟩ ⟨Nat.zero_le _, Nat.zero_le _⟩ (Nat.le_of_ble_eq_true rfl) rfl dJ0_charAt_5068e_12 (fun H locs hI => ?_)
  exact r_nret hC hr hlk hI (nar_c hk3) (rfl) (rfl) dJ0_charAt_5068e_15

set_option maxHeartbeats 4000000 in
set_option maxRecDepth 100000 in
theorem c_X0_nameOf (l : Launch) (X : XT) (a : Nat → Nat) (B : Nat) (S : St) (i : Nat) (hi : i < 6) : CT l X a B 0 yX0_nameOf cX0_nameOf 1 (some (.object "java/lang/String")) [.int (J (i : Int))] S (Qr X a B (X.2.2.1 i) (S)) := by
  refine CT.of (by decide +kernel) (Nat.le_of_ble_eq_true rfl) ?_
  intro p e s m below meth c ls hC hr hlk hI hl
  have hC : Cx p c cX0_nameOf 1 s m [.int (J (i : Int))].toArray RX0 X B := hC
  have hl : lv_has ls 1 [(0, .int (J (i : Int)))] := hl
  refine r_iload_n hC hl dX0_nameOf_0 0 rfl ?_
  by_cases c_1 : (i : Int) = 1
  · refine r_tin (tgt := 36) hC 1 c_1 (by decide) dX0_nameOf_1 (by decide) (by decide) rfl (by decide) ?_
    refine va_ldcS hC.1 hC.2.1 hC.2.2.2.1 (hC.2.2.2.2.2.1.2.2.2 1 _ rfl) dX0_nameOf_36 ?_
    exact r_aret hC hr hlk hI (congrArg _ (by omega)) (rfl) dX0_nameOf_38
  by_cases c_2 : (i : Int) = 2
  · refine r_tin (tgt := 39) hC 2 c_2 (by decide) dX0_nameOf_1 (by decide) (by decide) rfl (by decide) ?_
    refine va_ldcS hC.1 hC.2.1 hC.2.2.2.1 (hC.2.2.2.2.2.1.2.2.2 2 _ rfl) dX0_nameOf_39 ?_
    exact r_aret hC hr hlk hI (congrArg _ (by omega)) (rfl) dX0_nameOf_41
  by_cases c_3 : (i : Int) = 3
  · refine r_tin (tgt := 42) hC 3 c_3 (by decide) dX0_nameOf_1 (by decide) (by decide) rfl (by decide) ?_
    refine va_ldcS hC.1 hC.2.1 hC.2.2.2.1 (hC.2.2.2.2.2.1.2.2.2 3 _ rfl) dX0_nameOf_42 ?_
    exact r_aret hC hr hlk hI (congrArg _ (by omega)) (rfl) dX0_nameOf_44
  by_cases c_4 : (i : Int) = 4
  · refine r_tin (tgt := 45) hC 4 c_4 (by decide) dX0_nameOf_1 (by decide) (by decide) rfl (by decide) ?_
    refine va_ldcS hC.1 hC.2.1 hC.2.2.2.1 (hC.2.2.2.2.2.1.2.2.2 4 _ rfl) dX0_nameOf_45 ?_
    exact r_aret hC hr hlk hI (congrArg _ (by omega)) (rfl) dX0_nameOf_47
  by_cases c_5 : (i : Int) = 5
  · refine r_tin (tgt := 48) hC 5 c_5 (by decide) dX0_nameOf_1 (by decide) (by decide) rfl (by decide) ?_
    refine va_ldcS hC.1 hC.2.1 hC.2.2.2.1 (hC.2.2.2.2.2.1.2.2.2 5 _ rfl) dX0_nameOf_48 ?_
    exact r_aret hC hr hlk hI (congrArg _ (by omega)) (rfl) dX0_nameOf_50
  refine r_tout (tgt := 51) hC (by omega) dX0_nameOf_1 (by omega) (by decide) ?_
  refine va_ldcS hC.1 hC.2.1 hC.2.2.2.1 (hC.2.2.2.2.2.1.2.2.2 0 _ rfl) dX0_nameOf_51 ?_
  exact r_aret hC hr hlk hI (congrArg _ (by omega)) (rfl) dX0_nameOf_53
