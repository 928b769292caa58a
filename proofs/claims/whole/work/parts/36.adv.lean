theorem JL_add (x y : Int) : JL x + JL y = JL (x + y) := (Int64.ofInt_add x y).symm
theorem JL_sub (x y : Int) : JL x - JL y = JL (x - y) := (Int64.ofInt_sub x y).symm
theorem JL_mul (x y : Int) : JL x * JL y = JL (x * y) := (Int64.ofInt_mul x y).symm
section R36
variable {p : Program} {l : Launch} {e : Env} {R : Room} {s : State} {m : MethodId} {args : Array Value} {below : List Frame} {meth : Method} {c : Code} {H : Heap} {locs : List Loc} {cells slots : Nat} {Q : State → Prop}
variable {cc : ByteArray} {nL pc : Nat} {own : String} {ls : Array Slot} {rest st : List Value} {X : XT} {a : Nat → Nat} {B : Nat} {S S' : St} {lv : List (Nat × Value)}
theorem r_ladd (hC : Cx p c cc nL s m args own X B) {x y : Int} (hdg : decode cc pc = .ok (.ladd, 1)) (k : W p l e R s m args below meth c H locs cells slots Q (F0 m (pc + 1) ls (.long (JL (x + y)) :: rest))) : W p l e R s m args below meth c H locs cells slots Q (F0 m pc ls (.long (JL y) :: .long (JL x) :: rest)) := lv_ladd hC.1 hC.2.1 hdg (by rw [JL_add]; exact k)
theorem r_lsub (hC : Cx p c cc nL s m args own X B) {x y : Int} (hdg : decode cc pc = .ok (.lsub, 1)) (k : W p l e R s m args below meth c H locs cells slots Q (F0 m (pc + 1) ls (.long (JL (x - y)) :: rest))) : W p l e R s m args below meth c H locs cells slots Q (F0 m pc ls (.long (JL y) :: .long (JL x) :: rest)) := lv_lsub hC.1 hC.2.1 hdg (by rw [JL_sub]; exact k)
theorem r_lmul (hC : Cx p c cc nL s m args own X B) {x y : Int} (hdg : decode cc pc = .ok (.lmul, 1)) (k : W p l e R s m args below meth c H locs cells slots Q (F0 m (pc + 1) ls (.long (JL (x * y)) :: rest))) : W p l e R s m args below meth c H locs cells slots Q (F0 m pc ls (.long (JL y) :: .long (JL x) :: rest)) := lv_lmul hC.1 hC.2.1 hdg (by rw [JL_mul]; exact k)
end R36
theorem up_cm {S : St} {b c i j : Nat} {x y : Int} (h : b ≠ c) : up (up S b i x) c j y = up (up S c j y) b i x := by
  funext d
  by_cases h1 : d = c
  · subst h1
    rw [up_b, up_nb _ _ (fun z => h z.symm), up_nb _ _ (fun z => h z.symm), up_b]
  · rw [up_nb _ _ h1]
    by_cases h2 : d = b
    · subst h2
      rw [up_b, up_b, up_nb _ _ h]
    · rw [up_nb _ _ h2, up_nb _ _ h2, up_nb _ _ h1]
theorem tnG_3 (A : Nat → Int) (b t e v e2 : Int) : upR (tnG A b t e v) 3 e2 = tnG A b t e2 v := by
  funext j
  simp only [upR, tnG]
  (repeat' split) <;> first | rfl | omega
theorem tnG_4 (A : Nat → Int) (b t e v v2 : Int) : upR (tnG A b t e v) 4 v2 = tnG A b t e v2 := by
  funext j
  simp only [upR, tnG]
  (repeat' split) <;> first | rfl | omega
theorem ad_1 (S : St) (b t e w v : Int) : up (up (up (up (up S 25 2 b) 25 3 e) 25 1 t) 32 0 w) 25 4 v = up (setB S 25 (tnG (S 25) b t e v)) 32 0 w := by
  rw [up_cm (b := 32) (c := 25) (by decide), up_eq S 25 2 b, up_set, up_set, up_set]
  refine congrArg (fun z => up (setB S 25 z) 32 0 w) (funext fun q => ?_)
  simp only [upR, tnG]
  (repeat' split) <;> first | rfl | omega
theorem ad_3 (S : St) (b t e w v e2 : Int) : up (up (up (up (up (up S 25 2 b) 25 3 e) 25 1 t) 32 0 w) 25 4 v) 25 3 e2 = up (setB S 25 (tnG (S 25) b t e2 v)) 32 0 w := by
  rw [ad_1, up_cm (b := 32) (c := 25) (by decide), up_set, tnG_3]
theorem ad_n {S U : St} {A : Nat → Int} {b t e v w w2 e2 : Int} (hU : U = up (setB S 25 (tnG A b t e v)) 32 0 w) : up (up U 32 0 w2) 25 3 e2 = up (setB S 25 (tnG A b t e2 v)) 32 0 w2 := by
  rw [hU, up_up, up_cm (b := 32) (c := 25) (by decide), up_set, tnG_3]
theorem ad_d {S U : St} {A : Nat → Int} {b t e v w v2 e2 : Int} (hU : U = up (setB S 25 (tnG A b t e v)) 32 0 w) : up (up U 25 4 v2) 25 3 e2 = up (setB S 25 (tnG A b t e2 v2)) 32 0 w := by
  rw [hU, up_cm (b := 32) (c := 25) (by decide), up_cm (b := 32) (c := 25) (by decide), up_set, up_set, tnG_4, tnG_3]
def btF (T : Nat → Int) (n z : Int) : Int := if z < n then T z.toNat else -1
theorem bt_cs {T : Nat → Int} {n : Int} (hn : 0 ≤ n ∧ n ≤ 120) (hB : ∀ j, j < 120 → 0 ≤ T j ∧ T j ≤ 255) (q : Nat) : ((q : Int) < n ∧ btF T n (q : Int) = T q ∧ 0 ≤ T q ∧ T q ≤ 255) ∨ (n ≤ (q : Int) ∧ btF T n (q : Int) = -1) := by
  unfold btF
  by_cases h : (q : Int) < n
  · refine Or.inl ⟨h, if_pos h, ?_⟩
    exact hB q (by omega)
  · exact Or.inr ⟨by omega, if_neg h⟩
def vmF (T : Nat → Int) (b : Nat) : Nat → Int
  | 0 => 0
  | k + 1 => if 999 < vmF T b k then 10000 else 10 * vmF T b k + T (b + k) - 48
def whF (T : Nat → Int) (b : Nat) : Nat → Int
  | 0 => 0
  | k + 1 => if k < 12 then 27 * whF T b k + T (b + k) - 96 else -1
theorem vm_s {T : Nat → Int} {p q : Nat} (h : p ≤ q) : vmF T p (q + 1 - p) = if 999 < vmF T p (q - p) then 10000 else 10 * vmF T p (q - p) + T q - 48 := by
  rw [show q + 1 - p = (q - p) + 1 by omega]
  show (if 999 < vmF T p (q - p) then 10000 else 10 * vmF T p (q - p) + T (p + (q - p)) - 48) = _
  rw [show p + (q - p) = q by omega]
theorem wh_s {T : Nat → Int} {p q : Nat} (h : p ≤ q) : whF T p (q + 1 - p) = if q - p < 12 then 27 * whF T p (q - p) + T q - 96 else -1 := by
  rw [show q + 1 - p = (q - p) + 1 by omega]
  show (if q - p < 12 then 27 * whF T p (q - p) + T (p + (q - p)) - 96 else -1) = _
  rw [show p + (q - p) = q by omega]
def soF (T : Nat → Int) (n b : Nat) : Int := if n ≤ b then 0 else if 97 ≤ T b ∧ T b ≤ 122 then 1 else if 48 ≤ T b ∧ T b ≤ 57 then 2 else 3
def avF (T A : Nat → Int) (b : Nat) : Int := if soF T (A 0).toNat b = 2 then vmF T b (zD T (A 0).toNat b - b) else btF T (A 0) (b : Int)
def awF (T : Nat → Int) (n b : Nat) : Int := if soF T n b = 1 then whF T b (zL T n b - b) else 0
def zb (T A : Nat → Int) : Nat := zB T (A 0).toNat (A 3).toNat
/-- the reference's numbers at the next token -/
def adF (T A : Nat → Int) : Nat → Int := tnG A (zb T A : Nat) (soF T (A 0).toNat (zb T A)) (teF T (A 0).toNat (zb T A) : Nat) (avF T A (zb T A))
def adW (T A : Nat → Int) : Int := awF T (A 0).toNat (zb T A)
theorem ad_cg {S : St} {T A : Nat → Int} {q : Nat} {t e v w : Int} (hz : zB T (A 0).toNat (A 3).toNat = q) (ht : t = soF T (A 0).toNat q) (he : e = ((teF T (A 0).toNat q : Nat) : Int)) (hv : v = avF T A q) (hw : w = awF T (A 0).toNat q) : up (setB S 25 (tnG A (q : Int) t e v)) 32 0 w = up (setB S 25 (adF T A)) 32 0 (adW T A) := by
  subst ht; subst he; subst hv; subst hw; subst hz; rfl
theorem av_ne {T A : Nat → Int} {b : Nat} (h : soF T (A 0).toNat b ≠ 2) : avF T A b = btF T (A 0) (b : Int) := if_neg h
theorem av_eq {T A : Nat → Int} {b : Nat} (h : soF T (A 0).toNat b = 2) : avF T A b = vmF T b (zD T (A 0).toNat b - b) := if_pos h
theorem aw_ne {T : Nat → Int} {n b : Nat} (h : soF T n b ≠ 1) : awF T n b = 0 := if_neg h
theorem aw_eq {T : Nat → Int} {n b : Nat} (h : soF T n b = 1) : awF T n b = whF T b (zL T n b - b) := if_pos h

set_option maxHeartbeats 4000000 in
set_option maxRecDepth 100000 in
theorem c_X7_byteAt (l : Launch) (X : XT) (a : Nat → Nat) (B : Nat) (S : St) (z : Int) (hL : 0 ≤ S 25 0 ∧ S 25 0 ≤ 120) (hz : 0 ≤ z ∧ z ≤ 1000) : CT l X a B 0 yX7_byteAt cX7_byteAt 2 (some .int) [.ref (a (49)), .int (J z)] S (Qi X a B (btF (S 24) (S 25 0) z) (S)) := by
  refine CT.of (by decide +kernel) (Nat.le_of_ble_eq_true rfl) ?_
  intro p e s m below meth c ls hC hr hlk hI hl
  have hC : Cx p c cX7_byteAt 2 s m [.ref (a (49)), .int (J z)].toArray RX7 X B := hC
  have hl : lv_has ls 2 [(0, .ref (a (49))), (1, .int (J z))] := hl
  refine r_iload_n hC hl dX7_byteAt_0 1 rfl ?_
  refine r_aload_n hC hl dX7_byteAt_1 0 rfl ?_
  refine g_mo  (v := .int (J (S 25 0))) hC hI 5 (by decide) fl_RX7_131 rfl rfl dX7_byteAt_2 ?_
  refine r_icmp_ge (tgt := 17) hC (by omega) (by omega) dX7_byteAt_5 (by decide) (fun c_1 => ?_) (fun c_1 => ?_)
  · skip
    refine r_iconst hC dX7_byteAt_17 ?_
    exact r_iret hC hr hlk hI ((if_neg (by omega)).symm) (rfl) dX7_byteAt_18
  · skip
    refine r_aload_n hC hl dX7_byteAt_8 0 rfl ?_
    refine g_mo  (v := .ref (a (54))) hC hI 4 (by decide) fl_RX7_22 rfl rfl dX7_byteAt_9 ?_
    refine r_iload_n hC hl dX7_byteAt_12 1 rfl ?_
    refine r_iald (cx := 54) (n := 120) (f := (fun S => S 24) (S)) (v := S 24 ((z).toNat)) hC hI (by decide) rfl (by decide) ((z).toNat) (by omega) (by omega) rfl dX7_byteAt_13 ?_
    refine r_goto (tgt := 18) hC dX7_byteAt_14 (by decide) ?_
    exact r_iret hC hr hlk hI ((if_pos (by omega)).symm) (rfl) dX7_byteAt_18

set_option maxHeartbeats 4000000 in
set_option maxRecDepth 100000 in
theorem c_X7_isLetter (l : Launch) (X : XT) (a : Nat → Nat) (B : Nat) (S : St) (b : Int) (hb : -2147483648 ≤ b ∧ b ≤ 2147483647) : CT l X a B 1 yX7_isLetter cX7_isLetter 1 (some .boolean) [.int (J b)] S (Qi X a B (bI (97 ≤ b ∧ b ≤ 122)) (S)) := by
  refine CT.of (by decide +kernel) (Nat.le_of_ble_eq_true rfl) ?_
  intro p e s m below meth c ls hC hr hlk hI hl
  have hC : Cx p c cX7_isLetter 1 s m [.int (J b)].toArray RX7 X B := hC
  have hl : lv_has ls 1 [(0, .int (J b))] := hl
  refine r_iload_n hC hl dX7_isLetter_0 0 rfl ?_
  refine r_bipush hC (by decide) dX7_isLetter_1 ?_
  refine r_bipush hC (by decide) dX7_isLetter_3 ?_
  refine r_cSi hC hI hl [.int (J b), .int (J 97), .int (J 122)] [] (c_X7_in l X a B S b 97 122 (by omega) (by omega) (by omega)) ml_RX7_45 es_X7_in ⟨Nat.le_of_ble_eq_true rfl, Nat.le_of_ble_eq_true rfl⟩ ⟨Nat.zero_le _, Nat.zero_le _⟩ (Nat.le_of_ble_eq_true rfl) rfl dX7_isLetter_5 (fun H locs hI => ?_)
  exact r_zret hC hr hlk hI (bI_01) (rfl) (rfl) dX7_isLetter_8

set_option maxHeartbeats 4000000 in
set_option maxRecDepth 100000 in
theorem c_X7_isDigit (l : Launch) (X : XT) (a : Nat → Nat) (B : Nat) (S : St) (b : Int) (hb : -2147483648 ≤ b ∧ b ≤ 2147483647) : CT l X a B 1 yX7_isDigit cX7_isDigit 1 (some .boolean) [.int (J b)] S (Qi X a B (bI (48 ≤ b ∧ b ≤ 57)) (S)) := by
  refine CT.of (by decide +kernel) (Nat.le_of_ble_eq_true rfl) ?_
  intro p e s m below meth c ls hC hr hlk hI hl
  have hC : Cx p c cX7_isDigit 1 s m [.int (J b)].toArray RX7 X B := hC
  have hl : lv_has ls 1 [(0, .int (J b))] := hl
  refine r_iload_n hC hl dX7_isDigit_0 0 rfl ?_
  refine r_bipush hC (by decide) dX7_isDigit_1 ?_
  refine r_bipush hC (by decide) dX7_isDigit_3 ?_
  refine r_cSi hC hI hl [.int (J b), .int (J 48), .int (J 57)] [] (c_X7_in l X a B S b 48 57 (by omega) (by omega) (by omega)) ml_RX7_45 es_X7_in ⟨Nat.le_of_ble_eq_true rfl, Nat.le_of_ble_eq_true rfl⟩ ⟨Nat.zero_le _, Nat.zero_le _⟩ (Nat.le_of_ble_eq_true rfl) rfl dX7_isDigit_5 (fun H locs hI => ?_)
  exact r_zret hC hr hlk hI (bI_01) (rfl) (rfl) dX7_isDigit_8

set_option maxHeartbeats 4000000 in
set_option maxRecDepth 100000 in
theorem c_X7_advance (l : Launch) (X : XT) (a : Nat → Nat) (B : Nat) (S : St)  (hL : 0 ≤ S 25 0 ∧ S 25 0 ≤ 120) (h3 : 0 ≤ S 25 3 ∧ S 25 3 ≤ S 25 0) (hB : ∀ j, j < 120 → 0 ≤ S 24 j ∧ S 24 j ≤ 255) : CT l X a B 2 yX7_advance cX7_advance 2 none [.ref (a (49))] S (Qv X a B (up (setB S 25 (adF (S 24) (S 25))) 32 0 (adW (S 24) (S 25)))) := by
  refine CT.of (by decide +kernel) (Nat.le_of_ble_eq_true rfl) ?_
  intro p e s m below meth c ls hC hr hlk hI hl
  have hC : Cx p c cX7_advance 2 s m [.ref (a (49))].toArray RX7 X B := hC
  have hl : lv_has ls 2 [(0, .ref (a (49)))] := hl
  refine r_aload_n hC hl dX7_advance_0 0 rfl ?_
  refine r_aload_n hC hl dX7_advance_1 0 rfl ?_
  refine g_mo  (v := .int (J (S 25 3))) hC hI 8 (by decide) fl_RX7_135 rfl rfl dX7_advance_2 ?_
  refine p_mo7  hC hI fl_RX7_138 dX7_advance_5 (fun H locs hI => ?_)
  have hL8 : ∀ (fu : Nat) (q : Nat) (T : St) , (S 25 0).toNat - q < fu → ((S 25 3).toNat ≤ q ∧ q ≤ (S 25 0).toNat) → (T = up S 25 2 (q : Int)) → (skN (fB (S 24)) ((S 25 0).toNat - q) q = zB (S 24) (S 25 0).toNat (S 25 3).toNat) → ∀ (H : Heap) (locs : List Loc) (ls : Array Slot), IS X a B s (T) H locs → lv_has ls 2 [(0, .ref (a (49)))] → W p l e (rmD 2) s m [.ref (a (49))].toArray below meth c H locs 0 0 (MQ below (Qv X a B (up (setB S 25 (adF (S 24) (S 25))) 32 0 (adW (S 24) (S 25)))) [.ref (a (49))].toArray s 0 0 (fun q => B ≤ q)) (F0 m 8 ls []) := by
    intro fu
    induction fu with
    | zero => intro q T  hm; exact absurd hm (Nat.not_lt_zero _)
    | succ fu ih8 =>
      intro q T  hm hq hT hsq H locs ls hI hl
      have t2 : T 25 2 = (q : Int) := by rw [hT, up_at]
      have t0 : T 25 0 = S 25 0 := by rw [hT, up_nj _ _ (by decide)]
      have t24 : T 24 = S 24 := by rw [hT, up_nb _ _ (by decide)]
      have hbq := bt_cs hL hB q
      refine r_aload_n hC hl dX7_advance_8 0 rfl ?_
      refine r_aload_n hC hl dX7_advance_9 0 rfl ?_
      refine g_mo  (v := .int (J (T 25 2))) hC hI 7 (by decide) fl_RX7_138 rfl rfl dX7_advance_10 ?_
      refine r_cVi hC hI hl [.int (J (T 25 2))] [] (c_X7_byteAt l X a B T (T 25 2) (by rw [t0]; exact hL) (by omega)) ml_RX7_141 ev_X7_byteAt (rc_mo (S := T) hC hI) ⟨Nat.le_of_ble_eq_true rfl, Nat.le_of_ble_eq_true rfl⟩ ⟨Nat.zero_le _, Nat.zero_le _⟩ (Nat.le_of_ble_eq_true rfl) rfl dX7_advance_13 (fun H locs hI => ?_)
      refine r_as (y := btF (S 24) (S 25 0) (q : Int)) hC (by rw [t24, t0, t2]) ?_
      refine r_bipush hC (by decide) dX7_advance_16 ?_
      refine r_icmp_ne (tgt := 34) hC (by omega) (by omega) dX7_advance_18 (by decide) (fun c_1 => ?_) (fun c_1 => ?_)
      · skip
        have hz : zB (S 24) (S 25 0).toNat (S 25 3).toNat = q := by
          rcases hbq with h | h
          · rw [← hsq, show (S 25 0).toNat - q = ((S 25 0).toNat - (q + 1)) + 1 by omega, sk_f (f := fB (S 24)) (fun z => absurd (of_decide_eq_true z) (by omega))]
          · rw [← hsq, show (S 25 0).toNat - q = 0 by omega]; rfl
        refine r_aload_n hC hl dX7_advance_34 0 rfl ?_
        refine r_aload_n hC hl dX7_advance_35 0 rfl ?_
        refine g_mo  (v := .int (J (T 25 2))) hC hI 7 (by decide) fl_RX7_138 rfl rfl dX7_advance_36 ?_
        refine p_mo8  hC hI fl_RX7_135 dX7_advance_39 (fun H locs hI => ?_)
        refine r_aload_n hC hl dX7_advance_42 0 rfl ?_
        refine r_aload_n hC hl dX7_advance_43 0 rfl ?_
        refine g_mo  (v := .int (J (T 25 2))) hC hI 7 (by decide) fl_RX7_138 rfl (congrArg (fun z => some (Value.int (J z))) (show (up T 25 3 (T 25 2)) 25 2 = _ by rw [up_nj (b := 25) (j := 3) (c := 25) (i := 2) _ _ (by omega)])) dX7_advance_44 ?_
        refine r_cVi hC hI hl [.int (J (T 25 2))] [] (c_X7_byteAt l X a B (up T 25 3 (T 25 2)) (T 25 2) (by rw [up_nj _ _ (by decide), t0]; exact hL) (by omega)) ml_RX7_141 ev_X7_byteAt (rc_mo (S := up T 25 3 (T 25 2)) hC hI) ⟨Nat.le_of_ble_eq_true rfl, Nat.le_of_ble_eq_true rfl⟩ ⟨Nat.zero_le _, Nat.zero_le _⟩ (Nat.le_of_ble_eq_true rfl) rfl dX7_advance_47 (fun H locs hI => ?_)
        refine r_as (y := btF (S 24) (S 25 0) (q : Int)) hC (by rw [up_nb _ _ (by decide), up_nj _ _ (by decide), t24, t0, t2]) ?_
        refine r_istore_n (lv1 := [(1, .int (J (btF (S 24) (S 25 0) (q : Int)))), (0, .ref (a (49)))]) hC hl dX7_advance_50 1 rfl (by decide) rfl (fun ls hl => ?_)
        refine r_aload_n hC hl dX7_advance_51 1 rfl ?_
        refine r_iload_n hC hl dX7_advance_52 0 rfl ?_
        refine r_if_ge (tgt := 60) hC (by omega) dX7_advance_53 (by decide) (fun c_2 => ?_) (fun c_2 => ?_)
        · skip
          refine r_iload_n hC hl dX7_advance_60 0 rfl ?_
          refine r_cSi hC hI hl [.int (J (btF (S 24) (S 25 0) (q : Int)))] [.ref (a (49))] (c_X7_isLetter l X a B (up T 25 3 (T 25 2)) (btF (S 24) (S 25 0) (q : Int)) (by omega)) ml_RX7_144 es_X7_isLetter ⟨Nat.le_of_ble_eq_true rfl, Nat.le_of_ble_eq_true rfl⟩ ⟨Nat.zero_le _, Nat.zero_le _⟩ (Nat.le_of_ble_eq_true rfl) rfl dX7_advance_61 (fun H locs hI => ?_)
          refine r_b_eq (tgt := 71) hC dX7_advance_64 (by decide) (fun c_3 => ?_) (fun c_3 => ?_)
          · skip
            refine r_iload_n hC hl dX7_advance_71 0 rfl ?_
            refine r_cSi hC hI hl [.int (J (btF (S 24) (S 25 0) (q : Int)))] [.ref (a (49))] (c_X7_isDigit l X a B (up T 25 3 (T 25 2)) (btF (S 24) (S 25 0) (q : Int)) (by omega)) ml_RX7_147 es_X7_isDigit ⟨Nat.le_of_ble_eq_true rfl, Nat.le_of_ble_eq_true rfl⟩ ⟨Nat.zero_le _, Nat.zero_le _⟩ (Nat.le_of_ble_eq_true rfl) rfl dX7_advance_72 (fun H locs hI => ?_)
            refine r_b_eq (tgt := 82) hC dX7_advance_75 (by decide) (fun c_4 => ?_) (fun c_4 => ?_)
            · skip
              refine r_iconst hC dX7_advance_82 ?_
              refine p_mo6  hC hI fl_RX7_150 dX7_advance_83 (fun H locs hI => ?_)
              refine r_aload_n hC hl dX7_advance_86 1 rfl ?_
              refine r_lconst (x := 0) hC rfl dX7_advance_87 ?_
              refine p_mo9  hC hI fl_RX7_153 dX7_advance_88 (fun H locs hI => ?_)
              refine r_aload_n hC hl dX7_advance_91 1 rfl ?_
              refine r_aload_n hC hl dX7_advance_92 1 rfl ?_
              refine g_mo  (v := .int (J 3)) hC hI 6 (by decide) fl_RX7_150 rfl (congrArg (fun z => some (Value.int (J z))) (show (up (up (up T 25 3 (T 25 2)) 25 1 3) 32 0 0) 25 1 = _ by rw [up_nb (b := 32) (j := 0) (c := 25) _ _ (by omega), up_at])) dX7_advance_93 ?_
              refine r_iconst hC dX7_advance_96 ?_
              refine r_icmp_ne (tgt := 104) hC (by decide) (by decide) dX7_advance_97 (by decide) (fun _ => ?_) (fun z => absurd z (by decide))
              refine r_iload_n hC hl dX7_advance_104 0 rfl ?_
              refine p_mo10  hC hI fl_RX7_157 dX7_advance_105 (fun H locs hI => ?_)
              refine r_aload_n hC hl dX7_advance_108 1 rfl ?_
              refine g_mo  (v := .int (J 3)) hC hI 6 (by decide) fl_RX7_150 rfl (congrArg (fun z => some (Value.int (J z))) (show (up (up (up (up T 25 3 (T 25 2)) 25 1 3) 32 0 0) 25 4 (btF (S 24) (S 25 0) (q : Int))) 25 1 = _ by rw [up_nj (b := 25) (j := 4) (c := 25) (i := 1) _ _ (by omega), up_nb (b := 32) (j := 0) (c := 25) _ _ (by omega), up_at])) dX7_advance_109 ?_
              refine r_iconst hC dX7_advance_112 ?_
              refine r_icmp_ne (tgt := 126) hC (by decide) (by decide) dX7_advance_113 (by decide) (fun z => absurd z (by decide)) (fun _ => ?_)
              refine r_aload_n hC hl dX7_advance_116 1 rfl ?_
              refine r_dup hC rfl dX7_advance_117 ?_
              refine g_mo  (v := .int (J (T 25 2))) hC hI 8 (by decide) fl_RX7_135 rfl (congrArg (fun z => some (Value.int (J z))) (show (up (up (up (up T 25 3 (T 25 2)) 25 1 3) 32 0 0) 25 4 (btF (S 24) (S 25 0) (q : Int))) 25 3 = _ by rw [up_nj (b := 25) (j := 4) (c := 25) (i := 3) _ _ (by omega), up_nb (b := 32) (j := 0) (c := 25) _ _ (by omega), up_nj (b := 25) (j := 1) (c := 25) (i := 3) _ _ (by omega), up_at])) dX7_advance_118 ?_
              refine r_iconst hC dX7_advance_121 ?_
              refine r_iadd hC dX7_advance_122 ?_
              refine p_mo8  hC hI fl_RX7_135 dX7_advance_123 (fun H locs hI => ?_)
              refine r_aload_n hC hl dX7_advance_126 1 rfl ?_
              refine g_mo  (v := .int (J 3)) hC hI 6 (by decide) fl_RX7_150 rfl (congrArg (fun z => some (Value.int (J z))) (show (up (up (up (up (up T 25 3 (T 25 2)) 25 1 3) 32 0 0) 25 4 (btF (S 24) (S 25 0) (q : Int))) 25 3 ((T 25 2) + 1)) 25 1 = _ by rw [up_nj (b := 25) (j := 3) (c := 25) (i := 1) _ _ (by omega), up_nj (b := 25) (j := 4) (c := 25) (i := 1) _ _ (by omega), up_nb (b := 32) (j := 0) (c := 25) _ _ (by omega), up_at])) dX7_advance_127 ?_
              refine r_iconst hC dX7_advance_130 ?_
              refine r_icmp_ne (tgt := 207) hC (by decide) (by decide) dX7_advance_131 (by decide) (fun _ => ?_) (fun z => absurd z (by decide))
              refine r_aload_n hC hl dX7_advance_207 1 rfl ?_
              refine g_mo  (v := .int (J 3)) hC hI 6 (by decide) fl_RX7_150 rfl (congrArg (fun z => some (Value.int (J z))) (show (up (up (up (up (up T 25 3 (T 25 2)) 25 1 3) 32 0 0) 25 4 (btF (S 24) (S 25 0) (q : Int))) 25 3 ((T 25 2) + 1)) 25 1 = _ by rw [up_nj (b := 25) (j := 3) (c := 25) (i := 1) _ _ (by omega), up_nj (b := 25) (j := 4) (c := 25) (i := 1) _ _ (by omega), up_nb (b := 32) (j := 0) (c := 25) _ _ (by omega), up_at])) dX7_advance_208 ?_
              refine r_iconst hC dX7_advance_211 ?_
              refine r_icmp_ne (tgt := 281) hC (by decide) (by decide) dX7_advance_212 (by decide) (fun _ => ?_) (fun z => absurd z (by decide))
              exact r_vret hC hr hlk hI (by have ht : (3 : Int) = soF (S 24) (S 25 0).toNat q := (by unfold soF; rw [if_neg (by omega), if_neg (by omega), if_neg (by omega)]); rw [t2, hT, ad_3]; exact ad_cg hz ht (by unfold teF; rw [if_neg (by omega), if_neg (by omega), if_neg (by omega)]; rfl) (av_ne (by rw [← ht]; decide)).symm (aw_ne (by rw [← ht]; decide)).symm) dX7_advance_281
            · skip
              refine r_iconst hC dX7_advance_78 ?_
              refine r_goto (tgt := 83) hC dX7_advance_79 (by decide) ?_
              refine p_mo6  hC hI fl_RX7_150 dX7_advance_83 (fun H locs hI => ?_)
              refine r_aload_n hC hl dX7_advance_86 1 rfl ?_
              refine r_lconst (x := 0) hC rfl dX7_advance_87 ?_
              refine p_mo9  hC hI fl_RX7_153 dX7_advance_88 (fun H locs hI => ?_)
              refine r_aload_n hC hl dX7_advance_91 1 rfl ?_
              refine r_aload_n hC hl dX7_advance_92 1 rfl ?_
              refine g_mo  (v := .int (J 2)) hC hI 6 (by decide) fl_RX7_150 rfl (congrArg (fun z => some (Value.int (J z))) (show (up (up (up T 25 3 (T 25 2)) 25 1 2) 32 0 0) 25 1 = _ by rw [up_nb (b := 32) (j := 0) (c := 25) _ _ (by omega), up_at])) dX7_advance_93 ?_
              refine r_iconst hC dX7_advance_96 ?_
              refine r_icmp_ne (tgt := 104) hC (by decide) (by decide) dX7_advance_97 (by decide) (fun z => absurd z (by decide)) (fun _ => ?_)
              refine r_iconst hC dX7_advance_100 ?_
              refine r_goto (tgt := 105) hC dX7_advance_101 (by decide) ?_
              refine p_mo10  hC hI fl_RX7_157 dX7_advance_105 (fun H locs hI => ?_)
              refine r_aload_n hC hl dX7_advance_108 1 rfl ?_
              refine g_mo  (v := .int (J 2)) hC hI 6 (by decide) fl_RX7_150 rfl (congrArg (fun z => some (Value.int (J z))) (show (up (up (up (up T 25 3 (T 25 2)) 25 1 2) 32 0 0) 25 4 0) 25 1 = _ by rw [up_nj (b := 25) (j := 4) (c := 25) (i := 1) _ _ (by omega), up_nb (b := 32) (j := 0) (c := 25) _ _ (by omega), up_at])) dX7_advance_109 ?_
              refine r_iconst hC dX7_advance_112 ?_
              refine r_icmp_ne (tgt := 126) hC (by decide) (by decide) dX7_advance_113 (by decide) (fun _ => ?_) (fun z => absurd z (by decide))
              refine r_aload_n hC hl dX7_advance_126 1 rfl ?_
              refine g_mo  (v := .int (J 2)) hC hI 6 (by decide) fl_RX7_150 rfl (congrArg (fun z => some (Value.int (J z))) (show (up (up (up (up T 25 3 (T 25 2)) 25 1 2) 32 0 0) 25 4 0) 25 1 = _ by rw [up_nj (b := 25) (j := 4) (c := 25) (i := 1) _ _ (by omega), up_nb (b := 32) (j := 0) (c := 25) _ _ (by omega), up_at])) dX7_advance_127 ?_
              refine r_iconst hC dX7_advance_130 ?_
              refine r_icmp_ne (tgt := 207) hC (by decide) (by decide) dX7_advance_131 (by decide) (fun _ => ?_) (fun z => absurd z (by decide))
              have hL207 : ∀ (fu : Nat) (r : Nat) (D : St) , (S 25 0).toNat - r < fu → (q ≤ r ∧ r ≤ (S 25 0).toNat) → (D = up (setB S 25 (tnG (S 25) (q : Int) 2 (r : Int) (vmF (S 24) q (r - q)))) 32 0 0) → (skN (fD (S 24)) ((S 25 0).toNat - r) r = zD (S 24) (S 25 0).toNat q) → (0 ≤ vmF (S 24) q (r - q) ∧ vmF (S 24) q (r - q) ≤ 10000) → ∀ (H : Heap) (locs : List Loc) (ls : Array Slot), IS X a B s (D) H locs → lv_has ls 2 [(0, .ref (a (49)))] → W p l e (rmD 2) s m [.ref (a (49))].toArray below meth c H locs 0 0 (MQ below (Qv X a B (up (setB S 25 (adF (S 24) (S 25))) 32 0 (adW (S 24) (S 25)))) [.ref (a (49))].toArray s 0 0 (fun q => B ≤ q)) (F0 m 207 ls []) := by
                intro fu
                induction fu with
                | zero => intro r D  hm; exact absurd hm (Nat.not_lt_zero _)
                | succ fu ih207 =>
                  intro r D  hm hrq hD hsr hv H locs ls hI hl
                  have DA : D 25 = tnG (S 25) (q : Int) 2 (r : Int) (vmF (S 24) q (r - q)) := by rw [hD, up_nb _ _ (by decide), setB_at]
                  have D1 : D 25 1 = 2 := by rw [DA]; rfl
                  have D2 : D 25 2 = (q : Int) := by rw [DA]; rfl
                  have D3 : D 25 3 = (r : Int) := by rw [DA]; rfl
                  have D0 : D 25 0 = S 25 0 := by rw [DA]; rfl
                  have Dv : D 25 4 = vmF (S 24) q (r - q) := by rw [DA]; rfl
                  have D24 : D 24 = S 24 := by rw [hD, up_nb _ _ (by decide), setB_ne _ _ (by decide)]
                  have hbr := bt_cs hL hB r
                  refine r_aload_n hC hl dX7_advance_207 0 rfl ?_
                  refine g_mo  (v := .int (J (D 25 1))) hC hI 6 (by decide) fl_RX7_150 rfl rfl dX7_advance_208 ?_
                  refine r_iconst hC dX7_advance_211 ?_
                  refine r_icmp_ne (tgt := 281) hC (by omega) (by omega) dX7_advance_212 (by decide) (fun c_12 => ?_) (fun c_12 => ?_)
                  · skip
                    exfalso; omega
                  · skip
                    refine r_aload_n hC hl dX7_advance_215 0 rfl ?_
                    refine r_aload_n hC hl dX7_advance_216 0 rfl ?_
                    refine g_mo  (v := .int (J (D 25 3))) hC hI 8 (by decide) fl_RX7_135 rfl rfl dX7_advance_217 ?_
                    refine r_cVi hC hI hl [.int (J (D 25 3))] [] (c_X7_byteAt l X a B D (D 25 3) (by rw [D0]; exact hL) (by omega)) ml_RX7_141 ev_X7_byteAt (rc_mo (S := D) hC hI) ⟨Nat.le_of_ble_eq_true rfl, Nat.le_of_ble_eq_true rfl⟩ ⟨Nat.zero_le _, Nat.zero_le _⟩ (Nat.le_of_ble_eq_true rfl) rfl dX7_advance_220 (fun H locs hI => ?_)
                    refine r_as (y := btF (S 24) (S 25 0) (r : Int)) hC (by rw [D24, D0, D3]) ?_
                    refine r_cSi hC hI hl [.int (J (btF (S 24) (S 25 0) (r : Int)))] [] (c_X7_isDigit l X a B D (btF (S 24) (S 25 0) (r : Int)) (by omega)) ml_RX7_147 es_X7_isDigit ⟨Nat.le_of_ble_eq_true rfl, Nat.le_of_ble_eq_true rfl⟩ ⟨Nat.zero_le _, Nat.zero_le _⟩ (Nat.le_of_ble_eq_true rfl) rfl dX7_advance_223 (fun H locs hI => ?_)
                    refine r_b_eq (tgt := 281) hC dX7_advance_226 (by decide) (fun c_13 => ?_) (fun c_13 => ?_)
                    · skip
                      have hzd : zD (S 24) (S 25 0).toNat q = r := by
                        rcases hbr with h | h
                        · rw [← hsr, show (S 25 0).toNat - r = ((S 25 0).toNat - (r + 1)) + 1 by omega, sk_f (f := fD (S 24)) (fun z => absurd (of_decide_eq_true z) (by omega))]
                        · rw [← hsr, show (S 25 0).toNat - r = 0 by omega]; rfl
                      exact r_vret hC hr hlk hI (by have ht : (2 : Int) = soF (S 24) (S 25 0).toNat q := (by unfold soF; rw [if_neg (by omega), if_neg (by omega), if_pos (by omega)]); rw [hD]; exact ad_cg hz ht (by unfold teF; rw [if_neg (by omega), if_neg (by omega), if_pos (by omega), hzd]) (by rw [av_eq ht.symm, hzd]) (aw_ne (by rw [← ht]; decide)).symm) dX7_advance_281
                    · skip
                      refine r_aload_n hC hl dX7_advance_229 0 rfl ?_
                      refine r_aload_n hC hl dX7_advance_230 0 rfl ?_
                      refine g_mo  (v := .int (J (D 25 4))) hC hI 10 (by decide) fl_RX7_157 rfl rfl dX7_advance_231 ?_
                      refine r_sipush hC (by decide) dX7_advance_234 ?_
                      refine r_icmp_le (tgt := 246) hC (by omega) (by omega) dX7_advance_237 (by decide) (fun c_14 => ?_) (fun c_14 => ?_)
                      · skip
                        refine r_bipush hC (by decide) dX7_advance_246 ?_
                        refine r_aload_n hC hl dX7_advance_248 0 rfl ?_
                        refine g_mo  (v := .int (J (D 25 4))) hC hI 10 (by decide) fl_RX7_157 rfl rfl dX7_advance_249 ?_
                        refine r_imul hC dX7_advance_252 ?_
                        refine r_aload_n hC hl dX7_advance_253 0 rfl ?_
                        refine r_aload_n hC hl dX7_advance_254 0 rfl ?_
                        refine g_mo  (v := .int (J (D 25 3))) hC hI 8 (by decide) fl_RX7_135 rfl rfl dX7_advance_255 ?_
                        refine r_cVi hC hI hl [.int (J (D 25 3))] [.int (J (10 * (D 25 4))), .ref (a (49))] (c_X7_byteAt l X a B D (D 25 3) (by rw [D0]; exact hL) (by omega)) ml_RX7_141 ev_X7_byteAt (rc_mo (S := D) hC hI) ⟨Nat.le_of_ble_eq_true rfl, Nat.le_of_ble_eq_true rfl⟩ ⟨Nat.zero_le _, Nat.zero_le _⟩ (Nat.le_of_ble_eq_true rfl) rfl dX7_advance_258 (fun H locs hI => ?_)
                        refine r_as (y := btF (S 24) (S 25 0) (r : Int)) hC (by rw [D24, D0, D3]) ?_
                        refine r_iadd hC dX7_advance_261 ?_
                        refine r_bipush hC (by decide) dX7_advance_262 ?_
                        refine r_isub hC dX7_advance_264 ?_
                        refine p_mo10  hC hI fl_RX7_157 dX7_advance_265 (fun H locs hI => ?_)
                        refine r_aload_n hC hl dX7_advance_268 0 rfl ?_
                        refine r_dup hC rfl dX7_advance_269 ?_
                        refine g_mo  (v := .int (J (D 25 3))) hC hI 8 (by decide) fl_RX7_135 rfl (congrArg (fun z => some (Value.int (J z))) (show (up D 25 4 (((10 * (D 25 4)) + (btF (S 24) (S 25 0) (r : Int))) - 48)) 25 3 = _ by rw [up_nj (b := 25) (j := 4) (c := 25) (i := 3) _ _ (by omega)])) dX7_advance_270 ?_
                        refine r_iconst hC dX7_advance_273 ?_
                        refine r_iadd hC dX7_advance_274 ?_
                        refine p_mo8  hC hI fl_RX7_135 dX7_advance_275 (fun H locs hI => ?_)
                        refine r_goto (tgt := 207) hC dX7_advance_278 (by decide) ?_
                        have hs2 : skN (fD (S 24)) ((S 25 0).toNat - (r + 1)) (r + 1) = zD (S 24) (S 25 0).toNat q := by
                          rw [← hsr, show (S 25 0).toNat - r = ((S 25 0).toNat - (r + 1)) + 1 by omega, sk_t (f := fD (S 24)) (decide_eq_true (by omega))]
                        exact ih207 (r + 1) _  (by omega) (by omega) (by rw [D3, show (r : Int) + 1 = ((r + 1 : Nat) : Int) from rfl, Dv, vm_s (by omega), if_neg (by omega), show btF (S 24) (S 25 0) (r : Int) = S 24 r by omega]; exact ad_d hD) hs2 (by rw [vm_s (by omega), if_neg (by omega)]; omega) _ _ _ hI (lv_sub hl [0] rfl)
                      · skip
                        refine r_sipush hC (by decide) dX7_advance_240 ?_
                        refine r_goto (tgt := 265) hC dX7_advance_243 (by decide) ?_
                        refine p_mo10  hC hI fl_RX7_157 dX7_advance_265 (fun H locs hI => ?_)
                        refine r_aload_n hC hl dX7_advance_268 0 rfl ?_
                        refine r_dup hC rfl dX7_advance_269 ?_
                        refine g_mo  (v := .int (J (D 25 3))) hC hI 8 (by decide) fl_RX7_135 rfl (congrArg (fun z => some (Value.int (J z))) (show (up D 25 4 10000) 25 3 = _ by rw [up_nj (b := 25) (j := 4) (c := 25) (i := 3) _ _ (by omega)])) dX7_advance_270 ?_
                        refine r_iconst hC dX7_advance_273 ?_
                        refine r_iadd hC dX7_advance_274 ?_
                        refine p_mo8  hC hI fl_RX7_135 dX7_advance_275 (fun H locs hI => ?_)
                        refine r_goto (tgt := 207) hC dX7_advance_278 (by decide) ?_
                        have hs2 : skN (fD (S 24)) ((S 25 0).toNat - (r + 1)) (r + 1) = zD (S 24) (S 25 0).toNat q := by
                          rw [← hsr, show (S 25 0).toNat - r = ((S 25 0).toNat - (r + 1)) + 1 by omega, sk_t (f := fD (S 24)) (decide_eq_true (by omega))]
                        exact ih207 (r + 1) _  (by omega) (by omega) (by rw [D3, show (r : Int) + 1 = ((r + 1 : Nat) : Int) from rfl, vm_s (by omega), if_pos (by omega)]; exact ad_d hD) hs2 (by rw [vm_s (by omega), if_pos (by omega)]; omega) _ _ _ hI (lv_sub hl [0] rfl)
              exact hL207 _ q _  (Nat.lt_succ_self _) (by omega) (by rw [Nat.sub_self, t2, hT, ad_1]; rfl) rfl (by rw [Nat.sub_self]; exact ⟨Int.le_refl 0, by show (0 : Int) ≤ 10000; decide⟩) _ _ _ hI (lv_sub hl [1] rfl)
          · skip
            refine r_iconst hC dX7_advance_67 ?_
            refine r_goto (tgt := 83) hC dX7_advance_68 (by decide) ?_
            refine p_mo6  hC hI fl_RX7_150 dX7_advance_83 (fun H locs hI => ?_)
            refine r_aload_n hC hl dX7_advance_86 1 rfl ?_
            refine r_lconst (x := 0) hC rfl dX7_advance_87 ?_
            refine p_mo9  hC hI fl_RX7_153 dX7_advance_88 (fun H locs hI => ?_)
            refine r_aload_n hC hl dX7_advance_91 1 rfl ?_
            refine r_aload_n hC hl dX7_advance_92 1 rfl ?_
            refine g_mo  (v := .int (J 1)) hC hI 6 (by decide) fl_RX7_150 rfl (congrArg (fun z => some (Value.int (J z))) (show (up (up (up T 25 3 (T 25 2)) 25 1 1) 32 0 0) 25 1 = _ by rw [up_nb (b := 32) (j := 0) (c := 25) _ _ (by omega), up_at])) dX7_advance_93 ?_
            refine r_iconst hC dX7_advance_96 ?_
            refine r_icmp_ne (tgt := 104) hC (by decide) (by decide) dX7_advance_97 (by decide) (fun _ => ?_) (fun z => absurd z (by decide))
            refine r_iload_n hC hl dX7_advance_104 0 rfl ?_
            refine p_mo10  hC hI fl_RX7_157 dX7_advance_105 (fun H locs hI => ?_)
            refine r_aload_n hC hl dX7_advance_108 1 rfl ?_
            refine g_mo  (v := .int (J 1)) hC hI 6 (by decide) fl_RX7_150 rfl (congrArg (fun z => some (Value.int (J z))) (show (up (up (up (up T 25 3 (T 25 2)) 25 1 1) 32 0 0) 25 4 (btF (S 24) (S 25 0) (q : Int))) 25 1 = _ by rw [up_nj (b := 25) (j := 4) (c := 25) (i := 1) _ _ (by omega), up_nb (b := 32) (j := 0) (c := 25) _ _ (by omega), up_at])) dX7_advance_109 ?_
            refine r_iconst hC dX7_advance_112 ?_
            refine r_icmp_ne (tgt := 126) hC (by decide) (by decide) dX7_advance_113 (by decide) (fun _ => ?_) (fun z => absurd z (by decide))
            have hL126 : ∀ (fu : Nat) (r : Nat) (U : St) , (S 25 0).toNat - r < fu → (q ≤ r ∧ r ≤ (S 25 0).toNat) → (U = up (setB S 25 (tnG (S 25) (q : Int) 1 (r : Int) (btF (S 24) (S 25 0) (q : Int)))) 32 0 (whF (S 24) q (r - q))) → (skN (fL (S 24)) ((S 25 0).toNat - r) r = zL (S 24) (S 25 0).toNat q) → ∀ (H : Heap) (locs : List Loc) (ls : Array Slot), IS X a B s (U) H locs → lv_has ls 2 [(0, .ref (a (49)))] → W p l e (rmD 2) s m [.ref (a (49))].toArray below meth c H locs 0 0 (MQ below (Qv X a B (up (setB S 25 (adF (S 24) (S 25))) 32 0 (adW (S 24) (S 25)))) [.ref (a (49))].toArray s 0 0 (fun q => B ≤ q)) (F0 m 126 ls []) := by
              intro fu
              induction fu with
              | zero => intro r U  hm; exact absurd hm (Nat.not_lt_zero _)
              | succ fu ih126 =>
                intro r U  hm hrq hU hsr H locs ls hI hl
                have UA : U 25 = tnG (S 25) (q : Int) 1 (r : Int) (btF (S 24) (S 25 0) (q : Int)) := by rw [hU, up_nb _ _ (by decide), setB_at]
                have U1 : U 25 1 = 1 := by rw [UA]; rfl
                have U2 : U 25 2 = (q : Int) := by rw [UA]; rfl
                have U3 : U 25 3 = (r : Int) := by rw [UA]; rfl
                have U0 : U 25 0 = S 25 0 := by rw [UA]; rfl
                have Uv : U 25 4 = btF (S 24) (S 25 0) (q : Int) := by rw [UA]; rfl
                have U24 : U 24 = S 24 := by rw [hU, up_nb _ _ (by decide), setB_ne _ _ (by decide)]
                have hbr := bt_cs hL hB r
                have Uw : U 32 0 = whF (S 24) q (r - q) := by rw [hU, up_at]
                refine r_aload_n hC hl dX7_advance_126 0 rfl ?_
                refine g_mo  (v := .int (J (U 25 1))) hC hI 6 (by decide) fl_RX7_150 rfl rfl dX7_advance_127 ?_
                refine r_iconst hC dX7_advance_130 ?_
                refine r_icmp_ne (tgt := 207) hC (by omega) (by omega) dX7_advance_131 (by decide) (fun c_17 => ?_) (fun c_17 => ?_)
                · skip
                  exfalso; omega
                · skip
                  refine r_aload_n hC hl dX7_advance_134 0 rfl ?_
                  refine r_aload_n hC hl dX7_advance_135 0 rfl ?_
                  refine g_mo  (v := .int (J (U 25 3))) hC hI 8 (by decide) fl_RX7_135 rfl rfl dX7_advance_136 ?_
                  refine r_cVi hC hI hl [.int (J (U 25 3))] [] (c_X7_byteAt l X a B U (U 25 3) (by rw [U0]; exact hL) (by omega)) ml_RX7_141 ev_X7_byteAt (rc_mo (S := U) hC hI) ⟨Nat.le_of_ble_eq_true rfl, Nat.le_of_ble_eq_true rfl⟩ ⟨Nat.zero_le _, Nat.zero_le _⟩ (Nat.le_of_ble_eq_true rfl) rfl dX7_advance_139 (fun H locs hI => ?_)
                  refine r_as (y := btF (S 24) (S 25 0) (r : Int)) hC (by rw [U24, U0, U3]) ?_
                  refine r_cSi hC hI hl [.int (J (btF (S 24) (S 25 0) (r : Int)))] [] (c_X7_isLetter l X a B U (btF (S 24) (S 25 0) (r : Int)) (by omega)) ml_RX7_144 es_X7_isLetter ⟨Nat.le_of_ble_eq_true rfl, Nat.le_of_ble_eq_true rfl⟩ ⟨Nat.zero_le _, Nat.zero_le _⟩ (Nat.le_of_ble_eq_true rfl) rfl dX7_advance_142 (fun H locs hI => ?_)
                  refine r_b_eq (tgt := 207) hC dX7_advance_145 (by decide) (fun c_18 => ?_) (fun c_18 => ?_)
                  · skip
                    have hzl : zL (S 24) (S 25 0).toNat q = r := by
                      rcases hbr with h | h
                      · rw [← hsr, show (S 25 0).toNat - r = ((S 25 0).toNat - (r + 1)) + 1 by omega, sk_f (f := fL (S 24)) (fun z => absurd (of_decide_eq_true z) (by omega))]
                      · rw [← hsr, show (S 25 0).toNat - r = 0 by omega]; rfl
                    refine r_aload_n hC hl dX7_advance_207 0 rfl ?_
                    refine g_mo  (v := .int (J (U 25 1))) hC hI 6 (by decide) fl_RX7_150 rfl rfl dX7_advance_208 ?_
                    refine r_iconst hC dX7_advance_211 ?_
                    refine r_icmp_ne (tgt := 281) hC (by omega) (by omega) dX7_advance_212 (by decide) (fun c_19 => ?_) (fun c_19 => ?_)
                    · skip
                      exact r_vret hC hr hlk hI (by have ht : (1 : Int) = soF (S 24) (S 25 0).toNat q := (by unfold soF; rw [if_neg (by omega), if_pos (by omega)]); rw [hU]; exact ad_cg hz ht (by unfold teF; rw [if_neg (by omega), if_pos (by omega), hzl]) (av_ne (by rw [← ht]; decide)).symm (by rw [aw_eq ht.symm, hzl])) dX7_advance_281
                    · skip
                      exfalso; omega
                  · skip
                    refine r_aload_n hC hl dX7_advance_148 0 rfl ?_
                    refine r_aload_n hC hl dX7_advance_149 0 rfl ?_
                    refine g_mo  (v := .int (J (U 25 3))) hC hI 8 (by decide) fl_RX7_135 rfl rfl dX7_advance_150 ?_
                    refine r_aload_n hC hl dX7_advance_153 0 rfl ?_
                    refine g_mo  (v := .int (J (U 25 2))) hC hI 7 (by decide) fl_RX7_138 rfl rfl dX7_advance_154 ?_
                    refine r_isub hC dX7_advance_157 ?_
                    refine r_bipush hC (by decide) dX7_advance_158 ?_
                    refine r_icmp_ge (tgt := 188) hC (by omega) (by omega) dX7_advance_160 (by decide) (fun c_20 => ?_) (fun c_20 => ?_)
                    · skip
                      refine r_ldc2 (x := (-1)) hC cl_RX7_164 (by decide) dX7_advance_188 ?_
                      refine p_mo9  hC hI fl_RX7_153 dX7_advance_191 (fun H locs hI => ?_)
                      refine r_aload_n hC hl dX7_advance_194 0 rfl ?_
                      refine r_dup hC rfl dX7_advance_195 ?_
                      refine g_mo  (v := .int (J (U 25 3))) hC hI 8 (by decide) fl_RX7_135 rfl (congrArg (fun z => some (Value.int (J z))) (show (up U 32 0 (-1)) 25 3 = _ by rw [up_nb (b := 32) (j := 0) (c := 25) _ _ (by omega)])) dX7_advance_196 ?_
                      refine r_iconst hC dX7_advance_199 ?_
                      refine r_iadd hC dX7_advance_200 ?_
                      refine p_mo8  hC hI fl_RX7_135 dX7_advance_201 (fun H locs hI => ?_)
                      refine r_goto (tgt := 126) hC dX7_advance_204 (by decide) ?_
                      have hs2 : skN (fL (S 24)) ((S 25 0).toNat - (r + 1)) (r + 1) = zL (S 24) (S 25 0).toNat q := by
                        rw [← hsr, show (S 25 0).toNat - r = ((S 25 0).toNat - (r + 1)) + 1 by omega, sk_t (f := fL (S 24)) (decide_eq_true (by omega))]
                      exact ih126 (r + 1) _  (by omega) (by omega) (by rw [U3, show (r : Int) + 1 = ((r + 1 : Nat) : Int) from rfl, wh_s (by omega), if_neg (by omega)]; exact ad_n hU) hs2 _ _ _ hI (lv_sub hl [0] rfl)
                    · skip
                      refine r_ldc2 (x := (27)) hC cl_RX7_160 (by decide) dX7_advance_163 ?_
                      refine r_aload_n hC hl dX7_advance_166 0 rfl ?_
                      refine g_mo  (v := .long (JL (U 32 0))) hC hI 9 (by decide) fl_RX7_153 rfl rfl dX7_advance_167 ?_
                      refine r_lmul hC dX7_advance_170 ?_
                      refine r_aload_n hC hl dX7_advance_171 0 rfl ?_
                      refine r_aload_n hC hl dX7_advance_172 0 rfl ?_
                      refine g_mo  (v := .int (J (U 25 3))) hC hI 8 (by decide) fl_RX7_135 rfl rfl dX7_advance_173 ?_
                      refine r_cVi hC hI hl [.int (J (U 25 3))] [.long (JL ((27) * (U 32 0))), .ref (a (49))] (c_X7_byteAt l X a B U (U 25 3) (by rw [U0]; exact hL) (by omega)) ml_RX7_141 ev_X7_byteAt (rc_mo (S := U) hC hI) ⟨Nat.le_of_ble_eq_true rfl, Nat.le_of_ble_eq_true rfl⟩ ⟨Nat.zero_le _, Nat.zero_le _⟩ (Nat.le_of_ble_eq_true rfl) rfl dX7_advance_176 (fun H locs hI => ?_)
                      refine r_as (y := btF (S 24) (S 25 0) (r : Int)) hC (by rw [U24, U0, U3]) ?_
                      refine r_i2l hC (by omega) dX7_advance_179 ?_
                      refine r_ladd hC dX7_advance_180 ?_
                      refine r_ldc2 (x := (96)) hC cl_RX7_162 (by decide) dX7_advance_181 ?_
                      refine r_lsub hC dX7_advance_184 ?_
                      refine r_goto (tgt := 191) hC dX7_advance_185 (by decide) ?_
                      refine p_mo9  hC hI fl_RX7_153 dX7_advance_191 (fun H locs hI => ?_)
                      refine r_aload_n hC hl dX7_advance_194 0 rfl ?_
                      refine r_dup hC rfl dX7_advance_195 ?_
                      refine g_mo  (v := .int (J (U 25 3))) hC hI 8 (by decide) fl_RX7_135 rfl (congrArg (fun z => some (Value.int (J z))) (show (up U 32 0 ((((27) * (U 32 0)) + (btF (S 24) (S 25 0) (r : Int))) - (96))) 25 3 = _ by rw [up_nb (b := 32) (j := 0) (c := 25) _ _ (by omega)])) dX7_advance_196 ?_
                      refine r_iconst hC dX7_advance_199 ?_
                      refine r_iadd hC dX7_advance_200 ?_
                      refine p_mo8  hC hI fl_RX7_135 dX7_advance_201 (fun H locs hI => ?_)
                      refine r_goto (tgt := 126) hC dX7_advance_204 (by decide) ?_
                      have hs2 : skN (fL (S 24)) ((S 25 0).toNat - (r + 1)) (r + 1) = zL (S 24) (S 25 0).toNat q := by
                        rw [← hsr, show (S 25 0).toNat - r = ((S 25 0).toNat - (r + 1)) + 1 by omega, sk_t (f := fL (S 24)) (decide_eq_true (by omega))]
                      exact ih126 (r + 1) _  (by omega) (by omega) (by rw [U3, show (r : Int) + 1 = ((r + 1 : Nat) : Int) from rfl, wh_s (by omega), if_pos (by omega), Uw, show btF (S 24) (S 25 0) (r : Int) = S 24 r by omega]; exact ad_n hU) hs2 _ _ _ hI (lv_sub hl [0] rfl)
            exact hL126 _ q _  (Nat.lt_succ_self _) (by omega) (by rw [Nat.sub_self, t2, hT, ad_1]; rfl) rfl _ _ _ hI (lv_sub hl [1] rfl)
        · skip
          refine r_iconst hC dX7_advance_56 ?_
          refine r_goto (tgt := 83) hC dX7_advance_57 (by decide) ?_
          refine p_mo6  hC hI fl_RX7_150 dX7_advance_83 (fun H locs hI => ?_)
          refine r_aload_n hC hl dX7_advance_86 1 rfl ?_
          refine r_lconst (x := 0) hC rfl dX7_advance_87 ?_
          refine p_mo9  hC hI fl_RX7_153 dX7_advance_88 (fun H locs hI => ?_)
          refine r_aload_n hC hl dX7_advance_91 1 rfl ?_
          refine r_aload_n hC hl dX7_advance_92 1 rfl ?_
          refine g_mo  (v := .int (J 0)) hC hI 6 (by decide) fl_RX7_150 rfl (congrArg (fun z => some (Value.int (J z))) (show (up (up (up T 25 3 (T 25 2)) 25 1 0) 32 0 0) 25 1 = _ by rw [up_nb (b := 32) (j := 0) (c := 25) _ _ (by omega), up_at])) dX7_advance_93 ?_
          refine r_iconst hC dX7_advance_96 ?_
          refine r_icmp_ne (tgt := 104) hC (by decide) (by decide) dX7_advance_97 (by decide) (fun _ => ?_) (fun z => absurd z (by decide))
          refine r_iload_n hC hl dX7_advance_104 0 rfl ?_
          refine p_mo10  hC hI fl_RX7_157 dX7_advance_105 (fun H locs hI => ?_)
          refine r_aload_n hC hl dX7_advance_108 1 rfl ?_
          refine g_mo  (v := .int (J 0)) hC hI 6 (by decide) fl_RX7_150 rfl (congrArg (fun z => some (Value.int (J z))) (show (up (up (up (up T 25 3 (T 25 2)) 25 1 0) 32 0 0) 25 4 (btF (S 24) (S 25 0) (q : Int))) 25 1 = _ by rw [up_nj (b := 25) (j := 4) (c := 25) (i := 1) _ _ (by omega), up_nb (b := 32) (j := 0) (c := 25) _ _ (by omega), up_at])) dX7_advance_109 ?_
          refine r_iconst hC dX7_advance_112 ?_
          refine r_icmp_ne (tgt := 126) hC (by decide) (by decide) dX7_advance_113 (by decide) (fun _ => ?_) (fun z => absurd z (by decide))
          refine r_aload_n hC hl dX7_advance_126 1 rfl ?_
          refine g_mo  (v := .int (J 0)) hC hI 6 (by decide) fl_RX7_150 rfl (congrArg (fun z => some (Value.int (J z))) (show (up (up (up (up T 25 3 (T 25 2)) 25 1 0) 32 0 0) 25 4 (btF (S 24) (S 25 0) (q : Int))) 25 1 = _ by rw [up_nj (b := 25) (j := 4) (c := 25) (i := 1) _ _ (by omega), up_nb (b := 32) (j := 0) (c := 25) _ _ (by omega), up_at])) dX7_advance_127 ?_
          refine r_iconst hC dX7_advance_130 ?_
          refine r_icmp_ne (tgt := 207) hC (by decide) (by decide) dX7_advance_131 (by decide) (fun _ => ?_) (fun z => absurd z (by decide))
          refine r_aload_n hC hl dX7_advance_207 1 rfl ?_
          refine g_mo  (v := .int (J 0)) hC hI 6 (by decide) fl_RX7_150 rfl (congrArg (fun z => some (Value.int (J z))) (show (up (up (up (up T 25 3 (T 25 2)) 25 1 0) 32 0 0) 25 4 (btF (S 24) (S 25 0) (q : Int))) 25 1 = _ by rw [up_nj (b := 25) (j := 4) (c := 25) (i := 1) _ _ (by omega), up_nb (b := 32) (j := 0) (c := 25) _ _ (by omega), up_at])) dX7_advance_208 ?_
          refine r_iconst hC dX7_advance_211 ?_
          refine r_icmp_ne (tgt := 281) hC (by decide) (by decide) dX7_advance_212 (by decide) (fun _ => ?_) (fun z => absurd z (by decide))
          exact r_vret hC hr hlk hI (by have ht : (0 : Int) = soF (S 24) (S 25 0).toNat q := (by unfold soF; rw [if_pos (by omega)]); rw [t2, hT, ad_1]; exact ad_cg hz ht (by unfold teF; rw [if_pos (by omega)]) (av_ne (by rw [← ht]; decide)).symm (aw_ne (by rw [← ht]; decide)).symm) dX7_advance_281
      · skip
        refine r_aload_n hC hl dX7_advance_21 0 rfl ?_
        refine r_dup hC rfl dX7_advance_22 ?_
        refine g_mo  (v := .int (J (T 25 2))) hC hI 7 (by decide) fl_RX7_138 rfl rfl dX7_advance_23 ?_
        refine r_iconst hC dX7_advance_26 ?_
        refine r_iadd hC dX7_advance_27 ?_
        refine p_mo7  hC hI fl_RX7_138 dX7_advance_28 (fun H locs hI => ?_)
        refine r_goto (tgt := 8) hC dX7_advance_31 (by decide) ?_
        have hs2 : skN (fB (S 24)) ((S 25 0).toNat - (q + 1)) (q + 1) = zB (S 24) (S 25 0).toNat (S 25 3).toNat := by
          rw [← hsq, show (S 25 0).toNat - q = ((S 25 0).toNat - (q + 1)) + 1 by omega, sk_t (f := fB (S 24)) (decide_eq_true (by omega))]
        exact ih8 (q + 1) _  (by omega) (by omega) (by rw [t2, hT, up_up]; rfl) hs2 _ _ _ hI (lv_sub hl [0] rfl)
  exact hL8 _ ((S 25 3).toNat) _  (Nat.lt_succ_self _) (by omega) (by rw [show (((S 25 3).toNat : Nat) : Int) = S 25 3 by omega]) rfl _ _ _ hI (lv_sub hl [0] rfl)
