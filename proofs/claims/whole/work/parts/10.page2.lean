def cmpZ (x y : Int) : Int := if y < x then 1 else if x < y then -1 else 0
theorem JL_t {x : Int} (h : -9223372036854775808 ≤ x ∧ x ≤ 9223372036854775807) : (JL x).toInt = x := Int64.toInt_ofInt_of_le (by omega) (by omega)
section R10
variable {p : Program} {l : Launch} {e : Env} {R : Room} {s : State} {m : MethodId} {args : Array Value} {below : List Frame} {meth : Method} {c : Code} {H : Heap} {locs : List Loc} {cells slots : Nat} {Q : State → Prop}
variable {cc : ByteArray} {nL pc : Nat} {own : String} {ls : Array Slot} {rest st : List Value} {X : XT} {a : Nat → Nat} {B : Nat} {S S' : St} {lv : List (Nat × Value)}
theorem r_lcmp (hC : Cx p c cc nL s m args own X B) {x y : Int} (hx : -9223372036854775808 ≤ x ∧ x ≤ 9223372036854775807) (hy : -9223372036854775808 ≤ y ∧ y ≤ 9223372036854775807) (hdg : decode cc pc = .ok (.lcmp, 1)) (k : W p l e R s m args below meth c H locs cells slots Q (F0 m (pc + 1) ls (.int (J (cmpZ x y)) :: rest))) : W p l e R s m args below meth c H locs cells slots Q (F0 m pc ls (.long (JL y) :: .long (JL x) :: rest)) := by
  refine W.lcmp hC.1 hC.2.1 hdg ?_
  have e1 : lg_cmp (JL x) (JL y) = J (cmpZ x y) := by
    unfold lg_cmp cmpZ
    simp only [gt_iff_lt, Int64.lt_iff_toInt_lt, JL_t hx, JL_t hy, ← Int64.toInt_inj]
    (repeat' split) <;> first | rfl | omega
  rw [e1]
  exact k
theorem r_i2l (hC : Cx p c cc nL s m args own X B) {x : Int} (hx : -2147483648 ≤ x ∧ x ≤ 2147483647) (hdg : decode cc pc = .ok (.i2l, 1)) (k : W p l e R s m args below meth c H locs cells slots Q (F0 m (pc + 1) ls (.long (JL x) :: rest))) : W p l e R s m args below meth c H locs cells slots Q (F0 m pc ls (.int (J x) :: rest)) :=
  lv_i2l hC.1 hC.2.1 hdg (by
    apply Int64.toInt_inj.mp
    rw [Int32.toInt_toInt64, J_t hx, JL_t (by omega)]) k
theorem r_l2i (hC : Cx p c cc nL s m args own X B) {x : Int} (hdg : decode cc pc = .ok (.l2i, 1)) (k : W p l e R s m args below meth c H locs cells slots Q (F0 m (pc + 1) ls (.int (J x) :: rest))) : W p l e R s m args below meth c H locs cells slots Q (F0 m pc ls (.long (JL x) :: rest)) :=
  lv_l2i hC.1 hC.2.1 hdg (by unfold JL J; simp) k
theorem r_c_eq (hC : Cx p c cc nL s m args own X B) {x y off : Int} {tgt : Nat} (hdg : decode cc pc = .ok (.ifCond .eq off, 3)) (ht : (pc : Int) + off = (tgt : Int)) (kt : x = y → W p l e R s m args below meth c H locs cells slots Q (F0 m tgt ls rest)) (kf : x ≠ y → W p l e R s m args below meth c H locs cells slots Q (F0 m (pc + 3) ls rest)) : W p l e R s m args below meth c H locs cells slots Q (F0 m pc ls (.int (J (cmpZ x y)) :: rest)) := r_if_eq hC (by unfold cmpZ; (repeat' split) <;> omega) hdg ht (fun h => kt (by unfold cmpZ at h; (repeat' split at h) <;> omega)) (fun h => kf (by unfold cmpZ at h; (repeat' split at h) <;> omega))
theorem r_c_ne (hC : Cx p c cc nL s m args own X B) {x y off : Int} {tgt : Nat} (hdg : decode cc pc = .ok (.ifCond .ne off, 3)) (ht : (pc : Int) + off = (tgt : Int)) (kt : x ≠ y → W p l e R s m args below meth c H locs cells slots Q (F0 m tgt ls rest)) (kf : x = y → W p l e R s m args below meth c H locs cells slots Q (F0 m (pc + 3) ls rest)) : W p l e R s m args below meth c H locs cells slots Q (F0 m pc ls (.int (J (cmpZ x y)) :: rest)) := r_if_ne hC (by unfold cmpZ; (repeat' split) <;> omega) hdg ht (fun h => kt (by unfold cmpZ at h; (repeat' split at h) <;> omega)) (fun h => kf (by unfold cmpZ at h; (repeat' split at h) <;> omega))
theorem r_c_lt (hC : Cx p c cc nL s m args own X B) {x y off : Int} {tgt : Nat} (hdg : decode cc pc = .ok (.ifCond .lt off, 3)) (ht : (pc : Int) + off = (tgt : Int)) (kt : x < y → W p l e R s m args below meth c H locs cells slots Q (F0 m tgt ls rest)) (kf : y ≤ x → W p l e R s m args below meth c H locs cells slots Q (F0 m (pc + 3) ls rest)) : W p l e R s m args below meth c H locs cells slots Q (F0 m pc ls (.int (J (cmpZ x y)) :: rest)) := r_if_lt hC (by unfold cmpZ; (repeat' split) <;> omega) hdg ht (fun h => kt (by unfold cmpZ at h; (repeat' split at h) <;> omega)) (fun h => kf (by unfold cmpZ at h; (repeat' split at h) <;> omega))
theorem r_c_ge (hC : Cx p c cc nL s m args own X B) {x y off : Int} {tgt : Nat} (hdg : decode cc pc = .ok (.ifCond .ge off, 3)) (ht : (pc : Int) + off = (tgt : Int)) (kt : y ≤ x → W p l e R s m args below meth c H locs cells slots Q (F0 m tgt ls rest)) (kf : x < y → W p l e R s m args below meth c H locs cells slots Q (F0 m (pc + 3) ls rest)) : W p l e R s m args below meth c H locs cells slots Q (F0 m pc ls (.int (J (cmpZ x y)) :: rest)) := r_if_ge hC (by unfold cmpZ; (repeat' split) <;> omega) hdg ht (fun h => kt (by unfold cmpZ at h; (repeat' split at h) <;> omega)) (fun h => kf (by unfold cmpZ at h; (repeat' split at h) <;> omega))
theorem r_c_gt (hC : Cx p c cc nL s m args own X B) {x y off : Int} {tgt : Nat} (hdg : decode cc pc = .ok (.ifCond .gt off, 3)) (ht : (pc : Int) + off = (tgt : Int)) (kt : y < x → W p l e R s m args below meth c H locs cells slots Q (F0 m tgt ls rest)) (kf : x ≤ y → W p l e R s m args below meth c H locs cells slots Q (F0 m (pc + 3) ls rest)) : W p l e R s m args below meth c H locs cells slots Q (F0 m pc ls (.int (J (cmpZ x y)) :: rest)) := r_if_gt hC (by unfold cmpZ; (repeat' split) <;> omega) hdg ht (fun h => kt (by unfold cmpZ at h; (repeat' split at h) <;> omega)) (fun h => kf (by unfold cmpZ at h; (repeat' split at h) <;> omega))
theorem r_c_le (hC : Cx p c cc nL s m args own X B) {x y off : Int} {tgt : Nat} (hdg : decode cc pc = .ok (.ifCond .le off, 3)) (ht : (pc : Int) + off = (tgt : Int)) (kt : x ≤ y → W p l e R s m args below meth c H locs cells slots Q (F0 m tgt ls rest)) (kf : y < x → W p l e R s m args below meth c H locs cells slots Q (F0 m (pc + 3) ls rest)) : W p l e R s m args below meth c H locs cells slots Q (F0 m pc ls (.int (J (cmpZ x y)) :: rest)) := r_if_le hC (by unfold cmpZ; (repeat' split) <;> omega) hdg ht (fun h => kt (by unfold cmpZ at h; (repeat' split at h) <;> omega)) (fun h => kf (by unfold cmpZ at h; (repeat' split at h) <;> omega))
end R10

def sumF (f : Nat → Int) : Nat → Int
  | 0 => 0
  | n + 1 => sumF f n + f n
/-- the first of n places from i on at which f is so, else -1 -/
def fsF (f : Nat → Bool) : Nat → Nat → Int
  | 0, _ => -1
  | n + 1, i => if f i = true then (i : Int) else fsF f n (i + 1)
/-- the first place of n at which f is most (above -1), and that most -/
def beF (f : Nat → Int) : Nat → Int × Int
  | 0 => (-1, -1)
  | n + 1 => if (beF f n).2 < f n then ((n : Int), f n) else beF f n
theorem sum_rg {f : Nat → Int} {A : Int} : ∀ n : Nat, (∀ i, i < n → 0 ≤ f i ∧ f i ≤ A) → 0 ≤ sumF f n ∧ sumF f n ≤ A * n
  | 0, _ => by simp [sumF]
  | n + 1, h => by
    have h1 := sum_rg n (fun i hi => h i (by omega))
    have h2 := h n (by omega)
    have e : A * ((n + 1 : Nat) : Int) = A * (n : Int) + A := by rw [Int.natCast_add, Int.mul_add]; omega
    rw [e]
    show 0 ≤ sumF f n + f n ∧ sumF f n + f n ≤ _
    omega
theorem fs_t {f : Nat → Bool} {n i : Nat} (h : f i = true) : fsF f (n + 1) i = (i : Int) := if_pos h
theorem fs_f {f : Nat → Bool} {n i : Nat} (h : ¬ f i = true) : fsF f (n + 1) i = fsF f n (i + 1) := if_neg h
theorem be_t {f : Nat → Int} {n : Nat} (h : (beF f n).2 < f n) : beF f (n + 1) = ((n : Int), f n) := if_pos h
theorem be_f {f : Nat → Int} {n : Nat} (h : ¬ (beF f n).2 < f n) : beF f (n + 1) = beF f n := if_neg h
theorem sum_cg {f g : Nat → Int} : ∀ n : Nat, (∀ i, i < n → f i = g i) → sumF f n = sumF g n
  | 0, _ => rfl
  | n + 1, h => by
    show sumF f n + f n = sumF g n + g n
    rw [sum_cg n (fun i hi => h i (by omega)), h n (by omega)]

set_option maxHeartbeats 4000000 in
set_option maxRecDepth 100000 in
theorem c_X1_firstWhite (l : Launch) (X : XT) (a : Nat → Nat) (B : Nat) (S : St) (k : Nat) (i : Nat) (mo : Nat) (hk : k < 3) (hi : i < 8) (hV : VP (S k) i) (hmo : mo ≤ 300) : CT l X a B 3 yX1_firstWhite cX1_firstWhite 3 (some .int) [.ref (a (25 + 8 * k + i)), .int (J (mo : Int))] S (Qi X a B (fsF (fun j => decide (bkP (S k) i (j : Int) = 0)) (mo + 1) 0) (S)) := by
  refine CT.of (by decide +kernel) (Nat.le_of_ble_eq_true rfl) ?_
  intro p e s m below meth c ls hC hr hlk hI hl
  have hC : Cx p c cX1_firstWhite 3 s m [.ref (a (25 + 8 * k + i)), .int (J (mo : Int))].toArray RX1 X B := hC
  have hl : lv_has ls 3 [(0, .ref (a (25 + 8 * k + i))), (1, .int (J (mo : Int)))] := hl
  refine r_iconst hC dX1_firstWhite_0 ?_
  refine r_istore_n (lv1 := [(2, .int (J 0)), (0, .ref (a (25 + 8 * k + i))), (1, .int (J (mo : Int)))]) hC hl dX1_firstWhite_1 2 rfl (by decide) rfl (fun ls hl => ?_)
  have hL2 : ∀ (fu : Nat) (q : Nat) (x2 : Int), mo + 1 - q < fu → (x2 = (q : Int)) → (q ≤ mo + 1) → (fsF (fun j => decide (bkP (S k) i (j : Int) = 0)) (mo + 1 - q) q = fsF (fun j => decide (bkP (S k) i (j : Int) = 0)) (mo + 1) 0) → ∀ (H : Heap) (locs : List Loc) (ls : Array Slot), IS X a B s (S) H locs → lv_has ls 3 [(2, .int (J x2)), (0, .ref (a (25 + 8 * k + i))), (1, .int (J (mo : Int)))] → W p l e (rmD 3) s m [.ref (a (25 + 8 * k + i)), .int (J (mo : Int))].toArray below meth c H locs 0 0 (MQ below (Qi X a B (fsF (fun j => decide (bkP (S k) i (j : Int) = 0)) (mo + 1) 0) (S)) [.ref (a (25 + 8 * k + i)), .int (J (mo : Int))].toArray s 0 0 (fun q => B ≤ q)) (F0 m 2 ls []) := by
    intro fu
    induction fu with
    | zero => intro q x2 hm; exact absurd hm (Nat.not_lt_zero _)
    | succ fu ih2 =>
      intro q x2 hm e2 hq hf H locs ls hI hl
      subst e2
      refine r_iload_n hC hl dX1_firstWhite_2 0 rfl ?_
      refine r_iload_n hC hl dX1_firstWhite_3 2 rfl ?_
      refine r_icmp_gt (tgt := 23) hC (by omega) (by omega) dX1_firstWhite_4 (by decide) (fun c_1 => ?_) (fun c_1 => ?_)
      · skip
        refine r_iconst hC dX1_firstWhite_23 ?_
        exact r_iret hC hr hlk hI (by rw [← hf, show mo + 1 - q = 0 by omega]; rfl) (rfl) dX1_firstWhite_24
      · skip
        refine r_aload_n hC hl dX1_firstWhite_7 1 rfl ?_
        refine r_iload_n hC hl dX1_firstWhite_8 0 rfl ?_
        refine r_cVi hC hI hl [.int (J (q : Int))] [] (c_X1_blackOn l X a B S k i (q : Int) (by omega) (by omega) hV (by omega)) ml_RX1_41 ev_X1_blackOn (rc_pg (S := S) hC hI (by omega) (by omega)) ⟨Nat.le_of_ble_eq_true rfl, Nat.le_of_ble_eq_true rfl⟩ ⟨Nat.zero_le _, Nat.zero_le _⟩ (Nat.le_of_ble_eq_true rfl) rfl dX1_firstWhite_9 (fun H locs hI => ?_)
        have hbk := bk_rg (R := S k) hV (n := (q : Int)) (by omega)
        refine r_if_ne (tgt := 17) hC (by omega) dX1_firstWhite_12 (by decide) (fun c_2 => ?_) (fun c_2 => ?_)
        · skip
          refine r_iinc (lv1 := [(2, .int (J ((q : Int) + 1))), (0, .ref (a (25 + 8 * k + i))), (1, .int (J (mo : Int)))]) hC hl dX1_firstWhite_17 0 rfl (by decide) rfl (fun ls hl => ?_)
          refine r_goto (tgt := 2) hC dX1_firstWhite_20 (by decide) ?_
          have hf2 : fsF (fun j => decide (bkP (S k) i (j : Int) = 0)) (mo + 1 - (q + 1)) (q + 1) = fsF (fun j => decide (bkP (S k) i (j : Int) = 0)) (mo + 1) 0 := by
            rw [← hf, show mo + 1 - q = (mo + 1 - (q + 1)) + 1 by omega, fs_f (by simpa using c_2)]
          exact ih2 (q + 1) ((q : Int) + 1) (by omega) (by omega) (by omega) hf2 _ _ _ hI (lv_sub hl [0, 1, 2] rfl)
        · skip
          refine r_iload_n hC hl dX1_firstWhite_15 0 rfl ?_
          exact r_iret hC hr hlk hI (by rw [← hf, show mo + 1 - q = (mo - q) + 1 by omega, fs_t (by simpa using c_2)]) (rfl) dX1_firstWhite_16
  exact hL2 _ 0 0 (Nat.lt_succ_self _) (by omega) (by omega) rfl _ _ _ hI (lv_sub hl [0, 1, 2] rfl)

set_option maxHeartbeats 4000000 in
set_option maxRecDepth 100000 in
theorem c_X1_mostBelievedKind (l : Launch) (X : XT) (a : Nat → Nat) (B : Nat) (S : St) (k : Nat) (i : Nat) (n : Int) (w : Int) (hk : k < 3) (hi : i < 8) (hV : VP (S k) i) (hn : 0 ≤ n ∧ n ≤ 300) (hw : 0 ≤ w ∧ w ≤ 9) : CT l X a B 3 yX1_mostBelievedKind cX1_mostBelievedKind 7 (some .int) [.ref (a (25 + 8 * k + i)), .int (J n), .int (J w)] S (Qi X a B ((beF (fun j => blA (S k) i (j : Int) (S k (21 + 5 * i)) n w) 6).1) (S)) := by
  refine CT.of (by decide +kernel) (Nat.le_of_ble_eq_true rfl) ?_
  intro p e s m below meth c ls hC hr hlk hI hl
  have hC : Cx p c cX1_mostBelievedKind 7 s m [.ref (a (25 + 8 * k + i)), .int (J n), .int (J w)].toArray RX1 X B := hC
  have hl : lv_has ls 7 [(0, .ref (a (25 + 8 * k + i))), (1, .int (J n)), (2, .int (J w))] := hl
  obtain ⟨h18, h19, h20, h21, h22⟩ := id hV
  refine r_iconst hC dX1_mostBelievedKind_0 ?_
  refine r_istore_n (lv1 := [(3, .int (J 0)), (0, .ref (a (25 + 8 * k + i))), (1, .int (J n)), (2, .int (J w))]) hC hl dX1_mostBelievedKind_1 3 rfl (by decide) rfl (fun ls hl => ?_)
  refine r_iconst hC dX1_mostBelievedKind_2 ?_
  refine r_istore (lv1 := [(4, .int (J (-1))), (3, .int (J 0)), (0, .ref (a (25 + 8 * k + i))), (1, .int (J n)), (2, .int (J w))]) hC hl dX1_mostBelievedKind_3 (by decide) rfl (fun ls hl => ?_)
  refine r_iconst hC dX1_mostBelievedKind_5 ?_
  refine r_istore (lv1 := [(5, .int (J 0)), (4, .int (J (-1))), (3, .int (J 0)), (0, .ref (a (25 + 8 * k + i))), (1, .int (J n)), (2, .int (J w))]) hC hl dX1_mostBelievedKind_6 (by decide) rfl (fun ls hl => ?_)
  have hL8 : ∀ (fu : Nat) (q : Nat) (x5 x4 x3 : Int), 6 - q < fu → (x5 = (q : Int)) → (x4 = (beF (fun j => blA (S k) i (j : Int) (S k (21 + 5 * i)) n w) q).2) → (x3 = if q = 0 then 0 else (beF (fun j => blA (S k) i (j : Int) (S k (21 + 5 * i)) n w) q).1) → (q ≤ 6) → (-1 ≤ (beF (fun j => blA (S k) i (j : Int) (S k (21 + 5 * i)) n w) q).2 ∧ (beF (fun j => blA (S k) i (j : Int) (S k (21 + 5 * i)) n w) q).2 ≤ 300) → ∀ (H : Heap) (locs : List Loc) (ls : Array Slot), IS X a B s (S) H locs → lv_has ls 7 [(5, .int (J x5)), (4, .int (J x4)), (3, .int (J x3)), (0, .ref (a (25 + 8 * k + i))), (1, .int (J n)), (2, .int (J w))] → W p l e (rmD 3) s m [.ref (a (25 + 8 * k + i)), .int (J n), .int (J w)].toArray below meth c H locs 0 0 (MQ below (Qi X a B ((beF (fun j => blA (S k) i (j : Int) (S k (21 + 5 * i)) n w) 6).1) (S)) [.ref (a (25 + 8 * k + i)), .int (J n), .int (J w)].toArray s 0 0 (fun q => B ≤ q)) (F0 m 8 ls []) := by
    intro fu
    induction fu with
    | zero => intro q x5 x4 x3 hm; exact absurd hm (Nat.not_lt_zero _)
    | succ fu ih8 =>
      intro q x5 x4 x3 hm e5 e4 e3 hq hb H locs ls hI hl
      subst e5; subst e4; subst e3
      refine r_iload hC hl dX1_mostBelievedKind_8 0 rfl ?_
      refine r_bipush hC (by decide) dX1_mostBelievedKind_10 ?_
      refine r_icmp_ge (tgt := 49) hC (by omega) (by omega) dX1_mostBelievedKind_12 (by decide) (fun c_1 => ?_) (fun c_1 => ?_)
      · skip
        refine r_iload_n hC hl dX1_mostBelievedKind_49 2 rfl ?_
        exact r_iret hC hr hlk hI (by rw [if_neg (by omega), show q = 6 by omega]) (rfl) dX1_mostBelievedKind_50
      · skip
        refine r_aload_n hC hl dX1_mostBelievedKind_15 3 rfl ?_
        refine r_iload hC hl dX1_mostBelievedKind_16 0 rfl ?_
        refine r_aload_n hC hl dX1_mostBelievedKind_18 3 rfl ?_
        refine g_pg (k1 := k) (i := i) (v := .int (J (S k (21 + 5 * i)))) hC hI (by omega) (by omega) 3 (by decide) fl_RX1_19 rfl rfl dX1_mostBelievedKind_19 ?_
        refine r_iload_n hC hl dX1_mostBelievedKind_22 4 rfl ?_
        refine r_iload_n hC hl dX1_mostBelievedKind_23 5 rfl ?_
        refine r_cVi hC hI hl [.int (J (q : Int)), .int (J (S k (21 + 5 * i))), .int (J n), .int (J w)] [] (c_X1_believedAs l X a B S k i (q : Int) (S k (21 + 5 * i)) n w (by omega) (by omega) hV (by omega) (by omega) (by omega) (by omega)) ml_RX1_34 ev_X1_believedAs (rc_pg (S := S) hC hI (by omega) (by omega)) ⟨Nat.le_of_ble_eq_true rfl, Nat.le_of_ble_eq_true rfl⟩ ⟨Nat.zero_le _, Nat.zero_le _⟩ (Nat.le_of_ble_eq_true rfl) rfl dX1_mostBelievedKind_24 (fun H locs hI => ?_)
        have hbl := blA_rg (R := S k) hV (k := (q : Int)) (u := S k (21 + 5 * i)) (n := n) (w := w) (by omega) h21 hn hw
        refine r_istore (lv1 := [(6, .int (J (blA (S k) i (q : Int) (S k (21 + 5 * i)) n w))), (5, .int (J (q : Int))), (4, .int (J ((beF (fun j => blA (S k) i (j : Int) (S k (21 + 5 * i)) n w) q).2))), (3, .int (J (if q = 0 then 0 else (beF (fun j => blA (S k) i (j : Int) (S k (21 + 5 * i)) n w) q).1))), (0, .ref (a (25 + 8 * k + i))), (1, .int (J n)), (2, .int (J w))]) hC hl dX1_mostBelievedKind_27 (by decide) rfl (fun ls hl => ?_)
        refine r_iload hC hl dX1_mostBelievedKind_29 0 rfl ?_
        refine r_iload hC hl dX1_mostBelievedKind_31 2 rfl ?_
        refine r_icmp_le (tgt := 43) hC (by omega) (by omega) dX1_mostBelievedKind_33 (by decide) (fun c_2 => ?_) (fun c_2 => ?_)
        · skip
          refine r_iinc (lv1 := [(5, .int (J ((q : Int) + 1))), (6, .int (J (blA (S k) i (q : Int) (S k (21 + 5 * i)) n w))), (4, .int (J ((beF (fun j => blA (S k) i (j : Int) (S k (21 + 5 * i)) n w) q).2))), (3, .int (J (if q = 0 then 0 else (beF (fun j => blA (S k) i (j : Int) (S k (21 + 5 * i)) n w) q).1))), (0, .ref (a (25 + 8 * k + i))), (1, .int (J n)), (2, .int (J w))]) hC hl dX1_mostBelievedKind_43 1 rfl (by decide) rfl (fun ls hl => ?_)
          refine r_goto (tgt := 8) hC dX1_mostBelievedKind_46 (by decide) ?_
          have hbq : beF (fun j => blA (S k) i (j : Int) (S k (21 + 5 * i)) n w) (q + 1) = beF (fun j => blA (S k) i (j : Int) (S k (21 + 5 * i)) n w) q := be_f (Int.not_lt.mpr c_2)
          have hq0 : q ≠ 0 := by
            intro z
            rw [z] at c_2 hbl
            have c_3 : _ ≤ (-1 : Int) := c_2
            omega
          exact ih8 (q + 1) ((q : Int) + 1) ((beF (fun j => blA (S k) i (j : Int) (S k (21 + 5 * i)) n w) q).2) (if q = 0 then 0 else (beF (fun j => blA (S k) i (j : Int) (S k (21 + 5 * i)) n w) q).1) (by omega) (by omega) (by rw [hbq]) (by rw [hbq, if_neg hq0, if_neg (Nat.succ_ne_zero q)]) (by omega) (by rw [hbq]; exact hb) _ _ _ hI (lv_sub hl [0, 2, 3, 4, 5, 6] rfl)
        · skip
          refine r_iload hC hl dX1_mostBelievedKind_36 1 rfl ?_
          refine r_istore_n (lv1 := [(3, .int (J (q : Int))), (6, .int (J (blA (S k) i (q : Int) (S k (21 + 5 * i)) n w))), (5, .int (J (q : Int))), (4, .int (J ((beF (fun j => blA (S k) i (j : Int) (S k (21 + 5 * i)) n w) q).2))), (0, .ref (a (25 + 8 * k + i))), (1, .int (J n)), (2, .int (J w))]) hC hl dX1_mostBelievedKind_38 3 rfl (by decide) rfl (fun ls hl => ?_)
          refine r_iload hC hl dX1_mostBelievedKind_39 1 rfl ?_
          refine r_istore (lv1 := [(4, .int (J (blA (S k) i (q : Int) (S k (21 + 5 * i)) n w))), (3, .int (J (q : Int))), (6, .int (J (blA (S k) i (q : Int) (S k (21 + 5 * i)) n w))), (5, .int (J (q : Int))), (0, .ref (a (25 + 8 * k + i))), (1, .int (J n)), (2, .int (J w))]) hC hl dX1_mostBelievedKind_41 (by decide) rfl (fun ls hl => ?_)
          refine r_iinc (lv1 := [(5, .int (J ((q : Int) + 1))), (4, .int (J (blA (S k) i (q : Int) (S k (21 + 5 * i)) n w))), (3, .int (J (q : Int))), (6, .int (J (blA (S k) i (q : Int) (S k (21 + 5 * i)) n w))), (0, .ref (a (25 + 8 * k + i))), (1, .int (J n)), (2, .int (J w))]) hC hl dX1_mostBelievedKind_43 3 rfl (by decide) rfl (fun ls hl => ?_)
          refine r_goto (tgt := 8) hC dX1_mostBelievedKind_46 (by decide) ?_
          have hbq : beF (fun j => blA (S k) i (j : Int) (S k (21 + 5 * i)) n w) (q + 1) = ((q : Int), (fun j => blA (S k) i (j : Int) (S k (21 + 5 * i)) n w) q) := be_t c_2
          exact ih8 (q + 1) ((q : Int) + 1) (blA (S k) i (q : Int) (S k (21 + 5 * i)) n w) (q : Int) (by omega) (by omega) (by rw [hbq]) (by rw [hbq, if_neg (Nat.succ_ne_zero q)]) (by omega) (by rw [hbq]; exact ⟨Int.le_trans (by decide) hbl.1, hbl.2⟩) _ _ _ hI (lv_sub hl [0, 1, 2, 4, 5, 6] rfl)
  exact hL8 _ 0 0 (-1) 0 (Nat.lt_succ_self _) (by omega) rfl rfl (by omega) (by show (-1 : Int) ≤ -1 ∧ (-1 : Int) ≤ 300; omega) _ _ _ hI (lv_sub hl [0, 1, 2, 3, 4, 5] rfl)
