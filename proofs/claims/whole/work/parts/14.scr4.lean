section R14
variable {p : Program} {l : Launch} {e : Env} {R : Room} {s : State} {m : MethodId} {args : Array Value} {below : List Frame} {meth : Method} {c : Code} {H : Heap} {locs : List Loc} {cells slots : Nat} {Q : State → Prop}
variable {cc : ByteArray} {nL pc : Nat} {own : String} {ls : Array Slot} {rest st : List Value} {X : XT} {a : Nat → Nat} {B : Nat} {S S' : St} {lv : List (Nat × Value)}
theorem r_cpD (hC : Cx p c cc nL s m args own X B) (hI : IS X a B s S H locs) (hl : lv_has ls nL lv) {k1 k2 index : Nat} (hk1 : k1 < 3) (hk2 : k2 < 3) (hlk : Cond.methodLink own index arraycopyName ∈ TB) (hR : 1 ≤ R.frames ∧ (rest.map fun v => v.category).sum + (nativeFrameWords "java/lang/System" "arraycopy" 5 + 11) ≤ R.locals) (hdg : decode cc pc = .ok (.invokestatic index, 3)) (k : ∀ (H1 : Heap) (locs1 : List Loc), IS X a B s (setB S k1 (fun j => if 6 ≤ j ∧ j < 18 then S k2 j else S k1 j)) H1 locs1 → W p l e R s m args below meth c H1 locs1 cells slots Q (F0 m (pc + 3) ls rest)) : W p l e R s m args below meth c H locs cells slots Q (F0 m pc ls (.int (J 12) :: .int (J 0) :: .ref (a (8 + k1)) :: .int (J 0) :: .ref (a (8 + k2)) :: rest)) := by
  refine va_copyi hC.1 hC.2.1 (by rw [hC.2.2.1]; exact hl.1.symm) hC.2.2.2.1 (hC.2.2.2.2.1 _ hlk) (hC.2.2.2.2.1 _ wnat) (hC.2.2.2.2.1 _ wt_java_lang_Systemarraycopy) (hC.2.2.2.2.1 _ wi_RJ10) hC.2.2.2.2.2.1.1 hI.1 hI.2.1 hI.2.2 (8 + k2) (8 + k1) 0 0 (ty := .int) (ws_at (by omega) (ce_dk X a S hk2)) (ws_at (by omega) (ce_dk X a S hk1)) rfl rfl rfl (by decide) (by decide) (by decide) (by decide) (by decide) (fun _ _ => rfl) hR.1 hR.2 hdg (fun H1 locs1 hP hD hS => k H1 locs1 ?_)
  have hE : cellAt X a (setB S k1 (fun j => if 6 ≤ j ∧ j < 18 then S k2 j else S k1 j)) (8 + k1) = .inl (X.2.1.1, 12, .inl (va_cpy (bd 12 (fun j => S k2 (6 + j))) (bd 12 (fun j => S k1 (6 + j))) (J 0).toNatClampNeg (J 0).toNatClampNeg (J 12).toNatClampNeg)) := by
    rw [ce_dk X a _ hk1]
    show (Sum.inl _ : va_E) = _
    congr 3
    congr 1
    funext q
    simp only [bd, va_cpy, setB_at, show (J 0).toNatClampNeg = 0 from rfl, show (J 12).toNatClampNeg = 12 from rfl]
    by_cases hq : q < 12
    · rw [if_pos hq, if_pos (by omega), if_pos (by omega), if_pos (by omega)]
      congr 2; omega
    · rw [if_neg hq, if_neg (by omega), if_neg (by omega)]
  have ho : ∀ b j, j < lim b → ownC b j ≠ 8 + k1 → setB S k1 (fun j => if 6 ≤ j ∧ j < 18 then S k2 j else S k1 j) b j = S b j := by
    intro b j hj ho
    by_cases hb : b = k1
    · subst hb
      rw [setB_at]
      by_cases hj2 : 6 ≤ j ∧ j < 18
      · exact absurd (by rw [show j = 6 + (j - 6) by omega]; exact ow_dk hk1 (by omega)) ho
      · rw [if_neg hj2]
    · rw [setB_ne _ _ hb]
  have hw := ws_cp (X := X) (a := a) (by omega) ho hE
  rw [hw] at hP hD
  exact ⟨hP, hD, hS⟩
theorem r_cpL (hC : Cx p c cc nL s m args own X B) (hI : IS X a B s S H locs) (hl : lv_has ls nL lv) {t1 t2 index : Nat} (h1 : t1 < 4) (h2 : t2 < 4) (fr to n : Nat) {x y z : Int} (ex : x = (fr : Int)) (ey : y = (to : Int)) (ez : z = (n : Int)) (hf : fr + n ≤ 40) (ht : to + n ≤ 40) (hlk : Cond.methodLink own index arraycopyName ∈ TB) (hR : 1 ≤ R.frames ∧ (rest.map fun v => v.category).sum + (nativeFrameWords "java/lang/System" "arraycopy" 5 + 11) ≤ R.locals) (hdg : decode cc pc = .ok (.invokestatic index, 3)) (k : ∀ (H1 : Heap) (locs1 : List Loc), IS X a B s (setB S (12 + t2) (fun j => if to ≤ j ∧ j < to + n then S (12 + t1) (fr + (j - to)) else S (12 + t2) j)) H1 locs1 → W p l e R s m args below meth c H1 locs1 cells slots Q (F0 m (pc + 3) ls rest)) : W p l e R s m args below meth c H locs cells slots Q (F0 m pc ls (.int (J z) :: .int (J y) :: .ref (a (21 + t2)) :: .int (J x) :: .ref (a (21 + t1)) :: rest)) := by
  have hx0 : ¬ J x < 0 := by rw [← J_0, J_lt (by omega) (by omega)]; omega
  have hy0 : ¬ J y < 0 := by rw [← J_0, J_lt (by omega) (by omega)]; omega
  have hz0 : ¬ J z < 0 := by rw [← J_0, J_lt (by omega) (by omega)]; omega
  have cx := J_cl ex (by omega)
  have cy := J_cl ey (by omega)
  have cz := J_cl ez (by omega)
  refine va_copyl hC.1 hC.2.1 (by rw [hC.2.2.1]; exact hl.1.symm) hC.2.2.2.1 (hC.2.2.2.2.1 _ hlk) (hC.2.2.2.2.1 _ wnat) (hC.2.2.2.2.1 _ wt_java_lang_Systemarraycopy) (hC.2.2.2.2.1 _ wi_RJ10) hC.2.2.2.2.2.1.1 hI.1 hI.2.1 hI.2.2 (21 + t1) (21 + t2) 1 1 (ty := .long) (ws_at (by omega) (ce_nu X a S h1)) (ws_at (by omega) (ce_nu X a S h2)) rfl rfl rfl hx0 hy0 hz0 (by rw [cx, cz]; exact hf) (by rw [cy, cz]; exact ht) (fun _ _ => rfl) hR.1 hR.2 hdg (fun H1 locs1 hP hD hS => k H1 locs1 ?_)
  have hE : cellAt X a (setB S (12 + t2) (fun j => if to ≤ j ∧ j < to + n then S (12 + t1) (fr + (j - to)) else S (12 + t2) j)) (21 + t2) = .inl (X.2.1.2.1, 40, .inr (.inl (va_cpy (bdL 40 (S (12 + t1))) (bdL 40 (S (12 + t2))) (J x).toNatClampNeg (J y).toNatClampNeg (J z).toNatClampNeg))) := by
    rw [ce_nu X a _ h2, cx, cy, cz]
    show (Sum.inl _ : va_E) = _
    congr 3
    congr 2
    funext q
    simp only [bdL, va_cpy, setB_at]
    by_cases hq : to ≤ q ∧ q < to + n
    · rw [if_pos hq, if_pos hq, if_pos (by omega), if_pos (by omega)]
    · rw [if_neg hq, if_neg hq]
  have ho : ∀ b j, j < lim b → ownC b j ≠ 21 + t2 → setB S (12 + t2) (fun j => if to ≤ j ∧ j < to + n then S (12 + t1) (fr + (j - to)) else S (12 + t2) j) b j = S b j := by
    intro b j hj ho
    by_cases hb : b = 12 + t2
    · subst hb
      exact absurd (ow_nu h2) ho
    · rw [setB_ne _ _ hb]
  have hw := ws_cp (X := X) (a := a) (by omega) ho hE
  rw [hw] at hP hD
  exact ⟨hP, hD, hS⟩
theorem r_i2b (hC : Cx p c cc nL s m args own X B) {x : Int} (hdg : decode cc pc = .ok (.i2b, 1)) (k : W p l e R s m args below meth c H locs cells slots Q (F0 m (pc + 1) ls (.int (J (Int8.ofInt x).toInt) :: rest))) : W p l e R s m args below meth c H locs cells slots Q (F0 m pc ls (.int (J x) :: rest)) := lv_i2b hC.1 hC.2.1 hdg (by unfold J; rw [Int32.toInt8_ofInt, Int32.ofInt_int8ToInt]) k
theorem r_i2s (hC : Cx p c cc nL s m args own X B) {x : Int} (hdg : decode cc pc = .ok (.i2s, 1)) (k : W p l e R s m args below meth c H locs cells slots Q (F0 m (pc + 1) ls (.int (J (Int16.ofInt x).toInt) :: rest))) : W p l e R s m args below meth c H locs cells slots Q (F0 m pc ls (.int (J x) :: rest)) := lv_i2s hC.1 hC.2.1 hdg (by unfold J; rw [Int32.toInt16_ofInt, Int32.ofInt_int16ToInt]) k
end R14
def spF (R : Nat → Int) (i : Nat) : Nat → Int := upR (upR (upR R 3 (R 3 - csF (R (18 + 5 * i)) (R (19 + 5 * i)))) (20 + 5 * i) (tkF (R (18 + 5 * i)) (dkF R 0))) (22 + 5 * i) 0
theorem dk_cg {R R' : Nat → Int} {n : Nat} (h0 : R' 0 = R 0) (h : ∀ j, 6 ≤ j → j < 18 → R' j = R j) (hN : 0 ≤ R 0) : dkF R' n = dkF R n := by
  unfold dkF
  rw [h0]
  exact h _ (by omega) (by omega)
theorem up_eq (S : St) (b j : Nat) (v : Int) : up S b j v = setB S b (upR (S b) j v) := rfl

set_option maxHeartbeats 4000000 in
set_option maxRecDepth 100000 in
theorem c_X2_spendInkOn (l : Launch) (X : XT) (a : Nat → Nat) (B : Nat) (S : St) (k : Nat) (i : Nat) (hk : k < 3) (hi : i < 8) (hN : 0 ≤ S k 0 ∧ S k 0 ≤ 9999) (hd : 0 ≤ dkF (S k) 0 ∧ dkF (S k) 0 ≤ 20) (h18 : 0 ≤ S k (18 + 5 * i) ∧ S k (18 + 5 * i) ≤ 5) (h19 : 0 ≤ S k (19 + 5 * i) ∧ S k (19 + 5 * i) ≤ 99) : CT l X a B 2 yX2_spendInkOn cX2_spendInkOn 2 none [.ref (a (2 + k)), .ref (a (25 + 8 * k + i))] S (Qv X a B (setB S k (spF (S k) i))) := by
  refine CT.of (by decide +kernel) (Nat.le_of_ble_eq_true rfl) ?_
  intro p e s m below meth c ls hC hr hlk hI hl
  have hC : Cx p c cX2_spendInkOn 2 s m [.ref (a (2 + k)), .ref (a (25 + 8 * k + i))].toArray RX2 X B := hC
  have hl : lv_has ls 2 [(0, .ref (a (2 + k))), (1, .ref (a (25 + 8 * k + i)))] := hl
  refine r_aload_n hC hl dX2_spendInkOn_0 0 rfl ?_
  refine r_dup hC rfl dX2_spendInkOn_1 ?_
  refine g_sc (k1 := k) (v := .int (J (S k 3))) hC hI (by omega) 3 (by decide) fl_RX2_19 rfl rfl dX2_spendInkOn_2 ?_
  refine r_aload_n hC hl dX2_spendInkOn_5 1 rfl ?_
  refine g_pg (k1 := k) (i := i) (v := .int (J (S k (18 + 5 * i)))) hC hI (by omega) (by omega) 0 (by decide) fl_RX2_62 rfl rfl dX2_spendInkOn_6 ?_
  refine r_aload_n hC hl dX2_spendInkOn_9 1 rfl ?_
  refine g_pg (k1 := k) (i := i) (v := .int (J (S k (19 + 5 * i)))) hC hI (by omega) (by omega) 1 (by decide) fl_RX2_65 rfl rfl dX2_spendInkOn_10 ?_
  refine r_cSi hC hI hl [.int (J (S k (18 + 5 * i))), .int (J (S k (19 + 5 * i)))] [.int (J (S k 3)), .ref (a (2 + k))] (c_X0_costs l X a B S (S k (18 + 5 * i)) (S k (19 + 5 * i)) (by omega) (by omega)) ml_RX2_52 es_X0_costs ⟨Nat.le_of_ble_eq_true rfl, Nat.le_of_ble_eq_true rfl⟩ ⟨Nat.zero_le _, Nat.zero_le _⟩ (Nat.le_of_ble_eq_true rfl) rfl dX2_spendInkOn_13 (fun H locs hI => ?_)
  refine r_isub hC dX2_spendInkOn_16 ?_
  refine p_sc3 (k1 := k) hC hI (by omega) fl_RX2_19 dX2_spendInkOn_17 (fun H locs hI => ?_)
  refine r_aload_n hC hl dX2_spendInkOn_20 1 rfl ?_
  refine r_aload_n hC hl dX2_spendInkOn_21 1 rfl ?_
  refine g_pg (k1 := k) (i := i) (v := .int (J (S k (18 + 5 * i)))) hC hI (by omega) (by omega) 0 (by decide) fl_RX2_62 rfl (congrArg (fun z => some (Value.int (J z))) (show (up S k 3 ((S k 3) - (csF (S k (18 + 5 * i)) (S k (19 + 5 * i))))) k (18 + 5 * i) = _ by rw [up_nj (b := k) (j := 3) (c := k) (i := 18 + 5 * i) _ _ (by omega)])) dX2_spendInkOn_22 ?_
  refine r_aload_n hC hl dX2_spendInkOn_25 0 rfl ?_
  refine r_iconst hC dX2_spendInkOn_26 ?_
  refine r_cVi hC hI hl [.int (J 0)] [.int (J (S k (18 + 5 * i))), .ref (a (25 + 8 * k + i))] (c_X2_darkOn l X a B (up S k 3 ((S k 3) - (csF (S k (18 + 5 * i)) (S k (19 + 5 * i))))) k 0 (by omega) (by rw [up_nj _ _ (by decide)]; exact hN) (by omega)) ml_RX2_74 ev_X2_darkOn (rc_sc (S := up S k 3 ((S k 3) - (csF (S k (18 + 5 * i)) (S k (19 + 5 * i))))) hC hI (by omega)) ⟨Nat.le_of_ble_eq_true rfl, Nat.le_of_ble_eq_true rfl⟩ ⟨Nat.zero_le _, Nat.zero_le _⟩ (Nat.le_of_ble_eq_true rfl) rfl dX2_spendInkOn_27 (fun H locs hI => ?_)
  refine r_as (y := dkF (S k) 0) hC (dk_cg (by rw [up_nj _ _ (by decide)]) (fun j h1 h2 => by rw [up_nj _ _ (by omega)]) hN.1) ?_
  refine r_cSi hC hI hl [.int (J (S k (18 + 5 * i))), .int (J (dkF (S k) 0))] [.ref (a (25 + 8 * k + i))] (c_X0_takes l X a B (up S k 3 ((S k 3) - (csF (S k (18 + 5 * i)) (S k (19 + 5 * i))))) (S k (18 + 5 * i)) (dkF (S k) 0) (by omega) (by omega)) ml_RX2_78 es_X0_takes ⟨Nat.le_of_ble_eq_true rfl, Nat.le_of_ble_eq_true rfl⟩ ⟨Nat.zero_le _, Nat.zero_le _⟩ (Nat.le_of_ble_eq_true rfl) rfl dX2_spendInkOn_30 (fun H locs hI => ?_)
  refine p_pg2 (k1 := k) (i := i) hC hI (by omega) (by omega) fl_RX2_81 dX2_spendInkOn_33 (fun H locs hI => ?_)
  refine r_aload_n hC hl dX2_spendInkOn_36 1 rfl ?_
  refine r_iconst hC dX2_spendInkOn_37 ?_
  refine p_pg4 (k1 := k) (i := i) hC hI (by omega) (by omega) fl_RX2_84 dX2_spendInkOn_38 (fun H locs hI => ?_)
  exact r_vret hC hr hlk hI (by rw [up_eq S, up_set, up_set]; rfl) dX2_spendInkOn_41
