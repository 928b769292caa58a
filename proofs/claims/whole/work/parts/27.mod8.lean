theorem sum_one {f g : Nat → Int} {p : Nat} (h : ∀ i, i ≠ p → g i = f i) : ∀ c : Nat, p < c → sumF g c = sumF f c + (g p - f p)
  | 0, hc => absurd hc (Nat.not_lt_zero p)
  | c + 1, hc => by
    show sumF g c + g c = sumF f c + f c + (g p - f p)
    by_cases e : p = c
    · subst e
      rw [sum_cg p (fun i hi => h i (by omega))]
      omega
    · rw [sum_one h c (by omega), h c (fun z => e z.symm)]
      omega
theorem al_sh {R : Nat → Int} {n : Int} {p : Nat} (hs : R (21 + 5 * p) = 1) (hp : p < (R 5).toNat) : sumF (fun i => blP (upR R (21 + 5 * p) 0) i n (upR R (21 + 5 * p) 0 4)) (upR R (21 + 5 * p) 0 5).toNat = sumF (fun i => blP R i n (R 4)) (R 5).toNat + stD R n p := by
  rw [upR_ne (q := 4) _ _ (by omega), upR_ne (q := 5) _ _ (by omega)]
  rw [sum_one (f := fun i => blP R i n (R 4)) (p := p) (fun i hi => ?_) _ hp]
  · congr 1
    show blP (upR R (21 + 5 * p) 0) p n (R 4) - blP R p n (R 4) = _
    unfold blP blA stD
    rw [upR_at, upR_ne (q := 18 + 5 * p) _ _ (by omega), upR_ne (q := 20 + 5 * p) _ _ (by omega), upR_ne (q := 22 + 5 * p) _ _ (by omega), hs]
    rfl
  · show blP (upR R (21 + 5 * p) 0) i n (R 4) = blP R i n (R 4)
    unfold blP blA
    rw [upR_ne (q := 18 + 5 * i) _ _ (by omega), upR_ne (q := 20 + 5 * i) _ _ (by omega), upR_ne (q := 21 + 5 * i) _ _ (by omega), upR_ne (q := 22 + 5 * i) _ _ (by omega)]
def mstF (a b c : Int) : Int := if a < 0 then -1 else b + c
theorem mst_cs (a b c : Int) : (a < 0 ∧ mstF a b c = -1) ∨ (0 ≤ a ∧ mstF a b c = b + c) := by
  unfold mstF; split <;> omega
theorem bs_st {f : Nat → Bool} {st : Nat → Int} {n : Nat} (h : f n = true) : bsF f st (n + 1) = if bsF f st n < 0 ∨ st (bsF f st n).toNat < st n then (n : Int) else bsF f st n := by
  by_cases h2 : bsF f st n < 0 ∨ st (bsF f st n).toNat < st n
  · rw [if_pos h2]; exact bs_t h h2
  · rw [if_neg h2]; exact bs_f (fun z => h2 z.2)

set_option maxHeartbeats 4000000 in
set_option maxRecDepth 100000 in
theorem c_X7_shade (l : Launch) (X : XT) (a : Nat → Nat) (B : Nat) (S : St) (w : Int) (hV : VR 9999 (S 20)) (hw : -2147483648 ≤ w ∧ w ≤ 2147483647) : CT l X a B 5 yX7_shade cX7_shade 6 (some .int) [.ref (a (49)), .int (J w)] S (Qi X a B (anF (if 1 ≤ w ∧ w ≤ 60 then onC (bsF (fun j => decide (S 20 (21 + 5 * j) = 1)) (stD (S 20) w) (S 20 5).toNat) else 0) (bsF (fun j => decide (S 20 (21 + 5 * j) = 1)) (stD (S 20) w) (S 20 5).toNat)) (if 1 ≤ w ∧ w ≤ 60 then fnF (setB S 22 (S 20)) 21 (onC (bsF (fun j => decide (S 20 (21 + 5 * j) = 1)) (stD (S 20) w) (S 20 5).toNat)) (setB S 22 (S 20)) else up S 21 0 (S 21 0 + 1))) := by
  refine CT.of (by decide +kernel) (Nat.le_of_ble_eq_true rfl) ?_
  intro p e s m below meth c ls hC hr hlk hI hl
  have hC : Cx p c cX7_shade 6 s m [.ref (a (49)), .int (J w)].toArray RX7 X B := hC
  have hl : lv_has ls 6 [(0, .ref (a (49))), (1, .int (J w))] := hl
  obtain ⟨⟨hN, hBr, hBu, hIn, hLa, hPc⟩, hDk, hPg⟩ := id hV
  have hal := bt_rg hV (n := w) (w := S 20 4) (c := (S 20 5).toNat)
  refine r_iload_n hC hl dX7_shade_0 1 rfl ?_
  refine r_iconst hC dX7_shade_1 ?_
  refine r_bipush hC (by decide) dX7_shade_2 ?_
  refine r_cSi hC hI hl [.int (J w), .int (J 1), .int (J 60)] [] (c_X7_in l X a B S w 1 60 (by omega) (by omega) (by omega)) ml_RX7_45 es_X7_in ⟨Nat.le_of_ble_eq_true rfl, Nat.le_of_ble_eq_true rfl⟩ ⟨Nat.zero_le _, Nat.zero_le _⟩ (Nat.le_of_ble_eq_true rfl) rfl dX7_shade_4 (fun H locs hI => ?_)
  refine r_b_ne (tgt := 17) hC dX7_shade_7 (by decide) (fun c_1 => ?_) (fun c_1 => ?_)
  · skip
    refine r_iconst hC dX7_shade_17 ?_
    refine r_istore_n (lv1 := [(2, .int (J (-1))), (0, .ref (a (49))), (1, .int (J w))]) hC hl dX7_shade_18 2 rfl (by decide) rfl (fun ls hl => ?_)
    refine r_iconst hC dX7_shade_19 ?_
    refine r_istore_n (lv1 := [(3, .int (J (-1))), (2, .int (J (-1))), (0, .ref (a (49))), (1, .int (J w))]) hC hl dX7_shade_20 3 rfl (by decide) rfl (fun ls hl => ?_)
    refine r_aload_n hC hl dX7_shade_21 2 rfl ?_
    refine r_iconst hC dX7_shade_22 ?_
    refine r_aload_n hC hl dX7_shade_23 2 rfl ?_
    refine g_mo  (v := .ref (a (52))) hC hI 2 (by decide) fl_RX7_16 rfl rfl dX7_shade_24 ?_
    refine r_cVv hC hI hl [.int (J 1), .ref (a (52))] [] (c_X7_moveAll1 l X a B S 52 22 (by omega) (fun _ => rfl) (fun _ => rfl) (by omega) rfl) ml_RX7_117 ev_X7_moveAll (rc_mo (S := S) hC hI) ⟨Nat.le_of_ble_eq_true rfl, Nat.le_of_ble_eq_true rfl⟩ ⟨Nat.zero_le _, Nat.zero_le _⟩ (Nat.le_of_ble_eq_true rfl) rfl dX7_shade_27 (fun H locs hI => ?_)
    obtain ⟨T, eT⟩ : ∃ z : St, z = setB S 22 (S 20) := ⟨_, rfl⟩
    rw [← eT] at hI
    have t20 : T 20 = S 20 := by rw [eT, setB_ne _ _ (by decide)]
    have t22 : T 22 = S 20 := by rw [eT, setB_at]
    have hVT : VR 9999 (T 20) := by rw [t20]; exact hV
    have t5 : T 20 5 = S 20 5 := by rw [t20]
    have t4 : T 20 4 = S 20 4 := by rw [t20]
    have hal := hal (by omega) hLa (by omega)
    refine r_iconst hC dX7_shade_30 ?_
    refine r_istore (lv1 := [(4, .int (J 0)), (3, .int (J (-1))), (2, .int (J (-1))), (0, .ref (a (49))), (1, .int (J w))]) hC hl dX7_shade_31 (by decide) rfl (fun ls hl => ?_)
    have hL33 : ∀ (fu : Nat) (q : Nat) (U : St) (x4 x3 x2 : Int), (S 20 5).toNat - q < fu → (x4 = (q : Int)) → (x3 = mstF (bsF (fun j => decide (S 20 (21 + 5 * j) = 1)) (stD (S 20) w) q) (sumF (fun i => blP (S 20) i w (S 20 4)) (S 20 5).toNat) (stD (S 20) w (bsF (fun j => decide (S 20 (21 + 5 * j) = 1)) (stD (S 20) w) q).toNat)) → (x2 = bsF (fun j => decide (S 20 (21 + 5 * j) = 1)) (stD (S 20) w) q) → (q ≤ (S 20 5).toNat) → (U = T) → ∀ (H : Heap) (locs : List Loc) (ls : Array Slot), IS X a B s (U) H locs → lv_has ls 6 [(4, .int (J x4)), (3, .int (J x3)), (2, .int (J x2)), (0, .ref (a (49))), (1, .int (J w))] → W p l e (rmD 5) s m [.ref (a (49)), .int (J w)].toArray below meth c H locs 0 0 (MQ below (Qi X a B (anF (if 1 ≤ w ∧ w ≤ 60 then onC (bsF (fun j => decide (S 20 (21 + 5 * j) = 1)) (stD (S 20) w) (S 20 5).toNat) else 0) (bsF (fun j => decide (S 20 (21 + 5 * j) = 1)) (stD (S 20) w) (S 20 5).toNat)) (if 1 ≤ w ∧ w ≤ 60 then fnF (setB S 22 (S 20)) 21 (onC (bsF (fun j => decide (S 20 (21 + 5 * j) = 1)) (stD (S 20) w) (S 20 5).toNat)) (setB S 22 (S 20)) else up S 21 0 (S 21 0 + 1))) [.ref (a (49)), .int (J w)].toArray s 0 0 (fun q => B ≤ q)) (F0 m 33 ls []) := by
      intro fu
      induction fu with
      | zero => intro q U x4 x3 x2 hm; exact absurd hm (Nat.not_lt_zero _)
      | succ fu ih33 =>
        intro q U x4 x3 x2 hm e4 e3 e2 hq hU H locs ls hI hl
        subst e4; subst e3; subst e2
        have u5 : U 20 5 = S 20 5 := by rw [hU, t20]
        have hbs := bs_rg (fun j => decide (S 20 (21 + 5 * j) = 1)) (stD (S 20) w) q
        have hmc := mst_cs (bsF (fun j => decide (S 20 (21 + 5 * j) = 1)) (stD (S 20) w) q) (sumF (fun i => blP (S 20) i w (S 20 4)) (S 20 5).toNat) (stD (S 20) w (bsF (fun j => decide (S 20 (21 + 5 * j) = 1)) (stD (S 20) w) q).toNat)
        have hsb : 0 ≤ bsF (fun j => decide (S 20 (21 + 5 * j) = 1)) (stD (S 20) w) q → -300 ≤ stD (S 20) w (bsF (fun j => decide (S 20 (21 + 5 * j) = 1)) (stD (S 20) w) q).toNat ∧ stD (S 20) w (bsF (fun j => decide (S 20 (21 + 5 * j) = 1)) (stD (S 20) w) q).toNat ≤ 300 := fun z => st_rg (hPg _ (by omega)) (by omega) hLa
        refine r_iload hC hl dX7_shade_33 0 rfl ?_
        refine r_aload_n hC hl dX7_shade_35 3 rfl ?_
        refine g_mo  (v := .ref (a (50))) hC hI 0 (by decide) fl_RX7_7 rfl rfl dX7_shade_36 ?_
        refine r_iconst hC dX7_shade_39 ?_
        refine r_iald (cx := 50) (n := 58) (f := (fun S => S 20) (U)) (v := U 20 5) hC hI (by decide) rfl (by decide) (5) (by omega) (by omega) rfl dX7_shade_40 ?_
        refine r_icmp_ge (tgt := 104) hC (by omega) (by omega) dX7_shade_41 (by decide) (fun c_2 => ?_) (fun c_2 => ?_)
        · skip
          have eU2 : U = setB S 22 (S 20) := by rw [hU]; exact eT
          have hval : bsF (fun j => decide (S 20 (21 + 5 * j) = 1)) (stD (S 20) w) q = bsF (fun j => decide (S 20 (21 + 5 * j) = 1)) (stD (S 20) w) (S 20 5).toNat := by rw [show q = (S 20 5).toNat by omega]
          refine r_iload_n hC hl dX7_shade_104 2 rfl ?_
          refine r_if_ge (tgt := 117) hC (by omega) dX7_shade_105 (by decide) (fun c_3 => ?_) (fun c_3 => ?_)
          · skip
            refine r_iload_n hC hl dX7_shade_117 2 rfl ?_
            exact r_iret hC hr hlk hI (an_n (by rw [show (if 1 ≤ w ∧ w ≤ 60 then onC (bsF (fun j => decide (S 20 (21 + 5 * j) = 1)) (stD (S 20) w) (S 20 5).toNat) else 0) = onC (bsF (fun j => decide (S 20 (21 + 5 * j) = 1)) (stD (S 20) w) (S 20 5).toNat) by (repeat' split) <;> first | rfl | omega]; unfold onC; rw [if_neg (by omega)]; decide) (by omega)) (by rw [if_pos (by omega), eU2]; exact fn_n (by unfold onC; rw [if_neg (by omega)]; decide) rfl) dX7_shade_118
          · skip
            refine r_aload_n hC hl dX7_shade_108 3 rfl ?_
            refine r_ldc (x := (-1000000004)) hC ct_RX7_124 (by decide) dX7_shade_109 ?_
            refine r_cVi hC hI hl [.int (J (-1000000004))] [] (c_X7_finds3 l X a B U  ) ml_RX7_57 ev_X7_finds (rc_mo (S := U) hC hI) ⟨Nat.le_of_ble_eq_true rfl, Nat.le_of_ble_eq_true rfl⟩ ⟨Nat.zero_le _, Nat.zero_le _⟩ (Nat.le_of_ble_eq_true rfl) rfl dX7_shade_111 (fun H locs hI => ?_)
            refine r_goto (tgt := 118) hC dX7_shade_114 (by decide) ?_
            exact r_iret hC hr hlk hI (an_f 3 (by rw [show (if 1 ≤ w ∧ w ≤ 60 then onC (bsF (fun j => decide (S 20 (21 + 5 * j) = 1)) (stD (S 20) w) (S 20 5).toNat) else 0) = onC (bsF (fun j => decide (S 20 (21 + 5 * j) = 1)) (stD (S 20) w) (S 20 5).toNat) by (repeat' split) <;> first | rfl | omega]; unfold onC; rw [if_pos (by omega)]; rfl)) (by rw [if_pos (by omega), eU2]; exact fn_f 3 (by unfold onC; rw [if_pos (by omega)]; rfl)) dX7_shade_118
        · skip
          refine r_aload_n hC hl dX7_shade_44 3 rfl ?_
          refine r_iload hC hl dX7_shade_45 0 rfl ?_
          refine r_iconst hC dX7_shade_47 ?_
          refine r_cVi hC hI hl [.int (J (q : Int)), .int (J 3)] [] (c_X7_its3 l X a B U q (by omega)) ml_RX7_64 ev_X7_its (rc_mo (S := U) hC hI) ⟨Nat.le_of_ble_eq_true rfl, Nat.le_of_ble_eq_true rfl⟩ ⟨Nat.zero_le _, Nat.zero_le _⟩ (Nat.le_of_ble_eq_true rfl) rfl dX7_shade_48 (fun H locs hI => ?_)
          have hvp := hPg q (by omega)
          have hv21 := hvp.2.2.2.1
          have e21 : U 20 (21 + 5 * q) = S 20 (21 + 5 * q) := by rw [hU, t20]
          refine r_iconst hC dX7_shade_51 ?_
          refine r_icmp_ne (tgt := 98) hC (by omega) (by omega) dX7_shade_52 (by decide) (fun c_4 => ?_) (fun c_4 => ?_)
          · skip
            refine r_iinc (lv1 := [(4, .int (J ((q : Int) + 1))), (3, .int (J (mstF (bsF (fun j => decide (S 20 (21 + 5 * j) = 1)) (stD (S 20) w) q) (sumF (fun i => blP (S 20) i w (S 20 4)) (S 20 5).toNat) (stD (S 20) w (bsF (fun j => decide (S 20 (21 + 5 * j) = 1)) (stD (S 20) w) q).toNat)))), (2, .int (J (bsF (fun j => decide (S 20 (21 + 5 * j) = 1)) (stD (S 20) w) q))), (0, .ref (a (49))), (1, .int (J w))]) hC hl dX7_shade_98 0 rfl (by decide) rfl (fun ls hl => ?_)
            refine r_goto (tgt := 33) hC dX7_shade_101 (by decide) ?_
            have hbf : bsF (fun j => decide (S 20 (21 + 5 * j) = 1)) (stD (S 20) w) (q + 1) = bsF (fun j => decide (S 20 (21 + 5 * j) = 1)) (stD (S 20) w) q := bs_f (fun z => by have h := of_decide_eq_true z.1; omega)
            exact ih33 (q + 1) U ((q : Int) + 1) (mstF (bsF (fun j => decide (S 20 (21 + 5 * j) = 1)) (stD (S 20) w) q) (sumF (fun i => blP (S 20) i w (S 20 4)) (S 20 5).toNat) (stD (S 20) w (bsF (fun j => decide (S 20 (21 + 5 * j) = 1)) (stD (S 20) w) q).toNat)) (bsF (fun j => decide (S 20 (21 + 5 * j) = 1)) (stD (S 20) w) q) (by omega) (by omega) (by rw [hbf]) hbf.symm (by omega) hU _ _ _ hI (lv_sub hl [0, 1, 2, 3, 4] rfl)
          · skip
            have h21 : S 20 (21 + 5 * q) = 1 := by omega
            refine r_aload_n hC hl dX7_shade_55 3 rfl ?_
            refine r_iload hC hl dX7_shade_56 0 rfl ?_
            refine r_iconst hC dX7_shade_58 ?_
            refine r_iconst hC dX7_shade_59 ?_
            refine r_cVv hC hI hl [.int (J (q : Int)), .int (J 3), .int (J 0)] [] (c_X7_puts3 l X a B U q 0 (by omega)) ml_RX7_83 ev_X7_puts (rc_mo (S := U) hC hI) ⟨Nat.le_of_ble_eq_true rfl, Nat.le_of_ble_eq_true rfl⟩ ⟨Nat.zero_le _, Nat.zero_le _⟩ (Nat.le_of_ble_eq_true rfl) rfl dX7_shade_60 (fun H locs hI => ?_)
            obtain ⟨Q1, eQ1⟩ : ∃ z : St, z = up U 20 (21 + 5 * q) 0 := ⟨_, rfl⟩
            rw [← eQ1] at hI
            have w20 : Q1 20 = upR (S 20) (21 + 5 * q) 0 := by rw [eQ1, hU, up_b, t20]
            have hVW : VR 9999 (Q1 20) := by rw [w20]; exact VR_s (by decide) (by omega) hV
            have w5 : Q1 20 5 = S 20 5 := by rw [w20, upR_ne _ _ (by omega)]
            have hs1 := st_rg hvp (n := w) (by omega) hLa
            have hvv : 0 ≤ sumF (fun i => blP (S 20) i w (S 20 4)) (S 20 5).toNat + stD (S 20) w q := by
              rw [← al_sh h21 (by omega), ← w20]
              exact (bt_rg hVW (n := w) (w := Q1 20 4) (by omega) hVW.1.2.2.2.2.1 (by omega)).1
            have hbs1 := bs_st (f := fun j => decide (S 20 (21 + 5 * j) = 1)) (st := stD (S 20) w) (n := q) (decide_eq_true h21)
            refine r_aload_n hC hl dX7_shade_63 3 rfl ?_
            refine r_iload_n hC hl dX7_shade_64 4 rfl ?_
            refine r_iconst hC dX7_shade_65 ?_
            refine r_iconst hC dX7_shade_66 ?_
            refine r_cVi hC hI hl [.int (J w), .int (J 1), .int (J 0)] [] (c_X7_behind1_i l X a B Q1 w 9999 hVW (by omega) (by omega)) ml_RX7_121 ev_X7_behind (rc_mo (S := Q1) hC hI) ⟨Nat.le_of_ble_eq_true rfl, Nat.le_of_ble_eq_true rfl⟩ ⟨Nat.zero_le _, Nat.zero_le _⟩ (Nat.le_of_ble_eq_true rfl) rfl dX7_shade_67 (fun H locs hI => ?_)
            refine r_as (y := sumF (fun i => blP (S 20) i w (S 20 4)) (S 20 5).toNat + stD (S 20) w q) hC (by rw [w20]; exact al_sh h21 (by omega)) ?_
            refine r_istore (lv1 := [(5, .int (J (sumF (fun i => blP (S 20) i w (S 20 4)) (S 20 5).toNat + stD (S 20) w q))), (4, .int (J (q : Int))), (3, .int (J (mstF (bsF (fun j => decide (S 20 (21 + 5 * j) = 1)) (stD (S 20) w) q) (sumF (fun i => blP (S 20) i w (S 20 4)) (S 20 5).toNat) (stD (S 20) w (bsF (fun j => decide (S 20 (21 + 5 * j) = 1)) (stD (S 20) w) q).toNat)))), (2, .int (J (bsF (fun j => decide (S 20 (21 + 5 * j) = 1)) (stD (S 20) w) q))), (0, .ref (a (49))), (1, .int (J w))]) hC hl dX7_shade_70 (by decide) rfl (fun ls hl => ?_)
            refine r_iload hC hl dX7_shade_72 0 rfl ?_
            refine r_iload_n hC hl dX7_shade_74 2 rfl ?_
            refine r_icmp_le (tgt := 83) hC (by omega) (by omega) dX7_shade_75 (by decide) (fun c_5 => ?_) (fun c_5 => ?_)
            · skip
              refine r_iload_n hC hl dX7_shade_83 3 rfl ?_
              refine r_istore_n (lv1 := [(2, .int (J (bsF (fun j => decide (S 20 (21 + 5 * j) = 1)) (stD (S 20) w) q))), (5, .int (J (sumF (fun i => blP (S 20) i w (S 20 4)) (S 20 5).toNat + stD (S 20) w q))), (4, .int (J (q : Int))), (3, .int (J (mstF (bsF (fun j => decide (S 20 (21 + 5 * j) = 1)) (stD (S 20) w) q) (sumF (fun i => blP (S 20) i w (S 20 4)) (S 20 5).toNat) (stD (S 20) w (bsF (fun j => decide (S 20 (21 + 5 * j) = 1)) (stD (S 20) w) q).toNat)))), (0, .ref (a (49))), (1, .int (J w))]) hC hl dX7_shade_84 2 rfl (by decide) rfl (fun ls hl => ?_)
              refine r_iload hC hl dX7_shade_85 1 rfl ?_
              refine r_iload_n hC hl dX7_shade_87 3 rfl ?_
              refine r_icmp_le (tgt := 96) hC (by omega) (by omega) dX7_shade_88 (by decide) (fun c_6 => ?_) (fun c_6 => ?_)
              · skip
                refine r_iload_n hC hl dX7_shade_96 3 rfl ?_
                refine r_istore_n (lv1 := [(3, .int (J (mstF (bsF (fun j => decide (S 20 (21 + 5 * j) = 1)) (stD (S 20) w) q) (sumF (fun i => blP (S 20) i w (S 20 4)) (S 20 5).toNat) (stD (S 20) w (bsF (fun j => decide (S 20 (21 + 5 * j) = 1)) (stD (S 20) w) q).toNat)))), (2, .int (J (bsF (fun j => decide (S 20 (21 + 5 * j) = 1)) (stD (S 20) w) q))), (5, .int (J (sumF (fun i => blP (S 20) i w (S 20 4)) (S 20 5).toNat + stD (S 20) w q))), (4, .int (J (q : Int))), (0, .ref (a (49))), (1, .int (J w))]) hC hl dX7_shade_97 3 rfl (by decide) rfl (fun ls hl => ?_)
                refine r_iinc (lv1 := [(4, .int (J ((q : Int) + 1))), (3, .int (J (mstF (bsF (fun j => decide (S 20 (21 + 5 * j) = 1)) (stD (S 20) w) q) (sumF (fun i => blP (S 20) i w (S 20 4)) (S 20 5).toNat) (stD (S 20) w (bsF (fun j => decide (S 20 (21 + 5 * j) = 1)) (stD (S 20) w) q).toNat)))), (2, .int (J (bsF (fun j => decide (S 20 (21 + 5 * j) = 1)) (stD (S 20) w) q))), (5, .int (J (sumF (fun i => blP (S 20) i w (S 20 4)) (S 20 5).toNat + stD (S 20) w q))), (0, .ref (a (49))), (1, .int (J w))]) hC hl dX7_shade_98 3 rfl (by decide) rfl (fun ls hl => ?_)
                refine r_goto (tgt := 33) hC dX7_shade_101 (by decide) ?_
                exact ih33 (q + 1) (setB Q1 20 (Q1 22)) ((q : Int) + 1) (mstF (bsF (fun j => decide (S 20 (21 + 5 * j) = 1)) (stD (S 20) w) q) (sumF (fun i => blP (S 20) i w (S 20 4)) (S 20 5).toNat) (stD (S 20) w (bsF (fun j => decide (S 20 (21 + 5 * j) = 1)) (stD (S 20) w) q).toNat)) (bsF (fun j => decide (S 20 (21 + 5 * j) = 1)) (stD (S 20) w) q) (by omega) (by omega) (by rw [hbs1]; split <;> first | rfl | (exfalso; omega) | (unfold mstF; rw [if_neg (by omega), Int.toNat_natCast])) (by rw [hbs1]; split <;> first | rfl | (exfalso; omega)) (by omega) (by rw [eQ1, hU]; exact rt1 t20 t22) _ _ _ hI (lv_sub hl [0, 1, 2, 4, 5] rfl)
              · skip
                refine r_iload hC hl dX7_shade_91 1 rfl ?_
                refine r_goto (tgt := 97) hC dX7_shade_93 (by decide) ?_
                refine r_istore_n (lv1 := [(3, .int (J (sumF (fun i => blP (S 20) i w (S 20 4)) (S 20 5).toNat + stD (S 20) w q))), (2, .int (J (bsF (fun j => decide (S 20 (21 + 5 * j) = 1)) (stD (S 20) w) q))), (5, .int (J (sumF (fun i => blP (S 20) i w (S 20 4)) (S 20 5).toNat + stD (S 20) w q))), (4, .int (J (q : Int))), (0, .ref (a (49))), (1, .int (J w))]) hC hl dX7_shade_97 3 rfl (by decide) rfl (fun ls hl => ?_)
                refine r_iinc (lv1 := [(4, .int (J ((q : Int) + 1))), (3, .int (J (sumF (fun i => blP (S 20) i w (S 20 4)) (S 20 5).toNat + stD (S 20) w q))), (2, .int (J (bsF (fun j => decide (S 20 (21 + 5 * j) = 1)) (stD (S 20) w) q))), (5, .int (J (sumF (fun i => blP (S 20) i w (S 20 4)) (S 20 5).toNat + stD (S 20) w q))), (0, .ref (a (49))), (1, .int (J w))]) hC hl dX7_shade_98 3 rfl (by decide) rfl (fun ls hl => ?_)
                refine r_goto (tgt := 33) hC dX7_shade_101 (by decide) ?_
                exact ih33 (q + 1) (setB Q1 20 (Q1 22)) ((q : Int) + 1) (sumF (fun i => blP (S 20) i w (S 20 4)) (S 20 5).toNat + stD (S 20) w q) (bsF (fun j => decide (S 20 (21 + 5 * j) = 1)) (stD (S 20) w) q) (by omega) (by omega) (by rw [hbs1]; split <;> first | rfl | (exfalso; omega) | (unfold mstF; rw [if_neg (by omega), Int.toNat_natCast])) (by rw [hbs1]; split <;> first | rfl | (exfalso; omega)) (by omega) (by rw [eQ1, hU]; exact rt1 t20 t22) _ _ _ hI (lv_sub hl [0, 1, 2, 4, 5] rfl)
            · skip
              refine r_iload hC hl dX7_shade_78 1 rfl ?_
              refine r_goto (tgt := 84) hC dX7_shade_80 (by decide) ?_
              refine r_istore_n (lv1 := [(2, .int (J (q : Int))), (5, .int (J (sumF (fun i => blP (S 20) i w (S 20 4)) (S 20 5).toNat + stD (S 20) w q))), (4, .int (J (q : Int))), (3, .int (J (mstF (bsF (fun j => decide (S 20 (21 + 5 * j) = 1)) (stD (S 20) w) q) (sumF (fun i => blP (S 20) i w (S 20 4)) (S 20 5).toNat) (stD (S 20) w (bsF (fun j => decide (S 20 (21 + 5 * j) = 1)) (stD (S 20) w) q).toNat)))), (0, .ref (a (49))), (1, .int (J w))]) hC hl dX7_shade_84 2 rfl (by decide) rfl (fun ls hl => ?_)
              refine r_iload hC hl dX7_shade_85 1 rfl ?_
              refine r_iload_n hC hl dX7_shade_87 3 rfl ?_
              refine r_icmp_le (tgt := 96) hC (by omega) (by omega) dX7_shade_88 (by decide) (fun c_7 => ?_) (fun c_7 => ?_)
              · skip
                refine r_iload_n hC hl dX7_shade_96 3 rfl ?_
                refine r_istore_n (lv1 := [(3, .int (J (mstF (bsF (fun j => decide (S 20 (21 + 5 * j) = 1)) (stD (S 20) w) q) (sumF (fun i => blP (S 20) i w (S 20 4)) (S 20 5).toNat) (stD (S 20) w (bsF (fun j => decide (S 20 (21 + 5 * j) = 1)) (stD (S 20) w) q).toNat)))), (2, .int (J (q : Int))), (5, .int (J (sumF (fun i => blP (S 20) i w (S 20 4)) (S 20 5).toNat + stD (S 20) w q))), (4, .int (J (q : Int))), (0, .ref (a (49))), (1, .int (J w))]) hC hl dX7_shade_97 3 rfl (by decide) rfl (fun ls hl => ?_)
                refine r_iinc (lv1 := [(4, .int (J ((q : Int) + 1))), (3, .int (J (mstF (bsF (fun j => decide (S 20 (21 + 5 * j) = 1)) (stD (S 20) w) q) (sumF (fun i => blP (S 20) i w (S 20 4)) (S 20 5).toNat) (stD (S 20) w (bsF (fun j => decide (S 20 (21 + 5 * j) = 1)) (stD (S 20) w) q).toNat)))), (2, .int (J (q : Int))), (5, .int (J (sumF (fun i => blP (S 20) i w (S 20 4)) (S 20 5).toNat + stD (S 20) w q))), (0, .ref (a (49))), (1, .int (J w))]) hC hl dX7_shade_98 3 rfl (by decide) rfl (fun ls hl => ?_)
                refine r_goto (tgt := 33) hC dX7_shade_101 (by decide) ?_
                exact ih33 (q + 1) (setB Q1 20 (Q1 22)) ((q : Int) + 1) (mstF (bsF (fun j => decide (S 20 (21 + 5 * j) = 1)) (stD (S 20) w) q) (sumF (fun i => blP (S 20) i w (S 20 4)) (S 20 5).toNat) (stD (S 20) w (bsF (fun j => decide (S 20 (21 + 5 * j) = 1)) (stD (S 20) w) q).toNat)) (q : Int) (by omega) (by omega) (by rw [hbs1]; split <;> first | rfl | (exfalso; omega) | (unfold mstF; rw [if_neg (by omega), Int.toNat_natCast])) (by rw [hbs1]; split <;> first | rfl | (exfalso; omega)) (by omega) (by rw [eQ1, hU]; exact rt1 t20 t22) _ _ _ hI (lv_sub hl [0, 1, 2, 4, 5] rfl)
              · skip
                refine r_iload hC hl dX7_shade_91 1 rfl ?_
                refine r_goto (tgt := 97) hC dX7_shade_93 (by decide) ?_
                refine r_istore_n (lv1 := [(3, .int (J (sumF (fun i => blP (S 20) i w (S 20 4)) (S 20 5).toNat + stD (S 20) w q))), (2, .int (J (q : Int))), (5, .int (J (sumF (fun i => blP (S 20) i w (S 20 4)) (S 20 5).toNat + stD (S 20) w q))), (4, .int (J (q : Int))), (0, .ref (a (49))), (1, .int (J w))]) hC hl dX7_shade_97 3 rfl (by decide) rfl (fun ls hl => ?_)
                refine r_iinc (lv1 := [(4, .int (J ((q : Int) + 1))), (3, .int (J (sumF (fun i => blP (S 20) i w (S 20 4)) (S 20 5).toNat + stD (S 20) w q))), (2, .int (J (q : Int))), (5, .int (J (sumF (fun i => blP (S 20) i w (S 20 4)) (S 20 5).toNat + stD (S 20) w q))), (0, .ref (a (49))), (1, .int (J w))]) hC hl dX7_shade_98 3 rfl (by decide) rfl (fun ls hl => ?_)
                refine r_goto (tgt := 33) hC dX7_shade_101 (by decide) ?_
                exact ih33 (q + 1) (setB Q1 20 (Q1 22)) ((q : Int) + 1) (sumF (fun i => blP (S 20) i w (S 20 4)) (S 20 5).toNat + stD (S 20) w q) (q : Int) (by omega) (by omega) (by rw [hbs1]; split <;> first | rfl | (exfalso; omega) | (unfold mstF; rw [if_neg (by omega), Int.toNat_natCast])) (by rw [hbs1]; split <;> first | rfl | (exfalso; omega)) (by omega) (by rw [eQ1, hU]; exact rt1 t20 t22) _ _ _ hI (lv_sub hl [0, 1, 2, 4, 5] rfl)
    exact hL33 _ 0 T 0 (-1) (-1) (Nat.lt_succ_self _) (by omega) rfl rfl (by omega) rfl _ _ _ hI (lv_sub hl [0, 1, 2, 3, 4] rfl)
  · skip
    refine r_aload_n hC hl dX7_shade_10 0 rfl ?_
    refine r_ldc (x := (-1000000001)) hC ct_RX7_44 (by decide) dX7_shade_11 ?_
    refine r_cVi hC hI hl [.int (J (-1000000001))] [] (c_X7_finds0 l X a B S  ) ml_RX7_57 ev_X7_finds (rc_mo (S := S) hC hI) ⟨Nat.le_of_ble_eq_true rfl, Nat.le_of_ble_eq_true rfl⟩ ⟨Nat.zero_le _, Nat.zero_le _⟩ (Nat.le_of_ble_eq_true rfl) rfl dX7_shade_13 (fun H locs hI => ?_)
    exact r_iret hC hr hlk hI (an_f 0 (by (repeat' split) <;> first | rfl | omega)) ((if_neg (by omega)).symm) dX7_shade_16
