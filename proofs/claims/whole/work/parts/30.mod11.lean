theorem bk_nx {T U : St} {A A' C C' : Nat → Int} {j : Nat} {x : Int} (hU : U = setB (setB T 20 A) 30 C) (h : niF A = A') (hc : upR C j x = C') : setB (up U 30 j x) 20 (niF (up U 30 j x 20)) = setB (setB T 20 A') 30 C' := by
  subst hU; subst h; subst hc
  rw [up_set, setB_ne _ _ (by decide), setB_at]
  funext b
  by_cases h1 : b = 20
  · subst h1
    rw [setB_at, setB_ne _ _ (by decide), setB_at]
  · rw [setB_ne _ _ h1]
    by_cases h2 : b = 30
    · subst h2; rw [setB_at, setB_at]
    · rw [setB_ne _ _ h2, setB_ne _ _ h2, setB_ne _ _ h1, setB_ne _ _ h1]
theorem bk_end {S T U : St} {A C : Nat → Int} (hU : U = setB (setB T 20 A) 30 C) (t20 : T 20 = S 20) (t22 : T 22 = S 20) : setB U 20 (U 22) = setB T 30 C := by
  subst hU
  rw [setB_ne _ _ (by decide), setB_ne _ _ (by decide), t22]
  funext b
  by_cases h1 : b = 20
  · subst h1
    rw [setB_at, setB_ne _ _ (by decide), t20]
  · rw [setB_ne _ _ h1]
    by_cases h2 : b = 30
    · subst h2; rw [setB_at, setB_at]
    · rw [setB_ne _ _ h2, setB_ne _ _ h2, setB_ne _ _ h1]
theorem bk_00 {S T : St} (t20 : T 20 = S 20) (t30 : T 30 = S 30) : T = setB (setB T 20 (S 20)) 30 (S 30) := by
  rw [← t20, setB_self, ← t30, setB_self]
/-- how many nights go by until a number is told otherwise -/
def isoN (f : Nat → Bool) : Nat → Nat → Nat
  | 0, q => q
  | n + 1, q => if f q = true then isoN f n (q + 1) else q + 1
theorem iso_t {f : Nat → Bool} {n q : Nat} (h : f q = true) : isoN f (n + 1) q = isoN f n (q + 1) := if_pos h
theorem iso_f {f : Nat → Bool} {n q : Nat} (h : ¬ f q = true) : isoN f (n + 1) q = q + 1 := if_neg h
theorem VR_b {N x : Int} {R : Nat → Int} {p : Nat} (hx : 0 ≤ x ∧ x ≤ 99) (hp : p < 8) (hV : VR N R) : VR N (upR R (20 + 5 * p) x) := by
  have h := hV.2.2 p hp
  refine VR_g hV (p := p) (by omega) ⟨?_, ?_, ?_, ?_, ?_⟩ (by omega)
  · rw [upR_ne _ _ (by omega)]; exact h.1
  · rw [upR_ne _ _ (by omega)]; exact h.2.1
  · rw [upR_at]; exact hx
  · rw [upR_ne _ _ (by omega)]; exact h.2.2.2.1
  · rw [upR_ne _ _ (by omega)]; exact h.2.2.2.2
theorem sum_z (f : Nat → Int) : sumF f 0 = 0 := rfl
theorem sum2a (F : Nat → Nat → Int) (n : Nat) : ∀ r : Nat, r ≤ 100 → sumF (fun c => F (c / 100) (c % 100)) (100 * n + r) = sumF (fun c => F (c / 100) (c % 100)) (100 * n) + sumF (F n) r
  | 0, _ => (Int.add_zero _).symm
  | r + 1, h => by
    show sumF (fun c => F (c / 100) (c % 100)) (100 * n + r) + F ((100 * n + r) / 100) ((100 * n + r) % 100) = _ + (sumF (F n) r + F n r)
    rw [sum2a F n r (by omega), show (100 * n + r) / 100 = n by omega, show (100 * n + r) % 100 = r by omega, Int.add_assoc]
theorem sum2 (F : Nat → Nat → Int) : ∀ n : Nat, sumF (fun c => F (c / 100) (c % 100)) (100 * n) = sumF (fun q => sumF (F q) 100) n
  | 0 => by rw [Nat.mul_zero, sum_z, sum_z]
  | n + 1 => by
    show sumF (fun c => F (c / 100) (c % 100)) (100 * n + 100) = sumF (fun q => sumF (F q) 100) n + sumF (F n) 100
    rw [sum2a F n 100 (by omega), sum2 F n]

set_option maxHeartbeats 4000000 in
set_option maxRecDepth 100000 in
theorem c_X7_lays (l : Launch) (X : XT) (a : Nat → Nat) (B : Nat) (S : St) (w : Int) (hV : VR 9999 (S 20)) (hw : -2147483648 ≤ w ∧ w ≤ 2147483647) (hSm : ∀ t, t < 4 → (S 26 t = 0 ∨ S 26 t = 8 ∨ S 26 t = 16 ∨ S 26 t = 64) ∧ 0 ≤ S 27 t ∧ S 27 t ≤ 40) (hSl : ∀ j, j < 160 → -9223372036854775808 ≤ S 30 j ∧ S 30 j ≤ 9223372036854775807) : CT l X a B 3 yX7_lays cX7_lays 7 (some .int) [.ref (a (49)), .int (J w)] S (Qi X a B (anF (if ¬ (0 ≤ w ∧ w ≤ 3) then 0 else if S 26 w.toNat = 0 then 5 else -1) (sumF (fun j => bI (0 ≤ (fun j => S 30 (40 * w.toNat + j)) j ∧ (fun j => S 30 (40 * w.toNat + j)) j ≤ 99)) (min (S 20 5).toNat (S 27 w.toNat).toNat))) (fnF S 21 (if ¬ (0 ≤ w ∧ w ≤ 3) then 0 else if S 26 w.toNat = 0 then 5 else -1) (setB S 20 (bkQ (S 20) (fun j => S 30 (40 * w.toNat + j)) (min (S 20 5).toNat (S 27 w.toNat).toNat))))) := by
  refine CT.of (by decide +kernel) (Nat.le_of_ble_eq_true rfl) ?_
  intro p e s m below meth c ls hC hr hlk hI hl
  have hC : Cx p c cX7_lays 7 s m [.ref (a (49)), .int (J w)].toArray RX7 X B := hC
  have hl : lv_has ls 7 [(0, .ref (a (49))), (1, .int (J w))] := hl
  obtain ⟨⟨hN, hBr, hBu, hIn, hLa, hPc⟩, hDk, hPg⟩ := id hV
  have hbr := bs5_r w (S 26 w.toNat)
  refine r_aload_n hC hl dX7_lays_0 0 rfl ?_
  refine r_iload_n hC hl dX7_lays_1 1 rfl ?_
  refine r_cVi hC hI hl [.int (J w)] [] (c_X7_badSheet l X a B S w (by omega) hSm) ml_RX7_226 ev_X7_badSheet (rc_mo (S := S) hC hI) ⟨Nat.le_of_ble_eq_true rfl, Nat.le_of_ble_eq_true rfl⟩ ⟨Nat.zero_le _, Nat.zero_le _⟩ (Nat.le_of_ble_eq_true rfl) rfl dX7_lays_2 (fun H locs hI => ?_)
  refine r_istore_n (lv1 := [(2, .int (J (bsF5 w (S 26 w.toNat)))), (0, .ref (a (49))), (1, .int (J w))]) hC hl dX7_lays_5 2 rfl (by decide) rfl (fun ls hl => ?_)
  refine r_iload_n hC hl dX7_lays_6 0 rfl ?_
  refine r_if_eq (tgt := 16) hC (by omega) dX7_lays_7 (by decide) (fun c_1 => ?_) (fun c_1 => ?_)
  · skip
    obtain ⟨hw3, hz0⟩ := bs5_z c_1
    obtain ⟨hb4w, hlenw⟩ := hSm w.toNat (by omega)
    refine r_iconst hC dX7_lays_16 ?_
    refine r_istore_n (lv1 := [(3, .int (J 0)), (2, .int (J (bsF5 w (S 26 w.toNat)))), (0, .ref (a (49))), (1, .int (J w))]) hC hl dX7_lays_17 3 rfl (by decide) rfl (fun ls hl => ?_)
    refine r_iconst hC dX7_lays_18 ?_
    refine r_istore (lv1 := [(4, .int (J 0)), (3, .int (J 0)), (2, .int (J (bsF5 w (S 26 w.toNat)))), (0, .ref (a (49))), (1, .int (J w))]) hC hl dX7_lays_19 (by decide) rfl (fun ls hl => ?_)
    have hL21 : ∀ (fu : Nat) (q : Nat) (T : St) (x4 x3 : Int), (min (S 20 5).toNat (S 27 w.toNat).toNat) - q < fu → (x4 = (q : Int)) → (x3 = sumF (fun j => bI (0 ≤ (fun j => S 30 (40 * w.toNat + j)) j ∧ (fun j => S 30 (40 * w.toNat + j)) j ≤ 99)) q) → (q ≤ min (S 20 5).toNat (S 27 w.toNat).toNat) → (T = setB S 20 (bkQ (S 20) (fun j => S 30 (40 * w.toNat + j)) q)) → ∀ (H : Heap) (locs : List Loc) (ls : Array Slot), IS X a B s (T) H locs → lv_has ls 7 [(4, .int (J x4)), (3, .int (J x3)), (0, .ref (a (49))), (1, .int (J w))] → W p l e (rmD 3) s m [.ref (a (49)), .int (J w)].toArray below meth c H locs 0 0 (MQ below (Qi X a B (anF (if ¬ (0 ≤ w ∧ w ≤ 3) then 0 else if S 26 w.toNat = 0 then 5 else -1) (sumF (fun j => bI (0 ≤ (fun j => S 30 (40 * w.toNat + j)) j ∧ (fun j => S 30 (40 * w.toNat + j)) j ≤ 99)) (min (S 20 5).toNat (S 27 w.toNat).toNat))) (fnF S 21 (if ¬ (0 ≤ w ∧ w ≤ 3) then 0 else if S 26 w.toNat = 0 then 5 else -1) (setB S 20 (bkQ (S 20) (fun j => S 30 (40 * w.toNat + j)) (min (S 20 5).toNat (S 27 w.toNat).toNat))))) [.ref (a (49)), .int (J w)].toArray s 0 0 (fun q => B ≤ q)) (F0 m 21 ls []) := by
      intro fu
      induction fu with
      | zero => intro q T x4 x3 hm; exact absurd hm (Nat.not_lt_zero _)
      | succ fu ih21 =>
        intro q T x4 x3 hm e4 e3 hq hT H locs ls hI hl
        subst e4; subst e3
        have hTk : T 20 = bkQ (S 20) (fun j => S 30 (40 * w.toNat + j)) q := by rw [hT, setB_at]
        have e5 : T 20 5 = S 20 5 := by rw [hTk]; unfold bkQ; rw [if_neg (by omega)]
        have e27 : T 27 w.toNat = S 27 w.toNat := by rw [hT, setB_ne _ _ (by decide)]
        have t30 : T 30 = S 30 := by rw [hT, setB_ne _ _ (by decide)]
        have hnq : T 30 (40 * w.toNat + q) = S 30 (40 * w.toNat + q) := by rw [t30]
        refine r_iload hC hl dX7_lays_21 0 rfl ?_
        refine r_aload_n hC hl dX7_lays_23 2 rfl ?_
        refine g_mo  (v := .ref (a (56))) hC hI 13 (by decide) fl_RX7_28 rfl rfl dX7_lays_24 ?_
        refine r_iload_n hC hl dX7_lays_27 3 rfl ?_
        refine r_iald (cx := 56) (n := 4) (f := (fun S => S 27) (T)) (v := T 27 ((w).toNat)) hC hI (by decide) rfl (by decide) ((w).toNat) (by omega) (by omega) rfl dX7_lays_28 ?_
        refine r_icmp_ge (tgt := 92) hC (by omega) (by omega) dX7_lays_29 (by decide) (fun c_2 => ?_) (fun c_2 => ?_)
        · skip
          refine r_iload_n hC hl dX7_lays_92 1 rfl ?_
          exact r_iret hC hr hlk hI (an_n (by (repeat' split) <;> first | rfl | omega) (by rw [show q = min (S 20 5).toNat (S 27 w.toNat).toNat by omega])) (fn_n (by (repeat' split) <;> first | rfl | omega) (by rw [hT, show q = min (S 20 5).toNat (S 27 w.toNat).toNat by omega])) dX7_lays_93
        · skip
          refine r_iload hC hl dX7_lays_32 0 rfl ?_
          refine r_aload_n hC hl dX7_lays_34 2 rfl ?_
          refine g_mo  (v := .ref (a (50))) hC hI 0 (by decide) fl_RX7_7 rfl rfl dX7_lays_35 ?_
          refine r_iconst hC dX7_lays_38 ?_
          refine r_iald (cx := 50) (n := 58) (f := (fun S => S 20) (T)) (v := T 20 5) hC hI (by decide) rfl (by decide) (5) (by omega) (by omega) rfl dX7_lays_39 ?_
          refine r_icmp_ge (tgt := 92) hC (by omega) (by omega) dX7_lays_40 (by decide) (fun c_3 => ?_) (fun c_3 => ?_)
          · skip
            refine r_iload_n hC hl dX7_lays_92 1 rfl ?_
            exact r_iret hC hr hlk hI (an_n (by (repeat' split) <;> first | rfl | omega) (by rw [show q = min (S 20 5).toNat (S 27 w.toNat).toNat by omega])) (fn_n (by (repeat' split) <;> first | rfl | omega) (by rw [hT, show q = min (S 20 5).toNat (S 27 w.toNat).toNat by omega])) dX7_lays_93
          · skip
            refine r_aload_n hC hl dX7_lays_43 2 rfl ?_
            refine g_mo  (v := .ref (a (57))) hC hI 14 (by decide) fl_RX7_31 rfl rfl dX7_lays_44 ?_
            refine r_bipush hC (by decide) dX7_lays_47 ?_
            refine r_iload_n hC hl dX7_lays_49 3 rfl ?_
            refine r_imul hC dX7_lays_50 ?_
            refine r_iload hC hl dX7_lays_51 0 rfl ?_
            refine r_iadd hC dX7_lays_53 ?_
            refine r_as (y := ((40 * w.toNat + q : Nat) : Int)) hC (by omega) ?_
            refine r_lald (cx := 57) (n := 160) (f := (fun S => S 30) (T)) (v := T 30 (40 * w.toNat + q)) hC hI (by decide) rfl (by decide) (40 * w.toNat + q) (by omega) (by omega) rfl dX7_lays_54 ?_
            have hvl := hSl (40 * w.toNat + q) (by omega)
            refine r_lstore (lv1 := [(5, .long (JL (T 30 (40 * w.toNat + q)))), (4, .int (J (q : Int))), (3, .int (J (sumF (fun j => bI (0 ≤ (fun j => S 30 (40 * w.toNat + j)) j ∧ (fun j => S 30 (40 * w.toNat + j)) j ≤ 99)) q))), (0, .ref (a (49))), (1, .int (J w))]) hC hl dX7_lays_55 (by decide) rfl (fun ls hl => ?_)
            refine r_lload hC hl dX7_lays_57 0 rfl ?_
            refine r_lconst (x := 0) hC rfl dX7_lays_59 ?_
            refine r_lcmp hC (by omega) (by omega) dX7_lays_60 ?_
            refine r_c_lt (tgt := 86) hC dX7_lays_61 (by decide) (fun c_4 => ?_) (fun c_4 => ?_)
            · skip
              refine r_iinc (lv1 := [(4, .int (J ((q : Int) + 1))), (5, .long (JL (T 30 (40 * w.toNat + q)))), (3, .int (J (sumF (fun j => bI (0 ≤ (fun j => S 30 (40 * w.toNat + j)) j ∧ (fun j => S 30 (40 * w.toNat + j)) j ≤ 99)) q))), (0, .ref (a (49))), (1, .int (J w))]) hC hl dX7_lays_86 1 rfl (by decide) rfl (fun ls hl => ?_)
              refine r_goto (tgt := 21) hC dX7_lays_89 (by decide) ?_
              exact ih21 (q + 1) T ((q : Int) + 1) (sumF (fun j => bI (0 ≤ (fun j => S 30 (40 * w.toNat + j)) j ∧ (fun j => S 30 (40 * w.toNat + j)) j ≤ 99)) q) (by omega) (by omega) (by show _ = sumF (fun j => bI (0 ≤ (fun j => S 30 (40 * w.toNat + j)) j ∧ (fun j => S 30 (40 * w.toNat + j)) j ≤ 99)) q + bI (0 ≤ S 30 (40 * w.toNat + q) ∧ S 30 (40 * w.toNat + q) ≤ 99); rw [bI_f (by omega), Int.add_zero]) (by omega) (by rw [hT, bq_f (S 20) (fun j => S 30 (40 * w.toNat + j)) q (fun z => by have z1 : 0 ≤ S 30 (40 * w.toNat + q) := z.1; omega)]) _ _ _ hI (lv_sub hl [0, 2, 3, 4] rfl)
            · skip
              refine r_lload hC hl dX7_lays_64 0 rfl ?_
              refine r_ldc2 (x := (99)) hC cl_RX7_229 (by decide) dX7_lays_66 ?_
              refine r_lcmp hC (by omega) (by omega) dX7_lays_69 ?_
              refine r_c_gt (tgt := 86) hC dX7_lays_70 (by decide) (fun c_5 => ?_) (fun c_5 => ?_)
              · skip
                refine r_iinc (lv1 := [(4, .int (J ((q : Int) + 1))), (5, .long (JL (T 30 (40 * w.toNat + q)))), (3, .int (J (sumF (fun j => bI (0 ≤ (fun j => S 30 (40 * w.toNat + j)) j ∧ (fun j => S 30 (40 * w.toNat + j)) j ≤ 99)) q))), (0, .ref (a (49))), (1, .int (J w))]) hC hl dX7_lays_86 1 rfl (by decide) rfl (fun ls hl => ?_)
                refine r_goto (tgt := 21) hC dX7_lays_89 (by decide) ?_
                exact ih21 (q + 1) T ((q : Int) + 1) (sumF (fun j => bI (0 ≤ (fun j => S 30 (40 * w.toNat + j)) j ∧ (fun j => S 30 (40 * w.toNat + j)) j ≤ 99)) q) (by omega) (by omega) (by show _ = sumF (fun j => bI (0 ≤ (fun j => S 30 (40 * w.toNat + j)) j ∧ (fun j => S 30 (40 * w.toNat + j)) j ≤ 99)) q + bI (0 ≤ S 30 (40 * w.toNat + q) ∧ S 30 (40 * w.toNat + q) ≤ 99); rw [bI_f (by omega), Int.add_zero]) (by omega) (by rw [hT, bq_f (S 20) (fun j => S 30 (40 * w.toNat + j)) q (fun z => by have z1 : S 30 (40 * w.toNat + q) ≤ 99 := z.2; omega)]) _ _ _ hI (lv_sub hl [0, 2, 3, 4] rfl)
              · skip
                refine r_aload_n hC hl dX7_lays_73 3 rfl ?_
                refine r_iload hC hl dX7_lays_74 1 rfl ?_
                refine r_iconst hC dX7_lays_76 ?_
                refine r_lload hC hl dX7_lays_77 0 rfl ?_
                refine r_l2i hC dX7_lays_79 ?_
                refine r_cVv hC hI hl [.int (J (q : Int)), .int (J 2), .int (J (T 30 (40 * w.toNat + q)))] [] (c_X7_puts2 l X a B T q (T 30 (40 * w.toNat + q)) (by omega)) ml_RX7_83 ev_X7_puts (rc_mo (S := T) hC hI) ⟨Nat.le_of_ble_eq_true rfl, Nat.le_of_ble_eq_true rfl⟩ ⟨Nat.zero_le _, Nat.zero_le _⟩ (Nat.le_of_ble_eq_true rfl) rfl dX7_lays_80 (fun H locs hI => ?_)
                refine r_iinc (lv1 := [(3, .int (J (sumF (fun j => bI (0 ≤ (fun j => S 30 (40 * w.toNat + j)) j ∧ (fun j => S 30 (40 * w.toNat + j)) j ≤ 99)) q + 1))), (5, .long (JL (T 30 (40 * w.toNat + q)))), (4, .int (J (q : Int))), (0, .ref (a (49))), (1, .int (J w))]) hC hl dX7_lays_83 2 rfl (by decide) rfl (fun ls hl => ?_)
                refine r_iinc (lv1 := [(4, .int (J ((q : Int) + 1))), (3, .int (J (sumF (fun j => bI (0 ≤ (fun j => S 30 (40 * w.toNat + j)) j ∧ (fun j => S 30 (40 * w.toNat + j)) j ≤ 99)) q + 1))), (5, .long (JL (T 30 (40 * w.toNat + q)))), (0, .ref (a (49))), (1, .int (J w))]) hC hl dX7_lays_86 2 rfl (by decide) rfl (fun ls hl => ?_)
                refine r_goto (tgt := 21) hC dX7_lays_89 (by decide) ?_
                exact ih21 (q + 1) (up T 20 (20 + 5 * q) (T 30 (40 * w.toNat + q))) ((q : Int) + 1) (sumF (fun j => bI (0 ≤ (fun j => S 30 (40 * w.toNat + j)) j ∧ (fun j => S 30 (40 * w.toNat + j)) j ≤ 99)) q + 1) (by omega) (by omega) (by show _ = sumF (fun j => bI (0 ≤ (fun j => S 30 (40 * w.toNat + j)) j ∧ (fun j => S 30 (40 * w.toNat + j)) j ≤ 99)) q + bI (0 ≤ S 30 (40 * w.toNat + q) ∧ S 30 (40 * w.toNat + q) ≤ 99); rw [bI_t (by omega)]) (by omega) (by rw [t30, hT, up_set]; exact congrArg _ (bq_t (S 20) (fun j => S 30 (40 * w.toNat + j)) q ⟨by show 0 ≤ S 30 (40 * w.toNat + q); omega, by show S 30 (40 * w.toNat + q) ≤ 99; omega⟩)) _ _ _ hI (lv_sub hl [0, 1, 3, 4] rfl)
    exact hL21 _ 0 S 0 0 (Nat.lt_succ_self _) (by omega) rfl (by omega) (by rw [bq_0, setB_self]) _ _ _ hI (lv_sub hl [0, 1, 3, 4] rfl)
  · skip
    refine r_aload_n hC hl dX7_lays_10 1 rfl ?_
    refine r_iload_n hC hl dX7_lays_11 0 rfl ?_
    refine r_cVi hC hI hl [.int (J (bsF5 w (S 26 w.toNat)))] [] (c_X7_findsG l X a B S (bsF5 w (S 26 w.toNat)) (bsN w) (bs5_e c_1) (bsN_lt w)) ml_RX7_57 ev_X7_finds (rc_mo (S := S) hC hI) ⟨Nat.le_of_ble_eq_true rfl, Nat.le_of_ble_eq_true rfl⟩ ⟨Nat.zero_le _, Nat.zero_le _⟩ (Nat.le_of_ble_eq_true rfl) rfl dX7_lays_12 (fun H locs hI => ?_)
    exact r_iret hC hr hlk hI (an_f (bsN w) (bs5_c c_1)) (fn_f (bsN w) (bs5_c c_1)) dX7_lays_15

set_option maxHeartbeats 4000000 in
set_option maxRecDepth 100000 in
theorem c_X7_book (l : Launch) (X : XT) (a : Nat → Nat) (B : Nat) (S : St) (w : Int) (v : Int) (hV : VR 9999 (S 20)) (hw : -2147483648 ≤ w ∧ w ≤ 2147483647) (hv : -2147483648 ≤ v ∧ v ≤ 2147483647) (hSm : ∀ t, t < 4 → (S 26 t = 0 ∨ S 26 t = 8 ∨ S 26 t = 16 ∨ S 26 t = 64) ∧ 0 ≤ S 27 t ∧ S 27 t ≤ 40) : CT l X a B 3 yX7_book cX7_book 5 (some .int) [.ref (a (49)), .int (J w), .int (J v)] S (Qi X a B (anF (if ¬ (0 ≤ w ∧ w ≤ 3) then 0 else if S 26 w.toNat = 0 then 5 else if ¬ (0 ≤ v ∧ v < S 20 5) then 0 else -1) (S 27 w.toNat)) (fnF S 21 (if ¬ (0 ≤ w ∧ w ≤ 3) then 0 else if S 26 w.toNat = 0 then 5 else if ¬ (0 ≤ v ∧ v < S 20 5) then 0 else -1) (setB (setB S 22 (S 20)) 30 (sgF (S 30) (fun i => bkP (S 20) v.toNat (i : Int)) (40 * w.toNat) ((S 27 w.toNat).toNat))))) := by
  refine CT.of (by decide +kernel) (Nat.le_of_ble_eq_true rfl) ?_
  intro p e s m below meth c ls hC hr hlk hI hl
  have hC : Cx p c cX7_book 5 s m [.ref (a (49)), .int (J w), .int (J v)].toArray RX7 X B := hC
  have hl : lv_has ls 5 [(0, .ref (a (49))), (1, .int (J w)), (2, .int (J v))] := hl
  obtain ⟨⟨hN, hBr, hBu, hIn, hLa, hPc⟩, hDk, hPg⟩ := id hV
  have hbr := bs5_r w (S 26 w.toNat)
  refine r_aload_n hC hl dX7_book_0 0 rfl ?_
  refine r_iload_n hC hl dX7_book_1 1 rfl ?_
  refine r_cVi hC hI hl [.int (J w)] [] (c_X7_badSheet l X a B S w (by omega) hSm) ml_RX7_226 ev_X7_badSheet (rc_mo (S := S) hC hI) ⟨Nat.le_of_ble_eq_true rfl, Nat.le_of_ble_eq_true rfl⟩ ⟨Nat.zero_le _, Nat.zero_le _⟩ (Nat.le_of_ble_eq_true rfl) rfl dX7_book_2 (fun H locs hI => ?_)
  refine r_istore_n (lv1 := [(3, .int (J (bsF5 w (S 26 w.toNat)))), (0, .ref (a (49))), (1, .int (J w)), (2, .int (J v))]) hC hl dX7_book_5 3 rfl (by decide) rfl (fun ls hl => ?_)
  refine r_iload_n hC hl dX7_book_6 0 rfl ?_
  refine r_if_eq (tgt := 16) hC (by omega) dX7_book_7 (by decide) (fun c_1 => ?_) (fun c_1 => ?_)
  · skip
    obtain ⟨hw3, hz0⟩ := bs5_z c_1
    obtain ⟨hb4w, hlenw⟩ := hSm w.toNat (by omega)
    refine r_aload_n hC hl dX7_book_16 1 rfl ?_
    refine r_iload_n hC hl dX7_book_17 3 rfl ?_
    refine r_cVi hC hI hl [.int (J v)] [] (c_X7_isOne l X a B S v (by omega) (by omega)) ml_RX7_99 ev_X7_isOne (rc_mo (S := S) hC hI) ⟨Nat.le_of_ble_eq_true rfl, Nat.le_of_ble_eq_true rfl⟩ ⟨Nat.zero_le _, Nat.zero_le _⟩ (Nat.le_of_ble_eq_true rfl) rfl dX7_book_18 (fun H locs hI => ?_)
    refine r_b_ne (tgt := 31) hC dX7_book_21 (by decide) (fun c_2 => ?_) (fun c_2 => ?_)
    · skip
      have hvp := hPg v.toNat (by omega)
      refine r_aload_n hC hl dX7_book_31 1 rfl ?_
      refine r_iconst hC dX7_book_32 ?_
      refine r_aload_n hC hl dX7_book_33 1 rfl ?_
      refine g_mo  (v := .ref (a (52))) hC hI 2 (by decide) fl_RX7_16 rfl rfl dX7_book_34 ?_
      refine r_cVv hC hI hl [.int (J 1), .ref (a (52))] [] (c_X7_moveAll1 l X a B S 52 22 (by omega) (fun _ => rfl) (fun _ => rfl) (by omega) rfl) ml_RX7_117 ev_X7_moveAll (rc_mo (S := S) hC hI) ⟨Nat.le_of_ble_eq_true rfl, Nat.le_of_ble_eq_true rfl⟩ ⟨Nat.zero_le _, Nat.zero_le _⟩ (Nat.le_of_ble_eq_true rfl) rfl dX7_book_37 (fun H locs hI => ?_)
      obtain ⟨T, eT⟩ : ∃ z : St, z = setB S 22 (S 20) := ⟨_, rfl⟩
      rw [← eT] at hI
      have t20 : T 20 = S 20 := by rw [eT, setB_ne _ _ (by decide)]
      have t22 : T 22 = S 20 := by rw [eT, setB_at]
      have hVT : VR 9999 (T 20) := by rw [t20]; exact hV
      have t5 : T 20 5 = S 20 5 := by rw [t20]
      have t4 : T 20 4 = S 20 4 := by rw [t20]
      have t27 : T 27 = S 27 := by rw [eT, setB_ne _ _ (by decide)]
      have t30 : T 30 = S 30 := by rw [eT, setB_ne _ _ (by decide)]
      refine r_iconst hC dX7_book_40 ?_
      refine r_istore (lv1 := [(4, .int (J 0)), (3, .int (J (bsF5 w (S 26 w.toNat)))), (0, .ref (a (49))), (1, .int (J w)), (2, .int (J v))]) hC hl dX7_book_41 (by decide) rfl (fun ls hl => ?_)
      have hL43 : ∀ (fu : Nat) (q : Nat) (U : St) (x4 : Int), (S 27 w.toNat).toNat - q < fu → (x4 = (q : Int)) → (q ≤ (S 27 w.toNat).toNat) → (U = setB (setB T 20 (lgF (S 20) q)) 30 (sgF (S 30) (fun i => bkP (S 20) v.toNat (i : Int)) (40 * w.toNat) (q))) → ∀ (H : Heap) (locs : List Loc) (ls : Array Slot), IS X a B s (U) H locs → lv_has ls 5 [(4, .int (J x4)), (0, .ref (a (49))), (1, .int (J w)), (2, .int (J v))] → W p l e (rmD 3) s m [.ref (a (49)), .int (J w), .int (J v)].toArray below meth c H locs 0 0 (MQ below (Qi X a B (anF (if ¬ (0 ≤ w ∧ w ≤ 3) then 0 else if S 26 w.toNat = 0 then 5 else if ¬ (0 ≤ v ∧ v < S 20 5) then 0 else -1) (S 27 w.toNat)) (fnF S 21 (if ¬ (0 ≤ w ∧ w ≤ 3) then 0 else if S 26 w.toNat = 0 then 5 else if ¬ (0 ≤ v ∧ v < S 20 5) then 0 else -1) (setB (setB S 22 (S 20)) 30 (sgF (S 30) (fun i => bkP (S 20) v.toNat (i : Int)) (40 * w.toNat) ((S 27 w.toNat).toNat))))) [.ref (a (49)), .int (J w), .int (J v)].toArray s 0 0 (fun q => B ≤ q)) (F0 m 43 ls []) := by
        intro fu
        induction fu with
        | zero => intro q U x4 hm; exact absurd hm (Nat.not_lt_zero _)
        | succ fu ih43 =>
          intro q U x4 hm e4 hq hU H locs ls hI hl
          subst e4
          have u20 : U 20 = lgF (S 20) q := by rw [hU, setB_ne _ _ (by decide), setB_at]
          have u27 : U 27 w.toNat = S 27 w.toNat := by rw [hU, setB_ne _ _ (by decide), setB_ne _ _ (by decide), t27]
          have hbk := bk_rg hvp (n := (q : Int)) (by omega)
          refine r_iload hC hl dX7_book_43 0 rfl ?_
          refine r_aload_n hC hl dX7_book_45 1 rfl ?_
          refine g_mo  (v := .ref (a (56))) hC hI 13 (by decide) fl_RX7_28 rfl rfl dX7_book_46 ?_
          refine r_iload_n hC hl dX7_book_49 2 rfl ?_
          refine r_iald (cx := 56) (n := 4) (f := (fun S => S 27) (U)) (v := U 27 ((w).toNat)) hC hI (by decide) rfl (by decide) ((w).toNat) (by omega) (by omega) rfl dX7_book_50 ?_
          refine r_icmp_ge (tgt := 83) hC (by omega) (by omega) dX7_book_51 (by decide) (fun c_3 => ?_) (fun c_3 => ?_)
          · skip
            refine r_aload_n hC hl dX7_book_83 1 rfl ?_
            refine r_iconst hC dX7_book_84 ?_
            refine r_aload_n hC hl dX7_book_85 1 rfl ?_
            refine g_mo  (v := .ref (a (52))) hC hI 2 (by decide) fl_RX7_16 rfl rfl dX7_book_86 ?_
            refine r_cVv hC hI hl [.int (J 0), .ref (a (52))] [] (c_X7_moveAll0 l X a B U 52 22 (by omega) (fun _ => rfl) (fun _ => rfl) (by omega) rfl) ml_RX7_117 ev_X7_moveAll (rc_mo (S := U) hC hI) ⟨Nat.le_of_ble_eq_true rfl, Nat.le_of_ble_eq_true rfl⟩ ⟨Nat.zero_le _, Nat.zero_le _⟩ (Nat.le_of_ble_eq_true rfl) rfl dX7_book_89 (fun H locs hI => ?_)
            refine r_aload_n hC hl dX7_book_92 1 rfl ?_
            refine g_mo  (v := .ref (a (56))) hC hI 13 (by decide) fl_RX7_28 rfl rfl dX7_book_93 ?_
            refine r_iload_n hC hl dX7_book_96 2 rfl ?_
            refine r_iald (cx := 56) (n := 4) (f := (fun S => S 27) (setB U 20 (U 22))) (v := (setB U 20 (U 22)) 27 ((w).toNat)) hC hI (by decide) rfl (by decide) ((w).toNat) (by omega) (by omega) rfl dX7_book_97 ?_
            refine r_as (y := S 27 w.toNat) hC (by rw [setB_ne _ _ (by decide), u27]) ?_
            exact r_iret hC hr hlk hI (an_n (by (repeat' split) <;> first | rfl | omega) (rfl)) (fn_n (by (repeat' split) <;> first | rfl | omega) (by rw [bk_end hU t20 t22, show q = (S 27 w.toNat).toNat by omega, eT])) dX7_book_98
          · skip
            refine r_aload_n hC hl dX7_book_54 1 rfl ?_
            refine g_mo  (v := .ref (a (57))) hC hI 14 (by decide) fl_RX7_31 rfl rfl dX7_book_55 ?_
            refine r_bipush hC (by decide) dX7_book_58 ?_
            refine r_iload_n hC hl dX7_book_60 2 rfl ?_
            refine r_imul hC dX7_book_61 ?_
            refine r_iload hC hl dX7_book_62 0 rfl ?_
            refine r_iadd hC dX7_book_64 ?_
            refine r_as (y := ((40 * w.toNat + q : Nat) : Int)) hC (by omega) ?_
            refine r_aload_n hC hl dX7_book_65 1 rfl ?_
            refine r_iload_n hC hl dX7_book_66 3 rfl ?_
            refine r_iconst hC dX7_book_67 ?_
            refine r_cVi hC hI hl [.int (J v), .int (J 2)] [.int (J ((40 * w.toNat + q : Nat) : Int)), .ref (a (57))] (c_X7_its2_i l X a B U v (by omega)) ml_RX7_64 ev_X7_its (rc_mo (S := U) hC hI) ⟨Nat.le_of_ble_eq_true rfl, Nat.le_of_ble_eq_true rfl⟩ ⟨Nat.zero_le _, Nat.zero_le _⟩ (Nat.le_of_ble_eq_true rfl) rfl dX7_book_68 (fun H locs hI => ?_)
            refine r_as (y := bkP (S 20) v.toNat (q : Int)) hC (by rw [u20, lg_b (by omega)]) ?_
            refine r_i2l hC (by omega) dX7_book_71 ?_
            refine r_last (cx := 57) (n := 160) (F := fun S => S 30) hC hI (by decide) (fun _ => rfl) (by decide) (40 * w.toNat + q) (by omega) (by omega) (b := 30) (j := 40 * w.toNat + q) rfl (fun q => by simp [up, setB, upR]) dX7_book_72 (fun H locs hI => ?_)
            refine r_aload_n hC hl dX7_book_73 1 rfl ?_
            refine r_cVv hC hI hl [] [] (c_X7_oneNight l X a B (up U 30 (40 * w.toNat + q) (bkP (S 20) v.toNat (q : Int)))  (by rw [up_nb _ _ (by decide), u20]; exact VR_mono (by omega) (lg_VR (by omega) hV))) ml_RX7_110 ev_X7_oneNight (rc_mo (S := up U 30 (40 * w.toNat + q) (bkP (S 20) v.toNat (q : Int))) hC hI) ⟨Nat.le_of_ble_eq_true rfl, Nat.le_of_ble_eq_true rfl⟩ ⟨Nat.zero_le _, Nat.zero_le _⟩ (Nat.le_of_ble_eq_true rfl) rfl dX7_book_74 (fun H locs hI => ?_)
            refine r_iinc (lv1 := [(4, .int (J ((q : Int) + 1))), (0, .ref (a (49))), (1, .int (J w)), (2, .int (J v))]) hC hl dX7_book_77 0 rfl (by decide) rfl (fun ls hl => ?_)
            refine r_goto (tgt := 43) hC dX7_book_80 (by decide) ?_
            exact ih43 (q + 1) _ ((q : Int) + 1) (by omega) (by omega) (by omega) (bk_nx hU (ni_lg (by omega) hV) (sg_up (S 30) (fun i => bkP (S 20) v.toNat (i : Int)) (40 * w.toNat) q rfl)) _ _ _ hI (lv_sub hl [0, 1, 2, 3] rfl)
      exact hL43 _ 0 T 0 (Nat.lt_succ_self _) (by omega) (by omega) (by rw [lg_id hV, sg_0]; exact bk_00 t20 t30) _ _ _ hI (lv_sub hl [0, 2, 3, 4] rfl)
    · skip
      refine r_aload_n hC hl dX7_book_24 1 rfl ?_
      refine r_ldc (x := (-1000000001)) hC ct_RX7_44 (by decide) dX7_book_25 ?_
      refine r_cVi hC hI hl [.int (J (-1000000001))] [] (c_X7_finds0 l X a B S  ) ml_RX7_57 ev_X7_finds (rc_mo (S := S) hC hI) ⟨Nat.le_of_ble_eq_true rfl, Nat.le_of_ble_eq_true rfl⟩ ⟨Nat.zero_le _, Nat.zero_le _⟩ (Nat.le_of_ble_eq_true rfl) rfl dX7_book_27 (fun H locs hI => ?_)
      exact r_iret hC hr hlk hI (an_f 0 (by (repeat' split) <;> first | rfl | omega)) (fn_f 0 (by (repeat' split) <;> first | rfl | omega)) dX7_book_30
  · skip
    refine r_aload_n hC hl dX7_book_10 1 rfl ?_
    refine r_iload_n hC hl dX7_book_11 0 rfl ?_
    refine r_cVi hC hI hl [.int (J (bsF5 w (S 26 w.toNat)))] [] (c_X7_findsG l X a B S (bsF5 w (S 26 w.toNat)) (bsN w) (bs5_e c_1) (bsN_lt w)) ml_RX7_57 ev_X7_finds (rc_mo (S := S) hC hI) ⟨Nat.le_of_ble_eq_true rfl, Nat.le_of_ble_eq_true rfl⟩ ⟨Nat.zero_le _, Nat.zero_le _⟩ (Nat.le_of_ble_eq_true rfl) rfl dX7_book_12 (fun H locs hI => ?_)
    exact r_iret hC hr hlk hI (an_f (bsN w) (bs5_c c_1)) (fn_f (bsN w) (bs5_c c_1)) dX7_book_15

set_option maxHeartbeats 4000000 in
set_option maxRecDepth 100000 in
theorem c_X7_isSo (l : Launch) (X : XT) (a : Nat → Nat) (B : Nat) (S : St) (w : Int) (v : Int) (hV : VR 9999 (S 20)) (hw : 0 ≤ w ∧ w ≤ 3) (hv : 0 ≤ v ∧ v ≤ 7) (hv5 : v < S 20 5) (hlen : 0 ≤ S 27 w.toNat ∧ S 27 w.toNat ≤ 40) (hSl : ∀ j, j < 160 → -9223372036854775808 ≤ S 30 j ∧ S 30 j ≤ 9223372036854775807) : CT l X a B 3 yX7_isSo cX7_isSo 5 (some .boolean) [.ref (a (49)), .int (J w), .int (J v)] S (Qi X a B (bI (tlP (fun j => S 30 (40 * w.toNat + j)) (S 27 w.toNat).toNat (S 20 (20 + 5 * v.toNat)) (fdP (S 20) v.toNat))) (setB S 20 (lgF (S 20) (isoN (fun i => decide (S 30 (40 * w.toNat + i) = bkP (S 20) v.toNat (i : Int))) (S 27 w.toNat).toNat 0)))) := by
  refine CT.of (by decide +kernel) (Nat.le_of_ble_eq_true rfl) ?_
  intro p e s m below meth c ls hC hr hlk hI hl
  have hC : Cx p c cX7_isSo 5 s m [.ref (a (49)), .int (J w), .int (J v)].toArray RX7 X B := hC
  have hl : lv_has ls 5 [(0, .ref (a (49))), (1, .int (J w)), (2, .int (J v))] := hl
  obtain ⟨⟨hN, hBr, hBu, hIn, hLa, hPc⟩, hDk, hPg⟩ := id hV
  have hvp := hPg v.toNat (by omega)
  refine r_iconst hC dX7_isSo_0 ?_
  refine r_istore_n (lv1 := [(3, .int (J 1)), (0, .ref (a (49))), (1, .int (J w)), (2, .int (J v))]) hC hl dX7_isSo_1 3 rfl (by decide) rfl (fun ls hl => ?_)
  refine r_iconst hC dX7_isSo_2 ?_
  refine r_istore (lv1 := [(4, .int (J 0)), (3, .int (J 1)), (0, .ref (a (49))), (1, .int (J w)), (2, .int (J v))]) hC hl dX7_isSo_3 (by decide) rfl (fun ls hl => ?_)
  have hL5 : ∀ (fu : Nat) (q : Nat) (g3 : Int) (U : St) (x4 x3 : Int), (S 27 w.toNat).toNat - q < fu → (x4 = (q : Int)) → (x3 = g3 + 0) → (q ≤ (S 27 w.toNat).toNat) → ((g3 = 1 ∧ (∀ j, j < q → S 30 (40 * w.toNat + j) = bkP (S 20) v.toNat (j : Int)) ∧ isoN (fun i => decide (S 30 (40 * w.toNat + i) = bkP (S 20) v.toNat (i : Int))) ((S 27 w.toNat).toNat - q) q = isoN (fun i => decide (S 30 (40 * w.toNat + i) = bkP (S 20) v.toNat (i : Int))) (S 27 w.toNat).toNat 0) ∨ (g3 = 0 ∧ ¬ (tlP (fun j => S 30 (40 * w.toNat + j)) (S 27 w.toNat).toNat (S 20 (20 + 5 * v.toNat)) (fdP (S 20) v.toNat)) ∧ q = isoN (fun i => decide (S 30 (40 * w.toNat + i) = bkP (S 20) v.toNat (i : Int))) (S 27 w.toNat).toNat 0)) → (U = setB S 20 (lgF (S 20) q)) → ∀ (H : Heap) (locs : List Loc) (ls : Array Slot), IS X a B s (U) H locs → lv_has ls 5 [(4, .int (J x4)), (3, .int (J x3)), (0, .ref (a (49))), (1, .int (J w)), (2, .int (J v))] → W p l e (rmD 3) s m [.ref (a (49)), .int (J w), .int (J v)].toArray below meth c H locs 0 0 (MQ below (Qi X a B (bI (tlP (fun j => S 30 (40 * w.toNat + j)) (S 27 w.toNat).toNat (S 20 (20 + 5 * v.toNat)) (fdP (S 20) v.toNat))) (setB S 20 (lgF (S 20) (isoN (fun i => decide (S 30 (40 * w.toNat + i) = bkP (S 20) v.toNat (i : Int))) (S 27 w.toNat).toNat 0)))) [.ref (a (49)), .int (J w), .int (J v)].toArray s 0 0 (fun q => B ≤ q)) (F0 m 5 ls []) := by
    intro fu
    induction fu with
    | zero => intro q g3 U x4 x3 hm; exact absurd hm (Nat.not_lt_zero _)
    | succ fu ih5 =>
      intro q g3 U x4 x3 hm e4 e3 hq he hU H locs ls hI hl
      subst e4; subst e3
      have u20 : U 20 = lgF (S 20) q := by rw [hU, setB_at]
      have u30 : U 30 = S 30 := by rw [hU, setB_ne _ _ (by decide)]
      have u27 : U 27 w.toNat = S 27 w.toNat := by rw [hU, setB_ne _ _ (by decide)]
      have hbk := bk_rg hvp (n := (q : Int)) (by omega)
      have hg3 : g3 = 0 ∨ g3 = 1 := by rcases he with h | h; exact Or.inr h.1; exact Or.inl h.1
      have hg01 : g3 + 0 = 0 ∨ g3 + 0 = 1 := by omega
      refine r_iload hC hl dX7_isSo_5 0 rfl ?_
      refine r_aload_n hC hl dX7_isSo_7 2 rfl ?_
      refine g_mo  (v := .ref (a (56))) hC hI 13 (by decide) fl_RX7_28 rfl rfl dX7_isSo_8 ?_
      refine r_iload_n hC hl dX7_isSo_11 3 rfl ?_
      refine r_iald (cx := 56) (n := 4) (f := (fun S => S 27) (U)) (v := U 27 ((w).toNat)) hC hI (by decide) rfl (by decide) ((w).toNat) (by omega) (by omega) rfl dX7_isSo_12 ?_
      refine r_icmp_ge (tgt := 59) hC (by omega) (by omega) dX7_isSo_13 (by decide) (fun c_1 => ?_) (fun c_1 => ?_)
      · skip
        refine r_iload_n hC hl dX7_isSo_59 1 rfl ?_
        exact r_zret hC hr hlk hI (hg01) (by rcases he with h | h; exact (show g3 + 0 = 1 by omega).trans (bI_t (fun j hj => h.2.1 j (by omega))).symm; exact (show g3 + 0 = 0 by omega).trans (bI_f h.2.1).symm) (by rw [hU, show q = isoN (fun i => decide (S 30 (40 * w.toNat + i) = bkP (S 20) v.toNat (i : Int))) (S 27 w.toNat).toNat 0 from by rcases he with h | h; exact (show q = isoN (fun i => decide (S 30 (40 * w.toNat + i) = bkP (S 20) v.toNat (i : Int))) ((S 27 w.toNat).toNat - q) q by rw [show (S 27 w.toNat).toNat - q = 0 by omega]; rfl).trans h.2.2; exact h.2.2]) dX7_isSo_60
      · skip
        refine r_iload_n hC hl dX7_isSo_16 1 rfl ?_
        refine r_if_eq (tgt := 59) hC (by omega) dX7_isSo_17 (by decide) (fun c_2 => ?_) (fun c_2 => ?_)
        · skip
          refine r_iload_n hC hl dX7_isSo_59 1 rfl ?_
          exact r_zret hC hr hlk hI (hg01) (by rcases he with h | h; exact (show g3 + 0 = 1 by omega).trans (bI_t (fun j hj => h.2.1 j (by omega))).symm; exact (show g3 + 0 = 0 by omega).trans (bI_f h.2.1).symm) (by rw [hU, show q = isoN (fun i => decide (S 30 (40 * w.toNat + i) = bkP (S 20) v.toNat (i : Int))) (S 27 w.toNat).toNat 0 from by rcases he with h | h; exact (show q = isoN (fun i => decide (S 30 (40 * w.toNat + i) = bkP (S 20) v.toNat (i : Int))) ((S 27 w.toNat).toNat - q) q by rw [show (S 27 w.toNat).toNat - q = 0 by omega]; rfl).trans h.2.2; exact h.2.2]) dX7_isSo_60
        · skip
          have he2 : (∀ j, j < q → S 30 (40 * w.toNat + j) = bkP (S 20) v.toNat (j : Int)) ∧ isoN (fun i => decide (S 30 (40 * w.toNat + i) = bkP (S 20) v.toNat (i : Int))) ((S 27 w.toNat).toNat - q) q = isoN (fun i => decide (S 30 (40 * w.toNat + i) = bkP (S 20) v.toNat (i : Int))) (S 27 w.toNat).toNat 0 := by
            rcases he with h | h
            · exact h.2
            · exfalso; omega
          refine r_aload_n hC hl dX7_isSo_20 2 rfl ?_
          refine g_mo  (v := .ref (a (57))) hC hI 14 (by decide) fl_RX7_31 rfl rfl dX7_isSo_21 ?_
          refine r_bipush hC (by decide) dX7_isSo_24 ?_
          refine r_iload_n hC hl dX7_isSo_26 3 rfl ?_
          refine r_imul hC dX7_isSo_27 ?_
          refine r_iload hC hl dX7_isSo_28 0 rfl ?_
          refine r_iadd hC dX7_isSo_30 ?_
          refine r_as (y := ((40 * w.toNat + q : Nat) : Int)) hC (by omega) ?_
          refine r_lald (cx := 57) (n := 160) (f := (fun S => S 30) (U)) (v := U 30 (40 * w.toNat + q)) hC hI (by decide) rfl (by decide) (40 * w.toNat + q) (by omega) (by omega) rfl dX7_isSo_31 ?_
          refine r_aload_n hC hl dX7_isSo_32 2 rfl ?_
          refine r_iload_n hC hl dX7_isSo_33 4 rfl ?_
          refine r_iconst hC dX7_isSo_34 ?_
          refine r_cVi hC hI hl [.int (J v), .int (J 2)] [.long (JL (U 30 (40 * w.toNat + q)))] (c_X7_its2_i l X a B U v (by omega)) ml_RX7_64 ev_X7_its (rc_mo (S := U) hC hI) ⟨Nat.le_of_ble_eq_true rfl, Nat.le_of_ble_eq_true rfl⟩ ⟨Nat.zero_le _, Nat.zero_le _⟩ (Nat.le_of_ble_eq_true rfl) rfl dX7_isSo_35 (fun H locs hI => ?_)
          refine r_as (y := bkP (S 20) v.toNat (q : Int)) hC (by rw [u20, lg_b (by omega)]) ?_
          refine r_i2l hC (by omega) dX7_isSo_38 ?_
          refine r_lcmp hC (by rw [u30]; exact hSl _ (by omega)) (by omega) dX7_isSo_39 ?_
          refine r_c_ne (tgt := 47) hC dX7_isSo_40 (by decide) (fun c_3 => ?_) (fun c_3 => ?_)
          · skip
            refine r_iconst hC dX7_isSo_47 ?_
            refine r_istore_n (lv1 := [(3, .int (J 0)), (4, .int (J (q : Int))), (0, .ref (a (49))), (1, .int (J w)), (2, .int (J v))]) hC hl dX7_isSo_48 3 rfl (by decide) rfl (fun ls hl => ?_)
            refine r_aload_n hC hl dX7_isSo_49 2 rfl ?_
            refine r_cVv hC hI hl [] [] (c_X7_oneNight l X a B U  (by rw [u20]; exact VR_mono (by omega) (lg_VR (by omega) hV))) ml_RX7_110 ev_X7_oneNight (rc_mo (S := U) hC hI) ⟨Nat.le_of_ble_eq_true rfl, Nat.le_of_ble_eq_true rfl⟩ ⟨Nat.zero_le _, Nat.zero_le _⟩ (Nat.le_of_ble_eq_true rfl) rfl dX7_isSo_50 (fun H locs hI => ?_)
            refine r_iinc (lv1 := [(4, .int (J ((q : Int) + 1))), (3, .int (J 0)), (0, .ref (a (49))), (1, .int (J w)), (2, .int (J v))]) hC hl dX7_isSo_53 1 rfl (by decide) rfl (fun ls hl => ?_)
            refine r_goto (tgt := 5) hC dX7_isSo_56 (by decide) ?_
            exact ih5 (q + 1) 0 _ ((q : Int) + 1) 0 (by omega) (by omega) (by omega) (by omega) (Or.inr ⟨rfl, fun z => c_3 (by rw [u30]; exact z q (by omega)), by rw [← he2.2, show (S 27 w.toNat).toNat - q = ((S 27 w.toNat).toNat - (q + 1)) + 1 by omega, iso_f (fun z => c_3 (by rw [u30]; exact of_decide_eq_true z))]⟩) (by rw [u20, hU, setB_setB, ni_lg (by omega) hV]) _ _ _ hI (lv_sub hl [0, 1, 2, 3, 4] rfl)
          · skip
            refine r_iconst hC dX7_isSo_43 ?_
            refine r_goto (tgt := 48) hC dX7_isSo_44 (by decide) ?_
            refine r_istore_n (lv1 := [(3, .int (J 1)), (4, .int (J (q : Int))), (0, .ref (a (49))), (1, .int (J w)), (2, .int (J v))]) hC hl dX7_isSo_48 3 rfl (by decide) rfl (fun ls hl => ?_)
            refine r_aload_n hC hl dX7_isSo_49 2 rfl ?_
            refine r_cVv hC hI hl [] [] (c_X7_oneNight l X a B U  (by rw [u20]; exact VR_mono (by omega) (lg_VR (by omega) hV))) ml_RX7_110 ev_X7_oneNight (rc_mo (S := U) hC hI) ⟨Nat.le_of_ble_eq_true rfl, Nat.le_of_ble_eq_true rfl⟩ ⟨Nat.zero_le _, Nat.zero_le _⟩ (Nat.le_of_ble_eq_true rfl) rfl dX7_isSo_50 (fun H locs hI => ?_)
            refine r_iinc (lv1 := [(4, .int (J ((q : Int) + 1))), (3, .int (J 1)), (0, .ref (a (49))), (1, .int (J w)), (2, .int (J v))]) hC hl dX7_isSo_53 1 rfl (by decide) rfl (fun ls hl => ?_)
            refine r_goto (tgt := 5) hC dX7_isSo_56 (by decide) ?_
            exact ih5 (q + 1) 1 _ ((q : Int) + 1) 1 (by omega) (by omega) (by omega) (by omega) (Or.inl ⟨rfl, lt_s he2.1 (by rw [u30] at c_3; exact c_3), by rw [← he2.2, show (S 27 w.toNat).toNat - q = ((S 27 w.toNat).toNat - (q + 1)) + 1 by omega, iso_t (decide_eq_true (by rw [u30] at c_3; exact c_3))]⟩) (by rw [u20, hU, setB_setB, ni_lg (by omega) hV]) _ _ _ hI (lv_sub hl [0, 1, 2, 3, 4] rfl)
  exact hL5 _ 0 1 S 0 1 (Nat.lt_succ_self _) (by omega) (by omega) (by omega) (Or.inl ⟨rfl, fun j hj => absurd hj (Nat.not_lt_zero j), rfl⟩) (by rw [lg_id hV, setB_self]) _ _ _ hI (lv_sub hl [0, 1, 2, 3, 4] rfl)

theorem rd_rt {S T Q1 Q2 : St} {A : Nat → Int} {i j : Nat} {x y : Int} (t20 : T 20 = S 20) (t23 : T 23 = S 20) (e1 : Q1 = up (up T 20 i x) 20 j y) (e2 : Q2 = setB Q1 20 A) : setB Q2 20 (Q2 23) = T := by
  subst e2
  rw [setB_setB, setB_ne _ _ (by decide), e1, up_nb _ _ (by decide), up_nb _ _ (by decide), t23]
  unfold up
  rw [setB_setB, setB_setB, ← t20, setB_self]

set_option maxHeartbeats 4000000 in
set_option maxRecDepth 100000 in
theorem c_X7_read (l : Launch) (X : XT) (a : Nat → Nat) (B : Nat) (S : St) (w : Int) (v : Int) (hV : VR 9999 (S 20)) (hw : -2147483648 ≤ w ∧ w ≤ 2147483647) (hv : -2147483648 ≤ v ∧ v ≤ 2147483647) (hSm : ∀ t, t < 4 → (S 26 t = 0 ∨ S 26 t = 8 ∨ S 26 t = 16 ∨ S 26 t = 64) ∧ 0 ≤ S 27 t ∧ S 27 t ≤ 40) (hSl : ∀ j, j < 160 → -9223372036854775808 ≤ S 30 j ∧ S 30 j ≤ 9223372036854775807) : CT l X a B 4 yX7_read cX7_read 6 (some .int) [.ref (a (49)), .int (J w), .int (J v)] S (Qi X a B (anF (if ¬ (0 ≤ w ∧ w ≤ 3) then 0 else if S 26 w.toNat = 0 then 5 else if ¬ (0 ≤ v ∧ v < S 20 5) then 0 else -1) (sumF (fun q => sumF (fun r => bI (tlP ((fun j => S 30 (40 * w.toNat + j))) (S 27 w.toNat).toNat (r : Int) (fdF (q : Int) (S 20 (21 + 5 * v.toNat)) (S 20 (22 + 5 * v.toNat))))) 100) 6)) (fnF S 21 (if ¬ (0 ≤ w ∧ w ≤ 3) then 0 else if S 26 w.toNat = 0 then 5 else if ¬ (0 ≤ v ∧ v < S 20 5) then 0 else -1) (setB S 23 (S 20)))) := by
  refine CT.of (by decide +kernel) (Nat.le_of_ble_eq_true rfl) ?_
  intro p e s m below meth c ls hC hr hlk hI hl
  have hC : Cx p c cX7_read 6 s m [.ref (a (49)), .int (J w), .int (J v)].toArray RX7 X B := hC
  have hl : lv_has ls 6 [(0, .ref (a (49))), (1, .int (J w)), (2, .int (J v))] := hl
  obtain ⟨⟨hN, hBr, hBu, hIn, hLa, hPc⟩, hDk, hPg⟩ := id hV
  have hbr := bs5_r w (S 26 w.toNat)
  refine r_aload_n hC hl dX7_read_0 0 rfl ?_
  refine r_iload_n hC hl dX7_read_1 1 rfl ?_
  refine r_cVi hC hI hl [.int (J w)] [] (c_X7_badSheet l X a B S w (by omega) hSm) ml_RX7_226 ev_X7_badSheet (rc_mo (S := S) hC hI) ⟨Nat.le_of_ble_eq_true rfl, Nat.le_of_ble_eq_true rfl⟩ ⟨Nat.zero_le _, Nat.zero_le _⟩ (Nat.le_of_ble_eq_true rfl) rfl dX7_read_2 (fun H locs hI => ?_)
  refine r_istore_n (lv1 := [(3, .int (J (bsF5 w (S 26 w.toNat)))), (0, .ref (a (49))), (1, .int (J w)), (2, .int (J v))]) hC hl dX7_read_5 3 rfl (by decide) rfl (fun ls hl => ?_)
  refine r_iload_n hC hl dX7_read_6 0 rfl ?_
  refine r_if_eq (tgt := 16) hC (by omega) dX7_read_7 (by decide) (fun c_1 => ?_) (fun c_1 => ?_)
  · skip
    obtain ⟨hw3, hz0⟩ := bs5_z c_1
    obtain ⟨hb4w, hlenw⟩ := hSm w.toNat (by omega)
    refine r_aload_n hC hl dX7_read_16 1 rfl ?_
    refine r_iload_n hC hl dX7_read_17 3 rfl ?_
    refine r_cVi hC hI hl [.int (J v)] [] (c_X7_isOne l X a B S v (by omega) (by omega)) ml_RX7_99 ev_X7_isOne (rc_mo (S := S) hC hI) ⟨Nat.le_of_ble_eq_true rfl, Nat.le_of_ble_eq_true rfl⟩ ⟨Nat.zero_le _, Nat.zero_le _⟩ (Nat.le_of_ble_eq_true rfl) rfl dX7_read_18 (fun H locs hI => ?_)
    refine r_b_ne (tgt := 31) hC dX7_read_21 (by decide) (fun c_2 => ?_) (fun c_2 => ?_)
    · skip
      have hvp := hPg v.toNat (by omega)
      refine r_iconst hC dX7_read_31 ?_
      refine r_istore (lv1 := [(4, .int (J 0)), (3, .int (J (bsF5 w (S 26 w.toNat)))), (0, .ref (a (49))), (1, .int (J w)), (2, .int (J v))]) hC hl dX7_read_32 (by decide) rfl (fun ls hl => ?_)
      refine r_aload_n hC hl dX7_read_34 2 rfl ?_
      refine r_iconst hC dX7_read_35 ?_
      refine r_aload_n hC hl dX7_read_36 2 rfl ?_
      refine g_mo  (v := .ref (a (53))) hC hI 3 (by decide) fl_RX7_19 rfl rfl dX7_read_37 ?_
      refine r_cVv hC hI hl [.int (J 1), .ref (a (53))] [] (c_X7_moveAll1 l X a B S 53 23 (by omega) (fun _ => rfl) (fun _ => rfl) (by omega) rfl) ml_RX7_117 ev_X7_moveAll (rc_mo (S := S) hC hI) ⟨Nat.le_of_ble_eq_true rfl, Nat.le_of_ble_eq_true rfl⟩ ⟨Nat.zero_le _, Nat.zero_le _⟩ (Nat.le_of_ble_eq_true rfl) rfl dX7_read_40 (fun H locs hI => ?_)
      obtain ⟨T, eT⟩ : ∃ z : St, z = setB S 23 (S 20) := ⟨_, rfl⟩
      rw [← eT] at hI
      have t20 : T 20 = S 20 := by rw [eT, setB_ne _ _ (by decide)]
      have t23 : T 23 = S 20 := by rw [eT, setB_at]
      have t27 : T 27 = S 27 := by rw [eT, setB_ne _ _ (by decide)]
      have t30 : T 30 = S 30 := by rw [eT, setB_ne _ _ (by decide)]
      refine r_iconst hC dX7_read_43 ?_
      refine r_istore (lv1 := [(5, .int (J 0)), (4, .int (J 0)), (3, .int (J (bsF5 w (S 26 w.toNat)))), (0, .ref (a (49))), (1, .int (J w)), (2, .int (J v))]) hC hl dX7_read_44 (by decide) rfl (fun ls hl => ?_)
      have hL46 : ∀ (fu : Nat) (q : Nat) (U : St) (x5 x4 : Int), 600 - q < fu → (x5 = (q : Int)) → (x4 = sumF (fun c => bI (tlP (fun j => S 30 (40 * w.toNat + j)) (S 27 w.toNat).toNat ((c % 100 : Nat) : Int) (fdF ((c / 100 : Nat) : Int) (S 20 (21 + 5 * v.toNat)) (S 20 (22 + 5 * v.toNat))))) q) → (q ≤ 600) → (U = T) → ∀ (H : Heap) (locs : List Loc) (ls : Array Slot), IS X a B s (U) H locs → lv_has ls 6 [(5, .int (J x5)), (4, .int (J x4)), (0, .ref (a (49))), (1, .int (J w)), (2, .int (J v))] → W p l e (rmD 4) s m [.ref (a (49)), .int (J w), .int (J v)].toArray below meth c H locs 0 0 (MQ below (Qi X a B (anF (if ¬ (0 ≤ w ∧ w ≤ 3) then 0 else if S 26 w.toNat = 0 then 5 else if ¬ (0 ≤ v ∧ v < S 20 5) then 0 else -1) (sumF (fun q => sumF (fun r => bI (tlP ((fun j => S 30 (40 * w.toNat + j))) (S 27 w.toNat).toNat (r : Int) (fdF (q : Int) (S 20 (21 + 5 * v.toNat)) (S 20 (22 + 5 * v.toNat))))) 100) 6)) (fnF S 21 (if ¬ (0 ≤ w ∧ w ≤ 3) then 0 else if S 26 w.toNat = 0 then 5 else if ¬ (0 ≤ v ∧ v < S 20 5) then 0 else -1) (setB S 23 (S 20)))) [.ref (a (49)), .int (J w), .int (J v)].toArray s 0 0 (fun q => B ≤ q)) (F0 m 46 ls []) := by
        intro fu
        induction fu with
        | zero => intro q U x5 x4 hm; exact absurd hm (Nat.not_lt_zero _)
        | succ fu ih46 =>
          intro q U x5 x4 hm e5 e4 hq hU H locs ls hI hl
          subst e5; subst e4
          refine r_iload hC hl dX7_read_46 0 rfl ?_
          refine r_sipush hC (by decide) dX7_read_48 ?_
          refine r_icmp_ge (tgt := 110) hC (by omega) (by omega) dX7_read_51 (by decide) (fun c_3 => ?_) (fun c_3 => ?_)
          · skip
            refine r_iload hC hl dX7_read_110 1 rfl ?_
            exact r_iret hC hr hlk hI (an_n (by (repeat' split) <;> first | rfl | omega) (by rw [show q = 100 * 6 by omega]; exact sum2 (fun (a1 b1 : Nat) => bI (tlP (fun j => S 30 (40 * w.toNat + j)) (S 27 w.toNat).toNat (b1 : Int) (fdF (a1 : Int) (S 20 (21 + 5 * v.toNat)) (S 20 (22 + 5 * v.toNat))))) 6)) (fn_n (by (repeat' split) <;> first | rfl | omega) (by rw [hU]; exact eT)) dX7_read_112
          · skip
            refine r_aload_n hC hl dX7_read_54 2 rfl ?_
            refine r_iload_n hC hl dX7_read_55 4 rfl ?_
            refine r_iconst hC dX7_read_56 ?_
            refine r_iload hC hl dX7_read_57 0 rfl ?_
            refine r_bipush hC (by decide) dX7_read_59 ?_
            refine r_idiv hC (by omega) (by omega) dX7_read_61 ?_
            refine r_as (y := ((q / 100 : Nat) : Int)) hC (by omega) ?_
            refine r_cVv hC hI hl [.int (J v), .int (J 0), .int (J ((q / 100 : Nat) : Int))] [] (c_X7_puts0_i l X a B U v ((q / 100 : Nat) : Int) (by omega)) ml_RX7_83 ev_X7_puts (rc_mo (S := U) hC hI) ⟨Nat.le_of_ble_eq_true rfl, Nat.le_of_ble_eq_true rfl⟩ ⟨Nat.zero_le _, Nat.zero_le _⟩ (Nat.le_of_ble_eq_true rfl) rfl dX7_read_62 (fun H locs hI => ?_)
            refine r_aload_n hC hl dX7_read_65 2 rfl ?_
            refine r_iload_n hC hl dX7_read_66 4 rfl ?_
            refine r_iconst hC dX7_read_67 ?_
            refine r_iload hC hl dX7_read_68 0 rfl ?_
            refine r_bipush hC (by decide) dX7_read_70 ?_
            refine r_irem hC (by omega) (by omega) dX7_read_72 ?_
            refine r_as (y := ((q % 100 : Nat) : Int)) hC (by omega) ?_
            refine r_cVv hC hI hl [.int (J v), .int (J 2), .int (J ((q % 100 : Nat) : Int))] [] (c_X7_puts2_i l X a B (up U 20 (18 + 5 * v.toNat) ((q / 100 : Nat) : Int)) v ((q % 100 : Nat) : Int) (by omega)) ml_RX7_83 ev_X7_puts (rc_mo (S := up U 20 (18 + 5 * v.toNat) ((q / 100 : Nat) : Int)) hC hI) ⟨Nat.le_of_ble_eq_true rfl, Nat.le_of_ble_eq_true rfl⟩ ⟨Nat.zero_le _, Nat.zero_le _⟩ (Nat.le_of_ble_eq_true rfl) rfl dX7_read_73 (fun H locs hI => ?_)
            obtain ⟨Q1, eQ1⟩ : ∃ z : St, z = up (up U 20 (18 + 5 * v.toNat) ((q / 100 : Nat) : Int)) 20 (20 + 5 * v.toNat) ((q % 100 : Nat) : Int) := ⟨_, rfl⟩
            rw [← eQ1] at hI
            have q20 : Q1 20 = upR (upR (S 20) (18 + 5 * v.toNat) ((q / 100 : Nat) : Int)) (20 + 5 * v.toNat) ((q % 100 : Nat) : Int) := by rw [eQ1, hU, up_b, up_b, t20]
            have q30 : Q1 30 = S 30 := by rw [eQ1, up_nb _ _ (by decide), up_nb _ _ (by decide), hU, t30]
            have q27 : Q1 27 = S 27 := by rw [eQ1, up_nb _ _ (by decide), up_nb _ _ (by decide), hU, t27]
            have hVQ : VR 9999 (Q1 20) := by rw [q20]; exact VR_b (by omega) (by omega) (VR_k (by omega) (by omega) hV)
            have q5 : Q1 20 5 = S 20 5 := by rw [q20, upR_ne _ _ (by omega), upR_ne _ _ (by omega)]
            have qb : Q1 20 (20 + 5 * v.toNat) = ((q % 100 : Nat) : Int) := by rw [q20, upR_at]
            have qf : fdP (Q1 20) v.toNat = (fdF ((q / 100 : Nat) : Int) (S 20 (21 + 5 * v.toNat)) (S 20 (22 + 5 * v.toNat))) := by
              unfold fdP
              rw [q20, upR_ne (j := 20 + 5 * v.toNat) (q := 18 + 5 * v.toNat) _ _ (by omega), upR_at, upR_ne (j := 20 + 5 * v.toNat) (q := 21 + 5 * v.toNat) _ _ (by omega), upR_ne (j := 18 + 5 * v.toNat) (q := 21 + 5 * v.toNat) _ _ (by omega), upR_ne (j := 20 + 5 * v.toNat) (q := 22 + 5 * v.toNat) _ _ (by omega), upR_ne (j := 18 + 5 * v.toNat) (q := 22 + 5 * v.toNat) _ _ (by omega)]
            have hP : (tlP (fun j => Q1 30 (40 * w.toNat + j)) (Q1 27 w.toNat).toNat (Q1 20 (20 + 5 * v.toNat)) (fdP (Q1 20) v.toNat)) = (tlP (fun j => S 30 (40 * w.toNat + j)) (S 27 w.toNat).toNat ((q % 100 : Nat) : Int) (fdF ((q / 100 : Nat) : Int) (S 20 (21 + 5 * v.toNat)) (S 20 (22 + 5 * v.toNat)))) := by rw [q30, q27, qb, qf]
            refine r_iload hC hl dX7_read_76 1 rfl ?_
            refine r_aload_n hC hl dX7_read_78 2 rfl ?_
            refine r_iload_n hC hl dX7_read_79 3 rfl ?_
            refine r_iload_n hC hl dX7_read_80 4 rfl ?_
            refine r_cVi hC hI hl [.int (J w), .int (J v)] [.int (J (sumF (fun c => bI (tlP (fun j => S 30 (40 * w.toNat + j)) (S 27 w.toNat).toNat ((c % 100 : Nat) : Int) (fdF ((c / 100 : Nat) : Int) (S 20 (21 + 5 * v.toNat)) (S 20 (22 + 5 * v.toNat))))) q))] (c_X7_isSo l X a B Q1 w v hVQ (by omega) (by omega) (by omega) (by rw [q27]; exact hlenw) (by rw [q30]; exact hSl)) ml_RX7_231 ev_X7_isSo (rc_mo (S := Q1) hC hI) ⟨Nat.le_of_ble_eq_true rfl, Nat.le_of_ble_eq_true rfl⟩ ⟨Nat.zero_le _, Nat.zero_le _⟩ (Nat.le_of_ble_eq_true rfl) rfl dX7_read_81 (fun H locs hI => ?_)
            obtain ⟨Q2, eQ2⟩ : ∃ z : St, z = setB Q1 20 (lgF (Q1 20) (isoN (fun i => decide (Q1 30 (40 * w.toNat + i) = bkP (Q1 20) v.toNat (i : Int))) (Q1 27 w.toNat).toNat 0)) := ⟨_, rfl⟩
            rw [← eQ2] at hI
            refine r_b_eq (tgt := 91) hC dX7_read_84 (by decide) (fun c_4 => ?_) (fun c_4 => ?_)
            · skip
              rw [hP] at c_4
              refine r_iconst hC dX7_read_91 ?_
              refine r_iadd hC dX7_read_92 ?_
              refine r_istore (lv1 := [(4, .int (J ((sumF (fun c => bI (tlP (fun j => S 30 (40 * w.toNat + j)) (S 27 w.toNat).toNat ((c % 100 : Nat) : Int) (fdF ((c / 100 : Nat) : Int) (S 20 (21 + 5 * v.toNat)) (S 20 (22 + 5 * v.toNat))))) q) + 0))), (5, .int (J (q : Int))), (0, .ref (a (49))), (1, .int (J w)), (2, .int (J v))]) hC hl dX7_read_93 (by decide) rfl (fun ls hl => ?_)
              refine r_aload_n hC hl dX7_read_95 2 rfl ?_
              refine r_iconst hC dX7_read_96 ?_
              refine r_aload_n hC hl dX7_read_97 2 rfl ?_
              refine g_mo  (v := .ref (a (53))) hC hI 3 (by decide) fl_RX7_19 rfl rfl dX7_read_98 ?_
              refine r_cVv hC hI hl [.int (J 0), .ref (a (53))] [] (c_X7_moveAll0 l X a B Q2 53 23 (by omega) (fun _ => rfl) (fun _ => rfl) (by omega) rfl) ml_RX7_117 ev_X7_moveAll (rc_mo (S := Q2) hC hI) ⟨Nat.le_of_ble_eq_true rfl, Nat.le_of_ble_eq_true rfl⟩ ⟨Nat.zero_le _, Nat.zero_le _⟩ (Nat.le_of_ble_eq_true rfl) rfl dX7_read_101 (fun H locs hI => ?_)
              refine r_iinc (lv1 := [(5, .int (J ((q : Int) + 1))), (4, .int (J ((sumF (fun c => bI (tlP (fun j => S 30 (40 * w.toNat + j)) (S 27 w.toNat).toNat ((c % 100 : Nat) : Int) (fdF ((c / 100 : Nat) : Int) (S 20 (21 + 5 * v.toNat)) (S 20 (22 + 5 * v.toNat))))) q) + 0))), (0, .ref (a (49))), (1, .int (J w)), (2, .int (J v))]) hC hl dX7_read_104 1 rfl (by decide) rfl (fun ls hl => ?_)
              refine r_goto (tgt := 46) hC dX7_read_107 (by decide) ?_
              exact ih46 (q + 1) _ ((q : Int) + 1) ((sumF (fun c => bI (tlP (fun j => S 30 (40 * w.toNat + j)) (S 27 w.toNat).toNat ((c % 100 : Nat) : Int) (fdF ((c / 100 : Nat) : Int) (S 20 (21 + 5 * v.toNat)) (S 20 (22 + 5 * v.toNat))))) q) + 0) (by omega) (by omega) (congrArg (fun z => sumF (fun c => bI (tlP (fun j => S 30 (40 * w.toNat + j)) (S 27 w.toNat).toNat ((c % 100 : Nat) : Int) (fdF ((c / 100 : Nat) : Int) (S 20 (21 + 5 * v.toNat)) (S 20 (22 + 5 * v.toNat))))) q + z) (bI_f c_4).symm) (by omega) (rd_rt t20 t23 (by rw [eQ1, hU]) eQ2) _ _ _ hI (lv_sub hl [0, 1, 2, 3, 4] rfl)
            · skip
              rw [hP] at c_4
              refine r_iconst hC dX7_read_87 ?_
              refine r_goto (tgt := 92) hC dX7_read_88 (by decide) ?_
              refine r_iadd hC dX7_read_92 ?_
              refine r_istore (lv1 := [(4, .int (J ((sumF (fun c => bI (tlP (fun j => S 30 (40 * w.toNat + j)) (S 27 w.toNat).toNat ((c % 100 : Nat) : Int) (fdF ((c / 100 : Nat) : Int) (S 20 (21 + 5 * v.toNat)) (S 20 (22 + 5 * v.toNat))))) q) + 1))), (5, .int (J (q : Int))), (0, .ref (a (49))), (1, .int (J w)), (2, .int (J v))]) hC hl dX7_read_93 (by decide) rfl (fun ls hl => ?_)
              refine r_aload_n hC hl dX7_read_95 2 rfl ?_
              refine r_iconst hC dX7_read_96 ?_
              refine r_aload_n hC hl dX7_read_97 2 rfl ?_
              refine g_mo  (v := .ref (a (53))) hC hI 3 (by decide) fl_RX7_19 rfl rfl dX7_read_98 ?_
              refine r_cVv hC hI hl [.int (J 0), .ref (a (53))] [] (c_X7_moveAll0 l X a B Q2 53 23 (by omega) (fun _ => rfl) (fun _ => rfl) (by omega) rfl) ml_RX7_117 ev_X7_moveAll (rc_mo (S := Q2) hC hI) ⟨Nat.le_of_ble_eq_true rfl, Nat.le_of_ble_eq_true rfl⟩ ⟨Nat.zero_le _, Nat.zero_le _⟩ (Nat.le_of_ble_eq_true rfl) rfl dX7_read_101 (fun H locs hI => ?_)
              refine r_iinc (lv1 := [(5, .int (J ((q : Int) + 1))), (4, .int (J ((sumF (fun c => bI (tlP (fun j => S 30 (40 * w.toNat + j)) (S 27 w.toNat).toNat ((c % 100 : Nat) : Int) (fdF ((c / 100 : Nat) : Int) (S 20 (21 + 5 * v.toNat)) (S 20 (22 + 5 * v.toNat))))) q) + 1))), (0, .ref (a (49))), (1, .int (J w)), (2, .int (J v))]) hC hl dX7_read_104 1 rfl (by decide) rfl (fun ls hl => ?_)
              refine r_goto (tgt := 46) hC dX7_read_107 (by decide) ?_
              exact ih46 (q + 1) _ ((q : Int) + 1) ((sumF (fun c => bI (tlP (fun j => S 30 (40 * w.toNat + j)) (S 27 w.toNat).toNat ((c % 100 : Nat) : Int) (fdF ((c / 100 : Nat) : Int) (S 20 (21 + 5 * v.toNat)) (S 20 (22 + 5 * v.toNat))))) q) + 1) (by omega) (by omega) (congrArg (fun z => sumF (fun c => bI (tlP (fun j => S 30 (40 * w.toNat + j)) (S 27 w.toNat).toNat ((c % 100 : Nat) : Int) (fdF ((c / 100 : Nat) : Int) (S 20 (21 + 5 * v.toNat)) (S 20 (22 + 5 * v.toNat))))) q + z) (bI_t c_4).symm) (by omega) (rd_rt t20 t23 (by rw [eQ1, hU]) eQ2) _ _ _ hI (lv_sub hl [0, 1, 2, 3, 4] rfl)
      exact hL46 _ 0 T 0 0 (Nat.lt_succ_self _) (by omega) rfl (by omega) rfl _ _ _ hI (lv_sub hl [0, 1, 3, 4, 5] rfl)
    · skip
      refine r_aload_n hC hl dX7_read_24 1 rfl ?_
      refine r_ldc (x := (-1000000001)) hC ct_RX7_44 (by decide) dX7_read_25 ?_
      refine r_cVi hC hI hl [.int (J (-1000000001))] [] (c_X7_finds0 l X a B S  ) ml_RX7_57 ev_X7_finds (rc_mo (S := S) hC hI) ⟨Nat.le_of_ble_eq_true rfl, Nat.le_of_ble_eq_true rfl⟩ ⟨Nat.zero_le _, Nat.zero_le _⟩ (Nat.le_of_ble_eq_true rfl) rfl dX7_read_27 (fun H locs hI => ?_)
      exact r_iret hC hr hlk hI (an_f 0 (by (repeat' split) <;> first | rfl | omega)) (fn_f 0 (by (repeat' split) <;> first | rfl | omega)) dX7_read_30
  · skip
    refine r_aload_n hC hl dX7_read_10 1 rfl ?_
    refine r_iload_n hC hl dX7_read_11 0 rfl ?_
    refine r_cVi hC hI hl [.int (J (bsF5 w (S 26 w.toNat)))] [] (c_X7_findsG l X a B S (bsF5 w (S 26 w.toNat)) (bsN w) (bs5_e c_1) (bsN_lt w)) ml_RX7_57 ev_X7_finds (rc_mo (S := S) hC hI) ⟨Nat.le_of_ble_eq_true rfl, Nat.le_of_ble_eq_true rfl⟩ ⟨Nat.zero_le _, Nat.zero_le _⟩ (Nat.le_of_ble_eq_true rfl) rfl dX7_read_12 (fun H locs hI => ?_)
    exact r_iret hC hr hlk hI (an_f (bsN w) (bs5_c c_1)) (fn_f (bsN w) (bs5_c c_1)) dX7_read_15
