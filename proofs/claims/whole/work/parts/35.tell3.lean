theorem tl_rg {T : Nat → Int} : ∀ (n : Nat) (A R : Nat → Int) (i : Int), VA T A → 0 ≤ i → -121 ≤ (tlF T n A R i).1 ∧ (tlF T n A R i).1 ≤ i + n
  | 0, A, R, i, hA, hi => by
    rw [tl_z]
    have h1 := hA.1; have h2 := hA.2.2.1; have h3 := hA.2.2.2.1
    show -121 ≤ -1 - A 2 ∧ -1 - A 2 ≤ i + ((0 : Nat) : Int)
    omega
  | n + 1, A, R, i, hA, hi => by
    have hB := it_VA (R := R) hA
    have h1 := hB.1; have h2 := hB.2.2.1; have h3 := hB.2.2.2.1
    have h4 := tl_rg n (tnF T (itA T A R)) (itR T A R) (i + 1) hB.tn (by omega)
    have e1 : -121 ≤ -1 - itA T A R 2 ∧ -1 - itA T A R 2 ≤ i + ((n + 1 : Nat) : Int) := by omega
    rw [tl_s]
    split
    · split
      · show -121 ≤ i ∧ i ≤ i + ((n + 1 : Nat) : Int)
        omega
      · split
        · omega
        · exact e1
    · exact e1
theorem VA_0 {T A : Nat → Int} (hL : 0 ≤ A 0 ∧ A 0 ≤ 120) (hB : ∀ j, j < 120 → 0 ≤ T j ∧ T j ≤ 255) : VA T (tnF T (upR A 3 0)) := tn_VA (A := upR A 3 0) hL ⟨by show (0 : Int) ≤ 0; decide, by show (0 : Int) ≤ A 0; exact hL.1⟩ hB
def byF (w y : Int) : Int := ((J w >>> (J y &&& 31)) &&& J 255).toInt
theorem and255 (x : Int32) : 0 ≤ (x &&& J 255).toInt ∧ (x &&& J 255).toInt ≤ 255 := by
  have h : (x &&& J 255).toBitVec.toNat ≤ 255 := by
    rw [Int32.toBitVec_and, BitVec.toNat_and]
    exact Nat.and_le_right
  have e1 : (x &&& J 255).toInt = ((x &&& J 255).toBitVec.toNat : Int) := BitVec.toInt_eq_toNat_of_lt (by omega)
  omega
theorem by_rg (w y : Int) : 0 ≤ byF w y ∧ byF w y ≤ 255 := and255 _
section R35
variable {p : Program} {l : Launch} {e : Env} {R : Room} {s : State} {m : MethodId} {args : Array Value} {below : List Frame} {meth : Method} {c : Code} {H : Heap} {locs : List Loc} {cells slots : Nat} {Q : State → Prop}
variable {cc : ByteArray} {nL pc : Nat} {own : String} {ls : Array Slot} {rest st : List Value} {X : XT} {a : Nat → Nat} {B : Nat} {S S' : St} {lv : List (Nat × Value)}
theorem r_by (hC : Cx p c cc nL s m args own X B) {w y : Int} (hdg : decode cc pc = .ok (.iand, 1)) (k : W p l e R s m args below meth c H locs cells slots Q (F0 m (pc + 1) ls (.int (J (byF w y)) :: rest))) : W p l e R s m args below meth c H locs cells slots Q (F0 m pc ls (.int (J 255) :: .int (J w >>> (J y &&& 31)) :: rest)) := lv_iand hC.1 hC.2.1 hdg (by rw [J_of ((J w >>> (J y &&& 31)) &&& J 255)]; exact k)
theorem r_shy (hC : Cx p c cc nL s m args own X B) {w y : Int} (hdg : decode cc pc = .ok (.ishr, 1)) (k : W p l e R s m args below meth c H locs cells slots Q (F0 m (pc + 1) ls (.int (J w >>> (J y &&& 31)) :: rest))) : W p l e R s m args below meth c H locs cells slots Q (F0 m pc ls (.int (J y) :: .int (J w) :: rest)) := lv_ishr hC.1 hC.2.1 hdg k
end R35

set_option maxHeartbeats 4000000 in
set_option maxRecDepth 100000 in
theorem c_X5_tell (l : Launch) (X : XT) (a : Nat → Nat) (B : Nat) (S : St) (k : Nat) (hk : k < 3) (hV : VR 9999 (S k)) (hL : 0 ≤ S 5 0 ∧ S 5 0 ≤ 120) (hB : ∀ j, j < 120 → 0 ≤ S 4 j ∧ S 4 j ≤ 255) : CT l X a B 7 yX5_tell cX5_tell 4 (some .int) [.ref (a (5)), .ref (a (2 + k))] S (Qi X a B ((tlF (S 4) 120 (tnF (S 4) (upR (S 5) 3 0)) (S k) 1).1) (setB (setB S 5 ((tlF (S 4) 120 (tnF (S 4) (upR (S 5) 3 0)) (S k) 1).2.1)) k ((tlF (S 4) 120 (tnF (S 4) (upR (S 5) 3 0)) (S k) 1).2.2))) := by
  refine CT.of (by decide +kernel) (Nat.le_of_ble_eq_true rfl) ?_
  intro p e s m below meth c ls hC hr hlk hI hl
  have hC : Cx p c cX5_tell 4 s m [.ref (a (5)), .ref (a (2 + k))].toArray RX5 X B := hC
  have hl : lv_has ls 4 [(0, .ref (a (5))), (1, .ref (a (2 + k)))] := hl
  have hk5 : k ≠ 5 := by omega
  have hk4 : k ≠ 4 := by omega
  refine r_aload_n hC hl dX5_tell_0 0 rfl ?_
  refine r_cVv hC hI hl [] [] (c_X4_toFirstToken l X a B S  (by omega) hB) ml_RX5_7 ev_X4_toFirstToken (rc_ta (S := S) hC hI) ⟨Nat.le_of_ble_eq_true rfl, Nat.le_of_ble_eq_true rfl⟩ ⟨Nat.zero_le _, Nat.zero_le _⟩ (Nat.le_of_ble_eq_true rfl) rfl dX5_tell_1 (fun H locs hI => ?_)
  obtain ⟨T0, eT0⟩ : ∃ z : St, z = setB S 5 (tnF (S 4) (upR (S 5) 3 0)) := ⟨_, rfl⟩
  rw [← eT0] at hI
  have T05 : T0 5 = tnF (S 4) (upR (S 5) 3 0) := by rw [eT0, setB_at]
  have T0k : T0 k = S k := by rw [eT0, setB_ne _ _ hk5]
  refine r_iconst hC dX5_tell_4 ?_
  refine r_istore_n (lv1 := [(2, .int (J 1)), (0, .ref (a (5))), (1, .ref (a (2 + k)))]) hC hl dX5_tell_5 2 rfl (by decide) rfl (fun ls hl => ?_)
  have hL6 : ∀ (fu : Nat) (q : Nat) (A1 : Nat → Int) (R1 : Nat → Int) (U : St) (x2 : Int), 121 - q < fu → (x2 = (q : Int)) → (1 ≤ q ∧ q ≤ 121) → (U = setB (setB S 5 A1) k R1) → (VA (S 4) A1) → (VR 9999 R1) → (tlF (S 4) (121 - q) A1 R1 (q : Int) = tlF (S 4) 120 (tnF (S 4) (upR (S 5) 3 0)) (S k) 1) → ∀ (H : Heap) (locs : List Loc) (ls : Array Slot), IS X a B s (U) H locs → lv_has ls 4 [(2, .int (J x2)), (0, .ref (a (5))), (1, .ref (a (2 + k)))] → W p l e (rmD 7) s m [.ref (a (5)), .ref (a (2 + k))].toArray below meth c H locs 0 0 (MQ below (Qi X a B ((tlF (S 4) 120 (tnF (S 4) (upR (S 5) 3 0)) (S k) 1).1) (setB (setB S 5 ((tlF (S 4) 120 (tnF (S 4) (upR (S 5) 3 0)) (S k) 1).2.1)) k ((tlF (S 4) 120 (tnF (S 4) (upR (S 5) 3 0)) (S k) 1).2.2))) [.ref (a (5)), .ref (a (2 + k))].toArray s 0 0 (fun q => B ≤ q)) (F0 m 6 ls []) := by
    intro fu
    induction fu with
    | zero => intro q A1 R1 U x2 hm; exact absurd hm (Nat.not_lt_zero _)
    | succ fu ih6 =>
      intro q A1 R1 U x2 hm e2 hq hU hA1 hV1 hf H locs ls hI hl
      subst e2
      have u4 : U 4 = S 4 := by rw [hU, setB_ne _ _ (fun z => hk4 z.symm), setB_ne _ _ (by decide)]
      have u5 : U 5 = A1 := by rw [hU, setB_ne _ _ (fun z => hk5 z.symm), setB_at]
      have uk : U k = R1 := by rw [hU, setB_at]
      have hUA : VA (U 4) (U 5) := by rw [u4, u5]; exact hA1
      have hUV : VR 9999 (U k) := by rw [uk]; exact hV1
      have huz := hUA.2.2.1
      have hu3 := hUA.2.2.2.1
      have hu0 := hUA.1
      refine r_iload_n hC hl dX5_tell_6 0 rfl ?_
      refine r_bipush hC (by decide) dX5_tell_7 ?_
      refine r_icmp_gt (tgt := 56) hC (by omega) (by omega) dX5_tell_9 (by decide) (fun c_1 => ?_) (fun c_1 => ?_)
      · skip
        refine r_iconst hC dX5_tell_56 ?_
        refine r_aload_n hC hl dX5_tell_57 1 rfl ?_
        refine g_ta  (v := .int (J (U 5 2))) hC hI 2 (by decide) fl_RX5_25 rfl rfl dX5_tell_58 ?_
        refine r_isub hC dX5_tell_61 ?_
        exact r_iret hC hr hlk hI (by rw [← hf, show 121 - q = 0 by omega, tl_z]; show -1 - U 5 2 = -1 - A1 2; rw [u5]) (by rw [← hf, show 121 - q = 0 by omega, tl_z]; exact hU) dX5_tell_62
      · skip
        refine r_aload_n hC hl dX5_tell_12 1 rfl ?_
        refine r_aload_n hC hl dX5_tell_13 2 rfl ?_
        refine r_cSi hC hI hl [.ref (a (5)), .ref (a (2 + k))] [] (c_X5_tellItem l X a B U k (by omega) hUV hUA) ml_RX5_12 es_X5_tellItem ⟨Nat.le_of_ble_eq_true rfl, Nat.le_of_ble_eq_true rfl⟩ ⟨Nat.zero_le _, Nat.zero_le _⟩ (Nat.le_of_ble_eq_true rfl) rfl dX5_tell_14 (fun H locs hI => ?_)
        obtain ⟨Y, eY⟩ : ∃ z : St, z = setB (setB U 5 (itA (U 4) (U 5) (U k))) k (itR (U 4) (U 5) (U k)) := ⟨_, rfl⟩
        rw [← eY] at hI
        have hY : Y = setB (setB S 5 (itA (S 4) A1 R1)) k (itR (S 4) A1 R1) := by rw [eY, u4, u5, uk, hU, st_g hk5]
        have y5 : Y 5 = itA (S 4) A1 R1 := by rw [hY, setB_ne _ _ (fun z => hk5 z.symm), setB_at]
        have y4 : Y 4 = S 4 := by rw [hY, setB_ne _ _ (fun z => hk4 z.symm), setB_ne _ _ (by decide)]
        have hyA : VA (Y 4) (Y 5) := by rw [y4, y5]; exact it_VA hA1
        have hy1 : Y 5 1 = itA (S 4) A1 R1 1 := by rw [y5]
        have hyr := hyA.2.1
        have hyz := hyA.2.2.1
        have hy3 := hyA.2.2.2.1
        have hy0 := hyA.1
        refine r_istore_n (lv1 := [(3, .int (J (bI (itO (U 4) (U 5) (U k) = true)))), (2, .int (J (q : Int))), (0, .ref (a (5))), (1, .ref (a (2 + k)))]) hC hl dX5_tell_17 3 rfl (by decide) rfl (fun ls hl => ?_)
        by_cases hP : itO (U 4) (U 5) (U k) = true
        · rw [bI_t hP] at hl
          rw [u4, u5, uk] at hP
          refine r_iload_n hC hl dX5_tell_18 0 rfl ?_
          refine r_if_eq (tgt := 31) hC (by decide) dX5_tell_19 (by decide) (fun z => absurd z (by decide)) (fun _ => ?_)
          refine r_aload_n hC hl dX5_tell_22 2 rfl ?_
          refine g_ta  (v := .int (J (Y 5 1))) hC hI 1 (by decide) fl_RX5_18 rfl rfl dX5_tell_23 ?_
          refine r_if_ne (tgt := 31) hC (by omega) dX5_tell_26 (by decide) (fun c_3 => ?_) (fun c_3 => ?_)
          · skip
            refine r_iload_n hC hl dX5_tell_31 0 rfl ?_
            refine r_if_eq (tgt := 56) hC (by decide) dX5_tell_32 (by decide) (fun z => absurd z (by decide)) (fun _ => ?_)
            refine r_aload_n hC hl dX5_tell_35 2 rfl ?_
            refine g_ta  (v := .int (J (Y 5 1))) hC hI 1 (by decide) fl_RX5_18 rfl rfl dX5_tell_36 ?_
            refine r_iconst hC dX5_tell_39 ?_
            refine r_icmp_eq (tgt := 46) hC (by omega) (by omega) dX5_tell_40 (by decide) (fun c_5 => ?_) (fun c_5 => ?_)
            · skip
              refine r_aload_n hC hl dX5_tell_46 2 rfl ?_
              refine r_cVv hC hI hl [] [] (c_X4_toNextToken l X a B Y  hyA.1 ⟨by have z := hyA.2.2.1; omega, hyA.2.2.2.1⟩ hyA.2.2.2.2.2) ml_RX5_22 ev_X4_toNextToken (rc_ta (S := Y) hC hI) ⟨Nat.le_of_ble_eq_true rfl, Nat.le_of_ble_eq_true rfl⟩ ⟨Nat.zero_le _, Nat.zero_le _⟩ (Nat.le_of_ble_eq_true rfl) rfl dX5_tell_47 (fun H locs hI => ?_)
              refine r_iinc (lv1 := [(2, .int (J ((q : Int) + 1))), (3, .int (J 1)), (0, .ref (a (5))), (1, .ref (a (2 + k)))]) hC hl dX5_tell_50 1 rfl (by decide) rfl (fun ls hl => ?_)
              refine r_goto (tgt := 6) hC dX5_tell_53 (by decide) ?_
              exact ih6 (q + 1) (tnF (S 4) (itA (S 4) A1 R1)) (itR (S 4) A1 R1) _ ((q : Int) + 1) (by omega) (by omega) (by omega) (by rw [y4, y5, hY, st_h hk5]) (it_VA hA1).tn (it_VR hV1) (by rw [← hf, show 121 - q = (121 - (q + 1)) + 1 by omega, tl_s, if_pos hP, if_neg (by omega), if_pos (by omega)]; rfl) _ _ _ hI (lv_sub hl [0, 2, 3] rfl)
            · skip
              refine r_goto (tgt := 56) hC dX5_tell_43 (by decide) ?_
              refine r_iconst hC dX5_tell_56 ?_
              refine r_aload_n hC hl dX5_tell_57 2 rfl ?_
              refine g_ta  (v := .int (J (Y 5 2))) hC hI 2 (by decide) fl_RX5_25 rfl rfl dX5_tell_58 ?_
              refine r_isub hC dX5_tell_61 ?_
              exact r_iret hC hr hlk hI (by rw [← hf, show 121 - q = (121 - (q + 1)) + 1 by omega, tl_s, if_pos hP, if_neg (by omega), if_neg (by omega)]; show -1 - Y 5 2 = -1 - itA (S 4) A1 R1 2; rw [y5]) (by rw [← hf, show 121 - q = (121 - (q + 1)) + 1 by omega, tl_s, if_pos hP, if_neg (by omega), if_neg (by omega)]; exact hY) dX5_tell_62
          · skip
            refine r_iload_n hC hl dX5_tell_29 1 rfl ?_
            exact r_iret hC hr hlk hI (by rw [← hf, show 121 - q = (121 - (q + 1)) + 1 by omega, tl_s, if_pos hP, if_pos (by omega)]) (by rw [← hf, show 121 - q = (121 - (q + 1)) + 1 by omega, tl_s, if_pos hP, if_pos (by omega)]; exact hY) dX5_tell_30
        rw [bI_f hP] at hl
        rw [u4, u5, uk] at hP
        refine r_iload_n hC hl dX5_tell_18 0 rfl ?_
        refine r_if_eq (tgt := 31) hC (by decide) dX5_tell_19 (by decide) (fun _ => ?_) (fun z => absurd z (by decide))
        refine r_iload_n hC hl dX5_tell_31 0 rfl ?_
        refine r_if_eq (tgt := 56) hC (by decide) dX5_tell_32 (by decide) (fun _ => ?_) (fun z => absurd z (by decide))
        refine r_iconst hC dX5_tell_56 ?_
        refine r_aload_n hC hl dX5_tell_57 2 rfl ?_
        refine g_ta  (v := .int (J (Y 5 2))) hC hI 2 (by decide) fl_RX5_25 rfl rfl dX5_tell_58 ?_
        refine r_isub hC dX5_tell_61 ?_
        exact r_iret hC hr hlk hI (by rw [← hf, show 121 - q = (121 - (q + 1)) + 1 by omega, tl_s, if_neg hP]; show -1 - Y 5 2 = -1 - itA (S 4) A1 R1 2; rw [y5]) (by rw [← hf, show 121 - q = (121 - (q + 1)) + 1 by omega, tl_s, if_neg hP]; exact hY) dX5_tell_62
  exact hL6 _ 1 (tnF (S 4) (upR (S 5) 3 0)) (S k) T0 1 (Nat.lt_succ_self _) (by omega) (by omega) (st_eq hk5 T05 T0k (fun b z1 z2 => by rw [eT0, setB_ne _ _ z1])) (VA_0 hL hB) hV rfl _ _ _ hI (lv_sub hl [0, 1, 2] rfl)

set_option maxHeartbeats 4000000 in
set_option maxRecDepth 100000 in
theorem c_X6_wipe (l : Launch) (X : XT) (a : Nat → Nat) (B : Nat) (S : St)   : CT l X a B 0 yX6_wipe cX6_wipe 2 (some .int) [.ref (a (0))] S (Qi X a B (S 5 0) (up S 5 0 0)) := by
  refine CT.of (by decide +kernel) (Nat.le_of_ble_eq_true rfl) ?_
  intro p e s m below meth c ls hC hr hlk hI hl
  have hC : Cx p c cX6_wipe 2 s m [.ref (a (0))].toArray RX6 X B := hC
  have hl : lv_has ls 2 [(0, .ref (a (0)))] := hl
  refine r_aload_n hC hl dX6_wipe_0 0 rfl ?_
  refine g_in  (v := .ref (a (5))) hC hI 4 (by decide) fl_RX6_29 rfl rfl dX6_wipe_1 ?_
  refine g_ta  (v := .int (J (S 5 0))) hC hI 0 (by decide) fl_RX6_206 rfl rfl dX6_wipe_4 ?_
  refine r_istore_n (lv1 := [(1, .int (J (S 5 0))), (0, .ref (a (0)))]) hC hl dX6_wipe_7 1 rfl (by decide) rfl (fun ls hl => ?_)
  refine r_aload_n hC hl dX6_wipe_8 1 rfl ?_
  refine g_in  (v := .ref (a (5))) hC hI 4 (by decide) fl_RX6_29 rfl rfl dX6_wipe_9 ?_
  refine r_iconst hC dX6_wipe_12 ?_
  refine p_ta0  hC hI fl_RX6_206 dX6_wipe_13 (fun H locs hI => ?_)
  refine r_iload_n hC hl dX6_wipe_16 0 rfl ?_
  exact r_iret hC hr hlk hI (rfl) (rfl) dX6_wipe_17

set_option maxHeartbeats 4000000 in
set_option maxRecDepth 100000 in
theorem c_X6_text (l : Launch) (X : XT) (a : Nat → Nat) (B : Nat) (S : St)  (hV : VR 9999 (S 0)) (hL : 0 ≤ S 5 0 ∧ S 5 0 ≤ 120) (hB : ∀ j, j < 120 → 0 ≤ S 4 j ∧ S 4 j ≤ 255) : CT l X a B 8 yX6_text cX6_text 2 (some .int) [.ref (a (0))] S (Qi X a B ((tlF (S 4) 120 (tnF (S 4) (upR (S 5) 3 0)) (S 0) 1).1) (up (if 0 ≤ (tlF (S 4) 120 (tnF (S 4) (upR (S 5) 3 0)) (S 0) 1).1 then setB (setB (setB (setB S 2 (S 0)) 5 ((tlF (S 4) 120 (tnF (S 4) (upR (S 5) 3 0)) (S 0) 1).2.1)) 2 ((tlF (S 4) 120 (tnF (S 4) (upR (S 5) 3 0)) (S 0) 1).2.2)) 0 ((setB (setB (setB S 2 (S 0)) 5 ((tlF (S 4) 120 (tnF (S 4) (upR (S 5) 3 0)) (S 0) 1).2.1)) 2 ((tlF (S 4) 120 (tnF (S 4) (upR (S 5) 3 0)) (S 0) 1).2.2)) 2) else setB (setB (setB S 2 (S 0)) 5 ((tlF (S 4) 120 (tnF (S 4) (upR (S 5) 3 0)) (S 0) 1).2.1)) 2 ((tlF (S 4) 120 (tnF (S 4) (upR (S 5) 3 0)) (S 0) 1).2.2)) 5 0 0)) := by
  refine CT.of (by decide +kernel) (Nat.le_of_ble_eq_true rfl) ?_
  intro p e s m below meth c ls hC hr hlk hI hl
  have hC : Cx p c cX6_text 2 s m [.ref (a (0))].toArray RX6 X B := hC
  have hl : lv_has ls 2 [(0, .ref (a (0)))] := hl
  refine r_aload_n hC hl dX6_text_0 0 rfl ?_
  refine g_in  (v := .ref (a (2 + 2))) hC hI 3 (by decide) fl_RX6_23 rfl rfl dX6_text_1 ?_
  refine r_aload_n hC hl dX6_text_4 0 rfl ?_
  refine g_in  (v := .ref (a (2 + 0))) hC hI 1 (by decide) fl_RX6_16 rfl rfl dX6_text_5 ?_
  refine r_cVv hC hI hl [.ref (a (2 + 0))] [] (c_X2_become l X a B S 2 0 (by omega) (by omega) (by omega)) ml_RX6_212 ev_X2_become (rc_sc (S := S) hC hI (by decide)) ⟨Nat.le_of_ble_eq_true rfl, Nat.le_of_ble_eq_true rfl⟩ ⟨Nat.zero_le _, Nat.zero_le _⟩ (Nat.le_of_ble_eq_true rfl) rfl dX6_text_8 (fun H locs hI => ?_)
  obtain ⟨T, eT⟩ : ∃ z : St, z = setB S 2 (S 0) := ⟨_, rfl⟩
  rw [← eT] at hI
  have t4 : T 4 = S 4 := by rw [eT, setB_ne _ _ (by decide)]
  have t5 : T 5 = S 5 := by rw [eT, setB_ne _ _ (by decide)]
  have t2 : T 2 = S 0 := by rw [eT, setB_at]
  have hrr := tl_rg (T := S 4) 120 (tnF (S 4) (upR (S 5) 3 0)) (S 0) 1 (VA_0 hL hB) (by decide)
  refine r_aload_n hC hl dX6_text_11 0 rfl ?_
  refine g_in  (v := .ref (a (5))) hC hI 4 (by decide) fl_RX6_29 rfl rfl dX6_text_12 ?_
  refine r_aload_n hC hl dX6_text_15 0 rfl ?_
  refine g_in  (v := .ref (a (2 + 2))) hC hI 3 (by decide) fl_RX6_23 rfl rfl dX6_text_16 ?_
  refine r_cSi hC hI hl [.ref (a (5)), .ref (a (2 + 2))] [] (c_X5_tell l X a B T 2 (by omega) (by rw [t2]; exact hV) (by rw [t5]; exact hL) (by rw [t4]; exact hB)) ml_RX6_216 es_X5_tell ⟨Nat.le_of_ble_eq_true rfl, Nat.le_of_ble_eq_true rfl⟩ ⟨Nat.zero_le _, Nat.zero_le _⟩ (Nat.le_of_ble_eq_true rfl) rfl dX6_text_19 (fun H locs hI => ?_)
  obtain ⟨U, eU⟩ : ∃ z : St, z = setB (setB T 5 ((tlF (T 4) 120 (tnF (T 4) (upR (T 5) 3 0)) (T 2) 1).2.1)) 2 ((tlF (T 4) 120 (tnF (T 4) (upR (T 5) 3 0)) (T 2) 1).2.2) := ⟨_, rfl⟩
  rw [← eU] at hI
  have hU : U = setB (setB (setB S 2 (S 0)) 5 ((tlF (S 4) 120 (tnF (S 4) (upR (S 5) 3 0)) (S 0) 1).2.1)) 2 ((tlF (S 4) 120 (tnF (S 4) (upR (S 5) 3 0)) (S 0) 1).2.2) := by rw [eU, t4, t5, t2, eT]
  refine r_as (y := (tlF (S 4) 120 (tnF (S 4) (upR (S 5) 3 0)) (S 0) 1).1) hC (by rw [t4, t5, t2]) ?_
  refine r_istore_n (lv1 := [(1, .int (J ((tlF (S 4) 120 (tnF (S 4) (upR (S 5) 3 0)) (S 0) 1).1))), (0, .ref (a (0)))]) hC hl dX6_text_22 1 rfl (by decide) rfl (fun ls hl => ?_)
  refine r_iload_n hC hl dX6_text_23 0 rfl ?_
  refine r_if_lt (tgt := 38) hC (by omega) dX6_text_24 (by decide) (fun c_1 => ?_) (fun c_1 => ?_)
  · skip
    refine r_aload_n hC hl dX6_text_38 1 rfl ?_
    refine g_in  (v := .ref (a (5))) hC hI 4 (by decide) fl_RX6_29 rfl rfl dX6_text_39 ?_
    refine r_iconst hC dX6_text_42 ?_
    refine p_ta0  hC hI fl_RX6_206 dX6_text_43 (fun H locs hI => ?_)
    refine r_iload_n hC hl dX6_text_46 0 rfl ?_
    exact r_iret hC hr hlk hI (rfl) (by rw [if_neg (by omega), hU]) dX6_text_47
  · skip
    refine r_aload_n hC hl dX6_text_27 1 rfl ?_
    refine g_in  (v := .ref (a (2 + 0))) hC hI 1 (by decide) fl_RX6_16 rfl rfl dX6_text_28 ?_
    refine r_aload_n hC hl dX6_text_31 1 rfl ?_
    refine g_in  (v := .ref (a (2 + 2))) hC hI 3 (by decide) fl_RX6_23 rfl rfl dX6_text_32 ?_
    refine r_cVv hC hI hl [.ref (a (2 + 2))] [] (c_X2_become l X a B U 0 2 (by omega) (by omega) (by omega)) ml_RX6_212 ev_X2_become (rc_sc (S := U) hC hI (by decide)) ⟨Nat.le_of_ble_eq_true rfl, Nat.le_of_ble_eq_true rfl⟩ ⟨Nat.zero_le _, Nat.zero_le _⟩ (Nat.le_of_ble_eq_true rfl) rfl dX6_text_35 (fun H locs hI => ?_)
    refine r_aload_n hC hl dX6_text_38 1 rfl ?_
    refine g_in  (v := .ref (a (5))) hC hI 4 (by decide) fl_RX6_29 rfl rfl dX6_text_39 ?_
    refine r_iconst hC dX6_text_42 ?_
    refine p_ta0  hC hI fl_RX6_206 dX6_text_43 (fun H locs hI => ?_)
    refine r_iload_n hC hl dX6_text_46 0 rfl ?_
    exact r_iret hC hr hlk hI (rfl) (by rw [if_pos (by omega), hU]) dX6_text_47

theorem fe_nx {S T : St} {b c i : Nat} {N : Nat → Int} {x y y2 : Int} {L q : Nat} (hbc : b ≠ c) (hT : T = up (setB S b (sgF (S b) N L q)) c i y) (hx : x = N q) : up (up T b (L + q) x) c i y2 = up (setB S b (sgF (S b) N L (q + 1))) c i y2 := by
  subst hT
  funext d j
  by_cases hd : d = c
  · subst hd
    by_cases hj : j = i
    · subst hj; rw [up_at, up_at]
    · rw [up_nj _ _ hj, up_nb _ _ (fun z => hbc z.symm), up_nj _ _ hj, up_nj _ _ hj, setB_ne _ _ (fun z => hbc z.symm), setB_ne _ _ (fun z => hbc z.symm)]
  · rw [up_nb _ _ hd, up_nb _ _ hd]
    by_cases hb : d = b
    · subst hb
      rw [up_b, up_nb _ _ hbc, setB_at, setB_at, sg_up (S d) N L q hx]
    · rw [up_nb _ _ hb, up_nb _ _ hd, setB_ne _ _ hb, setB_ne _ _ hb]

set_option maxHeartbeats 4000000 in
set_option maxRecDepth 100000 in
theorem c_X6_feed (l : Launch) (X : XT) (a : Nat → Nat) (B : Nat) (S : St) (w : Int) (v : Int) (hV : VR 9999 (S 0)) (hw : -2147483648 ≤ w ∧ w ≤ 2147483647) (hv : -2147483648 ≤ v ∧ v ≤ 2147483647) (hL : 0 ≤ S 5 0 ∧ S 5 0 ≤ 120) : CT l X a B 2 yX6_feed cX6_feed 4 (some .int) [.ref (a (0)), .int (J w), .int (J v)] S (Qi X a B (anF (if ¬ (1 ≤ v ∧ v ≤ 4) then 0 else if 120 < S 5 0 + v then 1 else -1) (S 5 0 + v)) (fnF S 3 (if ¬ (1 ≤ v ∧ v ≤ 4) then 0 else if 120 < S 5 0 + v then 1 else -1) (up (setB S 4 (sgF (S 4) (fun z => byF w (8 * (v - 1 - (z : Int)))) (S 5 0).toNat (v.toNat))) 5 0 (S 5 0 + v)))) := by
  refine CT.of (by decide +kernel) (Nat.le_of_ble_eq_true rfl) ?_
  intro p e s m below meth c ls hC hr hlk hI hl
  have hC : Cx p c cX6_feed 4 s m [.ref (a (0)), .int (J w), .int (J v)].toArray RX6 X B := hC
  have hl : lv_has ls 4 [(0, .ref (a (0))), (1, .int (J w)), (2, .int (J v))] := hl
  obtain ⟨⟨hN, hBr, hBu, hIn, hLa, hPc⟩, hDk, hPg⟩ := id hV
  refine r_iload_n hC hl dX6_feed_0 2 rfl ?_
  refine r_iconst hC dX6_feed_1 ?_
  refine r_iconst hC dX6_feed_2 ?_
  refine r_cSi hC hI hl [.int (J v), .int (J 1), .int (J 4)] [] (c_X6_isWithin l X a B S v 1 4 (by omega) (by omega) (by omega)) ml_RX6_44 es_X6_isWithin ⟨Nat.le_of_ble_eq_true rfl, Nat.le_of_ble_eq_true rfl⟩ ⟨Nat.zero_le _, Nat.zero_le _⟩ (Nat.le_of_ble_eq_true rfl) rfl dX6_feed_3 (fun H locs hI => ?_)
  refine r_b_ne (tgt := 15) hC dX6_feed_6 (by decide) (fun c_1 => ?_) (fun c_1 => ?_)
  · skip
    refine r_aload_n hC hl dX6_feed_15 0 rfl ?_
    refine g_in  (v := .ref (a (5))) hC hI 4 (by decide) fl_RX6_29 rfl rfl dX6_feed_16 ?_
    refine g_ta  (v := .int (J (S 5 0))) hC hI 0 (by decide) fl_RX6_206 rfl rfl dX6_feed_19 ?_
    refine r_iload_n hC hl dX6_feed_22 2 rfl ?_
    refine r_iadd hC dX6_feed_23 ?_
    refine r_bipush hC (by decide) dX6_feed_24 ?_
    refine r_icmp_le (tgt := 35) hC (by omega) (by omega) dX6_feed_26 (by decide) (fun c_2 => ?_) (fun c_2 => ?_)
    · skip
      refine r_iload_n hC hl dX6_feed_35 2 rfl ?_
      refine r_iconst hC dX6_feed_36 ?_
      refine r_isub hC dX6_feed_37 ?_
      refine r_istore_n (lv1 := [(3, .int (J (v - 1))), (0, .ref (a (0))), (1, .int (J w)), (2, .int (J v))]) hC hl dX6_feed_38 3 rfl (by decide) rfl (fun ls hl => ?_)
      have hL39 : ∀ (fu : Nat) (q : Nat) (T : St) (x3 : Int), v.toNat - q < fu → (x3 = v - 1 - (q : Int)) → (q ≤ v.toNat) → (T = up (setB S 4 (sgF (S 4) (fun z => byF w (8 * (v - 1 - (z : Int)))) (S 5 0).toNat (q))) 5 0 (S 5 0 + ((q : Nat) : Int))) → ∀ (H : Heap) (locs : List Loc) (ls : Array Slot), IS X a B s (T) H locs → lv_has ls 4 [(3, .int (J x3)), (0, .ref (a (0))), (1, .int (J w)), (2, .int (J v))] → W p l e (rmD 2) s m [.ref (a (0)), .int (J w), .int (J v)].toArray below meth c H locs 0 0 (MQ below (Qi X a B (anF (if ¬ (1 ≤ v ∧ v ≤ 4) then 0 else if 120 < S 5 0 + v then 1 else -1) (S 5 0 + v)) (fnF S 3 (if ¬ (1 ≤ v ∧ v ≤ 4) then 0 else if 120 < S 5 0 + v then 1 else -1) (up (setB S 4 (sgF (S 4) (fun z => byF w (8 * (v - 1 - (z : Int)))) (S 5 0).toNat (v.toNat))) 5 0 (S 5 0 + v)))) [.ref (a (0)), .int (J w), .int (J v)].toArray s 0 0 (fun q => B ≤ q)) (F0 m 39 ls []) := by
        intro fu
        induction fu with
        | zero => intro q T x3 hm; exact absurd hm (Nat.not_lt_zero _)
        | succ fu ih39 =>
          intro q T x3 hm e3 hq hT H locs ls hI hl
          subst e3
          have t0 : T 5 0 = S 5 0 + (q : Int) := by rw [hT, up_at]
          refine r_iload_n hC hl dX6_feed_39 0 rfl ?_
          refine r_if_lt (tgt := 66) hC (by omega) dX6_feed_40 (by decide) (fun c_3 => ?_) (fun c_3 => ?_)
          · skip
            refine r_aload_n hC hl dX6_feed_66 1 rfl ?_
            refine g_in  (v := .ref (a (5))) hC hI 4 (by decide) fl_RX6_29 rfl rfl dX6_feed_67 ?_
            refine g_ta  (v := .int (J (T 5 0))) hC hI 0 (by decide) fl_RX6_206 rfl rfl dX6_feed_70 ?_
            refine r_as (y := S 5 0 + v) hC (by rw [t0]; omega) ?_
            exact r_iret hC hr hlk hI (an_n (by (repeat' split) <;> first | rfl | omega) (rfl)) (fn_n (by (repeat' split) <;> first | rfl | omega) (by rw [hT, show q = v.toNat by omega, show ((v.toNat : Nat) : Int) = v by omega])) dX6_feed_73
          · skip
            refine r_aload_n hC hl dX6_feed_43 1 rfl ?_
            refine g_in  (v := .ref (a (5))) hC hI 4 (by decide) fl_RX6_29 rfl rfl dX6_feed_44 ?_
            refine r_iload_n hC hl dX6_feed_47 2 rfl ?_
            refine r_bipush hC (by decide) dX6_feed_48 ?_
            refine r_iload_n hC hl dX6_feed_50 0 rfl ?_
            refine r_imul hC dX6_feed_51 ?_
            refine r_shy hC dX6_feed_52 ?_
            refine r_sipush hC (by decide) dX6_feed_53 ?_
            refine r_by hC dX6_feed_56 ?_
            refine r_cVv hC hI hl [.int (J (byF w (8 * (v - 1 - (q : Int)))))] [] (c_X4_addByte l X a B T (byF w (8 * (v - 1 - (q : Int)))) (by rw [t0]; omega)) ml_RX6_209 ev_X4_addByte (rc_ta (S := T) hC hI) ⟨Nat.le_of_ble_eq_true rfl, Nat.le_of_ble_eq_true rfl⟩ ⟨Nat.zero_le _, Nat.zero_le _⟩ (Nat.le_of_ble_eq_true rfl) rfl dX6_feed_57 (fun H locs hI => ?_)
            refine r_iinc (lv1 := [(3, .int (J (v - 1 - (q : Int) + (-1)))), (0, .ref (a (0))), (1, .int (J w)), (2, .int (J v))]) hC hl dX6_feed_60 0 rfl (by decide) rfl (fun ls hl => ?_)
            refine r_goto (tgt := 39) hC dX6_feed_63 (by decide) ?_
            exact ih39 (q + 1) _ (v - 1 - (q : Int) + (-1)) (by omega) (by omega) (by omega) (by rw [show (T 5 0).toNat = (S 5 0).toNat + q by omega, t0, show S 5 0 + (q : Int) + 1 = S 5 0 + ((q + 1 : Nat) : Int) by omega]; exact fe_nx (by decide) hT rfl) _ _ _ hI (lv_sub hl [0, 1, 2, 3] rfl)
      exact hL39 _ 0 S (v - 1) (Nat.lt_succ_self _) (by omega) (by omega) (by rw [sg_0, setB_self]; exact up_se (by omega)) _ _ _ hI (lv_sub hl [0, 1, 2, 3] rfl)
    · skip
      refine r_aload_n hC hl dX6_feed_29 0 rfl ?_
      refine r_iconst hC dX6_feed_30 ?_
      refine r_cVi hC hI hl [.int (J 1)] [] (c_X6_found l X a B S 1 (by omega)) ml_RX6_48 ev_X6_found (rc_in (S := S) hC hI) ⟨Nat.le_of_ble_eq_true rfl, Nat.le_of_ble_eq_true rfl⟩ ⟨Nat.zero_le _, Nat.zero_le _⟩ (Nat.le_of_ble_eq_true rfl) rfl dX6_feed_31 (fun H locs hI => ?_)
      exact r_iret hC hr hlk hI (an_f 1 (by (repeat' split) <;> first | rfl | omega)) (fn_f 1 (by (repeat' split) <;> first | rfl | omega)) dX6_feed_34
  · skip
    refine r_aload_n hC hl dX6_feed_9 0 rfl ?_
    refine r_iconst hC dX6_feed_10 ?_
    refine r_cVi hC hI hl [.int (J 0)] [] (c_X6_found l X a B S 0 (by omega)) ml_RX6_48 ev_X6_found (rc_in (S := S) hC hI) ⟨Nat.le_of_ble_eq_true rfl, Nat.le_of_ble_eq_true rfl⟩ ⟨Nat.zero_le _, Nat.zero_le _⟩ (Nat.le_of_ble_eq_true rfl) rfl dX6_feed_11 (fun H locs hI => ?_)
    exact r_iret hC hr hlk hI (an_f 0 (by (repeat' split) <;> first | rfl | omega)) (fn_f 0 (by (repeat' split) <;> first | rfl | omega)) dX6_feed_14
