def VA (T A : Nat → Int) : Prop := (0 ≤ A 0 ∧ A 0 ≤ 120) ∧ (0 ≤ A 1 ∧ A 1 ≤ 4) ∧ (0 ≤ A 2 ∧ A 2 ≤ A 3) ∧ A 3 ≤ A 0 ∧ (A 1 = 2 → 0 ≤ A 4 ∧ A 4 ≤ 1000) ∧ ∀ j, j < 120 → 0 ≤ T j ∧ T j ≤ 255
theorem vc_rg {T : Nat → Int} {b : Nat} : ∀ k : Nat, (∀ j, b ≤ j → j < b + k → 48 ≤ T j ∧ T j ≤ 57) → 0 ≤ vcF T b k ∧ vcF T b k ≤ 1000
  | 0, _ => by show (0 : Int) ≤ 0 ∧ (0 : Int) ≤ 1000; omega
  | k + 1, h => by
    have h1 := vc_rg k (fun j ha hb => h j ha (by omega))
    have h2 := h (b + k) (by omega) (by omega)
    show 0 ≤ mnF 1000 (10 * vcF T b k + T (b + k) - 48) ∧ mnF 1000 (10 * vcF T b k + T (b + k) - 48) ≤ 1000
    unfold mnF; split <;> omega
theorem zB_rg {T : Nat → Int} {n p : Nat} (h : p ≤ n) : p ≤ zB T n p ∧ zB T n p ≤ n := by
  have h1 := sk_rg (fB T) (n - p) p
  unfold zB; omega
theorem zD_all {T : Nat → Int} {n b : Nat} (j : Nat) (h1 : b ≤ j) (h2 : j < zD T n b) : 48 ≤ T j ∧ T j ≤ 57 := of_decide_eq_true (sk_all (fD T) _ _ j h1 h2)
theorem zL_all {T : Nat → Int} {n b : Nat} (j : Nat) (h1 : b ≤ j) (h2 : j < zL T n b) : 97 ≤ T j ∧ T j ≤ 122 := of_decide_eq_true (sk_all (fL T) _ _ j h1 h2)
theorem zD_rg {T : Nat → Int} {n b : Nat} (h : b < n) (hd : 48 ≤ T b ∧ T b ≤ 57) : b < zD T n b ∧ zD T n b ≤ n := by
  unfold zD
  rw [show n - b = (n - (b + 1)) + 1 by omega, sk_t (f := fD T) (decide_eq_true hd)]
  have h1 := sk_rg (fD T) (n - (b + 1)) (b + 1)
  omega
theorem zL_rg {T : Nat → Int} {n b : Nat} (h : b < n) (hd : 97 ≤ T b ∧ T b ≤ 122) : b < zL T n b ∧ zL T n b ≤ n := by
  unfold zL
  rw [show n - b = (n - (b + 1)) + 1 by omega, sk_t (f := fL T) (decide_eq_true hd)]
  have h1 := sk_rg (fL T) (n - (b + 1)) (b + 1)
  omega
theorem te_rg {T : Nat → Int} {n b : Nat} (h : b ≤ n) : b ≤ teF T n b ∧ teF T n b ≤ n ∧ (tcF T n b ≠ 0 → b < teF T n b) := by
  unfold teF tcF
  by_cases h0 : n ≤ b
  · rw [if_pos h0, if_pos h0]
    exact ⟨Nat.le_refl b, h, fun z => absurd rfl z⟩
  · rw [if_neg h0, if_neg h0]
    by_cases h1 : 97 ≤ T b ∧ T b ≤ 122
    · have h2 := zL_rg (T := T) (n := n) (b := b) (by omega) h1
      rw [if_pos h1]; omega
    · rw [if_neg h1]
      by_cases h3 : 48 ≤ T b ∧ T b ≤ 57
      · have h2 := zD_rg (T := T) (n := n) (b := b) (by omega) h3
        rw [if_pos h3]; omega
      · rw [if_neg h3]; omega
theorem tc_rg (T : Nat → Int) (n b : Nat) : 0 ≤ tcF T n b ∧ tcF T n b ≤ 4 := by
  unfold tcF; (repeat' split) <;> omega
theorem tc_2 {T : Nat → Int} {n b : Nat} (h : tcF T n b = 2) : b < n ∧ 48 ≤ T b ∧ T b ≤ 57 := by
  unfold tcF at h
  (repeat' split at h) <;> omega
theorem tc_1 {T : Nat → Int} {n b : Nat} (h : tcF T n b = 1) : b < n ∧ 97 ≤ T b ∧ T b ≤ 122 := by
  unfold tcF at h
  (repeat' split at h) <;> omega
theorem tn_VA {T A : Nat → Int} (hL : 0 ≤ A 0 ∧ A 0 ≤ 120) (h3 : 0 ≤ A 3 ∧ A 3 ≤ A 0) (hB : ∀ j, j < 120 → 0 ≤ T j ∧ T j ≤ 255) : VA T (tnF T A) := by
  have hz := zB_rg (T := T) (n := (A 0).toNat) (p := (A 3).toNat) (by omega)
  have he := te_rg (T := T) hz.2
  have ht := tc_rg T (A 0).toNat (zB T (A 0).toNat (A 3).toNat)
  refine ⟨hL, ht, ?_, ?_, ?_, hB⟩
  · show 0 ≤ ((zB T (A 0).toNat (A 3).toNat : Nat) : Int) ∧ ((zB T (A 0).toNat (A 3).toNat : Nat) : Int) ≤ ((teF T (A 0).toNat (zB T (A 0).toNat (A 3).toNat) : Nat) : Int)
    omega
  · show ((teF T (A 0).toNat (zB T (A 0).toNat (A 3).toNat) : Nat) : Int) ≤ A 0
    omega
  · intro h2
    have h2 : tcF T (A 0).toNat (zB T (A 0).toNat (A 3).toNat) = 2 := h2
    show 0 ≤ tvF T (A 0).toNat (zB T (A 0).toNat (A 3).toNat) (A 4) ∧ tvF T (A 0).toNat (zB T (A 0).toNat (A 3).toNat) (A 4) ≤ 1000
    rw [tv_eq h2]
    have hr := zD_rg (T := T) (tc_2 h2).1 (tc_2 h2).2
    exact vc_rg _ (fun j ha hb => zD_all (n := (A 0).toNat) j ha (by omega))
theorem VA.tn {T A : Nat → Int} (h : VA T A) : VA T (tnF T A) := tn_VA h.1 ⟨by have h1 := h.2.2.1; omega, h.2.2.2.1⟩ h.2.2.2.2.2
theorem nu_rg (A : Nat → Int) (lo hi : Int) : nuF A lo hi = -1 ∨ (lo ≤ nuF A lo hi ∧ nuF A lo hi ≤ hi) := by
  unfold nuF; split <;> omega
theorem st_eq {S T : St} {k : Nat} {A R : Nat → Int} (hk : k ≠ 5) (h5 : T 5 = A) (hR : T k = R) (ho : ∀ b, b ≠ 5 → b ≠ k → T b = S b) : T = setB (setB S 5 A) k R := by
  funext b
  by_cases hb : b = k
  · subst hb; rw [setB_at, hR]
  · rw [setB_ne _ _ hb]
    by_cases h5b : b = 5
    · subst h5b; rw [setB_at, h5]
    · rw [setB_ne _ _ h5b, ho b h5b hb]
abbrev tpO (T A R : Nat → Int) (q : Int) : Prop := R 5 < 8 ∧ 0 ≤ nuF (tnF T A) 1 99 ∧ csF q (nuF (tnF T A) 1 99) ≤ R 3
def tpA (T A R : Nat → Int) (q : Int) : Nat → Int := if R 5 < 8 then (if 0 ≤ nuF (tnF T A) 1 99 ∧ csF q (nuF (tnF T A) 1 99) ≤ R 3 then (if isW T (tnF T (tnF T A)) 10 then tnF T (tnF T (tnF T A)) else tnF T (tnF T A)) else tnF T A) else A
def tpR (T A R : Nat → Int) (q : Int) : Nat → Int := if R 5 < 8 ∧ 0 ≤ nuF (tnF T A) 1 99 ∧ csF q (nuF (tnF T A) 1 99) ≤ R 3 then (if isW T (tnF T (tnF T A)) 10 then upR (apF R q (nuF (tnF T A) 1 99) 0) (21 + 5 * (R 5).toNat) 1 else apF R q (nuF (tnF T A) 1 99) 0) else R
abbrev tdO (T A : Nat → Int) : Prop := 0 ≤ nuF (tnF T A) 0 11 ∧ 0 ≤ nuF (tnF T (tnF T A)) 0 20
def tdA (T A : Nat → Int) : Nat → Int := if 0 ≤ nuF (tnF T A) 0 11 then (if 0 ≤ nuF (tnF T (tnF T A)) 0 20 then tnF T (tnF T (tnF T A)) else tnF T (tnF T A)) else tnF T A
def tdR (T A R : Nat → Int) : Nat → Int := if 0 ≤ nuF (tnF T A) 0 11 ∧ 0 ≤ nuF (tnF T (tnF T A)) 0 20 then upR R (6 + (nuF (tnF T A) 0 11).toNat) (nuF (tnF T (tnF T A)) 0 20) else R
abbrev tjO (T A : Nat → Int) (w : Int) : Prop := 0 ≤ nuF (tnF T A) 0 (mjF w)
def tjA (T A : Nat → Int) (w : Int) : Nat → Int := if 0 ≤ nuF (tnF T A) 0 (mjF w) then tnF T (tnF T A) else tnF T A
def tjR (T A R : Nat → Int) (w : Int) : Nat → Int := if 0 ≤ nuF (tnF T A) 0 (mjF w) then upR R (1 + w.toNat) (nuF (tnF T A) 0 (mjF w)) else R
theorem ap_5 (R : Nat → Int) (q w su : Int) : apF R q w su 5 = R 5 + 1 := upR_at _ _ _

set_option maxHeartbeats 4000000 in
set_option maxRecDepth 100000 in
theorem c_X5_tellPage (l : Launch) (X : XT) (a : Nat → Nat) (B : Nat) (S : St) (k : Nat) (q : Int) (hk : k < 3) (hV : VR 9999 (S k)) (hA : VA (S 4) (S 5)) (hq : 0 ≤ q ∧ q ≤ 5) : CT l X a B 5 yX5_tellPage cX5_tellPage 5 (some .boolean) [.ref (a (5)), .ref (a (2 + k)), .int (J q)] S (Qi X a B (bI (tpO (S 4) (S 5) (S k) q)) (setB (setB S 5 (tpA (S 4) (S 5) (S k) q)) k (tpR (S 4) (S 5) (S k) q))) := by
  refine CT.of (by decide +kernel) (Nat.le_of_ble_eq_true rfl) ?_
  intro p e s m below meth c ls hC hr hlk hI hl
  have hC : Cx p c cX5_tellPage 5 s m [.ref (a (5)), .ref (a (2 + k)), .int (J q)].toArray RX5 X B := hC
  have hl : lv_has ls 5 [(0, .ref (a (5))), (1, .ref (a (2 + k))), (2, .int (J q))] := hl
  obtain ⟨⟨hN, hBr, hBu, hIn, hLa, hPc⟩, hDk, hPg⟩ := id hV
  obtain ⟨hL, h1, h2, h3, hv, hB⟩ := id hA
  have hk5 : k ≠ 5 := by omega
  have hk4 : k ≠ 4 := by omega
  have hnu := nu_rg (tnF (S 4) (S 5)) 1 99
  refine r_aload_n hC hl dX5_tellPage_0 1 rfl ?_
  refine r_cVi hC hI hl [] [] (c_X2_isFull l X a B S k (by omega) (by omega)) ml_RX5_56 ev_X2_isFull (rc_sc (S := S) hC hI (by omega)) ⟨Nat.le_of_ble_eq_true rfl, Nat.le_of_ble_eq_true rfl⟩ ⟨Nat.zero_le _, Nat.zero_le _⟩ (Nat.le_of_ble_eq_true rfl) rfl dX5_tellPage_1 (fun H locs hI => ?_)
  refine r_b_eq (tgt := 9) hC dX5_tellPage_4 (by decide) (fun c_1 => ?_) (fun c_1 => ?_)
  · skip
    refine r_aload_n hC hl dX5_tellPage_9 0 rfl ?_
    refine r_cVv hC hI hl [] [] (c_X4_toNextToken l X a B S  hA.1 ⟨by have z := hA.2.2.1; omega, hA.2.2.2.1⟩ hA.2.2.2.2.2) ml_RX5_22 ev_X4_toNextToken (rc_ta (S := S) hC hI) ⟨Nat.le_of_ble_eq_true rfl, Nat.le_of_ble_eq_true rfl⟩ ⟨Nat.zero_le _, Nat.zero_le _⟩ (Nat.le_of_ble_eq_true rfl) rfl dX5_tellPage_10 (fun H locs hI => ?_)
    obtain ⟨T1, eT1⟩ : ∃ z : St, z = setB S 5 (tnF (S 4) (S 5)) := ⟨_, rfl⟩
    rw [← eT1] at hI
    have T15 : T1 5 = tnF (S 4) (S 5) := by rw [eT1, setB_at]
    have T14 : T1 4 = S 4 := by rw [eT1, setB_ne _ _ (by decide)]
    have T1k : T1 k = S k := by rw [eT1, setB_ne _ _ hk5]
    have T1V : VA (T1 4) (T1 5) := by rw [T14, T15]; exact hA.tn
    have T1k3 : T1 k 3 = S k 3 := by rw [T1k]
    refine r_aload_n hC hl dX5_tellPage_13 0 rfl ?_
    refine r_iconst hC dX5_tellPage_14 ?_
    refine r_bipush hC (by decide) dX5_tellPage_15 ?_
    refine r_cVi hC hI hl [.int (J 1), .int (J 99)] [] (c_X4_number l X a B T1 1 99 (by omega) (by omega) T1V.2.1 T1V.2.2.2.2.1) ml_RX5_64 ev_X4_number (rc_ta (S := T1) hC hI) ⟨Nat.le_of_ble_eq_true rfl, Nat.le_of_ble_eq_true rfl⟩ ⟨Nat.zero_le _, Nat.zero_le _⟩ (Nat.le_of_ble_eq_true rfl) rfl dX5_tellPage_17 (fun H locs hI => ?_)
    refine r_as (y := nuF (tnF (S 4) (S 5)) 1 99) hC (by rw [T15]) ?_
    refine r_istore_n (lv1 := [(3, .int (J (nuF (tnF (S 4) (S 5)) 1 99))), (0, .ref (a (5))), (1, .ref (a (2 + k))), (2, .int (J q))]) hC hl dX5_tellPage_20 3 rfl (by decide) rfl (fun ls hl => ?_)
    refine r_iload_n hC hl dX5_tellPage_21 0 rfl ?_
    refine r_if_lt (tgt := 34) hC (by omega) dX5_tellPage_22 (by decide) (fun c_2 => ?_) (fun c_2 => ?_)
    · skip
      refine r_iconst hC dX5_tellPage_34 ?_
      exact r_zret hC hr hlk hI (by decide) ((bI_f (by intro z; have z1 := z.2.1; have z2 := z.2.2; omega)).symm) (st_eq hk5 (by rw [T15]; unfold tpA; rw [if_pos (by omega), if_neg (by omega)]) (by rw [T1k]; unfold tpR; rw [if_neg (by omega)]) (fun b z1 z2 => by rw [eT1, setB_ne _ _ z1])) dX5_tellPage_35
    · skip
      refine r_aload_n hC hl dX5_tellPage_25 2 rfl ?_
      refine r_iload_n hC hl dX5_tellPage_26 3 rfl ?_
      refine r_iload_n hC hl dX5_tellPage_27 0 rfl ?_
      refine r_cVi hC hI hl [.int (J q), .int (J (nuF (tnF (S 4) (S 5)) 1 99))] [] (c_X2_hasInkFor l X a B T1 k q (nuF (tnF (S 4) (S 5)) 1 99) (by omega) (by rw [T1k3]; exact hIn) (by omega) (by omega)) ml_RX5_68 ev_X2_hasInkFor (rc_sc (S := T1) hC hI (by omega)) ⟨Nat.le_of_ble_eq_true rfl, Nat.le_of_ble_eq_true rfl⟩ ⟨Nat.zero_le _, Nat.zero_le _⟩ (Nat.le_of_ble_eq_true rfl) rfl dX5_tellPage_28 (fun H locs hI => ?_)
      refine r_b_ne (tgt := 36) hC dX5_tellPage_31 (by decide) (fun c_3 => ?_) (fun c_3 => ?_)
      · skip
        refine r_aload_n hC hl dX5_tellPage_36 2 rfl ?_
        refine r_iload_n hC hl dX5_tellPage_37 3 rfl ?_
        refine r_iload_n hC hl dX5_tellPage_38 0 rfl ?_
        refine r_cVi hC hI hl [.int (J q), .int (J (nuF (tnF (S 4) (S 5)) 1 99))] [] (c_X2_addPage l X a B T1 k q (nuF (tnF (S 4) (S 5)) 1 99) (by omega) (by rw [T1k]; exact hV) (by rw [T1k]; omega) (by omega) (by omega)) ml_RX5_72 ev_X2_addPage (rc_sc (S := T1) hC hI (by omega)) ⟨Nat.le_of_ble_eq_true rfl, Nat.le_of_ble_eq_true rfl⟩ ⟨Nat.zero_le _, Nat.zero_le _⟩ (Nat.le_of_ble_eq_true rfl) rfl dX5_tellPage_39 (fun H locs hI => ?_)
        obtain ⟨T2, eT2⟩ : ∃ z : St, z = setB T1 k (apF (T1 k) q (nuF (tnF (S 4) (S 5)) 1 99) 0) := ⟨_, rfl⟩
        rw [← eT2] at hI
        have T25 : T2 5 = tnF (S 4) (S 5) := by rw [eT2, setB_ne _ _ (fun z => hk5 z.symm), T15]
        have T24 : T2 4 = S 4 := by rw [eT2, setB_ne _ _ (fun z => hk4 z.symm), T14]
        have T2k : T2 k = apF (S k) q (nuF (tnF (S 4) (S 5)) 1 99) 0 := by rw [eT2, setB_at, T1k]
        have T2V : VA (T2 4) (T2 5) := by rw [T24, T25]; exact hA.tn
        refine r_as (y := S k 5) hC (by rw [T1k]) ?_
        refine r_istore (lv1 := [(4, .int (J (S k 5))), (3, .int (J (nuF (tnF (S 4) (S 5)) 1 99))), (0, .ref (a (5))), (1, .ref (a (2 + k))), (2, .int (J q))]) hC hl dX5_tellPage_42 (by decide) rfl (fun ls hl => ?_)
        refine r_aload_n hC hl dX5_tellPage_44 2 rfl ?_
        refine r_cVv hC hI hl [] [] (c_X4_toNextToken l X a B T2  T2V.1 ⟨by have z := T2V.2.2.1; omega, T2V.2.2.2.1⟩ T2V.2.2.2.2.2) ml_RX5_22 ev_X4_toNextToken (rc_ta (S := T2) hC hI) ⟨Nat.le_of_ble_eq_true rfl, Nat.le_of_ble_eq_true rfl⟩ ⟨Nat.zero_le _, Nat.zero_le _⟩ (Nat.le_of_ble_eq_true rfl) rfl dX5_tellPage_45 (fun H locs hI => ?_)
        obtain ⟨T3, eT3⟩ : ∃ z : St, z = setB T2 5 (tnF (T2 4) (T2 5)) := ⟨_, rfl⟩
        rw [← eT3] at hI
        have T35 : T3 5 = tnF (S 4) (tnF (S 4) (S 5)) := by rw [eT3, setB_at, T24, T25]
        have T34 : T3 4 = S 4 := by rw [eT3, setB_ne _ _ (by decide), T24]
        have T3k : T3 k = apF (S k) q (nuF (tnF (S 4) (S 5)) 1 99) 0 := by rw [eT3, setB_ne _ _ hk5, T2k]
        have T3V : VA (T3 4) (T3 5) := by rw [T34, T35]; exact hA.tn.tn
        have T3k5 : T3 k 5 = S k 5 + 1 := by rw [T3k, ap_5]
        refine r_aload_n hC hl dX5_tellPage_48 2 rfl ?_
        refine va_ldcS hC.1 hC.2.1 hC.2.2.2.1 (hC.2.2.2.2.2.1.2.2.2 10 _ rfl) dX5_tellPage_49 ?_
        refine r_cVi hC hI hl [.ref (X.2.2.1 10)] [] (c_X4_isWord l X a B T3 10 (by omega) T3V.1 T3V.2.1 T3V.2.2.1 T3V.2.2.2.1 T3V.2.2.2.2.2) ml_RX5_34 ev_X4_isWord (rc_ta (S := T3) hC hI) ⟨Nat.le_of_ble_eq_true rfl, Nat.le_of_ble_eq_true rfl⟩ ⟨Nat.zero_le _, Nat.zero_le _⟩ (Nat.le_of_ble_eq_true rfl) rfl dX5_tellPage_51 (fun H locs hI => ?_)
        refine r_b_eq (tgt := 81) hC dX5_tellPage_54 (by decide) (fun c_4 => ?_) (fun c_4 => ?_)
        · skip
          have hsun : ¬ isW (S 4) (tnF (S 4) (tnF (S 4) (S 5))) 10 := by rw [T34, T35] at c_4; exact c_4
          refine r_iconst hC dX5_tellPage_81 ?_
          exact r_zret hC hr hlk hI (by decide) ((bI_t (by exact ⟨by omega, by omega, by omega⟩)).symm) (st_eq hk5 (by rw [T35]; unfold tpA; rw [if_pos (by omega), if_pos (by omega), if_neg hsun]) (by rw [T3k]; unfold tpR; rw [if_pos (by omega), if_neg hsun]) (fun b z1 z2 => by rw [eT3, setB_ne _ _ z1, eT2, setB_ne _ _ z2, eT1, setB_ne _ _ z1])) dX5_tellPage_82
        · skip
          have hsun : isW (S 4) (tnF (S 4) (tnF (S 4) (S 5))) 10 := by rw [T34, T35] at c_4; exact c_4
          refine r_aload_n hC hl dX5_tellPage_57 3 rfl ?_
          refine r_iload hC hl dX5_tellPage_58 0 rfl ?_
          refine r_cVi hC hI hl [.int (J (S k 5))] [] (c_X2_hasPage l X a B T3 k (S k 5) (by omega) (by omega) (by omega)) ml_RX5_77 ev_X2_hasPage (rc_sc (S := T3) hC hI (by omega)) ⟨Nat.le_of_ble_eq_true rfl, Nat.le_of_ble_eq_true rfl⟩ ⟨Nat.zero_le _, Nat.zero_le _⟩ (Nat.le_of_ble_eq_true rfl) rfl dX5_tellPage_60 (fun H locs hI => ?_)
          refine r_b_eq (tgt := 81) hC dX5_tellPage_63 (by decide) (fun c_5 => ?_) (fun c_5 => ?_)
          · skip
            exfalso; omega
          · skip
            refine r_aload_n hC hl dX5_tellPage_66 3 rfl ?_
            refine g_sc (k1 := k) (v := .ref (a (11 + k))) hC hI (by omega) 7 (by decide) fl_RX5_81 rfl rfl dX5_tellPage_67 ?_
            refine r_iload hC hl dX5_tellPage_70 0 rfl ?_
            refine r_pald (cx := 11 + k) hC hI (by omega) (ce_pa X a _ (by omega)) (by decide) ((S k 5).toNat) (by omega) (by omega) dX5_tellPage_72 ?_
            refine r_iconst hC dX5_tellPage_73 ?_
            refine p_pg3 (k1 := k) (i := (S k 5).toNat) hC hI (by omega) (by omega) fl_RX5_85 dX5_tellPage_74 (fun H locs hI => ?_)
            obtain ⟨T4, eT4⟩ : ∃ z : St, z = up T3 k (21 + 5 * ((S k 5).toNat)) 1 := ⟨_, rfl⟩
            rw [← eT4] at hI
            have T45 : T4 5 = tnF (S 4) (tnF (S 4) (S 5)) := by rw [eT4, up_nb _ _ (fun z => hk5 z.symm), T35]
            have T44 : T4 4 = S 4 := by rw [eT4, up_nb _ _ (fun z => hk4 z.symm), T34]
            have T4k : T4 k = upR (apF (S k) q (nuF (tnF (S 4) (S 5)) 1 99) 0) (21 + 5 * (S k 5).toNat) 1 := by rw [eT4, up_b, T3k]
            have T4V : VA (T4 4) (T4 5) := by rw [T44, T45]; exact hA.tn.tn
            refine r_aload_n hC hl dX5_tellPage_77 2 rfl ?_
            refine r_cVv hC hI hl [] [] (c_X4_toNextToken l X a B T4  T4V.1 ⟨by have z := T4V.2.2.1; omega, T4V.2.2.2.1⟩ T4V.2.2.2.2.2) ml_RX5_22 ev_X4_toNextToken (rc_ta (S := T4) hC hI) ⟨Nat.le_of_ble_eq_true rfl, Nat.le_of_ble_eq_true rfl⟩ ⟨Nat.zero_le _, Nat.zero_le _⟩ (Nat.le_of_ble_eq_true rfl) rfl dX5_tellPage_78 (fun H locs hI => ?_)
            refine r_iconst hC dX5_tellPage_81 ?_
            exact r_zret hC hr hlk hI (by decide) ((bI_t (by exact ⟨by omega, by omega, by omega⟩)).symm) (st_eq hk5 (by rw [setB_at, T44, T45]; unfold tpA; rw [if_pos (by omega), if_pos (by omega), if_pos hsun]) (by rw [setB_ne _ _ hk5, T4k]; unfold tpR; rw [if_pos (by omega), if_pos hsun]) (fun b z1 z2 => by rw [setB_ne _ _ z1, eT4, up_nb _ _ z2, eT3, setB_ne _ _ z1, eT2, setB_ne _ _ z2, eT1, setB_ne _ _ z1])) dX5_tellPage_82
      · skip
        refine r_iconst hC dX5_tellPage_34 ?_
        exact r_zret hC hr hlk hI (by decide) ((bI_f (by intro z; have z1 := z.2.1; have z2 := z.2.2; omega)).symm) (st_eq hk5 (by rw [T15]; unfold tpA; rw [if_pos (by omega), if_neg (by omega)]) (by rw [T1k]; unfold tpR; rw [if_neg (by omega)]) (fun b z1 z2 => by rw [eT1, setB_ne _ _ z1])) dX5_tellPage_35
  · skip
    refine r_iconst hC dX5_tellPage_7 ?_
    exact r_zret hC hr hlk hI (by decide) ((bI_f (by intro z; have z1 := z.1; omega)).symm) (st_eq hk5 (by unfold tpA; rw [if_neg (by omega)]) (by unfold tpR; rw [if_neg (by omega)]) (fun b z1 z2 => rfl)) dX5_tellPage_8

set_option maxHeartbeats 4000000 in
set_option maxRecDepth 100000 in
theorem c_X5_tellDark (l : Launch) (X : XT) (a : Nat → Nat) (B : Nat) (S : St) (k : Nat) (hk : k < 3) (hV : VR 9999 (S k)) (hA : VA (S 4) (S 5)) : CT l X a B 3 yX5_tellDark cX5_tellDark 4 (some .boolean) [.ref (a (5)), .ref (a (2 + k))] S (Qi X a B (bI (tdO (S 4) (S 5))) (setB (setB S 5 (tdA (S 4) (S 5))) k (tdR (S 4) (S 5) (S k)))) := by
  refine CT.of (by decide +kernel) (Nat.le_of_ble_eq_true rfl) ?_
  intro p e s m below meth c ls hC hr hlk hI hl
  have hC : Cx p c cX5_tellDark 4 s m [.ref (a (5)), .ref (a (2 + k))].toArray RX5 X B := hC
  have hl : lv_has ls 4 [(0, .ref (a (5))), (1, .ref (a (2 + k)))] := hl
  obtain ⟨⟨hN, hBr, hBu, hIn, hLa, hPc⟩, hDk, hPg⟩ := id hV
  obtain ⟨hL, h1, h2, h3, hv, hB⟩ := id hA
  have hk5 : k ≠ 5 := by omega
  have hk4 : k ≠ 4 := by omega
  have hn1 := nu_rg (tnF (S 4) (S 5)) 0 11
  have hn2 := nu_rg (tnF (S 4) (tnF (S 4) (S 5))) 0 20
  refine r_aload_n hC hl dX5_tellDark_0 0 rfl ?_
  refine r_cVv hC hI hl [] [] (c_X4_toNextToken l X a B S  hA.1 ⟨by have z := hA.2.2.1; omega, hA.2.2.2.1⟩ hA.2.2.2.2.2) ml_RX5_22 ev_X4_toNextToken (rc_ta (S := S) hC hI) ⟨Nat.le_of_ble_eq_true rfl, Nat.le_of_ble_eq_true rfl⟩ ⟨Nat.zero_le _, Nat.zero_le _⟩ (Nat.le_of_ble_eq_true rfl) rfl dX5_tellDark_1 (fun H locs hI => ?_)
  obtain ⟨T1, eT1⟩ : ∃ z : St, z = setB S 5 (tnF (S 4) (S 5)) := ⟨_, rfl⟩
  rw [← eT1] at hI
  have T15 : T1 5 = tnF (S 4) (S 5) := by rw [eT1, setB_at]
  have T14 : T1 4 = S 4 := by rw [eT1, setB_ne _ _ (by decide)]
  have T1k : T1 k = S k := by rw [eT1, setB_ne _ _ hk5]
  have T1V : VA (T1 4) (T1 5) := by rw [T14, T15]; exact hA.tn
  refine r_aload_n hC hl dX5_tellDark_4 0 rfl ?_
  refine r_iconst hC dX5_tellDark_5 ?_
  refine r_bipush hC (by decide) dX5_tellDark_6 ?_
  refine r_cVi hC hI hl [.int (J 0), .int (J 11)] [] (c_X4_number l X a B T1 0 11 (by omega) (by omega) T1V.2.1 T1V.2.2.2.2.1) ml_RX5_64 ev_X4_number (rc_ta (S := T1) hC hI) ⟨Nat.le_of_ble_eq_true rfl, Nat.le_of_ble_eq_true rfl⟩ ⟨Nat.zero_le _, Nat.zero_le _⟩ (Nat.le_of_ble_eq_true rfl) rfl dX5_tellDark_8 (fun H locs hI => ?_)
  refine r_as (y := nuF (tnF (S 4) (S 5)) 0 11) hC (by rw [T15]) ?_
  refine r_istore_n (lv1 := [(2, .int (J (nuF (tnF (S 4) (S 5)) 0 11))), (0, .ref (a (5))), (1, .ref (a (2 + k)))]) hC hl dX5_tellDark_11 2 rfl (by decide) rfl (fun ls hl => ?_)
  refine r_iload_n hC hl dX5_tellDark_12 0 rfl ?_
  refine r_if_ge (tgt := 18) hC (by omega) dX5_tellDark_13 (by decide) (fun c_1 => ?_) (fun c_1 => ?_)
  · skip
    refine r_aload_n hC hl dX5_tellDark_18 1 rfl ?_
    refine r_cVv hC hI hl [] [] (c_X4_toNextToken l X a B T1  T1V.1 ⟨by have z := T1V.2.2.1; omega, T1V.2.2.2.1⟩ T1V.2.2.2.2.2) ml_RX5_22 ev_X4_toNextToken (rc_ta (S := T1) hC hI) ⟨Nat.le_of_ble_eq_true rfl, Nat.le_of_ble_eq_true rfl⟩ ⟨Nat.zero_le _, Nat.zero_le _⟩ (Nat.le_of_ble_eq_true rfl) rfl dX5_tellDark_19 (fun H locs hI => ?_)
    obtain ⟨T2, eT2⟩ : ∃ z : St, z = setB T1 5 (tnF (T1 4) (T1 5)) := ⟨_, rfl⟩
    rw [← eT2] at hI
    have T25 : T2 5 = tnF (S 4) (tnF (S 4) (S 5)) := by rw [eT2, setB_at, T14, T15]
    have T24 : T2 4 = S 4 := by rw [eT2, setB_ne _ _ (by decide), T14]
    have T2k : T2 k = S k := by rw [eT2, setB_ne _ _ hk5, T1k]
    have T2V : VA (T2 4) (T2 5) := by rw [T24, T25]; exact hA.tn.tn
    refine r_aload_n hC hl dX5_tellDark_22 1 rfl ?_
    refine r_iconst hC dX5_tellDark_23 ?_
    refine r_bipush hC (by decide) dX5_tellDark_24 ?_
    refine r_cVi hC hI hl [.int (J 0), .int (J 20)] [] (c_X4_number l X a B T2 0 20 (by omega) (by omega) T2V.2.1 T2V.2.2.2.2.1) ml_RX5_64 ev_X4_number (rc_ta (S := T2) hC hI) ⟨Nat.le_of_ble_eq_true rfl, Nat.le_of_ble_eq_true rfl⟩ ⟨Nat.zero_le _, Nat.zero_le _⟩ (Nat.le_of_ble_eq_true rfl) rfl dX5_tellDark_26 (fun H locs hI => ?_)
    refine r_as (y := nuF (tnF (S 4) (tnF (S 4) (S 5))) 0 20) hC (by rw [T25]) ?_
    refine r_istore_n (lv1 := [(3, .int (J (nuF (tnF (S 4) (tnF (S 4) (S 5))) 0 20))), (2, .int (J (nuF (tnF (S 4) (S 5)) 0 11))), (0, .ref (a (5))), (1, .ref (a (2 + k)))]) hC hl dX5_tellDark_29 3 rfl (by decide) rfl (fun ls hl => ?_)
    refine r_iload_n hC hl dX5_tellDark_30 0 rfl ?_
    refine r_if_ge (tgt := 36) hC (by omega) dX5_tellDark_31 (by decide) (fun c_2 => ?_) (fun c_2 => ?_)
    · skip
      refine r_aload_n hC hl dX5_tellDark_36 3 rfl ?_
      refine g_sc (k1 := k) (v := .ref (a (8 + k))) hC hI (by omega) 6 (by decide) fl_RX5_87 rfl rfl dX5_tellDark_37 ?_
      refine r_iload_n hC hl dX5_tellDark_40 1 rfl ?_
      refine r_iload_n hC hl dX5_tellDark_41 0 rfl ?_
      refine r_iast (cx := 8 + k) (n := 12) (F := fun S j => S k (6 + j)) hC hI (by omega) (fun S => ce_dk X a S (by omega)) (by decide) ((nuF (tnF (S 4) (S 5)) 0 11).toNat) (by omega) (by omega) (b := k) (j := 6 + ((nuF (tnF (S 4) (S 5)) 0 11).toNat)) (ow_dk (by omega) (by omega)) (fun q => by simp [up, setB, upR]) dX5_tellDark_42 (fun H locs hI => ?_)
      obtain ⟨T4, eT4⟩ : ∃ z : St, z = up T2 k (6 + ((nuF (tnF (S 4) (S 5)) 0 11).toNat)) (nuF (tnF (S 4) (tnF (S 4) (S 5))) 0 20) := ⟨_, rfl⟩
      rw [← eT4] at hI
      have T45 : T4 5 = tnF (S 4) (tnF (S 4) (S 5)) := by rw [eT4, up_nb _ _ (fun z => hk5 z.symm), T25]
      have T44 : T4 4 = S 4 := by rw [eT4, up_nb _ _ (fun z => hk4 z.symm), T24]
      have T4k : T4 k = upR (S k) (6 + (nuF (tnF (S 4) (S 5)) 0 11).toNat) (nuF (tnF (S 4) (tnF (S 4) (S 5))) 0 20) := by rw [eT4, up_b, T2k]
      have T4V : VA (T4 4) (T4 5) := by rw [T44, T45]; exact hA.tn.tn
      refine r_aload_n hC hl dX5_tellDark_43 2 rfl ?_
      refine r_cVv hC hI hl [] [] (c_X4_toNextToken l X a B T4  T4V.1 ⟨by have z := T4V.2.2.1; omega, T4V.2.2.2.1⟩ T4V.2.2.2.2.2) ml_RX5_22 ev_X4_toNextToken (rc_ta (S := T4) hC hI) ⟨Nat.le_of_ble_eq_true rfl, Nat.le_of_ble_eq_true rfl⟩ ⟨Nat.zero_le _, Nat.zero_le _⟩ (Nat.le_of_ble_eq_true rfl) rfl dX5_tellDark_44 (fun H locs hI => ?_)
      refine r_iconst hC dX5_tellDark_47 ?_
      exact r_zret hC hr hlk hI (by decide) ((bI_t (by exact ⟨by omega, by omega⟩)).symm) (st_eq hk5 (by rw [setB_at, T44, T45]; unfold tdA; rw [if_pos (by omega), if_pos (by omega)]) (by rw [setB_ne _ _ hk5, T4k]; unfold tdR; rw [if_pos (by omega)]) (fun b z1 z2 => by rw [setB_ne _ _ z1, eT4, up_nb _ _ z2, eT2, setB_ne _ _ z1, eT1, setB_ne _ _ z1])) dX5_tellDark_48
    · skip
      refine r_iconst hC dX5_tellDark_34 ?_
      exact r_zret hC hr hlk hI (by decide) ((bI_f (by intro z; have z1 := z.2; omega)).symm) (st_eq hk5 (by rw [T25]; unfold tdA; rw [if_pos (by omega), if_neg (by omega)]) (by rw [T2k]; unfold tdR; rw [if_neg (by omega)]) (fun b z1 z2 => by rw [eT2, setB_ne _ _ z1, eT1, setB_ne _ _ z1])) dX5_tellDark_35
  · skip
    refine r_iconst hC dX5_tellDark_16 ?_
    exact r_zret hC hr hlk hI (by decide) ((bI_f (by intro z; have z1 := z.1; omega)).symm) (st_eq hk5 (by rw [T15]; unfold tdA; rw [if_neg (by omega)]) (by rw [T1k]; unfold tdR; rw [if_neg (by omega)]) (fun b z1 z2 => by rw [eT1, setB_ne _ _ z1])) dX5_tellDark_17

set_option maxHeartbeats 4000000 in
set_option maxRecDepth 100000 in
theorem c_X5_tellJar (l : Launch) (X : XT) (a : Nat → Nat) (B : Nat) (S : St) (k : Nat) (w : Int) (hk : k < 3) (hV : VR 9999 (S k)) (hA : VA (S 4) (S 5)) (hw : 0 ≤ w ∧ w ≤ 3) : CT l X a B 3 yX5_tellJar cX5_tellJar 4 (some .boolean) [.ref (a (5)), .ref (a (2 + k)), .int (J w)] S (Qi X a B (bI (tjO (S 4) (S 5) w)) (setB (setB S 5 (tjA (S 4) (S 5) w)) k (tjR (S 4) (S 5) (S k) w))) := by
  refine CT.of (by decide +kernel) (Nat.le_of_ble_eq_true rfl) ?_
  intro p e s m below meth c ls hC hr hlk hI hl
  have hC : Cx p c cX5_tellJar 4 s m [.ref (a (5)), .ref (a (2 + k)), .int (J w)].toArray RX5 X B := hC
  have hl : lv_has ls 4 [(0, .ref (a (5))), (1, .ref (a (2 + k))), (2, .int (J w))] := hl
  obtain ⟨⟨hN, hBr, hBu, hIn, hLa, hPc⟩, hDk, hPg⟩ := id hV
  obtain ⟨hL, h1, h2, h3, hv, hB⟩ := id hA
  have hk5 : k ≠ 5 := by omega
  have hk4 : k ≠ 4 := by omega
  have hn1 := nu_rg (tnF (S 4) (S 5)) 0 (mjF w)
  have hmj : -1 ≤ mjF w ∧ mjF w ≤ 999 := by unfold mjF; (repeat' split) <;> omega
  refine r_aload_n hC hl dX5_tellJar_0 0 rfl ?_
  refine r_cVv hC hI hl [] [] (c_X4_toNextToken l X a B S  hA.1 ⟨by have z := hA.2.2.1; omega, hA.2.2.2.1⟩ hA.2.2.2.2.2) ml_RX5_22 ev_X4_toNextToken (rc_ta (S := S) hC hI) ⟨Nat.le_of_ble_eq_true rfl, Nat.le_of_ble_eq_true rfl⟩ ⟨Nat.zero_le _, Nat.zero_le _⟩ (Nat.le_of_ble_eq_true rfl) rfl dX5_tellJar_1 (fun H locs hI => ?_)
  obtain ⟨T1, eT1⟩ : ∃ z : St, z = setB S 5 (tnF (S 4) (S 5)) := ⟨_, rfl⟩
  rw [← eT1] at hI
  have T15 : T1 5 = tnF (S 4) (S 5) := by rw [eT1, setB_at]
  have T14 : T1 4 = S 4 := by rw [eT1, setB_ne _ _ (by decide)]
  have T1k : T1 k = S k := by rw [eT1, setB_ne _ _ hk5]
  have T1V : VA (T1 4) (T1 5) := by rw [T14, T15]; exact hA.tn
  refine r_aload_n hC hl dX5_tellJar_4 0 rfl ?_
  refine r_iconst hC dX5_tellJar_5 ?_
  refine r_iload_n hC hl dX5_tellJar_6 2 rfl ?_
  refine r_cSi hC hI hl [.int (J w)] [.int (J 0), .ref (a (5))] (c_X2_mostInJar l X a B T1 w (by omega)) ml_RX5_90 es_X2_mostInJar ⟨Nat.le_of_ble_eq_true rfl, Nat.le_of_ble_eq_true rfl⟩ ⟨Nat.zero_le _, Nat.zero_le _⟩ (Nat.le_of_ble_eq_true rfl) rfl dX5_tellJar_7 (fun H locs hI => ?_)
  refine r_cVi hC hI hl [.int (J 0), .int (J (mjF w))] [] (c_X4_number l X a B T1 0 (mjF w) (by omega) (by omega) T1V.2.1 T1V.2.2.2.2.1) ml_RX5_64 ev_X4_number (rc_ta (S := T1) hC hI) ⟨Nat.le_of_ble_eq_true rfl, Nat.le_of_ble_eq_true rfl⟩ ⟨Nat.zero_le _, Nat.zero_le _⟩ (Nat.le_of_ble_eq_true rfl) rfl dX5_tellJar_10 (fun H locs hI => ?_)
  refine r_as (y := nuF (tnF (S 4) (S 5)) 0 (mjF w)) hC (by rw [T15]) ?_
  refine r_istore_n (lv1 := [(3, .int (J (nuF (tnF (S 4) (S 5)) 0 (mjF w)))), (0, .ref (a (5))), (1, .ref (a (2 + k))), (2, .int (J w))]) hC hl dX5_tellJar_13 3 rfl (by decide) rfl (fun ls hl => ?_)
  refine r_iload_n hC hl dX5_tellJar_14 0 rfl ?_
  refine r_if_ge (tgt := 20) hC (by omega) dX5_tellJar_15 (by decide) (fun c_1 => ?_) (fun c_1 => ?_)
  · skip
    refine r_aload_n hC hl dX5_tellJar_20 2 rfl ?_
    refine r_iload_n hC hl dX5_tellJar_21 3 rfl ?_
    refine r_iload_n hC hl dX5_tellJar_22 0 rfl ?_
    refine r_cVv hC hI hl [.int (J w), .int (J (nuF (tnF (S 4) (S 5)) 0 (mjF w)))] [] (c_X2_fillJar l X a B T1 k w (nuF (tnF (S 4) (S 5)) 0 (mjF w)) (by omega) (by omega)) ml_RX5_94 ev_X2_fillJar (rc_sc (S := T1) hC hI (by omega)) ⟨Nat.le_of_ble_eq_true rfl, Nat.le_of_ble_eq_true rfl⟩ ⟨Nat.zero_le _, Nat.zero_le _⟩ (Nat.le_of_ble_eq_true rfl) rfl dX5_tellJar_23 (fun H locs hI => ?_)
    obtain ⟨T4, eT4⟩ : ∃ z : St, z = up T1 k (1 + w.toNat) (nuF (tnF (S 4) (S 5)) 0 (mjF w)) := ⟨_, rfl⟩
    rw [← eT4] at hI
    have T45 : T4 5 = tnF (S 4) (S 5) := by rw [eT4, up_nb _ _ (fun z => hk5 z.symm), T15]
    have T44 : T4 4 = S 4 := by rw [eT4, up_nb _ _ (fun z => hk4 z.symm), T14]
    have T4k : T4 k = upR (S k) (1 + w.toNat) (nuF (tnF (S 4) (S 5)) 0 (mjF w)) := by rw [eT4, up_b, T1k]
    have T4V : VA (T4 4) (T4 5) := by rw [T44, T45]; exact hA.tn
    refine r_aload_n hC hl dX5_tellJar_26 1 rfl ?_
    refine r_cVv hC hI hl [] [] (c_X4_toNextToken l X a B T4  T4V.1 ⟨by have z := T4V.2.2.1; omega, T4V.2.2.2.1⟩ T4V.2.2.2.2.2) ml_RX5_22 ev_X4_toNextToken (rc_ta (S := T4) hC hI) ⟨Nat.le_of_ble_eq_true rfl, Nat.le_of_ble_eq_true rfl⟩ ⟨Nat.zero_le _, Nat.zero_le _⟩ (Nat.le_of_ble_eq_true rfl) rfl dX5_tellJar_27 (fun H locs hI => ?_)
    refine r_iconst hC dX5_tellJar_30 ?_
    exact r_zret hC hr hlk hI (by decide) ((bI_t (by show 0 ≤ _; omega)).symm) (st_eq hk5 (by rw [setB_at, T44, T45]; unfold tjA; rw [if_pos (by omega)]) (by rw [setB_ne _ _ hk5, T4k]; unfold tjR; rw [if_pos (by omega)]) (fun b z1 z2 => by rw [setB_ne _ _ z1, eT4, up_nb _ _ z2, eT1, setB_ne _ _ z1])) dX5_tellJar_31
  · skip
    refine r_iconst hC dX5_tellJar_18 ?_
    exact r_zret hC hr hlk hI (by decide) ((bI_f (by intro z; omega)).symm) (st_eq hk5 (by rw [T15]; unfold tjA; rw [if_neg (by omega)]) (by rw [T1k]; unfold tjR; rw [if_neg (by omega)]) (fun b z1 z2 => by rw [eT1, setB_ne _ _ z1])) dX5_tellJar_19
