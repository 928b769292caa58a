def kdF (T A : Nat → Int) : Int := if isW T A 0 then 0 else if isW T A 1 then 1 else if isW T A 2 then 2 else if isW T A 3 then 3 else if isW T A 4 then 4 else if isW T A 5 then 5 else -1
theorem kd_at {T A : Nat → Int} {q : Nat} (hq : q < 6) (hn : ∀ i, i < q → ¬ isW T A i) (h : isW T A q) : kdF T A = (q : Int) := by
  unfold kdF
  rcases (show q = 0 ∨ q = 1 ∨ q = 2 ∨ q = 3 ∨ q = 4 ∨ q = 5 by omega) with rfl | rfl | rfl | rfl | rfl | rfl
  · rw [if_pos h]; rfl
  · rw [if_neg (hn 0 (by decide)), if_pos h]; rfl
  · rw [if_neg (hn 0 (by decide)), if_neg (hn 1 (by decide)), if_pos h]; rfl
  · rw [if_neg (hn 0 (by decide)), if_neg (hn 1 (by decide)), if_neg (hn 2 (by decide)), if_pos h]; rfl
  · rw [if_neg (hn 0 (by decide)), if_neg (hn 1 (by decide)), if_neg (hn 2 (by decide)), if_neg (hn 3 (by decide)), if_pos h]; rfl
  · rw [if_neg (hn 0 (by decide)), if_neg (hn 1 (by decide)), if_neg (hn 2 (by decide)), if_neg (hn 3 (by decide)), if_neg (hn 4 (by decide)), if_pos h]; rfl
theorem kd_no {T A : Nat → Int} (hn : ∀ i, i < 6 → ¬ isW T A i) : kdF T A = -1 := by
  unfold kdF
  rw [if_neg (hn 0 (by decide)), if_neg (hn 1 (by decide)), if_neg (hn 2 (by decide)), if_neg (hn 3 (by decide)), if_neg (hn 4 (by decide)), if_neg (hn 5 (by decide))]
theorem kd_rg (T A : Nat → Int) : -1 ≤ kdF T A ∧ kdF T A ≤ 5 := by
  unfold kdF; (repeat' split) <;> omega
def itO (T A R : Nat → Int) : Bool := if 0 ≤ kdF T A then decide (tpO T A R (kdF T A)) else if isW T A 6 then decide (tdO T A) else if isW T A 7 then decide (tjO T A 0) else if isW T A 8 then decide (tjO T A 2) else if isW T A 9 then decide (tjO T A 3) else false
def itA (T A R : Nat → Int) : Nat → Int := if 0 ≤ kdF T A then tpA T A R (kdF T A) else if isW T A 6 then tdA T A else if isW T A 7 then tjA T A 0 else if isW T A 8 then tjA T A 2 else if isW T A 9 then tjA T A 3 else A
def itR (T A R : Nat → Int) : Nat → Int := if 0 ≤ kdF T A then tpR T A R (kdF T A) else if isW T A 6 then tdR T A R else if isW T A 7 then tjR T A R 0 else if isW T A 8 then tjR T A R 2 else if isW T A 9 then tjR T A R 3 else R
theorem VR_d {N x : Int} {R : Nat → Int} {p : Nat} (hx : 0 ≤ x ∧ x ≤ 20) (hp : p < 12) (hV : VR N R) : VR N (upR R (6 + p) x) := by
  refine ⟨⟨?_, ?_, ?_, ?_, ?_, ?_⟩, fun q hq => ?_, fun i hi => VP_cg (fun q h3 h4 => upR_ne _ _ (by omega)) (hV.2.2 i hi)⟩
  · rw [upR_ne _ _ (by omega)]; exact hV.1.1
  · rw [upR_ne _ _ (by omega)]; exact hV.1.2.1
  · rw [upR_ne _ _ (by omega)]; exact hV.1.2.2.1
  · rw [upR_ne _ _ (by omega)]; exact hV.1.2.2.2.1
  · rw [upR_ne _ _ (by omega)]; exact hV.1.2.2.2.2.1
  · rw [upR_ne _ _ (by omega)]; exact hV.1.2.2.2.2.2
  · by_cases e : q = p
    · subst e; rw [upR_at]; exact hx
    · rw [upR_ne _ _ (by omega)]; exact hV.2.1 q hq
theorem VR_2 {N x : Int} {R : Nat → Int} (hx : 0 ≤ x ∧ x ≤ 8) (hV : VR N R) : VR N (upR R 2 x) := ⟨⟨hV.1.1, hV.1.2.1, hx, hV.1.2.2.2⟩, fun j hj => by rw [upR_ne _ _ (by omega)]; exact hV.2.1 j hj, fun i hi => VP_cg (fun j h1 h2 => upR_ne _ _ (by omega)) (hV.2.2 i hi)⟩
theorem VR_3 {N x : Int} {R : Nat → Int} (hx : 0 ≤ x ∧ x ≤ 999) (hV : VR N R) : VR N (upR R 3 x) := ⟨⟨hV.1.1, hV.1.2.1, hV.1.2.2.1, hx, hV.1.2.2.2.2⟩, fun j hj => by rw [upR_ne _ _ (by omega)]; exact hV.2.1 j hj, fun i hi => VP_cg (fun j h1 h2 => upR_ne _ _ (by omega)) (hV.2.2 i hi)⟩
theorem VR_5 {N x : Int} {R : Nat → Int} (hx : 0 ≤ x ∧ x ≤ 8) (hV : VR N R) : VR N (upR R 5 x) := ⟨⟨hV.1.1, hV.1.2.1, hV.1.2.2.1, hV.1.2.2.2.1, hV.1.2.2.2.2.1, hx⟩, fun j hj => by rw [upR_ne _ _ (by omega)]; exact hV.2.1 j hj, fun i hi => VP_cg (fun j h1 h2 => upR_ne _ _ (by omega)) (hV.2.2 i hi)⟩
theorem VR_w {N x : Int} {R : Nat → Int} {p : Nat} (hx : 0 ≤ x ∧ x ≤ 99) (hp : p < 8) (hV : VR N R) : VR N (upR R (19 + 5 * p) x) := by
  have h := hV.2.2 p hp
  refine VR_g hV (p := p) (by omega) ⟨?_, ?_, ?_, ?_, ?_⟩ (by omega)
  · rw [upR_ne _ _ (by omega)]; exact h.1
  · rw [upR_at]; exact hx
  · rw [upR_ne _ _ (by omega)]; exact h.2.2.1
  · rw [upR_ne _ _ (by omega)]; exact h.2.2.2.1
  · rw [upR_ne _ _ (by omega)]; exact h.2.2.2.2
theorem VR_r {N x : Int} {R : Nat → Int} {p : Nat} (hx : 0 ≤ x ∧ x ≤ 9999) (hp : p < 8) (hV : VR N R) : VR N (upR R (22 + 5 * p) x) := by
  have h := hV.2.2 p hp
  refine VR_g hV (p := p) (by omega) ⟨?_, ?_, ?_, ?_, ?_⟩ (by omega)
  · rw [upR_ne _ _ (by omega)]; exact h.1
  · rw [upR_ne _ _ (by omega)]; exact h.2.1
  · rw [upR_ne _ _ (by omega)]; exact h.2.2.1
  · rw [upR_ne _ _ (by omega)]; exact h.2.2.2.1
  · rw [upR_at]; exact hx
theorem VR_j {N x w : Int} {R : Nat → Int} (hw : 0 ≤ w ∧ w ≤ 3) (hx : 0 ≤ x ∧ x ≤ mjF w) (hV : VR N R) : VR N (upR R (1 + w.toNat) x) := by
  rcases (show w = 0 ∨ w = 1 ∨ w = 2 ∨ w = 3 by omega) with rfl | rfl | rfl | rfl
  · exact VR_1 hx hV
  · exact VR_2 hx hV
  · exact VR_3 hx hV
  · exact VR_4 hx hV
theorem ap_VR {N : Int} {R : Nat → Int} {q w su : Int} (hV : VR N R) (h5 : R 5 < 8) (hq : 0 ≤ q ∧ q ≤ 5) (hw : 0 ≤ w ∧ w ≤ 99) (hi : csF q w ≤ R 3) (hs : 0 ≤ su ∧ su ≤ 1) : VR N (apF R q w su) := by
  have h3 := hV.1.2.2.2.1
  have h50 := hV.1.2.2.2.2.2
  have hc := cs_rg (k := q) hw
  have hd := tk_rg (k := q) (dk_rg hV 0)
  unfold apF
  refine VR_5 (by omega) (VR_r (by omega) (by omega) (VR_s hs (by omega) (VR_b hd (by omega) (VR_w hw (by omega) (VR_k hq (by omega) (VR_3 (by omega) hV))))))
theorem tp_VR {N : Int} {T A R : Nat → Int} {q : Int} (hV : VR N R) (hq : 0 ≤ q ∧ q ≤ 5) : VR N (tpR T A R q) := by
  have h50 := hV.1.2.2.2.2.2
  have hn := nu_rg (tnF T A) 1 99
  unfold tpR
  split
  · have ha : VR N (apF R q (nuF (tnF T A) 1 99) 0) := ap_VR hV (by omega) hq (by omega) (by omega) (by omega)
    split
    · exact VR_s (by omega) (by omega) ha
    · exact ha
  · exact hV
theorem td_VR {N : Int} {T A R : Nat → Int} (hV : VR N R) : VR N (tdR T A R) := by
  have hn := nu_rg (tnF T A) 0 11
  have hn2 := nu_rg (tnF T (tnF T A)) 0 20
  unfold tdR
  split
  · exact VR_d (by omega) (by omega) hV
  · exact hV
theorem tj_VR {N : Int} {T A R : Nat → Int} {w : Int} (hw : 0 ≤ w ∧ w ≤ 3) (hV : VR N R) : VR N (tjR T A R w) := by
  have hn := nu_rg (tnF T A) 0 (mjF w)
  unfold tjR
  split
  · exact VR_j hw (by omega) hV
  · exact hV
theorem it_VR {N : Int} {T A R : Nat → Int} (hV : VR N R) : VR N (itR T A R) := by
  have hk := kd_rg T A
  unfold itR
  split
  · exact tp_VR hV (by omega)
  · split
    · exact td_VR hV
    · split
      · exact tj_VR (by decide) hV
      · split
        · exact tj_VR (by decide) hV
        · split
          · exact tj_VR (by decide) hV
          · exact hV
theorem tp_VA {T A R : Nat → Int} {q : Int} (h : VA T A) : VA T (tpA T A R q) := by
  unfold tpA
  (repeat' split) <;> first | exact h | exact h.tn | exact h.tn.tn | exact h.tn.tn.tn
theorem td_VA {T A : Nat → Int} (h : VA T A) : VA T (tdA T A) := by
  unfold tdA
  (repeat' split) <;> first | exact h | exact h.tn | exact h.tn.tn | exact h.tn.tn.tn
theorem tj_VA {T A : Nat → Int} {w : Int} (h : VA T A) : VA T (tjA T A w) := by
  unfold tjA
  (repeat' split) <;> first | exact h | exact h.tn | exact h.tn.tn | exact h.tn.tn.tn
theorem it_VA {T A R : Nat → Int} (h : VA T A) : VA T (itA T A R) := by
  unfold itA
  (repeat' split) <;> first | exact h | exact tp_VA h | exact td_VA h | exact tj_VA h
def tlF (T : Nat → Int) : Nat → (Nat → Int) → (Nat → Int) → Int → Int × (Nat → Int) × (Nat → Int)
  | 0, A, R, _ => (-1 - A 2, A, R)
  | n + 1, A, R, i => if itO T A R = true then (if itA T A R 1 = 0 then (i, itA T A R, itR T A R) else if itA T A R 1 = 3 then tlF T n (tnF T (itA T A R)) (itR T A R) (i + 1) else (-1 - itA T A R 2, itA T A R, itR T A R)) else (-1 - itA T A R 2, itA T A R, itR T A R)
theorem tl_z (T A R : Nat → Int) (i : Int) : tlF T 0 A R i = (-1 - A 2, A, R) := rfl
theorem tl_s (T A R : Nat → Int) (n : Nat) (i : Int) : tlF T (n + 1) A R i = if itO T A R = true then (if itA T A R 1 = 0 then (i, itA T A R, itR T A R) else if itA T A R 1 = 3 then tlF T n (tnF T (itA T A R)) (itR T A R) (i + 1) else (-1 - itA T A R 2, itA T A R, itR T A R)) else (-1 - itA T A R 2, itA T A R, itR T A R) := rfl
theorem st_g {S : St} {k : Nat} {A R A2 R2 : Nat → Int} (hk : k ≠ 5) : setB (setB (setB (setB S 5 A) k R) 5 A2) k R2 = setB (setB S 5 A2) k R2 := by
  funext b
  by_cases hb : b = k
  · subst hb; rw [setB_at, setB_at]
  · rw [setB_ne _ _ hb, setB_ne _ _ hb]
    by_cases h5 : b = 5
    · subst h5; rw [setB_at, setB_at]
    · rw [setB_ne _ _ h5, setB_ne _ _ hb, setB_ne _ _ h5, setB_ne _ _ h5]
theorem st_h {S : St} {k : Nat} {A R A2 : Nat → Int} (hk : k ≠ 5) : setB (setB (setB S 5 A) k R) 5 A2 = setB (setB S 5 A2) k R := by
  funext b
  by_cases h5 : b = 5
  · subst h5; rw [setB_at, setB_ne _ _ (fun z => hk z.symm), setB_at]
  · rw [setB_ne _ _ h5]
    by_cases hb : b = k
    · subst hb; rw [setB_at, setB_at]
    · rw [setB_ne _ _ hb, setB_ne _ _ h5, setB_ne _ _ hb, setB_ne _ _ h5]

set_option maxHeartbeats 4000000 in
set_option maxRecDepth 100000 in
theorem c_X5_tellItem (l : Launch) (X : XT) (a : Nat → Nat) (B : Nat) (S : St) (k : Nat) (hk : k < 3) (hV : VR 9999 (S k)) (hA : VA (S 4) (S 5)) : CT l X a B 6 yX5_tellItem cX5_tellItem 3 (some .boolean) [.ref (a (5)), .ref (a (2 + k))] S (Qi X a B (bI (itO (S 4) (S 5) (S k) = true)) (setB (setB S 5 (itA (S 4) (S 5) (S k))) k (itR (S 4) (S 5) (S k)))) := by
  refine CT.of (by decide +kernel) (Nat.le_of_ble_eq_true rfl) ?_
  intro p e s m below meth c ls hC hr hlk hI hl
  have hC : Cx p c cX5_tellItem 3 s m [.ref (a (5)), .ref (a (2 + k))].toArray RX5 X B := hC
  have hl : lv_has ls 3 [(0, .ref (a (5))), (1, .ref (a (2 + k)))] := hl
  obtain ⟨hL, h1, h2, h3, hv, hB⟩ := id hA
  have hk5 : k ≠ 5 := by omega
  have hk4 : k ≠ 4 := by omega
  refine r_iconst hC dX5_tellItem_0 ?_
  refine r_istore_n (lv1 := [(2, .int (J 0)), (0, .ref (a (5))), (1, .ref (a (2 + k)))]) hC hl dX5_tellItem_1 2 rfl (by decide) rfl (fun ls hl => ?_)
  have hL2 : ∀ (fu : Nat) (q : Nat) (x2 : Int), 6 - q < fu → (x2 = (q : Int)) → (q ≤ 6) → (∀ i, i < q → ¬ isW (S 4) (S 5) i) → ∀ (H : Heap) (locs : List Loc) (ls : Array Slot), IS X a B s (S) H locs → lv_has ls 3 [(2, .int (J x2)), (0, .ref (a (5))), (1, .ref (a (2 + k)))] → W p l e (rmD 6) s m [.ref (a (5)), .ref (a (2 + k))].toArray below meth c H locs 0 0 (MQ below (Qi X a B (bI (itO (S 4) (S 5) (S k) = true)) (setB (setB S 5 (itA (S 4) (S 5) (S k))) k (itR (S 4) (S 5) (S k)))) [.ref (a (5)), .ref (a (2 + k))].toArray s 0 0 (fun q => B ≤ q)) (F0 m 2 ls []) := by
    intro fu
    induction fu with
    | zero => intro q x2 hm; exact absurd hm (Nat.not_lt_zero _)
    | succ fu ih2 =>
      intro q x2 hm e2 hq hn H locs ls hI hl
      subst e2
      refine r_iload_n hC hl dX5_tellItem_2 0 rfl ?_
      refine r_bipush hC (by decide) dX5_tellItem_3 ?_
      refine r_icmp_ge (tgt := 32) hC (by omega) (by omega) dX5_tellItem_5 (by decide) (fun c_1 => ?_) (fun c_1 => ?_)
      · skip
        have hkd : kdF (S 4) (S 5) = -1 := kd_no (fun i hj => hn i (by omega))
        refine r_aload_n hC hl dX5_tellItem_32 1 rfl ?_
        refine va_ldcS hC.1 hC.2.1 hC.2.2.2.1 (hC.2.2.2.2.2.1.2.2.2 6 _ rfl) dX5_tellItem_33 ?_
        refine r_cVi hC hI hl [.ref (X.2.2.1 6)] [] (c_X4_isWord l X a B S 6 (by omega) hA.1 hA.2.1 hA.2.2.1 hA.2.2.2.1 hA.2.2.2.2.2) ml_RX5_34 ev_X4_isWord (rc_ta (S := S) hC hI) ⟨Nat.le_of_ble_eq_true rfl, Nat.le_of_ble_eq_true rfl⟩ ⟨Nat.zero_le _, Nat.zero_le _⟩ (Nat.le_of_ble_eq_true rfl) rfl dX5_tellItem_35 (fun H locs hI => ?_)
        refine r_b_eq (tgt := 47) hC dX5_tellItem_38 (by decide) (fun c_2 => ?_) (fun c_2 => ?_)
        · skip
          have hW6 := c_2
          refine r_aload_n hC hl dX5_tellItem_47 1 rfl ?_
          refine va_ldcS hC.1 hC.2.1 hC.2.2.2.1 (hC.2.2.2.2.2.1.2.2.2 7 _ rfl) dX5_tellItem_48 ?_
          refine r_cVi hC hI hl [.ref (X.2.2.1 7)] [] (c_X4_isWord l X a B S 7 (by omega) hA.1 hA.2.1 hA.2.2.1 hA.2.2.2.1 hA.2.2.2.2.2) ml_RX5_34 ev_X4_isWord (rc_ta (S := S) hC hI) ⟨Nat.le_of_ble_eq_true rfl, Nat.le_of_ble_eq_true rfl⟩ ⟨Nat.zero_le _, Nat.zero_le _⟩ (Nat.le_of_ble_eq_true rfl) rfl dX5_tellItem_50 (fun H locs hI => ?_)
          refine r_b_eq (tgt := 63) hC dX5_tellItem_53 (by decide) (fun c_3 => ?_) (fun c_3 => ?_)
          · skip
            have hW7 := c_3
            refine r_aload_n hC hl dX5_tellItem_63 1 rfl ?_
            refine va_ldcS hC.1 hC.2.1 hC.2.2.2.1 (hC.2.2.2.2.2.1.2.2.2 8 _ rfl) dX5_tellItem_64 ?_
            refine r_cVi hC hI hl [.ref (X.2.2.1 8)] [] (c_X4_isWord l X a B S 8 (by omega) hA.1 hA.2.1 hA.2.2.1 hA.2.2.2.1 hA.2.2.2.2.2) ml_RX5_34 ev_X4_isWord (rc_ta (S := S) hC hI) ⟨Nat.le_of_ble_eq_true rfl, Nat.le_of_ble_eq_true rfl⟩ ⟨Nat.zero_le _, Nat.zero_le _⟩ (Nat.le_of_ble_eq_true rfl) rfl dX5_tellItem_66 (fun H locs hI => ?_)
            refine r_b_eq (tgt := 79) hC dX5_tellItem_69 (by decide) (fun c_4 => ?_) (fun c_4 => ?_)
            · skip
              have hW8 := c_4
              refine r_aload_n hC hl dX5_tellItem_79 1 rfl ?_
              refine va_ldcS hC.1 hC.2.1 hC.2.2.2.1 (hC.2.2.2.2.2.1.2.2.2 9 _ rfl) dX5_tellItem_80 ?_
              refine r_cVi hC hI hl [.ref (X.2.2.1 9)] [] (c_X4_isWord l X a B S 9 (by omega) hA.1 hA.2.1 hA.2.2.1 hA.2.2.2.1 hA.2.2.2.2.2) ml_RX5_34 ev_X4_isWord (rc_ta (S := S) hC hI) ⟨Nat.le_of_ble_eq_true rfl, Nat.le_of_ble_eq_true rfl⟩ ⟨Nat.zero_le _, Nat.zero_le _⟩ (Nat.le_of_ble_eq_true rfl) rfl dX5_tellItem_82 (fun H locs hI => ?_)
              refine r_b_eq (tgt := 101) hC dX5_tellItem_85 (by decide) (fun c_5 => ?_) (fun c_5 => ?_)
              · skip
                have hW9 := c_5
                refine r_iconst hC dX5_tellItem_101 ?_
                exact r_zret hC hr hlk hI (by decide) ((bI_f (by unfold itO; rw [hkd, if_neg (by omega), if_neg hW6, if_neg hW7, if_neg hW8, if_neg hW9]; exact Bool.false_ne_true)).symm) (st_eq hk5 (by unfold itA; rw [hkd, if_neg (by omega), if_neg hW6, if_neg hW7, if_neg hW8, if_neg hW9]) (by unfold itR; rw [hkd, if_neg (by omega), if_neg hW6, if_neg hW7, if_neg hW8, if_neg hW9]) (fun b z1 z2 => rfl)) dX5_tellItem_102
              · skip
                have hW9 := c_5
                refine r_aload_n hC hl dX5_tellItem_88 1 rfl ?_
                refine r_aload_n hC hl dX5_tellItem_89 2 rfl ?_
                refine r_iconst hC dX5_tellItem_90 ?_
                refine r_cSi hC hI hl [.ref (a (5)), .ref (a (2 + k)), .int (J 3)] [] (c_X5_tellJar l X a B S k 3 (by omega) hV hA (by omega)) ml_RX5_49 es_X5_tellJar ⟨Nat.le_of_ble_eq_true rfl, Nat.le_of_ble_eq_true rfl⟩ ⟨Nat.zero_le _, Nat.zero_le _⟩ (Nat.le_of_ble_eq_true rfl) rfl dX5_tellItem_91 (fun H locs hI => ?_)
                refine r_b_eq (tgt := 101) hC dX5_tellItem_94 (by decide) (fun c_6 => ?_) (fun c_6 => ?_)
                · skip
                  have hJ := c_6
                  refine r_iconst hC dX5_tellItem_101 ?_
                  exact r_zret hC hr hlk hI (by decide) ((bI_f (by unfold itO; rw [hkd, if_neg (by omega), if_neg hW6, if_neg hW7, if_neg hW8, if_pos hW9]; exact fun z => hJ (of_decide_eq_true z))).symm) (by rw [show itA (S 4) (S 5) (S k) = tjA (S 4) (S 5) 3 from by unfold itA; rw [hkd, if_neg (by omega), if_neg hW6, if_neg hW7, if_neg hW8, if_pos hW9], show itR (S 4) (S 5) (S k) = tjR (S 4) (S 5) (S k) 3 from by unfold itR; rw [hkd, if_neg (by omega), if_neg hW6, if_neg hW7, if_neg hW8, if_pos hW9]]) dX5_tellItem_102
                · skip
                  have hJ := c_6
                  refine r_iconst hC dX5_tellItem_97 ?_
                  refine r_goto (tgt := 102) hC dX5_tellItem_98 (by decide) ?_
                  exact r_zret hC hr hlk hI (by decide) ((bI_t (by unfold itO; rw [hkd, if_neg (by omega), if_neg hW6, if_neg hW7, if_neg hW8, if_pos hW9]; exact decide_eq_true hJ)).symm) (by rw [show itA (S 4) (S 5) (S k) = tjA (S 4) (S 5) 3 from by unfold itA; rw [hkd, if_neg (by omega), if_neg hW6, if_neg hW7, if_neg hW8, if_pos hW9], show itR (S 4) (S 5) (S k) = tjR (S 4) (S 5) (S k) 3 from by unfold itR; rw [hkd, if_neg (by omega), if_neg hW6, if_neg hW7, if_neg hW8, if_pos hW9]]) dX5_tellItem_102
            · skip
              have hW8 := c_4
              refine r_aload_n hC hl dX5_tellItem_72 1 rfl ?_
              refine r_aload_n hC hl dX5_tellItem_73 2 rfl ?_
              refine r_iconst hC dX5_tellItem_74 ?_
              refine r_cSi hC hI hl [.ref (a (5)), .ref (a (2 + k)), .int (J 2)] [] (c_X5_tellJar l X a B S k 2 (by omega) hV hA (by omega)) ml_RX5_49 es_X5_tellJar ⟨Nat.le_of_ble_eq_true rfl, Nat.le_of_ble_eq_true rfl⟩ ⟨Nat.zero_le _, Nat.zero_le _⟩ (Nat.le_of_ble_eq_true rfl) rfl dX5_tellItem_75 (fun H locs hI => ?_)
              exact r_zret hC hr hlk hI (bI_01) ((bI_iff (by unfold itO; rw [hkd, if_neg (by omega), if_neg hW6, if_neg hW7, if_pos hW8]; exact decide_eq_true_iff.symm))) (by rw [show itA (S 4) (S 5) (S k) = tjA (S 4) (S 5) 2 from by unfold itA; rw [hkd, if_neg (by omega), if_neg hW6, if_neg hW7, if_pos hW8], show itR (S 4) (S 5) (S k) = tjR (S 4) (S 5) (S k) 2 from by unfold itR; rw [hkd, if_neg (by omega), if_neg hW6, if_neg hW7, if_pos hW8]]) dX5_tellItem_78
          · skip
            have hW7 := c_3
            refine r_aload_n hC hl dX5_tellItem_56 1 rfl ?_
            refine r_aload_n hC hl dX5_tellItem_57 2 rfl ?_
            refine r_iconst hC dX5_tellItem_58 ?_
            refine r_cSi hC hI hl [.ref (a (5)), .ref (a (2 + k)), .int (J 0)] [] (c_X5_tellJar l X a B S k 0 (by omega) hV hA (by omega)) ml_RX5_49 es_X5_tellJar ⟨Nat.le_of_ble_eq_true rfl, Nat.le_of_ble_eq_true rfl⟩ ⟨Nat.zero_le _, Nat.zero_le _⟩ (Nat.le_of_ble_eq_true rfl) rfl dX5_tellItem_59 (fun H locs hI => ?_)
            exact r_zret hC hr hlk hI (bI_01) ((bI_iff (by unfold itO; rw [hkd, if_neg (by omega), if_neg hW6, if_pos hW7]; exact decide_eq_true_iff.symm))) (by rw [show itA (S 4) (S 5) (S k) = tjA (S 4) (S 5) 0 from by unfold itA; rw [hkd, if_neg (by omega), if_neg hW6, if_pos hW7], show itR (S 4) (S 5) (S k) = tjR (S 4) (S 5) (S k) 0 from by unfold itR; rw [hkd, if_neg (by omega), if_neg hW6, if_pos hW7]]) dX5_tellItem_62
        · skip
          have hW6 := c_2
          refine r_aload_n hC hl dX5_tellItem_41 1 rfl ?_
          refine r_aload_n hC hl dX5_tellItem_42 2 rfl ?_
          refine r_cSi hC hI hl [.ref (a (5)), .ref (a (2 + k))] [] (c_X5_tellDark l X a B S k (by omega) hV hA) ml_RX5_44 es_X5_tellDark ⟨Nat.le_of_ble_eq_true rfl, Nat.le_of_ble_eq_true rfl⟩ ⟨Nat.zero_le _, Nat.zero_le _⟩ (Nat.le_of_ble_eq_true rfl) rfl dX5_tellItem_43 (fun H locs hI => ?_)
          exact r_zret hC hr hlk hI (bI_01) ((bI_iff (by unfold itO; rw [hkd, if_neg (by omega), if_pos hW6]; exact decide_eq_true_iff.symm))) (by rw [show itA (S 4) (S 5) (S k) = tdA (S 4) (S 5) from by unfold itA; rw [hkd, if_neg (by omega), if_pos hW6], show itR (S 4) (S 5) (S k) = tdR (S 4) (S 5) (S k) from by unfold itR; rw [hkd, if_neg (by omega), if_pos hW6]]) dX5_tellItem_46
      · skip
        refine r_aload_n hC hl dX5_tellItem_8 1 rfl ?_
        refine r_iload_n hC hl dX5_tellItem_9 0 rfl ?_
        refine r_cSr hC hI hl [.int (J (q : Int))] [.ref (a (5))] (c_X0_nameOf l X a B S q (by omega)) ml_RX5_30 es_X0_nameOf ⟨Nat.le_of_ble_eq_true rfl, Nat.le_of_ble_eq_true rfl⟩ ⟨Nat.zero_le _, Nat.zero_le _⟩ (Nat.le_of_ble_eq_true rfl) rfl dX5_tellItem_10 (fun H locs hI => ?_)
        refine r_cVi hC hI hl [.ref (X.2.2.1 q)] [] (c_X4_isWord l X a B S q (by omega) hA.1 hA.2.1 hA.2.2.1 hA.2.2.2.1 hA.2.2.2.2.2) ml_RX5_34 ev_X4_isWord (rc_ta (S := S) hC hI) ⟨Nat.le_of_ble_eq_true rfl, Nat.le_of_ble_eq_true rfl⟩ ⟨Nat.zero_le _, Nat.zero_le _⟩ (Nat.le_of_ble_eq_true rfl) rfl dX5_tellItem_13 (fun H locs hI => ?_)
        refine r_b_eq (tgt := 26) hC dX5_tellItem_16 (by decide) (fun c_7 => ?_) (fun c_7 => ?_)
        · skip
          refine r_iinc (lv1 := [(2, .int (J ((q : Int) + 1))), (0, .ref (a (5))), (1, .ref (a (2 + k)))]) hC hl dX5_tellItem_26 0 rfl (by decide) rfl (fun ls hl => ?_)
          refine r_goto (tgt := 2) hC dX5_tellItem_29 (by decide) ?_
          exact ih2 (q + 1) ((q : Int) + 1) (by omega) (by omega) (by omega) (lt_s hn c_7) _ _ _ hI (lv_sub hl [0, 1, 2] rfl)
        · skip
          have hkd : kdF (S 4) (S 5) = (q : Int) := kd_at (by omega) hn c_7
          refine r_aload_n hC hl dX5_tellItem_19 1 rfl ?_
          refine r_aload_n hC hl dX5_tellItem_20 2 rfl ?_
          refine r_iload_n hC hl dX5_tellItem_21 0 rfl ?_
          refine r_cSi hC hI hl [.ref (a (5)), .ref (a (2 + k)), .int (J (q : Int))] [] (c_X5_tellPage l X a B S k (q : Int) (by omega) hV hA (by omega)) ml_RX5_38 es_X5_tellPage ⟨Nat.le_of_ble_eq_true rfl, Nat.le_of_ble_eq_true rfl⟩ ⟨Nat.zero_le _, Nat.zero_le _⟩ (Nat.le_of_ble_eq_true rfl) rfl dX5_tellItem_22 (fun H locs hI => ?_)
          exact r_zret hC hr hlk hI (bI_01) ((bI_iff (by unfold itO; rw [hkd, if_pos (by omega)]; exact decide_eq_true_iff.symm))) (by unfold itA itR; rw [hkd, if_pos (by omega), if_pos (by omega)]) dX5_tellItem_25
  exact hL2 _ 0 0 (Nat.lt_succ_self _) (by omega) (by omega) (fun i hj => absurd hj (Nat.not_lt_zero i)) _ _ _ hI (lv_sub hl [0, 1, 2] rfl)
