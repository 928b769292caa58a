theorem kh_rg (A : Nat → Int) (w : Int) : -1 ≤ khF A w ∧ khF A w ≤ 5 := by
  unfold khF; (repeat' split) <;> omega
def mdB (T A : Nat → Int) : Nat → Int := wnA T (adF T A) 0 11
def mdV (T A : Nat → Int) : Int := wnW T (adF T A) (adW T A) 0 11
def mdA (T A : Nat → Int) : Nat → Int := if mdB T A 5 = 1 then wnA T (mdB T A) 0 20 else mdB T A
def mdW (T A : Nat → Int) : Int := if mdB T A 5 = 1 then wnW T (mdB T A) (mdV T A) 0 20 else mdV T A
def mdR (T A R : Nat → Int) : Nat → Int := if mdB T A 5 = 1 ∧ wnA T (mdB T A) 0 20 5 = 1 then upR R (6 + (adF T A 4).toNat) (mdB T A 4) else R
def miA (T A R : Nat → Int) (w : Int) : Nat → Int := if 0 ≤ khF A w then woA T A R (khF A w) else if A 1 = 1 ∧ w = 6950 then wjA T A 999 else if A 1 = 1 ∧ w = 28120299247 then wjA T A 9 else if A 1 = 1 ∧ w = 237292 then wjA T A 9 else if A 1 = 1 ∧ w = 79958 then mdA T A else upR A 5 0
def miW (T A R : Nat → Int) (w : Int) : Int := if 0 ≤ khF A w then woW T A R w (khF A w) else if A 1 = 1 ∧ w = 6950 then wjW T A 999 else if A 1 = 1 ∧ w = 28120299247 then wjW T A 9 else if A 1 = 1 ∧ w = 237292 then wjW T A 9 else if A 1 = 1 ∧ w = 79958 then mdW T A else w
def miR (T A R : Nat → Int) (w : Int) : Nat → Int := if 0 ≤ khF A w then woR T A R (khF A w) else if A 1 = 1 ∧ w = 6950 then wjR T A R 3 999 else if A 1 = 1 ∧ w = 28120299247 then wjR T A R 1 9 else if A 1 = 1 ∧ w = 237292 then wjR T A R 4 9 else if A 1 = 1 ∧ w = 79958 then mdR T A R else R
theorem mi_cg {S : St} {A A2 R R2 : Nat → Int} {w w2 : Int} (hA : A = A2) (hw : w = w2) (hR : R = R2) : setB (up (setB S 25 A) 32 0 w) 20 R = setB (up (setB S 25 A2) 32 0 w2) 20 R2 := by
  subst hA; subst hw; subst hR; rfl

set_option maxHeartbeats 4000000 in
set_option maxRecDepth 100000 in
theorem c_X7_wantItem (l : Launch) (X : XT) (a : Nat → Nat) (B : Nat) (S : St)  (hV : VR 9999 (S 20)) (hM : VM (S 24) (S 25) (S 32 0)) : CT l X a B 5 yX7_wantItem cX7_wantItem 3 none [.ref (a (49))] S (Qv X a B (setB (up (setB S 25 (miA (S 24) (S 25) (S 20) (S 32 0))) 32 0 (miW (S 24) (S 25) (S 20) (S 32 0))) 20 (miR (S 24) (S 25) (S 20) (S 32 0)))) := by
  refine CT.of (by decide +kernel) (Nat.le_of_ble_eq_true rfl) ?_
  intro p e s m below meth c ls hC hr hlk hI hl
  have hC : Cx p c cX7_wantItem 3 s m [.ref (a (49))].toArray RX7 X B := hC
  have hl : lv_has ls 3 [(0, .ref (a (49)))] := hl
  obtain ⟨hL, h1, h2, h3, h4, hB, h5, hw⟩ := id hM
  have hkr := kh_rg (S 25) (S 32 0)
  refine r_aload_n hC hl dX7_wantItem_0 0 rfl ?_
  refine r_cVi hC hI hl [] [] (c_X7_kindHere l X a B S  (by omega) (by omega)) ml_RX7_194 ev_X7_kindHere (rc_mo (S := S) hC hI) ⟨Nat.le_of_ble_eq_true rfl, Nat.le_of_ble_eq_true rfl⟩ ⟨Nat.zero_le _, Nat.zero_le _⟩ (Nat.le_of_ble_eq_true rfl) rfl dX7_wantItem_1 (fun H locs hI => ?_)
  refine r_if_lt (tgt := 18) hC (by omega) dX7_wantItem_4 (by decide) (fun c_1 => ?_) (fun c_1 => ?_)
  · skip
    refine r_aload_n hC hl dX7_wantItem_18 0 rfl ?_
    refine r_ldc2 (x := (6950)) hC cl_RX7_200 (by decide) dX7_wantItem_19 ?_
    refine r_cVi hC hI hl [.long (JL (6950))] [] (c_X7_isWord l X a B S (6950) (by omega) (by omega) (by omega)) ml_RX7_168 ev_X7_isWord (rc_mo (S := S) hC hI) ⟨Nat.le_of_ble_eq_true rfl, Nat.le_of_ble_eq_true rfl⟩ ⟨Nat.zero_le _, Nat.zero_le _⟩ (Nat.le_of_ble_eq_true rfl) rfl dX7_wantItem_22 (fun H locs hI => ?_)
    refine r_b_eq (tgt := 39) hC dX7_wantItem_25 (by decide) (fun c_2 => ?_) (fun c_2 => ?_)
    · skip
      refine r_aload_n hC hl dX7_wantItem_39 0 rfl ?_
      refine r_ldc2 (x := (28120299247)) hC cl_RX7_206 (by decide) dX7_wantItem_40 ?_
      refine r_cVi hC hI hl [.long (JL (28120299247))] [] (c_X7_isWord l X a B S (28120299247) (by omega) (by omega) (by omega)) ml_RX7_168 ev_X7_isWord (rc_mo (S := S) hC hI) ⟨Nat.le_of_ble_eq_true rfl, Nat.le_of_ble_eq_true rfl⟩ ⟨Nat.zero_le _, Nat.zero_le _⟩ (Nat.le_of_ble_eq_true rfl) rfl dX7_wantItem_43 (fun H locs hI => ?_)
      refine r_b_eq (tgt := 59) hC dX7_wantItem_46 (by decide) (fun c_3 => ?_) (fun c_3 => ?_)
      · skip
        refine r_aload_n hC hl dX7_wantItem_59 0 rfl ?_
        refine r_ldc2 (x := (237292)) hC cl_RX7_208 (by decide) dX7_wantItem_60 ?_
        refine r_cVi hC hI hl [.long (JL (237292))] [] (c_X7_isWord l X a B S (237292) (by omega) (by omega) (by omega)) ml_RX7_168 ev_X7_isWord (rc_mo (S := S) hC hI) ⟨Nat.le_of_ble_eq_true rfl, Nat.le_of_ble_eq_true rfl⟩ ⟨Nat.zero_le _, Nat.zero_le _⟩ (Nat.le_of_ble_eq_true rfl) rfl dX7_wantItem_63 (fun H locs hI => ?_)
        refine r_b_eq (tgt := 79) hC dX7_wantItem_66 (by decide) (fun c_4 => ?_) (fun c_4 => ?_)
        · skip
          refine r_aload_n hC hl dX7_wantItem_79 0 rfl ?_
          refine r_ldc2 (x := (79958)) hC cl_RX7_210 (by decide) dX7_wantItem_80 ?_
          refine r_cVi hC hI hl [.long (JL (79958))] [] (c_X7_isWord l X a B S (79958) (by omega) (by omega) (by omega)) ml_RX7_168 ev_X7_isWord (rc_mo (S := S) hC hI) ⟨Nat.le_of_ble_eq_true rfl, Nat.le_of_ble_eq_true rfl⟩ ⟨Nat.zero_le _, Nat.zero_le _⟩ (Nat.le_of_ble_eq_true rfl) rfl dX7_wantItem_83 (fun H locs hI => ?_)
          refine r_b_eq (tgt := 140) hC dX7_wantItem_86 (by decide) (fun c_5 => ?_) (fun c_5 => ?_)
          · skip
            refine r_aload_n hC hl dX7_wantItem_140 0 rfl ?_
            refine r_iconst hC dX7_wantItem_141 ?_
            refine p_mo11  hC hI (by decide) fl_RX7_182 dX7_wantItem_142 (fun H locs hI => ?_)
            exact r_vret hC hr hlk hI (mo_eq (by rw [up_b]; unfold miA; rw [if_neg (by omega), if_neg (by omega), if_neg (by omega), if_neg (by omega), if_neg (by omega)]) (by rw [up_nb _ _ (by decide)]; unfold miW; rw [if_neg (by omega), if_neg (by omega), if_neg (by omega), if_neg (by omega), if_neg (by omega)]) (fun j hj => by rw [up_nb _ _ (by decide)]) (by rw [up_nb _ _ (by decide)]; unfold miR; rw [if_neg (by omega), if_neg (by omega), if_neg (by omega), if_neg (by omega), if_neg (by omega)]) (fun b z1 z2 z3 => by rw [up_nb _ _ z1])) dX7_wantItem_145
          · skip
            refine r_aload_n hC hl dX7_wantItem_89 0 rfl ?_
            refine r_cVv hC hI hl [] [] (c_X7_advance l X a B S  hM.1 ⟨by have z := hM.2.2.1; omega, hM.2.2.2.1⟩ hM.2.2.2.2.2.1) ml_RX7_186 ev_X7_advance (rc_mo (S := S) hC hI) ⟨Nat.le_of_ble_eq_true rfl, Nat.le_of_ble_eq_true rfl⟩ ⟨Nat.zero_le _, Nat.zero_le _⟩ (Nat.le_of_ble_eq_true rfl) rfl dX7_wantItem_90 (fun H locs hI => ?_)
            obtain ⟨T1, eT1⟩ : ∃ z : St, z = up (setB S 25 (adF (S 24) (S 25))) 32 0 (adW (S 24) (S 25)) := ⟨_, rfl⟩
            rw [← eT1] at hI
            have T1A : T1 25 = adF (S 24) (S 25) := by rw [eT1, up_nb _ _ (by decide), setB_at]
            have T1W : T1 32 0 = adW (S 24) (S 25) := by rw [eT1, up_at]
            have T14 : T1 24 = S 24 := by rw [eT1, up_nb _ _ (by decide), setB_ne _ _ (by decide)]
            have T10 : T1 20 = S 20 := by rw [eT1, up_nb _ _ (by decide), setB_ne _ _ (by decide)]
            have T1M : VM (T1 24) (T1 25) (T1 32 0) := by rw [T14, T1A, T1W]; exact hM.ad
            have T1o : ∀ b, b ≠ 25 → b ≠ 32 → T1 b = S b := fun b z1 z2 => by rw [eT1, up_nb _ _ z2, setB_ne _ _ z1]
            have T1x : ∀ j, j ≠ 0 → T1 32 j = S 32 j := fun j hj => by rw [eT1, up_nj _ _ hj, setB_ne _ _ (by decide)]
            have T15 := T1M.2.2.2.2.2.2.1
            refine r_aload_n hC hl dX7_wantItem_93 0 rfl ?_
            refine r_iconst hC dX7_wantItem_94 ?_
            refine r_bipush hC (by decide) dX7_wantItem_95 ?_
            refine r_cVi hC hI hl [.int (J 0), .int (J 11)] [] (c_X7_wantNumber l X a B T1 0 11 T1M (by omega) (by omega)) ml_RX7_189 ev_X7_wantNumber (rc_mo (S := T1) hC hI) ⟨Nat.le_of_ble_eq_true rfl, Nat.le_of_ble_eq_true rfl⟩ ⟨Nat.zero_le _, Nat.zero_le _⟩ (Nat.le_of_ble_eq_true rfl) rfl dX7_wantItem_97 (fun H locs hI => ?_)
            obtain ⟨T2, eT2⟩ : ∃ z : St, z = up (setB T1 25 (wnA (T1 24) (T1 25) 0 11)) 32 0 (wnW (T1 24) (T1 25) (T1 32 0) 0 11) := ⟨_, rfl⟩
            rw [← eT2] at hI
            have T2A : T2 25 = mdB (S 24) (S 25) := by rw [eT2, up_nb _ _ (by decide), setB_at, T14, T1A]; rfl --]
            have T2W : T2 32 0 = mdV (S 24) (S 25) := by rw [eT2, up_at, T14, T1A, T1W]; rfl --]
            have T24 : T2 24 = S 24 := by rw [eT2, up_nb _ _ (by decide), setB_ne _ _ (by decide), T14]
            have T20 : T2 20 = S 20 := by rw [eT2, up_nb _ _ (by decide), setB_ne _ _ (by decide), T10]
            have T2M : VM (T2 24) (T2 25) (T2 32 0) := by rw [T24, T2A, T2W]; exact wn_VM hM.ad
            have T2o : ∀ b, b ≠ 25 → b ≠ 32 → T2 b = T1 b := fun b z1 z2 => by rw [eT2, up_nb _ _ z2, setB_ne _ _ z1]
            have T2x : ∀ j, j ≠ 0 → T2 32 j = S 32 j := fun j hj => by rw [eT2, up_nj _ _ hj, setB_ne _ _ (by decide), T1x j hj]
            have T25 := T2M.2.2.2.2.2.2.1
            have T2g : T2 25 5 = mdB (S 24) (S 25) 5 := by rw [T2A]
            refine r_as (y := adF (S 24) (S 25) 4) hC (by rw [T1A]) ?_
            refine r_istore_n (lv1 := [(1, .int (J (adF (S 24) (S 25) 4))), (0, .ref (a (49)))]) hC hl dX7_wantItem_100 1 rfl (by decide) rfl (fun ls hl => ?_)
            refine r_aload_n hC hl dX7_wantItem_101 1 rfl ?_
            refine g_mo  (v := .int (J (T2 25 5))) hC hI 11 (by decide) fl_RX7_182 rfl rfl dX7_wantItem_102 ?_
            refine r_if_eq (tgt := 118) hC (by omega) dX7_wantItem_105 (by decide) (fun c_6 => ?_) (fun c_6 => ?_)
            · skip
              refine r_iconst hC dX7_wantItem_118 ?_
              refine r_istore_n (lv1 := [(2, .int (J 0)), (1, .int (J (adF (S 24) (S 25) 4))), (0, .ref (a (49)))]) hC hl dX7_wantItem_119 2 rfl (by decide) rfl (fun ls hl => ?_)
              refine r_aload_n hC hl dX7_wantItem_120 2 rfl ?_
              refine g_mo  (v := .int (J (T2 25 5))) hC hI 11 (by decide) fl_RX7_182 rfl rfl dX7_wantItem_121 ?_
              refine r_if_eq (tgt := 137) hC (by omega) dX7_wantItem_124 (by decide) (fun c_7 => ?_) (fun c_7 => ?_)
              · skip
                refine r_goto (tgt := 145) hC dX7_wantItem_137 (by decide) ?_
                exact r_vret hC hr hlk hI (mo_eq (by rw [T2A]; unfold miA; rw [if_neg (by omega), if_neg (by omega), if_neg (by omega), if_neg (by omega), if_pos (by omega)]; unfold mdA; rw [if_neg (by omega)]) (by rw [T2W]; unfold miW; rw [if_neg (by omega), if_neg (by omega), if_neg (by omega), if_neg (by omega), if_pos (by omega)]; unfold mdW; rw [if_neg (by omega)]) T2x (by rw [T20]; unfold miR; rw [if_neg (by omega), if_neg (by omega), if_neg (by omega), if_neg (by omega), if_pos (by omega)]; unfold mdR; rw [if_neg (by omega)]) (fun b z1 z2 z3 => by rw [T2o b z1 z2, T1o b z1 z2])) dX7_wantItem_145
              · skip
                exfalso; omega
            · skip
              have hg1 := wn_g (T := S 24) (A := adF (S 24) (S 25)) (lo := 0) (hi := 11) (show mdB (S 24) (S 25) 5 = 1 by omega)
              refine r_aload_n hC hl dX7_wantItem_108 1 rfl ?_
              refine r_iconst hC dX7_wantItem_109 ?_
              refine r_bipush hC (by decide) dX7_wantItem_110 ?_
              refine r_cVi hC hI hl [.int (J 0), .int (J 20)] [] (c_X7_wantNumber l X a B T2 0 20 T2M (by omega) (by omega)) ml_RX7_189 ev_X7_wantNumber (rc_mo (S := T2) hC hI) ⟨Nat.le_of_ble_eq_true rfl, Nat.le_of_ble_eq_true rfl⟩ ⟨Nat.zero_le _, Nat.zero_le _⟩ (Nat.le_of_ble_eq_true rfl) rfl dX7_wantItem_112 (fun H locs hI => ?_)
              obtain ⟨T3, eT3⟩ : ∃ z : St, z = up (setB T2 25 (wnA (T2 24) (T2 25) 0 20)) 32 0 (wnW (T2 24) (T2 25) (T2 32 0) 0 20) := ⟨_, rfl⟩
              rw [← eT3] at hI
              have T3A : T3 25 = wnA (S 24) (mdB (S 24) (S 25)) 0 20 := by rw [eT3, up_nb _ _ (by decide), setB_at, T24, T2A]
              have T3W : T3 32 0 = wnW (S 24) (mdB (S 24) (S 25)) (mdV (S 24) (S 25)) 0 20 := by rw [eT3, up_at, T24, T2A, T2W]
              have T34 : T3 24 = S 24 := by rw [eT3, up_nb _ _ (by decide), setB_ne _ _ (by decide), T24]
              have T30 : T3 20 = S 20 := by rw [eT3, up_nb _ _ (by decide), setB_ne _ _ (by decide), T20]
              have T3M : VM (T3 24) (T3 25) (T3 32 0) := by rw [T34, T3A, T3W]; exact wn_VM (wn_VM hM.ad)
              have T3o : ∀ b, b ≠ 25 → b ≠ 32 → T3 b = T2 b := fun b z1 z2 => by rw [eT3, up_nb _ _ z2, setB_ne _ _ z1]
              have T3x : ∀ j, j ≠ 0 → T3 32 j = S 32 j := fun j hj => by rw [eT3, up_nj _ _ hj, setB_ne _ _ (by decide), T2x j hj]
              have T35 := T3M.2.2.2.2.2.2.1
              have T3g : T3 25 5 = wnA (S 24) (mdB (S 24) (S 25)) 0 20 5 := by rw [T3A]
              refine r_as (y := mdB (S 24) (S 25) 4) hC (by rw [T2A]) ?_
              refine r_goto (tgt := 119) hC dX7_wantItem_115 (by decide) ?_
              refine r_istore_n (lv1 := [(2, .int (J (mdB (S 24) (S 25) 4))), (1, .int (J (adF (S 24) (S 25) 4))), (0, .ref (a (49)))]) hC hl dX7_wantItem_119 2 rfl (by decide) rfl (fun ls hl => ?_)
              refine r_aload_n hC hl dX7_wantItem_120 2 rfl ?_
              refine g_mo  (v := .int (J (T3 25 5))) hC hI 11 (by decide) fl_RX7_182 rfl rfl dX7_wantItem_121 ?_
              refine r_if_eq (tgt := 137) hC (by omega) dX7_wantItem_124 (by decide) (fun c_8 => ?_) (fun c_8 => ?_)
              · skip
                refine r_goto (tgt := 145) hC dX7_wantItem_137 (by decide) ?_
                exact r_vret hC hr hlk hI (mo_eq (by rw [T3A]; unfold miA; rw [if_neg (by omega), if_neg (by omega), if_neg (by omega), if_neg (by omega), if_pos (by omega)]; unfold mdA; rw [if_pos (by omega)]) (by rw [T3W]; unfold miW; rw [if_neg (by omega), if_neg (by omega), if_neg (by omega), if_neg (by omega), if_pos (by omega)]; unfold mdW; rw [if_pos (by omega)]) T3x (by rw [T30]; unfold miR; rw [if_neg (by omega), if_neg (by omega), if_neg (by omega), if_neg (by omega), if_pos (by omega)]; unfold mdR; rw [if_neg (by omega)]) (fun b z1 z2 z3 => by rw [T3o b z1 z2, T2o b z1 z2, T1o b z1 z2])) dX7_wantItem_145
              · skip
                refine r_aload_n hC hl dX7_wantItem_127 2 rfl ?_
                refine g_mo  (v := .ref (a (50))) hC hI 0 (by decide) fl_RX7_7 rfl rfl dX7_wantItem_128 ?_
                refine r_bipush hC (by decide) dX7_wantItem_131 ?_
                refine r_iload_n hC hl dX7_wantItem_133 1 rfl ?_
                refine r_iadd hC dX7_wantItem_134 ?_
                refine r_as (y := ((6 + (adF (S 24) (S 25) 4).toNat : Nat) : Int)) hC (by omega) ?_
                refine r_iload_n hC hl dX7_wantItem_135 0 rfl ?_
                refine r_iast (cx := 50) (n := 58) (F := fun S => S 20) hC hI (by decide) (fun _ => rfl) (by decide) (6 + (adF (S 24) (S 25) 4).toNat) (by omega) (by omega) (b := 20) (j := 6 + (adF (S 24) (S 25) 4).toNat) rfl (fun q => by simp [up, setB, upR]) dX7_wantItem_136 (fun H locs hI => ?_)
                refine r_goto (tgt := 145) hC dX7_wantItem_137 (by decide) ?_
                exact r_vret hC hr hlk hI (mo_eq (by rw [up_nb _ _ (by decide), T3A]; unfold miA; rw [if_neg (by omega), if_neg (by omega), if_neg (by omega), if_neg (by omega), if_pos (by omega)]; unfold mdA; rw [if_pos (by omega)]) (by rw [up_nb _ _ (by decide), T3W]; unfold miW; rw [if_neg (by omega), if_neg (by omega), if_neg (by omega), if_neg (by omega), if_pos (by omega)]; unfold mdW; rw [if_pos (by omega)]) (fun j hj => by rw [up_nb _ _ (by decide), T3x j hj]) (by rw [up_b, T30]; unfold miR; rw [if_neg (by omega), if_neg (by omega), if_neg (by omega), if_neg (by omega), if_pos (by omega)]; unfold mdR; rw [if_pos (by omega)]) (fun b z1 z2 z3 => by rw [up_nb _ _ z3, T3o b z1 z2, T2o b z1 z2, T1o b z1 z2])) dX7_wantItem_145
        · skip
          refine r_aload_n hC hl dX7_wantItem_69 0 rfl ?_
          refine r_iconst hC dX7_wantItem_70 ?_
          refine r_bipush hC (by decide) dX7_wantItem_71 ?_
          refine r_cVv hC hI hl [.int (J 4), .int (J 9)] [] (c_X7_wantJar l X a B S 4 9 hV hM (by omega) (by omega)) ml_RX7_202 ev_X7_wantJar (rc_mo (S := S) hC hI) ⟨Nat.le_of_ble_eq_true rfl, Nat.le_of_ble_eq_true rfl⟩ ⟨Nat.zero_le _, Nat.zero_le _⟩ (Nat.le_of_ble_eq_true rfl) rfl dX7_wantItem_73 (fun H locs hI => ?_)
          refine r_goto (tgt := 145) hC dX7_wantItem_76 (by decide) ?_
          exact r_vret hC hr hlk hI (mi_cg (by unfold miA; rw [if_neg (by omega), if_neg (by omega), if_neg (by omega), if_pos (by omega)]) (by unfold miW; rw [if_neg (by omega), if_neg (by omega), if_neg (by omega), if_pos (by omega)]) (by unfold miR; rw [if_neg (by omega), if_neg (by omega), if_neg (by omega), if_pos (by omega)])) dX7_wantItem_145
      · skip
        refine r_aload_n hC hl dX7_wantItem_49 0 rfl ?_
        refine r_iconst hC dX7_wantItem_50 ?_
        refine r_bipush hC (by decide) dX7_wantItem_51 ?_
        refine r_cVv hC hI hl [.int (J 1), .int (J 9)] [] (c_X7_wantJar l X a B S 1 9 hV hM (by omega) (by omega)) ml_RX7_202 ev_X7_wantJar (rc_mo (S := S) hC hI) ⟨Nat.le_of_ble_eq_true rfl, Nat.le_of_ble_eq_true rfl⟩ ⟨Nat.zero_le _, Nat.zero_le _⟩ (Nat.le_of_ble_eq_true rfl) rfl dX7_wantItem_53 (fun H locs hI => ?_)
        refine r_goto (tgt := 145) hC dX7_wantItem_56 (by decide) ?_
        exact r_vret hC hr hlk hI (mi_cg (by unfold miA; rw [if_neg (by omega), if_neg (by omega), if_pos (by omega)]) (by unfold miW; rw [if_neg (by omega), if_neg (by omega), if_pos (by omega)]) (by unfold miR; rw [if_neg (by omega), if_neg (by omega), if_pos (by omega)])) dX7_wantItem_145
    · skip
      refine r_aload_n hC hl dX7_wantItem_28 0 rfl ?_
      refine r_iconst hC dX7_wantItem_29 ?_
      refine r_sipush hC (by decide) dX7_wantItem_30 ?_
      refine r_cVv hC hI hl [.int (J 3), .int (J 999)] [] (c_X7_wantJar l X a B S 3 999 hV hM (by omega) (by omega)) ml_RX7_202 ev_X7_wantJar (rc_mo (S := S) hC hI) ⟨Nat.le_of_ble_eq_true rfl, Nat.le_of_ble_eq_true rfl⟩ ⟨Nat.zero_le _, Nat.zero_le _⟩ (Nat.le_of_ble_eq_true rfl) rfl dX7_wantItem_33 (fun H locs hI => ?_)
      refine r_goto (tgt := 145) hC dX7_wantItem_36 (by decide) ?_
      exact r_vret hC hr hlk hI (mi_cg (by unfold miA; rw [if_neg (by omega), if_pos (by omega)]) (by unfold miW; rw [if_neg (by omega), if_pos (by omega)]) (by unfold miR; rw [if_neg (by omega), if_pos (by omega)])) dX7_wantItem_145
  · skip
    refine r_aload_n hC hl dX7_wantItem_7 0 rfl ?_
    refine r_aload_n hC hl dX7_wantItem_8 0 rfl ?_
    refine r_cVi hC hI hl [] [.ref (a (49))] (c_X7_kindHere l X a B S  (by omega) (by omega)) ml_RX7_194 ev_X7_kindHere (rc_mo (S := S) hC hI) ⟨Nat.le_of_ble_eq_true rfl, Nat.le_of_ble_eq_true rfl⟩ ⟨Nat.zero_le _, Nat.zero_le _⟩ (Nat.le_of_ble_eq_true rfl) rfl dX7_wantItem_9 (fun H locs hI => ?_)
    refine r_cVv hC hI hl [.int (J (khF (S 25) (S 32 0)))] [] (c_X7_wantOne l X a B S (khF (S 25) (S 32 0)) hV hM (by omega)) ml_RX7_197 ev_X7_wantOne (rc_mo (S := S) hC hI) ⟨Nat.le_of_ble_eq_true rfl, Nat.le_of_ble_eq_true rfl⟩ ⟨Nat.zero_le _, Nat.zero_le _⟩ (Nat.le_of_ble_eq_true rfl) rfl dX7_wantItem_12 (fun H locs hI => ?_)
    refine r_goto (tgt := 145) hC dX7_wantItem_15 (by decide) ?_
    exact r_vret hC hr hlk hI (mi_cg (by unfold miA; rw [if_pos (by omega)]) (by unfold miW; rw [if_pos (by omega)]) (by unfold miR; rw [if_pos (by omega)])) dX7_wantItem_145

def Adv (p : Int) (A : Nat → Int) : Prop := p ≤ A 3 ∧ (A 1 ≠ 0 → p < A 3)
theorem so_0 {T : Nat → Int} {n b : Nat} (h : soF T n b ≠ 0) : tcF T n b ≠ 0 := by
  unfold soF at h; unfold tcF
  by_cases h0 : n ≤ b
  · rw [if_pos h0] at h; exact absurd rfl h
  · rw [if_neg h0]
    (repeat' split) <;> decide
theorem ad_adv {T A : Nat → Int} {w : Int} (h : VM T A w) : Adv (A 3) (adF T A) := by
  have h1 := h.1; have h2 := h.2.2.1; have h3 := h.2.2.2.1
  have hz := zB_rg (T := T) (n := (A 0).toNat) (p := (A 3).toNat) (by omega)
  have he := te_rg (T := T) hz.2
  refine ⟨?_, fun hs => ?_⟩
  · show A 3 ≤ ((teF T (A 0).toNat (zB T (A 0).toNat (A 3).toNat) : Nat) : Int)
    omega
  · have h4 := he.2.2 (so_0 hs)
    show A 3 < ((teF T (A 0).toNat (zB T (A 0).toNat (A 3).toNat) : Nat) : Int)
    omega
theorem Adv.ad {T A : Nat → Int} {w p : Int} (h : VM T A w) (ha : Adv p A) : Adv p (adF T A) := by
  have h1 := ad_adv h
  exact ⟨Int.le_trans ha.1 h1.1, fun hs => Int.lt_of_le_of_lt ha.1 (h1.2 hs)⟩
theorem Adv.g {A : Nat → Int} {p x : Int} (ha : Adv p A) : Adv p (upR A 5 x) := ha
theorem Adv.wn {T A : Nat → Int} {w p lo hi : Int} (h : VM T A w) (ha : Adv p A) : Adv p (wnA T A lo hi) := by
  unfold wnA
  split
  · exact Adv.ad (h.g (Or.inr rfl)) ha.g
  · exact ha.g
theorem o1_VM {T A : Nat → Int} {w : Int} (h : VM T A w) : VM T (o1A T A) (o1W T A) := (h.g (Or.inr rfl)).ad
theorem o2_VM {T A R : Nat → Int} {w q : Int} (h : VM T A w) : VM T (o2A T A R q) (o2W T A R q) := wn_VM (o1_VM h)
theorem wo_VM {T A R : Nat → Int} {w q : Int} (h : VM T A w) : VM T (woA T A R q) (woW T A R w q) := by
  unfold woA woW
  by_cases h1 : R 5 < 8
  · rw [if_pos h1, if_pos h1]
    by_cases h2 : o2A T A R q 5 = 1 ∧ o2A T A R q 1 = 1 ∧ o2W T A R q = 14432
    · rw [if_pos h2, if_pos h2]; exact (o2_VM h).ad
    · rw [if_neg h2, if_neg h2]; exact o2_VM h
  · rw [if_neg h1, if_neg h1]; exact h.g (Or.inl rfl)
theorem wo_adv {T A R : Nat → Int} {w q p : Int} (h : VM T A w) (ha : Adv p A) : Adv p (woA T A R q) := by
  have h1 : Adv p (o2A T A R q) := Adv.wn (o1_VM h) (Adv.ad (h.g (Or.inr rfl)) ha.g)
  unfold woA
  split
  · split
    · exact Adv.ad (o2_VM h) h1
    · exact h1
  · exact ha.g
theorem wj_VM {T A : Nat → Int} {w m : Int} (h : VM T A w) : VM T (wjA T A m) (wjW T A m) := wn_VM h.ad
theorem wj_adv {T A : Nat → Int} {w m p : Int} (h : VM T A w) (ha : Adv p A) : Adv p (wjA T A m) := Adv.wn h.ad (Adv.ad h ha)
theorem mB_VM {T A : Nat → Int} {w : Int} (h : VM T A w) : VM T (mdB T A) (mdV T A) := wn_VM h.ad
theorem md_VM {T A : Nat → Int} {w : Int} (h : VM T A w) : VM T (mdA T A) (mdW T A) := by
  unfold mdA mdW
  by_cases h1 : mdB T A 5 = 1
  · rw [if_pos h1, if_pos h1]; exact wn_VM (mB_VM h)
  · rw [if_neg h1, if_neg h1]; exact mB_VM h
theorem md_adv {T A : Nat → Int} {w p : Int} (h : VM T A w) (ha : Adv p A) : Adv p (mdA T A) := by
  have h1 : Adv p (mdB T A) := Adv.wn h.ad (Adv.ad h ha)
  unfold mdA
  split
  · exact Adv.wn (mB_VM h) h1
  · exact h1
theorem mi_VM {T A R : Nat → Int} {w : Int} (h : VM T A w) : VM T (miA T A R w) (miW T A R w) := by
  unfold miA miW
  by_cases h0 : 0 ≤ khF A w
  · rw [if_pos h0, if_pos h0]; exact wo_VM h
  · rw [if_neg h0, if_neg h0]
    by_cases h1 : A 1 = 1 ∧ w = 6950
    · rw [if_pos h1, if_pos h1]; exact wj_VM h
    · rw [if_neg h1, if_neg h1]
      by_cases h2 : A 1 = 1 ∧ w = 28120299247
      · rw [if_pos h2, if_pos h2]; exact wj_VM h
      · rw [if_neg h2, if_neg h2]
        by_cases h3 : A 1 = 1 ∧ w = 237292
        · rw [if_pos h3, if_pos h3]; exact wj_VM h
        · rw [if_neg h3, if_neg h3]
          by_cases h4 : A 1 = 1 ∧ w = 79958
          · rw [if_pos h4, if_pos h4]; exact md_VM h
          · rw [if_neg h4, if_neg h4]; exact h.g (Or.inl rfl)
theorem mi_adv {T A R : Nat → Int} {w p : Int} (h : VM T A w) (ha : Adv p A) : Adv p (miA T A R w) := by
  unfold miA
  (repeat' split) <;> first | exact wo_adv h ha | exact wj_adv h ha | exact md_adv h ha | exact ha.g
theorem cs_mono {k v u : Int} (h : 0 ≤ v ∧ v ≤ u ∧ u ≤ 99) : csF k v ≤ csF k u := by
  have h1 : v / 20 ≤ u / 20 := by omega
  unfold csF mxF; (repeat' split) <;> omega
theorem dw_le {f : Nat → Bool} : ∀ n m : Nat, m ≤ n → 1 ≤ m → f m = true → (m : Int) ≤ dwF f n
  | 0, m, h1, h2, _ => by omega
  | n + 1, m, h1, h2, h3 => by
    have e : dwF f (n + 1) = if f (n + 1) = true then ((n + 1 : Nat) : Int) else dwF f n := rfl
    rw [e]
    by_cases hm : m = n + 1
    · rw [← hm, if_pos h3]; exact Int.le_refl _
    · have h4 := dw_le n m (by omega) h2 h3
      split <;> omega
theorem dw_is {f : Nat → Bool} : ∀ n : Nat, 0 ≤ dwF f n → f (dwF f n).toNat = true
  | 0, h => by have h : (0 : Int) ≤ -1 := h; omega
  | n + 1, h => by
    have e : dwF f (n + 1) = if f (n + 1) = true then ((n + 1 : Nat) : Int) else dwF f n := rfl
    rw [e] at h ⊢
    by_cases hf : f (n + 1) = true
    · rw [if_pos hf, Int.toNat_natCast]; exact hf
    · rw [if_neg hf] at h ⊢; exact dw_is n h
/-- there is ink for v words just if v is none above the most words for which there is ink -/
theorem mw_iff {R : Nat → Int} {q v : Int} (hv : 1 ≤ v ∧ v ≤ 99) : v ≤ mwF R q ↔ csF q v ≤ R 3 := by
  have hw := wd_cs (dwF (fun ww => decide (csF q (ww : Int) ≤ R 3)) 99)
  have hr := dw_rg (fun ww => decide (csF q (ww : Int) ≤ R 3)) 99
  unfold mwF
  constructor
  · intro h
    have h0 : 0 ≤ dwF (fun ww => decide (csF q (ww : Int) ≤ R 3)) 99 := by omega
    have h1 := of_decide_eq_true (dw_is (f := fun ww => decide (csF q (ww : Int) ≤ R 3)) 99 h0)
    have h2 := cs_mono (k := q) (v := v) (u := (((dwF (fun ww => decide (csF q (ww : Int) ≤ R 3)) 99).toNat : Nat) : Int)) (by omega)
    omega
  · intro h
    have h1 := dw_le (f := fun ww => decide (csF q (ww : Int) ≤ R 3)) 99 v.toNat (by omega) (by omega) (decide_eq_true (by rw [show ((v.toNat : Nat) : Int) = v by omega]; exact h))
    omega
theorem wo_VR {N : Int} {T A R : Nat → Int} {q : Int} (hq : 0 ≤ q ∧ q ≤ 5) (hV : VR N R) : VR N (woR T A R q) := by
  unfold woR
  split
  · rename_i h
    have hg := wn_g (T := T) (A := o1A T A) (lo := 1) (hi := mwF R q) h.2
    have hm := mw_rg R q
    exact ap_VR hV h.1 hq (by omega) ((mw_iff (by omega)).mp hg.2.2.2) (by split <;> omega)
  · exact hV
theorem wj_VR {N : Int} {T A R : Nat → Int} {z m : Int} (hz : ∀ x, 0 ≤ x ∧ x ≤ m → VR N (upR R z.toNat x)) (hV : VR N R) : VR N (wjR T A R z m) := by
  unfold wjR
  split
  · rename_i h
    have hg := wn_g (T := T) (A := adF T A) (lo := 0) (hi := m) h
    exact hz _ hg.2.2
  · exact hV
theorem md_VR {N : Int} {T A R : Nat → Int} (hV : VR N R) : VR N (mdR T A R) := by
  unfold mdR
  split
  · rename_i h
    have hg := wn_g (T := T) (A := adF T A) (lo := 0) (hi := 11) h.1
    have hg2 := wn_g (T := T) (A := mdB T A) (lo := 0) (hi := 20) h.2
    exact VR_d hg2.2.2 (by omega) hV
  · exact hV
theorem mi_VR {N : Int} {T A R : Nat → Int} {w : Int} (hV : VR N R) : VR N (miR T A R w) := by
  have hk := kh_rg A w
  unfold miR
  by_cases h0 : 0 ≤ khF A w
  · rw [if_pos h0]; exact wo_VR (by omega) hV
  · rw [if_neg h0]
    (repeat' split)
    · exact wj_VR (fun x hx => VR_3 hx hV) hV
    · exact wj_VR (fun x hx => VR_1 hx hV) hV
    · exact wj_VR (fun x hx => VR_4 hx hV) hV
    · exact md_VR hV
    · exact hV
