def mlF (T : Nat → Int) : Nat → (Nat → Int) → Int → (Nat → Int) → Int → Int × (Nat → Int) × Int × (Nat → Int)
  | 0, A, w, R, i => (i, A, w, R)
  | n + 1, A, w, R, i => if miA T (adF T A) R (adW T A) 5 = 1 ∧ miA T (adF T A) R (adW T A) 1 = 3 ∧ miA T (adF T A) R (adW T A) 4 = 59 then mlF T n (miA T (adF T A) R (adW T A)) (miW T (adF T A) R (adW T A)) (miR T (adF T A) R (adW T A)) (i + 1) else (i + 1, miA T (adF T A) R (adW T A), miW T (adF T A) R (adW T A), miR T (adF T A) R (adW T A))
theorem ml_s (T A R : Nat → Int) (w i : Int) (n : Nat) : mlF T (n + 1) A w R i = if miA T (adF T A) R (adW T A) 5 = 1 ∧ miA T (adF T A) R (adW T A) 1 = 3 ∧ miA T (adF T A) R (adW T A) 4 = 59 then mlF T n (miA T (adF T A) R (adW T A)) (miW T (adF T A) R (adW T A)) (miR T (adF T A) R (adW T A)) (i + 1) else (i + 1, miA T (adF T A) R (adW T A), miW T (adF T A) R (adW T A), miR T (adF T A) R (adW T A)) := rfl
def mtV (M : Int × (Nat → Int) × Int × (Nat → Int)) : Int := if M.2.1 5 = 1 ∧ M.2.1 1 = 0 then M.1 else -1 - M.2.1 2
def mtA (M : Int × (Nat → Int) × Int × (Nat → Int)) : Nat → Int := upR (upR M.2.1 5 (if M.2.1 5 = 1 ∧ M.2.1 1 = 0 then 1 else 0)) 0 0
def mtR (M : Int × (Nat → Int) × Int × (Nat → Int)) (R : Nat → Int) : Nat → Int := if M.2.1 5 = 1 ∧ M.2.1 1 = 0 then M.2.2.2 else R
theorem mt_t {q w : Int} {A R R0 : Nat → Int} {M : Int × (Nat → Int) × Int × (Nat → Int)} (h : (q, A, w, R) = M) (h1 : A 5 = 1 ∧ A 1 = 0) : mtV M = q ∧ mtA M = upR (upR A 5 1) 0 0 ∧ mtR M R0 = R ∧ M.2.2.1 = w := by
  subst h
  refine ⟨if_pos h1, ?_, if_pos h1, rfl⟩
  show upR (upR A 5 (if A 5 = 1 ∧ A 1 = 0 then 1 else 0)) 0 0 = _
  rw [if_pos h1]
theorem mt_f {q w : Int} {A R R0 : Nat → Int} {M : Int × (Nat → Int) × Int × (Nat → Int)} (h : (q, A, w, R) = M) (h1 : ¬ (A 5 = 1 ∧ A 1 = 0)) : mtV M = -1 - A 2 ∧ mtA M = upR (upR A 5 0) 0 0 ∧ mtR M R0 = R0 ∧ M.2.2.1 = w := by
  subst h
  refine ⟨if_neg h1, ?_, if_neg h1, rfl⟩
  show upR (upR A 5 (if A 5 = 1 ∧ A 1 = 0 then 1 else 0)) 0 0 = _
  rw [if_neg h1]
theorem mx_eq {S T : St} {A R : Nat → Int} {w : Int} (h25 : T 25 = A) (h32 : T 32 0 = w) (h3x : ∀ j, j ≠ 0 → T 32 j = S 32 j) (h20 : T 20 = R) (h29 : T 29 = S 20) (ho : ∀ b, b ≠ 25 → b ≠ 32 → b ≠ 20 → b ≠ 29 → T b = S b) : T = setB (setB (up (setB S 25 A) 32 0 w) 20 R) 29 (S 20) := by
  funext b
  by_cases h0 : b = 29
  · subst h0; rw [setB_at, h29]
  · rw [setB_ne _ _ h0]
    by_cases h1 : b = 20
    · subst h1; rw [setB_at, h20]
    · rw [setB_ne _ _ h1]
      by_cases h2 : b = 32
      · subst h2
        rw [up_b]
        funext j
        by_cases hj : j = 0
        · subst hj; rw [upR_at, h32]
        · rw [upR_ne _ _ hj, setB_ne _ _ (by decide), h3x j hj]
      · rw [up_nb _ _ h2]
        by_cases h3 : b = 25
        · subst h3; rw [setB_at, h25]
        · rw [setB_ne _ _ h3, ho b h3 h2 h1 h0]

theorem ad_adv0 {T A : Nat → Int} (h1 : 0 ≤ A 0 ∧ A 0 ≤ 120) (h3 : 0 ≤ A 3 ∧ A 3 ≤ A 0) : Adv (A 3) (adF T A) := by
  have hz := zB_rg (T := T) (n := (A 0).toNat) (p := (A 3).toNat) (by omega)
  have he := te_rg (T := T) hz.2
  refine ⟨?_, fun hs => ?_⟩
  · show A 3 ≤ ((teF T (A 0).toNat (zB T (A 0).toNat (A 3).toNat) : Nat) : Int)
    omega
  · have h4 := he.2.2 (so_0 hs)
    show A 3 < ((teF T (A 0).toNat (zB T (A 0).toNat (A 3).toNat) : Nat) : Int)
    omega
/-- what the text's loop needs of the tape's row -/
def VN (A : Nat → Int) : Prop := (0 ≤ A 0 ∧ A 0 ≤ 120) ∧ (0 ≤ A 3 ∧ A 3 ≤ A 0) ∧ (A 5 = 0 ∨ A 5 = 1)
theorem VM.n {T A : Nat → Int} {w : Int} (h : VM T A w) : VN A := ⟨h.1, ⟨by have h1 := h.2.2.1; omega, h.2.2.2.1⟩, h.2.2.2.2.2.2.1⟩

set_option maxHeartbeats 4000000 in
set_option maxRecDepth 100000 in
theorem c_X7_text (l : Launch) (X : XT) (a : Nat → Nat) (B : Nat) (S : St)  (hV : VR 9999 (S 20)) (hL : 0 ≤ S 25 0 ∧ S 25 0 ≤ 120) (hB : ∀ j, j < 120 → 0 ≤ S 24 j ∧ S 24 j ≤ 255) : CT l X a B 6 yX7_text cX7_text 3 (some .int) [.ref (a (49))] S (Qi X a B (mtV (mlF (S 24) 200 (upR (upR (S 25) 3 0) 5 1) (S 32 0) (S 20) 0)) (setB (setB (up (setB S 25 (mtA (mlF (S 24) 200 (upR (upR (S 25) 3 0) 5 1) (S 32 0) (S 20) 0))) 32 0 ((mlF (S 24) 200 (upR (upR (S 25) 3 0) 5 1) (S 32 0) (S 20) 0).2.2.1)) 20 (mtR (mlF (S 24) 200 (upR (upR (S 25) 3 0) 5 1) (S 32 0) (S 20) 0) (S 20))) 29 (S 20))) := by
  refine CT.of (by decide +kernel) (Nat.le_of_ble_eq_true rfl) ?_
  intro p e s m below meth c ls hC hr hlk hI hl
  have hC : Cx p c cX7_text 3 s m [.ref (a (49))].toArray RX7 X B := hC
  have hl : lv_has ls 3 [(0, .ref (a (49)))] := hl
  refine r_aload_n hC hl dX7_text_0 0 rfl ?_
  refine r_iconst hC dX7_text_1 ?_
  refine r_aload_n hC hl dX7_text_2 0 rfl ?_
  refine g_mo  (v := .ref (a (60))) hC hI 17 (by decide) fl_RX7_41 rfl rfl dX7_text_3 ?_
  refine r_cVv hC hI hl [.int (J 1), .ref (a (60))] [] (c_X7_moveAll1 l X a B S 60 29 (by omega) (fun _ => rfl) (fun _ => rfl) (by omega) rfl) ml_RX7_117 ev_X7_moveAll (rc_mo (S := S) hC hI) ⟨Nat.le_of_ble_eq_true rfl, Nat.le_of_ble_eq_true rfl⟩ ⟨Nat.zero_le _, Nat.zero_le _⟩ (Nat.le_of_ble_eq_true rfl) rfl dX7_text_6 (fun H locs hI => ?_)
  obtain ⟨T, eT⟩ : ∃ z : St, z = setB S 29 (S 20) := ⟨_, rfl⟩
  rw [← eT] at hI
  refine r_aload_n hC hl dX7_text_9 0 rfl ?_
  refine r_iconst hC dX7_text_10 ?_
  refine p_mo8  hC hI fl_RX7_135 dX7_text_11 (fun H locs hI => ?_)
  refine r_aload_n hC hl dX7_text_14 0 rfl ?_
  refine r_iconst hC dX7_text_15 ?_
  refine p_mo11  hC hI (by decide) fl_RX7_182 dX7_text_16 (fun H locs hI => ?_)
  refine r_iconst hC dX7_text_19 ?_
  refine r_istore_n (lv1 := [(1, .int (J 0)), (0, .ref (a (49)))]) hC hl dX7_text_20 1 rfl (by decide) rfl (fun ls hl => ?_)
  refine r_iconst hC dX7_text_21 ?_
  refine r_istore_n (lv1 := [(2, .int (J 1)), (1, .int (J 0)), (0, .ref (a (49)))]) hC hl dX7_text_22 2 rfl (by decide) rfl (fun ls hl => ?_)
  have hL23 : ∀ (fu : Nat) (q : Nat) (g2 : Int) (A1 : Nat → Int) (w1 : Int) (R1 : Nat → Int) (U : St) (x2 x1 : Int), 200 - q < fu → (x2 = g2 + 0) → (x1 = (q : Int)) → (g2 = 1 → (q : Int) ≤ A1 3) → (q ≤ 150) → ((g2 = 1 ∧ mlF (S 24) (200 - q) A1 w1 R1 (q : Int) = mlF (S 24) 200 (upR (upR (S 25) 3 0) 5 1) (S 32 0) (S 20) 0) ∨ (g2 = 0 ∧ ((q : Int), A1, w1, R1) = mlF (S 24) 200 (upR (upR (S 25) 3 0) 5 1) (S 32 0) (S 20) 0 ∧ (0 ≤ A1 1 ∧ A1 1 ≤ 3) ∧ (0 ≤ A1 2 ∧ A1 2 ≤ 120))) → (U = setB (setB (up (setB S 25 (A1)) 32 0 (w1)) 20 (R1)) 29 (S 20)) → (VN A1) → (VR 9999 R1) → ∀ (H : Heap) (locs : List Loc) (ls : Array Slot), IS X a B s (U) H locs → lv_has ls 3 [(2, .int (J x2)), (1, .int (J x1)), (0, .ref (a (49)))] → W p l e (rmD 6) s m [.ref (a (49))].toArray below meth c H locs 0 0 (MQ below (Qi X a B (mtV (mlF (S 24) 200 (upR (upR (S 25) 3 0) 5 1) (S 32 0) (S 20) 0)) (setB (setB (up (setB S 25 (mtA (mlF (S 24) 200 (upR (upR (S 25) 3 0) 5 1) (S 32 0) (S 20) 0))) 32 0 ((mlF (S 24) 200 (upR (upR (S 25) 3 0) 5 1) (S 32 0) (S 20) 0).2.2.1)) 20 (mtR (mlF (S 24) 200 (upR (upR (S 25) 3 0) 5 1) (S 32 0) (S 20) 0) (S 20))) 29 (S 20))) [.ref (a (49))].toArray s 0 0 (fun q => B ≤ q)) (F0 m 23 ls []) := by
    intro fu
    induction fu with
    | zero => intro q g2 A1 w1 R1 U x2 x1 hm; exact absurd hm (Nat.not_lt_zero _)
    | succ fu ih23 =>
      intro q g2 A1 w1 R1 U x2 x1 hm e2 e1 hq hq2 he hU hMA hVR H locs ls hI hl
      subst e2; subst e1
      have UA : U 25 = A1 := by rw [hU, setB_ne _ _ (by decide), setB_ne _ _ (by decide), up_nb _ _ (by decide), setB_at]
      have UW : U 32 0 = w1 := by rw [hU, setB_ne _ _ (by decide), setB_ne _ _ (by decide), up_at]
      have U0 : U 20 = R1 := by rw [hU, setB_ne _ _ (by decide), setB_at]
      have U4 : U 24 = S 24 := by rw [hU, setB_ne _ _ (by decide), setB_ne _ _ (by decide), up_nb _ _ (by decide), setB_ne _ _ (by decide)]
      have U9 : U 29 = S 20 := by rw [hU, setB_at]
      have Ux : ∀ j, j ≠ 0 → U 32 j = S 32 j := fun j hj => by rw [hU, setB_ne _ _ (by decide), setB_ne _ _ (by decide), up_nj _ _ hj, setB_ne _ _ (by decide)]
      have Uo : ∀ b, b ≠ 25 → b ≠ 32 → b ≠ 20 → b ≠ 29 → U b = S b := fun b z1 z2 z3 z4 => by rw [hU, setB_ne _ _ z4, setB_ne _ _ z3, up_nb _ _ z2, setB_ne _ _ z1]
      have UA1 : U 25 1 = A1 1 := by rw [UA]
      have UA2 : U 25 2 = A1 2 := by rw [UA]
      have UA5 : U 25 5 = A1 5 := by rw [UA]
      have hU5 := hMA.2.2
      have hg3 : g2 = 0 ∨ g2 = 1 := by rcases he with h | h; exact Or.inr h.1; exact Or.inl h.1
      refine r_iload_n hC hl dX7_text_23 0 rfl ?_
      refine r_if_eq (tgt := 71) hC (by omega) dX7_text_24 (by decide) (fun c_1 => ?_) (fun c_1 => ?_)
      · skip
        have hML : ((q : Int), A1, w1, R1) = mlF (S 24) 200 (upR (upR (S 25) 3 0) 5 1) (S 32 0) (S 20) 0 ∧ (0 ≤ A1 1 ∧ A1 1 ≤ 3) ∧ (0 ≤ A1 2 ∧ A1 2 ≤ 120) := by
          rcases he with h | h
          · exfalso; omega
          · exact h.2
        obtain ⟨hML, hr1, hr2⟩ := hML
        refine r_aload_n hC hl dX7_text_71 2 rfl ?_
        refine r_aload_n hC hl dX7_text_72 2 rfl ?_
        refine g_mo  (v := .int (J (U 25 5))) hC hI 11 (by decide) fl_RX7_182 rfl rfl dX7_text_73 ?_
        refine r_if_eq (tgt := 90) hC (by omega) dX7_text_76 (by decide) (fun c_2 => ?_) (fun c_2 => ?_)
        · skip
          refine r_iconst hC dX7_text_90 ?_
          refine p_mo11  hC hI (by decide) fl_RX7_182 dX7_text_91 (fun H locs hI => ?_)
          refine r_aload_n hC hl dX7_text_94 2 rfl ?_
          refine r_iconst hC dX7_text_95 ?_
          refine p_mo5  hC hI fl_RX7_131 dX7_text_96 (fun H locs hI => ?_)
          refine r_aload_n hC hl dX7_text_99 2 rfl ?_
          refine g_mo  (v := .int (J 0)) hC hI 11 (by decide) fl_RX7_182 rfl (congrArg (fun z => some (Value.int (J z))) (show (up (up U 25 5 0) 25 0 0) 25 5 = _ by rw [up_nj (b := 25) (j := 0) (c := 25) (i := 5) _ _ (by omega), up_at])) dX7_text_100 ?_
          refine r_if_ne (tgt := 122) hC (by decide) dX7_text_103 (by decide) (fun z => absurd z (by decide)) (fun _ => ?_)
          refine r_aload_n hC hl dX7_text_106 2 rfl ?_
          refine r_iconst hC dX7_text_107 ?_
          refine r_aload_n hC hl dX7_text_108 2 rfl ?_
          refine g_mo  (v := .ref (a (60))) hC hI 17 (by decide) fl_RX7_41 rfl rfl dX7_text_109 ?_
          refine r_cVv hC hI hl [.int (J 0), .ref (a (60))] [] (c_X7_moveAll0 l X a B (up (up U 25 5 0) 25 0 0) 60 29 (by omega) (fun _ => rfl) (fun _ => rfl) (by omega) rfl) ml_RX7_117 ev_X7_moveAll (rc_mo (S := up (up U 25 5 0) 25 0 0) hC hI) ⟨Nat.le_of_ble_eq_true rfl, Nat.le_of_ble_eq_true rfl⟩ ⟨Nat.zero_le _, Nat.zero_le _⟩ (Nat.le_of_ble_eq_true rfl) rfl dX7_text_112 (fun H locs hI => ?_)
          refine r_iconst hC dX7_text_115 ?_
          refine r_aload_n hC hl dX7_text_116 2 rfl ?_
          refine g_mo  (v := .int (J ((setB (up (up U 25 5 0) 25 0 0) 20 ((up (up U 25 5 0) 25 0 0) 29)) 25 2))) hC hI 7 (by decide) fl_RX7_138 rfl rfl dX7_text_117 ?_
          refine r_isub hC dX7_text_120 ?_
          exact r_iret hC hr hlk hI (by rw [setB_ne _ _ (by decide), up_nj _ _ (by decide), up_nj _ _ (by decide), UA2]; exact (mt_f (R0 := S 20) hML (by omega)).1.symm) (mx_eq (by rw [setB_ne _ _ (by decide), up_b, up_b, UA]; exact (mt_f (R0 := S 20) hML (by omega)).2.1.symm) (by rw [setB_ne _ _ (by decide), up_nb _ _ (by decide), up_nb _ _ (by decide), UW]; exact (mt_f (R0 := S 20) hML (by omega)).2.2.2.symm) (fun j hj => by rw [setB_ne _ _ (by decide), up_nb _ _ (by decide), up_nb _ _ (by decide), Ux j hj]) (by rw [setB_at, up_nb _ _ (by decide), up_nb _ _ (by decide), U9]; exact (mt_f (R0 := S 20) hML (by omega)).2.2.1.symm) (by rw [setB_ne _ _ (by decide), up_nb _ _ (by decide), up_nb _ _ (by decide), U9]) (fun b z1 z2 z3 z4 => by rw [setB_ne _ _ z3, up_nb _ _ z1, up_nb _ _ z1, Uo b z1 z2 z3 z4])) dX7_text_121
        · skip
          refine r_aload_n hC hl dX7_text_79 2 rfl ?_
          refine g_mo  (v := .int (J (U 25 1))) hC hI 6 (by decide) fl_RX7_150 rfl rfl dX7_text_80 ?_
          refine r_if_ne (tgt := 90) hC (by omega) dX7_text_83 (by decide) (fun c_4 => ?_) (fun c_4 => ?_)
          · skip
            refine r_iconst hC dX7_text_90 ?_
            refine p_mo11  hC hI (by decide) fl_RX7_182 dX7_text_91 (fun H locs hI => ?_)
            refine r_aload_n hC hl dX7_text_94 2 rfl ?_
            refine r_iconst hC dX7_text_95 ?_
            refine p_mo5  hC hI fl_RX7_131 dX7_text_96 (fun H locs hI => ?_)
            refine r_aload_n hC hl dX7_text_99 2 rfl ?_
            refine g_mo  (v := .int (J 0)) hC hI 11 (by decide) fl_RX7_182 rfl (congrArg (fun z => some (Value.int (J z))) (show (up (up U 25 5 0) 25 0 0) 25 5 = _ by rw [up_nj (b := 25) (j := 0) (c := 25) (i := 5) _ _ (by omega), up_at])) dX7_text_100 ?_
            refine r_if_ne (tgt := 122) hC (by decide) dX7_text_103 (by decide) (fun z => absurd z (by decide)) (fun _ => ?_)
            refine r_aload_n hC hl dX7_text_106 2 rfl ?_
            refine r_iconst hC dX7_text_107 ?_
            refine r_aload_n hC hl dX7_text_108 2 rfl ?_
            refine g_mo  (v := .ref (a (60))) hC hI 17 (by decide) fl_RX7_41 rfl rfl dX7_text_109 ?_
            refine r_cVv hC hI hl [.int (J 0), .ref (a (60))] [] (c_X7_moveAll0 l X a B (up (up U 25 5 0) 25 0 0) 60 29 (by omega) (fun _ => rfl) (fun _ => rfl) (by omega) rfl) ml_RX7_117 ev_X7_moveAll (rc_mo (S := up (up U 25 5 0) 25 0 0) hC hI) ⟨Nat.le_of_ble_eq_true rfl, Nat.le_of_ble_eq_true rfl⟩ ⟨Nat.zero_le _, Nat.zero_le _⟩ (Nat.le_of_ble_eq_true rfl) rfl dX7_text_112 (fun H locs hI => ?_)
            refine r_iconst hC dX7_text_115 ?_
            refine r_aload_n hC hl dX7_text_116 2 rfl ?_
            refine g_mo  (v := .int (J ((setB (up (up U 25 5 0) 25 0 0) 20 ((up (up U 25 5 0) 25 0 0) 29)) 25 2))) hC hI 7 (by decide) fl_RX7_138 rfl rfl dX7_text_117 ?_
            refine r_isub hC dX7_text_120 ?_
            exact r_iret hC hr hlk hI (by rw [setB_ne _ _ (by decide), up_nj _ _ (by decide), up_nj _ _ (by decide), UA2]; exact (mt_f (R0 := S 20) hML (by omega)).1.symm) (mx_eq (by rw [setB_ne _ _ (by decide), up_b, up_b, UA]; exact (mt_f (R0 := S 20) hML (by omega)).2.1.symm) (by rw [setB_ne _ _ (by decide), up_nb _ _ (by decide), up_nb _ _ (by decide), UW]; exact (mt_f (R0 := S 20) hML (by omega)).2.2.2.symm) (fun j hj => by rw [setB_ne _ _ (by decide), up_nb _ _ (by decide), up_nb _ _ (by decide), Ux j hj]) (by rw [setB_at, up_nb _ _ (by decide), up_nb _ _ (by decide), U9]; exact (mt_f (R0 := S 20) hML (by omega)).2.2.1.symm) (by rw [setB_ne _ _ (by decide), up_nb _ _ (by decide), up_nb _ _ (by decide), U9]) (fun b z1 z2 z3 z4 => by rw [setB_ne _ _ z3, up_nb _ _ z1, up_nb _ _ z1, Uo b z1 z2 z3 z4])) dX7_text_121
          · skip
            refine r_iconst hC dX7_text_86 ?_
            refine r_goto (tgt := 91) hC dX7_text_87 (by decide) ?_
            refine p_mo11  hC hI (by decide) fl_RX7_182 dX7_text_91 (fun H locs hI => ?_)
            refine r_aload_n hC hl dX7_text_94 2 rfl ?_
            refine r_iconst hC dX7_text_95 ?_
            refine p_mo5  hC hI fl_RX7_131 dX7_text_96 (fun H locs hI => ?_)
            refine r_aload_n hC hl dX7_text_99 2 rfl ?_
            refine g_mo  (v := .int (J 1)) hC hI 11 (by decide) fl_RX7_182 rfl (congrArg (fun z => some (Value.int (J z))) (show (up (up U 25 5 1) 25 0 0) 25 5 = _ by rw [up_nj (b := 25) (j := 0) (c := 25) (i := 5) _ _ (by omega), up_at])) dX7_text_100 ?_
            refine r_if_ne (tgt := 122) hC (by decide) dX7_text_103 (by decide) (fun _ => ?_) (fun z => absurd z (by decide))
            refine r_iload_n hC hl dX7_text_122 1 rfl ?_
            exact r_iret hC hr hlk hI ((mt_t (R0 := S 20) hML (by omega)).1.symm) (mx_eq (by rw [up_b, up_b, UA]; exact (mt_t (R0 := S 20) hML (by omega)).2.1.symm) (by rw [up_nb _ _ (by decide), up_nb _ _ (by decide), UW]; exact (mt_t (R0 := S 20) hML (by omega)).2.2.2.symm) (fun j hj => by rw [up_nb _ _ (by decide), up_nb _ _ (by decide), Ux j hj]) (by rw [up_nb _ _ (by decide), up_nb _ _ (by decide), U0]; exact (mt_t (R0 := S 20) hML (by omega)).2.2.1.symm) (by rw [up_nb _ _ (by decide), up_nb _ _ (by decide), U9]) (fun b z1 z2 z3 z4 => by rw [up_nb _ _ z1, up_nb _ _ z1, Uo b z1 z2 z3 z4])) dX7_text_123
      · skip
        have hml : mlF (S 24) (200 - q) A1 w1 R1 (q : Int) = mlF (S 24) 200 (upR (upR (S 25) 3 0) 5 1) (S 32 0) (S 20) 0 := by
          rcases he with h | h
          · exact h.2
          · exfalso; omega
        have hqa := hq (by omega)
        have hMA0 := hMA.1
        have hMA3 := hMA.2.1
        refine r_aload_n hC hl dX7_text_27 2 rfl ?_
        refine r_cVv hC hI hl [] [] (c_X7_advance l X a B U  (by rw [UA]; exact hMA.1) (by rw [UA]; exact hMA.2.1) (by rw [U4]; exact hB)) ml_RX7_186 ev_X7_advance (rc_mo (S := U) hC hI) ⟨Nat.le_of_ble_eq_true rfl, Nat.le_of_ble_eq_true rfl⟩ ⟨Nat.zero_le _, Nat.zero_le _⟩ (Nat.le_of_ble_eq_true rfl) rfl dX7_text_28 (fun H locs hI => ?_)
        obtain ⟨Y1, eY1⟩ : ∃ z : St, z = up (setB U 25 (adF (U 24) (U 25))) 32 0 (adW (U 24) (U 25)) := ⟨_, rfl⟩
        rw [← eY1] at hI
        have Y1A : Y1 25 = adF (S 24) A1 := by rw [eY1, up_nb _ _ (by decide), setB_at, U4, UA]
        have Y1W : Y1 32 0 = adW (S 24) A1 := by rw [eY1, up_at, U4, UA]
        have Y14 : Y1 24 = S 24 := by rw [eY1, up_nb _ _ (by decide), setB_ne _ _ (by decide), U4]
        have Y10 : Y1 20 = R1 := by rw [eY1, up_nb _ _ (by decide), setB_ne _ _ (by decide), U0]
        have Y1M : VM (Y1 24) (Y1 25) (Y1 32 0) := by rw [Y14, Y1A, Y1W]; exact ad_VM hMA.1 hMA.2.1 hB hMA.2.2
        refine r_aload_n hC hl dX7_text_31 2 rfl ?_
        refine r_cVv hC hI hl [] [] (c_X7_wantItem l X a B Y1  (by rw [Y10]; exact hVR) Y1M) ml_RX7_212 ev_X7_wantItem (rc_mo (S := Y1) hC hI) ⟨Nat.le_of_ble_eq_true rfl, Nat.le_of_ble_eq_true rfl⟩ ⟨Nat.zero_le _, Nat.zero_le _⟩ (Nat.le_of_ble_eq_true rfl) rfl dX7_text_32 (fun H locs hI => ?_)
        obtain ⟨Y2, eY2⟩ : ∃ z : St, z = setB (up (setB Y1 25 (miA (Y1 24) (Y1 25) (Y1 20) (Y1 32 0))) 32 0 (miW (Y1 24) (Y1 25) (Y1 20) (Y1 32 0))) 20 (miR (Y1 24) (Y1 25) (Y1 20) (Y1 32 0)) := ⟨_, rfl⟩
        rw [← eY2] at hI
        have Y2A : Y2 25 = miA (S 24) (adF (S 24) A1) R1 (adW (S 24) A1) := by rw [eY2, setB_ne _ _ (by decide), up_nb _ _ (by decide), setB_at, Y14, Y1A, Y10, Y1W]
        have hY : Y2 = setB (setB (up (setB S 25 (miA (S 24) (adF (S 24) A1) R1 (adW (S 24) A1))) 32 0 (miW (S 24) (adF (S 24) A1) R1 (adW (S 24) A1))) 20 (miR (S 24) (adF (S 24) A1) R1 (adW (S 24) A1))) 29 (S 20) := mx_eq Y2A (by rw [eY2, setB_ne _ _ (by decide), up_at, Y14, Y1A, Y10, Y1W]) (fun j hj => by rw [eY2, setB_ne _ _ (by decide), up_nj _ _ hj, setB_ne _ _ (by decide), eY1, up_nj _ _ hj, setB_ne _ _ (by decide), Ux j hj]) (by rw [eY2, setB_at, Y14, Y1A, Y10, Y1W]) (by rw [eY2, setB_ne _ _ (by decide), up_nb _ _ (by decide), setB_ne _ _ (by decide), eY1, up_nb _ _ (by decide), setB_ne _ _ (by decide), U9]) (fun b z1 z2 z3 z4 => by rw [eY2, setB_ne _ _ z3, up_nb _ _ z2, setB_ne _ _ z1, eY1, up_nb _ _ z2, setB_ne _ _ z1, Uo b z1 z2 z3 z4])
        have hM2 : VM (S 24) (miA (S 24) (adF (S 24) A1) R1 (adW (S 24) A1)) (miW (S 24) (adF (S 24) A1) R1 (adW (S 24) A1)) := mi_VM (ad_VM hMA.1 hMA.2.1 hB hMA.2.2)
        have hAd : Adv (A1 3) (miA (S 24) (adF (S 24) A1) R1 (adW (S 24) A1)) := mi_adv (ad_VM hMA.1 hMA.2.1 hB hMA.2.2) (ad_adv0 hMA.1 hMA.2.1)
        obtain ⟨hm0, hm1, hm2, hm3, hm4, hmB, hm5, hmw⟩ := id hM2
        have hAd1 := hAd.1
        have hAd2 := hAd.2
        have y1 : Y2 25 1 = miA (S 24) (adF (S 24) A1) R1 (adW (S 24) A1) 1 := by rw [Y2A]
        have y3 : Y2 25 3 = miA (S 24) (adF (S 24) A1) R1 (adW (S 24) A1) 3 := by rw [Y2A]
        have y4 : Y2 25 4 = miA (S 24) (adF (S 24) A1) R1 (adW (S 24) A1) 4 := by rw [Y2A]
        have y5 : Y2 25 5 = miA (S 24) (adF (S 24) A1) R1 (adW (S 24) A1) 5 := by rw [Y2A]
        refine r_iinc (lv1 := [(1, .int (J ((q : Int) + 1))), (2, .int (J (g2 + 0))), (0, .ref (a (49)))]) hC hl dX7_text_35 1 rfl (by decide) rfl (fun ls hl => ?_)
        refine r_aload_n hC hl dX7_text_38 2 rfl ?_
        refine g_mo  (v := .int (J (Y2 25 5))) hC hI 11 (by decide) fl_RX7_182 rfl rfl dX7_text_39 ?_
        refine r_if_eq (tgt := 66) hC (by omega) dX7_text_42 (by decide) (fun c_7 => ?_) (fun c_7 => ?_)
        · skip
          refine r_iconst hC dX7_text_66 ?_
          refine r_istore_n (lv1 := [(2, .int (J 0)), (1, .int (J ((q : Int) + 1))), (0, .ref (a (49)))]) hC hl dX7_text_67 2 rfl (by decide) rfl (fun ls hl => ?_)
          refine r_goto (tgt := 23) hC dX7_text_68 (by decide) ?_
          exact ih23 (q + 1) 0 (miA (S 24) (adF (S 24) A1) R1 (adW (S 24) A1)) (miW (S 24) (adF (S 24) A1) R1 (adW (S 24) A1)) (miR (S 24) (adF (S 24) A1) R1 (adW (S 24) A1)) _ 0 ((q : Int) + 1) (by omega) (by omega) (by omega) (fun z => absurd z (by decide)) (by omega) (Or.inr ⟨rfl, by rw [← hml, show 200 - q = (200 - (q + 1)) + 1 by omega, ml_s, if_neg (by omega)]; rfl, by omega, by omega⟩) hY hM2.n (mi_VR hVR) _ _ _ hI (lv_sub hl [0, 1, 2] rfl)
        · skip
          refine r_aload_n hC hl dX7_text_45 2 rfl ?_
          refine g_mo  (v := .int (J (Y2 25 1))) hC hI 6 (by decide) fl_RX7_150 rfl rfl dX7_text_46 ?_
          refine r_iconst hC dX7_text_49 ?_
          refine r_icmp_ne (tgt := 66) hC (by omega) (by omega) dX7_text_50 (by decide) (fun c_8 => ?_) (fun c_8 => ?_)
          · skip
            refine r_iconst hC dX7_text_66 ?_
            refine r_istore_n (lv1 := [(2, .int (J 0)), (1, .int (J ((q : Int) + 1))), (0, .ref (a (49)))]) hC hl dX7_text_67 2 rfl (by decide) rfl (fun ls hl => ?_)
            refine r_goto (tgt := 23) hC dX7_text_68 (by decide) ?_
            exact ih23 (q + 1) 0 (miA (S 24) (adF (S 24) A1) R1 (adW (S 24) A1)) (miW (S 24) (adF (S 24) A1) R1 (adW (S 24) A1)) (miR (S 24) (adF (S 24) A1) R1 (adW (S 24) A1)) _ 0 ((q : Int) + 1) (by omega) (by omega) (by omega) (fun z => absurd z (by decide)) (by omega) (Or.inr ⟨rfl, by rw [← hml, show 200 - q = (200 - (q + 1)) + 1 by omega, ml_s, if_neg (by omega)]; rfl, by omega, by omega⟩) hY hM2.n (mi_VR hVR) _ _ _ hI (lv_sub hl [0, 1, 2] rfl)
          · skip
            refine r_aload_n hC hl dX7_text_53 2 rfl ?_
            refine g_mo  (v := .int (J (Y2 25 4))) hC hI 10 (by decide) fl_RX7_157 rfl rfl dX7_text_54 ?_
            refine r_bipush hC (by decide) dX7_text_57 ?_
            refine r_icmp_ne (tgt := 66) hC (by omega) (by omega) dX7_text_59 (by decide) (fun c_9 => ?_) (fun c_9 => ?_)
            · skip
              refine r_iconst hC dX7_text_66 ?_
              refine r_istore_n (lv1 := [(2, .int (J 0)), (1, .int (J ((q : Int) + 1))), (0, .ref (a (49)))]) hC hl dX7_text_67 2 rfl (by decide) rfl (fun ls hl => ?_)
              refine r_goto (tgt := 23) hC dX7_text_68 (by decide) ?_
              exact ih23 (q + 1) 0 (miA (S 24) (adF (S 24) A1) R1 (adW (S 24) A1)) (miW (S 24) (adF (S 24) A1) R1 (adW (S 24) A1)) (miR (S 24) (adF (S 24) A1) R1 (adW (S 24) A1)) _ 0 ((q : Int) + 1) (by omega) (by omega) (by omega) (fun z => absurd z (by decide)) (by omega) (Or.inr ⟨rfl, by rw [← hml, show 200 - q = (200 - (q + 1)) + 1 by omega, ml_s, if_neg (by omega)]; rfl, by omega, by omega⟩) hY hM2.n (mi_VR hVR) _ _ _ hI (lv_sub hl [0, 1, 2] rfl)
            · skip
              refine r_iconst hC dX7_text_62 ?_
              refine r_goto (tgt := 67) hC dX7_text_63 (by decide) ?_
              refine r_istore_n (lv1 := [(2, .int (J 1)), (1, .int (J ((q : Int) + 1))), (0, .ref (a (49)))]) hC hl dX7_text_67 2 rfl (by decide) rfl (fun ls hl => ?_)
              refine r_goto (tgt := 23) hC dX7_text_68 (by decide) ?_
              exact ih23 (q + 1) 1 (miA (S 24) (adF (S 24) A1) R1 (adW (S 24) A1)) (miW (S 24) (adF (S 24) A1) R1 (adW (S 24) A1)) (miR (S 24) (adF (S 24) A1) R1 (adW (S 24) A1)) _ 1 ((q : Int) + 1) (by omega) (by omega) (by omega) (fun _ => by omega) (by omega) (Or.inl ⟨rfl, by rw [← hml, show 200 - q = (200 - (q + 1)) + 1 by omega, ml_s, if_pos (by omega)]; rfl⟩) hY hM2.n (mi_VR hVR) _ _ _ hI (lv_sub hl [0, 1, 2] rfl)
  exact hL23 _ 0 1 (upR (upR (S 25) 3 0) 5 1) (S 32 0) (S 20) _ 1 0 (Nat.lt_succ_self _) (by omega) (by omega) (fun _ => by show (0 : Int) ≤ 0; decide) (by omega) (Or.inl ⟨rfl, rfl⟩) (mx_eq (by rw [up_b, up_b, eT, setB_ne _ _ (by decide)]) (by rw [up_nb _ _ (by decide), up_nb _ _ (by decide), eT, setB_ne _ _ (by decide)]) (fun j hj => by rw [up_nb _ _ (by decide), up_nb _ _ (by decide), eT, setB_ne _ _ (by decide)]) (by rw [up_nb _ _ (by decide), up_nb _ _ (by decide), eT, setB_ne _ _ (by decide)]) (by rw [up_nb _ _ (by decide), up_nb _ _ (by decide), eT, setB_at]) (fun b z1 z2 z3 z4 => by rw [up_nb _ _ z1, up_nb _ _ z1, eT, setB_ne _ _ z4])) ⟨hL, ⟨by show (0 : Int) ≤ 0; decide, by show (0 : Int) ≤ S 25 0; exact hL.1⟩, Or.inr rfl⟩ hV _ _ _ hI (lv_sub hl [0, 1, 2] rfl)

set_option maxHeartbeats 4000000 in
set_option maxRecDepth 100000 in
theorem c_X7_wipe (l : Launch) (X : XT) (a : Nat → Nat) (B : Nat) (S : St)   : CT l X a B 0 yX7_wipe cX7_wipe 2 (some .int) [.ref (a (49))] S (Qi X a B (S 25 0) (up S 25 0 0)) := by
  refine CT.of (by decide +kernel) (Nat.le_of_ble_eq_true rfl) ?_
  intro p e s m below meth c ls hC hr hlk hI hl
  have hC : Cx p c cX7_wipe 2 s m [.ref (a (49))].toArray RX7 X B := hC
  have hl : lv_has ls 2 [(0, .ref (a (49)))] := hl
  refine r_aload_n hC hl dX7_wipe_0 0 rfl ?_
  refine g_mo  (v := .int (J (S 25 0))) hC hI 5 (by decide) fl_RX7_131 rfl rfl dX7_wipe_1 ?_
  refine r_istore_n (lv1 := [(1, .int (J (S 25 0))), (0, .ref (a (49)))]) hC hl dX7_wipe_4 1 rfl (by decide) rfl (fun ls hl => ?_)
  refine r_aload_n hC hl dX7_wipe_5 1 rfl ?_
  refine r_iconst hC dX7_wipe_6 ?_
  refine p_mo5  hC hI fl_RX7_131 dX7_wipe_7 (fun H locs hI => ?_)
  refine r_iload_n hC hl dX7_wipe_10 0 rfl ?_
  exact r_iret hC hr hlk hI (rfl) (rfl) dX7_wipe_11

set_option maxHeartbeats 4000000 in
set_option maxRecDepth 100000 in
theorem c_X7_feed (l : Launch) (X : XT) (a : Nat → Nat) (B : Nat) (S : St) (w : Int) (v : Int) (hV : VR 9999 (S 20)) (hw : -2147483648 ≤ w ∧ w ≤ 2147483647) (hv : -2147483648 ≤ v ∧ v ≤ 2147483647) (hL : 0 ≤ S 25 0 ∧ S 25 0 ≤ 120) : CT l X a B 1 yX7_feed cX7_feed 4 (some .int) [.ref (a (49)), .int (J w), .int (J v)] S (Qi X a B (anF (if ¬ (1 ≤ v ∧ v ≤ 4) then 0 else if 120 < S 25 0 + v then 1 else -1) (S 25 0 + v)) (fnF S 21 (if ¬ (1 ≤ v ∧ v ≤ 4) then 0 else if 120 < S 25 0 + v then 1 else -1) (up (setB S 24 (sgF (S 24) (fun z => byF w (8 * (v - 1 - (z : Int)))) (S 25 0).toNat (v.toNat))) 25 0 (S 25 0 + v)))) := by
  refine CT.of (by decide +kernel) (Nat.le_of_ble_eq_true rfl) ?_
  intro p e s m below meth c ls hC hr hlk hI hl
  have hC : Cx p c cX7_feed 4 s m [.ref (a (49)), .int (J w), .int (J v)].toArray RX7 X B := hC
  have hl : lv_has ls 4 [(0, .ref (a (49))), (1, .int (J w)), (2, .int (J v))] := hl
  obtain ⟨⟨hN, hBr, hBu, hIn, hLa, hPc⟩, hDk, hPg⟩ := id hV
  refine r_iload_n hC hl dX7_feed_0 2 rfl ?_
  refine r_iconst hC dX7_feed_1 ?_
  refine r_iconst hC dX7_feed_2 ?_
  refine r_cSi hC hI hl [.int (J v), .int (J 1), .int (J 4)] [] (c_X7_in l X a B S v 1 4 (by omega) (by omega) (by omega)) ml_RX7_45 es_X7_in ⟨Nat.le_of_ble_eq_true rfl, Nat.le_of_ble_eq_true rfl⟩ ⟨Nat.zero_le _, Nat.zero_le _⟩ (Nat.le_of_ble_eq_true rfl) rfl dX7_feed_3 (fun H locs hI => ?_)
  refine r_b_ne (tgt := 16) hC dX7_feed_6 (by decide) (fun c_1 => ?_) (fun c_1 => ?_)
  · skip
    refine r_aload_n hC hl dX7_feed_16 0 rfl ?_
    refine g_mo  (v := .int (J (S 25 0))) hC hI 5 (by decide) fl_RX7_131 rfl rfl dX7_feed_17 ?_
    refine r_iload_n hC hl dX7_feed_20 2 rfl ?_
    refine r_iadd hC dX7_feed_21 ?_
    refine r_bipush hC (by decide) dX7_feed_22 ?_
    refine r_icmp_le (tgt := 34) hC (by omega) (by omega) dX7_feed_24 (by decide) (fun c_2 => ?_) (fun c_2 => ?_)
    · skip
      refine r_iload_n hC hl dX7_feed_34 2 rfl ?_
      refine r_iconst hC dX7_feed_35 ?_
      refine r_isub hC dX7_feed_36 ?_
      refine r_istore_n (lv1 := [(3, .int (J (v - 1))), (0, .ref (a (49))), (1, .int (J w)), (2, .int (J v))]) hC hl dX7_feed_37 3 rfl (by decide) rfl (fun ls hl => ?_)
      have hL38 : ∀ (fu : Nat) (q : Nat) (T : St) (x3 : Int), v.toNat - q < fu → (x3 = v - 1 - (q : Int)) → (q ≤ v.toNat) → (T = up (setB S 24 (sgF (S 24) (fun z => byF w (8 * (v - 1 - (z : Int)))) (S 25 0).toNat (q))) 25 0 (S 25 0 + ((q : Nat) : Int))) → ∀ (H : Heap) (locs : List Loc) (ls : Array Slot), IS X a B s (T) H locs → lv_has ls 4 [(3, .int (J x3)), (0, .ref (a (49))), (1, .int (J w)), (2, .int (J v))] → W p l e (rmD 1) s m [.ref (a (49)), .int (J w), .int (J v)].toArray below meth c H locs 0 0 (MQ below (Qi X a B (anF (if ¬ (1 ≤ v ∧ v ≤ 4) then 0 else if 120 < S 25 0 + v then 1 else -1) (S 25 0 + v)) (fnF S 21 (if ¬ (1 ≤ v ∧ v ≤ 4) then 0 else if 120 < S 25 0 + v then 1 else -1) (up (setB S 24 (sgF (S 24) (fun z => byF w (8 * (v - 1 - (z : Int)))) (S 25 0).toNat (v.toNat))) 25 0 (S 25 0 + v)))) [.ref (a (49)), .int (J w), .int (J v)].toArray s 0 0 (fun q => B ≤ q)) (F0 m 38 ls []) := by
        intro fu
        induction fu with
        | zero => intro q T x3 hm; exact absurd hm (Nat.not_lt_zero _)
        | succ fu ih38 =>
          intro q T x3 hm e3 hq hT H locs ls hI hl
          subst e3
          have t0 : T 25 0 = S 25 0 + (q : Int) := by rw [hT, up_at]
          refine r_iload_n hC hl dX7_feed_38 0 rfl ?_
          refine r_if_lt (tgt := 77) hC (by omega) dX7_feed_39 (by decide) (fun c_3 => ?_) (fun c_3 => ?_)
          · skip
            refine r_aload_n hC hl dX7_feed_77 1 rfl ?_
            refine g_mo  (v := .int (J (T 25 0))) hC hI 5 (by decide) fl_RX7_131 rfl rfl dX7_feed_78 ?_
            refine r_as (y := S 25 0 + v) hC (by rw [t0]; omega) ?_
            exact r_iret hC hr hlk hI (an_n (by (repeat' split) <;> first | rfl | omega) (rfl)) (fn_n (by (repeat' split) <;> first | rfl | omega) (by rw [hT, show q = v.toNat by omega, show ((v.toNat : Nat) : Int) = v by omega])) dX7_feed_81
          · skip
            refine r_aload_n hC hl dX7_feed_42 1 rfl ?_
            refine g_mo  (v := .ref (a (54))) hC hI 4 (by decide) fl_RX7_22 rfl rfl dX7_feed_43 ?_
            refine r_aload_n hC hl dX7_feed_46 1 rfl ?_
            refine g_mo  (v := .int (J (T 25 0))) hC hI 5 (by decide) fl_RX7_131 rfl rfl dX7_feed_47 ?_
            refine r_iload_n hC hl dX7_feed_50 2 rfl ?_
            refine r_bipush hC (by decide) dX7_feed_51 ?_
            refine r_iload_n hC hl dX7_feed_53 0 rfl ?_
            refine r_imul hC dX7_feed_54 ?_
            refine r_shy hC dX7_feed_55 ?_
            refine r_sipush hC (by decide) dX7_feed_56 ?_
            refine r_by hC dX7_feed_59 ?_
            refine r_iast (cx := 54) (n := 120) (F := fun S => S 24) hC hI (by decide) (fun _ => rfl) (by decide) ((T 25 0).toNat) (by omega) (by omega) (b := 24) (j := (T 25 0).toNat) rfl (fun q => by simp [up, setB, upR]) dX7_feed_60 (fun H locs hI => ?_)
            refine r_aload_n hC hl dX7_feed_61 1 rfl ?_
            refine r_dup hC rfl dX7_feed_62 ?_
            refine g_mo  (v := .int (J (T 25 0))) hC hI 5 (by decide) fl_RX7_131 rfl (congrArg (fun z => some (Value.int (J z))) (show (up T 24 ((T 25 0).toNat) (byF w (8 * (v - 1 - (q : Int))))) 25 0 = _ by rw [up_nb (b := 24) (j := (T 25 0).toNat) (c := 25) _ _ (by omega)])) dX7_feed_63 ?_
            refine r_iconst hC dX7_feed_66 ?_
            refine r_iadd hC dX7_feed_67 ?_
            refine p_mo5  hC hI fl_RX7_131 dX7_feed_68 (fun H locs hI => ?_)
            refine r_iinc (lv1 := [(3, .int (J (v - 1 - (q : Int) + (-1)))), (0, .ref (a (49))), (1, .int (J w)), (2, .int (J v))]) hC hl dX7_feed_71 0 rfl (by decide) rfl (fun ls hl => ?_)
            refine r_goto (tgt := 38) hC dX7_feed_74 (by decide) ?_
            exact ih38 (q + 1) _ (v - 1 - (q : Int) + (-1)) (by omega) (by omega) (by omega) (by rw [show (T 25 0).toNat = (S 25 0).toNat + q by omega, t0, show S 25 0 + (q : Int) + 1 = S 25 0 + ((q + 1 : Nat) : Int) by omega]; exact fe_nx (by decide) hT rfl) _ _ _ hI (lv_sub hl [0, 1, 2, 3] rfl)
      exact hL38 _ 0 S (v - 1) (Nat.lt_succ_self _) (by omega) (by omega) (by rw [sg_0, setB_self]; exact up_se (by omega)) _ _ _ hI (lv_sub hl [0, 1, 2, 3] rfl)
    · skip
      refine r_aload_n hC hl dX7_feed_27 0 rfl ?_
      refine r_ldc (x := (-1000000002)) hC ct_RX7_94 (by decide) dX7_feed_28 ?_
      refine r_cVi hC hI hl [.int (J (-1000000002))] [] (c_X7_finds1 l X a B S  ) ml_RX7_57 ev_X7_finds (rc_mo (S := S) hC hI) ⟨Nat.le_of_ble_eq_true rfl, Nat.le_of_ble_eq_true rfl⟩ ⟨Nat.zero_le _, Nat.zero_le _⟩ (Nat.le_of_ble_eq_true rfl) rfl dX7_feed_30 (fun H locs hI => ?_)
      exact r_iret hC hr hlk hI (an_f 1 (by (repeat' split) <;> first | rfl | omega)) (fn_f 1 (by (repeat' split) <;> first | rfl | omega)) dX7_feed_33
  · skip
    refine r_aload_n hC hl dX7_feed_9 0 rfl ?_
    refine r_ldc (x := (-1000000001)) hC ct_RX7_44 (by decide) dX7_feed_10 ?_
    refine r_cVi hC hI hl [.int (J (-1000000001))] [] (c_X7_finds0 l X a B S  ) ml_RX7_57 ev_X7_finds (rc_mo (S := S) hC hI) ⟨Nat.le_of_ble_eq_true rfl, Nat.le_of_ble_eq_true rfl⟩ ⟨Nat.zero_le _, Nat.zero_le _⟩ (Nat.le_of_ble_eq_true rfl) rfl dX7_feed_12 (fun H locs hI => ?_)
    exact r_iret hC hr hlk hI (an_f 0 (by (repeat' split) <;> first | rfl | omega)) (fn_f 0 (by (repeat' split) <;> first | rfl | omega)) dX7_feed_15
