abbrev shO (n : Nat) : va_E := .inr (2, [.int (J 0), .int (J 0), .ref n])
def shW (X : XT) (ss : List (Nat × Nat)) : va_W := ss.flatMap (fun z => [(z.1, shO z.2), (z.2, arL X 40 (fun _ => 0))])
theorem sh_app (X : XT) (ss : List (Nat × Nat)) (z n : Nat) : shW X (ss ++ [(z, n)]) = shW X ss ++ [(z, shO n), (n, arL X 40 (fun _ => 0))] := by
  unfold shW
  rw [List.flatMap_append]
  rfl
/-- all cells of the class -/
def inW (X : XT) (h0 : Nat) : Nat × (Nat × (Nat × Nat × Nat × List Nat)) × (Nat × (Nat × Nat × Nat × List Nat)) × (Nat × (Nat × Nat × Nat × List Nat)) × (Nat × Nat) × Nat × List (Nat × Nat) → va_W
  | (qf, (h1, u1), (h2, u2), (h3, u3), (h4, u4), sa, ss) => ([(h0, .inr (4, [.ref qf, .ref h1, .ref h2, .ref h3, .ref h4, .ref sa, .int (J 0)])), (qf, arI X 7 (fun _ => 0))] ++ (((scW X h1 u1 ++ scW X h2 u2) ++ scW X h3 u3) ++ [(h4, .inr (3, [.int (J 0), .int (J 0), .int (J 0), .int (J 0), .int (J 0), .ref u4])), (u4, arI X 120 (fun _ => 0))])) ++ ((sa, arQ X.2.1.2.2.2 4 (fun j => (ss.map Prod.fst)[j]?)) :: shW X ss)
def inO : Nat × (Nat × (Nat × Nat × Nat × List Nat)) × (Nat × (Nat × Nat × Nat × List Nat)) × (Nat × (Nat × Nat × Nat × List Nat)) × (Nat × Nat) × Nat × List (Nat × Nat) → Prop
  | (_, (_, u1), (_, u2), (_, u3), _, _, ss) => u1.2.2.2.length = 8 ∧ u2.2.2.2.length = 8 ∧ u3.2.2.2.length = 8 ∧ ss.length = 4

set_option maxHeartbeats 4000000 in
set_option maxRecDepth 100000 in
theorem k_X6 (l : Launch) (X : XT) (B : Nat) (h0 : Nat) (Wl : va_W) : GT l X B 3 61 48 540 yX6_init cX6_init 2 h0 Wl (.inr (4, [.null, .null, .null, .null, .null, .null, .int (J 0)])) (fun u => inO u) (fun u => inW X h0 u) := by
  refine GT.of (by decide +kernel) rfl (by decide) ?_
  intro p e s m below meth c ls hC hr hlk hnm hKI hsz hI hl
  have hC : Cx p c cX6_init 2 s m [Value.ref h0].toArray RX6 X B := hC
  refine r_aload_n hC hl dX6_init_0 0 rfl ?_
  refine g_obj hC hl ml_RX6_1 ⟨(Nat.le_of_ble_eq_true rfl), (Nat.le_of_ble_eq_true rfl)⟩ (by decide) dX6_init_1 ?_
  refine r_aload_n hC hl dX6_init_4 0 rfl ?_
  refine r_bipush hC (by decide) dX6_init_5 ?_
  refine g_newI hC hsz hI 7 (by decide) (Nat.le_of_ble_eq_true rfl) (Nat.le_of_ble_eq_true rfl) dX6_init_7 (fun qf H hI => ?_)
  have hI : IH X B s (Wl ++ [(h0, .inr (4, [.null, .null, .null, .null, .null, .null, .int (J 0)])), (qf, arI X 7 (fun _ => 0))]) H _ := hI
  refine g_putF (k := 0) (L1 := [(h0, .inr (4, [.ref qf, .null, .null, .null, .null, .null, .int (J 0)])), (qf, arI X 7 (fun _ => 0))]) hC hI iw_X6 tyX6_ok nmX6 rfl rfl 0 (by decide) fl_RX6_9 rfl rfl hnm rfl (ty := .array .int) (by decide +kernel) rfl rfl (Nat.le_of_ble_eq_true rfl) rfl dX6_init_9 (fun H locs hI => ?_)
  refine r_aload_n hC hl dX6_init_12 0 rfl ?_
  refine g_new (ci := 1) (fs := [.int (J 0), .int (J 0), .int (J 0), .int (J 0), .int (J 0), .int (J 0), .null, .null, .null]) (L := [(h0, .inr (4, [.ref qf, .null, .null, .null, .null, .null, .int (J 0)])), (qf, arI X 7 (fun _ => 0))]) hC hsz hI iw_X2 tyX2 tyX2_ok kl_RX6_13 wn_RX2 wi_RX2 rfl (fun j hj => by rcases (show j = 0 ∨ j = 1 ∨ j = 2 ∨ j = 3 ∨ j = 4 ∨ j = 5 ∨ j = 6 ∨ j = 7 ∨ j = 8 by omega) with rfl | rfl | rfl | rfl | rfl | rfl | rfl | rfl | rfl <;> rfl) (Nat.le_of_ble_eq_true rfl) (Nat.le_of_ble_eq_true rfl) dX6_init_13 (fun h1 H hI => ?_)
  refine r_dup hC rfl dX6_init_16 ?_
  refine g_cI hC hKI hsz hI hl (k_X2 l X B h1 (Wl ++ [(h0, .inr (4, [.ref qf, .null, .null, .null, .null, .null, .int (J 0)])), (qf, arI X 7 (fun _ => 0))])) ml_RX6_15 ei_X2 ⟨(Nat.le_of_ble_eq_true rfl), (Nat.le_of_ble_eq_true rfl)⟩ ⟨(Nat.le_of_ble_eq_true rfl), (Nat.le_of_ble_eq_true rfl)⟩ (Nat.le_of_ble_eq_true rfl) dX6_init_17 (fun u1 H locs hu1 hI => ?_)
  have hI : IH X B s (Wl ++ ([(h0, .inr (4, [.ref qf, .null, .null, .null, .null, .null, .int (J 0)])), (qf, arI X 7 (fun _ => 0))] ++ scW X h1 u1)) H locs := by rw [List.append_assoc] at hI; exact hI
  refine g_putF (k := 0) (L1 := ([(h0, .inr (4, [.ref qf, .ref h1, .null, .null, .null, .null, .int (J 0)])), (qf, arI X 7 (fun _ => 0))] ++ scW X h1 u1)) hC hI iw_X6 tyX6_ok nmX6 rfl rfl 1 (by decide) fl_RX6_16 rfl rfl hnm rfl (ty := .object "InkNights$Scriptorium") (by decide +kernel) rfl rfl (Nat.le_of_ble_eq_true rfl) rfl dX6_init_20 (fun H locs hI => ?_)
  refine r_aload_n hC hl dX6_init_23 0 rfl ?_
  refine g_new (ci := 1) (fs := [.int (J 0), .int (J 0), .int (J 0), .int (J 0), .int (J 0), .int (J 0), .null, .null, .null]) (L := ([(h0, .inr (4, [.ref qf, .ref h1, .null, .null, .null, .null, .int (J 0)])), (qf, arI X 7 (fun _ => 0))] ++ scW X h1 u1)) hC hsz hI iw_X2 tyX2 tyX2_ok kl_RX6_13 wn_RX2 wi_RX2 rfl (fun j hj => by rcases (show j = 0 ∨ j = 1 ∨ j = 2 ∨ j = 3 ∨ j = 4 ∨ j = 5 ∨ j = 6 ∨ j = 7 ∨ j = 8 by omega) with rfl | rfl | rfl | rfl | rfl | rfl | rfl | rfl | rfl <;> rfl) (Nat.le_of_ble_eq_true rfl) (Nat.le_of_ble_eq_true rfl) dX6_init_24 (fun h2 H hI => ?_)
  refine r_dup hC rfl dX6_init_27 ?_
  refine g_cI hC hKI hsz hI hl (k_X2 l X B h2 (Wl ++ ([(h0, .inr (4, [.ref qf, .ref h1, .null, .null, .null, .null, .int (J 0)])), (qf, arI X 7 (fun _ => 0))] ++ scW X h1 u1))) ml_RX6_15 ei_X2 ⟨(Nat.le_of_ble_eq_true rfl), (Nat.le_of_ble_eq_true rfl)⟩ ⟨(Nat.le_of_ble_eq_true rfl), (Nat.le_of_ble_eq_true rfl)⟩ (Nat.le_of_ble_eq_true rfl) dX6_init_28 (fun u2 H locs hu2 hI => ?_)
  have hI : IH X B s (Wl ++ ([(h0, .inr (4, [.ref qf, .ref h1, .null, .null, .null, .null, .int (J 0)])), (qf, arI X 7 (fun _ => 0))] ++ (scW X h1 u1 ++ scW X h2 u2))) H locs := by rw [List.append_assoc] at hI; exact hI
  refine g_putF (k := 0) (L1 := ([(h0, .inr (4, [.ref qf, .ref h1, .ref h2, .null, .null, .null, .int (J 0)])), (qf, arI X 7 (fun _ => 0))] ++ (scW X h1 u1 ++ scW X h2 u2))) hC hI iw_X6 tyX6_ok nmX6 rfl rfl 2 (by decide) fl_RX6_20 rfl rfl hnm rfl (ty := .object "InkNights$Scriptorium") (by decide +kernel) rfl rfl (Nat.le_of_ble_eq_true rfl) rfl dX6_init_31 (fun H locs hI => ?_)
  refine r_aload_n hC hl dX6_init_34 0 rfl ?_
  refine g_new (ci := 1) (fs := [.int (J 0), .int (J 0), .int (J 0), .int (J 0), .int (J 0), .int (J 0), .null, .null, .null]) (L := ([(h0, .inr (4, [.ref qf, .ref h1, .ref h2, .null, .null, .null, .int (J 0)])), (qf, arI X 7 (fun _ => 0))] ++ (scW X h1 u1 ++ scW X h2 u2))) hC hsz hI iw_X2 tyX2 tyX2_ok kl_RX6_13 wn_RX2 wi_RX2 rfl (fun j hj => by rcases (show j = 0 ∨ j = 1 ∨ j = 2 ∨ j = 3 ∨ j = 4 ∨ j = 5 ∨ j = 6 ∨ j = 7 ∨ j = 8 by omega) with rfl | rfl | rfl | rfl | rfl | rfl | rfl | rfl | rfl <;> rfl) (Nat.le_of_ble_eq_true rfl) (Nat.le_of_ble_eq_true rfl) dX6_init_35 (fun h3 H hI => ?_)
  refine r_dup hC rfl dX6_init_38 ?_
  refine g_cI hC hKI hsz hI hl (k_X2 l X B h3 (Wl ++ ([(h0, .inr (4, [.ref qf, .ref h1, .ref h2, .null, .null, .null, .int (J 0)])), (qf, arI X 7 (fun _ => 0))] ++ (scW X h1 u1 ++ scW X h2 u2)))) ml_RX6_15 ei_X2 ⟨(Nat.le_of_ble_eq_true rfl), (Nat.le_of_ble_eq_true rfl)⟩ ⟨(Nat.le_of_ble_eq_true rfl), (Nat.le_of_ble_eq_true rfl)⟩ (Nat.le_of_ble_eq_true rfl) dX6_init_39 (fun u3 H locs hu3 hI => ?_)
  have hI : IH X B s (Wl ++ ([(h0, .inr (4, [.ref qf, .ref h1, .ref h2, .null, .null, .null, .int (J 0)])), (qf, arI X 7 (fun _ => 0))] ++ ((scW X h1 u1 ++ scW X h2 u2) ++ scW X h3 u3))) H locs := by rw [List.append_assoc] at hI; exact hI
  refine g_putF (k := 0) (L1 := ([(h0, .inr (4, [.ref qf, .ref h1, .ref h2, .ref h3, .null, .null, .int (J 0)])), (qf, arI X 7 (fun _ => 0))] ++ ((scW X h1 u1 ++ scW X h2 u2) ++ scW X h3 u3))) hC hI iw_X6 tyX6_ok nmX6 rfl rfl 3 (by decide) fl_RX6_23 rfl rfl hnm rfl (ty := .object "InkNights$Scriptorium") (by decide +kernel) rfl rfl (Nat.le_of_ble_eq_true rfl) rfl dX6_init_42 (fun H locs hI => ?_)
  refine r_aload_n hC hl dX6_init_45 0 rfl ?_
  refine g_new (ci := 3) (fs := [.int (J 0), .int (J 0), .int (J 0), .int (J 0), .int (J 0), .null]) (L := ([(h0, .inr (4, [.ref qf, .ref h1, .ref h2, .ref h3, .null, .null, .int (J 0)])), (qf, arI X 7 (fun _ => 0))] ++ ((scW X h1 u1 ++ scW X h2 u2) ++ scW X h3 u3))) hC hsz hI iw_X4 tyX4 tyX4_ok kl_RX6_26 wn_RX4 wi_RX4 rfl (fun j hj => by rcases (show j = 0 ∨ j = 1 ∨ j = 2 ∨ j = 3 ∨ j = 4 ∨ j = 5 by omega) with rfl | rfl | rfl | rfl | rfl | rfl <;> rfl) (Nat.le_of_ble_eq_true rfl) (Nat.le_of_ble_eq_true rfl) dX6_init_46 (fun h4 H hI => ?_)
  refine r_dup hC rfl dX6_init_49 ?_
  refine g_cN hC hKI hsz hI hl (k_X4 l X B h4 (Wl ++ ([(h0, .inr (4, [.ref qf, .ref h1, .ref h2, .ref h3, .null, .null, .int (J 0)])), (qf, arI X 7 (fun _ => 0))] ++ ((scW X h1 u1 ++ scW X h2 u2) ++ scW X h3 u3)))) hKI.2.2.2.1 ei_X4 ⟨(Nat.le_of_ble_eq_true rfl), (Nat.le_of_ble_eq_true rfl)⟩ ⟨(Nat.le_of_ble_eq_true rfl), (Nat.le_of_ble_eq_true rfl)⟩ (Nat.le_of_ble_eq_true rfl) dX6_init_50 (fun u4 H locs hu4 hI => ?_)
  have hI : IH X B s (Wl ++ ([(h0, .inr (4, [.ref qf, .ref h1, .ref h2, .ref h3, .null, .null, .int (J 0)])), (qf, arI X 7 (fun _ => 0))] ++ (((scW X h1 u1 ++ scW X h2 u2) ++ scW X h3 u3) ++ [(h4, .inr (3, [.int (J 0), .int (J 0), .int (J 0), .int (J 0), .int (J 0), .ref u4])), (u4, arI X 120 (fun _ => 0))]))) H locs := by rw [List.append_assoc] at hI; exact hI
  refine g_putF (k := 0) (L1 := ([(h0, .inr (4, [.ref qf, .ref h1, .ref h2, .ref h3, .ref h4, .null, .int (J 0)])), (qf, arI X 7 (fun _ => 0))] ++ (((scW X h1 u1 ++ scW X h2 u2) ++ scW X h3 u3) ++ [(h4, .inr (3, [.int (J 0), .int (J 0), .int (J 0), .int (J 0), .int (J 0), .ref u4])), (u4, arI X 120 (fun _ => 0))]))) hC hI iw_X6 tyX6_ok nmX6 rfl rfl 4 (by decide) fl_RX6_29 rfl rfl hnm rfl (ty := .object "InkNights$Tape") (by decide +kernel) rfl rfl (Nat.le_of_ble_eq_true rfl) rfl dX6_init_53 (fun H locs hI => ?_)
  refine r_aload_n hC hl dX6_init_56 0 rfl ?_
  refine r_iconst hC dX6_init_57 ?_
  refine g_newq (L := ([(h0, .inr (4, [.ref qf, .ref h1, .ref h2, .ref h3, .ref h4, .null, .int (J 0)])), (qf, arI X 7 (fun _ => 0))] ++ (((scW X h1 u1 ++ scW X h2 u2) ++ scW X h3 u3) ++ [(h4, .inr (3, [.int (J 0), .int (J 0), .int (J 0), .int (J 0), .int (J 0), .ref u4])), (u4, arI X 120 (fun _ => 0))]))) hC hsz hI (t := 3) rfl kl_RX6_33 hKI.2.1 4 (by decide) (Nat.le_of_ble_eq_true rfl) (Nat.le_of_ble_eq_true rfl) dX6_init_58 (fun sa H hI => ?_)
  have hI : IH X B s (Wl ++ (([(h0, .inr (4, [.ref qf, .ref h1, .ref h2, .ref h3, .ref h4, .null, .int (J 0)])), (qf, arI X 7 (fun _ => 0))] ++ (((scW X h1 u1 ++ scW X h2 u2) ++ scW X h3 u3) ++ [(h4, .inr (3, [.int (J 0), .int (J 0), .int (J 0), .int (J 0), .int (J 0), .ref u4])), (u4, arI X 120 (fun _ => 0))])) ++ [(sa, arQ X.2.1.2.2.2 4 (fun _ => none))])) H _ := hI
  refine g_putF (k := 0) (L1 := (([(h0, .inr (4, [.ref qf, .ref h1, .ref h2, .ref h3, .ref h4, .ref sa, .int (J 0)])), (qf, arI X 7 (fun _ => 0))] ++ (((scW X h1 u1 ++ scW X h2 u2) ++ scW X h3 u3) ++ [(h4, .inr (3, [.int (J 0), .int (J 0), .int (J 0), .int (J 0), .int (J 0), .ref u4])), (u4, arI X 120 (fun _ => 0))])) ++ [(sa, arQ X.2.1.2.2.2 4 (fun _ => none))])) hC hI iw_X6 tyX6_ok nmX6 rfl rfl 5 (by decide) fl_RX6_35 rfl rfl hnm rfl (ty := .array (.object "InkNights$Sheet")) (by decide +kernel) rfl rfl (Nat.le_of_ble_eq_true rfl) rfl dX6_init_61 (fun H locs hI => ?_)
  have hL66 : ∀ (fu : Nat) (ss : List (Nat × Nat)) (x1 : Int), 4 - ss.length < fu → x1 = ((ss.length : Nat) : Int) → ss.length ≤ 4 → ∀ (H : Heap) (locs : List Loc) (ls : Array Slot), IH X B s (Wl ++ (([(h0, .inr (4, [.ref qf, .ref h1, .ref h2, .ref h3, .ref h4, .ref sa, .int (J 0)])), (qf, arI X 7 (fun _ => 0))] ++ (((scW X h1 u1 ++ scW X h2 u2) ++ scW X h3 u3) ++ [(h4, .inr (3, [.int (J 0), .int (J 0), .int (J 0), .int (J 0), .int (J 0), .ref u4])), (u4, arI X 120 (fun _ => 0))])) ++ ((sa, arQ X.2.1.2.2.2 4 (fun j => (ss.map Prod.fst)[j]?)) :: shW X ss))) H locs → lv_has ls 2 [(1, .int (J x1)), (0, .ref h0)] → W p l e (rmG 3 61 48 540) s m [Value.ref h0].toArray below meth c H locs (40 + 2 * ss.length) (368 + 43 * ss.length) (MQ below (GQ X B Wl inO (inW X h0)) [Value.ref h0].toArray s 48 540 (fun q => B ≤ q)) (F0 m 66 ls []) := by
    intro fu
    induction fu with
    | zero => intro ss x1 hm; exact absurd hm (Nat.not_lt_zero _)
    | succ fu ih =>
      intro ss x1 hm e1 hq H locs ls hI hl
      subst e1
      have hAL := at_end ([(h0, .inr (4, [.ref qf, .ref h1, .ref h2, .ref h3, .ref h4, .ref sa, .int (J 0)])), (qf, arI X 7 (fun _ => 0))] ++ (((scW X h1 u1 ++ scW X h2 u2) ++ scW X h3 u3) ++ [(h4, .inr (3, [.int (J 0), .int (J 0), .int (J 0), .int (J 0), .int (J 0), .ref u4])), (u4, arI X 120 (fun _ => 0))])) (sa, arQ X.2.1.2.2.2 4 (fun j => (ss.map Prod.fst)[j]?)) (shW X ss)
      refine r_iload_n hC hl dX6_init_66 0 rfl ?_
      refine r_aload_n hC hl dX6_init_67 1 rfl ?_
      refine g_get (k := 0) (L := ([(h0, .inr (4, [.ref qf, .ref h1, .ref h2, .ref h3, .ref h4, .ref sa, .int (J 0)])), (qf, arI X 7 (fun _ => 0))] ++ (((scW X h1 u1 ++ scW X h2 u2) ++ scW X h3 u3) ++ [(h4, .inr (3, [.int (J 0), .int (J 0), .int (J 0), .int (J 0), .int (J 0), .ref u4])), (u4, arI X 120 (fun _ => 0))])) ++ ((sa, arQ X.2.1.2.2.2 4 (fun j => (ss.map Prod.fst)[j]?)) :: shW X ss)) hC hI iw_X6 rfl rfl 5 (by decide) fl_RX6_35 rfl (v := .ref sa) rfl dX6_init_68 ?_
      refine va_alen (v := J 4) hC.1 hC.2.1 hC.2.2.2.2.2.1.1 hI.1 (Wl.length + ([(h0, .inr (4, [.ref qf, .ref h1, .ref h2, .ref h3, .ref h4, .ref sa, .int (J 0)])), (qf, arI X 7 (fun _ => 0))] ++ (((scW X h1 u1 ++ scW X h2 u2) ++ scW X h3 u3) ++ [(h4, .inr (3, [.int (J 0), .int (J 0), .int (J 0), .int (J 0), .int (J 0), .ref u4])), (u4, arI X 120 (fun _ => 0))])).length) 3 (gg hAL) rfl rfl dX6_init_71 ?_
      refine r_icmp_ge (tgt := 94) hC (by omega) (by omega) dX6_init_72 (by decide) (fun c_1 => ?_) (fun c_1 => ?_)
      · have h4s : ss.length = 4 := by omega
        rw [h4s]
        exact g_vret hC hr hlk hKI hsz hI (wl := inW X h0) (qf, (h1, u1), (h2, u2), (h3, u3), (h4, u4), sa, ss) ⟨hu1, hu2, hu3, h4s⟩ rfl dX6_init_94
      · skip
        refine r_aload_n hC hl dX6_init_75 1 rfl ?_
        refine g_get (k := 0) (L := ([(h0, .inr (4, [.ref qf, .ref h1, .ref h2, .ref h3, .ref h4, .ref sa, .int (J 0)])), (qf, arI X 7 (fun _ => 0))] ++ (((scW X h1 u1 ++ scW X h2 u2) ++ scW X h3 u3) ++ [(h4, .inr (3, [.int (J 0), .int (J 0), .int (J 0), .int (J 0), .int (J 0), .ref u4])), (u4, arI X 120 (fun _ => 0))])) ++ ((sa, arQ X.2.1.2.2.2 4 (fun j => (ss.map Prod.fst)[j]?)) :: shW X ss)) hC hI iw_X6 rfl rfl 5 (by decide) fl_RX6_35 rfl (v := .ref sa) rfl dX6_init_76 ?_
        refine r_iload_n hC hl dX6_init_79 0 rfl ?_
        refine g_new (ci := 2) (fs := [.int (J 0), .int (J 0), .null]) (L := ([(h0, .inr (4, [.ref qf, .ref h1, .ref h2, .ref h3, .ref h4, .ref sa, .int (J 0)])), (qf, arI X 7 (fun _ => 0))] ++ (((scW X h1 u1 ++ scW X h2 u2) ++ scW X h3 u3) ++ [(h4, .inr (3, [.int (J 0), .int (J 0), .int (J 0), .int (J 0), .int (J 0), .ref u4])), (u4, arI X 120 (fun _ => 0))])) ++ ((sa, arQ X.2.1.2.2.2 4 (fun j => (ss.map Prod.fst)[j]?)) :: shW X ss)) hC hsz hI iw_X3 tyX3 tyX3_ok kl_RX6_33 wn_RX3 wi_RX3 rfl (fun j hj => by rcases (show j = 0 ∨ j = 1 ∨ j = 2 by omega) with rfl | rfl | rfl <;> rfl) (by show 40 + 2 * ss.length + 1 ≤ 48; omega) (by show 368 + 43 * ss.length + 3 ≤ 540; omega) dX6_init_80 (fun z H hI => ?_)
        refine r_dup hC rfl dX6_init_83 ?_
        refine g_cN hC hKI hsz hI hl (k_X3 l X B z (Wl ++ (([(h0, .inr (4, [.ref qf, .ref h1, .ref h2, .ref h3, .ref h4, .ref sa, .int (J 0)])), (qf, arI X 7 (fun _ => 0))] ++ (((scW X h1 u1 ++ scW X h2 u2) ++ scW X h3 u3) ++ [(h4, .inr (3, [.int (J 0), .int (J 0), .int (J 0), .int (J 0), .int (J 0), .ref u4])), (u4, arI X 120 (fun _ => 0))])) ++ ((sa, arQ X.2.1.2.2.2 4 (fun j => (ss.map Prod.fst)[j]?)) :: shW X ss)))) hKI.2.2.2.2 ei_X3 ⟨(Nat.le_of_ble_eq_true rfl), (Nat.le_of_ble_eq_true rfl)⟩ ⟨by show 40 + 2 * ss.length + 1 + 1 ≤ 48; omega, by show 368 + 43 * ss.length + 3 + 40 ≤ 540; omega⟩ (Nat.le_of_ble_eq_true rfl) dX6_init_84 (fun n H locs hu hI => ?_)
        have hI : IH X B s ((Wl ++ ([(h0, .inr (4, [.ref qf, .ref h1, .ref h2, .ref h3, .ref h4, .ref sa, .int (J 0)])), (qf, arI X 7 (fun _ => 0))] ++ (((scW X h1 u1 ++ scW X h2 u2) ++ scW X h3 u3) ++ [(h4, .inr (3, [.int (J 0), .int (J 0), .int (J 0), .int (J 0), .int (J 0), .ref u4])), (u4, arI X 120 (fun _ => 0))]))) ++ ((sa, arQ X.2.1.2.2.2 4 (fun j => (ss.map Prod.fst)[j]?)) :: (shW X ss ++ [(z, shO n), (n, arL X 40 (fun _ => 0))]))) H locs := by rw [← List.append_assoc Wl, List.append_assoc (Wl ++ _)] at hI; exact hI
        refine g_ast (Wl := Wl ++ ([(h0, .inr (4, [.ref qf, .ref h1, .ref h2, .ref h3, .ref h4, .ref sa, .int (J 0)])), (qf, arI X 7 (fun _ => 0))] ++ (((scW X h1 u1 ++ scW X h2 u2) ++ scW X h3 u3) ++ [(h4, .inr (3, [.int (J 0), .int (J 0), .int (J 0), .int (J 0), .int (J 0), .ref u4])), (u4, arI X 120 (fun _ => 0))]))) (k := 0) (k2 := (shW X ss).length + 1) (t := 3) (ci := 2) (r := (RX3, TX3, 3)) (vs := [.int (J 0), .int (J 0), .ref n]) (L1 := ((sa, arQ X.2.1.2.2.2 4 (fun j => ((ss ++ [(z, n)]).map Prod.fst)[j]?)) :: shW X (ss ++ [(z, n)]))) hC hI rfl rfl (at_end ((sa, arQ X.2.1.2.2.2 4 (fun j => (ss.map Prod.fst)[j]?)) :: shW X ss) (z, shO n) [(n, arL X 40 (fun _ => 0))]) rfl (by decide) ss.length rfl (by omega) ?_ dX6_init_87 (fun H locs hI => ?_)
        · rw [up_ps (ps := ss.map Prod.fst) (by rw [List.length_map]), sh_app, List.map_append]; rfl
        refine r_iinc (lv1 := [(1, .int (J (((ss.length : Nat) : Int) + 1))), (0, .ref h0)]) hC hl dX6_init_88 0 rfl (by decide) rfl (fun ls hl => ?_)
        refine r_goto (tgt := 66) hC dX6_init_91 (by decide) ?_
        refine W.widen (k := 40 + 2 * (ss ++ [(z, n)]).length) (n := 368 + 43 * (ss ++ [(z, n)]).length) (by rw [List.length_append]; show 40 + 2 * ss.length + 1 + 1 ≤ 40 + 2 * (ss.length + 1); omega) (by rw [List.length_append]; show 368 + 43 * ss.length + 3 + 40 ≤ 368 + 43 * (ss.length + 1); omega) ?_
        exact ih (ss ++ [(z, n)]) _ (by rw [List.length_append]; show 4 - (ss.length + 1) < fu; omega) (by rw [List.length_append]; rfl) (by rw [List.length_append]; show ss.length + 1 ≤ 4; omega) _ _ _ (by rw [List.append_assoc] at hI; exact hI) hl
  refine r_iconst hC dX6_init_64 ?_
  refine r_istore_n (lv1 := [(1, .int (J 0)), (0, .ref h0)]) hC hl dX6_init_65 1 rfl (by decide) rfl (fun ls hl => ?_)
  exact hL66 5 [] 0 (by decide) rfl (by decide) _ _ _ hI hl

/-- all cells of the reference -/
def moW (X : XT) (h0 : Nat) : Nat × Nat × Nat × Nat × Nat × Nat × Nat × Nat × Nat × Nat × Nat → va_W
  | (r0, r1, r2, r3, r4, r5, r6, r7, r8, r9, r10) => [(h0, .inr (5, [.ref r0, .ref r1, .ref r2, .ref r3, .ref r4, .int (J 0), .int (J 0), .int (J 0), .int (J 0), .long (JL 0), .int (J 0), .int (J 0), .ref r5, .ref r6, .ref r7, .ref r8, .ref r9, .ref r10, .int (J 0)])), (r0, arI X 58 (row0)), (r1, arI X 7 (fun _ => 0)), (r2, arI X 58 (fun _ => 0)), (r3, arI X 58 (fun _ => 0)), (r4, arI X 120 (fun _ => 0)), (r5, arI X 4 (fun _ => 0)), (r6, arI X 4 (fun _ => 0)), (r7, arL X 160 (fun _ => 0)), (r8, arL X 40 (fun _ => 0)), (r9, arI X 58 (fun _ => 0)), (r10, arI X 58 (fun _ => 0))]

set_option maxHeartbeats 4000000 in
set_option maxRecDepth 100000 in
theorem k_X7 (l : Launch) (X : XT) (B : Nat) (h0 : Nat) (Wl : va_W) : GT l X B 1 20 11 625 yX7_init cX7_init 2 h0 Wl (.inr (5, [.null, .null, .null, .null, .null, .int (J 0), .int (J 0), .int (J 0), .int (J 0), .long (JL 0), .int (J 0), .int (J 0), .null, .null, .null, .null, .null, .null, .int (J 0)])) (fun _ : Nat × Nat × Nat × Nat × Nat × Nat × Nat × Nat × Nat × Nat × Nat => True) (fun u => moW X h0 u) := by
  refine GT.of (by decide +kernel) rfl (by decide) ?_
  intro p e s m below meth c ls hC hr hlk hnm hKI hsz hI hl
  have hC : Cx p c cX7_init 2 s m [Value.ref h0].toArray RX7 X B := hC
  refine r_aload_n hC hl dX7_init_0 0 rfl ?_
  refine g_obj hC hl ml_RX7_1 ⟨(Nat.le_of_ble_eq_true rfl), (Nat.le_of_ble_eq_true rfl)⟩ (by decide) dX7_init_1 ?_
  refine r_aload_n hC hl dX7_init_4 0 rfl ?_
  refine r_bipush hC (by decide) dX7_init_5 ?_
  refine g_newI hC hsz hI 58 (by decide) (Nat.le_of_ble_eq_true rfl) (Nat.le_of_ble_eq_true rfl) dX7_init_7 (fun r0 H hI => ?_)
  have hI : IH X B s (Wl ++ [(h0, .inr (5, [.null, .null, .null, .null, .null, .int (J 0), .int (J 0), .int (J 0), .int (J 0), .long (JL 0), .int (J 0), .int (J 0), .null, .null, .null, .null, .null, .null, .int (J 0)])), (r0, arI X 58 (fun _ => 0))]) H _ := hI
  refine g_putF (k := 0) (L1 := [(h0, .inr (5, [.ref r0, .null, .null, .null, .null, .int (J 0), .int (J 0), .int (J 0), .int (J 0), .long (JL 0), .int (J 0), .int (J 0), .null, .null, .null, .null, .null, .null, .int (J 0)])), (r0, arI X 58 (fun _ => 0))]) hC hI iw_X7 tyX7_ok nmX7 rfl rfl 0 (by decide) fl_RX7_7 rfl rfl hnm rfl (ty := .array .int) (by decide +kernel) rfl rfl (Nat.le_of_ble_eq_true rfl) rfl dX7_init_9 (fun H locs hI => ?_)
  refine r_aload_n hC hl dX7_init_12 0 rfl ?_
  refine r_bipush hC (by decide) dX7_init_13 ?_
  refine g_newI hC hsz hI 7 (by decide) (Nat.le_of_ble_eq_true rfl) (Nat.le_of_ble_eq_true rfl) dX7_init_15 (fun r1 H hI => ?_)
  have hI : IH X B s (Wl ++ [(h0, .inr (5, [.ref r0, .null, .null, .null, .null, .int (J 0), .int (J 0), .int (J 0), .int (J 0), .long (JL 0), .int (J 0), .int (J 0), .null, .null, .null, .null, .null, .null, .int (J 0)])), (r0, arI X 58 (fun _ => 0)), (r1, arI X 7 (fun _ => 0))]) H _ := hI
  refine g_putF (k := 0) (L1 := [(h0, .inr (5, [.ref r0, .ref r1, .null, .null, .null, .int (J 0), .int (J 0), .int (J 0), .int (J 0), .long (JL 0), .int (J 0), .int (J 0), .null, .null, .null, .null, .null, .null, .int (J 0)])), (r0, arI X 58 (fun _ => 0)), (r1, arI X 7 (fun _ => 0))]) hC hI iw_X7 tyX7_ok nmX7 rfl rfl 1 (by decide) fl_RX7_13 rfl rfl hnm rfl (ty := .array .int) (by decide +kernel) rfl rfl (Nat.le_of_ble_eq_true rfl) rfl dX7_init_17 (fun H locs hI => ?_)
  refine r_aload_n hC hl dX7_init_20 0 rfl ?_
  refine r_bipush hC (by decide) dX7_init_21 ?_
  refine g_newI hC hsz hI 58 (by decide) (Nat.le_of_ble_eq_true rfl) (Nat.le_of_ble_eq_true rfl) dX7_init_23 (fun r2 H hI => ?_)
  have hI : IH X B s (Wl ++ [(h0, .inr (5, [.ref r0, .ref r1, .null, .null, .null, .int (J 0), .int (J 0), .int (J 0), .int (J 0), .long (JL 0), .int (J 0), .int (J 0), .null, .null, .null, .null, .null, .null, .int (J 0)])), (r0, arI X 58 (fun _ => 0)), (r1, arI X 7 (fun _ => 0)), (r2, arI X 58 (fun _ => 0))]) H _ := hI
  refine g_putF (k := 0) (L1 := [(h0, .inr (5, [.ref r0, .ref r1, .ref r2, .null, .null, .int (J 0), .int (J 0), .int (J 0), .int (J 0), .long (JL 0), .int (J 0), .int (J 0), .null, .null, .null, .null, .null, .null, .int (J 0)])), (r0, arI X 58 (fun _ => 0)), (r1, arI X 7 (fun _ => 0)), (r2, arI X 58 (fun _ => 0))]) hC hI iw_X7 tyX7_ok nmX7 rfl rfl 2 (by decide) fl_RX7_16 rfl rfl hnm rfl (ty := .array .int) (by decide +kernel) rfl rfl (Nat.le_of_ble_eq_true rfl) rfl dX7_init_25 (fun H locs hI => ?_)
  refine r_aload_n hC hl dX7_init_28 0 rfl ?_
  refine r_bipush hC (by decide) dX7_init_29 ?_
  refine g_newI hC hsz hI 58 (by decide) (Nat.le_of_ble_eq_true rfl) (Nat.le_of_ble_eq_true rfl) dX7_init_31 (fun r3 H hI => ?_)
  have hI : IH X B s (Wl ++ [(h0, .inr (5, [.ref r0, .ref r1, .ref r2, .null, .null, .int (J 0), .int (J 0), .int (J 0), .int (J 0), .long (JL 0), .int (J 0), .int (J 0), .null, .null, .null, .null, .null, .null, .int (J 0)])), (r0, arI X 58 (fun _ => 0)), (r1, arI X 7 (fun _ => 0)), (r2, arI X 58 (fun _ => 0)), (r3, arI X 58 (fun _ => 0))]) H _ := hI
  refine g_putF (k := 0) (L1 := [(h0, .inr (5, [.ref r0, .ref r1, .ref r2, .ref r3, .null, .int (J 0), .int (J 0), .int (J 0), .int (J 0), .long (JL 0), .int (J 0), .int (J 0), .null, .null, .null, .null, .null, .null, .int (J 0)])), (r0, arI X 58 (fun _ => 0)), (r1, arI X 7 (fun _ => 0)), (r2, arI X 58 (fun _ => 0)), (r3, arI X 58 (fun _ => 0))]) hC hI iw_X7 tyX7_ok nmX7 rfl rfl 3 (by decide) fl_RX7_19 rfl rfl hnm rfl (ty := .array .int) (by decide +kernel) rfl rfl (Nat.le_of_ble_eq_true rfl) rfl dX7_init_33 (fun H locs hI => ?_)
  refine r_aload_n hC hl dX7_init_36 0 rfl ?_
  refine r_bipush hC (by decide) dX7_init_37 ?_
  refine g_newI hC hsz hI 120 (by decide) (Nat.le_of_ble_eq_true rfl) (Nat.le_of_ble_eq_true rfl) dX7_init_39 (fun r4 H hI => ?_)
  have hI : IH X B s (Wl ++ [(h0, .inr (5, [.ref r0, .ref r1, .ref r2, .ref r3, .null, .int (J 0), .int (J 0), .int (J 0), .int (J 0), .long (JL 0), .int (J 0), .int (J 0), .null, .null, .null, .null, .null, .null, .int (J 0)])), (r0, arI X 58 (fun _ => 0)), (r1, arI X 7 (fun _ => 0)), (r2, arI X 58 (fun _ => 0)), (r3, arI X 58 (fun _ => 0)), (r4, arI X 120 (fun _ => 0))]) H _ := hI
  refine g_putF (k := 0) (L1 := [(h0, .inr (5, [.ref r0, .ref r1, .ref r2, .ref r3, .ref r4, .int (J 0), .int (J 0), .int (J 0), .int (J 0), .long (JL 0), .int (J 0), .int (J 0), .null, .null, .null, .null, .null, .null, .int (J 0)])), (r0, arI X 58 (fun _ => 0)), (r1, arI X 7 (fun _ => 0)), (r2, arI X 58 (fun _ => 0)), (r3, arI X 58 (fun _ => 0)), (r4, arI X 120 (fun _ => 0))]) hC hI iw_X7 tyX7_ok nmX7 rfl rfl 4 (by decide) fl_RX7_22 rfl rfl hnm rfl (ty := .array .int) (by decide +kernel) rfl rfl (Nat.le_of_ble_eq_true rfl) rfl dX7_init_41 (fun H locs hI => ?_)
  refine r_aload_n hC hl dX7_init_44 0 rfl ?_
  refine r_iconst hC dX7_init_45 ?_
  refine g_newI hC hsz hI 4 (by decide) (Nat.le_of_ble_eq_true rfl) (Nat.le_of_ble_eq_true rfl) dX7_init_46 (fun r5 H hI => ?_)
  have hI : IH X B s (Wl ++ [(h0, .inr (5, [.ref r0, .ref r1, .ref r2, .ref r3, .ref r4, .int (J 0), .int (J 0), .int (J 0), .int (J 0), .long (JL 0), .int (J 0), .int (J 0), .null, .null, .null, .null, .null, .null, .int (J 0)])), (r0, arI X 58 (fun _ => 0)), (r1, arI X 7 (fun _ => 0)), (r2, arI X 58 (fun _ => 0)), (r3, arI X 58 (fun _ => 0)), (r4, arI X 120 (fun _ => 0)), (r5, arI X 4 (fun _ => 0))]) H _ := hI
  refine g_putF (k := 0) (L1 := [(h0, .inr (5, [.ref r0, .ref r1, .ref r2, .ref r3, .ref r4, .int (J 0), .int (J 0), .int (J 0), .int (J 0), .long (JL 0), .int (J 0), .int (J 0), .ref r5, .null, .null, .null, .null, .null, .int (J 0)])), (r0, arI X 58 (fun _ => 0)), (r1, arI X 7 (fun _ => 0)), (r2, arI X 58 (fun _ => 0)), (r3, arI X 58 (fun _ => 0)), (r4, arI X 120 (fun _ => 0)), (r5, arI X 4 (fun _ => 0))]) hC hI iw_X7 tyX7_ok nmX7 rfl rfl 12 (by decide) fl_RX7_25 rfl rfl hnm rfl (ty := .array .int) (by decide +kernel) rfl rfl (Nat.le_of_ble_eq_true rfl) rfl dX7_init_48 (fun H locs hI => ?_)
  refine r_aload_n hC hl dX7_init_51 0 rfl ?_
  refine r_iconst hC dX7_init_52 ?_
  refine g_newI hC hsz hI 4 (by decide) (Nat.le_of_ble_eq_true rfl) (Nat.le_of_ble_eq_true rfl) dX7_init_53 (fun r6 H hI => ?_)
  have hI : IH X B s (Wl ++ [(h0, .inr (5, [.ref r0, .ref r1, .ref r2, .ref r3, .ref r4, .int (J 0), .int (J 0), .int (J 0), .int (J 0), .long (JL 0), .int (J 0), .int (J 0), .ref r5, .null, .null, .null, .null, .null, .int (J 0)])), (r0, arI X 58 (fun _ => 0)), (r1, arI X 7 (fun _ => 0)), (r2, arI X 58 (fun _ => 0)), (r3, arI X 58 (fun _ => 0)), (r4, arI X 120 (fun _ => 0)), (r5, arI X 4 (fun _ => 0)), (r6, arI X 4 (fun _ => 0))]) H _ := hI
  refine g_putF (k := 0) (L1 := [(h0, .inr (5, [.ref r0, .ref r1, .ref r2, .ref r3, .ref r4, .int (J 0), .int (J 0), .int (J 0), .int (J 0), .long (JL 0), .int (J 0), .int (J 0), .ref r5, .ref r6, .null, .null, .null, .null, .int (J 0)])), (r0, arI X 58 (fun _ => 0)), (r1, arI X 7 (fun _ => 0)), (r2, arI X 58 (fun _ => 0)), (r3, arI X 58 (fun _ => 0)), (r4, arI X 120 (fun _ => 0)), (r5, arI X 4 (fun _ => 0)), (r6, arI X 4 (fun _ => 0))]) hC hI iw_X7 tyX7_ok nmX7 rfl rfl 13 (by decide) fl_RX7_28 rfl rfl hnm rfl (ty := .array .int) (by decide +kernel) rfl rfl (Nat.le_of_ble_eq_true rfl) rfl dX7_init_55 (fun H locs hI => ?_)
  refine r_aload_n hC hl dX7_init_58 0 rfl ?_
  refine r_sipush hC (by decide) dX7_init_59 ?_
  refine g_newL hC hsz hI 160 (by decide) (Nat.le_of_ble_eq_true rfl) (Nat.le_of_ble_eq_true rfl) dX7_init_62 (fun r7 H hI => ?_)
  have hI : IH X B s (Wl ++ [(h0, .inr (5, [.ref r0, .ref r1, .ref r2, .ref r3, .ref r4, .int (J 0), .int (J 0), .int (J 0), .int (J 0), .long (JL 0), .int (J 0), .int (J 0), .ref r5, .ref r6, .null, .null, .null, .null, .int (J 0)])), (r0, arI X 58 (fun _ => 0)), (r1, arI X 7 (fun _ => 0)), (r2, arI X 58 (fun _ => 0)), (r3, arI X 58 (fun _ => 0)), (r4, arI X 120 (fun _ => 0)), (r5, arI X 4 (fun _ => 0)), (r6, arI X 4 (fun _ => 0)), (r7, arL X 160 (fun _ => 0))]) H _ := hI
  refine g_putF (k := 0) (L1 := [(h0, .inr (5, [.ref r0, .ref r1, .ref r2, .ref r3, .ref r4, .int (J 0), .int (J 0), .int (J 0), .int (J 0), .long (JL 0), .int (J 0), .int (J 0), .ref r5, .ref r6, .ref r7, .null, .null, .null, .int (J 0)])), (r0, arI X 58 (fun _ => 0)), (r1, arI X 7 (fun _ => 0)), (r2, arI X 58 (fun _ => 0)), (r3, arI X 58 (fun _ => 0)), (r4, arI X 120 (fun _ => 0)), (r5, arI X 4 (fun _ => 0)), (r6, arI X 4 (fun _ => 0)), (r7, arL X 160 (fun _ => 0))]) hC hI iw_X7 tyX7_ok nmX7 rfl rfl 14 (by decide) fl_RX7_31 rfl rfl hnm rfl (ty := .array .long) (by decide +kernel) rfl rfl (Nat.le_of_ble_eq_true rfl) rfl dX7_init_64 (fun H locs hI => ?_)
  refine r_aload_n hC hl dX7_init_67 0 rfl ?_
  refine r_bipush hC (by decide) dX7_init_68 ?_
  refine g_newL hC hsz hI 40 (by decide) (Nat.le_of_ble_eq_true rfl) (Nat.le_of_ble_eq_true rfl) dX7_init_70 (fun r8 H hI => ?_)
  have hI : IH X B s (Wl ++ [(h0, .inr (5, [.ref r0, .ref r1, .ref r2, .ref r3, .ref r4, .int (J 0), .int (J 0), .int (J 0), .int (J 0), .long (JL 0), .int (J 0), .int (J 0), .ref r5, .ref r6, .ref r7, .null, .null, .null, .int (J 0)])), (r0, arI X 58 (fun _ => 0)), (r1, arI X 7 (fun _ => 0)), (r2, arI X 58 (fun _ => 0)), (r3, arI X 58 (fun _ => 0)), (r4, arI X 120 (fun _ => 0)), (r5, arI X 4 (fun _ => 0)), (r6, arI X 4 (fun _ => 0)), (r7, arL X 160 (fun _ => 0)), (r8, arL X 40 (fun _ => 0))]) H _ := hI
  refine g_putF (k := 0) (L1 := [(h0, .inr (5, [.ref r0, .ref r1, .ref r2, .ref r3, .ref r4, .int (J 0), .int (J 0), .int (J 0), .int (J 0), .long (JL 0), .int (J 0), .int (J 0), .ref r5, .ref r6, .ref r7, .ref r8, .null, .null, .int (J 0)])), (r0, arI X 58 (fun _ => 0)), (r1, arI X 7 (fun _ => 0)), (r2, arI X 58 (fun _ => 0)), (r3, arI X 58 (fun _ => 0)), (r4, arI X 120 (fun _ => 0)), (r5, arI X 4 (fun _ => 0)), (r6, arI X 4 (fun _ => 0)), (r7, arL X 160 (fun _ => 0)), (r8, arL X 40 (fun _ => 0))]) hC hI iw_X7 tyX7_ok nmX7 rfl rfl 15 (by decide) fl_RX7_35 rfl rfl hnm rfl (ty := .array .long) (by decide +kernel) rfl rfl (Nat.le_of_ble_eq_true rfl) rfl dX7_init_72 (fun H locs hI => ?_)
  refine r_aload_n hC hl dX7_init_75 0 rfl ?_
  refine r_bipush hC (by decide) dX7_init_76 ?_
  refine g_newI hC hsz hI 58 (by decide) (Nat.le_of_ble_eq_true rfl) (Nat.le_of_ble_eq_true rfl) dX7_init_78 (fun r9 H hI => ?_)
  have hI : IH X B s (Wl ++ [(h0, .inr (5, [.ref r0, .ref r1, .ref r2, .ref r3, .ref r4, .int (J 0), .int (J 0), .int (J 0), .int (J 0), .long (JL 0), .int (J 0), .int (J 0), .ref r5, .ref r6, .ref r7, .ref r8, .null, .null, .int (J 0)])), (r0, arI X 58 (fun _ => 0)), (r1, arI X 7 (fun _ => 0)), (r2, arI X 58 (fun _ => 0)), (r3, arI X 58 (fun _ => 0)), (r4, arI X 120 (fun _ => 0)), (r5, arI X 4 (fun _ => 0)), (r6, arI X 4 (fun _ => 0)), (r7, arL X 160 (fun _ => 0)), (r8, arL X 40 (fun _ => 0)), (r9, arI X 58 (fun _ => 0))]) H _ := hI
  refine g_putF (k := 0) (L1 := [(h0, .inr (5, [.ref r0, .ref r1, .ref r2, .ref r3, .ref r4, .int (J 0), .int (J 0), .int (J 0), .int (J 0), .long (JL 0), .int (J 0), .int (J 0), .ref r5, .ref r6, .ref r7, .ref r8, .ref r9, .null, .int (J 0)])), (r0, arI X 58 (fun _ => 0)), (r1, arI X 7 (fun _ => 0)), (r2, arI X 58 (fun _ => 0)), (r3, arI X 58 (fun _ => 0)), (r4, arI X 120 (fun _ => 0)), (r5, arI X 4 (fun _ => 0)), (r6, arI X 4 (fun _ => 0)), (r7, arL X 160 (fun _ => 0)), (r8, arL X 40 (fun _ => 0)), (r9, arI X 58 (fun _ => 0))]) hC hI iw_X7 tyX7_ok nmX7 rfl rfl 16 (by decide) fl_RX7_38 rfl rfl hnm rfl (ty := .array .int) (by decide +kernel) rfl rfl (Nat.le_of_ble_eq_true rfl) rfl dX7_init_80 (fun H locs hI => ?_)
  refine r_aload_n hC hl dX7_init_83 0 rfl ?_
  refine r_bipush hC (by decide) dX7_init_84 ?_
  refine g_newI hC hsz hI 58 (by decide) (Nat.le_of_ble_eq_true rfl) (Nat.le_of_ble_eq_true rfl) dX7_init_86 (fun r10 H hI => ?_)
  have hI : IH X B s (Wl ++ [(h0, .inr (5, [.ref r0, .ref r1, .ref r2, .ref r3, .ref r4, .int (J 0), .int (J 0), .int (J 0), .int (J 0), .long (JL 0), .int (J 0), .int (J 0), .ref r5, .ref r6, .ref r7, .ref r8, .ref r9, .null, .int (J 0)])), (r0, arI X 58 (fun _ => 0)), (r1, arI X 7 (fun _ => 0)), (r2, arI X 58 (fun _ => 0)), (r3, arI X 58 (fun _ => 0)), (r4, arI X 120 (fun _ => 0)), (r5, arI X 4 (fun _ => 0)), (r6, arI X 4 (fun _ => 0)), (r7, arL X 160 (fun _ => 0)), (r8, arL X 40 (fun _ => 0)), (r9, arI X 58 (fun _ => 0)), (r10, arI X 58 (fun _ => 0))]) H _ := hI
  refine g_putF (k := 0) (L1 := [(h0, .inr (5, [.ref r0, .ref r1, .ref r2, .ref r3, .ref r4, .int (J 0), .int (J 0), .int (J 0), .int (J 0), .long (JL 0), .int (J 0), .int (J 0), .ref r5, .ref r6, .ref r7, .ref r8, .ref r9, .ref r10, .int (J 0)])), (r0, arI X 58 (fun _ => 0)), (r1, arI X 7 (fun _ => 0)), (r2, arI X 58 (fun _ => 0)), (r3, arI X 58 (fun _ => 0)), (r4, arI X 120 (fun _ => 0)), (r5, arI X 4 (fun _ => 0)), (r6, arI X 4 (fun _ => 0)), (r7, arL X 160 (fun _ => 0)), (r8, arL X 40 (fun _ => 0)), (r9, arI X 58 (fun _ => 0)), (r10, arI X 58 (fun _ => 0))]) hC hI iw_X7 tyX7_ok nmX7 rfl rfl 17 (by decide) fl_RX7_41 rfl rfl hnm rfl (ty := .array .int) (by decide +kernel) rfl rfl (Nat.le_of_ble_eq_true rfl) rfl dX7_init_88 (fun H locs hI => ?_)
  refine r_aload_n hC hl dX7_init_91 0 rfl ?_
  refine g_get (k := 0) hC hI iw_X7 rfl rfl 0 (by decide) fl_RX7_7 rfl (v := .ref r0) rfl dX7_init_92 ?_
  refine r_iconst hC dX7_init_95 ?_
  refine r_iconst hC dX7_init_96 ?_
  refine g_iast (k := 1) (n := 58) (v := 3) (L1 := [(h0, .inr (5, [.ref r0, .ref r1, .ref r2, .ref r3, .ref r4, .int (J 0), .int (J 0), .int (J 0), .int (J 0), .long (JL 0), .int (J 0), .int (J 0), .ref r5, .ref r6, .ref r7, .ref r8, .ref r9, .ref r10, .int (J 0)])), (r0, arI X 58 (upR (fun _ => 0) 1 3)), (r1, arI X 7 (fun _ => 0)), (r2, arI X 58 (fun _ => 0)), (r3, arI X 58 (fun _ => 0)), (r4, arI X 120 (fun _ => 0)), (r5, arI X 4 (fun _ => 0)), (r6, arI X 4 (fun _ => 0)), (r7, arL X 160 (fun _ => 0)), (r8, arL X 40 (fun _ => 0)), (r9, arI X 58 (fun _ => 0)), (r10, arI X 58 (fun _ => 0))]) hC hI rfl (by decide) 1 rfl (by decide) rfl dX7_init_97 (fun H locs hI => ?_)
  refine r_aload_n hC hl dX7_init_98 0 rfl ?_
  refine g_get (k := 0) hC hI iw_X7 rfl rfl 0 (by decide) fl_RX7_7 rfl (v := .ref r0) rfl dX7_init_99 ?_
  refine r_iconst hC dX7_init_102 ?_
  refine r_iconst hC dX7_init_103 ?_
  refine g_iast (k := 1) (n := 58) (v := 5) (L1 := [(h0, .inr (5, [.ref r0, .ref r1, .ref r2, .ref r3, .ref r4, .int (J 0), .int (J 0), .int (J 0), .int (J 0), .long (JL 0), .int (J 0), .int (J 0), .ref r5, .ref r6, .ref r7, .ref r8, .ref r9, .ref r10, .int (J 0)])), (r0, arI X 58 (upR (upR (fun _ => 0) 1 3) 3 5)), (r1, arI X 7 (fun _ => 0)), (r2, arI X 58 (fun _ => 0)), (r3, arI X 58 (fun _ => 0)), (r4, arI X 120 (fun _ => 0)), (r5, arI X 4 (fun _ => 0)), (r6, arI X 4 (fun _ => 0)), (r7, arL X 160 (fun _ => 0)), (r8, arL X 40 (fun _ => 0)), (r9, arI X 58 (fun _ => 0)), (r10, arI X 58 (fun _ => 0))]) hC hI rfl (by decide) 3 rfl (by decide) rfl dX7_init_104 (fun H locs hI => ?_)
  refine r_aload_n hC hl dX7_init_105 0 rfl ?_
  refine g_get (k := 0) hC hI iw_X7 rfl rfl 0 (by decide) fl_RX7_7 rfl (v := .ref r0) rfl dX7_init_106 ?_
  refine r_iconst hC dX7_init_109 ?_
  refine r_iconst hC dX7_init_110 ?_
  refine g_iast (k := 1) (n := 58) (v := 5) (L1 := [(h0, .inr (5, [.ref r0, .ref r1, .ref r2, .ref r3, .ref r4, .int (J 0), .int (J 0), .int (J 0), .int (J 0), .long (JL 0), .int (J 0), .int (J 0), .ref r5, .ref r6, .ref r7, .ref r8, .ref r9, .ref r10, .int (J 0)])), (r0, arI X 58 (upR (upR (upR (fun _ => 0) 1 3) 3 5) 4 5)), (r1, arI X 7 (fun _ => 0)), (r2, arI X 58 (fun _ => 0)), (r3, arI X 58 (fun _ => 0)), (r4, arI X 120 (fun _ => 0)), (r5, arI X 4 (fun _ => 0)), (r6, arI X 4 (fun _ => 0)), (r7, arL X 160 (fun _ => 0)), (r8, arL X 40 (fun _ => 0)), (r9, arI X 58 (fun _ => 0)), (r10, arI X 58 (fun _ => 0))]) hC hI rfl (by decide) 4 rfl (by decide) rfl dX7_init_111 (fun H locs hI => ?_)
  rw [rq_0] at hI
  have hL : ∀ (fu q : Nat) (x1 : Int), 12 - q < fu → x1 = (q : Int) → q ≤ 12 → ∀ (H : Heap) (locs : List Loc) (ls : Array Slot), IH X B s (Wl ++ [(h0, .inr (5, [.ref r0, .ref r1, .ref r2, .ref r3, .ref r4, .int (J 0), .int (J 0), .int (J 0), .int (J 0), .long (JL 0), .int (J 0), .int (J 0), .ref r5, .ref r6, .ref r7, .ref r8, .ref r9, .ref r10, .int (J 0)])), (r0, arI X 58 (rqF q)), (r1, arI X 7 (fun _ => 0)), (r2, arI X 58 (fun _ => 0)), (r3, arI X 58 (fun _ => 0)), (r4, arI X 120 (fun _ => 0)), (r5, arI X 4 (fun _ => 0)), (r6, arI X 4 (fun _ => 0)), (r7, arL X 160 (fun _ => 0)), (r8, arL X 40 (fun _ => 0)), (r9, arI X 58 (fun _ => 0)), (r10, arI X 58 (fun _ => 0))]) H locs → lv_has ls 2 [(1, .int (J x1)), (0, .ref h0)] → W p l e (rmG 1 20 11 625) s m [Value.ref h0].toArray below meth c H locs 11 625 (MQ below (GQ X B Wl (fun _ : Nat × Nat × Nat × Nat × Nat × Nat × Nat × Nat × Nat × Nat × Nat => True) (moW X h0)) [Value.ref h0].toArray s 11 625 (fun q => B ≤ q)) (F0 m 114 ls []) := by
    intro fu
    induction fu with
    | zero => intro q x1 hm; exact absurd hm (Nat.not_lt_zero _)
    | succ fu ih =>
      intro q x1 hm e1 hq H locs ls hI hl
      subst e1
      refine r_iload_n hC hl dX7_init_114 0 rfl ?_
      refine r_bipush hC (by decide) dX7_init_115 ?_
      refine r_icmp_ge (tgt := 143) hC (by omega) (by omega) dX7_init_117 (by decide) (fun c_1 => ?_) (fun c_1 => ?_)
      · obtain rfl : q = 12 := by omega
        rw [rq_e] at hI
        exact g_vret hC hr hlk hKI hsz hI (wl := moW X h0) (r0, r1, r2, r3, r4, r5, r6, r7, r8, r9, r10) trivial rfl dX7_init_143
      · skip
        refine r_aload_n hC hl dX7_init_120 1 rfl ?_
        refine g_get (k := 0) hC hI iw_X7 rfl rfl 0 (by decide) fl_RX7_7 rfl (v := .ref r0) rfl dX7_init_121 ?_
        refine r_bipush hC (by decide) dX7_init_124 ?_
        refine r_iload_n hC hl dX7_init_126 0 rfl ?_
        refine r_iadd hC dX7_init_127 ?_
        refine r_iconst hC dX7_init_128 ?_
        refine r_iconst hC dX7_init_129 ?_
        refine r_iload_n hC hl dX7_init_130 0 rfl ?_
        refine r_imul hC dX7_init_131 ?_
        refine r_bipush hC (by decide) dX7_init_132 ?_
        refine r_irem hC (by omega) (by omega) dX7_init_134 ?_
        refine r_iadd hC dX7_init_135 ?_
        refine g_iast (k := 1) (n := 58) (L1 := [(h0, .inr (5, [.ref r0, .ref r1, .ref r2, .ref r3, .ref r4, .int (J 0), .int (J 0), .int (J 0), .int (J 0), .long (JL 0), .int (J 0), .int (J 0), .ref r5, .ref r6, .ref r7, .ref r8, .ref r9, .ref r10, .int (J 0)])), (r0, arI X 58 (rqF (q + 1))), (r1, arI X 7 (fun _ => 0)), (r2, arI X 58 (fun _ => 0)), (r3, arI X 58 (fun _ => 0)), (r4, arI X 120 (fun _ => 0)), (r5, arI X 4 (fun _ => 0)), (r6, arI X 4 (fun _ => 0)), (r7, arL X 160 (fun _ => 0)), (r8, arL X 40 (fun _ => 0)), (r9, arI X 58 (fun _ => 0)), (r10, arI X 58 (fun _ => 0))]) hC hI rfl (by decide) (6 + q) (by omega) (by omega) (by rw [rq_s]; rfl) dX7_init_136 (fun H locs hI => ?_)
        refine r_iinc (lv1 := [(1, .int (J ((q : Int) + 1))), (0, .ref h0)]) hC hl dX7_init_137 0 rfl (by decide) rfl (fun ls hl => ?_)
        refine r_goto (tgt := 114) hC dX7_init_140 (by decide) ?_
        exact ih (q + 1) _ (by omega) rfl (by omega) _ _ _ hI hl
  refine r_iconst hC dX7_init_112 ?_
  refine r_istore_n (lv1 := [(1, .int (J 0)), (0, .ref h0)]) hC hl dX7_init_113 1 rfl (by decide) rfl (fun ls hl => ?_)
  exact hL 13 0 0 (by decide) rfl (by decide) _ _ _ hI hl
