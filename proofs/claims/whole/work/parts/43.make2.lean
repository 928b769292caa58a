def row0 (j : Nat) : Int := if j = 1 then 3 else if j = 3 then 5 else if j = 4 then 5 else if 6 ≤ j ∧ j < 18 then 4 + (5 * ((j - 6 : Nat) : Int)) % 13 else 0
def dqF (q : Nat) : Nat → Int := fun j => if j < q then 4 + (5 * (j : Int)) % 13 else 0
theorem dq_0 : dqF 0 = fun _ => 0 := funext fun j => if_neg (Nat.not_lt_zero j)
theorem dq_s (q : Nat) : upR (dqF q) q (4 + (5 * (q : Int)) % 13) = dqF (q + 1) := by
  funext j
  unfold upR dqF
  by_cases h : j = q
  · subst h; rw [if_pos rfl, if_pos (by omega)]
  · rw [if_neg h]
    by_cases h2 : j < q
    · rw [if_pos h2, if_pos (by omega)]
    · rw [if_neg h2, if_neg (by omega)]
theorem dq_r (X : XT) : arI X 12 (dqF 12) = arI X 12 (fun j => row0 (6 + j)) := arI_cg (fun j hj => by
  unfold dqF row0
  rw [if_pos hj, if_neg (by omega), if_neg (by omega), if_neg (by omega), if_pos (by omega), show 6 + j - 6 = j by omega])
def rqF (q : Nat) : Nat → Int := fun j => if j = 1 then 3 else if j = 3 then 5 else if j = 4 then 5 else if 6 ≤ j ∧ j < 6 + q then 4 + (5 * ((j - 6 : Nat) : Int)) % 13 else 0
theorem rq_0 : upR (upR (upR (fun _ => 0) 1 3) 3 5) 4 5 = rqF 0 := by
  funext j
  simp only [upR, rqF]
  (repeat' split) <;> first | rfl | omega
theorem rq_s {q : Nat} : upR (rqF q) (6 + q) (4 + (5 * (q : Int)) % 13) = rqF (q + 1) := by
  funext j
  unfold upR rqF
  by_cases h : j = 6 + q
  · subst h
    rw [if_pos rfl, if_neg (by omega), if_neg (by omega), if_neg (by omega), if_pos (by omega), show 6 + q - 6 = q by omega]
  · rw [if_neg h]
    (repeat' split) <;> first | rfl | omega
theorem rq_e : rqF 12 = row0 := by
  funext j
  unfold rqF row0
  (repeat' split) <;> first | rfl | omega
abbrev arQ (c : ClassId) (n : Nat) (f : Nat → Option Nat) : va_E := .inl (c, n, .inr (.inr (.inr (.inr f))))
abbrev pg0 : va_E := .inr (0, [.int (J 0), .int (J 0), .int (J 0), .int (J 0), .int (J 0)])
abbrev scO (d pa su : Nat) : va_E := .inr (1, [.int (J 0), .int (J 3), .int (J 0), .int (J 5), .int (J 5), .int (J 0), .ref d, .ref pa, .ref su])
/-- a scriptorium's cells: its own, its rows, its pages -/
def scW (X : XT) (h : Nat) (u : Nat × Nat × Nat × List Nat) : va_W := [(h, scO u.1 u.2.1 u.2.2.1), (u.1, arI X 12 (fun j => row0 (6 + j))), (u.2.1, arQ X.2.1.2.2.1 8 (fun j => u.2.2.2[j]?)), (u.2.2.1, arI X 8 (fun _ => 0))] ++ u.2.2.2.map (fun z => (z, pg0))
theorem up_ps {ps : List Nat} {q z : Nat} (h : ps.length = q) : va_up (fun j => ps[j]?) q (some z) = fun j => (ps ++ [z])[j]? := by
  subst h
  funext j
  unfold va_up
  by_cases e : j = ps.length
  · subst e; rw [if_pos rfl, List.getElem?_append_right (Nat.le_refl _), Nat.sub_self]; rfl
  · rw [if_neg e]
    show ps[j]? = (ps ++ [z])[j]?
    by_cases g : j < ps.length
    · rw [List.getElem?_append_left g]
    · have g1 : ps[j]? = none := List.getElem?_eq_none (by omega)
      have g2 : [z][j - ps.length]? = none := List.getElem?_eq_none (by show 1 ≤ j - ps.length; omega)
      rw [List.getElem?_append_right (by omega), g1, g2]
theorem at_end {A : Type} (M : List A) (x : A) (N : List A) : (M ++ (x :: N))[M.length]? = some x := by
  rw [List.getElem?_append_right (Nat.le_refl _), Nat.sub_self]; rfl

set_option maxHeartbeats 4000000 in
set_option maxRecDepth 100000 in
theorem k_X1 (l : Launch) (X : XT) (B : Nat) (h0 : Nat) (Wl : va_W) (fs : List Value) : GT l X B 1 20 0 0 yX1_init cX1_init 1 h0 Wl (.inr (0, fs)) (fun _ : Unit => True) (fun _ => [(h0, .inr (0, fs))]) := by
  refine GT.of (by decide +kernel) rfl (by decide) ?_
  intro p e s m below meth c ls hC hr hlk hnm hKI hsz hI hl
  have hC : Cx p c cX1_init 1 s m [Value.ref h0].toArray RX1 X B := hC
  refine r_aload_n hC hl dX1_init_0 0 rfl ?_
  refine g_obj hC hl ml_RX1_1 ⟨(Nat.le_of_ble_eq_true rfl), (Nat.le_of_ble_eq_true rfl)⟩ (by decide) dX1_init_1 ?_
  exact g_vret hC hr hlk hKI hsz hI () trivial rfl dX1_init_4

set_option maxHeartbeats 4000000 in
set_option maxRecDepth 100000 in
theorem k_X3 (l : Launch) (X : XT) (B : Nat) (h0 : Nat) (Wl : va_W) : GT l X B 1 20 1 40 yX3_init cX3_init 1 h0 Wl (.inr (2, [.int (J 0), .int (J 0), .null])) (fun _ : Nat => True) (fun u => [(h0, .inr (2, [.int (J 0), .int (J 0), .ref u])), (u, arL X 40 (fun _ => 0))]) := by
  refine GT.of (by decide +kernel) rfl (by decide) ?_
  intro p e s m below meth c ls hC hr hlk hnm hKI hsz hI hl
  have hC : Cx p c cX3_init 1 s m [Value.ref h0].toArray RX3 X B := hC
  refine r_aload_n hC hl dX3_init_0 0 rfl ?_
  refine g_obj hC hl ml_RX3_1 ⟨(Nat.le_of_ble_eq_true rfl), (Nat.le_of_ble_eq_true rfl)⟩ (by decide) dX3_init_1 ?_
  refine r_aload_n hC hl dX3_init_4 0 rfl ?_
  refine r_iconst hC dX3_init_5 ?_
  refine g_put (k := 0) (L1 := [(h0, .inr (2, [.int (J 0), .int (J 0), .null]))]) hC hI iw_X3 tyX3_ok nmX3 rfl rfl 0 (by decide) fl_RX3_7 rfl rfl (ty := .int) (by decide +kernel) rfl rfl (Nat.le_of_ble_eq_true rfl) rfl dX3_init_6 (fun H locs hI => ?_)
  refine r_aload_n hC hl dX3_init_9 0 rfl ?_
  refine r_iconst hC dX3_init_10 ?_
  refine g_put (k := 0) (L1 := [(h0, .inr (2, [.int (J 0), .int (J 0), .null]))]) hC hI iw_X3 tyX3_ok nmX3 rfl rfl 1 (by decide) fl_RX3_13 rfl rfl (ty := .int) (by decide +kernel) rfl rfl (Nat.le_of_ble_eq_true rfl) rfl dX3_init_11 (fun H locs hI => ?_)
  refine r_aload_n hC hl dX3_init_14 0 rfl ?_
  refine r_bipush hC (by decide) dX3_init_15 ?_
  refine g_newL hC hsz hI 40 (by decide) (Nat.le_of_ble_eq_true rfl) (Nat.le_of_ble_eq_true rfl) dX3_init_17 (fun q1 H hI => ?_)
  have hI : IH X B s (Wl ++ [(h0, .inr (2, [.int (J 0), .int (J 0), .null])), (q1, arL X 40 (fun _ => 0))]) H _ := hI
  refine g_putF (k := 0) (L1 := [(h0, .inr (2, [.int (J 0), .int (J 0), .ref q1])), (q1, arL X 40 (fun _ => 0))]) hC hI iw_X3 tyX3_ok nmX3 rfl rfl 2 (by decide) fl_RX3_16 rfl rfl hnm rfl (ty := .array .long) (by decide +kernel) rfl rfl (Nat.le_of_ble_eq_true rfl) rfl dX3_init_19 (fun H locs hI => ?_)
  exact g_vret hC hr hlk hKI hsz hI q1 trivial rfl dX3_init_22

set_option maxHeartbeats 4000000 in
set_option maxRecDepth 100000 in
theorem k_X4 (l : Launch) (X : XT) (B : Nat) (h0 : Nat) (Wl : va_W) : GT l X B 1 20 1 120 yX4_init cX4_init 1 h0 Wl (.inr (3, [.int (J 0), .int (J 0), .int (J 0), .int (J 0), .int (J 0), .null])) (fun _ : Nat => True) (fun u => [(h0, .inr (3, [.int (J 0), .int (J 0), .int (J 0), .int (J 0), .int (J 0), .ref u])), (u, arI X 120 (fun _ => 0))]) := by
  refine GT.of (by decide +kernel) rfl (by decide) ?_
  intro p e s m below meth c ls hC hr hlk hnm hKI hsz hI hl
  have hC : Cx p c cX4_init 1 s m [Value.ref h0].toArray RX4 X B := hC
  refine r_aload_n hC hl dX4_init_0 0 rfl ?_
  refine g_obj hC hl ml_RX4_1 ⟨(Nat.le_of_ble_eq_true rfl), (Nat.le_of_ble_eq_true rfl)⟩ (by decide) dX4_init_1 ?_
  refine r_aload_n hC hl dX4_init_4 0 rfl ?_
  refine r_iconst hC dX4_init_5 ?_
  refine g_put (k := 0) (L1 := [(h0, .inr (3, [.int (J 0), .int (J 0), .int (J 0), .int (J 0), .int (J 0), .null]))]) hC hI iw_X4 tyX4_ok nmX4 rfl rfl 0 (by decide) fl_RX4_7 rfl rfl (ty := .int) (by decide +kernel) rfl rfl (Nat.le_of_ble_eq_true rfl) rfl dX4_init_6 (fun H locs hI => ?_)
  refine r_aload_n hC hl dX4_init_9 0 rfl ?_
  refine r_iconst hC dX4_init_10 ?_
  refine g_put (k := 0) (L1 := [(h0, .inr (3, [.int (J 0), .int (J 0), .int (J 0), .int (J 0), .int (J 0), .null]))]) hC hI iw_X4 tyX4_ok nmX4 rfl rfl 1 (by decide) fl_RX4_13 rfl rfl (ty := .int) (by decide +kernel) rfl rfl (Nat.le_of_ble_eq_true rfl) rfl dX4_init_11 (fun H locs hI => ?_)
  refine r_aload_n hC hl dX4_init_14 0 rfl ?_
  refine r_iconst hC dX4_init_15 ?_
  refine g_put (k := 0) (L1 := [(h0, .inr (3, [.int (J 0), .int (J 0), .int (J 0), .int (J 0), .int (J 0), .null]))]) hC hI iw_X4 tyX4_ok nmX4 rfl rfl 2 (by decide) fl_RX4_16 rfl rfl (ty := .int) (by decide +kernel) rfl rfl (Nat.le_of_ble_eq_true rfl) rfl dX4_init_16 (fun H locs hI => ?_)
  refine r_aload_n hC hl dX4_init_19 0 rfl ?_
  refine r_iconst hC dX4_init_20 ?_
  refine g_put (k := 0) (L1 := [(h0, .inr (3, [.int (J 0), .int (J 0), .int (J 0), .int (J 0), .int (J 0), .null]))]) hC hI iw_X4 tyX4_ok nmX4 rfl rfl 3 (by decide) fl_RX4_19 rfl rfl (ty := .int) (by decide +kernel) rfl rfl (Nat.le_of_ble_eq_true rfl) rfl dX4_init_21 (fun H locs hI => ?_)
  refine r_aload_n hC hl dX4_init_24 0 rfl ?_
  refine r_iconst hC dX4_init_25 ?_
  refine g_put (k := 0) (L1 := [(h0, .inr (3, [.int (J 0), .int (J 0), .int (J 0), .int (J 0), .int (J 0), .null]))]) hC hI iw_X4 tyX4_ok nmX4 rfl rfl 4 (by decide) fl_RX4_22 rfl rfl (ty := .int) (by decide +kernel) rfl rfl (Nat.le_of_ble_eq_true rfl) rfl dX4_init_26 (fun H locs hI => ?_)
  refine r_aload_n hC hl dX4_init_29 0 rfl ?_
  refine r_bipush hC (by decide) dX4_init_30 ?_
  refine g_newI hC hsz hI 120 (by decide) (Nat.le_of_ble_eq_true rfl) (Nat.le_of_ble_eq_true rfl) dX4_init_32 (fun q1 H hI => ?_)
  have hI : IH X B s (Wl ++ [(h0, .inr (3, [.int (J 0), .int (J 0), .int (J 0), .int (J 0), .int (J 0), .null])), (q1, arI X 120 (fun _ => 0))]) H _ := hI
  refine g_putF (k := 0) (L1 := [(h0, .inr (3, [.int (J 0), .int (J 0), .int (J 0), .int (J 0), .int (J 0), .ref q1])), (q1, arI X 120 (fun _ => 0))]) hC hI iw_X4 tyX4_ok nmX4 rfl rfl 5 (by decide) fl_RX4_25 rfl rfl hnm rfl (ty := .array .int) (by decide +kernel) rfl rfl (Nat.le_of_ble_eq_true rfl) rfl dX4_init_34 (fun H locs hI => ?_)
  exact g_vret hC hr hlk hKI hsz hI q1 trivial rfl dX4_init_37

set_option maxHeartbeats 4000000 in
set_option maxRecDepth 100000 in
theorem k_X2 (l : Launch) (X : XT) (B : Nat) (h0 : Nat) (Wl : va_W) : GT l X B 2 40 11 68 yX2_init cX2_init 2 h0 Wl (.inr (1, [.int (J 0), .int (J 0), .int (J 0), .int (J 0), .int (J 0), .int (J 0), .null, .null, .null])) (fun u : Nat × Nat × Nat × List Nat => u.2.2.2.length = 8) (fun u => scW X h0 u) := by
  refine GT.of (by decide +kernel) rfl (by decide) ?_
  intro p e s m below meth c ls hC hr hlk hnm hKI hsz hI hl
  have hC : Cx p c cX2_init 2 s m [Value.ref h0].toArray RX2 X B := hC
  refine r_aload_n hC hl dX2_init_0 0 rfl ?_
  refine g_obj hC hl ml_RX2_1 ⟨(Nat.le_of_ble_eq_true rfl), (Nat.le_of_ble_eq_true rfl)⟩ (by decide) dX2_init_1 ?_
  refine r_aload_n hC hl dX2_init_4 0 rfl ?_
  refine r_iconst hC dX2_init_5 ?_
  refine g_put (k := 0) (L1 := [(h0, .inr (1, [.int (J 0), .int (J 0), .int (J 0), .int (J 0), .int (J 0), .int (J 0), .null, .null, .null]))]) hC hI iw_X2 tyX2_ok nmX2 rfl rfl 0 (by decide) fl_RX2_7 rfl rfl (ty := .int) (by decide +kernel) rfl rfl (Nat.le_of_ble_eq_true rfl) rfl dX2_init_6 (fun H locs hI => ?_)
  refine r_aload_n hC hl dX2_init_9 0 rfl ?_
  refine r_iconst hC dX2_init_10 ?_
  refine g_put (k := 0) (L1 := [(h0, .inr (1, [.int (J 0), .int (J 3), .int (J 0), .int (J 0), .int (J 0), .int (J 0), .null, .null, .null]))]) hC hI iw_X2 tyX2_ok nmX2 rfl rfl 1 (by decide) fl_RX2_13 rfl rfl (ty := .int) (by decide +kernel) rfl rfl (Nat.le_of_ble_eq_true rfl) rfl dX2_init_11 (fun H locs hI => ?_)
  refine r_aload_n hC hl dX2_init_14 0 rfl ?_
  refine r_iconst hC dX2_init_15 ?_
  refine g_put (k := 0) (L1 := [(h0, .inr (1, [.int (J 0), .int (J 3), .int (J 0), .int (J 0), .int (J 0), .int (J 0), .null, .null, .null]))]) hC hI iw_X2 tyX2_ok nmX2 rfl rfl 2 (by decide) fl_RX2_16 rfl rfl (ty := .int) (by decide +kernel) rfl rfl (Nat.le_of_ble_eq_true rfl) rfl dX2_init_16 (fun H locs hI => ?_)
  refine r_aload_n hC hl dX2_init_19 0 rfl ?_
  refine r_iconst hC dX2_init_20 ?_
  refine g_put (k := 0) (L1 := [(h0, .inr (1, [.int (J 0), .int (J 3), .int (J 0), .int (J 5), .int (J 0), .int (J 0), .null, .null, .null]))]) hC hI iw_X2 tyX2_ok nmX2 rfl rfl 3 (by decide) fl_RX2_19 rfl rfl (ty := .int) (by decide +kernel) rfl rfl (Nat.le_of_ble_eq_true rfl) rfl dX2_init_21 (fun H locs hI => ?_)
  refine r_aload_n hC hl dX2_init_24 0 rfl ?_
  refine r_iconst hC dX2_init_25 ?_
  refine g_put (k := 0) (L1 := [(h0, .inr (1, [.int (J 0), .int (J 3), .int (J 0), .int (J 5), .int (J 5), .int (J 0), .null, .null, .null]))]) hC hI iw_X2 tyX2_ok nmX2 rfl rfl 4 (by decide) fl_RX2_22 rfl rfl (ty := .int) (by decide +kernel) rfl rfl (Nat.le_of_ble_eq_true rfl) rfl dX2_init_26 (fun H locs hI => ?_)
  refine r_aload_n hC hl dX2_init_29 0 rfl ?_
  refine r_iconst hC dX2_init_30 ?_
  refine g_put (k := 0) (L1 := [(h0, .inr (1, [.int (J 0), .int (J 3), .int (J 0), .int (J 5), .int (J 5), .int (J 0), .null, .null, .null]))]) hC hI iw_X2 tyX2_ok nmX2 rfl rfl 5 (by decide) fl_RX2_25 rfl rfl (ty := .int) (by decide +kernel) rfl rfl (Nat.le_of_ble_eq_true rfl) rfl dX2_init_31 (fun H locs hI => ?_)
  refine r_aload_n hC hl dX2_init_34 0 rfl ?_
  refine r_bipush hC (by decide) dX2_init_35 ?_
  refine g_newI hC hsz hI 12 (by decide) (Nat.le_of_ble_eq_true rfl) (Nat.le_of_ble_eq_true rfl) dX2_init_37 (fun qd H hI => ?_)
  have hI : IH X B s (Wl ++ [(h0, .inr (1, [.int (J 0), .int (J 3), .int (J 0), .int (J 5), .int (J 5), .int (J 0), .null, .null, .null])), (qd, arI X 12 (fun _ => 0))]) H _ := hI
  refine g_putF (k := 0) (L1 := [(h0, .inr (1, [.int (J 0), .int (J 3), .int (J 0), .int (J 5), .int (J 5), .int (J 0), .ref qd, .null, .null])), (qd, arI X 12 (fun _ => 0))]) hC hI iw_X2 tyX2_ok nmX2 rfl rfl 6 (by decide) fl_RX2_28 rfl rfl hnm rfl (ty := .array .int) (by decide +kernel) rfl rfl (Nat.le_of_ble_eq_true rfl) rfl dX2_init_39 (fun H locs hI => ?_)
  refine r_aload_n hC hl dX2_init_42 0 rfl ?_
  refine r_bipush hC (by decide) dX2_init_43 ?_
  refine g_newq hC hsz hI (t := 2) rfl kl_RX2_32 hKI.1 8 (by decide) (Nat.le_of_ble_eq_true rfl) (Nat.le_of_ble_eq_true rfl) dX2_init_45 (fun qp H hI => ?_)
  have hI : IH X B s (Wl ++ [(h0, .inr (1, [.int (J 0), .int (J 3), .int (J 0), .int (J 5), .int (J 5), .int (J 0), .ref qd, .null, .null])), (qd, arI X 12 (fun _ => 0)), (qp, arQ X.2.1.2.2.1 8 (fun _ => none))]) H _ := hI
  refine g_putF (k := 0) (L1 := [(h0, .inr (1, [.int (J 0), .int (J 3), .int (J 0), .int (J 5), .int (J 5), .int (J 0), .ref qd, .ref qp, .null])), (qd, arI X 12 (fun _ => 0)), (qp, arQ X.2.1.2.2.1 8 (fun _ => none))]) hC hI iw_X2 tyX2_ok nmX2 rfl rfl 7 (by decide) fl_RX2_34 rfl rfl hnm rfl (ty := .array (.object "InkNights$Page")) (by decide +kernel) rfl rfl (Nat.le_of_ble_eq_true rfl) rfl dX2_init_48 (fun H locs hI => ?_)
  refine r_aload_n hC hl dX2_init_51 0 rfl ?_
  refine r_bipush hC (by decide) dX2_init_52 ?_
  refine g_newI hC hsz hI 8 (by decide) (Nat.le_of_ble_eq_true rfl) (Nat.le_of_ble_eq_true rfl) dX2_init_54 (fun qs H hI => ?_)
  have hI : IH X B s (Wl ++ [(h0, .inr (1, [.int (J 0), .int (J 3), .int (J 0), .int (J 5), .int (J 5), .int (J 0), .ref qd, .ref qp, .null])), (qd, arI X 12 (fun _ => 0)), (qp, arQ X.2.1.2.2.1 8 (fun _ => none)), (qs, arI X 8 (fun _ => 0))]) H _ := hI
  refine g_putF (k := 0) (L1 := [(h0, .inr (1, [.int (J 0), .int (J 3), .int (J 0), .int (J 5), .int (J 5), .int (J 0), .ref qd, .ref qp, .ref qs])), (qd, arI X 12 (fun _ => 0)), (qp, arQ X.2.1.2.2.1 8 (fun _ => none)), (qs, arI X 8 (fun _ => 0))]) hC hI iw_X2 tyX2_ok nmX2 rfl rfl 8 (by decide) fl_RX2_38 rfl rfl hnm rfl (ty := .array .int) (by decide +kernel) rfl rfl (Nat.le_of_ble_eq_true rfl) rfl dX2_init_56 (fun H locs hI => ?_)
  have hP89 : ∀ (fu : Nat) (ps : List Nat) (x1 : Int), 8 - ps.length < fu → x1 = ((ps.length : Nat) : Int) → ps.length ≤ 8 → ∀ (H : Heap) (locs : List Loc) (ls : Array Slot), IH X B s (Wl ++ ([(h0, .inr (1, [.int (J 0), .int (J 3), .int (J 0), .int (J 5), .int (J 5), .int (J 0), .ref qd, .ref qp, .ref qs])), (qd, arI X 12 (dqF 12)), (qp, arQ X.2.1.2.2.1 8 (fun j => ps[j]?)), (qs, arI X 8 (fun _ => 0))] ++ ps.map (fun z => (z, pg0)))) H locs → lv_has ls 2 [(1, .int (J x1)), (0, .ref h0)] → W p l e (rmG 2 40 11 68) s m [Value.ref h0].toArray below meth c H locs (3 + ps.length) (28 + 5 * ps.length) (MQ below (GQ X B Wl (fun u : Nat × Nat × Nat × List Nat => u.2.2.2.length = 8) (fun u => scW X h0 u)) [Value.ref h0].toArray s 11 68 (fun q => B ≤ q)) (F0 m 89 ls []) := by
    intro fu
    induction fu with
    | zero => intro ps x1 hm; exact absurd hm (Nat.not_lt_zero _)
    | succ fu ih =>
      intro ps x1 hm e1 hq H locs ls hI hl
      subst e1
      refine r_iload_n hC hl dX2_init_89 0 rfl ?_
      refine r_bipush hC (by decide) dX2_init_90 ?_
      refine r_icmp_ge (tgt := 114) hC (by omega) (by omega) dX2_init_92 (by decide) (fun c_1 => ?_) (fun c_1 => ?_)
      · have h8 : ps.length = 8 := by omega
        rw [h8]
        exact g_vret hC hr hlk hKI hsz hI (qd, qp, qs, ps) h8 (by rw [dq_r]; rfl) dX2_init_114
      · skip
        refine r_aload_n hC hl dX2_init_95 1 rfl ?_
        refine g_get (k := 0) hC hI iw_X2 rfl rfl 7 (by decide) fl_RX2_34 rfl (v := .ref qp) rfl dX2_init_96 ?_
        refine r_iload_n hC hl dX2_init_99 0 rfl ?_
        refine g_new (ci := 0) (fs := [.int (J 0), .int (J 0), .int (J 0), .int (J 0), .int (J 0)]) hC hsz hI iw_X1 tyX1 tyX1_ok kl_RX2_32 wn_RX1 wi_RX1 rfl (fun j hj => by rcases (show j = 0 ∨ j = 1 ∨ j = 2 ∨ j = 3 ∨ j = 4 by omega) with rfl | rfl | rfl | rfl | rfl <;> rfl) (by show 3 + ps.length + 1 ≤ 11; omega) (by show 28 + 5 * ps.length + 5 ≤ 68; omega) dX2_init_100 (fun z H hI => ?_)
        refine r_dup hC rfl dX2_init_103 ?_
        refine g_cN hC hKI hsz hI hl (k_X1 l X B z (Wl ++ ([(h0, .inr (1, [.int (J 0), .int (J 3), .int (J 0), .int (J 5), .int (J 5), .int (J 0), .ref qd, .ref qp, .ref qs])), (qd, arI X 12 (dqF 12)), (qp, arQ X.2.1.2.2.1 8 (fun j => ps[j]?)), (qs, arI X 8 (fun _ => 0))] ++ ps.map (fun z => (z, pg0)))) [.int (J 0), .int (J 0), .int (J 0), .int (J 0), .int (J 0)]) hKI.2.2.1 ei_X1 ⟨(Nat.le_of_ble_eq_true rfl), (Nat.le_of_ble_eq_true rfl)⟩ ⟨by show 3 + ps.length + 1 + 0 ≤ 11; omega, by show 28 + 5 * ps.length + 5 + 0 ≤ 68; omega⟩ (Nat.le_of_ble_eq_true rfl) dX2_init_104 (fun u H locs hu hI => ?_)
        rw [List.append_assoc] at hI
        refine g_ast (k := 2) (k2 := 4 + ps.length) (t := 2) (ci := 0) (r := (RX1, TX1, 5)) (vs := [.int (J 0), .int (J 0), .int (J 0), .int (J 0), .int (J 0)]) (L1 := ([(h0, .inr (1, [.int (J 0), .int (J 3), .int (J 0), .int (J 5), .int (J 5), .int (J 0), .ref qd, .ref qp, .ref qs])), (qd, arI X 12 (dqF 12)), (qp, arQ X.2.1.2.2.1 8 (fun j => (ps ++ [z])[j]?)), (qs, arI X 8 (fun _ => 0))] ++ (ps ++ [z]).map (fun z => (z, pg0)))) hC hI rfl rfl ?_ rfl (by decide) ps.length rfl (by omega) ?_ dX2_init_107 (fun H locs hI => ?_)
        · have h1 := at_end ([(h0, .inr (1, [.int (J 0), .int (J 3), .int (J 0), .int (J 5), .int (J 5), .int (J 0), .ref qd, .ref qp, .ref qs])), (qd, arI X 12 (dqF 12)), (qp, arQ X.2.1.2.2.1 8 (fun j => ps[j]?)), (qs, arI X 8 (fun _ => 0))] ++ ps.map (fun z => (z, pg0))) (z, pg0) []
          rw [List.length_append, List.length_map] at h1
          exact h1
        · rw [up_ps rfl, List.map_append]; rfl
        refine r_iinc (lv1 := [(1, .int (J (((ps.length : Nat) : Int) + 1))), (0, .ref h0)]) hC hl dX2_init_108 0 rfl (by decide) rfl (fun ls hl => ?_)
        refine r_goto (tgt := 89) hC dX2_init_111 (by decide) ?_
        refine W.widen (k := 3 + (ps ++ [z]).length) (n := 28 + 5 * (ps ++ [z]).length) (by rw [List.length_append]; show 3 + ps.length + 1 + 0 ≤ 3 + (ps.length + 1); omega) (by rw [List.length_append]; show 28 + 5 * ps.length + 5 + 0 ≤ 28 + 5 * (ps.length + 1); omega) ?_
        exact ih (ps ++ [z]) _ (by rw [List.length_append]; show 8 - (ps.length + 1) < fu; omega) (by rw [List.length_append]; rfl) (by rw [List.length_append]; show ps.length + 1 ≤ 8; omega) _ _ _ hI hl
  have hP61 : ∀ (fu q : Nat) (x1 : Int), 12 - q < fu → x1 = (q : Int) → q ≤ 12 → ∀ (H : Heap) (locs : List Loc) (ls : Array Slot), IH X B s (Wl ++ [(h0, .inr (1, [.int (J 0), .int (J 3), .int (J 0), .int (J 5), .int (J 5), .int (J 0), .ref qd, .ref qp, .ref qs])), (qd, arI X 12 (dqF q)), (qp, arQ X.2.1.2.2.1 8 (fun _ => none)), (qs, arI X 8 (fun _ => 0))]) H locs → lv_has ls 2 [(1, .int (J x1)), (0, .ref h0)] → W p l e (rmG 2 40 11 68) s m [Value.ref h0].toArray below meth c H locs 3 28 (MQ below (GQ X B Wl (fun u : Nat × Nat × Nat × List Nat => u.2.2.2.length = 8) (fun u => scW X h0 u)) [Value.ref h0].toArray s 11 68 (fun q => B ≤ q)) (F0 m 61 ls []) := by
    intro fu
    induction fu with
    | zero => intro q x1 hm; exact absurd hm (Nat.not_lt_zero _)
    | succ fu ih =>
      intro q x1 hm e1 hq H locs ls hI hl
      subst e1
      refine r_iload_n hC hl dX2_init_61 0 rfl ?_
      refine r_bipush hC (by decide) dX2_init_62 ?_
      refine r_icmp_ge (tgt := 87) hC (by omega) (by omega) dX2_init_64 (by decide) (fun c_1 => ?_) (fun c_1 => ?_)
      · obtain rfl : q = 12 := by omega
        refine r_iconst hC dX2_init_87 ?_
        refine r_istore_n (lv1 := [(1, .int (J 0)), (0, .ref h0)]) hC hl dX2_init_88 1 rfl (by decide) rfl (fun ls hl => ?_)
        exact hP89 9 [] 0 (by decide) rfl (by decide) _ _ _ hI hl
      · skip
        refine r_aload_n hC hl dX2_init_67 1 rfl ?_
        refine g_get (k := 0) hC hI iw_X2 rfl rfl 6 (by decide) fl_RX2_28 rfl (v := .ref qd) rfl dX2_init_68 ?_
        refine r_iload_n hC hl dX2_init_71 0 rfl ?_
        refine r_iconst hC dX2_init_72 ?_
        refine r_iconst hC dX2_init_73 ?_
        refine r_iload_n hC hl dX2_init_74 0 rfl ?_
        refine r_imul hC dX2_init_75 ?_
        refine r_bipush hC (by decide) dX2_init_76 ?_
        refine r_irem hC (by omega) (by omega) dX2_init_78 ?_
        refine r_iadd hC dX2_init_79 ?_
        refine g_iast (k := 1) (L1 := [(h0, .inr (1, [.int (J 0), .int (J 3), .int (J 0), .int (J 5), .int (J 5), .int (J 0), .ref qd, .ref qp, .ref qs])), (qd, arI X 12 (dqF (q + 1))), (qp, arQ X.2.1.2.2.1 8 (fun _ => none)), (qs, arI X 8 (fun _ => 0))]) hC hI rfl (by decide) q rfl (by omega) (by rw [dq_s]; rfl) dX2_init_80 (fun H locs hI => ?_)
        refine r_iinc (lv1 := [(1, .int (J ((q : Int) + 1))), (0, .ref h0)]) hC hl dX2_init_81 0 rfl (by decide) rfl (fun ls hl => ?_)
        refine r_goto (tgt := 61) hC dX2_init_84 (by decide) ?_
        exact ih (q + 1) _ (by omega) rfl (by omega) _ _ _ hI hl
  refine r_iconst hC dX2_init_59 ?_
  refine r_istore_n (lv1 := [(1, .int (J 0)), (0, .ref h0)]) hC hl dX2_init_60 1 rfl (by decide) rfl (fun ls hl => ?_)
  exact hP61 13 0 0 (by decide) rfl (by decide) _ _ _ (by rw [dq_0]; exact hI) hl
