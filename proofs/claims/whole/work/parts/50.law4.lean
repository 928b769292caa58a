/-! THE CLAIM OUT OF ONE WALK OF THE LAW'S BODY. Your part is whole_start (and what it stands on); all else here is the same for every law, but numbers. -/
def R_law : String := "InkNightsLaw"
def lw_P (b : Addr) (xs : List Int32) (args : Array Value) (s : State) : Prop := args = #[.ref b] ∧ s.IntsAt b xs ∧ xs.length ≤ 3072 ∧ (Jvm.Cond.and given_1 narrow_1).before args s = true
def lw_Q (_ : Array Value) (s : State) (o : Outcome) (t : State) : Prop := o = .returned (some (.int 1)) ∧ Framed s o t [] 600000 7302250
def lw_Z (below : List Frame) (a : Array Value) (s : State) : State → Prop := fun t => ∃ o, t.status = .running ∧ Ended t below o ∧ lw_Q a s o t
/-- the law's own end, with 1 on the stack, nothing written that was there before, its room as the claim has it -/
theorem lw_ret {p : Program} {l : Launch} {e : Env} {s : State} {m : MethodId} {below : List Frame} {meth : Method} {c : Code} {b : Nat} (hx : p.tables.exec = Jvm.exec) (hb : c.code = code) (hr : meth.sig.returnType = ret) (hlocks : meth.locks = false) {pc : Nat} {H : Heap} {ls : Array Slot} (hdg : decode code pc = .ok (.ireturn, 1)) : W p l e room_1 s m #[Value.ref b] below meth c H [] 600000 7302250 (lw_Z below #[Value.ref b] s) (F0 m pc ls [.int 1]) := by
  intro T hT X
  obtain ⟨fs, hret, hrun, hended, hW, hframe⟩ := X.leave (v := some (.int 1)) (hlocks := hlocks) (fun h => by rw [hr] at h; cases h)
  have hmeth' : T.vm.method? m = some meth := X.method'
  refine ⟨T.setFrames fs, ?_, .returned (some (.int 1)), hrun, hended, rfl, ⟨_, rfl⟩, hW, hframe⟩
  jvm_step X.here [X.here.top, hx, hb, hdg, hmeth', hr, ret, narrow_b1]
  (try refine ⟨rfl, ?_⟩); (try refine ⟨rfl, ?_⟩)
  first | (intro acts; rw [hret _ acts rfl rfl rfl]) | rw [hret _ _ rfl rfl rfl]
  exact Steps.refl _
/-- what holds at the law's entry: the machine, the code, the tables' words (any of lw_tbl by 'hts w (by decide +kernel)'), the script of L ints xs at the cell b, what the Statement gives of the start (any of its parts by flat_of_before) -/
def lw_At (p : Program) (s : State) (m : MethodId) (meth : Method) (c : Code) (b L : Nat) (xs : Nat → Int32) : Prop :=
  p.tables.exec = Jvm.exec ∧ c.code = code ∧ meth.sig.returnType = ret ∧ c.maxLocals = 4 ∧ s.vm.findClass R_law = some m.cls ∧ (∀ w ∈ lw_tbl, w.before #[Value.ref b] s = true) ∧ va_X b L xs s s.heap ∧ b < s.heap.size ∧ meth.locks = false ∧ (Jvm.Cond.and given_1 narrow_1).before #[Value.ref b] s = true

theorem st0_z (b : Nat) (h : ¬ (b < 3 ∨ b = 20)) (j : Nat) : st0 b j = 0 := if_neg h
theorem st0_r (b : Nat) (h : b < 3 ∨ b = 20) : st0 b = row0 := funext fun _ => if_pos h
theorem vr0 : VR 9999 row0 := by
  unfold VR VP
  decide +kernel
theorem rel0 : Rel st0 := by
  have z : ∀ b, ¬ (b < 3 ∨ b = 20) → st0 b = fun _ => 0 := fun b h => funext (st0_z b h)
  refine ⟨by rw [st0_r 0 (by decide)]; exact vr0, by rw [st0_r 0 (by decide), st0_r 20 (by decide)], by rw [z 21 (by decide), z 3 (by decide)], by rw [z 24 (by decide), z 4 (by decide)], by rw [z 25 (by decide), z 5 (by decide)], by rw [z 5 (by decide)]; decide, fun j _ => by rw [z 4 (by decide)]; exact (by decide : (0 : Int) ≤ 0 ∧ (0 : Int) ≤ 255), by rw [z 26 (by decide), z 6 (by decide)], by rw [z 27 (by decide), z 7 (by decide)], fun t ht => ?_, by rw [z 25 (by decide), z 11 (by decide)], by rw [z 11 (by decide)]; decide, fun h => ?_⟩
  · rw [z 6 (by decide), z 7 (by decide), z 30 (by decide), z (12 + t) (by omega)]
    exact ⟨Or.inl rfl, (by decide : (0 : Int) ≤ 0 ∧ (0 : Int) ≤ 40), fun j _ => ⟨(by decide : (-9223372036854775808 : Int) ≤ 0 ∧ (0 : Int) ≤ 9223372036854775807), rfl⟩⟩
  · rw [z 11 (by decide)] at h
    exact absurd h (by decide)

set_option maxHeartbeats 4000000 in
set_option maxRecDepth 100000 in
/-- one turn of the law -/
theorem law_step {p : Program} {l : Launch} {e : Env} {s : State} {m : MethodId} {below : List Frame} {meth : Method} {c : Code} {X : XT} {a : Nat → Nat} {b L : Nat} {xs : Nat → Int32} (hC : Cx p c cL_law 4 s m #[Value.ref b] RL X s.heap.size) (hr : meth.sig.returnType = ret) (hlk : meth.locks = false) (hX : va_X b L xs s s.heap) (hbl : b < s.heap.size) (hL : L ≤ 3072) {ni : Nat} (hn : 6 * ni ≤ L + 6) (hK : 6 * ni + 6 ≤ L → LK p l e s m below meth c (lw_Z below #[Value.ref b] s) X a b ni) {S : St} (hR : Rel S) {H : Heap} {locs : List Loc} {ls : Array Slot} (hI : IS X a s.heap.size s S H locs) (hl : lv_has ls 4 (lvL a b ni)) : W p l e room_1 s m #[Value.ref b] below meth c H locs 61 1191 (lw_Z below #[Value.ref b] s) (F0 m 18 ls []) := by
  refine r_iload_n hC hl dL_law_18 0 rfl ?_
  refine r_aload_n hC hl dL_law_19 3 rfl ?_
  refine va_slen hC.1 hC.2.1 hX hbl (Nat.not_le.mpr hbl) hI.2.2 dL_law_20 ?_
  rw [show Int32.ofNat L = J (L : Int) from Int32.ofInt_eq_ofNat.symm]
  refine r_bipush hC (by decide) dL_law_21 ?_
  refine r_isub hC dL_law_23 ?_
  refine r_icmp_gt (tgt := 1294) hC (by omega) (by omega) dL_law_24 (by decide) (fun h => ?_) (fun h => ?_)
  · refine r_iconst hC dL_law_1294 ?_
    refine va_forget hI.2.2.2.2 ?_
    refine W.widen (k := 600000) (n := 7302250) (by decide) (by decide) ?_
    exact lw_ret hC.1 hC.2.1 hr hlk dL_law_1295
  · have h6 : 6 * ni + 6 ≤ L := by omega
    have hK := hK h6
    refine r_aload_n hC hl dL_law_27 3 rfl ?_
    refine r_iload_n hC hl dL_law_28 0 rfl ?_
    refine r_sld (i := ni) (j := 0) hC hI hX hbl (by omega) (by omega) hL dL_law_29 ?_
    refine r_bipush hC (by decide) dL_law_30 ?_
    refine lv_iand hC.1 hC.2.1 dL_law_32 ?_
    rw [J_of (J (zF xs ni 0) &&& J 63)]
    obtain ⟨q, hq⟩ : ∃ q : Int, q = (J (zF xs ni 0) &&& J 63).toInt := ⟨_, rfl⟩
    have hqr : -2147483648 ≤ q ∧ q ≤ 2147483647 := by rw [hq]; exact J_rg _
    rw [← hq]
    by_cases c0 : q = 0
    · exact r_tin (tgt := 196) hC 0 c0 (by decide) dL_law_33 (by decide) (by decide) rfl (by decide) (law_jar hC hX hbl hL h6 hK hR hI hl)
    by_cases c1 : q = 1
    · exact r_tin (tgt := 229) hC 1 c1 (by decide) dL_law_33 (by decide) (by decide) rfl (by decide) (law_dark hC hX hbl hL h6 hK hR hI hl)
    by_cases c2 : q = 2
    · exact r_tin (tgt := 262) hC 2 c2 (by decide) dL_law_33 (by decide) (by decide) rfl (by decide) (law_now hC hX hbl hL h6 hK hR hI hl)
    by_cases c3 : q = 3
    · exact r_tin (tgt := 285) hC 3 c3 (by decide) dL_law_33 (by decide) (by decide) rfl (by decide) (law_scribe hC hX hbl hL h6 hK hR hI hl)
    by_cases c4 : q = 4
    · exact r_tin (tgt := 318) hC 4 c4 (by decide) dL_law_33 (by decide) (by decide) rfl (by decide) (law_of hC hX hbl hL h6 hK hR hI hl)
    by_cases c5 : q = 5
    · exact r_tin (tgt := 351) hC 5 c5 (by decide) dL_law_33 (by decide) (by decide) rfl (by decide) (law_set hC hX hbl hL h6 hK hR hI hl)
    by_cases c6 : q = 6
    · exact r_tin (tgt := 394) hC 6 c6 (by decide) dL_law_33 (by decide) (by decide) rfl (by decide) (law_turn hC hX hbl hL h6 hK hR hI hl)
    by_cases c7 : q = 7
    · exact r_tin (tgt := 427) hC 7 c7 (by decide) dL_law_33 (by decide) (by decide) rfl (by decide) (law_as hC hX hbl hL h6 hK hR hI hl)
    by_cases c8 : q = 8
    · exact r_tin (tgt := 460) hC 8 c8 (by decide) dL_law_33 (by decide) (by decide) rfl (by decide) (law_looks hC hX hbl hL h6 hK hR hI hl)
    by_cases c9 : q = 9
    · exact r_tin (tgt := 483) hC 9 c9 (by decide) dL_law_33 (by decide) (by decide) rfl (by decide) (law_over hC hX hbl hL h6 hK hR hI hl)
    by_cases c10 : q = 10
    · exact r_tin (tgt := 506) hC 10 c10 (by decide) dL_law_33 (by decide) (by decide) rfl (by decide) (law_nights hC hX hbl hL h6 hK hR hI hl)
    by_cases c11 : q = 11
    · exact r_tin (tgt := 529) hC 11 c11 (by decide) dL_law_33 (by decide) (by decide) rfl (by decide) (law_ink hC hX hbl hL h6 hK hR hI hl)
    by_cases c12 : q = 12
    · exact r_tin (tgt := 552) hC 12 c12 (by decide) dL_law_33 (by decide) (by decide) rfl (by decide) (law_on hC hX hbl hL h6 hK hR hI hl)
    by_cases c13 : q = 13
    · exact r_tin (tgt := 595) hC 13 c13 (by decide) dL_law_33 (by decide) (by decide) rfl (by decide) (law_all hC hX hbl hL h6 hK hR hI hl)
    by_cases c14 : q = 14
    · exact r_tin (tgt := 618) hC 14 c14 (by decide) dL_law_33 (by decide) (by decide) rfl (by decide) (law_white hC hX hbl hL h6 hK hR hI hl)
    by_cases c15 : q = 15
    · exact r_tin (tgt := 641) hC 15 c15 (by decide) dL_law_33 (by decide) (by decide) rfl (by decide) (law_comes hC hX hbl hL h6 hK hR hI hl)
    by_cases c16 : q = 16
    · exact r_tin (tgt := 664) hC 16 c16 (by decide) dL_law_33 (by decide) (by decide) rfl (by decide) (law_when hC hX hbl hL h6 hK hR hI hl)
    by_cases c17 : q = 17
    · exact r_tin (tgt := 697) hC 17 c17 (by decide) dL_law_33 (by decide) (by decide) rfl (by decide) (law_shade hC hX hbl hL h6 hK hR hI hl)
    by_cases c18 : q = 18
    · exact r_tin (tgt := 720) hC 18 c18 (by decide) dL_law_33 (by decide) (by decide) rfl (by decide) (law_enough hC hX hbl hL h6 hK hR hI hl)
    by_cases c19 : q = 19
    · exact r_tin (tgt := 753) hC 19 c19 (by decide) dL_law_33 (by decide) (by decide) rfl (by decide) (law_kind hC hX hbl hL h6 hK hR hI hl)
    by_cases c20 : q = 20
    · exact r_tin (tgt := 786) hC 20 c20 (by decide) dL_law_33 (by decide) (by decide) rfl (by decide) (law_lamp hC hX hbl hL h6 hK hR hI hl)
    by_cases c21 : q = 21
    · exact r_tin (tgt := 819) hC 21 c21 (by decide) dL_law_33 (by decide) (by decide) rfl (by decide) (law_longest hC hX hbl hL h6 hK hR hI hl)
    by_cases c22 : q = 22
    · exact r_tin (tgt := 842) hC 22 c22 (by decide) dL_law_33 (by decide) (by decide) rfl (by decide) (law_sunny hC hX hbl hL h6 hK hR hI hl)
    by_cases c23 : q = 23
    · exact r_tin (tgt := 875) hC 23 c23 (by decide) dL_law_33 (by decide) (by decide) rfl (by decide) (law_feed hC hX hbl hL h6 hK hR hI hl)
    by_cases c24 : q = 24
    · exact r_tin (tgt := 908) hC 24 c24 (by decide) dL_law_33 (by decide) (by decide) rfl (by decide) (law_wipe hC hX hbl hL h6 hK hR hI hl)
    by_cases c25 : q = 25
    · exact r_tin (tgt := 921) hC 25 c25 (by decide) dL_law_33 (by decide) (by decide) rfl (by decide) (law_text hC hX hbl hL h6 hK hR hI hl)
    by_cases c26 : q = 26
    · exact r_tin (tgt := 934) hC 26 c26 (by decide) dL_law_33 (by decide) (by decide) rfl (by decide) (law_sheet hC hX hbl hL h6 hK hR hI hl)
    by_cases c27 : q = 27
    · exact r_tin (tgt := 977) hC 27 c27 (by decide) dL_law_33 (by decide) (by decide) rfl (by decide) (law_write hC hX hbl hL h6 hK hR hI hl)
    by_cases c28 : q = 28
    · exact r_tin (tgt := 1051) hC 28 c28 (by decide) dL_law_33 (by decide) (by decide) rfl (by decide) (law_copy hC hX hbl hL h6 hK hR hI hl)
    by_cases c29 : q = 29
    · exact r_tin (tgt := 1114) hC 29 c29 (by decide) dL_law_33 (by decide) (by decide) rfl (by decide) (law_lays hC hX hbl hL h6 hK hR hI hl)
    by_cases c30 : q = 30
    · exact r_tin (tgt := 1137) hC 30 c30 (by decide) dL_law_33 (by decide) (by decide) rfl (by decide) (law_book hC hX hbl hL h6 hK hR hI hl)
    by_cases c31 : q = 31
    · exact r_tin (tgt := 1170) hC 31 c31 (by decide) dL_law_33 (by decide) (by decide) rfl (by decide) (law_read hC hX hbl hL h6 hK hR hI hl)
    by_cases c32 : q = 32
    · exact r_tin (tgt := 1203) hC 32 c32 (by decide) dL_law_33 (by decide) (by decide) rfl (by decide) (law_image hC hX hbl hL h6 hK hR hI hl)
    by_cases c33 : q = 33
    · exact r_tin (tgt := 1216) hC 33 c33 (by decide) dL_law_33 (by decide) (by decide) rfl (by decide) (law_undo hC hX hbl hL h6 hK hR hI hl)
    by_cases c34 : q = 34
    · exact r_tin (tgt := 1229) hC 34 c34 (by decide) dL_law_33 (by decide) (by decide) rfl (by decide) (law_tear hC hX hbl hL h6 hK hR hI hl)
    by_cases c35 : q = 35
    · exact r_tin (tgt := 1242) hC 35 c35 (by decide) dL_law_33 (by decide) (by decide) rfl (by decide) (law_count hC hX hbl hL h6 hK hR hI hl)
    by_cases c36 : q = 36
    · exact r_tin (tgt := 1265) hC 36 c36 (by decide) dL_law_33 (by decide) (by decide) rfl (by decide) (law_status hC hX hbl hL h6 hK hR hI hl)
    exact r_tout (tgt := 1288) hC hqr dL_law_33 (by omega) (by decide) (hK S _ _ _ hR hI hl)
theorem law_loop {p : Program} {l : Launch} {e : Env} {s : State} {m : MethodId} {below : List Frame} {meth : Method} {c : Code} {X : XT} {a : Nat → Nat} {b L : Nat} {xs : Nat → Int32} (hC : Cx p c cL_law 4 s m #[Value.ref b] RL X s.heap.size) (hr : meth.sig.returnType = ret) (hlk : meth.locks = false) (hX : va_X b L xs s s.heap) (hbl : b < s.heap.size) (hL : L ≤ 3072) : ∀ (n ni : Nat), L < 6 * ni + n → 6 * ni ≤ L + 6 → ∀ (S : St) (H : Heap) (locs : List Loc) (ls : Array Slot), Rel S → IS X a s.heap.size s S H locs → lv_has ls 4 (lvL a b ni) → W p l e room_1 s m #[Value.ref b] below meth c H locs 61 1191 (lw_Z below #[Value.ref b] s) (F0 m 18 ls []) := by
  intro n
  induction n with
  | zero => exact fun ni h1 h2 S H locs ls hR hI hl => law_step hC hr hlk hX hbl hL h2 (fun h => absurd h (by omega)) hR hI hl
  | succ n ih => exact fun ni h1 h2 S H locs ls hR hI hl => law_step hC hr hlk hX hbl hL h2 (fun h6 S H locs ls hR hI hl => by
      refine r_iinc (lv1 := lvL a b (ni + 1)) hC hl dL_law_1288 0 rfl (by decide) ?_ (fun ls1 hl1 => ?_)
      · show _ = [(3, Value.int (J ((6 * (ni + 1) : Nat) : Int))), (2, Value.ref (a (49))), (1, Value.ref (a (0))), (0, Value.ref b)]
        rw [show (((6 * (ni + 1) : Nat)) : Int) = ((6 * ni : Nat) : Int) + 6 by omega]
        rfl
      · refine r_goto (tgt := 18) hC dL_law_1291 (by decide) ?_
        exact ih (ni + 1) (by omega) (by omega) S H locs ls1 hR hI hl1) hR hI hl

set_option maxHeartbeats 4000000 in
set_option maxRecDepth 100000 in
theorem whole_start {p : Program} {e : Env} {s : State} {m : MethodId} {below : List Frame} {meth : Method} {c : Code} (l : Launch) (hflags : l.flags = flags0) {b L : Nat} {xs : Nat → Int32} (hL : L ≤ 3072) (C0 : lw_At p s m meth c b L xs) : W p l e room_1 s m #[Value.ref b] below meth c s.heap [] 0 0 (lw_Z below #[Value.ref b] s) (entryFrame m ([Value.ref b] : List Value).toArray 4) := by
  obtain ⟨hx, hcode, hret, hml, hown, hts, hX, hbl, hlk, hgv⟩ := C0
  obtain ⟨X, hKV, hKH, hKI⟩ := kstart hts hgv
  have hC : Cx p c cL_law 4 s m #[Value.ref b] RL X s.heap.size := ⟨hx, hcode, hml, hown, fun w hw => hts w (tb_sub hw), hKV, hKH⟩
  have hI : IH X s.heap.size s ([] ++ []) s.heap [] := ⟨fun k x h => (by cases h), ⟨fun i j x y h => (by cases h), fun k x h => (by cases h)⟩, va_S.rf⟩
  have hl := lv_entry [Value.ref b] (n := 4) (show 1 ≤ 4 by decide)
  rw [lg_entry_eq]
  refine g_new (Wl := []) (L := []) (ci := 4) (fs := [.null, .null, .null, .null, .null, .null, .int (J 0)]) hC (Nat.le_refl _) hI iw_X6 tyX6 tyX6_ok kl_RL_7 wn_RX6 wi_RX6 rfl (fun j hj => by rcases (show j = 0 ∨ j = 1 ∨ j = 2 ∨ j = 3 ∨ j = 4 ∨ j = 5 ∨ j = 6 by omega) with rfl | rfl | rfl | rfl | rfl | rfl | rfl <;> rfl) (Nat.le_of_ble_eq_true rfl) (Nat.le_of_ble_eq_true rfl) dL_law_0 (fun h0 H hI => ?_)
  refine r_dup hC rfl dL_law_3 ?_
  refine g_cI (Wl := []) hC hKI (Nat.le_refl _) hI hl (k_X6 l X _ h0 []) ml_RL_9 ei_X6 ⟨Nat.le_of_ble_eq_true rfl, Nat.le_of_ble_eq_true rfl⟩ ⟨Nat.le_of_ble_eq_true rfl, Nat.le_of_ble_eq_true rfl⟩ (Nat.le_of_ble_eq_true rfl) dL_law_4 (fun u H locs hu hI => ?_)
  refine r_astore_n (lv1 := [(1, .ref h0), (0, .ref b)]) hC hl dL_law_7 1 rfl (by decide) rfl (fun ls hl => ?_)
  refine g_new (Wl := []) (L := inW X h0 u) (ci := 5) (fs := [.null, .null, .null, .null, .null, .int (J 0), .int (J 0), .int (J 0), .int (J 0), .long (JL 0), .int (J 0), .int (J 0), .null, .null, .null, .null, .null, .null, .int (J 0)]) hC (Nat.le_refl _) hI iw_X7 tyX7 tyX7_ok kl_RL_10 wn_RX7 wi_RX7 rfl (fun j hj => by rcases (show j = 0 ∨ j = 1 ∨ j = 2 ∨ j = 3 ∨ j = 4 ∨ j = 5 ∨ j = 6 ∨ j = 7 ∨ j = 8 ∨ j = 9 ∨ j = 10 ∨ j = 11 ∨ j = 12 ∨ j = 13 ∨ j = 14 ∨ j = 15 ∨ j = 16 ∨ j = 17 ∨ j = 18 by omega) with rfl | rfl | rfl | rfl | rfl | rfl | rfl | rfl | rfl | rfl | rfl | rfl | rfl | rfl | rfl | rfl | rfl | rfl | rfl <;> rfl) (Nat.le_of_ble_eq_true rfl) (Nat.le_of_ble_eq_true rfl) dL_law_8 (fun hm H hI => ?_)
  refine r_dup hC rfl dL_law_11 ?_
  refine g_cI (Wl := inW X h0 u) hC hKI (Nat.le_refl _) hI hl (k_X7 l X _ hm (inW X h0 u)) ml_RL_12 ei_X7 ⟨Nat.le_of_ble_eq_true rfl, Nat.le_of_ble_eq_true rfl⟩ ⟨Nat.le_of_ble_eq_true rfl, Nat.le_of_ble_eq_true rfl⟩ (Nat.le_of_ble_eq_true rfl) dL_law_12 (fun v H locs _ hI => ?_)
  refine r_astore_n (lv1 := [(2, .ref hm), (1, .ref h0), (0, .ref b)]) hC hl dL_law_15 2 rfl (by decide) rfl (fun ls hl => ?_)
  refine r_iconst hC dL_law_16 ?_
  refine r_istore_n (lv1 := [(3, .int (J 0)), (2, .ref hm), (1, .ref h0), (0, .ref b)]) hC hl dL_law_17 3 rfl (by decide) rfl (fun ls hl => ?_)
  obtain ⟨a, ea0, ea49, hI2⟩ := asm hu hI
  subst ea0
  subst ea49
  exact law_loop hC hret hlk hX hbl hL (L + 1) 0 (by omega) (by omega) st0 _ _ _ rel0 hI2 hl
