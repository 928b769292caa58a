theorem tb_shl : ∀ q, q < 9 → J 1 <<< (J ((q : Nat) : Int) &&& 31) = J ((2 : Int) ^ q) := by decide +kernel
theorem tb_shr : ∀ q, q < 8 → ∀ m, m < 256 → J ((m : Nat) : Int) >>> (J ((q : Nat) : Int) &&& 31) = J ((m / 2 ^ q : Nat) : Int) := by decide +kernel
theorem tb_and : ∀ m, m < 256 → J ((m : Nat) : Int) &&& J 1 = J ((m % 2 : Nat) : Int) := by decide +kernel
theorem tb_or : ∀ q, q < 8 → ∀ m, m < 2 ^ q → J ((m : Nat) : Int) ||| J ((2 : Int) ^ q) = J ((m : Int) + (2 : Int) ^ q) := by decide +kernel
theorem J_or0 (x : Int) : J x ||| J 0 = J x := by rw [J_0]; exact Int32.or_zero
section R12
variable {p : Program} {l : Launch} {e : Env} {R : Room} {s : State} {m : MethodId} {args : Array Value} {below : List Frame} {meth : Method} {c : Code} {H : Heap} {locs : List Loc} {cells slots : Nat} {Q : State → Prop}
variable {cc : ByteArray} {nL pc : Nat} {own : String} {ls : Array Slot} {rest st : List Value} {X : XT} {a : Nat → Nat} {B : Nat} {S S' : St} {lv : List (Nat × Value)}
theorem r_shl1 (hC : Cx p c cc nL s m args own X B) (q : Nat) {y : Int} (hq : y = (q : Int)) (hq9 : q < 9) (hdg : decode cc pc = .ok (.ishl, 1)) (k : W p l e R s m args below meth c H locs cells slots Q (F0 m (pc + 1) ls (.int (J ((2 : Int) ^ q)) :: rest))) : W p l e R s m args below meth c H locs cells slots Q (F0 m pc ls (.int (J y) :: .int (J 1) :: rest)) := by
  subst hq
  exact lv_ishl hC.1 hC.2.1 hdg (by rw [tb_shl q hq9]; exact k)
theorem r_ior (hC : Cx p c cc nL s m args own X B) (q : Nat) (hq : q < 8) {x : Int} (hx : 0 ≤ x ∧ x < (2 : Int) ^ q) (hdg : decode cc pc = .ok (.ior, 1)) (k : W p l e R s m args below meth c H locs cells slots Q (F0 m (pc + 1) ls (.int (J (x + (2 : Int) ^ q)) :: rest))) : W p l e R s m args below meth c H locs cells slots Q (F0 m pc ls (.int (J ((2 : Int) ^ q)) :: .int (J x) :: rest)) := by
  obtain ⟨n, hn⟩ : ∃ n : Nat, x = (n : Int) := ⟨x.toNat, by omega⟩
  subst hn
  refine lv_ior hC.1 hC.2.1 hdg ?_
  have e1 : ((2 ^ q : Nat) : Int) = (2 : Int) ^ q := by rw [Int.natCast_pow]; rfl
  rw [tb_or q hq n (Int.ofNat_lt.mp (by rw [e1]; exact hx.2))]
  exact k
theorem r_ior0 (hC : Cx p c cc nL s m args own X B) {x : Int} (hdg : decode cc pc = .ok (.ior, 1)) (k : W p l e R s m args below meth c H locs cells slots Q (F0 m (pc + 1) ls (.int (J x) :: rest))) : W p l e R s m args below meth c H locs cells slots Q (F0 m pc ls (.int (J 0) :: .int (J x) :: rest)) := lv_ior hC.1 hC.2.1 hdg (by rw [J_or0]; exact k)
theorem r_ishr (hC : Cx p c cc nL s m args own X B) {m1 q : Nat} (hm : m1 < 256) (hq : q < 8) (hdg : decode cc pc = .ok (.ishr, 1)) (k : W p l e R s m args below meth c H locs cells slots Q (F0 m (pc + 1) ls (.int (J ((m1 / 2 ^ q : Nat) : Int)) :: rest))) : W p l e R s m args below meth c H locs cells slots Q (F0 m pc ls (.int (J (q : Int)) :: .int (J (m1 : Int)) :: rest)) := lv_ishr hC.1 hC.2.1 hdg (by rw [tb_shr q hq m1 hm]; exact k)
theorem r_iand1 (hC : Cx p c cc nL s m args own X B) {m1 : Nat} (hm : m1 < 256) (hdg : decode cc pc = .ok (.iand, 1)) (k : W p l e R s m args below meth c H locs cells slots Q (F0 m (pc + 1) ls (.int (J ((m1 % 2 : Nat) : Int)) :: rest))) : W p l e R s m args below meth c H locs cells slots Q (F0 m pc ls (.int (J 1) :: .int (J (m1 : Int)) :: rest)) := lv_iand hC.1 hC.2.1 hdg (by rw [tb_and m1 hm]; exact k)
theorem r_iretZ (hC : Cx p c cc nL s m args own X B) (hr : meth.sig.returnType = some .int) (hlk : meth.locks = false) (hI : IS X a B s S H locs) {x : Int32} {r : Int} (er : x = J r) (eS : S = S') (hdg : decode cc pc = .ok (.ireturn, 1)) : W p l e R s m args below meth c H locs cells slots (MQ below (Qi X a B r S') args s cells slots (fun q => B ≤ q)) (F0 m pc ls [.int x]) := by
  subst er
  exact r_iret hC hr hlk hI rfl eS hdg
end R12
theorem up_set (S : St) (b j : Nat) (R : Nat → Int) (v : Int) : up (setB S b R) b j v = setB S b (upR R j v) := by
  unfold up; rw [setB_at, setB_setB]
theorem pow_rg {q : Nat} (h : q ≤ 8) : 1 ≤ (2 : Int) ^ q ∧ (2 : Int) ^ q ≤ 256 := by
  revert q; decide +kernel
def nwF (R : Nat → Int) (n : Nat) : Int := sumF (fun i => if 0 < R (20 + 5 * i) then (2 : Int) ^ i else 0) n
theorem nw_rg (R : Nat → Int) : ∀ n : Nat, 0 ≤ nwF R n ∧ nwF R n < (2 : Int) ^ n
  | 0 => by show (0 : Int) ≤ 0 ∧ (0 : Int) < 2 ^ 0; decide
  | n + 1 => by
    have h := nw_rg R n
    have e : (2 : Int) ^ (n + 1) = (2 : Int) ^ n + (2 : Int) ^ n := by rw [Int.pow_succ]; omega
    show 0 ≤ nwF R n + (if 0 < R (20 + 5 * n) then (2 : Int) ^ n else 0) ∧ nwF R n + (if 0 < R (20 + 5 * n) then (2 : Int) ^ n else 0) < _
    split <;> omega
def pcN (m : Nat) : Int := sumF (fun q => ((m / 2 ^ q % 2 : Nat) : Int)) 8
theorem pc_rg (m : Nat) : 0 ≤ pcN m ∧ pcN m ≤ 8 := by
  have h := sum_rg (f := fun q => ((m / 2 ^ q % 2 : Nat) : Int)) (A := 1) 8 (fun i _ => by omega)
  unfold pcN; omega
/-- the greatest of 1 .. n at which f is so, else -1 -/
def dwF (f : Nat → Bool) : Nat → Int
  | 0 => -1
  | n + 1 => if f (n + 1) = true then ((n + 1 : Nat) : Int) else dwF f n

theorem tb_bc : ∀ m1, m1 < 256 → ((((((((J ((m1 : Nat) : Int)) - (((Int32.toUInt32 (J ((m1 : Nat) : Int)) >>> (Int32.toUInt32 1 &&& Int32.toUInt32 31)).toInt32) &&& (1431655765))) &&& (858993459)) + (((Int32.toUInt32 ((J ((m1 : Nat) : Int)) - (((Int32.toUInt32 (J ((m1 : Nat) : Int)) >>> (Int32.toUInt32 1 &&& Int32.toUInt32 31)).toInt32) &&& (1431655765))) >>> (Int32.toUInt32 2 &&& Int32.toUInt32 31)).toInt32) &&& (858993459))) + ((Int32.toUInt32 ((((J ((m1 : Nat) : Int)) - (((Int32.toUInt32 (J ((m1 : Nat) : Int)) >>> (Int32.toUInt32 1 &&& Int32.toUInt32 31)).toInt32) &&& (1431655765))) &&& (858993459)) + (((Int32.toUInt32 ((J ((m1 : Nat) : Int)) - (((Int32.toUInt32 (J ((m1 : Nat) : Int)) >>> (Int32.toUInt32 1 &&& Int32.toUInt32 31)).toInt32) &&& (1431655765))) >>> (Int32.toUInt32 2 &&& Int32.toUInt32 31)).toInt32) &&& (858993459))) >>> (Int32.toUInt32 4 &&& Int32.toUInt32 31)).toInt32)) &&& (252645135)) + ((Int32.toUInt32 ((((((J ((m1 : Nat) : Int)) - (((Int32.toUInt32 (J ((m1 : Nat) : Int)) >>> (Int32.toUInt32 1 &&& Int32.toUInt32 31)).toInt32) &&& (1431655765))) &&& (858993459)) + (((Int32.toUInt32 ((J ((m1 : Nat) : Int)) - (((Int32.toUInt32 (J ((m1 : Nat) : Int)) >>> (Int32.toUInt32 1 &&& Int32.toUInt32 31)).toInt32) &&& (1431655765))) >>> (Int32.toUInt32 2 &&& Int32.toUInt32 31)).toInt32) &&& (858993459))) + ((Int32.toUInt32 ((((J ((m1 : Nat) : Int)) - (((Int32.toUInt32 (J ((m1 : Nat) : Int)) >>> (Int32.toUInt32 1 &&& Int32.toUInt32 31)).toInt32) &&& (1431655765))) &&& (858993459)) + (((Int32.toUInt32 ((J ((m1 : Nat) : Int)) - (((Int32.toUInt32 (J ((m1 : Nat) : Int)) >>> (Int32.toUInt32 1 &&& Int32.toUInt32 31)).toInt32) &&& (1431655765))) >>> (Int32.toUInt32 2 &&& Int32.toUInt32 31)).toInt32) &&& (858993459))) >>> (Int32.toUInt32 4 &&& Int32.toUInt32 31)).toInt32)) &&& (252645135)) >>> (Int32.toUInt32 8 &&& Int32.toUInt32 31)).toInt32)) + ((Int32.toUInt32 (((((((J ((m1 : Nat) : Int)) - (((Int32.toUInt32 (J ((m1 : Nat) : Int)) >>> (Int32.toUInt32 1 &&& Int32.toUInt32 31)).toInt32) &&& (1431655765))) &&& (858993459)) + (((Int32.toUInt32 ((J ((m1 : Nat) : Int)) - (((Int32.toUInt32 (J ((m1 : Nat) : Int)) >>> (Int32.toUInt32 1 &&& Int32.toUInt32 31)).toInt32) &&& (1431655765))) >>> (Int32.toUInt32 2 &&& Int32.toUInt32 31)).toInt32) &&& (858993459))) + ((Int32.toUInt32 ((((J ((m1 : Nat) : Int)) - (((Int32.toUInt32 (J ((m1 : Nat) : Int)) >>> (Int32.toUInt32 1 &&& Int32.toUInt32 31)).toInt32) &&& (1431655765))) &&& (858993459)) + (((Int32.toUInt32 ((J ((m1 : Nat) : Int)) - (((Int32.toUInt32 (J ((m1 : Nat) : Int)) >>> (Int32.toUInt32 1 &&& Int32.toUInt32 31)).toInt32) &&& (1431655765))) >>> (Int32.toUInt32 2 &&& Int32.toUInt32 31)).toInt32) &&& (858993459))) >>> (Int32.toUInt32 4 &&& Int32.toUInt32 31)).toInt32)) &&& (252645135)) + ((Int32.toUInt32 ((((((J ((m1 : Nat) : Int)) - (((Int32.toUInt32 (J ((m1 : Nat) : Int)) >>> (Int32.toUInt32 1 &&& Int32.toUInt32 31)).toInt32) &&& (1431655765))) &&& (858993459)) + (((Int32.toUInt32 ((J ((m1 : Nat) : Int)) - (((Int32.toUInt32 (J ((m1 : Nat) : Int)) >>> (Int32.toUInt32 1 &&& Int32.toUInt32 31)).toInt32) &&& (1431655765))) >>> (Int32.toUInt32 2 &&& Int32.toUInt32 31)).toInt32) &&& (858993459))) + ((Int32.toUInt32 ((((J ((m1 : Nat) : Int)) - (((Int32.toUInt32 (J ((m1 : Nat) : Int)) >>> (Int32.toUInt32 1 &&& Int32.toUInt32 31)).toInt32) &&& (1431655765))) &&& (858993459)) + (((Int32.toUInt32 ((J ((m1 : Nat) : Int)) - (((Int32.toUInt32 (J ((m1 : Nat) : Int)) >>> (Int32.toUInt32 1 &&& Int32.toUInt32 31)).toInt32) &&& (1431655765))) >>> (Int32.toUInt32 2 &&& Int32.toUInt32 31)).toInt32) &&& (858993459))) >>> (Int32.toUInt32 4 &&& Int32.toUInt32 31)).toInt32)) &&& (252645135)) >>> (Int32.toUInt32 8 &&& Int32.toUInt32 31)).toInt32)) >>> (Int32.toUInt32 16 &&& Int32.toUInt32 31)).toInt32)) &&& (63) = J (pcN m1) := by decide +kernel

set_option maxHeartbeats 4000000 in
set_option maxRecDepth 100000 in
theorem c_J6_bitCount_0f7a4 (l : Launch) (X : XT) (a : Nat → Nat) (B : Nat) (S : St) (m1 : Nat) (hm : m1 < 256) : CT l X a B 0 yJ6_bitCount_0f7a4 cJ6_bitCount_0f7a4 1 (some .int) [.int (J (m1 : Int))] S (Qi X a B (pcN m1) (S)) := by
  refine CT.of (by decide +kernel) (Nat.le_of_ble_eq_true rfl) ?_
  intro p e s m below meth c ls hC hr hlk hI hl
  have hC : Cx p c cJ6_bitCount_0f7a4 1 s m [.int (J (m1 : Int))].toArray RJ6 X B := hC
  have hl : lv_has ls 1 [(0, .int (J (m1 : Int)))] := hl
  refine r_iload_n hC hl dJ6_bitCount_0f7a4_0 0 rfl ?_
  refine r_iload_n hC hl dJ6_bitCount_0f7a4_1 0 rfl ?_
  refine lv_iconst (v := 1) hC.1 hC.2.1 dJ6_bitCount_0f7a4_2 (by decide) ?_
  refine lv_iushr (v := (Int32.toUInt32 (J (m1 : Int)) >>> (Int32.toUInt32 1 &&& Int32.toUInt32 31)).toInt32) hC.1 hC.2.1 dJ6_bitCount_0f7a4_3 rfl ?_
  refine lv_ldcw (v := 1431655765) hC.1 hC.2.1 hC.2.2.2.1 (hC.2.2.2.2.1 _ ct_RJ6_265) dJ6_bitCount_0f7a4_4 ?_
  refine lv_iand hC.1 hC.2.1 dJ6_bitCount_0f7a4_7 ?_
  refine lv_isub hC.1 hC.2.1 dJ6_bitCount_0f7a4_8 ?_
  refine r_istore_n (lv1 := [(0, .int ((J (m1 : Int)) - (((Int32.toUInt32 (J (m1 : Int)) >>> (Int32.toUInt32 1 &&& Int32.toUInt32 31)).toInt32) &&& (1431655765))))]) hC hl dJ6_bitCount_0f7a4_9 0 rfl (by decide) rfl (fun ls hl => ?_)
  refine r_iload_n hC hl dJ6_bitCount_0f7a4_10 0 rfl ?_
  refine lv_ldcw (v := 858993459) hC.1 hC.2.1 hC.2.2.2.1 (hC.2.2.2.2.1 _ ct_RJ6_266) dJ6_bitCount_0f7a4_11 ?_
  refine lv_iand hC.1 hC.2.1 dJ6_bitCount_0f7a4_14 ?_
  refine r_iload_n hC hl dJ6_bitCount_0f7a4_15 0 rfl ?_
  refine lv_iconst (v := 2) hC.1 hC.2.1 dJ6_bitCount_0f7a4_16 (by decide) ?_
  refine lv_iushr (v := (Int32.toUInt32 ((J (m1 : Int)) - (((Int32.toUInt32 (J (m1 : Int)) >>> (Int32.toUInt32 1 &&& Int32.toUInt32 31)).toInt32) &&& (1431655765))) >>> (Int32.toUInt32 2 &&& Int32.toUInt32 31)).toInt32) hC.1 hC.2.1 dJ6_bitCount_0f7a4_17 rfl ?_
  refine lv_ldcw (v := 858993459) hC.1 hC.2.1 hC.2.2.2.1 (hC.2.2.2.2.1 _ ct_RJ6_266) dJ6_bitCount_0f7a4_18 ?_
  refine lv_iand hC.1 hC.2.1 dJ6_bitCount_0f7a4_21 ?_
  refine lv_iadd hC.1 hC.2.1 dJ6_bitCount_0f7a4_22 ?_
  refine r_istore_n (lv1 := [(0, .int ((((J (m1 : Int)) - (((Int32.toUInt32 (J (m1 : Int)) >>> (Int32.toUInt32 1 &&& Int32.toUInt32 31)).toInt32) &&& (1431655765))) &&& (858993459)) + (((Int32.toUInt32 ((J (m1 : Int)) - (((Int32.toUInt32 (J (m1 : Int)) >>> (Int32.toUInt32 1 &&& Int32.toUInt32 31)).toInt32) &&& (1431655765))) >>> (Int32.toUInt32 2 &&& Int32.toUInt32 31)).toInt32) &&& (858993459))))]) hC hl dJ6_bitCount_0f7a4_23 0 rfl (by decide) rfl (fun ls hl => ?_)
  refine r_iload_n hC hl dJ6_bitCount_0f7a4_24 0 rfl ?_
  refine r_iload_n hC hl dJ6_bitCount_0f7a4_25 0 rfl ?_
  refine lv_iconst (v := 4) hC.1 hC.2.1 dJ6_bitCount_0f7a4_26 (by decide) ?_
  refine lv_iushr (v := (Int32.toUInt32 ((((J (m1 : Int)) - (((Int32.toUInt32 (J (m1 : Int)) >>> (Int32.toUInt32 1 &&& Int32.toUInt32 31)).toInt32) &&& (1431655765))) &&& (858993459)) + (((Int32.toUInt32 ((J (m1 : Int)) - (((Int32.toUInt32 (J (m1 : Int)) >>> (Int32.toUInt32 1 &&& Int32.toUInt32 31)).toInt32) &&& (1431655765))) >>> (Int32.toUInt32 2 &&& Int32.toUInt32 31)).toInt32) &&& (858993459))) >>> (Int32.toUInt32 4 &&& Int32.toUInt32 31)).toInt32) hC.1 hC.2.1 dJ6_bitCount_0f7a4_27 rfl ?_
  refine lv_iadd hC.1 hC.2.1 dJ6_bitCount_0f7a4_28 ?_
  refine lv_ldcw (v := 252645135) hC.1 hC.2.1 hC.2.2.2.1 (hC.2.2.2.2.1 _ ct_RJ6_267) dJ6_bitCount_0f7a4_29 ?_
  refine lv_iand hC.1 hC.2.1 dJ6_bitCount_0f7a4_32 ?_
  refine r_istore_n (lv1 := [(0, .int ((((((J (m1 : Int)) - (((Int32.toUInt32 (J (m1 : Int)) >>> (Int32.toUInt32 1 &&& Int32.toUInt32 31)).toInt32) &&& (1431655765))) &&& (858993459)) + (((Int32.toUInt32 ((J (m1 : Int)) - (((Int32.toUInt32 (J (m1 : Int)) >>> (Int32.toUInt32 1 &&& Int32.toUInt32 31)).toInt32) &&& (1431655765))) >>> (Int32.toUInt32 2 &&& Int32.toUInt32 31)).toInt32) &&& (858993459))) + ((Int32.toUInt32 ((((J (m1 : Int)) - (((Int32.toUInt32 (J (m1 : Int)) >>> (Int32.toUInt32 1 &&& Int32.toUInt32 31)).toInt32) &&& (1431655765))) &&& (858993459)) + (((Int32.toUInt32 ((J (m1 : Int)) - (((Int32.toUInt32 (J (m1 : Int)) >>> (Int32.toUInt32 1 &&& Int32.toUInt32 31)).toInt32) &&& (1431655765))) >>> (Int32.toUInt32 2 &&& Int32.toUInt32 31)).toInt32) &&& (858993459))) >>> (Int32.toUInt32 4 &&& Int32.toUInt32 31)).toInt32)) &&& (252645135)))]) hC hl dJ6_bitCount_0f7a4_33 0 rfl (by decide) rfl (fun ls hl => ?_)
  refine r_iload_n hC hl dJ6_bitCount_0f7a4_34 0 rfl ?_
  refine r_iload_n hC hl dJ6_bitCount_0f7a4_35 0 rfl ?_
  refine lv_bipush (v := 8) hC.1 hC.2.1 dJ6_bitCount_0f7a4_36 (by decide) ?_
  refine lv_iushr (v := (Int32.toUInt32 ((((((J (m1 : Int)) - (((Int32.toUInt32 (J (m1 : Int)) >>> (Int32.toUInt32 1 &&& Int32.toUInt32 31)).toInt32) &&& (1431655765))) &&& (858993459)) + (((Int32.toUInt32 ((J (m1 : Int)) - (((Int32.toUInt32 (J (m1 : Int)) >>> (Int32.toUInt32 1 &&& Int32.toUInt32 31)).toInt32) &&& (1431655765))) >>> (Int32.toUInt32 2 &&& Int32.toUInt32 31)).toInt32) &&& (858993459))) + ((Int32.toUInt32 ((((J (m1 : Int)) - (((Int32.toUInt32 (J (m1 : Int)) >>> (Int32.toUInt32 1 &&& Int32.toUInt32 31)).toInt32) &&& (1431655765))) &&& (858993459)) + (((Int32.toUInt32 ((J (m1 : Int)) - (((Int32.toUInt32 (J (m1 : Int)) >>> (Int32.toUInt32 1 &&& Int32.toUInt32 31)).toInt32) &&& (1431655765))) >>> (Int32.toUInt32 2 &&& Int32.toUInt32 31)).toInt32) &&& (858993459))) >>> (Int32.toUInt32 4 &&& Int32.toUInt32 31)).toInt32)) &&& (252645135)) >>> (Int32.toUInt32 8 &&& Int32.toUInt32 31)).toInt32) hC.1 hC.2.1 dJ6_bitCount_0f7a4_38 rfl ?_
  refine lv_iadd hC.1 hC.2.1 dJ6_bitCount_0f7a4_39 ?_
  refine r_istore_n (lv1 := [(0, .int (((((((J (m1 : Int)) - (((Int32.toUInt32 (J (m1 : Int)) >>> (Int32.toUInt32 1 &&& Int32.toUInt32 31)).toInt32) &&& (1431655765))) &&& (858993459)) + (((Int32.toUInt32 ((J (m1 : Int)) - (((Int32.toUInt32 (J (m1 : Int)) >>> (Int32.toUInt32 1 &&& Int32.toUInt32 31)).toInt32) &&& (1431655765))) >>> (Int32.toUInt32 2 &&& Int32.toUInt32 31)).toInt32) &&& (858993459))) + ((Int32.toUInt32 ((((J (m1 : Int)) - (((Int32.toUInt32 (J (m1 : Int)) >>> (Int32.toUInt32 1 &&& Int32.toUInt32 31)).toInt32) &&& (1431655765))) &&& (858993459)) + (((Int32.toUInt32 ((J (m1 : Int)) - (((Int32.toUInt32 (J (m1 : Int)) >>> (Int32.toUInt32 1 &&& Int32.toUInt32 31)).toInt32) &&& (1431655765))) >>> (Int32.toUInt32 2 &&& Int32.toUInt32 31)).toInt32) &&& (858993459))) >>> (Int32.toUInt32 4 &&& Int32.toUInt32 31)).toInt32)) &&& (252645135)) + ((Int32.toUInt32 ((((((J (m1 : Int)) - (((Int32.toUInt32 (J (m1 : Int)) >>> (Int32.toUInt32 1 &&& Int32.toUInt32 31)).toInt32) &&& (1431655765))) &&& (858993459)) + (((Int32.toUInt32 ((J (m1 : Int)) - (((Int32.toUInt32 (J (m1 : Int)) >>> (Int32.toUInt32 1 &&& Int32.toUInt32 31)).toInt32) &&& (1431655765))) >>> (Int32.toUInt32 2 &&& Int32.toUInt32 31)).toInt32) &&& (858993459))) + ((Int32.toUInt32 ((((J (m1 : Int)) - (((Int32.toUInt32 (J (m1 : Int)) >>> (Int32.toUInt32 1 &&& Int32.toUInt32 31)).toInt32) &&& (1431655765))) &&& (858993459)) + (((Int32.toUInt32 ((J (m1 : Int)) - (((Int32.toUInt32 (J (m1 : Int)) >>> (Int32.toUInt32 1 &&& Int32.toUInt32 31)).toInt32) &&& (1431655765))) >>> (Int32.toUInt32 2 &&& Int32.toUInt32 31)).toInt32) &&& (858993459))) >>> (Int32.toUInt32 4 &&& Int32.toUInt32 31)).toInt32)) &&& (252645135)) >>> (Int32.toUInt32 8 &&& Int32.toUInt32 31)).toInt32)))]) hC hl dJ6_bitCount_0f7a4_40 0 rfl (by decide) rfl (fun ls hl => ?_)
  refine r_iload_n hC hl dJ6_bitCount_0f7a4_41 0 rfl ?_
  refine r_iload_n hC hl dJ6_bitCount_0f7a4_42 0 rfl ?_
  refine lv_bipush (v := 16) hC.1 hC.2.1 dJ6_bitCount_0f7a4_43 (by decide) ?_
  refine lv_iushr (v := (Int32.toUInt32 (((((((J (m1 : Int)) - (((Int32.toUInt32 (J (m1 : Int)) >>> (Int32.toUInt32 1 &&& Int32.toUInt32 31)).toInt32) &&& (1431655765))) &&& (858993459)) + (((Int32.toUInt32 ((J (m1 : Int)) - (((Int32.toUInt32 (J (m1 : Int)) >>> (Int32.toUInt32 1 &&& Int32.toUInt32 31)).toInt32) &&& (1431655765))) >>> (Int32.toUInt32 2 &&& Int32.toUInt32 31)).toInt32) &&& (858993459))) + ((Int32.toUInt32 ((((J (m1 : Int)) - (((Int32.toUInt32 (J (m1 : Int)) >>> (Int32.toUInt32 1 &&& Int32.toUInt32 31)).toInt32) &&& (1431655765))) &&& (858993459)) + (((Int32.toUInt32 ((J (m1 : Int)) - (((Int32.toUInt32 (J (m1 : Int)) >>> (Int32.toUInt32 1 &&& Int32.toUInt32 31)).toInt32) &&& (1431655765))) >>> (Int32.toUInt32 2 &&& Int32.toUInt32 31)).toInt32) &&& (858993459))) >>> (Int32.toUInt32 4 &&& Int32.toUInt32 31)).toInt32)) &&& (252645135)) + ((Int32.toUInt32 ((((((J (m1 : Int)) - (((Int32.toUInt32 (J (m1 : Int)) >>> (Int32.toUInt32 1 &&& Int32.toUInt32 31)).toInt32) &&& (1431655765))) &&& (858993459)) + (((Int32.toUInt32 ((J (m1 : Int)) - (((Int32.toUInt32 (J (m1 : Int)) >>> (Int32.toUInt32 1 &&& Int32.toUInt32 31)).toInt32) &&& (1431655765))) >>> (Int32.toUInt32 2 &&& Int32.toUInt32 31)).toInt32) &&& (858993459))) + ((Int32.toUInt32 ((((J (m1 : Int)) - (((Int32.toUInt32 (J (m1 : Int)) >>> (Int32.toUInt32 1 &&& Int32.toUInt32 31)).toInt32) &&& (1431655765))) &&& (858993459)) + (((Int32.toUInt32 ((J (m1 : Int)) - (((Int32.toUInt32 (J (m1 : Int)) >>> (Int32.toUInt32 1 &&& Int32.toUInt32 31)).toInt32) &&& (1431655765))) >>> (Int32.toUInt32 2 &&& Int32.toUInt32 31)).toInt32) &&& (858993459))) >>> (Int32.toUInt32 4 &&& Int32.toUInt32 31)).toInt32)) &&& (252645135)) >>> (Int32.toUInt32 8 &&& Int32.toUInt32 31)).toInt32)) >>> (Int32.toUInt32 16 &&& Int32.toUInt32 31)).toInt32) hC.1 hC.2.1 dJ6_bitCount_0f7a4_45 rfl ?_
  refine lv_iadd hC.1 hC.2.1 dJ6_bitCount_0f7a4_46 ?_
  refine r_istore_n (lv1 := [(0, .int ((((((((J (m1 : Int)) - (((Int32.toUInt32 (J (m1 : Int)) >>> (Int32.toUInt32 1 &&& Int32.toUInt32 31)).toInt32) &&& (1431655765))) &&& (858993459)) + (((Int32.toUInt32 ((J (m1 : Int)) - (((Int32.toUInt32 (J (m1 : Int)) >>> (Int32.toUInt32 1 &&& Int32.toUInt32 31)).toInt32) &&& (1431655765))) >>> (Int32.toUInt32 2 &&& Int32.toUInt32 31)).toInt32) &&& (858993459))) + ((Int32.toUInt32 ((((J (m1 : Int)) - (((Int32.toUInt32 (J (m1 : Int)) >>> (Int32.toUInt32 1 &&& Int32.toUInt32 31)).toInt32) &&& (1431655765))) &&& (858993459)) + (((Int32.toUInt32 ((J (m1 : Int)) - (((Int32.toUInt32 (J (m1 : Int)) >>> (Int32.toUInt32 1 &&& Int32.toUInt32 31)).toInt32) &&& (1431655765))) >>> (Int32.toUInt32 2 &&& Int32.toUInt32 31)).toInt32) &&& (858993459))) >>> (Int32.toUInt32 4 &&& Int32.toUInt32 31)).toInt32)) &&& (252645135)) + ((Int32.toUInt32 ((((((J (m1 : Int)) - (((Int32.toUInt32 (J (m1 : Int)) >>> (Int32.toUInt32 1 &&& Int32.toUInt32 31)).toInt32) &&& (1431655765))) &&& (858993459)) + (((Int32.toUInt32 ((J (m1 : Int)) - (((Int32.toUInt32 (J (m1 : Int)) >>> (Int32.toUInt32 1 &&& Int32.toUInt32 31)).toInt32) &&& (1431655765))) >>> (Int32.toUInt32 2 &&& Int32.toUInt32 31)).toInt32) &&& (858993459))) + ((Int32.toUInt32 ((((J (m1 : Int)) - (((Int32.toUInt32 (J (m1 : Int)) >>> (Int32.toUInt32 1 &&& Int32.toUInt32 31)).toInt32) &&& (1431655765))) &&& (858993459)) + (((Int32.toUInt32 ((J (m1 : Int)) - (((Int32.toUInt32 (J (m1 : Int)) >>> (Int32.toUInt32 1 &&& Int32.toUInt32 31)).toInt32) &&& (1431655765))) >>> (Int32.toUInt32 2 &&& Int32.toUInt32 31)).toInt32) &&& (858993459))) >>> (Int32.toUInt32 4 &&& Int32.toUInt32 31)).toInt32)) &&& (252645135)) >>> (Int32.toUInt32 8 &&& Int32.toUInt32 31)).toInt32)) + ((Int32.toUInt32 (((((((J (m1 : Int)) - (((Int32.toUInt32 (J (m1 : Int)) >>> (Int32.toUInt32 1 &&& Int32.toUInt32 31)).toInt32) &&& (1431655765))) &&& (858993459)) + (((Int32.toUInt32 ((J (m1 : Int)) - (((Int32.toUInt32 (J (m1 : Int)) >>> (Int32.toUInt32 1 &&& Int32.toUInt32 31)).toInt32) &&& (1431655765))) >>> (Int32.toUInt32 2 &&& Int32.toUInt32 31)).toInt32) &&& (858993459))) + ((Int32.toUInt32 ((((J (m1 : Int)) - (((Int32.toUInt32 (J (m1 : Int)) >>> (Int32.toUInt32 1 &&& Int32.toUInt32 31)).toInt32) &&& (1431655765))) &&& (858993459)) + (((Int32.toUInt32 ((J (m1 : Int)) - (((Int32.toUInt32 (J (m1 : Int)) >>> (Int32.toUInt32 1 &&& Int32.toUInt32 31)).toInt32) &&& (1431655765))) >>> (Int32.toUInt32 2 &&& Int32.toUInt32 31)).toInt32) &&& (858993459))) >>> (Int32.toUInt32 4 &&& Int32.toUInt32 31)).toInt32)) &&& (252645135)) + ((Int32.toUInt32 ((((((J (m1 : Int)) - (((Int32.toUInt32 (J (m1 : Int)) >>> (Int32.toUInt32 1 &&& Int32.toUInt32 31)).toInt32) &&& (1431655765))) &&& (858993459)) + (((Int32.toUInt32 ((J (m1 : Int)) - (((Int32.toUInt32 (J (m1 : Int)) >>> (Int32.toUInt32 1 &&& Int32.toUInt32 31)).toInt32) &&& (1431655765))) >>> (Int32.toUInt32 2 &&& Int32.toUInt32 31)).toInt32) &&& (858993459))) + ((Int32.toUInt32 ((((J (m1 : Int)) - (((Int32.toUInt32 (J (m1 : Int)) >>> (Int32.toUInt32 1 &&& Int32.toUInt32 31)).toInt32) &&& (1431655765))) &&& (858993459)) + (((Int32.toUInt32 ((J (m1 : Int)) - (((Int32.toUInt32 (J (m1 : Int)) >>> (Int32.toUInt32 1 &&& Int32.toUInt32 31)).toInt32) &&& (1431655765))) >>> (Int32.toUInt32 2 &&& Int32.toUInt32 31)).toInt32) &&& (858993459))) >>> (Int32.toUInt32 4 &&& Int32.toUInt32 31)).toInt32)) &&& (252645135)) >>> (Int32.toUInt32 8 &&& Int32.toUInt32 31)).toInt32)) >>> (Int32.toUInt32 16 &&& Int32.toUInt32 31)).toInt32)))]) hC hl dJ6_bitCount_0f7a4_47 0 rfl (by decide) rfl (fun ls hl => ?_)
  refine r_iload_n hC hl dJ6_bitCount_0f7a4_48 0 rfl ?_
  refine lv_bipush (v := 63) hC.1 hC.2.1 dJ6_bitCount_0f7a4_49 (by decide) ?_
  refine lv_iand hC.1 hC.2.1 dJ6_bitCount_0f7a4_51 ?_
  exact r_iretZ hC hr hlk hI (tb_bc m1 hm) rfl dJ6_bitCount_0f7a4_52

set_option maxHeartbeats 4000000 in
set_option maxRecDepth 100000 in
theorem c_X2_notWhite (l : Launch) (X : XT) (a : Nat → Nat) (B : Nat) (S : St) (k : Nat) (hk : k < 3) (hV : VR 9999 (S k)) : CT l X a B 0 yX2_notWhite cX2_notWhite 3 (some .int) [.ref (a (2 + k))] S (Qi X a B (nwF (S k) (S k 5).toNat) (S)) := by
  refine CT.of (by decide +kernel) (Nat.le_of_ble_eq_true rfl) ?_
  intro p e s m below meth c ls hC hr hlk hI hl
  have hC : Cx p c cX2_notWhite 3 s m [.ref (a (2 + k))].toArray RX2 X B := hC
  have hl : lv_has ls 3 [(0, .ref (a (2 + k)))] := hl
  obtain ⟨⟨hN, hBr, hBu, hIn, hLa, hPc⟩, hDk, hPg⟩ := id hV
  refine r_iconst hC dX2_notWhite_0 ?_
  refine r_istore_n (lv1 := [(1, .int (J 0)), (0, .ref (a (2 + k)))]) hC hl dX2_notWhite_1 1 rfl (by decide) rfl (fun ls hl => ?_)
  refine r_iconst hC dX2_notWhite_2 ?_
  refine r_istore_n (lv1 := [(2, .int (J 0)), (1, .int (J 0)), (0, .ref (a (2 + k)))]) hC hl dX2_notWhite_3 2 rfl (by decide) rfl (fun ls hl => ?_)
  have hL4 : ∀ (fu : Nat) (q : Nat) (x2 x1 : Int), (S k 5).toNat - q < fu → (x2 = (q : Int)) → (x1 = nwF (S k) q) → (q ≤ (S k 5).toNat) → ∀ (H : Heap) (locs : List Loc) (ls : Array Slot), IS X a B s (S) H locs → lv_has ls 3 [(2, .int (J x2)), (1, .int (J x1)), (0, .ref (a (2 + k)))] → W p l e (rmD 0) s m [.ref (a (2 + k))].toArray below meth c H locs 0 0 (MQ below (Qi X a B (nwF (S k) (S k 5).toNat) (S)) [.ref (a (2 + k))].toArray s 0 0 (fun q => B ≤ q)) (F0 m 4 ls []) := by
    intro fu
    induction fu with
    | zero => intro q x2 x1 hm; exact absurd hm (Nat.not_lt_zero _)
    | succ fu ih4 =>
      intro q x2 x1 hm e2 e1 hq H locs ls hI hl
      subst e2; subst e1
      have hnw := nw_rg (S k) q
      refine r_iload_n hC hl dX2_notWhite_4 0 rfl ?_
      refine r_aload_n hC hl dX2_notWhite_5 2 rfl ?_
      refine g_sc (k1 := k) (v := .int (J (S k 5))) hC hI (by omega) 5 (by decide) fl_RX2_25 rfl rfl dX2_notWhite_6 ?_
      refine r_icmp_ge (tgt := 36) hC (by omega) (by omega) dX2_notWhite_9 (by decide) (fun c_1 => ?_) (fun c_1 => ?_)
      · skip
        refine r_iload_n hC hl dX2_notWhite_36 1 rfl ?_
        exact r_iret hC hr hlk hI (by rw [show q = (S k 5).toNat by omega]) (rfl) dX2_notWhite_37
      · skip
        refine r_aload_n hC hl dX2_notWhite_12 2 rfl ?_
        refine g_sc (k1 := k) (v := .ref (a (11 + k))) hC hI (by omega) 7 (by decide) fl_RX2_34 rfl rfl dX2_notWhite_13 ?_
        refine r_iload_n hC hl dX2_notWhite_16 0 rfl ?_
        refine r_pald (cx := 11 + k) hC hI (by omega) (ce_pa X a _ (by omega)) (by decide) (q) (by omega) (by omega) dX2_notWhite_17 ?_
        have hvp := hPg q (by omega)
        have hbk := hvp.2.2.1
        refine g_pg (k1 := k) (i := q) (v := .int (J (S k (20 + 5 * q)))) hC hI (by omega) (by omega) 2 (by decide) fl_RX2_81 rfl rfl dX2_notWhite_18 ?_
        refine r_if_le (tgt := 30) hC (by omega) dX2_notWhite_21 (by decide) (fun c_2 => ?_) (fun c_2 => ?_)
        · skip
          refine r_iinc (lv1 := [(2, .int (J ((q : Int) + 1))), (1, .int (J (nwF (S k) q))), (0, .ref (a (2 + k)))]) hC hl dX2_notWhite_30 0 rfl (by decide) rfl (fun ls hl => ?_)
          refine r_goto (tgt := 4) hC dX2_notWhite_33 (by decide) ?_
          exact ih4 (q + 1) ((q : Int) + 1) (nwF (S k) q) (by omega) (by omega) (by show _ = nwF (S k) q + (if 0 < S k (20 + 5 * q) then (2 : Int) ^ q else 0); rw [if_neg (by omega), Int.add_zero]) (by omega) _ _ _ hI (lv_sub hl [0, 1, 2] rfl)
        · skip
          refine r_iload_n hC hl dX2_notWhite_24 1 rfl ?_
          refine r_iconst hC dX2_notWhite_25 ?_
          refine r_iload_n hC hl dX2_notWhite_26 0 rfl ?_
          refine r_shl1 hC q (by omega) (by omega) dX2_notWhite_27 ?_
          refine r_ior hC q (by omega) (by omega) dX2_notWhite_28 ?_
          refine r_istore_n (lv1 := [(1, .int (J (nwF (S k) q + (2 : Int) ^ q))), (2, .int (J (q : Int))), (0, .ref (a (2 + k)))]) hC hl dX2_notWhite_29 1 rfl (by decide) rfl (fun ls hl => ?_)
          refine r_iinc (lv1 := [(2, .int (J ((q : Int) + 1))), (1, .int (J (nwF (S k) q + (2 : Int) ^ q))), (0, .ref (a (2 + k)))]) hC hl dX2_notWhite_30 1 rfl (by decide) rfl (fun ls hl => ?_)
          refine r_goto (tgt := 4) hC dX2_notWhite_33 (by decide) ?_
          exact ih4 (q + 1) ((q : Int) + 1) (nwF (S k) q + (2 : Int) ^ q) (by omega) (by omega) (by show _ = nwF (S k) q + (if 0 < S k (20 + 5 * q) then (2 : Int) ^ q else 0); rw [if_pos c_2]) (by omega) _ _ _ hI (lv_sub hl [0, 1, 2] rfl)
  exact hL4 _ 0 0 0 (Nat.lt_succ_self _) (by omega) rfl (by omega) _ _ _ hI (lv_sub hl [0, 1, 2] rfl)

set_option maxHeartbeats 4000000 in
set_option maxRecDepth 100000 in
theorem c_X2_mostWords (l : Launch) (X : XT) (a : Nat → Nat) (B : Nat) (S : St) (k : Nat) (q : Int) (hk : k < 3) (hV : VR 9999 (S k)) (hq : 0 ≤ q ∧ q ≤ 5) : CT l X a B 3 yX2_mostWords cX2_mostWords 3 (some .int) [.ref (a (2 + k)), .int (J q)] S (Qi X a B (dwF (fun ww => decide (csF q (ww : Int) ≤ S k 3)) 99) (S)) := by
  refine CT.of (by decide +kernel) (Nat.le_of_ble_eq_true rfl) ?_
  intro p e s m below meth c ls hC hr hlk hI hl
  have hC : Cx p c cX2_mostWords 3 s m [.ref (a (2 + k)), .int (J q)].toArray RX2 X B := hC
  have hl : lv_has ls 3 [(0, .ref (a (2 + k))), (1, .int (J q))] := hl
  obtain ⟨⟨hN, hBr, hBu, hIn, hLa, hPc⟩, hDk, hPg⟩ := id hV
  refine r_bipush hC (by decide) dX2_mostWords_0 ?_
  refine r_istore_n (lv1 := [(2, .int (J 99)), (0, .ref (a (2 + k))), (1, .int (J q))]) hC hl dX2_mostWords_2 2 rfl (by decide) rfl (fun ls hl => ?_)
  have hL3 : ∀ (fu : Nat) (t : Nat) (x2 : Int), t < fu → (x2 = (t : Int)) → (t ≤ 99) → (dwF (fun ww => decide (csF q (ww : Int) ≤ S k 3)) t = dwF (fun ww => decide (csF q (ww : Int) ≤ S k 3)) 99) → ∀ (H : Heap) (locs : List Loc) (ls : Array Slot), IS X a B s (S) H locs → lv_has ls 3 [(2, .int (J x2)), (0, .ref (a (2 + k))), (1, .int (J q))] → W p l e (rmD 3) s m [.ref (a (2 + k)), .int (J q)].toArray below meth c H locs 0 0 (MQ below (Qi X a B (dwF (fun ww => decide (csF q (ww : Int) ≤ S k 3)) 99) (S)) [.ref (a (2 + k)), .int (J q)].toArray s 0 0 (fun q => B ≤ q)) (F0 m 3 ls []) := by
    intro fu
    induction fu with
    | zero => intro t x2 hm; exact absurd hm (Nat.not_lt_zero _)
    | succ fu ih3 =>
      intro t x2 hm e2 ht hf H locs ls hI hl
      subst e2
      refine r_iload_n hC hl dX2_mostWords_3 0 rfl ?_
      refine r_iconst hC dX2_mostWords_4 ?_
      refine r_icmp_lt (tgt := 25) hC (by omega) (by omega) dX2_mostWords_5 (by decide) (fun c_1 => ?_) (fun c_1 => ?_)
      · skip
        refine r_iconst hC dX2_mostWords_25 ?_
        exact r_iret hC hr hlk hI (by rw [← hf, show t = 0 by omega]; rfl) (rfl) dX2_mostWords_26
      · skip
        refine r_aload_n hC hl dX2_mostWords_8 1 rfl ?_
        refine r_iload_n hC hl dX2_mostWords_9 2 rfl ?_
        refine r_iload_n hC hl dX2_mostWords_10 0 rfl ?_
        refine r_cVi hC hI hl [.int (J q), .int (J (t : Int))] [] (c_X2_hasInkFor l X a B S k q (t : Int) (by omega) (by omega) (by omega) (by omega)) ml_RX2_113 ev_X2_hasInkFor (rc_sc (S := S) hC hI (by omega)) ⟨Nat.le_of_ble_eq_true rfl, Nat.le_of_ble_eq_true rfl⟩ ⟨Nat.zero_le _, Nat.zero_le _⟩ (Nat.le_of_ble_eq_true rfl) rfl dX2_mostWords_11 (fun H locs hI => ?_)
        refine r_b_eq (tgt := 19) hC dX2_mostWords_14 (by decide) (fun c_2 => ?_) (fun c_2 => ?_)
        · skip
          refine r_iinc (lv1 := [(2, .int (J ((t : Int) + (-1)))), (0, .ref (a (2 + k))), (1, .int (J q))]) hC hl dX2_mostWords_19 0 rfl (by decide) rfl (fun ls hl => ?_)
          refine r_goto (tgt := 3) hC dX2_mostWords_22 (by decide) ?_
          have hf2 : dwF (fun ww => decide (csF q (ww : Int) ≤ S k 3)) (t - 1) = dwF (fun ww => decide (csF q (ww : Int) ≤ S k 3)) 99 := by
            rw [← hf, show t = (t - 1) + 1 by omega]
            exact (if_neg (by simp only [decide_eq_true_eq, show t - 1 + 1 = t by omega]; exact c_2)).symm
          exact ih3 (t - 1) ((t : Int) + (-1)) (by omega) (by omega) (by omega) hf2 _ _ _ hI (lv_sub hl [0, 1, 2] rfl)
        · skip
          refine r_iload_n hC hl dX2_mostWords_17 0 rfl ?_
          exact r_iret hC hr hlk hI (by rw [← hf, show t = (t - 1) + 1 by omega]; exact (if_pos (by simp only [decide_eq_true_eq, show t - 1 + 1 = t by omega]; exact c_2)).symm) (rfl) dX2_mostWords_18
  exact hL3 _ 99 99 (Nat.lt_succ_self _) (by omega) (by omega) rfl _ _ _ hI (lv_sub hl [0, 1, 2] rfl)

set_option maxHeartbeats 4000000 in
set_option maxRecDepth 100000 in
theorem c_X2_blackestNight (l : Launch) (X : XT) (a : Nat → Nat) (B : Nat) (S : St) (k : Nat) (q : Int) (w : Int) (hk : k < 3) (hV : VR 9999 (S k)) (hq : 0 ≤ q ∧ q ≤ 5) (hw : 0 ≤ w ∧ w ≤ 99) : CT l X a B 2 yX2_blackestNight cX2_blackestNight 9 (some .int) [.ref (a (2 + k)), .int (J q), .int (J w)] S (Qi X a B ((beF (fun j => if csF q w ≤ iwF (S k) (S k 2 + S k 1 * sumF (dkF (S k)) j) then tkF q (dkF (S k) j) else -1) 12).1) (S)) := by
  refine CT.of (by decide +kernel) (Nat.le_of_ble_eq_true rfl) ?_
  intro p e s m below meth c ls hC hr hlk hI hl
  have hC : Cx p c cX2_blackestNight 9 s m [.ref (a (2 + k)), .int (J q), .int (J w)].toArray RX2 X B := hC
  have hl : lv_has ls 9 [(0, .ref (a (2 + k))), (1, .int (J q)), (2, .int (J w))] := hl
  obtain ⟨⟨hN, hBr, hBu, hIn, hLa, hPc⟩, hDk, hPg⟩ := id hV
  have hcs := cs_rg (k := q) hw
  refine r_iload_n hC hl dX2_blackestNight_0 1 rfl ?_
  refine r_iload_n hC hl dX2_blackestNight_1 2 rfl ?_
  refine r_cSi hC hI hl [.int (J q), .int (J w)] [] (c_X0_costs l X a B S q w (by omega) (by omega)) ml_RX2_52 es_X0_costs ⟨Nat.le_of_ble_eq_true rfl, Nat.le_of_ble_eq_true rfl⟩ ⟨Nat.zero_le _, Nat.zero_le _⟩ (Nat.le_of_ble_eq_true rfl) rfl dX2_blackestNight_2 (fun H locs hI => ?_)
  refine r_istore_n (lv1 := [(3, .int (J (csF q w))), (0, .ref (a (2 + k))), (1, .int (J q)), (2, .int (J w))]) hC hl dX2_blackestNight_5 3 rfl (by decide) rfl (fun ls hl => ?_)
  refine r_aload_n hC hl dX2_blackestNight_6 1 rfl ?_
  refine g_sc (k1 := k) (v := .int (J (S k 2))) hC hI (by omega) 2 (by decide) fl_RX2_16 rfl rfl dX2_blackestNight_7 ?_
  refine r_istore (lv1 := [(4, .int (J (S k 2))), (3, .int (J (csF q w))), (0, .ref (a (2 + k))), (1, .int (J q)), (2, .int (J w))]) hC hl dX2_blackestNight_10 (by decide) rfl (fun ls hl => ?_)
  refine r_iconst hC dX2_blackestNight_12 ?_
  refine r_istore (lv1 := [(5, .int (J (-1))), (4, .int (J (S k 2))), (3, .int (J (csF q w))), (0, .ref (a (2 + k))), (1, .int (J q)), (2, .int (J w))]) hC hl dX2_blackestNight_13 (by decide) rfl (fun ls hl => ?_)
  refine r_iconst hC dX2_blackestNight_15 ?_
  refine r_istore (lv1 := [(6, .int (J (-1))), (5, .int (J (-1))), (4, .int (J (S k 2))), (3, .int (J (csF q w))), (0, .ref (a (2 + k))), (1, .int (J q)), (2, .int (J w))]) hC hl dX2_blackestNight_16 (by decide) rfl (fun ls hl => ?_)
  refine r_iconst hC dX2_blackestNight_18 ?_
  refine r_istore (lv1 := [(7, .int (J 0)), (6, .int (J (-1))), (5, .int (J (-1))), (4, .int (J (S k 2))), (3, .int (J (csF q w))), (0, .ref (a (2 + k))), (1, .int (J q)), (2, .int (J w))]) hC hl dX2_blackestNight_19 (by decide) rfl (fun ls hl => ?_)
  have hL21 : ∀ (fu : Nat) (t : Nat) (x7 x6 x5 x4 : Int), 12 - t < fu → (x7 = (t : Int)) → (x6 = (beF (fun j => if csF q w ≤ iwF (S k) (S k 2 + S k 1 * sumF (dkF (S k)) j) then tkF q (dkF (S k) j) else -1) t).2) → (x5 = (beF (fun j => if csF q w ≤ iwF (S k) (S k 2 + S k 1 * sumF (dkF (S k)) j) then tkF q (dkF (S k) j) else -1) t).1) → (x4 = S k 2 + S k 1 * sumF (dkF (S k)) t) → (t ≤ 12) → (-1 ≤ (beF (fun j => if csF q w ≤ iwF (S k) (S k 2 + S k 1 * sumF (dkF (S k)) j) then tkF q (dkF (S k) j) else -1) t).2 ∧ (beF (fun j => if csF q w ≤ iwF (S k) (S k 2 + S k 1 * sumF (dkF (S k)) j) then tkF q (dkF (S k) j) else -1) t).2 ≤ 99) → ∀ (H : Heap) (locs : List Loc) (ls : Array Slot), IS X a B s (S) H locs → lv_has ls 9 [(7, .int (J x7)), (6, .int (J x6)), (5, .int (J x5)), (4, .int (J x4)), (3, .int (J (csF q w))), (0, .ref (a (2 + k))), (1, .int (J q)), (2, .int (J w))] → W p l e (rmD 2) s m [.ref (a (2 + k)), .int (J q), .int (J w)].toArray below meth c H locs 0 0 (MQ below (Qi X a B ((beF (fun j => if csF q w ≤ iwF (S k) (S k 2 + S k 1 * sumF (dkF (S k)) j) then tkF q (dkF (S k) j) else -1) 12).1) (S)) [.ref (a (2 + k)), .int (J q), .int (J w)].toArray s 0 0 (fun q => B ≤ q)) (F0 m 21 ls []) := by
    intro fu
    induction fu with
    | zero => intro t x7 x6 x5 x4 hm; exact absurd hm (Nat.not_lt_zero _)
    | succ fu ih21 =>
      intro t x7 x6 x5 x4 hm e7 e6 e5 e4 ht hb H locs ls hI hl
      subst e7; subst e6; subst e5; subst e4
      have hdk := dk_rg hV t
      have htk := tk_rg (k := q) hdk
      have hbw := bw_rg hV hBr (n := t) (by omega)
      have hiw := iw_rg hV hbw
      refine r_iload hC hl dX2_blackestNight_21 0 rfl ?_
      refine r_bipush hC (by decide) dX2_blackestNight_23 ?_
      refine r_icmp_ge (tgt := 87) hC (by omega) (by omega) dX2_blackestNight_25 (by decide) (fun c_1 => ?_) (fun c_1 => ?_)
      · skip
        refine r_iload hC hl dX2_blackestNight_87 2 rfl ?_
        exact r_iret hC hr hlk hI (by rw [show t = 12 by omega]) (rfl) dX2_blackestNight_89
      · skip
        refine r_iload_n hC hl dX2_blackestNight_28 6 rfl ?_
        refine r_aload_n hC hl dX2_blackestNight_29 5 rfl ?_
        refine r_iload hC hl dX2_blackestNight_30 0 rfl ?_
        refine r_cVi hC hI hl [.int (J (t : Int))] [.int (J q)] (c_X2_darkOn l X a B S k t (by omega) (by omega) (by omega)) ml_RX2_74 ev_X2_darkOn (rc_sc (S := S) hC hI (by omega)) ⟨Nat.le_of_ble_eq_true rfl, Nat.le_of_ble_eq_true rfl⟩ ⟨Nat.zero_le _, Nat.zero_le _⟩ (Nat.le_of_ble_eq_true rfl) rfl dX2_blackestNight_32 (fun H locs hI => ?_)
        refine r_cSi hC hI hl [.int (J q), .int (J (dkF (S k) t))] [] (c_X0_takes l X a B S q (dkF (S k) t) (by omega) (by omega)) ml_RX2_78 es_X0_takes ⟨Nat.le_of_ble_eq_true rfl, Nat.le_of_ble_eq_true rfl⟩ ⟨Nat.zero_le _, Nat.zero_le _⟩ (Nat.le_of_ble_eq_true rfl) rfl dX2_blackestNight_35 (fun H locs hI => ?_)
        refine r_istore (lv1 := [(8, .int (J (tkF q (dkF (S k) t)))), (7, .int (J (t : Int))), (6, .int (J ((beF (fun j => if csF q w ≤ iwF (S k) (S k 2 + S k 1 * sumF (dkF (S k)) j) then tkF q (dkF (S k) j) else -1) t).2))), (5, .int (J ((beF (fun j => if csF q w ≤ iwF (S k) (S k 2 + S k 1 * sumF (dkF (S k)) j) then tkF q (dkF (S k) j) else -1) t).1))), (4, .int (J (S k 2 + S k 1 * sumF (dkF (S k)) t))), (3, .int (J (csF q w))), (0, .ref (a (2 + k))), (1, .int (J q)), (2, .int (J w))]) hC hl dX2_blackestNight_38 (by decide) rfl (fun ls hl => ?_)
        refine r_aload_n hC hl dX2_blackestNight_40 6 rfl ?_
        refine r_iload hC hl dX2_blackestNight_41 4 rfl ?_
        refine r_cVi hC hI hl [.int (J (S k 2 + S k 1 * sumF (dkF (S k)) t))] [] (c_X2_inkWith l X a B S k (S k 2 + S k 1 * sumF (dkF (S k)) t) (by omega) (by omega) (by omega)) ml_RX2_98 ev_X2_inkWith (rc_sc (S := S) hC hI (by omega)) ⟨Nat.le_of_ble_eq_true rfl, Nat.le_of_ble_eq_true rfl⟩ ⟨Nat.zero_le _, Nat.zero_le _⟩ (Nat.le_of_ble_eq_true rfl) rfl dX2_blackestNight_43 (fun H locs hI => ?_)
        refine r_iload_n hC hl dX2_blackestNight_46 5 rfl ?_
        refine r_icmp_lt (tgt := 65) hC (by omega) (by omega) dX2_blackestNight_47 (by decide) (fun c_2 => ?_) (fun c_2 => ?_)
        · skip
          refine r_iload hC hl dX2_blackestNight_65 4 rfl ?_
          refine r_aload_n hC hl dX2_blackestNight_67 6 rfl ?_
          refine g_sc (k1 := k) (v := .int (J (S k 1))) hC hI (by omega) 1 (by decide) fl_RX2_13 rfl rfl dX2_blackestNight_68 ?_
          refine r_aload_n hC hl dX2_blackestNight_71 6 rfl ?_
          refine r_iload hC hl dX2_blackestNight_72 1 rfl ?_
          refine r_cVi hC hI hl [.int (J (t : Int))] [.int (J (S k 1)), .int (J (S k 2 + S k 1 * sumF (dkF (S k)) t))] (c_X2_darkOn l X a B S k t (by omega) (by omega) (by omega)) ml_RX2_74 ev_X2_darkOn (rc_sc (S := S) hC hI (by omega)) ⟨Nat.le_of_ble_eq_true rfl, Nat.le_of_ble_eq_true rfl⟩ ⟨Nat.zero_le _, Nat.zero_le _⟩ (Nat.le_of_ble_eq_true rfl) rfl dX2_blackestNight_74 (fun H locs hI => ?_)
          refine r_imul hC dX2_blackestNight_77 ?_
          refine r_iadd hC dX2_blackestNight_78 ?_
          refine r_istore (lv1 := [(4, .int (J ((S k 2 + S k 1 * sumF (dkF (S k)) t) + ((S k 1) * (dkF (S k) t))))), (8, .int (J (tkF q (dkF (S k) t)))), (7, .int (J (t : Int))), (6, .int (J ((beF (fun j => if csF q w ≤ iwF (S k) (S k 2 + S k 1 * sumF (dkF (S k)) j) then tkF q (dkF (S k) j) else -1) t).2))), (5, .int (J ((beF (fun j => if csF q w ≤ iwF (S k) (S k 2 + S k 1 * sumF (dkF (S k)) j) then tkF q (dkF (S k) j) else -1) t).1))), (3, .int (J (csF q w))), (0, .ref (a (2 + k))), (1, .int (J q)), (2, .int (J w))]) hC hl dX2_blackestNight_79 (by decide) rfl (fun ls hl => ?_)
          refine r_iinc (lv1 := [(7, .int (J ((t : Int) + 1))), (4, .int (J ((S k 2 + S k 1 * sumF (dkF (S k)) t) + ((S k 1) * (dkF (S k) t))))), (8, .int (J (tkF q (dkF (S k) t)))), (6, .int (J ((beF (fun j => if csF q w ≤ iwF (S k) (S k 2 + S k 1 * sumF (dkF (S k)) j) then tkF q (dkF (S k) j) else -1) t).2))), (5, .int (J ((beF (fun j => if csF q w ≤ iwF (S k) (S k 2 + S k 1 * sumF (dkF (S k)) j) then tkF q (dkF (S k) j) else -1) t).1))), (3, .int (J (csF q w))), (0, .ref (a (2 + k))), (1, .int (J q)), (2, .int (J w))]) hC hl dX2_blackestNight_81 2 rfl (by decide) rfl (fun ls hl => ?_)
          refine r_goto (tgt := 21) hC dX2_blackestNight_84 (by decide) ?_
          have hdt : S k 2 + S k 1 * sumF (dkF (S k)) t + S k 1 * dkF (S k) t = S k 2 + S k 1 * sumF (dkF (S k)) (t + 1) := by show _ = S k 2 + S k 1 * (sumF (dkF (S k)) t + dkF (S k) t); rw [Int.mul_add, Int.add_assoc]
          have hbq : beF (fun j => if csF q w ≤ iwF (S k) (S k 2 + S k 1 * sumF (dkF (S k)) j) then tkF q (dkF (S k) j) else -1) (t + 1) = beF (fun j => if csF q w ≤ iwF (S k) (S k 2 + S k 1 * sumF (dkF (S k)) j) then tkF q (dkF (S k) j) else -1) t := be_f (by show ¬ (beF (fun j => if csF q w ≤ iwF (S k) (S k 2 + S k 1 * sumF (dkF (S k)) j) then tkF q (dkF (S k) j) else -1) t).2 < (if _ then _ else _); rw [if_neg (by omega)]; omega)
          exact ih21 (t + 1) ((t : Int) + 1) ((beF (fun j => if csF q w ≤ iwF (S k) (S k 2 + S k 1 * sumF (dkF (S k)) j) then tkF q (dkF (S k) j) else -1) t).2) ((beF (fun j => if csF q w ≤ iwF (S k) (S k 2 + S k 1 * sumF (dkF (S k)) j) then tkF q (dkF (S k) j) else -1) t).1) ((S k 2 + S k 1 * sumF (dkF (S k)) t) + ((S k 1) * (dkF (S k) t))) (by omega) (by omega) (by rw [hbq]) (by rw [hbq]) hdt (by omega) (by rw [hbq]; exact hb) _ _ _ hI (lv_sub hl [0, 3, 4, 1, 5, 6, 7, 8] rfl)
        · skip
          refine r_iload hC hl dX2_blackestNight_50 0 rfl ?_
          refine r_iload hC hl dX2_blackestNight_52 2 rfl ?_
          refine r_icmp_le (tgt := 65) hC (by omega) (by omega) dX2_blackestNight_54 (by decide) (fun c_3 => ?_) (fun c_3 => ?_)
          · skip
            refine r_iload hC hl dX2_blackestNight_65 4 rfl ?_
            refine r_aload_n hC hl dX2_blackestNight_67 6 rfl ?_
            refine g_sc (k1 := k) (v := .int (J (S k 1))) hC hI (by omega) 1 (by decide) fl_RX2_13 rfl rfl dX2_blackestNight_68 ?_
            refine r_aload_n hC hl dX2_blackestNight_71 6 rfl ?_
            refine r_iload hC hl dX2_blackestNight_72 1 rfl ?_
            refine r_cVi hC hI hl [.int (J (t : Int))] [.int (J (S k 1)), .int (J (S k 2 + S k 1 * sumF (dkF (S k)) t))] (c_X2_darkOn l X a B S k t (by omega) (by omega) (by omega)) ml_RX2_74 ev_X2_darkOn (rc_sc (S := S) hC hI (by omega)) ⟨Nat.le_of_ble_eq_true rfl, Nat.le_of_ble_eq_true rfl⟩ ⟨Nat.zero_le _, Nat.zero_le _⟩ (Nat.le_of_ble_eq_true rfl) rfl dX2_blackestNight_74 (fun H locs hI => ?_)
            refine r_imul hC dX2_blackestNight_77 ?_
            refine r_iadd hC dX2_blackestNight_78 ?_
            refine r_istore (lv1 := [(4, .int (J ((S k 2 + S k 1 * sumF (dkF (S k)) t) + ((S k 1) * (dkF (S k) t))))), (8, .int (J (tkF q (dkF (S k) t)))), (7, .int (J (t : Int))), (6, .int (J ((beF (fun j => if csF q w ≤ iwF (S k) (S k 2 + S k 1 * sumF (dkF (S k)) j) then tkF q (dkF (S k) j) else -1) t).2))), (5, .int (J ((beF (fun j => if csF q w ≤ iwF (S k) (S k 2 + S k 1 * sumF (dkF (S k)) j) then tkF q (dkF (S k) j) else -1) t).1))), (3, .int (J (csF q w))), (0, .ref (a (2 + k))), (1, .int (J q)), (2, .int (J w))]) hC hl dX2_blackestNight_79 (by decide) rfl (fun ls hl => ?_)
            refine r_iinc (lv1 := [(7, .int (J ((t : Int) + 1))), (4, .int (J ((S k 2 + S k 1 * sumF (dkF (S k)) t) + ((S k 1) * (dkF (S k) t))))), (8, .int (J (tkF q (dkF (S k) t)))), (6, .int (J ((beF (fun j => if csF q w ≤ iwF (S k) (S k 2 + S k 1 * sumF (dkF (S k)) j) then tkF q (dkF (S k) j) else -1) t).2))), (5, .int (J ((beF (fun j => if csF q w ≤ iwF (S k) (S k 2 + S k 1 * sumF (dkF (S k)) j) then tkF q (dkF (S k) j) else -1) t).1))), (3, .int (J (csF q w))), (0, .ref (a (2 + k))), (1, .int (J q)), (2, .int (J w))]) hC hl dX2_blackestNight_81 2 rfl (by decide) rfl (fun ls hl => ?_)
            refine r_goto (tgt := 21) hC dX2_blackestNight_84 (by decide) ?_
            have hdt : S k 2 + S k 1 * sumF (dkF (S k)) t + S k 1 * dkF (S k) t = S k 2 + S k 1 * sumF (dkF (S k)) (t + 1) := by show _ = S k 2 + S k 1 * (sumF (dkF (S k)) t + dkF (S k) t); rw [Int.mul_add, Int.add_assoc]
            have hbq : beF (fun j => if csF q w ≤ iwF (S k) (S k 2 + S k 1 * sumF (dkF (S k)) j) then tkF q (dkF (S k) j) else -1) (t + 1) = beF (fun j => if csF q w ≤ iwF (S k) (S k 2 + S k 1 * sumF (dkF (S k)) j) then tkF q (dkF (S k) j) else -1) t := be_f (by show ¬ (beF (fun j => if csF q w ≤ iwF (S k) (S k 2 + S k 1 * sumF (dkF (S k)) j) then tkF q (dkF (S k) j) else -1) t).2 < (if _ then _ else _); rw [if_pos (by omega)]; omega)
            exact ih21 (t + 1) ((t : Int) + 1) ((beF (fun j => if csF q w ≤ iwF (S k) (S k 2 + S k 1 * sumF (dkF (S k)) j) then tkF q (dkF (S k) j) else -1) t).2) ((beF (fun j => if csF q w ≤ iwF (S k) (S k 2 + S k 1 * sumF (dkF (S k)) j) then tkF q (dkF (S k) j) else -1) t).1) ((S k 2 + S k 1 * sumF (dkF (S k)) t) + ((S k 1) * (dkF (S k) t))) (by omega) (by omega) (by rw [hbq]) (by rw [hbq]) hdt (by omega) (by rw [hbq]; exact hb) _ _ _ hI (lv_sub hl [0, 3, 4, 1, 5, 6, 7, 8] rfl)
          · skip
            refine r_iload hC hl dX2_blackestNight_57 1 rfl ?_
            refine r_istore (lv1 := [(5, .int (J (t : Int))), (8, .int (J (tkF q (dkF (S k) t)))), (7, .int (J (t : Int))), (6, .int (J ((beF (fun j => if csF q w ≤ iwF (S k) (S k 2 + S k 1 * sumF (dkF (S k)) j) then tkF q (dkF (S k) j) else -1) t).2))), (4, .int (J (S k 2 + S k 1 * sumF (dkF (S k)) t))), (3, .int (J (csF q w))), (0, .ref (a (2 + k))), (1, .int (J q)), (2, .int (J w))]) hC hl dX2_blackestNight_59 (by decide) rfl (fun ls hl => ?_)
            refine r_iload hC hl dX2_blackestNight_61 1 rfl ?_
            refine r_istore (lv1 := [(6, .int (J (tkF q (dkF (S k) t)))), (5, .int (J (t : Int))), (8, .int (J (tkF q (dkF (S k) t)))), (7, .int (J (t : Int))), (4, .int (J (S k 2 + S k 1 * sumF (dkF (S k)) t))), (3, .int (J (csF q w))), (0, .ref (a (2 + k))), (1, .int (J q)), (2, .int (J w))]) hC hl dX2_blackestNight_63 (by decide) rfl (fun ls hl => ?_)
            refine r_iload hC hl dX2_blackestNight_65 4 rfl ?_
            refine r_aload_n hC hl dX2_blackestNight_67 6 rfl ?_
            refine g_sc (k1 := k) (v := .int (J (S k 1))) hC hI (by omega) 1 (by decide) fl_RX2_13 rfl rfl dX2_blackestNight_68 ?_
            refine r_aload_n hC hl dX2_blackestNight_71 6 rfl ?_
            refine r_iload hC hl dX2_blackestNight_72 3 rfl ?_
            refine r_cVi hC hI hl [.int (J (t : Int))] [.int (J (S k 1)), .int (J (S k 2 + S k 1 * sumF (dkF (S k)) t))] (c_X2_darkOn l X a B S k t (by omega) (by omega) (by omega)) ml_RX2_74 ev_X2_darkOn (rc_sc (S := S) hC hI (by omega)) ⟨Nat.le_of_ble_eq_true rfl, Nat.le_of_ble_eq_true rfl⟩ ⟨Nat.zero_le _, Nat.zero_le _⟩ (Nat.le_of_ble_eq_true rfl) rfl dX2_blackestNight_74 (fun H locs hI => ?_)
            refine r_imul hC dX2_blackestNight_77 ?_
            refine r_iadd hC dX2_blackestNight_78 ?_
            refine r_istore (lv1 := [(4, .int (J ((S k 2 + S k 1 * sumF (dkF (S k)) t) + ((S k 1) * (dkF (S k) t))))), (6, .int (J (tkF q (dkF (S k) t)))), (5, .int (J (t : Int))), (8, .int (J (tkF q (dkF (S k) t)))), (7, .int (J (t : Int))), (3, .int (J (csF q w))), (0, .ref (a (2 + k))), (1, .int (J q)), (2, .int (J w))]) hC hl dX2_blackestNight_79 (by decide) rfl (fun ls hl => ?_)
            refine r_iinc (lv1 := [(7, .int (J ((t : Int) + 1))), (4, .int (J ((S k 2 + S k 1 * sumF (dkF (S k)) t) + ((S k 1) * (dkF (S k) t))))), (6, .int (J (tkF q (dkF (S k) t)))), (5, .int (J (t : Int))), (8, .int (J (tkF q (dkF (S k) t)))), (3, .int (J (csF q w))), (0, .ref (a (2 + k))), (1, .int (J q)), (2, .int (J w))]) hC hl dX2_blackestNight_81 4 rfl (by decide) rfl (fun ls hl => ?_)
            refine r_goto (tgt := 21) hC dX2_blackestNight_84 (by decide) ?_
            have hdt : S k 2 + S k 1 * sumF (dkF (S k)) t + S k 1 * dkF (S k) t = S k 2 + S k 1 * sumF (dkF (S k)) (t + 1) := by show _ = S k 2 + S k 1 * (sumF (dkF (S k)) t + dkF (S k) t); rw [Int.mul_add, Int.add_assoc]
            have hbq : beF (fun j => if csF q w ≤ iwF (S k) (S k 2 + S k 1 * sumF (dkF (S k)) j) then tkF q (dkF (S k) j) else -1) (t + 1) = ((t : Int), tkF q (dkF (S k) t)) := by
              have e1 : (if csF q w ≤ iwF (S k) (S k 2 + S k 1 * sumF (dkF (S k)) t) then tkF q (dkF (S k) t) else -1) = tkF q (dkF (S k) t) := if_pos c_2
              have e2 := be_t (f := (fun j => if csF q w ≤ iwF (S k) (S k 2 + S k 1 * sumF (dkF (S k)) j) then tkF q (dkF (S k) j) else -1)) (n := t) (by rw [e1]; exact c_3)
              rw [e1] at e2; exact e2
            exact ih21 (t + 1) ((t : Int) + 1) (tkF q (dkF (S k) t)) (t : Int) ((S k 2 + S k 1 * sumF (dkF (S k)) t) + ((S k 1) * (dkF (S k) t))) (by omega) (by omega) (by rw [hbq]) (by rw [hbq]) hdt (by omega) (by rw [hbq]; exact ⟨Int.le_trans (by decide) htk.1, htk.2⟩) _ _ _ hI (lv_sub hl [0, 2, 3, 1, 5, 6, 7, 8] rfl)
  exact hL21 _ 0 0 (-1) (-1) (S k 2) (Nat.lt_succ_self _) (by omega) rfl rfl (by show _ = S k 2 + S k 1 * 0; rw [Int.mul_zero, Int.add_zero]) (by omega) (by show (-1 : Int) ≤ -1 ∧ (-1 : Int) ≤ 99; omega) _ _ _ hI (lv_sub hl [0, 1, 2, 3, 4, 5, 6, 7] rfl)
