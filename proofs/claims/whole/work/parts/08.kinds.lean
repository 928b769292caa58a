theorem bI_01 {P : Prop} [Decidable P] : bI P = 0 ∨ bI P = 1 := by
  by_cases h : P
  · exact Or.inr (if_pos h)
  · exact Or.inl (if_neg h)
theorem bI_iff {P Q : Prop} [Decidable P] [Decidable Q] (h : P ↔ Q) : bI P = bI Q := by
  by_cases hP : P
  · rw [bI_t hP, bI_t (h.mp hP)]
  · rw [bI_f hP, bI_f (fun q => hP (h.mpr q))]
section R8
variable {p : Program} {l : Launch} {e : Env} {R : Room} {s : State} {m : MethodId} {args : Array Value} {below : List Frame} {meth : Method} {c : Code} {H : Heap} {locs : List Loc} {cells slots : Nat} {Q : State → Prop}
variable {cc : ByteArray} {nL pc : Nat} {own : String} {ls : Array Slot} {rest st : List Value} {X : XT} {a : Nat → Nat} {B : Nat} {S S' : St} {lv : List (Nat × Value)}
theorem r_nm {x : Int} (k : ∀ y : Int, y = x → W p l e R s m args below meth c H locs cells slots Q (F0 m pc ls (.int (J y) :: rest))) : W p l e R s m args below meth c H locs cells slots Q (F0 m pc ls (.int (J x) :: rest)) := k x rfl
theorem r_aret (hC : Cx p c cc nL s m args own X B) {cn : String} (hr : meth.sig.returnType = some (.object cn)) (hlk : meth.locks = false) (hI : IS X a B s S H locs) {x r : Nat} (er : x = r) (eS : S = S') (hdg : decode cc pc = .ok (.areturn, 1)) : W p l e R s m args below meth c H locs cells slots (MQ below (Qr X a B r S') args s cells slots (fun q => B ≤ q)) (F0 m pc ls [.ref x]) := by
  subst er; subst eS
  exact W.aret (v := .ref x) hC.1 hC.2.1 hr (Or.inl ⟨_, rfl⟩) (Or.inr ⟨_, rfl⟩) (fun t ht hW => ⟨⟨(), x, rfl, trivial, rfl, hI.iw hC ht hW⟩, hI.2.2.F ht⟩) hI.2.2.2.2 hdg hlk
theorem xor_nn {x y : Int32} (hx : 0 ≤ x.toInt) (hy : 0 ≤ y.toInt) : 0 ≤ (x ^^^ y).toInt := by
  have h1 : x.toBitVec.msb = false := by rw [BitVec.msb_eq_toInt]; simpa using hx
  have h2 : y.toBitVec.msb = false := by rw [BitVec.msb_eq_toInt]; simpa using hy
  have h3 : (x ^^^ y).toBitVec.msb = false := by rw [Int32.toBitVec_xor, BitVec.msb_xor, h1, h2]; rfl
  rw [BitVec.msb_eq_toInt] at h3
  exact Int.not_lt.mp (of_decide_eq_false h3)
theorem r_ixor (hC : Cx p c cc nL s m args own X B) {x y : Int} (hx : 0 ≤ x ∧ x ≤ 2147483647) (hy : 0 ≤ y ∧ y ≤ 2147483647) (hdg : decode cc pc = .ok (.ixor, 1)) (k : ∀ z : Int, 0 ≤ z → z ≤ 2147483647 → W p l e R s m args below meth c H locs cells slots Q (F0 m (pc + 1) ls (.int (J z) :: rest))) : W p l e R s m args below meth c H locs cells slots Q (F0 m pc ls (.int (J y) :: .int (J x) :: rest)) := by
  refine lv_ixor hC.1 hC.2.1 hdg ?_
  rw [J_of (J x ^^^ J y)]
  exact k _ (xor_nn (by rw [J_t (by omega)]; exact hx.1) (by rw [J_t (by omega)]; exact hy.1)) (J_rg _).2
end R8
def mxF (x y : Int) : Int := if x < y then y else x
def mnF (x y : Int) : Int := if y < x then y else x

set_option maxHeartbeats 4000000 in
set_option maxRecDepth 100000 in
theorem c_J9_max_7cf53 (l : Launch) (X : XT) (a : Nat → Nat) (B : Nat) (S : St) (x : Int) (y : Int) (hx : -2147483648 ≤ x ∧ x ≤ 2147483647) (hy : -2147483648 ≤ y ∧ y ≤ 2147483647) : CT l X a B 0 yJ9_max_7cf53 cJ9_max_7cf53 2 (some .int) [.int (J x), .int (J y)] S (Qi X a B (mxF x y) (S)) := by
  refine CT.of (by decide +kernel) (Nat.le_of_ble_eq_true rfl) ?_
  intro p e s m below meth c ls hC hr hlk hI hl
  have hC : Cx p c cJ9_max_7cf53 2 s m [.int (J x), .int (J y)].toArray RJ9 X B := hC
  have hl : lv_has ls 2 [(0, .int (J x)), (1, .int (J y))] := hl
  refine r_iload_n hC hl dJ9_max_7cf53_0 0 rfl ?_
  refine r_iload_n hC hl dJ9_max_7cf53_1 1 rfl ?_
  refine r_icmp_lt (tgt := 9) hC (by omega) (by omega) dJ9_max_7cf53_2 (by decide) (fun c_1 => ?_) (fun c_1 => ?_)
  · skip
    refine r_iload_n hC hl dJ9_max_7cf53_9 1 rfl ?_
    exact r_iret hC hr hlk hI (by unfold mxF; split <;> omega) (rfl) dJ9_max_7cf53_10
  · skip
    refine r_iload_n hC hl dJ9_max_7cf53_5 0 rfl ?_
    refine r_goto (tgt := 10) hC dJ9_max_7cf53_6 (by decide) ?_
    exact r_iret hC hr hlk hI (by unfold mxF; split <;> omega) (rfl) dJ9_max_7cf53_10

set_option maxHeartbeats 4000000 in
set_option maxRecDepth 100000 in
theorem c_J9_min_7cf53 (l : Launch) (X : XT) (a : Nat → Nat) (B : Nat) (S : St) (x : Int) (y : Int) (hx : -2147483648 ≤ x ∧ x ≤ 2147483647) (hy : -2147483648 ≤ y ∧ y ≤ 2147483647) : CT l X a B 0 yJ9_min_7cf53 cJ9_min_7cf53 2 (some .int) [.int (J x), .int (J y)] S (Qi X a B (mnF x y) (S)) := by
  refine CT.of (by decide +kernel) (Nat.le_of_ble_eq_true rfl) ?_
  intro p e s m below meth c ls hC hr hlk hI hl
  have hC : Cx p c cJ9_min_7cf53 2 s m [.int (J x), .int (J y)].toArray RJ9 X B := hC
  have hl : lv_has ls 2 [(0, .int (J x)), (1, .int (J y))] := hl
  refine r_iload_n hC hl dJ9_min_7cf53_0 0 rfl ?_
  refine r_iload_n hC hl dJ9_min_7cf53_1 1 rfl ?_
  refine r_icmp_gt (tgt := 9) hC (by omega) (by omega) dJ9_min_7cf53_2 (by decide) (fun c_1 => ?_) (fun c_1 => ?_)
  · skip
    refine r_iload_n hC hl dJ9_min_7cf53_9 1 rfl ?_
    exact r_iret hC hr hlk hI (by unfold mnF; split <;> omega) (rfl) dJ9_min_7cf53_10
  · skip
    refine r_iload_n hC hl dJ9_min_7cf53_5 0 rfl ?_
    refine r_goto (tgt := 10) hC dJ9_min_7cf53_6 (by decide) ?_
    exact r_iret hC hr hlk hI (by unfold mnF; split <;> omega) (rfl) dJ9_min_7cf53_10

set_option maxHeartbeats 4000000 in
set_option maxRecDepth 100000 in
theorem c_J9_floorMod_7cf53 (l : Launch) (X : XT) (a : Nat → Nat) (B : Nat) (S : St) (x : Int) (y : Int) (hx : 0 ≤ x ∧ x ≤ 2147483647) (hy : 0 < y ∧ y ≤ 2147483647) : CT l X a B 0 yJ9_floorMod_7cf53 cJ9_floorMod_7cf53 3 (some .int) [.int (J x), .int (J y)] S (Qi X a B (x % y) (S)) := by
  refine CT.of (by decide +kernel) (Nat.le_of_ble_eq_true rfl) ?_
  intro p e s m below meth c ls hC hr hlk hI hl
  have hC : Cx p c cJ9_floorMod_7cf53 3 s m [.int (J x), .int (J y)].toArray RJ9 X B := hC
  have hl : lv_has ls 3 [(0, .int (J x)), (1, .int (J y))] := hl
  have hm0 : 0 ≤ x % y := Int.emod_nonneg _ (by omega)
  have hm1 : x % y < y := Int.emod_lt_of_pos _ (by omega)
  refine r_iload_n hC hl dJ9_floorMod_7cf53_0 0 rfl ?_
  refine r_iload_n hC hl dJ9_floorMod_7cf53_1 1 rfl ?_
  refine r_irem hC (by omega) (by omega) dJ9_floorMod_7cf53_2 ?_
  refine r_istore_n (lv1 := [(2, .int (J (x % y))), (0, .int (J x)), (1, .int (J y))]) hC hl dJ9_floorMod_7cf53_3 2 rfl (by decide) rfl (fun ls hl => ?_)
  refine r_iload_n hC hl dJ9_floorMod_7cf53_4 1 rfl ?_
  refine r_iload_n hC hl dJ9_floorMod_7cf53_5 2 rfl ?_
  refine r_ixor hC (by omega) (by omega) dJ9_floorMod_7cf53_6 (fun z hz0 hz1 => ?_)
  refine r_if_ge (tgt := 18) hC (by omega) dJ9_floorMod_7cf53_7 (by decide) (fun c_1 => ?_) (fun c_1 => ?_)
  · skip
    refine r_iload_n hC hl dJ9_floorMod_7cf53_18 0 rfl ?_
    exact r_iret hC hr hlk hI (rfl) (rfl) dJ9_floorMod_7cf53_19
  · skip
    exfalso; omega

set_option maxHeartbeats 4000000 in
set_option maxRecDepth 100000 in
theorem c_X6_isWithin (l : Launch) (X : XT) (a : Nat → Nat) (B : Nat) (S : St) (v : Int) (lo : Int) (hi : Int) (hv : -2147483648 ≤ v ∧ v ≤ 2147483647) (hlo : -2147483648 ≤ lo ∧ lo ≤ 2147483647) (hh : -2147483648 ≤ hi ∧ hi ≤ 2147483647) : CT l X a B 0 yX6_isWithin cX6_isWithin 3 (some .boolean) [.int (J v), .int (J lo), .int (J hi)] S (Qi X a B (bI (lo ≤ v ∧ v ≤ hi)) (S)) := by
  refine CT.of (by decide +kernel) (Nat.le_of_ble_eq_true rfl) ?_
  intro p e s m below meth c ls hC hr hlk hI hl
  have hC : Cx p c cX6_isWithin 3 s m [.int (J v), .int (J lo), .int (J hi)].toArray RX6 X B := hC
  have hl : lv_has ls 3 [(0, .int (J v)), (1, .int (J lo)), (2, .int (J hi))] := hl
  refine r_iload_n hC hl dX6_isWithin_0 0 rfl ?_
  refine r_iload_n hC hl dX6_isWithin_1 1 rfl ?_
  refine r_icmp_lt (tgt := 14) hC (by omega) (by omega) dX6_isWithin_2 (by decide) (fun c_1 => ?_) (fun c_1 => ?_)
  · skip
    refine r_iconst hC dX6_isWithin_14 ?_
    exact r_zret hC hr hlk hI (by decide) ((bI_f (by omega)).symm) (rfl) dX6_isWithin_15
  · skip
    refine r_iload_n hC hl dX6_isWithin_5 0 rfl ?_
    refine r_iload_n hC hl dX6_isWithin_6 2 rfl ?_
    refine r_icmp_gt (tgt := 14) hC (by omega) (by omega) dX6_isWithin_7 (by decide) (fun c_2 => ?_) (fun c_2 => ?_)
    · skip
      refine r_iconst hC dX6_isWithin_14 ?_
      exact r_zret hC hr hlk hI (by decide) ((bI_f (by omega)).symm) (rfl) dX6_isWithin_15
    · skip
      refine r_iconst hC dX6_isWithin_10 ?_
      refine r_goto (tgt := 15) hC dX6_isWithin_11 (by decide) ?_
      exact r_zret hC hr hlk hI (by decide) ((bI_t (by omega)).symm) (rfl) dX6_isWithin_15

set_option maxHeartbeats 4000000 in
set_option maxRecDepth 100000 in
theorem c_X7_in (l : Launch) (X : XT) (a : Nat → Nat) (B : Nat) (S : St) (v : Int) (lo : Int) (hi : Int) (hv : -2147483648 ≤ v ∧ v ≤ 2147483647) (hlo : -2147483648 ≤ lo ∧ lo ≤ 2147483647) (hh : -2147483648 ≤ hi ∧ hi ≤ 2147483647) : CT l X a B 0 yX7_in cX7_in 3 (some .boolean) [.int (J v), .int (J lo), .int (J hi)] S (Qi X a B (bI (lo ≤ v ∧ v ≤ hi)) (S)) := by
  refine CT.of (by decide +kernel) (Nat.le_of_ble_eq_true rfl) ?_
  intro p e s m below meth c ls hC hr hlk hI hl
  have hC : Cx p c cX7_in 3 s m [.int (J v), .int (J lo), .int (J hi)].toArray RX7 X B := hC
  have hl : lv_has ls 3 [(0, .int (J v)), (1, .int (J lo)), (2, .int (J hi))] := hl
  refine r_iload_n hC hl dX7_in_0 0 rfl ?_
  refine r_iload_n hC hl dX7_in_1 1 rfl ?_
  refine r_icmp_lt (tgt := 14) hC (by omega) (by omega) dX7_in_2 (by decide) (fun c_1 => ?_) (fun c_1 => ?_)
  · skip
    refine r_iconst hC dX7_in_14 ?_
    exact r_zret hC hr hlk hI (by decide) ((bI_f (by omega)).symm) (rfl) dX7_in_15
  · skip
    refine r_iload_n hC hl dX7_in_5 0 rfl ?_
    refine r_iload_n hC hl dX7_in_6 2 rfl ?_
    refine r_icmp_gt (tgt := 14) hC (by omega) (by omega) dX7_in_7 (by decide) (fun c_2 => ?_) (fun c_2 => ?_)
    · skip
      refine r_iconst hC dX7_in_14 ?_
      exact r_zret hC hr hlk hI (by decide) ((bI_f (by omega)).symm) (rfl) dX7_in_15
    · skip
      refine r_iconst hC dX7_in_10 ?_
      refine r_goto (tgt := 15) hC dX7_in_11 (by decide) ?_
      exact r_zret hC hr hlk hI (by decide) ((bI_t (by omega)).symm) (rfl) dX7_in_15

def hdF (v lo hi : Int) : Int := if v < lo then lo else if hi < v then hi else v

set_option maxHeartbeats 4000000 in
set_option maxRecDepth 100000 in
theorem c_X7_held (l : Launch) (X : XT) (a : Nat → Nat) (B : Nat) (S : St) (v : Int) (lo : Int) (hi : Int) (hv : -2147483648 ≤ v ∧ v ≤ 2147483647) (hlo : -2147483648 ≤ lo ∧ lo ≤ 2147483647) (hh : -2147483648 ≤ hi ∧ hi ≤ 2147483647) : CT l X a B 0 yX7_held cX7_held 3 (some .int) [.int (J v), .int (J lo), .int (J hi)] S (Qi X a B (hdF v lo hi) (S)) := by
  refine CT.of (by decide +kernel) (Nat.le_of_ble_eq_true rfl) ?_
  intro p e s m below meth c ls hC hr hlk hI hl
  have hC : Cx p c cX7_held 3 s m [.int (J v), .int (J lo), .int (J hi)].toArray RX7 X B := hC
  have hl : lv_has ls 3 [(0, .int (J v)), (1, .int (J lo)), (2, .int (J hi))] := hl
  refine r_iload_n hC hl dX7_held_0 0 rfl ?_
  refine r_iload_n hC hl dX7_held_1 1 rfl ?_
  refine r_icmp_ge (tgt := 9) hC (by omega) (by omega) dX7_held_2 (by decide) (fun c_1 => ?_) (fun c_1 => ?_)
  · skip
    refine r_iload_n hC hl dX7_held_9 0 rfl ?_
    refine r_iload_n hC hl dX7_held_10 2 rfl ?_
    refine r_icmp_le (tgt := 18) hC (by omega) (by omega) dX7_held_11 (by decide) (fun c_2 => ?_) (fun c_2 => ?_)
    · skip
      refine r_iload_n hC hl dX7_held_18 0 rfl ?_
      exact r_iret hC hr hlk hI (by unfold hdF; (repeat' split) <;> omega) (rfl) dX7_held_19
    · skip
      refine r_iload_n hC hl dX7_held_14 2 rfl ?_
      refine r_goto (tgt := 19) hC dX7_held_15 (by decide) ?_
      exact r_iret hC hr hlk hI (by unfold hdF; (repeat' split) <;> omega) (rfl) dX7_held_19
  · skip
    refine r_iload_n hC hl dX7_held_5 1 rfl ?_
    refine r_goto (tgt := 19) hC dX7_held_6 (by decide) ?_
    exact r_iret hC hr hlk hI (by unfold hdF; (repeat' split) <;> omega) (rfl) dX7_held_19

set_option maxHeartbeats 4000000 in
set_option maxRecDepth 100000 in
theorem c_X0_isKind (l : Launch) (X : XT) (a : Nat → Nat) (B : Nat) (S : St) (k : Int) (hk : -2147483648 ≤ k ∧ k ≤ 2147483647) : CT l X a B 1 yX0_isKind cX0_isKind 1 (some .boolean) [.int (J k)] S (Qi X a B (bI (0 ≤ k ∧ k ≤ 5)) (S)) := by
  refine CT.of (by decide +kernel) (Nat.le_of_ble_eq_true rfl) ?_
  intro p e s m below meth c ls hC hr hlk hI hl
  have hC : Cx p c cX0_isKind 1 s m [.int (J k)].toArray RX0 X B := hC
  have hl : lv_has ls 1 [(0, .int (J k))] := hl
  refine r_iload_n hC hl dX0_isKind_0 0 rfl ?_
  refine r_iconst hC dX0_isKind_1 ?_
  refine r_iconst hC dX0_isKind_2 ?_
  refine r_cNi hC hI hl [.int (J k), .int (J 0), .int (J 5)] [] (c_X6_isWithin l X a B S k 0 5 (by omega) (by omega) (by omega)) hC.2.2.2.2.2.1.2.1 es_X6_isWithin ⟨Nat.le_of_ble_eq_true rfl, Nat.le_of_ble_eq_true rfl⟩ ⟨Nat.zero_le _, Nat.zero_le _⟩ (Nat.le_of_ble_eq_true rfl) rfl dX0_isKind_3 (fun H locs hI => ?_)
  exact r_zret hC hr hlk hI (bI_01) (rfl) (rfl) dX0_isKind_6

set_option maxHeartbeats 4000000 in
set_option maxRecDepth 100000 in
theorem c_X7_isKind (l : Launch) (X : XT) (a : Nat → Nat) (B : Nat) (S : St) (k : Int) (hk : -2147483648 ≤ k ∧ k ≤ 2147483647) : CT l X a B 1 yX7_isKind cX7_isKind 1 (some .boolean) [.int (J k)] S (Qi X a B (bI (0 ≤ k ∧ k ≤ 5)) (S)) := by
  refine CT.of (by decide +kernel) (Nat.le_of_ble_eq_true rfl) ?_
  intro p e s m below meth c ls hC hr hlk hI hl
  have hC : Cx p c cX7_isKind 1 s m [.int (J k)].toArray RX7 X B := hC
  have hl : lv_has ls 1 [(0, .int (J k))] := hl
  refine r_iload_n hC hl dX7_isKind_0 0 rfl ?_
  refine r_iconst hC dX7_isKind_1 ?_
  refine r_iconst hC dX7_isKind_2 ?_
  refine r_cSi hC hI hl [.int (J k), .int (J 0), .int (J 5)] [] (c_X7_in l X a B S k 0 5 (by omega) (by omega) (by omega)) ml_RX7_45 es_X7_in ⟨Nat.le_of_ble_eq_true rfl, Nat.le_of_ble_eq_true rfl⟩ ⟨Nat.zero_le _, Nat.zero_le _⟩ (Nat.le_of_ble_eq_true rfl) rfl dX7_isKind_3 (fun H locs hI => ?_)
  exact r_zret hC hr hlk hI (bI_01) (rfl) (rfl) dX7_isKind_6

def csF (k w : Int) : Int := if k = 1 then 1 + w / 20 + 2 else if k = 2 then mxF 1 ((1 + w / 20) / 2) else if k = 3 then 2 * (1 + w / 20) else if k = 4 then 1 + w / 20 + 1 else if k = 5 then mxF 1 ((1 + w / 20) / 2) + 1 else 1 + w / 20
def tkF (k d : Int) : Int := if k = 1 ∨ k = 4 then mnF 99 (4 * d + 10) else if k = 3 then (if 15 ≤ d then mnF 99 (5 * d) else mnF 99 (4 * d)) else if k = 5 then mnF 99 (mxF 0 (4 * d - 5)) else mnF 99 (4 * d)
def fdF (k u r : Int) : Int := if k = 1 then (if u = 1 then 4 else 0) else if k = 2 then (if u = 1 then 10 else 1) else if k = 4 then (if r = 0 then 0 else if u = 1 then 4 else 0) else if k = 5 then (if u = 1 then 10 else 1) + r / 4 else (if u = 1 then 9 else 0)
def blF (k b r l : Int) : Int := if b = 0 then 0 else if k = 1 then (if 50 < b then b * l / 9 + 5 else b * l / 9) else if k = 2 then mxF 0 (b * l / 9 - r) else if k = 3 then (if 5 ≤ l then b else 0) else if k = 4 then 2 * (if 50 < b then b * l / 9 + 5 else b * l / 9) else if k = 5 then mxF 0 (b * l / 9 - r) + l else b * l / 9
theorem mul_bd {x y A B : Int} (h1 : 0 ≤ x ∧ x ≤ A) (h2 : 0 ≤ y ∧ y ≤ B) : 0 ≤ x * y ∧ x * y ≤ A * B := ⟨Int.mul_nonneg h1.1 h2.1, Int.mul_le_mul h1.2 h2.2 h2.1 (by omega)⟩

set_option maxHeartbeats 4000000 in
set_option maxRecDepth 100000 in
theorem c_X0_costs (l : Launch) (X : XT) (a : Nat → Nat) (B : Nat) (S : St) (k : Int) (w : Int) (hk : 0 ≤ k ∧ k ≤ 5) (hw : 0 ≤ w ∧ w ≤ 99) : CT l X a B 1 yX0_costs cX0_costs 5 (some .int) [.int (J k), .int (J w)] S (Qi X a B (csF k w) (S)) := by
  refine CT.of (by decide +kernel) (Nat.le_of_ble_eq_true rfl) ?_
  intro p e s m below meth c ls hC hr hlk hI hl
  have hC : Cx p c cX0_costs 5 s m [.int (J k), .int (J w)].toArray RX0 X B := hC
  have hl : lv_has ls 5 [(0, .int (J k)), (1, .int (J w))] := hl
  refine r_iconst hC dX0_costs_0 ?_
  refine r_iload_n hC hl dX0_costs_1 1 rfl ?_
  refine r_bipush hC (by decide) dX0_costs_2 ?_
  refine r_idiv hC (by (try unfold mxF); (repeat' split) <;> omega) (by (try unfold mxF); (repeat' split) <;> omega) dX0_costs_4 ?_
  refine r_iadd hC dX0_costs_5 ?_
  refine r_istore_n (lv1 := [(2, .int (J (1 + (w / 20)))), (0, .int (J k)), (1, .int (J w))]) hC hl dX0_costs_6 2 rfl (by decide) rfl (fun ls hl => ?_)
  refine r_iload_n hC hl dX0_costs_7 0 rfl ?_
  refine r_iconst hC dX0_costs_8 ?_
  refine r_iadd hC dX0_costs_9 ?_
  refine r_istore_n (lv1 := [(3, .int (J ((1 + (w / 20)) + 2))), (2, .int (J (1 + (w / 20)))), (0, .int (J k)), (1, .int (J w))]) hC hl dX0_costs_10 3 rfl (by decide) rfl (fun ls hl => ?_)
  refine r_iconst hC dX0_costs_11 ?_
  refine r_iload_n hC hl dX0_costs_12 1 rfl ?_
  refine r_iconst hC dX0_costs_13 ?_
  refine r_idiv hC (by (try unfold mxF); (repeat' split) <;> omega) (by (try unfold mxF); (repeat' split) <;> omega) dX0_costs_14 ?_
  refine r_cSi hC hI hl [.int (J 1), .int (J ((1 + (w / 20)) / 2))] [] (c_J9_max_7cf53 l X a B S 1 ((1 + (w / 20)) / 2) (by omega) (by omega)) ml_RX0_27 es_J9_max_7cf53 ⟨Nat.le_of_ble_eq_true rfl, Nat.le_of_ble_eq_true rfl⟩ ⟨Nat.zero_le _, Nat.zero_le _⟩ (Nat.le_of_ble_eq_true rfl) rfl dX0_costs_15 (fun H locs hI => ?_)
  refine r_istore (lv1 := [(4, .int (J (mxF 1 ((1 + (w / 20)) / 2)))), (3, .int (J ((1 + (w / 20)) + 2))), (2, .int (J (1 + (w / 20)))), (0, .int (J k)), (1, .int (J w))]) hC hl dX0_costs_18 (by decide) rfl (fun ls hl => ?_)
  refine r_iload_n hC hl dX0_costs_20 3 rfl ?_
  by_cases c_1 : k = 1
  · refine r_tin (tgt := 56) hC 1 c_1 (by decide) dX0_costs_21 (by decide) (by decide) rfl (by decide) ?_
    refine r_iload_n hC hl dX0_costs_56 1 rfl ?_
    exact r_iret hC hr hlk hI (by simp only [csF, tkF, fdF, blF, hdF, mxF, mnF]; (repeat' split) <;> omega) (rfl) dX0_costs_57
  by_cases c_2 : k = 2
  · refine r_tin (tgt := 58) hC 2 c_2 (by decide) dX0_costs_21 (by decide) (by decide) rfl (by decide) ?_
    refine r_iload hC hl dX0_costs_58 0 rfl ?_
    exact r_iret hC hr hlk hI (by simp only [csF, tkF, fdF, blF, hdF, mxF, mnF]; (repeat' split) <;> omega) (rfl) dX0_costs_60
  by_cases c_3 : k = 3
  · refine r_tin (tgt := 61) hC 3 c_3 (by decide) dX0_costs_21 (by decide) (by decide) rfl (by decide) ?_
    refine r_iconst hC dX0_costs_61 ?_
    refine r_iload_n hC hl dX0_costs_62 2 rfl ?_
    refine r_imul hC dX0_costs_63 ?_
    exact r_iret hC hr hlk hI (by simp only [csF, tkF, fdF, blF, hdF, mxF, mnF]; (repeat' split) <;> omega) (rfl) dX0_costs_64
  by_cases c_4 : k = 4
  · refine r_tin (tgt := 65) hC 4 c_4 (by decide) dX0_costs_21 (by decide) (by decide) rfl (by decide) ?_
    refine r_iload_n hC hl dX0_costs_65 1 rfl ?_
    refine r_iconst hC dX0_costs_66 ?_
    refine r_isub hC dX0_costs_67 ?_
    exact r_iret hC hr hlk hI (by simp only [csF, tkF, fdF, blF, hdF, mxF, mnF]; (repeat' split) <;> omega) (rfl) dX0_costs_68
  by_cases c_5 : k = 5
  · refine r_tin (tgt := 69) hC 5 c_5 (by decide) dX0_costs_21 (by decide) (by decide) rfl (by decide) ?_
    refine r_iload hC hl dX0_costs_69 0 rfl ?_
    refine r_iconst hC dX0_costs_71 ?_
    refine r_iadd hC dX0_costs_72 ?_
    exact r_iret hC hr hlk hI (by simp only [csF, tkF, fdF, blF, hdF, mxF, mnF]; (repeat' split) <;> omega) (rfl) dX0_costs_73
  refine r_tout (tgt := 74) hC (by (try unfold mxF); (repeat' split) <;> omega) dX0_costs_21 (by omega) (by decide) ?_
  refine r_iload_n hC hl dX0_costs_74 2 rfl ?_
  exact r_iret hC hr hlk hI (by simp only [csF, tkF, fdF, blF, hdF, mxF, mnF]; (repeat' split) <;> omega) (rfl) dX0_costs_75

set_option maxHeartbeats 4000000 in
set_option maxRecDepth 100000 in
theorem c_X7_costs (l : Launch) (X : XT) (a : Nat → Nat) (B : Nat) (S : St) (k : Int) (w : Int) (hk : 0 ≤ k ∧ k ≤ 5) (hw : 0 ≤ w ∧ w ≤ 99) : CT l X a B 0 yX7_costs cX7_costs 4 (some .int) [.int (J k), .int (J w)] S (Qi X a B (csF k w) (S)) := by
  refine CT.of (by decide +kernel) (Nat.le_of_ble_eq_true rfl) ?_
  intro p e s m below meth c ls hC hr hlk hI hl
  have hC : Cx p c cX7_costs 4 s m [.int (J k), .int (J w)].toArray RX7 X B := hC
  have hl : lv_has ls 4 [(0, .int (J k)), (1, .int (J w))] := hl
  refine r_iconst hC dX7_costs_0 ?_
  refine r_iload_n hC hl dX7_costs_1 1 rfl ?_
  refine r_bipush hC (by decide) dX7_costs_2 ?_
  refine r_idiv hC (by omega) (by omega) dX7_costs_4 ?_
  refine r_iadd hC dX7_costs_5 ?_
  refine r_istore_n (lv1 := [(2, .int (J (1 + (w / 20)))), (0, .int (J k)), (1, .int (J w))]) hC hl dX7_costs_6 2 rfl (by decide) rfl (fun ls hl => ?_)
  refine r_iload_n hC hl dX7_costs_7 0 rfl ?_
  refine r_iconst hC dX7_costs_8 ?_
  refine r_idiv hC (by omega) (by omega) dX7_costs_9 ?_
  refine r_iconst hC dX7_costs_10 ?_
  refine r_icmp_le (tgt := 20) hC (by omega) (by omega) dX7_costs_11 (by decide) (fun c_1 => ?_) (fun c_1 => ?_)
  · skip
    refine r_iconst hC dX7_costs_20 ?_
    refine r_istore_n (lv1 := [(3, .int (J 1)), (2, .int (J (1 + (w / 20)))), (0, .int (J k)), (1, .int (J w))]) hC hl dX7_costs_21 3 rfl (by decide) rfl (fun ls hl => ?_)
    refine r_iload_n hC hl dX7_costs_22 2 rfl ?_
    by_cases c_2 : k = 1
    · refine r_tin (tgt := 56) hC 1 c_2 (by decide) dX7_costs_23 (by decide) (by decide) rfl (by decide) ?_
      refine r_iload_n hC hl dX7_costs_56 1 rfl ?_
      refine r_iconst hC dX7_costs_57 ?_
      refine r_iadd hC dX7_costs_58 ?_
      exact r_iret hC hr hlk hI (by simp only [csF, tkF, fdF, blF, hdF, mxF, mnF]; (repeat' split) <;> omega) (rfl) dX7_costs_59
    by_cases c_3 : k = 2
    · refine r_tin (tgt := 64) hC 2 c_3 (by decide) dX7_costs_23 (by decide) (by decide) rfl (by decide) ?_
      refine r_iload_n hC hl dX7_costs_64 0 rfl ?_
      exact r_iret hC hr hlk hI (by simp only [csF, tkF, fdF, blF, hdF, mxF, mnF]; (repeat' split) <;> omega) (rfl) dX7_costs_65
    by_cases c_4 : k = 3
    · refine r_tin (tgt := 70) hC 3 c_4 (by decide) dX7_costs_23 (by decide) (by decide) rfl (by decide) ?_
      refine r_iconst hC dX7_costs_70 ?_
      refine r_iload_n hC hl dX7_costs_71 1 rfl ?_
      refine r_imul hC dX7_costs_72 ?_
      exact r_iret hC hr hlk hI (by simp only [csF, tkF, fdF, blF, hdF, mxF, mnF]; (repeat' split) <;> omega) (rfl) dX7_costs_73
    by_cases c_5 : k = 4
    · refine r_tin (tgt := 60) hC 4 c_5 (by decide) dX7_costs_23 (by decide) (by decide) rfl (by decide) ?_
      refine r_iload_n hC hl dX7_costs_60 1 rfl ?_
      refine r_iconst hC dX7_costs_61 ?_
      refine r_iadd hC dX7_costs_62 ?_
      exact r_iret hC hr hlk hI (by simp only [csF, tkF, fdF, blF, hdF, mxF, mnF]; (repeat' split) <;> omega) (rfl) dX7_costs_63
    by_cases c_6 : k = 5
    · refine r_tin (tgt := 66) hC 5 c_6 (by decide) dX7_costs_23 (by decide) (by decide) rfl (by decide) ?_
      refine r_iload_n hC hl dX7_costs_66 0 rfl ?_
      refine r_iconst hC dX7_costs_67 ?_
      refine r_iadd hC dX7_costs_68 ?_
      exact r_iret hC hr hlk hI (by simp only [csF, tkF, fdF, blF, hdF, mxF, mnF]; (repeat' split) <;> omega) (rfl) dX7_costs_69
    refine r_tout (tgt := 74) hC (by omega) dX7_costs_23 (by omega) (by decide) ?_
    refine r_iload_n hC hl dX7_costs_74 1 rfl ?_
    exact r_iret hC hr hlk hI (by simp only [csF, tkF, fdF, blF, hdF, mxF, mnF]; (repeat' split) <;> omega) (rfl) dX7_costs_75
  · skip
    refine r_iload_n hC hl dX7_costs_14 0 rfl ?_
    refine r_iconst hC dX7_costs_15 ?_
    refine r_idiv hC (by omega) (by omega) dX7_costs_16 ?_
    refine r_goto (tgt := 21) hC dX7_costs_17 (by decide) ?_
    refine r_istore_n (lv1 := [(3, .int (J ((1 + (w / 20)) / 2))), (2, .int (J (1 + (w / 20)))), (0, .int (J k)), (1, .int (J w))]) hC hl dX7_costs_21 3 rfl (by decide) rfl (fun ls hl => ?_)
    refine r_iload_n hC hl dX7_costs_22 2 rfl ?_
    by_cases c_7 : k = 1
    · refine r_tin (tgt := 56) hC 1 c_7 (by decide) dX7_costs_23 (by decide) (by decide) rfl (by decide) ?_
      refine r_iload_n hC hl dX7_costs_56 1 rfl ?_
      refine r_iconst hC dX7_costs_57 ?_
      refine r_iadd hC dX7_costs_58 ?_
      exact r_iret hC hr hlk hI (by simp only [csF, tkF, fdF, blF, hdF, mxF, mnF]; (repeat' split) <;> omega) (rfl) dX7_costs_59
    by_cases c_8 : k = 2
    · refine r_tin (tgt := 64) hC 2 c_8 (by decide) dX7_costs_23 (by decide) (by decide) rfl (by decide) ?_
      refine r_iload_n hC hl dX7_costs_64 0 rfl ?_
      exact r_iret hC hr hlk hI (by simp only [csF, tkF, fdF, blF, hdF, mxF, mnF]; (repeat' split) <;> omega) (rfl) dX7_costs_65
    by_cases c_9 : k = 3
    · refine r_tin (tgt := 70) hC 3 c_9 (by decide) dX7_costs_23 (by decide) (by decide) rfl (by decide) ?_
      refine r_iconst hC dX7_costs_70 ?_
      refine r_iload_n hC hl dX7_costs_71 1 rfl ?_
      refine r_imul hC dX7_costs_72 ?_
      exact r_iret hC hr hlk hI (by simp only [csF, tkF, fdF, blF, hdF, mxF, mnF]; (repeat' split) <;> omega) (rfl) dX7_costs_73
    by_cases c_10 : k = 4
    · refine r_tin (tgt := 60) hC 4 c_10 (by decide) dX7_costs_23 (by decide) (by decide) rfl (by decide) ?_
      refine r_iload_n hC hl dX7_costs_60 1 rfl ?_
      refine r_iconst hC dX7_costs_61 ?_
      refine r_iadd hC dX7_costs_62 ?_
      exact r_iret hC hr hlk hI (by simp only [csF, tkF, fdF, blF, hdF, mxF, mnF]; (repeat' split) <;> omega) (rfl) dX7_costs_63
    by_cases c_11 : k = 5
    · refine r_tin (tgt := 66) hC 5 c_11 (by decide) dX7_costs_23 (by decide) (by decide) rfl (by decide) ?_
      refine r_iload_n hC hl dX7_costs_66 0 rfl ?_
      refine r_iconst hC dX7_costs_67 ?_
      refine r_iadd hC dX7_costs_68 ?_
      exact r_iret hC hr hlk hI (by simp only [csF, tkF, fdF, blF, hdF, mxF, mnF]; (repeat' split) <;> omega) (rfl) dX7_costs_69
    refine r_tout (tgt := 74) hC (by omega) dX7_costs_23 (by omega) (by decide) ?_
    refine r_iload_n hC hl dX7_costs_74 1 rfl ?_
    exact r_iret hC hr hlk hI (by simp only [csF, tkF, fdF, blF, hdF, mxF, mnF]; (repeat' split) <;> omega) (rfl) dX7_costs_75

set_option maxHeartbeats 4000000 in
set_option maxRecDepth 100000 in
theorem c_X0_takes (l : Launch) (X : XT) (a : Nat → Nat) (B : Nat) (S : St) (k : Int) (d : Int) (hk : 0 ≤ k ∧ k ≤ 5) (hd : 0 ≤ d ∧ d ≤ 20) : CT l X a B 1 yX0_takes cX0_takes 3 (some .int) [.int (J k), .int (J d)] S (Qi X a B (tkF k d) (S)) := by
  refine CT.of (by decide +kernel) (Nat.le_of_ble_eq_true rfl) ?_
  intro p e s m below meth c ls hC hr hlk hI hl
  have hC : Cx p c cX0_takes 3 s m [.int (J k), .int (J d)].toArray RX0 X B := hC
  have hl : lv_has ls 3 [(0, .int (J k)), (1, .int (J d))] := hl
  refine r_iconst hC dX0_takes_0 ?_
  refine r_iload_n hC hl dX0_takes_1 1 rfl ?_
  refine r_imul hC dX0_takes_2 ?_
  refine r_istore_n (lv1 := [(2, .int (J (4 * d))), (0, .int (J k)), (1, .int (J d))]) hC hl dX0_takes_3 2 rfl (by decide) rfl (fun ls hl => ?_)
  refine r_iload_n hC hl dX0_takes_4 1 rfl ?_
  refine r_iconst hC dX0_takes_5 ?_
  refine r_icmp_eq (tgt := 14) hC (by (try unfold mxF); (repeat' split) <;> omega) (by (try unfold mxF); (repeat' split) <;> omega) dX0_takes_6 (by decide) (fun c_1 => ?_) (fun c_1 => ?_)
  · skip
    refine r_iinc (lv1 := [(2, .int (J (4 * d + 10))), (0, .int (J k)), (1, .int (J d))]) hC hl dX0_takes_14 0 rfl (by decide) rfl (fun ls hl => ?_)
    refine r_goto (tgt := 51) hC dX0_takes_17 (by decide) ?_
    refine r_bipush hC (by decide) dX0_takes_51 ?_
    refine r_iload_n hC hl dX0_takes_53 0 rfl ?_
    refine r_cSi hC hI hl [.int (J 99), .int (J (4 * d + 10))] [] (c_J9_min_7cf53 l X a B S 99 (4 * d + 10) (by omega) (by first | omega | (unfold mxF; split <;> omega))) ml_RX0_35 es_J9_min_7cf53 ⟨Nat.le_of_ble_eq_true rfl, Nat.le_of_ble_eq_true rfl⟩ ⟨Nat.zero_le _, Nat.zero_le _⟩ (Nat.le_of_ble_eq_true rfl) rfl dX0_takes_54 (fun H locs hI => ?_)
    exact r_iret hC hr hlk hI (by simp only [csF, tkF, fdF, blF, hdF, mxF, mnF]; (repeat' split) <;> omega) (rfl) dX0_takes_57
  · skip
    refine r_iload_n hC hl dX0_takes_9 1 rfl ?_
    refine r_iconst hC dX0_takes_10 ?_
    refine r_icmp_ne (tgt := 20) hC (by (try unfold mxF); (repeat' split) <;> omega) (by (try unfold mxF); (repeat' split) <;> omega) dX0_takes_11 (by decide) (fun c_2 => ?_) (fun c_2 => ?_)
    · skip
      refine r_iload_n hC hl dX0_takes_20 1 rfl ?_
      refine r_iconst hC dX0_takes_21 ?_
      refine r_icmp_ne (tgt := 38) hC (by (try unfold mxF); (repeat' split) <;> omega) (by (try unfold mxF); (repeat' split) <;> omega) dX0_takes_22 (by decide) (fun c_3 => ?_) (fun c_3 => ?_)
      · skip
        refine r_iload_n hC hl dX0_takes_38 1 rfl ?_
        refine r_iconst hC dX0_takes_39 ?_
        refine r_icmp_ne (tgt := 51) hC (by (try unfold mxF); (repeat' split) <;> omega) (by (try unfold mxF); (repeat' split) <;> omega) dX0_takes_40 (by decide) (fun c_4 => ?_) (fun c_4 => ?_)
        · skip
          refine r_bipush hC (by decide) dX0_takes_51 ?_
          refine r_iload_n hC hl dX0_takes_53 0 rfl ?_
          refine r_cSi hC hI hl [.int (J 99), .int (J (4 * d))] [] (c_J9_min_7cf53 l X a B S 99 (4 * d) (by omega) (by first | omega | (unfold mxF; split <;> omega))) ml_RX0_35 es_J9_min_7cf53 ⟨Nat.le_of_ble_eq_true rfl, Nat.le_of_ble_eq_true rfl⟩ ⟨Nat.zero_le _, Nat.zero_le _⟩ (Nat.le_of_ble_eq_true rfl) rfl dX0_takes_54 (fun H locs hI => ?_)
          exact r_iret hC hr hlk hI (by simp only [csF, tkF, fdF, blF, hdF, mxF, mnF]; (repeat' split) <;> omega) (rfl) dX0_takes_57
        · skip
          refine r_iconst hC dX0_takes_43 ?_
          refine r_iload_n hC hl dX0_takes_44 0 rfl ?_
          refine r_iconst hC dX0_takes_45 ?_
          refine r_isub hC dX0_takes_46 ?_
          refine r_cSi hC hI hl [.int (J 0), .int (J ((4 * d) - 5))] [] (c_J9_max_7cf53 l X a B S 0 ((4 * d) - 5) (by omega) (by omega)) ml_RX0_27 es_J9_max_7cf53 ⟨Nat.le_of_ble_eq_true rfl, Nat.le_of_ble_eq_true rfl⟩ ⟨Nat.zero_le _, Nat.zero_le _⟩ (Nat.le_of_ble_eq_true rfl) rfl dX0_takes_47 (fun H locs hI => ?_)
          refine r_istore_n (lv1 := [(2, .int (J (mxF 0 ((4 * d) - 5)))), (0, .int (J k)), (1, .int (J d))]) hC hl dX0_takes_50 2 rfl (by decide) rfl (fun ls hl => ?_)
          refine r_bipush hC (by decide) dX0_takes_51 ?_
          refine r_iload_n hC hl dX0_takes_53 0 rfl ?_
          refine r_cSi hC hI hl [.int (J 99), .int (J (mxF 0 ((4 * d) - 5)))] [] (c_J9_min_7cf53 l X a B S 99 (mxF 0 ((4 * d) - 5)) (by omega) (by first | omega | (unfold mxF; split <;> omega))) ml_RX0_35 es_J9_min_7cf53 ⟨Nat.le_of_ble_eq_true rfl, Nat.le_of_ble_eq_true rfl⟩ ⟨Nat.zero_le _, Nat.zero_le _⟩ (Nat.le_of_ble_eq_true rfl) rfl dX0_takes_54 (fun H locs hI => ?_)
          exact r_iret hC hr hlk hI (by simp only [csF, tkF, fdF, blF, hdF, mxF, mnF]; (repeat' split) <;> omega) (rfl) dX0_takes_57
      · skip
        refine r_iload_n hC hl dX0_takes_25 2 rfl ?_
        refine r_bipush hC (by decide) dX0_takes_26 ?_
        refine r_icmp_lt (tgt := 38) hC (by (try unfold mxF); (repeat' split) <;> omega) (by (try unfold mxF); (repeat' split) <;> omega) dX0_takes_28 (by decide) (fun c_5 => ?_) (fun c_5 => ?_)
        · skip
          refine r_iload_n hC hl dX0_takes_38 1 rfl ?_
          refine r_iconst hC dX0_takes_39 ?_
          refine r_icmp_ne (tgt := 51) hC (by (try unfold mxF); (repeat' split) <;> omega) (by (try unfold mxF); (repeat' split) <;> omega) dX0_takes_40 (by decide) (fun c_6 => ?_) (fun c_6 => ?_)
          · skip
            refine r_bipush hC (by decide) dX0_takes_51 ?_
            refine r_iload_n hC hl dX0_takes_53 0 rfl ?_
            refine r_cSi hC hI hl [.int (J 99), .int (J (4 * d))] [] (c_J9_min_7cf53 l X a B S 99 (4 * d) (by omega) (by first | omega | (unfold mxF; split <;> omega))) ml_RX0_35 es_J9_min_7cf53 ⟨Nat.le_of_ble_eq_true rfl, Nat.le_of_ble_eq_true rfl⟩ ⟨Nat.zero_le _, Nat.zero_le _⟩ (Nat.le_of_ble_eq_true rfl) rfl dX0_takes_54 (fun H locs hI => ?_)
            exact r_iret hC hr hlk hI (by simp only [csF, tkF, fdF, blF, hdF, mxF, mnF]; (repeat' split) <;> omega) (rfl) dX0_takes_57
          · skip
            refine r_iconst hC dX0_takes_43 ?_
            refine r_iload_n hC hl dX0_takes_44 0 rfl ?_
            refine r_iconst hC dX0_takes_45 ?_
            refine r_isub hC dX0_takes_46 ?_
            refine r_cSi hC hI hl [.int (J 0), .int (J ((4 * d) - 5))] [] (c_J9_max_7cf53 l X a B S 0 ((4 * d) - 5) (by omega) (by omega)) ml_RX0_27 es_J9_max_7cf53 ⟨Nat.le_of_ble_eq_true rfl, Nat.le_of_ble_eq_true rfl⟩ ⟨Nat.zero_le _, Nat.zero_le _⟩ (Nat.le_of_ble_eq_true rfl) rfl dX0_takes_47 (fun H locs hI => ?_)
            refine r_istore_n (lv1 := [(2, .int (J (mxF 0 ((4 * d) - 5)))), (0, .int (J k)), (1, .int (J d))]) hC hl dX0_takes_50 2 rfl (by decide) rfl (fun ls hl => ?_)
            refine r_bipush hC (by decide) dX0_takes_51 ?_
            refine r_iload_n hC hl dX0_takes_53 0 rfl ?_
            refine r_cSi hC hI hl [.int (J 99), .int (J (mxF 0 ((4 * d) - 5)))] [] (c_J9_min_7cf53 l X a B S 99 (mxF 0 ((4 * d) - 5)) (by omega) (by first | omega | (unfold mxF; split <;> omega))) ml_RX0_35 es_J9_min_7cf53 ⟨Nat.le_of_ble_eq_true rfl, Nat.le_of_ble_eq_true rfl⟩ ⟨Nat.zero_le _, Nat.zero_le _⟩ (Nat.le_of_ble_eq_true rfl) rfl dX0_takes_54 (fun H locs hI => ?_)
            exact r_iret hC hr hlk hI (by simp only [csF, tkF, fdF, blF, hdF, mxF, mnF]; (repeat' split) <;> omega) (rfl) dX0_takes_57
        · skip
          refine r_iconst hC dX0_takes_31 ?_
          refine r_iload_n hC hl dX0_takes_32 2 rfl ?_
          refine r_imul hC dX0_takes_33 ?_
          refine r_istore_n (lv1 := [(2, .int (J (5 * d))), (0, .int (J k)), (1, .int (J d))]) hC hl dX0_takes_34 2 rfl (by decide) rfl (fun ls hl => ?_)
          refine r_goto (tgt := 51) hC dX0_takes_35 (by decide) ?_
          refine r_bipush hC (by decide) dX0_takes_51 ?_
          refine r_iload_n hC hl dX0_takes_53 0 rfl ?_
          refine r_cSi hC hI hl [.int (J 99), .int (J (5 * d))] [] (c_J9_min_7cf53 l X a B S 99 (5 * d) (by omega) (by first | omega | (unfold mxF; split <;> omega))) ml_RX0_35 es_J9_min_7cf53 ⟨Nat.le_of_ble_eq_true rfl, Nat.le_of_ble_eq_true rfl⟩ ⟨Nat.zero_le _, Nat.zero_le _⟩ (Nat.le_of_ble_eq_true rfl) rfl dX0_takes_54 (fun H locs hI => ?_)
          exact r_iret hC hr hlk hI (by simp only [csF, tkF, fdF, blF, hdF, mxF, mnF]; (repeat' split) <;> omega) (rfl) dX0_takes_57
    · skip
      refine r_iinc (lv1 := [(2, .int (J (4 * d + 10))), (0, .int (J k)), (1, .int (J d))]) hC hl dX0_takes_14 0 rfl (by decide) rfl (fun ls hl => ?_)
      refine r_goto (tgt := 51) hC dX0_takes_17 (by decide) ?_
      refine r_bipush hC (by decide) dX0_takes_51 ?_
      refine r_iload_n hC hl dX0_takes_53 0 rfl ?_
      refine r_cSi hC hI hl [.int (J 99), .int (J (4 * d + 10))] [] (c_J9_min_7cf53 l X a B S 99 (4 * d + 10) (by omega) (by first | omega | (unfold mxF; split <;> omega))) ml_RX0_35 es_J9_min_7cf53 ⟨Nat.le_of_ble_eq_true rfl, Nat.le_of_ble_eq_true rfl⟩ ⟨Nat.zero_le _, Nat.zero_le _⟩ (Nat.le_of_ble_eq_true rfl) rfl dX0_takes_54 (fun H locs hI => ?_)
      exact r_iret hC hr hlk hI (by simp only [csF, tkF, fdF, blF, hdF, mxF, mnF]; (repeat' split) <;> omega) (rfl) dX0_takes_57

set_option maxHeartbeats 4000000 in
set_option maxRecDepth 100000 in
theorem c_X7_takes (l : Launch) (X : XT) (a : Nat → Nat) (B : Nat) (S : St) (k : Int) (d : Int) (hk : 0 ≤ k ∧ k ≤ 5) (hd : 0 ≤ d ∧ d ≤ 20) : CT l X a B 1 yX7_takes cX7_takes 2 (some .int) [.int (J k), .int (J d)] S (Qi X a B (tkF k d) (S)) := by
  refine CT.of (by decide +kernel) (Nat.le_of_ble_eq_true rfl) ?_
  intro p e s m below meth c ls hC hr hlk hI hl
  have hC : Cx p c cX7_takes 2 s m [.int (J k), .int (J d)].toArray RX7 X B := hC
  have hl : lv_has ls 2 [(0, .int (J k)), (1, .int (J d))] := hl
  refine r_iload_n hC hl dX7_takes_0 0 rfl ?_
  by_cases c_1 : k = 1
  · refine r_tin (tgt := 36) hC 1 c_1 (by decide) dX7_takes_1 (by decide) (by decide) rfl (by decide) ?_
    refine r_iconst hC dX7_takes_36 ?_
    refine r_iload_n hC hl dX7_takes_37 1 rfl ?_
    refine r_imul hC dX7_takes_38 ?_
    refine r_bipush hC (by decide) dX7_takes_39 ?_
    refine r_iadd hC dX7_takes_41 ?_
    refine r_iconst hC dX7_takes_42 ?_
    refine r_bipush hC (by decide) dX7_takes_43 ?_
    refine r_cSi hC hI hl [.int (J ((4 * d) + 10)), .int (J 0), .int (J 99)] [] (c_X7_held l X a B S ((4 * d) + 10) 0 99 (by omega) (by omega) (by omega)) ml_RX7_60 es_X7_held ⟨Nat.le_of_ble_eq_true rfl, Nat.le_of_ble_eq_true rfl⟩ ⟨Nat.zero_le _, Nat.zero_le _⟩ (Nat.le_of_ble_eq_true rfl) rfl dX7_takes_45 (fun H locs hI => ?_)
    exact r_iret hC hr hlk hI (by simp only [csF, tkF, fdF, blF, hdF, mxF, mnF]; (repeat' split) <;> omega) (rfl) dX7_takes_48
  by_cases c_2 : k = 3
  · refine r_tin (tgt := 49) hC 3 c_2 (by decide) dX7_takes_1 (by decide) (by decide) rfl (by decide) ?_
    refine r_iload_n hC hl dX7_takes_49 1 rfl ?_
    refine r_bipush hC (by decide) dX7_takes_50 ?_
    refine r_icmp_lt (tgt := 61) hC (by omega) (by omega) dX7_takes_52 (by decide) (fun c_3 => ?_) (fun c_3 => ?_)
    · skip
      refine r_iconst hC dX7_takes_61 ?_
      refine r_iload_n hC hl dX7_takes_62 1 rfl ?_
      refine r_imul hC dX7_takes_63 ?_
      refine r_iconst hC dX7_takes_64 ?_
      refine r_bipush hC (by decide) dX7_takes_65 ?_
      refine r_cSi hC hI hl [.int (J (4 * d)), .int (J 0), .int (J 99)] [] (c_X7_held l X a B S (4 * d) 0 99 (by omega) (by omega) (by omega)) ml_RX7_60 es_X7_held ⟨Nat.le_of_ble_eq_true rfl, Nat.le_of_ble_eq_true rfl⟩ ⟨Nat.zero_le _, Nat.zero_le _⟩ (Nat.le_of_ble_eq_true rfl) rfl dX7_takes_67 (fun H locs hI => ?_)
      exact r_iret hC hr hlk hI (by simp only [csF, tkF, fdF, blF, hdF, mxF, mnF]; (repeat' split) <;> omega) (rfl) dX7_takes_70
    · skip
      refine r_iconst hC dX7_takes_55 ?_
      refine r_iload_n hC hl dX7_takes_56 1 rfl ?_
      refine r_imul hC dX7_takes_57 ?_
      refine r_goto (tgt := 64) hC dX7_takes_58 (by decide) ?_
      refine r_iconst hC dX7_takes_64 ?_
      refine r_bipush hC (by decide) dX7_takes_65 ?_
      refine r_cSi hC hI hl [.int (J (5 * d)), .int (J 0), .int (J 99)] [] (c_X7_held l X a B S (5 * d) 0 99 (by omega) (by omega) (by omega)) ml_RX7_60 es_X7_held ⟨Nat.le_of_ble_eq_true rfl, Nat.le_of_ble_eq_true rfl⟩ ⟨Nat.zero_le _, Nat.zero_le _⟩ (Nat.le_of_ble_eq_true rfl) rfl dX7_takes_67 (fun H locs hI => ?_)
      exact r_iret hC hr hlk hI (by simp only [csF, tkF, fdF, blF, hdF, mxF, mnF]; (repeat' split) <;> omega) (rfl) dX7_takes_70
  by_cases c_4 : k = 4
  · refine r_tin (tgt := 36) hC 4 c_4 (by decide) dX7_takes_1 (by decide) (by decide) rfl (by decide) ?_
    refine r_iconst hC dX7_takes_36 ?_
    refine r_iload_n hC hl dX7_takes_37 1 rfl ?_
    refine r_imul hC dX7_takes_38 ?_
    refine r_bipush hC (by decide) dX7_takes_39 ?_
    refine r_iadd hC dX7_takes_41 ?_
    refine r_iconst hC dX7_takes_42 ?_
    refine r_bipush hC (by decide) dX7_takes_43 ?_
    refine r_cSi hC hI hl [.int (J ((4 * d) + 10)), .int (J 0), .int (J 99)] [] (c_X7_held l X a B S ((4 * d) + 10) 0 99 (by omega) (by omega) (by omega)) ml_RX7_60 es_X7_held ⟨Nat.le_of_ble_eq_true rfl, Nat.le_of_ble_eq_true rfl⟩ ⟨Nat.zero_le _, Nat.zero_le _⟩ (Nat.le_of_ble_eq_true rfl) rfl dX7_takes_45 (fun H locs hI => ?_)
    exact r_iret hC hr hlk hI (by simp only [csF, tkF, fdF, blF, hdF, mxF, mnF]; (repeat' split) <;> omega) (rfl) dX7_takes_48
  by_cases c_5 : k = 5
  · refine r_tin (tgt := 71) hC 5 c_5 (by decide) dX7_takes_1 (by decide) (by decide) rfl (by decide) ?_
    refine r_iconst hC dX7_takes_71 ?_
    refine r_iload_n hC hl dX7_takes_72 1 rfl ?_
    refine r_imul hC dX7_takes_73 ?_
    refine r_iconst hC dX7_takes_74 ?_
    refine r_isub hC dX7_takes_75 ?_
    refine r_iconst hC dX7_takes_76 ?_
    refine r_bipush hC (by decide) dX7_takes_77 ?_
    refine r_cSi hC hI hl [.int (J ((4 * d) - 5)), .int (J 0), .int (J 99)] [] (c_X7_held l X a B S ((4 * d) - 5) 0 99 (by omega) (by omega) (by omega)) ml_RX7_60 es_X7_held ⟨Nat.le_of_ble_eq_true rfl, Nat.le_of_ble_eq_true rfl⟩ ⟨Nat.zero_le _, Nat.zero_le _⟩ (Nat.le_of_ble_eq_true rfl) rfl dX7_takes_79 (fun H locs hI => ?_)
    exact r_iret hC hr hlk hI (by simp only [csF, tkF, fdF, blF, hdF, mxF, mnF]; (repeat' split) <;> omega) (rfl) dX7_takes_82
  by_cases c_6 : k = 2
  · refine r_tin (tgt := 83) hC 2 c_6 (by decide) dX7_takes_1 (by decide) (by decide) rfl (by decide) ?_
    refine r_iconst hC dX7_takes_83 ?_
    refine r_iload_n hC hl dX7_takes_84 1 rfl ?_
    refine r_imul hC dX7_takes_85 ?_
    refine r_iconst hC dX7_takes_86 ?_
    refine r_bipush hC (by decide) dX7_takes_87 ?_
    refine r_cSi hC hI hl [.int (J (4 * d)), .int (J 0), .int (J 99)] [] (c_X7_held l X a B S (4 * d) 0 99 (by omega) (by omega) (by omega)) ml_RX7_60 es_X7_held ⟨Nat.le_of_ble_eq_true rfl, Nat.le_of_ble_eq_true rfl⟩ ⟨Nat.zero_le _, Nat.zero_le _⟩ (Nat.le_of_ble_eq_true rfl) rfl dX7_takes_89 (fun H locs hI => ?_)
    exact r_iret hC hr hlk hI (by simp only [csF, tkF, fdF, blF, hdF, mxF, mnF]; (repeat' split) <;> omega) (rfl) dX7_takes_92
  refine r_tout (tgt := 83) hC (by omega) dX7_takes_1 (by omega) (by decide) ?_
  refine r_iconst hC dX7_takes_83 ?_
  refine r_iload_n hC hl dX7_takes_84 1 rfl ?_
  refine r_imul hC dX7_takes_85 ?_
  refine r_iconst hC dX7_takes_86 ?_
  refine r_bipush hC (by decide) dX7_takes_87 ?_
  refine r_cSi hC hI hl [.int (J (4 * d)), .int (J 0), .int (J 99)] [] (c_X7_held l X a B S (4 * d) 0 99 (by omega) (by omega) (by omega)) ml_RX7_60 es_X7_held ⟨Nat.le_of_ble_eq_true rfl, Nat.le_of_ble_eq_true rfl⟩ ⟨Nat.zero_le _, Nat.zero_le _⟩ (Nat.le_of_ble_eq_true rfl) rfl dX7_takes_89 (fun H locs hI => ?_)
  exact r_iret hC hr hlk hI (by simp only [csF, tkF, fdF, blF, hdF, mxF, mnF]; (repeat' split) <;> omega) (rfl) dX7_takes_92

set_option maxHeartbeats 4000000 in
set_option maxRecDepth 100000 in
theorem c_X0_fades (l : Launch) (X : XT) (a : Nat → Nat) (B : Nat) (S : St) (k : Int) (u : Int) (r : Int) (hk : 0 ≤ k ∧ k ≤ 5) (hu : 0 ≤ u ∧ u ≤ 1) (hr : 0 ≤ r ∧ r ≤ 9999) : CT l X a B 0 yX0_fades cX0_fades 6 (some .int) [.int (J k), .int (J u), .int (J r)] S (Qi X a B (fdF k u r) (S)) := by
  refine CT.of (by decide +kernel) (Nat.le_of_ble_eq_true rfl) ?_
  intro p e s m below meth c ls hC hr hlk hI hl
  have hC : Cx p c cX0_fades 6 s m [.int (J k), .int (J u), .int (J r)].toArray RX0 X B := hC
  have hl : lv_has ls 6 [(0, .int (J k)), (1, .int (J u)), (2, .int (J r))] := hl
  refine r_iload_n hC hl dX0_fades_0 1 rfl ?_
  refine r_iconst hC dX0_fades_1 ?_
  refine r_icmp_ne (tgt := 10) hC (by omega) (by omega) dX0_fades_2 (by decide) (fun c_1 => ?_) (fun c_1 => ?_)
  · skip
    refine r_iconst hC dX0_fades_10 ?_
    refine r_istore_n (lv1 := [(3, .int (J 0)), (0, .int (J k)), (1, .int (J u)), (2, .int (J r))]) hC hl dX0_fades_11 3 rfl (by decide) rfl (fun ls hl => ?_)
    refine r_iload_n hC hl dX0_fades_12 0 rfl ?_
    refine r_iconst hC dX0_fades_13 ?_
    refine r_idiv hC (by omega) (by omega) dX0_fades_14 ?_
    refine r_istore (lv1 := [(4, .int (J (0 / 2))), (3, .int (J 0)), (0, .int (J k)), (1, .int (J u)), (2, .int (J r))]) hC hl dX0_fades_15 (by decide) rfl (fun ls hl => ?_)
    refine r_iload_n hC hl dX0_fades_17 1 rfl ?_
    refine r_iconst hC dX0_fades_18 ?_
    refine r_iadd hC dX0_fades_19 ?_
    refine r_istore (lv1 := [(5, .int (J (0 + 1))), (4, .int (J (0 / 2))), (3, .int (J 0)), (0, .int (J k)), (1, .int (J u)), (2, .int (J r))]) hC hl dX0_fades_20 (by decide) rfl (fun ls hl => ?_)
    refine r_iload_n hC hl dX0_fades_22 3 rfl ?_
    by_cases c_2 : k = 1
    · refine r_tin (tgt := 56) hC 1 c_2 (by decide) dX0_fades_23 (by decide) (by decide) rfl (by decide) ?_
      refine r_iload hC hl dX0_fades_56 1 rfl ?_
      exact r_iret hC hr hlk hI (by simp only [csF, tkF, fdF, blF, hdF, mxF, mnF]; (repeat' split) <;> omega) (rfl) dX0_fades_58
    by_cases c_3 : k = 2
    · refine r_tin (tgt := 59) hC 2 c_3 (by decide) dX0_fades_23 (by decide) (by decide) rfl (by decide) ?_
      refine r_iload hC hl dX0_fades_59 0 rfl ?_
      exact r_iret hC hr hlk hI (by simp only [csF, tkF, fdF, blF, hdF, mxF, mnF]; (repeat' split) <;> omega) (rfl) dX0_fades_61
    by_cases c_4 : k = 4
    · refine r_tin (tgt := 62) hC 4 c_4 (by decide) dX0_fades_23 (by decide) (by decide) rfl (by decide) ?_
      refine r_iload_n hC hl dX0_fades_62 5 rfl ?_
      refine r_if_ne (tgt := 70) hC (by omega) dX0_fades_63 (by decide) (fun c_5 => ?_) (fun c_5 => ?_)
      · skip
        refine r_iload hC hl dX0_fades_70 1 rfl ?_
        exact r_iret hC hr hlk hI (by simp only [csF, tkF, fdF, blF, hdF, mxF, mnF]; (repeat' split) <;> omega) (rfl) dX0_fades_72
      · skip
        refine r_iconst hC dX0_fades_66 ?_
        refine r_goto (tgt := 72) hC dX0_fades_67 (by decide) ?_
        exact r_iret hC hr hlk hI (by simp only [csF, tkF, fdF, blF, hdF, mxF, mnF]; (repeat' split) <;> omega) (rfl) dX0_fades_72
    by_cases c_6 : k = 5
    · refine r_tin (tgt := 73) hC 5 c_6 (by decide) dX0_fades_23 (by decide) (by decide) rfl (by decide) ?_
      refine r_iload hC hl dX0_fades_73 0 rfl ?_
      refine r_iload_n hC hl dX0_fades_75 5 rfl ?_
      refine r_iconst hC dX0_fades_76 ?_
      refine r_idiv hC (by omega) (by omega) dX0_fades_77 ?_
      refine r_iadd hC dX0_fades_78 ?_
      exact r_iret hC hr hlk hI (by simp only [csF, tkF, fdF, blF, hdF, mxF, mnF]; (repeat' split) <;> omega) (rfl) dX0_fades_79
    by_cases c_7 : k = 3
    · refine r_tin (tgt := 80) hC 3 c_7 (by decide) dX0_fades_23 (by decide) (by decide) rfl (by decide) ?_
      refine r_iload_n hC hl dX0_fades_80 2 rfl ?_
      exact r_iret hC hr hlk hI (by simp only [csF, tkF, fdF, blF, hdF, mxF, mnF]; (repeat' split) <;> omega) (rfl) dX0_fades_81
    refine r_tout (tgt := 80) hC (by omega) dX0_fades_23 (by omega) (by decide) ?_
    refine r_iload_n hC hl dX0_fades_80 2 rfl ?_
    exact r_iret hC hr hlk hI (by simp only [csF, tkF, fdF, blF, hdF, mxF, mnF]; (repeat' split) <;> omega) (rfl) dX0_fades_81
  · skip
    refine r_bipush hC (by decide) dX0_fades_5 ?_
    refine r_goto (tgt := 11) hC dX0_fades_7 (by decide) ?_
    refine r_istore_n (lv1 := [(3, .int (J 9)), (0, .int (J k)), (1, .int (J u)), (2, .int (J r))]) hC hl dX0_fades_11 3 rfl (by decide) rfl (fun ls hl => ?_)
    refine r_iload_n hC hl dX0_fades_12 0 rfl ?_
    refine r_iconst hC dX0_fades_13 ?_
    refine r_idiv hC (by omega) (by omega) dX0_fades_14 ?_
    refine r_istore (lv1 := [(4, .int (J (9 / 2))), (3, .int (J 9)), (0, .int (J k)), (1, .int (J u)), (2, .int (J r))]) hC hl dX0_fades_15 (by decide) rfl (fun ls hl => ?_)
    refine r_iload_n hC hl dX0_fades_17 1 rfl ?_
    refine r_iconst hC dX0_fades_18 ?_
    refine r_iadd hC dX0_fades_19 ?_
    refine r_istore (lv1 := [(5, .int (J (9 + 1))), (4, .int (J (9 / 2))), (3, .int (J 9)), (0, .int (J k)), (1, .int (J u)), (2, .int (J r))]) hC hl dX0_fades_20 (by decide) rfl (fun ls hl => ?_)
    refine r_iload_n hC hl dX0_fades_22 3 rfl ?_
    by_cases c_8 : k = 1
    · refine r_tin (tgt := 56) hC 1 c_8 (by decide) dX0_fades_23 (by decide) (by decide) rfl (by decide) ?_
      refine r_iload hC hl dX0_fades_56 1 rfl ?_
      exact r_iret hC hr hlk hI (by simp only [csF, tkF, fdF, blF, hdF, mxF, mnF]; (repeat' split) <;> omega) (rfl) dX0_fades_58
    by_cases c_9 : k = 2
    · refine r_tin (tgt := 59) hC 2 c_9 (by decide) dX0_fades_23 (by decide) (by decide) rfl (by decide) ?_
      refine r_iload hC hl dX0_fades_59 0 rfl ?_
      exact r_iret hC hr hlk hI (by simp only [csF, tkF, fdF, blF, hdF, mxF, mnF]; (repeat' split) <;> omega) (rfl) dX0_fades_61
    by_cases c_10 : k = 4
    · refine r_tin (tgt := 62) hC 4 c_10 (by decide) dX0_fades_23 (by decide) (by decide) rfl (by decide) ?_
      refine r_iload_n hC hl dX0_fades_62 5 rfl ?_
      refine r_if_ne (tgt := 70) hC (by omega) dX0_fades_63 (by decide) (fun c_11 => ?_) (fun c_11 => ?_)
      · skip
        refine r_iload hC hl dX0_fades_70 1 rfl ?_
        exact r_iret hC hr hlk hI (by simp only [csF, tkF, fdF, blF, hdF, mxF, mnF]; (repeat' split) <;> omega) (rfl) dX0_fades_72
      · skip
        refine r_iconst hC dX0_fades_66 ?_
        refine r_goto (tgt := 72) hC dX0_fades_67 (by decide) ?_
        exact r_iret hC hr hlk hI (by simp only [csF, tkF, fdF, blF, hdF, mxF, mnF]; (repeat' split) <;> omega) (rfl) dX0_fades_72
    by_cases c_12 : k = 5
    · refine r_tin (tgt := 73) hC 5 c_12 (by decide) dX0_fades_23 (by decide) (by decide) rfl (by decide) ?_
      refine r_iload hC hl dX0_fades_73 0 rfl ?_
      refine r_iload_n hC hl dX0_fades_75 5 rfl ?_
      refine r_iconst hC dX0_fades_76 ?_
      refine r_idiv hC (by omega) (by omega) dX0_fades_77 ?_
      refine r_iadd hC dX0_fades_78 ?_
      exact r_iret hC hr hlk hI (by simp only [csF, tkF, fdF, blF, hdF, mxF, mnF]; (repeat' split) <;> omega) (rfl) dX0_fades_79
    by_cases c_13 : k = 3
    · refine r_tin (tgt := 80) hC 3 c_13 (by decide) dX0_fades_23 (by decide) (by decide) rfl (by decide) ?_
      refine r_iload_n hC hl dX0_fades_80 2 rfl ?_
      exact r_iret hC hr hlk hI (by simp only [csF, tkF, fdF, blF, hdF, mxF, mnF]; (repeat' split) <;> omega) (rfl) dX0_fades_81
    refine r_tout (tgt := 80) hC (by omega) dX0_fades_23 (by omega) (by decide) ?_
    refine r_iload_n hC hl dX0_fades_80 2 rfl ?_
    exact r_iret hC hr hlk hI (by simp only [csF, tkF, fdF, blF, hdF, mxF, mnF]; (repeat' split) <;> omega) (rfl) dX0_fades_81

set_option maxHeartbeats 4000000 in
set_option maxRecDepth 100000 in
theorem c_X0_believed (l : Launch) (X : XT) (a : Nat → Nat) (B : Nat) (S : St) (k : Int) (b : Int) (r : Int) (w : Int) (hk : 0 ≤ k ∧ k ≤ 5) (hb : 0 ≤ b ∧ b ≤ 99) (hr : 0 ≤ r ∧ r ≤ 9999) (hw : 0 ≤ w ∧ w ≤ 9) : CT l X a B 1 yX0_believed cX0_believed 7 (some .int) [.int (J k), .int (J b), .int (J r), .int (J w)] S (Qi X a B (blF k b r w) (S)) := by
  refine CT.of (by decide +kernel) (Nat.le_of_ble_eq_true rfl) ?_
  intro p e s m below meth c ls hC hr hlk hI hl
  have hC : Cx p c cX0_believed 7 s m [.int (J k), .int (J b), .int (J r), .int (J w)].toArray RX0 X B := hC
  have hl : lv_has ls 7 [(0, .int (J k)), (1, .int (J b)), (2, .int (J r)), (3, .int (J w))] := hl
  have hbl := mul_bd hb hw
  refine r_iload_n hC hl dX0_believed_0 1 rfl ?_
  refine r_if_ne (tgt := 6) hC (by omega) dX0_believed_1 (by decide) (fun c_1 => ?_) (fun c_1 => ?_)
  · skip
    refine r_iload_n hC hl dX0_believed_6 1 rfl ?_
    refine r_iload_n hC hl dX0_believed_7 3 rfl ?_
    refine r_imul hC dX0_believed_8 ?_
    refine r_bipush hC (by decide) dX0_believed_9 ?_
    refine r_idiv hC (by omega) (by omega) dX0_believed_11 ?_
    refine r_istore (lv1 := [(4, .int (J ((b * w) / 9))), (0, .int (J k)), (1, .int (J b)), (2, .int (J r)), (3, .int (J w))]) hC hl dX0_believed_12 (by decide) rfl (fun ls hl => ?_)
    refine r_iload_n hC hl dX0_believed_14 2 rfl ?_
    refine r_bipush hC (by decide) dX0_believed_15 ?_
    refine r_icmp_le (tgt := 27) hC (by omega) (by omega) dX0_believed_17 (by decide) (fun c_2 => ?_) (fun c_2 => ?_)
    · skip
      refine r_iload hC hl dX0_believed_27 0 rfl ?_
      refine r_istore (lv1 := [(5, .int (J ((b * w) / 9))), (4, .int (J ((b * w) / 9))), (0, .int (J k)), (1, .int (J b)), (2, .int (J r)), (3, .int (J w))]) hC hl dX0_believed_29 (by decide) rfl (fun ls hl => ?_)
      refine r_iconst hC dX0_believed_31 ?_
      refine r_iload hC hl dX0_believed_32 1 rfl ?_
      refine r_iload_n hC hl dX0_believed_34 4 rfl ?_
      refine r_isub hC dX0_believed_35 ?_
      refine r_cSi hC hI hl [.int (J 0), .int (J (((b * w) / 9) - r))] [] (c_J9_max_7cf53 l X a B S 0 (((b * w) / 9) - r) (by omega) (by omega)) ml_RX0_27 es_J9_max_7cf53 ⟨Nat.le_of_ble_eq_true rfl, Nat.le_of_ble_eq_true rfl⟩ ⟨Nat.zero_le _, Nat.zero_le _⟩ (Nat.le_of_ble_eq_true rfl) rfl dX0_believed_36 (fun H locs hI => ?_)
      refine r_istore (lv1 := [(6, .int (J (mxF 0 (((b * w) / 9) - r)))), (5, .int (J ((b * w) / 9))), (4, .int (J ((b * w) / 9))), (0, .int (J k)), (1, .int (J b)), (2, .int (J r)), (3, .int (J w))]) hC hl dX0_believed_39 (by decide) rfl (fun ls hl => ?_)
      refine r_iload_n hC hl dX0_believed_41 3 rfl ?_
      by_cases c_3 : k = 1
      · refine r_tin (tgt := 76) hC 1 c_3 (by decide) dX0_believed_42 (by decide) (by decide) rfl (by decide) ?_
        refine r_iload hC hl dX0_believed_76 1 rfl ?_
        exact r_iret hC hr hlk hI (by simp only [csF, tkF, fdF, blF, hdF, mxF, mnF]; (repeat' split) <;> omega) (rfl) dX0_believed_78
      by_cases c_4 : k = 2
      · refine r_tin (tgt := 79) hC 2 c_4 (by decide) dX0_believed_42 (by decide) (by decide) rfl (by decide) ?_
        refine r_iload hC hl dX0_believed_79 0 rfl ?_
        exact r_iret hC hr hlk hI (by simp only [csF, tkF, fdF, blF, hdF, mxF, mnF]; (repeat' split) <;> omega) (rfl) dX0_believed_81
      by_cases c_5 : k = 3
      · refine r_tin (tgt := 82) hC 3 c_5 (by decide) dX0_believed_42 (by decide) (by decide) rfl (by decide) ?_
        refine r_iload_n hC hl dX0_believed_82 6 rfl ?_
        refine r_iconst hC dX0_believed_83 ?_
        refine r_icmp_lt (tgt := 91) hC (by omega) (by omega) dX0_believed_84 (by decide) (fun c_6 => ?_) (fun c_6 => ?_)
        · skip
          refine r_iconst hC dX0_believed_91 ?_
          exact r_iret hC hr hlk hI (by simp only [csF, tkF, fdF, blF, hdF, mxF, mnF]; (repeat' split) <;> omega) (rfl) dX0_believed_92
        · skip
          refine r_iload_n hC hl dX0_believed_87 4 rfl ?_
          refine r_goto (tgt := 92) hC dX0_believed_88 (by decide) ?_
          exact r_iret hC hr hlk hI (by simp only [csF, tkF, fdF, blF, hdF, mxF, mnF]; (repeat' split) <;> omega) (rfl) dX0_believed_92
      by_cases c_7 : k = 4
      · refine r_tin (tgt := 93) hC 4 c_7 (by decide) dX0_believed_42 (by decide) (by decide) rfl (by decide) ?_
        refine r_iconst hC dX0_believed_93 ?_
        refine r_iload hC hl dX0_believed_94 1 rfl ?_
        refine r_imul hC dX0_believed_96 ?_
        exact r_iret hC hr hlk hI (by simp only [csF, tkF, fdF, blF, hdF, mxF, mnF]; (repeat' split) <;> omega) (rfl) dX0_believed_97
      by_cases c_8 : k = 5
      · refine r_tin (tgt := 98) hC 5 c_8 (by decide) dX0_believed_42 (by decide) (by decide) rfl (by decide) ?_
        refine r_iload hC hl dX0_believed_98 0 rfl ?_
        refine r_iload_n hC hl dX0_believed_100 6 rfl ?_
        refine r_iadd hC dX0_believed_101 ?_
        exact r_iret hC hr hlk hI (by simp only [csF, tkF, fdF, blF, hdF, mxF, mnF]; (repeat' split) <;> omega) (rfl) dX0_believed_102
      refine r_tout (tgt := 103) hC (by omega) dX0_believed_42 (by omega) (by decide) ?_
      refine r_iload hC hl dX0_believed_103 2 rfl ?_
      exact r_iret hC hr hlk hI (by simp only [csF, tkF, fdF, blF, hdF, mxF, mnF]; (repeat' split) <;> omega) (rfl) dX0_believed_105
    · skip
      refine r_iload hC hl dX0_believed_20 0 rfl ?_
      refine r_iconst hC dX0_believed_22 ?_
      refine r_iadd hC dX0_believed_23 ?_
      refine r_goto (tgt := 29) hC dX0_believed_24 (by decide) ?_
      refine r_istore (lv1 := [(5, .int (J (((b * w) / 9) + 5))), (4, .int (J ((b * w) / 9))), (0, .int (J k)), (1, .int (J b)), (2, .int (J r)), (3, .int (J w))]) hC hl dX0_believed_29 (by decide) rfl (fun ls hl => ?_)
      refine r_iconst hC dX0_believed_31 ?_
      refine r_iload hC hl dX0_believed_32 1 rfl ?_
      refine r_iload_n hC hl dX0_believed_34 4 rfl ?_
      refine r_isub hC dX0_believed_35 ?_
      refine r_cSi hC hI hl [.int (J 0), .int (J (((b * w) / 9) - r))] [] (c_J9_max_7cf53 l X a B S 0 (((b * w) / 9) - r) (by omega) (by omega)) ml_RX0_27 es_J9_max_7cf53 ⟨Nat.le_of_ble_eq_true rfl, Nat.le_of_ble_eq_true rfl⟩ ⟨Nat.zero_le _, Nat.zero_le _⟩ (Nat.le_of_ble_eq_true rfl) rfl dX0_believed_36 (fun H locs hI => ?_)
      refine r_istore (lv1 := [(6, .int (J (mxF 0 (((b * w) / 9) - r)))), (5, .int (J (((b * w) / 9) + 5))), (4, .int (J ((b * w) / 9))), (0, .int (J k)), (1, .int (J b)), (2, .int (J r)), (3, .int (J w))]) hC hl dX0_believed_39 (by decide) rfl (fun ls hl => ?_)
      refine r_iload_n hC hl dX0_believed_41 3 rfl ?_
      by_cases c_9 : k = 1
      · refine r_tin (tgt := 76) hC 1 c_9 (by decide) dX0_believed_42 (by decide) (by decide) rfl (by decide) ?_
        refine r_iload hC hl dX0_believed_76 1 rfl ?_
        exact r_iret hC hr hlk hI (by simp only [csF, tkF, fdF, blF, hdF, mxF, mnF]; (repeat' split) <;> omega) (rfl) dX0_believed_78
      by_cases c_10 : k = 2
      · refine r_tin (tgt := 79) hC 2 c_10 (by decide) dX0_believed_42 (by decide) (by decide) rfl (by decide) ?_
        refine r_iload hC hl dX0_believed_79 0 rfl ?_
        exact r_iret hC hr hlk hI (by simp only [csF, tkF, fdF, blF, hdF, mxF, mnF]; (repeat' split) <;> omega) (rfl) dX0_believed_81
      by_cases c_11 : k = 3
      · refine r_tin (tgt := 82) hC 3 c_11 (by decide) dX0_believed_42 (by decide) (by decide) rfl (by decide) ?_
        refine r_iload_n hC hl dX0_believed_82 6 rfl ?_
        refine r_iconst hC dX0_believed_83 ?_
        refine r_icmp_lt (tgt := 91) hC (by omega) (by omega) dX0_believed_84 (by decide) (fun c_12 => ?_) (fun c_12 => ?_)
        · skip
          refine r_iconst hC dX0_believed_91 ?_
          exact r_iret hC hr hlk hI (by simp only [csF, tkF, fdF, blF, hdF, mxF, mnF]; (repeat' split) <;> omega) (rfl) dX0_believed_92
        · skip
          refine r_iload_n hC hl dX0_believed_87 4 rfl ?_
          refine r_goto (tgt := 92) hC dX0_believed_88 (by decide) ?_
          exact r_iret hC hr hlk hI (by simp only [csF, tkF, fdF, blF, hdF, mxF, mnF]; (repeat' split) <;> omega) (rfl) dX0_believed_92
      by_cases c_13 : k = 4
      · refine r_tin (tgt := 93) hC 4 c_13 (by decide) dX0_believed_42 (by decide) (by decide) rfl (by decide) ?_
        refine r_iconst hC dX0_believed_93 ?_
        refine r_iload hC hl dX0_believed_94 1 rfl ?_
        refine r_imul hC dX0_believed_96 ?_
        exact r_iret hC hr hlk hI (by simp only [csF, tkF, fdF, blF, hdF, mxF, mnF]; (repeat' split) <;> omega) (rfl) dX0_believed_97
      by_cases c_14 : k = 5
      · refine r_tin (tgt := 98) hC 5 c_14 (by decide) dX0_believed_42 (by decide) (by decide) rfl (by decide) ?_
        refine r_iload hC hl dX0_believed_98 0 rfl ?_
        refine r_iload_n hC hl dX0_believed_100 6 rfl ?_
        refine r_iadd hC dX0_believed_101 ?_
        exact r_iret hC hr hlk hI (by simp only [csF, tkF, fdF, blF, hdF, mxF, mnF]; (repeat' split) <;> omega) (rfl) dX0_believed_102
      refine r_tout (tgt := 103) hC (by omega) dX0_believed_42 (by omega) (by decide) ?_
      refine r_iload hC hl dX0_believed_103 2 rfl ?_
      exact r_iret hC hr hlk hI (by simp only [csF, tkF, fdF, blF, hdF, mxF, mnF]; (repeat' split) <;> omega) (rfl) dX0_believed_105
  · skip
    refine r_iconst hC dX0_believed_4 ?_
    exact r_iret hC hr hlk hI (by simp only [csF, tkF, fdF, blF, hdF, mxF, mnF]; (repeat' split) <;> omega) (rfl) dX0_believed_5
