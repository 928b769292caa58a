def sTm (i : Nat) : Term := Term.string (sKey.getD i ("", 0, "")).1 (sKey.getD i ("", 0, "")).2.1
set_option maxHeartbeats 4000000 in
set_option maxRecDepth 100000 in
theorem kstr {s : State} {args : Array Value} (hs : ∀ c ∈ flatC (Jvm.Cond.and given_1 narrow_1), c.before args s = true) : ∃ adK adV : Nat → Nat, vk_S 11 sLen sByt adK adV (fun q => s.heap.size ≤ q) s s.heap ∧ ∀ i : Nat, i < 11 → (sTm i).eval args s none [] s = some (.ref (adK i)) := by
  refine vk_Sof (args := args) (s := s) (N := 11) (tm := sTm) (len := sLen) (byt := sByt) (A := fun q => s.heap.size ≤ q) ?_ ?_ ?_ ?_ ?_ ?_ ?_ (fun a h => Nat.not_le.mpr h)
  · intro i hi
    have h1 := wL_rg i hi
    show wL i < 2 ^ 31
    omega
  · intro i hi
    exact lt11 (P := fun i => (Cond.exactly (sTm i) "java/lang/String").before args s = true) (hs _ (List.mem_of_getElem? (i := 76) (by decide +kernel))) (hs _ (List.mem_of_getElem? (i := 21) (by decide +kernel))) (hs _ (List.mem_of_getElem? (i := 29) (by decide +kernel))) (hs _ (List.mem_of_getElem? (i := 40) (by decide +kernel))) (hs _ (List.mem_of_getElem? (i := 52) (by decide +kernel))) (hs _ (List.mem_of_getElem? (i := 63) (by decide +kernel))) (hs _ (List.mem_of_getElem? (i := 102) (by decide +kernel))) (hs _ (List.mem_of_getElem? (i := 117) (by decide +kernel))) (hs _ (List.mem_of_getElem? (i := 137) (by decide +kernel))) (hs _ (List.mem_of_getElem? (i := 153) (by decide +kernel))) (hs _ (List.mem_of_getElem? (i := 89) (by decide +kernel))) hi
  · intro i hi
    exact lt11 (P := fun i => (Cond.eq (.field (sTm i) "java/lang/String" "coder" "B") (.int 0)).before args s = true) (hs _ (List.mem_of_getElem? (i := 77) (by decide +kernel))) (hs _ (List.mem_of_getElem? (i := 22) (by decide +kernel))) (hs _ (List.mem_of_getElem? (i := 30) (by decide +kernel))) (hs _ (List.mem_of_getElem? (i := 41) (by decide +kernel))) (hs _ (List.mem_of_getElem? (i := 53) (by decide +kernel))) (hs _ (List.mem_of_getElem? (i := 64) (by decide +kernel))) (hs _ (List.mem_of_getElem? (i := 103) (by decide +kernel))) (hs _ (List.mem_of_getElem? (i := 118) (by decide +kernel))) (hs _ (List.mem_of_getElem? (i := 138) (by decide +kernel))) (hs _ (List.mem_of_getElem? (i := 154) (by decide +kernel))) (hs _ (List.mem_of_getElem? (i := 90) (by decide +kernel))) hi
  · intro i hi
    exact lt11 (P := fun i => (Cond.arrayOf (.field (sTm i) "java/lang/String" "value" "[B") .byte).before args s = true) (hs _ (List.mem_of_getElem? (i := 78) (by decide +kernel))) (hs _ (List.mem_of_getElem? (i := 23) (by decide +kernel))) (hs _ (List.mem_of_getElem? (i := 31) (by decide +kernel))) (hs _ (List.mem_of_getElem? (i := 42) (by decide +kernel))) (hs _ (List.mem_of_getElem? (i := 54) (by decide +kernel))) (hs _ (List.mem_of_getElem? (i := 65) (by decide +kernel))) (hs _ (List.mem_of_getElem? (i := 104) (by decide +kernel))) (hs _ (List.mem_of_getElem? (i := 119) (by decide +kernel))) (hs _ (List.mem_of_getElem? (i := 139) (by decide +kernel))) (hs _ (List.mem_of_getElem? (i := 155) (by decide +kernel))) (hs _ (List.mem_of_getElem? (i := 91) (by decide +kernel))) hi
  · intro i hi
    exact lt11 (P := fun i => (Cond.eq (.length (.field (sTm i) "java/lang/String" "value" "[B")) (.int (Int32.ofNat (sLen.getD i 0)))).before args s = true) (hs _ (List.mem_of_getElem? (i := 79) (by decide +kernel))) (hs _ (List.mem_of_getElem? (i := 24) (by decide +kernel))) (hs _ (List.mem_of_getElem? (i := 32) (by decide +kernel))) (hs _ (List.mem_of_getElem? (i := 43) (by decide +kernel))) (hs _ (List.mem_of_getElem? (i := 55) (by decide +kernel))) (hs _ (List.mem_of_getElem? (i := 66) (by decide +kernel))) (hs _ (List.mem_of_getElem? (i := 105) (by decide +kernel))) (hs _ (List.mem_of_getElem? (i := 120) (by decide +kernel))) (hs _ (List.mem_of_getElem? (i := 140) (by decide +kernel))) (hs _ (List.mem_of_getElem? (i := 156) (by decide +kernel))) (hs _ (List.mem_of_getElem? (i := 92) (by decide +kernel))) hi
  · intro i hi
    exact lt11 (P := fun i => ∀ j : Nat, j < sLen.getD i 0 → (Cond.eq (.elem (.field (sTm i) "java/lang/String" "value" "[B") (.int (Int32.ofNat j))) (.int ((sByt.getD i []).getD j 0))).before args s = true) (fun j hj => by
      have hj2 : j < 4 := hj
      rcases (show j = 0 ∨ j = 1 ∨ j = 2 ∨ j = 3 by omega) with rfl | rfl | rfl | rfl
      · exact hs _ (List.mem_of_getElem? (i := 80) (by decide +kernel))
      · exact hs _ (List.mem_of_getElem? (i := 81) (by decide +kernel))
      · exact hs _ (List.mem_of_getElem? (i := 82) (by decide +kernel))
      · exact hs _ (List.mem_of_getElem? (i := 83) (by decide +kernel)))
      (fun j hj => by
      have hj2 : j < 4 := hj
      rcases (show j = 0 ∨ j = 1 ∨ j = 2 ∨ j = 3 by omega) with rfl | rfl | rfl | rfl
      · exact hs _ (List.mem_of_getElem? (i := 25) (by decide +kernel))
      · exact hs _ (List.mem_of_getElem? (i := 26) (by decide +kernel))
      · exact hs _ (List.mem_of_getElem? (i := 27) (by decide +kernel))
      · exact hs _ (List.mem_of_getElem? (i := 28) (by decide +kernel)))
      (fun j hj => by
      have hj2 : j < 6 := hj
      rcases (show j = 0 ∨ j = 1 ∨ j = 2 ∨ j = 3 ∨ j = 4 ∨ j = 5 by omega) with rfl | rfl | rfl | rfl | rfl | rfl
      · exact hs _ (List.mem_of_getElem? (i := 33) (by decide +kernel))
      · exact hs _ (List.mem_of_getElem? (i := 34) (by decide +kernel))
      · exact hs _ (List.mem_of_getElem? (i := 35) (by decide +kernel))
      · exact hs _ (List.mem_of_getElem? (i := 36) (by decide +kernel))
      · exact hs _ (List.mem_of_getElem? (i := 37) (by decide +kernel))
      · exact hs _ (List.mem_of_getElem? (i := 38) (by decide +kernel)))
      (fun j hj => by
      have hj2 : j < 6 := hj
      rcases (show j = 0 ∨ j = 1 ∨ j = 2 ∨ j = 3 ∨ j = 4 ∨ j = 5 by omega) with rfl | rfl | rfl | rfl | rfl | rfl
      · exact hs _ (List.mem_of_getElem? (i := 44) (by decide +kernel))
      · exact hs _ (List.mem_of_getElem? (i := 45) (by decide +kernel))
      · exact hs _ (List.mem_of_getElem? (i := 46) (by decide +kernel))
      · exact hs _ (List.mem_of_getElem? (i := 47) (by decide +kernel))
      · exact hs _ (List.mem_of_getElem? (i := 48) (by decide +kernel))
      · exact hs _ (List.mem_of_getElem? (i := 49) (by decide +kernel)))
      (fun j hj => by
      have hj2 : j < 4 := hj
      rcases (show j = 0 ∨ j = 1 ∨ j = 2 ∨ j = 3 by omega) with rfl | rfl | rfl | rfl
      · exact hs _ (List.mem_of_getElem? (i := 56) (by decide +kernel))
      · exact hs _ (List.mem_of_getElem? (i := 57) (by decide +kernel))
      · exact hs _ (List.mem_of_getElem? (i := 58) (by decide +kernel))
      · exact hs _ (List.mem_of_getElem? (i := 59) (by decide +kernel)))
      (fun j hj => by
      have hj2 : j < 5 := hj
      rcases (show j = 0 ∨ j = 1 ∨ j = 2 ∨ j = 3 ∨ j = 4 by omega) with rfl | rfl | rfl | rfl | rfl
      · exact hs _ (List.mem_of_getElem? (i := 67) (by decide +kernel))
      · exact hs _ (List.mem_of_getElem? (i := 68) (by decide +kernel))
      · exact hs _ (List.mem_of_getElem? (i := 69) (by decide +kernel))
      · exact hs _ (List.mem_of_getElem? (i := 70) (by decide +kernel))
      · exact hs _ (List.mem_of_getElem? (i := 71) (by decide +kernel)))
      (fun j hj => by
      have hj2 : j < 4 := hj
      rcases (show j = 0 ∨ j = 1 ∨ j = 2 ∨ j = 3 by omega) with rfl | rfl | rfl | rfl
      · exact hs _ (List.mem_of_getElem? (i := 106) (by decide +kernel))
      · exact hs _ (List.mem_of_getElem? (i := 107) (by decide +kernel))
      · exact hs _ (List.mem_of_getElem? (i := 108) (by decide +kernel))
      · exact hs _ (List.mem_of_getElem? (i := 109) (by decide +kernel)))
      (fun j hj => by
      have hj2 : j < 8 := hj
      rcases (show j = 0 ∨ j = 1 ∨ j = 2 ∨ j = 3 ∨ j = 4 ∨ j = 5 ∨ j = 6 ∨ j = 7 by omega) with rfl | rfl | rfl | rfl | rfl | rfl | rfl | rfl
      · exact hs _ (List.mem_of_getElem? (i := 121) (by decide +kernel))
      · exact hs _ (List.mem_of_getElem? (i := 122) (by decide +kernel))
      · exact hs _ (List.mem_of_getElem? (i := 123) (by decide +kernel))
      · exact hs _ (List.mem_of_getElem? (i := 124) (by decide +kernel))
      · exact hs _ (List.mem_of_getElem? (i := 125) (by decide +kernel))
      · exact hs _ (List.mem_of_getElem? (i := 126) (by decide +kernel))
      · exact hs _ (List.mem_of_getElem? (i := 127) (by decide +kernel))
      · exact hs _ (List.mem_of_getElem? (i := 128) (by decide +kernel)))
      (fun j hj => by
      have hj2 : j < 3 := hj
      rcases (show j = 0 ∨ j = 1 ∨ j = 2 by omega) with rfl | rfl | rfl
      · exact hs _ (List.mem_of_getElem? (i := 141) (by decide +kernel))
      · exact hs _ (List.mem_of_getElem? (i := 142) (by decide +kernel))
      · exact hs _ (List.mem_of_getElem? (i := 143) (by decide +kernel)))
      (fun j hj => by
      have hj2 : j < 4 := hj
      rcases (show j = 0 ∨ j = 1 ∨ j = 2 ∨ j = 3 by omega) with rfl | rfl | rfl | rfl
      · exact hs _ (List.mem_of_getElem? (i := 157) (by decide +kernel))
      · exact hs _ (List.mem_of_getElem? (i := 158) (by decide +kernel))
      · exact hs _ (List.mem_of_getElem? (i := 159) (by decide +kernel))
      · exact hs _ (List.mem_of_getElem? (i := 160) (by decide +kernel)))
      (fun j hj => by
      have hj2 : j < 3 := hj
      rcases (show j = 0 ∨ j = 1 ∨ j = 2 by omega) with rfl | rfl | rfl
      · exact hs _ (List.mem_of_getElem? (i := 93) (by decide +kernel))
      · exact hs _ (List.mem_of_getElem? (i := 94) (by decide +kernel))
      · exact hs _ (List.mem_of_getElem? (i := 95) (by decide +kernel))) hi
  · intro i j hi hj hne
    exact lt11 (P := fun i => ∀ j : Nat, j < 11 → i ≠ j → (Cond.not (Cond.eq (sTm i) (sTm j))).before args s = true ∨ (Cond.not (Cond.eq (sTm j) (sTm i))).before args s = true) (fun j hj => lt11 (P := fun j => 0 ≠ j → (Cond.not (Cond.eq (sTm 0) (sTm j))).before args s = true ∨ (Cond.not (Cond.eq (sTm j) (sTm 0))).before args s = true) (fun z => absurd rfl z) (fun _ => Or.inr (hs _ (List.mem_of_getElem? (i := 84) (by decide +kernel)))) (fun _ => Or.inr (hs _ (List.mem_of_getElem? (i := 85) (by decide +kernel)))) (fun _ => Or.inr (hs _ (List.mem_of_getElem? (i := 86) (by decide +kernel)))) (fun _ => Or.inr (hs _ (List.mem_of_getElem? (i := 87) (by decide +kernel)))) (fun _ => Or.inr (hs _ (List.mem_of_getElem? (i := 88) (by decide +kernel)))) (fun _ => Or.inl (hs _ (List.mem_of_getElem? (i := 115) (by decide +kernel)))) (fun _ => Or.inl (hs _ (List.mem_of_getElem? (i := 134) (by decide +kernel)))) (fun _ => Or.inl (hs _ (List.mem_of_getElem? (i := 149) (by decide +kernel)))) (fun _ => Or.inl (hs _ (List.mem_of_getElem? (i := 166) (by decide +kernel)))) (fun _ => Or.inl (hs _ (List.mem_of_getElem? (i := 101) (by decide +kernel)))) hj)
      (fun j hj => lt11 (P := fun j => 1 ≠ j → (Cond.not (Cond.eq (sTm 1) (sTm j))).before args s = true ∨ (Cond.not (Cond.eq (sTm j) (sTm 1))).before args s = true) (fun _ => Or.inl (hs _ (List.mem_of_getElem? (i := 84) (by decide +kernel)))) (fun z => absurd rfl z) (fun _ => Or.inl (hs _ (List.mem_of_getElem? (i := 39) (by decide +kernel)))) (fun _ => Or.inl (hs _ (List.mem_of_getElem? (i := 50) (by decide +kernel)))) (fun _ => Or.inl (hs _ (List.mem_of_getElem? (i := 60) (by decide +kernel)))) (fun _ => Or.inl (hs _ (List.mem_of_getElem? (i := 72) (by decide +kernel)))) (fun _ => Or.inl (hs _ (List.mem_of_getElem? (i := 110) (by decide +kernel)))) (fun _ => Or.inl (hs _ (List.mem_of_getElem? (i := 129) (by decide +kernel)))) (fun _ => Or.inl (hs _ (List.mem_of_getElem? (i := 144) (by decide +kernel)))) (fun _ => Or.inl (hs _ (List.mem_of_getElem? (i := 161) (by decide +kernel)))) (fun _ => Or.inl (hs _ (List.mem_of_getElem? (i := 96) (by decide +kernel)))) hj)
      (fun j hj => lt11 (P := fun j => 2 ≠ j → (Cond.not (Cond.eq (sTm 2) (sTm j))).before args s = true ∨ (Cond.not (Cond.eq (sTm j) (sTm 2))).before args s = true) (fun _ => Or.inl (hs _ (List.mem_of_getElem? (i := 85) (by decide +kernel)))) (fun _ => Or.inr (hs _ (List.mem_of_getElem? (i := 39) (by decide +kernel)))) (fun z => absurd rfl z) (fun _ => Or.inl (hs _ (List.mem_of_getElem? (i := 51) (by decide +kernel)))) (fun _ => Or.inl (hs _ (List.mem_of_getElem? (i := 61) (by decide +kernel)))) (fun _ => Or.inl (hs _ (List.mem_of_getElem? (i := 73) (by decide +kernel)))) (fun _ => Or.inl (hs _ (List.mem_of_getElem? (i := 111) (by decide +kernel)))) (fun _ => Or.inl (hs _ (List.mem_of_getElem? (i := 130) (by decide +kernel)))) (fun _ => Or.inl (hs _ (List.mem_of_getElem? (i := 145) (by decide +kernel)))) (fun _ => Or.inl (hs _ (List.mem_of_getElem? (i := 162) (by decide +kernel)))) (fun _ => Or.inl (hs _ (List.mem_of_getElem? (i := 97) (by decide +kernel)))) hj)
      (fun j hj => lt11 (P := fun j => 3 ≠ j → (Cond.not (Cond.eq (sTm 3) (sTm j))).before args s = true ∨ (Cond.not (Cond.eq (sTm j) (sTm 3))).before args s = true) (fun _ => Or.inl (hs _ (List.mem_of_getElem? (i := 86) (by decide +kernel)))) (fun _ => Or.inr (hs _ (List.mem_of_getElem? (i := 50) (by decide +kernel)))) (fun _ => Or.inr (hs _ (List.mem_of_getElem? (i := 51) (by decide +kernel)))) (fun z => absurd rfl z) (fun _ => Or.inl (hs _ (List.mem_of_getElem? (i := 62) (by decide +kernel)))) (fun _ => Or.inl (hs _ (List.mem_of_getElem? (i := 74) (by decide +kernel)))) (fun _ => Or.inl (hs _ (List.mem_of_getElem? (i := 112) (by decide +kernel)))) (fun _ => Or.inl (hs _ (List.mem_of_getElem? (i := 131) (by decide +kernel)))) (fun _ => Or.inl (hs _ (List.mem_of_getElem? (i := 146) (by decide +kernel)))) (fun _ => Or.inl (hs _ (List.mem_of_getElem? (i := 163) (by decide +kernel)))) (fun _ => Or.inl (hs _ (List.mem_of_getElem? (i := 98) (by decide +kernel)))) hj)
      (fun j hj => lt11 (P := fun j => 4 ≠ j → (Cond.not (Cond.eq (sTm 4) (sTm j))).before args s = true ∨ (Cond.not (Cond.eq (sTm j) (sTm 4))).before args s = true) (fun _ => Or.inl (hs _ (List.mem_of_getElem? (i := 87) (by decide +kernel)))) (fun _ => Or.inr (hs _ (List.mem_of_getElem? (i := 60) (by decide +kernel)))) (fun _ => Or.inr (hs _ (List.mem_of_getElem? (i := 61) (by decide +kernel)))) (fun _ => Or.inr (hs _ (List.mem_of_getElem? (i := 62) (by decide +kernel)))) (fun z => absurd rfl z) (fun _ => Or.inl (hs _ (List.mem_of_getElem? (i := 75) (by decide +kernel)))) (fun _ => Or.inl (hs _ (List.mem_of_getElem? (i := 113) (by decide +kernel)))) (fun _ => Or.inl (hs _ (List.mem_of_getElem? (i := 132) (by decide +kernel)))) (fun _ => Or.inl (hs _ (List.mem_of_getElem? (i := 147) (by decide +kernel)))) (fun _ => Or.inl (hs _ (List.mem_of_getElem? (i := 164) (by decide +kernel)))) (fun _ => Or.inl (hs _ (List.mem_of_getElem? (i := 99) (by decide +kernel)))) hj)
      (fun j hj => lt11 (P := fun j => 5 ≠ j → (Cond.not (Cond.eq (sTm 5) (sTm j))).before args s = true ∨ (Cond.not (Cond.eq (sTm j) (sTm 5))).before args s = true) (fun _ => Or.inl (hs _ (List.mem_of_getElem? (i := 88) (by decide +kernel)))) (fun _ => Or.inr (hs _ (List.mem_of_getElem? (i := 72) (by decide +kernel)))) (fun _ => Or.inr (hs _ (List.mem_of_getElem? (i := 73) (by decide +kernel)))) (fun _ => Or.inr (hs _ (List.mem_of_getElem? (i := 74) (by decide +kernel)))) (fun _ => Or.inr (hs _ (List.mem_of_getElem? (i := 75) (by decide +kernel)))) (fun z => absurd rfl z) (fun _ => Or.inl (hs _ (List.mem_of_getElem? (i := 114) (by decide +kernel)))) (fun _ => Or.inl (hs _ (List.mem_of_getElem? (i := 133) (by decide +kernel)))) (fun _ => Or.inl (hs _ (List.mem_of_getElem? (i := 148) (by decide +kernel)))) (fun _ => Or.inl (hs _ (List.mem_of_getElem? (i := 165) (by decide +kernel)))) (fun _ => Or.inl (hs _ (List.mem_of_getElem? (i := 100) (by decide +kernel)))) hj)
      (fun j hj => lt11 (P := fun j => 6 ≠ j → (Cond.not (Cond.eq (sTm 6) (sTm j))).before args s = true ∨ (Cond.not (Cond.eq (sTm j) (sTm 6))).before args s = true) (fun _ => Or.inr (hs _ (List.mem_of_getElem? (i := 115) (by decide +kernel)))) (fun _ => Or.inr (hs _ (List.mem_of_getElem? (i := 110) (by decide +kernel)))) (fun _ => Or.inr (hs _ (List.mem_of_getElem? (i := 111) (by decide +kernel)))) (fun _ => Or.inr (hs _ (List.mem_of_getElem? (i := 112) (by decide +kernel)))) (fun _ => Or.inr (hs _ (List.mem_of_getElem? (i := 113) (by decide +kernel)))) (fun _ => Or.inr (hs _ (List.mem_of_getElem? (i := 114) (by decide +kernel)))) (fun z => absurd rfl z) (fun _ => Or.inl (hs _ (List.mem_of_getElem? (i := 136) (by decide +kernel)))) (fun _ => Or.inl (hs _ (List.mem_of_getElem? (i := 151) (by decide +kernel)))) (fun _ => Or.inl (hs _ (List.mem_of_getElem? (i := 168) (by decide +kernel)))) (fun _ => Or.inr (hs _ (List.mem_of_getElem? (i := 116) (by decide +kernel)))) hj)
      (fun j hj => lt11 (P := fun j => 7 ≠ j → (Cond.not (Cond.eq (sTm 7) (sTm j))).before args s = true ∨ (Cond.not (Cond.eq (sTm j) (sTm 7))).before args s = true) (fun _ => Or.inr (hs _ (List.mem_of_getElem? (i := 134) (by decide +kernel)))) (fun _ => Or.inr (hs _ (List.mem_of_getElem? (i := 129) (by decide +kernel)))) (fun _ => Or.inr (hs _ (List.mem_of_getElem? (i := 130) (by decide +kernel)))) (fun _ => Or.inr (hs _ (List.mem_of_getElem? (i := 131) (by decide +kernel)))) (fun _ => Or.inr (hs _ (List.mem_of_getElem? (i := 132) (by decide +kernel)))) (fun _ => Or.inr (hs _ (List.mem_of_getElem? (i := 133) (by decide +kernel)))) (fun _ => Or.inr (hs _ (List.mem_of_getElem? (i := 136) (by decide +kernel)))) (fun z => absurd rfl z) (fun _ => Or.inl (hs _ (List.mem_of_getElem? (i := 152) (by decide +kernel)))) (fun _ => Or.inl (hs _ (List.mem_of_getElem? (i := 169) (by decide +kernel)))) (fun _ => Or.inr (hs _ (List.mem_of_getElem? (i := 135) (by decide +kernel)))) hj)
      (fun j hj => lt11 (P := fun j => 8 ≠ j → (Cond.not (Cond.eq (sTm 8) (sTm j))).before args s = true ∨ (Cond.not (Cond.eq (sTm j) (sTm 8))).before args s = true) (fun _ => Or.inr (hs _ (List.mem_of_getElem? (i := 149) (by decide +kernel)))) (fun _ => Or.inr (hs _ (List.mem_of_getElem? (i := 144) (by decide +kernel)))) (fun _ => Or.inr (hs _ (List.mem_of_getElem? (i := 145) (by decide +kernel)))) (fun _ => Or.inr (hs _ (List.mem_of_getElem? (i := 146) (by decide +kernel)))) (fun _ => Or.inr (hs _ (List.mem_of_getElem? (i := 147) (by decide +kernel)))) (fun _ => Or.inr (hs _ (List.mem_of_getElem? (i := 148) (by decide +kernel)))) (fun _ => Or.inr (hs _ (List.mem_of_getElem? (i := 151) (by decide +kernel)))) (fun _ => Or.inr (hs _ (List.mem_of_getElem? (i := 152) (by decide +kernel)))) (fun z => absurd rfl z) (fun _ => Or.inl (hs _ (List.mem_of_getElem? (i := 170) (by decide +kernel)))) (fun _ => Or.inr (hs _ (List.mem_of_getElem? (i := 150) (by decide +kernel)))) hj)
      (fun j hj => lt11 (P := fun j => 9 ≠ j → (Cond.not (Cond.eq (sTm 9) (sTm j))).before args s = true ∨ (Cond.not (Cond.eq (sTm j) (sTm 9))).before args s = true) (fun _ => Or.inr (hs _ (List.mem_of_getElem? (i := 166) (by decide +kernel)))) (fun _ => Or.inr (hs _ (List.mem_of_getElem? (i := 161) (by decide +kernel)))) (fun _ => Or.inr (hs _ (List.mem_of_getElem? (i := 162) (by decide +kernel)))) (fun _ => Or.inr (hs _ (List.mem_of_getElem? (i := 163) (by decide +kernel)))) (fun _ => Or.inr (hs _ (List.mem_of_getElem? (i := 164) (by decide +kernel)))) (fun _ => Or.inr (hs _ (List.mem_of_getElem? (i := 165) (by decide +kernel)))) (fun _ => Or.inr (hs _ (List.mem_of_getElem? (i := 168) (by decide +kernel)))) (fun _ => Or.inr (hs _ (List.mem_of_getElem? (i := 169) (by decide +kernel)))) (fun _ => Or.inr (hs _ (List.mem_of_getElem? (i := 170) (by decide +kernel)))) (fun z => absurd rfl z) (fun _ => Or.inr (hs _ (List.mem_of_getElem? (i := 167) (by decide +kernel)))) hj)
      (fun j hj => lt11 (P := fun j => 10 ≠ j → (Cond.not (Cond.eq (sTm 10) (sTm j))).before args s = true ∨ (Cond.not (Cond.eq (sTm j) (sTm 10))).before args s = true) (fun _ => Or.inr (hs _ (List.mem_of_getElem? (i := 101) (by decide +kernel)))) (fun _ => Or.inr (hs _ (List.mem_of_getElem? (i := 96) (by decide +kernel)))) (fun _ => Or.inr (hs _ (List.mem_of_getElem? (i := 97) (by decide +kernel)))) (fun _ => Or.inr (hs _ (List.mem_of_getElem? (i := 98) (by decide +kernel)))) (fun _ => Or.inr (hs _ (List.mem_of_getElem? (i := 99) (by decide +kernel)))) (fun _ => Or.inr (hs _ (List.mem_of_getElem? (i := 100) (by decide +kernel)))) (fun _ => Or.inl (hs _ (List.mem_of_getElem? (i := 116) (by decide +kernel)))) (fun _ => Or.inl (hs _ (List.mem_of_getElem? (i := 135) (by decide +kernel)))) (fun _ => Or.inl (hs _ (List.mem_of_getElem? (i := 150) (by decide +kernel)))) (fun _ => Or.inl (hs _ (List.mem_of_getElem? (i := 167) (by decide +kernel)))) (fun z => absurd rfl z) hj) hi j hj hne

set_option maxHeartbeats 4000000 in
set_option maxRecDepth 100000 in
theorem kstart {s : State} {args : Array Value} (hts : ∀ w ∈ lw_tbl, w.before args s = true) (hgv : (Jvm.Cond.and given_1 narrow_1).before args s = true) : ∃ X : XT, KV X s ∧ KH X s.heap.size s s.heap ∧ KI s := by
  have htb : ∀ w ∈ TB, w.before args s = true := fun w hw => hts w (tb_sub hw)
  have hs := flat_of_before _ hgv
  obtain ⟨c0, i0, k0⟩ := u_known (C := RX1) (T := TX1) (N := 5) (n := 5) htb iw_X1 (htb _ wn_RX1)
  obtain ⟨c1, i1, k1⟩ := u_known (C := RX2) (T := TX2) (N := 9) (n := 9) htb iw_X2 (htb _ wn_RX2)
  obtain ⟨c2, i2, k2⟩ := u_known (C := RX3) (T := TX3) (N := 3) (n := 3) htb iw_X3 (htb _ wn_RX3)
  obtain ⟨c3, i3, k3⟩ := u_known (C := RX4) (T := TX4) (N := 6) (n := 6) htb iw_X4 (htb _ wn_RX4)
  obtain ⟨c4, i4, k4⟩ := u_known (C := RX6) (T := TX6) (N := 7) (n := 7) htb iw_X6 (htb _ wn_RX6)
  obtain ⟨c5, i5, k5⟩ := u_known (C := RX7) (T := TX7) (N := 19) (n := 19) htb iw_X7 (htb _ wn_RX7)
  obtain ⟨cI, kI, mI, fI, gI, eI⟩ := Cond.arrayClass_spec (htb _ wa_int)
  obtain ⟨cL, kL, mL, fL1, gL, eL⟩ := Cond.arrayClass_spec (htb _ wa_long)
  have ao1 : (Cond.arrayOver (.object RX1)).before args s = true := hts _ (List.mem_of_getElem? (i := 68) (by decide +kernel))
  have ao3 : (Cond.arrayOver (.object RX3)).before args s = true := hts _ (List.mem_of_getElem? (i := 169) (by decide +kernel))
  obtain ⟨mP, cP, kP, aP, bP, gP, eP, fP⟩ := Cond.arrayOver_spec ao1
  obtain ⟨mS, cS, kS, aS, bS, gS, eS, fS⟩ := Cond.arrayOver_spec ao3
  obtain ⟨adK, adV, hS, hev⟩ := kstr hs
  refine ⟨((fun k => if k = 0 then c0 else if k = 1 then c1 else if k = 2 then c2 else if k = 3 then c3 else if k = 4 then c4 else c5, fun k => if k = 0 then i0 else if k = 1 then i1 else if k = 2 then i2 else if k = 3 then i3 else if k = 4 then i4 else i5), (cI, cL, cP, cS), adK, adV), ⟨⟨?_, ?_⟩, va_Nw.of rfl (hts _ (List.mem_of_getElem? (i := 289) (by decide +kernel))), va_Nw.of rfl (hts _ (List.mem_of_getElem? (i := 626) (by decide +kernel))), ?_⟩, ⟨hS, va_Zof (hts _ (List.mem_of_getElem? (i := 578) (by decide +kernel))) (htb _ wi_RJ0) (va_eqt (hs _ (List.mem_of_getElem? (i := 4) (by decide +kernel)))) (fun a h => Nat.not_le.mpr h), va_Zqof (hts _ (List.mem_of_getElem? (i := 594) (by decide +kernel))) (htb _ wi_RJ3) (hs _ (List.mem_of_getElem? (i := 5) (by decide +kernel))) (fun a h => Nat.not_le.mpr h)⟩, ⟨va_AO.of ao1, va_AO.of ao3, va_Nw.of rfl (hts _ (List.mem_of_getElem? (i := 70) (by decide +kernel))), va_Nw.of rfl (hts _ (List.mem_of_getElem? (i := 142) (by decide +kernel))), va_Nw.of rfl (hts _ (List.mem_of_getElem? (i := 171) (by decide +kernel)))⟩⟩
  · intro k q hq
    match k, hq with
    | 0, hq => cases hq; exact k0
    | 1, hq => cases hq; exact k1
    | 2, hq => cases hq; exact k2
    | 3, hq => cases hq; exact k3
    | 4, hq => cases hq; exact k4
    | 5, hq => cases hq; exact k5
    | k + 6, hq => simp [vwCl] at hq
  · intro k q hq
    match k, hq with
    | 0, hq => cases hq; exact ⟨fun n z => ⟨fun k h => (by cases h), kI, gI, mI, eI⟩, fI⟩
    | 1, hq => cases hq; exact ⟨fun n z => ⟨fun k h => (by cases h), kL, gL, mL, eL⟩, fL1⟩
    | 2, hq => cases hq; exact ⟨fun n z => ⟨fun k h => (by cases h), kP, gP, mP, eP⟩, kP, mP, gP, eP, aP, fP⟩
    | 3, hq => cases hq; exact ⟨fun n z => ⟨fun k h => (by cases h), kS, gS, mS, eS⟩, kS, mS, gS, eS, aS, fS⟩
    | k + 4, hq => simp [tyX] at hq
  · intro i q hq
    match i, hq with
    | 0, hq => cases hq; exact vk_R.of (hts _ (List.mem_of_getElem? (i := 564) (by decide +kernel))) (hev 0 (by decide))
    | 1, hq => cases hq; exact vk_R.of (hts _ (List.mem_of_getElem? (i := 559) (by decide +kernel))) (hev 1 (by decide))
    | 2, hq => cases hq; exact vk_R.of (hts _ (List.mem_of_getElem? (i := 560) (by decide +kernel))) (hev 2 (by decide))
    | 3, hq => cases hq; exact vk_R.of (hts _ (List.mem_of_getElem? (i := 561) (by decide +kernel))) (hev 3 (by decide))
    | 4, hq => cases hq; exact vk_R.of (hts _ (List.mem_of_getElem? (i := 562) (by decide +kernel))) (hev 4 (by decide))
    | 5, hq => cases hq; exact vk_R.of (hts _ (List.mem_of_getElem? (i := 563) (by decide +kernel))) (hev 5 (by decide))
    | 6, hq => cases hq; exact vk_R.of (hts _ (List.mem_of_getElem? (i := 631) (by decide +kernel))) (hev 6 (by decide))
    | 7, hq => cases hq; exact vk_R.of (hts _ (List.mem_of_getElem? (i := 635) (by decide +kernel))) (hev 7 (by decide))
    | 8, hq => cases hq; exact vk_R.of (hts _ (List.mem_of_getElem? (i := 641) (by decide +kernel))) (hev 8 (by decide))
    | 9, hq => cases hq; exact vk_R.of (hts _ (List.mem_of_getElem? (i := 642) (by decide +kernel))) (hev 9 (by decide))
    | 10, hq => cases hq; exact vk_R.of (hts _ (List.mem_of_getElem? (i := 629) (by decide +kernel))) (hev 10 (by decide))
    | i + 11, hq => simp [sKey] at hq
