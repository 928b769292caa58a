theorem fn_if2 {S : St} {p : Prop} [Decidable p] {v : Int} {b : Nat} : fnF S b (if p then onC v else 0) S = if p then fnF S b (onC v) S else up S b 0 (S b 0 + 1) := by
  by_cases hp : p
  · rw [if_pos hp, if_pos hp]
  · rw [if_neg hp, if_neg hp]; rfl
theorem an_cg {c v v2 : Int} (h : c < 0 → v = v2) : anF c v = anF c v2 := by
  unfold anF
  by_cases hc : 0 ≤ c
  · rw [if_pos hc, if_pos hc]
  · rw [if_neg hc, if_neg hc, h (by omega)]
theorem fn_b2 {S S1 T1 : St} {c : Int} {b : Nat} (e1 : S1 = fnF S 3 c T1) (hb : b ≠ 3) (hT : c < 0 → T1 b = S b) : S1 b = S b := by
  rw [e1]
  unfold fnF
  split
  · exact up_nb _ _ hb
  · exact hT (by omega)
theorem p5 {S : St} (h : Rel S) {w : Int} (hw : 0 ≤ w ∧ w < S 0 5) : w.toNat < 8 := by
  have h1 := h.1.1.2.2.2.2.2
  omega

theorem s_now {S S1 S2 : St} {w : Int} (h : Rel S) (e1 : S1 = fnF S 3 (if 0 ≤ w ∧ w ≤ 7 then -1 else 0) (S)) (e2 : S2 = fnF S1 21 (if 0 ≤ w ∧ w ≤ 7 then -1 else 0) (S1)) : anF (if 0 ≤ w ∧ w ≤ 7 then -1 else 0) (nowF (S1 20) w) = anF (if 0 ≤ w ∧ w ≤ 7 then -1 else 0) (nowF (S 0) w) ∧ Rel S2 := by
  have q20 : S1 20 = S 0 := (fn_b e1 (by decide) rfl).trans h.2.1
  try rw [q20] at e2
  try rw [q20]
  exact ⟨rfl, step h e1 e2 (fun _ k1 => by rw [k1]; exact h)⟩

theorem s_of {S S1 S2 : St} {w v : Int} (h : Rel S) (e1 : S1 = fnF S 3 (if (0 ≤ w ∧ w < S 0 5) ∧ 0 ≤ v ∧ v ≤ 8 then -1 else 0) (S)) (e2 : S2 = fnF S1 21 (if (0 ≤ w ∧ w < S1 20 5) ∧ 0 ≤ v ∧ v ≤ 8 then -1 else 0) (S1)) : anF (if (0 ≤ w ∧ w < S1 20 5) ∧ 0 ≤ v ∧ v ≤ 8 then -1 else 0) (ofF (S1 20) w.toNat v) = anF (if (0 ≤ w ∧ w < S 0 5) ∧ 0 ≤ v ∧ v ≤ 8 then -1 else 0) (ofF (S 0) w.toNat v) ∧ Rel S2 := by
  have q20 : S1 20 = S 0 := (fn_b e1 (by decide) rfl).trans h.2.1
  try rw [q20] at e2
  try rw [q20]
  exact ⟨rfl, step h e1 e2 (fun _ k1 => by rw [k1]; exact h)⟩

theorem s_as {S S1 S2 : St} {w v : Int} (h : Rel S) (e1 : S1 = fnF S 3 (if ¬ ((0 ≤ w ∧ w < S 0 5) ∧ 0 ≤ v ∧ v ≤ 5) then 0 else if v = 0 ∨ S 0 (18 + 5 * w.toNat) = v ∨ (v = 1 ∧ S 0 (18 + 5 * w.toNat) = 4) ∨ (v = 2 ∧ S 0 (18 + 5 * w.toNat) = 5) then -1 else 2) (S)) (e2 : S2 = fnF S1 21 (if ¬ ((0 ≤ w ∧ w < S1 20 5) ∧ 0 ≤ v ∧ v ≤ 5) then 0 else if v = 0 ∨ S1 20 (18 + 5 * w.toNat) = v ∨ (v = 1 ∧ S1 20 (18 + 5 * w.toNat) = 4) ∨ (v = 2 ∧ S1 20 (18 + 5 * w.toNat) = 5) then -1 else 2) (S1)) : anF (if ¬ ((0 ≤ w ∧ w < S1 20 5) ∧ 0 ≤ v ∧ v ≤ 5) then 0 else if v = 0 ∨ S1 20 (18 + 5 * w.toNat) = v ∨ (v = 1 ∧ S1 20 (18 + 5 * w.toNat) = 4) ∨ (v = 2 ∧ S1 20 (18 + 5 * w.toNat) = 5) then -1 else 2) (S1 20 (20 + 5 * w.toNat)) = anF (if ¬ ((0 ≤ w ∧ w < S 0 5) ∧ 0 ≤ v ∧ v ≤ 5) then 0 else if v = 0 ∨ S 0 (18 + 5 * w.toNat) = v ∨ (v = 1 ∧ S 0 (18 + 5 * w.toNat) = 4) ∨ (v = 2 ∧ S 0 (18 + 5 * w.toNat) = 5) then -1 else 2) (S 0 (20 + 5 * w.toNat)) ∧ Rel S2 := by
  have q20 : S1 20 = S 0 := (fn_b e1 (by decide) rfl).trans h.2.1
  try rw [q20] at e2
  try rw [q20]
  exact ⟨rfl, step h e1 e2 (fun _ k1 => by rw [k1]; exact h)⟩

theorem s_longest {S S1 S2 : St} {w : Int} (h : Rel S) (e1 : S1 = fnF S 3 (if ¬ (0 ≤ w ∧ w ≤ 5) then 0 else if 8 ≤ S 0 5 then 1 else onC (dwF (fun q => decide (csF w (q : Int) ≤ S 0 3)) 99)) (S)) (e2 : S2 = fnF S1 21 (if ¬ (0 ≤ w ∧ w ≤ 5) then 0 else if 8 ≤ S1 20 5 then 1 else onC (dwF (fun q => decide (csF w (q : Int) ≤ S1 20 3)) 99)) (S1)) : anF (if ¬ (0 ≤ w ∧ w ≤ 5) then 0 else if 8 ≤ S1 20 5 then 1 else onC (dwF (fun q => decide (csF w (q : Int) ≤ S1 20 3)) 99)) (dwF (fun q => decide (csF w (q : Int) ≤ S1 20 3)) 99) = anF (if ¬ (0 ≤ w ∧ w ≤ 5) then 0 else if 8 ≤ S 0 5 then 1 else onC (dwF (fun q => decide (csF w (q : Int) ≤ S 0 3)) 99)) (dwF (fun q => decide (csF w (q : Int) ≤ S 0 3)) 99) ∧ Rel S2 := by
  have q20 : S1 20 = S 0 := (fn_b e1 (by decide) rfl).trans h.2.1
  try rw [q20] at e2
  try rw [q20]
  exact ⟨rfl, step h e1 e2 (fun _ k1 => by rw [k1]; exact h)⟩

theorem s_count {S S1 S2 : St} {w : Int} (h : Rel S) (e1 : S1 = fnF S 3 (if 0 ≤ w ∧ w ≤ 3 then -1 else 0) (S)) (e2 : S2 = fnF S1 21 (if 0 ≤ w ∧ w ≤ 3 then -1 else 0) (S1)) : anF (if 0 ≤ w ∧ w ≤ 3 then -1 else 0) (ctF (S1 20) (S1 25 0) w) = anF (if 0 ≤ w ∧ w ≤ 3 then -1 else 0) (ctF (S 0) (S 5 0) w) ∧ Rel S2 := by
  have q20 : S1 20 = S 0 := (fn_b e1 (by decide) rfl).trans h.2.1
  have q5 : S1 25 0 = S 5 0 := (congrFun (fn_b (b := 25) e1 (by decide) rfl) 0).trans h.2.2.2.2.1
  rw [q20, q5]
  exact ⟨rfl, step h e1 e2 (fun _ k1 => by rw [k1]; exact h)⟩

theorem s_status {S S1 S2 : St} {w : Int} (h : Rel S) (e1 : S1 = fnF S 3 (if -1 ≤ w ∧ w ≤ 6 then -1 else 0) (S)) (e2 : S2 = fnF S1 21 (if -1 ≤ w ∧ w ≤ 6 then -1 else 0) (S1)) : anF (if -1 ≤ w ∧ w ≤ 6 then -1 else 0) (if w < 0 then sumF (S1 21) 7 else S1 21 w.toNat) = anF (if -1 ≤ w ∧ w ≤ 6 then -1 else 0) (if w < 0 then sumF (S 3) 7 else S 3 w.toNat) ∧ Rel S2 := by
  have q21 : S1 21 = S 3 := (fn_b e1 (by decide) rfl).trans h.2.2.1
  rw [q21]
  exact ⟨rfl, step h e1 e2 (fun _ k1 => by rw [k1]; exact h)⟩

theorem s_ink {S S1 S2 : St} {w : Int} (h : Rel S) (e1 : S1 = fnF S 3 (if 0 ≤ w ∧ w ≤ 200 then -1 else 0) (S)) (e2 : S2 = fnF S1 21 (if 0 ≤ w ∧ w ≤ 200 then -1 else 0) (setB S1 22 (S1 20))) : anF (if 0 ≤ w ∧ w ≤ 200 then -1 else 0) (iwF (S1 20) (S1 20 2 + S1 20 1 * sumF (dkF (S1 20)) w.toNat)) = anF (if 0 ≤ w ∧ w ≤ 200 then -1 else 0) (iwF (S 0) (S 0 2 + S 0 1 * sumF (dkF (S 0)) w.toNat)) ∧ Rel S2 := by
  have q20 : S1 20 = S 0 := (fn_b e1 (by decide) rfl).trans h.2.1
  try rw [q20] at e2
  try rw [q20]
  exact ⟨rfl, step h e1 e2 (fun _ k1 => rel_8 h (fun b _ z2 _ => by rw [setB_ne _ _ z2, k1]))⟩

theorem s_on {S S1 S2 : St} {w v u : Int} (h : Rel S) (e1 : S1 = fnF S 3 (if (0 ≤ w ∧ w < S 0 5) ∧ (0 ≤ v ∧ v ≤ 200) ∧ 0 ≤ u ∧ u ≤ 1 then -1 else 0) (S)) (e2 : S2 = fnF S1 21 (if (0 ≤ w ∧ w < S1 20 5) ∧ (0 ≤ v ∧ v ≤ 200) ∧ 0 ≤ u ∧ u ≤ 1 then -1 else 0) (setB S1 22 (S1 20))) : anF (if (0 ≤ w ∧ w < S1 20 5) ∧ (0 ≤ v ∧ v ≤ 200) ∧ 0 ≤ u ∧ u ≤ 1 then -1 else 0) (if u = 0 then bkP (S1 20) w.toNat v else blP (S1 20) w.toNat v (S1 20 4)) = anF (if (0 ≤ w ∧ w < S 0 5) ∧ (0 ≤ v ∧ v ≤ 200) ∧ 0 ≤ u ∧ u ≤ 1 then -1 else 0) (if u = 0 then bkP (S 0) w.toNat v else blP (S 0) w.toNat v (S 0 4)) ∧ Rel S2 := by
  have q20 : S1 20 = S 0 := (fn_b e1 (by decide) rfl).trans h.2.1
  try rw [q20] at e2
  try rw [q20]
  exact ⟨rfl, step h e1 e2 (fun _ k1 => rel_8 h (fun b _ z2 _ => by rw [setB_ne _ _ z2, k1]))⟩

theorem s_all {S S1 S2 : St} {w : Int} (h : Rel S) (e1 : S1 = fnF S 3 (if 0 ≤ w ∧ w ≤ 200 then -1 else 0) (S)) (e2 : S2 = fnF S1 21 (if 0 ≤ w ∧ w ≤ 200 then -1 else 0) (setB S1 22 (S1 20))) : anF (if 0 ≤ w ∧ w ≤ 200 then -1 else 0) (sumF (fun i => blP (S1 20) i w (S1 20 4)) (S1 20 5).toNat) = anF (if 0 ≤ w ∧ w ≤ 200 then -1 else 0) (sumF (fun i => blP (S 0) i w (S 0 4)) (S 0 5).toNat) ∧ Rel S2 := by
  have q20 : S1 20 = S 0 := (fn_b e1 (by decide) rfl).trans h.2.1
  try rw [q20] at e2
  try rw [q20]
  exact ⟨rfl, step h e1 e2 (fun _ k1 => rel_8 h (fun b _ z2 _ => by rw [setB_ne _ _ z2, k1]))⟩

theorem s_kind {S S1 S2 : St} {w v : Int} (h : Rel S) (e1 : S1 = fnF S 3 (if (0 ≤ w ∧ w < S 0 5) ∧ 0 ≤ v ∧ v ≤ 60 then -1 else 0) (S)) (e2 : S2 = fnF S1 21 (if (0 ≤ w ∧ w < S1 20 5) ∧ 0 ≤ v ∧ v ≤ 60 then -1 else 0) (setB S1 22 (S1 20))) : anF (if (0 ≤ w ∧ w < S1 20 5) ∧ 0 ≤ v ∧ v ≤ 60 then -1 else 0) ((beF (fun j => blA (S1 20) w.toNat (j : Int) (S1 20 (21 + 5 * w.toNat)) v (S1 20 4)) 6).1) = anF (if (0 ≤ w ∧ w < S 0 5) ∧ 0 ≤ v ∧ v ≤ 60 then -1 else 0) ((beF (fun j => blA (S 0) w.toNat (j : Int) (S 0 (21 + 5 * w.toNat)) v (S 0 4)) 6).1) ∧ Rel S2 := by
  have q20 : S1 20 = S 0 := (fn_b e1 (by decide) rfl).trans h.2.1
  try rw [q20] at e2
  try rw [q20]
  exact ⟨rfl, step h e1 e2 (fun _ k1 => rel_8 h (fun b _ z2 _ => by rw [setB_ne _ _ z2, k1]))⟩

theorem s_white {S S1 S2 : St} {w : Int} (h : Rel S) (e1 : S1 = fnF S 3 (if 0 ≤ w ∧ w < S 0 5 then onC (fsF (fun j => decide (bkP (S 0) w.toNat (j : Int) = 0)) (200 + 1) 0) else 0) (S)) (e2 : S2 = if 0 ≤ w ∧ w < S1 20 5 then fnF (setB S1 22 (S1 20)) 21 (onC (fsF (fun j => decide (bkP (S1 20) w.toNat (j : Int) = 0)) (200 + 1) 0)) (setB S1 22 (S1 20)) else up S1 21 0 (S1 21 0 + 1)) : anF (if 0 ≤ w ∧ w < S1 20 5 then onC (fsF (fun j => decide (bkP (S1 20) w.toNat (j : Int) = 0)) (200 + 1) 0) else 0) (fsF (fun j => decide (bkP (S1 20) w.toNat (j : Int) = 0)) (200 + 1) 0) = anF (if 0 ≤ w ∧ w < S 0 5 then onC (fsF (fun j => decide (bkP (S 0) w.toNat (j : Int) = 0)) (200 + 1) 0) else 0) (fsF (fun j => decide (bkP (S 0) w.toNat (j : Int) = 0)) (200 + 1) 0) ∧ Rel S2 := by
  have q20 : S1 20 = S 0 := (fn_b e1 (by decide) rfl).trans h.2.1
  try rw [q20] at e2
  try rw [q20]
  rw [fn_if2] at e1
  exact ⟨rfl, step_scr h (fun _ _ => rfl) e1 (fun b z => setB_ne _ _ z) e2⟩

theorem s_comes {S S1 S2 : St} {w : Int} (h : Rel S) (e1 : S1 = fnF S 3 (if 0 ≤ w ∧ w ≤ 999 then onC (fsF (fun j => decide (w ≤ iwF (S 0) (S 0 2 + S 0 1 * sumF (dkF (S 0)) j))) (200 + 1) 0) else 0) (S)) (e2 : S2 = if 0 ≤ w ∧ w ≤ 999 then fnF (setB S1 22 (S1 20)) 21 (onC (fsF (fun j => decide (w ≤ iwF (S1 20) (S1 20 2 + S1 20 1 * sumF (dkF (S1 20)) j))) (200 + 1) 0)) (setB S1 22 (S1 20)) else up S1 21 0 (S1 21 0 + 1)) : anF (if 0 ≤ w ∧ w ≤ 999 then onC (fsF (fun j => decide (w ≤ iwF (S1 20) (S1 20 2 + S1 20 1 * sumF (dkF (S1 20)) j))) (200 + 1) 0) else 0) (fsF (fun j => decide (w ≤ iwF (S1 20) (S1 20 2 + S1 20 1 * sumF (dkF (S1 20)) j))) (200 + 1) 0) = anF (if 0 ≤ w ∧ w ≤ 999 then onC (fsF (fun j => decide (w ≤ iwF (S 0) (S 0 2 + S 0 1 * sumF (dkF (S 0)) j))) (200 + 1) 0) else 0) (fsF (fun j => decide (w ≤ iwF (S 0) (S 0 2 + S 0 1 * sumF (dkF (S 0)) j))) (200 + 1) 0) ∧ Rel S2 := by
  have q20 : S1 20 = S 0 := (fn_b e1 (by decide) rfl).trans h.2.1
  try rw [q20] at e2
  try rw [q20]
  rw [fn_if2] at e1
  exact ⟨rfl, step_scr h (fun _ _ => rfl) e1 (fun b z => setB_ne _ _ z) e2⟩

theorem s_when {S S1 S2 : St} {w v : Int} (h : Rel S) (e1 : S1 = fnF S 3 (if (0 ≤ w ∧ w ≤ 5) ∧ 1 ≤ v ∧ v ≤ 99 then onC ((beF (fun j => if csF w v ≤ iwF (S 0) (S 0 2 + S 0 1 * sumF (dkF (S 0)) j) then tkF w (dkF (S 0) j) else -1) 12).1) else 0) (S)) (e2 : S2 = if (0 ≤ w ∧ w ≤ 5) ∧ 1 ≤ v ∧ v ≤ 99 then fnF (setB S1 22 (S1 20)) 21 (onC ((beF (fun j => if csF w v ≤ iwF (S1 20) (S1 20 2 + S1 20 1 * sumF (dkF (S1 20)) j) then tkF w (dkF (S1 20) j) else -1) 12).1)) (setB S1 22 (S1 20)) else up S1 21 0 (S1 21 0 + 1)) : anF (if (0 ≤ w ∧ w ≤ 5) ∧ 1 ≤ v ∧ v ≤ 99 then onC ((beF (fun j => if csF w v ≤ iwF (S1 20) (S1 20 2 + S1 20 1 * sumF (dkF (S1 20)) j) then tkF w (dkF (S1 20) j) else -1) 12).1) else 0) ((beF (fun j => if csF w v ≤ iwF (S1 20) (S1 20 2 + S1 20 1 * sumF (dkF (S1 20)) j) then tkF w (dkF (S1 20) j) else -1) 12).1) = anF (if (0 ≤ w ∧ w ≤ 5) ∧ 1 ≤ v ∧ v ≤ 99 then onC ((beF (fun j => if csF w v ≤ iwF (S 0) (S 0 2 + S 0 1 * sumF (dkF (S 0)) j) then tkF w (dkF (S 0) j) else -1) 12).1) else 0) ((beF (fun j => if csF w v ≤ iwF (S 0) (S 0 2 + S 0 1 * sumF (dkF (S 0)) j) then tkF w (dkF (S 0) j) else -1) 12).1) ∧ Rel S2 := by
  have q20 : S1 20 = S 0 := (fn_b e1 (by decide) rfl).trans h.2.1
  try rw [q20] at e2
  try rw [q20]
  rw [fn_if2] at e1
  exact ⟨rfl, step_scr h (fun _ _ => rfl) e1 (fun b z => setB_ne _ _ z) e2⟩

theorem s_enough {S S1 S2 : St} {w v : Int} (h : Rel S) (e1 : S1 = fnF S 3 (if (1 ≤ w ∧ w ≤ 60) ∧ 0 ≤ v ∧ v ≤ 999 then onC (fsF (fun j => decide (v ≤ iwF (S 0) (S 0 2 + (j : Int) * sumF (dkF (S 0)) w.toNat))) 10 0) else 0) (S)) (e2 : S2 = if (1 ≤ w ∧ w ≤ 60) ∧ 0 ≤ v ∧ v ≤ 999 then fnF (setB S1 22 (S1 20)) 21 (onC (fsF (fun j => decide (v ≤ iwF (S1 20) (S1 20 2 + (j : Int) * sumF (dkF (S1 20)) w.toNat))) 10 0)) (setB S1 22 (S1 20)) else up S1 21 0 (S1 21 0 + 1)) : anF (if (1 ≤ w ∧ w ≤ 60) ∧ 0 ≤ v ∧ v ≤ 999 then onC (fsF (fun j => decide (v ≤ iwF (S1 20) (S1 20 2 + (j : Int) * sumF (dkF (S1 20)) w.toNat))) 10 0) else 0) (fsF (fun j => decide (v ≤ iwF (S1 20) (S1 20 2 + (j : Int) * sumF (dkF (S1 20)) w.toNat))) 10 0) = anF (if (1 ≤ w ∧ w ≤ 60) ∧ 0 ≤ v ∧ v ≤ 999 then onC (fsF (fun j => decide (v ≤ iwF (S 0) (S 0 2 + (j : Int) * sumF (dkF (S 0)) w.toNat))) 10 0) else 0) (fsF (fun j => decide (v ≤ iwF (S 0) (S 0 2 + (j : Int) * sumF (dkF (S 0)) w.toNat))) 10 0) ∧ Rel S2 := by
  have q20 : S1 20 = S 0 := (fn_b e1 (by decide) rfl).trans h.2.1
  try rw [q20] at e2
  try rw [q20]
  rw [fn_if2] at e1
  exact ⟨rfl, step_scr h (fun _ _ => rfl) e1 (fun b z => setB_ne _ _ z) e2⟩

theorem s_lamp {S S1 S2 : St} {w v : Int} (h : Rel S) (e1 : S1 = fnF S 3 (if (0 ≤ w ∧ w ≤ 60) ∧ 0 ≤ v ∧ v ≤ 9999 then onC (fsF (fun j => decide (v ≤ sumF (fun i => blP (S 0) i w (j : Int)) (S 0 5).toNat)) 10 0) else 0) (S)) (e2 : S2 = if (0 ≤ w ∧ w ≤ 60) ∧ 0 ≤ v ∧ v ≤ 9999 then fnF (setB S1 22 (S1 20)) 21 (onC (fsF (fun j => decide (v ≤ sumF (fun i => blP (S1 20) i w (j : Int)) (S1 20 5).toNat)) 10 0)) (setB S1 22 (S1 20)) else up S1 21 0 (S1 21 0 + 1)) : anF (if (0 ≤ w ∧ w ≤ 60) ∧ 0 ≤ v ∧ v ≤ 9999 then onC (fsF (fun j => decide (v ≤ sumF (fun i => blP (S1 20) i w (j : Int)) (S1 20 5).toNat)) 10 0) else 0) (fsF (fun j => decide (v ≤ sumF (fun i => blP (S1 20) i w (j : Int)) (S1 20 5).toNat)) 10 0) = anF (if (0 ≤ w ∧ w ≤ 60) ∧ 0 ≤ v ∧ v ≤ 9999 then onC (fsF (fun j => decide (v ≤ sumF (fun i => blP (S 0) i w (j : Int)) (S 0 5).toNat)) 10 0) else 0) (fsF (fun j => decide (v ≤ sumF (fun i => blP (S 0) i w (j : Int)) (S 0 5).toNat)) 10 0) ∧ Rel S2 := by
  have q20 : S1 20 = S 0 := (fn_b e1 (by decide) rfl).trans h.2.1
  try rw [q20] at e2
  try rw [q20]
  rw [fn_if2] at e1
  exact ⟨rfl, step_scr h (fun _ _ => rfl) e1 (fun b z => setB_ne _ _ z) e2⟩

theorem s_shade {S S1 S2 : St} {w : Int} (h : Rel S) (e1 : S1 = if 1 ≤ w ∧ w ≤ 60 then fnF (setB S (8 + 0) (meF (S 0) w (S (8 + 0)) (S 0 5).toNat)) 3 (onC (bsF (fun j => decide (S 0 (21 + 5 * j) = 1)) (stD (S 0) w) (S 0 5).toNat)) (setB S (8 + 0) (meF (S 0) w (S (8 + 0)) (S 0 5).toNat)) else up S 3 0 (S 3 0 + 1)) (e2 : S2 = if 1 ≤ w ∧ w ≤ 60 then fnF (setB S1 22 (S1 20)) 21 (onC (bsF (fun j => decide (S1 20 (21 + 5 * j) = 1)) (stD (S1 20) w) (S1 20 5).toNat)) (setB S1 22 (S1 20)) else up S1 21 0 (S1 21 0 + 1)) : anF (if 1 ≤ w ∧ w ≤ 60 then onC (bsF (fun j => decide (S1 20 (21 + 5 * j) = 1)) (stD (S1 20) w) (S1 20 5).toNat) else 0) (bsF (fun j => decide (S1 20 (21 + 5 * j) = 1)) (stD (S1 20) w) (S1 20 5).toNat) = anF (if 1 ≤ w ∧ w ≤ 60 then onC (bsF (fun j => decide (S 0 (21 + 5 * j) = 1)) (stD (S 0) w) (S 0 5).toNat) else 0) (bsF (fun j => decide (S 0 (21 + 5 * j) = 1)) (stD (S 0) w) (S 0 5).toNat) ∧ Rel S2 := by
  have q20 : S1 20 = S 0 := (sc_b e1 (by decide) (setB_ne _ _ (by decide))).trans h.2.1
  try rw [q20] at e2
  try rw [q20]
  exact ⟨rfl, step_scr h (fun b z => setB_ne _ _ z) e1 (fun b z => setB_ne _ _ z) e2⟩

theorem s_sunny {S S1 S2 : St} {w v : Int} (h : Rel S) (e1 : S1 = if (1 ≤ w ∧ w ≤ 20) ∧ 0 ≤ v ∧ v ≤ 9999 then fnF (setB S (8 + 0) (meF (S 0) w (S (8 + 0)) (S 0 5).toNat)) 3 (onC (msF (fun m1 => decide (v ≤ sumF (fun j => blA (S 0) j (S 0 (18 + 5 * j)) 0 w (S 0 4)) (S 0 5).toNat - tkS (stD (S 0) w) m1 (S 0 5).toNat)) (2 ^ (S 0 5).toNat))) (setB S (8 + 0) (meF (S 0) w (S (8 + 0)) (S 0 5).toNat)) else up S 3 0 (S 3 0 + 1)) (e2 : S2 = if (1 ≤ w ∧ w ≤ 20) ∧ 0 ≤ v ∧ v ≤ 9999 then fnF (setB S1 22 (S1 20)) 21 (onC (msF (fun m1 => decide (v ≤ sumF (fun j => blA (S1 20) j (S1 20 (18 + 5 * j)) 0 w (S1 20 4)) (S1 20 5).toNat - tkS (stD (S1 20) w) m1 (S1 20 5).toNat)) (2 ^ (S1 20 5).toNat))) (setB S1 22 (S1 20)) else up S1 21 0 (S1 21 0 + 1)) : anF (if (1 ≤ w ∧ w ≤ 20) ∧ 0 ≤ v ∧ v ≤ 9999 then onC (msF (fun m1 => decide (v ≤ sumF (fun j => blA (S1 20) j (S1 20 (18 + 5 * j)) 0 w (S1 20 4)) (S1 20 5).toNat - tkS (stD (S1 20) w) m1 (S1 20 5).toNat)) (2 ^ (S1 20 5).toNat)) else 0) (msF (fun m1 => decide (v ≤ sumF (fun j => blA (S1 20) j (S1 20 (18 + 5 * j)) 0 w (S1 20 4)) (S1 20 5).toNat - tkS (stD (S1 20) w) m1 (S1 20 5).toNat)) (2 ^ (S1 20 5).toNat)) = anF (if (1 ≤ w ∧ w ≤ 20) ∧ 0 ≤ v ∧ v ≤ 9999 then onC (msF (fun m1 => decide (v ≤ sumF (fun j => blA (S 0) j (S 0 (18 + 5 * j)) 0 w (S 0 4)) (S 0 5).toNat - tkS (stD (S 0) w) m1 (S 0 5).toNat)) (2 ^ (S 0 5).toNat)) else 0) (msF (fun m1 => decide (v ≤ sumF (fun j => blA (S 0) j (S 0 (18 + 5 * j)) 0 w (S 0 4)) (S 0 5).toNat - tkS (stD (S 0) w) m1 (S 0 5).toNat)) (2 ^ (S 0 5).toNat)) ∧ Rel S2 := by
  have q20 : S1 20 = S 0 := (sc_b e1 (by decide) (setB_ne _ _ (by decide))).trans h.2.1
  try rw [q20] at e2
  try rw [q20]
  exact ⟨rfl, step_scr h (fun b z => setB_ne _ _ z) e1 (fun b z => setB_ne _ _ z) e2⟩

theorem s_jar {S S1 S2 : St} {w v : Int} (h : Rel S) (e1 : S1 = fnF S 3 (if (0 ≤ w ∧ w ≤ 3) ∧ 0 ≤ v ∧ v ≤ mjF w then -1 else 0) (up S 0 (1 + w.toNat) v)) (e2 : S2 = fnF S1 21 (if (0 ≤ w ∧ w ≤ 3) ∧ 0 ≤ v ∧ v ≤ mjF w then -1 else 0) (up S1 20 (1 + w.toNat) v)) : anF (if (0 ≤ w ∧ w ≤ 3) ∧ 0 ≤ v ∧ v ≤ mjF w then -1 else 0) (S1 20 (1 + w.toNat)) = anF (if (0 ≤ w ∧ w ≤ 3) ∧ 0 ≤ v ∧ v ≤ mjF w then -1 else 0) (S 0 (1 + w.toNat)) ∧ Rel S2 := by
  have q20 : S1 20 = S 0 := (fn_b e1 (by decide) (up_nb _ _ (by decide))).trans h.2.1
  try rw [q20] at e2
  try rw [q20]
  exact ⟨rfl, step h e1 e2 (fun hc k1 => by
    have hp := c1 hc
    exact rel_up h k1 (VR_j hp.1 hp.2 h.1))⟩

theorem s_dark {S S1 S2 : St} {w v : Int} (h : Rel S) (e1 : S1 = fnF S 3 (if (0 ≤ w ∧ w ≤ 11) ∧ 0 ≤ v ∧ v ≤ 20 then -1 else 0) (up S 0 (6 + w.toNat) v)) (e2 : S2 = fnF S1 21 (if (0 ≤ w ∧ w ≤ 11) ∧ 0 ≤ v ∧ v ≤ 20 then -1 else 0) (up S1 20 (6 + w.toNat) v)) : anF (if (0 ≤ w ∧ w ≤ 11) ∧ 0 ≤ v ∧ v ≤ 20 then -1 else 0) (S1 20 (6 + w.toNat)) = anF (if (0 ≤ w ∧ w ≤ 11) ∧ 0 ≤ v ∧ v ≤ 20 then -1 else 0) (S 0 (6 + w.toNat)) ∧ Rel S2 := by
  have q20 : S1 20 = S 0 := (fn_b e1 (by decide) (up_nb _ _ (by decide))).trans h.2.1
  try rw [q20] at e2
  try rw [q20]
  exact ⟨rfl, step h e1 e2 (fun hc k1 => by
    have hp := c1 hc
    exact rel_up h k1 (VR_d hp.2 (by omega) h.1))⟩

theorem s_set {S S1 S2 : St} {w v u : Int} (h : Rel S) (e1 : S1 = fnF S 3 (if (0 ≤ w ∧ w < S 0 5) ∧ (1 ≤ v ∧ v ≤ 4) ∧ leP v ≤ u ∧ u ≤ moP v then -1 else 0) (up S 0 (18 + 5 * w.toNat + v.toNat) u)) (e2 : S2 = fnF S1 21 (if (0 ≤ w ∧ w < S1 20 5) ∧ (1 ≤ v ∧ v ≤ 4) ∧ leP v ≤ u ∧ u ≤ moP v then -1 else 0) (up S1 20 (18 + 5 * w.toNat + v.toNat) u)) : anF (if (0 ≤ w ∧ w < S1 20 5) ∧ (1 ≤ v ∧ v ≤ 4) ∧ leP v ≤ u ∧ u ≤ moP v then -1 else 0) (S1 20 (18 + 5 * w.toNat + v.toNat)) = anF (if (0 ≤ w ∧ w < S 0 5) ∧ (1 ≤ v ∧ v ≤ 4) ∧ leP v ≤ u ∧ u ≤ moP v then -1 else 0) (S 0 (18 + 5 * w.toNat + v.toNat)) ∧ Rel S2 := by
  have q20 : S1 20 = S 0 := (fn_b e1 (by decide) (up_nb _ _ (by decide))).trans h.2.1
  try rw [q20] at e2
  try rw [q20]
  exact ⟨rfl, step h e1 e2 (fun hc k1 => by
    have hp := c1 hc
    exact rel_up h k1 (VR_set h.1 (p5 h hp.1) hp.2.1 hp.2.2))⟩

theorem s_turn {S S1 S2 : St} {w v : Int} (h : Rel S) (e1 : S1 = fnF S 3 (if (0 ≤ w ∧ w < S 0 5) ∧ 0 ≤ v ∧ v ≤ 5 then -1 else 0) (up S 0 (18 + 5 * w.toNat) v)) (e2 : S2 = fnF S1 21 (if (0 ≤ w ∧ w < S1 20 5) ∧ 0 ≤ v ∧ v ≤ 5 then -1 else 0) (up S1 20 (18 + 5 * w.toNat) v)) : anF (if (0 ≤ w ∧ w < S1 20 5) ∧ 0 ≤ v ∧ v ≤ 5 then -1 else 0) (S1 20 (18 + 5 * w.toNat)) = anF (if (0 ≤ w ∧ w < S 0 5) ∧ 0 ≤ v ∧ v ≤ 5 then -1 else 0) (S 0 (18 + 5 * w.toNat)) ∧ Rel S2 := by
  have q20 : S1 20 = S 0 := (fn_b e1 (by decide) (up_nb _ _ (by decide))).trans h.2.1
  try rw [q20] at e2
  try rw [q20]
  exact ⟨rfl, step h e1 e2 (fun hc k1 => by
    have hp := c1 hc
    exact rel_up h k1 (VR_k hp.2 (p5 h hp.1) h.1))⟩

theorem s_looks {S S1 S2 : St} {w : Int} (h : Rel S) (e1 : S1 = fnF S 3 (if ¬ (0 ≤ w ∧ w < S 0 5) then 0 else if S 0 4 = 0 then 4 else -1) (up S 0 (22 + 5 * w.toNat) (mnF 9999 (S 0 (22 + 5 * w.toNat) + 1)))) (e2 : S2 = fnF S1 21 (if ¬ (0 ≤ w ∧ w < S1 20 5) then 0 else if S1 20 4 = 0 then 4 else -1) (up S1 20 (22 + 5 * w.toNat) (mnF 9999 (S1 20 (22 + 5 * w.toNat) + 1)))) : anF (if ¬ (0 ≤ w ∧ w < S1 20 5) then 0 else if S1 20 4 = 0 then 4 else -1) (blP (S1 20) w.toNat 0 (S1 20 4)) = anF (if ¬ (0 ≤ w ∧ w < S 0 5) then 0 else if S 0 4 = 0 then 4 else -1) (blP (S 0) w.toNat 0 (S 0 4)) ∧ Rel S2 := by
  have q20 : S1 20 = S 0 := (fn_b e1 (by decide) (up_nb _ _ (by decide))).trans h.2.1
  try rw [q20] at e2
  try rw [q20]
  exact ⟨rfl, step h e1 e2 (fun hc k1 => by
    have hp := c2 (by decide) (by decide) hc
    have hr := (h.1.2.2 w.toNat (p5 h hp.1)).2.2.2.2
    exact rel_up h k1 (VR_r (by unfold mnF; split <;> omega) (p5 h hp.1) h.1))⟩

theorem s_scribe {S S1 S2 : St} {w v : Int} (h : Rel S) (e1 : S1 = fnF S 3 (if ¬ ((0 ≤ w ∧ w ≤ 5) ∧ 1 ≤ v ∧ v ≤ 99) then 0 else if 8 ≤ S 0 5 then 1 else if S 0 3 < csF w v then 4 else -1) (setB S 0 (apF (S 0) w v 0))) (e2 : S2 = fnF S1 21 (if ¬ ((0 ≤ w ∧ w ≤ 5) ∧ 1 ≤ v ∧ v ≤ 99) then 0 else if 8 ≤ S1 20 5 then 1 else if S1 20 3 < csF w v then 4 else -1) (setB S1 20 (apF (S1 20) w v 0))) : anF (if ¬ ((0 ≤ w ∧ w ≤ 5) ∧ 1 ≤ v ∧ v ≤ 99) then 0 else if 8 ≤ S1 20 5 then 1 else if S1 20 3 < csF w v then 4 else -1) (S1 20 5) = anF (if ¬ ((0 ≤ w ∧ w ≤ 5) ∧ 1 ≤ v ∧ v ≤ 99) then 0 else if 8 ≤ S 0 5 then 1 else if S 0 3 < csF w v then 4 else -1) (S 0 5) ∧ Rel S2 := by
  have q20 : S1 20 = S 0 := (fn_b e1 (by decide) (setB_ne _ _ (by decide))).trans h.2.1
  try rw [q20] at e2
  try rw [q20]
  exact ⟨rfl, step h e1 e2 (fun hc k1 => by
    have hp := c3 (by decide) (by decide) (by decide) hc
    exact rel_set h k1 (ap_VR h.1 (by omega) hp.1.1 (by omega) (by omega) (by decide)))⟩

theorem s_over {S S1 S2 : St} {w : Int} (h : Rel S) (e1 : S1 = fnF S 3 (if ¬ (0 ≤ w ∧ w < S 0 5) then 0 else if S 0 3 < csF (S 0 (18 + 5 * w.toNat)) (S 0 (19 + 5 * w.toNat)) then 4 else -1) (setB S 0 (spF (S 0) w.toNat))) (e2 : S2 = fnF S1 21 (if ¬ (0 ≤ w ∧ w < S1 20 5) then 0 else if S1 20 3 < csF (S1 20 (18 + 5 * w.toNat)) (S1 20 (19 + 5 * w.toNat)) then 4 else -1) (setB S1 20 (spF (S1 20) w.toNat))) : anF (if ¬ (0 ≤ w ∧ w < S1 20 5) then 0 else if S1 20 3 < csF (S1 20 (18 + 5 * w.toNat)) (S1 20 (19 + 5 * w.toNat)) then 4 else -1) (tkF (S1 20 (18 + 5 * w.toNat)) (dkF (S1 20) 0)) = anF (if ¬ (0 ≤ w ∧ w < S 0 5) then 0 else if S 0 3 < csF (S 0 (18 + 5 * w.toNat)) (S 0 (19 + 5 * w.toNat)) then 4 else -1) (tkF (S 0 (18 + 5 * w.toNat)) (dkF (S 0) 0)) ∧ Rel S2 := by
  have q20 : S1 20 = S 0 := (fn_b e1 (by decide) (setB_ne _ _ (by decide))).trans h.2.1
  try rw [q20] at e2
  try rw [q20]
  exact ⟨rfl, step h e1 e2 (fun hc k1 => by
    have hp := c2 (by decide) (by decide) hc
    exact rel_set h k1 (sp_VR h.1 (p5 h hp.1) (by omega)))⟩

theorem s_nights {S S1 S2 : St} {w : Int} (h : Rel S) (e1 : S1 = fnF S 3 (if ¬ (1 ≤ w ∧ w ≤ 100) then 0 else if 9999 < S 0 0 + w then 4 else -1) (setB S 0 (lgF (S 0) w.toNat))) (e2 : S2 = fnF S1 21 (if ¬ (1 ≤ w ∧ w ≤ 100) then 0 else if 9999 < S1 20 0 + w then 4 else -1) (setB S1 20 (lgF (S1 20) w.toNat))) : anF (if ¬ (1 ≤ w ∧ w ≤ 100) then 0 else if 9999 < S1 20 0 + w then 4 else -1) (iwF (S1 20) (S1 20 2 + S1 20 1 * sumF (dkF (S1 20)) w.toNat)) = anF (if ¬ (1 ≤ w ∧ w ≤ 100) then 0 else if 9999 < S 0 0 + w then 4 else -1) (iwF (S 0) (S 0 2 + S 0 1 * sumF (dkF (S 0)) w.toNat)) ∧ Rel S2 := by
  have q20 : S1 20 = S 0 := (fn_b e1 (by decide) (setB_ne _ _ (by decide))).trans h.2.1
  try rw [q20] at e2
  try rw [q20]
  exact ⟨rfl, step h e1 e2 (fun hc k1 => by
    have hp := c2 (by decide) (by decide) hc
    exact rel_set h k1 (ng_VR h.1 (by omega) (by omega)))⟩

theorem s_lays {S S1 S2 : St} {w : Int} (h : Rel S) (e1 : S1 = fnF S 3 (if ¬ (0 ≤ w ∧ w ≤ 3) then 0 else if S 6 w.toNat = 0 then 5 else -1) (setB S 0 (bkQ (S 0) (S (12 + w.toNat)) (min (S 0 5).toNat (S 7 w.toNat).toNat)))) (e2 : S2 = fnF S1 21 (if ¬ (0 ≤ w ∧ w ≤ 3) then 0 else if S1 26 w.toNat = 0 then 5 else -1) (setB S1 20 (bkQ (S1 20) (fun j => S1 30 (40 * w.toNat + j)) (min (S1 20 5).toNat (S1 27 w.toNat).toNat)))) : anF (if ¬ (0 ≤ w ∧ w ≤ 3) then 0 else if S1 26 w.toNat = 0 then 5 else -1) (sumF (fun j => bI (0 ≤ (fun j => S1 30 (40 * w.toNat + j)) j ∧ (fun j => S1 30 (40 * w.toNat + j)) j ≤ 99)) (min (S1 20 5).toNat (S1 27 w.toNat).toNat)) = anF (if ¬ (0 ≤ w ∧ w ≤ 3) then 0 else if S 6 w.toNat = 0 then 5 else -1) (sumF (fun j => bI (0 ≤ S (12 + w.toNat) j ∧ S (12 + w.toNat) j ≤ 99)) (min (S 0 5).toNat (S 7 w.toNat).toNat)) ∧ Rel S2 := by
  have q20 : S1 20 = S 0 := (fn_b e1 (by decide) (setB_ne _ _ (by decide))).trans h.2.1
  have q26 : S1 26 = S 6 := (fn_b e1 (by decide) (setB_ne _ _ (by decide))).trans h.2.2.2.2.2.2.2.1
  have q27 : S1 27 = S 7 := (fn_b e1 (by decide) (setB_ne _ _ (by decide))).trans h.2.2.2.2.2.2.2.2.1
  have q30 : S1 30 = S 30 := fn_b e1 (by decide) (setB_ne _ _ (by decide))
  try rw [q20] at e2
  try rw [q20]
  try rw [q26] at e2
  try rw [q26]
  try rw [q27] at e2
  try rw [q27]
  refine ⟨an_cg (fun hc => ?_), step h e1 e2 (fun hc k1 => ?_)⟩
  · have hp := c2 (by decide) (by decide) hc
    have h5 := h.1.1.2.2.2.2.2
    refine sum_cg _ (fun j hj => ?_)
    show bI (0 ≤ S1 30 (40 * w.toNat + j) ∧ S1 30 (40 * w.toNat + j) ≤ 99) = _
    rw [h.nu q30 (by omega) (by omega)]
  · have hp := c2 (by decide) (by decide) hc
    have h5 := h.1.1.2.2.2.2.2
    rw [bq_cg (N := S (12 + w.toNat)) (by omega) (fun j hj => h.nu q30 (by omega) hj)]
    exact rel_set h k1 (bq_VR h.1)

theorem s_read {S S1 S2 : St} {w v : Int} (h : Rel S) (e1 : S1 = fnF S 3 (if ¬ (0 ≤ w ∧ w ≤ 3) then 0 else if S 6 w.toNat = 0 then 5 else if ¬ (0 ≤ v ∧ v < S 0 5) then 0 else -1) (S)) (e2 : S2 = fnF S1 21 (if ¬ (0 ≤ w ∧ w ≤ 3) then 0 else if S1 26 w.toNat = 0 then 5 else if ¬ (0 ≤ v ∧ v < S1 20 5) then 0 else -1) (setB S1 23 (S1 20))) : anF (if ¬ (0 ≤ w ∧ w ≤ 3) then 0 else if S1 26 w.toNat = 0 then 5 else if ¬ (0 ≤ v ∧ v < S1 20 5) then 0 else -1) (sumF (fun q => sumF (fun r => bI (tlP ((fun j => S1 30 (40 * w.toNat + j))) (S1 27 w.toNat).toNat (r : Int) (fdF (q : Int) (S1 20 (21 + 5 * v.toNat)) (S1 20 (22 + 5 * v.toNat))))) 100) 6) = anF (if ¬ (0 ≤ w ∧ w ≤ 3) then 0 else if S 6 w.toNat = 0 then 5 else if ¬ (0 ≤ v ∧ v < S 0 5) then 0 else -1) (sumF (fun q => sumF (fun r => bI (tlP (S (12 + w.toNat)) (S 7 w.toNat).toNat (r : Int) (fdF (q : Int) (S 0 (21 + 5 * v.toNat)) (S 0 (22 + 5 * v.toNat))))) 100) 6) ∧ Rel S2 := by
  have q20 : S1 20 = S 0 := (fn_b e1 (by decide) rfl).trans h.2.1
  have q26 : S1 26 = S 6 := (fn_b e1 (by decide) rfl).trans h.2.2.2.2.2.2.2.1
  have q27 : S1 27 = S 7 := (fn_b e1 (by decide) rfl).trans h.2.2.2.2.2.2.2.2.1
  have q30 : S1 30 = S 30 := fn_b e1 (by decide) rfl
  try rw [q20] at e2
  try rw [q20]
  try rw [q26] at e2
  try rw [q26]
  try rw [q27] at e2
  try rw [q27]
  refine ⟨an_cg (fun hc => ?_), step h e1 e2 (fun hc k1 => rel_8 h (fun b _ _ z3 => by rw [setB_ne _ _ z3, k1]))⟩
  have hp := c3 (by decide) (by decide) (by decide) hc
  have hl := (h.sh w.toNat (by omega)).2.1
  refine sum_cg _ (fun a1 _ => sum_cg _ (fun b1 _ => bI_iff ?_))
  constructor
  · intro z j hj; rw [← z j hj]; exact (h.nu q30 (by omega) (by omega)).symm
  · intro z j hj; rw [← z j hj]; exact h.nu q30 (by omega) (by omega)

theorem s_book {S S1 S2 : St} {w v : Int} (h : Rel S) (e1 : S1 = fnF S 3 (if ¬ (0 ≤ w ∧ w ≤ 3) then 0 else if S 6 w.toNat = 0 then 5 else if ¬ (0 ≤ v ∧ v < S 0 5) then 0 else -1) (setB S (12 + w.toNat) (bokF (S 0) (S (12 + w.toNat)) v.toNat (S 7 w.toNat).toNat))) (e2 : S2 = fnF S1 21 (if ¬ (0 ≤ w ∧ w ≤ 3) then 0 else if S1 26 w.toNat = 0 then 5 else if ¬ (0 ≤ v ∧ v < S1 20 5) then 0 else -1) (setB (setB S1 22 (S1 20)) 30 (sgF (S1 30) (fun i => bkP (S1 20) v.toNat (i : Int)) (40 * w.toNat) ((S1 27 w.toNat).toNat)))) : anF (if ¬ (0 ≤ w ∧ w ≤ 3) then 0 else if S1 26 w.toNat = 0 then 5 else if ¬ (0 ≤ v ∧ v < S1 20 5) then 0 else -1) (S1 27 w.toNat) = anF (if ¬ (0 ≤ w ∧ w ≤ 3) then 0 else if S 6 w.toNat = 0 then 5 else if ¬ (0 ≤ v ∧ v < S 0 5) then 0 else -1) (S 7 w.toNat) ∧ Rel S2 := by
  have q20 : S1 20 = S 0 := (fn_b2 e1 (by decide) (fun hc => by have hp := c3 (by decide) (by decide) (by decide) hc; exact (setB_ne _ _ (by omega)))).trans h.2.1
  have q26 : S1 26 = S 6 := (fn_b2 e1 (by decide) (fun hc => by have hp := c3 (by decide) (by decide) (by decide) hc; exact (setB_ne _ _ (by omega)))).trans h.2.2.2.2.2.2.2.1
  have q27 : S1 27 = S 7 := (fn_b2 e1 (by decide) (fun hc => by have hp := c3 (by decide) (by decide) (by decide) hc; exact (setB_ne _ _ (by omega)))).trans h.2.2.2.2.2.2.2.2.1
  have q30 : S1 30 = S 30 := fn_b2 e1 (by decide) (fun hc => by have hp := c3 (by decide) (by decide) (by decide) hc; exact (setB_ne _ _ (by omega)))
  try rw [q20] at e2
  try rw [q20]
  try rw [q26] at e2
  try rw [q26]
  try rw [q27] at e2
  try rw [q27]
  refine ⟨rfl, step h e1 e2 (fun hc k1 => ?_)⟩
  have hp := c3 (by decide) (by decide) (by decide) hc
  have ht : w.toNat < 4 := by omega
  have hs := h.sh w.toNat ht
  have hl := hs.2.1
  have hvp := h.1.2.2 v.toNat (p5 h (by omega))
  have hob : ∀ b, b ≠ 12 + w.toNat → S1 b = S b := fun b z => by rw [k1, setB_ne _ _ z]
  refine rel_sh ht (bt := S 6 w.toNat) (ln := S 7 w.toNat) (N := bokF (S 0) (S (12 + w.toNat)) v.toNat (S 7 w.toNat).toNat) h hs.1 hs.2.1 (fun j hj => ?_) ?_ ?_ ?_ ?_ ?_ (fun t2 h2 hne => ?_) (fun j hj => ?_) (fun qq hq => ?_) (fun b z1 z2 z3 z4 z5 z6 z7 z8 => ?_)
  · unfold bokF
    split
    · have hb := bk_rg hvp (n := (j : Int)) (by omega)
      omega
    · exact hs.2.2 j hj
  · rw [up_idR, setB_ne _ _ (by decide), setB_ne _ _ (by decide), hob 6 (by omega)]
  · rw [up_idR, setB_ne _ _ (by decide), setB_ne _ _ (by decide), q26]
  · rw [up_idR, setB_ne _ _ (by decide), setB_ne _ _ (by decide), hob 7 (by omega)]
  · rw [up_idR, setB_ne _ _ (by decide), setB_ne _ _ (by decide), q27]
  · rw [setB_ne _ _ (by omega), setB_ne _ _ (by omega), k1, setB_at]
  · rw [setB_ne _ _ (by omega), setB_ne _ _ (by omega), hob _ (by omega)]
  · rw [setB_at, q30]
    unfold sgF bokF
    by_cases hj2 : j < (S 7 w.toNat).toNat
    · rw [if_pos (by omega), if_pos hj2, show 40 * w.toNat + j - 40 * w.toNat = j by omega]
    · rw [if_neg (by omega), if_neg hj2]; exact h.nu rfl ht hj
  · rw [setB_at, q30]
    unfold sgF
    rw [if_neg (by omega)]
  · rw [setB_ne _ _ z7, setB_ne _ _ z4, hob b z3]

theorem s_write {S S1 S2 : St} {w v x : Int} (h : Rel S) (hx : -9223372036854775808 ≤ x ∧ x ≤ 9223372036854775807) (e1 : S1 = fnF S 3 (if ¬ (0 ≤ w ∧ w ≤ 3) then 0 else if S 6 w.toNat = 0 then 5 else if ¬ (0 ≤ v ∧ v ≤ S 7 w.toNat - 1) then 0 else -1) (up S (12 + w.toNat) v.toNat (lbF (S 6 w.toNat) x))) (e2 : S2 = fnF S1 21 (if ¬ (0 ≤ w ∧ w ≤ 3) then 0 else if S1 26 w.toNat = 0 then 5 else if ¬ (0 ≤ v ∧ v ≤ S1 27 w.toNat - 1) then 0 else -1) (up S1 30 (40 * w.toNat + v.toNat) (lbF (S1 26 w.toNat) x))) : anF (if ¬ (0 ≤ w ∧ w ≤ 3) then 0 else if S1 26 w.toNat = 0 then 5 else if ¬ (0 ≤ v ∧ v ≤ S1 27 w.toNat - 1) then 0 else -1) ((fun j => S1 30 (40 * w.toNat + j)) v.toNat) = anF (if ¬ (0 ≤ w ∧ w ≤ 3) then 0 else if S 6 w.toNat = 0 then 5 else if ¬ (0 ≤ v ∧ v ≤ S 7 w.toNat - 1) then 0 else -1) (S (12 + w.toNat) v.toNat) ∧ Rel S2 := by
  have q20 : S1 20 = S 0 := (fn_b2 e1 (by decide) (fun hc => by have hp := c3 (by decide) (by decide) (by decide) hc; exact (up_nb _ _ (by omega)))).trans h.2.1
  have q26 : S1 26 = S 6 := (fn_b2 e1 (by decide) (fun hc => by have hp := c3 (by decide) (by decide) (by decide) hc; exact (up_nb _ _ (by omega)))).trans h.2.2.2.2.2.2.2.1
  have q27 : S1 27 = S 7 := (fn_b2 e1 (by decide) (fun hc => by have hp := c3 (by decide) (by decide) (by decide) hc; exact (up_nb _ _ (by omega)))).trans h.2.2.2.2.2.2.2.2.1
  have q30 : S1 30 = S 30 := fn_b2 e1 (by decide) (fun hc => by have hp := c3 (by decide) (by decide) (by decide) hc; exact (up_nb _ _ (by omega)))
  try rw [q26] at e2
  try rw [q26]
  try rw [q27] at e2
  try rw [q27]
  refine ⟨an_cg (fun hc => ?_), step h e1 e2 (fun hc k1 => ?_)⟩
  · have hp := c3 (by decide) (by decide) (by decide) hc
    have hl := (h.sh w.toNat (by omega)).2.1
    exact h.nu q30 (by omega) (by omega)
  · have hp := c3 (by decide) (by decide) (by decide) hc
    have ht : w.toNat < 4 := by omega
    have hs := h.sh w.toNat ht
    have hl := hs.2.1
    have hob : ∀ b, b ≠ 12 + w.toNat → S1 b = S b := fun b z => by rw [k1, up_nb _ _ z]
    refine rel_sh ht (bt := S 6 w.toNat) (ln := S 7 w.toNat) (N := upR (S (12 + w.toNat)) v.toNat (lbF (S 6 w.toNat) x)) h hs.1 hs.2.1 (fun j hj => ?_) ?_ ?_ ?_ ?_ ?_ (fun t2 h2 hne => ?_) (fun j hj => ?_) (fun qq hq => ?_) (fun b z1 z2 z3 z4 z5 z6 z7 z8 => ?_)
    · unfold upR
      split
      · exact lb_rg hx
      · exact hs.2.2 j hj
    · rw [up_idR, up_nb _ _ (by decide), hob 6 (by omega)]
    · rw [up_idR, up_nb _ _ (by decide), q26]
    · rw [up_idR, up_nb _ _ (by decide), hob 7 (by omega)]
    · rw [up_idR, up_nb _ _ (by decide), q27]
    · rw [up_nb _ _ (by omega), k1, up_b]
    · rw [up_nb _ _ (by omega), hob _ (by omega)]
    · rw [up_b, q30]
      unfold upR
      by_cases hj2 : j = v.toNat
      · rw [if_pos (by omega), if_pos hj2]
      · rw [if_neg (by omega), if_neg hj2]; exact h.nu rfl ht hj
    · rw [up_b, q30, upR_ne _ _ (by omega)]
    · rw [up_nb _ _ z7, hob b z3]

theorem s_sheet {S S1 S2 : St} {w v u : Int} (h : Rel S) (e1 : S1 = fnF S 3 (if ¬ ((0 ≤ w ∧ w ≤ 3) ∧ (v = 0 ∨ v = 8 ∨ v = 16 ∨ v = 64)) then 0 else if u < 0 then 6 else if 40 < u then 0 else -1) (setB (up (up S 6 w.toNat v) 7 w.toNat (if v = 0 then 0 else u)) (12 + w.toNat) (flF 0 (S (12 + w.toNat)) 40))) (e2 : S2 = fnF S1 21 (if ¬ ((0 ≤ w ∧ w ≤ 3) ∧ (v = 0 ∨ v = 8 ∨ v = 16 ∨ v = 64)) then 0 else if u < 0 then 6 else if 40 < u then 0 else -1) (setB (up (up S1 26 w.toNat v) 27 w.toNat (if v = 0 then 0 else u)) 30 (sgF (S1 30) (fun _ => 0) (40 * w.toNat) (40)))) : anF (if ¬ ((0 ≤ w ∧ w ≤ 3) ∧ (v = 0 ∨ v = 8 ∨ v = 16 ∨ v = 64)) then 0 else if u < 0 then 6 else if 40 < u then 0 else -1) (if v = 0 then 0 else u) = anF (if ¬ ((0 ≤ w ∧ w ≤ 3) ∧ (v = 0 ∨ v = 8 ∨ v = 16 ∨ v = 64)) then 0 else if u < 0 then 6 else if 40 < u then 0 else -1) (if v = 0 then 0 else u) ∧ Rel S2 := by
  have q20 : S1 20 = S 0 := (fn_b2 e1 (by decide) (fun hc => by have hp := c3 (by decide) (by decide) (by decide) hc; exact (by rw [setB_ne _ _ (by omega), up_nb _ _ (by omega), up_nb _ _ (by omega)]))).trans h.2.1
  have q26 : S1 26 = S 6 := (fn_b2 e1 (by decide) (fun hc => by have hp := c3 (by decide) (by decide) (by decide) hc; exact (by rw [setB_ne _ _ (by omega), up_nb _ _ (by omega), up_nb _ _ (by omega)]))).trans h.2.2.2.2.2.2.2.1
  have q27 : S1 27 = S 7 := (fn_b2 e1 (by decide) (fun hc => by have hp := c3 (by decide) (by decide) (by decide) hc; exact (by rw [setB_ne _ _ (by omega), up_nb _ _ (by omega), up_nb _ _ (by omega)]))).trans h.2.2.2.2.2.2.2.2.1
  have q30 : S1 30 = S 30 := fn_b2 e1 (by decide) (fun hc => by have hp := c3 (by decide) (by decide) (by decide) hc; exact (by rw [setB_ne _ _ (by omega), up_nb _ _ (by omega), up_nb _ _ (by omega)]))
  refine ⟨rfl, step h e1 e2 (fun hc k1 => ?_)⟩
  have hp := c3 (by decide) (by decide) (by decide) hc
  have ht : w.toNat < 4 := by omega
  have hob : ∀ b, b ≠ 6 → b ≠ 7 → b ≠ 12 + w.toNat → S1 b = S b := fun b y1 y2 y3 => by rw [k1, setB_ne _ _ y3, up_nb _ _ y2, up_nb _ _ y1]
  refine rel_sh ht (bt := v) (ln := if v = 0 then 0 else u) (N := flF 0 (S (12 + w.toNat)) 40) h hp.1.2 (by split <;> omega) (fun j hj => ?_) ?_ ?_ ?_ ?_ ?_ (fun t2 h2 hne => ?_) (fun j hj => ?_) (fun qq hq => ?_) (fun b z1 z2 z3 z4 z5 z6 z7 z8 => ?_)
  · unfold flF
    rw [if_pos hj]
    decide
  · rw [setB_ne _ _ (by decide), up_nb _ _ (by decide), up_nb _ _ (by decide), k1, setB_ne _ _ (by omega), up_nb _ _ (by decide), up_b]
  · rw [setB_ne _ _ (by decide), up_nb _ _ (by decide), up_b, q26]
  · rw [setB_ne _ _ (by decide), up_nb _ _ (by decide), up_nb _ _ (by decide), k1, setB_ne _ _ (by omega), up_b, up_nb _ _ (by decide)]
  · rw [setB_ne _ _ (by decide), up_b, up_nb _ _ (by decide), q27]
  · rw [setB_ne _ _ (by omega), up_nb _ _ (by omega), up_nb _ _ (by omega), k1, setB_at]
  · rw [setB_ne _ _ (by omega), up_nb _ _ (by omega), up_nb _ _ (by omega), hob _ (by omega) (by omega) (by omega)]
  · rw [setB_at]
    unfold sgF flF
    rw [if_pos (by omega), if_pos hj]
  · rw [setB_at, q30]
    unfold sgF
    rw [if_neg (by omega)]
  · rw [setB_ne _ _ z7, up_nb _ _ z6, up_nb _ _ z5, hob b z1 z2 z3]

theorem c4 {p q r s : Prop} [Decidable p] [Decidable q] [Decidable r] [Decidable s] {x y z k : Int} (hx : 0 ≤ x) (hy : 0 ≤ y) (hz : 0 ≤ z) (hk : 0 ≤ k) (h : (if ¬ p then x else if q then y else if r then z else if ¬ s then k else (-1 : Int)) < 0) : p ∧ ¬ q ∧ ¬ r ∧ s := by
  by_cases hp : p
  · rw [if_neg (fun z : ¬ p => z hp)] at h
    by_cases hq : q
    · rw [if_pos hq] at h; omega
    · rw [if_neg hq] at h
      by_cases hr : r
      · rw [if_pos hr] at h; omega
      · rw [if_neg hr] at h
        by_cases hs : s
        · exact ⟨hp, hq, hr, hs⟩
        · rw [if_pos hs] at h; omega
  · rw [if_pos hp] at h; omega

theorem s_copy {S S1 S2 : St} {w f v g n : Int} (h : Rel S) (e1 : S1 = fnF S 3 (if ¬ ((0 ≤ w ∧ w ≤ 3) ∧ 0 ≤ v ∧ v ≤ 3) then 0 else if S 6 w.toNat = 0 ∨ S 6 v.toNat = 0 then 5 else if S 6 w.toNat ≠ S 6 v.toNat then 2 else if ¬ ((0 ≤ f ∧ 0 ≤ n ∧ f ≤ S 7 w.toNat - n) ∧ 0 ≤ g ∧ 0 ≤ n ∧ g ≤ S 7 v.toNat - n) then 0 else -1) (setB S (12 + v.toNat) (fun j => if g.toNat ≤ j ∧ j < g.toNat + n.toNat then S (12 + w.toNat) (f.toNat + (j - g.toNat)) else S (12 + v.toNat) j))) (e2 : S2 = fnF S1 21 (if ¬ ((0 ≤ w ∧ w ≤ 3) ∧ 0 ≤ v ∧ v ≤ 3) then 0 else if S1 26 w.toNat = 0 ∨ S1 26 v.toNat = 0 then 5 else if S1 26 w.toNat ≠ S1 26 v.toNat then 2 else if ¬ ((0 ≤ f ∧ 0 ≤ n ∧ f ≤ S1 27 w.toNat - n) ∧ 0 ≤ g ∧ 0 ≤ n ∧ g ≤ S1 27 v.toNat - n) then 0 else -1) (setB (setB S1 31 (sgF (S1 31) (fun i => S1 30 (40 * w.toNat + f.toNat + i)) 0 (n.toNat))) 30 (sgF (S1 30) (fun i => S1 30 (40 * w.toNat + f.toNat + i)) (40 * v.toNat + g.toNat) (n.toNat)))) : anF (if ¬ ((0 ≤ w ∧ w ≤ 3) ∧ 0 ≤ v ∧ v ≤ 3) then 0 else if S1 26 w.toNat = 0 ∨ S1 26 v.toNat = 0 then 5 else if S1 26 w.toNat ≠ S1 26 v.toNat then 2 else if ¬ ((0 ≤ f ∧ 0 ≤ n ∧ f ≤ S1 27 w.toNat - n) ∧ 0 ≤ g ∧ 0 ≤ n ∧ g ≤ S1 27 v.toNat - n) then 0 else -1) (n) = anF (if ¬ ((0 ≤ w ∧ w ≤ 3) ∧ 0 ≤ v ∧ v ≤ 3) then 0 else if S 6 w.toNat = 0 ∨ S 6 v.toNat = 0 then 5 else if S 6 w.toNat ≠ S 6 v.toNat then 2 else if ¬ ((0 ≤ f ∧ 0 ≤ n ∧ f ≤ S 7 w.toNat - n) ∧ 0 ≤ g ∧ 0 ≤ n ∧ g ≤ S 7 v.toNat - n) then 0 else -1) (n) ∧ Rel S2 := by
  have q20 : S1 20 = S 0 := (fn_b2 e1 (by decide) (fun hc => by have hp := c4 (by decide) (by decide) (by decide) (by decide) hc; exact (setB_ne _ _ (by omega)))).trans h.2.1
  have q26 : S1 26 = S 6 := (fn_b2 e1 (by decide) (fun hc => by have hp := c4 (by decide) (by decide) (by decide) (by decide) hc; exact (setB_ne _ _ (by omega)))).trans h.2.2.2.2.2.2.2.1
  have q27 : S1 27 = S 7 := (fn_b2 e1 (by decide) (fun hc => by have hp := c4 (by decide) (by decide) (by decide) (by decide) hc; exact (setB_ne _ _ (by omega)))).trans h.2.2.2.2.2.2.2.2.1
  have q30 : S1 30 = S 30 := fn_b2 e1 (by decide) (fun hc => by have hp := c4 (by decide) (by decide) (by decide) (by decide) hc; exact (setB_ne _ _ (by omega)))
  try rw [q26] at e2
  try rw [q26]
  try rw [q27] at e2
  try rw [q27]
  refine ⟨rfl, step h e1 e2 (fun hc k1 => ?_)⟩
  have hp := c4 (by decide) (by decide) (by decide) (by decide) hc
  have ht : v.toNat < 4 := by omega
  have htw : w.toNat < 4 := by omega
  have hs := h.sh v.toNat ht
  have hsw := h.sh w.toNat htw
  have hl := hs.2.1
  have hlw := hsw.2.1
  have hob : ∀ b, b ≠ 12 + v.toNat → S1 b = S b := fun b z => by rw [k1, setB_ne _ _ z]
  refine rel_sh ht (bt := S 6 v.toNat) (ln := S 7 v.toNat) (N := (fun j => if g.toNat ≤ j ∧ j < g.toNat + n.toNat then S (12 + w.toNat) (f.toNat + (j - g.toNat)) else S (12 + v.toNat) j)) h hs.1 hs.2.1 (fun j hj => ?_) ?_ ?_ ?_ ?_ ?_ (fun t2 h2 hne => ?_) (fun j hj => ?_) (fun qq hq => ?_) (fun b z1 z2 z3 z4 z5 z6 z7 z8 => ?_)
  · show _ ≤ (if _ then _ else _) ∧ (if _ then _ else _) ≤ _
    split
    · exact hsw.2.2 _ (by omega)
    · exact hs.2.2 j hj
  · rw [up_idR, setB_ne _ _ (by decide), setB_ne _ _ (by decide), hob 6 (by omega)]
  · rw [up_idR, setB_ne _ _ (by decide), setB_ne _ _ (by decide), q26]
  · rw [up_idR, setB_ne _ _ (by decide), setB_ne _ _ (by decide), hob 7 (by omega)]
  · rw [up_idR, setB_ne _ _ (by decide), setB_ne _ _ (by decide), q27]
  · rw [setB_ne _ _ (by omega), setB_ne _ _ (by omega), k1, setB_at]
  · rw [setB_ne _ _ (by omega), setB_ne _ _ (by omega), hob _ (by omega)]
  · rw [setB_at, q30]
    unfold sgF
    by_cases hj2 : g.toNat ≤ j ∧ j < g.toNat + n.toNat
    · rw [if_pos (by omega)]
      show S 30 (40 * w.toNat + f.toNat + (40 * v.toNat + j - (40 * v.toNat + g.toNat))) = if _ then _ else _
      rw [if_pos hj2, show 40 * w.toNat + f.toNat + (40 * v.toNat + j - (40 * v.toNat + g.toNat)) = 40 * w.toNat + (f.toNat + (j - g.toNat)) by omega]
      exact h.nu rfl htw (by omega)
    · rw [if_neg (by omega)]
      show _ = if _ then _ else _
      rw [if_neg hj2]; exact h.nu rfl ht hj
  · rw [setB_at, q30]
    unfold sgF
    rw [if_neg (by omega)]
  · rw [setB_ne _ _ z7, setB_ne _ _ z8, hob b z3]

theorem rel_im {S S' : St} {K : Nat → Int} {x : Int} (h : Rel S) (hx : x = 0 ∨ x = 1) (hV : x = 1 → VR 9999 K) (h1 : S' 1 = K) (h28 : x = 1 → S' 28 = K) (h11 : S' 11 0 = x) (h256 : S' 25 6 = x) (h250 : S' 25 0 = S 25 0) (ho : ∀ b, b ≠ 1 → b ≠ 11 → b ≠ 25 → b ≠ 28 → S' b = S b) : Rel S' := by
  obtain ⟨r1, r2, r3, r4, r5, r6, r7, r8, r9, r10, r11, r12, r13⟩ := h
  have e : ∀ b, b ≠ 1 ∧ b ≠ 11 ∧ b ≠ 25 ∧ b ≠ 28 → S' b = S b := fun b z => ho b z.1 z.2.1 z.2.2.1 z.2.2.2
  refine ⟨?_, ?_, ?_, ?_, ?_, ?_, ?_, ?_, ?_, ?_, by rw [h256, h11], by rw [h11]; exact hx, ?_⟩
  · rw [e 0 (by decide)]; exact r1
  · rw [e 20 (by decide), e 0 (by decide)]; exact r2
  · rw [e 21 (by decide), e 3 (by decide)]; exact r3
  · rw [e 24 (by decide), e 4 (by decide)]; exact r4
  · rw [h250, e 5 (by decide)]; exact r5
  · rw [e 5 (by decide)]; exact r6
  · rw [e 4 (by decide)]; exact r7
  · rw [e 26 (by decide), e 6 (by decide)]; exact r8
  · rw [e 27 (by decide), e 7 (by decide)]; exact r9
  · intro t ht
    rw [e 6 (by decide), e 7 (by decide), e 30 (by decide), e (12 + t) (by omega)]; exact r10 t ht
  · rw [h11]
    intro hx1
    rw [h28 hx1, h1]
    exact ⟨rfl, hV hx1⟩

theorem s_image {S S1 S2 : St} (h : Rel S) (e1 : S1 = fnF S 3 (-1) (up (setB S 1 (S 0)) 11 0 1)) (e2 : S2 = fnF S1 21 (-1) (up (setB S1 28 (S1 20)) 25 6 1)) : anF (-1) (1) = anF (-1) (1) ∧ Rel S2 := by
  have q20 : S1 20 = S 0 := (fn_b e1 (by decide) (by rw [up_nb _ _ (by decide), setB_ne _ _ (by decide)])).trans h.2.1
  rw [q20] at e2
  refine ⟨rfl, step h e1 e2 (fun hc k1 => ?_)⟩
  refine rel_im (K := S 0) (x := 1) h (Or.inr rfl) (fun _ => h.1) ?_ (fun _ => ?_) ?_ (up_at _ _ _ _) ?_ (fun b z1 z2 z3 z4 => ?_)
  · rw [up_nb _ _ (by decide), setB_ne _ _ (by decide), k1, up_nb _ _ (by decide), setB_at]
  · rw [up_nb _ _ (by decide), setB_at]
  · rw [up_nb _ _ (by decide), setB_ne _ _ (by decide), k1, up_at]
  · rw [up_nj _ _ (by decide), setB_ne _ _ (by decide), k1, up_nb _ _ (by decide), setB_ne _ _ (by decide)]
  · rw [up_nb _ _ z3, setB_ne _ _ z4, k1, up_nb _ _ z2, setB_ne _ _ z1]

theorem s_tear {S S1 S2 : St} (h : Rel S) (e1 : S1 = fnF S 3 (-1) (up S 11 0 0)) (e2 : S2 = fnF S1 21 (-1) (up S1 25 6 0)) : anF (-1) (S1 25 6) = anF (-1) (S 11 0) ∧ Rel S2 := by
  have q25 : S1 25 = S 25 := fn_b e1 (by decide) (up_nb _ _ (by decide))
  refine ⟨by rw [q25, h.2.2.2.2.2.2.2.2.2.2.1], step h e1 e2 (fun hc k1 => ?_)⟩
  refine rel_im (K := S 1) (x := 0) h (Or.inl rfl) (fun z => absurd z (by decide)) ?_ (fun z => absurd z (by decide)) ?_ (up_at _ _ _ _) ?_ (fun b z1 z2 z3 z4 => ?_)
  · rw [up_nb _ _ (by decide), k1, up_nb _ _ (by decide)]
  · rw [up_nb _ _ (by decide), k1, up_at]
  · rw [up_nj _ _ (by decide), q25]
  · rw [up_nb _ _ z3, k1, up_nb _ _ z2]

theorem s_undo {S S1 S2 : St} (h : Rel S) (e1 : S1 = fnF S 3 (if S 11 0 = 0 then 3 else -1) (setB S 0 (S 1))) (e2 : S2 = fnF S1 21 (if S1 25 6 = 0 then 3 else -1) (setB S1 20 (S1 28))) : anF (if S1 25 6 = 0 then 3 else -1) (S1 28 5) = anF (if S 11 0 = 0 then 3 else -1) (S 1 5) ∧ Rel S2 := by
  have q25 : S1 25 = S 25 := fn_b e1 (by decide) (setB_ne _ _ (by decide))
  have q28 : S1 28 = S 28 := fn_b e1 (by decide) (setB_ne _ _ (by decide))
  rw [q25, q28, h.2.2.2.2.2.2.2.2.2.2.1] at e2 ⊢
  have hk : (if S 11 0 = 0 then (3 : Int) else -1) < 0 → S 28 = S 1 ∧ VR 9999 (S 1) := fun hc => by
    refine h.2.2.2.2.2.2.2.2.2.2.2.2 ?_
    rcases h.2.2.2.2.2.2.2.2.2.2.2.1 with z | z
    · rw [if_pos z] at hc; exact absurd hc (by decide)
    · exact z
  refine ⟨an_cg (fun hc => by rw [(hk hc).1]), step h e1 e2 (fun hc k1 => ?_)⟩
  rw [(hk hc).1]
  exact rel_set h k1 (hk hc).2

theorem s_wipe {S S1 S2 : St} (h : Rel S) (e1 : S1 = up S 5 0 0) (e2 : S2 = up S1 25 0 0) : S1 25 0 = S 5 0 ∧ Rel S2 := by
  have q25 : S1 25 = S 25 := by rw [e1, up_nb _ _ (by decide)]
  refine ⟨by rw [q25]; exact h.2.2.2.2.1, ?_⟩
  subst e2
  exact rel_tp (T := S 4) (n := 0) (R := S 0) h (by decide) h.2.2.2.2.2.2.1 h.1 (by rw [up_nb _ _ (by decide), e1, up_nb _ _ (by decide)]) (by rw [up_nb _ _ (by decide), e1, up_nb _ _ (by decide)]; exact h.2.1) (by rw [up_nb _ _ (by decide), e1, up_nb _ _ (by decide)]) (by rw [up_nb _ _ (by decide), e1, up_nb _ _ (by decide)]; exact h.2.2.2.1) (by rw [up_nb _ _ (by decide), e1, up_at]) (up_at _ _ _ _) (by rw [up_nj _ _ (by decide), q25]) (fun b z1 z2 z3 z4 z5 z6 z7 z8 z9 => by rw [up_nb _ _ z7, e1, up_nb _ _ z4])

theorem s_feed {S S1 S2 : St} {w v : Int} (h : Rel S) (e1 : S1 = fnF S 3 (if ¬ (1 ≤ v ∧ v ≤ 4) then 0 else if 120 < S 5 0 + v then 1 else -1) (up (setB S 4 (sgF (S 4) (fun z => byF w (8 * (v - 1 - (z : Int)))) (S 5 0).toNat (v.toNat))) 5 0 (S 5 0 + v))) (e2 : S2 = fnF S1 21 (if ¬ (1 ≤ v ∧ v ≤ 4) then 0 else if 120 < S1 25 0 + v then 1 else -1) (up (setB S1 24 (sgF (S1 24) (fun z => byF w (8 * (v - 1 - (z : Int)))) (S1 25 0).toNat (v.toNat))) 25 0 (S1 25 0 + v))) : anF (if ¬ (1 ≤ v ∧ v ≤ 4) then 0 else if 120 < S1 25 0 + v then 1 else -1) (S1 25 0 + v) = anF (if ¬ (1 ≤ v ∧ v ≤ 4) then 0 else if 120 < S 5 0 + v then 1 else -1) (S 5 0 + v) ∧ Rel S2 := by
  have q24 : S1 24 = S 4 := (fn_b e1 (by decide) (by rw [up_nb _ _ (by decide), setB_ne _ _ (by decide)])).trans h.2.2.2.1
  have q25 : S1 25 = S 25 := fn_b e1 (by decide) (by rw [up_nb _ _ (by decide), setB_ne _ _ (by decide)])
  have q0 : S1 25 0 = S 5 0 := (congrFun q25 0).trans h.2.2.2.2.1
  rw [q24, q0] at e2
  rw [q0]
  refine ⟨rfl, step h e1 e2 (fun hc k1 => ?_)⟩
  have hp := c2 (by decide) (by decide) hc
  have h5 := h.2.2.2.2.2.1
  refine rel_tp (T := (sgF (S 4) (fun z => byF w (8 * (v - 1 - (z : Int)))) (S 5 0).toNat (v.toNat))) (n := S 5 0 + v) (R := S 0) h (by omega) (fun j hj => ?_) h.1 ?_ ?_ ?_ ?_ ?_ (up_at _ _ _ _) ?_ (fun b z1 z2 z3 z4 z5 z6 z7 z8 z9 => ?_)
  · unfold sgF
    split
    · exact by_rg _ _
    · exact h.2.2.2.2.2.2.1 j hj
  · rw [up_nb _ _ (by decide), setB_ne _ _ (by decide), k1, up_nb _ _ (by decide), setB_ne _ _ (by decide)]
  · rw [up_nb _ _ (by decide), setB_ne _ _ (by decide), k1, up_nb _ _ (by decide), setB_ne _ _ (by decide)]; exact h.2.1
  · rw [up_nb _ _ (by decide), setB_ne _ _ (by decide), k1, up_nb _ _ (by decide), setB_at]
  · rw [up_nb _ _ (by decide), setB_at]
  · rw [up_nb _ _ (by decide), setB_ne _ _ (by decide), k1, up_at]
  · rw [up_nj _ _ (by decide), setB_ne _ _ (by decide), q25]
  · rw [up_nb _ _ z7, setB_ne _ _ z6, k1, up_nb _ _ z4, setB_ne _ _ z3]

theorem wn_6 {T A : Nat → Int} {lo hi : Int} : wnA T A lo hi 6 = A 6 := by
  unfold wnA
  split <;> rfl
theorem wo_6 {T A R : Nat → Int} {q : Int} : woA T A R q 6 = A 6 := by
  have h1 : o2A T A R q 6 = A 6 := wn_6
  unfold woA
  split
  · split
    · exact h1
    · exact h1
  · rfl
theorem md_6 {T A : Nat → Int} : mdA T A 6 = A 6 := by
  have h1 : mdB T A 6 = A 6 := wn_6
  unfold mdA
  split
  · rw [wn_6]; exact h1
  · exact h1
theorem mi_6 {T A R : Nat → Int} {w : Int} : miA T A R w 6 = A 6 := by
  unfold miA
  (repeat' split) <;> first | exact wo_6 | exact wn_6 | exact md_6 | rfl
theorem ml_6 {T : Nat → Int} : ∀ (n : Nat) (A R : Nat → Int) (w i : Int), (mlF T n A w R i).2.1 6 = A 6
  | 0, A, R, w, i => rfl
  | n + 1, A, R, w, i => by
    have h1 : miA T (adF T A) R (adW T A) 6 = A 6 := mi_6
    rw [ml_s]
    split
    · rw [ml_6 n]; exact h1
    · exact h1

theorem s_text {S S1 S2 : St} (h : Rel S) (e1 : S1 = up (if 0 ≤ (tlF (S 4) 120 (tnF (S 4) (upR (S 5) 3 0)) (S 0) 1).1 then setB (setB (setB (setB S 2 (S 0)) 5 ((tlF (S 4) 120 (tnF (S 4) (upR (S 5) 3 0)) (S 0) 1).2.1)) 2 ((tlF (S 4) 120 (tnF (S 4) (upR (S 5) 3 0)) (S 0) 1).2.2)) 0 ((setB (setB (setB S 2 (S 0)) 5 ((tlF (S 4) 120 (tnF (S 4) (upR (S 5) 3 0)) (S 0) 1).2.1)) 2 ((tlF (S 4) 120 (tnF (S 4) (upR (S 5) 3 0)) (S 0) 1).2.2)) 2) else setB (setB (setB S 2 (S 0)) 5 ((tlF (S 4) 120 (tnF (S 4) (upR (S 5) 3 0)) (S 0) 1).2.1)) 2 ((tlF (S 4) 120 (tnF (S 4) (upR (S 5) 3 0)) (S 0) 1).2.2)) 5 0 0) (e2 : S2 = setB (setB (up (setB S1 25 (mtA (mlF (S1 24) 200 (upR (upR (S1 25) 3 0) 5 1) (S1 32 0) (S1 20) 0))) 32 0 ((mlF (S1 24) 200 (upR (upR (S1 25) 3 0) 5 1) (S1 32 0) (S1 20) 0).2.2.1)) 20 (mtR (mlF (S1 24) 200 (upR (upR (S1 25) 3 0) 5 1) (S1 32 0) (S1 20) 0) (S1 20))) 29 (S1 20)) : mtV (mlF (S1 24) 200 (upR (upR (S1 25) 3 0) 5 1) (S1 32 0) (S1 20) 0) = (tlF (S 4) 120 (tnF (S 4) (upR (S 5) 3 0)) (S 0) 1).1 ∧ Rel S2 := by
  have hob : ∀ b, b ≠ 0 → b ≠ 2 → b ≠ 5 → S1 b = S b := fun b z1 z2 z3 => by
    rw [e1, up_nb _ _ z3]
    split
    · rw [setB_ne _ _ z1, setB_ne _ _ z2, setB_ne _ _ z3, setB_ne _ _ z2]
    · rw [setB_ne _ _ z2, setB_ne _ _ z3, setB_ne _ _ z2]
  have q24 : S1 24 = S 4 := (hob 24 (by decide) (by decide) (by decide)).trans h.2.2.2.1
  have q20 : S1 20 = S 0 := (hob 20 (by decide) (by decide) (by decide)).trans h.2.1
  have q25 : S1 25 = S 25 := hob 25 (by decide) (by decide) (by decide)
  have q32 : S1 32 = S 32 := hob 32 (by decide) (by decide) (by decide)
  rw [q24, q20, q25, q32] at e2 ⊢
  have ht := tx_rel (T := S 4) (A := S 5) (A2 := S 25) (R := S 0) (w := S 32 0) h.2.2.2.2.2.2.1 h.2.2.2.2.2.1 h.2.2.2.2.1.symm (S 0)
  refine ⟨ht.1.symm, ?_⟩
  have h10 : S1 0 = if 0 ≤ (tlF (S 4) 120 (tnF (S 4) (upR (S 5) 3 0)) (S 0) 1).1 then (tlF (S 4) 120 (tnF (S 4) (upR (S 5) 3 0)) (S 0) 1).2.2 else S 0 := by
    rw [e1, up_nb _ _ (by decide)]
    split
    · rw [setB_at, setB_at]
    · rw [setB_ne _ _ (by decide), setB_ne _ _ (by decide), setB_ne _ _ (by decide)]
  subst e2
  refine rel_tp (T := S 4) (n := 0) (R := if 0 ≤ (tlF (S 4) 120 (tnF (S 4) (upR (S 5) 3 0)) (S 0) 1).1 then (tlF (S 4) 120 (tnF (S 4) (upR (S 5) 3 0)) (S 0) 1).2.2 else S 0) h (by decide) h.2.2.2.2.2.2.1 ?_ ?_ ?_ ?_ ?_ ?_ ?_ ?_ (fun b z1 z2 z3 z4 z5 z6 z7 z8 z9 => ?_)
  · split
    · exact tl_VR _ _ _ _ h.1
    · exact h.1
  · rw [setB_ne _ _ (by decide), setB_ne _ _ (by decide), up_nb _ _ (by decide), setB_ne _ _ (by decide), h10]
  · rw [setB_ne _ _ (by decide), setB_at]; exact ht.2.symm
  · rw [setB_ne _ _ (by decide), setB_ne _ _ (by decide), up_nb _ _ (by decide), setB_ne _ _ (by decide), hob 4 (by decide) (by decide) (by decide)]
  · rw [setB_ne _ _ (by decide), setB_ne _ _ (by decide), up_nb _ _ (by decide), setB_ne _ _ (by decide), q24]
  · rw [setB_ne _ _ (by decide), setB_ne _ _ (by decide), up_nb _ _ (by decide), setB_ne _ _ (by decide), e1, up_at]
  · rw [setB_ne _ _ (by decide), setB_ne _ _ (by decide), up_nb _ _ (by decide), setB_at]; exact upR_at _ _ _
  · rw [setB_ne _ _ (by decide), setB_ne _ _ (by decide), up_nb _ _ (by decide), setB_at]
    exact ml_6 200 (upR (upR (S 25) 3 0) 5 1) (S 0) (S 32 0) 0
  · rw [setB_ne _ _ z8, setB_ne _ _ z5, up_nb _ _ z9, setB_ne _ _ z7, hob b z1 z2 z4]
