/-- what the class's call leaves of the reference -/
def NB (S S1 : St) : Prop := S1 20 = S 0 ∧ S1 24 = S 4 ∧ S1 25 = S 25 ∧ S1 26 = S 6 ∧ S1 27 = S 7 ∧ S1 30 = S 30
theorem nb_of {S S1 : St} (h : Rel S) (e : ∀ b, b = 20 ∨ b = 24 ∨ b = 25 ∨ b = 26 ∨ b = 27 ∨ b = 30 → S1 b = S b) : NB S S1 := ⟨(e 20 (by decide)).trans h.2.1, (e 24 (by decide)).trans h.2.2.2.1, e 25 (by decide), (e 26 (by decide)).trans h.2.2.2.2.2.2.2.1, (e 27 (by decide)).trans h.2.2.2.2.2.2.2.2.1, e 30 (by decide)⟩

theorem n_jar {S S1 : St} {w v : Int} (h : Rel S) (e1 : S1 = fnF S 3 (if (0 ≤ w ∧ w ≤ 3) ∧ 0 ≤ v ∧ v ≤ mjF w then -1 else 0) (up S 0 (1 + w.toNat) v)) : NB S S1 := nb_of h (fun b hb => fn_b2 e1 (by omega) (fun hc => by first | rfl | (rw [up_nb _ _ (by omega)]; done) | (rw [setB_ne _ _ (by omega)]; done) | (rw [up_nb _ _ (by omega), setB_ne _ _ (by omega)]; done) | (rw [setB_ne _ _ (by omega), up_nb _ _ (by omega), up_nb _ _ (by omega)]; done)))

theorem n_dark {S S1 : St} {w v : Int} (h : Rel S) (e1 : S1 = fnF S 3 (if (0 ≤ w ∧ w ≤ 11) ∧ 0 ≤ v ∧ v ≤ 20 then -1 else 0) (up S 0 (6 + w.toNat) v)) : NB S S1 := nb_of h (fun b hb => fn_b2 e1 (by omega) (fun hc => by first | rfl | (rw [up_nb _ _ (by omega)]; done) | (rw [setB_ne _ _ (by omega)]; done) | (rw [up_nb _ _ (by omega), setB_ne _ _ (by omega)]; done) | (rw [setB_ne _ _ (by omega), up_nb _ _ (by omega), up_nb _ _ (by omega)]; done)))

theorem n_now {S S1 : St} {w : Int} (h : Rel S) (e1 : S1 = fnF S 3 (if 0 ≤ w ∧ w ≤ 7 then -1 else 0) (S)) : NB S S1 := nb_of h (fun b hb => fn_b2 e1 (by omega) (fun hc => by first | rfl | (rw [up_nb _ _ (by omega)]; done) | (rw [setB_ne _ _ (by omega)]; done) | (rw [up_nb _ _ (by omega), setB_ne _ _ (by omega)]; done) | (rw [setB_ne _ _ (by omega), up_nb _ _ (by omega), up_nb _ _ (by omega)]; done)))

theorem n_scribe {S S1 : St} {w v : Int} (h : Rel S) (e1 : S1 = fnF S 3 (if ¬ ((0 ≤ w ∧ w ≤ 5) ∧ 1 ≤ v ∧ v ≤ 99) then 0 else if 8 ≤ S 0 5 then 1 else if S 0 3 < csF w v then 4 else -1) (setB S 0 (apF (S 0) w v 0))) : NB S S1 := nb_of h (fun b hb => fn_b2 e1 (by omega) (fun hc => by first | rfl | (rw [up_nb _ _ (by omega)]; done) | (rw [setB_ne _ _ (by omega)]; done) | (rw [up_nb _ _ (by omega), setB_ne _ _ (by omega)]; done) | (rw [setB_ne _ _ (by omega), up_nb _ _ (by omega), up_nb _ _ (by omega)]; done)))

theorem n_of {S S1 : St} {w v : Int} (h : Rel S) (e1 : S1 = fnF S 3 (if (0 ≤ w ∧ w < S 0 5) ∧ 0 ≤ v ∧ v ≤ 8 then -1 else 0) (S)) : NB S S1 := nb_of h (fun b hb => fn_b2 e1 (by omega) (fun hc => by first | rfl | (rw [up_nb _ _ (by omega)]; done) | (rw [setB_ne _ _ (by omega)]; done) | (rw [up_nb _ _ (by omega), setB_ne _ _ (by omega)]; done) | (rw [setB_ne _ _ (by omega), up_nb _ _ (by omega), up_nb _ _ (by omega)]; done)))

theorem n_set {S S1 : St} {w v u : Int} (h : Rel S) (e1 : S1 = fnF S 3 (if (0 ≤ w ∧ w < S 0 5) ∧ (1 ≤ v ∧ v ≤ 4) ∧ leP v ≤ u ∧ u ≤ moP v then -1 else 0) (up S 0 (18 + 5 * w.toNat + v.toNat) u)) : NB S S1 := nb_of h (fun b hb => fn_b2 e1 (by omega) (fun hc => by first | rfl | (rw [up_nb _ _ (by omega)]; done) | (rw [setB_ne _ _ (by omega)]; done) | (rw [up_nb _ _ (by omega), setB_ne _ _ (by omega)]; done) | (rw [setB_ne _ _ (by omega), up_nb _ _ (by omega), up_nb _ _ (by omega)]; done)))

theorem n_turn {S S1 : St} {w v : Int} (h : Rel S) (e1 : S1 = fnF S 3 (if (0 ≤ w ∧ w < S 0 5) ∧ 0 ≤ v ∧ v ≤ 5 then -1 else 0) (up S 0 (18 + 5 * w.toNat) v)) : NB S S1 := nb_of h (fun b hb => fn_b2 e1 (by omega) (fun hc => by first | rfl | (rw [up_nb _ _ (by omega)]; done) | (rw [setB_ne _ _ (by omega)]; done) | (rw [up_nb _ _ (by omega), setB_ne _ _ (by omega)]; done) | (rw [setB_ne _ _ (by omega), up_nb _ _ (by omega), up_nb _ _ (by omega)]; done)))

theorem n_as {S S1 : St} {w v : Int} (h : Rel S) (e1 : S1 = fnF S 3 (if ¬ ((0 ≤ w ∧ w < S 0 5) ∧ 0 ≤ v ∧ v ≤ 5) then 0 else if v = 0 ∨ S 0 (18 + 5 * w.toNat) = v ∨ (v = 1 ∧ S 0 (18 + 5 * w.toNat) = 4) ∨ (v = 2 ∧ S 0 (18 + 5 * w.toNat) = 5) then -1 else 2) (S)) : NB S S1 := nb_of h (fun b hb => fn_b2 e1 (by omega) (fun hc => by first | rfl | (rw [up_nb _ _ (by omega)]; done) | (rw [setB_ne _ _ (by omega)]; done) | (rw [up_nb _ _ (by omega), setB_ne _ _ (by omega)]; done) | (rw [setB_ne _ _ (by omega), up_nb _ _ (by omega), up_nb _ _ (by omega)]; done)))

theorem n_looks {S S1 : St} {w : Int} (h : Rel S) (e1 : S1 = fnF S 3 (if ¬ (0 ≤ w ∧ w < S 0 5) then 0 else if S 0 4 = 0 then 4 else -1) (up S 0 (22 + 5 * w.toNat) (mnF 9999 (S 0 (22 + 5 * w.toNat) + 1)))) : NB S S1 := nb_of h (fun b hb => fn_b2 e1 (by omega) (fun hc => by first | rfl | (rw [up_nb _ _ (by omega)]; done) | (rw [setB_ne _ _ (by omega)]; done) | (rw [up_nb _ _ (by omega), setB_ne _ _ (by omega)]; done) | (rw [setB_ne _ _ (by omega), up_nb _ _ (by omega), up_nb _ _ (by omega)]; done)))

theorem n_over {S S1 : St} {w : Int} (h : Rel S) (e1 : S1 = fnF S 3 (if ¬ (0 ≤ w ∧ w < S 0 5) then 0 else if S 0 3 < csF (S 0 (18 + 5 * w.toNat)) (S 0 (19 + 5 * w.toNat)) then 4 else -1) (setB S 0 (spF (S 0) w.toNat))) : NB S S1 := nb_of h (fun b hb => fn_b2 e1 (by omega) (fun hc => by first | rfl | (rw [up_nb _ _ (by omega)]; done) | (rw [setB_ne _ _ (by omega)]; done) | (rw [up_nb _ _ (by omega), setB_ne _ _ (by omega)]; done) | (rw [setB_ne _ _ (by omega), up_nb _ _ (by omega), up_nb _ _ (by omega)]; done)))

theorem n_nights {S S1 : St} {w : Int} (h : Rel S) (e1 : S1 = fnF S 3 (if ¬ (1 ≤ w ∧ w ≤ 100) then 0 else if 9999 < S 0 0 + w then 4 else -1) (setB S 0 (lgF (S 0) w.toNat))) : NB S S1 := nb_of h (fun b hb => fn_b2 e1 (by omega) (fun hc => by first | rfl | (rw [up_nb _ _ (by omega)]; done) | (rw [setB_ne _ _ (by omega)]; done) | (rw [up_nb _ _ (by omega), setB_ne _ _ (by omega)]; done) | (rw [setB_ne _ _ (by omega), up_nb _ _ (by omega), up_nb _ _ (by omega)]; done)))

theorem n_ink {S S1 : St} {w : Int} (h : Rel S) (e1 : S1 = fnF S 3 (if 0 ≤ w ∧ w ≤ 200 then -1 else 0) (S)) : NB S S1 := nb_of h (fun b hb => fn_b2 e1 (by omega) (fun hc => by first | rfl | (rw [up_nb _ _ (by omega)]; done) | (rw [setB_ne _ _ (by omega)]; done) | (rw [up_nb _ _ (by omega), setB_ne _ _ (by omega)]; done) | (rw [setB_ne _ _ (by omega), up_nb _ _ (by omega), up_nb _ _ (by omega)]; done)))

theorem n_on {S S1 : St} {w v u : Int} (h : Rel S) (e1 : S1 = fnF S 3 (if (0 ≤ w ∧ w < S 0 5) ∧ (0 ≤ v ∧ v ≤ 200) ∧ 0 ≤ u ∧ u ≤ 1 then -1 else 0) (S)) : NB S S1 := nb_of h (fun b hb => fn_b2 e1 (by omega) (fun hc => by first | rfl | (rw [up_nb _ _ (by omega)]; done) | (rw [setB_ne _ _ (by omega)]; done) | (rw [up_nb _ _ (by omega), setB_ne _ _ (by omega)]; done) | (rw [setB_ne _ _ (by omega), up_nb _ _ (by omega), up_nb _ _ (by omega)]; done)))

theorem n_all {S S1 : St} {w : Int} (h : Rel S) (e1 : S1 = fnF S 3 (if 0 ≤ w ∧ w ≤ 200 then -1 else 0) (S)) : NB S S1 := nb_of h (fun b hb => fn_b2 e1 (by omega) (fun hc => by first | rfl | (rw [up_nb _ _ (by omega)]; done) | (rw [setB_ne _ _ (by omega)]; done) | (rw [up_nb _ _ (by omega), setB_ne _ _ (by omega)]; done) | (rw [setB_ne _ _ (by omega), up_nb _ _ (by omega), up_nb _ _ (by omega)]; done)))

theorem n_white {S S1 : St} {w : Int} (h : Rel S) (e1 : S1 = fnF S 3 (if 0 ≤ w ∧ w < S 0 5 then onC (fsF (fun j => decide (bkP (S 0) w.toNat (j : Int) = 0)) (200 + 1) 0) else 0) (S)) : NB S S1 := nb_of h (fun b hb => fn_b2 e1 (by omega) (fun hc => by first | rfl | (rw [up_nb _ _ (by omega)]; done) | (rw [setB_ne _ _ (by omega)]; done) | (rw [up_nb _ _ (by omega), setB_ne _ _ (by omega)]; done) | (rw [setB_ne _ _ (by omega), up_nb _ _ (by omega), up_nb _ _ (by omega)]; done)))

theorem n_comes {S S1 : St} {w : Int} (h : Rel S) (e1 : S1 = fnF S 3 (if 0 ≤ w ∧ w ≤ 999 then onC (fsF (fun j => decide (w ≤ iwF (S 0) (S 0 2 + S 0 1 * sumF (dkF (S 0)) j))) (200 + 1) 0) else 0) (S)) : NB S S1 := nb_of h (fun b hb => fn_b2 e1 (by omega) (fun hc => by first | rfl | (rw [up_nb _ _ (by omega)]; done) | (rw [setB_ne _ _ (by omega)]; done) | (rw [up_nb _ _ (by omega), setB_ne _ _ (by omega)]; done) | (rw [setB_ne _ _ (by omega), up_nb _ _ (by omega), up_nb _ _ (by omega)]; done)))

theorem n_when {S S1 : St} {w v : Int} (h : Rel S) (e1 : S1 = fnF S 3 (if (0 ≤ w ∧ w ≤ 5) ∧ 1 ≤ v ∧ v ≤ 99 then onC ((beF (fun j => if csF w v ≤ iwF (S 0) (S 0 2 + S 0 1 * sumF (dkF (S 0)) j) then tkF w (dkF (S 0) j) else -1) 12).1) else 0) (S)) : NB S S1 := nb_of h (fun b hb => fn_b2 e1 (by omega) (fun hc => by first | rfl | (rw [up_nb _ _ (by omega)]; done) | (rw [setB_ne _ _ (by omega)]; done) | (rw [up_nb _ _ (by omega), setB_ne _ _ (by omega)]; done) | (rw [setB_ne _ _ (by omega), up_nb _ _ (by omega), up_nb _ _ (by omega)]; done)))

theorem n_shade {S S1 : St} {w : Int} (h : Rel S) (e1 : S1 = if 1 ≤ w ∧ w ≤ 60 then fnF (setB S (8 + 0) (meF (S 0) w (S (8 + 0)) (S 0 5).toNat)) 3 (onC (bsF (fun j => decide (S 0 (21 + 5 * j) = 1)) (stD (S 0) w) (S 0 5).toNat)) (setB S (8 + 0) (meF (S 0) w (S (8 + 0)) (S 0 5).toNat)) else up S 3 0 (S 3 0 + 1)) : NB S S1 := nb_of h (fun b hb => sc_b e1 (by omega) (setB_ne _ _ (by omega)))

theorem n_enough {S S1 : St} {w v : Int} (h : Rel S) (e1 : S1 = fnF S 3 (if (1 ≤ w ∧ w ≤ 60) ∧ 0 ≤ v ∧ v ≤ 999 then onC (fsF (fun j => decide (v ≤ iwF (S 0) (S 0 2 + (j : Int) * sumF (dkF (S 0)) w.toNat))) 10 0) else 0) (S)) : NB S S1 := nb_of h (fun b hb => fn_b2 e1 (by omega) (fun hc => by first | rfl | (rw [up_nb _ _ (by omega)]; done) | (rw [setB_ne _ _ (by omega)]; done) | (rw [up_nb _ _ (by omega), setB_ne _ _ (by omega)]; done) | (rw [setB_ne _ _ (by omega), up_nb _ _ (by omega), up_nb _ _ (by omega)]; done)))

theorem n_kind {S S1 : St} {w v : Int} (h : Rel S) (e1 : S1 = fnF S 3 (if (0 ≤ w ∧ w < S 0 5) ∧ 0 ≤ v ∧ v ≤ 60 then -1 else 0) (S)) : NB S S1 := nb_of h (fun b hb => fn_b2 e1 (by omega) (fun hc => by first | rfl | (rw [up_nb _ _ (by omega)]; done) | (rw [setB_ne _ _ (by omega)]; done) | (rw [up_nb _ _ (by omega), setB_ne _ _ (by omega)]; done) | (rw [setB_ne _ _ (by omega), up_nb _ _ (by omega), up_nb _ _ (by omega)]; done)))

theorem n_lamp {S S1 : St} {w v : Int} (h : Rel S) (e1 : S1 = fnF S 3 (if (0 ≤ w ∧ w ≤ 60) ∧ 0 ≤ v ∧ v ≤ 9999 then onC (fsF (fun j => decide (v ≤ sumF (fun i => blP (S 0) i w (j : Int)) (S 0 5).toNat)) 10 0) else 0) (S)) : NB S S1 := nb_of h (fun b hb => fn_b2 e1 (by omega) (fun hc => by first | rfl | (rw [up_nb _ _ (by omega)]; done) | (rw [setB_ne _ _ (by omega)]; done) | (rw [up_nb _ _ (by omega), setB_ne _ _ (by omega)]; done) | (rw [setB_ne _ _ (by omega), up_nb _ _ (by omega), up_nb _ _ (by omega)]; done)))

theorem n_longest {S S1 : St} {w : Int} (h : Rel S) (e1 : S1 = fnF S 3 (if ¬ (0 ≤ w ∧ w ≤ 5) then 0 else if 8 ≤ S 0 5 then 1 else onC (dwF (fun q => decide (csF w (q : Int) ≤ S 0 3)) 99)) (S)) : NB S S1 := nb_of h (fun b hb => fn_b2 e1 (by omega) (fun hc => by first | rfl | (rw [up_nb _ _ (by omega)]; done) | (rw [setB_ne _ _ (by omega)]; done) | (rw [up_nb _ _ (by omega), setB_ne _ _ (by omega)]; done) | (rw [setB_ne _ _ (by omega), up_nb _ _ (by omega), up_nb _ _ (by omega)]; done)))

theorem n_sunny {S S1 : St} {w v : Int} (h : Rel S) (e1 : S1 = if (1 ≤ w ∧ w ≤ 20) ∧ 0 ≤ v ∧ v ≤ 9999 then fnF (setB S (8 + 0) (meF (S 0) w (S (8 + 0)) (S 0 5).toNat)) 3 (onC (msF (fun m1 => decide (v ≤ sumF (fun j => blA (S 0) j (S 0 (18 + 5 * j)) 0 w (S 0 4)) (S 0 5).toNat - tkS (stD (S 0) w) m1 (S 0 5).toNat)) (2 ^ (S 0 5).toNat))) (setB S (8 + 0) (meF (S 0) w (S (8 + 0)) (S 0 5).toNat)) else up S 3 0 (S 3 0 + 1)) : NB S S1 := nb_of h (fun b hb => sc_b e1 (by omega) (setB_ne _ _ (by omega)))

theorem n_feed {S S1 : St} {w v : Int} (h : Rel S) (e1 : S1 = fnF S 3 (if ¬ (1 ≤ v ∧ v ≤ 4) then 0 else if 120 < S 5 0 + v then 1 else -1) (up (setB S 4 (sgF (S 4) (fun z => byF w (8 * (v - 1 - (z : Int)))) (S 5 0).toNat (v.toNat))) 5 0 (S 5 0 + v))) : NB S S1 := nb_of h (fun b hb => fn_b2 e1 (by omega) (fun hc => by first | rfl | (rw [up_nb _ _ (by omega)]; done) | (rw [setB_ne _ _ (by omega)]; done) | (rw [up_nb _ _ (by omega), setB_ne _ _ (by omega)]; done) | (rw [setB_ne _ _ (by omega), up_nb _ _ (by omega), up_nb _ _ (by omega)]; done)))

theorem n_wipe {S S1 : St} (h : Rel S) (e1 : S1 = up S 5 0 0) : NB S S1 := nb_of h (fun b hb => by rw [e1, up_nb _ _ (by omega)])

theorem n_text {S S1 : St} (h : Rel S) (e1 : S1 = up (if 0 ≤ (tlF (S 4) 120 (tnF (S 4) (upR (S 5) 3 0)) (S 0) 1).1 then setB (setB (setB (setB S 2 (S 0)) 5 ((tlF (S 4) 120 (tnF (S 4) (upR (S 5) 3 0)) (S 0) 1).2.1)) 2 ((tlF (S 4) 120 (tnF (S 4) (upR (S 5) 3 0)) (S 0) 1).2.2)) 0 ((setB (setB (setB S 2 (S 0)) 5 ((tlF (S 4) 120 (tnF (S 4) (upR (S 5) 3 0)) (S 0) 1).2.1)) 2 ((tlF (S 4) 120 (tnF (S 4) (upR (S 5) 3 0)) (S 0) 1).2.2)) 2) else setB (setB (setB S 2 (S 0)) 5 ((tlF (S 4) 120 (tnF (S 4) (upR (S 5) 3 0)) (S 0) 1).2.1)) 2 ((tlF (S 4) 120 (tnF (S 4) (upR (S 5) 3 0)) (S 0) 1).2.2)) 5 0 0) : NB S S1 := nb_of h (fun b hb => by
  rw [e1, up_nb _ _ (by omega)]
  split
  · rw [setB_ne _ _ (by omega), setB_ne _ _ (by omega), setB_ne _ _ (by omega), setB_ne _ _ (by omega)]
  · rw [setB_ne _ _ (by omega), setB_ne _ _ (by omega), setB_ne _ _ (by omega)])

theorem n_sheet {S S1 : St} {w v u : Int} (h : Rel S) (e1 : S1 = fnF S 3 (if ¬ ((0 ≤ w ∧ w ≤ 3) ∧ (v = 0 ∨ v = 8 ∨ v = 16 ∨ v = 64)) then 0 else if u < 0 then 6 else if 40 < u then 0 else -1) (setB (up (up S 6 w.toNat v) 7 w.toNat (if v = 0 then 0 else u)) (12 + w.toNat) (flF 0 (S (12 + w.toNat)) 40))) : NB S S1 := nb_of h (fun b hb => fn_b2 e1 (by omega) (fun hc => by have hp := c3 (by decide) (by decide) (by decide) hc; first | rfl | (rw [up_nb _ _ (by omega)]; done) | (rw [setB_ne _ _ (by omega)]; done) | (rw [up_nb _ _ (by omega), setB_ne _ _ (by omega)]; done) | (rw [setB_ne _ _ (by omega), up_nb _ _ (by omega), up_nb _ _ (by omega)]; done)))

theorem n_write {S S1 : St} {w v x : Int} (h : Rel S) (e1 : S1 = fnF S 3 (if ¬ (0 ≤ w ∧ w ≤ 3) then 0 else if S 6 w.toNat = 0 then 5 else if ¬ (0 ≤ v ∧ v ≤ S 7 w.toNat - 1) then 0 else -1) (up S (12 + w.toNat) v.toNat (lbF (S 6 w.toNat) x))) : NB S S1 := nb_of h (fun b hb => fn_b2 e1 (by omega) (fun hc => by have hp := c3 (by decide) (by decide) (by decide) hc; first | rfl | (rw [up_nb _ _ (by omega)]; done) | (rw [setB_ne _ _ (by omega)]; done) | (rw [up_nb _ _ (by omega), setB_ne _ _ (by omega)]; done) | (rw [setB_ne _ _ (by omega), up_nb _ _ (by omega), up_nb _ _ (by omega)]; done)))

theorem n_copy {S S1 : St} {w f v g n : Int} (h : Rel S) (e1 : S1 = fnF S 3 (if ¬ ((0 ≤ w ∧ w ≤ 3) ∧ 0 ≤ v ∧ v ≤ 3) then 0 else if S 6 w.toNat = 0 ∨ S 6 v.toNat = 0 then 5 else if S 6 w.toNat ≠ S 6 v.toNat then 2 else if ¬ ((0 ≤ f ∧ 0 ≤ n ∧ f ≤ S 7 w.toNat - n) ∧ 0 ≤ g ∧ 0 ≤ n ∧ g ≤ S 7 v.toNat - n) then 0 else -1) (setB S (12 + v.toNat) (fun j => if g.toNat ≤ j ∧ j < g.toNat + n.toNat then S (12 + w.toNat) (f.toNat + (j - g.toNat)) else S (12 + v.toNat) j))) : NB S S1 := nb_of h (fun b hb => fn_b2 e1 (by omega) (fun hc => by have hp := c4 (by decide) (by decide) (by decide) (by decide) hc; first | rfl | (rw [up_nb _ _ (by omega)]; done) | (rw [setB_ne _ _ (by omega)]; done) | (rw [up_nb _ _ (by omega), setB_ne _ _ (by omega)]; done) | (rw [setB_ne _ _ (by omega), up_nb _ _ (by omega), up_nb _ _ (by omega)]; done)))

theorem n_lays {S S1 : St} {w : Int} (h : Rel S) (e1 : S1 = fnF S 3 (if ¬ (0 ≤ w ∧ w ≤ 3) then 0 else if S 6 w.toNat = 0 then 5 else -1) (setB S 0 (bkQ (S 0) (S (12 + w.toNat)) (min (S 0 5).toNat (S 7 w.toNat).toNat)))) : NB S S1 := nb_of h (fun b hb => fn_b2 e1 (by omega) (fun hc => by first | rfl | (rw [up_nb _ _ (by omega)]; done) | (rw [setB_ne _ _ (by omega)]; done) | (rw [up_nb _ _ (by omega), setB_ne _ _ (by omega)]; done) | (rw [setB_ne _ _ (by omega), up_nb _ _ (by omega), up_nb _ _ (by omega)]; done)))

theorem n_book {S S1 : St} {w v : Int} (h : Rel S) (e1 : S1 = fnF S 3 (if ¬ (0 ≤ w ∧ w ≤ 3) then 0 else if S 6 w.toNat = 0 then 5 else if ¬ (0 ≤ v ∧ v < S 0 5) then 0 else -1) (setB S (12 + w.toNat) (bokF (S 0) (S (12 + w.toNat)) v.toNat (S 7 w.toNat).toNat))) : NB S S1 := nb_of h (fun b hb => fn_b2 e1 (by omega) (fun hc => by have hp := c3 (by decide) (by decide) (by decide) hc; first | rfl | (rw [up_nb _ _ (by omega)]; done) | (rw [setB_ne _ _ (by omega)]; done) | (rw [up_nb _ _ (by omega), setB_ne _ _ (by omega)]; done) | (rw [setB_ne _ _ (by omega), up_nb _ _ (by omega), up_nb _ _ (by omega)]; done)))

theorem n_read {S S1 : St} {w v : Int} (h : Rel S) (e1 : S1 = fnF S 3 (if ¬ (0 ≤ w ∧ w ≤ 3) then 0 else if S 6 w.toNat = 0 then 5 else if ¬ (0 ≤ v ∧ v < S 0 5) then 0 else -1) (S)) : NB S S1 := nb_of h (fun b hb => fn_b2 e1 (by omega) (fun hc => by first | rfl | (rw [up_nb _ _ (by omega)]; done) | (rw [setB_ne _ _ (by omega)]; done) | (rw [up_nb _ _ (by omega), setB_ne _ _ (by omega)]; done) | (rw [setB_ne _ _ (by omega), up_nb _ _ (by omega), up_nb _ _ (by omega)]; done)))

theorem n_image {S S1 : St} (h : Rel S) (e1 : S1 = fnF S 3 (-1) (up (setB S 1 (S 0)) 11 0 1)) : NB S S1 := nb_of h (fun b hb => fn_b2 e1 (by omega) (fun hc => by first | rfl | (rw [up_nb _ _ (by omega)]; done) | (rw [setB_ne _ _ (by omega)]; done) | (rw [up_nb _ _ (by omega), setB_ne _ _ (by omega)]; done) | (rw [setB_ne _ _ (by omega), up_nb _ _ (by omega), up_nb _ _ (by omega)]; done)))

theorem n_undo {S S1 : St} (h : Rel S) (e1 : S1 = fnF S 3 (if S 11 0 = 0 then 3 else -1) (setB S 0 (S 1))) : NB S S1 := nb_of h (fun b hb => fn_b2 e1 (by omega) (fun hc => by first | rfl | (rw [up_nb _ _ (by omega)]; done) | (rw [setB_ne _ _ (by omega)]; done) | (rw [up_nb _ _ (by omega), setB_ne _ _ (by omega)]; done) | (rw [setB_ne _ _ (by omega), up_nb _ _ (by omega), up_nb _ _ (by omega)]; done)))

theorem n_tear {S S1 : St} (h : Rel S) (e1 : S1 = fnF S 3 (-1) (up S 11 0 0)) : NB S S1 := nb_of h (fun b hb => fn_b2 e1 (by omega) (fun hc => by first | rfl | (rw [up_nb _ _ (by omega)]; done) | (rw [setB_ne _ _ (by omega)]; done) | (rw [up_nb _ _ (by omega), setB_ne _ _ (by omega)]; done) | (rw [setB_ne _ _ (by omega), up_nb _ _ (by omega), up_nb _ _ (by omega)]; done)))

theorem n_count {S S1 : St} {w : Int} (h : Rel S) (e1 : S1 = fnF S 3 (if 0 ≤ w ∧ w ≤ 3 then -1 else 0) (S)) : NB S S1 := nb_of h (fun b hb => fn_b2 e1 (by omega) (fun hc => by first | rfl | (rw [up_nb _ _ (by omega)]; done) | (rw [setB_ne _ _ (by omega)]; done) | (rw [up_nb _ _ (by omega), setB_ne _ _ (by omega)]; done) | (rw [setB_ne _ _ (by omega), up_nb _ _ (by omega), up_nb _ _ (by omega)]; done)))

theorem n_status {S S1 : St} {w : Int} (h : Rel S) (e1 : S1 = fnF S 3 (if -1 ≤ w ∧ w ≤ 6 then -1 else 0) (S)) : NB S S1 := nb_of h (fun b hb => fn_b2 e1 (by omega) (fun hc => by first | rfl | (rw [up_nb _ _ (by omega)]; done) | (rw [setB_ne _ _ (by omega)]; done) | (rw [up_nb _ _ (by omega), setB_ne _ _ (by omega)]; done) | (rw [setB_ne _ _ (by omega), up_nb _ _ (by omega), up_nb _ _ (by omega)]; done)))

theorem JL_of (v : Int64) : v = JL v.toInt := (Int64.ofInt_toInt v).symm
/-- the script's numbers of the i-th call -/
def zF (xs : Nat → Int32) (i j : Nat) : Int := (xs (6 * i + j)).toInt
theorem zF_rg (xs : Nat → Int32) (i j : Nat) : -2147483648 ≤ zF xs i j ∧ zF xs i j ≤ 2147483647 := J_rg _
def wvF (x y : Int) : Int := ((JL x <<< ((J 32).toInt64 &&& 63)) ||| (JL y &&& JL 4294967295)).toInt
theorem wv_rg (x y : Int) : -9223372036854775808 ≤ wvF x y ∧ wvF x y ≤ 9223372036854775807 := by
  have h1 := ((JL x <<< ((J 32).toInt64 &&& 63)) ||| (JL y &&& JL 4294967295)).toInt_lt
  have h2 := ((JL x <<< ((J 32).toInt64 &&& 63)) ||| (JL y &&& JL 4294967295)).le_toInt
  unfold wvF
  omega
section R49
variable {p : Program} {l : Launch} {e : Env} {R : Room} {s : State} {m : MethodId} {args : Array Value} {below : List Frame} {meth : Method} {c : Code} {H : Heap} {locs : List Loc} {cells slots : Nat} {Q : State → Prop}
variable {cc : ByteArray} {nL pc : Nat} {own : String} {ls : Array Slot} {rest st : List Value} {X : XT} {a : Nat → Nat} {B : Nat} {S S' : St} {lv : List (Nat × Value)}
theorem r_same (hC : Cx p c cc nL s m args own X B) {x y off : Int} {tgt : Nat} (e1 : y = x) (hdg : decode cc pc = .ok (.if_icmp .eq off, 3)) (ht : (pc : Int) + off = (tgt : Int)) (k : W p l e R s m args below meth c H locs cells slots Q (F0 m tgt ls rest)) : W p l e R s m args below meth c H locs cells slots Q (F0 m pc ls (.int (J y) :: .int (J x) :: rest)) := by
  subst e1
  exact lv_icmp_eq hC.1 hC.2.1 hdg ht (fun _ => k) (fun h => absurd rfl h)
theorem r_lsame (hC : Cx p c cc nL s m args own X B) {x y : Int} (e1 : y = x) (hdg : decode cc pc = .ok (.lcmp, 1)) (k : W p l e R s m args below meth c H locs cells slots Q (F0 m (pc + 1) ls (.int (J 0) :: rest))) : W p l e R s m args below meth c H locs cells slots Q (F0 m pc ls (.long (JL y) :: .long (JL x) :: rest)) := by
  subst e1
  refine W.lcmp hC.1 hC.2.1 hdg ?_
  rw [show lg_cmp (JL y) (JL y) = (0 : Int32) from by unfold lg_cmp; simp]
  exact k
theorem r_wv (hC : Cx p c cc nL s m args own X B) {x y : Int} (hdg : decode cc pc = .ok (.lor, 1)) (k : W p l e R s m args below meth c H locs cells slots Q (F0 m (pc + 1) ls (.long (JL (wvF x y)) :: rest))) : W p l e R s m args below meth c H locs cells slots Q (F0 m pc ls (.long (JL y &&& JL 4294967295) :: .long (JL x <<< ((J 32).toInt64 &&& 63)) :: rest)) := lv_lor hC.1 hC.2.1 hdg (by rw [JL_of ((JL x <<< ((J 32).toInt64 &&& 63)) ||| (JL y &&& JL 4294967295))]; exact k)
theorem r_sld {b L i j : Nat} {xs : Nat → Int32} (hC : Cx p c cc nL s m args own X s.heap.size) (hI : IS X a s.heap.size s S H locs) (hX : va_X b L xs s s.heap) (hbl : b < s.heap.size) {x : Int} (hk : x = ((6 * i + j : Nat) : Int)) (hlt : 6 * i + j < L) (hL : L ≤ 3072) (hdg : decode cc pc = .ok (.iaload, 1)) (k : W p l e R s m args below meth c H locs cells slots Q (F0 m (pc + 1) ls (.int (J (zF xs i j)) :: rest))) : W p l e R s m args below meth c H locs cells slots Q (F0 m pc ls (.int (J x) :: .ref b :: rest)) := va_sld hC.1 hC.2.1 hX hbl (Nat.not_le.mpr hbl) hI.2.2 (J_in hk hlt (by omega)) hdg (by
  rw [J_cl hk (by omega), J_of (xs (6 * i + j))]
  exact k)
end R49
abbrev lvL (a : Nat → Nat) (b i : Nat) : List (Nat × Value) := [(3, .int (J ((6 * i : Nat) : Int))), (2, .ref (a (49))), (1, .ref (a (0))), (0, .ref b)]
/-- the call is done: the law goes on -/
def LK (p : Program) (l : Launch) (e : Env) (s : State) (m : MethodId) (below : List Frame) (meth : Method) (c : Code) (Q : State → Prop) (X : XT) (a : Nat → Nat) (b i : Nat) : Prop := ∀ (S : St) (H : Heap) (locs : List Loc) (ls : Array Slot), Rel S → IS X a s.heap.size s S H locs → lv_has ls 4 (lvL a b i) → W p l e room_1 s m #[Value.ref b] below meth c H locs 61 1191 Q (F0 m 1288 ls [])

set_option maxHeartbeats 4000000 in
set_option maxRecDepth 100000 in
theorem law_jar {p : Program} {l : Launch} {e : Env} {s : State} {m : MethodId} {below : List Frame} {meth : Method} {c : Code} {Q : State → Prop} {X : XT} {a : Nat → Nat} {b L ni : Nat} {xs : Nat → Int32} (hC : Cx p c cL_law 4 s m #[Value.ref b] RL X s.heap.size) (hX : va_X b L xs s s.heap) (hbl : b < s.heap.size) (hL : L ≤ 3072) (hi : 6 * ni + 6 ≤ L) (hK : LK p l e s m below meth c Q X a b ni) {S : St} (hR : Rel S) {H : Heap} {locs : List Loc} {ls : Array Slot} (hI : IS X a s.heap.size s S H locs) (hl : lv_has ls 4 (lvL a b ni)) : W p l e room_1 s m #[Value.ref b] below meth c H locs 61 1191 Q (F0 m 196 ls []) := by
  have z1 := zF_rg xs ni 1
  have z2 := zF_rg xs ni 2
  have z3 := zF_rg xs ni 3
  have z4 := zF_rg xs ni 4
  have z5 := zF_rg xs ni 5
  refine r_aload_n hC hl dL_law_196 2 rfl ?_
  refine r_aload_n hC hl dL_law_197 3 rfl ?_
  refine r_iload_n hC hl dL_law_198 0 rfl ?_
  refine r_iconst hC dL_law_199 ?_
  refine r_iadd hC dL_law_200 ?_
  refine r_sld (i := ni) (j := 1) hC hI hX hbl (by omega) (by omega) hL dL_law_201 ?_
  refine r_aload_n hC hl dL_law_202 3 rfl ?_
  refine r_iload_n hC hl dL_law_203 0 rfl ?_
  refine r_iconst hC dL_law_204 ?_
  refine r_iadd hC dL_law_205 ?_
  refine r_sld (i := ni) (j := 2) hC hI hX hbl (by omega) (by omega) hL dL_law_206 ?_
  refine r_cVi hC hI hl [.int (J (zF xs ni 1)), .int (J (zF xs ni 2))] [] (c_X6_jar l X a s.heap.size S (zF xs ni 1) (zF xs ni 2) hR.1 (zF_rg _ _ _) (zF_rg _ _ _)) ml_RL_13 ev_X6_jar (rc_in (S := S) hC hI) ⟨Nat.le_of_ble_eq_true rfl, Nat.le_of_ble_eq_true rfl⟩ ⟨Nat.le_of_ble_eq_true rfl, Nat.le_of_ble_eq_true rfl⟩ (Nat.le_of_ble_eq_true rfl) rfl dL_law_207 (fun H locs hI => ?_)
  obtain ⟨S1, eS1⟩ : ∃ z : St, z = fnF S 3 (if (0 ≤ (zF xs ni 1) ∧ (zF xs ni 1) ≤ 3) ∧ 0 ≤ (zF xs ni 2) ∧ (zF xs ni 2) ≤ mjF (zF xs ni 1) then -1 else 0) (up S 0 (1 + (zF xs ni 1).toNat) (zF xs ni 2)) := ⟨_, rfl⟩
  rw [← eS1] at hI
  have hNB := n_jar hR eS1
  refine r_aload_n hC hl dL_law_210 1 rfl ?_
  refine r_aload_n hC hl dL_law_211 3 rfl ?_
  refine r_iload_n hC hl dL_law_212 0 rfl ?_
  refine r_iconst hC dL_law_213 ?_
  refine r_iadd hC dL_law_214 ?_
  refine r_sld (i := ni) (j := 1) hC hI hX hbl (by omega) (by omega) hL dL_law_215 ?_
  refine r_aload_n hC hl dL_law_216 3 rfl ?_
  refine r_iload_n hC hl dL_law_217 0 rfl ?_
  refine r_iconst hC dL_law_218 ?_
  refine r_iadd hC dL_law_219 ?_
  refine r_sld (i := ni) (j := 2) hC hI hX hbl (by omega) (by omega) hL dL_law_220 ?_
  refine r_cVi hC hI hl [.int (J (zF xs ni 1)), .int (J (zF xs ni 2))] [.int (J (anF (if (0 ≤ (zF xs ni 1) ∧ (zF xs ni 1) ≤ 3) ∧ 0 ≤ (zF xs ni 2) ∧ (zF xs ni 2) ≤ mjF (zF xs ni 1) then -1 else 0) (S 0 (1 + (zF xs ni 1).toNat))))] (c_X7_jar l X a s.heap.size S1 (zF xs ni 1) (zF xs ni 2) (by rw [hNB.1]; exact hR.1) (zF_rg _ _ _) (zF_rg _ _ _)) ml_RL_17 ev_X7_jar (rc_mo (S := S1) hC hI) ⟨Nat.le_of_ble_eq_true rfl, Nat.le_of_ble_eq_true rfl⟩ ⟨Nat.le_of_ble_eq_true rfl, Nat.le_of_ble_eq_true rfl⟩ (Nat.le_of_ble_eq_true rfl) rfl dL_law_221 (fun H locs hI => ?_)
  obtain ⟨S2, eS2⟩ : ∃ z : St, z = fnF S1 21 (if (0 ≤ (zF xs ni 1) ∧ (zF xs ni 1) ≤ 3) ∧ 0 ≤ (zF xs ni 2) ∧ (zF xs ni 2) ≤ mjF (zF xs ni 1) then -1 else 0) (up S1 20 (1 + (zF xs ni 1).toNat) (zF xs ni 2)) := ⟨_, rfl⟩
  rw [← eS2] at hI
  obtain ⟨han, hR2⟩ := s_jar hR eS1 eS2
  refine r_same (tgt := 1288) hC han dL_law_224 (by decide) ?_
  exact hK S2 _ _ _ hR2 hI hl

set_option maxHeartbeats 4000000 in
set_option maxRecDepth 100000 in
theorem law_dark {p : Program} {l : Launch} {e : Env} {s : State} {m : MethodId} {below : List Frame} {meth : Method} {c : Code} {Q : State → Prop} {X : XT} {a : Nat → Nat} {b L ni : Nat} {xs : Nat → Int32} (hC : Cx p c cL_law 4 s m #[Value.ref b] RL X s.heap.size) (hX : va_X b L xs s s.heap) (hbl : b < s.heap.size) (hL : L ≤ 3072) (hi : 6 * ni + 6 ≤ L) (hK : LK p l e s m below meth c Q X a b ni) {S : St} (hR : Rel S) {H : Heap} {locs : List Loc} {ls : Array Slot} (hI : IS X a s.heap.size s S H locs) (hl : lv_has ls 4 (lvL a b ni)) : W p l e room_1 s m #[Value.ref b] below meth c H locs 61 1191 Q (F0 m 229 ls []) := by
  have z1 := zF_rg xs ni 1
  have z2 := zF_rg xs ni 2
  have z3 := zF_rg xs ni 3
  have z4 := zF_rg xs ni 4
  have z5 := zF_rg xs ni 5
  refine r_aload_n hC hl dL_law_229 2 rfl ?_
  refine r_aload_n hC hl dL_law_230 3 rfl ?_
  refine r_iload_n hC hl dL_law_231 0 rfl ?_
  refine r_iconst hC dL_law_232 ?_
  refine r_iadd hC dL_law_233 ?_
  refine r_sld (i := ni) (j := 1) hC hI hX hbl (by omega) (by omega) hL dL_law_234 ?_
  refine r_aload_n hC hl dL_law_235 3 rfl ?_
  refine r_iload_n hC hl dL_law_236 0 rfl ?_
  refine r_iconst hC dL_law_237 ?_
  refine r_iadd hC dL_law_238 ?_
  refine r_sld (i := ni) (j := 2) hC hI hX hbl (by omega) (by omega) hL dL_law_239 ?_
  refine r_cVi hC hI hl [.int (J (zF xs ni 1)), .int (J (zF xs ni 2))] [] (c_X6_dark l X a s.heap.size S (zF xs ni 1) (zF xs ni 2) hR.1 (zF_rg _ _ _) (zF_rg _ _ _)) ml_RL_18 ev_X6_dark (rc_in (S := S) hC hI) ⟨Nat.le_of_ble_eq_true rfl, Nat.le_of_ble_eq_true rfl⟩ ⟨Nat.le_of_ble_eq_true rfl, Nat.le_of_ble_eq_true rfl⟩ (Nat.le_of_ble_eq_true rfl) rfl dL_law_240 (fun H locs hI => ?_)
  obtain ⟨S1, eS1⟩ : ∃ z : St, z = fnF S 3 (if (0 ≤ (zF xs ni 1) ∧ (zF xs ni 1) ≤ 11) ∧ 0 ≤ (zF xs ni 2) ∧ (zF xs ni 2) ≤ 20 then -1 else 0) (up S 0 (6 + (zF xs ni 1).toNat) (zF xs ni 2)) := ⟨_, rfl⟩
  rw [← eS1] at hI
  have hNB := n_dark hR eS1
  refine r_aload_n hC hl dL_law_243 1 rfl ?_
  refine r_aload_n hC hl dL_law_244 3 rfl ?_
  refine r_iload_n hC hl dL_law_245 0 rfl ?_
  refine r_iconst hC dL_law_246 ?_
  refine r_iadd hC dL_law_247 ?_
  refine r_sld (i := ni) (j := 1) hC hI hX hbl (by omega) (by omega) hL dL_law_248 ?_
  refine r_aload_n hC hl dL_law_249 3 rfl ?_
  refine r_iload_n hC hl dL_law_250 0 rfl ?_
  refine r_iconst hC dL_law_251 ?_
  refine r_iadd hC dL_law_252 ?_
  refine r_sld (i := ni) (j := 2) hC hI hX hbl (by omega) (by omega) hL dL_law_253 ?_
  refine r_cVi hC hI hl [.int (J (zF xs ni 1)), .int (J (zF xs ni 2))] [.int (J (anF (if (0 ≤ (zF xs ni 1) ∧ (zF xs ni 1) ≤ 11) ∧ 0 ≤ (zF xs ni 2) ∧ (zF xs ni 2) ≤ 20 then -1 else 0) (S 0 (6 + (zF xs ni 1).toNat))))] (c_X7_dark l X a s.heap.size S1 (zF xs ni 1) (zF xs ni 2) (by rw [hNB.1]; exact hR.1) (zF_rg _ _ _) (zF_rg _ _ _)) ml_RL_21 ev_X7_dark (rc_mo (S := S1) hC hI) ⟨Nat.le_of_ble_eq_true rfl, Nat.le_of_ble_eq_true rfl⟩ ⟨Nat.le_of_ble_eq_true rfl, Nat.le_of_ble_eq_true rfl⟩ (Nat.le_of_ble_eq_true rfl) rfl dL_law_254 (fun H locs hI => ?_)
  obtain ⟨S2, eS2⟩ : ∃ z : St, z = fnF S1 21 (if (0 ≤ (zF xs ni 1) ∧ (zF xs ni 1) ≤ 11) ∧ 0 ≤ (zF xs ni 2) ∧ (zF xs ni 2) ≤ 20 then -1 else 0) (up S1 20 (6 + (zF xs ni 1).toNat) (zF xs ni 2)) := ⟨_, rfl⟩
  rw [← eS2] at hI
  obtain ⟨han, hR2⟩ := s_dark hR eS1 eS2
  refine r_same (tgt := 1288) hC han dL_law_257 (by decide) ?_
  exact hK S2 _ _ _ hR2 hI hl

set_option maxHeartbeats 4000000 in
set_option maxRecDepth 100000 in
theorem law_now {p : Program} {l : Launch} {e : Env} {s : State} {m : MethodId} {below : List Frame} {meth : Method} {c : Code} {Q : State → Prop} {X : XT} {a : Nat → Nat} {b L ni : Nat} {xs : Nat → Int32} (hC : Cx p c cL_law 4 s m #[Value.ref b] RL X s.heap.size) (hX : va_X b L xs s s.heap) (hbl : b < s.heap.size) (hL : L ≤ 3072) (hi : 6 * ni + 6 ≤ L) (hK : LK p l e s m below meth c Q X a b ni) {S : St} (hR : Rel S) {H : Heap} {locs : List Loc} {ls : Array Slot} (hI : IS X a s.heap.size s S H locs) (hl : lv_has ls 4 (lvL a b ni)) : W p l e room_1 s m #[Value.ref b] below meth c H locs 61 1191 Q (F0 m 262 ls []) := by
  have z1 := zF_rg xs ni 1
  have z2 := zF_rg xs ni 2
  have z3 := zF_rg xs ni 3
  have z4 := zF_rg xs ni 4
  have z5 := zF_rg xs ni 5
  refine r_aload_n hC hl dL_law_262 2 rfl ?_
  refine r_aload_n hC hl dL_law_263 3 rfl ?_
  refine r_iload_n hC hl dL_law_264 0 rfl ?_
  refine r_iconst hC dL_law_265 ?_
  refine r_iadd hC dL_law_266 ?_
  refine r_sld (i := ni) (j := 1) hC hI hX hbl (by omega) (by omega) hL dL_law_267 ?_
  refine r_cVi hC hI hl [.int (J (zF xs ni 1))] [] (c_X6_now l X a s.heap.size S (zF xs ni 1) hR.1 (zF_rg _ _ _)) ml_RL_22 ev_X6_now (rc_in (S := S) hC hI) ⟨Nat.le_of_ble_eq_true rfl, Nat.le_of_ble_eq_true rfl⟩ ⟨Nat.le_of_ble_eq_true rfl, Nat.le_of_ble_eq_true rfl⟩ (Nat.le_of_ble_eq_true rfl) rfl dL_law_268 (fun H locs hI => ?_)
  obtain ⟨S1, eS1⟩ : ∃ z : St, z = fnF S 3 (if 0 ≤ (zF xs ni 1) ∧ (zF xs ni 1) ≤ 7 then -1 else 0) (S) := ⟨_, rfl⟩
  rw [← eS1] at hI
  have hNB := n_now hR eS1
  refine r_aload_n hC hl dL_law_271 1 rfl ?_
  refine r_aload_n hC hl dL_law_272 3 rfl ?_
  refine r_iload_n hC hl dL_law_273 0 rfl ?_
  refine r_iconst hC dL_law_274 ?_
  refine r_iadd hC dL_law_275 ?_
  refine r_sld (i := ni) (j := 1) hC hI hX hbl (by omega) (by omega) hL dL_law_276 ?_
  refine r_cVi hC hI hl [.int (J (zF xs ni 1))] [.int (J (anF (if 0 ≤ (zF xs ni 1) ∧ (zF xs ni 1) ≤ 7 then -1 else 0) (nowF (S 0) (zF xs ni 1))))] (c_X7_now l X a s.heap.size S1 (zF xs ni 1) (by rw [hNB.1]; exact hR.1) (zF_rg _ _ _)) ml_RL_26 ev_X7_now (rc_mo (S := S1) hC hI) ⟨Nat.le_of_ble_eq_true rfl, Nat.le_of_ble_eq_true rfl⟩ ⟨Nat.le_of_ble_eq_true rfl, Nat.le_of_ble_eq_true rfl⟩ (Nat.le_of_ble_eq_true rfl) rfl dL_law_277 (fun H locs hI => ?_)
  obtain ⟨S2, eS2⟩ : ∃ z : St, z = fnF S1 21 (if 0 ≤ (zF xs ni 1) ∧ (zF xs ni 1) ≤ 7 then -1 else 0) (S1) := ⟨_, rfl⟩
  rw [← eS2] at hI
  obtain ⟨han, hR2⟩ := s_now hR eS1 eS2
  refine r_same (tgt := 1288) hC han dL_law_280 (by decide) ?_
  exact hK S2 _ _ _ hR2 hI hl

set_option maxHeartbeats 4000000 in
set_option maxRecDepth 100000 in
theorem law_scribe {p : Program} {l : Launch} {e : Env} {s : State} {m : MethodId} {below : List Frame} {meth : Method} {c : Code} {Q : State → Prop} {X : XT} {a : Nat → Nat} {b L ni : Nat} {xs : Nat → Int32} (hC : Cx p c cL_law 4 s m #[Value.ref b] RL X s.heap.size) (hX : va_X b L xs s s.heap) (hbl : b < s.heap.size) (hL : L ≤ 3072) (hi : 6 * ni + 6 ≤ L) (hK : LK p l e s m below meth c Q X a b ni) {S : St} (hR : Rel S) {H : Heap} {locs : List Loc} {ls : Array Slot} (hI : IS X a s.heap.size s S H locs) (hl : lv_has ls 4 (lvL a b ni)) : W p l e room_1 s m #[Value.ref b] below meth c H locs 61 1191 Q (F0 m 285 ls []) := by
  have z1 := zF_rg xs ni 1
  have z2 := zF_rg xs ni 2
  have z3 := zF_rg xs ni 3
  have z4 := zF_rg xs ni 4
  have z5 := zF_rg xs ni 5
  refine r_aload_n hC hl dL_law_285 2 rfl ?_
  refine r_aload_n hC hl dL_law_286 3 rfl ?_
  refine r_iload_n hC hl dL_law_287 0 rfl ?_
  refine r_iconst hC dL_law_288 ?_
  refine r_iadd hC dL_law_289 ?_
  refine r_sld (i := ni) (j := 1) hC hI hX hbl (by omega) (by omega) hL dL_law_290 ?_
  refine r_aload_n hC hl dL_law_291 3 rfl ?_
  refine r_iload_n hC hl dL_law_292 0 rfl ?_
  refine r_iconst hC dL_law_293 ?_
  refine r_iadd hC dL_law_294 ?_
  refine r_sld (i := ni) (j := 2) hC hI hX hbl (by omega) (by omega) hL dL_law_295 ?_
  refine r_cVi hC hI hl [.int (J (zF xs ni 1)), .int (J (zF xs ni 2))] [] (c_X6_scribe l X a s.heap.size S (zF xs ni 1) (zF xs ni 2) hR.1 (zF_rg _ _ _) (zF_rg _ _ _)) ml_RL_27 ev_X6_scribe (rc_in (S := S) hC hI) ⟨Nat.le_of_ble_eq_true rfl, Nat.le_of_ble_eq_true rfl⟩ ⟨Nat.le_of_ble_eq_true rfl, Nat.le_of_ble_eq_true rfl⟩ (Nat.le_of_ble_eq_true rfl) rfl dL_law_296 (fun H locs hI => ?_)
  obtain ⟨S1, eS1⟩ : ∃ z : St, z = fnF S 3 (if ¬ ((0 ≤ (zF xs ni 1) ∧ (zF xs ni 1) ≤ 5) ∧ 1 ≤ (zF xs ni 2) ∧ (zF xs ni 2) ≤ 99) then 0 else if 8 ≤ S 0 5 then 1 else if S 0 3 < csF (zF xs ni 1) (zF xs ni 2) then 4 else -1) (setB S 0 (apF (S 0) (zF xs ni 1) (zF xs ni 2) 0)) := ⟨_, rfl⟩
  rw [← eS1] at hI
  have hNB := n_scribe hR eS1
  refine r_aload_n hC hl dL_law_299 1 rfl ?_
  refine r_aload_n hC hl dL_law_300 3 rfl ?_
  refine r_iload_n hC hl dL_law_301 0 rfl ?_
  refine r_iconst hC dL_law_302 ?_
  refine r_iadd hC dL_law_303 ?_
  refine r_sld (i := ni) (j := 1) hC hI hX hbl (by omega) (by omega) hL dL_law_304 ?_
  refine r_aload_n hC hl dL_law_305 3 rfl ?_
  refine r_iload_n hC hl dL_law_306 0 rfl ?_
  refine r_iconst hC dL_law_307 ?_
  refine r_iadd hC dL_law_308 ?_
  refine r_sld (i := ni) (j := 2) hC hI hX hbl (by omega) (by omega) hL dL_law_309 ?_
  refine r_cVi hC hI hl [.int (J (zF xs ni 1)), .int (J (zF xs ni 2))] [.int (J (anF (if ¬ ((0 ≤ (zF xs ni 1) ∧ (zF xs ni 1) ≤ 5) ∧ 1 ≤ (zF xs ni 2) ∧ (zF xs ni 2) ≤ 99) then 0 else if 8 ≤ S 0 5 then 1 else if S 0 3 < csF (zF xs ni 1) (zF xs ni 2) then 4 else -1) (S 0 5)))] (c_X7_scribe l X a s.heap.size S1 (zF xs ni 1) (zF xs ni 2) (by rw [hNB.1]; exact hR.1) (zF_rg _ _ _) (zF_rg _ _ _)) ml_RL_30 ev_X7_scribe (rc_mo (S := S1) hC hI) ⟨Nat.le_of_ble_eq_true rfl, Nat.le_of_ble_eq_true rfl⟩ ⟨Nat.le_of_ble_eq_true rfl, Nat.le_of_ble_eq_true rfl⟩ (Nat.le_of_ble_eq_true rfl) rfl dL_law_310 (fun H locs hI => ?_)
  obtain ⟨S2, eS2⟩ : ∃ z : St, z = fnF S1 21 (if ¬ ((0 ≤ (zF xs ni 1) ∧ (zF xs ni 1) ≤ 5) ∧ 1 ≤ (zF xs ni 2) ∧ (zF xs ni 2) ≤ 99) then 0 else if 8 ≤ S1 20 5 then 1 else if S1 20 3 < csF (zF xs ni 1) (zF xs ni 2) then 4 else -1) (setB S1 20 (apF (S1 20) (zF xs ni 1) (zF xs ni 2) 0)) := ⟨_, rfl⟩
  rw [← eS2] at hI
  obtain ⟨han, hR2⟩ := s_scribe hR eS1 eS2
  refine r_same (tgt := 1288) hC han dL_law_313 (by decide) ?_
  exact hK S2 _ _ _ hR2 hI hl

set_option maxHeartbeats 4000000 in
set_option maxRecDepth 100000 in
theorem law_of {p : Program} {l : Launch} {e : Env} {s : State} {m : MethodId} {below : List Frame} {meth : Method} {c : Code} {Q : State → Prop} {X : XT} {a : Nat → Nat} {b L ni : Nat} {xs : Nat → Int32} (hC : Cx p c cL_law 4 s m #[Value.ref b] RL X s.heap.size) (hX : va_X b L xs s s.heap) (hbl : b < s.heap.size) (hL : L ≤ 3072) (hi : 6 * ni + 6 ≤ L) (hK : LK p l e s m below meth c Q X a b ni) {S : St} (hR : Rel S) {H : Heap} {locs : List Loc} {ls : Array Slot} (hI : IS X a s.heap.size s S H locs) (hl : lv_has ls 4 (lvL a b ni)) : W p l e room_1 s m #[Value.ref b] below meth c H locs 61 1191 Q (F0 m 318 ls []) := by
  have z1 := zF_rg xs ni 1
  have z2 := zF_rg xs ni 2
  have z3 := zF_rg xs ni 3
  have z4 := zF_rg xs ni 4
  have z5 := zF_rg xs ni 5
  refine r_aload_n hC hl dL_law_318 2 rfl ?_
  refine r_aload_n hC hl dL_law_319 3 rfl ?_
  refine r_iload_n hC hl dL_law_320 0 rfl ?_
  refine r_iconst hC dL_law_321 ?_
  refine r_iadd hC dL_law_322 ?_
  refine r_sld (i := ni) (j := 1) hC hI hX hbl (by omega) (by omega) hL dL_law_323 ?_
  refine r_aload_n hC hl dL_law_324 3 rfl ?_
  refine r_iload_n hC hl dL_law_325 0 rfl ?_
  refine r_iconst hC dL_law_326 ?_
  refine r_iadd hC dL_law_327 ?_
  refine r_sld (i := ni) (j := 2) hC hI hX hbl (by omega) (by omega) hL dL_law_328 ?_
  refine r_cVi hC hI hl [.int (J (zF xs ni 1)), .int (J (zF xs ni 2))] [] (c_X6_of l X a s.heap.size S (zF xs ni 1) (zF xs ni 2) hR.1 (zF_rg _ _ _) (zF_rg _ _ _)) ml_RL_31 ev_X6_of (rc_in (S := S) hC hI) ⟨Nat.le_of_ble_eq_true rfl, Nat.le_of_ble_eq_true rfl⟩ ⟨Nat.le_of_ble_eq_true rfl, Nat.le_of_ble_eq_true rfl⟩ (Nat.le_of_ble_eq_true rfl) rfl dL_law_329 (fun H locs hI => ?_)
  obtain ⟨S1, eS1⟩ : ∃ z : St, z = fnF S 3 (if (0 ≤ (zF xs ni 1) ∧ (zF xs ni 1) < S 0 5) ∧ 0 ≤ (zF xs ni 2) ∧ (zF xs ni 2) ≤ 8 then -1 else 0) (S) := ⟨_, rfl⟩
  rw [← eS1] at hI
  have hNB := n_of hR eS1
  refine r_aload_n hC hl dL_law_332 1 rfl ?_
  refine r_aload_n hC hl dL_law_333 3 rfl ?_
  refine r_iload_n hC hl dL_law_334 0 rfl ?_
  refine r_iconst hC dL_law_335 ?_
  refine r_iadd hC dL_law_336 ?_
  refine r_sld (i := ni) (j := 1) hC hI hX hbl (by omega) (by omega) hL dL_law_337 ?_
  refine r_aload_n hC hl dL_law_338 3 rfl ?_
  refine r_iload_n hC hl dL_law_339 0 rfl ?_
  refine r_iconst hC dL_law_340 ?_
  refine r_iadd hC dL_law_341 ?_
  refine r_sld (i := ni) (j := 2) hC hI hX hbl (by omega) (by omega) hL dL_law_342 ?_
  refine r_cVi hC hI hl [.int (J (zF xs ni 1)), .int (J (zF xs ni 2))] [.int (J (anF (if (0 ≤ (zF xs ni 1) ∧ (zF xs ni 1) < S 0 5) ∧ 0 ≤ (zF xs ni 2) ∧ (zF xs ni 2) ≤ 8 then -1 else 0) (ofF (S 0) (zF xs ni 1).toNat (zF xs ni 2))))] (c_X7_of l X a s.heap.size S1 (zF xs ni 1) (zF xs ni 2) (by rw [hNB.1]; exact hR.1) (zF_rg _ _ _) (zF_rg _ _ _)) ml_RL_34 ev_X7_of (rc_mo (S := S1) hC hI) ⟨Nat.le_of_ble_eq_true rfl, Nat.le_of_ble_eq_true rfl⟩ ⟨Nat.le_of_ble_eq_true rfl, Nat.le_of_ble_eq_true rfl⟩ (Nat.le_of_ble_eq_true rfl) rfl dL_law_343 (fun H locs hI => ?_)
  obtain ⟨S2, eS2⟩ : ∃ z : St, z = fnF S1 21 (if (0 ≤ (zF xs ni 1) ∧ (zF xs ni 1) < S1 20 5) ∧ 0 ≤ (zF xs ni 2) ∧ (zF xs ni 2) ≤ 8 then -1 else 0) (S1) := ⟨_, rfl⟩
  rw [← eS2] at hI
  obtain ⟨han, hR2⟩ := s_of hR eS1 eS2
  refine r_same (tgt := 1288) hC han dL_law_346 (by decide) ?_
  exact hK S2 _ _ _ hR2 hI hl

set_option maxHeartbeats 4000000 in
set_option maxRecDepth 100000 in
theorem law_set {p : Program} {l : Launch} {e : Env} {s : State} {m : MethodId} {below : List Frame} {meth : Method} {c : Code} {Q : State → Prop} {X : XT} {a : Nat → Nat} {b L ni : Nat} {xs : Nat → Int32} (hC : Cx p c cL_law 4 s m #[Value.ref b] RL X s.heap.size) (hX : va_X b L xs s s.heap) (hbl : b < s.heap.size) (hL : L ≤ 3072) (hi : 6 * ni + 6 ≤ L) (hK : LK p l e s m below meth c Q X a b ni) {S : St} (hR : Rel S) {H : Heap} {locs : List Loc} {ls : Array Slot} (hI : IS X a s.heap.size s S H locs) (hl : lv_has ls 4 (lvL a b ni)) : W p l e room_1 s m #[Value.ref b] below meth c H locs 61 1191 Q (F0 m 351 ls []) := by
  have z1 := zF_rg xs ni 1
  have z2 := zF_rg xs ni 2
  have z3 := zF_rg xs ni 3
  have z4 := zF_rg xs ni 4
  have z5 := zF_rg xs ni 5
  refine r_aload_n hC hl dL_law_351 2 rfl ?_
  refine r_aload_n hC hl dL_law_352 3 rfl ?_
  refine r_iload_n hC hl dL_law_353 0 rfl ?_
  refine r_iconst hC dL_law_354 ?_
  refine r_iadd hC dL_law_355 ?_
  refine r_sld (i := ni) (j := 1) hC hI hX hbl (by omega) (by omega) hL dL_law_356 ?_
  refine r_aload_n hC hl dL_law_357 3 rfl ?_
  refine r_iload_n hC hl dL_law_358 0 rfl ?_
  refine r_iconst hC dL_law_359 ?_
  refine r_iadd hC dL_law_360 ?_
  refine r_sld (i := ni) (j := 2) hC hI hX hbl (by omega) (by omega) hL dL_law_361 ?_
  refine r_aload_n hC hl dL_law_362 3 rfl ?_
  refine r_iload_n hC hl dL_law_363 0 rfl ?_
  refine r_iconst hC dL_law_364 ?_
  refine r_iadd hC dL_law_365 ?_
  refine r_sld (i := ni) (j := 3) hC hI hX hbl (by omega) (by omega) hL dL_law_366 ?_
  refine r_cVi hC hI hl [.int (J (zF xs ni 1)), .int (J (zF xs ni 2)), .int (J (zF xs ni 3))] [] (c_X6_set l X a s.heap.size S (zF xs ni 1) (zF xs ni 2) (zF xs ni 3) hR.1 (zF_rg _ _ _) (zF_rg _ _ _) (zF_rg _ _ _)) ml_RL_35 ev_X6_set (rc_in (S := S) hC hI) ⟨Nat.le_of_ble_eq_true rfl, Nat.le_of_ble_eq_true rfl⟩ ⟨Nat.le_of_ble_eq_true rfl, Nat.le_of_ble_eq_true rfl⟩ (Nat.le_of_ble_eq_true rfl) rfl dL_law_367 (fun H locs hI => ?_)
  obtain ⟨S1, eS1⟩ : ∃ z : St, z = fnF S 3 (if (0 ≤ (zF xs ni 1) ∧ (zF xs ni 1) < S 0 5) ∧ (1 ≤ (zF xs ni 2) ∧ (zF xs ni 2) ≤ 4) ∧ leP (zF xs ni 2) ≤ (zF xs ni 3) ∧ (zF xs ni 3) ≤ moP (zF xs ni 2) then -1 else 0) (up S 0 (18 + 5 * (zF xs ni 1).toNat + (zF xs ni 2).toNat) (zF xs ni 3)) := ⟨_, rfl⟩
  rw [← eS1] at hI
  have hNB := n_set hR eS1
  refine r_aload_n hC hl dL_law_370 1 rfl ?_
  refine r_aload_n hC hl dL_law_371 3 rfl ?_
  refine r_iload_n hC hl dL_law_372 0 rfl ?_
  refine r_iconst hC dL_law_373 ?_
  refine r_iadd hC dL_law_374 ?_
  refine r_sld (i := ni) (j := 1) hC hI hX hbl (by omega) (by omega) hL dL_law_375 ?_
  refine r_aload_n hC hl dL_law_376 3 rfl ?_
  refine r_iload_n hC hl dL_law_377 0 rfl ?_
  refine r_iconst hC dL_law_378 ?_
  refine r_iadd hC dL_law_379 ?_
  refine r_sld (i := ni) (j := 2) hC hI hX hbl (by omega) (by omega) hL dL_law_380 ?_
  refine r_aload_n hC hl dL_law_381 3 rfl ?_
  refine r_iload_n hC hl dL_law_382 0 rfl ?_
  refine r_iconst hC dL_law_383 ?_
  refine r_iadd hC dL_law_384 ?_
  refine r_sld (i := ni) (j := 3) hC hI hX hbl (by omega) (by omega) hL dL_law_385 ?_
  refine r_cVi hC hI hl [.int (J (zF xs ni 1)), .int (J (zF xs ni 2)), .int (J (zF xs ni 3))] [.int (J (anF (if (0 ≤ (zF xs ni 1) ∧ (zF xs ni 1) < S 0 5) ∧ (1 ≤ (zF xs ni 2) ∧ (zF xs ni 2) ≤ 4) ∧ leP (zF xs ni 2) ≤ (zF xs ni 3) ∧ (zF xs ni 3) ≤ moP (zF xs ni 2) then -1 else 0) (S 0 (18 + 5 * (zF xs ni 1).toNat + (zF xs ni 2).toNat))))] (c_X7_set l X a s.heap.size S1 (zF xs ni 1) (zF xs ni 2) (zF xs ni 3) (by rw [hNB.1]; exact hR.1) (zF_rg _ _ _) (zF_rg _ _ _) (zF_rg _ _ _)) ml_RL_39 ev_X7_set (rc_mo (S := S1) hC hI) ⟨Nat.le_of_ble_eq_true rfl, Nat.le_of_ble_eq_true rfl⟩ ⟨Nat.le_of_ble_eq_true rfl, Nat.le_of_ble_eq_true rfl⟩ (Nat.le_of_ble_eq_true rfl) rfl dL_law_386 (fun H locs hI => ?_)
  obtain ⟨S2, eS2⟩ : ∃ z : St, z = fnF S1 21 (if (0 ≤ (zF xs ni 1) ∧ (zF xs ni 1) < S1 20 5) ∧ (1 ≤ (zF xs ni 2) ∧ (zF xs ni 2) ≤ 4) ∧ leP (zF xs ni 2) ≤ (zF xs ni 3) ∧ (zF xs ni 3) ≤ moP (zF xs ni 2) then -1 else 0) (up S1 20 (18 + 5 * (zF xs ni 1).toNat + (zF xs ni 2).toNat) (zF xs ni 3)) := ⟨_, rfl⟩
  rw [← eS2] at hI
  obtain ⟨han, hR2⟩ := s_set hR eS1 eS2
  refine r_same (tgt := 1288) hC han dL_law_389 (by decide) ?_
  exact hK S2 _ _ _ hR2 hI hl

set_option maxHeartbeats 4000000 in
set_option maxRecDepth 100000 in
theorem law_turn {p : Program} {l : Launch} {e : Env} {s : State} {m : MethodId} {below : List Frame} {meth : Method} {c : Code} {Q : State → Prop} {X : XT} {a : Nat → Nat} {b L ni : Nat} {xs : Nat → Int32} (hC : Cx p c cL_law 4 s m #[Value.ref b] RL X s.heap.size) (hX : va_X b L xs s s.heap) (hbl : b < s.heap.size) (hL : L ≤ 3072) (hi : 6 * ni + 6 ≤ L) (hK : LK p l e s m below meth c Q X a b ni) {S : St} (hR : Rel S) {H : Heap} {locs : List Loc} {ls : Array Slot} (hI : IS X a s.heap.size s S H locs) (hl : lv_has ls 4 (lvL a b ni)) : W p l e room_1 s m #[Value.ref b] below meth c H locs 61 1191 Q (F0 m 394 ls []) := by
  have z1 := zF_rg xs ni 1
  have z2 := zF_rg xs ni 2
  have z3 := zF_rg xs ni 3
  have z4 := zF_rg xs ni 4
  have z5 := zF_rg xs ni 5
  refine r_aload_n hC hl dL_law_394 2 rfl ?_
  refine r_aload_n hC hl dL_law_395 3 rfl ?_
  refine r_iload_n hC hl dL_law_396 0 rfl ?_
  refine r_iconst hC dL_law_397 ?_
  refine r_iadd hC dL_law_398 ?_
  refine r_sld (i := ni) (j := 1) hC hI hX hbl (by omega) (by omega) hL dL_law_399 ?_
  refine r_aload_n hC hl dL_law_400 3 rfl ?_
  refine r_iload_n hC hl dL_law_401 0 rfl ?_
  refine r_iconst hC dL_law_402 ?_
  refine r_iadd hC dL_law_403 ?_
  refine r_sld (i := ni) (j := 2) hC hI hX hbl (by omega) (by omega) hL dL_law_404 ?_
  refine r_cVi hC hI hl [.int (J (zF xs ni 1)), .int (J (zF xs ni 2))] [] (c_X6_turn l X a s.heap.size S (zF xs ni 1) (zF xs ni 2) hR.1 (zF_rg _ _ _) (zF_rg _ _ _)) ml_RL_40 ev_X6_turn (rc_in (S := S) hC hI) ⟨Nat.le_of_ble_eq_true rfl, Nat.le_of_ble_eq_true rfl⟩ ⟨Nat.le_of_ble_eq_true rfl, Nat.le_of_ble_eq_true rfl⟩ (Nat.le_of_ble_eq_true rfl) rfl dL_law_405 (fun H locs hI => ?_)
  obtain ⟨S1, eS1⟩ : ∃ z : St, z = fnF S 3 (if (0 ≤ (zF xs ni 1) ∧ (zF xs ni 1) < S 0 5) ∧ 0 ≤ (zF xs ni 2) ∧ (zF xs ni 2) ≤ 5 then -1 else 0) (up S 0 (18 + 5 * (zF xs ni 1).toNat) (zF xs ni 2)) := ⟨_, rfl⟩
  rw [← eS1] at hI
  have hNB := n_turn hR eS1
  refine r_aload_n hC hl dL_law_408 1 rfl ?_
  refine r_aload_n hC hl dL_law_409 3 rfl ?_
  refine r_iload_n hC hl dL_law_410 0 rfl ?_
  refine r_iconst hC dL_law_411 ?_
  refine r_iadd hC dL_law_412 ?_
  refine r_sld (i := ni) (j := 1) hC hI hX hbl (by omega) (by omega) hL dL_law_413 ?_
  refine r_aload_n hC hl dL_law_414 3 rfl ?_
  refine r_iload_n hC hl dL_law_415 0 rfl ?_
  refine r_iconst hC dL_law_416 ?_
  refine r_iadd hC dL_law_417 ?_
  refine r_sld (i := ni) (j := 2) hC hI hX hbl (by omega) (by omega) hL dL_law_418 ?_
  refine r_cVi hC hI hl [.int (J (zF xs ni 1)), .int (J (zF xs ni 2))] [.int (J (anF (if (0 ≤ (zF xs ni 1) ∧ (zF xs ni 1) < S 0 5) ∧ 0 ≤ (zF xs ni 2) ∧ (zF xs ni 2) ≤ 5 then -1 else 0) (S 0 (18 + 5 * (zF xs ni 1).toNat))))] (c_X7_turn l X a s.heap.size S1 (zF xs ni 1) (zF xs ni 2) (by rw [hNB.1]; exact hR.1) (zF_rg _ _ _) (zF_rg _ _ _)) ml_RL_43 ev_X7_turn (rc_mo (S := S1) hC hI) ⟨Nat.le_of_ble_eq_true rfl, Nat.le_of_ble_eq_true rfl⟩ ⟨Nat.le_of_ble_eq_true rfl, Nat.le_of_ble_eq_true rfl⟩ (Nat.le_of_ble_eq_true rfl) rfl dL_law_419 (fun H locs hI => ?_)
  obtain ⟨S2, eS2⟩ : ∃ z : St, z = fnF S1 21 (if (0 ≤ (zF xs ni 1) ∧ (zF xs ni 1) < S1 20 5) ∧ 0 ≤ (zF xs ni 2) ∧ (zF xs ni 2) ≤ 5 then -1 else 0) (up S1 20 (18 + 5 * (zF xs ni 1).toNat) (zF xs ni 2)) := ⟨_, rfl⟩
  rw [← eS2] at hI
  obtain ⟨han, hR2⟩ := s_turn hR eS1 eS2
  refine r_same (tgt := 1288) hC han dL_law_422 (by decide) ?_
  exact hK S2 _ _ _ hR2 hI hl

set_option maxHeartbeats 4000000 in
set_option maxRecDepth 100000 in
theorem law_as {p : Program} {l : Launch} {e : Env} {s : State} {m : MethodId} {below : List Frame} {meth : Method} {c : Code} {Q : State → Prop} {X : XT} {a : Nat → Nat} {b L ni : Nat} {xs : Nat → Int32} (hC : Cx p c cL_law 4 s m #[Value.ref b] RL X s.heap.size) (hX : va_X b L xs s s.heap) (hbl : b < s.heap.size) (hL : L ≤ 3072) (hi : 6 * ni + 6 ≤ L) (hK : LK p l e s m below meth c Q X a b ni) {S : St} (hR : Rel S) {H : Heap} {locs : List Loc} {ls : Array Slot} (hI : IS X a s.heap.size s S H locs) (hl : lv_has ls 4 (lvL a b ni)) : W p l e room_1 s m #[Value.ref b] below meth c H locs 61 1191 Q (F0 m 427 ls []) := by
  have z1 := zF_rg xs ni 1
  have z2 := zF_rg xs ni 2
  have z3 := zF_rg xs ni 3
  have z4 := zF_rg xs ni 4
  have z5 := zF_rg xs ni 5
  refine r_aload_n hC hl dL_law_427 2 rfl ?_
  refine r_aload_n hC hl dL_law_428 3 rfl ?_
  refine r_iload_n hC hl dL_law_429 0 rfl ?_
  refine r_iconst hC dL_law_430 ?_
  refine r_iadd hC dL_law_431 ?_
  refine r_sld (i := ni) (j := 1) hC hI hX hbl (by omega) (by omega) hL dL_law_432 ?_
  refine r_aload_n hC hl dL_law_433 3 rfl ?_
  refine r_iload_n hC hl dL_law_434 0 rfl ?_
  refine r_iconst hC dL_law_435 ?_
  refine r_iadd hC dL_law_436 ?_
  refine r_sld (i := ni) (j := 2) hC hI hX hbl (by omega) (by omega) hL dL_law_437 ?_
  refine r_cVi hC hI hl [.int (J (zF xs ni 1)), .int (J (zF xs ni 2))] [] (c_X6_as l X a s.heap.size S (zF xs ni 1) (zF xs ni 2) hR.1 (zF_rg _ _ _) (zF_rg _ _ _)) ml_RL_44 ev_X6_as (rc_in (S := S) hC hI) ⟨Nat.le_of_ble_eq_true rfl, Nat.le_of_ble_eq_true rfl⟩ ⟨Nat.le_of_ble_eq_true rfl, Nat.le_of_ble_eq_true rfl⟩ (Nat.le_of_ble_eq_true rfl) rfl dL_law_438 (fun H locs hI => ?_)
  obtain ⟨S1, eS1⟩ : ∃ z : St, z = fnF S 3 (if ¬ ((0 ≤ (zF xs ni 1) ∧ (zF xs ni 1) < S 0 5) ∧ 0 ≤ (zF xs ni 2) ∧ (zF xs ni 2) ≤ 5) then 0 else if (zF xs ni 2) = 0 ∨ S 0 (18 + 5 * (zF xs ni 1).toNat) = (zF xs ni 2) ∨ ((zF xs ni 2) = 1 ∧ S 0 (18 + 5 * (zF xs ni 1).toNat) = 4) ∨ ((zF xs ni 2) = 2 ∧ S 0 (18 + 5 * (zF xs ni 1).toNat) = 5) then -1 else 2) (S) := ⟨_, rfl⟩
  rw [← eS1] at hI
  have hNB := n_as hR eS1
  refine r_aload_n hC hl dL_law_441 1 rfl ?_
  refine r_aload_n hC hl dL_law_442 3 rfl ?_
  refine r_iload_n hC hl dL_law_443 0 rfl ?_
  refine r_iconst hC dL_law_444 ?_
  refine r_iadd hC dL_law_445 ?_
  refine r_sld (i := ni) (j := 1) hC hI hX hbl (by omega) (by omega) hL dL_law_446 ?_
  refine r_aload_n hC hl dL_law_447 3 rfl ?_
  refine r_iload_n hC hl dL_law_448 0 rfl ?_
  refine r_iconst hC dL_law_449 ?_
  refine r_iadd hC dL_law_450 ?_
  refine r_sld (i := ni) (j := 2) hC hI hX hbl (by omega) (by omega) hL dL_law_451 ?_
  refine r_cVi hC hI hl [.int (J (zF xs ni 1)), .int (J (zF xs ni 2))] [.int (J (anF (if ¬ ((0 ≤ (zF xs ni 1) ∧ (zF xs ni 1) < S 0 5) ∧ 0 ≤ (zF xs ni 2) ∧ (zF xs ni 2) ≤ 5) then 0 else if (zF xs ni 2) = 0 ∨ S 0 (18 + 5 * (zF xs ni 1).toNat) = (zF xs ni 2) ∨ ((zF xs ni 2) = 1 ∧ S 0 (18 + 5 * (zF xs ni 1).toNat) = 4) ∨ ((zF xs ni 2) = 2 ∧ S 0 (18 + 5 * (zF xs ni 1).toNat) = 5) then -1 else 2) (S 0 (20 + 5 * (zF xs ni 1).toNat))))] (c_X7_as l X a s.heap.size S1 (zF xs ni 1) (zF xs ni 2) (by rw [hNB.1]; exact hR.1) (zF_rg _ _ _) (zF_rg _ _ _)) ml_RL_47 ev_X7_as (rc_mo (S := S1) hC hI) ⟨Nat.le_of_ble_eq_true rfl, Nat.le_of_ble_eq_true rfl⟩ ⟨Nat.le_of_ble_eq_true rfl, Nat.le_of_ble_eq_true rfl⟩ (Nat.le_of_ble_eq_true rfl) rfl dL_law_452 (fun H locs hI => ?_)
  obtain ⟨S2, eS2⟩ : ∃ z : St, z = fnF S1 21 (if ¬ ((0 ≤ (zF xs ni 1) ∧ (zF xs ni 1) < S1 20 5) ∧ 0 ≤ (zF xs ni 2) ∧ (zF xs ni 2) ≤ 5) then 0 else if (zF xs ni 2) = 0 ∨ S1 20 (18 + 5 * (zF xs ni 1).toNat) = (zF xs ni 2) ∨ ((zF xs ni 2) = 1 ∧ S1 20 (18 + 5 * (zF xs ni 1).toNat) = 4) ∨ ((zF xs ni 2) = 2 ∧ S1 20 (18 + 5 * (zF xs ni 1).toNat) = 5) then -1 else 2) (S1) := ⟨_, rfl⟩
  rw [← eS2] at hI
  obtain ⟨han, hR2⟩ := s_as hR eS1 eS2
  refine r_same (tgt := 1288) hC han dL_law_455 (by decide) ?_
  exact hK S2 _ _ _ hR2 hI hl

set_option maxHeartbeats 4000000 in
set_option maxRecDepth 100000 in
theorem law_looks {p : Program} {l : Launch} {e : Env} {s : State} {m : MethodId} {below : List Frame} {meth : Method} {c : Code} {Q : State → Prop} {X : XT} {a : Nat → Nat} {b L ni : Nat} {xs : Nat → Int32} (hC : Cx p c cL_law 4 s m #[Value.ref b] RL X s.heap.size) (hX : va_X b L xs s s.heap) (hbl : b < s.heap.size) (hL : L ≤ 3072) (hi : 6 * ni + 6 ≤ L) (hK : LK p l e s m below meth c Q X a b ni) {S : St} (hR : Rel S) {H : Heap} {locs : List Loc} {ls : Array Slot} (hI : IS X a s.heap.size s S H locs) (hl : lv_has ls 4 (lvL a b ni)) : W p l e room_1 s m #[Value.ref b] below meth c H locs 61 1191 Q (F0 m 460 ls []) := by
  have z1 := zF_rg xs ni 1
  have z2 := zF_rg xs ni 2
  have z3 := zF_rg xs ni 3
  have z4 := zF_rg xs ni 4
  have z5 := zF_rg xs ni 5
  refine r_aload_n hC hl dL_law_460 2 rfl ?_
  refine r_aload_n hC hl dL_law_461 3 rfl ?_
  refine r_iload_n hC hl dL_law_462 0 rfl ?_
  refine r_iconst hC dL_law_463 ?_
  refine r_iadd hC dL_law_464 ?_
  refine r_sld (i := ni) (j := 1) hC hI hX hbl (by omega) (by omega) hL dL_law_465 ?_
  refine r_cVi hC hI hl [.int (J (zF xs ni 1))] [] (c_X6_looks l X a s.heap.size S (zF xs ni 1) hR.1 (zF_rg _ _ _)) ml_RL_48 ev_X6_looks (rc_in (S := S) hC hI) ⟨Nat.le_of_ble_eq_true rfl, Nat.le_of_ble_eq_true rfl⟩ ⟨Nat.le_of_ble_eq_true rfl, Nat.le_of_ble_eq_true rfl⟩ (Nat.le_of_ble_eq_true rfl) rfl dL_law_466 (fun H locs hI => ?_)
  obtain ⟨S1, eS1⟩ : ∃ z : St, z = fnF S 3 (if ¬ (0 ≤ (zF xs ni 1) ∧ (zF xs ni 1) < S 0 5) then 0 else if S 0 4 = 0 then 4 else -1) (up S 0 (22 + 5 * (zF xs ni 1).toNat) (mnF 9999 (S 0 (22 + 5 * (zF xs ni 1).toNat) + 1))) := ⟨_, rfl⟩
  rw [← eS1] at hI
  have hNB := n_looks hR eS1
  refine r_aload_n hC hl dL_law_469 1 rfl ?_
  refine r_aload_n hC hl dL_law_470 3 rfl ?_
  refine r_iload_n hC hl dL_law_471 0 rfl ?_
  refine r_iconst hC dL_law_472 ?_
  refine r_iadd hC dL_law_473 ?_
  refine r_sld (i := ni) (j := 1) hC hI hX hbl (by omega) (by omega) hL dL_law_474 ?_
  refine r_cVi hC hI hl [.int (J (zF xs ni 1))] [.int (J (anF (if ¬ (0 ≤ (zF xs ni 1) ∧ (zF xs ni 1) < S 0 5) then 0 else if S 0 4 = 0 then 4 else -1) (blP (S 0) (zF xs ni 1).toNat 0 (S 0 4))))] (c_X7_looks l X a s.heap.size S1 (zF xs ni 1) (by rw [hNB.1]; exact hR.1) (zF_rg _ _ _)) ml_RL_51 ev_X7_looks (rc_mo (S := S1) hC hI) ⟨Nat.le_of_ble_eq_true rfl, Nat.le_of_ble_eq_true rfl⟩ ⟨Nat.le_of_ble_eq_true rfl, Nat.le_of_ble_eq_true rfl⟩ (Nat.le_of_ble_eq_true rfl) rfl dL_law_475 (fun H locs hI => ?_)
  obtain ⟨S2, eS2⟩ : ∃ z : St, z = fnF S1 21 (if ¬ (0 ≤ (zF xs ni 1) ∧ (zF xs ni 1) < S1 20 5) then 0 else if S1 20 4 = 0 then 4 else -1) (up S1 20 (22 + 5 * (zF xs ni 1).toNat) (mnF 9999 (S1 20 (22 + 5 * (zF xs ni 1).toNat) + 1))) := ⟨_, rfl⟩
  rw [← eS2] at hI
  obtain ⟨han, hR2⟩ := s_looks hR eS1 eS2
  refine r_same (tgt := 1288) hC han dL_law_478 (by decide) ?_
  exact hK S2 _ _ _ hR2 hI hl

set_option maxHeartbeats 4000000 in
set_option maxRecDepth 100000 in
theorem law_over {p : Program} {l : Launch} {e : Env} {s : State} {m : MethodId} {below : List Frame} {meth : Method} {c : Code} {Q : State → Prop} {X : XT} {a : Nat → Nat} {b L ni : Nat} {xs : Nat → Int32} (hC : Cx p c cL_law 4 s m #[Value.ref b] RL X s.heap.size) (hX : va_X b L xs s s.heap) (hbl : b < s.heap.size) (hL : L ≤ 3072) (hi : 6 * ni + 6 ≤ L) (hK : LK p l e s m below meth c Q X a b ni) {S : St} (hR : Rel S) {H : Heap} {locs : List Loc} {ls : Array Slot} (hI : IS X a s.heap.size s S H locs) (hl : lv_has ls 4 (lvL a b ni)) : W p l e room_1 s m #[Value.ref b] below meth c H locs 61 1191 Q (F0 m 483 ls []) := by
  have z1 := zF_rg xs ni 1
  have z2 := zF_rg xs ni 2
  have z3 := zF_rg xs ni 3
  have z4 := zF_rg xs ni 4
  have z5 := zF_rg xs ni 5
  refine r_aload_n hC hl dL_law_483 2 rfl ?_
  refine r_aload_n hC hl dL_law_484 3 rfl ?_
  refine r_iload_n hC hl dL_law_485 0 rfl ?_
  refine r_iconst hC dL_law_486 ?_
  refine r_iadd hC dL_law_487 ?_
  refine r_sld (i := ni) (j := 1) hC hI hX hbl (by omega) (by omega) hL dL_law_488 ?_
  refine r_cVi hC hI hl [.int (J (zF xs ni 1))] [] (c_X6_over l X a s.heap.size S (zF xs ni 1) hR.1 (zF_rg _ _ _)) ml_RL_52 ev_X6_over (rc_in (S := S) hC hI) ⟨Nat.le_of_ble_eq_true rfl, Nat.le_of_ble_eq_true rfl⟩ ⟨Nat.le_of_ble_eq_true rfl, Nat.le_of_ble_eq_true rfl⟩ (Nat.le_of_ble_eq_true rfl) rfl dL_law_489 (fun H locs hI => ?_)
  obtain ⟨S1, eS1⟩ : ∃ z : St, z = fnF S 3 (if ¬ (0 ≤ (zF xs ni 1) ∧ (zF xs ni 1) < S 0 5) then 0 else if S 0 3 < csF (S 0 (18 + 5 * (zF xs ni 1).toNat)) (S 0 (19 + 5 * (zF xs ni 1).toNat)) then 4 else -1) (setB S 0 (spF (S 0) (zF xs ni 1).toNat)) := ⟨_, rfl⟩
  rw [← eS1] at hI
  have hNB := n_over hR eS1
  refine r_aload_n hC hl dL_law_492 1 rfl ?_
  refine r_aload_n hC hl dL_law_493 3 rfl ?_
  refine r_iload_n hC hl dL_law_494 0 rfl ?_
  refine r_iconst hC dL_law_495 ?_
  refine r_iadd hC dL_law_496 ?_
  refine r_sld (i := ni) (j := 1) hC hI hX hbl (by omega) (by omega) hL dL_law_497 ?_
  refine r_cVi hC hI hl [.int (J (zF xs ni 1))] [.int (J (anF (if ¬ (0 ≤ (zF xs ni 1) ∧ (zF xs ni 1) < S 0 5) then 0 else if S 0 3 < csF (S 0 (18 + 5 * (zF xs ni 1).toNat)) (S 0 (19 + 5 * (zF xs ni 1).toNat)) then 4 else -1) (tkF (S 0 (18 + 5 * (zF xs ni 1).toNat)) (dkF (S 0) 0))))] (c_X7_over l X a s.heap.size S1 (zF xs ni 1) (by rw [hNB.1]; exact hR.1) (zF_rg _ _ _)) ml_RL_55 ev_X7_over (rc_mo (S := S1) hC hI) ⟨Nat.le_of_ble_eq_true rfl, Nat.le_of_ble_eq_true rfl⟩ ⟨Nat.le_of_ble_eq_true rfl, Nat.le_of_ble_eq_true rfl⟩ (Nat.le_of_ble_eq_true rfl) rfl dL_law_498 (fun H locs hI => ?_)
  obtain ⟨S2, eS2⟩ : ∃ z : St, z = fnF S1 21 (if ¬ (0 ≤ (zF xs ni 1) ∧ (zF xs ni 1) < S1 20 5) then 0 else if S1 20 3 < csF (S1 20 (18 + 5 * (zF xs ni 1).toNat)) (S1 20 (19 + 5 * (zF xs ni 1).toNat)) then 4 else -1) (setB S1 20 (spF (S1 20) (zF xs ni 1).toNat)) := ⟨_, rfl⟩
  rw [← eS2] at hI
  obtain ⟨han, hR2⟩ := s_over hR eS1 eS2
  refine r_same (tgt := 1288) hC han dL_law_501 (by decide) ?_
  exact hK S2 _ _ _ hR2 hI hl

set_option maxHeartbeats 4000000 in
set_option maxRecDepth 100000 in
theorem law_nights {p : Program} {l : Launch} {e : Env} {s : State} {m : MethodId} {below : List Frame} {meth : Method} {c : Code} {Q : State → Prop} {X : XT} {a : Nat → Nat} {b L ni : Nat} {xs : Nat → Int32} (hC : Cx p c cL_law 4 s m #[Value.ref b] RL X s.heap.size) (hX : va_X b L xs s s.heap) (hbl : b < s.heap.size) (hL : L ≤ 3072) (hi : 6 * ni + 6 ≤ L) (hK : LK p l e s m below meth c Q X a b ni) {S : St} (hR : Rel S) {H : Heap} {locs : List Loc} {ls : Array Slot} (hI : IS X a s.heap.size s S H locs) (hl : lv_has ls 4 (lvL a b ni)) : W p l e room_1 s m #[Value.ref b] below meth c H locs 61 1191 Q (F0 m 506 ls []) := by
  have z1 := zF_rg xs ni 1
  have z2 := zF_rg xs ni 2
  have z3 := zF_rg xs ni 3
  have z4 := zF_rg xs ni 4
  have z5 := zF_rg xs ni 5
  refine r_aload_n hC hl dL_law_506 2 rfl ?_
  refine r_aload_n hC hl dL_law_507 3 rfl ?_
  refine r_iload_n hC hl dL_law_508 0 rfl ?_
  refine r_iconst hC dL_law_509 ?_
  refine r_iadd hC dL_law_510 ?_
  refine r_sld (i := ni) (j := 1) hC hI hX hbl (by omega) (by omega) hL dL_law_511 ?_
  refine r_cVi hC hI hl [.int (J (zF xs ni 1))] [] (c_X6_nights l X a s.heap.size S (zF xs ni 1) hR.1 (zF_rg _ _ _)) ml_RL_56 ev_X6_nights (rc_in (S := S) hC hI) ⟨Nat.le_of_ble_eq_true rfl, Nat.le_of_ble_eq_true rfl⟩ ⟨Nat.le_of_ble_eq_true rfl, Nat.le_of_ble_eq_true rfl⟩ (Nat.le_of_ble_eq_true rfl) rfl dL_law_512 (fun H locs hI => ?_)
  obtain ⟨S1, eS1⟩ : ∃ z : St, z = fnF S 3 (if ¬ (1 ≤ (zF xs ni 1) ∧ (zF xs ni 1) ≤ 100) then 0 else if 9999 < S 0 0 + (zF xs ni 1) then 4 else -1) (setB S 0 (lgF (S 0) (zF xs ni 1).toNat)) := ⟨_, rfl⟩
  rw [← eS1] at hI
  have hNB := n_nights hR eS1
  refine r_aload_n hC hl dL_law_515 1 rfl ?_
  refine r_aload_n hC hl dL_law_516 3 rfl ?_
  refine r_iload_n hC hl dL_law_517 0 rfl ?_
  refine r_iconst hC dL_law_518 ?_
  refine r_iadd hC dL_law_519 ?_
  refine r_sld (i := ni) (j := 1) hC hI hX hbl (by omega) (by omega) hL dL_law_520 ?_
  refine r_cVi hC hI hl [.int (J (zF xs ni 1))] [.int (J (anF (if ¬ (1 ≤ (zF xs ni 1) ∧ (zF xs ni 1) ≤ 100) then 0 else if 9999 < S 0 0 + (zF xs ni 1) then 4 else -1) (iwF (S 0) (S 0 2 + S 0 1 * sumF (dkF (S 0)) (zF xs ni 1).toNat))))] (c_X7_nights l X a s.heap.size S1 (zF xs ni 1) (by rw [hNB.1]; exact hR.1) (zF_rg _ _ _)) ml_RL_59 ev_X7_nights (rc_mo (S := S1) hC hI) ⟨Nat.le_of_ble_eq_true rfl, Nat.le_of_ble_eq_true rfl⟩ ⟨Nat.le_of_ble_eq_true rfl, Nat.le_of_ble_eq_true rfl⟩ (Nat.le_of_ble_eq_true rfl) rfl dL_law_521 (fun H locs hI => ?_)
  obtain ⟨S2, eS2⟩ : ∃ z : St, z = fnF S1 21 (if ¬ (1 ≤ (zF xs ni 1) ∧ (zF xs ni 1) ≤ 100) then 0 else if 9999 < S1 20 0 + (zF xs ni 1) then 4 else -1) (setB S1 20 (lgF (S1 20) (zF xs ni 1).toNat)) := ⟨_, rfl⟩
  rw [← eS2] at hI
  obtain ⟨han, hR2⟩ := s_nights hR eS1 eS2
  refine r_same (tgt := 1288) hC han dL_law_524 (by decide) ?_
  exact hK S2 _ _ _ hR2 hI hl

set_option maxHeartbeats 4000000 in
set_option maxRecDepth 100000 in
theorem law_ink {p : Program} {l : Launch} {e : Env} {s : State} {m : MethodId} {below : List Frame} {meth : Method} {c : Code} {Q : State → Prop} {X : XT} {a : Nat → Nat} {b L ni : Nat} {xs : Nat → Int32} (hC : Cx p c cL_law 4 s m #[Value.ref b] RL X s.heap.size) (hX : va_X b L xs s s.heap) (hbl : b < s.heap.size) (hL : L ≤ 3072) (hi : 6 * ni + 6 ≤ L) (hK : LK p l e s m below meth c Q X a b ni) {S : St} (hR : Rel S) {H : Heap} {locs : List Loc} {ls : Array Slot} (hI : IS X a s.heap.size s S H locs) (hl : lv_has ls 4 (lvL a b ni)) : W p l e room_1 s m #[Value.ref b] below meth c H locs 61 1191 Q (F0 m 529 ls []) := by
  have z1 := zF_rg xs ni 1
  have z2 := zF_rg xs ni 2
  have z3 := zF_rg xs ni 3
  have z4 := zF_rg xs ni 4
  have z5 := zF_rg xs ni 5
  refine r_aload_n hC hl dL_law_529 2 rfl ?_
  refine r_aload_n hC hl dL_law_530 3 rfl ?_
  refine r_iload_n hC hl dL_law_531 0 rfl ?_
  refine r_iconst hC dL_law_532 ?_
  refine r_iadd hC dL_law_533 ?_
  refine r_sld (i := ni) (j := 1) hC hI hX hbl (by omega) (by omega) hL dL_law_534 ?_
  refine r_cVi hC hI hl [.int (J (zF xs ni 1))] [] (c_X6_ink l X a s.heap.size S (zF xs ni 1) hR.1 (zF_rg _ _ _)) ml_RL_60 ev_X6_ink (rc_in (S := S) hC hI) ⟨Nat.le_of_ble_eq_true rfl, Nat.le_of_ble_eq_true rfl⟩ ⟨Nat.le_of_ble_eq_true rfl, Nat.le_of_ble_eq_true rfl⟩ (Nat.le_of_ble_eq_true rfl) rfl dL_law_535 (fun H locs hI => ?_)
  obtain ⟨S1, eS1⟩ : ∃ z : St, z = fnF S 3 (if 0 ≤ (zF xs ni 1) ∧ (zF xs ni 1) ≤ 200 then -1 else 0) (S) := ⟨_, rfl⟩
  rw [← eS1] at hI
  have hNB := n_ink hR eS1
  refine r_aload_n hC hl dL_law_538 1 rfl ?_
  refine r_aload_n hC hl dL_law_539 3 rfl ?_
  refine r_iload_n hC hl dL_law_540 0 rfl ?_
  refine r_iconst hC dL_law_541 ?_
  refine r_iadd hC dL_law_542 ?_
  refine r_sld (i := ni) (j := 1) hC hI hX hbl (by omega) (by omega) hL dL_law_543 ?_
  refine r_cVi hC hI hl [.int (J (zF xs ni 1))] [.int (J (anF (if 0 ≤ (zF xs ni 1) ∧ (zF xs ni 1) ≤ 200 then -1 else 0) (iwF (S 0) (S 0 2 + S 0 1 * sumF (dkF (S 0)) (zF xs ni 1).toNat))))] (c_X7_ink l X a s.heap.size S1 (zF xs ni 1) (by rw [hNB.1]; exact hR.1) (zF_rg _ _ _)) ml_RL_63 ev_X7_ink (rc_mo (S := S1) hC hI) ⟨Nat.le_of_ble_eq_true rfl, Nat.le_of_ble_eq_true rfl⟩ ⟨Nat.le_of_ble_eq_true rfl, Nat.le_of_ble_eq_true rfl⟩ (Nat.le_of_ble_eq_true rfl) rfl dL_law_544 (fun H locs hI => ?_)
  obtain ⟨S2, eS2⟩ : ∃ z : St, z = fnF S1 21 (if 0 ≤ (zF xs ni 1) ∧ (zF xs ni 1) ≤ 200 then -1 else 0) (setB S1 22 (S1 20)) := ⟨_, rfl⟩
  rw [← eS2] at hI
  obtain ⟨han, hR2⟩ := s_ink hR eS1 eS2
  refine r_same (tgt := 1288) hC han dL_law_547 (by decide) ?_
  exact hK S2 _ _ _ hR2 hI hl

set_option maxHeartbeats 4000000 in
set_option maxRecDepth 100000 in
theorem law_on {p : Program} {l : Launch} {e : Env} {s : State} {m : MethodId} {below : List Frame} {meth : Method} {c : Code} {Q : State → Prop} {X : XT} {a : Nat → Nat} {b L ni : Nat} {xs : Nat → Int32} (hC : Cx p c cL_law 4 s m #[Value.ref b] RL X s.heap.size) (hX : va_X b L xs s s.heap) (hbl : b < s.heap.size) (hL : L ≤ 3072) (hi : 6 * ni + 6 ≤ L) (hK : LK p l e s m below meth c Q X a b ni) {S : St} (hR : Rel S) {H : Heap} {locs : List Loc} {ls : Array Slot} (hI : IS X a s.heap.size s S H locs) (hl : lv_has ls 4 (lvL a b ni)) : W p l e room_1 s m #[Value.ref b] below meth c H locs 61 1191 Q (F0 m 552 ls []) := by
  have z1 := zF_rg xs ni 1
  have z2 := zF_rg xs ni 2
  have z3 := zF_rg xs ni 3
  have z4 := zF_rg xs ni 4
  have z5 := zF_rg xs ni 5
  refine r_aload_n hC hl dL_law_552 2 rfl ?_
  refine r_aload_n hC hl dL_law_553 3 rfl ?_
  refine r_iload_n hC hl dL_law_554 0 rfl ?_
  refine r_iconst hC dL_law_555 ?_
  refine r_iadd hC dL_law_556 ?_
  refine r_sld (i := ni) (j := 1) hC hI hX hbl (by omega) (by omega) hL dL_law_557 ?_
  refine r_aload_n hC hl dL_law_558 3 rfl ?_
  refine r_iload_n hC hl dL_law_559 0 rfl ?_
  refine r_iconst hC dL_law_560 ?_
  refine r_iadd hC dL_law_561 ?_
  refine r_sld (i := ni) (j := 2) hC hI hX hbl (by omega) (by omega) hL dL_law_562 ?_
  refine r_aload_n hC hl dL_law_563 3 rfl ?_
  refine r_iload_n hC hl dL_law_564 0 rfl ?_
  refine r_iconst hC dL_law_565 ?_
  refine r_iadd hC dL_law_566 ?_
  refine r_sld (i := ni) (j := 3) hC hI hX hbl (by omega) (by omega) hL dL_law_567 ?_
  refine r_cVi hC hI hl [.int (J (zF xs ni 1)), .int (J (zF xs ni 2)), .int (J (zF xs ni 3))] [] (c_X6_on l X a s.heap.size S (zF xs ni 1) (zF xs ni 2) (zF xs ni 3) hR.1 (zF_rg _ _ _) (zF_rg _ _ _) (zF_rg _ _ _)) ml_RL_64 ev_X6_on (rc_in (S := S) hC hI) ⟨Nat.le_of_ble_eq_true rfl, Nat.le_of_ble_eq_true rfl⟩ ⟨Nat.le_of_ble_eq_true rfl, Nat.le_of_ble_eq_true rfl⟩ (Nat.le_of_ble_eq_true rfl) rfl dL_law_568 (fun H locs hI => ?_)
  obtain ⟨S1, eS1⟩ : ∃ z : St, z = fnF S 3 (if (0 ≤ (zF xs ni 1) ∧ (zF xs ni 1) < S 0 5) ∧ (0 ≤ (zF xs ni 2) ∧ (zF xs ni 2) ≤ 200) ∧ 0 ≤ (zF xs ni 3) ∧ (zF xs ni 3) ≤ 1 then -1 else 0) (S) := ⟨_, rfl⟩
  rw [← eS1] at hI
  have hNB := n_on hR eS1
  refine r_aload_n hC hl dL_law_571 1 rfl ?_
  refine r_aload_n hC hl dL_law_572 3 rfl ?_
  refine r_iload_n hC hl dL_law_573 0 rfl ?_
  refine r_iconst hC dL_law_574 ?_
  refine r_iadd hC dL_law_575 ?_
  refine r_sld (i := ni) (j := 1) hC hI hX hbl (by omega) (by omega) hL dL_law_576 ?_
  refine r_aload_n hC hl dL_law_577 3 rfl ?_
  refine r_iload_n hC hl dL_law_578 0 rfl ?_
  refine r_iconst hC dL_law_579 ?_
  refine r_iadd hC dL_law_580 ?_
  refine r_sld (i := ni) (j := 2) hC hI hX hbl (by omega) (by omega) hL dL_law_581 ?_
  refine r_aload_n hC hl dL_law_582 3 rfl ?_
  refine r_iload_n hC hl dL_law_583 0 rfl ?_
  refine r_iconst hC dL_law_584 ?_
  refine r_iadd hC dL_law_585 ?_
  refine r_sld (i := ni) (j := 3) hC hI hX hbl (by omega) (by omega) hL dL_law_586 ?_
  refine r_cVi hC hI hl [.int (J (zF xs ni 1)), .int (J (zF xs ni 2)), .int (J (zF xs ni 3))] [.int (J (anF (if (0 ≤ (zF xs ni 1) ∧ (zF xs ni 1) < S 0 5) ∧ (0 ≤ (zF xs ni 2) ∧ (zF xs ni 2) ≤ 200) ∧ 0 ≤ (zF xs ni 3) ∧ (zF xs ni 3) ≤ 1 then -1 else 0) (if (zF xs ni 3) = 0 then bkP (S 0) (zF xs ni 1).toNat (zF xs ni 2) else blP (S 0) (zF xs ni 1).toNat (zF xs ni 2) (S 0 4))))] (c_X7_on l X a s.heap.size S1 (zF xs ni 1) (zF xs ni 2) (zF xs ni 3) (by rw [hNB.1]; exact hR.1) (zF_rg _ _ _) (zF_rg _ _ _) (zF_rg _ _ _)) ml_RL_67 ev_X7_on (rc_mo (S := S1) hC hI) ⟨Nat.le_of_ble_eq_true rfl, Nat.le_of_ble_eq_true rfl⟩ ⟨Nat.le_of_ble_eq_true rfl, Nat.le_of_ble_eq_true rfl⟩ (Nat.le_of_ble_eq_true rfl) rfl dL_law_587 (fun H locs hI => ?_)
  obtain ⟨S2, eS2⟩ : ∃ z : St, z = fnF S1 21 (if (0 ≤ (zF xs ni 1) ∧ (zF xs ni 1) < S1 20 5) ∧ (0 ≤ (zF xs ni 2) ∧ (zF xs ni 2) ≤ 200) ∧ 0 ≤ (zF xs ni 3) ∧ (zF xs ni 3) ≤ 1 then -1 else 0) (setB S1 22 (S1 20)) := ⟨_, rfl⟩
  rw [← eS2] at hI
  obtain ⟨han, hR2⟩ := s_on hR eS1 eS2
  refine r_same (tgt := 1288) hC han dL_law_590 (by decide) ?_
  exact hK S2 _ _ _ hR2 hI hl

set_option maxHeartbeats 4000000 in
set_option maxRecDepth 100000 in
theorem law_all {p : Program} {l : Launch} {e : Env} {s : State} {m : MethodId} {below : List Frame} {meth : Method} {c : Code} {Q : State → Prop} {X : XT} {a : Nat → Nat} {b L ni : Nat} {xs : Nat → Int32} (hC : Cx p c cL_law 4 s m #[Value.ref b] RL X s.heap.size) (hX : va_X b L xs s s.heap) (hbl : b < s.heap.size) (hL : L ≤ 3072) (hi : 6 * ni + 6 ≤ L) (hK : LK p l e s m below meth c Q X a b ni) {S : St} (hR : Rel S) {H : Heap} {locs : List Loc} {ls : Array Slot} (hI : IS X a s.heap.size s S H locs) (hl : lv_has ls 4 (lvL a b ni)) : W p l e room_1 s m #[Value.ref b] below meth c H locs 61 1191 Q (F0 m 595 ls []) := by
  have z1 := zF_rg xs ni 1
  have z2 := zF_rg xs ni 2
  have z3 := zF_rg xs ni 3
  have z4 := zF_rg xs ni 4
  have z5 := zF_rg xs ni 5
  refine r_aload_n hC hl dL_law_595 2 rfl ?_
  refine r_aload_n hC hl dL_law_596 3 rfl ?_
  refine r_iload_n hC hl dL_law_597 0 rfl ?_
  refine r_iconst hC dL_law_598 ?_
  refine r_iadd hC dL_law_599 ?_
  refine r_sld (i := ni) (j := 1) hC hI hX hbl (by omega) (by omega) hL dL_law_600 ?_
  refine r_cVi hC hI hl [.int (J (zF xs ni 1))] [] (c_X6_all l X a s.heap.size S (zF xs ni 1) hR.1 (zF_rg _ _ _)) ml_RL_68 ev_X6_all (rc_in (S := S) hC hI) ⟨Nat.le_of_ble_eq_true rfl, Nat.le_of_ble_eq_true rfl⟩ ⟨Nat.le_of_ble_eq_true rfl, Nat.le_of_ble_eq_true rfl⟩ (Nat.le_of_ble_eq_true rfl) rfl dL_law_601 (fun H locs hI => ?_)
  obtain ⟨S1, eS1⟩ : ∃ z : St, z = fnF S 3 (if 0 ≤ (zF xs ni 1) ∧ (zF xs ni 1) ≤ 200 then -1 else 0) (S) := ⟨_, rfl⟩
  rw [← eS1] at hI
  have hNB := n_all hR eS1
  refine r_aload_n hC hl dL_law_604 1 rfl ?_
  refine r_aload_n hC hl dL_law_605 3 rfl ?_
  refine r_iload_n hC hl dL_law_606 0 rfl ?_
  refine r_iconst hC dL_law_607 ?_
  refine r_iadd hC dL_law_608 ?_
  refine r_sld (i := ni) (j := 1) hC hI hX hbl (by omega) (by omega) hL dL_law_609 ?_
  refine r_cVi hC hI hl [.int (J (zF xs ni 1))] [.int (J (anF (if 0 ≤ (zF xs ni 1) ∧ (zF xs ni 1) ≤ 200 then -1 else 0) (sumF (fun i => blP (S 0) i (zF xs ni 1) (S 0 4)) (S 0 5).toNat)))] (c_X7_all l X a s.heap.size S1 (zF xs ni 1) (by rw [hNB.1]; exact hR.1) (zF_rg _ _ _)) ml_RL_71 ev_X7_all (rc_mo (S := S1) hC hI) ⟨Nat.le_of_ble_eq_true rfl, Nat.le_of_ble_eq_true rfl⟩ ⟨Nat.le_of_ble_eq_true rfl, Nat.le_of_ble_eq_true rfl⟩ (Nat.le_of_ble_eq_true rfl) rfl dL_law_610 (fun H locs hI => ?_)
  obtain ⟨S2, eS2⟩ : ∃ z : St, z = fnF S1 21 (if 0 ≤ (zF xs ni 1) ∧ (zF xs ni 1) ≤ 200 then -1 else 0) (setB S1 22 (S1 20)) := ⟨_, rfl⟩
  rw [← eS2] at hI
  obtain ⟨han, hR2⟩ := s_all hR eS1 eS2
  refine r_same (tgt := 1288) hC han dL_law_613 (by decide) ?_
  exact hK S2 _ _ _ hR2 hI hl

set_option maxHeartbeats 4000000 in
set_option maxRecDepth 100000 in
theorem law_white {p : Program} {l : Launch} {e : Env} {s : State} {m : MethodId} {below : List Frame} {meth : Method} {c : Code} {Q : State → Prop} {X : XT} {a : Nat → Nat} {b L ni : Nat} {xs : Nat → Int32} (hC : Cx p c cL_law 4 s m #[Value.ref b] RL X s.heap.size) (hX : va_X b L xs s s.heap) (hbl : b < s.heap.size) (hL : L ≤ 3072) (hi : 6 * ni + 6 ≤ L) (hK : LK p l e s m below meth c Q X a b ni) {S : St} (hR : Rel S) {H : Heap} {locs : List Loc} {ls : Array Slot} (hI : IS X a s.heap.size s S H locs) (hl : lv_has ls 4 (lvL a b ni)) : W p l e room_1 s m #[Value.ref b] below meth c H locs 61 1191 Q (F0 m 618 ls []) := by
  have z1 := zF_rg xs ni 1
  have z2 := zF_rg xs ni 2
  have z3 := zF_rg xs ni 3
  have z4 := zF_rg xs ni 4
  have z5 := zF_rg xs ni 5
  refine r_aload_n hC hl dL_law_618 2 rfl ?_
  refine r_aload_n hC hl dL_law_619 3 rfl ?_
  refine r_iload_n hC hl dL_law_620 0 rfl ?_
  refine r_iconst hC dL_law_621 ?_
  refine r_iadd hC dL_law_622 ?_
  refine r_sld (i := ni) (j := 1) hC hI hX hbl (by omega) (by omega) hL dL_law_623 ?_
  refine r_cVi hC hI hl [.int (J (zF xs ni 1))] [] (c_X6_white l X a s.heap.size S (zF xs ni 1) hR.1 (zF_rg _ _ _)) ml_RL_72 ev_X6_white (rc_in (S := S) hC hI) ⟨Nat.le_of_ble_eq_true rfl, Nat.le_of_ble_eq_true rfl⟩ ⟨Nat.le_of_ble_eq_true rfl, Nat.le_of_ble_eq_true rfl⟩ (Nat.le_of_ble_eq_true rfl) rfl dL_law_624 (fun H locs hI => ?_)
  obtain ⟨S1, eS1⟩ : ∃ z : St, z = fnF S 3 (if 0 ≤ (zF xs ni 1) ∧ (zF xs ni 1) < S 0 5 then onC (fsF (fun j => decide (bkP (S 0) (zF xs ni 1).toNat (j : Int) = 0)) (200 + 1) 0) else 0) (S) := ⟨_, rfl⟩
  rw [← eS1] at hI
  have hNB := n_white hR eS1
  refine r_aload_n hC hl dL_law_627 1 rfl ?_
  refine r_aload_n hC hl dL_law_628 3 rfl ?_
  refine r_iload_n hC hl dL_law_629 0 rfl ?_
  refine r_iconst hC dL_law_630 ?_
  refine r_iadd hC dL_law_631 ?_
  refine r_sld (i := ni) (j := 1) hC hI hX hbl (by omega) (by omega) hL dL_law_632 ?_
  refine r_cVi hC hI hl [.int (J (zF xs ni 1))] [.int (J (anF (if 0 ≤ (zF xs ni 1) ∧ (zF xs ni 1) < S 0 5 then onC (fsF (fun j => decide (bkP (S 0) (zF xs ni 1).toNat (j : Int) = 0)) (200 + 1) 0) else 0) (fsF (fun j => decide (bkP (S 0) (zF xs ni 1).toNat (j : Int) = 0)) (200 + 1) 0)))] (c_X7_white l X a s.heap.size S1 (zF xs ni 1) (by rw [hNB.1]; exact hR.1) (zF_rg _ _ _)) ml_RL_75 ev_X7_white (rc_mo (S := S1) hC hI) ⟨Nat.le_of_ble_eq_true rfl, Nat.le_of_ble_eq_true rfl⟩ ⟨Nat.le_of_ble_eq_true rfl, Nat.le_of_ble_eq_true rfl⟩ (Nat.le_of_ble_eq_true rfl) rfl dL_law_633 (fun H locs hI => ?_)
  obtain ⟨S2, eS2⟩ : ∃ z : St, z = if 0 ≤ (zF xs ni 1) ∧ (zF xs ni 1) < S1 20 5 then fnF (setB S1 22 (S1 20)) 21 (onC (fsF (fun j => decide (bkP (S1 20) (zF xs ni 1).toNat (j : Int) = 0)) (200 + 1) 0)) (setB S1 22 (S1 20)) else up S1 21 0 (S1 21 0 + 1) := ⟨_, rfl⟩
  rw [← eS2] at hI
  obtain ⟨han, hR2⟩ := s_white hR eS1 eS2
  refine r_same (tgt := 1288) hC han dL_law_636 (by decide) ?_
  exact hK S2 _ _ _ hR2 hI hl

set_option maxHeartbeats 4000000 in
set_option maxRecDepth 100000 in
theorem law_comes {p : Program} {l : Launch} {e : Env} {s : State} {m : MethodId} {below : List Frame} {meth : Method} {c : Code} {Q : State → Prop} {X : XT} {a : Nat → Nat} {b L ni : Nat} {xs : Nat → Int32} (hC : Cx p c cL_law 4 s m #[Value.ref b] RL X s.heap.size) (hX : va_X b L xs s s.heap) (hbl : b < s.heap.size) (hL : L ≤ 3072) (hi : 6 * ni + 6 ≤ L) (hK : LK p l e s m below meth c Q X a b ni) {S : St} (hR : Rel S) {H : Heap} {locs : List Loc} {ls : Array Slot} (hI : IS X a s.heap.size s S H locs) (hl : lv_has ls 4 (lvL a b ni)) : W p l e room_1 s m #[Value.ref b] below meth c H locs 61 1191 Q (F0 m 641 ls []) := by
  have z1 := zF_rg xs ni 1
  have z2 := zF_rg xs ni 2
  have z3 := zF_rg xs ni 3
  have z4 := zF_rg xs ni 4
  have z5 := zF_rg xs ni 5
  refine r_aload_n hC hl dL_law_641 2 rfl ?_
  refine r_aload_n hC hl dL_law_642 3 rfl ?_
  refine r_iload_n hC hl dL_law_643 0 rfl ?_
  refine r_iconst hC dL_law_644 ?_
  refine r_iadd hC dL_law_645 ?_
  refine r_sld (i := ni) (j := 1) hC hI hX hbl (by omega) (by omega) hL dL_law_646 ?_
  refine r_cVi hC hI hl [.int (J (zF xs ni 1))] [] (c_X6_comes l X a s.heap.size S (zF xs ni 1) hR.1 (zF_rg _ _ _)) ml_RL_76 ev_X6_comes (rc_in (S := S) hC hI) ⟨Nat.le_of_ble_eq_true rfl, Nat.le_of_ble_eq_true rfl⟩ ⟨Nat.le_of_ble_eq_true rfl, Nat.le_of_ble_eq_true rfl⟩ (Nat.le_of_ble_eq_true rfl) rfl dL_law_647 (fun H locs hI => ?_)
  obtain ⟨S1, eS1⟩ : ∃ z : St, z = fnF S 3 (if 0 ≤ (zF xs ni 1) ∧ (zF xs ni 1) ≤ 999 then onC (fsF (fun j => decide ((zF xs ni 1) ≤ iwF (S 0) (S 0 2 + S 0 1 * sumF (dkF (S 0)) j))) (200 + 1) 0) else 0) (S) := ⟨_, rfl⟩
  rw [← eS1] at hI
  have hNB := n_comes hR eS1
  refine r_aload_n hC hl dL_law_650 1 rfl ?_
  refine r_aload_n hC hl dL_law_651 3 rfl ?_
  refine r_iload_n hC hl dL_law_652 0 rfl ?_
  refine r_iconst hC dL_law_653 ?_
  refine r_iadd hC dL_law_654 ?_
  refine r_sld (i := ni) (j := 1) hC hI hX hbl (by omega) (by omega) hL dL_law_655 ?_
  refine r_cVi hC hI hl [.int (J (zF xs ni 1))] [.int (J (anF (if 0 ≤ (zF xs ni 1) ∧ (zF xs ni 1) ≤ 999 then onC (fsF (fun j => decide ((zF xs ni 1) ≤ iwF (S 0) (S 0 2 + S 0 1 * sumF (dkF (S 0)) j))) (200 + 1) 0) else 0) (fsF (fun j => decide ((zF xs ni 1) ≤ iwF (S 0) (S 0 2 + S 0 1 * sumF (dkF (S 0)) j))) (200 + 1) 0)))] (c_X7_comes l X a s.heap.size S1 (zF xs ni 1) (by rw [hNB.1]; exact hR.1) (zF_rg _ _ _)) ml_RL_79 ev_X7_comes (rc_mo (S := S1) hC hI) ⟨Nat.le_of_ble_eq_true rfl, Nat.le_of_ble_eq_true rfl⟩ ⟨Nat.le_of_ble_eq_true rfl, Nat.le_of_ble_eq_true rfl⟩ (Nat.le_of_ble_eq_true rfl) rfl dL_law_656 (fun H locs hI => ?_)
  obtain ⟨S2, eS2⟩ : ∃ z : St, z = if 0 ≤ (zF xs ni 1) ∧ (zF xs ni 1) ≤ 999 then fnF (setB S1 22 (S1 20)) 21 (onC (fsF (fun j => decide ((zF xs ni 1) ≤ iwF (S1 20) (S1 20 2 + S1 20 1 * sumF (dkF (S1 20)) j))) (200 + 1) 0)) (setB S1 22 (S1 20)) else up S1 21 0 (S1 21 0 + 1) := ⟨_, rfl⟩
  rw [← eS2] at hI
  obtain ⟨han, hR2⟩ := s_comes hR eS1 eS2
  refine r_same (tgt := 1288) hC han dL_law_659 (by decide) ?_
  exact hK S2 _ _ _ hR2 hI hl

set_option maxHeartbeats 4000000 in
set_option maxRecDepth 100000 in
theorem law_when {p : Program} {l : Launch} {e : Env} {s : State} {m : MethodId} {below : List Frame} {meth : Method} {c : Code} {Q : State → Prop} {X : XT} {a : Nat → Nat} {b L ni : Nat} {xs : Nat → Int32} (hC : Cx p c cL_law 4 s m #[Value.ref b] RL X s.heap.size) (hX : va_X b L xs s s.heap) (hbl : b < s.heap.size) (hL : L ≤ 3072) (hi : 6 * ni + 6 ≤ L) (hK : LK p l e s m below meth c Q X a b ni) {S : St} (hR : Rel S) {H : Heap} {locs : List Loc} {ls : Array Slot} (hI : IS X a s.heap.size s S H locs) (hl : lv_has ls 4 (lvL a b ni)) : W p l e room_1 s m #[Value.ref b] below meth c H locs 61 1191 Q (F0 m 664 ls []) := by
  have z1 := zF_rg xs ni 1
  have z2 := zF_rg xs ni 2
  have z3 := zF_rg xs ni 3
  have z4 := zF_rg xs ni 4
  have z5 := zF_rg xs ni 5
  refine r_aload_n hC hl dL_law_664 2 rfl ?_
  refine r_aload_n hC hl dL_law_665 3 rfl ?_
  refine r_iload_n hC hl dL_law_666 0 rfl ?_
  refine r_iconst hC dL_law_667 ?_
  refine r_iadd hC dL_law_668 ?_
  refine r_sld (i := ni) (j := 1) hC hI hX hbl (by omega) (by omega) hL dL_law_669 ?_
  refine r_aload_n hC hl dL_law_670 3 rfl ?_
  refine r_iload_n hC hl dL_law_671 0 rfl ?_
  refine r_iconst hC dL_law_672 ?_
  refine r_iadd hC dL_law_673 ?_
  refine r_sld (i := ni) (j := 2) hC hI hX hbl (by omega) (by omega) hL dL_law_674 ?_
  refine r_cVi hC hI hl [.int (J (zF xs ni 1)), .int (J (zF xs ni 2))] [] (c_X6_when l X a s.heap.size S (zF xs ni 1) (zF xs ni 2) hR.1 (zF_rg _ _ _) (zF_rg _ _ _)) ml_RL_80 ev_X6_when (rc_in (S := S) hC hI) ⟨Nat.le_of_ble_eq_true rfl, Nat.le_of_ble_eq_true rfl⟩ ⟨Nat.le_of_ble_eq_true rfl, Nat.le_of_ble_eq_true rfl⟩ (Nat.le_of_ble_eq_true rfl) rfl dL_law_675 (fun H locs hI => ?_)
  obtain ⟨S1, eS1⟩ : ∃ z : St, z = fnF S 3 (if (0 ≤ (zF xs ni 1) ∧ (zF xs ni 1) ≤ 5) ∧ 1 ≤ (zF xs ni 2) ∧ (zF xs ni 2) ≤ 99 then onC ((beF (fun j => if csF (zF xs ni 1) (zF xs ni 2) ≤ iwF (S 0) (S 0 2 + S 0 1 * sumF (dkF (S 0)) j) then tkF (zF xs ni 1) (dkF (S 0) j) else -1) 12).1) else 0) (S) := ⟨_, rfl⟩
  rw [← eS1] at hI
  have hNB := n_when hR eS1
  refine r_aload_n hC hl dL_law_678 1 rfl ?_
  refine r_aload_n hC hl dL_law_679 3 rfl ?_
  refine r_iload_n hC hl dL_law_680 0 rfl ?_
  refine r_iconst hC dL_law_681 ?_
  refine r_iadd hC dL_law_682 ?_
  refine r_sld (i := ni) (j := 1) hC hI hX hbl (by omega) (by omega) hL dL_law_683 ?_
  refine r_aload_n hC hl dL_law_684 3 rfl ?_
  refine r_iload_n hC hl dL_law_685 0 rfl ?_
  refine r_iconst hC dL_law_686 ?_
  refine r_iadd hC dL_law_687 ?_
  refine r_sld (i := ni) (j := 2) hC hI hX hbl (by omega) (by omega) hL dL_law_688 ?_
  refine r_cVi hC hI hl [.int (J (zF xs ni 1)), .int (J (zF xs ni 2))] [.int (J (anF (if (0 ≤ (zF xs ni 1) ∧ (zF xs ni 1) ≤ 5) ∧ 1 ≤ (zF xs ni 2) ∧ (zF xs ni 2) ≤ 99 then onC ((beF (fun j => if csF (zF xs ni 1) (zF xs ni 2) ≤ iwF (S 0) (S 0 2 + S 0 1 * sumF (dkF (S 0)) j) then tkF (zF xs ni 1) (dkF (S 0) j) else -1) 12).1) else 0) ((beF (fun j => if csF (zF xs ni 1) (zF xs ni 2) ≤ iwF (S 0) (S 0 2 + S 0 1 * sumF (dkF (S 0)) j) then tkF (zF xs ni 1) (dkF (S 0) j) else -1) 12).1)))] (c_X7_when l X a s.heap.size S1 (zF xs ni 1) (zF xs ni 2) (by rw [hNB.1]; exact hR.1) (zF_rg _ _ _) (zF_rg _ _ _)) ml_RL_83 ev_X7_when (rc_mo (S := S1) hC hI) ⟨Nat.le_of_ble_eq_true rfl, Nat.le_of_ble_eq_true rfl⟩ ⟨Nat.le_of_ble_eq_true rfl, Nat.le_of_ble_eq_true rfl⟩ (Nat.le_of_ble_eq_true rfl) rfl dL_law_689 (fun H locs hI => ?_)
  obtain ⟨S2, eS2⟩ : ∃ z : St, z = if (0 ≤ (zF xs ni 1) ∧ (zF xs ni 1) ≤ 5) ∧ 1 ≤ (zF xs ni 2) ∧ (zF xs ni 2) ≤ 99 then fnF (setB S1 22 (S1 20)) 21 (onC ((beF (fun j => if csF (zF xs ni 1) (zF xs ni 2) ≤ iwF (S1 20) (S1 20 2 + S1 20 1 * sumF (dkF (S1 20)) j) then tkF (zF xs ni 1) (dkF (S1 20) j) else -1) 12).1)) (setB S1 22 (S1 20)) else up S1 21 0 (S1 21 0 + 1) := ⟨_, rfl⟩
  rw [← eS2] at hI
  obtain ⟨han, hR2⟩ := s_when hR eS1 eS2
  refine r_same (tgt := 1288) hC han dL_law_692 (by decide) ?_
  exact hK S2 _ _ _ hR2 hI hl

set_option maxHeartbeats 4000000 in
set_option maxRecDepth 100000 in
theorem law_shade {p : Program} {l : Launch} {e : Env} {s : State} {m : MethodId} {below : List Frame} {meth : Method} {c : Code} {Q : State → Prop} {X : XT} {a : Nat → Nat} {b L ni : Nat} {xs : Nat → Int32} (hC : Cx p c cL_law 4 s m #[Value.ref b] RL X s.heap.size) (hX : va_X b L xs s s.heap) (hbl : b < s.heap.size) (hL : L ≤ 3072) (hi : 6 * ni + 6 ≤ L) (hK : LK p l e s m below meth c Q X a b ni) {S : St} (hR : Rel S) {H : Heap} {locs : List Loc} {ls : Array Slot} (hI : IS X a s.heap.size s S H locs) (hl : lv_has ls 4 (lvL a b ni)) : W p l e room_1 s m #[Value.ref b] below meth c H locs 61 1191 Q (F0 m 697 ls []) := by
  have z1 := zF_rg xs ni 1
  have z2 := zF_rg xs ni 2
  have z3 := zF_rg xs ni 3
  have z4 := zF_rg xs ni 4
  have z5 := zF_rg xs ni 5
  refine r_aload_n hC hl dL_law_697 2 rfl ?_
  refine r_aload_n hC hl dL_law_698 3 rfl ?_
  refine r_iload_n hC hl dL_law_699 0 rfl ?_
  refine r_iconst hC dL_law_700 ?_
  refine r_iadd hC dL_law_701 ?_
  refine r_sld (i := ni) (j := 1) hC hI hX hbl (by omega) (by omega) hL dL_law_702 ?_
  refine r_cVi hC hI hl [.int (J (zF xs ni 1))] [] (c_X6_shade l X a s.heap.size S (zF xs ni 1) hR.1 (zF_rg _ _ _)) ml_RL_84 ev_X6_shade (rc_in (S := S) hC hI) ⟨Nat.le_of_ble_eq_true rfl, Nat.le_of_ble_eq_true rfl⟩ ⟨Nat.le_of_ble_eq_true rfl, Nat.le_of_ble_eq_true rfl⟩ (Nat.le_of_ble_eq_true rfl) rfl dL_law_703 (fun H locs hI => ?_)
  obtain ⟨S1, eS1⟩ : ∃ z : St, z = if 1 ≤ (zF xs ni 1) ∧ (zF xs ni 1) ≤ 60 then fnF (setB S (8 + 0) (meF (S 0) (zF xs ni 1) (S (8 + 0)) (S 0 5).toNat)) 3 (onC (bsF (fun j => decide (S 0 (21 + 5 * j) = 1)) (stD (S 0) (zF xs ni 1)) (S 0 5).toNat)) (setB S (8 + 0) (meF (S 0) (zF xs ni 1) (S (8 + 0)) (S 0 5).toNat)) else up S 3 0 (S 3 0 + 1) := ⟨_, rfl⟩
  rw [← eS1] at hI
  have hNB := n_shade hR eS1
  refine r_aload_n hC hl dL_law_706 1 rfl ?_
  refine r_aload_n hC hl dL_law_707 3 rfl ?_
  refine r_iload_n hC hl dL_law_708 0 rfl ?_
  refine r_iconst hC dL_law_709 ?_
  refine r_iadd hC dL_law_710 ?_
  refine r_sld (i := ni) (j := 1) hC hI hX hbl (by omega) (by omega) hL dL_law_711 ?_
  refine r_cVi hC hI hl [.int (J (zF xs ni 1))] [.int (J (anF (if 1 ≤ (zF xs ni 1) ∧ (zF xs ni 1) ≤ 60 then onC (bsF (fun j => decide (S 0 (21 + 5 * j) = 1)) (stD (S 0) (zF xs ni 1)) (S 0 5).toNat) else 0) (bsF (fun j => decide (S 0 (21 + 5 * j) = 1)) (stD (S 0) (zF xs ni 1)) (S 0 5).toNat)))] (c_X7_shade l X a s.heap.size S1 (zF xs ni 1) (by rw [hNB.1]; exact hR.1) (zF_rg _ _ _)) ml_RL_87 ev_X7_shade (rc_mo (S := S1) hC hI) ⟨Nat.le_of_ble_eq_true rfl, Nat.le_of_ble_eq_true rfl⟩ ⟨Nat.le_of_ble_eq_true rfl, Nat.le_of_ble_eq_true rfl⟩ (Nat.le_of_ble_eq_true rfl) rfl dL_law_712 (fun H locs hI => ?_)
  obtain ⟨S2, eS2⟩ : ∃ z : St, z = if 1 ≤ (zF xs ni 1) ∧ (zF xs ni 1) ≤ 60 then fnF (setB S1 22 (S1 20)) 21 (onC (bsF (fun j => decide (S1 20 (21 + 5 * j) = 1)) (stD (S1 20) (zF xs ni 1)) (S1 20 5).toNat)) (setB S1 22 (S1 20)) else up S1 21 0 (S1 21 0 + 1) := ⟨_, rfl⟩
  rw [← eS2] at hI
  obtain ⟨han, hR2⟩ := s_shade hR eS1 eS2
  refine r_same (tgt := 1288) hC han dL_law_715 (by decide) ?_
  exact hK S2 _ _ _ hR2 hI hl

set_option maxHeartbeats 4000000 in
set_option maxRecDepth 100000 in
theorem law_enough {p : Program} {l : Launch} {e : Env} {s : State} {m : MethodId} {below : List Frame} {meth : Method} {c : Code} {Q : State → Prop} {X : XT} {a : Nat → Nat} {b L ni : Nat} {xs : Nat → Int32} (hC : Cx p c cL_law 4 s m #[Value.ref b] RL X s.heap.size) (hX : va_X b L xs s s.heap) (hbl : b < s.heap.size) (hL : L ≤ 3072) (hi : 6 * ni + 6 ≤ L) (hK : LK p l e s m below meth c Q X a b ni) {S : St} (hR : Rel S) {H : Heap} {locs : List Loc} {ls : Array Slot} (hI : IS X a s.heap.size s S H locs) (hl : lv_has ls 4 (lvL a b ni)) : W p l e room_1 s m #[Value.ref b] below meth c H locs 61 1191 Q (F0 m 720 ls []) := by
  have z1 := zF_rg xs ni 1
  have z2 := zF_rg xs ni 2
  have z3 := zF_rg xs ni 3
  have z4 := zF_rg xs ni 4
  have z5 := zF_rg xs ni 5
  refine r_aload_n hC hl dL_law_720 2 rfl ?_
  refine r_aload_n hC hl dL_law_721 3 rfl ?_
  refine r_iload_n hC hl dL_law_722 0 rfl ?_
  refine r_iconst hC dL_law_723 ?_
  refine r_iadd hC dL_law_724 ?_
  refine r_sld (i := ni) (j := 1) hC hI hX hbl (by omega) (by omega) hL dL_law_725 ?_
  refine r_aload_n hC hl dL_law_726 3 rfl ?_
  refine r_iload_n hC hl dL_law_727 0 rfl ?_
  refine r_iconst hC dL_law_728 ?_
  refine r_iadd hC dL_law_729 ?_
  refine r_sld (i := ni) (j := 2) hC hI hX hbl (by omega) (by omega) hL dL_law_730 ?_
  refine r_cVi hC hI hl [.int (J (zF xs ni 1)), .int (J (zF xs ni 2))] [] (c_X6_enough l X a s.heap.size S (zF xs ni 1) (zF xs ni 2) hR.1 (zF_rg _ _ _) (zF_rg _ _ _)) ml_RL_88 ev_X6_enough (rc_in (S := S) hC hI) ⟨Nat.le_of_ble_eq_true rfl, Nat.le_of_ble_eq_true rfl⟩ ⟨Nat.le_of_ble_eq_true rfl, Nat.le_of_ble_eq_true rfl⟩ (Nat.le_of_ble_eq_true rfl) rfl dL_law_731 (fun H locs hI => ?_)
  obtain ⟨S1, eS1⟩ : ∃ z : St, z = fnF S 3 (if (1 ≤ (zF xs ni 1) ∧ (zF xs ni 1) ≤ 60) ∧ 0 ≤ (zF xs ni 2) ∧ (zF xs ni 2) ≤ 999 then onC (fsF (fun j => decide ((zF xs ni 2) ≤ iwF (S 0) (S 0 2 + (j : Int) * sumF (dkF (S 0)) (zF xs ni 1).toNat))) 10 0) else 0) (S) := ⟨_, rfl⟩
  rw [← eS1] at hI
  have hNB := n_enough hR eS1
  refine r_aload_n hC hl dL_law_734 1 rfl ?_
  refine r_aload_n hC hl dL_law_735 3 rfl ?_
  refine r_iload_n hC hl dL_law_736 0 rfl ?_
  refine r_iconst hC dL_law_737 ?_
  refine r_iadd hC dL_law_738 ?_
  refine r_sld (i := ni) (j := 1) hC hI hX hbl (by omega) (by omega) hL dL_law_739 ?_
  refine r_aload_n hC hl dL_law_740 3 rfl ?_
  refine r_iload_n hC hl dL_law_741 0 rfl ?_
  refine r_iconst hC dL_law_742 ?_
  refine r_iadd hC dL_law_743 ?_
  refine r_sld (i := ni) (j := 2) hC hI hX hbl (by omega) (by omega) hL dL_law_744 ?_
  refine r_cVi hC hI hl [.int (J (zF xs ni 1)), .int (J (zF xs ni 2))] [.int (J (anF (if (1 ≤ (zF xs ni 1) ∧ (zF xs ni 1) ≤ 60) ∧ 0 ≤ (zF xs ni 2) ∧ (zF xs ni 2) ≤ 999 then onC (fsF (fun j => decide ((zF xs ni 2) ≤ iwF (S 0) (S 0 2 + (j : Int) * sumF (dkF (S 0)) (zF xs ni 1).toNat))) 10 0) else 0) (fsF (fun j => decide ((zF xs ni 2) ≤ iwF (S 0) (S 0 2 + (j : Int) * sumF (dkF (S 0)) (zF xs ni 1).toNat))) 10 0)))] (c_X7_enough l X a s.heap.size S1 (zF xs ni 1) (zF xs ni 2) (by rw [hNB.1]; exact hR.1) (zF_rg _ _ _) (zF_rg _ _ _)) ml_RL_91 ev_X7_enough (rc_mo (S := S1) hC hI) ⟨Nat.le_of_ble_eq_true rfl, Nat.le_of_ble_eq_true rfl⟩ ⟨Nat.le_of_ble_eq_true rfl, Nat.le_of_ble_eq_true rfl⟩ (Nat.le_of_ble_eq_true rfl) rfl dL_law_745 (fun H locs hI => ?_)
  obtain ⟨S2, eS2⟩ : ∃ z : St, z = if (1 ≤ (zF xs ni 1) ∧ (zF xs ni 1) ≤ 60) ∧ 0 ≤ (zF xs ni 2) ∧ (zF xs ni 2) ≤ 999 then fnF (setB S1 22 (S1 20)) 21 (onC (fsF (fun j => decide ((zF xs ni 2) ≤ iwF (S1 20) (S1 20 2 + (j : Int) * sumF (dkF (S1 20)) (zF xs ni 1).toNat))) 10 0)) (setB S1 22 (S1 20)) else up S1 21 0 (S1 21 0 + 1) := ⟨_, rfl⟩
  rw [← eS2] at hI
  obtain ⟨han, hR2⟩ := s_enough hR eS1 eS2
  refine r_same (tgt := 1288) hC han dL_law_748 (by decide) ?_
  exact hK S2 _ _ _ hR2 hI hl

set_option maxHeartbeats 4000000 in
set_option maxRecDepth 100000 in
theorem law_kind {p : Program} {l : Launch} {e : Env} {s : State} {m : MethodId} {below : List Frame} {meth : Method} {c : Code} {Q : State → Prop} {X : XT} {a : Nat → Nat} {b L ni : Nat} {xs : Nat → Int32} (hC : Cx p c cL_law 4 s m #[Value.ref b] RL X s.heap.size) (hX : va_X b L xs s s.heap) (hbl : b < s.heap.size) (hL : L ≤ 3072) (hi : 6 * ni + 6 ≤ L) (hK : LK p l e s m below meth c Q X a b ni) {S : St} (hR : Rel S) {H : Heap} {locs : List Loc} {ls : Array Slot} (hI : IS X a s.heap.size s S H locs) (hl : lv_has ls 4 (lvL a b ni)) : W p l e room_1 s m #[Value.ref b] below meth c H locs 61 1191 Q (F0 m 753 ls []) := by
  have z1 := zF_rg xs ni 1
  have z2 := zF_rg xs ni 2
  have z3 := zF_rg xs ni 3
  have z4 := zF_rg xs ni 4
  have z5 := zF_rg xs ni 5
  refine r_aload_n hC hl dL_law_753 2 rfl ?_
  refine r_aload_n hC hl dL_law_754 3 rfl ?_
  refine r_iload_n hC hl dL_law_755 0 rfl ?_
  refine r_iconst hC dL_law_756 ?_
  refine r_iadd hC dL_law_757 ?_
  refine r_sld (i := ni) (j := 1) hC hI hX hbl (by omega) (by omega) hL dL_law_758 ?_
  refine r_aload_n hC hl dL_law_759 3 rfl ?_
  refine r_iload_n hC hl dL_law_760 0 rfl ?_
  refine r_iconst hC dL_law_761 ?_
  refine r_iadd hC dL_law_762 ?_
  refine r_sld (i := ni) (j := 2) hC hI hX hbl (by omega) (by omega) hL dL_law_763 ?_
  refine r_cVi hC hI hl [.int (J (zF xs ni 1)), .int (J (zF xs ni 2))] [] (c_X6_kind l X a s.heap.size S (zF xs ni 1) (zF xs ni 2) hR.1 (zF_rg _ _ _) (zF_rg _ _ _)) ml_RL_92 ev_X6_kind (rc_in (S := S) hC hI) ⟨Nat.le_of_ble_eq_true rfl, Nat.le_of_ble_eq_true rfl⟩ ⟨Nat.le_of_ble_eq_true rfl, Nat.le_of_ble_eq_true rfl⟩ (Nat.le_of_ble_eq_true rfl) rfl dL_law_764 (fun H locs hI => ?_)
  obtain ⟨S1, eS1⟩ : ∃ z : St, z = fnF S 3 (if (0 ≤ (zF xs ni 1) ∧ (zF xs ni 1) < S 0 5) ∧ 0 ≤ (zF xs ni 2) ∧ (zF xs ni 2) ≤ 60 then -1 else 0) (S) := ⟨_, rfl⟩
  rw [← eS1] at hI
  have hNB := n_kind hR eS1
  refine r_aload_n hC hl dL_law_767 1 rfl ?_
  refine r_aload_n hC hl dL_law_768 3 rfl ?_
  refine r_iload_n hC hl dL_law_769 0 rfl ?_
  refine r_iconst hC dL_law_770 ?_
  refine r_iadd hC dL_law_771 ?_
  refine r_sld (i := ni) (j := 1) hC hI hX hbl (by omega) (by omega) hL dL_law_772 ?_
  refine r_aload_n hC hl dL_law_773 3 rfl ?_
  refine r_iload_n hC hl dL_law_774 0 rfl ?_
  refine r_iconst hC dL_law_775 ?_
  refine r_iadd hC dL_law_776 ?_
  refine r_sld (i := ni) (j := 2) hC hI hX hbl (by omega) (by omega) hL dL_law_777 ?_
  refine r_cVi hC hI hl [.int (J (zF xs ni 1)), .int (J (zF xs ni 2))] [.int (J (anF (if (0 ≤ (zF xs ni 1) ∧ (zF xs ni 1) < S 0 5) ∧ 0 ≤ (zF xs ni 2) ∧ (zF xs ni 2) ≤ 60 then -1 else 0) ((beF (fun j => blA (S 0) (zF xs ni 1).toNat (j : Int) (S 0 (21 + 5 * (zF xs ni 1).toNat)) (zF xs ni 2) (S 0 4)) 6).1)))] (c_X7_kind l X a s.heap.size S1 (zF xs ni 1) (zF xs ni 2) (by rw [hNB.1]; exact hR.1) (zF_rg _ _ _) (zF_rg _ _ _)) ml_RL_95 ev_X7_kind (rc_mo (S := S1) hC hI) ⟨Nat.le_of_ble_eq_true rfl, Nat.le_of_ble_eq_true rfl⟩ ⟨Nat.le_of_ble_eq_true rfl, Nat.le_of_ble_eq_true rfl⟩ (Nat.le_of_ble_eq_true rfl) rfl dL_law_778 (fun H locs hI => ?_)
  obtain ⟨S2, eS2⟩ : ∃ z : St, z = fnF S1 21 (if (0 ≤ (zF xs ni 1) ∧ (zF xs ni 1) < S1 20 5) ∧ 0 ≤ (zF xs ni 2) ∧ (zF xs ni 2) ≤ 60 then -1 else 0) (setB S1 22 (S1 20)) := ⟨_, rfl⟩
  rw [← eS2] at hI
  obtain ⟨han, hR2⟩ := s_kind hR eS1 eS2
  refine r_same (tgt := 1288) hC han dL_law_781 (by decide) ?_
  exact hK S2 _ _ _ hR2 hI hl

set_option maxHeartbeats 4000000 in
set_option maxRecDepth 100000 in
theorem law_lamp {p : Program} {l : Launch} {e : Env} {s : State} {m : MethodId} {below : List Frame} {meth : Method} {c : Code} {Q : State → Prop} {X : XT} {a : Nat → Nat} {b L ni : Nat} {xs : Nat → Int32} (hC : Cx p c cL_law 4 s m #[Value.ref b] RL X s.heap.size) (hX : va_X b L xs s s.heap) (hbl : b < s.heap.size) (hL : L ≤ 3072) (hi : 6 * ni + 6 ≤ L) (hK : LK p l e s m below meth c Q X a b ni) {S : St} (hR : Rel S) {H : Heap} {locs : List Loc} {ls : Array Slot} (hI : IS X a s.heap.size s S H locs) (hl : lv_has ls 4 (lvL a b ni)) : W p l e room_1 s m #[Value.ref b] below meth c H locs 61 1191 Q (F0 m 786 ls []) := by
  have z1 := zF_rg xs ni 1
  have z2 := zF_rg xs ni 2
  have z3 := zF_rg xs ni 3
  have z4 := zF_rg xs ni 4
  have z5 := zF_rg xs ni 5
  refine r_aload_n hC hl dL_law_786 2 rfl ?_
  refine r_aload_n hC hl dL_law_787 3 rfl ?_
  refine r_iload_n hC hl dL_law_788 0 rfl ?_
  refine r_iconst hC dL_law_789 ?_
  refine r_iadd hC dL_law_790 ?_
  refine r_sld (i := ni) (j := 1) hC hI hX hbl (by omega) (by omega) hL dL_law_791 ?_
  refine r_aload_n hC hl dL_law_792 3 rfl ?_
  refine r_iload_n hC hl dL_law_793 0 rfl ?_
  refine r_iconst hC dL_law_794 ?_
  refine r_iadd hC dL_law_795 ?_
  refine r_sld (i := ni) (j := 2) hC hI hX hbl (by omega) (by omega) hL dL_law_796 ?_
  refine r_cVi hC hI hl [.int (J (zF xs ni 1)), .int (J (zF xs ni 2))] [] (c_X6_lamp l X a s.heap.size S (zF xs ni 1) (zF xs ni 2) hR.1 (zF_rg _ _ _) (zF_rg _ _ _)) ml_RL_96 ev_X6_lamp (rc_in (S := S) hC hI) ⟨Nat.le_of_ble_eq_true rfl, Nat.le_of_ble_eq_true rfl⟩ ⟨Nat.le_of_ble_eq_true rfl, Nat.le_of_ble_eq_true rfl⟩ (Nat.le_of_ble_eq_true rfl) rfl dL_law_797 (fun H locs hI => ?_)
  obtain ⟨S1, eS1⟩ : ∃ z : St, z = fnF S 3 (if (0 ≤ (zF xs ni 1) ∧ (zF xs ni 1) ≤ 60) ∧ 0 ≤ (zF xs ni 2) ∧ (zF xs ni 2) ≤ 9999 then onC (fsF (fun j => decide ((zF xs ni 2) ≤ sumF (fun i => blP (S 0) i (zF xs ni 1) (j : Int)) (S 0 5).toNat)) 10 0) else 0) (S) := ⟨_, rfl⟩
  rw [← eS1] at hI
  have hNB := n_lamp hR eS1
  refine r_aload_n hC hl dL_law_800 1 rfl ?_
  refine r_aload_n hC hl dL_law_801 3 rfl ?_
  refine r_iload_n hC hl dL_law_802 0 rfl ?_
  refine r_iconst hC dL_law_803 ?_
  refine r_iadd hC dL_law_804 ?_
  refine r_sld (i := ni) (j := 1) hC hI hX hbl (by omega) (by omega) hL dL_law_805 ?_
  refine r_aload_n hC hl dL_law_806 3 rfl ?_
  refine r_iload_n hC hl dL_law_807 0 rfl ?_
  refine r_iconst hC dL_law_808 ?_
  refine r_iadd hC dL_law_809 ?_
  refine r_sld (i := ni) (j := 2) hC hI hX hbl (by omega) (by omega) hL dL_law_810 ?_
  refine r_cVi hC hI hl [.int (J (zF xs ni 1)), .int (J (zF xs ni 2))] [.int (J (anF (if (0 ≤ (zF xs ni 1) ∧ (zF xs ni 1) ≤ 60) ∧ 0 ≤ (zF xs ni 2) ∧ (zF xs ni 2) ≤ 9999 then onC (fsF (fun j => decide ((zF xs ni 2) ≤ sumF (fun i => blP (S 0) i (zF xs ni 1) (j : Int)) (S 0 5).toNat)) 10 0) else 0) (fsF (fun j => decide ((zF xs ni 2) ≤ sumF (fun i => blP (S 0) i (zF xs ni 1) (j : Int)) (S 0 5).toNat)) 10 0)))] (c_X7_lamp l X a s.heap.size S1 (zF xs ni 1) (zF xs ni 2) (by rw [hNB.1]; exact hR.1) (zF_rg _ _ _) (zF_rg _ _ _)) ml_RL_99 ev_X7_lamp (rc_mo (S := S1) hC hI) ⟨Nat.le_of_ble_eq_true rfl, Nat.le_of_ble_eq_true rfl⟩ ⟨Nat.le_of_ble_eq_true rfl, Nat.le_of_ble_eq_true rfl⟩ (Nat.le_of_ble_eq_true rfl) rfl dL_law_811 (fun H locs hI => ?_)
  obtain ⟨S2, eS2⟩ : ∃ z : St, z = if (0 ≤ (zF xs ni 1) ∧ (zF xs ni 1) ≤ 60) ∧ 0 ≤ (zF xs ni 2) ∧ (zF xs ni 2) ≤ 9999 then fnF (setB S1 22 (S1 20)) 21 (onC (fsF (fun j => decide ((zF xs ni 2) ≤ sumF (fun i => blP (S1 20) i (zF xs ni 1) (j : Int)) (S1 20 5).toNat)) 10 0)) (setB S1 22 (S1 20)) else up S1 21 0 (S1 21 0 + 1) := ⟨_, rfl⟩
  rw [← eS2] at hI
  obtain ⟨han, hR2⟩ := s_lamp hR eS1 eS2
  refine r_same (tgt := 1288) hC han dL_law_814 (by decide) ?_
  exact hK S2 _ _ _ hR2 hI hl

set_option maxHeartbeats 4000000 in
set_option maxRecDepth 100000 in
theorem law_longest {p : Program} {l : Launch} {e : Env} {s : State} {m : MethodId} {below : List Frame} {meth : Method} {c : Code} {Q : State → Prop} {X : XT} {a : Nat → Nat} {b L ni : Nat} {xs : Nat → Int32} (hC : Cx p c cL_law 4 s m #[Value.ref b] RL X s.heap.size) (hX : va_X b L xs s s.heap) (hbl : b < s.heap.size) (hL : L ≤ 3072) (hi : 6 * ni + 6 ≤ L) (hK : LK p l e s m below meth c Q X a b ni) {S : St} (hR : Rel S) {H : Heap} {locs : List Loc} {ls : Array Slot} (hI : IS X a s.heap.size s S H locs) (hl : lv_has ls 4 (lvL a b ni)) : W p l e room_1 s m #[Value.ref b] below meth c H locs 61 1191 Q (F0 m 819 ls []) := by
  have z1 := zF_rg xs ni 1
  have z2 := zF_rg xs ni 2
  have z3 := zF_rg xs ni 3
  have z4 := zF_rg xs ni 4
  have z5 := zF_rg xs ni 5
  refine r_aload_n hC hl dL_law_819 2 rfl ?_
  refine r_aload_n hC hl dL_law_820 3 rfl ?_
  refine r_iload_n hC hl dL_law_821 0 rfl ?_
  refine r_iconst hC dL_law_822 ?_
  refine r_iadd hC dL_law_823 ?_
  refine r_sld (i := ni) (j := 1) hC hI hX hbl (by omega) (by omega) hL dL_law_824 ?_
  refine r_cVi hC hI hl [.int (J (zF xs ni 1))] [] (c_X6_longest l X a s.heap.size S (zF xs ni 1) hR.1 (zF_rg _ _ _)) ml_RL_100 ev_X6_longest (rc_in (S := S) hC hI) ⟨Nat.le_of_ble_eq_true rfl, Nat.le_of_ble_eq_true rfl⟩ ⟨Nat.le_of_ble_eq_true rfl, Nat.le_of_ble_eq_true rfl⟩ (Nat.le_of_ble_eq_true rfl) rfl dL_law_825 (fun H locs hI => ?_)
  obtain ⟨S1, eS1⟩ : ∃ z : St, z = fnF S 3 (if ¬ (0 ≤ (zF xs ni 1) ∧ (zF xs ni 1) ≤ 5) then 0 else if 8 ≤ S 0 5 then 1 else onC (dwF (fun q => decide (csF (zF xs ni 1) (q : Int) ≤ S 0 3)) 99)) (S) := ⟨_, rfl⟩
  rw [← eS1] at hI
  have hNB := n_longest hR eS1
  refine r_aload_n hC hl dL_law_828 1 rfl ?_
  refine r_aload_n hC hl dL_law_829 3 rfl ?_
  refine r_iload_n hC hl dL_law_830 0 rfl ?_
  refine r_iconst hC dL_law_831 ?_
  refine r_iadd hC dL_law_832 ?_
  refine r_sld (i := ni) (j := 1) hC hI hX hbl (by omega) (by omega) hL dL_law_833 ?_
  refine r_cVi hC hI hl [.int (J (zF xs ni 1))] [.int (J (anF (if ¬ (0 ≤ (zF xs ni 1) ∧ (zF xs ni 1) ≤ 5) then 0 else if 8 ≤ S 0 5 then 1 else onC (dwF (fun q => decide (csF (zF xs ni 1) (q : Int) ≤ S 0 3)) 99)) (dwF (fun q => decide (csF (zF xs ni 1) (q : Int) ≤ S 0 3)) 99)))] (c_X7_longest l X a s.heap.size S1 (zF xs ni 1) (by rw [hNB.1]; exact hR.1) (zF_rg _ _ _)) ml_RL_103 ev_X7_longest (rc_mo (S := S1) hC hI) ⟨Nat.le_of_ble_eq_true rfl, Nat.le_of_ble_eq_true rfl⟩ ⟨Nat.le_of_ble_eq_true rfl, Nat.le_of_ble_eq_true rfl⟩ (Nat.le_of_ble_eq_true rfl) rfl dL_law_834 (fun H locs hI => ?_)
  obtain ⟨S2, eS2⟩ : ∃ z : St, z = fnF S1 21 (if ¬ (0 ≤ (zF xs ni 1) ∧ (zF xs ni 1) ≤ 5) then 0 else if 8 ≤ S1 20 5 then 1 else onC (dwF (fun q => decide (csF (zF xs ni 1) (q : Int) ≤ S1 20 3)) 99)) (S1) := ⟨_, rfl⟩
  rw [← eS2] at hI
  obtain ⟨han, hR2⟩ := s_longest hR eS1 eS2
  refine r_same (tgt := 1288) hC han dL_law_837 (by decide) ?_
  exact hK S2 _ _ _ hR2 hI hl

set_option maxHeartbeats 4000000 in
set_option maxRecDepth 100000 in
theorem law_sunny {p : Program} {l : Launch} {e : Env} {s : State} {m : MethodId} {below : List Frame} {meth : Method} {c : Code} {Q : State → Prop} {X : XT} {a : Nat → Nat} {b L ni : Nat} {xs : Nat → Int32} (hC : Cx p c cL_law 4 s m #[Value.ref b] RL X s.heap.size) (hX : va_X b L xs s s.heap) (hbl : b < s.heap.size) (hL : L ≤ 3072) (hi : 6 * ni + 6 ≤ L) (hK : LK p l e s m below meth c Q X a b ni) {S : St} (hR : Rel S) {H : Heap} {locs : List Loc} {ls : Array Slot} (hI : IS X a s.heap.size s S H locs) (hl : lv_has ls 4 (lvL a b ni)) : W p l e room_1 s m #[Value.ref b] below meth c H locs 61 1191 Q (F0 m 842 ls []) := by
  have z1 := zF_rg xs ni 1
  have z2 := zF_rg xs ni 2
  have z3 := zF_rg xs ni 3
  have z4 := zF_rg xs ni 4
  have z5 := zF_rg xs ni 5
  refine r_aload_n hC hl dL_law_842 2 rfl ?_
  refine r_aload_n hC hl dL_law_843 3 rfl ?_
  refine r_iload_n hC hl dL_law_844 0 rfl ?_
  refine r_iconst hC dL_law_845 ?_
  refine r_iadd hC dL_law_846 ?_
  refine r_sld (i := ni) (j := 1) hC hI hX hbl (by omega) (by omega) hL dL_law_847 ?_
  refine r_aload_n hC hl dL_law_848 3 rfl ?_
  refine r_iload_n hC hl dL_law_849 0 rfl ?_
  refine r_iconst hC dL_law_850 ?_
  refine r_iadd hC dL_law_851 ?_
  refine r_sld (i := ni) (j := 2) hC hI hX hbl (by omega) (by omega) hL dL_law_852 ?_
  refine r_cVi hC hI hl [.int (J (zF xs ni 1)), .int (J (zF xs ni 2))] [] (c_X6_sunny l X a s.heap.size S (zF xs ni 1) (zF xs ni 2) hR.1 (zF_rg _ _ _) (zF_rg _ _ _)) ml_RL_104 ev_X6_sunny (rc_in (S := S) hC hI) ⟨Nat.le_of_ble_eq_true rfl, Nat.le_of_ble_eq_true rfl⟩ ⟨Nat.le_of_ble_eq_true rfl, Nat.le_of_ble_eq_true rfl⟩ (Nat.le_of_ble_eq_true rfl) rfl dL_law_853 (fun H locs hI => ?_)
  obtain ⟨S1, eS1⟩ : ∃ z : St, z = if (1 ≤ (zF xs ni 1) ∧ (zF xs ni 1) ≤ 20) ∧ 0 ≤ (zF xs ni 2) ∧ (zF xs ni 2) ≤ 9999 then fnF (setB S (8 + 0) (meF (S 0) (zF xs ni 1) (S (8 + 0)) (S 0 5).toNat)) 3 (onC (msF (fun m1 => decide ((zF xs ni 2) ≤ sumF (fun j => blA (S 0) j (S 0 (18 + 5 * j)) 0 (zF xs ni 1) (S 0 4)) (S 0 5).toNat - tkS (stD (S 0) (zF xs ni 1)) m1 (S 0 5).toNat)) (2 ^ (S 0 5).toNat))) (setB S (8 + 0) (meF (S 0) (zF xs ni 1) (S (8 + 0)) (S 0 5).toNat)) else up S 3 0 (S 3 0 + 1) := ⟨_, rfl⟩
  rw [← eS1] at hI
  have hNB := n_sunny hR eS1
  refine r_aload_n hC hl dL_law_856 1 rfl ?_
  refine r_aload_n hC hl dL_law_857 3 rfl ?_
  refine r_iload_n hC hl dL_law_858 0 rfl ?_
  refine r_iconst hC dL_law_859 ?_
  refine r_iadd hC dL_law_860 ?_
  refine r_sld (i := ni) (j := 1) hC hI hX hbl (by omega) (by omega) hL dL_law_861 ?_
  refine r_aload_n hC hl dL_law_862 3 rfl ?_
  refine r_iload_n hC hl dL_law_863 0 rfl ?_
  refine r_iconst hC dL_law_864 ?_
  refine r_iadd hC dL_law_865 ?_
  refine r_sld (i := ni) (j := 2) hC hI hX hbl (by omega) (by omega) hL dL_law_866 ?_
  refine r_cVi hC hI hl [.int (J (zF xs ni 1)), .int (J (zF xs ni 2))] [.int (J (anF (if (1 ≤ (zF xs ni 1) ∧ (zF xs ni 1) ≤ 20) ∧ 0 ≤ (zF xs ni 2) ∧ (zF xs ni 2) ≤ 9999 then onC (msF (fun m1 => decide ((zF xs ni 2) ≤ sumF (fun j => blA (S 0) j (S 0 (18 + 5 * j)) 0 (zF xs ni 1) (S 0 4)) (S 0 5).toNat - tkS (stD (S 0) (zF xs ni 1)) m1 (S 0 5).toNat)) (2 ^ (S 0 5).toNat)) else 0) (msF (fun m1 => decide ((zF xs ni 2) ≤ sumF (fun j => blA (S 0) j (S 0 (18 + 5 * j)) 0 (zF xs ni 1) (S 0 4)) (S 0 5).toNat - tkS (stD (S 0) (zF xs ni 1)) m1 (S 0 5).toNat)) (2 ^ (S 0 5).toNat))))] (c_X7_sunny l X a s.heap.size S1 (zF xs ni 1) (zF xs ni 2) (by rw [hNB.1]; exact hR.1) (zF_rg _ _ _) (zF_rg _ _ _)) ml_RL_107 ev_X7_sunny (rc_mo (S := S1) hC hI) ⟨Nat.le_of_ble_eq_true rfl, Nat.le_of_ble_eq_true rfl⟩ ⟨Nat.le_of_ble_eq_true rfl, Nat.le_of_ble_eq_true rfl⟩ (Nat.le_of_ble_eq_true rfl) rfl dL_law_867 (fun H locs hI => ?_)
  obtain ⟨S2, eS2⟩ : ∃ z : St, z = if (1 ≤ (zF xs ni 1) ∧ (zF xs ni 1) ≤ 20) ∧ 0 ≤ (zF xs ni 2) ∧ (zF xs ni 2) ≤ 9999 then fnF (setB S1 22 (S1 20)) 21 (onC (msF (fun m1 => decide ((zF xs ni 2) ≤ sumF (fun j => blA (S1 20) j (S1 20 (18 + 5 * j)) 0 (zF xs ni 1) (S1 20 4)) (S1 20 5).toNat - tkS (stD (S1 20) (zF xs ni 1)) m1 (S1 20 5).toNat)) (2 ^ (S1 20 5).toNat))) (setB S1 22 (S1 20)) else up S1 21 0 (S1 21 0 + 1) := ⟨_, rfl⟩
  rw [← eS2] at hI
  obtain ⟨han, hR2⟩ := s_sunny hR eS1 eS2
  refine r_same (tgt := 1288) hC han dL_law_870 (by decide) ?_
  exact hK S2 _ _ _ hR2 hI hl

set_option maxHeartbeats 4000000 in
set_option maxRecDepth 100000 in
theorem law_feed {p : Program} {l : Launch} {e : Env} {s : State} {m : MethodId} {below : List Frame} {meth : Method} {c : Code} {Q : State → Prop} {X : XT} {a : Nat → Nat} {b L ni : Nat} {xs : Nat → Int32} (hC : Cx p c cL_law 4 s m #[Value.ref b] RL X s.heap.size) (hX : va_X b L xs s s.heap) (hbl : b < s.heap.size) (hL : L ≤ 3072) (hi : 6 * ni + 6 ≤ L) (hK : LK p l e s m below meth c Q X a b ni) {S : St} (hR : Rel S) {H : Heap} {locs : List Loc} {ls : Array Slot} (hI : IS X a s.heap.size s S H locs) (hl : lv_has ls 4 (lvL a b ni)) : W p l e room_1 s m #[Value.ref b] below meth c H locs 61 1191 Q (F0 m 875 ls []) := by
  have z1 := zF_rg xs ni 1
  have z2 := zF_rg xs ni 2
  have z3 := zF_rg xs ni 3
  have z4 := zF_rg xs ni 4
  have z5 := zF_rg xs ni 5
  refine r_aload_n hC hl dL_law_875 2 rfl ?_
  refine r_aload_n hC hl dL_law_876 3 rfl ?_
  refine r_iload_n hC hl dL_law_877 0 rfl ?_
  refine r_iconst hC dL_law_878 ?_
  refine r_iadd hC dL_law_879 ?_
  refine r_sld (i := ni) (j := 1) hC hI hX hbl (by omega) (by omega) hL dL_law_880 ?_
  refine r_aload_n hC hl dL_law_881 3 rfl ?_
  refine r_iload_n hC hl dL_law_882 0 rfl ?_
  refine r_iconst hC dL_law_883 ?_
  refine r_iadd hC dL_law_884 ?_
  refine r_sld (i := ni) (j := 2) hC hI hX hbl (by omega) (by omega) hL dL_law_885 ?_
  refine r_cVi hC hI hl [.int (J (zF xs ni 1)), .int (J (zF xs ni 2))] [] (c_X6_feed l X a s.heap.size S (zF xs ni 1) (zF xs ni 2) hR.1 (zF_rg _ _ _) (zF_rg _ _ _) hR.2.2.2.2.2.1) ml_RL_108 ev_X6_feed (rc_in (S := S) hC hI) ⟨Nat.le_of_ble_eq_true rfl, Nat.le_of_ble_eq_true rfl⟩ ⟨Nat.le_of_ble_eq_true rfl, Nat.le_of_ble_eq_true rfl⟩ (Nat.le_of_ble_eq_true rfl) rfl dL_law_886 (fun H locs hI => ?_)
  obtain ⟨S1, eS1⟩ : ∃ z : St, z = fnF S 3 (if ¬ (1 ≤ (zF xs ni 2) ∧ (zF xs ni 2) ≤ 4) then 0 else if 120 < S 5 0 + (zF xs ni 2) then 1 else -1) (up (setB S 4 (sgF (S 4) (fun z => byF (zF xs ni 1) (8 * ((zF xs ni 2) - 1 - (z : Int)))) (S 5 0).toNat ((zF xs ni 2).toNat))) 5 0 (S 5 0 + (zF xs ni 2))) := ⟨_, rfl⟩
  rw [← eS1] at hI
  have hNB := n_feed hR eS1
  refine r_aload_n hC hl dL_law_889 1 rfl ?_
  refine r_aload_n hC hl dL_law_890 3 rfl ?_
  refine r_iload_n hC hl dL_law_891 0 rfl ?_
  refine r_iconst hC dL_law_892 ?_
  refine r_iadd hC dL_law_893 ?_
  refine r_sld (i := ni) (j := 1) hC hI hX hbl (by omega) (by omega) hL dL_law_894 ?_
  refine r_aload_n hC hl dL_law_895 3 rfl ?_
  refine r_iload_n hC hl dL_law_896 0 rfl ?_
  refine r_iconst hC dL_law_897 ?_
  refine r_iadd hC dL_law_898 ?_
  refine r_sld (i := ni) (j := 2) hC hI hX hbl (by omega) (by omega) hL dL_law_899 ?_
  refine r_cVi hC hI hl [.int (J (zF xs ni 1)), .int (J (zF xs ni 2))] [.int (J (anF (if ¬ (1 ≤ (zF xs ni 2) ∧ (zF xs ni 2) ≤ 4) then 0 else if 120 < S 5 0 + (zF xs ni 2) then 1 else -1) (S 5 0 + (zF xs ni 2))))] (c_X7_feed l X a s.heap.size S1 (zF xs ni 1) (zF xs ni 2) (by rw [hNB.1]; exact hR.1) (zF_rg _ _ _) (zF_rg _ _ _) (by rw [hNB.2.2.1, hR.2.2.2.2.1]; exact hR.2.2.2.2.2.1)) ml_RL_111 ev_X7_feed (rc_mo (S := S1) hC hI) ⟨Nat.le_of_ble_eq_true rfl, Nat.le_of_ble_eq_true rfl⟩ ⟨Nat.le_of_ble_eq_true rfl, Nat.le_of_ble_eq_true rfl⟩ (Nat.le_of_ble_eq_true rfl) rfl dL_law_900 (fun H locs hI => ?_)
  obtain ⟨S2, eS2⟩ : ∃ z : St, z = fnF S1 21 (if ¬ (1 ≤ (zF xs ni 2) ∧ (zF xs ni 2) ≤ 4) then 0 else if 120 < S1 25 0 + (zF xs ni 2) then 1 else -1) (up (setB S1 24 (sgF (S1 24) (fun z => byF (zF xs ni 1) (8 * ((zF xs ni 2) - 1 - (z : Int)))) (S1 25 0).toNat ((zF xs ni 2).toNat))) 25 0 (S1 25 0 + (zF xs ni 2))) := ⟨_, rfl⟩
  rw [← eS2] at hI
  obtain ⟨han, hR2⟩ := s_feed hR eS1 eS2
  refine r_same (tgt := 1288) hC han dL_law_903 (by decide) ?_
  exact hK S2 _ _ _ hR2 hI hl

set_option maxHeartbeats 4000000 in
set_option maxRecDepth 100000 in
theorem law_wipe {p : Program} {l : Launch} {e : Env} {s : State} {m : MethodId} {below : List Frame} {meth : Method} {c : Code} {Q : State → Prop} {X : XT} {a : Nat → Nat} {b L ni : Nat} {xs : Nat → Int32} (hC : Cx p c cL_law 4 s m #[Value.ref b] RL X s.heap.size) (hX : va_X b L xs s s.heap) (hbl : b < s.heap.size) (hL : L ≤ 3072) (hi : 6 * ni + 6 ≤ L) (hK : LK p l e s m below meth c Q X a b ni) {S : St} (hR : Rel S) {H : Heap} {locs : List Loc} {ls : Array Slot} (hI : IS X a s.heap.size s S H locs) (hl : lv_has ls 4 (lvL a b ni)) : W p l e room_1 s m #[Value.ref b] below meth c H locs 61 1191 Q (F0 m 908 ls []) := by
  have z1 := zF_rg xs ni 1
  have z2 := zF_rg xs ni 2
  have z3 := zF_rg xs ni 3
  have z4 := zF_rg xs ni 4
  have z5 := zF_rg xs ni 5
  refine r_aload_n hC hl dL_law_908 2 rfl ?_
  refine r_cVi hC hI hl [] [] (c_X6_wipe l X a s.heap.size S  ) ml_RL_112 ev_X6_wipe (rc_in (S := S) hC hI) ⟨Nat.le_of_ble_eq_true rfl, Nat.le_of_ble_eq_true rfl⟩ ⟨Nat.le_of_ble_eq_true rfl, Nat.le_of_ble_eq_true rfl⟩ (Nat.le_of_ble_eq_true rfl) rfl dL_law_909 (fun H locs hI => ?_)
  obtain ⟨S1, eS1⟩ : ∃ z : St, z = up S 5 0 0 := ⟨_, rfl⟩
  rw [← eS1] at hI
  have hNB := n_wipe hR eS1
  refine r_aload_n hC hl dL_law_912 1 rfl ?_
  refine r_cVi hC hI hl [] [.int (J (S 5 0))] (c_X7_wipe l X a s.heap.size S1  ) ml_RL_116 ev_X7_wipe (rc_mo (S := S1) hC hI) ⟨Nat.le_of_ble_eq_true rfl, Nat.le_of_ble_eq_true rfl⟩ ⟨Nat.le_of_ble_eq_true rfl, Nat.le_of_ble_eq_true rfl⟩ (Nat.le_of_ble_eq_true rfl) rfl dL_law_913 (fun H locs hI => ?_)
  obtain ⟨S2, eS2⟩ : ∃ z : St, z = up S1 25 0 0 := ⟨_, rfl⟩
  rw [← eS2] at hI
  obtain ⟨han, hR2⟩ := s_wipe hR eS1 eS2
  refine r_same (tgt := 1288) hC han dL_law_916 (by decide) ?_
  exact hK S2 _ _ _ hR2 hI hl

set_option maxHeartbeats 4000000 in
set_option maxRecDepth 100000 in
theorem law_text {p : Program} {l : Launch} {e : Env} {s : State} {m : MethodId} {below : List Frame} {meth : Method} {c : Code} {Q : State → Prop} {X : XT} {a : Nat → Nat} {b L ni : Nat} {xs : Nat → Int32} (hC : Cx p c cL_law 4 s m #[Value.ref b] RL X s.heap.size) (hX : va_X b L xs s s.heap) (hbl : b < s.heap.size) (hL : L ≤ 3072) (hi : 6 * ni + 6 ≤ L) (hK : LK p l e s m below meth c Q X a b ni) {S : St} (hR : Rel S) {H : Heap} {locs : List Loc} {ls : Array Slot} (hI : IS X a s.heap.size s S H locs) (hl : lv_has ls 4 (lvL a b ni)) : W p l e room_1 s m #[Value.ref b] below meth c H locs 61 1191 Q (F0 m 921 ls []) := by
  have z1 := zF_rg xs ni 1
  have z2 := zF_rg xs ni 2
  have z3 := zF_rg xs ni 3
  have z4 := zF_rg xs ni 4
  have z5 := zF_rg xs ni 5
  refine r_aload_n hC hl dL_law_921 2 rfl ?_
  refine r_cVi hC hI hl [] [] (c_X6_text l X a s.heap.size S  hR.1 hR.2.2.2.2.2.1 hR.2.2.2.2.2.2.1) ml_RL_117 ev_X6_text (rc_in (S := S) hC hI) ⟨Nat.le_of_ble_eq_true rfl, Nat.le_of_ble_eq_true rfl⟩ ⟨Nat.le_of_ble_eq_true rfl, Nat.le_of_ble_eq_true rfl⟩ (Nat.le_of_ble_eq_true rfl) rfl dL_law_922 (fun H locs hI => ?_)
  obtain ⟨S1, eS1⟩ : ∃ z : St, z = up (if 0 ≤ (tlF (S 4) 120 (tnF (S 4) (upR (S 5) 3 0)) (S 0) 1).1 then setB (setB (setB (setB S 2 (S 0)) 5 ((tlF (S 4) 120 (tnF (S 4) (upR (S 5) 3 0)) (S 0) 1).2.1)) 2 ((tlF (S 4) 120 (tnF (S 4) (upR (S 5) 3 0)) (S 0) 1).2.2)) 0 ((setB (setB (setB S 2 (S 0)) 5 ((tlF (S 4) 120 (tnF (S 4) (upR (S 5) 3 0)) (S 0) 1).2.1)) 2 ((tlF (S 4) 120 (tnF (S 4) (upR (S 5) 3 0)) (S 0) 1).2.2)) 2) else setB (setB (setB S 2 (S 0)) 5 ((tlF (S 4) 120 (tnF (S 4) (upR (S 5) 3 0)) (S 0) 1).2.1)) 2 ((tlF (S 4) 120 (tnF (S 4) (upR (S 5) 3 0)) (S 0) 1).2.2)) 5 0 0 := ⟨_, rfl⟩
  rw [← eS1] at hI
  have hNB := n_text hR eS1
  refine r_aload_n hC hl dL_law_925 1 rfl ?_
  refine r_cVi hC hI hl [] [.int (J ((tlF (S 4) 120 (tnF (S 4) (upR (S 5) 3 0)) (S 0) 1).1))] (c_X7_text l X a s.heap.size S1  (by rw [hNB.1]; exact hR.1) (by rw [hNB.2.2.1, hR.2.2.2.2.1]; exact hR.2.2.2.2.2.1) (by rw [hNB.2.1]; exact hR.2.2.2.2.2.2.1)) ml_RL_120 ev_X7_text (rc_mo (S := S1) hC hI) ⟨Nat.le_of_ble_eq_true rfl, Nat.le_of_ble_eq_true rfl⟩ ⟨Nat.le_of_ble_eq_true rfl, Nat.le_of_ble_eq_true rfl⟩ (Nat.le_of_ble_eq_true rfl) rfl dL_law_926 (fun H locs hI => ?_)
  obtain ⟨S2, eS2⟩ : ∃ z : St, z = setB (setB (up (setB S1 25 (mtA (mlF (S1 24) 200 (upR (upR (S1 25) 3 0) 5 1) (S1 32 0) (S1 20) 0))) 32 0 ((mlF (S1 24) 200 (upR (upR (S1 25) 3 0) 5 1) (S1 32 0) (S1 20) 0).2.2.1)) 20 (mtR (mlF (S1 24) 200 (upR (upR (S1 25) 3 0) 5 1) (S1 32 0) (S1 20) 0) (S1 20))) 29 (S1 20) := ⟨_, rfl⟩
  rw [← eS2] at hI
  obtain ⟨han, hR2⟩ := s_text hR eS1 eS2
  refine r_same (tgt := 1288) hC han dL_law_929 (by decide) ?_
  exact hK S2 _ _ _ hR2 hI hl

set_option maxHeartbeats 4000000 in
set_option maxRecDepth 100000 in
theorem law_sheet {p : Program} {l : Launch} {e : Env} {s : State} {m : MethodId} {below : List Frame} {meth : Method} {c : Code} {Q : State → Prop} {X : XT} {a : Nat → Nat} {b L ni : Nat} {xs : Nat → Int32} (hC : Cx p c cL_law 4 s m #[Value.ref b] RL X s.heap.size) (hX : va_X b L xs s s.heap) (hbl : b < s.heap.size) (hL : L ≤ 3072) (hi : 6 * ni + 6 ≤ L) (hK : LK p l e s m below meth c Q X a b ni) {S : St} (hR : Rel S) {H : Heap} {locs : List Loc} {ls : Array Slot} (hI : IS X a s.heap.size s S H locs) (hl : lv_has ls 4 (lvL a b ni)) : W p l e room_1 s m #[Value.ref b] below meth c H locs 61 1191 Q (F0 m 934 ls []) := by
  have z1 := zF_rg xs ni 1
  have z2 := zF_rg xs ni 2
  have z3 := zF_rg xs ni 3
  have z4 := zF_rg xs ni 4
  have z5 := zF_rg xs ni 5
  refine r_aload_n hC hl dL_law_934 2 rfl ?_
  refine r_aload_n hC hl dL_law_935 3 rfl ?_
  refine r_iload_n hC hl dL_law_936 0 rfl ?_
  refine r_iconst hC dL_law_937 ?_
  refine r_iadd hC dL_law_938 ?_
  refine r_sld (i := ni) (j := 1) hC hI hX hbl (by omega) (by omega) hL dL_law_939 ?_
  refine r_aload_n hC hl dL_law_940 3 rfl ?_
  refine r_iload_n hC hl dL_law_941 0 rfl ?_
  refine r_iconst hC dL_law_942 ?_
  refine r_iadd hC dL_law_943 ?_
  refine r_sld (i := ni) (j := 2) hC hI hX hbl (by omega) (by omega) hL dL_law_944 ?_
  refine r_aload_n hC hl dL_law_945 3 rfl ?_
  refine r_iload_n hC hl dL_law_946 0 rfl ?_
  refine r_iconst hC dL_law_947 ?_
  refine r_iadd hC dL_law_948 ?_
  refine r_sld (i := ni) (j := 3) hC hI hX hbl (by omega) (by omega) hL dL_law_949 ?_
  refine r_cVi hC hI hl [.int (J (zF xs ni 1)), .int (J (zF xs ni 2)), .int (J (zF xs ni 3))] [] (c_X6_sheet l X a s.heap.size S (zF xs ni 1) (zF xs ni 2) (zF xs ni 3) hR.1 (zF_rg _ _ _) (zF_rg _ _ _) (zF_rg _ _ _) hR.sh) ml_RL_121 ev_X6_sheet (rc_in (S := S) hC hI) ⟨Nat.le_of_ble_eq_true rfl, Nat.le_of_ble_eq_true rfl⟩ ⟨Nat.le_of_ble_eq_true rfl, Nat.le_of_ble_eq_true rfl⟩ (Nat.le_of_ble_eq_true rfl) rfl dL_law_950 (fun H locs hI => ?_)
  obtain ⟨S1, eS1⟩ : ∃ z : St, z = fnF S 3 (if ¬ ((0 ≤ (zF xs ni 1) ∧ (zF xs ni 1) ≤ 3) ∧ ((zF xs ni 2) = 0 ∨ (zF xs ni 2) = 8 ∨ (zF xs ni 2) = 16 ∨ (zF xs ni 2) = 64)) then 0 else if (zF xs ni 3) < 0 then 6 else if 40 < (zF xs ni 3) then 0 else -1) (setB (up (up S 6 (zF xs ni 1).toNat (zF xs ni 2)) 7 (zF xs ni 1).toNat (if (zF xs ni 2) = 0 then 0 else (zF xs ni 3))) (12 + (zF xs ni 1).toNat) (flF 0 (S (12 + (zF xs ni 1).toNat)) 40)) := ⟨_, rfl⟩
  rw [← eS1] at hI
  have hNB := n_sheet hR eS1
  refine r_aload_n hC hl dL_law_953 1 rfl ?_
  refine r_aload_n hC hl dL_law_954 3 rfl ?_
  refine r_iload_n hC hl dL_law_955 0 rfl ?_
  refine r_iconst hC dL_law_956 ?_
  refine r_iadd hC dL_law_957 ?_
  refine r_sld (i := ni) (j := 1) hC hI hX hbl (by omega) (by omega) hL dL_law_958 ?_
  refine r_aload_n hC hl dL_law_959 3 rfl ?_
  refine r_iload_n hC hl dL_law_960 0 rfl ?_
  refine r_iconst hC dL_law_961 ?_
  refine r_iadd hC dL_law_962 ?_
  refine r_sld (i := ni) (j := 2) hC hI hX hbl (by omega) (by omega) hL dL_law_963 ?_
  refine r_aload_n hC hl dL_law_964 3 rfl ?_
  refine r_iload_n hC hl dL_law_965 0 rfl ?_
  refine r_iconst hC dL_law_966 ?_
  refine r_iadd hC dL_law_967 ?_
  refine r_sld (i := ni) (j := 3) hC hI hX hbl (by omega) (by omega) hL dL_law_968 ?_
  refine r_cVi hC hI hl [.int (J (zF xs ni 1)), .int (J (zF xs ni 2)), .int (J (zF xs ni 3))] [.int (J (anF (if ¬ ((0 ≤ (zF xs ni 1) ∧ (zF xs ni 1) ≤ 3) ∧ ((zF xs ni 2) = 0 ∨ (zF xs ni 2) = 8 ∨ (zF xs ni 2) = 16 ∨ (zF xs ni 2) = 64)) then 0 else if (zF xs ni 3) < 0 then 6 else if 40 < (zF xs ni 3) then 0 else -1) (if (zF xs ni 2) = 0 then 0 else (zF xs ni 3))))] (c_X7_sheet l X a s.heap.size S1 (zF xs ni 1) (zF xs ni 2) (zF xs ni 3) (by rw [hNB.1]; exact hR.1) (zF_rg _ _ _) (zF_rg _ _ _) (zF_rg _ _ _) (hR.sm hNB.2.2.2.1 hNB.2.2.2.2.1)) ml_RL_124 ev_X7_sheet (rc_mo (S := S1) hC hI) ⟨Nat.le_of_ble_eq_true rfl, Nat.le_of_ble_eq_true rfl⟩ ⟨Nat.le_of_ble_eq_true rfl, Nat.le_of_ble_eq_true rfl⟩ (Nat.le_of_ble_eq_true rfl) rfl dL_law_969 (fun H locs hI => ?_)
  obtain ⟨S2, eS2⟩ : ∃ z : St, z = fnF S1 21 (if ¬ ((0 ≤ (zF xs ni 1) ∧ (zF xs ni 1) ≤ 3) ∧ ((zF xs ni 2) = 0 ∨ (zF xs ni 2) = 8 ∨ (zF xs ni 2) = 16 ∨ (zF xs ni 2) = 64)) then 0 else if (zF xs ni 3) < 0 then 6 else if 40 < (zF xs ni 3) then 0 else -1) (setB (up (up S1 26 (zF xs ni 1).toNat (zF xs ni 2)) 27 (zF xs ni 1).toNat (if (zF xs ni 2) = 0 then 0 else (zF xs ni 3))) 30 (sgF (S1 30) (fun _ => 0) (40 * (zF xs ni 1).toNat) (40))) := ⟨_, rfl⟩
  rw [← eS2] at hI
  obtain ⟨han, hR2⟩ := s_sheet hR eS1 eS2
  refine r_same (tgt := 1288) hC han dL_law_972 (by decide) ?_
  exact hK S2 _ _ _ hR2 hI hl

set_option maxHeartbeats 4000000 in
set_option maxRecDepth 100000 in
theorem law_write {p : Program} {l : Launch} {e : Env} {s : State} {m : MethodId} {below : List Frame} {meth : Method} {c : Code} {Q : State → Prop} {X : XT} {a : Nat → Nat} {b L ni : Nat} {xs : Nat → Int32} (hC : Cx p c cL_law 4 s m #[Value.ref b] RL X s.heap.size) (hX : va_X b L xs s s.heap) (hbl : b < s.heap.size) (hL : L ≤ 3072) (hi : 6 * ni + 6 ≤ L) (hK : LK p l e s m below meth c Q X a b ni) {S : St} (hR : Rel S) {H : Heap} {locs : List Loc} {ls : Array Slot} (hI : IS X a s.heap.size s S H locs) (hl : lv_has ls 4 (lvL a b ni)) : W p l e room_1 s m #[Value.ref b] below meth c H locs 61 1191 Q (F0 m 977 ls []) := by
  have z1 := zF_rg xs ni 1
  have z2 := zF_rg xs ni 2
  have z3 := zF_rg xs ni 3
  have z4 := zF_rg xs ni 4
  have z5 := zF_rg xs ni 5
  refine r_aload_n hC hl dL_law_977 2 rfl ?_
  refine r_aload_n hC hl dL_law_978 3 rfl ?_
  refine r_iload_n hC hl dL_law_979 0 rfl ?_
  refine r_iconst hC dL_law_980 ?_
  refine r_iadd hC dL_law_981 ?_
  refine r_sld (i := ni) (j := 1) hC hI hX hbl (by omega) (by omega) hL dL_law_982 ?_
  refine r_aload_n hC hl dL_law_983 3 rfl ?_
  refine r_iload_n hC hl dL_law_984 0 rfl ?_
  refine r_iconst hC dL_law_985 ?_
  refine r_iadd hC dL_law_986 ?_
  refine r_sld (i := ni) (j := 2) hC hI hX hbl (by omega) (by omega) hL dL_law_987 ?_
  refine r_aload_n hC hl dL_law_988 3 rfl ?_
  refine r_iload_n hC hl dL_law_989 0 rfl ?_
  refine r_iconst hC dL_law_990 ?_
  refine r_iadd hC dL_law_991 ?_
  refine r_sld (i := ni) (j := 3) hC hI hX hbl (by omega) (by omega) hL dL_law_992 ?_
  refine r_i2l hC (by omega) dL_law_993 ?_
  refine r_bipush hC (by decide) dL_law_994 ?_
  refine lv_lshl hC.1 hC.2.1 dL_law_996 rfl ?_
  refine r_aload_n hC hl dL_law_997 3 rfl ?_
  refine r_iload_n hC hl dL_law_998 0 rfl ?_
  refine r_iconst hC dL_law_999 ?_
  refine r_iadd hC dL_law_1000 ?_
  refine r_sld (i := ni) (j := 4) hC hI hX hbl (by omega) (by omega) hL dL_law_1001 ?_
  refine r_i2l hC (by omega) dL_law_1002 ?_
  refine r_ldc2 (x := (4294967295)) hC cl_RL_125 (by decide) dL_law_1003 ?_
  refine lv_land hC.1 hC.2.1 dL_law_1006 ?_
  refine r_wv hC dL_law_1007 ?_
  refine r_cVl hC hI hl [.int (J (zF xs ni 1)), .int (J (zF xs ni 2)), .long (JL (wvF (zF xs ni 3) (zF xs ni 4)))] [] (c_X6_write l X a s.heap.size S (zF xs ni 1) (zF xs ni 2) (wvF (zF xs ni 3) (zF xs ni 4)) hR.1 (zF_rg _ _ _) (zF_rg _ _ _) hR.sh) ml_RL_127 ev_X6_write (rc_in (S := S) hC hI) ⟨Nat.le_of_ble_eq_true rfl, Nat.le_of_ble_eq_true rfl⟩ ⟨Nat.le_of_ble_eq_true rfl, Nat.le_of_ble_eq_true rfl⟩ (Nat.le_of_ble_eq_true rfl) rfl dL_law_1008 (fun H locs hI => ?_)
  obtain ⟨S1, eS1⟩ : ∃ z : St, z = fnF S 3 (if ¬ (0 ≤ (zF xs ni 1) ∧ (zF xs ni 1) ≤ 3) then 0 else if S 6 (zF xs ni 1).toNat = 0 then 5 else if ¬ (0 ≤ (zF xs ni 2) ∧ (zF xs ni 2) ≤ S 7 (zF xs ni 1).toNat - 1) then 0 else -1) (up S (12 + (zF xs ni 1).toNat) (zF xs ni 2).toNat (lbF (S 6 (zF xs ni 1).toNat) (wvF (zF xs ni 3) (zF xs ni 4)))) := ⟨_, rfl⟩
  rw [← eS1] at hI
  have hNB := n_write hR eS1
  refine r_aload_n hC hl dL_law_1011 1 rfl ?_
  refine r_aload_n hC hl dL_law_1012 3 rfl ?_
  refine r_iload_n hC hl dL_law_1013 0 rfl ?_
  refine r_iconst hC dL_law_1014 ?_
  refine r_iadd hC dL_law_1015 ?_
  refine r_sld (i := ni) (j := 1) hC hI hX hbl (by omega) (by omega) hL dL_law_1016 ?_
  refine r_aload_n hC hl dL_law_1017 3 rfl ?_
  refine r_iload_n hC hl dL_law_1018 0 rfl ?_
  refine r_iconst hC dL_law_1019 ?_
  refine r_iadd hC dL_law_1020 ?_
  refine r_sld (i := ni) (j := 2) hC hI hX hbl (by omega) (by omega) hL dL_law_1021 ?_
  refine r_aload_n hC hl dL_law_1022 3 rfl ?_
  refine r_iload_n hC hl dL_law_1023 0 rfl ?_
  refine r_iconst hC dL_law_1024 ?_
  refine r_iadd hC dL_law_1025 ?_
  refine r_sld (i := ni) (j := 3) hC hI hX hbl (by omega) (by omega) hL dL_law_1026 ?_
  refine r_i2l hC (by omega) dL_law_1027 ?_
  refine r_bipush hC (by decide) dL_law_1028 ?_
  refine lv_lshl hC.1 hC.2.1 dL_law_1030 rfl ?_
  refine r_aload_n hC hl dL_law_1031 3 rfl ?_
  refine r_iload_n hC hl dL_law_1032 0 rfl ?_
  refine r_iconst hC dL_law_1033 ?_
  refine r_iadd hC dL_law_1034 ?_
  refine r_sld (i := ni) (j := 4) hC hI hX hbl (by omega) (by omega) hL dL_law_1035 ?_
  refine r_i2l hC (by omega) dL_law_1036 ?_
  refine r_ldc2 (x := (4294967295)) hC cl_RL_125 (by decide) dL_law_1037 ?_
  refine lv_land hC.1 hC.2.1 dL_law_1040 ?_
  refine r_wv hC dL_law_1041 ?_
  refine r_cVl hC hI hl [.int (J (zF xs ni 1)), .int (J (zF xs ni 2)), .long (JL (wvF (zF xs ni 3) (zF xs ni 4)))] [.long (JL (anF (if ¬ (0 ≤ (zF xs ni 1) ∧ (zF xs ni 1) ≤ 3) then 0 else if S 6 (zF xs ni 1).toNat = 0 then 5 else if ¬ (0 ≤ (zF xs ni 2) ∧ (zF xs ni 2) ≤ S 7 (zF xs ni 1).toNat - 1) then 0 else -1) (S (12 + (zF xs ni 1).toNat) (zF xs ni 2).toNat)))] (c_X7_write l X a s.heap.size S1 (zF xs ni 1) (zF xs ni 2) (wvF (zF xs ni 3) (zF xs ni 4)) (zF_rg _ _ _) (zF_rg _ _ _) (hR.sm hNB.2.2.2.1 hNB.2.2.2.2.1)) ml_RL_131 ev_X7_write (rc_mo (S := S1) hC hI) ⟨Nat.le_of_ble_eq_true rfl, Nat.le_of_ble_eq_true rfl⟩ ⟨Nat.le_of_ble_eq_true rfl, Nat.le_of_ble_eq_true rfl⟩ (Nat.le_of_ble_eq_true rfl) rfl dL_law_1042 (fun H locs hI => ?_)
  obtain ⟨S2, eS2⟩ : ∃ z : St, z = fnF S1 21 (if ¬ (0 ≤ (zF xs ni 1) ∧ (zF xs ni 1) ≤ 3) then 0 else if S1 26 (zF xs ni 1).toNat = 0 then 5 else if ¬ (0 ≤ (zF xs ni 2) ∧ (zF xs ni 2) ≤ S1 27 (zF xs ni 1).toNat - 1) then 0 else -1) (up S1 30 (40 * (zF xs ni 1).toNat + (zF xs ni 2).toNat) (lbF (S1 26 (zF xs ni 1).toNat) (wvF (zF xs ni 3) (zF xs ni 4)))) := ⟨_, rfl⟩
  rw [← eS2] at hI
  obtain ⟨han, hR2⟩ := s_write hR (wv_rg _ _) eS1 eS2
  refine r_lsame hC han dL_law_1045 ?_
  refine r_if_eq (tgt := 1288) hC (by decide) dL_law_1046 (by decide) (fun _ => ?_) (fun z => absurd z (by decide))
  exact hK S2 _ _ _ hR2 hI hl

set_option maxHeartbeats 4000000 in
set_option maxRecDepth 100000 in
theorem law_copy {p : Program} {l : Launch} {e : Env} {s : State} {m : MethodId} {below : List Frame} {meth : Method} {c : Code} {Q : State → Prop} {X : XT} {a : Nat → Nat} {b L ni : Nat} {xs : Nat → Int32} (hC : Cx p c cL_law 4 s m #[Value.ref b] RL X s.heap.size) (hX : va_X b L xs s s.heap) (hbl : b < s.heap.size) (hL : L ≤ 3072) (hi : 6 * ni + 6 ≤ L) (hK : LK p l e s m below meth c Q X a b ni) {S : St} (hR : Rel S) {H : Heap} {locs : List Loc} {ls : Array Slot} (hI : IS X a s.heap.size s S H locs) (hl : lv_has ls 4 (lvL a b ni)) : W p l e room_1 s m #[Value.ref b] below meth c H locs 61 1191 Q (F0 m 1051 ls []) := by
  have z1 := zF_rg xs ni 1
  have z2 := zF_rg xs ni 2
  have z3 := zF_rg xs ni 3
  have z4 := zF_rg xs ni 4
  have z5 := zF_rg xs ni 5
  refine r_aload_n hC hl dL_law_1051 2 rfl ?_
  refine r_aload_n hC hl dL_law_1052 3 rfl ?_
  refine r_iload_n hC hl dL_law_1053 0 rfl ?_
  refine r_iconst hC dL_law_1054 ?_
  refine r_iadd hC dL_law_1055 ?_
  refine r_sld (i := ni) (j := 1) hC hI hX hbl (by omega) (by omega) hL dL_law_1056 ?_
  refine r_aload_n hC hl dL_law_1057 3 rfl ?_
  refine r_iload_n hC hl dL_law_1058 0 rfl ?_
  refine r_iconst hC dL_law_1059 ?_
  refine r_iadd hC dL_law_1060 ?_
  refine r_sld (i := ni) (j := 2) hC hI hX hbl (by omega) (by omega) hL dL_law_1061 ?_
  refine r_aload_n hC hl dL_law_1062 3 rfl ?_
  refine r_iload_n hC hl dL_law_1063 0 rfl ?_
  refine r_iconst hC dL_law_1064 ?_
  refine r_iadd hC dL_law_1065 ?_
  refine r_sld (i := ni) (j := 3) hC hI hX hbl (by omega) (by omega) hL dL_law_1066 ?_
  refine r_aload_n hC hl dL_law_1067 3 rfl ?_
  refine r_iload_n hC hl dL_law_1068 0 rfl ?_
  refine r_iconst hC dL_law_1069 ?_
  refine r_iadd hC dL_law_1070 ?_
  refine r_sld (i := ni) (j := 4) hC hI hX hbl (by omega) (by omega) hL dL_law_1071 ?_
  refine r_aload_n hC hl dL_law_1072 3 rfl ?_
  refine r_iload_n hC hl dL_law_1073 0 rfl ?_
  refine r_iconst hC dL_law_1074 ?_
  refine r_iadd hC dL_law_1075 ?_
  refine r_sld (i := ni) (j := 5) hC hI hX hbl (by omega) (by omega) hL dL_law_1076 ?_
  refine r_cVi hC hI hl [.int (J (zF xs ni 1)), .int (J (zF xs ni 2)), .int (J (zF xs ni 3)), .int (J (zF xs ni 4)), .int (J (zF xs ni 5))] [] (c_X6_copy l X a s.heap.size S (zF xs ni 1) (zF xs ni 2) (zF xs ni 3) (zF xs ni 4) (zF xs ni 5) hR.1 (zF_rg _ _ _) (zF_rg _ _ _) (zF_rg _ _ _) (zF_rg _ _ _) (zF_rg _ _ _) hR.sh) ml_RL_132 ev_X6_copy (rc_in (S := S) hC hI) ⟨Nat.le_of_ble_eq_true rfl, Nat.le_of_ble_eq_true rfl⟩ ⟨Nat.le_of_ble_eq_true rfl, Nat.le_of_ble_eq_true rfl⟩ (Nat.le_of_ble_eq_true rfl) rfl dL_law_1077 (fun H locs hI => ?_)
  obtain ⟨S1, eS1⟩ : ∃ z : St, z = fnF S 3 (if ¬ ((0 ≤ (zF xs ni 1) ∧ (zF xs ni 1) ≤ 3) ∧ 0 ≤ (zF xs ni 3) ∧ (zF xs ni 3) ≤ 3) then 0 else if S 6 (zF xs ni 1).toNat = 0 ∨ S 6 (zF xs ni 3).toNat = 0 then 5 else if S 6 (zF xs ni 1).toNat ≠ S 6 (zF xs ni 3).toNat then 2 else if ¬ ((0 ≤ (zF xs ni 2) ∧ 0 ≤ (zF xs ni 5) ∧ (zF xs ni 2) ≤ S 7 (zF xs ni 1).toNat - (zF xs ni 5)) ∧ 0 ≤ (zF xs ni 4) ∧ 0 ≤ (zF xs ni 5) ∧ (zF xs ni 4) ≤ S 7 (zF xs ni 3).toNat - (zF xs ni 5)) then 0 else -1) (setB S (12 + (zF xs ni 3).toNat) (fun j => if (zF xs ni 4).toNat ≤ j ∧ j < (zF xs ni 4).toNat + (zF xs ni 5).toNat then S (12 + (zF xs ni 1).toNat) ((zF xs ni 2).toNat + (j - (zF xs ni 4).toNat)) else S (12 + (zF xs ni 3).toNat) j)) := ⟨_, rfl⟩
  rw [← eS1] at hI
  have hNB := n_copy hR eS1
  refine r_aload_n hC hl dL_law_1080 1 rfl ?_
  refine r_aload_n hC hl dL_law_1081 3 rfl ?_
  refine r_iload_n hC hl dL_law_1082 0 rfl ?_
  refine r_iconst hC dL_law_1083 ?_
  refine r_iadd hC dL_law_1084 ?_
  refine r_sld (i := ni) (j := 1) hC hI hX hbl (by omega) (by omega) hL dL_law_1085 ?_
  refine r_aload_n hC hl dL_law_1086 3 rfl ?_
  refine r_iload_n hC hl dL_law_1087 0 rfl ?_
  refine r_iconst hC dL_law_1088 ?_
  refine r_iadd hC dL_law_1089 ?_
  refine r_sld (i := ni) (j := 2) hC hI hX hbl (by omega) (by omega) hL dL_law_1090 ?_
  refine r_aload_n hC hl dL_law_1091 3 rfl ?_
  refine r_iload_n hC hl dL_law_1092 0 rfl ?_
  refine r_iconst hC dL_law_1093 ?_
  refine r_iadd hC dL_law_1094 ?_
  refine r_sld (i := ni) (j := 3) hC hI hX hbl (by omega) (by omega) hL dL_law_1095 ?_
  refine r_aload_n hC hl dL_law_1096 3 rfl ?_
  refine r_iload_n hC hl dL_law_1097 0 rfl ?_
  refine r_iconst hC dL_law_1098 ?_
  refine r_iadd hC dL_law_1099 ?_
  refine r_sld (i := ni) (j := 4) hC hI hX hbl (by omega) (by omega) hL dL_law_1100 ?_
  refine r_aload_n hC hl dL_law_1101 3 rfl ?_
  refine r_iload_n hC hl dL_law_1102 0 rfl ?_
  refine r_iconst hC dL_law_1103 ?_
  refine r_iadd hC dL_law_1104 ?_
  refine r_sld (i := ni) (j := 5) hC hI hX hbl (by omega) (by omega) hL dL_law_1105 ?_
  refine r_cVi hC hI hl [.int (J (zF xs ni 1)), .int (J (zF xs ni 2)), .int (J (zF xs ni 3)), .int (J (zF xs ni 4)), .int (J (zF xs ni 5))] [.int (J (anF (if ¬ ((0 ≤ (zF xs ni 1) ∧ (zF xs ni 1) ≤ 3) ∧ 0 ≤ (zF xs ni 3) ∧ (zF xs ni 3) ≤ 3) then 0 else if S 6 (zF xs ni 1).toNat = 0 ∨ S 6 (zF xs ni 3).toNat = 0 then 5 else if S 6 (zF xs ni 1).toNat ≠ S 6 (zF xs ni 3).toNat then 2 else if ¬ ((0 ≤ (zF xs ni 2) ∧ 0 ≤ (zF xs ni 5) ∧ (zF xs ni 2) ≤ S 7 (zF xs ni 1).toNat - (zF xs ni 5)) ∧ 0 ≤ (zF xs ni 4) ∧ 0 ≤ (zF xs ni 5) ∧ (zF xs ni 4) ≤ S 7 (zF xs ni 3).toNat - (zF xs ni 5)) then 0 else -1) ((zF xs ni 5))))] (c_X7_copy l X a s.heap.size S1 (zF xs ni 1) (zF xs ni 2) (zF xs ni 3) (zF xs ni 4) (zF xs ni 5) (by rw [hNB.1]; exact hR.1) (zF_rg _ _ _) (zF_rg _ _ _) (zF_rg _ _ _) (zF_rg _ _ _) (zF_rg _ _ _) (hR.sm hNB.2.2.2.1 hNB.2.2.2.2.1)) ml_RL_136 ev_X7_copy (rc_mo (S := S1) hC hI) ⟨Nat.le_of_ble_eq_true rfl, Nat.le_of_ble_eq_true rfl⟩ ⟨Nat.le_of_ble_eq_true rfl, Nat.le_of_ble_eq_true rfl⟩ (Nat.le_of_ble_eq_true rfl) rfl dL_law_1106 (fun H locs hI => ?_)
  obtain ⟨S2, eS2⟩ : ∃ z : St, z = fnF S1 21 (if ¬ ((0 ≤ (zF xs ni 1) ∧ (zF xs ni 1) ≤ 3) ∧ 0 ≤ (zF xs ni 3) ∧ (zF xs ni 3) ≤ 3) then 0 else if S1 26 (zF xs ni 1).toNat = 0 ∨ S1 26 (zF xs ni 3).toNat = 0 then 5 else if S1 26 (zF xs ni 1).toNat ≠ S1 26 (zF xs ni 3).toNat then 2 else if ¬ ((0 ≤ (zF xs ni 2) ∧ 0 ≤ (zF xs ni 5) ∧ (zF xs ni 2) ≤ S1 27 (zF xs ni 1).toNat - (zF xs ni 5)) ∧ 0 ≤ (zF xs ni 4) ∧ 0 ≤ (zF xs ni 5) ∧ (zF xs ni 4) ≤ S1 27 (zF xs ni 3).toNat - (zF xs ni 5)) then 0 else -1) (setB (setB S1 31 (sgF (S1 31) (fun i => S1 30 (40 * (zF xs ni 1).toNat + (zF xs ni 2).toNat + i)) 0 ((zF xs ni 5).toNat))) 30 (sgF (S1 30) (fun i => S1 30 (40 * (zF xs ni 1).toNat + (zF xs ni 2).toNat + i)) (40 * (zF xs ni 3).toNat + (zF xs ni 4).toNat) ((zF xs ni 5).toNat))) := ⟨_, rfl⟩
  rw [← eS2] at hI
  obtain ⟨han, hR2⟩ := s_copy hR eS1 eS2
  refine r_same (tgt := 1288) hC han dL_law_1109 (by decide) ?_
  exact hK S2 _ _ _ hR2 hI hl

set_option maxHeartbeats 4000000 in
set_option maxRecDepth 100000 in
theorem law_lays {p : Program} {l : Launch} {e : Env} {s : State} {m : MethodId} {below : List Frame} {meth : Method} {c : Code} {Q : State → Prop} {X : XT} {a : Nat → Nat} {b L ni : Nat} {xs : Nat → Int32} (hC : Cx p c cL_law 4 s m #[Value.ref b] RL X s.heap.size) (hX : va_X b L xs s s.heap) (hbl : b < s.heap.size) (hL : L ≤ 3072) (hi : 6 * ni + 6 ≤ L) (hK : LK p l e s m below meth c Q X a b ni) {S : St} (hR : Rel S) {H : Heap} {locs : List Loc} {ls : Array Slot} (hI : IS X a s.heap.size s S H locs) (hl : lv_has ls 4 (lvL a b ni)) : W p l e room_1 s m #[Value.ref b] below meth c H locs 61 1191 Q (F0 m 1114 ls []) := by
  have z1 := zF_rg xs ni 1
  have z2 := zF_rg xs ni 2
  have z3 := zF_rg xs ni 3
  have z4 := zF_rg xs ni 4
  have z5 := zF_rg xs ni 5
  refine r_aload_n hC hl dL_law_1114 2 rfl ?_
  refine r_aload_n hC hl dL_law_1115 3 rfl ?_
  refine r_iload_n hC hl dL_law_1116 0 rfl ?_
  refine r_iconst hC dL_law_1117 ?_
  refine r_iadd hC dL_law_1118 ?_
  refine r_sld (i := ni) (j := 1) hC hI hX hbl (by omega) (by omega) hL dL_law_1119 ?_
  refine r_cVi hC hI hl [.int (J (zF xs ni 1))] [] (c_X6_lays l X a s.heap.size S (zF xs ni 1) hR.1 (zF_rg _ _ _) hR.sh) ml_RL_137 ev_X6_lays (rc_in (S := S) hC hI) ⟨Nat.le_of_ble_eq_true rfl, Nat.le_of_ble_eq_true rfl⟩ ⟨Nat.le_of_ble_eq_true rfl, Nat.le_of_ble_eq_true rfl⟩ (Nat.le_of_ble_eq_true rfl) rfl dL_law_1120 (fun H locs hI => ?_)
  obtain ⟨S1, eS1⟩ : ∃ z : St, z = fnF S 3 (if ¬ (0 ≤ (zF xs ni 1) ∧ (zF xs ni 1) ≤ 3) then 0 else if S 6 (zF xs ni 1).toNat = 0 then 5 else -1) (setB S 0 (bkQ (S 0) (S (12 + (zF xs ni 1).toNat)) (min (S 0 5).toNat (S 7 (zF xs ni 1).toNat).toNat))) := ⟨_, rfl⟩
  rw [← eS1] at hI
  have hNB := n_lays hR eS1
  refine r_aload_n hC hl dL_law_1123 1 rfl ?_
  refine r_aload_n hC hl dL_law_1124 3 rfl ?_
  refine r_iload_n hC hl dL_law_1125 0 rfl ?_
  refine r_iconst hC dL_law_1126 ?_
  refine r_iadd hC dL_law_1127 ?_
  refine r_sld (i := ni) (j := 1) hC hI hX hbl (by omega) (by omega) hL dL_law_1128 ?_
  refine r_cVi hC hI hl [.int (J (zF xs ni 1))] [.int (J (anF (if ¬ (0 ≤ (zF xs ni 1) ∧ (zF xs ni 1) ≤ 3) then 0 else if S 6 (zF xs ni 1).toNat = 0 then 5 else -1) (sumF (fun j => bI (0 ≤ S (12 + (zF xs ni 1).toNat) j ∧ S (12 + (zF xs ni 1).toNat) j ≤ 99)) (min (S 0 5).toNat (S 7 (zF xs ni 1).toNat).toNat))))] (c_X7_lays l X a s.heap.size S1 (zF xs ni 1) (by rw [hNB.1]; exact hR.1) (zF_rg _ _ _) (hR.sm hNB.2.2.2.1 hNB.2.2.2.2.1) (hR.sl hNB.2.2.2.2.2)) ml_RL_140 ev_X7_lays (rc_mo (S := S1) hC hI) ⟨Nat.le_of_ble_eq_true rfl, Nat.le_of_ble_eq_true rfl⟩ ⟨Nat.le_of_ble_eq_true rfl, Nat.le_of_ble_eq_true rfl⟩ (Nat.le_of_ble_eq_true rfl) rfl dL_law_1129 (fun H locs hI => ?_)
  obtain ⟨S2, eS2⟩ : ∃ z : St, z = fnF S1 21 (if ¬ (0 ≤ (zF xs ni 1) ∧ (zF xs ni 1) ≤ 3) then 0 else if S1 26 (zF xs ni 1).toNat = 0 then 5 else -1) (setB S1 20 (bkQ (S1 20) (fun j => S1 30 (40 * (zF xs ni 1).toNat + j)) (min (S1 20 5).toNat (S1 27 (zF xs ni 1).toNat).toNat))) := ⟨_, rfl⟩
  rw [← eS2] at hI
  obtain ⟨han, hR2⟩ := s_lays hR eS1 eS2
  refine r_same (tgt := 1288) hC han dL_law_1132 (by decide) ?_
  exact hK S2 _ _ _ hR2 hI hl

set_option maxHeartbeats 4000000 in
set_option maxRecDepth 100000 in
theorem law_book {p : Program} {l : Launch} {e : Env} {s : State} {m : MethodId} {below : List Frame} {meth : Method} {c : Code} {Q : State → Prop} {X : XT} {a : Nat → Nat} {b L ni : Nat} {xs : Nat → Int32} (hC : Cx p c cL_law 4 s m #[Value.ref b] RL X s.heap.size) (hX : va_X b L xs s s.heap) (hbl : b < s.heap.size) (hL : L ≤ 3072) (hi : 6 * ni + 6 ≤ L) (hK : LK p l e s m below meth c Q X a b ni) {S : St} (hR : Rel S) {H : Heap} {locs : List Loc} {ls : Array Slot} (hI : IS X a s.heap.size s S H locs) (hl : lv_has ls 4 (lvL a b ni)) : W p l e room_1 s m #[Value.ref b] below meth c H locs 61 1191 Q (F0 m 1137 ls []) := by
  have z1 := zF_rg xs ni 1
  have z2 := zF_rg xs ni 2
  have z3 := zF_rg xs ni 3
  have z4 := zF_rg xs ni 4
  have z5 := zF_rg xs ni 5
  refine r_aload_n hC hl dL_law_1137 2 rfl ?_
  refine r_aload_n hC hl dL_law_1138 3 rfl ?_
  refine r_iload_n hC hl dL_law_1139 0 rfl ?_
  refine r_iconst hC dL_law_1140 ?_
  refine r_iadd hC dL_law_1141 ?_
  refine r_sld (i := ni) (j := 1) hC hI hX hbl (by omega) (by omega) hL dL_law_1142 ?_
  refine r_aload_n hC hl dL_law_1143 3 rfl ?_
  refine r_iload_n hC hl dL_law_1144 0 rfl ?_
  refine r_iconst hC dL_law_1145 ?_
  refine r_iadd hC dL_law_1146 ?_
  refine r_sld (i := ni) (j := 2) hC hI hX hbl (by omega) (by omega) hL dL_law_1147 ?_
  refine r_cVi hC hI hl [.int (J (zF xs ni 1)), .int (J (zF xs ni 2))] [] (c_X6_book l X a s.heap.size S (zF xs ni 1) (zF xs ni 2) hR.1 (zF_rg _ _ _) (zF_rg _ _ _) hR.sh) ml_RL_141 ev_X6_book (rc_in (S := S) hC hI) ⟨Nat.le_of_ble_eq_true rfl, Nat.le_of_ble_eq_true rfl⟩ ⟨Nat.le_of_ble_eq_true rfl, Nat.le_of_ble_eq_true rfl⟩ (Nat.le_of_ble_eq_true rfl) rfl dL_law_1148 (fun H locs hI => ?_)
  obtain ⟨S1, eS1⟩ : ∃ z : St, z = fnF S 3 (if ¬ (0 ≤ (zF xs ni 1) ∧ (zF xs ni 1) ≤ 3) then 0 else if S 6 (zF xs ni 1).toNat = 0 then 5 else if ¬ (0 ≤ (zF xs ni 2) ∧ (zF xs ni 2) < S 0 5) then 0 else -1) (setB S (12 + (zF xs ni 1).toNat) (bokF (S 0) (S (12 + (zF xs ni 1).toNat)) (zF xs ni 2).toNat (S 7 (zF xs ni 1).toNat).toNat)) := ⟨_, rfl⟩
  rw [← eS1] at hI
  have hNB := n_book hR eS1
  refine r_aload_n hC hl dL_law_1151 1 rfl ?_
  refine r_aload_n hC hl dL_law_1152 3 rfl ?_
  refine r_iload_n hC hl dL_law_1153 0 rfl ?_
  refine r_iconst hC dL_law_1154 ?_
  refine r_iadd hC dL_law_1155 ?_
  refine r_sld (i := ni) (j := 1) hC hI hX hbl (by omega) (by omega) hL dL_law_1156 ?_
  refine r_aload_n hC hl dL_law_1157 3 rfl ?_
  refine r_iload_n hC hl dL_law_1158 0 rfl ?_
  refine r_iconst hC dL_law_1159 ?_
  refine r_iadd hC dL_law_1160 ?_
  refine r_sld (i := ni) (j := 2) hC hI hX hbl (by omega) (by omega) hL dL_law_1161 ?_
  refine r_cVi hC hI hl [.int (J (zF xs ni 1)), .int (J (zF xs ni 2))] [.int (J (anF (if ¬ (0 ≤ (zF xs ni 1) ∧ (zF xs ni 1) ≤ 3) then 0 else if S 6 (zF xs ni 1).toNat = 0 then 5 else if ¬ (0 ≤ (zF xs ni 2) ∧ (zF xs ni 2) < S 0 5) then 0 else -1) (S 7 (zF xs ni 1).toNat)))] (c_X7_book l X a s.heap.size S1 (zF xs ni 1) (zF xs ni 2) (by rw [hNB.1]; exact hR.1) (zF_rg _ _ _) (zF_rg _ _ _) (hR.sm hNB.2.2.2.1 hNB.2.2.2.2.1)) ml_RL_144 ev_X7_book (rc_mo (S := S1) hC hI) ⟨Nat.le_of_ble_eq_true rfl, Nat.le_of_ble_eq_true rfl⟩ ⟨Nat.le_of_ble_eq_true rfl, Nat.le_of_ble_eq_true rfl⟩ (Nat.le_of_ble_eq_true rfl) rfl dL_law_1162 (fun H locs hI => ?_)
  obtain ⟨S2, eS2⟩ : ∃ z : St, z = fnF S1 21 (if ¬ (0 ≤ (zF xs ni 1) ∧ (zF xs ni 1) ≤ 3) then 0 else if S1 26 (zF xs ni 1).toNat = 0 then 5 else if ¬ (0 ≤ (zF xs ni 2) ∧ (zF xs ni 2) < S1 20 5) then 0 else -1) (setB (setB S1 22 (S1 20)) 30 (sgF (S1 30) (fun i => bkP (S1 20) (zF xs ni 2).toNat (i : Int)) (40 * (zF xs ni 1).toNat) ((S1 27 (zF xs ni 1).toNat).toNat))) := ⟨_, rfl⟩
  rw [← eS2] at hI
  obtain ⟨han, hR2⟩ := s_book hR eS1 eS2
  refine r_same (tgt := 1288) hC han dL_law_1165 (by decide) ?_
  exact hK S2 _ _ _ hR2 hI hl

set_option maxHeartbeats 4000000 in
set_option maxRecDepth 100000 in
theorem law_read {p : Program} {l : Launch} {e : Env} {s : State} {m : MethodId} {below : List Frame} {meth : Method} {c : Code} {Q : State → Prop} {X : XT} {a : Nat → Nat} {b L ni : Nat} {xs : Nat → Int32} (hC : Cx p c cL_law 4 s m #[Value.ref b] RL X s.heap.size) (hX : va_X b L xs s s.heap) (hbl : b < s.heap.size) (hL : L ≤ 3072) (hi : 6 * ni + 6 ≤ L) (hK : LK p l e s m below meth c Q X a b ni) {S : St} (hR : Rel S) {H : Heap} {locs : List Loc} {ls : Array Slot} (hI : IS X a s.heap.size s S H locs) (hl : lv_has ls 4 (lvL a b ni)) : W p l e room_1 s m #[Value.ref b] below meth c H locs 61 1191 Q (F0 m 1170 ls []) := by
  have z1 := zF_rg xs ni 1
  have z2 := zF_rg xs ni 2
  have z3 := zF_rg xs ni 3
  have z4 := zF_rg xs ni 4
  have z5 := zF_rg xs ni 5
  refine r_aload_n hC hl dL_law_1170 2 rfl ?_
  refine r_aload_n hC hl dL_law_1171 3 rfl ?_
  refine r_iload_n hC hl dL_law_1172 0 rfl ?_
  refine r_iconst hC dL_law_1173 ?_
  refine r_iadd hC dL_law_1174 ?_
  refine r_sld (i := ni) (j := 1) hC hI hX hbl (by omega) (by omega) hL dL_law_1175 ?_
  refine r_aload_n hC hl dL_law_1176 3 rfl ?_
  refine r_iload_n hC hl dL_law_1177 0 rfl ?_
  refine r_iconst hC dL_law_1178 ?_
  refine r_iadd hC dL_law_1179 ?_
  refine r_sld (i := ni) (j := 2) hC hI hX hbl (by omega) (by omega) hL dL_law_1180 ?_
  refine r_cVi hC hI hl [.int (J (zF xs ni 1)), .int (J (zF xs ni 2))] [] (c_X6_read l X a s.heap.size S (zF xs ni 1) (zF xs ni 2) hR.1 (zF_rg _ _ _) (zF_rg _ _ _) hR.sh) ml_RL_145 ev_X6_read (rc_in (S := S) hC hI) ⟨Nat.le_of_ble_eq_true rfl, Nat.le_of_ble_eq_true rfl⟩ ⟨Nat.le_of_ble_eq_true rfl, Nat.le_of_ble_eq_true rfl⟩ (Nat.le_of_ble_eq_true rfl) rfl dL_law_1181 (fun H locs hI => ?_)
  obtain ⟨S1, eS1⟩ : ∃ z : St, z = fnF S 3 (if ¬ (0 ≤ (zF xs ni 1) ∧ (zF xs ni 1) ≤ 3) then 0 else if S 6 (zF xs ni 1).toNat = 0 then 5 else if ¬ (0 ≤ (zF xs ni 2) ∧ (zF xs ni 2) < S 0 5) then 0 else -1) (S) := ⟨_, rfl⟩
  rw [← eS1] at hI
  have hNB := n_read hR eS1
  refine r_aload_n hC hl dL_law_1184 1 rfl ?_
  refine r_aload_n hC hl dL_law_1185 3 rfl ?_
  refine r_iload_n hC hl dL_law_1186 0 rfl ?_
  refine r_iconst hC dL_law_1187 ?_
  refine r_iadd hC dL_law_1188 ?_
  refine r_sld (i := ni) (j := 1) hC hI hX hbl (by omega) (by omega) hL dL_law_1189 ?_
  refine r_aload_n hC hl dL_law_1190 3 rfl ?_
  refine r_iload_n hC hl dL_law_1191 0 rfl ?_
  refine r_iconst hC dL_law_1192 ?_
  refine r_iadd hC dL_law_1193 ?_
  refine r_sld (i := ni) (j := 2) hC hI hX hbl (by omega) (by omega) hL dL_law_1194 ?_
  refine r_cVi hC hI hl [.int (J (zF xs ni 1)), .int (J (zF xs ni 2))] [.int (J (anF (if ¬ (0 ≤ (zF xs ni 1) ∧ (zF xs ni 1) ≤ 3) then 0 else if S 6 (zF xs ni 1).toNat = 0 then 5 else if ¬ (0 ≤ (zF xs ni 2) ∧ (zF xs ni 2) < S 0 5) then 0 else -1) (sumF (fun q => sumF (fun r => bI (tlP (S (12 + (zF xs ni 1).toNat)) (S 7 (zF xs ni 1).toNat).toNat (r : Int) (fdF (q : Int) (S 0 (21 + 5 * (zF xs ni 2).toNat)) (S 0 (22 + 5 * (zF xs ni 2).toNat))))) 100) 6)))] (c_X7_read l X a s.heap.size S1 (zF xs ni 1) (zF xs ni 2) (by rw [hNB.1]; exact hR.1) (zF_rg _ _ _) (zF_rg _ _ _) (hR.sm hNB.2.2.2.1 hNB.2.2.2.2.1) (hR.sl hNB.2.2.2.2.2)) ml_RL_148 ev_X7_read (rc_mo (S := S1) hC hI) ⟨Nat.le_of_ble_eq_true rfl, Nat.le_of_ble_eq_true rfl⟩ ⟨Nat.le_of_ble_eq_true rfl, Nat.le_of_ble_eq_true rfl⟩ (Nat.le_of_ble_eq_true rfl) rfl dL_law_1195 (fun H locs hI => ?_)
  obtain ⟨S2, eS2⟩ : ∃ z : St, z = fnF S1 21 (if ¬ (0 ≤ (zF xs ni 1) ∧ (zF xs ni 1) ≤ 3) then 0 else if S1 26 (zF xs ni 1).toNat = 0 then 5 else if ¬ (0 ≤ (zF xs ni 2) ∧ (zF xs ni 2) < S1 20 5) then 0 else -1) (setB S1 23 (S1 20)) := ⟨_, rfl⟩
  rw [← eS2] at hI
  obtain ⟨han, hR2⟩ := s_read hR eS1 eS2
  refine r_same (tgt := 1288) hC han dL_law_1198 (by decide) ?_
  exact hK S2 _ _ _ hR2 hI hl

set_option maxHeartbeats 4000000 in
set_option maxRecDepth 100000 in
theorem law_image {p : Program} {l : Launch} {e : Env} {s : State} {m : MethodId} {below : List Frame} {meth : Method} {c : Code} {Q : State → Prop} {X : XT} {a : Nat → Nat} {b L ni : Nat} {xs : Nat → Int32} (hC : Cx p c cL_law 4 s m #[Value.ref b] RL X s.heap.size) (hX : va_X b L xs s s.heap) (hbl : b < s.heap.size) (hL : L ≤ 3072) (hi : 6 * ni + 6 ≤ L) (hK : LK p l e s m below meth c Q X a b ni) {S : St} (hR : Rel S) {H : Heap} {locs : List Loc} {ls : Array Slot} (hI : IS X a s.heap.size s S H locs) (hl : lv_has ls 4 (lvL a b ni)) : W p l e room_1 s m #[Value.ref b] below meth c H locs 61 1191 Q (F0 m 1203 ls []) := by
  have z1 := zF_rg xs ni 1
  have z2 := zF_rg xs ni 2
  have z3 := zF_rg xs ni 3
  have z4 := zF_rg xs ni 4
  have z5 := zF_rg xs ni 5
  refine r_aload_n hC hl dL_law_1203 2 rfl ?_
  refine r_cVi hC hI hl [] [] (c_X6_image l X a s.heap.size S  hR.1) ml_RL_149 ev_X6_image (rc_in (S := S) hC hI) ⟨Nat.le_of_ble_eq_true rfl, Nat.le_of_ble_eq_true rfl⟩ ⟨Nat.le_of_ble_eq_true rfl, Nat.le_of_ble_eq_true rfl⟩ (Nat.le_of_ble_eq_true rfl) rfl dL_law_1204 (fun H locs hI => ?_)
  obtain ⟨S1, eS1⟩ : ∃ z : St, z = fnF S 3 (-1) (up (setB S 1 (S 0)) 11 0 1) := ⟨_, rfl⟩
  rw [← eS1] at hI
  have hNB := n_image hR eS1
  refine r_aload_n hC hl dL_law_1207 1 rfl ?_
  refine r_cVi hC hI hl [] [.int (J (anF (-1) (1)))] (c_X7_image l X a s.heap.size S1  (by rw [hNB.1]; exact hR.1)) ml_RL_152 ev_X7_image (rc_mo (S := S1) hC hI) ⟨Nat.le_of_ble_eq_true rfl, Nat.le_of_ble_eq_true rfl⟩ ⟨Nat.le_of_ble_eq_true rfl, Nat.le_of_ble_eq_true rfl⟩ (Nat.le_of_ble_eq_true rfl) rfl dL_law_1208 (fun H locs hI => ?_)
  obtain ⟨S2, eS2⟩ : ∃ z : St, z = fnF S1 21 (-1) (up (setB S1 28 (S1 20)) 25 6 1) := ⟨_, rfl⟩
  rw [← eS2] at hI
  obtain ⟨han, hR2⟩ := s_image hR eS1 eS2
  refine r_same (tgt := 1288) hC han dL_law_1211 (by decide) ?_
  exact hK S2 _ _ _ hR2 hI hl

set_option maxHeartbeats 4000000 in
set_option maxRecDepth 100000 in
theorem law_undo {p : Program} {l : Launch} {e : Env} {s : State} {m : MethodId} {below : List Frame} {meth : Method} {c : Code} {Q : State → Prop} {X : XT} {a : Nat → Nat} {b L ni : Nat} {xs : Nat → Int32} (hC : Cx p c cL_law 4 s m #[Value.ref b] RL X s.heap.size) (hX : va_X b L xs s s.heap) (hbl : b < s.heap.size) (hL : L ≤ 3072) (hi : 6 * ni + 6 ≤ L) (hK : LK p l e s m below meth c Q X a b ni) {S : St} (hR : Rel S) {H : Heap} {locs : List Loc} {ls : Array Slot} (hI : IS X a s.heap.size s S H locs) (hl : lv_has ls 4 (lvL a b ni)) : W p l e room_1 s m #[Value.ref b] below meth c H locs 61 1191 Q (F0 m 1216 ls []) := by
  have z1 := zF_rg xs ni 1
  have z2 := zF_rg xs ni 2
  have z3 := zF_rg xs ni 3
  have z4 := zF_rg xs ni 4
  have z5 := zF_rg xs ni 5
  refine r_aload_n hC hl dL_law_1216 2 rfl ?_
  refine r_cVi hC hI hl [] [] (c_X6_undo l X a s.heap.size S  hR.1 hR.2.2.2.2.2.2.2.2.2.2.2.1) ml_RL_153 ev_X6_undo (rc_in (S := S) hC hI) ⟨Nat.le_of_ble_eq_true rfl, Nat.le_of_ble_eq_true rfl⟩ ⟨Nat.le_of_ble_eq_true rfl, Nat.le_of_ble_eq_true rfl⟩ (Nat.le_of_ble_eq_true rfl) rfl dL_law_1217 (fun H locs hI => ?_)
  obtain ⟨S1, eS1⟩ : ∃ z : St, z = fnF S 3 (if S 11 0 = 0 then 3 else -1) (setB S 0 (S 1)) := ⟨_, rfl⟩
  rw [← eS1] at hI
  have hNB := n_undo hR eS1
  refine r_aload_n hC hl dL_law_1220 1 rfl ?_
  refine r_cVi hC hI hl [] [.int (J (anF (if S 11 0 = 0 then 3 else -1) (S 1 5)))] (c_X7_undo l X a s.heap.size S1  (by rw [hNB.1]; exact hR.1) (by rw [hNB.2.2.1, hR.2.2.2.2.2.2.2.2.2.2.1]; exact hR.2.2.2.2.2.2.2.2.2.2.2.1)) ml_RL_156 ev_X7_undo (rc_mo (S := S1) hC hI) ⟨Nat.le_of_ble_eq_true rfl, Nat.le_of_ble_eq_true rfl⟩ ⟨Nat.le_of_ble_eq_true rfl, Nat.le_of_ble_eq_true rfl⟩ (Nat.le_of_ble_eq_true rfl) rfl dL_law_1221 (fun H locs hI => ?_)
  obtain ⟨S2, eS2⟩ : ∃ z : St, z = fnF S1 21 (if S1 25 6 = 0 then 3 else -1) (setB S1 20 (S1 28)) := ⟨_, rfl⟩
  rw [← eS2] at hI
  obtain ⟨han, hR2⟩ := s_undo hR eS1 eS2
  refine r_same (tgt := 1288) hC han dL_law_1224 (by decide) ?_
  exact hK S2 _ _ _ hR2 hI hl

set_option maxHeartbeats 4000000 in
set_option maxRecDepth 100000 in
theorem law_tear {p : Program} {l : Launch} {e : Env} {s : State} {m : MethodId} {below : List Frame} {meth : Method} {c : Code} {Q : State → Prop} {X : XT} {a : Nat → Nat} {b L ni : Nat} {xs : Nat → Int32} (hC : Cx p c cL_law 4 s m #[Value.ref b] RL X s.heap.size) (hX : va_X b L xs s s.heap) (hbl : b < s.heap.size) (hL : L ≤ 3072) (hi : 6 * ni + 6 ≤ L) (hK : LK p l e s m below meth c Q X a b ni) {S : St} (hR : Rel S) {H : Heap} {locs : List Loc} {ls : Array Slot} (hI : IS X a s.heap.size s S H locs) (hl : lv_has ls 4 (lvL a b ni)) : W p l e room_1 s m #[Value.ref b] below meth c H locs 61 1191 Q (F0 m 1229 ls []) := by
  have z1 := zF_rg xs ni 1
  have z2 := zF_rg xs ni 2
  have z3 := zF_rg xs ni 3
  have z4 := zF_rg xs ni 4
  have z5 := zF_rg xs ni 5
  refine r_aload_n hC hl dL_law_1229 2 rfl ?_
  refine r_cVi hC hI hl [] [] (c_X6_tear l X a s.heap.size S  hR.1 hR.2.2.2.2.2.2.2.2.2.2.2.1) ml_RL_157 ev_X6_tear (rc_in (S := S) hC hI) ⟨Nat.le_of_ble_eq_true rfl, Nat.le_of_ble_eq_true rfl⟩ ⟨Nat.le_of_ble_eq_true rfl, Nat.le_of_ble_eq_true rfl⟩ (Nat.le_of_ble_eq_true rfl) rfl dL_law_1230 (fun H locs hI => ?_)
  obtain ⟨S1, eS1⟩ : ∃ z : St, z = fnF S 3 (-1) (up S 11 0 0) := ⟨_, rfl⟩
  rw [← eS1] at hI
  have hNB := n_tear hR eS1
  refine r_aload_n hC hl dL_law_1233 1 rfl ?_
  refine r_cVi hC hI hl [] [.int (J (anF (-1) (S 11 0)))] (c_X7_tear l X a s.heap.size S1  (by rw [hNB.1]; exact hR.1) (by rw [hNB.2.2.1, hR.2.2.2.2.2.2.2.2.2.2.1]; exact hR.2.2.2.2.2.2.2.2.2.2.2.1)) ml_RL_160 ev_X7_tear (rc_mo (S := S1) hC hI) ⟨Nat.le_of_ble_eq_true rfl, Nat.le_of_ble_eq_true rfl⟩ ⟨Nat.le_of_ble_eq_true rfl, Nat.le_of_ble_eq_true rfl⟩ (Nat.le_of_ble_eq_true rfl) rfl dL_law_1234 (fun H locs hI => ?_)
  obtain ⟨S2, eS2⟩ : ∃ z : St, z = fnF S1 21 (-1) (up S1 25 6 0) := ⟨_, rfl⟩
  rw [← eS2] at hI
  obtain ⟨han, hR2⟩ := s_tear hR eS1 eS2
  refine r_same (tgt := 1288) hC han dL_law_1237 (by decide) ?_
  exact hK S2 _ _ _ hR2 hI hl

set_option maxHeartbeats 4000000 in
set_option maxRecDepth 100000 in
theorem law_count {p : Program} {l : Launch} {e : Env} {s : State} {m : MethodId} {below : List Frame} {meth : Method} {c : Code} {Q : State → Prop} {X : XT} {a : Nat → Nat} {b L ni : Nat} {xs : Nat → Int32} (hC : Cx p c cL_law 4 s m #[Value.ref b] RL X s.heap.size) (hX : va_X b L xs s s.heap) (hbl : b < s.heap.size) (hL : L ≤ 3072) (hi : 6 * ni + 6 ≤ L) (hK : LK p l e s m below meth c Q X a b ni) {S : St} (hR : Rel S) {H : Heap} {locs : List Loc} {ls : Array Slot} (hI : IS X a s.heap.size s S H locs) (hl : lv_has ls 4 (lvL a b ni)) : W p l e room_1 s m #[Value.ref b] below meth c H locs 61 1191 Q (F0 m 1242 ls []) := by
  have z1 := zF_rg xs ni 1
  have z2 := zF_rg xs ni 2
  have z3 := zF_rg xs ni 3
  have z4 := zF_rg xs ni 4
  have z5 := zF_rg xs ni 5
  refine r_aload_n hC hl dL_law_1242 2 rfl ?_
  refine r_aload_n hC hl dL_law_1243 3 rfl ?_
  refine r_iload_n hC hl dL_law_1244 0 rfl ?_
  refine r_iconst hC dL_law_1245 ?_
  refine r_iadd hC dL_law_1246 ?_
  refine r_sld (i := ni) (j := 1) hC hI hX hbl (by omega) (by omega) hL dL_law_1247 ?_
  refine r_cVi hC hI hl [.int (J (zF xs ni 1))] [] (c_X6_count l X a s.heap.size S (zF xs ni 1) hR.1 (zF_rg _ _ _)) ml_RL_161 ev_X6_count (rc_in (S := S) hC hI) ⟨Nat.le_of_ble_eq_true rfl, Nat.le_of_ble_eq_true rfl⟩ ⟨Nat.le_of_ble_eq_true rfl, Nat.le_of_ble_eq_true rfl⟩ (Nat.le_of_ble_eq_true rfl) rfl dL_law_1248 (fun H locs hI => ?_)
  obtain ⟨S1, eS1⟩ : ∃ z : St, z = fnF S 3 (if 0 ≤ (zF xs ni 1) ∧ (zF xs ni 1) ≤ 3 then -1 else 0) (S) := ⟨_, rfl⟩
  rw [← eS1] at hI
  have hNB := n_count hR eS1
  refine r_aload_n hC hl dL_law_1251 1 rfl ?_
  refine r_aload_n hC hl dL_law_1252 3 rfl ?_
  refine r_iload_n hC hl dL_law_1253 0 rfl ?_
  refine r_iconst hC dL_law_1254 ?_
  refine r_iadd hC dL_law_1255 ?_
  refine r_sld (i := ni) (j := 1) hC hI hX hbl (by omega) (by omega) hL dL_law_1256 ?_
  refine r_cVi hC hI hl [.int (J (zF xs ni 1))] [.int (J (anF (if 0 ≤ (zF xs ni 1) ∧ (zF xs ni 1) ≤ 3 then -1 else 0) (ctF (S 0) (S 5 0) (zF xs ni 1))))] (c_X7_count l X a s.heap.size S1 (zF xs ni 1) (by rw [hNB.1]; exact hR.1) (zF_rg _ _ _)) ml_RL_164 ev_X7_count (rc_mo (S := S1) hC hI) ⟨Nat.le_of_ble_eq_true rfl, Nat.le_of_ble_eq_true rfl⟩ ⟨Nat.le_of_ble_eq_true rfl, Nat.le_of_ble_eq_true rfl⟩ (Nat.le_of_ble_eq_true rfl) rfl dL_law_1257 (fun H locs hI => ?_)
  obtain ⟨S2, eS2⟩ : ∃ z : St, z = fnF S1 21 (if 0 ≤ (zF xs ni 1) ∧ (zF xs ni 1) ≤ 3 then -1 else 0) (S1) := ⟨_, rfl⟩
  rw [← eS2] at hI
  obtain ⟨han, hR2⟩ := s_count hR eS1 eS2
  refine r_same (tgt := 1288) hC han dL_law_1260 (by decide) ?_
  exact hK S2 _ _ _ hR2 hI hl

set_option maxHeartbeats 4000000 in
set_option maxRecDepth 100000 in
theorem law_status {p : Program} {l : Launch} {e : Env} {s : State} {m : MethodId} {below : List Frame} {meth : Method} {c : Code} {Q : State → Prop} {X : XT} {a : Nat → Nat} {b L ni : Nat} {xs : Nat → Int32} (hC : Cx p c cL_law 4 s m #[Value.ref b] RL X s.heap.size) (hX : va_X b L xs s s.heap) (hbl : b < s.heap.size) (hL : L ≤ 3072) (hi : 6 * ni + 6 ≤ L) (hK : LK p l e s m below meth c Q X a b ni) {S : St} (hR : Rel S) {H : Heap} {locs : List Loc} {ls : Array Slot} (hI : IS X a s.heap.size s S H locs) (hl : lv_has ls 4 (lvL a b ni)) : W p l e room_1 s m #[Value.ref b] below meth c H locs 61 1191 Q (F0 m 1265 ls []) := by
  have z1 := zF_rg xs ni 1
  have z2 := zF_rg xs ni 2
  have z3 := zF_rg xs ni 3
  have z4 := zF_rg xs ni 4
  have z5 := zF_rg xs ni 5
  refine r_aload_n hC hl dL_law_1265 2 rfl ?_
  refine r_aload_n hC hl dL_law_1266 3 rfl ?_
  refine r_iload_n hC hl dL_law_1267 0 rfl ?_
  refine r_iconst hC dL_law_1268 ?_
  refine r_iadd hC dL_law_1269 ?_
  refine r_sld (i := ni) (j := 1) hC hI hX hbl (by omega) (by omega) hL dL_law_1270 ?_
  refine r_cVi hC hI hl [.int (J (zF xs ni 1))] [] (c_X6_status l X a s.heap.size S (zF xs ni 1) hR.1 (zF_rg _ _ _)) ml_RL_165 ev_X6_status (rc_in (S := S) hC hI) ⟨Nat.le_of_ble_eq_true rfl, Nat.le_of_ble_eq_true rfl⟩ ⟨Nat.le_of_ble_eq_true rfl, Nat.le_of_ble_eq_true rfl⟩ (Nat.le_of_ble_eq_true rfl) rfl dL_law_1271 (fun H locs hI => ?_)
  obtain ⟨S1, eS1⟩ : ∃ z : St, z = fnF S 3 (if -1 ≤ (zF xs ni 1) ∧ (zF xs ni 1) ≤ 6 then -1 else 0) (S) := ⟨_, rfl⟩
  rw [← eS1] at hI
  have hNB := n_status hR eS1
  refine r_aload_n hC hl dL_law_1274 1 rfl ?_
  refine r_aload_n hC hl dL_law_1275 3 rfl ?_
  refine r_iload_n hC hl dL_law_1276 0 rfl ?_
  refine r_iconst hC dL_law_1277 ?_
  refine r_iadd hC dL_law_1278 ?_
  refine r_sld (i := ni) (j := 1) hC hI hX hbl (by omega) (by omega) hL dL_law_1279 ?_
  refine r_cVi hC hI hl [.int (J (zF xs ni 1))] [.int (J (anF (if -1 ≤ (zF xs ni 1) ∧ (zF xs ni 1) ≤ 6 then -1 else 0) (if (zF xs ni 1) < 0 then sumF (S 3) 7 else S 3 (zF xs ni 1).toNat)))] (c_X7_status l X a s.heap.size S1 (zF xs ni 1) (by rw [hNB.1]; exact hR.1) (zF_rg _ _ _)) ml_RL_168 ev_X7_status (rc_mo (S := S1) hC hI) ⟨Nat.le_of_ble_eq_true rfl, Nat.le_of_ble_eq_true rfl⟩ ⟨Nat.le_of_ble_eq_true rfl, Nat.le_of_ble_eq_true rfl⟩ (Nat.le_of_ble_eq_true rfl) rfl dL_law_1280 (fun H locs hI => ?_)
  obtain ⟨S2, eS2⟩ : ∃ z : St, z = fnF S1 21 (if -1 ≤ (zF xs ni 1) ∧ (zF xs ni 1) ≤ 6 then -1 else 0) (S1) := ⟨_, rfl⟩
  rw [← eS2] at hI
  obtain ⟨han, hR2⟩ := s_status hR eS1 eS2
  refine r_same (tgt := 1288) hC han dL_law_1283 (by decide) ?_
  exact hK S2 _ _ _ hR2 hI hl
