/-- class and reference hold the same, and hold what may be -/
def Rel (S : St) : Prop := VR 9999 (S 0) ∧ S 20 = S 0 ∧ S 21 = S 3 ∧ S 24 = S 4 ∧ S 25 0 = S 5 0 ∧ (0 ≤ S 5 0 ∧ S 5 0 ≤ 120) ∧ (∀ j, j < 120 → 0 ≤ S 4 j ∧ S 4 j ≤ 255) ∧ S 26 = S 6 ∧ S 27 = S 7 ∧ (∀ t, t < 4 → (S 6 t = 0 ∨ S 6 t = 8 ∨ S 6 t = 16 ∨ S 6 t = 64) ∧ (0 ≤ S 7 t ∧ S 7 t ≤ 40) ∧ ∀ j, j < 40 → (-9223372036854775808 ≤ S (12 + t) j ∧ S (12 + t) j ≤ 9223372036854775807) ∧ S 30 (40 * t + j) = S (12 + t) j) ∧ S 25 6 = S 11 0 ∧ (S 11 0 = 0 ∨ S 11 0 = 1) ∧ (S 11 0 = 1 → S 28 = S 1 ∧ VR 9999 (S 1))
theorem Rel.sh {S : St} (h : Rel S) : ∀ t, t < 4 → (S 6 t = 0 ∨ S 6 t = 8 ∨ S 6 t = 16 ∨ S 6 t = 64) ∧ (0 ≤ S 7 t ∧ S 7 t ≤ 40) ∧ ∀ j, j < 40 → -9223372036854775808 ≤ S (12 + t) j ∧ S (12 + t) j ≤ 9223372036854775807 := fun t ht => by
  have h1 := h.2.2.2.2.2.2.2.2.2.1 t ht
  exact ⟨h1.1, h1.2.1, fun j hj => (h1.2.2 j hj).1⟩
theorem Rel.sm {S S1 : St} (h : Rel S) (e6 : S1 26 = S 6) (e7 : S1 27 = S 7) : ∀ t, t < 4 → (S1 26 t = 0 ∨ S1 26 t = 8 ∨ S1 26 t = 16 ∨ S1 26 t = 64) ∧ 0 ≤ S1 27 t ∧ S1 27 t ≤ 40 := fun t ht => by
  have h1 := h.2.2.2.2.2.2.2.2.2.1 t ht
  rw [e6, e7]
  exact ⟨h1.1, h1.2.1⟩
theorem Rel.sl {S S1 : St} (h : Rel S) (e3 : S1 30 = S 30) : ∀ j, j < 160 → -9223372036854775808 ≤ S1 30 j ∧ S1 30 j ≤ 9223372036854775807 := fun j hj => by
  have h1 := ((h.2.2.2.2.2.2.2.2.2.1 (j / 40) (by omega)).2.2 (j % 40) (by omega))
  rw [e3, show j = 40 * (j / 40) + j % 40 by omega, h1.2]
  exact h1.1
theorem Rel.nu {S S1 : St} (h : Rel S) (e3 : S1 30 = S 30) {t j : Nat} (ht : t < 4) (hj : j < 40) : S1 30 (40 * t + j) = S (12 + t) j := by
  rw [e3]; exact ((h.2.2.2.2.2.2.2.2.2.1 t ht).2.2 j hj).2
theorem rel_rf {S S' : St} {R F : Nat → Int} (h : Rel S) (hV : VR 9999 R) (h0 : S' 0 = R) (h20 : S' 20 = R) (h3 : S' 3 = F) (h21 : S' 21 = F) (ho : ∀ b, b ≠ 0 → b ≠ 3 → b ≠ 20 → b ≠ 21 → b ≠ 8 → b ≠ 22 → b ≠ 23 → S' b = S b) : Rel S' := by
  obtain ⟨r1, r2, r3, r4, r5, r6, r7, r8, r9, r10, r11, r12, r13⟩ := h
  have e : ∀ b, b ≠ 0 ∧ b ≠ 3 ∧ b ≠ 20 ∧ b ≠ 21 ∧ b ≠ 8 ∧ b ≠ 22 ∧ b ≠ 23 → S' b = S b := fun b z => ho b z.1 z.2.1 z.2.2.1 z.2.2.2.1 z.2.2.2.2.1 z.2.2.2.2.2.1 z.2.2.2.2.2.2
  refine ⟨by rw [h0]; exact hV, by rw [h20, h0], by rw [h21, h3], ?_, ?_, ?_, ?_, ?_, ?_, ?_, ?_, ?_, ?_⟩
  · rw [e 24 (by decide), e 4 (by decide)]; exact r4
  · rw [e 25 (by decide), e 5 (by decide)]; exact r5
  · rw [e 5 (by decide)]; exact r6
  · rw [e 4 (by decide)]; exact r7
  · rw [e 26 (by decide), e 6 (by decide)]; exact r8
  · rw [e 27 (by decide), e 7 (by decide)]; exact r9
  · intro t ht
    rw [e 6 (by decide), e 7 (by decide), e 30 (by decide), e (12 + t) (by omega)]; exact r10 t ht
  · rw [e 25 (by decide), e 11 (by decide)]; exact r11
  · rw [e 11 (by decide)]; exact r12
  · rw [e 11 (by decide), e 28 (by decide), e 1 (by decide)]; exact r13
theorem rel_fin {S T S1 T2 S2 : St} (h : Rel S) (n : Nat) (hT : ∀ b, b ≠ 8 → T b = S b) (e1 : S1 = up T 3 n (T 3 n + 1)) (hT2 : ∀ b, b ≠ 22 → T2 b = S1 b) (e2 : S2 = up T2 21 n (T2 21 n + 1)) : Rel S2 := by
  subst e2
  refine rel_rf (R := S 0) (F := upR (S 3) n (S 3 n + 1)) h h.1 ?_ ?_ ?_ ?_ (fun b z1 z2 z3 z4 z5 z6 z7 => ?_)
  · rw [up_nb _ _ (by decide), hT2 0 (by decide), e1, up_nb _ _ (by decide), hT 0 (by decide)]
  · rw [up_nb _ _ (by decide), hT2 20 (by decide), e1, up_nb _ _ (by decide), hT 20 (by decide)]; exact h.2.1
  · rw [up_nb _ _ (by decide), hT2 3 (by decide), e1, up_b, hT 3 (by decide)]
  · rw [up_b, hT2 21 (by decide), e1, up_nb _ _ (by decide), hT 21 (by decide), h.2.2.1]
  · rw [up_nb _ _ z4, hT2 b z6, e1, up_nb _ _ z2, hT b z5]
theorem step {S S1 S2 T1 T2 : St} {c : Int} (h : Rel S) (e1 : S1 = fnF S 3 c T1) (e2 : S2 = fnF S1 21 c T2) (hn : c < 0 → S1 = T1 → Rel T2) : Rel S2 := by
  by_cases hc : 0 ≤ c
  · exact rel_fin h c.toNat (fun _ _ => rfl) (e1.trans (if_pos hc)) (fun _ _ => rfl) (e2.trans (if_pos hc))
  · rw [e2.trans (if_neg hc)]
    exact hn (by omega) (e1.trans (if_neg hc))
theorem rel_8 {S T : St} (h : Rel S) (hT : ∀ b, b ≠ 8 → b ≠ 22 → b ≠ 23 → T b = S b) : Rel T := rel_rf (R := S 0) (F := S 3) h h.1 (hT 0 (by decide) (by decide) (by decide)) ((hT 20 (by decide) (by decide) (by decide)).trans h.2.1) (hT 3 (by decide) (by decide) (by decide)) ((hT 21 (by decide) (by decide) (by decide)).trans h.2.2.1) (fun b _ _ _ _ z5 z6 z7 => hT b z5 z6 z7)
theorem step_scr {S S1 S2 T1 T2 : St} {p : Prop} [Decidable p] {v : Int} (h : Rel S) (hT : ∀ b, b ≠ 8 → T1 b = S b) (e1 : S1 = if p then fnF T1 3 (onC v) T1 else up S 3 0 (S 3 0 + 1)) (hT2 : ∀ b, b ≠ 22 → T2 b = S1 b) (e2 : S2 = if p then fnF T2 21 (onC v) T2 else up S1 21 0 (S1 21 0 + 1)) : Rel S2 := by
  by_cases hp : p
  · rw [if_pos hp] at e1 e2
    by_cases hc : 0 ≤ onC v
    · exact rel_fin h (onC v).toNat hT (e1.trans (if_pos hc)) hT2 (e2.trans (if_pos hc))
    · have e3 := e1.trans (if_neg hc)
      rw [e2.trans (if_neg hc)]
      exact rel_8 h (fun b z1 z2 z3 => by rw [hT2 b z2, e3, hT b z1])
  · rw [if_neg hp] at e1 e2
    exact rel_fin h 0 (fun _ _ => rfl) e1 (fun _ _ => rfl) e2
theorem fn_if {S T : St} {p : Prop} [Decidable p] {v : Int} {b : Nat} : fnF S b (if p then onC v else 0) S = if p then fnF S b (onC v) S else up S b 0 (S b 0 + 1) := by
  by_cases hp : p
  · rw [if_pos hp, if_pos hp]
  · rw [if_neg hp, if_neg hp]; rfl
theorem fn_b {S S1 T1 : St} {c : Int} {b : Nat} (e1 : S1 = fnF S 3 c T1) (hb : b ≠ 3) (hT : T1 b = S b) : S1 b = S b := by
  rw [e1]
  unfold fnF
  split
  · exact up_nb _ _ hb
  · exact hT
theorem sc_b {S S1 T1 : St} {p : Prop} [Decidable p] {v : Int} {b : Nat} (e1 : S1 = if p then fnF T1 3 (onC v) T1 else up S 3 0 (S 3 0 + 1)) (hb : b ≠ 3) (hT : T1 b = S b) : S1 b = S b := by
  rw [e1]
  split
  · unfold fnF
    split
    · rw [up_nb _ _ hb]; exact hT
    · exact hT
  · exact up_nb _ _ hb
theorem rel_up {S S1 : St} {j : Nat} {x : Int} (h : Rel S) (e1 : S1 = up S 0 j x) (hV : VR 9999 (upR (S 0) j x)) : Rel (up S1 20 j x) := by
  refine rel_rf (R := upR (S 0) j x) (F := S 3) h hV ?_ ?_ ?_ ?_ (fun b z1 z2 z3 z4 z5 z6 z7 => ?_)
  · rw [up_nb _ _ (by decide), e1, up_b]
  · rw [up_b, e1, up_nb _ _ (by decide), h.2.1]
  · rw [up_nb _ _ (by decide), e1, up_nb _ _ (by decide)]
  · rw [up_nb _ _ (by decide), e1, up_nb _ _ (by decide)]; exact h.2.2.1
  · rw [up_nb _ _ z3, e1, up_nb _ _ z1]
theorem rel_set {S S1 : St} {R : Nat → Int} (h : Rel S) (e1 : S1 = setB S 0 R) (hV : VR 9999 R) : Rel (setB S1 20 R) := by
  refine rel_rf (R := R) (F := S 3) h hV ?_ ?_ ?_ ?_ (fun b z1 z2 z3 z4 z5 z6 z7 => ?_)
  · rw [setB_ne _ _ (by decide), e1, setB_at]
  · rw [setB_at]
  · rw [setB_ne _ _ (by decide), e1, setB_ne _ _ (by decide)]
  · rw [setB_ne _ _ (by decide), e1, setB_ne _ _ (by decide)]; exact h.2.2.1
  · rw [setB_ne _ _ z3, e1, setB_ne _ _ z1]
theorem c1 {p : Prop} [Decidable p] (h : (if p then (-1 : Int) else 0) < 0) : p := by
  by_cases hp : p
  · exact hp
  · rw [if_neg hp] at h; exact absurd h (by decide)
theorem c2 {p q : Prop} [Decidable p] [Decidable q] {x y : Int} (hx : 0 ≤ x) (hy : 0 ≤ y) (h : (if ¬ p then x else if q then y else (-1 : Int)) < 0) : p ∧ ¬ q := by
  by_cases hp : p
  · rw [if_neg (fun z : ¬ p => z hp)] at h
    by_cases hq : q
    · rw [if_pos hq] at h; omega
    · exact ⟨hp, hq⟩
  · rw [if_pos hp] at h; omega
theorem c3 {p q r : Prop} [Decidable p] [Decidable q] [Decidable r] {x y z : Int} (hx : 0 ≤ x) (hy : 0 ≤ y) (hz : 0 ≤ z) (h : (if ¬ p then x else if q then y else if r then z else (-1 : Int)) < 0) : p ∧ ¬ q ∧ ¬ r := by
  by_cases hp : p
  · rw [if_neg (fun z : ¬ p => z hp)] at h
    by_cases hq : q
    · rw [if_pos hq] at h; omega
    · rw [if_neg hq] at h
      by_cases hr : r
      · rw [if_pos hr] at h; omega
      · exact ⟨hp, hq, hr⟩
  · rw [if_pos hp] at h; omega
theorem VR_set {N : Int} {R : Nat → Int} {w : Nat} {v u : Int} (hV : VR N R) (hw : w < 8) (hv : 1 ≤ v ∧ v ≤ 4) (hu : leP v ≤ u ∧ u ≤ moP v) : VR N (upR R (18 + 5 * w + v.toNat) u) := by
  rcases (show v = 1 ∨ v = 2 ∨ v = 3 ∨ v = 4 by omega) with rfl | rfl | rfl | rfl
  · rw [show 18 + 5 * w + (1 : Int).toNat = 19 + 5 * w by show 18 + 5 * w + 1 = _; omega]
    exact VR_w ⟨by have z : (1 : Int) ≤ u := hu.1; omega, hu.2⟩ hw hV
  · rw [show 18 + 5 * w + (2 : Int).toNat = 20 + 5 * w by show 18 + 5 * w + 2 = _; omega]
    exact VR_b hu hw hV
  · rw [show 18 + 5 * w + (3 : Int).toNat = 21 + 5 * w by show 18 + 5 * w + 3 = _; omega]
    exact VR_s hu hw hV
  · rw [show 18 + 5 * w + (4 : Int).toNat = 22 + 5 * w by show 18 + 5 * w + 4 = _; omega]
    exact VR_r hu hw hV
theorem sp_VR {N : Int} {R : Nat → Int} {i : Nat} (hV : VR N R) (hi : i < 8) (hc : csF (R (18 + 5 * i)) (R (19 + 5 * i)) ≤ R 3) : VR N (spF R i) := by
  have hp := hV.2.2 i hi
  have h3 := hV.1.2.2.2.1
  have hcs := cs_rg (k := R (18 + 5 * i)) hp.2.1
  have htk := tk_rg (k := R (18 + 5 * i)) (dk_rg hV 0)
  unfold spF
  exact VR_r (by omega) hi (VR_b htk hi (VR_3 (by omega) hV))
theorem ng_VR {R : Nat → Int} {n : Nat} (hV : VR 9999 R) (hn : n ≤ 100) (h : R 0 + (n : Int) ≤ 9999) : VR 9999 (lgF R n) := VR_mono h (lg_VR (N := R 0) (by omega) ⟨⟨⟨hV.1.1.1, Int.le_refl _⟩, hV.1.2⟩, hV.2⟩)
theorem bq_o {R N : Nat → Int} {m j : Nat} (h : ¬ (18 ≤ j ∧ (j - 18) % 5 = 2)) : bkQ R N m j = R j := by
  unfold bkQ
  rw [if_neg (fun z => h ⟨z.1, z.2.1⟩)]
theorem bq_VR {M : Int} {R N : Nat → Int} {m : Nat} (hV : VR M R) : VR M (bkQ R N m) := by
  obtain ⟨⟨hN, hBr, hBu, hIn, hLa, hPc⟩, hDk, hPg⟩ := id hV
  refine ⟨⟨?_, ?_, ?_, ?_, ?_, ?_⟩, fun j hj => ?_, fun i hi => ?_⟩
  · rw [bq_o (by omega)]; exact hN
  · rw [bq_o (by omega)]; exact hBr
  · rw [bq_o (by omega)]; exact hBu
  · rw [bq_o (by omega)]; exact hIn
  · rw [bq_o (by omega)]; exact hLa
  · rw [bq_o (by omega)]; exact hPc
  · rw [bq_o (by omega)]; exact hDk j hj
  · have hp := hPg i hi
    unfold VP
    rw [bq_o (j := 18 + 5 * i) (by omega), bq_o (j := 19 + 5 * i) (by omega), bq_o (j := 21 + 5 * i) (by omega), bq_o (j := 22 + 5 * i) (by omega)]
    refine ⟨hp.1, hp.2.1, ?_, hp.2.2.2⟩
    unfold bkQ
    split
    · rename_i z; exact z.2.2.2
    · exact hp.2.2.1
theorem bq_cg {R N N2 : Nat → Int} {m : Nat} (hm : m ≤ 40) (h : ∀ j, j < 40 → N2 j = N j) : bkQ R N2 m = bkQ R N m := by
  funext j
  unfold bkQ
  by_cases hj : (j - 18) / 5 < m
  · rw [h ((j - 18) / 5) (by omega)]
  · rw [if_neg (fun z => hj z.2.2.1), if_neg (fun z => hj z.2.2.1)]
theorem tl_VR {T : Nat → Int} {N : Int} : ∀ (n : Nat) (A R : Nat → Int) (i : Int), VR N R → VR N (tlF T n A R i).2.2
  | 0, A, R, i, h => h
  | n + 1, A, R, i, h => by
    have h1 := it_VR (T := T) (A := A) h
    rw [tl_s]
    split
    · split
      · exact h1
      · split
        · exact tl_VR n _ _ _ h1
        · exact h1
    · exact h1
theorem rel_sh {S S' : St} {t : Nat} (ht : t < 4) {bt ln : Int} {N : Nat → Int} (h : Rel S) (hb : bt = 0 ∨ bt = 8 ∨ bt = 16 ∨ bt = 64) (hl : 0 ≤ ln ∧ ln ≤ 40) (hN : ∀ j, j < 40 → -9223372036854775808 ≤ N j ∧ N j ≤ 9223372036854775807) (h6 : S' 6 = upR (S 6) t bt) (h26 : S' 26 = upR (S 6) t bt) (h7 : S' 7 = upR (S 7) t ln) (h27 : S' 27 = upR (S 7) t ln) (hn : S' (12 + t) = N) (hno : ∀ t2, t2 < 4 → t2 ≠ t → S' (12 + t2) = S (12 + t2)) (h30 : ∀ j, j < 40 → S' 30 (40 * t + j) = N j) (h3o : ∀ q, q < 40 * t ∨ 40 * t + 40 ≤ q → S' 30 q = S 30 q) (ho : ∀ b, b ≠ 6 → b ≠ 7 → b ≠ 12 + t → b ≠ 22 → b ≠ 26 → b ≠ 27 → b ≠ 30 → b ≠ 31 → S' b = S b) : Rel S' := by
  obtain ⟨r1, r2, r3, r4, r5, r6, r7, r8, r9, r10, r11, r12, r13⟩ := h
  have e : ∀ b, b ≠ 6 ∧ b ≠ 7 ∧ b ≠ 12 + t ∧ b ≠ 22 ∧ b ≠ 26 ∧ b ≠ 27 ∧ b ≠ 30 ∧ b ≠ 31 → S' b = S b := fun b z => ho b z.1 z.2.1 z.2.2.1 z.2.2.2.1 z.2.2.2.2.1 z.2.2.2.2.2.1 z.2.2.2.2.2.2.1 z.2.2.2.2.2.2.2
  refine ⟨?_, ?_, ?_, ?_, ?_, ?_, ?_, by rw [h26, h6], by rw [h27, h7], ?_, ?_, ?_, ?_⟩
  · rw [e 0 (by omega)]; exact r1
  · rw [e 20 (by omega), e 0 (by omega)]; exact r2
  · rw [e 21 (by omega), e 3 (by omega)]; exact r3
  · rw [e 24 (by omega), e 4 (by omega)]; exact r4
  · rw [e 25 (by omega), e 5 (by omega)]; exact r5
  · rw [e 5 (by omega)]; exact r6
  · rw [e 4 (by omega)]; exact r7
  · intro t2 ht2
    rw [h6, h7]
    by_cases et : t2 = t
    · subst et
      rw [upR_at, upR_at, hn]
      exact ⟨hb, hl, fun j hj => ⟨hN j hj, h30 j hj⟩⟩
    · rw [upR_ne _ _ et, upR_ne _ _ et, hno t2 ht2 et]
      have h1 := r10 t2 ht2
      exact ⟨h1.1, h1.2.1, fun j hj => ⟨(h1.2.2 j hj).1, by rw [h3o _ (by omega)]; exact (h1.2.2 j hj).2⟩⟩
  · rw [e 25 (by omega), e 11 (by omega)]; exact r11
  · rw [e 11 (by omega)]; exact r12
  · rw [e 11 (by omega), e 28 (by omega), e 1 (by omega)]; exact r13
theorem lb_rg {bt x : Int} (hx : -9223372036854775808 ≤ x ∧ x ≤ 9223372036854775807) : -9223372036854775808 ≤ lbF bt x ∧ lbF bt x ≤ 9223372036854775807 := by
  have h1 := i8_rg x; have h2 := i16_rg x
  unfold lbF
  (repeat' split) <;> omega
theorem rel_tp {S S' : St} {T : Nat → Int} {n : Int} (h : Rel S) (hn : 0 ≤ n ∧ n ≤ 120) (hT : ∀ j, j < 120 → 0 ≤ T j ∧ T j ≤ 255) {R : Nat → Int} (hV : VR 9999 R) (h0 : S' 0 = R) (h20 : S' 20 = R) (h4 : S' 4 = T) (h24 : S' 24 = T) (h5 : S' 5 0 = n) (h25 : S' 25 0 = n) (h256 : S' 25 6 = S 25 6) (ho : ∀ b, b ≠ 0 → b ≠ 2 → b ≠ 4 → b ≠ 5 → b ≠ 20 → b ≠ 24 → b ≠ 25 → b ≠ 29 → b ≠ 32 → S' b = S b) : Rel S' := by
  obtain ⟨r1, r2, r3, r4, r5, r6, r7, r8, r9, r10, r11, r12, r13⟩ := h
  have e : ∀ b, b ≠ 0 ∧ b ≠ 2 ∧ b ≠ 4 ∧ b ≠ 5 ∧ b ≠ 20 ∧ b ≠ 24 ∧ b ≠ 25 ∧ b ≠ 29 ∧ b ≠ 32 → S' b = S b := fun b z => ho b z.1 z.2.1 z.2.2.1 z.2.2.2.1 z.2.2.2.2.1 z.2.2.2.2.2.1 z.2.2.2.2.2.2.1 z.2.2.2.2.2.2.2.1 z.2.2.2.2.2.2.2.2
  refine ⟨by rw [h0]; exact hV, by rw [h20, h0], ?_, by rw [h24, h4], by rw [h25, h5], by rw [h5]; exact hn, by rw [h4]; exact hT, ?_, ?_, ?_, ?_, ?_, ?_⟩
  · rw [e 21 (by decide), e 3 (by decide)]; exact r3
  · rw [e 26 (by decide), e 6 (by decide)]; exact r8
  · rw [e 27 (by decide), e 7 (by decide)]; exact r9
  · intro t ht
    rw [e 6 (by decide), e 7 (by decide), e 30 (by decide), e (12 + t) (by omega)]; exact r10 t ht
  · rw [h256, e 11 (by decide)]; exact r11
  · rw [e 11 (by decide)]; exact r12
  · rw [e 11 (by decide), e 28 (by decide), e 1 (by decide)]; exact r13
