theorem ite_cg {α : Type} {p q : Prop} [Decidable p] [Decidable q] (h : p ↔ q) {x y : α} : (if p then x else y) = if q then x else y := by
  by_cases hp : p
  · rw [if_pos hp, if_pos (h.mp hp)]
  · rw [if_neg hp, if_neg (fun z => hp (h.mpr z))]

/-- the words as the reference counts them -/
def hN (i : Nat) : Nat → Int
  | 0 => 0
  | k + 1 => 27 * hN i k + wB i k - 96
def hsh (i : Nat) : Int := [315851, 82516, 175252482, 296643787, 459606, 11803757, 79958, 28120299247, 6950, 237292, 14432].getD i 0
theorem hs_ok : ∀ i, i < 11 → hN i (wL i) = hsh i ∧ 0 < hsh i := by decide +kernel
theorem wB_l {i j : Nat} (hi : i < 11) (hj : j < wL i) : 97 ≤ wB i j ∧ wB i j ≤ 122 := (wB_ok i hi j hj).2.2.2
theorem hN_nn {i : Nat} : ∀ m : Nat, (∀ j, j < m → 97 ≤ wB i j ∧ wB i j ≤ 122) → 0 ≤ hN i m ∧ (0 < m → 0 < hN i m)
  | 0, _ => ⟨Int.le_refl 0, fun h => absurd h (Nat.lt_irrefl 0)⟩
  | m + 1, h => by
    have h1 := hN_nn m (fun j hj => h j (by omega))
    have h2 := h m (by omega)
    have e : hN i (m + 1) = 27 * hN i m + wB i m - 96 := rfl
    rw [e]
    omega
theorem wh_iff {T : Nat → Int} {b i : Nat} : ∀ k m : Nat, k ≤ 12 → (∀ j, b ≤ j → j < b + k → 97 ≤ T j ∧ T j ≤ 122) → (∀ j, j < m → 97 ≤ wB i j ∧ wB i j ≤ 122) → (whF T b k = hN i m ↔ k = m ∧ ∀ j, j < m → T (b + j) = wB i j)
  | 0, 0, _, _, _ => ⟨fun _ => ⟨rfl, fun j hj => absurd hj (Nat.not_lt_zero j)⟩, fun _ => rfl⟩
  | 0, m + 1, _, _, h2 => by
    have h3 := (hN_nn (i := i) (m + 1) h2).2 (by omega)
    have e : whF T b 0 = 0 := rfl
    rw [e]
    constructor
    · intro h; omega
    · intro h; omega
  | k + 1, 0, hk, h1, _ => by
    have h3 := (wh_rg (T := T) (b := b) k (fun j ha hb => h1 j ha (by omega))).1 (by omega)
    have h4 := h1 (b + k) (by omega) (by omega)
    have e : whF T b (k + 1) = 27 * whF T b k + T (b + k) - 96 := if_pos (by omega)
    have e2 : hN i 0 = 0 := rfl
    rw [e, e2]
    constructor
    · intro h; omega
    · intro h; omega
  | k + 1, m + 1, hk, h1, h2 => by
    have h3 := wh_iff k m (by omega) (fun j ha hb => h1 j ha (by omega)) (fun j hj => h2 j (by omega))
    have h4 := h1 (b + k) (by omega) (by omega)
    have h5 := h2 m (by omega)
    have e : whF T b (k + 1) = 27 * whF T b k + T (b + k) - 96 := if_pos (by omega)
    have e2 : hN i (m + 1) = 27 * hN i m + wB i m - 96 := rfl
    rw [e, e2]
    constructor
    · intro h
      have h6 : whF T b k = hN i m ∧ T (b + k) = wB i m := by omega
      have h7 := h3.mp h6.1
      refine ⟨by omega, lt_s h7.2 ?_⟩
      rw [← h7.1, h6.2, h7.1]
    · intro h
      have hkm : k = m := by omega
      have h6 : whF T b k = hN i m := h3.mpr ⟨hkm, fun j hj => h.2 j (by omega)⟩
      have h7 : T (b + k) = wB i m := by rw [hkm]; exact h.2 m (by omega)
      omega
theorem vc_vm {T : Nat → Int} {b : Nat} : ∀ k : Nat, (∀ j, b ≤ j → j < b + k → 48 ≤ T j ∧ T j ≤ 57) → vcF T b k = mnF 1000 (vmF T b k)
  | 0, _ => by show (0 : Int) = mnF 1000 0; decide
  | k + 1, h => by
    have h1 := vc_vm k (fun j ha hb => h j ha (by omega))
    have h2 := h (b + k) (by omega) (by omega)
    have h3 := vm_rg (T := T) (b := b) k (fun j ha hb => h j ha (by omega))
    have e : vcF T b (k + 1) = mnF 1000 (10 * vcF T b k + T (b + k) - 48) := rfl
    have e2 : vmF T b (k + 1) = if 999 < vmF T b k then 10000 else 10 * vmF T b k + T (b + k) - 48 := rfl
    rw [e, e2, h1]
    unfold mnF
    (repeat' split) <;> omega
/-- the class's tape row A and the reference's A2, w stand at the same token -/
def RT (T A A2 : Nat → Int) (w : Int) : Prop := A 0 = A2 0 ∧ A 2 = A2 2 ∧ A 3 = A2 3 ∧ ((A 1 = 0 ↔ A2 1 = 0) ∧ (A 1 = 1 ↔ A2 1 = 1) ∧ (A 1 = 2 ↔ A2 1 = 2) ∧ (A 1 = 3 ↔ A2 1 = 3 ∧ A2 4 = 59)) ∧ (A 1 = 2 → A 4 = mnF 1000 (A2 4) ∧ 0 ≤ A2 4) ∧ (A 1 = 1 → ∀ i, i < 11 → (wdP T (A 2).toNat (A 3 - A 2) i ↔ w = hsh i))
theorem RT.g {T A A2 : Nat → Int} {w x : Int} (h : RT T A A2 w) : RT T A (upR A2 5 x) w := h
theorem rt_ad {T A A2 : Nat → Int} (hL : 0 ≤ A 0 ∧ A 0 ≤ 120) (h3 : 0 ≤ A 3 ∧ A 3 ≤ A 0) (hB : ∀ j, j < 120 → 0 ≤ T j ∧ T j ≤ 255) (e0 : A 0 = A2 0) (e3 : A 3 = A2 3) : RT T (tnF T A) (adF T A2) (adW T A2) := by
  have hzb : zb T A2 = zB T (A 0).toNat (A 3).toNat := by unfold zb; rw [e0, e3]
  have hz := zB_rg (T := T) (n := (A 0).toNat) (p := (A 3).toNat) (by omega)
  generalize hb : zB T (A 0).toNat (A 3).toNat = b at hzb hz
  have c0 : tnF T A 0 = A 0 := rfl
  have c1 : tnF T A 1 = tcF T (A 0).toNat b := by rw [← hb]; rfl
  have c2 : tnF T A 2 = (b : Int) := by rw [← hb]; rfl
  have c3 : tnF T A 3 = ((teF T (A 0).toNat b : Nat) : Int) := by rw [← hb]; rfl
  have c4 : tnF T A 4 = tvF T (A 0).toNat b (A 4) := by rw [← hb]; rfl
  have m0 : adF T A2 0 = A 0 := by rw [e0]; rfl
  have m1 : adF T A2 1 = soF T (A 0).toNat b := by rw [e0, ← hzb]; rfl
  have m2 : adF T A2 2 = (b : Int) := by rw [← hzb]; rfl
  have m3 : adF T A2 3 = ((teF T (A 0).toNat b : Nat) : Int) := by rw [e0, ← hzb]; rfl
  have m4 : adF T A2 4 = avF T A2 b := by rw [← hzb]; rfl
  have mw : adW T A2 = awF T (A 0).toNat b := by rw [e0, ← hzb]; rfl
  have hbt := bt_cs (T := T) (n := A2 0) (by rw [← e0]; exact hL) hB b
  refine ⟨by rw [c0, m0], by rw [c2, m2], by rw [c3, m3], ?_, ?_, ?_⟩
  · rw [c1, m1, m4]
    have h4 : soF T (A 0).toNat b ≠ 2 → avF T A2 b = btF T (A2 0) (b : Int) := fun h => av_ne (by rw [← e0]; exact h)
    by_cases g0 : (A 0).toNat ≤ b
    · have s0 : soF T (A 0).toNat b = 0 := if_pos g0
      have t0 : tcF T (A 0).toNat b = 0 := if_pos g0
      rw [s0, t0]; omega
    · by_cases g1 : 97 ≤ T b ∧ T b ≤ 122
      · have s0 : soF T (A 0).toNat b = 1 := by unfold soF; rw [if_neg g0, if_pos g1]
        have t0 : tcF T (A 0).toNat b = 1 := by unfold tcF; rw [if_neg g0, if_pos g1]
        rw [s0, t0]; omega
      · by_cases g2 : 48 ≤ T b ∧ T b ≤ 57
        · have s0 : soF T (A 0).toNat b = 2 := by unfold soF; rw [if_neg g0, if_neg g1, if_pos g2]
          have t0 : tcF T (A 0).toNat b = 2 := by unfold tcF; rw [if_neg g0, if_neg g1, if_pos g2]
          rw [s0, t0]; omega
        · have s0 : soF T (A 0).toNat b = 3 := by unfold soF; rw [if_neg g0, if_neg g1, if_neg g2]
          have h5 := h4 (by rw [s0]; decide)
          by_cases g3 : T b = 59
          · have t0 : tcF T (A 0).toNat b = 3 := by unfold tcF; rw [if_neg g0, if_neg g1, if_neg g2, if_pos g3]
            rw [s0, t0, h5]; omega
          · have t0 : tcF T (A 0).toNat b = 4 := by unfold tcF; rw [if_neg g0, if_neg g1, if_neg g2, if_neg g3]
            rw [s0, t0, h5]; omega
  · rw [c1, c4, m4]
    intro h
    have h2 := tc_2 h
    have s0 : soF T (A 0).toNat b = 2 := by unfold soF; rw [if_neg (by omega), if_neg (by omega), if_pos h2.2]
    have hr := zD_rg (T := T) h2.1 h2.2
    have hd : ∀ j, b ≤ j → j < b + (zD T (A 0).toNat b - b) → 48 ≤ T j ∧ T j ≤ 57 := fun j ha hc => zD_all (n := (A 0).toNat) j ha (by omega)
    rw [tv_eq h, av_eq (by rw [← e0]; exact s0), ← e0]
    exact ⟨vc_vm _ hd, (vm_rg _ hd).1⟩
  · rw [c1, c2, c3, mw]
    intro h i hi
    have h2 := tc_1 h
    have s0 : soF T (A 0).toNat b = 1 := by unfold soF; rw [if_neg (by omega), if_pos h2.2]
    have hr := zL_rg (T := T) h2.1 h2.2
    have et : teF T (A 0).toNat b = zL T (A 0).toNat b := by unfold teF; rw [if_neg (by omega), if_pos h2.2]
    have hd : ∀ j, b ≤ j → j < b + (zL T (A 0).toNat b - b) → 97 ≤ T j ∧ T j ≤ 122 := fun j ha hc => zL_all (n := (A 0).toNat) j ha (by omega)
    have hl := wL_rg i hi
    have ho := hs_ok i hi
    rw [aw_eq s0, et, Int.toNat_natCast, show ((zL T (A 0).toNat b : Nat) : Int) - (b : Int) = ((zL T (A 0).toNat b - b : Nat) : Int) by omega]
    by_cases hk : zL T (A 0).toNat b - b ≤ 12
    · have hw := wh_iff (T := T) (b := b) (i := i) (zL T (A 0).toNat b - b) (wL i) hk hd (fun j hj => wB_l hi hj)
      rw [ho.1] at hw
      rw [hw]
      exact ⟨fun z => ⟨by have := z.1; omega, z.2⟩, fun z => ⟨by have := z.1; omega, z.2⟩⟩
    · have hw := (wh_rg (T := T) (b := b) (zL T (A 0).toNat b - b) hd).2 (by omega)
      rw [hw]
      exact ⟨fun z => by have := z.1; omega, fun z => by omega⟩

def RQ (T A A2 : Nat → Int) (w : Int) : Prop := RT T A A2 w ∧ VA T A ∧ VM T A2 w
theorem RQ.g {T A A2 : Nat → Int} {w x : Int} (hx : x = 0 ∨ x = 1) (h : RQ T A A2 w) : RQ T A (upR A2 5 x) w := ⟨h.1.g, h.2.1, h.2.2.g hx⟩
theorem RQ.ad {T A A2 : Nat → Int} {w : Int} (h : RQ T A A2 w) : RQ T (tnF T A) (adF T A2) (adW T A2) := ⟨rt_ad h.2.1.1 ⟨by have h1 := h.2.1.2.2.1; omega, h.2.1.2.2.2.1⟩ h.2.1.2.2.2.2.2 h.1.1 h.1.2.2.1, h.2.1.tn, h.2.2.ad⟩
theorem RQ.w {T A A2 : Nat → Int} {w : Int} (h : RQ T A A2 w) {i : Nat} (hi : i < 11) : isW T A i ↔ A2 1 = 1 ∧ w = hsh i := by
  have h1 := h.1.2.2.2.1.2.1
  constructor
  · intro z
    exact ⟨h1.mp z.1, (h.1.2.2.2.2.2 z.1 i hi).mp z.2⟩
  · intro z
    exact ⟨h1.mpr z.1, (h.1.2.2.2.2.2 (h1.mpr z.1) i hi).mpr z.2⟩
theorem nu_rel {T A A2 : Nat → Int} {w lo hi : Int} (h : RQ T A A2 w) (h5 : A2 5 = 1) (hl : 0 ≤ lo) (hh : hi ≤ 999) : ((A2 5 = 1 ∧ A2 1 = 2 ∧ lo ≤ A2 4 ∧ A2 4 ≤ hi) ∧ nuF A lo hi = A2 4 ∧ 0 ≤ A2 4) ∨ (¬ (A2 5 = 1 ∧ A2 1 = 2 ∧ lo ≤ A2 4 ∧ A2 4 ≤ hi) ∧ nuF A lo hi = -1) := by
  have h1 := h.1.2.2.2.1.2.2.1
  have h2 := h.1.2.2.2.2.1
  by_cases e : A 1 = 2
  · have h3 := h2 e
    have h4 := h1.mp e
    unfold nuF
    unfold mnF at h3
    by_cases e2 : A 1 = 2 ∧ lo ≤ A 4 ∧ A 4 ≤ hi
    · rw [if_pos e2]
      refine Or.inl ?_
      have h6 := h3.1
      split at h6 <;> omega
    · rw [if_neg e2]
      refine Or.inr ⟨?_, rfl⟩
      have h6 := h3.1
      split at h6 <;> omega
  · have h4 : ¬ A2 1 = 2 := fun z => e (h1.mpr z)
    unfold nuF
    rw [if_neg (fun z => e z.1)]
    exact Or.inr ⟨fun z => h4 z.2.1, rfl⟩
theorem wn_t {T A : Nat → Int} {w lo hi : Int} (h : A 5 = 1 ∧ A 1 = 2 ∧ lo ≤ A 4 ∧ A 4 ≤ hi) : wnA T A lo hi = adF T (upR A 5 1) ∧ wnW T A w lo hi = adW T (upR A 5 1) ∧ wnA T A lo hi 5 = 1 := by
  have e : wnA T A lo hi = adF T (upR A 5 1) := if_pos h
  exact ⟨e, if_pos h, by rw [e]; rfl⟩
theorem wn_f {T A : Nat → Int} {w lo hi : Int} (h : ¬ (A 5 = 1 ∧ A 1 = 2 ∧ lo ≤ A 4 ∧ A 4 ≤ hi)) : wnA T A lo hi = upR A 5 0 ∧ wnW T A w lo hi = w ∧ wnA T A lo hi 5 = 0 := by
  have e : wnA T A lo hi = upR A 5 0 := if_neg h
  exact ⟨e, if_neg h, by rw [e]; rfl⟩
theorem tj_rel {T A A2 R : Nat → Int} {w z u m : Int} (h : RQ T A A2 w) (h5 : A2 5 = 1) (hm : mjF u = m) (hm9 : m ≤ 999) (hz : 1 + u.toNat = z.toNat) : RQ T (tjA T A u) (wjA T A2 m) (wjW T A2 m) ∧ (tjO T A u ↔ wjA T A2 m 5 = 1) ∧ tjR T A R u = wjR T A2 R z m := by
  subst hm
  have q1 := h.ad
  have g5 : adF T A2 5 = 1 := h5
  unfold tjO tjA tjR wjR wjW wjA
  rcases nu_rel q1 g5 (Int.le_refl 0) hm9 with ⟨a1, a2, a3⟩ | ⟨a1, a2⟩
  · obtain ⟨b1, b2, b3⟩ := wn_t (T := T) (w := adW T A2) a1
    rw [b1, b2, a2, if_pos a3, if_pos a3, hz, if_pos (show adF T (upR (adF T A2) 5 1) 5 = 1 from rfl)]
    exact ⟨(q1.g (Or.inr rfl)).ad, ⟨fun _ => rfl, fun _ => a3⟩, rfl⟩
  · obtain ⟨b1, b2, b3⟩ := wn_f (T := T) (w := adW T A2) a1
    rw [b1, b2, a2, if_neg (by decide), if_neg (by decide), if_neg (show ¬ upR (adF T A2) 5 0 5 = 1 from by rw [upR_at]; decide)]
    exact ⟨q1.g (Or.inl rfl), ⟨fun z => absurd z (by decide), fun z => absurd z (by rw [upR_at]; decide)⟩, rfl⟩
theorem td_rel {T A A2 R : Nat → Int} {w : Int} (h : RQ T A A2 w) (h5 : A2 5 = 1) : RQ T (tdA T A) (mdA T A2) (mdW T A2) ∧ (tdO T A ↔ mdA T A2 5 = 1) ∧ tdR T A R = mdR T A2 R := by
  have q1 := h.ad
  have g5 : adF T A2 5 = 1 := h5
  unfold tdO tdA tdR mdR mdA mdW
  rcases nu_rel q1 g5 (Int.le_refl 0) (show (11 : Int) ≤ 999 by decide) with ⟨a1, a2, a3⟩ | ⟨a1, a2⟩
  · obtain ⟨b1, b2, b3⟩ := wn_t (T := T) (w := adW T A2) a1
    have eB : mdB T A2 = adF T (upR (adF T A2) 5 1) := b1
    have eV : mdV T A2 = adW T (upR (adF T A2) 5 1) := b2
    have q2 : RQ T (tnF T (tnF T A)) (mdB T A2) (mdV T A2) := by rw [eB, eV]; exact (q1.g (Or.inr rfl)).ad
    have k5 : mdB T A2 5 = 1 := b3
    rw [a2, if_pos a3, if_pos k5, if_pos k5]
    rcases nu_rel q2 k5 (Int.le_refl 0) (show (20 : Int) ≤ 999 by decide) with ⟨c1, c2, c3⟩ | ⟨c1, c2⟩
    · obtain ⟨d1, d2, d3⟩ := wn_t (T := T) (w := mdV T A2) c1
      rw [c2, if_pos c3, if_pos ⟨a3, c3⟩, if_pos ⟨k5, d3⟩, d1, d2]
      exact ⟨(q2.g (Or.inr rfl)).ad, ⟨fun _ => rfl, fun _ => ⟨a3, c3⟩⟩, rfl⟩
    · obtain ⟨d1, d2, d3⟩ := wn_f (T := T) (w := mdV T A2) c1
      rw [c2, if_neg (by decide), if_neg (fun z => absurd z.2 (by decide)), if_neg (fun z => absurd z.2 (by rw [d3]; decide)), d1, d2]
      exact ⟨q2.g (Or.inl rfl), ⟨fun z => absurd z.2 (by decide), fun z => absurd z (by rw [upR_at]; decide)⟩, rfl⟩
  · obtain ⟨b1, b2, b3⟩ := wn_f (T := T) (w := adW T A2) a1
    have eB : mdB T A2 = upR (adF T A2) 5 0 := b1
    have eV : mdV T A2 = adW T A2 := b2
    have k5 : ¬ mdB T A2 5 = 1 := by rw [eB, upR_at]; decide
    rw [a2, if_neg (by decide), if_neg k5, if_neg k5, if_neg (fun z => absurd z.1 (by decide)), if_neg (fun z => k5 z.1)]
    rw [eB, eV]
    exact ⟨q1.g (Or.inl rfl), ⟨fun z => absurd z.1 (by decide), fun z => absurd z (by rw [upR_at]; decide)⟩, rfl⟩
theorem ap_su (R : Nat → Int) (q w : Int) : upR (apF R q w 0) (21 + 5 * (R 5).toNat) 1 = apF R q w 1 := by
  funext j
  simp only [apF, upR]
  (repeat' split) <;> first | rfl | omega
theorem tp_rel {T A A2 R : Nat → Int} {w q : Int} (h : RQ T A A2 w) : RQ T (tpA T A R q) (woA T A2 R q) (woW T A2 R w q) ∧ (tpO T A R q ↔ woA T A2 R q 5 = 1) ∧ tpR T A R q = woR T A2 R q := by
  by_cases h8 : R 5 < 8
  · have q1 : RQ T (tnF T A) (o1A T A2) (o1W T A2) := (h.g (Or.inr rfl)).ad
    have g5 : o1A T A2 5 = 1 := rfl
    have hmw := mw_rg R q
    have hnu := nu_rel q1 g5 (show (0 : Int) ≤ 1 by decide) (show (99 : Int) ≤ 999 by decide)
    by_cases ho : o1A T A2 5 = 1 ∧ o1A T A2 1 = 2 ∧ 1 ≤ o1A T A2 4 ∧ o1A T A2 4 ≤ mwF R q
    · have a1 : nuF (tnF T A) 1 99 = o1A T A2 4 := by
        rcases hnu with z | z
        · exact z.2.1
        · exact absurd ⟨ho.1, ho.2.1, ho.2.2.1, by omega⟩ z.1
      have hc : csF q (o1A T A2 4) ≤ R 3 := (mw_iff (by omega)).mp ho.2.2.2
      obtain ⟨b1, b2, b3⟩ := wn_t (T := T) (w := o1W T A2) ho
      have eB : o2A T A2 R q = adF T (upR (o1A T A2) 5 1) := b1
      have eV : o2W T A2 R q = adW T (upR (o1A T A2) 5 1) := b2
      have k5 : o2A T A2 R q 5 = 1 := b3
      have q2 : RQ T (tnF T (tnF T A)) (o2A T A2 R q) (o2W T A2 R q) := by rw [eB, eV]; exact (q1.g (Or.inr rfl)).ad
      have hs : isW T (tnF T (tnF T A)) 10 ↔ o2A T A2 R q 1 = 1 ∧ o2W T A2 R q = 14432 := q2.w (by decide)
      have hok : R 5 < 8 ∧ 0 ≤ o1A T A2 4 ∧ csF q (o1A T A2 4) ≤ R 3 := ⟨h8, by omega, hc⟩
      have hO : tpO T A R q := by
        show R 5 < 8 ∧ 0 ≤ nuF (tnF T A) 1 99 ∧ csF q (nuF (tnF T A) 1 99) ≤ R 3
        rw [a1]; exact hok
      by_cases hsn : isW T (tnF T (tnF T A)) 10
      · have hs2 := hs.mp hsn
        have eA : tpA T A R q = tnF T (tnF T (tnF T A)) := by unfold tpA; rw [if_pos h8, a1, if_pos hok.2, if_pos hsn]
        have eR : tpR T A R q = upR (apF R q (o1A T A2 4) 0) (21 + 5 * (R 5).toNat) 1 := by unfold tpR; rw [a1, if_pos hok, if_pos hsn]
        have eWA : woA T A2 R q = adF T (o2A T A2 R q) := by unfold woA; rw [if_pos h8, if_pos ⟨k5, hs2⟩]
        have eWW : woW T A2 R w q = adW T (o2A T A2 R q) := by unfold woW; rw [if_pos h8, if_pos ⟨k5, hs2⟩]
        have eWR : woR T A2 R q = apF R q (o1A T A2 4) 1 := by unfold woR; rw [if_pos ⟨h8, k5⟩, if_pos hs2]
        rw [eA, eR, eWA, eWW, eWR]
        exact ⟨q2.ad, ⟨fun _ => k5, fun _ => hO⟩, ap_su R q _⟩
      · have hs2 : ¬ (o2A T A2 R q 1 = 1 ∧ o2W T A2 R q = 14432) := fun z => hsn (hs.mpr z)
        have hs3 : ¬ (o2A T A2 R q 5 = 1 ∧ o2A T A2 R q 1 = 1 ∧ o2W T A2 R q = 14432) := fun z => hs2 z.2
        have eA : tpA T A R q = tnF T (tnF T A) := by unfold tpA; rw [if_pos h8, a1, if_pos hok.2, if_neg hsn]
        have eR : tpR T A R q = apF R q (o1A T A2 4) 0 := by unfold tpR; rw [a1, if_pos hok, if_neg hsn]
        have eWA : woA T A2 R q = o2A T A2 R q := by unfold woA; rw [if_pos h8, if_neg hs3]
        have eWW : woW T A2 R w q = o2W T A2 R q := by unfold woW; rw [if_pos h8, if_neg hs3]
        have eWR : woR T A2 R q = apF R q (o1A T A2 4) 0 := by unfold woR; rw [if_pos ⟨h8, k5⟩, if_neg hs2]
        rw [eA, eR, eWA, eWW, eWR]
        exact ⟨q2, ⟨fun _ => k5, fun _ => hO⟩, rfl⟩
    · obtain ⟨b1, b2, b3⟩ := wn_f (T := T) (w := o1W T A2) ho
      have eB : o2A T A2 R q = upR (o1A T A2) 5 0 := b1
      have eV : o2W T A2 R q = o1W T A2 := b2
      have k5 : ¬ o2A T A2 R q 5 = 1 := by rw [eB, upR_at]; decide
      have hno : ¬ (0 ≤ nuF (tnF T A) 1 99 ∧ csF q (nuF (tnF T A) 1 99) ≤ R 3) := by
        rcases hnu with z | z
        · intro y
          rw [z.2.1] at y
          exact ho ⟨z.1.1, z.1.2.1, z.1.2.2.1, (mw_iff (by have := z.1.2.2; omega)).mpr y.2⟩
        · intro y
          rw [z.2] at y
          exact absurd y.1 (by decide)
      have hno2 : ¬ (R 5 < 8 ∧ 0 ≤ nuF (tnF T A) 1 99 ∧ csF q (nuF (tnF T A) 1 99) ≤ R 3) := fun z => hno z.2
      have hs3 : ¬ (o2A T A2 R q 5 = 1 ∧ o2A T A2 R q 1 = 1 ∧ o2W T A2 R q = 14432) := fun z => k5 z.1
      have hk8 : ¬ (R 5 < 8 ∧ o2A T A2 R q 5 = 1) := fun z => k5 z.2
      have eA : tpA T A R q = tnF T A := by unfold tpA; rw [if_pos h8, if_neg hno]
      have eR : tpR T A R q = R := by unfold tpR; rw [if_neg hno2]
      have eWA : woA T A2 R q = upR (o1A T A2) 5 0 := by unfold woA; rw [if_pos h8, if_neg hs3, eB]
      have eWW : woW T A2 R w q = o1W T A2 := by unfold woW; rw [if_pos h8, if_neg hs3, eV]
      have eWR : woR T A2 R q = R := by unfold woR; rw [if_neg hk8]
      rw [eA, eR, eWA, eWW, eWR]
      exact ⟨q1.g (Or.inl rfl), ⟨fun z => absurd z.2 hno, fun z => absurd z (by rw [upR_at]; decide)⟩, rfl⟩
  · have hno2 : ¬ (R 5 < 8 ∧ 0 ≤ nuF (tnF T A) 1 99 ∧ csF q (nuF (tnF T A) 1 99) ≤ R 3) := fun z => h8 z.1
    have hk8 : ¬ (R 5 < 8 ∧ o2A T A2 R q 5 = 1) := fun z => h8 z.1
    have eA : tpA T A R q = A := by unfold tpA; rw [if_neg h8]
    have eR : tpR T A R q = R := by unfold tpR; rw [if_neg hno2]
    have eWA : woA T A2 R q = upR A2 5 0 := by unfold woA; rw [if_neg h8]
    have eWW : woW T A2 R w q = w := by unfold woW; rw [if_neg h8]
    have eWR : woR T A2 R q = R := by unfold woR; rw [if_neg hk8]
    rw [eA, eR, eWA, eWW, eWR]
    exact ⟨h.g (Or.inl rfl), ⟨fun z => absurd z.1 h8, fun z => absurd z (by rw [upR_at]; decide)⟩, rfl⟩
theorem kd_rel {T A A2 : Nat → Int} {w : Int} (h : RQ T A A2 w) : kdF T A = khF A2 w := by
  have h0 : isW T A 0 ↔ A2 1 = 1 ∧ w = 315851 := h.w (by decide)
  have h1 : isW T A 1 ↔ A2 1 = 1 ∧ w = 82516 := h.w (by decide)
  have h2 : isW T A 2 ↔ A2 1 = 1 ∧ w = 175252482 := h.w (by decide)
  have h3 : isW T A 3 ↔ A2 1 = 1 ∧ w = 296643787 := h.w (by decide)
  have h4 : isW T A 4 ↔ A2 1 = 1 ∧ w = 459606 := h.w (by decide)
  have h5 : isW T A 5 ↔ A2 1 = 1 ∧ w = 11803757 := h.w (by decide)
  unfold kdF khF
  rw [ite_cg h0, ite_cg h1, ite_cg h2, ite_cg h3, ite_cg h4, ite_cg h5]
