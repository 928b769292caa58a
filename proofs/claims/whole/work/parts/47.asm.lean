theorem lt61 {P : Nat → Prop} (h0 : P 0) (h1 : P 1) (h2 : P 2) (h3 : P 3) (h4 : P 4) (h5 : P 5) (h6 : P 6) (h7 : P 7) (h8 : P 8) (h9 : P 9) (h10 : P 10) (h11 : P 11) (h12 : P 12) (h13 : P 13) (h14 : P 14) (h15 : P 15) (h16 : P 16) (h17 : P 17) (h18 : P 18) (h19 : P 19) (h20 : P 20) (h21 : P 21) (h22 : P 22) (h23 : P 23) (h24 : P 24) (h25 : P 25) (h26 : P 26) (h27 : P 27) (h28 : P 28) (h29 : P 29) (h30 : P 30) (h31 : P 31) (h32 : P 32) (h33 : P 33) (h34 : P 34) (h35 : P 35) (h36 : P 36) (h37 : P 37) (h38 : P 38) (h39 : P 39) (h40 : P 40) (h41 : P 41) (h42 : P 42) (h43 : P 43) (h44 : P 44) (h45 : P 45) (h46 : P 46) (h47 : P 47) (h48 : P 48) (h49 : P 49) (h50 : P 50) (h51 : P 51) (h52 : P 52) (h53 : P 53) (h54 : P 54) (h55 : P 55) (h56 : P 56) (h57 : P 57) (h58 : P 58) (h59 : P 59) (h60 : P 60) : ∀ {k : Nat}, k < 61 → P k
  | 0, _ => h0
  | 1, _ => h1
  | 2, _ => h2
  | 3, _ => h3
  | 4, _ => h4
  | 5, _ => h5
  | 6, _ => h6
  | 7, _ => h7
  | 8, _ => h8
  | 9, _ => h9
  | 10, _ => h10
  | 11, _ => h11
  | 12, _ => h12
  | 13, _ => h13
  | 14, _ => h14
  | 15, _ => h15
  | 16, _ => h16
  | 17, _ => h17
  | 18, _ => h18
  | 19, _ => h19
  | 20, _ => h20
  | 21, _ => h21
  | 22, _ => h22
  | 23, _ => h23
  | 24, _ => h24
  | 25, _ => h25
  | 26, _ => h26
  | 27, _ => h27
  | 28, _ => h28
  | 29, _ => h29
  | 30, _ => h30
  | 31, _ => h31
  | 32, _ => h32
  | 33, _ => h33
  | 34, _ => h34
  | 35, _ => h35
  | 36, _ => h36
  | 37, _ => h37
  | 38, _ => h38
  | 39, _ => h39
  | 40, _ => h40
  | 41, _ => h41
  | 42, _ => h42
  | 43, _ => h43
  | 44, _ => h44
  | 45, _ => h45
  | 46, _ => h46
  | 47, _ => h47
  | 48, _ => h48
  | 49, _ => h49
  | 50, _ => h50
  | 51, _ => h51
  | 52, _ => h52
  | 53, _ => h53
  | 54, _ => h54
  | 55, _ => h55
  | 56, _ => h56
  | 57, _ => h57
  | 58, _ => h58
  | 59, _ => h59
  | 60, _ => h60
  | k + 61, h => absurd h (by omega)

theorem lt11 {P : Nat → Prop} (h0 : P 0) (h1 : P 1) (h2 : P 2) (h3 : P 3) (h4 : P 4) (h5 : P 5) (h6 : P 6) (h7 : P 7) (h8 : P 8) (h9 : P 9) (h10 : P 10) : ∀ {k : Nat}, k < 11 → P k
  | 0, _ => h0
  | 1, _ => h1
  | 2, _ => h2
  | 3, _ => h3
  | 4, _ => h4
  | 5, _ => h5
  | 6, _ => h6
  | 7, _ => h7
  | 8, _ => h8
  | 9, _ => h9
  | 10, _ => h10
  | k + 11, h => absurd h (by omega)

def st0 : St := fun b j => if b < 3 ∨ b = 20 then row0 j else 0
def adr (l : List Nat) : Nat → Nat := fun c => l.getD c 0
theorem len8 : ∀ {l : List Nat}, l.length = 8 → ∃ p0 p1 p2 p3 p4 p5 p6 p7, l = [p0, p1, p2, p3, p4, p5, p6, p7]
  | [p0, p1, p2, p3, p4, p5, p6, p7], _ => ⟨p0, p1, p2, p3, p4, p5, p6, p7, rfl⟩
theorem len4 : ∀ {l : List (Nat × Nat)}, l.length = 4 → ∃ s0 n0 s1 n1 s2 n2 s3 n3, l = [(s0, n0), (s1, n1), (s2, n2), (s3, n3)]
  | [(s0, n0), (s1, n1), (s2, n2), (s3, n3)], _ => ⟨s0, n0, s1, n1, s2, n2, s3, n3, rfl⟩
theorem va_at_q {D : va_G} {cl : List vw_C} {x n : Nat} {c : ClassId} {f g : Nat → Option Nat} {H : Heap} (h : va_at D cl (x, arQ c n f) H) (e : ∀ j, j < n → f j = g j) : va_at D cl (x, arQ c n g) H := by
  have h1 : H[x]? = some (vp_cell c (n, .inr (.inr (.inr (.inr f))))) := h
  show H[x]? = some (vp_cell c (n, .inr (.inr (.inr (.inr g)))))
  rw [h1, vp_cell_q, vp_cell_q]
  have e2 : (fun j : Fin n => va_rf (f j.val)) = fun j : Fin n => va_rf (g j.val) := funext fun j => by rw [e j.val j.isLt]
  unfold arrV
  rw [e2]
theorem ws_lt {X : XT} {a : Nat → Nat} {S : St} {k : Nat} {q : Nat × va_E} (h : (ws X a S)[k]? = some q) : k < 61 := by
  have h1 := (List.getElem?_eq_some_iff.mp h).1
  simp [ws] at h1
  exact h1

def plc : Nat → Nat := adr [0, 1, 2, 14, 26, 38, 40, 39, 3, 15, 27, 4, 16, 28, 5, 17, 29, 41, 43, 45, 47, 42, 44, 46, 48, 6, 7, 8, 9, 10, 11, 12, 13, 18, 19, 20, 21, 22, 23, 24, 25, 30, 31, 32, 33, 34, 35, 36, 37, 49, 50, 51, 52, 53, 54, 55, 56, 57, 58, 59, 60]
theorem plc_i : ∀ i, i < 61 → ∀ j, j < 61 → plc i = plc j → i = j := by decide +kernel

set_option maxHeartbeats 4000000 in
set_option maxRecDepth 100000 in
theorem asm {X : XT} {B : Nat} {s : State} {H : Heap} {locs : List Loc} {h0 hm : Nat} {u : Nat × (Nat × (Nat × Nat × Nat × List Nat)) × (Nat × (Nat × Nat × Nat × List Nat)) × (Nat × (Nat × Nat × Nat × List Nat)) × (Nat × Nat) × Nat × List (Nat × Nat)} {v : Nat × Nat × Nat × Nat × Nat × Nat × Nat × Nat × Nat × Nat × Nat} (hu : inO u) (hI : IH X B s (inW X h0 u ++ moW X hm v) H locs) : ∃ a : Nat → Nat, a 0 = h0 ∧ a 49 = hm ∧ IS X a B s st0 H locs := by
  obtain ⟨qf, ⟨h1, d1, pa1, su1, ps1⟩, ⟨h2, d2, pa2, su2, ps2⟩, ⟨h3, d3, pa3, su3, ps3⟩, ⟨h4, u4⟩, sa, ss⟩ := u
  obtain ⟨r0, r1, r2, r3, r4, r5, r6, r7, r8, r9, r10⟩ := v
  obtain ⟨l1, l2, l3, l4⟩ := hu
  obtain ⟨p10, p11, p12, p13, p14, p15, p16, p17, z1⟩ := len8 (l := ps1) l1
  subst z1
  obtain ⟨p20, p21, p22, p23, p24, p25, p26, p27, z2⟩ := len8 (l := ps2) l2
  subst z2
  obtain ⟨p30, p31, p32, p33, p34, p35, p36, p37, z3⟩ := len8 (l := ps3) l3
  subst z3
  obtain ⟨s0, n0, s1, n1, s2, n2, s3, n3, z4⟩ := len4 (l := ss) l4
  subst z4
  obtain ⟨hP, hD, hS⟩ := hI
  have hQ : ∀ c, c < 61 → va_at X.1 vwCl ((adr [h0, qf, h1, h2, h3, h4, sa, u4, d1, d2, d3, pa1, pa2, pa3, su1, su2, su3, s0, s1, s2, s3, n0, n1, n2, n3, p10, p11, p12, p13, p14, p15, p16, p17, p20, p21, p22, p23, p24, p25, p26, p27, p30, p31, p32, p33, p34, p35, p36, p37, hm, r0, r1, r2, r3, r4, r5, r6, r7, r8, r9, r10]) c, cellAt X (adr [h0, qf, h1, h2, h3, h4, sa, u4, d1, d2, d3, pa1, pa2, pa3, su1, su2, su3, s0, s1, s2, s3, n0, n1, n2, n3, p10, p11, p12, p13, p14, p15, p16, p17, p20, p21, p22, p23, p24, p25, p26, p27, p30, p31, p32, p33, p34, p35, p36, p37, hm, r0, r1, r2, r3, r4, r5, r6, r7, r8, r9, r10]) st0 c) H := by
    intro c hc
    refine lt61 (P := fun c => va_at X.1 vwCl ((adr [h0, qf, h1, h2, h3, h4, sa, u4, d1, d2, d3, pa1, pa2, pa3, su1, su2, su3, s0, s1, s2, s3, n0, n1, n2, n3, p10, p11, p12, p13, p14, p15, p16, p17, p20, p21, p22, p23, p24, p25, p26, p27, p30, p31, p32, p33, p34, p35, p36, p37, hm, r0, r1, r2, r3, r4, r5, r6, r7, r8, r9, r10]) c, cellAt X (adr [h0, qf, h1, h2, h3, h4, sa, u4, d1, d2, d3, pa1, pa2, pa3, su1, su2, su3, s0, s1, s2, s3, n0, n1, n2, n3, p10, p11, p12, p13, p14, p15, p16, p17, p20, p21, p22, p23, p24, p25, p26, p27, p30, p31, p32, p33, p34, p35, p36, p37, hm, r0, r1, r2, r3, r4, r5, r6, r7, r8, r9, r10]) st0 c) H) ?_ ?_ ?_ ?_ ?_ ?_ ?_ ?_ ?_ ?_ ?_ ?_ ?_ ?_ ?_ ?_ ?_ ?_ ?_ ?_ ?_ ?_ ?_ ?_ ?_ ?_ ?_ ?_ ?_ ?_ ?_ ?_ ?_ ?_ ?_ ?_ ?_ ?_ ?_ ?_ ?_ ?_ ?_ ?_ ?_ ?_ ?_ ?_ ?_ ?_ ?_ ?_ ?_ ?_ ?_ ?_ ?_ ?_ ?_ ?_ ?_ hc
    · exact hP 0 _ rfl
    · exact hP 1 _ rfl
    · exact hP 2 _ rfl
    · exact hP 14 _ rfl
    · exact hP 26 _ rfl
    · exact hP 38 _ rfl
    · exact va_at_q (hP 40 _ rfl) (fun j hj => by rcases (show j = 0 ∨ j = 1 ∨ j = 2 ∨ j = 3 by omega) with rfl | rfl | rfl | rfl <;> rfl)
    · exact hP 39 _ rfl
    · exact hP 3 _ rfl
    · exact hP 15 _ rfl
    · exact hP 27 _ rfl
    · exact va_at_q (hP 4 _ rfl) (fun j hj => by rcases (show j = 0 ∨ j = 1 ∨ j = 2 ∨ j = 3 ∨ j = 4 ∨ j = 5 ∨ j = 6 ∨ j = 7 by omega) with rfl | rfl | rfl | rfl | rfl | rfl | rfl | rfl <;> rfl)
    · exact va_at_q (hP 16 _ rfl) (fun j hj => by rcases (show j = 0 ∨ j = 1 ∨ j = 2 ∨ j = 3 ∨ j = 4 ∨ j = 5 ∨ j = 6 ∨ j = 7 by omega) with rfl | rfl | rfl | rfl | rfl | rfl | rfl | rfl <;> rfl)
    · exact va_at_q (hP 28 _ rfl) (fun j hj => by rcases (show j = 0 ∨ j = 1 ∨ j = 2 ∨ j = 3 ∨ j = 4 ∨ j = 5 ∨ j = 6 ∨ j = 7 by omega) with rfl | rfl | rfl | rfl | rfl | rfl | rfl | rfl <;> rfl)
    · exact hP 5 _ rfl
    · exact hP 17 _ rfl
    · exact hP 29 _ rfl
    · exact hP 41 _ rfl
    · exact hP 43 _ rfl
    · exact hP 45 _ rfl
    · exact hP 47 _ rfl
    · exact hP 42 _ rfl
    · exact hP 44 _ rfl
    · exact hP 46 _ rfl
    · exact hP 48 _ rfl
    · exact hP 6 _ rfl
    · exact hP 7 _ rfl
    · exact hP 8 _ rfl
    · exact hP 9 _ rfl
    · exact hP 10 _ rfl
    · exact hP 11 _ rfl
    · exact hP 12 _ rfl
    · exact hP 13 _ rfl
    · exact hP 18 _ rfl
    · exact hP 19 _ rfl
    · exact hP 20 _ rfl
    · exact hP 21 _ rfl
    · exact hP 22 _ rfl
    · exact hP 23 _ rfl
    · exact hP 24 _ rfl
    · exact hP 25 _ rfl
    · exact hP 30 _ rfl
    · exact hP 31 _ rfl
    · exact hP 32 _ rfl
    · exact hP 33 _ rfl
    · exact hP 34 _ rfl
    · exact hP 35 _ rfl
    · exact hP 36 _ rfl
    · exact hP 37 _ rfl
    · exact hP 49 _ rfl
    · exact hP 50 _ rfl
    · exact hP 51 _ rfl
    · exact hP 52 _ rfl
    · exact hP 53 _ rfl
    · exact hP 54 _ rfl
    · exact hP 55 _ rfl
    · exact hP 56 _ rfl
    · exact hP 57 _ rfl
    · exact hP 58 _ rfl
    · exact hP 59 _ rfl
    · exact hP 60 _ rfl
  have hK : ∀ c, c < 61 → ∃ e, (inW X h0 (qf, (h1, d1, pa1, su1, [p10, p11, p12, p13, p14, p15, p16, p17]), (h2, d2, pa2, su2, [p20, p21, p22, p23, p24, p25, p26, p27]), (h3, d3, pa3, su3, [p30, p31, p32, p33, p34, p35, p36, p37]), (h4, u4), sa, [(s0, n0), (s1, n1), (s2, n2), (s3, n3)]) ++ moW X hm (r0, r1, r2, r3, r4, r5, r6, r7, r8, r9, r10))[plc c]? = some ((adr [h0, qf, h1, h2, h3, h4, sa, u4, d1, d2, d3, pa1, pa2, pa3, su1, su2, su3, s0, s1, s2, s3, n0, n1, n2, n3, p10, p11, p12, p13, p14, p15, p16, p17, p20, p21, p22, p23, p24, p25, p26, p27, p30, p31, p32, p33, p34, p35, p36, p37, hm, r0, r1, r2, r3, r4, r5, r6, r7, r8, r9, r10]) c, e) := by
    intro c hc
    exact lt61 (P := fun c => ∃ e, (inW X h0 (qf, (h1, d1, pa1, su1, [p10, p11, p12, p13, p14, p15, p16, p17]), (h2, d2, pa2, su2, [p20, p21, p22, p23, p24, p25, p26, p27]), (h3, d3, pa3, su3, [p30, p31, p32, p33, p34, p35, p36, p37]), (h4, u4), sa, [(s0, n0), (s1, n1), (s2, n2), (s3, n3)]) ++ moW X hm (r0, r1, r2, r3, r4, r5, r6, r7, r8, r9, r10))[plc c]? = some ((adr [h0, qf, h1, h2, h3, h4, sa, u4, d1, d2, d3, pa1, pa2, pa3, su1, su2, su3, s0, s1, s2, s3, n0, n1, n2, n3, p10, p11, p12, p13, p14, p15, p16, p17, p20, p21, p22, p23, p24, p25, p26, p27, p30, p31, p32, p33, p34, p35, p36, p37, hm, r0, r1, r2, r3, r4, r5, r6, r7, r8, r9, r10]) c, e)) ⟨_, rfl⟩ ⟨_, rfl⟩ ⟨_, rfl⟩ ⟨_, rfl⟩ ⟨_, rfl⟩ ⟨_, rfl⟩ ⟨_, rfl⟩ ⟨_, rfl⟩ ⟨_, rfl⟩ ⟨_, rfl⟩ ⟨_, rfl⟩ ⟨_, rfl⟩ ⟨_, rfl⟩ ⟨_, rfl⟩ ⟨_, rfl⟩ ⟨_, rfl⟩ ⟨_, rfl⟩ ⟨_, rfl⟩ ⟨_, rfl⟩ ⟨_, rfl⟩ ⟨_, rfl⟩ ⟨_, rfl⟩ ⟨_, rfl⟩ ⟨_, rfl⟩ ⟨_, rfl⟩ ⟨_, rfl⟩ ⟨_, rfl⟩ ⟨_, rfl⟩ ⟨_, rfl⟩ ⟨_, rfl⟩ ⟨_, rfl⟩ ⟨_, rfl⟩ ⟨_, rfl⟩ ⟨_, rfl⟩ ⟨_, rfl⟩ ⟨_, rfl⟩ ⟨_, rfl⟩ ⟨_, rfl⟩ ⟨_, rfl⟩ ⟨_, rfl⟩ ⟨_, rfl⟩ ⟨_, rfl⟩ ⟨_, rfl⟩ ⟨_, rfl⟩ ⟨_, rfl⟩ ⟨_, rfl⟩ ⟨_, rfl⟩ ⟨_, rfl⟩ ⟨_, rfl⟩ ⟨_, rfl⟩ ⟨_, rfl⟩ ⟨_, rfl⟩ ⟨_, rfl⟩ ⟨_, rfl⟩ ⟨_, rfl⟩ ⟨_, rfl⟩ ⟨_, rfl⟩ ⟨_, rfl⟩ ⟨_, rfl⟩ ⟨_, rfl⟩ ⟨_, rfl⟩ hc
  refine ⟨(adr [h0, qf, h1, h2, h3, h4, sa, u4, d1, d2, d3, pa1, pa2, pa3, su1, su2, su3, s0, s1, s2, s3, n0, n1, n2, n3, p10, p11, p12, p13, p14, p15, p16, p17, p20, p21, p22, p23, p24, p25, p26, p27, p30, p31, p32, p33, p34, p35, p36, p37, hm, r0, r1, r2, r3, r4, r5, r6, r7, r8, r9, r10]), rfl, rfl, ?_, ⟨?_, ?_⟩, hS⟩
  · intro k q hk
    have hk1 := ws_lt hk
    rw [ws_at hk1 rfl] at hk
    cases hk
    exact hQ k hk1
  · intro i j x y hi hj e
    have hi1 := ws_lt hi
    have hj1 := ws_lt hj
    rw [ws_at hi1 rfl] at hi
    rw [ws_at hj1 rfl] at hj
    cases hi
    cases hj
    obtain ⟨e1, g1⟩ := hK i hi1
    obtain ⟨e2, g2⟩ := hK j hj1
    exact plc_i i hi1 j hj1 (hD.1 _ _ _ _ g1 g2 e)
  · intro k q hk
    have hk1 := ws_lt hk
    rw [ws_at hk1 rfl] at hk
    cases hk
    obtain ⟨e1, g1⟩ := hK k hk1
    have h9 := hD.2 _ _ g1
    exact h9
