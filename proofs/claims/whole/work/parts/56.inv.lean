/-! both sides say the same: the invariant; what only asks -/
def Inv (h : Hp) : Prop := (XI h) ∧ (MI h) ∧ (h.1 22 0 = 0) ∧ (h.1 2 = h.1 23) ∧ (h.1 1 0 = h.1 22 2) ∧ (h.1 22 2 ≤ 48) ∧ (∀ j, h.1 23 j ≤ 255) ∧ (h.1 3 2 = h.1 22 4) ∧ (h.1 3 3 = h.1 22 6) ∧ (h.1 4 = h.1 24) ∧ (h.1 7 = h.1 25) ∧ (h.1 (tr 0) = h.1 28) ∧ (h.1 10 2 = h.1 22 17) ∧ (h.1 22 17 ≤ 14) ∧ (h.1 10 1 < 14) ∧ (∀ i, i < h.1 22 17 → ∀ j, j < 10 → h.1 30 (10 * i + j) = h.1 (tr ((h.1 10 1 + i) % 14 + 2)) j) ∧ (h.1 14 = h.1 32) ∧ (∀ j, h.1 32 j < 2) ∧ (∀ a, a < 2 → ¬ h.1 32 a = 0 → ∀ j, j < 10 → h.1 31 (10 * a + j) = h.1 (tr (a + 16)) j) ∧ (h.1 15 3 = h.1 22 20) ∧ (h.1 22 20 ≤ 6) ∧ (h.1 16 = h.1 33) ∧ (h.1 17 = h.1 34) ∧ (h.1 18 = h.1 35) ∧ (∀ j, h.1 33 j ≤ 3) ∧ (∀ j, h.1 34 j ≤ 9) ∧ (∀ j, h.1 35 j ≤ 10) ∧ (h.2 0 = h.2 1) ∧ (∀ i, i ≠ 1 → i < 18 → h.1 (tr i) 1 ≤ 9)
theorem Inv.x {h : Hp} (I : Inv h) : XI h := I.1
theorem Inv.m {h : Hp} (I : Inv h) : MI h := I.2.1
theorem Inv.t0 {h : Hp} (I : Inv h) : h.1 22 0 = 0 := I.2.2.1
theorem Inv.tx {h : Hp} (I : Inv h) : h.1 2 = h.1 23 := I.2.2.2.1
theorem Inv.tl {h : Hp} (I : Inv h) : h.1 1 0 = h.1 22 2 := I.2.2.2.2.1
theorem Inv.tl2 {h : Hp} (I : Inv h) : h.1 22 2 ≤ 48 := I.2.2.2.2.2.1
theorem Inv.by2 {h : Hp} (I : Inv h) : ∀ j, h.1 23 j ≤ 255 := I.2.2.2.2.2.2.1
theorem Inv.n {h : Hp} (I : Inv h) : h.1 3 2 = h.1 22 4 := I.2.2.2.2.2.2.2.1
theorem Inv.c {h : Hp} (I : Inv h) : h.1 3 3 = h.1 22 6 := I.2.2.2.2.2.2.2.2.1
theorem Inv.E {h : Hp} (I : Inv h) : h.1 4 = h.1 24 := I.2.2.2.2.2.2.2.2.2.1
theorem Inv.C {h : Hp} (I : Inv h) : h.1 7 = h.1 25 := I.2.2.2.2.2.2.2.2.2.2.1
theorem Inv.P {h : Hp} (I : Inv h) : h.1 (tr 0) = h.1 28 := I.2.2.2.2.2.2.2.2.2.2.2.1
theorem Inv.a {h : Hp} (I : Inv h) : h.1 10 2 = h.1 22 17 := I.2.2.2.2.2.2.2.2.2.2.2.2.1
theorem Inv.a2 {h : Hp} (I : Inv h) : h.1 22 17 ≤ 14 := I.2.2.2.2.2.2.2.2.2.2.2.2.2.1
theorem Inv.o {h : Hp} (I : Inv h) : h.1 10 1 < 14 := I.2.2.2.2.2.2.2.2.2.2.2.2.2.2.1
theorem Inv.bk {h : Hp} (I : Inv h) : ∀ i, i < h.1 22 17 → ∀ j, j < 10 → h.1 30 (10 * i + j) = h.1 (tr ((h.1 10 1 + i) % 14 + 2)) j := I.2.2.2.2.2.2.2.2.2.2.2.2.2.2.2.1
theorem Inv.u {h : Hp} (I : Inv h) : h.1 14 = h.1 32 := I.2.2.2.2.2.2.2.2.2.2.2.2.2.2.2.2.1
theorem Inv.u2 {h : Hp} (I : Inv h) : ∀ j, h.1 32 j < 2 := I.2.2.2.2.2.2.2.2.2.2.2.2.2.2.2.2.2.1
theorem Inv.kp {h : Hp} (I : Inv h) : ∀ a, a < 2 → ¬ h.1 32 a = 0 → ∀ j, j < 10 → h.1 31 (10 * a + j) = h.1 (tr (a + 16)) j := I.2.2.2.2.2.2.2.2.2.2.2.2.2.2.2.2.2.2.1
theorem Inv.s {h : Hp} (I : Inv h) : h.1 15 3 = h.1 22 20 := I.2.2.2.2.2.2.2.2.2.2.2.2.2.2.2.2.2.2.2.1
theorem Inv.s2 {h : Hp} (I : Inv h) : h.1 22 20 ≤ 6 := I.2.2.2.2.2.2.2.2.2.2.2.2.2.2.2.2.2.2.2.2.1
theorem Inv.sk {h : Hp} (I : Inv h) : h.1 16 = h.1 33 := I.2.2.2.2.2.2.2.2.2.2.2.2.2.2.2.2.2.2.2.2.2.1
theorem Inv.sh {h : Hp} (I : Inv h) : h.1 17 = h.1 34 := I.2.2.2.2.2.2.2.2.2.2.2.2.2.2.2.2.2.2.2.2.2.2.1
theorem Inv.sq {h : Hp} (I : Inv h) : h.1 18 = h.1 35 := I.2.2.2.2.2.2.2.2.2.2.2.2.2.2.2.2.2.2.2.2.2.2.2.1
theorem Inv.sk2 {h : Hp} (I : Inv h) : ∀ j, h.1 33 j ≤ 3 := I.2.2.2.2.2.2.2.2.2.2.2.2.2.2.2.2.2.2.2.2.2.2.2.2.1
theorem Inv.sh2 {h : Hp} (I : Inv h) : ∀ j, h.1 34 j ≤ 9 := I.2.2.2.2.2.2.2.2.2.2.2.2.2.2.2.2.2.2.2.2.2.2.2.2.2.1
theorem Inv.sq2 {h : Hp} (I : Inv h) : ∀ j, h.1 35 j ≤ 10 := I.2.2.2.2.2.2.2.2.2.2.2.2.2.2.2.2.2.2.2.2.2.2.2.2.2.2.1
theorem Inv.sd {h : Hp} (I : Inv h) : h.2 0 = h.2 1 := I.2.2.2.2.2.2.2.2.2.2.2.2.2.2.2.2.2.2.2.2.2.2.2.2.2.2.2.1
theorem Inv.st {h : Hp} (I : Inv h) : ∀ i, i ≠ 1 → i < 18 → h.1 (tr i) 1 ≤ 9 := I.2.2.2.2.2.2.2.2.2.2.2.2.2.2.2.2.2.2.2.2.2.2.2.2.2.2.2.2
def Sc (h g : Hp) : Prop := (g.2 = h.2) ∧ (∀ q, q < 100 → q ≠ 19 → q ≠ 21 → q ≠ 22 → q ≠ 26 → q ≠ 27 → q ≠ 29 → q ≠ 36 → g.1 q = h.1 q) ∧ (∀ o, o ≠ 3 → o ≠ 8 → o ≠ 9 → o ≠ 10 → o ≠ 12 → o ≠ 25 → o ≠ 26 → o ≠ 27 → o ≠ 28 → g.1 22 o = h.1 22 o) ∧ (∀ i, i ≠ 1 → i < 18 → g.1 (tr i) = h.1 (tr i)) ∧ (∀ i, TI (g.1 (tr i))) ∧ (TI (g.1 29))
theorem Sc.z {h g : Hp} (I : Sc h g) : g.2 = h.2 := I.1
theorem Sc.r {h g : Hp} (I : Sc h g) : ∀ q, q < 100 → q ≠ 19 → q ≠ 21 → q ≠ 22 → q ≠ 26 → q ≠ 27 → q ≠ 29 → q ≠ 36 → g.1 q = h.1 q := I.2.1
theorem Sc.o {h g : Hp} (I : Sc h g) : ∀ o, o ≠ 3 → o ≠ 8 → o ≠ 9 → o ≠ 10 → o ≠ 12 → o ≠ 25 → o ≠ 26 → o ≠ 27 → o ≠ 28 → g.1 22 o = h.1 22 o := I.2.2.1
theorem Sc.t {h g : Hp} (I : Sc h g) : ∀ i, i ≠ 1 → i < 18 → g.1 (tr i) = h.1 (tr i) := I.2.2.2.1
theorem Sc.ti {h g : Hp} (I : Sc h g) : ∀ i, TI (g.1 (tr i)) := I.2.2.2.2.1
theorem Sc.t9 {h g : Hp} (I : Sc h g) : TI (g.1 29) := I.2.2.2.2.2
theorem Inv_Sc {h g : Hp} (I : Inv h) (S : Sc h g) : Inv g := by
  have r : ∀ q, q < 100 ∧ q ≠ 19 ∧ q ≠ 21 ∧ q ≠ 22 ∧ q ≠ 26 ∧ q ≠ 27 ∧ q ≠ 29 ∧ q ≠ 36 → g.1 q = h.1 q := fun q w => S.r q w.1 w.2.1 w.2.2.1 w.2.2.2.1 w.2.2.2.2.1 w.2.2.2.2.2.1 w.2.2.2.2.2.2.1 w.2.2.2.2.2.2.2
  have p : ∀ o, o ≠ 3 ∧ o ≠ 8 ∧ o ≠ 9 ∧ o ≠ 10 ∧ o ≠ 12 ∧ o ≠ 25 ∧ o ≠ 26 ∧ o ≠ 27 ∧ o ≠ 28 → g.1 22 o = h.1 22 o := fun o w => S.o o w.1 w.2.1 w.2.2.1 w.2.2.2.1 w.2.2.2.2.1 w.2.2.2.2.2.1 w.2.2.2.2.2.2.1 w.2.2.2.2.2.2.2.1 w.2.2.2.2.2.2.2.2
  have hx := I.x
  have hm := I.m
  refine ⟨?_, ?_, ?_, ?_, ?_, ?_, ?_, ?_, ?_, ?_, ?_, ?_, ?_, ?_, ?_, ?_, ?_, ?_, ?_, ?_, ?_, ?_, ?_, ?_, ?_, ?_, ?_, ?_, ?_⟩
  · obtain ⟨a1, a2, a3, a4, a5, a6, a7⟩ := hx
    unfold XI
    rw [r 3 (by decide), r 4 (by decide), r 7 (by decide)]
    exact ⟨a1, a2, a3, a4, a5, a6, S.ti⟩
  · obtain ⟨a1, a2, a3, a4, a5, a6, a7, a8⟩ := hm
    unfold MI
    rw [p 4 (by decide), p 6 (by decide), r 24 (by decide), r 25 (by decide), r 28 (by decide)]
    exact ⟨a1, a2, a3, a4, a5, a6, a7, S.t9⟩
  · rw [p 0 (by decide)]; exact I.t0
  · rw [r 2 (by decide), r 23 (by decide)]; exact I.tx
  · rw [r 1 (by decide), p 2 (by decide)]; exact I.tl
  · rw [p 2 (by decide)]; exact I.tl2
  · rw [r 23 (by decide)]; exact I.by2
  · rw [r 3 (by decide), p 4 (by decide)]; exact I.n
  · rw [r 3 (by decide), p 6 (by decide)]; exact I.c
  · rw [r 4 (by decide), r 24 (by decide)]; exact I.E
  · rw [r 7 (by decide), r 25 (by decide)]; exact I.C
  · rw [S.t 0 (by decide) (by decide), r 28 (by decide)]; exact I.P
  · rw [r 10 (by decide), p 17 (by decide)]; exact I.a
  · rw [p 17 (by decide)]; exact I.a2
  · rw [r 10 (by decide)]; exact I.o
  · rw [p 17 (by decide), r 10 (by decide), r 30 (by decide)]
    intro i hi j hj
    rw [S.t _ (by omega) (by omega)]; exact I.bk i hi j hj
  · rw [r 14 (by decide), r 32 (by decide)]; exact I.u
  · rw [r 32 (by decide)]; exact I.u2
  · rw [r 32 (by decide), r 31 (by decide)]
    intro a ha hz j hj
    rw [S.t _ (by omega) (by omega)]; exact I.kp a ha hz j hj
  · rw [r 15 (by decide), p 20 (by decide)]; exact I.s
  · rw [p 20 (by decide)]; exact I.s2
  · rw [r 16 (by decide), r 33 (by decide)]; exact I.sk
  · rw [r 17 (by decide), r 34 (by decide)]; exact I.sh
  · rw [r 18 (by decide), r 35 (by decide)]; exact I.sq
  · rw [r 33 (by decide)]; exact I.sk2
  · rw [r 34 (by decide)]; exact I.sh2
  · rw [r 35 (by decide)]; exact I.sq2
  · rw [S.z]; exact I.sd
  · intro i h1 h2
    rw [S.t i h1 h2]; exact I.st i h1 h2
section Sc
variable {h g : Hp}
theorem Sc_r (I : Inv h) : Sc h h := ⟨rfl, fun _ _ _ _ _ _ _ _ _ => rfl, fun _ _ _ _ _ _ _ _ _ _ => rfl, fun _ _ _ => rfl, I.x.2.2.2.2.2.2, I.m.2.2.2.2.2.2.2⟩
theorem Sc_1 (I : Inv h) {f : Nat → Nat} (hf : TI f) : Sc h (sR h (tr 1) f) := by
  refine ⟨rfl, fun q hq _ _ _ _ _ _ _ => sR_n (tr_hi hq), fun o _ _ _ _ _ _ _ _ _ => by rw [sR_n (tr_hi (by decide))], fun i h1 _ => sR_n (tr_ne h1), fun i => ?_, by rw [sR_n (tr_hi (by decide))]; exact I.m.2.2.2.2.2.2.2⟩
  by_cases q : i = 1
  · rw [q, sR_s]; exact hf
  · rw [sR_n (tr_ne q)]; exact I.x.2.2.2.2.2.2 i
theorem Sc_lo (I : Inv h) {q : Nat} {f : Nat → Nat} (hq : q = 19 ∨ q = 21 ∨ q = 26 ∨ q = 27 ∨ q = 36) : Sc h (sR h q f) := by
  refine ⟨rfl, fun r _ _ _ _ _ _ _ _ => sR_n (by omega), fun o _ _ _ _ _ _ _ _ _ => by rw [sR_n (by omega)], fun i _ _ => sR_n (by unfold tr; omega), fun i => ?_, ?_⟩
  · rw [sR_n (by unfold tr; omega)]; exact I.x.2.2.2.2.2.2 i
  · rw [sR_n (by omega)]; exact I.m.2.2.2.2.2.2.2
theorem Sc_29 (I : Inv h) {f : Nat → Nat} (hf : TI f) : Sc h (sR h 29 f) := by
  refine ⟨rfl, fun r _ _ _ _ _ _ _ _ => sR_n (by omega), fun o _ _ _ _ _ _ _ _ _ => by rw [sR_n (by omega)], fun i _ _ => sR_n (by unfold tr; omega), fun i => ?_, ?_⟩
  · rw [sR_n (by unfold tr; omega)]; exact I.x.2.2.2.2.2.2 i
  · rw [sR_s]; exact hf
theorem Sc_22 (I : Inv h) {a b : Nat} : Sc h (sR h 22 (up (up (h.1 22) 27 a) 28 b)) := by
  refine ⟨rfl, fun r _ _ _ _ _ _ _ _ => sR_n (by omega), fun o _ _ _ _ _ _ _ _ _ => by rw [sR_s, up_n (by omega), up_n (by omega)], fun i _ _ => sR_n (by unfold tr; omega), fun i => ?_, ?_⟩
  · rw [sR_n (by unfold tr; omega)]; exact I.x.2.2.2.2.2.2 i
  · rw [sR_n (by omega)]; exact I.m.2.2.2.2.2.2.2
theorem Sc_KpS (I : Inv h) (k : KpS h g) : Sc h g :=
  ⟨k.2.1, fun q hq h1 _ _ _ _ _ _ => KpS_lo k hq h1, fun o _ _ _ _ _ _ _ _ _ => by rw [KpS_lo k (by decide) (by decide)], fun i _ h2 => KpS_t k h2, k.2.2.2.2.2.2.2.2, by rw [KpS_lo k (by decide) (by decide)]; exact I.m.2.2.2.2.2.2.2⟩
theorem Sc_KpM (I : Inv h) (k : KpM h g) : Sc h g :=
  ⟨k.2.2.1, fun q hq _ _ h22 _ _ h29 h36 => k.1 q h22 h29 h36, fun o _ _ _ _ _ h5 h6 _ _ => k.2.1 o h5 h6, fun i _ _ => k.1 _ (by unfold tr; omega) (by unfold tr; omega) (by unfold tr; omega), fun i => by rw [k.1 _ (by unfold tr; omega) (by unfold tr; omega) (by unfold tr; omega)]; exact I.x.2.2.2.2.2.2 i, k.2.2.2.2.2.2.2.2.2.2⟩
theorem Sc_Rd (I : Inv h) (k : Rd h g) : Sc h g :=
  ⟨k.1, fun q hq _ _ h22 h26 h27 h29 h36 => k.2.1 q h22 h26 h27, fun o h3 h8 h9 h10 h12 _ _ _ _ => k.2.2 o h3 h8 h9 h10 h12, fun i _ _ => k.2.1 _ (by unfold tr; omega) (by unfold tr; omega) (by unfold tr; omega), fun i => by rw [k.2.1 _ (by unfold tr; omega) (by unfold tr; omega) (by unfold tr; omega)]; exact I.x.2.2.2.2.2.2 i, by rw [k.2.1 29 (by decide) (by decide) (by decide)]; exact I.m.2.2.2.2.2.2.2⟩
theorem q_E (I : Inv h) (S : Sc h g) : g.1 24 = h.1 4 := by rw [S.r 24 (by decide) (by decide) (by decide) (by decide) (by decide) (by decide) (by decide) (by decide)]; exact I.E.symm
theorem q_C (I : Inv h) (S : Sc h g) : g.1 25 = h.1 7 := by rw [S.r 25 (by decide) (by decide) (by decide) (by decide) (by decide) (by decide) (by decide) (by decide)]; exact I.C.symm
theorem q_P (I : Inv h) (S : Sc h g) : g.1 28 = h.1 (tr 0) := by rw [S.r 28 (by decide) (by decide) (by decide) (by decide) (by decide) (by decide) (by decide) (by decide)]; exact I.P.symm
theorem q_n (I : Inv h) (S : Sc h g) : g.1 22 4 = h.1 3 2 := by rw [S.o 4 (by decide) (by decide) (by decide) (by decide) (by decide) (by decide) (by decide) (by decide) (by decide)]; exact I.n.symm
theorem q_c (I : Inv h) (S : Sc h g) : g.1 22 6 = h.1 3 3 := by rw [S.o 6 (by decide) (by decide) (by decide) (by decide) (by decide) (by decide) (by decide) (by decide) (by decide)]; exact I.c.symm
end Sc
def Op (V : Vt) (h : Hp) (ax : List Value) (dx dm : Nat) (yx : MethodName) (cx : ByteArray) (nx : Nat) (ym : MethodName) (cm : ByteArray) (nm : Nat) : Prop :=
  ∃ (v : Int32) (h1 h2 : Hp), Rti V dx yx cx nx (some .int) (rf V 0 :: ax) h v h1 ∧ Rti V dm ym cm nm (some .int) (rf V 22 :: ax) h1 v h2 ∧ Inv h2
section Ops
variable {V : Vt} {h : Hp}
theorem op_fault (I : Inv h) : Op V h [] 5 6 yX8_fault cX8_fault 1 yX9_fault cX9_fault 1 := by
  obtain ⟨g, M, r⟩ := c_X9_fault (V := V) I.t0 I.by2 I.tl2
  have X := c_X8_fault (V := V) (h := h) (by rw [I.tx]; exact I.by2) (by rw [I.tl]; exact I.tl2)
  rw [I.tx, I.tl] at X
  exact ⟨_, _, _, X, M, Inv_Sc I (Sc_Rd I r)⟩
theorem op_about (I : Inv h) {b : Nat} (hb : b < 2 ^ 32) : Op V h [.int (nI b)] 4 4 yX8_about cX8_about 2 yX9_about cX9_about 2 := by
  have X := c_X8_about (V := V) I.x hb
  rw [I.n, I.c, I.C, I.P, I.a, I.s, I.tl] at X
  exact ⟨_, _, _, X, c_X9_about I.t0 I.m hb, I⟩
theorem op_envoy (I : Inv h) {a b : Nat} (ha : a < 2 ^ 32) (hb : b < 2 ^ 32) : Op V h [.int (nI a), .int (nI b)] 3 3 yX8_envoy cX8_envoy 3 yX9_envoy cX9_envoy 3 := by
  have X := c_X8_envoy (V := V) I.x ha hb
  rw [I.n, I.E, I.P] at X
  exact ⟨_, _, _, X, c_X9_envoy I.t0 I.m ha hb, I⟩
theorem op_clause (I : Inv h) {a b : Nat} (ha : a < 2 ^ 32) (hb : b < 2 ^ 32) : Op V h [.int (nI a), .int (nI b)] 2 3 yX8_clause cX8_clause 3 yX9_clause cX9_clause 3 := by
  have X := c_X8_clause (V := V) I.x ha hb
  rw [I.c, I.C] at X
  exact ⟨_, _, _, X, c_X9_clause I.t0 I.m ha hb, I⟩
theorem op_lasts (I : Inv h) : Op V h [] 5 5 yX8_lasts cX8_lasts 2 yX9_lasts cX9_lasts 1 := by
  have hT := I.x.2.2.2.2.2.2 0
  have S := Sc_1 I (TI_btk hT I.x.2.2.1 I.x.1 (tillK (h.1 4) (h.1 3 2) (h.1 (tr 0)) 15))
  have J := Inv_Sc I S
  have M := c_X9_lasts (V := V) J.t0 J.m
  rw [q_E I S, q_n I S, q_P I S] at M
  exact ⟨_, _, _, c_X8_lasts I.x, M, Inv_Sc J (Sc_29 J (TI_btk hT I.x.2.2.1 I.x.1 _))⟩
theorem op_bears (I : Inv h) {a : Nat} (ha : a < 2 ^ 32) : Op V h [.int (nI a)] 5 5 yX8_bears cX8_bears 2 yX9_bears cX9_bears 2 := by
  by_cases q : a < h.1 3 2
  · by_cases z : bt (h.1 (tr 0) 6) a = 0
    · exact ⟨_, _, _, c_X8_bears_no I.x q z, c_X9_bears_no I.t0 I.m (I.n ▸ q) (I.P ▸ z), I⟩
    · have hT := I.x.2.2.2.2.2.2 0
      have S := Sc_1 I (TI_btk hT I.x.2.2.1 I.x.1 (tillK (h.1 4) (h.1 3 2) (h.1 (tr 0)) (1 * 2 ^ a)))
      have J := Inv_Sc I S
      have M := c_X9_bears_ok (V := V) J.t0 J.m (a := a) (by rw [q_n I S]; exact q) (by rw [q_P I S]; exact z)
      rw [q_E I S, q_n I S, q_P I S] at M
      exact ⟨_, _, _, c_X8_bears_ok I.x q z, M, Inv_Sc J (Sc_29 J (TI_btk hT I.x.2.2.1 I.x.1 _))⟩
  · exact ⟨_, _, _, c_X8_bears_u I.x ha q, c_X9_bears_u I.t0 I.m ha (I.n ▸ q), I⟩
theorem op_best (I : Inv h) {a r : Nat} (ha : a < 2 ^ 32) (hr : r < 2) : Op V h [.int (nI a), .int (nI r)] 11 5 yX8_best cX8_best 4 yX9_best cX9_best 3 := by
  by_cases q : 1 ≤ a ∧ a ≤ 5
  · have S := Sc_KpS I (mstH_kp I.x q.2 31)
    have J := Inv_Sc I S
    have M := c_X9_best_ok (V := V) J.t0 J.m q.1 q.2 hr
    rw [q_E I S, q_n I S, q_P I S, q_c I S, q_C I S, ← mstH_srch I.x q.2 31] at M
    have X := c_X8_best_ok (V := V) I.x q.1 q.2 hr
    have e : (if r = 0 then (bst (mstH h a 31)).1 else (bst (mstH h a 31)).2) = (mstH h a 31).1 19 (if r = 0 then 4 else 5) := by
      split <;> rfl
    rw [e] at M
    exact ⟨_, _, _, X, M, Inv_Sc J (Sc_KpM J (fbR_kp J.m _ _))⟩
  · exact ⟨_, _, _, c_X8_best_bad ha q, c_X9_best_bad I.t0 ha q, I⟩
theorem TI_hot {E : Nat → Nat} {n : Nat} {T R : Nat → Nat} {k : Nat} (hT : TI T) (hR : TI R) (hE : ∀ j, E j ≤ 9) (hn : n ≤ 4) : ∀ t, t ≤ 10 → TI (hotR E n T R k t)
  | 0, _ => hR
  | t + 1, ht => TI_btk (TI_up0 hT (by omega)) hE hn k
theorem op_hot (I : Inv h) {a k : Nat} (ha : a < 2 ^ 32) (hk : k < 2 ^ 32) : Op V h [.int (nI a), .int (nI k)] 5 4 yX8_hot cX8_hot 5 yX9_hot cX9_hot 6 := by
  by_cases q : a < h.1 3 3
  · by_cases z : k ≤ 9
    · have hT := I.x.2.2.2.2.2.2 0
      have S := Sc_1 I (TI_hot (k := k) hT (I.x.2.2.2.2.2.2 1) I.x.2.2.1 I.x.1 10 (by omega))
      have J := Inv_Sc I S
      have M := c_X9_hot_ok (V := V) J.t0 J.m (a := a) (by rw [q_c I S]; exact q) z
      rw [q_E I S, q_n I S, q_P I S, q_c I S, q_C I S] at M
      exact ⟨_, _, _, c_X8_hot_ok I.x q z, M, Inv_Sc J (Sc_29 J (TI_hot hT J.m.2.2.2.2.2.2.2 I.x.2.2.1 I.x.1 10 (by omega)))⟩
    · exact ⟨_, _, _, c_X8_hot_bad I.x q hk z, c_X9_hot_bad I.t0 I.m (I.c ▸ q) hk z, I⟩
  · exact ⟨_, _, _, c_X8_hot_u I.x ha q, c_X9_hot_u I.t0 I.m ha (I.c ▸ q), I⟩
theorem op_spiceFor (I : Inv h) {a : Nat} (ha : a < 2 ^ 32) : Op V h [.int (nI a)] 3 3 yX8_spiceFor cX8_spiceFor 3 yX9_spiceFor cX9_spiceFor 4 := by
  by_cases q : a < h.1 3 3
  · by_cases z : bt (h.1 (tr 0) 8) a = 0
    · have hT := I.x.2.2.2.2.2.2 0
      have hs := I.st 0 (by decide) (by decide)
      have S := Sc_1 I (TI_sdk hT (spfK (h.1 3 3) (h.1 7) (h.1 (tr 0)) a))
      have J := Inv_Sc I S
      have M := c_X9_spiceFor_ok (V := V) J.t0 J.m (a := a) (by rw [q_P I S]; exact hs) (by rw [q_c I S]; exact q) (by rw [q_P I S]; exact z)
      rw [q_P I S, q_c I S, q_C I S] at M
      exact ⟨_, _, _, c_X8_spiceFor_ok I.x hs q z, M, Inv_Sc J (Sc_29 J (TI_sdk hT _))⟩
    · exact ⟨_, _, _, c_X8_spiceFor_no I.x q z, c_X9_spiceFor_no I.t0 I.m (I.c ▸ q) (I.P ▸ z), I⟩
  · exact ⟨_, _, _, c_X8_spiceFor_u I.x ha q, c_X9_spiceFor_u I.t0 I.m ha (I.c ▸ q), I⟩
end Ops
