/-! both sides say the same: acts, slots, seeds -/
section Ops3
variable {V : Vt} {h : Hp}
theorem Inv_act (I : Inv h) {f : Nat → Nat} (hf : TI f) (h1 : f 1 ≤ 9) : Inv (sR (nteH (sR (remH h) (tr 0) f)) 28 f) := by
  have ia := I.a
  have ia2 := I.a2
  have io := I.o
  have hQ : remQ (h.1 10) < 14 := by unfold remQ; omega
  have e22 : (sR (remH h) (tr 0) f).1 22 = h.1 22 := by rw [sR_lt (by decide), remH_o (by decide) (by decide)]
  have e28 : (sR (remH h) (tr 0) f).1 28 = h.1 28 := by rw [sR_lt (by decide), remH_o (by decide) (by decide)]
  have e30 : (sR (remH h) (tr 0) f).1 30 = h.1 30 := by rw [sR_lt (by decide), remH_o (by decide) (by decide)]
  unfold nteH
  rw [e22, e28, e30]
  generalize hg : sR (sR (sR (sR (remH h) (tr 0) f) 30 (nteB (h.1 30) (h.1 28) (h.1 22 17))) 22 (up (h.1 22) 17 (nteA (h.1 22 17) + 1))) 28 f = g
  have z : g.2 = h.2 := by rw [← hg]; rfl
  have r : ∀ q, q < 100 ∧ q ≠ 10 ∧ q ≠ 22 ∧ q ≠ 28 ∧ q ≠ 30 → g.1 q = h.1 q := fun q w => by rw [← hg, sR_n (by omega), sR_n (by omega), sR_n (by omega), sR_lt w.1, remH_o w.1 w.2.1]
  have p : ∀ o, o ≠ 17 → g.1 22 o = h.1 22 o := fun o w => by rw [← hg, sR_n (by decide), sR_s, up_n w]
  have r10 : g.1 10 = up (up (h.1 10) 1 (remO (h.1 10))) 2 (remC (h.1 10) + 1) := by rw [← hg, sR_n (by decide), sR_n (by decide), sR_n (by decide), sR_lt (by decide)]; unfold remH; rw [sR_s]
  have p17 : g.1 22 17 = nteA (h.1 22 17) + 1 := by rw [← hg, sR_n (by decide), sR_s, up_s]
  have r28 : g.1 28 = f := by rw [← hg, sR_s]
  have r30 : g.1 30 = nteB (h.1 30) (h.1 28) (h.1 22 17) := by rw [← hg, sR_n (by decide), sR_n (by decide), sR_s]
  have g0 : g.1 (tr 0) = f := by rw [← hg, sR_tl (by decide), sR_tl (by decide), sR_tl (by decide), sR_s]
  have gQ : g.1 (tr (remQ (h.1 10) + 2)) = h.1 (tr 0) := by
    rw [← hg, sR_tl (by decide), sR_tl (by decide), sR_tl (by decide), sR_n (tr_ne (by omega))]
    unfold remH
    rw [sR_tl (by decide), sR_s]
  have t : ∀ i, i ≠ 0 ∧ i ≠ remQ (h.1 10) + 2 → g.1 (tr i) = h.1 (tr i) := fun i w => by
    rw [← hg, sR_tl (by decide), sR_tl (by decide), sR_tl (by decide), sR_n (tr_ne w.1)]
    unfold remH
    rw [sR_tl (by decide), sR_n (tr_ne w.2)]
  have ti : ∀ i, TI (g.1 (tr i)) := fun i => by
    by_cases q : i = 0
    · rw [q, g0]; exact hf
    · by_cases q2 : i = remQ (h.1 10) + 2
      · rw [q2, gQ]; exact I.x.2.2.2.2.2.2 0
      · rw [t i ⟨q, q2⟩]; exact I.x.2.2.2.2.2.2 i
  have t8 : TI (g.1 28) := by rw [r28]; exact hf
  have t9 : TI (g.1 29) := by rw [r 29 (by decide)]; exact I.m.2.2.2.2.2.2.2
  have q10 : g.1 10 1 = remO (h.1 10) := by rw [r10, up_n (by decide), up_s]
  have q102 : g.1 10 2 = remC (h.1 10) + 1 := by rw [r10, up_s]
  refine ⟨?_, ?_, ?_, ?_, ?_, ?_, ?_, ?_, ?_, ?_, ?_, ?_, ?_, ?_, ?_, ?_, ?_, ?_, ?_, ?_, ?_, ?_, ?_, ?_, ?_, ?_, ?_, ?_, ?_⟩
  · obtain ⟨a1, a2, a3, a4, a5, a6, a7⟩ := id I.x
    unfold XI
    rw [r 3 (by decide), r 4 (by decide), r 7 (by decide)]
    exact ⟨a1, a2, a3, a4, a5, a6, ti⟩
  · obtain ⟨a1, a2, a3, a4, a5, a6, a7, a8⟩ := id I.m
    unfold MI
    rw [p 4 (by decide), p 6 (by decide), r 24 (by decide), r 25 (by decide)]
    exact ⟨a1, a2, a3, a4, a5, a6, t8, t9⟩
  · rw [p 0 (by decide)]; exact I.t0
  · rw [r 2 (by decide), r 23 (by decide)]; exact I.tx
  · rw [r 1 (by decide), p 2 (by decide)]; exact I.tl
  · rw [p 2 (by decide)]; exact I.tl2
  · rw [r 23 (by decide)]; exact I.by2
  · rw [r 3 (by decide), p 4 (by decide)]; exact I.n
  · rw [r 3 (by decide), p 6 (by decide)]; exact I.c
  · rw [r 4 (by decide), r 24 (by decide)]; exact I.E
  · rw [r 7 (by decide), r 25 (by decide)]; exact I.C
  · rw [g0, r28]
  · rw [q102, p17]
    unfold remC nteA
    split <;> split <;> omega
  · rw [p17]
    unfold nteA
    split <;> omega
  · rw [q10]
    unfold remO
    split <;> omega
  · intro i hi j hj
    rw [p17] at hi
    rw [r30, q10]
    unfold nteB
    by_cases c14 : h.1 22 17 = 14
    · have eA : nteA (h.1 22 17) = 13 := if_pos c14
      have eO : remO (h.1 10) = (h.1 10 1 + 1) % 14 := if_neg (by omega)
      have eC : remC (h.1 10) = 13 := if_neg (by omega)
      have eQ : remQ (h.1 10) = h.1 10 1 := by unfold remQ; rw [eO, eC]; omega
      rw [eA] at hi ⊢
      by_cases i13 : i = 13
      · rw [if_pos (by omega), show ((remO (h.1 10)) + i) % 14 = remQ (h.1 10) by rw [eO, eQ]; omega, gQ, I.P, show 10 * i + j - 10 * 13 = j by omega]
      · rw [if_neg (by omega), if_pos ⟨c14, by omega⟩, show 10 * i + j + 10 = 10 * (i + 1) + j by omega, I.bk (i + 1) (by omega) j hj, t _ (by rw [eQ, eO]; omega), eO, show (h.1 10 1 + (i + 1)) % 14 = ((h.1 10 1 + 1) % 14 + i) % 14 by omega]
    · have eA : nteA (h.1 22 17) = h.1 22 17 := if_neg c14
      have eO : remO (h.1 10) = h.1 10 1 := if_pos (by omega)
      have eC : remC (h.1 10) = h.1 22 17 := (if_pos (by omega)).trans ia
      have eQ : remQ (h.1 10) = (h.1 10 1 + h.1 22 17) % 14 := by unfold remQ; rw [eO, eC]
      rw [eA] at hi ⊢
      by_cases i13 : i = h.1 22 17
      · rw [if_pos (by omega), show ((remO (h.1 10)) + i) % 14 = remQ (h.1 10) by rw [eO, eQ, i13], gQ, I.P, show 10 * i + j - 10 * h.1 22 17 = j by omega]
      · rw [if_neg (by omega), if_neg (by omega), I.bk i (by omega) j hj, t _ (by rw [eQ, eO]; omega), eO]
  · rw [r 14 (by decide), r 32 (by decide)]; exact I.u
  · rw [r 32 (by decide)]; exact I.u2
  · rw [r 32 (by decide), r 31 (by decide)]
    intro a ha hz j hj
    rw [t _ (by omega)]; exact I.kp a ha hz j hj
  · rw [r 15 (by decide), p 20 (by decide)]; exact I.s
  · rw [p 20 (by decide)]; exact I.s2
  · rw [r 16 (by decide), r 33 (by decide)]; exact I.sk
  · rw [r 17 (by decide), r 34 (by decide)]; exact I.sh
  · rw [r 18 (by decide), r 35 (by decide)]; exact I.sq
  · rw [r 33 (by decide)]; exact I.sk2
  · rw [r 34 (by decide)]; exact I.sh2
  · rw [r 35 (by decide)]; exact I.sq2
  · rw [z]; exact I.sd
  · intro i h1_ h2
    by_cases q : i = 0
    · rw [q, g0]; exact h1
    · by_cases q2 : i = remQ (h.1 10) + 2
      · rw [q2, gQ]; exact I.st 0 (by decide) (by decide)
      · rw [t i ⟨q, q2⟩]; exact I.st i h1_ h2
theorem ac_22 {f : Nat → Nat} : (sR (remH h) (tr 0) f).1 22 = h.1 22 := by rw [sR_lt (by decide), remH_o (by decide) (by decide)]
theorem ac_lo {f : Nat → Nat} {q : Nat} (hq : q < 100) (h10 : q ≠ 10) : (sR (remH h) (tr 0) f).1 q = h.1 q := by rw [sR_lt hq, remH_o hq h10]
theorem ac_MI (I : Inv h) {f : Nat → Nat} : MI (sR (remH h) (tr 0) f) := by
  unfold MI
  rw [ac_22, ac_lo (by decide) (by decide), ac_lo (by decide) (by decide), ac_lo (by decide) (by decide), ac_lo (by decide) (by decide)]
  exact I.m
theorem op_bite (I : Inv h) : Op V h [] 4 4 yX8_bite cX8_bite 1 yX9_bite cX9_bite 1 := by
  by_cases q : h.1 (tr 0) 6 = 0
  · exact ⟨_, _, _, c_X8_bite_no I.x q, c_X9_bite_no I.t0 (I.P ▸ q), I⟩
  · have X := c_X8_bite_ok (V := V) I.x I.o (by rw [I.a]; exact I.a2) q
    have M := c_X9_bite_ok (V := V) (h := sR (remH h) (tr 0) (bite (h.1 4) (h.1 3 2) (h.1 (tr 0)))) (by rw [ac_22]; exact I.t0) (ac_MI I) (by rw [ac_22]; exact I.a2) (by rw [ac_lo (by decide) (by decide), ← I.P]; exact q)
    rw [ac_lo (q := 24) (by decide) (by decide), ac_lo (q := 28) (by decide) (by decide), ac_22, ← I.E, ← I.n, ← I.P] at M
    exact ⟨_, _, _, X, M, Inv_act I (TI_bite (I.x.2.2.2.2.2.2 0) I.x.2.2.1 I.x.1) (by rw [bite_1 I.x.1]; exact I.st 0 (by decide) (by decide))⟩
theorem op_say (I : Inv h) {a : Nat} (ha : a < 2 ^ 32) : Op V h [.int (nI a)] 3 3 yX8_say cX8_say 2 yX9_say cX9_say 2 := by
  by_cases q : a < h.1 3 3
  · cases w : canB (h.1 3 3) (h.1 7) (h.1 (tr 0)) a with
    | false => exact ⟨_, _, _, c_X8_say_no I.x q w, c_X9_say_no I.t0 I.m (I.c ▸ q) (by rw [← I.c, ← I.C, ← I.P]; exact w), I⟩
    | true =>
      have X := c_X8_say_ok (V := V) I.x I.o (by rw [I.a]; exact I.a2) q w
      have M := c_X9_say_ok (V := V) (h := sR (remH h) (tr 0) (bindR (h.1 (tr 0)) a)) (a := a) (by rw [ac_22]; exact I.t0) (ac_MI I) (by rw [ac_22]; exact I.a2) (by rw [ac_22, ← I.c]; exact q) (by rw [ac_22, ac_lo (q := 25) (by decide) (by decide), ac_lo (q := 28) (by decide) (by decide), ← I.c, ← I.C, ← I.P]; exact w)
      rw [ac_lo (q := 28) (by decide) (by decide), ← I.P] at M
      have h3 := I.x.2.1
      exact ⟨_, _, _, X, M, Inv_act I (TI_bind (I.x.2.2.2.2.2.2 0) (by omega)) (by unfold bindR; rw [up_n (by decide)]; exact I.st 0 (by decide) (by decide))⟩
  · exact ⟨_, _, _, c_X8_say_u I.x ha q, c_X9_say_u I.t0 I.m ha (I.c ▸ q), I⟩
theorem op_spice (I : Inv h) : Op V h [] 3 2 yX8_spice cX8_spice 1 yX9_spice cX9_spice 1 := by
  have hs := I.st 0 (by decide) (by decide)
  by_cases q : h.1 (tr 0) 1 = 0
  · exact ⟨_, _, _, c_X8_spice_no q, c_X9_spice_no I.t0 (I.P ▸ q), I⟩
  · have X := c_X8_spice_ok (V := V) I.x hs I.o (by rw [I.a]; exact I.a2) q
    have M := c_X9_spice_ok (V := V) (h := sR (remH h) (tr 0) (seedR (h.1 (tr 0)))) (by rw [ac_22]; exact I.t0) (ac_MI I) (by rw [ac_lo (by decide) (by decide), ← I.P]; exact hs) (by rw [ac_22]; exact I.a2) (by rw [ac_lo (by decide) (by decide), ← I.P]; exact q)
    rw [ac_lo (q := 28) (by decide) (by decide), ← I.P] at M
    refine ⟨_, _, _, X, M, Inv_act I (TI_seed (I.x.2.2.2.2.2.2 0)) ?_⟩
    unfold seedR
    rw [up_n (by decide), up_s]
    unfold dec1
    rw [if_neg q]; omega
theorem op_bread (I : Inv h) {a : Nat} (ha : a < 2 ^ 32) : Op V h [.int (nI a)] 3 3 yX8_bread cX8_bread 2 yX9_bread cX9_bread 2 := by
  by_cases q : a < h.1 3 2
  · by_cases w : bt (h.1 (tr 0) 6) a = 0 ∨ ¬ bt (h.1 (tr 0) 7) a = 0
    · exact ⟨_, _, _, c_X8_bread_no I.x q w, c_X9_bread_no I.t0 I.m (I.n ▸ q) (by rw [← I.P]; exact w), I⟩
    · have w1 : ¬ bt (h.1 (tr 0) 6) a = 0 := fun z => w (.inl z)
      have w2 : bt (h.1 (tr 0) 7) a = 0 := Decidable.not_not.mp (fun z => w (.inr z))
      have X := c_X8_bread_ok (V := V) I.x I.o (by rw [I.a]; exact I.a2) q w1 w2
      have M := c_X9_bread_ok (V := V) (h := sR (remH h) (tr 0) (breadR (h.1 (tr 0)) a)) (a := a) (by rw [ac_22]; exact I.t0) (ac_MI I) (by rw [ac_22]; exact I.a2) (by rw [ac_22, ← I.n]; exact q) (by rw [ac_lo (q := 28) (by decide) (by decide), ← I.P]; exact w1) (by rw [ac_lo (q := 28) (by decide) (by decide), ← I.P]; exact w2)
      rw [ac_lo (q := 28) (by decide) (by decide), ← I.P] at M
      have h3 := I.x.1
      exact ⟨_, _, _, X, M, Inv_act I (TI_bread (I.x.2.2.2.2.2.2 0) (by omega)) (by unfold breadR; rw [up_n (by decide), up_n (by omega)]; exact I.st 0 (by decide) (by decide))⟩
  · exact ⟨_, _, _, c_X8_bread_u I.x ha q, c_X9_bread_u I.t0 I.m ha (I.n ▸ q), I⟩
theorem op_undo (I : Inv h) : Op V h [] 3 1 yX8_undo cX8_undo 1 yX9_undo cX9_undo 2 := by
  have ia := I.a
  have ia2 := I.a2
  have io := I.o
  by_cases q : h.1 22 17 = 0
  · exact ⟨_, _, _, c_X8_undo_no (by omega), c_X9_undo_no I.t0 q, I⟩
  · have X := c_X8_undo_ok (V := V) I.x I.o (by omega) (by omega)
    have e22 : (tbkH h).1 22 = h.1 22 := by unfold tbkH; rw [sR_n (by decide), sR_lt (by decide)]
    have e28 : (tbkH h).1 28 = h.1 28 := by unfold tbkH; rw [sR_n (by decide), sR_lt (by decide)]
    have e30 : (tbkH h).1 30 = h.1 30 := by unfold tbkH; rw [sR_n (by decide), sR_lt (by decide)]
    have M := c_X9_undo_ok (V := V) (h := tbkH h) (by rw [e22]; exact I.t0) (by rw [e22]; exact I.a2) (by rw [e22]; exact q)
    rw [e22, e28, e30] at M
    rw [ia] at X
    refine ⟨_, _, _, X, M, ?_⟩
    generalize hg : sR (sR (tbkH h) 28 (undR (h.1 30) (h.1 28) (h.1 22 17 - 1))) 22 (up (h.1 22) 17 (h.1 22 17 - 1)) = g
    have z : g.2 = h.2 := by rw [← hg]; rfl
    have r : ∀ q, q < 100 ∧ q ≠ 10 ∧ q ≠ 22 ∧ q ≠ 28 → g.1 q = h.1 q := fun q w => by
      rw [← hg, sR_n (by omega), sR_n (by omega)]
      unfold tbkH
      rw [sR_n (by omega), sR_lt w.1]
    have p : ∀ o, o ≠ 17 → g.1 22 o = h.1 22 o := fun o w => by rw [← hg, sR_s, up_n w]
    have p17 : g.1 22 17 = h.1 22 17 - 1 := by rw [← hg, sR_s, up_s]
    have r10 : g.1 10 = up (h.1 10) 2 (h.1 10 2 - 1) := by
      rw [← hg, sR_n (by decide), sR_n (by decide)]
      unfold tbkH
      rw [sR_s]
    have g0 : g.1 (tr 0) = h.1 (tr ((h.1 10 1 + (h.1 10 2 - 1)) % 14 + 2)) := by
      rw [← hg, sR_tl (by decide), sR_tl (by decide)]
      unfold tbkH
      rw [sR_tl (by decide), sR_s]
    have t : ∀ i, i ≠ 0 → g.1 (tr i) = h.1 (tr i) := fun i w => by
      rw [← hg, sR_tl (by decide), sR_tl (by decide)]
      unfold tbkH
      rw [sR_tl (by decide), sR_n (tr_ne w)]
    have r28 : g.1 28 = g.1 (tr 0) := by
      rw [g0, ← hg, sR_n (by decide), sR_s]
      funext j
      unfold undR
      by_cases w : j < 10
      · rw [if_pos w, I.bk _ (by omega) j w, ia]
      · rw [if_neg w, I.m.2.2.2.2.2.2.1.2.2.2.2.2.2 j (by omega), (I.x.2.2.2.2.2.2 _).2.2.2.2.2.2 j (by omega)]
    have ti : ∀ i, TI (g.1 (tr i)) := fun i => by
      by_cases q : i = 0
      · rw [q, g0]; exact I.x.2.2.2.2.2.2 _
      · rw [t i q]; exact I.x.2.2.2.2.2.2 i
    have t8 : TI (g.1 28) := by rw [r28]; exact ti 0
    have t9 : TI (g.1 29) := by rw [r 29 (by decide)]; exact I.m.2.2.2.2.2.2.2
    refine ⟨?_, ?_, ?_, ?_, ?_, ?_, ?_, ?_, ?_, ?_, ?_, ?_, ?_, ?_, ?_, ?_, ?_, ?_, ?_, ?_, ?_, ?_, ?_, ?_, ?_, ?_, ?_, ?_, ?_⟩
    · obtain ⟨a1, a2, a3, a4, a5, a6, a7⟩ := id I.x
      unfold XI
      rw [r 3 (by decide), r 4 (by decide), r 7 (by decide)]
      exact ⟨a1, a2, a3, a4, a5, a6, ti⟩
    · obtain ⟨a1, a2, a3, a4, a5, a6, a7, a8⟩ := id I.m
      unfold MI
      rw [p 4 (by decide), p 6 (by decide), r 24 (by decide), r 25 (by decide)]
      exact ⟨a1, a2, a3, a4, a5, a6, t8, t9⟩
    · rw [p 0 (by decide)]; exact I.t0
    · rw [r 2 (by decide), r 23 (by decide)]; exact I.tx
    · rw [r 1 (by decide), p 2 (by decide)]; exact I.tl
    · rw [p 2 (by decide)]; exact I.tl2
    · rw [r 23 (by decide)]; exact I.by2
    · rw [r 3 (by decide), p 4 (by decide)]; exact I.n
    · rw [r 3 (by decide), p 6 (by decide)]; exact I.c
    · rw [r 4 (by decide), r 24 (by decide)]; exact I.E
    · rw [r 7 (by decide), r 25 (by decide)]; exact I.C
    · exact r28.symm
    · rw [r10, p17, up_s, ia]
    · rw [p17]; omega
    · rw [r10, up_n (by decide)]; exact io
    · intro i hi j hj
      rw [p17] at hi
      rw [r 30 (by decide), r10, up_n (by decide), t _ (by omega)]
      exact I.bk i (by omega) j hj
    · rw [r 14 (by decide), r 32 (by decide)]; exact I.u
    · rw [r 32 (by decide)]; exact I.u2
    · rw [r 32 (by decide), r 31 (by decide)]
      intro a ha hz j hj
      rw [t _ (by omega)]; exact I.kp a ha hz j hj
    · rw [r 15 (by decide), p 20 (by decide)]; exact I.s
    · rw [p 20 (by decide)]; exact I.s2
    · rw [r 16 (by decide), r 33 (by decide)]; exact I.sk
    · rw [r 17 (by decide), r 34 (by decide)]; exact I.sh
    · rw [r 18 (by decide), r 35 (by decide)]; exact I.sq
    · rw [r 33 (by decide)]; exact I.sk2
    · rw [r 34 (by decide)]; exact I.sh2
    · rw [r 35 (by decide)]; exact I.sq2
    · rw [z]; exact I.sd
    · intro i h1_ h2
      by_cases q : i = 0
      · rw [q, g0]; exact I.st _ (by omega) (by omega)
      · rw [t i q]; exact I.st i h1_ h2
theorem op_keep (I : Inv h) {a : Nat} (ha : a < 2 ^ 32) : Op V h [.int (nI a)] 3 2 yX8_keep cX8_keep 2 yX9_keep cX9_keep 3 := by
  by_cases q : a < 2
  · have X := c_X8_keep_ok (V := V) I.x q
    have eo : ∀ q, q < 100 → q ≠ 14 → (putH h a).1 q = h.1 q := fun q w w2 => by unfold putH; rw [sR_n w2, sR_lt w]
    have M := c_X9_keep_ok (V := V) (h := putH h a) (by rw [eo 22 (by decide) (by decide)]; exact I.t0) q
    rw [eo 28 (by decide) (by decide), eo 31 (by decide) (by decide), eo 32 (by decide) (by decide), ← I.P] at M
    refine ⟨_, _, _, X, M, ?_⟩
    generalize hg : sR (sR (putH h a) 32 (up (h.1 32) a 1)) 31 (kepR (h.1 31) (h.1 (tr 0)) a) = g
    have z : g.2 = h.2 := by rw [← hg]; rfl
    have r : ∀ q, q < 100 ∧ q ≠ 14 ∧ q ≠ 31 ∧ q ≠ 32 → g.1 q = h.1 q := fun q w => by rw [← hg, sR_n (by omega), sR_n (by omega), eo q w.1 w.2.1]
    have p : ∀ o, o ≠ 1000 → g.1 22 o = h.1 22 o := fun o w => by rw [r 22 (by decide)]
    have r14 : g.1 14 = up (h.1 14) a 1 := by
      rw [← hg, sR_n (by decide), sR_n (by decide)]
      unfold putH
      rw [sR_s]
    have r31 : g.1 31 = kepR (h.1 31) (h.1 (tr 0)) a := by rw [← hg, sR_s]
    have r32 : g.1 32 = up (h.1 32) a 1 := by rw [← hg, sR_n (by decide), sR_s]
    have gA : g.1 (tr (a + 16)) = h.1 (tr 0) := by
      rw [← hg, sR_tl (by decide), sR_tl (by decide)]
      unfold putH
      rw [sR_tl (by decide), sR_s]
    have t : ∀ i, i ≠ a + 16 → g.1 (tr i) = h.1 (tr i) := fun i w => by
      rw [← hg, sR_tl (by decide), sR_tl (by decide)]
      unfold putH
      rw [sR_tl (by decide), sR_n (tr_ne w)]
    have ti : ∀ i, TI (g.1 (tr i)) := fun i => by
      by_cases q : i = a + 16
      · rw [q, gA]; exact I.x.2.2.2.2.2.2 _
      · rw [t i q]; exact I.x.2.2.2.2.2.2 i
    have t8 : TI (g.1 28) := by rw [r 28 (by decide)]; exact I.m.2.2.2.2.2.2.1
    have t9 : TI (g.1 29) := by rw [r 29 (by decide)]; exact I.m.2.2.2.2.2.2.2
    have a_ := a
    refine ⟨?_, ?_, ?_, ?_, ?_, ?_, ?_, ?_, ?_, ?_, ?_, ?_, ?_, ?_, ?_, ?_, ?_, ?_, ?_, ?_, ?_, ?_, ?_, ?_, ?_, ?_, ?_, ?_, ?_⟩
    · obtain ⟨a1, a2, a3, a4, a5, a6, a7⟩ := id I.x
      unfold XI
      rw [r 3 (by decide), r 4 (by decide), r 7 (by decide)]
      exact ⟨a1, a2, a3, a4, a5, a6, ti⟩
    · obtain ⟨a1, a2, a3, a4, a5, a6, a7, a8⟩ := id I.m
      unfold MI
      rw [p 4 (by decide), p 6 (by decide), r 24 (by decide), r 25 (by decide)]
      exact ⟨a1, a2, a3, a4, a5, a6, t8, t9⟩
    · rw [p 0 (by decide)]; exact I.t0
    · rw [r 2 (by decide), r 23 (by decide)]; exact I.tx
    · rw [r 1 (by decide), p 2 (by decide)]; exact I.tl
    · rw [p 2 (by decide)]; exact I.tl2
    · rw [r 23 (by decide)]; exact I.by2
    · rw [r 3 (by decide), p 4 (by decide)]; exact I.n
    · rw [r 3 (by decide), p 6 (by decide)]; exact I.c
    · rw [r 4 (by decide), r 24 (by decide)]; exact I.E
    · rw [r 7 (by decide), r 25 (by decide)]; exact I.C
    · rw [t 0 (by omega), r 28 (by decide)]; exact I.P
    · rw [r 10 (by decide), p 17 (by decide)]; exact I.a
    · rw [p 17 (by decide)]; exact I.a2
    · rw [r 10 (by decide)]; exact I.o
    · rw [p 17 (by decide), r 10 (by decide), r 30 (by decide)]
      intro i hi j hj
      rw [t _ (by omega)]; exact I.bk i hi j hj
    · rw [r14, r32, I.u]
    · intro j
      rw [r32]
      unfold up
      split
      · decide
      · exact I.u2 j
    · intro b hb hz j hj
      rw [r31]
      unfold kepR
      by_cases w : b = a
      · rw [w, if_pos (by omega), gA, show 10 * a + j - 10 * a = j by omega]
      · rw [if_neg (by omega), t _ (by omega)]
        rw [r32, up_n w] at hz
        exact I.kp b hb hz j hj
    · rw [r 15 (by decide), p 20 (by decide)]; exact I.s
    · rw [p 20 (by decide)]; exact I.s2
    · rw [r 16 (by decide), r 33 (by decide)]; exact I.sk
    · rw [r 17 (by decide), r 34 (by decide)]; exact I.sh
    · rw [r 18 (by decide), r 35 (by decide)]; exact I.sq
    · rw [r 33 (by decide)]; exact I.sk2
    · rw [r 34 (by decide)]; exact I.sh2
    · rw [r 35 (by decide)]; exact I.sq2
    · rw [z]; exact I.sd
    · intro i h1_ h2
      by_cases q : i = a + 16
      · rw [q, gA]; exact I.st 0 (by decide) (by decide)
      · rw [t i q]; exact I.st i h1_ h2
  · exact ⟨_, _, _, c_X8_keep_u ha q, c_X9_keep_u I.t0 ha q, I⟩
theorem op_again (I : Inv h) {a : Nat} (ha : a < 2 ^ 32) : Op V h [.int (nI a)] 3 2 yX8_again cX8_again 2 yX9_again cX9_again 3 := by
  by_cases q : a < 2
  · by_cases w : h.1 32 a = 0
    · exact ⟨_, _, _, c_X8_again_no q (by rw [I.u]; exact w), c_X9_again_no I.t0 q w, I⟩
    · have X := c_X8_again_ok (V := V) I.x q (by rw [I.u]; exact I.u2) (by rw [I.u]; exact w)
      have eo : ∀ q, q < 100 → q ≠ 10 → (agnH h a).1 q = h.1 q := fun q w w2 => by unfold agnH; rw [sR_n w2, sR_lt w]
      have M := c_X9_again_ok (V := V) (h := agnH h a) (a := a) (by rw [eo 22 (by decide) (by decide)]; exact I.t0) q (by rw [eo 32 (by decide) (by decide)]; exact I.u2) (by rw [eo 32 (by decide) (by decide)]; exact w)
      rw [eo 28 (by decide) (by decide), eo 31 (by decide) (by decide), eo 22 (by decide) (by decide), I.kp a q w 9 (by decide)] at M
      refine ⟨_, _, _, X, M, ?_⟩
      generalize hg : sR (sR (agnH h a) 28 (undR (h.1 31) (h.1 28) a)) 22 (up (h.1 22) 17 0) = g
      have z : g.2 = h.2 := by rw [← hg]; rfl
      have r : ∀ q, q < 100 ∧ q ≠ 10 ∧ q ≠ 22 ∧ q ≠ 28 → g.1 q = h.1 q := fun q w => by rw [← hg, sR_n (by omega), sR_n (by omega), eo q w.1 w.2.1]
      have p : ∀ o, o ≠ 17 → g.1 22 o = h.1 22 o := fun o w => by rw [← hg, sR_s, up_n w]
      have p17 : g.1 22 17 = 0 := by rw [← hg, sR_s, up_s]
      have r10 : g.1 10 = up (up (h.1 10) 1 0) 2 0 := by
        rw [← hg, sR_n (by decide), sR_n (by decide)]
        unfold agnH
        rw [sR_s]
      have g0 : g.1 (tr 0) = h.1 (tr (a + 16)) := by
        rw [← hg, sR_tl (by decide), sR_tl (by decide)]
        unfold agnH
        rw [sR_tl (by decide), sR_s]
      have t : ∀ i, i ≠ 0 → g.1 (tr i) = h.1 (tr i) := fun i w => by
        rw [← hg, sR_tl (by decide), sR_tl (by decide)]
        unfold agnH
        rw [sR_tl (by decide), sR_n (tr_ne w)]
      have r28 : g.1 28 = g.1 (tr 0) := by
        rw [g0, ← hg, sR_n (by decide), sR_s]
        funext j
        unfold undR
        by_cases w2 : j < 10
        · rw [if_pos w2, I.kp a q w j w2]
        · rw [if_neg w2, I.m.2.2.2.2.2.2.1.2.2.2.2.2.2 j (by omega), (I.x.2.2.2.2.2.2 _).2.2.2.2.2.2 j (by omega)]
      have ti : ∀ i, TI (g.1 (tr i)) := fun i => by
        by_cases q : i = 0
        · rw [q, g0]; exact I.x.2.2.2.2.2.2 _
        · rw [t i q]; exact I.x.2.2.2.2.2.2 i
      have t8 : TI (g.1 28) := by rw [r28]; exact ti 0
      have t9 : TI (g.1 29) := by rw [r 29 (by decide)]; exact I.m.2.2.2.2.2.2.2
      refine ⟨?_, ?_, ?_, ?_, ?_, ?_, ?_, ?_, ?_, ?_, ?_, ?_, ?_, ?_, ?_, ?_, ?_, ?_, ?_, ?_, ?_, ?_, ?_, ?_, ?_, ?_, ?_, ?_, ?_⟩
      · obtain ⟨a1, a2, a3, a4, a5, a6, a7⟩ := id I.x
        unfold XI
        rw [r 3 (by decide), r 4 (by decide), r 7 (by decide)]
        exact ⟨a1, a2, a3, a4, a5, a6, ti⟩
      · obtain ⟨a1, a2, a3, a4, a5, a6, a7, a8⟩ := id I.m
        unfold MI
        rw [p 4 (by decide), p 6 (by decide), r 24 (by decide), r 25 (by decide)]
        exact ⟨a1, a2, a3, a4, a5, a6, t8, t9⟩
      · rw [p 0 (by decide)]; exact I.t0
      · rw [r 2 (by decide), r 23 (by decide)]; exact I.tx
      · rw [r 1 (by decide), p 2 (by decide)]; exact I.tl
      · rw [p 2 (by decide)]; exact I.tl2
      · rw [r 23 (by decide)]; exact I.by2
      · rw [r 3 (by decide), p 4 (by decide)]; exact I.n
      · rw [r 3 (by decide), p 6 (by decide)]; exact I.c
      · rw [r 4 (by decide), r 24 (by decide)]; exact I.E
      · rw [r 7 (by decide), r 25 (by decide)]; exact I.C
      · exact r28.symm
      · rw [r10, p17, up_s]
      · rw [p17]; omega
      · rw [r10, up_n (by decide), up_s]; decide
      · intro i hi j hj
        rw [p17] at hi
        exact absurd hi (by omega)
      · rw [r 14 (by decide), r 32 (by decide)]; exact I.u
      · rw [r 32 (by decide)]; exact I.u2
      · rw [r 32 (by decide), r 31 (by decide)]
        intro a ha hz j hj
        rw [t _ (by omega)]; exact I.kp a ha hz j hj
      · rw [r 15 (by decide), p 20 (by decide)]; exact I.s
      · rw [p 20 (by decide)]; exact I.s2
      · rw [r 16 (by decide), r 33 (by decide)]; exact I.sk
      · rw [r 17 (by decide), r 34 (by decide)]; exact I.sh
      · rw [r 18 (by decide), r 35 (by decide)]; exact I.sq
      · rw [r 33 (by decide)]; exact I.sk2
      · rw [r 34 (by decide)]; exact I.sh2
      · rw [r 35 (by decide)]; exact I.sq2
      · rw [z]; exact I.sd
      · intro i h1_ h2
        by_cases w : i = 0
        · rw [w, g0]; exact I.st _ (by omega) (by omega)
        · rw [t i w]; exact I.st i h1_ h2
  · exact ⟨_, _, _, c_X8_again_u ha q, c_X9_again_u I.t0 ha q, I⟩
theorem Inv_sd (I : Inv h) (v : Int64) : Inv (sL (sL h 0 v) 1 v) := by
  have e : (sL (sL h 0 v) 1 v).1 = h.1 := rfl
  obtain ⟨a1, a2, a3, a4, a5, a6, a7, a8, a9, a10, a11, a12, a13, a14, a15, a16, a17, a18, a19, a20, a21, a22, a23, a24, a25, a26, a27, a28, a29⟩ := I
  exact ⟨a1, a2, a3, a4, a5, a6, a7, a8, a9, a10, a11, a12, a13, a14, a15, a16, a17, a18, a19, a20, a21, a22, a23, a24, a25, a26, a27, rfl, a29⟩
theorem op_seed (I : Inv h) {v : Int64} : ∃ h1 h2, Rtl V 1 yX8_seed cX8_seed 5 (some .long) [rf V 0, .long v] h (h.2 0) h1 ∧ Rtl V 1 yX9_seed cX9_seed 5 (some .long) [rf V 22, .long v] h1 (h.2 0) h2 ∧ Inv h2 := by
  have M := c_X9_seed (V := V) (h := sL h 0 v) (v := v) I.t0
  have e : (sL h 0 v).2 1 = h.2 0 := by rw [I.sd]; rfl
  rw [e] at M
  exact ⟨_, _, c_X8_seed, M, Inv_sd I v⟩
theorem op_talks (I : Inv h) {m : Nat} (hm : m < 2 ^ 32) : Op V h [.int (nI m)] 7 5 yX8_talks cX8_talks 3 yX9_talks cX9_talks 5 := by
  by_cases q : 1 ≤ m ∧ m ≤ 30
  · have hT := I.x.2.2.2.2.2.2 0
    have hs := I.st 0 (by decide) (by decide)
    have X := c_X8_talks_ok (V := V) I.x hs q.1 q.2
    have ok := tkT_ok (C := h.1 7) (m := h.1 3 3) (s := h.2 0) hT hs I.x.2.2.1 I.x.1 m
    have S := Sc_1 I ok.1
    have J := Inv_Sc I S
    have kW := (tkW_ok (C := h.1 7) (s := h.2 0) hT hs I.x.2.2.1 I.x.1 I.x.2.1 m).1
    rw [← kW] at X
    have M := c_X9_talks_ok (V := V) (h := sR (sL h 0 (sdN (h.2 0) m)) (tr 1) (tkT (h.1 4) (h.1 3 2) (h.1 3 3) (h.1 7) (h.1 (tr 0)) (h.2 0) m)) (m := m) J.t0 J.m (by rw [show (sR (sL h 0 (sdN (h.2 0) m)) (tr 1) (tkT (h.1 4) (h.1 3 2) (h.1 3 3) (h.1 7) (h.1 (tr 0)) (h.2 0) m)).1 28 = h.1 28 from sR_n (tr_hi (by decide)), ← I.P]; exact hs) q.1 q.2
    have e1 : (sR (sL h 0 (sdN (h.2 0) m)) (tr 1) (tkT (h.1 4) (h.1 3 2) (h.1 3 3) (h.1 7) (h.1 (tr 0)) (h.2 0) m)).1 = (sR h (tr 1) (tkT (h.1 4) (h.1 3 2) (h.1 3 3) (h.1 7) (h.1 (tr 0)) (h.2 0) m)).1 := rfl
    have e2 : (sR (sL h 0 (sdN (h.2 0) m)) (tr 1) (tkT (h.1 4) (h.1 3 2) (h.1 3 3) (h.1 7) (h.1 (tr 0)) (h.2 0) m)).2 1 = h.2 0 := by rw [I.sd]; rfl
    rw [e2, e1, q_E I S, q_n I S, q_P I S, q_c I S, q_C I S] at M
    exact ⟨_, _, _, X, M, Inv_sd (Inv_Sc J (Sc_29 J ok.1)) (sdN (h.2 0) m)⟩
  · exact ⟨_, _, _, c_X8_talks_bad hm q, c_X9_talks_bad I.t0 hm q, I⟩
end Ops3
