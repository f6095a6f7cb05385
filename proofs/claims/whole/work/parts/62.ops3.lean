/-! both sides say the same: talk -/
theorem TI_lay {a b n : Nat} (ha : a ≤ 9) (hb : b ≤ 9) (hn : n ≤ 4) : TI (layR a b n) := by
  have h6 : ∀ n, n ≤ 4 → 1 * 2 ^ n - 1 < 16 := by decide
  have e : ∀ o, o ≠ 0 → o ≠ 1 → o ≠ 6 → layR a b n o = 0 := fun o h1 h2 h3 => by
    unfold layR
    rw [if_neg h1, if_neg h2, if_neg h3]
  refine ⟨ha, ?_, ?_, ?_, ?_, fun c hc => ?_, fun o ho => e o (by omega) (by omega) (by omega)⟩
  · show b < 4294967296
    omega
  · exact h6 n hn
  · rw [e 7 (by decide) (by decide) (by decide)]; decide
  · rw [e 8 (by decide) (by decide) (by decide)]; decide
  · by_cases q : c = 0 ∨ c = 1 ∨ c = 2 ∨ c = 3
    · rw [e (2 + c) (by omega) (by omega) (by omega)]
      exact ⟨by omega, fun _ => by omega⟩
    · omega
theorem up3b {f : Nat → Nat} {n a b c B : Nat} (ha : a ≤ B) (hb : b ≤ B) (hc : c ≤ B) (hf : ∀ j, f j ≤ B) (j : Nat) : up (up (up f (3 * n) a) (3 * n + 1) b) (3 * n + 2) c j ≤ B := by
  simp only [up]
  split
  · exact hc
  · split
    · exact hb
    · split
      · exact ha
      · exact hf j
theorem up3c {f : Nat → Nat} {n a b c B : Nat} (hc : c ≤ B) (hf : ∀ e, f (3 * e + 2) ≤ B) (e : Nat) : up (up (up f (3 * n) a) (3 * n + 1) b) (3 * n + 2) c (3 * e + 2) ≤ B := by
  simp only [up]
  split
  · exact hc
  · rw [if_neg (by omega), if_neg (by omega)]; exact hf e
theorem XI_tl {B : Nat → Nat} {h : Hp} (hx : XI h) : ∀ k, ffr B (4 * k + 3) = none → XI (tlH B h k)
  | 0, _ => by
    obtain ⟨a1, a2, a3, a4, a5, a6, a7⟩ := hx
    unfold tlH
    refine ⟨?_, ?_, a3, a4, a5, a6, fun i => ?_⟩
    · rw [sR_s, up_n (by decide), up_s]; omega
    · rw [sR_s, up_s]; omega
    · rw [sR_tl (by decide)]; exact a7 i
  | k + 1, hf => by
    have h0 := ffr_dn hf (show 4 * k + 3 ≤ 4 * (k + 1) + 3 by omega)
    have ih := XI_tl hx k h0
    have cn := tl_cnt (B := B) (z := h) k h0
    have cl := cnt_lim k h0
    have ci := fun i hi => cnt_in (B := B) (k := k) i hi
    have f1 := ffr_none hf (4 * k + 4 + 0) (by omega)
    have f2 := ffr_none hf (4 * k + 4 + 1) (by omega)
    have f3 := ffr_none hf (4 * k + 4 + 2) (by omega)
    rw [fitP_i (by omega)] at f1 f2 f3
    obtain ⟨a1, a2, a3, a4, a5, a6, a7⟩ := id ih
    have tn := tlH_n (B := B) (h := h) (k + 1)
    by_cases w : B (4 * k + 3) = 69
    · rw [if_pos w] at f1 f2 f3
      have g1 := fitE_1.mp f1
      have g2 := fitE_2.mp f2
      have g3 := fitE_3.mp f3
      have et : tlH B h (k + 1) = addE (tlH B h k) (B (4 * k + 3 + 1) - 48) (B (4 * k + 3 + 2) - 48) (B (4 * k + 3 + 3) - 48) := if_pos w
      have e1 : B (4 * k + 4 + 0) = B (4 * k + 3 + 1) := rfl
      have e2 : B (4 * k + 4 + 1) = B (4 * k + 3 + 2) := rfl
      have e3 : B (4 * k + 4 + 2) = B (4 * k + 3 + 3) := rfl
      rw [e1] at g1
      rw [e2] at g2
      rw [e3] at g3
      rw [et] at tn ⊢
      refine ⟨tn.1, tn.2, ?_, ?_, ?_, ?_, fun i => ?_⟩
      · unfold addE
        split
        · rw [sR_n (by decide), sR_s]
          exact up3b (by omega) (by omega) (by omega) a3
        · exact a3
      · unfold addE
        split
        · rw [sR_n (by decide), sR_s]
          exact up3c (by omega) a4
        · exact a4
      · rw [addE_o (by decide) (by decide)]; exact a5
      · rw [addE_o (by decide) (by decide)]; exact a6
      · rw [addE_o (by unfold tr; omega) (by unfold tr; omega)]; exact a7 i
    · rw [if_neg w] at f1 f2 f3
      have g1 := fitC_1.mp f1
      have g2 := fitC_2.mp f2
      have g3 := fitC_3.mp f3
      have et : tlH B h (k + 1) = addC (tlH B h k) (B (4 * k + 3 + 1) - 48) (B (4 * k + 3 + 2) - 48) (B (4 * k + 3 + 3) - 48) := if_neg w
      have e1 : B (4 * k + 4 + 0) = B (4 * k + 3 + 1) := rfl
      have e2 : B (4 * k + 4 + 1) = B (4 * k + 3 + 2) := rfl
      have e3 : B (4 * k + 4 + 2) = B (4 * k + 3 + 3) := rfl
      have c3 := (ci 3 (by omega)).1
      rw [show cntE B (4 * k + 4 + 2) = cntE B (4 * k + 3) from c3] at g3
      rw [e1] at g1
      rw [e2] at g2
      rw [e3] at g3
      rw [et] at tn ⊢
      have a6' : ∀ c, (tlH B h k).1 7 (3 * c + 2) ≤ 3 := fun c => by have := a6 c; omega
      refine ⟨tn.1, tn.2, ?_, ?_, ?_, ?_, fun i => ?_⟩
      · rw [addC_o (by decide) (by decide)]; exact a3
      · rw [addC_o (by decide) (by decide)]; exact a4
      · unfold addC
        split
        · rw [sR_n (by decide), sR_s]
          exact up3b (by omega) (by omega) (by omega) a5
        · exact a5
      · unfold addC
        split
        · rw [sR_n (by decide), sR_s]
          intro c
          exact Nat.lt_succ_of_le (up3c (by omega) a6' c)
        · exact a6
      · rw [addC_o (by unfold tr; omega) (by unfold tr; omega)]; exact a7 i
/-- what lies beyond the told rules stays; the first two figures -/
theorem tl_far {B : Nat → Nat} {h : Hp} : ∀ k, (tlH B h k).1 3 0 = B 1 - 48 ∧ (tlH B h k).1 3 1 = B 2 - 48 ∧ (∀ j, 3 * (tlH B h k).1 3 2 ≤ j → (tlH B h k).1 4 j = h.1 4 j) ∧ (∀ j, 3 * (tlH B h k).1 3 3 ≤ j → (tlH B h k).1 7 j = h.1 7 j) ∧ (tlH B h k).2 = h.2
  | 0 => by
    unfold tlH
    refine ⟨?_, ?_, fun j _ => ?_, fun j _ => ?_, rfl⟩
    · rw [sR_s, up_n (by decide), up_n (by decide), up_n (by decide), up_s]
    · rw [sR_s, up_n (by decide), up_n (by decide), up_s]
    · rw [sR_n (by decide)]
    · rw [sR_n (by decide)]
  | k + 1 => by
    obtain ⟨i0, i1, i4, i7, i2⟩ := tl_far (B := B) (h := h) k
    unfold tlH
    split
    · unfold addE
      split
      · refine ⟨?_, ?_, fun j hj => ?_, fun j hj => ?_, i2⟩
        · rw [sR_s, up_n (by decide)]; exact i0
        · rw [sR_s, up_n (by decide)]; exact i1
        · rw [sR_s, up_s] at hj
          rw [sR_n (by decide), sR_s, up_n (by omega), up_n (by omega), up_n (by omega)]; exact i4 j (by omega)
        · rw [sR_s, up_n (by decide)] at hj
          rw [sR_n (by decide), sR_n (by decide)]; exact i7 j hj
      · exact ⟨i0, i1, i4, i7, i2⟩
    · unfold addC
      split
      · refine ⟨?_, ?_, fun j hj => ?_, fun j hj => ?_, i2⟩
        · rw [sR_s, up_n (by decide)]; exact i0
        · rw [sR_s, up_n (by decide)]; exact i1
        · rw [sR_s, up_n (by decide)] at hj
          rw [sR_n (by decide), sR_n (by decide)]; exact i4 j hj
        · rw [sR_s, up_s] at hj
          rw [sR_n (by decide), sR_s, up_n (by omega), up_n (by omega), up_n (by omega)]; exact i7 j (by omega)
      · exact ⟨i0, i1, i4, i7, i2⟩
section Ops4
variable {V : Vt} {h : Hp}
theorem op_talk (I : Inv h) : Op V h [] 5 6 yX8_talk cX8_talk 1 yX9_talk cX9_talk 2 := by
  have hl := I.tl
  have hl2 := I.tl2
  have hB : ∀ j, h.1 2 j ≤ 255 := by rw [I.tx]; exact I.by2
  by_cases fi : Fine (h.1 2) (h.1 1 0)
  · obtain ⟨ff, f3, fm⟩ := id fi
    have ek : 4 * ((h.1 1 0 - 3) / 4) + 3 = h.1 1 0 := by omega
    have hx2 := XI_tl (B := h.1 2) I.x ((h.1 1 0 - 3) / 4) (by rw [ek]; exact ff)
    have X := c_X8_talk_ok (V := V) hx2 hB (by omega) fi
    have far := tl_far (B := h.1 2) (h := h) ((h.1 1 0 - 3) / 4)
    have tlo := fun q a b c => tlH_o (B := h.1 2) (h := h) (q := q) a b c ((h.1 1 0 - 3) / 4)
    have eL : tlkH h = sR (sR (sR (tlH (h.1 2) h ((h.1 1 0 - 3) / 4)) (tr 0) (layR ((tlH (h.1 2) h ((h.1 1 0 - 3) / 4)).1 3 0) ((tlH (h.1 2) h ((h.1 1 0 - 3) / 4)).1 3 1) ((tlH (h.1 2) h ((h.1 1 0 - 3) / 4)).1 3 2))) 10 (up (up (h.1 10) 1 0) 2 0)) 14 (up (up (h.1 14) 0 0) 1 0) := rfl
    generalize hT : tlH (h.1 2) h ((h.1 1 0 - 3) / 4) = T at hx2 X far tlo eL
    obtain ⟨a0, a1, a4, a7, az⟩ := far
    have lo : ∀ q, q < 100 ∧ q ≠ 3 ∧ q ≠ 4 ∧ q ≠ 7 ∧ q ≠ 10 ∧ q ≠ 14 → (tlkH h).1 q = h.1 q := fun q w => by rw [eL, sR_n (by omega), sR_n (by omega), sR_lt w.1, tlo q (by omega) (by omega) (by omega)]
    have l3 : (tlkH h).1 3 = T.1 3 := by rw [eL, sR_n (by decide), sR_n (by decide), sR_lt (by decide)]
    have l4 : (tlkH h).1 4 = T.1 4 := by rw [eL, sR_n (by decide), sR_n (by decide), sR_lt (by decide)]
    have l7 : (tlkH h).1 7 = T.1 7 := by rw [eL, sR_n (by decide), sR_n (by decide), sR_lt (by decide)]
    have l10 : (tlkH h).1 10 = up (up (h.1 10) 1 0) 2 0 := by rw [eL, sR_n (by decide), sR_s]
    have l14 : (tlkH h).1 14 = up (up (h.1 14) 0 0) 1 0 := by rw [eL, sR_s]
    have lt0 : (tlkH h).1 (tr 0) = layR (h.1 2 1 - 48) (h.1 2 2 - 48) (T.1 3 2) := by rw [eL, sR_tl (by decide), sR_tl (by decide), sR_s, a0, a1]
    have lti : ∀ i, i ≠ 0 → (tlkH h).1 (tr i) = h.1 (tr i) := fun i w => by rw [eL, sR_tl (by decide), sR_tl (by decide), sR_n (tr_ne w), tlo _ (by unfold tr; omega) (by unfold tr; omega) (by unfold tr; omega)]
    have lz : (tlkH h).2 = h.2 := by rw [eL]; exact az
    have mi : MI (tlkH h) := by
      unfold MI
      rw [lo 22 (by decide), lo 24 (by decide), lo 25 (by decide), lo 28 (by decide), lo 29 (by decide)]
      exact I.m
    obtain ⟨g, M, rd, ri⟩ := c_X9_talk_ok (V := V) (h := tlkH h) h (by rw [lo 22 (by decide)]; exact I.t0) mi (by rw [lo 23 (by decide)]; exact I.by2) (by rw [lo 22 (by decide)]; exact I.tl2) (by rw [lo 22 (by decide), lo 23 (by decide), ← I.tx, ← I.tl]; exact fi)
    rw [lo 22 (by decide), lo 23 (by decide), ← I.tx, ← I.tl] at ri
    unfold RI at ri
    rw [hT] at ri
    obtain ⟨-, i8, i9, i10, i12, i26, i27⟩ := ri
    rw [i10] at i26
    rw [i12] at i27
    rw [i10, i12] at M
    refine ⟨_, _, _, X, M, ?_⟩
    have b1 : h.1 2 1 - 48 ≤ 9 := by
      have f := ffr_none ff 1 (by omega)
      rw [fitP_1 (.inl rfl)] at f
      have := of_decide_eq_true f
      omega
    have b2 : h.1 2 2 - 48 ≤ 9 := by
      have f := ffr_none ff 2 (by omega)
      rw [fitP_1 (.inr rfl)] at f
      have := of_decide_eq_true f
      omega
    have g22 : ∀ o, o ≠ 3 ∧ o ≠ 8 ∧ o ≠ 9 ∧ o ≠ 10 ∧ o ≠ 12 → g.1 22 o = h.1 22 o := fun o w => by rw [rd.2.2 o w.1 w.2.1 w.2.2.1 w.2.2.2.1 w.2.2.2.2, lo 22 (by decide)]
    have gl : ∀ q, q ≠ 22 ∧ q ≠ 26 ∧ q ≠ 27 → g.1 q = (tlkH h).1 q := fun q w => rd.2.1 q w.1 w.2.1 w.2.2
    have eF : tkF g = sR (sR (sR (sR (sR (tkN g) 24 (tk24 g (3 * g.1 22 10))) 25 (tk25 g (3 * g.1 22 12))) 28 (layR (g.1 22 8) (g.1 22 9) (g.1 22 10))) 22 (up ((tkN g).1 22) 17 0)) 32 (up (up (g.1 32) 0 0) 1 0) := rfl
    generalize tkF g = e at eF ⊢
    have z : e.2 = h.2 := by rw [eF]; exact rd.1.trans lz
    have r : ∀ q, q < 100 ∧ q ≠ 3 ∧ q ≠ 4 ∧ q ≠ 7 ∧ q ≠ 10 ∧ q ≠ 14 ∧ q ≠ 22 ∧ q ≠ 24 ∧ q ≠ 25 ∧ q ≠ 26 ∧ q ≠ 27 ∧ q ≠ 28 ∧ q ≠ 32 → e.1 q = h.1 q := fun q w => by rw [eF, sR_n (by omega), sR_n (by omega), sR_n (by omega), sR_n (by omega), sR_n (by omega), tkN_o (by omega), gl q (by omega), lo q (by omega)]
    have r2 : ∀ q, q = 3 ∨ q = 4 ∨ q = 7 ∨ q = 10 ∨ q = 14 → e.1 q = (tlkH h).1 q := fun q w => by rw [eF, sR_n (by omega), sR_n (by omega), sR_n (by omega), sR_n (by omega), sR_n (by omega), tkN_o (by omega), gl q (by omega)]
    have p : ∀ o, o ≠ 3 ∧ o ≠ 8 ∧ o ≠ 9 ∧ o ≠ 10 ∧ o ≠ 12 ∧ o ≠ 4 ∧ o ≠ 6 ∧ o ≠ 17 → e.1 22 o = h.1 22 o := fun o w => by rw [eF, sR_n (by decide), sR_s, up_n (by omega), tkN_22 (by omega) (by omega), g22 o (by omega)]
    have p4 : e.1 22 4 = T.1 3 2 := by rw [eF, sR_n (by decide), sR_s, up_n (by decide), tkN_4, i10]
    have p6 : e.1 22 6 = T.1 3 3 := by rw [eF, sR_n (by decide), sR_s, up_n (by decide), tkN_6, i12]
    have p17 : e.1 22 17 = 0 := by rw [eF, sR_n (by decide), sR_s, up_s]
    have tt : ∀ i, e.1 (tr i) = (tlkH h).1 (tr i) := fun i => by rw [eF, sR_tl (by decide), sR_tl (by decide), sR_tl (by decide), sR_tl (by decide), sR_tl (by decide), tkN_o (by unfold tr; omega), gl _ (by unfold tr; omega)]
    have t : ∀ i, i ≠ 0 → e.1 (tr i) = h.1 (tr i) := fun i w => by rw [tt, lti i w]
    have t0 : e.1 (tr 0) = layR (h.1 2 1 - 48) (h.1 2 2 - 48) (T.1 3 2) := by rw [tt, lt0]
    have r28 : e.1 28 = layR (h.1 2 1 - 48) (h.1 2 2 - 48) (T.1 3 2) := by rw [eF, sR_n (by decide), sR_n (by decide), sR_s, i8, i9, i10]
    have r24 : e.1 24 = T.1 4 := by
      rw [eF, sR_n (by decide), sR_n (by decide), sR_n (by decide), sR_n (by decide), sR_s, i10]
      funext j
      unfold tk24
      split
      · rename_i w; exact i26 j w
      · rename_i w; rw [gl 24 (by decide), lo 24 (by decide), ← I.E, a4 j (by omega)]
    have r25 : e.1 25 = T.1 7 := by
      rw [eF, sR_n (by decide), sR_n (by decide), sR_n (by decide), sR_s, i12]
      funext j
      unfold tk25
      split
      · rename_i w; exact i27 j w
      · rename_i w; rw [gl 25 (by decide), lo 25 (by decide), ← I.C, a7 j (by omega)]
    have r32 : e.1 32 = up (up (h.1 32) 0 0) 1 0 := by rw [eF, sR_s, gl 32 (by decide), lo 32 (by decide)]
    have hTI := TI_lay b1 b2 hx2.1
    have ti : ∀ i, TI (e.1 (tr i)) := fun i => by
      by_cases q : i = 0
      · rw [q, t0]; exact hTI
      · rw [t i q]; exact I.x.2.2.2.2.2.2 i
    have t8 : TI (e.1 28) := by rw [r28]; exact hTI
    have t9 : TI (e.1 29) := by rw [r 29 (by decide)]; exact I.m.2.2.2.2.2.2.2
    obtain ⟨y1, y2, y3, y4, y5, y6, -⟩ := hx2
    refine ⟨?_, ?_, ?_, ?_, ?_, ?_, ?_, ?_, ?_, ?_, ?_, ?_, ?_, ?_, ?_, ?_, ?_, ?_, ?_, ?_, ?_, ?_, ?_, ?_, ?_, ?_, ?_, ?_, ?_⟩
    · unfold XI
      rw [r2 3 (by decide), r2 4 (by decide), r2 7 (by decide), l3, l4, l7]
      exact ⟨y1, y2, y3, y4, y5, y6, ti⟩
    · unfold MI
      rw [p4, p6, r24, r25]
      exact ⟨y1, y2, y3, y4, y5, y6, t8, t9⟩
    · rw [p 0 (by decide)]; exact I.t0
    · rw [r 2 (by decide), r 23 (by decide)]; exact I.tx
    · rw [r 1 (by decide), p 2 (by decide)]; exact I.tl
    · rw [p 2 (by decide)]; exact I.tl2
    · rw [r 23 (by decide)]; exact I.by2
    · rw [r2 3 (by decide), l3, p4]
    · rw [r2 3 (by decide), l3, p6]
    · rw [r2 4 (by decide), l4, r24]
    · rw [r2 7 (by decide), l7, r25]
    · rw [t0, r28]
    · rw [r2 10 (by decide), l10, p17, up_s]
    · rw [p17]; omega
    · rw [r2 10 (by decide), l10, up_n (by decide), up_s]; decide
    · intro i hi j hj
      rw [p17] at hi
      exact absurd hi (by omega)
    · rw [r2 14 (by decide), l14, r32, I.u]
    · intro j
      rw [r32]
      simp only [up]
      split
      · decide
      · split
        · decide
        · exact I.u2 j
    · intro b hb hz j hj
      rw [r32] at hz
      simp only [up] at hz
      exfalso
      split at hz
      · exact hz rfl
      · rw [if_pos (by omega)] at hz; exact hz rfl
    · rw [r 15 (by decide), p 20 (by decide)]; exact I.s
    · rw [p 20 (by decide)]; exact I.s2
    · rw [r 16 (by decide), r 33 (by decide)]; exact I.sk
    · rw [r 17 (by decide), r 34 (by decide)]; exact I.sh
    · rw [r 18 (by decide), r 35 (by decide)]; exact I.sq
    · rw [r 33 (by decide)]; exact I.sk2
    · rw [r 34 (by decide)]; exact I.sh2
    · rw [r 35 (by decide)]; exact I.sq2
    · rw [z]; exact I.sd
    · intro i h1_ h2
      by_cases w : i = 0
      · rw [w, t0]; exact b2
      · rw [t i w]; exact I.st i h1_ h2
  · obtain ⟨g, M, rd⟩ := c_X9_talk_no (V := V) (h := h) I.t0 I.by2 I.tl2 (by rw [← I.tx, ← I.tl]; exact fi)
    exact ⟨_, _, _, c_X8_talk_no hB (by omega) fi, M, Inv_Sc I (Sc_Rd I rd)⟩
end Ops4
