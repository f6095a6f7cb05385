/-! both sides say the same: the rest of what asks, and what changes -/
theorem jdS_lt {E : Nat → Nat} {n m : Nat} {C T : Nat → Nat} {a k q : Nat} : ∀ z, jdS E n m C T a k z = some q → q < z
  | 0, h => by cases h
  | z + 1, h => by
    cases hy : jdS E n m C T a k z with
    | some w => simp only [jdS, hy] at h; cases h; have := jdS_lt z hy; omega
    | none =>
      simp only [jdS, hy] at h
      split at h
      · cases h
      · cases h; omega
theorem jdK_le {E : Nat → Nat} {n m : Nat} {C T : Nat → Nat} {a k : Nat} : jdK E n m C T a k ≤ k := by
  unfold jdK
  cases hy : jdS E n m C T a k k with
  | some w => exact jdS_lt k hy
  | none => exact Nat.le_refl _
theorem TI_jd {E : Nat → Nat} {n m : Nat} {C T : Nat → Nat} {a k : Nat} (hT : TI T) (hE : ∀ j, E j ≤ 9) (hn : n ≤ 4) (hr : rowB a k = true) : ∀ p, p ≤ k → TI (jdT E n m C T a k p)
  | 0, _ => hT
  | p + 1, hp => TI_turn (TI_jd hT hE hn hr p (by omega)) hE hn (by have := rowB_at hr (i := k - 1 - p) (by omega); unfold fig; omega)
theorem bite1_8 {E T : Nat → Nat} {e : Nat} (he : e < 4) : bite1 E e T 8 = T 8 := bite1_o (by decide) (by omega)
theorem biteN_8 {E T : Nat → Nat} : ∀ e, e ≤ 4 → biteN E T e 8 = T 8
  | 0, _ => rfl
  | e + 1, he => (bite1_8 (by omega)).trans (biteN_8 e (by omega))
theorem bite_8 {E T : Nat → Nat} {n : Nat} (hn : n ≤ 4) : bite E n T 8 = T 8 := by
  unfold bite
  rw [up_n (by decide), up_n (by decide)]; exact biteN_8 n hn
theorem wr_same {C : Nat → Nat} {b b' : Nat} : ∀ m, (∀ j, j < m → bt b' j = bt b j) → wrths C b' m = wrths C b m
  | 0, _ => rfl
  | m + 1, h => by
    show (if bt b' m = 0 then wrths C b' m else wrths C b' m + wrth C m) = if bt b m = 0 then wrths C b m else wrths C b m + wrth C m
    rw [h m (by omega), wr_same m (fun j hj => h j (by omega))]
theorem wr_set {C : Nat → Nat} {b b' c : Nat} (h0 : bt b c = 0) (h1 : bt b' c = 1) : ∀ m, c < m → (∀ j, j < m → j ≠ c → bt b' j = bt b j) → wrths C b' m = wrths C b m + wrth C c
  | m + 1, hc, h => by
    show (if bt b' m = 0 then wrths C b' m else wrths C b' m + wrth C m) = (if bt b m = 0 then wrths C b m else wrths C b m + wrth C m) + wrth C c
    by_cases q : c = m
    · subst q
      rw [if_neg (by omega), if_pos h0, wr_same c (fun j hj => h j (by omega) (by omega))]
    · rw [h m (by omega) (by omega), wr_set h0 h1 m (by omega) (fun j hj hn => h j (by omega) hn)]
      split <;> omega
theorem bits1a : ∀ b, b < 32 → ∀ t, t < 32 → ∀ c, c < 5 → bt b c = 0 → bt (b &&& (t ^^^ 4294967295)) c = 0 := by decide +kernel
theorem bits1b : ∀ b, b < 32 → ∀ t, t < 32 → ∀ c, c < 5 → bt t c = 0 → bt ((b ||| 1 * 2 ^ c) &&& (t ^^^ 4294967295)) c = 1 := by decide +kernel
theorem bits1c : ∀ b, b < 32 → ∀ t, t < 32 → ∀ c, c < 5 → ∀ j, j < 5 → j ≠ c → bt ((b ||| 1 * 2 ^ c) &&& (t ^^^ 4294967295)) j = bt (b &&& (t ^^^ 4294967295)) j := by decide +kernel
theorem bits2 : ∀ b, b < 32 → ∀ c, c < 5 → ∀ j, j < 5 → ¬ bt b j = 0 → ¬ bt (b ||| 1 * 2 ^ c) j = 0 := by decide +kernel
theorem bits3 : ∀ t, t < 32 → t &&& (t ^^^ 4294967295) = 0 := by decide +kernel
theorem wr_0 {C : Nat → Nat} : ∀ m, wrths C 0 m = 0
  | 0 => rfl
  | m + 1 => by
    show (if bt 0 m = 0 then wrths C 0 m else wrths C 0 m + wrth C m) = 0
    rw [if_pos (by unfold bt; rw [Nat.zero_div]; rfl)]; exact wr_0 m
theorem tkW_st {E C R : Nat → Nat} {n m t w d : Nat} (ht : t < 32) (hR : R 8 < 32) (hn : n ≤ 4) (hm : m ≤ 5) (i1 : w = wrths C (R 8 &&& (t ^^^ 4294967295)) m) (i2 : ∀ j, j < 5 → ¬ bt t j = 0 → ¬ bt (R 8) j = 0) : (if d < 5 then (if turnC m C R (d + 1) then w + wrth C d else w) else w) = wrths C (drwX E n m C R d 8 &&& (t ^^^ 4294967295)) m ∧ ∀ j, j < 5 → ¬ bt t j = 0 → ¬ bt (drwX E n m C R d 8) j = 0 := by
  by_cases d5 : d < 5
  · rw [if_pos d5]
    have ed : drwX E n m C R d = turnX E n m C R (d + 1) := by
      unfold drwX
      rw [if_neg (by omega), if_neg (by omega)]
    rw [ed]
    unfold turnX
    have ec : turnC m C R (d + 1) = canB m C R d := by
      unfold turnC
      rw [if_neg (by omega), if_neg (by omega), if_neg (by omega), Nat.add_sub_cancel]
    have er : turnR E n R (d + 1) = bindR R d := by
      unfold turnR
      rw [if_neg (by omega), if_neg (by omega), if_neg (by omega), Nat.add_sub_cancel]
    rw [ec, er]
    by_cases q : canB m C R d = true
    · rw [if_pos q, if_pos q]
      have w2 := of_decide_eq_true q
      have e8 : bindR R d 8 = R 8 ||| 1 * 2 ^ d := up_s _ _ _
      rw [e8]
      have t0 : bt t d = 0 := Decidable.not_not.mp (fun q => i2 d d5 q w2.2.1)
      refine ⟨?_, fun j hj hz => bits2 _ hR d d5 j hj (i2 j hj hz)⟩
      rw [wr_set (bits1a _ hR t ht d d5 w2.2.1) (bits1b _ hR t ht d d5 t0) m w2.1 (fun j hj hne => bits1c _ hR t ht d d5 j (by omega) hne), i1]
    · rw [if_neg q, if_neg q]
      exact ⟨i1, i2⟩
  · rw [if_neg d5]
    have e8 : drwX E n m C R d 8 = R 8 := by
      unfold drwX
      by_cases q : 5 < d
      · rw [if_pos q]; exact bite_8 hn
      · rw [if_neg q, if_pos (by omega)]
        unfold turnX
        split
        · have er : turnR E n R 6 = seedR R := rfl
          rw [er]
          unfold seedR
          rw [up_n (by decide), up_n (by decide)]
        · rfl
    rw [e8]; exact ⟨i1, i2⟩
theorem tkW_s {E C T : Nat → Nat} {n m : Nat} {s : Int64} {k : Nat} : tkW E n m C T s (k + 1) = if drw (sdN s (k + 1)) < 5 then (if turnC m C (tkT E n m C T s k) (drw (sdN s (k + 1)) + 1) then tkW E n m C T s k + wrth C (drw (sdN s (k + 1))) else tkW E n m C T s k) else tkW E n m C T s k := rfl
theorem tkT_s {E C T : Nat → Nat} {n m : Nat} {s : Int64} {k : Nat} : tkT E n m C T s (k + 1) = drwX E n m C (tkT E n m C T s k) (drw (sdN s (k + 1))) := rfl
theorem tkW_ok {E C T : Nat → Nat} {n m : Nat} {s : Int64} (hT : TI T) (h1 : T 1 ≤ 9) (hE : ∀ j, E j ≤ 9) (hn : n ≤ 4) (hm : m ≤ 5) (k : Nat) : tkW E n m C T s k = wrths C (tkT E n m C T s k 8 &&& (T 8 ^^^ 4294967295)) m ∧ ∀ j, j < 5 → ¬ bt (T 8) j = 0 → ¬ bt (tkT E n m C T s k 8) j = 0 := by
  induction k with
  | zero =>
    refine ⟨?_, fun j _ h => h⟩
    rw [show tkW E n m C T s 0 = 0 from rfl, show tkT E n m C T s 0 = T from rfl, bits3 _ hT.2.2.2.2.1, wr_0]
  | succ k ih =>
    have ok := tkT_ok (C := C) (m := m) (s := s) hT h1 hE hn k
    rw [tkW_s, tkT_s]
    exact tkW_st hT.2.2.2.2.1 ok.1.2.2.2.2.1 hn hm ih.1 ih.2
section Ops2
variable {V : Vt} {h : Hp}
theorem op_judge (I : Inv h) {n a : Nat} (hn : n < 2 ^ 32) (ha : a < 2 ^ 32) : Op V h [.int (nI n), .int (nI a)] 6 5 yX8_judge cX8_judge 5 yX9_judge cX9_judge 4 := by
  by_cases q : 1 ≤ n ∧ n ≤ 6 ∧ a < 10 ^ n ∧ rowB a n = true
  · have hT := I.x.2.2.2.2.2.2 0
    have hs := I.st 0 (by decide) (by decide)
    have S := Sc_1 I (TI_jd (m := h.1 3 3) (C := h.1 7) hT I.x.2.2.1 I.x.1 q.2.2.2 _ (jdK_le (E := h.1 4) (n := h.1 3 2) (m := h.1 3 3) (C := h.1 7) (T := h.1 (tr 0)) (a := a)))
    have J := Inv_Sc I S
    have M := c_X9_judge_ok (V := V) J.t0 J.m (by rw [q_P I S]; exact hs) q.1 q.2.1 q.2.2.1 q.2.2.2
    rw [q_E I S, q_n I S, q_P I S, q_c I S, q_C I S] at M
    exact ⟨_, _, _, c_X8_judge_ok I.x hs q.1 q.2.1 q.2.2.1 q.2.2.2, M, Inv_Sc J (Sc_29 J (TI_jd hT I.x.2.2.1 I.x.1 q.2.2.2 _ jdK_le))⟩
  · exact ⟨_, _, _, c_X8_judge_bad hn ha q, c_X9_judge_bad I.t0 hn ha q, I⟩
theorem op_share (I : Inv h) {a u : Nat} (ha : a < 2 ^ 32) (hu : u < 2) : Op V h [.int (nI a), .int (nI u)] 12 5 yX8_share cX8_share 8 yX9_share cX9_share 6 := by
  by_cases q : a < h.1 3 2
  · have S := Sc_KpS I (shF_kp I.x (h.1 7) (h.1 3 3) a (1 * 2 ^ h.1 3 2))
    have J := Inv_Sc I S
    have M := c_X9_share_ok (V := V) (a := a) J.t0 J.m (by rw [q_n I S]; exact q) hu
    rw [q_E I S, q_n I S, q_P I S, q_c I S, q_C I S] at M
    exact ⟨_, _, _, c_X8_share_ok I.x q hu, M, Inv_Sc J (Sc_KpM J (shM_kp J.m _))⟩
  · exact ⟨_, _, _, c_X8_share_u I.x ha q, c_X9_share_u I.t0 I.m ha (I.n ▸ q), I⟩
theorem op_palates (I : Inv h) {k : Nat} (hk : k < 2 ^ 32) : Op V h [.int (nI k)] 4 2 yX8_palates cX8_palates 2 yX9_palates cX9_palates 6 := by
  by_cases q : k ≤ 3
  · have X := c_X8_palates_ok (V := V) (h := h) (k := k) (by rw [I.s]; exact I.s2) (by rw [I.sk]; exact I.sk2) (by rw [I.sh]; exact I.sh2) (by rw [I.sq]; exact I.sq2) q
    rw [I.s, I.sk, I.sh, I.sq] at X
    exact ⟨_, _, _, X, c_X9_palates_ok I.t0 I.s2 I.sk2 I.sh2 I.sq2 q, I⟩
  · exact ⟨_, _, _, c_X8_palates_bad hk q, c_X9_palates_bad I.t0 hk q, I⟩
theorem op_rests (I : Inv h) {e o w : Nat} (he : e < 2 ^ 32) (ho : o < 2 ^ 32) (hw : w < 2 ^ 32) : Op V h [.int (nI e), .int (nI o), .int (nI w)] 6 5 yX8_rests cX8_rests 4 yX9_rests cX9_rests 4 := by
  by_cases q : e < h.1 3 2 ∧ o < h.1 3 2
  · by_cases b : e = o ∨ ¬ w ≤ 1
    · exact ⟨_, _, _, c_X8_rests_bad I.x q.1 q.2 hw b, c_X9_rests_bad I.t0 I.m (I.n ▸ q.1) (I.n ▸ q.2) hw b, I⟩
    · have b1 : w ≤ 1 := Decidable.not_not.mp (fun z => b (.inr z))
      have b2 : ¬ e = o := fun z => b (.inl z)
      have S := Sc_lo I (q := 21) (f := up (up (h.1 21) 1 (stp (h.1 4) e o (h.1 (tr 0) 0) 25).1) 2 (stp (h.1 4) e o (h.1 (tr 0) 0) 25).2) (by omega)
      have J := Inv_Sc I S
      have M := c_X9_rests_ok (V := V) (e := e) (o := o) J.t0 J.m (by rw [q_n I S]; exact q.1) (by rw [q_n I S]; exact q.2) b1 b2
      rw [q_E I S, q_P I S] at M
      exact ⟨_, _, _, c_X8_rests_ok I.x q.1 q.2 b1 b2, M, Inv_Sc J (Sc_22 J)⟩
  · exact ⟨_, _, _, c_X8_rests_u I.x he ho q, c_X9_rests_u I.t0 I.m he ho (I.n ▸ q), I⟩
theorem op_chance (I : Inv h) {a n x u : Nat} (ha : a < 2 ^ 32) (hn : n < 2 ^ 32) (hx : x < 2 ^ 32) (hu : u < 2) : Op V h [.int (nI a), .int (nI n), .int (nI x), .int (nI u)] 4 3 yX8_chance cX8_chance 7 yX9_chance cX9_chance 10 := by
  by_cases q : a < h.1 3 2
  · by_cases b : 1 ≤ n ∧ n ≤ 6 ∧ x ≤ 10
    · have X := c_X8_chance_ok (V := V) (a := a) I.x q b.1 b.2.1 b.2.2 hu
      rw [I.E, I.P] at X
      exact ⟨_, _, _, X, c_X9_chance_ok I.t0 I.m (I.n ▸ q) b.1 b.2.1 b.2.2 hu, I⟩
    · exact ⟨_, _, _, c_X8_chance_bad I.x q hn hx b, c_X9_chance_bad I.t0 I.m (I.n ▸ q) hn hx b, I⟩
  · exact ⟨_, _, _, c_X8_chance_u I.x ha q, c_X9_chance_u I.t0 I.m ha (I.n ▸ q), I⟩
theorem op_write (I : Inv h) {a : Nat} (ha : a < 2 ^ 32) : Op V h [.int (nI a)] 2 2 yX8_write cX8_write 2 yX9_write cX9_write 2 := by
  have hl := I.tl
  have hl2 := I.tl2
  by_cases q : a ≤ 255
  · by_cases w : h.1 22 2 = 48
    · exact ⟨_, _, _, c_X8_write_full q (by omega), c_X9_write_full I.t0 q w, I⟩
    · have X := c_X8_write_ok (V := V) (h := h) q (by omega)
      have M := c_X9_write_ok (V := V) (h := sR (sR h 2 (up (h.1 2) (h.1 1 0) a)) 1 (up (h.1 1) 0 (h.1 1 0 + 1))) (a := a) (by rw [sR_n (by decide), sR_n (by decide)]; exact I.t0) q (by rw [sR_n (by decide), sR_n (by decide)]; omega)
      rw [hl] at X M
      refine ⟨_, _, _, X, M, ?_⟩
      generalize hg1 : sR (sR h 2 (up (h.1 2) (h.1 22 2) a)) 1 (up (h.1 1) 0 (h.1 22 2 + 1)) = g1
      have e22 : g1.1 22 = h.1 22 := by rw [← hg1, sR_n (by decide), sR_n (by decide)]
      have e23 : g1.1 23 = h.1 23 := by rw [← hg1, sR_n (by decide), sR_n (by decide)]
      rw [e22, e23]
      generalize hg : sR (sR g1 23 (up (h.1 23) (h.1 22 2) a)) 22 (up (h.1 22) 2 (h.1 22 2 + 1)) = g
      have z : g.2 = h.2 := by rw [← hg, ← hg1]; rfl
      have r : ∀ q, q < 100 ∧ q ≠ 1 ∧ q ≠ 2 ∧ q ≠ 22 ∧ q ≠ 23 → g.1 q = h.1 q := fun q w => by rw [← hg, ← hg1, sR_n (by omega), sR_n (by omega), sR_n (by omega), sR_n (by omega)]
      have p : ∀ o, o ≠ 2 → g.1 22 o = h.1 22 o := fun o w => by rw [← hg, sR_s, up_n w]
      have t : ∀ i, 0 ≤ i → g.1 (tr i) = h.1 (tr i) := fun i _ => by rw [← hg, ← hg1, sR_tl (by decide), sR_tl (by decide), sR_tl (by decide), sR_tl (by decide)]
      have ti : ∀ i, TI (g.1 (tr i)) := fun i => by rw [t i (by omega)]; exact I.x.2.2.2.2.2.2 i
      have t8 : TI (g.1 28) := by rw [r 28 (by decide)]; exact I.m.2.2.2.2.2.2.1
      have t9 : TI (g.1 29) := by rw [r 29 (by decide)]; exact I.m.2.2.2.2.2.2.2
      have r1 : g.1 1 = up (h.1 1) 0 (h.1 22 2 + 1) := by rw [← hg, ← hg1, sR_n (by decide), sR_n (by decide), sR_s]
      have r2 : g.1 2 = up (h.1 2) (h.1 22 2) a := by rw [← hg, ← hg1, sR_n (by decide), sR_n (by decide), sR_n (by decide), sR_s]
      have r23 : g.1 23 = up (h.1 23) (h.1 22 2) a := by rw [← hg, sR_n (by decide), sR_s]
      have p2 : g.1 22 2 = h.1 22 2 + 1 := by rw [← hg, sR_s, up_s]
      refine ⟨?_, ?_, ?_, ?_, ?_, ?_, ?_, ?_, ?_, ?_, ?_, ?_, ?_, ?_, ?_, ?_, ?_, ?_, ?_, ?_, ?_, ?_, ?_, ?_, ?_, ?_, ?_, ?_, ?_⟩
      · obtain ⟨a1, a2, a3, a4, a5, a6, a7⟩ := id I.x
        unfold XI
        rw [r 3 (by decide), r 4 (by decide), r 7 (by decide)]
        exact ⟨a1, a2, a3, a4, a5, a6, ti⟩
      · obtain ⟨a1, a2, a3, a4, a5, a6, a7, a8⟩ := id I.m
        unfold MI
        rw [p 4 (by decide), p 6 (by decide), r 24 (by decide), r 25 (by decide)]
        exact ⟨a1, a2, a3, a4, a5, a6, t8, t9⟩
      · rw [p 0 (by decide)]; exact I.t0
      · rw [r2, r23, I.tx]
      · rw [r1, p2, up_s]
      · rw [p2]; omega
      · intro j
        rw [r23]
        unfold up
        split
        · exact q
        · exact I.by2 j
      · rw [r 3 (by decide), p 4 (by decide)]; exact I.n
      · rw [r 3 (by decide), p 6 (by decide)]; exact I.c
      · rw [r 4 (by decide), r 24 (by decide)]; exact I.E
      · rw [r 7 (by decide), r 25 (by decide)]; exact I.C
      · rw [t 0 (by omega), r 28 (by decide)]; exact I.P
      · rw [r 10 (by decide), p 17 (by decide)]; exact I.a
      · rw [p 17 (by decide)]; exact I.a2
      · rw [r 10 (by decide)]; exact I.o
      · rw [p 17 (by decide), r 10 (by decide), r 30 (by decide)]
        intro i hi j hj
        rw [t _ (by omega)]; exact I.bk i hi j hj
      · rw [r 14 (by decide), r 32 (by decide)]; exact I.u
      · rw [r 32 (by decide)]; exact I.u2
      · rw [r 32 (by decide), r 31 (by decide)]
        intro a ha hz j hj
        rw [t _ (by omega)]; exact I.kp a ha hz j hj
      · rw [r 15 (by decide), p 20 (by decide)]; exact I.s
      · rw [p 20 (by decide)]; exact I.s2
      · rw [r 16 (by decide), r 33 (by decide)]; exact I.sk
      · rw [r 17 (by decide), r 34 (by decide)]; exact I.sh
      · rw [r 18 (by decide), r 35 (by decide)]; exact I.sq
      · rw [r 33 (by decide)]; exact I.sk2
      · rw [r 34 (by decide)]; exact I.sh2
      · rw [r 35 (by decide)]; exact I.sq2
      · rw [z]; exact I.sd
      · intro i h1 h2
        rw [t i (by omega)]; exact I.st i h1 h2
  · exact ⟨_, _, _, c_X8_write_bad q ha, c_X9_write_bad I.t0 q ha, I⟩
theorem op_wipe (I : Inv h) : Op V h [] 1 1 yX8_wipe cX8_wipe 2 yX9_wipe cX9_wipe 2 := by
  have X := c_X8_wipe (V := V) (h := h)
  have M := c_X9_wipe (V := V) (h := sR h 1 (up (h.1 1) 0 0)) (by rw [sR_n (by decide)]; exact I.t0)
  rw [sR_n (show 22 ≠ 1 by decide)] at M
  rw [I.tl] at X
  refine ⟨_, _, _, X, M, ?_⟩
  generalize hg : sR (sR h 1 (up (h.1 1) 0 0)) 22 (up (h.1 22) 2 0) = g
  have z : g.2 = h.2 := by rw [← hg]; rfl
  have r : ∀ q, q < 100 ∧ q ≠ 1 ∧ q ≠ 22 → g.1 q = h.1 q := fun q w => by rw [← hg, sR_n (by omega), sR_n (by omega)]
  have p : ∀ o, o ≠ 2 → g.1 22 o = h.1 22 o := fun o w => by rw [← hg, sR_s, up_n w]
  have t : ∀ i, 0 ≤ i → g.1 (tr i) = h.1 (tr i) := fun i _ => by rw [← hg, sR_tl (by decide), sR_tl (by decide)]
  have ti : ∀ i, TI (g.1 (tr i)) := fun i => by rw [t i (by omega)]; exact I.x.2.2.2.2.2.2 i
  have t8 : TI (g.1 28) := by rw [r 28 (by decide)]; exact I.m.2.2.2.2.2.2.1
  have t9 : TI (g.1 29) := by rw [r 29 (by decide)]; exact I.m.2.2.2.2.2.2.2
  have r1 : g.1 1 = up (h.1 1) 0 0 := by rw [← hg, sR_n (by decide), sR_s]
  have p2 : g.1 22 2 = 0 := by rw [← hg, sR_s, up_s]
  refine ⟨?_, ?_, ?_, ?_, ?_, ?_, ?_, ?_, ?_, ?_, ?_, ?_, ?_, ?_, ?_, ?_, ?_, ?_, ?_, ?_, ?_, ?_, ?_, ?_, ?_, ?_, ?_, ?_, ?_⟩
  · obtain ⟨a1, a2, a3, a4, a5, a6, a7⟩ := id I.x
    unfold XI
    rw [r 3 (by decide), r 4 (by decide), r 7 (by decide)]
    exact ⟨a1, a2, a3, a4, a5, a6, ti⟩
  · obtain ⟨a1, a2, a3, a4, a5, a6, a7, a8⟩ := id I.m
    unfold MI
    rw [p 4 (by decide), p 6 (by decide), r 24 (by decide), r 25 (by decide)]
    exact ⟨a1, a2, a3, a4, a5, a6, t8, t9⟩
  · rw [p 0 (by decide)]; exact I.t0
  · rw [r 2 (by decide), r 23 (by decide)]; exact I.tx
  · rw [r1, p2, up_s]
  · rw [p2]; omega
  · rw [r 23 (by decide)]; exact I.by2
  · rw [r 3 (by decide), p 4 (by decide)]; exact I.n
  · rw [r 3 (by decide), p 6 (by decide)]; exact I.c
  · rw [r 4 (by decide), r 24 (by decide)]; exact I.E
  · rw [r 7 (by decide), r 25 (by decide)]; exact I.C
  · rw [t 0 (by omega), r 28 (by decide)]; exact I.P
  · rw [r 10 (by decide), p 17 (by decide)]; exact I.a
  · rw [p 17 (by decide)]; exact I.a2
  · rw [r 10 (by decide)]; exact I.o
  · rw [p 17 (by decide), r 10 (by decide), r 30 (by decide)]
    intro i hi j hj
    rw [t _ (by omega)]; exact I.bk i hi j hj
  · rw [r 14 (by decide), r 32 (by decide)]; exact I.u
  · rw [r 32 (by decide)]; exact I.u2
  · rw [r 32 (by decide), r 31 (by decide)]
    intro a ha hz j hj
    rw [t _ (by omega)]; exact I.kp a ha hz j hj
  · rw [r 15 (by decide), p 20 (by decide)]; exact I.s
  · rw [p 20 (by decide)]; exact I.s2
  · rw [r 16 (by decide), r 33 (by decide)]; exact I.sk
  · rw [r 17 (by decide), r 34 (by decide)]; exact I.sh
  · rw [r 18 (by decide), r 35 (by decide)]; exact I.sq
  · rw [r 33 (by decide)]; exact I.sk2
  · rw [r 34 (by decide)]; exact I.sh2
  · rw [r 35 (by decide)]; exact I.sq2
  · rw [z]; exact I.sd
  · intro i h1 h2
    rw [t i (by omega)]; exact I.st i h1 h2
theorem op_see (I : Inv h) {k w5 q : Nat} (hk : k < 2 ^ 32) (ht : w5 < 2 ^ 32) (hq : q < 2 ^ 32) : Op V h [.int (nI k), .int (nI w5), .int (nI q)] 2 2 yX8_see cX8_see 4 yX9_see cX9_see 4 := by
  have s1 := I.s
  have s2 := I.s2
  by_cases b : k ≤ 3 ∧ w5 ≤ 9 ∧ q ≤ 10
  · by_cases w : h.1 22 20 = 6
    · exact ⟨_, _, _, c_X8_see_full b.1 b.2.1 b.2.2 (by omega), c_X9_see_full I.t0 b.1 b.2.1 b.2.2 w, I⟩
    · have X := c_X8_see_ok (V := V) (h := h) b.1 b.2.1 b.2.2 (by omega)
      have e22 : (seeH h k w5 q).1 22 = h.1 22 := by unfold seeH; rw [sR_n (by decide), sR_n (by decide), sR_n (by decide), sR_n (by decide)]
      have M := c_X9_see_ok (V := V) (h := seeH h k w5 q) (k := k) (t := w5) (q := q) (by rw [e22]; exact I.t0) b.1 b.2.1 b.2.2 (by rw [e22]; omega)
      rw [e22] at M
      rw [s1] at X
      refine ⟨_, _, _, X, M, ?_⟩
      have e33 : (seeH h k w5 q).1 33 = h.1 33 := by unfold seeH; rw [sR_n (by decide), sR_n (by decide), sR_n (by decide), sR_n (by decide)]
      have e34 : (seeH h k w5 q).1 34 = h.1 34 := by unfold seeH; rw [sR_n (by decide), sR_n (by decide), sR_n (by decide), sR_n (by decide)]
      have e35 : (seeH h k w5 q).1 35 = h.1 35 := by unfold seeH; rw [sR_n (by decide), sR_n (by decide), sR_n (by decide), sR_n (by decide)]
      unfold seeM
      rw [e22, e33, e34, e35]
      unfold seeH
      rw [s1]
      generalize hg : sR (sR (sR (sR (sR (sR (sR (sR h 16 (up (h.1 16) (h.1 22 20) k)) 17 (up (h.1 17) (h.1 22 20) w5)) 18 (up (h.1 18) (h.1 22 20) q)) 15 (up (h.1 15) 3 (h.1 22 20 + 1))) 33 (up (h.1 33) (h.1 22 20) k)) 34 (up (h.1 34) (h.1 22 20) w5)) 35 (up (h.1 35) (h.1 22 20) q)) 22 (up (h.1 22) 20 (h.1 22 20 + 1)) = g
      have z : g.2 = h.2 := by rw [← hg]; rfl
      have r : ∀ q, q < 100 ∧ q ≠ 15 ∧ q ≠ 16 ∧ q ≠ 17 ∧ q ≠ 18 ∧ q ≠ 22 ∧ q ≠ 33 ∧ q ≠ 34 ∧ q ≠ 35 → g.1 q = h.1 q := fun q w => by rw [← hg, sR_n (by omega), sR_n (by omega), sR_n (by omega), sR_n (by omega), sR_n (by omega), sR_n (by omega), sR_n (by omega), sR_n (by omega)]
      have p : ∀ o, o ≠ 20 → g.1 22 o = h.1 22 o := fun o w => by rw [← hg, sR_s, up_n w]
      have t : ∀ i, 0 ≤ i → g.1 (tr i) = h.1 (tr i) := fun i _ => by rw [← hg, sR_tl (by decide), sR_tl (by decide), sR_tl (by decide), sR_tl (by decide), sR_tl (by decide), sR_tl (by decide), sR_tl (by decide), sR_tl (by decide)]
      have ti : ∀ i, TI (g.1 (tr i)) := fun i => by rw [t i (by omega)]; exact I.x.2.2.2.2.2.2 i
      have t8 : TI (g.1 28) := by rw [r 28 (by decide)]; exact I.m.2.2.2.2.2.2.1
      have t9 : TI (g.1 29) := by rw [r 29 (by decide)]; exact I.m.2.2.2.2.2.2.2
      have upb : ∀ {f : Nat → Nat} {o v B : Nat}, v ≤ B → (∀ j, f j ≤ B) → ∀ j, up f o v j ≤ B := fun h1 h2 j => by
        unfold up
        split
        · exact h1
        · exact h2 j
      have k15 : g.1 15 3 = h.1 22 20 + 1 := by rw [← hg, sR_n (by decide), sR_n (by decide), sR_n (by decide), sR_n (by decide), sR_s, up_s]
      have k16 : g.1 16 = up (h.1 16) (h.1 22 20) k := by rw [← hg, sR_n (by decide), sR_n (by decide), sR_n (by decide), sR_n (by decide), sR_n (by decide), sR_n (by decide), sR_n (by decide), sR_s]
      have k17 : g.1 17 = up (h.1 17) (h.1 22 20) w5 := by rw [← hg, sR_n (by decide), sR_n (by decide), sR_n (by decide), sR_n (by decide), sR_n (by decide), sR_n (by decide), sR_s]
      have k18 : g.1 18 = up (h.1 18) (h.1 22 20) q := by rw [← hg, sR_n (by decide), sR_n (by decide), sR_n (by decide), sR_n (by decide), sR_n (by decide), sR_s]
      have k33 : g.1 33 = up (h.1 33) (h.1 22 20) k := by rw [← hg, sR_n (by decide), sR_n (by decide), sR_n (by decide), sR_s]
      have k34 : g.1 34 = up (h.1 34) (h.1 22 20) w5 := by rw [← hg, sR_n (by decide), sR_n (by decide), sR_s]
      have k35 : g.1 35 = up (h.1 35) (h.1 22 20) q := by rw [← hg, sR_n (by decide), sR_s]
      have k20 : g.1 22 20 = h.1 22 20 + 1 := by rw [← hg, sR_s, up_s]
      refine ⟨?_, ?_, ?_, ?_, ?_, ?_, ?_, ?_, ?_, ?_, ?_, ?_, ?_, ?_, ?_, ?_, ?_, ?_, ?_, ?_, ?_, ?_, ?_, ?_, ?_, ?_, ?_, ?_, ?_⟩
      · obtain ⟨a1, a2, a3, a4, a5, a6, a7⟩ := id I.x
        unfold XI
        rw [r 3 (by decide), r 4 (by decide), r 7 (by decide)]
        exact ⟨a1, a2, a3, a4, a5, a6, ti⟩
      · obtain ⟨a1, a2, a3, a4, a5, a6, a7, a8⟩ := id I.m
        unfold MI
        rw [p 4 (by decide), p 6 (by decide), r 24 (by decide), r 25 (by decide)]
        exact ⟨a1, a2, a3, a4, a5, a6, t8, t9⟩
      · rw [p 0 (by decide)]; exact I.t0
      · rw [r 2 (by decide), r 23 (by decide)]; exact I.tx
      · rw [r 1 (by decide), p 2 (by decide)]; exact I.tl
      · rw [p 2 (by decide)]; exact I.tl2
      · rw [r 23 (by decide)]; exact I.by2
      · rw [r 3 (by decide), p 4 (by decide)]; exact I.n
      · rw [r 3 (by decide), p 6 (by decide)]; exact I.c
      · rw [r 4 (by decide), r 24 (by decide)]; exact I.E
      · rw [r 7 (by decide), r 25 (by decide)]; exact I.C
      · rw [t 0 (by omega), r 28 (by decide)]; exact I.P
      · rw [r 10 (by decide), p 17 (by decide)]; exact I.a
      · rw [p 17 (by decide)]; exact I.a2
      · rw [r 10 (by decide)]; exact I.o
      · rw [p 17 (by decide), r 10 (by decide), r 30 (by decide)]
        intro i hi j hj
        rw [t _ (by omega)]; exact I.bk i hi j hj
      · rw [r 14 (by decide), r 32 (by decide)]; exact I.u
      · rw [r 32 (by decide)]; exact I.u2
      · rw [r 32 (by decide), r 31 (by decide)]
        intro a ha hz j hj
        rw [t _ (by omega)]; exact I.kp a ha hz j hj
      · rw [k15, k20]
      · rw [k20]; omega
      · rw [k16, k33, I.sk]
      · rw [k17, k34, I.sh]
      · rw [k18, k35, I.sq]
      · rw [k33]; exact upb b.1 I.sk2
      · rw [k34]; exact upb b.2.1 I.sh2
      · rw [k35]; exact upb b.2.2 I.sq2
      · rw [z]; exact I.sd
      · intro i h1 h2
        rw [t i (by omega)]; exact I.st i h1 h2
  · exact ⟨_, _, _, c_X8_see_bad hk ht hq b, c_X9_see_bad I.t0 hk ht hq b, I⟩
theorem op_unsee (I : Inv h) : Op V h [] 1 1 yX8_unsee cX8_unsee 2 yX9_unsee cX9_unsee 2 := by
  have X := c_X8_unsee (V := V) (h := h)
  have M := c_X9_unsee (V := V) (h := sR h 15 (up (h.1 15) 3 0)) (by rw [sR_n (by decide)]; exact I.t0)
  rw [sR_n (show 22 ≠ 15 by decide)] at M
  rw [I.s] at X
  refine ⟨_, _, _, X, M, ?_⟩
  generalize hg : sR (sR h 15 (up (h.1 15) 3 0)) 22 (up (h.1 22) 20 0) = g
  have z : g.2 = h.2 := by rw [← hg]; rfl
  have r : ∀ q, q < 100 ∧ q ≠ 15 ∧ q ≠ 22 → g.1 q = h.1 q := fun q w => by rw [← hg, sR_n (by omega), sR_n (by omega)]
  have p : ∀ o, o ≠ 20 → g.1 22 o = h.1 22 o := fun o w => by rw [← hg, sR_s, up_n w]
  have t : ∀ i, 0 ≤ i → g.1 (tr i) = h.1 (tr i) := fun i _ => by rw [← hg, sR_tl (by decide), sR_tl (by decide)]
  have ti : ∀ i, TI (g.1 (tr i)) := fun i => by rw [t i (by omega)]; exact I.x.2.2.2.2.2.2 i
  have t8 : TI (g.1 28) := by rw [r 28 (by decide)]; exact I.m.2.2.2.2.2.2.1
  have t9 : TI (g.1 29) := by rw [r 29 (by decide)]; exact I.m.2.2.2.2.2.2.2
  have r1 : g.1 15 3 = 0 := by rw [← hg, sR_n (by decide), sR_s, up_s]
  have p2 : g.1 22 20 = 0 := by rw [← hg, sR_s, up_s]
  refine ⟨?_, ?_, ?_, ?_, ?_, ?_, ?_, ?_, ?_, ?_, ?_, ?_, ?_, ?_, ?_, ?_, ?_, ?_, ?_, ?_, ?_, ?_, ?_, ?_, ?_, ?_, ?_, ?_, ?_⟩
  · obtain ⟨a1, a2, a3, a4, a5, a6, a7⟩ := id I.x
    unfold XI
    rw [r 3 (by decide), r 4 (by decide), r 7 (by decide)]
    exact ⟨a1, a2, a3, a4, a5, a6, ti⟩
  · obtain ⟨a1, a2, a3, a4, a5, a6, a7, a8⟩ := id I.m
    unfold MI
    rw [p 4 (by decide), p 6 (by decide), r 24 (by decide), r 25 (by decide)]
    exact ⟨a1, a2, a3, a4, a5, a6, t8, t9⟩
  · rw [p 0 (by decide)]; exact I.t0
  · rw [r 2 (by decide), r 23 (by decide)]; exact I.tx
  · rw [r 1 (by decide), p 2 (by decide)]; exact I.tl
  · rw [p 2 (by decide)]; exact I.tl2
  · rw [r 23 (by decide)]; exact I.by2
  · rw [r 3 (by decide), p 4 (by decide)]; exact I.n
  · rw [r 3 (by decide), p 6 (by decide)]; exact I.c
  · rw [r 4 (by decide), r 24 (by decide)]; exact I.E
  · rw [r 7 (by decide), r 25 (by decide)]; exact I.C
  · rw [t 0 (by omega), r 28 (by decide)]; exact I.P
  · rw [r 10 (by decide), p 17 (by decide)]; exact I.a
  · rw [p 17 (by decide)]; exact I.a2
  · rw [r 10 (by decide)]; exact I.o
  · rw [p 17 (by decide), r 10 (by decide), r 30 (by decide)]
    intro i hi j hj
    rw [t _ (by omega)]; exact I.bk i hi j hj
  · rw [r 14 (by decide), r 32 (by decide)]; exact I.u
  · rw [r 32 (by decide)]; exact I.u2
  · rw [r 32 (by decide), r 31 (by decide)]
    intro a ha hz j hj
    rw [t _ (by omega)]; exact I.kp a ha hz j hj
  · rw [r1, p2]
  · rw [p2]; omega
  · rw [r 16 (by decide), r 33 (by decide)]; exact I.sk
  · rw [r 17 (by decide), r 34 (by decide)]; exact I.sh
  · rw [r 18 (by decide), r 35 (by decide)]; exact I.sq
  · rw [r 33 (by decide)]; exact I.sk2
  · rw [r 34 (by decide)]; exact I.sh2
  · rw [r 35 (by decide)]; exact I.sq2
  · rw [z]; exact I.sd
  · intro i h1 h2
    rw [t i (by omega)]; exact I.st i h1 h2
end Ops2
