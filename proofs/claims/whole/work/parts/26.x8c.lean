/-! MustardTreaty: turns judged, fractions, sights, rests, chances, slots -/
def turnX (E : Nat → Nat) (n m : Nat) (C T : Nat → Nat) (f : Nat) : Nat → Nat := if turnC m C T f then turnR E n T f else T
theorem TI_turn {E C T : Nat → Nat} {n m f : Nat} (hT : TI T) (hE : ∀ j, E j ≤ 9) (hn : n ≤ 4) (hf : f < 8) : TI (turnX E n m C T f) := by
  unfold turnX
  split
  · unfold turnR
    split
    · exact TI_bite hT hE hn
    · split
      · exact TI_seed hT
      · split
        · exact hT
        · exact TI_bind hT (by omega)
  · exact hT
theorem bite1_o {E T : Nat → Nat} {e o : Nat} (h6 : o ≠ 6) (he : o ≠ 2 + e) : bite1 E e T o = T o := by
  unfold bite1
  split
  · rfl
  · split
    · rw [up_n he]
    · rw [up_n h6, up_n he]
theorem biteN_o {E T : Nat → Nat} {o : Nat} (h6 : o ≠ 6) (he : ∀ e, e < 4 → o ≠ 2 + e) : ∀ n, n ≤ 4 → biteN E T n o = T o
  | 0, _ => rfl
  | n + 1, hn => by
    show bite1 E n (biteN E T n) o = T o
    rw [bite1_o h6 (he n (by omega)), biteN_o h6 he n (by omega)]
theorem bite_1 {E T : Nat → Nat} {n : Nat} (hn : n ≤ 4) : bite E n T 1 = T 1 := by
  unfold bite
  rw [up_n (by decide), up_n (by decide), biteN_o (by decide) (fun e _ => by omega) n hn]
theorem st_turn {E C T : Nat → Nat} {n m f : Nat} (h1 : T 1 ≤ 9) (hn : n ≤ 4) : turnX E n m C T f 1 ≤ 9 := by
  unfold turnX
  split
  · rename_i hc
    unfold turnR
    split
    · rw [bite_1 hn]; exact h1
    · split
      · rename_i q1 q2
        have hne : T 1 ≠ 0 := by
          unfold turnC at hc
          rw [if_neg q1, if_pos q2] at hc
          exact of_decide_eq_true hc
        unfold seedR
        rw [up_n (by decide), up_s]
        unfold dec1
        rw [if_neg hne]; omega
      · split
        · exact h1
        · unfold bindR; rw [up_n (by decide)]; exact h1
  · exact h1
def rowB (a : Nat) : Nat → Bool
  | 0 => true
  | i + 1 => rowB a i && decide (a / 10 ^ i % 10 ≤ 7)
theorem rowB_mono {a i : Nat} (h : rowB a i = false) : ∀ n, i ≤ n → rowB a n = false
  | 0, hn => by rw [show i = 0 by omega] at h; exact h
  | n + 1, hn => by
    by_cases q : i = n + 1
    · rw [← q]; exact h
    · have := rowB_mono h n (by omega)
      simp [rowB, this]
theorem rowB_at {a : Nat} : ∀ {n i : Nat}, rowB a n = true → i < n → a / 10 ^ i % 10 ≤ 7
  | n + 1, i, h, hi => by
    simp only [rowB, Bool.and_eq_true, decide_eq_true_eq] at h
    by_cases q : i = n
    · rw [q]; exact h.2
    · exact rowB_at h.1 (by omega)
def fig (a n p : Nat) : Nat := a / 10 ^ (n - 1 - p) % 10
def jdT (E : Nat → Nat) (n m : Nat) (C T : Nat → Nat) (a k : Nat) : Nat → Nat → Nat
  | 0 => T
  | p + 1 => turnX E n m C (jdT E n m C T a k p) (fig a k p)
def jdS (E : Nat → Nat) (n m : Nat) (C T : Nat → Nat) (a k : Nat) : Nat → Option Nat
  | 0 => none
  | p + 1 => match jdS E n m C T a k p with
    | some q => some q
    | none => if turnC m C (jdT E n m C T a k p) (fig a k p) then none else some p
theorem jdS_mono {E : Nat → Nat} {n m : Nat} {C T : Nat → Nat} {a k p q : Nat} (h : jdS E n m C T a k p = some q) : ∀ z, p ≤ z → jdS E n m C T a k z = some q
  | 0, hz => by rw [show p = 0 by omega] at h; exact h
  | z + 1, hz => by
    by_cases w : p = z + 1
    · rw [← w]; exact h
    · have := jdS_mono h z (by omega)
      simp only [jdS, this]
def jdV (E : Nat → Nat) (n m : Nat) (C T : Nat → Nat) (a k : Nat) : Nat := match jdS E n m C T a k k with
  | some q => q
  | none => 4294967287
def jdK (E : Nat → Nat) (n m : Nat) (C T : Nat → Nat) (a k : Nat) : Nat := match jdS E n m C T a k k with
  | some q => q + 1
  | none => k
theorem p10 {n : Nat} (h : n ≤ 6) : 10 ^ n ≤ 1000000 := Nat.pow_le_pow_right (by decide) h
section X8c
variable {V : Vt} {h : Hp}
theorem c_X8_powerOfTen {n : Nat} (hn : n ≤ 6) : Rti V 1 yX8_powerOfTen cX8_powerOfTen 3 (some .int) [.int (nI n)] h (nI (10 ^ n)) h := by
  refine Mt_in [some (.int (nI n)), none, none] (own := RX8) rfl (by decide) (Nat.le_of_ble_eq_true rfl) (fun q hq => hq) ?_
  refine g_iconst (v := 1) 1 rfl dX8_powerOfTen_0 (by decide) ?_
  refine g_istore_n1 2 rfl dX8_powerOfTen_1 (by decide) rfl ?_
  refine g_iconst (v := 0) 3 rfl dX8_powerOfTen_2 (by decide) ?_
  refine g_istore_n2 4 rfl dX8_powerOfTen_3 (by decide) rfl ?_
  skip
  refine loop_up (P := fun i => G V T0 1 RX8 cX8_powerOfTen 3 (some .int) 4 [some (.int (nI n)), some (.int (nI (10 ^ i))), some (.int (nI i))] [] h _) (n := n) ?_ (fun i hi ih => ?_) 0 (Nat.zero_le _)
  · refine g_iload_n2 5 rfl dX8_powerOfTen_4 ?_
    refine g_iload_n0 6 rfl dX8_powerOfTen_5 ?_
    refine gn_icmp_ge 20 (by decide) 9 rfl dX8_powerOfTen_6 (by omega) (by omega) (fun c6 => ?_) (fun c6 => absurd c6 (Nat.lt_irrefl _))
    refine g_iload_n1 21 rfl dX8_powerOfTen_20 ?_
    refine g_iret .int dX8_powerOfTen_21 rfl (rfl) ?_
    exact ⟨rfl, rfl⟩
  · refine g_iload_n2 5 rfl dX8_powerOfTen_4 ?_
    refine g_iload_n0 6 rfl dX8_powerOfTen_5 ?_
    refine gn_icmp_ge 20 (by decide) 9 rfl dX8_powerOfTen_6 (by omega) (by omega) (fun c6 => absurd c6 (Nat.not_le_of_lt hi)) (fun c6 => ?_)
    refine g_iload_n1 10 rfl dX8_powerOfTen_9 ?_
    refine g_bipush (v := 10) 12 rfl dX8_powerOfTen_10 (by decide) ?_
    refine gn_imul 13 rfl dX8_powerOfTen_12 ?_
    refine g_istore_n1 14 rfl dX8_powerOfTen_13 (by decide) rfl ?_
    refine gn_iinc2 1 17 rfl dX8_powerOfTen_14 rfl (by decide) rfl ?_
    refine g_goto 4 (by decide) dX8_powerOfTen_17 ?_
    exact ih
theorem c_X8_isRowOfFigures {n a : Nat} (hn : n ≤ 6) (ha : a < 2 ^ 32) : Rti V 2 yX8_isRowOfFigures cX8_isRowOfFigures 4 (some .boolean) [.int (nI n), .int (nI a)] h (nI (decide (a < 10 ^ n) && rowB a n).toNat) h := by
  have hp := p10 hn
  refine Mt_in [some (.int (nI n)), some (.int (nI a)), none, none] (own := RX8) rfl (by decide) (Nat.le_of_ble_eq_true rfl) (fun q hq => hq) ?_
  by_cases hs : a < 2 ^ 31
  · by_cases hlt : a < 10 ^ n
    · rw [decide_eq_true hlt, Bool.true_and]
      refine g_iload_n1 1 rfl dX8_isRowOfFigures_0 ?_
      refine gn_if_lt 12 (by decide) 4 rfl dX8_isRowOfFigures_1 (by omega) (fun c => c.elim) (fun _ => ?_)
      refine g_iload_n1 5 rfl dX8_isRowOfFigures_4 ?_
      refine g_iload_n0 6 rfl dX8_isRowOfFigures_5 ?_
      refine g_cs1i 9 rfl cw_RX8_209 dX8_isRowOfFigures_6 (c_X8_powerOfTen hn) (by omega) (Nat.le_of_ble_eq_true rfl) ?_
      refine gn_icmp_lt 14 (by decide) 12 rfl dX8_isRowOfFigures_9 (by omega) (by omega) (fun c9 => ?_) (fun c9 => absurd hlt (Nat.not_lt.mpr c9))
      refine g_iload_n1 15 rfl dX8_isRowOfFigures_14 ?_
      refine g_istore_n2 16 rfl dX8_isRowOfFigures_15 (by decide) rfl ?_
      refine g_iconst (v := 0) 17 rfl dX8_isRowOfFigures_16 (by decide) ?_
      refine g_istore_n3 18 rfl dX8_isRowOfFigures_17 (by decide) rfl ?_
      skip
      refine g_heap (h' := h) rfl ?_
      have key := loop_up (P := fun i => rowB a i = true → G V T0 2 RX8 cX8_isRowOfFigures 4 (some .boolean) 18 [some (.int (nI n)), some (.int (nI a)), some (.int (nI (a / 10 ^ i))), some (.int (nI i))] [] h (fun v g => v = some (.int (nI (rowB a n).toNat)) ∧ g = h)) (n := n) ?_ (fun i hi ih => ?_) 0 (Nat.zero_le _) rfl
      · rw [show a / 10 ^ 0 = a from Nat.div_one a] at key
        exact key
      · intro hf
        refine g_iload_n3 19 rfl dX8_isRowOfFigures_18 ?_
        refine g_iload_n0 20 rfl dX8_isRowOfFigures_19 ?_
        refine gn_icmp_ge 45 (by decide) 23 rfl dX8_isRowOfFigures_20 (by omega) (by omega) (fun c20 => ?_) (fun c20 => absurd c20 (Nat.lt_irrefl _))
        refine g_iconst (v := 1) 46 rfl dX8_isRowOfFigures_45 (by decide) ?_
        refine g_iret .boolean dX8_isRowOfFigures_46 rfl (rfl) ?_
        exact ⟨by rw [hf]; rfl, rfl⟩
      · intro hf
        have hle : a / 10 ^ i ≤ a := Nat.div_le_self _ _
        refine g_iload_n3 19 rfl dX8_isRowOfFigures_18 ?_
        refine g_iload_n0 20 rfl dX8_isRowOfFigures_19 ?_
        refine gn_icmp_ge 45 (by decide) 23 rfl dX8_isRowOfFigures_20 (by omega) (by omega) (fun c20 => absurd c20 (Nat.not_le_of_lt hi)) (fun c20 => ?_)
        refine g_iload_n2 24 rfl dX8_isRowOfFigures_23 ?_
        refine g_bipush (v := 10) 26 rfl dX8_isRowOfFigures_24 (by decide) ?_
        refine gn_irem 27 rfl dX8_isRowOfFigures_26 (by omega) (by omega) (by omega) ?_
        refine g_bipush (v := 7) 29 rfl dX8_isRowOfFigures_27 (by decide) ?_
        refine gn_icmp_le 34 (by decide) 32 rfl dX8_isRowOfFigures_29 (by omega) (by omega) (fun c29 => ?_) (fun c29 => ?_)
        · refine g_iload_n2 35 rfl dX8_isRowOfFigures_34 ?_
          refine g_bipush (v := 10) 37 rfl dX8_isRowOfFigures_35 (by decide) ?_
          refine gn_idiv 38 rfl dX8_isRowOfFigures_37 (by omega) (by omega) (by omega) ?_
          refine g_istore_n2 39 rfl dX8_isRowOfFigures_38 (by decide) rfl ?_
          refine gn_iinc3 1 42 rfl dX8_isRowOfFigures_39 rfl (by decide) rfl ?_
          refine g_goto 18 (by decide) dX8_isRowOfFigures_42 ?_
          have z := ih (by simp only [rowB, hf, Bool.true_and]; exact decide_eq_true c29)
          rw [Nat.div_div_eq_div_mul]
          exact z
        · refine g_iconst (v := 0) 33 rfl dX8_isRowOfFigures_32 (by decide) ?_
          refine g_iret .boolean dX8_isRowOfFigures_33 rfl (rfl) ?_
          refine ⟨?_, rfl⟩
          rw [rowB_mono (i := i + 1) (by simp only [rowB, hf, Bool.true_and]; exact decide_eq_false (by omega)) _ (by omega)]
          rfl
    · rw [decide_eq_false hlt, Bool.false_and]
      refine g_iload_n1 1 rfl dX8_isRowOfFigures_0 ?_
      refine gn_if_lt 12 (by decide) 4 rfl dX8_isRowOfFigures_1 (by omega) (fun c => c.elim) (fun _ => ?_)
      refine g_iload_n1 5 rfl dX8_isRowOfFigures_4 ?_
      refine g_iload_n0 6 rfl dX8_isRowOfFigures_5 ?_
      refine g_cs1i 9 rfl cw_RX8_209 dX8_isRowOfFigures_6 (c_X8_powerOfTen hn) (by omega) (Nat.le_of_ble_eq_true rfl) ?_
      refine gn_icmp_lt 14 (by decide) 12 rfl dX8_isRowOfFigures_9 (by omega) (by omega) (fun c9 => absurd c9 hlt) (fun c9 => ?_)
      refine g_iconst (v := 0) 13 rfl dX8_isRowOfFigures_12 (by decide) ?_
      refine g_iret .boolean dX8_isRowOfFigures_13 rfl (rfl) ?_
      exact ⟨rfl, rfl⟩
  · rw [decide_eq_false (by omega), Bool.false_and]
    refine g_iload_n1 1 rfl dX8_isRowOfFigures_0 ?_
    refine g_if_lt 12 (by decide) 4 rfl dX8_isRowOfFigures_1 (fun c1 => ?_) (fun c1 => absurd (nI_ng (by omega) ha) c1)
    refine g_iconst (v := 0) 13 rfl dX8_isRowOfFigures_12 (by decide) ?_
    refine g_iret .boolean dX8_isRowOfFigures_13 rfl (rfl) ?_
    exact ⟨rfl, rfl⟩
theorem c_X8_judge_bad {n a : Nat} (hn : n < 2 ^ 32) (ha : a < 2 ^ 32) (hb : ¬ (1 ≤ n ∧ n ≤ 6 ∧ a < 10 ^ n ∧ rowB a n = true)) : Rti V 6 yX8_judge cX8_judge 5 (some .int) [rf V 0, .int (nI n), .int (nI a)] h (nI 4294967294) h := by
  refine Mt_in [some (rf V 0), some (.int (nI n)), some (.int (nI a)), none, none] (own := RX8) rfl (by decide) (Nat.le_of_ble_eq_true rfl) (fun q hq => hq) ?_
  by_cases hs : n < 2 ^ 31
  · by_cases h16 : 1 ≤ n ∧ n ≤ 6
    · have hz : (decide (a < 10 ^ n) && rowB a n) = false := by grind
      refine g_iload_n1 1 rfl dX8_judge_0 ?_
      refine g_iconst (v := 1) 2 rfl dX8_judge_1 (by decide) ?_
      refine gn_icmp_lt 19 (by decide) 5 rfl dX8_judge_2 (by omega) (by omega) (fun c2 => absurd c2 (by omega)) (fun c2 => ?_)
      refine g_iload_n1 6 rfl dX8_judge_5 ?_
      refine g_bipush (v := 6) 8 rfl dX8_judge_6 (by decide) ?_
      refine gn_icmp_gt 19 (by decide) 11 rfl dX8_judge_8 (by omega) (by omega) (fun c8 => absurd c8 (by omega)) (fun c8 => ?_)
      refine g_iload_n1 12 rfl dX8_judge_11 ?_
      refine g_iload_n2 13 rfl dX8_judge_12 ?_
      refine g_cs2i 16 rfl cw_RX8_205 dX8_judge_13 (c_X8_isRowOfFigures h16.2 ha) (by omega) (Nat.le_of_ble_eq_true rfl) ?_
      rw [hz]
      refine gn_if_ne 22 (by decide) 19 rfl dX8_judge_16 (by decide) (fun c16 => absurd rfl c16) (fun c16 => ?_)
      refine g_bipush (v := 4294967294) 21 rfl dX8_judge_19 (by decide) ?_
      refine g_iret .int dX8_judge_21 rfl (rfl) ?_
      exact ⟨rfl, rfl⟩
    · refine g_iload_n1 1 rfl dX8_judge_0 ?_
      refine g_iconst (v := 1) 2 rfl dX8_judge_1 (by decide) ?_
      refine gn_icmp_lt 19 (by decide) 5 rfl dX8_judge_2 (by omega) (by omega) (fun c2 => ?_) (fun c2 => ?_)
      · refine g_bipush (v := 4294967294) 21 rfl dX8_judge_19 (by decide) ?_
        refine g_iret .int dX8_judge_21 rfl (rfl) ?_
        exact ⟨rfl, rfl⟩
      · refine g_iload_n1 6 rfl dX8_judge_5 ?_
        refine g_bipush (v := 6) 8 rfl dX8_judge_6 (by decide) ?_
        refine gn_icmp_gt 19 (by decide) 11 rfl dX8_judge_8 (by omega) (by omega) (fun c8 => ?_) (fun c8 => absurd c8 (by omega))
        refine g_bipush (v := 4294967294) 21 rfl dX8_judge_19 (by decide) ?_
        refine g_iret .int dX8_judge_21 rfl (rfl) ?_
        exact ⟨rfl, rfl⟩
  · refine g_iload_n1 1 rfl dX8_judge_0 ?_
    refine g_iconst (v := 1) 2 rfl dX8_judge_1 (by decide) ?_
    refine g_icmp_lt 19 (by decide) 5 rfl dX8_judge_2 (fun c2 => ?_) (fun c2 => absurd (show nI n < nI 1 from Int32.lt_of_lt_of_le (nI_ng (by omega) hn) (by decide +kernel)) c2)
    refine g_bipush (v := 4294967294) 21 rfl dX8_judge_19 (by decide) ?_
    refine g_iret .int dX8_judge_21 rfl (rfl) ?_
    exact ⟨rfl, rfl⟩
theorem c_X8_judge_ok {n a : Nat} (hx : XI h) (hs0 : h.1 (tr 0) 1 ≤ 9) (h1 : 1 ≤ n) (h6 : n ≤ 6) (ha : a < 10 ^ n) (hr : rowB a n = true) : Rti V 6 yX8_judge cX8_judge 5 (some .int) [rf V 0, .int (nI n), .int (nI a)] h (nI (jdV (h.1 4) (h.1 3 2) (h.1 3 3) (h.1 7) (h.1 (tr 0)) a n)) (sR h (tr 1) (jdT (h.1 4) (h.1 3 2) (h.1 3 3) (h.1 7) (h.1 (tr 0)) a n (jdK (h.1 4) (h.1 3 2) (h.1 3 3) (h.1 7) (h.1 (tr 0)) a n))) := by
  obtain ⟨hE, hC, x4, x5, x7, x8, hTT⟩ := id hx
  have hp := p10 h6
  have hz : (decide (a < 10 ^ n) && rowB a n) = true := by rw [decide_eq_true ha, hr]; rfl
  have hjT : ∀ p, p ≤ n → TI (jdT (h.1 4) (h.1 3 2) (h.1 3 3) (h.1 7) (h.1 (tr 0)) a n p) ∧ jdT (h.1 4) (h.1 3 2) (h.1 3 3) (h.1 7) (h.1 (tr 0)) a n p 1 ≤ 9 := by
    intro p
    induction p with
    | zero => exact fun _ => ⟨hTT 0, hs0⟩
    | succ p ih =>
      intro hp
      have := ih (by omega)
      exact ⟨TI_turn this.1 x4 hE (by have := rowB_at hr (i := n - 1 - p) (by omega); unfold fig; omega), st_turn this.2 hE⟩
  refine Mt_in [some (rf V 0), some (.int (nI n)), some (.int (nI a)), none, none] (own := RX8) rfl (by decide) (Nat.le_of_ble_eq_true rfl) (fun q hq => hq) ?_
  refine g_iload_n1 1 rfl dX8_judge_0 ?_
  refine g_iconst (v := 1) 2 rfl dX8_judge_1 (by decide) ?_
  refine gn_icmp_lt 19 (by decide) 5 rfl dX8_judge_2 (by omega) (by omega) (fun c2 => absurd c2 (by omega)) (fun c2 => ?_)
  refine g_iload_n1 6 rfl dX8_judge_5 ?_
  refine g_bipush (v := 6) 8 rfl dX8_judge_6 (by decide) ?_
  refine gn_icmp_gt 19 (by decide) 11 rfl dX8_judge_8 (by omega) (by omega) (fun c8 => absurd c8 (by omega)) (fun c8 => ?_)
  refine g_iload_n1 12 rfl dX8_judge_11 ?_
  refine g_iload_n2 13 rfl dX8_judge_12 ?_
  refine g_cs2i 16 rfl cw_RX8_205 dX8_judge_13 (c_X8_isRowOfFigures h6 (by omega)) (by omega) (Nat.le_of_ble_eq_true rfl) ?_
  rw [hz]
  refine gn_if_ne 22 (by decide) 19 rfl dX8_judge_16 (by decide) (fun c16 => ?_) (fun c16 => absurd c16 (by decide))
  refine g_aload_n0 23 rfl dX8_judge_22 ?_
  refine gf_MT_trial 26 rfl fl_RX8_32 dX8_judge_23 ?_
  refine g_aload_n0 27 rfl dX8_judge_26 ?_
  refine gf_MT_table 30 rfl fl_RX8_28 dX8_judge_27 ?_
  refine g_cv1v 33 rfl cw_RX8_188 dX8_judge_30 (c_X7_copyFrom (by decide) (by decide) (by decide) hx) (by omega) (ob_tb V (by omega)) (Nat.le_of_ble_eq_true rfl) ?_
  refine g_iload_n1 34 rfl dX8_judge_33 ?_
  refine g_iconst (v := 1) 35 rfl dX8_judge_34 (by decide) ?_
  refine gn_isub 36 rfl dX8_judge_35 (by omega) ?_
  refine g_cs1i 39 rfl cw_RX8_209 dX8_judge_36 (c_X8_powerOfTen (by omega)) (by omega) (Nat.le_of_ble_eq_true rfl) ?_
  refine g_istore_n3 40 rfl dX8_judge_39 (by decide) rfl ?_
  refine g_iconst (v := 0) 41 rfl dX8_judge_40 (by decide) ?_
  refine g_istore4 43 rfl dX8_judge_41 (by decide) rfl ?_
  skip
  have key := loop_up (P := fun p => jdS (h.1 4) (h.1 3 2) (h.1 3 3) (h.1 7) (h.1 (tr 0)) a n p = none → ∀ u, (p < n → u = 10 ^ (n - 1 - p)) → u < 2 ^ 31 → G V T0 6 RX8 cX8_judge 5 (some .int) 43 [some (rf V 0), some (.int (nI n)), some (.int (nI a)), some (.int (nI u)), some (.int (nI p))] [] (sR h (tr 1) (jdT (h.1 4) (h.1 3 2) (h.1 3 3) (h.1 7) (h.1 (tr 0)) a n p)) (fun v g => v = some (.int (nI (jdV (h.1 4) (h.1 3 2) (h.1 3 3) (h.1 7) (h.1 (tr 0)) a n))) ∧ g = sR h (tr 1) (jdT (h.1 4) (h.1 3 2) (h.1 3 3) (h.1 7) (h.1 (tr 0)) a n (jdK (h.1 4) (h.1 3 2) (h.1 3 3) (h.1 7) (h.1 (tr 0)) a n)))) (n := n) ?_ (fun p hp2 ih => ?_) 0 (Nat.zero_le _) rfl (10 ^ (n - 1)) (fun _ => by rw [Nat.sub_zero]) (by have := p10 (n := n - 1) (by omega); omega)
  · exact key
  · intro hf u hu hu2
    refine g_iload4 45 rfl dX8_judge_43 ?_
    refine g_iload_n1 46 rfl dX8_judge_45 ?_
    refine gn_icmp_ge 83 (by decide) 49 rfl dX8_judge_46 (by omega) (by omega) (fun c46 => ?_) (fun c46 => absurd c46 (Nat.lt_irrefl _))
    refine g_bipush (v := 4294967287) 85 rfl dX8_judge_83 (by decide) ?_
    refine g_iret .int dX8_judge_85 rfl (rfl) ?_
    exact ⟨by unfold jdV; rw [hf], by unfold jdK; rw [hf]⟩
  · intro hf u hu hu2
    have hpos : 0 < u := by rw [hu hp2]; exact Nat.pow_pos (by decide)
    have hd8 := rowB_at hr (i := n - 1 - p) (by omega)
    have hfig : a / u % 10 = fig a n p := by unfold fig; rw [hu hp2]
    have hf8 : fig a n p < 8 := by unfold fig; omega
    have hN := hjT p (by omega)
    have hx2 := XI_tr hx (i := 1) hN.1
    have hle : a / u ≤ a := Nat.div_le_self _ _
    refine g_iload4 45 rfl dX8_judge_43 ?_
    refine g_iload_n1 46 rfl dX8_judge_45 ?_
    refine gn_icmp_ge 83 (by decide) 49 rfl dX8_judge_46 (by omega) (by omega) (fun c46 => absurd c46 (Nat.not_le_of_lt hp2)) (fun c46 => ?_)
    refine g_iload_n3 50 rfl dX8_judge_49 ?_
    refine gn_if_le 83 (by decide) 53 rfl dX8_judge_50 (by omega) (fun c50 => absurd c50 (by omega)) (fun c50 => ?_)
    refine g_aload_n0 54 rfl dX8_judge_53 ?_
    refine gf_MT_trial 57 rfl fl_RX8_32 dX8_judge_54 ?_
    refine g_iload_n2 58 rfl dX8_judge_57 ?_
    refine g_iload_n3 59 rfl dX8_judge_58 ?_
    refine gn_idiv 60 rfl dX8_judge_59 (by omega) (hpos) (by omega) ?_
    refine g_bipush (v := 10) 62 rfl dX8_judge_60 (by decide) ?_
    refine gn_irem 63 rfl dX8_judge_62 (by omega) (by omega) (by omega) ?_
    rw [hfig]
    refine g_cv1i 66 rfl cw_RX8_212 dX8_judge_63 (c_X7_takeTurn (by decide) hx2 hf8 (by rw [sR_s]; have := hN.2; omega)) (by omega) (ob_tb V (by omega)) (Nat.le_of_ble_eq_true rfl) ?_
    rw [sR_s, sR_sR, sR_t3, sR_t4, sR_t7]
    refine gn_if_ne 72 (by decide) 69 rfl dX8_judge_66 (Nat.lt_of_lt_of_le (Bool.toNat_lt _) (by omega)) (fun c66 => ?_) (fun c66 => ?_)
    · refine g_iload_n3 73 rfl dX8_judge_72 ?_
      refine g_bipush (v := 10) 75 rfl dX8_judge_73 (by decide) ?_
      refine gn_idiv 76 rfl dX8_judge_75 (by omega) (by omega) (by omega) ?_
      refine g_istore_n3 77 rfl dX8_judge_76 (by decide) rfl ?_
      refine gn_iinc4 1 80 rfl dX8_judge_77 rfl (by decide) rfl ?_
      refine g_goto 43 (by decide) dX8_judge_80 ?_
      have q : jdS (h.1 4) (h.1 3 2) (h.1 3 3) (h.1 7) (h.1 (tr 0)) a n (p + 1) = none := by simp only [jdS, hf]; exact if_pos (by simpa using c66)
      refine ih q (u / 10) (fun w => ?_) (by omega)
      rw [hu hp2, show n - 1 - p = (n - 1 - (p + 1)) + 1 by omega, Nat.pow_succ, Nat.mul_div_cancel _ (by decide)]
    · refine g_iload4 71 rfl dX8_judge_69 ?_
      refine g_iret .int dX8_judge_71 rfl (rfl) ?_
      have q : jdS (h.1 4) (h.1 3 2) (h.1 3 3) (h.1 7) (h.1 (tr 0)) a n (p + 1) = some p := by simp only [jdS, hf]; exact if_neg (by simpa using c66)
      have q := jdS_mono q _ hp2
      exact ⟨by unfold jdV; rw [q], by unfold jdK; rw [q]; rfl⟩
end X8c
