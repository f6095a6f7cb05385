/-! the reference: fractions, sights, rests, chances, slots -/
theorem loop_dn {P : Nat → Prop} (hs : ∀ q, (∀ q', q' < q → P q') → P q) : ∀ q, P q := fun q => Nat.strongRecOn q (fun n ih => hs n ih)
theorem chS_0 {E T : Nat → Nat} {e n x : Nat} (h0 : bt (T 6) e = 0) : ∀ s, chS E T e n x s = 0
  | 0 => rfl
  | s + 1 => by
    show (if bt (T 6) e = 0 then chS E T e n x s else _) = 0
    rw [if_pos h0]; exact chS_0 h0 s
def tkW (E : Nat → Nat) (n m : Nat) (C T : Nat → Nat) (s : Int64) : Nat → Nat
  | 0 => 0
  | k + 1 => if drw (sdN s (k + 1)) < 5 then (if turnC m C (tkT E n m C T s k) (drw (sdN s (k + 1)) + 1) then tkW E n m C T s k + wrth C (drw (sdN s (k + 1))) else tkW E n m C T s k) else tkW E n m C T s k
section X9d
variable {V : Vt} {h : Hp}
theorem c_X9_ways {n : Nat} (hn : n ≤ 12) : Rti V 1 yX9_ways cX9_ways 3 (some .int) [.int (nI n)] h (nI (fac n)) h := by
  refine Mt_in [some (.int (nI n)), none, none] (own := RX9) rfl (by decide) (Nat.le_of_ble_eq_true rfl) (fun q hq => hq) ?_
  refine g_iconst (v := 1) 1 rfl dX9_ways_0 (by decide) ?_
  refine g_istore_n1 2 rfl dX9_ways_1 (by decide) rfl ?_
  refine g_iconst (v := 2) 3 rfl dX9_ways_2 (by decide) ?_
  refine g_istore_n2 4 rfl dX9_ways_3 (by decide) rfl ?_
  skip
  refine loop_up (P := fun j => G V T0 1 RX9 cX9_ways 3 (some .int) 4 [some (.int (nI n)), some (.int (nI (fac (j + 1)))), some (.int (nI (j + 2)))] [] h _) (n := n - 1) ?_ (fun j hj ih => ?_) 0 (Nat.zero_le _)
  · have e : fac (n - 1 + 1) = fac n := by
      by_cases q : n = 0
      · rw [q]; rfl
      · rw [show n - 1 + 1 = n by omega]
    rw [e]
    refine g_iload_n2 5 rfl dX9_ways_4 ?_
    refine g_iload_n0 6 rfl dX9_ways_5 ?_
    refine gn_icmp_gt 19 (by decide) 9 rfl dX9_ways_6 (by omega) (by omega) (fun c6 => ?_) (fun c6 => absurd c6 (by omega))
    refine g_iload_n1 20 rfl dX9_ways_19 ?_
    refine g_iret .int dX9_ways_20 rfl (rfl) ?_
    exact ⟨rfl, rfl⟩
  · refine g_iload_n2 5 rfl dX9_ways_4 ?_
    refine g_iload_n0 6 rfl dX9_ways_5 ?_
    refine gn_icmp_gt 19 (by decide) 9 rfl dX9_ways_6 (by omega) (by omega) (fun c6 => absurd c6 (by omega)) (fun c6 => ?_)
    refine g_iload_n1 10 rfl dX9_ways_9 ?_
    refine g_iload_n2 11 rfl dX9_ways_10 ?_
    refine gn_imul 12 rfl dX9_ways_11 ?_
    refine g_istore_n1 13 rfl dX9_ways_12 (by decide) rfl ?_
    refine gn_iinc2 1 16 rfl dX9_ways_13 rfl (by decide) rfl ?_
    refine g_goto 4 (by decide) dX9_ways_16 ?_
    exact ih
theorem c_X9_divisor {a b : Nat} (ha : a < 2 ^ 31) (hb : b < 2 ^ 31) : Rti V 1 yX9_divisor cX9_divisor 5 (some .int) [.int (nI a), .int (nI b)] h (nI (Nat.gcd a b)) h := by
  refine Mt_in [some (.int (nI a)), some (.int (nI b)), none, none, none] (own := RX9) rfl (by decide) (Nat.le_of_ble_eq_true rfl) (fun q hq => hq) ?_
  refine g_iload_n0 1 rfl dX9_divisor_0 ?_
  refine gn_if_ge 9 (by decide) 4 rfl dX9_divisor_1 (by omega) (fun _ => ?_) (fun c => c.elim)
  refine g_iload_n0 10 rfl dX9_divisor_9 ?_
  refine g_istore_n2 11 rfl dX9_divisor_10 (by decide) rfl ?_
  refine g_iload_n1 12 rfl dX9_divisor_11 ?_
  refine g_istore_n3 13 rfl dX9_divisor_12 (by decide) rfl ?_
  skip
  refine loop_dn (P := fun q => ∀ p, p < 2 ^ 31 → q < 2 ^ 31 → Nat.gcd p q = Nat.gcd a b → G V T0 1 RX9 cX9_divisor 5 (some .int) 13 [some (.int (nI a)), some (.int (nI b)), some (.int (nI p)), some (.int (nI q)), none] [] h (fun v g => v = some (.int (nI (Nat.gcd a b))) ∧ g = h)) (fun q ih => ?_) b a ha hb rfl
  intro p hp hq hg
  refine g_iload_n3 14 rfl dX9_divisor_13 ?_
  refine gn_if_eq 30 (by decide) 17 rfl dX9_divisor_14 (by omega) (fun c14 => ?_) (fun c14 => ?_)
  · refine g_iload_n2 31 rfl dX9_divisor_30 ?_
    refine g_iret .int dX9_divisor_31 rfl (rfl) ?_
    have e : p = Nat.gcd a b := by rw [← hg, c14, Nat.gcd_zero_right]
    exact ⟨by rw [e], rfl⟩
  · refine g_iload_n2 18 rfl dX9_divisor_17 ?_
    refine g_iload_n3 19 rfl dX9_divisor_18 ?_
    refine gn_irem 20 rfl dX9_divisor_19 (by omega) (by omega) (by omega) ?_
    refine g_istore4 22 rfl dX9_divisor_20 (by decide) rfl ?_
    refine g_iload_n3 23 rfl dX9_divisor_22 ?_
    refine g_istore_n2 24 rfl dX9_divisor_23 (by decide) rfl ?_
    refine g_iload4 26 rfl dX9_divisor_24 ?_
    refine g_istore_n3 27 rfl dX9_divisor_26 (by decide) rfl ?_
    refine g_goto 13 (by decide) dX9_divisor_27 ?_
    refine g_none 4 ?_
    have hm : p % q < q := Nat.mod_lt _ (by omega)
    exact ih (p % q) hm q hq (by omega) (by rw [← hg, Nat.gcd_comm p q, Nat.gcd_rec q p, Nat.gcd_comm])
theorem c_X9_fraction {a b u : Nat} (ha : a < 2 ^ 31) (hb : b < 2 ^ 31) (h0 : 0 < b) (hu : u < 2) : Rti V 2 yX9_fraction cX9_fraction 4 (some .int) [.int (nI a), .int (nI b), .int (nI u)] h (nI (frV a b u)) h := by
  have hg : 0 < Nat.gcd a b := Nat.gcd_pos_of_pos_right a h0
  have hg2 : Nat.gcd a b ≤ b := Nat.gcd_le_right a h0
  refine Mt_in [some (.int (nI a)), some (.int (nI b)), some (.int (nI u)), none] (own := RX9) rfl (by decide) (Nat.le_of_ble_eq_true rfl) (fun q hq => hq) ?_
  refine g_iload_n0 1 rfl dX9_fraction_0 ?_
  refine g_iload_n1 2 rfl dX9_fraction_1 ?_
  refine g_cs2i 5 rfl cw_RX9_182 dX9_fraction_2 (c_X9_divisor ha hb) (by omega) (Nat.le_of_ble_eq_true rfl) ?_
  refine g_istore_n3 6 rfl dX9_fraction_5 (by decide) rfl ?_
  refine g_iload_n2 7 rfl dX9_fraction_6 ?_
  refine gn_if_eq 16 (by decide) 10 rfl dX9_fraction_7 (by omega) (fun c7 => ?_) (fun c7 => ?_)
  · refine g_iload_n1 17 rfl dX9_fraction_16 ?_
    refine g_iload_n3 18 rfl dX9_fraction_17 ?_
    refine gn_idiv 19 rfl dX9_fraction_18 (by omega) (by omega) (by omega) ?_
    refine g_iret .int dX9_fraction_19 rfl (rfl) ?_
    refine ⟨congrArg (fun q => some (Value.int (nI q))) ?_, rfl⟩
    unfold frV
    first | rw [if_pos c7] | rw [if_neg c7]
  · refine g_iload_n0 11 rfl dX9_fraction_10 ?_
    refine g_iload_n3 12 rfl dX9_fraction_11 ?_
    refine gn_idiv 13 rfl dX9_fraction_12 (by omega) (by omega) (by omega) ?_
    refine g_goto 19 (by decide) dX9_fraction_13 ?_
    refine g_iret .int dX9_fraction_19 rfl (rfl) ?_
    refine ⟨congrArg (fun q => some (Value.int (nI q))) ?_, rfl⟩
    unfold frV
    first | rw [if_pos c7] | rw [if_neg c7]
theorem c_X9_see_bad {k t q : Nat} (h0 : h.1 22 0 = 0) (hk : k < 2 ^ 32) (ht : t < 2 ^ 32) (hq : q < 2 ^ 32) (hb : ¬ (k ≤ 3 ∧ t ≤ 9 ∧ q ≤ 10)) : Rti V 2 yX9_see cX9_see 4 (some .int) [rf V 22, .int (nI k), .int (nI t), .int (nI q)] h (nI 4294967294) h := by
  have e1 := in_c (n := k) (a := 0) (b := 3) hk (by decide) (by decide) (al := 0) (bl := 3) rfl rfl
  have e2 := in_c (n := t) (a := 0) (b := 9) ht (by decide) (by decide) (al := 0) (bl := 9) rfl rfl
  have e3 := in_c (n := q) (a := 0) (b := 10) hq (by decide) (by decide) (al := 0) (bl := 10) rfl rfl
  refine Mt_in [some (rf V 22), some (.int (nI k)), some (.int (nI t)), some (.int (nI q))] (own := RX9) rfl (by decide) (Nat.le_of_ble_eq_true rfl) (fun q hq => hq) ?_
  refine g_aload_n0 1 rfl dX9_see_0 ?_
  refine g_iconst (v := 0) 2 rfl dX9_see_1 (by decide) ?_
  refine gp_Model_thrown 5 rfl fl_RX9_53 dX9_see_2 ?_
  rw [thr0 h0]
  refine g_iload_n1 6 rfl dX9_see_5 ?_
  refine g_i2l 7 rfl dX9_see_6 ?_
  refine g_lconst (v := 0) 8 rfl dX9_see_7 rfl ?_
  refine g_ldc2 11 rfl kl_RX9_195 dX9_see_8 ?_
  refine g_cs3i 14 rfl cw_RX9_60 dX9_see_11 (c_X9_in) (by omega) (Nat.le_of_ble_eq_true rfl) ?_
  refine gn_if_eq 41 (by decide) 17 rfl dX9_see_14 (by split <;> omega) (fun c14 => ?_) (fun c14 => ?_)
  · refine g_bipush (v := 4294967294) 43 rfl dX9_see_41 (by decide) ?_
    refine g_iret .int dX9_see_43 rfl (rfl) ?_
    exact ⟨rfl, rfl⟩
  · refine g_iload_n2 18 rfl dX9_see_17 ?_
    refine g_i2l 19 rfl dX9_see_18 ?_
    refine g_lconst (v := 0) 20 rfl dX9_see_19 rfl ?_
    refine g_ldc2 23 rfl kl_RX9_172 dX9_see_20 ?_
    refine g_cs3i 26 rfl cw_RX9_60 dX9_see_23 (c_X9_in) (by omega) (Nat.le_of_ble_eq_true rfl) ?_
    refine gn_if_eq 41 (by decide) 29 rfl dX9_see_26 (by split <;> omega) (fun c26 => ?_) (fun c26 => ?_)
    · refine g_bipush (v := 4294967294) 43 rfl dX9_see_41 (by decide) ?_
      refine g_iret .int dX9_see_43 rfl (rfl) ?_
      exact ⟨rfl, rfl⟩
    · refine g_iload_n3 30 rfl dX9_see_29 ?_
      refine g_i2l 31 rfl dX9_see_30 ?_
      refine g_lconst (v := 0) 32 rfl dX9_see_31 rfl ?_
      refine g_ldc2 35 rfl kl_RX9_197 dX9_see_32 ?_
      refine g_cs3i 38 rfl cw_RX9_60 dX9_see_35 (c_X9_in) (by omega) (Nat.le_of_ble_eq_true rfl) ?_
      refine gn_if_ne 44 (by decide) 41 rfl dX9_see_38 (by split <;> omega) (fun c38 => absurd (show False by grind) (fun z => z)) (fun c38 => ?_)
      refine g_bipush (v := 4294967294) 43 rfl dX9_see_41 (by decide) ?_
      refine g_iret .int dX9_see_43 rfl (rfl) ?_
      exact ⟨rfl, rfl⟩
theorem c_X9_see_full {k t q : Nat} (h0 : h.1 22 0 = 0) (hk : k ≤ 3) (ht : t ≤ 9) (hq : q ≤ 10) (hn : h.1 22 20 = 6) : Rti V 2 yX9_see cX9_see 4 (some .int) [rf V 22, .int (nI k), .int (nI t), .int (nI q)] h (nI 4294967292) h := by
  have e1 : (if (0 : Int64) ≤ (nI k).toInt64 ∧ (nI k).toInt64 ≤ 3 then 1 else 0) = 1 := if_pos ((in_c (n := k) (a := 0) (b := 3) (by omega) (by decide) (by decide) rfl rfl).mpr ⟨by omega, hk⟩)
  have e2 : (if (0 : Int64) ≤ (nI t).toInt64 ∧ (nI t).toInt64 ≤ 9 then 1 else 0) = 1 := if_pos ((in_c (n := t) (a := 0) (b := 9) (by omega) (by decide) (by decide) rfl rfl).mpr ⟨by omega, ht⟩)
  have e3 : (if (0 : Int64) ≤ (nI q).toInt64 ∧ (nI q).toInt64 ≤ 10 then 1 else 0) = 1 := if_pos ((in_c (n := q) (a := 0) (b := 10) (by omega) (by decide) (by decide) rfl rfl).mpr ⟨by omega, hq⟩)
  refine Mt_in [some (rf V 22), some (.int (nI k)), some (.int (nI t)), some (.int (nI q))] (own := RX9) rfl (by decide) (Nat.le_of_ble_eq_true rfl) (fun q hq => hq) ?_
  refine g_aload_n0 1 rfl dX9_see_0 ?_
  refine g_iconst (v := 0) 2 rfl dX9_see_1 (by decide) ?_
  refine gp_Model_thrown 5 rfl fl_RX9_53 dX9_see_2 ?_
  rw [thr0 h0]
  refine g_iload_n1 6 rfl dX9_see_5 ?_
  refine g_i2l 7 rfl dX9_see_6 ?_
  refine g_lconst (v := 0) 8 rfl dX9_see_7 rfl ?_
  refine g_ldc2 11 rfl kl_RX9_195 dX9_see_8 ?_
  refine g_cs3i 14 rfl cw_RX9_60 dX9_see_11 (c_X9_in) (by omega) (Nat.le_of_ble_eq_true rfl) ?_
  rw [e1]
  refine gn_if_eq 41 (by decide) 17 rfl dX9_see_14 (by omega) (fun c14 => absurd c14 (by decide)) (fun c14 => ?_)
  refine g_iload_n2 18 rfl dX9_see_17 ?_
  refine g_i2l 19 rfl dX9_see_18 ?_
  refine g_lconst (v := 0) 20 rfl dX9_see_19 rfl ?_
  refine g_ldc2 23 rfl kl_RX9_172 dX9_see_20 ?_
  refine g_cs3i 26 rfl cw_RX9_60 dX9_see_23 (c_X9_in) (by omega) (Nat.le_of_ble_eq_true rfl) ?_
  rw [e2]
  refine gn_if_eq 41 (by decide) 29 rfl dX9_see_26 (by omega) (fun c26 => absurd c26 (by decide)) (fun c26 => ?_)
  refine g_iload_n3 30 rfl dX9_see_29 ?_
  refine g_i2l 31 rfl dX9_see_30 ?_
  refine g_lconst (v := 0) 32 rfl dX9_see_31 rfl ?_
  refine g_ldc2 35 rfl kl_RX9_197 dX9_see_32 ?_
  refine g_cs3i 38 rfl cw_RX9_60 dX9_see_35 (c_X9_in) (by omega) (Nat.le_of_ble_eq_true rfl) ?_
  rw [e3]
  refine gn_if_ne 44 (by decide) 41 rfl dX9_see_38 (by omega) (fun c38 => ?_) (fun c38 => absurd c38 (by decide))
  refine g_aload_n0 45 rfl dX9_see_44 ?_
  refine gf_Model_seen 48 rfl fl_RX9_125 dX9_see_45 ?_
  refine g_bipush (v := 6) 50 rfl dX9_see_48 (by decide) ?_
  refine gn_icmp_ne 56 (by decide) 53 rfl dX9_see_50 (by omega) (by omega) (fun c50 => absurd hn c50) (fun c50 => ?_)
  refine g_bipush (v := 4294967292) 55 rfl dX9_see_53 (by decide) ?_
  refine g_iret .int dX9_see_55 rfl (rfl) ?_
  exact ⟨rfl, rfl⟩
def seeM (h : Hp) (k t q : Nat) : Hp := sR (sR (sR (sR h 33 (up (h.1 33) (h.1 22 20) k)) 34 (up (h.1 34) (h.1 22 20) t)) 35 (up (h.1 35) (h.1 22 20) q)) 22 (up (h.1 22) 20 (h.1 22 20 + 1))
theorem c_X9_see_ok {k t q : Nat} (h0 : h.1 22 0 = 0) (hk : k ≤ 3) (ht : t ≤ 9) (hq : q ≤ 10) (hn : h.1 22 20 < 6) : Rti V 2 yX9_see cX9_see 4 (some .int) [rf V 22, .int (nI k), .int (nI t), .int (nI q)] h (nI (h.1 22 20 + 1)) (seeM h k t q) := by
  have e1 : (if (0 : Int64) ≤ (nI k).toInt64 ∧ (nI k).toInt64 ≤ 3 then 1 else 0) = 1 := if_pos ((in_c (n := k) (a := 0) (b := 3) (by omega) (by decide) (by decide) rfl rfl).mpr ⟨by omega, hk⟩)
  have e2 : (if (0 : Int64) ≤ (nI t).toInt64 ∧ (nI t).toInt64 ≤ 9 then 1 else 0) = 1 := if_pos ((in_c (n := t) (a := 0) (b := 9) (by omega) (by decide) (by decide) rfl rfl).mpr ⟨by omega, ht⟩)
  have e3 : (if (0 : Int64) ≤ (nI q).toInt64 ∧ (nI q).toInt64 ≤ 10 then 1 else 0) = 1 := if_pos ((in_c (n := q) (a := 0) (b := 10) (by omega) (by decide) (by decide) rfl rfl).mpr ⟨by omega, hq⟩)
  refine Mt_in [some (rf V 22), some (.int (nI k)), some (.int (nI t)), some (.int (nI q))] (own := RX9) rfl (by decide) (Nat.le_of_ble_eq_true rfl) (fun q hq => hq) ?_
  refine g_aload_n0 1 rfl dX9_see_0 ?_
  refine g_iconst (v := 0) 2 rfl dX9_see_1 (by decide) ?_
  refine gp_Model_thrown 5 rfl fl_RX9_53 dX9_see_2 ?_
  rw [thr0 h0]
  refine g_iload_n1 6 rfl dX9_see_5 ?_
  refine g_i2l 7 rfl dX9_see_6 ?_
  refine g_lconst (v := 0) 8 rfl dX9_see_7 rfl ?_
  refine g_ldc2 11 rfl kl_RX9_195 dX9_see_8 ?_
  refine g_cs3i 14 rfl cw_RX9_60 dX9_see_11 (c_X9_in) (by omega) (Nat.le_of_ble_eq_true rfl) ?_
  rw [e1]
  refine gn_if_eq 41 (by decide) 17 rfl dX9_see_14 (by omega) (fun c14 => absurd c14 (by decide)) (fun c14 => ?_)
  refine g_iload_n2 18 rfl dX9_see_17 ?_
  refine g_i2l 19 rfl dX9_see_18 ?_
  refine g_lconst (v := 0) 20 rfl dX9_see_19 rfl ?_
  refine g_ldc2 23 rfl kl_RX9_172 dX9_see_20 ?_
  refine g_cs3i 26 rfl cw_RX9_60 dX9_see_23 (c_X9_in) (by omega) (Nat.le_of_ble_eq_true rfl) ?_
  rw [e2]
  refine gn_if_eq 41 (by decide) 29 rfl dX9_see_26 (by omega) (fun c26 => absurd c26 (by decide)) (fun c26 => ?_)
  refine g_iload_n3 30 rfl dX9_see_29 ?_
  refine g_i2l 31 rfl dX9_see_30 ?_
  refine g_lconst (v := 0) 32 rfl dX9_see_31 rfl ?_
  refine g_ldc2 35 rfl kl_RX9_197 dX9_see_32 ?_
  refine g_cs3i 38 rfl cw_RX9_60 dX9_see_35 (c_X9_in) (by omega) (Nat.le_of_ble_eq_true rfl) ?_
  rw [e3]
  refine gn_if_ne 44 (by decide) 41 rfl dX9_see_38 (by omega) (fun c38 => ?_) (fun c38 => absurd c38 (by decide))
  refine g_aload_n0 45 rfl dX9_see_44 ?_
  refine gf_Model_seen 48 rfl fl_RX9_125 dX9_see_45 ?_
  refine g_bipush (v := 6) 50 rfl dX9_see_48 (by decide) ?_
  refine gn_icmp_ne 56 (by decide) 53 rfl dX9_see_50 (by omega) (by omega) (fun c50 => ?_) (fun c50 => absurd c50 (by omega))
  refine g_aload_n0 57 rfl dX9_see_56 ?_
  refine gf_Model_seenKind 60 rfl fl_RX9_41 dX9_see_57 ?_
  refine g_aload_n0 61 rfl dX9_see_60 ?_
  refine gf_Model_seen 64 rfl fl_RX9_125 dX9_see_61 ?_
  refine g_iload_n1 65 rfl dX9_see_64 ?_
  refine gs_33 66 rfl (by omega) dX9_see_65 ?_
  refine g_aload_n0 67 rfl dX9_see_66 ?_
  refine gf_Model_seenHeat 70 rfl fl_RX9_44 dX9_see_67 ?_
  refine g_aload_n0 71 rfl dX9_see_70 ?_
  refine gf_Model_seen 74 rfl fl_RX9_125 dX9_see_71 ?_
  refine g_iload_n2 75 rfl dX9_see_74 ?_
  refine gs_34 76 rfl (show h.1 22 20 < 6 by omega) dX9_see_75 ?_
  refine g_aload_n0 77 rfl dX9_see_76 ?_
  refine gf_Model_seenTears 80 rfl fl_RX9_47 dX9_see_77 ?_
  refine g_aload_n0 81 rfl dX9_see_80 ?_
  refine gf_Model_seen 84 rfl fl_RX9_125 dX9_see_81 ?_
  refine g_iload_n3 85 rfl dX9_see_84 ?_
  refine gs_35 86 rfl (show h.1 22 20 < 6 by omega) dX9_see_85 ?_
  refine g_aload_n0 87 rfl dX9_see_86 ?_
  refine g_dup 88 rfl dX9_see_87 rfl ?_
  refine gf_Model_seen 91 rfl fl_RX9_125 dX9_see_88 ?_
  refine g_iconst (v := 1) 92 rfl dX9_see_91 (by decide) ?_
  refine gn_iadd 93 rfl dX9_see_92 ?_
  refine gp_Model_seen 96 rfl fl_RX9_125 dX9_see_93 ?_
  refine g_aload_n0 97 rfl dX9_see_96 ?_
  refine gf_Model_seen 100 rfl fl_RX9_125 dX9_see_97 ?_
  refine g_iret .int dX9_see_100 rfl (rfl) ?_
  exact ⟨rfl, rfl⟩
theorem c_X9_unsee (h0 : h.1 22 0 = 0) : Rti V 1 yX9_unsee cX9_unsee 2 (some .int) [rf V 22] h (nI (h.1 22 20)) (sR h 22 (up (h.1 22) 20 0)) := by
  refine Mt_in [some (rf V 22), none] (own := RX9) rfl (by decide) (Nat.le_of_ble_eq_true rfl) (fun q hq => hq) ?_
  refine g_aload_n0 1 rfl dX9_unsee_0 ?_
  refine g_iconst (v := 0) 2 rfl dX9_unsee_1 (by decide) ?_
  refine gp_Model_thrown 5 rfl fl_RX9_53 dX9_unsee_2 ?_
  rw [thr0 h0]
  refine g_aload_n0 6 rfl dX9_unsee_5 ?_
  refine gf_Model_seen 9 rfl fl_RX9_125 dX9_unsee_6 ?_
  refine g_istore_n1 10 rfl dX9_unsee_9 (by decide) rfl ?_
  refine g_aload_n0 11 rfl dX9_unsee_10 ?_
  refine g_iconst (v := 0) 12 rfl dX9_unsee_11 (by decide) ?_
  refine gp_Model_seen 15 rfl fl_RX9_125 dX9_unsee_12 ?_
  refine g_iload_n1 16 rfl dX9_unsee_15 ?_
  refine g_iret .int dX9_unsee_16 rfl (rfl) ?_
  exact ⟨rfl, rfl⟩
theorem c_X9_palates_bad {k : Nat} (h0 : h.1 22 0 = 0) (hk : k < 2 ^ 32) (h3 : ¬ k ≤ 3) : Rti V 2 yX9_palates cX9_palates 6 (some .int) [rf V 22, .int (nI k)] h (nI 4294967294) h := by
  have e1 : (if (0 : Int64) ≤ (nI k).toInt64 ∧ (nI k).toInt64 ≤ 3 then 1 else 0) = 0 := if_neg (fun q => h3 ((in_c (n := k) (a := 0) (b := 3) hk (by decide) (by decide) rfl rfl).mp q).2)
  refine Mt_in [some (rf V 22), some (.int (nI k)), none, none, none, none] (own := RX9) rfl (by decide) (Nat.le_of_ble_eq_true rfl) (fun q hq => hq) ?_
  refine g_aload_n0 1 rfl dX9_palates_0 ?_
  refine g_iconst (v := 0) 2 rfl dX9_palates_1 (by decide) ?_
  refine gp_Model_thrown 5 rfl fl_RX9_53 dX9_palates_2 ?_
  rw [thr0 h0]
  refine g_iload_n1 6 rfl dX9_palates_5 ?_
  refine g_i2l 7 rfl dX9_palates_6 ?_
  refine g_lconst (v := 0) 8 rfl dX9_palates_7 rfl ?_
  refine g_ldc2 11 rfl kl_RX9_195 dX9_palates_8 ?_
  refine g_cs3i 14 rfl cw_RX9_60 dX9_palates_11 (c_X9_in) (by omega) (Nat.le_of_ble_eq_true rfl) ?_
  rw [e1]
  refine gn_if_ne 20 (by decide) 17 rfl dX9_palates_14 (by omega) (fun c14 => absurd rfl c14) (fun c14 => ?_)
  refine g_bipush (v := 4294967294) 19 rfl dX9_palates_17 (by decide) ?_
  refine g_iret .int dX9_palates_19 rfl (rfl) ?_
  exact ⟨rfl, rfl⟩
theorem c_X9_palates_ok {k : Nat} (h0 : h.1 22 0 = 0) (hn : h.1 22 20 ≤ 6) (hK : ∀ j, h.1 33 j ≤ 3) (hH : ∀ j, h.1 34 j ≤ 9) (hQ : ∀ j, h.1 35 j ≤ 10) (h3 : k ≤ 3) : Rti V 2 yX9_palates cX9_palates 6 (some .int) [rf V 22, .int (nI k)] h (nI (palB (h.1 33) (h.1 34) (h.1 35) k (h.1 22 20) 10)) h := by
  have e1 : (if (0 : Int64) ≤ (nI k).toInt64 ∧ (nI k).toInt64 ≤ 3 then 1 else 0) = 1 := if_pos ((in_c (n := k) (a := 0) (b := 3) (by omega) (by decide) (by decide) rfl rfl).mpr ⟨by omega, h3⟩)
  refine Mt_in [some (rf V 22), some (.int (nI k)), none, none, none, none] (own := RX9) rfl (by decide) (Nat.le_of_ble_eq_true rfl) (fun q hq => hq) ?_
  refine g_aload_n0 1 rfl dX9_palates_0 ?_
  refine g_iconst (v := 0) 2 rfl dX9_palates_1 (by decide) ?_
  refine gp_Model_thrown 5 rfl fl_RX9_53 dX9_palates_2 ?_
  rw [thr0 h0]
  refine g_iload_n1 6 rfl dX9_palates_5 ?_
  refine g_i2l 7 rfl dX9_palates_6 ?_
  refine g_lconst (v := 0) 8 rfl dX9_palates_7 rfl ?_
  refine g_ldc2 11 rfl kl_RX9_195 dX9_palates_8 ?_
  refine g_cs3i 14 rfl cw_RX9_60 dX9_palates_11 (c_X9_in) (by omega) (Nat.le_of_ble_eq_true rfl) ?_
  rw [e1]
  refine gn_if_ne 20 (by decide) 17 rfl dX9_palates_14 (by omega) (fun c14 => ?_) (fun c14 => absurd c14 (by decide))
  refine g_iconst (v := 0) 21 rfl dX9_palates_20 (by decide) ?_
  refine g_istore_n2 22 rfl dX9_palates_21 (by decide) rfl ?_
  refine g_iconst (v := 0) 23 rfl dX9_palates_22 (by decide) ?_
  refine g_istore_n3 24 rfl dX9_palates_23 (by decide) rfl ?_
  skip
  refine loop_up (P := fun p => G V T0 2 RX9 cX9_palates 6 (some .int) 24 [some (rf V 22), some (.int (nI k)), some (.int (nI (palB (h.1 33) (h.1 34) (h.1 35) k (h.1 22 20) p))), some (.int (nI p)), none, none] [] h _) (n := 10) ?_ (fun p hp ih => ?_) 0 (Nat.zero_le _)
  · refine g_iload_n3 25 rfl dX9_palates_24 ?_
    refine g_bipush (v := 10) 27 rfl dX9_palates_25 (by decide) ?_
    refine gn_icmp_ge 117 (by decide) 30 rfl dX9_palates_27 (by omega) (by omega) (fun c27 => ?_) (fun c27 => absurd c27 (by omega))
    refine g_iload_n2 118 rfl dX9_palates_117 ?_
    refine g_iret .int dX9_palates_118 rfl (rfl) ?_
    exact ⟨rfl, rfl⟩
  · refine g_iload_n3 25 rfl dX9_palates_24 ?_
    refine g_bipush (v := 10) 27 rfl dX9_palates_25 (by decide) ?_
    refine gn_icmp_ge 117 (by decide) 30 rfl dX9_palates_27 (by omega) (by omega) (fun c27 => absurd c27 (by omega)) (fun c27 => ?_)
    refine g_iconst (v := 1) 31 rfl dX9_palates_30 (by decide) ?_
    refine g_istore4 33 rfl dX9_palates_31 (by decide) rfl ?_
    refine g_iconst (v := 0) 34 rfl dX9_palates_33 (by decide) ?_
    refine g_istore5 36 rfl dX9_palates_34 (by decide) rfl ?_
    skip
    refine loop_up (P := fun i => G V T0 2 RX9 cX9_palates 6 (some .int) 36 [some (rf V 22), some (.int (nI k)), some (.int (nI (palB (h.1 33) (h.1 34) (h.1 35) k (h.1 22 20) p))), some (.int (nI p)), some (.int (nI (fitB (h.1 33) (h.1 34) (h.1 35) k p i).toNat)), some (.int (nI i))] [] h _) (n := h.1 22 20) ?_ (fun i hi ih2 => ?_) 0 (Nat.zero_le _)
    · refine g_iload5 38 rfl dX9_palates_36 ?_
      refine g_aload_n0 39 rfl dX9_palates_38 ?_
      refine gf_Model_seen 42 rfl fl_RX9_125 dX9_palates_39 ?_
      refine gn_icmp_ge 96 (by decide) 45 rfl dX9_palates_42 (by omega) (by omega) (fun c42 => ?_) (fun c42 => absurd c42 (Nat.lt_irrefl _))
      refine g_iload_n2 97 rfl dX9_palates_96 ?_
      refine g_iload4 99 rfl dX9_palates_97 ?_
      refine gn_if_eq 108 (by decide) 102 rfl dX9_palates_99 (Nat.lt_of_lt_of_le (Bool.toNat_lt _) (by omega)) (fun c99 => ?_) (fun c99 => ?_)
      · refine g_iconst (v := 0) 109 rfl dX9_palates_108 (by decide) ?_
        refine gn_ior 110 rfl dX9_palates_109 ?_
        refine g_istore_n2 111 rfl dX9_palates_110 (by decide) rfl ?_
        refine gn_iinc3 1 114 rfl dX9_palates_111 rfl (by decide) rfl ?_
        refine g_goto 24 (by decide) dX9_palates_114 ?_
        refine g_none 4 (g_none 5 ?_)
        first | (rw [show palB _ _ _ _ _ (p + 1) = _ from if_neg (by simpa using c99)] at ih; rw [Nat.or_zero]; exact ih) | (rw [show palB _ _ _ _ _ (p + 1) = _ from if_pos (by simpa using c99)] at ih; exact ih)
      · refine g_iconst (v := 1) 103 rfl dX9_palates_102 (by decide) ?_
        refine g_iload_n3 104 rfl dX9_palates_103 ?_
        refine gn_ishl 105 rfl dX9_palates_104 (by omega) ?_
        refine g_goto 109 (by decide) dX9_palates_105 ?_
        refine gn_ior 110 rfl dX9_palates_109 ?_
        refine g_istore_n2 111 rfl dX9_palates_110 (by decide) rfl ?_
        refine gn_iinc3 1 114 rfl dX9_palates_111 rfl (by decide) rfl ?_
        refine g_goto 24 (by decide) dX9_palates_114 ?_
        refine g_none 4 (g_none 5 ?_)
        first | (rw [show palB _ _ _ _ _ (p + 1) = _ from if_neg (by simpa using c99)] at ih; rw [Nat.or_zero]; exact ih) | (rw [show palB _ _ _ _ _ (p + 1) = _ from if_pos (by simpa using c99)] at ih; exact ih)
    · have h1 := hK i
      have h2 := hH i
      have h4 := hQ i
      have h5 := pain_le (k := k) (p := p) h2
      have ih2 : G V T0 2 RX9 cX9_palates 6 (some .int) 36 [some (rf V 22), some (.int (nI k)), some (.int (nI (palB (h.1 33) (h.1 34) (h.1 35) k (h.1 22 20) p))), some (.int (nI p)), some (.int (nI (fitB (h.1 33) (h.1 34) (h.1 35) k p i && (!decide (h.1 33 i = k) || decide (pain k p (h.1 34 i) = h.1 35 i))).toNat)), some (.int (nI (i + 1)))] [] h _ := ih2
      refine g_iload5 38 rfl dX9_palates_36 ?_
      refine g_aload_n0 39 rfl dX9_palates_38 ?_
      refine gf_Model_seen 42 rfl fl_RX9_125 dX9_palates_39 ?_
      refine gn_icmp_ge 96 (by decide) 45 rfl dX9_palates_42 (by omega) (by omega) (fun c42 => absurd c42 (Nat.not_le_of_lt hi)) (fun c42 => ?_)
      refine g_iload4 47 rfl dX9_palates_45 ?_
      refine gn_if_eq 87 (by decide) 50 rfl dX9_palates_47 (Nat.lt_of_lt_of_le (Bool.toNat_lt _) (by omega)) (fun c47 => ?_) (fun c47 => ?_)
      · refine g_iconst (v := 0) 88 rfl dX9_palates_87 (by decide) ?_
        refine g_istore4 90 rfl dX9_palates_88 (by decide) rfl ?_
        refine gn_iinc5 1 93 rfl dX9_palates_90 rfl (by decide) rfl ?_
        refine g_goto 36 (by decide) dX9_palates_93 ?_
        first
        | (have q : fitB (h.1 33) (h.1 34) (h.1 35) k p i = false := by simpa using c47
           rw [q, Bool.false_and] at ih2; exact ih2)
        | (have q : fitB (h.1 33) (h.1 34) (h.1 35) k p i = true := by simpa using c47
           rw [q, Bool.true_and] at ih2
           first | (rw [decide_eq_false c58] at ih2; exact ih2) | (rw [decide_eq_true c58, decide_eq_false c80] at ih2; exact ih2) | (rw [decide_eq_true c58, decide_eq_true c80] at ih2; exact ih2))
      · refine g_aload_n0 51 rfl dX9_palates_50 ?_
        refine gf_Model_seenKind 54 rfl fl_RX9_41 dX9_palates_51 ?_
        refine g_iload5 56 rfl dX9_palates_54 ?_
        refine ga_33 57 rfl (by omega) dX9_palates_56 ?_
        refine g_iload_n1 58 rfl dX9_palates_57 ?_
        refine gn_icmp_ne 83 (by decide) 61 rfl dX9_palates_58 (by omega) (by omega) (fun c58 => ?_) (fun c58 => ?_)
        · refine g_iconst (v := 1) 84 rfl dX9_palates_83 (by decide) ?_
          refine g_goto 88 (by decide) dX9_palates_84 ?_
          refine g_istore4 90 rfl dX9_palates_88 (by decide) rfl ?_
          refine gn_iinc5 1 93 rfl dX9_palates_90 rfl (by decide) rfl ?_
          refine g_goto 36 (by decide) dX9_palates_93 ?_
          first
          | (have q : fitB (h.1 33) (h.1 34) (h.1 35) k p i = false := by simpa using c47
             rw [q, Bool.false_and] at ih2; exact ih2)
          | (have q : fitB (h.1 33) (h.1 34) (h.1 35) k p i = true := by simpa using c47
             rw [q, Bool.true_and] at ih2
             first | (rw [decide_eq_false c58] at ih2; exact ih2) | (rw [decide_eq_true c58, decide_eq_false c80] at ih2; exact ih2) | (rw [decide_eq_true c58, decide_eq_true c80] at ih2; exact ih2))
        · refine g_iload_n3 62 rfl dX9_palates_61 ?_
          refine g_iload_n1 63 rfl dX9_palates_62 ?_
          refine g_aload_n0 64 rfl dX9_palates_63 ?_
          refine gf_Model_seenHeat 67 rfl fl_RX9_44 dX9_palates_64 ?_
          refine g_iload5 69 rfl dX9_palates_67 ?_
          refine ga_34 70 rfl (by omega) dX9_palates_69 ?_
          refine g_cs3i 73 rfl cw_RX9_106 dX9_palates_70 (c_X9_painBy h3 (by omega) h2) (by omega) (Nat.le_of_ble_eq_true rfl) ?_
          refine g_aload_n0 74 rfl dX9_palates_73 ?_
          refine gf_Model_seenTears 77 rfl fl_RX9_47 dX9_palates_74 ?_
          refine g_iload5 79 rfl dX9_palates_77 ?_
          refine ga_35 80 rfl (by omega) dX9_palates_79 ?_
          refine gn_icmp_ne 87 (by decide) 83 rfl dX9_palates_80 (by omega) (by omega) (fun c80 => ?_) (fun c80 => ?_)
          · refine g_iconst (v := 0) 88 rfl dX9_palates_87 (by decide) ?_
            refine g_istore4 90 rfl dX9_palates_88 (by decide) rfl ?_
            refine gn_iinc5 1 93 rfl dX9_palates_90 rfl (by decide) rfl ?_
            refine g_goto 36 (by decide) dX9_palates_93 ?_
            first
            | (have q : fitB (h.1 33) (h.1 34) (h.1 35) k p i = false := by simpa using c47
               rw [q, Bool.false_and] at ih2; exact ih2)
            | (have q : fitB (h.1 33) (h.1 34) (h.1 35) k p i = true := by simpa using c47
               rw [q, Bool.true_and] at ih2
               first | (rw [decide_eq_false c58] at ih2; exact ih2) | (rw [decide_eq_true c58, decide_eq_false c80] at ih2; exact ih2) | (rw [decide_eq_true c58, decide_eq_true c80] at ih2; exact ih2))
          · refine g_iconst (v := 1) 84 rfl dX9_palates_83 (by decide) ?_
            refine g_goto 88 (by decide) dX9_palates_84 ?_
            refine g_istore4 90 rfl dX9_palates_88 (by decide) rfl ?_
            refine gn_iinc5 1 93 rfl dX9_palates_90 rfl (by decide) rfl ?_
            refine g_goto 36 (by decide) dX9_palates_93 ?_
            first
            | (have q : fitB (h.1 33) (h.1 34) (h.1 35) k p i = false := by simpa using c47
               rw [q, Bool.false_and] at ih2; exact ih2)
            | (have q : fitB (h.1 33) (h.1 34) (h.1 35) k p i = true := by simpa using c47
               rw [q, Bool.true_and] at ih2
               first | (rw [decide_eq_false c58] at ih2; exact ih2) | (rw [decide_eq_true c58, decide_eq_false c80] at ih2; exact ih2) | (rw [decide_eq_true c58, decide_eq_true c80] at ih2; exact ih2))
theorem c_X9_lossOf {e own oth : Nat} (hm : MI h) (he : e < 4) (h1 : own ≤ 4) (h2 : oth ≤ 4) : Rti V 3 yX9_lossOf cX9_lossOf 7 (some .int) [rf V 22, .int (nI e), .int (nI own), .int (nI oth)] h (nI (lossF (h.1 24) e own oth (h.1 28 0))) h := by
  obtain ⟨hE, hC, x4, x5, x7, x8, hT, hT9⟩ := id hm
  have ht := hT.1
  refine Mt_in [some (rf V 22), some (.int (nI e)), some (.int (nI own)), some (.int (nI oth)), none, none, none] (own := RX9) rfl (by decide) (Nat.le_of_ble_eq_true rfl) (fun q hq => hq) ?_
  have K : ∀ z, z = min own oth → G V T0 3 RX9 cX9_lossOf 7 (some .int) 36 [some (rf V 22), some (.int (nI e)), some (.int (nI own)), some (.int (nI oth)), some (.int (nI z)), some (.int (nI (lossB own oth))), some (.int (nI 0))] [] h (fun v g => v = some (.int (nI (lossF (h.1 24) e own oth (h.1 28 0)))) ∧ g = h) := by
    intro z hz
    subst hz
    refine loop_up (P := fun k => G V T0 3 RX9 cX9_lossOf 7 (some .int) 36 [some (rf V 22), some (.int (nI e)), some (.int (nI own)), some (.int (nI oth)), some (.int (nI (min own oth))), some (.int (nI (lossB own oth + lossN (h.1 24) e (h.1 28 0) k))), some (.int (nI k))] [] h _) (n := min own oth) ?_ (fun k hk ih => ?_) 0 (Nat.zero_le _)
    · refine g_iload6 38 rfl dX9_lossOf_36 ?_
      refine g_iload4 40 rfl dX9_lossOf_38 ?_
      refine gn_icmp_ge 83 (by decide) 43 rfl dX9_lossOf_40 (by omega) (by omega) (fun c40 => ?_) (fun c40 => absurd c40 (Nat.lt_irrefl _))
      refine g_iload5 85 rfl dX9_lossOf_83 ?_
      refine g_iret .int dX9_lossOf_85 rfl (rfl) ?_
      exact ⟨rfl, rfl⟩
    · have ih : G V T0 3 RX9 cX9_lossOf 7 (some .int) 36 [some (rf V 22), some (.int (nI e)), some (.int (nI own)), some (.int (nI oth)), some (.int (nI (min own oth))), some (.int (nI (lossB own oth + (lossN (h.1 24) e (h.1 28 0) k + pain (h.1 24 (3 * e + 2)) (h.1 24 (3 * e)) (h.1 28 0 - k))))), some (.int (nI (k + 1)))] [] h _ := ih
      refine g_iload6 38 rfl dX9_lossOf_36 ?_
      refine g_iload4 40 rfl dX9_lossOf_38 ?_
      refine gn_icmp_ge 83 (by decide) 43 rfl dX9_lossOf_40 (by omega) (by omega) (fun c40 => absurd c40 (Nat.not_le_of_lt hk)) (fun c40 => ?_)
      refine g_iload5 45 rfl dX9_lossOf_43 ?_
      refine g_aload_n0 46 rfl dX9_lossOf_45 ?_
      refine g_iload_n1 47 rfl dX9_lossOf_46 ?_
      refine g_aload_n0 48 rfl dX9_lossOf_47 ?_
      refine gf_Model_page 51 rfl fl_RX9_25 dX9_lossOf_48 ?_
      refine g_iconst (v := 0) 52 rfl dX9_lossOf_51 (by decide) ?_
      refine ga_28 53 rfl (by omega) dX9_lossOf_52 ?_
      refine g_iload6 55 rfl dX9_lossOf_53 ?_
      refine gn_icmp_le 70 (by decide) 58 rfl dX9_lossOf_55 (by omega) (by omega) (fun c55 => ?_) (fun c55 => ?_)
      · refine g_iconst (v := 0) 71 rfl dX9_lossOf_70 (by decide) ?_
        refine g_cv2i 74 rfl cw_RX9_118 dX9_lossOf_71 (c_X9_painOf he (x5 e) (x4 _) (by omega)) (by omega) (ob_22 V) (Nat.le_of_ble_eq_true rfl) ?_
        refine gn_iadd 75 rfl dX9_lossOf_74 ?_
        refine g_istore5 77 rfl dX9_lossOf_75 (by decide) rfl ?_
        refine gn_iinc6 1 80 rfl dX9_lossOf_77 rfl (by decide) rfl ?_
        refine g_goto 36 (by decide) dX9_lossOf_80 ?_
        rw [Nat.add_assoc]
        first | exact ih | (rw [show h.1 28 0 - k = 0 by omega] at ih; exact ih)
      · refine g_aload_n0 59 rfl dX9_lossOf_58 ?_
        refine gf_Model_page 62 rfl fl_RX9_25 dX9_lossOf_59 ?_
        refine g_iconst (v := 0) 63 rfl dX9_lossOf_62 (by decide) ?_
        refine ga_28 64 rfl (by omega) dX9_lossOf_63 ?_
        refine g_iload6 66 rfl dX9_lossOf_64 ?_
        refine gn_isub 67 rfl dX9_lossOf_66 (by omega) ?_
        refine g_goto 71 (by decide) dX9_lossOf_67 ?_
        refine g_cv2i 74 rfl cw_RX9_118 dX9_lossOf_71 (c_X9_painOf he (x5 e) (x4 _) (by omega)) (by omega) (ob_22 V) (Nat.le_of_ble_eq_true rfl) ?_
        refine gn_iadd 75 rfl dX9_lossOf_74 ?_
        refine g_istore5 77 rfl dX9_lossOf_75 (by decide) rfl ?_
        refine gn_iinc6 1 80 rfl dX9_lossOf_77 rfl (by decide) rfl ?_
        refine g_goto 36 (by decide) dX9_lossOf_80 ?_
        rw [Nat.add_assoc]
        first | exact ih | (rw [show h.1 28 0 - k = 0 by omega] at ih; exact ih)
  refine g_iload_n2 1 rfl dX9_lossOf_0 ?_
  refine g_iload_n3 2 rfl dX9_lossOf_1 ?_
  refine gn_icmp_ge 9 (by decide) 5 rfl dX9_lossOf_2 (by omega) (by omega) (fun c2 => ?_) (fun c2 => ?_)
  · refine g_iload_n3 10 rfl dX9_lossOf_9 ?_
    refine g_istore4 12 rfl dX9_lossOf_10 (by decide) rfl ?_
    refine g_iload_n2 13 rfl dX9_lossOf_12 ?_
    refine g_iload_n3 14 rfl dX9_lossOf_13 ?_
    refine gn_icmp_ne 21 (by decide) 17 rfl dX9_lossOf_14 (by omega) (by omega) (fun c14 => ?_) (fun c14 => ?_)
    · refine g_iload_n2 22 rfl dX9_lossOf_21 ?_
      refine g_iload_n3 23 rfl dX9_lossOf_22 ?_
      refine gn_icmp_ge 30 (by decide) 26 rfl dX9_lossOf_23 (by omega) (by omega) (fun c23 => ?_) (fun c23 => ?_)
      · refine g_iconst (v := 0) 31 rfl dX9_lossOf_30 (by decide) ?_
        refine g_istore5 33 rfl dX9_lossOf_31 (by decide) rfl ?_
        refine g_iconst (v := 0) 34 rfl dX9_lossOf_33 (by decide) ?_
        refine g_istore6 36 rfl dX9_lossOf_34 (by decide) rfl ?_
        first
        | (rw [show lossB own oth = 4 from if_pos c23] at K; exact K _ (by omega))
        | (rw [show lossB own oth = 2 from (if_neg (by omega)).trans (if_pos c14)] at K; exact K _ (by omega))
        | (rw [show lossB own oth = 0 from (if_neg (by omega)).trans (if_neg c14)] at K; exact K _ (by omega))
      · refine g_iconst (v := 4) 27 rfl dX9_lossOf_26 (by decide) ?_
        refine g_goto 31 (by decide) dX9_lossOf_27 ?_
        refine g_istore5 33 rfl dX9_lossOf_31 (by decide) rfl ?_
        refine g_iconst (v := 0) 34 rfl dX9_lossOf_33 (by decide) ?_
        refine g_istore6 36 rfl dX9_lossOf_34 (by decide) rfl ?_
        first
        | (rw [show lossB own oth = 4 from if_pos c23] at K; exact K _ (by omega))
        | (rw [show lossB own oth = 2 from (if_neg (by omega)).trans (if_pos c14)] at K; exact K _ (by omega))
        | (rw [show lossB own oth = 0 from (if_neg (by omega)).trans (if_neg c14)] at K; exact K _ (by omega))
    · refine g_iconst (v := 2) 18 rfl dX9_lossOf_17 (by decide) ?_
      refine g_goto 31 (by decide) dX9_lossOf_18 ?_
      refine g_istore5 33 rfl dX9_lossOf_31 (by decide) rfl ?_
      refine g_iconst (v := 0) 34 rfl dX9_lossOf_33 (by decide) ?_
      refine g_istore6 36 rfl dX9_lossOf_34 (by decide) rfl ?_
      first
      | (rw [show lossB own oth = 4 from if_pos c23] at K; exact K _ (by omega))
      | (rw [show lossB own oth = 2 from (if_neg (by omega)).trans (if_pos c14)] at K; exact K _ (by omega))
      | (rw [show lossB own oth = 0 from (if_neg (by omega)).trans (if_neg c14)] at K; exact K _ (by omega))
  · refine g_iload_n2 6 rfl dX9_lossOf_5 ?_
    refine g_goto 10 (by decide) dX9_lossOf_6 ?_
    refine g_istore4 12 rfl dX9_lossOf_10 (by decide) rfl ?_
    refine g_iload_n2 13 rfl dX9_lossOf_12 ?_
    refine g_iload_n3 14 rfl dX9_lossOf_13 ?_
    refine gn_icmp_ne 21 (by decide) 17 rfl dX9_lossOf_14 (by omega) (by omega) (fun c14 => ?_) (fun c14 => ?_)
    · refine g_iload_n2 22 rfl dX9_lossOf_21 ?_
      refine g_iload_n3 23 rfl dX9_lossOf_22 ?_
      refine gn_icmp_ge 30 (by decide) 26 rfl dX9_lossOf_23 (by omega) (by omega) (fun c23 => ?_) (fun c23 => ?_)
      · refine g_iconst (v := 0) 31 rfl dX9_lossOf_30 (by decide) ?_
        refine g_istore5 33 rfl dX9_lossOf_31 (by decide) rfl ?_
        refine g_iconst (v := 0) 34 rfl dX9_lossOf_33 (by decide) ?_
        refine g_istore6 36 rfl dX9_lossOf_34 (by decide) rfl ?_
        first
        | (rw [show lossB own oth = 4 from if_pos c23] at K; exact K _ (by omega))
        | (rw [show lossB own oth = 2 from (if_neg (by omega)).trans (if_pos c14)] at K; exact K _ (by omega))
        | (rw [show lossB own oth = 0 from (if_neg (by omega)).trans (if_neg c14)] at K; exact K _ (by omega))
      · refine g_iconst (v := 4) 27 rfl dX9_lossOf_26 (by decide) ?_
        refine g_goto 31 (by decide) dX9_lossOf_27 ?_
        refine g_istore5 33 rfl dX9_lossOf_31 (by decide) rfl ?_
        refine g_iconst (v := 0) 34 rfl dX9_lossOf_33 (by decide) ?_
        refine g_istore6 36 rfl dX9_lossOf_34 (by decide) rfl ?_
        first
        | (rw [show lossB own oth = 4 from if_pos c23] at K; exact K _ (by omega))
        | (rw [show lossB own oth = 2 from (if_neg (by omega)).trans (if_pos c14)] at K; exact K _ (by omega))
        | (rw [show lossB own oth = 0 from (if_neg (by omega)).trans (if_neg c14)] at K; exact K _ (by omega))
    · refine g_iconst (v := 2) 18 rfl dX9_lossOf_17 (by decide) ?_
      refine g_goto 31 (by decide) dX9_lossOf_18 ?_
      refine g_istore5 33 rfl dX9_lossOf_31 (by decide) rfl ?_
      refine g_iconst (v := 0) 34 rfl dX9_lossOf_33 (by decide) ?_
      refine g_istore6 36 rfl dX9_lossOf_34 (by decide) rfl ?_
      first
      | (rw [show lossB own oth = 4 from if_pos c23] at K; exact K _ (by omega))
      | (rw [show lossB own oth = 2 from (if_neg (by omega)).trans (if_pos c14)] at K; exact K _ (by omega))
      | (rw [show lossB own oth = 0 from (if_neg (by omega)).trans (if_neg c14)] at K; exact K _ (by omega))
end X9d
