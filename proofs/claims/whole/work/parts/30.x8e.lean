/-! MustardTreaty: chances, talks by a seed, slots -/
section X8e
variable {V : Vt} {h : Hp}
theorem c_X8_stillEats {e n s : Nat} (hx : XI h) (he : e < 4) (hn : n ≤ 6) (hs : s < 2 ^ 31) : Rti V 3 yX8_stillEats cX8_stillEats 6 (some .boolean) [rf V 0, .int (nI e), .int (nI n), .int (nI s)] h (nI (decide (stT (h.1 4) (h.1 (tr 0)) e s n < 2 * h.1 4 (3 * e + 1))).toNat) h := by
  obtain ⟨hE, hC, x4, x5, x7, x8, hTT⟩ := id hx
  have hT := hTT 0
  have h0 := hT.1
  have ht := (hT.2.2.2.2.2.1 e he).1
  have hw := x4 (3 * e + 1)
  refine Mt_in [some (rf V 0), some (.int (nI e)), some (.int (nI n)), some (.int (nI s)), none, none] (own := RX8) rfl (by decide) (Nat.le_of_ble_eq_true rfl) (fun q hq => hq) ?_
  refine g_aload_n0 1 rfl dX8_stillEats_0 ?_
  refine gf_MT_table 4 rfl fl_RX8_28 dX8_stillEats_1 ?_
  refine gf_Table_tears 7 rfl (by omega) fl_RX8_134 dX8_stillEats_4 ?_
  refine g_iload_n1 8 rfl dX8_stillEats_7 ?_
  refine ga_tt 9 rfl (by omega) (by omega) dX8_stillEats_8 ?_
  refine g_istore4 11 rfl dX8_stillEats_9 (by decide) rfl ?_
  refine g_iconst (v := 0) 12 rfl dX8_stillEats_11 (by decide) ?_
  refine g_istore5 14 rfl dX8_stillEats_12 (by decide) rfl ?_
  skip
  refine loop_up (P := fun k => G V T0 3 RX8 cX8_stillEats 6 (some .boolean) 14 [some (rf V 0), some (.int (nI e)), some (.int (nI n)), some (.int (nI s)), some (.int (nI (stT (h.1 4) (h.1 (tr 0)) e s k))), some (.int (nI k))] [] h _) (n := n) ?_ (fun k hk ih => ?_) 0 (Nat.zero_le _)
  · have hl := stT_le (E := h.1 4) (s := s) h0 ht n
    refine g_iload5 16 rfl dX8_stillEats_14 ?_
    refine g_iload_n2 17 rfl dX8_stillEats_16 ?_
    refine gn_icmp_ge 62 (by decide) 20 rfl dX8_stillEats_17 (by omega) (by omega) (fun c17 => ?_) (fun c17 => absurd c17 (Nat.lt_irrefl _))
    refine g_iload4 64 rfl dX8_stillEats_62 ?_
    refine g_aload_n0 65 rfl dX8_stillEats_64 ?_
    refine gf_MT_rules 68 rfl fl_RX8_19 dX8_stillEats_65 ?_
    refine g_iload_n1 69 rfl dX8_stillEats_68 ?_
    refine g_cv1i 72 rfl cw_RX8_265 dX8_stillEats_69 (c_X1_tearsToStop he) (by omega) (ob_3 V) (Nat.le_of_ble_eq_true rfl) ?_
    refine gn_icmp_ge 79 (by decide) 75 rfl dX8_stillEats_72 (by omega) (by omega) (fun c72 => ?_) (fun c72 => ?_)
    · refine g_iconst (v := 0) 80 rfl dX8_stillEats_79 (by decide) ?_
      refine g_iret .boolean dX8_stillEats_80 rfl (rfl) ?_
      refine ⟨congrArg (fun q => some (Value.int (nI q))) ?_, rfl⟩
      first | (rw [decide_eq_false (by omega)]; rfl) | (rw [decide_eq_true (by omega)]; rfl)
    · refine g_iconst (v := 1) 76 rfl dX8_stillEats_75 (by decide) ?_
      refine g_goto 80 (by decide) dX8_stillEats_76 ?_
      refine g_iret .boolean dX8_stillEats_80 rfl (rfl) ?_
      refine ⟨congrArg (fun q => some (Value.int (nI q))) ?_, rfl⟩
      first | (rw [decide_eq_false (by omega)]; rfl) | (rw [decide_eq_true (by omega)]; rfl)
  · refine g_iload5 16 rfl dX8_stillEats_14 ?_
    refine g_iload_n2 17 rfl dX8_stillEats_16 ?_
    refine gn_icmp_ge 62 (by decide) 20 rfl dX8_stillEats_17 (by omega) (by omega) (fun c17 => absurd c17 (Nat.not_le_of_lt hk)) (fun c17 => ?_)
    refine g_iload_n3 21 rfl dX8_stillEats_20 ?_
    refine g_iload5 23 rfl dX8_stillEats_21 ?_
    refine gn_ishr 24 rfl dX8_stillEats_23 (by omega) (by omega) ?_
    refine g_iconst (v := 1) 25 rfl dX8_stillEats_24 (by decide) ?_
    refine gn_iand 26 rfl dX8_stillEats_25 ?_
    refine gn_if_ne 56 (by decide) 29 rfl dX8_stillEats_26 (Nat.lt_of_lt_of_le (bt_lt s k) (by omega)) (fun c26 => ?_) (fun c26 => ?_)
    · refine gn_iinc5 1 59 rfl dX8_stillEats_56 rfl (by decide) rfl ?_
      refine g_goto 14 (by decide) dX8_stillEats_59 ?_
      first | (rw [show stT _ _ _ _ (k + 1) = _ from if_neg c26] at ih; exact ih) | (rw [show stT _ _ _ _ (k + 1) = _ from if_pos c26] at ih; exact ih)
    · refine g_iload4 31 rfl dX8_stillEats_29 ?_
      refine g_aload_n0 32 rfl dX8_stillEats_31 ?_
      refine gf_MT_rules 35 rfl fl_RX8_19 dX8_stillEats_32 ?_
      refine g_iload_n1 36 rfl dX8_stillEats_35 ?_
      refine g_iconst (v := 0) 37 rfl dX8_stillEats_36 (by decide) ?_
      refine g_aload_n0 38 rfl dX8_stillEats_37 ?_
      refine gf_MT_table 41 rfl fl_RX8_28 dX8_stillEats_38 ?_
      refine gf_Table_heat 44 rfl (by omega) fl_RX8_98 dX8_stillEats_41 ?_
      refine g_iload5 46 rfl dX8_stillEats_44 ?_
      refine g_isub 47 rfl dX8_stillEats_46  ?_
      refine g_max 50 rfl ml_RX8_236 dX8_stillEats_47 (by decide) (Nat.le_of_ble_eq_true rfl) ?_
      rw [fx_sub0 (by omega) (by omega)]
      refine g_cv2i 53 rfl cw_RX8_137 dX8_stillEats_50 (c_X1_pain he (x5 e) (x4 _) (by omega)) (by omega) (ob_3 V) (Nat.le_of_ble_eq_true rfl) ?_
      refine gn_iadd 54 rfl dX8_stillEats_53 ?_
      refine g_istore4 56 rfl dX8_stillEats_54 (by decide) rfl ?_
      refine gn_iinc5 1 59 rfl dX8_stillEats_56 rfl (by decide) rfl ?_
      refine g_goto 14 (by decide) dX8_stillEats_59 ?_
      first | (rw [show stT _ _ _ _ (k + 1) = _ from if_neg c26] at ih; exact ih) | (rw [show stT _ _ _ _ (k + 1) = _ from if_pos c26] at ih; exact ih)
theorem c_X8_weight {n s x : Nat} (hn : n ≤ 6) (hs : s < 2 ^ 31) (hx : x ≤ 10) : Rti V 1 yX8_weight cX8_weight 5 (some .int) [.int (nI n), .int (nI s), .int (nI x)] h (nI (wgt s x n)) h := by
  refine Mt_in [some (.int (nI n)), some (.int (nI s)), some (.int (nI x)), none, none] (own := RX8) rfl (by decide) (Nat.le_of_ble_eq_true rfl) (fun q hq => hq) ?_
  refine g_iconst (v := 1) 1 rfl dX8_weight_0 (by decide) ?_
  refine g_istore_n3 2 rfl dX8_weight_1 (by decide) rfl ?_
  refine g_iconst (v := 0) 3 rfl dX8_weight_2 (by decide) ?_
  refine g_istore4 5 rfl dX8_weight_3 (by decide) rfl ?_
  skip
  refine loop_up (P := fun k => G V T0 1 RX8 cX8_weight 5 (some .int) 5 [some (.int (nI n)), some (.int (nI s)), some (.int (nI x)), some (.int (nI (wgt s x k))), some (.int (nI k))] [] h _) (n := n) ?_ (fun k hk ih => ?_) 0 (Nat.zero_le _)
  · refine g_iload4 7 rfl dX8_weight_5 ?_
    refine g_iload_n0 8 rfl dX8_weight_7 ?_
    refine gn_icmp_ge 37 (by decide) 11 rfl dX8_weight_8 (by omega) (by omega) (fun c8 => ?_) (fun c8 => absurd c8 (Nat.lt_irrefl _))
    refine g_iload_n3 38 rfl dX8_weight_37 ?_
    refine g_iret .int dX8_weight_38 rfl (rfl) ?_
    exact ⟨rfl, rfl⟩
  · have ih : G V T0 1 RX8 cX8_weight 5 (some .int) 5 [some (.int (nI n)), some (.int (nI s)), some (.int (nI x)), some (.int (nI (wgt s x k * (if bt s k = 0 then 10 - x else x)))), some (.int (nI (k + 1)))] [] h _ := ih
    refine g_iload4 7 rfl dX8_weight_5 ?_
    refine g_iload_n0 8 rfl dX8_weight_7 ?_
    refine gn_icmp_ge 37 (by decide) 11 rfl dX8_weight_8 (by omega) (by omega) (fun c8 => absurd c8 (Nat.not_le_of_lt hk)) (fun c8 => ?_)
    refine g_iload_n3 12 rfl dX8_weight_11 ?_
    refine g_iload_n1 13 rfl dX8_weight_12 ?_
    refine g_iload4 15 rfl dX8_weight_13 ?_
    refine gn_ishr 16 rfl dX8_weight_15 (by omega) (by omega) ?_
    refine g_iconst (v := 1) 17 rfl dX8_weight_16 (by decide) ?_
    refine gn_iand 18 rfl dX8_weight_17 ?_
    refine gn_if_ne 28 (by decide) 21 rfl dX8_weight_18 (Nat.lt_of_lt_of_le (bt_lt s k) (by omega)) (fun c18 => ?_) (fun c18 => ?_)
    · refine g_iload_n2 29 rfl dX8_weight_28 ?_
      refine gn_imul 30 rfl dX8_weight_29 ?_
      refine g_istore_n3 31 rfl dX8_weight_30 (by decide) rfl ?_
      refine gn_iinc4 1 34 rfl dX8_weight_31 rfl (by decide) rfl ?_
      refine g_goto 5 (by decide) dX8_weight_34 ?_
      first | (have q : ¬ bt s k = 0 := c18; rw [if_neg q] at ih; exact ih) | (have q : bt s k = 0 := c18; rw [if_pos q] at ih; exact ih)
    · refine g_bipush (v := 10) 23 rfl dX8_weight_21 (by decide) ?_
      refine g_iload_n2 24 rfl dX8_weight_23 ?_
      refine gn_isub 25 rfl dX8_weight_24 (by omega) ?_
      refine g_goto 29 (by decide) dX8_weight_25 ?_
      refine gn_imul 30 rfl dX8_weight_29 ?_
      refine g_istore_n3 31 rfl dX8_weight_30 (by decide) rfl ?_
      refine gn_iinc4 1 34 rfl dX8_weight_31 rfl (by decide) rfl ?_
      refine g_goto 5 (by decide) dX8_weight_34 ?_
      first | (have q : ¬ bt s k = 0 := c18; rw [if_neg q] at ih; exact ih) | (have q : bt s k = 0 := c18; rw [if_pos q] at ih; exact ih)
theorem c_X8_chance_u {a n x u : Nat} (hx : XI h) (ha : a < 2 ^ 32) (hn : ¬ a < h.1 3 2) : Rti V 4 yX8_chance cX8_chance 7 (some .int) [rf V 0, .int (nI a), .int (nI n), .int (nI x), .int (nI u)] h (nI 4294967295) h := by
  have h01 : (if a < h.1 3 2 then 1 else 0) = 0 := if_neg hn
  refine Mt_in [some (rf V 0), some (.int (nI a)), some (.int (nI n)), some (.int (nI x)), some (.int (nI u)), none, none] (own := RX8) rfl (by decide) (Nat.le_of_ble_eq_true rfl) (fun q hq => hq) ?_
  refine g_aload_n0 1 rfl dX8_chance_0 ?_
  refine gf_MT_rules 4 rfl fl_RX8_19 dX8_chance_1 ?_
  refine g_iload_n1 5 rfl dX8_chance_4 ?_
  refine g_cv1i 8 rfl cw_RX8_120 dX8_chance_5 (c_X1_hasEnvoy hx.1 ha) (by omega) (ob_3 V) (Nat.le_of_ble_eq_true rfl) ?_
  rw [h01]
  refine gn_if_ne 13 (by decide) 11 rfl dX8_chance_8 (by omega) (fun c8 => absurd rfl c8) (fun c8 => ?_)
  refine g_iconst (v := 4294967295) 12 rfl dX8_chance_11 (by decide) ?_
  refine g_iret .int dX8_chance_12 rfl (rfl) ?_
  exact ⟨rfl, rfl⟩
theorem c_X8_chance_bad {a n x u : Nat} (hx : XI h) (ha : a < h.1 3 2) (hn : n < 2 ^ 32) (hx2 : x < 2 ^ 32) (hb : ¬ (1 ≤ n ∧ n ≤ 6 ∧ x ≤ 10)) : Rti V 4 yX8_chance cX8_chance 7 (some .int) [rf V 0, .int (nI a), .int (nI n), .int (nI x), .int (nI u)] h (nI 4294967294) h := by
  have h01 : (if a < h.1 3 2 then 1 else 0) = 1 := if_pos ha
  have h4 := hx.1
  refine Mt_in [some (rf V 0), some (.int (nI a)), some (.int (nI n)), some (.int (nI x)), some (.int (nI u)), none, none] (own := RX8) rfl (by decide) (Nat.le_of_ble_eq_true rfl) (fun q hq => hq) ?_
  by_cases ns : n < 2 ^ 31
  · by_cases n1 : n < 1
    · refine g_aload_n0 1 rfl dX8_chance_0 ?_
      refine gf_MT_rules 4 rfl fl_RX8_19 dX8_chance_1 ?_
      refine g_iload_n1 5 rfl dX8_chance_4 ?_
      refine g_cv1i 8 rfl cw_RX8_120 dX8_chance_5 (c_X1_hasEnvoy hx.1 (by omega)) (by omega) (ob_3 V) (Nat.le_of_ble_eq_true rfl) ?_
      rw [h01]
      refine gn_if_ne 13 (by decide) 11 rfl dX8_chance_8 (by omega) (fun c8 => ?_) (fun c8 => absurd c8 (by decide))
      refine g_iload_n2 14 rfl dX8_chance_13 ?_
      refine g_iconst (v := 1) 15 rfl dX8_chance_14 (by decide) ?_
      refine gn_icmp_lt 34 (by decide) 18 rfl dX8_chance_15 (by omega) (by omega) (fun c15 => ?_) (fun c15 => absurd n1 (Nat.not_lt.mpr c15))
      refine g_bipush (v := 4294967294) 36 rfl dX8_chance_34 (by decide) ?_
      refine g_iret .int dX8_chance_36 rfl (rfl) ?_
      exact ⟨rfl, rfl⟩
    · by_cases n6 : n ≤ 6
      · by_cases xs : x < 2 ^ 31
        · refine g_aload_n0 1 rfl dX8_chance_0 ?_
          refine gf_MT_rules 4 rfl fl_RX8_19 dX8_chance_1 ?_
          refine g_iload_n1 5 rfl dX8_chance_4 ?_
          refine g_cv1i 8 rfl cw_RX8_120 dX8_chance_5 (c_X1_hasEnvoy hx.1 (by omega)) (by omega) (ob_3 V) (Nat.le_of_ble_eq_true rfl) ?_
          rw [h01]
          refine gn_if_ne 13 (by decide) 11 rfl dX8_chance_8 (by omega) (fun c8 => ?_) (fun c8 => absurd c8 (by decide))
          refine g_iload_n2 14 rfl dX8_chance_13 ?_
          refine g_iconst (v := 1) 15 rfl dX8_chance_14 (by decide) ?_
          refine gn_icmp_lt 34 (by decide) 18 rfl dX8_chance_15 (by omega) (by omega) (fun c15 => absurd c15 n1) (fun c15 => ?_)
          refine g_iload_n2 19 rfl dX8_chance_18 ?_
          refine g_bipush (v := 6) 21 rfl dX8_chance_19 (by decide) ?_
          refine gn_icmp_gt 34 (by decide) 24 rfl dX8_chance_21 (by omega) (by omega) (fun c21 => absurd c21 (by omega)) (fun c21 => ?_)
          refine g_iload_n3 25 rfl dX8_chance_24 ?_
          refine gn_if_lt 34 (by decide) 28 rfl dX8_chance_25 (by omega) (fun c => c.elim) (fun _ => ?_)
          refine g_iload_n3 29 rfl dX8_chance_28 ?_
          refine g_bipush (v := 10) 31 rfl dX8_chance_29 (by decide) ?_
          refine gn_icmp_le 37 (by decide) 34 rfl dX8_chance_31 (by omega) (by omega) (fun c31 => absurd c31 (by omega)) (fun c31 => ?_)
          refine g_bipush (v := 4294967294) 36 rfl dX8_chance_34 (by decide) ?_
          refine g_iret .int dX8_chance_36 rfl (rfl) ?_
          exact ⟨rfl, rfl⟩
        · refine g_aload_n0 1 rfl dX8_chance_0 ?_
          refine gf_MT_rules 4 rfl fl_RX8_19 dX8_chance_1 ?_
          refine g_iload_n1 5 rfl dX8_chance_4 ?_
          refine g_cv1i 8 rfl cw_RX8_120 dX8_chance_5 (c_X1_hasEnvoy hx.1 (by omega)) (by omega) (ob_3 V) (Nat.le_of_ble_eq_true rfl) ?_
          rw [h01]
          refine gn_if_ne 13 (by decide) 11 rfl dX8_chance_8 (by omega) (fun c8 => ?_) (fun c8 => absurd c8 (by decide))
          refine g_iload_n2 14 rfl dX8_chance_13 ?_
          refine g_iconst (v := 1) 15 rfl dX8_chance_14 (by decide) ?_
          refine gn_icmp_lt 34 (by decide) 18 rfl dX8_chance_15 (by omega) (by omega) (fun c15 => absurd c15 n1) (fun c15 => ?_)
          refine g_iload_n2 19 rfl dX8_chance_18 ?_
          refine g_bipush (v := 6) 21 rfl dX8_chance_19 (by decide) ?_
          refine gn_icmp_gt 34 (by decide) 24 rfl dX8_chance_21 (by omega) (by omega) (fun c21 => absurd c21 (by omega)) (fun c21 => ?_)
          refine g_iload_n3 25 rfl dX8_chance_24 ?_
          refine g_if_lt 34 (by decide) 28 rfl dX8_chance_25 (fun c25 => ?_) (fun c25 => absurd (nI_ng (by omega) hx2) c25)
          refine g_bipush (v := 4294967294) 36 rfl dX8_chance_34 (by decide) ?_
          refine g_iret .int dX8_chance_36 rfl (rfl) ?_
          exact ⟨rfl, rfl⟩
      · refine g_aload_n0 1 rfl dX8_chance_0 ?_
        refine gf_MT_rules 4 rfl fl_RX8_19 dX8_chance_1 ?_
        refine g_iload_n1 5 rfl dX8_chance_4 ?_
        refine g_cv1i 8 rfl cw_RX8_120 dX8_chance_5 (c_X1_hasEnvoy hx.1 (by omega)) (by omega) (ob_3 V) (Nat.le_of_ble_eq_true rfl) ?_
        rw [h01]
        refine gn_if_ne 13 (by decide) 11 rfl dX8_chance_8 (by omega) (fun c8 => ?_) (fun c8 => absurd c8 (by decide))
        refine g_iload_n2 14 rfl dX8_chance_13 ?_
        refine g_iconst (v := 1) 15 rfl dX8_chance_14 (by decide) ?_
        refine gn_icmp_lt 34 (by decide) 18 rfl dX8_chance_15 (by omega) (by omega) (fun c15 => absurd c15 n1) (fun c15 => ?_)
        refine g_iload_n2 19 rfl dX8_chance_18 ?_
        refine g_bipush (v := 6) 21 rfl dX8_chance_19 (by decide) ?_
        refine gn_icmp_gt 34 (by decide) 24 rfl dX8_chance_21 (by omega) (by omega) (fun c21 => ?_) (fun c21 => absurd c21 (by omega))
        refine g_bipush (v := 4294967294) 36 rfl dX8_chance_34 (by decide) ?_
        refine g_iret .int dX8_chance_36 rfl (rfl) ?_
        exact ⟨rfl, rfl⟩
  · refine g_aload_n0 1 rfl dX8_chance_0 ?_
    refine gf_MT_rules 4 rfl fl_RX8_19 dX8_chance_1 ?_
    refine g_iload_n1 5 rfl dX8_chance_4 ?_
    refine g_cv1i 8 rfl cw_RX8_120 dX8_chance_5 (c_X1_hasEnvoy hx.1 (by omega)) (by omega) (ob_3 V) (Nat.le_of_ble_eq_true rfl) ?_
    rw [h01]
    refine gn_if_ne 13 (by decide) 11 rfl dX8_chance_8 (by omega) (fun c8 => ?_) (fun c8 => absurd c8 (by decide))
    refine g_iload_n2 14 rfl dX8_chance_13 ?_
    refine g_iconst (v := 1) 15 rfl dX8_chance_14 (by decide) ?_
    refine g_icmp_lt 34 (by decide) 18 rfl dX8_chance_15 (fun c15 => ?_) (fun c15 => absurd (show nI n < nI 1 from Int32.lt_of_lt_of_le (nI_ng (by omega) hn) (by decide +kernel)) c15)
    refine g_bipush (v := 4294967294) 36 rfl dX8_chance_34 (by decide) ?_
    refine g_iret .int dX8_chance_36 rfl (rfl) ?_
    exact ⟨rfl, rfl⟩
theorem c_X8_chance_ok {a n x u : Nat} (hx : XI h) (ha : a < h.1 3 2) (h1 : 1 ≤ n) (h6 : n ≤ 6) (h10 : x ≤ 10) (hu : u < 2) : Rti V 4 yX8_chance cX8_chance 7 (some .int) [rf V 0, .int (nI a), .int (nI n), .int (nI x), .int (nI u)] h (nI (frV (chS (h.1 4) (h.1 (tr 0)) a n x (1 * 2 ^ n)) (10 ^ n) u)) h := by
  have h01 : (if a < h.1 3 2 then 1 else 0) = 1 := if_pos ha
  obtain ⟨hE, hC, x4, x5, x7, x8, hTT⟩ := id hx
  have h64 : 1 * 2 ^ n ≤ 64 := by rw [Nat.one_mul]; exact Nat.pow_le_pow_right (by decide) h6
  have hp := p10 h6
  have hp0 : 0 < 10 ^ n := Nat.pow_pos (by decide)
  refine Mt_in [some (rf V 0), some (.int (nI a)), some (.int (nI n)), some (.int (nI x)), some (.int (nI u)), none, none] (own := RX8) rfl (by decide) (Nat.le_of_ble_eq_true rfl) (fun q hq => hq) ?_
  refine g_aload_n0 1 rfl dX8_chance_0 ?_
  refine gf_MT_rules 4 rfl fl_RX8_19 dX8_chance_1 ?_
  refine g_iload_n1 5 rfl dX8_chance_4 ?_
  refine g_cv1i 8 rfl cw_RX8_120 dX8_chance_5 (c_X1_hasEnvoy hx.1 (by omega)) (by omega) (ob_3 V) (Nat.le_of_ble_eq_true rfl) ?_
  rw [h01]
  refine gn_if_ne 13 (by decide) 11 rfl dX8_chance_8 (by omega) (fun c8 => ?_) (fun c8 => absurd c8 (by decide))
  refine g_iload_n2 14 rfl dX8_chance_13 ?_
  refine g_iconst (v := 1) 15 rfl dX8_chance_14 (by decide) ?_
  refine gn_icmp_lt 34 (by decide) 18 rfl dX8_chance_15 (by omega) (by omega) (fun c15 => absurd c15 (by omega)) (fun c15 => ?_)
  refine g_iload_n2 19 rfl dX8_chance_18 ?_
  refine g_bipush (v := 6) 21 rfl dX8_chance_19 (by decide) ?_
  refine gn_icmp_gt 34 (by decide) 24 rfl dX8_chance_21 (by omega) (by omega) (fun c21 => absurd c21 (by omega)) (fun c21 => ?_)
  refine g_iload_n3 25 rfl dX8_chance_24 ?_
  refine gn_if_lt 34 (by decide) 28 rfl dX8_chance_25 (by omega) (fun c => c.elim) (fun _ => ?_)
  refine g_iload_n3 29 rfl dX8_chance_28 ?_
  refine g_bipush (v := 10) 31 rfl dX8_chance_29 (by decide) ?_
  refine gn_icmp_le 37 (by decide) 34 rfl dX8_chance_31 (by omega) (by omega) (fun c31 => ?_) (fun c31 => absurd c31 (by omega))
  refine g_iconst (v := 0) 38 rfl dX8_chance_37 (by decide) ?_
  refine g_istore5 40 rfl dX8_chance_38 (by decide) rfl ?_
  refine g_iconst (v := 0) 41 rfl dX8_chance_40 (by decide) ?_
  refine g_istore6 43 rfl dX8_chance_41 (by decide) rfl ?_
  skip
  refine loop_up (P := fun s => G V T0 4 RX8 cX8_chance 7 (some .int) 43 [some (rf V 0), some (.int (nI a)), some (.int (nI n)), some (.int (nI x)), some (.int (nI u)), some (.int (nI (chS (h.1 4) (h.1 (tr 0)) a n x s))), some (.int (nI s))] [] h _) (n := 1 * 2 ^ n) ?_ (fun s hs ih => ?_) 0 (Nat.zero_le _)
  · have hc := chS_le (E := h.1 4) (T := h.1 (tr 0)) (e := a) h10 h6 (1 * 2 ^ n)
    refine g_iload6 45 rfl dX8_chance_43 ?_
    refine g_iconst (v := 1) 46 rfl dX8_chance_45 (by decide) ?_
    refine g_iload_n2 47 rfl dX8_chance_46 ?_
    refine gn_ishl 48 rfl dX8_chance_47 (by omega) ?_
    refine gn_icmp_ge 91 (by decide) 51 rfl dX8_chance_48 (by omega) (by omega) (fun c48 => ?_) (fun c48 => absurd c48 (Nat.lt_irrefl _))
    refine g_iload5 93 rfl dX8_chance_91 ?_
    refine g_iload_n2 94 rfl dX8_chance_93 ?_
    refine g_cs1i 97 rfl cw_RX8_209 dX8_chance_94 (c_X8_powerOfTen h6) (by omega) (Nat.le_of_ble_eq_true rfl) ?_
    refine g_iload4 99 rfl dX8_chance_97 ?_
    refine g_cs3i 102 rfl cw_RX8_224 dX8_chance_99 (c_X8_fraction (by omega) (by omega) hp0 hu) (by omega) (Nat.le_of_ble_eq_true rfl) ?_
    refine g_iret .int dX8_chance_102 rfl (rfl) ?_
    exact ⟨rfl, rfl⟩
  · refine g_iload6 45 rfl dX8_chance_43 ?_
    refine g_iconst (v := 1) 46 rfl dX8_chance_45 (by decide) ?_
    refine g_iload_n2 47 rfl dX8_chance_46 ?_
    refine gn_ishl 48 rfl dX8_chance_47 (by omega) ?_
    refine gn_icmp_ge 91 (by decide) 51 rfl dX8_chance_48 (by omega) (by omega) (fun c48 => absurd c48 (Nat.not_le_of_lt hs)) (fun c48 => ?_)
    refine g_aload_n0 52 rfl dX8_chance_51 ?_
    refine gf_MT_table 55 rfl fl_RX8_28 dX8_chance_52 ?_
    refine g_iload_n1 56 rfl dX8_chance_55 ?_
    refine g_cv1i 59 rfl cw_RX8_176 dX8_chance_56 (c_X7_eats (by decide) (hTT 0) (by omega)) (by omega) (ob_tb V (by omega)) (Nat.le_of_ble_eq_true rfl) ?_
    refine gn_if_eq 85 (by decide) 62 rfl dX8_chance_59 (Nat.lt_of_lt_of_le (bt_lt _ _) (by omega)) (fun c59 => ?_) (fun c59 => ?_)
    · refine gn_iinc6 1 88 rfl dX8_chance_85 rfl (by decide) rfl ?_
      refine g_goto 43 (by decide) dX8_chance_88 ?_
      first | (rw [show chS _ _ _ _ _ (s + 1) = _ from if_pos c59] at ih; exact ih) | (rw [show chS _ _ _ _ _ (s + 1) = _ from (if_neg c59).trans (if_neg (by simpa using c70))] at ih; exact ih) | (rw [show chS _ _ _ _ _ (s + 1) = _ from (if_neg c59).trans (if_pos (by simpa using c70))] at ih; exact ih)
    · refine g_aload_n0 63 rfl dX8_chance_62 ?_
      refine g_iload_n1 64 rfl dX8_chance_63 ?_
      refine g_iload_n2 65 rfl dX8_chance_64 ?_
      refine g_iload6 67 rfl dX8_chance_65 ?_
      refine g_cv3i 70 rfl cw_RX8_258 dX8_chance_67 (c_X8_stillEats hx (by omega) h6 (by omega)) (by omega) (ob_0 V) (Nat.le_of_ble_eq_true rfl) ?_
      refine gn_if_eq 85 (by decide) 73 rfl dX8_chance_70 (Nat.lt_of_lt_of_le (Bool.toNat_lt _) (by omega)) (fun c70 => ?_) (fun c70 => ?_)
      · refine gn_iinc6 1 88 rfl dX8_chance_85 rfl (by decide) rfl ?_
        refine g_goto 43 (by decide) dX8_chance_88 ?_
        first | (rw [show chS _ _ _ _ _ (s + 1) = _ from if_pos c59] at ih; exact ih) | (rw [show chS _ _ _ _ _ (s + 1) = _ from (if_neg c59).trans (if_neg (by simpa using c70))] at ih; exact ih) | (rw [show chS _ _ _ _ _ (s + 1) = _ from (if_neg c59).trans (if_pos (by simpa using c70))] at ih; exact ih)
      · refine g_iload5 75 rfl dX8_chance_73 ?_
        refine g_iload_n2 76 rfl dX8_chance_75 ?_
        refine g_iload6 78 rfl dX8_chance_76 ?_
        refine g_iload_n3 79 rfl dX8_chance_78 ?_
        refine g_cs3i 82 rfl cw_RX8_261 dX8_chance_79 (c_X8_weight h6 (by omega) h10) (by omega) (Nat.le_of_ble_eq_true rfl) ?_
        refine gn_iadd 83 rfl dX8_chance_82 ?_
        refine g_istore5 85 rfl dX8_chance_83 (by decide) rfl ?_
        refine gn_iinc6 1 88 rfl dX8_chance_85 rfl (by decide) rfl ?_
        refine g_goto 43 (by decide) dX8_chance_88 ?_
        first | (rw [show chS _ _ _ _ _ (s + 1) = _ from if_pos c59] at ih; exact ih) | (rw [show chS _ _ _ _ _ (s + 1) = _ from (if_neg c59).trans (if_neg (by simpa using c70))] at ih; exact ih) | (rw [show chS _ _ _ _ _ (s + 1) = _ from (if_neg c59).trans (if_pos (by simpa using c70))] at ih; exact ih)
theorem c_X8_seed {v : Int64} : Rtl V 1 yX8_seed cX8_seed 5 (some .long) [rf V 0, .long v] h (h.2 0) (sL h 0 v) := by
  refine Mt_in [some (rf V 0), some (.long v), none, none, none] (own := RX8) rfl (by decide) (Nat.le_of_ble_eq_true rfl) (fun q hq => hq) ?_
  refine g_aload_n0 1 rfl dX8_seed_0 ?_
  refine gf_MT_chanceSeed 4 rfl fl_RX8_268 dX8_seed_1 ?_
  refine g_lstore_n3 5 rfl dX8_seed_4 (by decide) rfl ?_
  refine g_aload_n0 6 rfl dX8_seed_5 ?_
  refine g_lload_n1 7 rfl dX8_seed_6 ?_
  refine gp_MT_chanceSeed 10 rfl fl_RX8_268 dX8_seed_7 ?_
  refine g_lload_n3 11 rfl dX8_seed_10 ?_
  refine g_lret dX8_seed_11 rfl ?_
  exact ⟨rfl, rfl⟩
theorem c_X8_takeDrawnTurn {f : Nat} (hx : XI h) (h1 : h.1 (tr 1) 1 ≤ 9) (hf : f < 12) : Rtv V 6 yX8_takeDrawnTurn cX8_takeDrawnTurn 2 none [rf V 0, .int (nI f)] h (sR h (tr 1) (drwX (h.1 4) (h.1 3 2) (h.1 3 3) (h.1 7) (h.1 (tr 1)) f)) := by
  refine Mt_in [some (rf V 0), some (.int (nI f))] (own := RX8) rfl (by decide) (Nat.le_of_ble_eq_true rfl) (fun q hq => hq) ?_
  refine g_iload_n1 1 rfl dX8_takeDrawnTurn_0 ?_
  refine g_iconst (v := 5) 2 rfl dX8_takeDrawnTurn_1 (by decide) ?_
  refine gn_icmp_le 15 (by decide) 5 rfl dX8_takeDrawnTurn_2 (by omega) (by omega) (fun c2 => ?_) (fun c2 => ?_)
  · refine g_iload_n1 16 rfl dX8_takeDrawnTurn_15 ?_
    refine g_iconst (v := 5) 17 rfl dX8_takeDrawnTurn_16 (by decide) ?_
    refine gn_icmp_ne 33 (by decide) 20 rfl dX8_takeDrawnTurn_17 (by omega) (by omega) (fun c17 => ?_) (fun c17 => ?_)
    · refine g_aload_n0 34 rfl dX8_takeDrawnTurn_33 ?_
      refine gf_MT_trial 37 rfl fl_RX8_32 dX8_takeDrawnTurn_34 ?_
      refine g_iload_n1 38 rfl dX8_takeDrawnTurn_37 ?_
      refine g_iconst (v := 1) 39 rfl dX8_takeDrawnTurn_38 (by decide) ?_
      refine gn_iadd 40 rfl dX8_takeDrawnTurn_39 ?_
      refine g_cv1i 43 rfl cw_RX8_212 dX8_takeDrawnTurn_40 (c_X7_takeTurn (by decide) hx (by omega) (by omega)) (by omega) (ob_tb V (by omega)) (Nat.le_of_ble_eq_true rfl) ?_
      refine g_pop 44 rfl dX8_takeDrawnTurn_43 rfl ?_
      refine g_vret dX8_takeDrawnTurn_44 rfl ?_
      refine ⟨rfl, congrArg (sR h (tr 1)) ?_⟩
      unfold drwX
      first | exact (if_pos (show 5 < f by omega)).symm | exact ((if_neg (show ¬ 5 < f by omega)).trans (if_pos c17)).symm | exact ((if_neg (show ¬ 5 < f by omega)).trans (if_neg c17)).symm
    · refine g_aload_n0 21 rfl dX8_takeDrawnTurn_20 ?_
      refine gf_MT_trial 24 rfl fl_RX8_32 dX8_takeDrawnTurn_21 ?_
      refine g_bipush (v := 6) 26 rfl dX8_takeDrawnTurn_24 (by decide) ?_
      refine g_cv1i 29 rfl cw_RX8_212 dX8_takeDrawnTurn_26 (c_X7_takeTurn (by decide) hx (by decide) (by omega)) (by omega) (ob_tb V (by omega)) (Nat.le_of_ble_eq_true rfl) ?_
      refine g_pop 30 rfl dX8_takeDrawnTurn_29 rfl ?_
      refine g_goto 44 (by decide) dX8_takeDrawnTurn_30 ?_
      refine g_vret dX8_takeDrawnTurn_44 rfl ?_
      refine ⟨rfl, congrArg (sR h (tr 1)) ?_⟩
      unfold drwX
      first | exact (if_pos (show 5 < f by omega)).symm | exact ((if_neg (show ¬ 5 < f by omega)).trans (if_pos c17)).symm | exact ((if_neg (show ¬ 5 < f by omega)).trans (if_neg c17)).symm
  · refine g_aload_n0 6 rfl dX8_takeDrawnTurn_5 ?_
    refine gf_MT_trial 9 rfl fl_RX8_32 dX8_takeDrawnTurn_6 ?_
    refine g_cv0v 12 rfl cw_RX8_164 dX8_takeDrawnTurn_9 (c_X7_takeBite (by decide) hx) (by omega) (ob_tb V (by omega)) (Nat.le_of_ble_eq_true rfl) ?_
    refine g_goto 44 (by decide) dX8_takeDrawnTurn_12 ?_
    refine g_vret dX8_takeDrawnTurn_44 rfl ?_
    refine ⟨rfl, congrArg (sR h (tr 1)) ?_⟩
    unfold drwX
    first | exact (if_pos (show 5 < f by omega)).symm | exact ((if_neg (show ¬ 5 < f by omega)).trans (if_pos c17)).symm | exact ((if_neg (show ¬ 5 < f by omega)).trans (if_neg c17)).symm
theorem c_X8_talks_bad {m : Nat} (hm : m < 2 ^ 32) (hb : ¬ (1 ≤ m ∧ m ≤ 30)) : Rti V 7 yX8_talks cX8_talks 3 (some .int) [rf V 0, .int (nI m)] h (nI 4294967294) h := by
  refine Mt_in [some (rf V 0), some (.int (nI m)), none] (own := RX8) rfl (by decide) (Nat.le_of_ble_eq_true rfl) (fun q hq => hq) ?_
  by_cases hs : m < 2 ^ 31
  · refine g_iload_n1 1 rfl dX8_talks_0 ?_
    refine g_iconst (v := 1) 2 rfl dX8_talks_1 (by decide) ?_
    refine gn_icmp_lt 11 (by decide) 5 rfl dX8_talks_2 (by omega) (by omega) (fun c2 => ?_) (fun c2 => ?_)
    · refine g_bipush (v := 4294967294) 13 rfl dX8_talks_11 (by decide) ?_
      refine g_iret .int dX8_talks_13 rfl (rfl) ?_
      exact ⟨rfl, rfl⟩
    · refine g_iload_n1 6 rfl dX8_talks_5 ?_
      refine g_bipush (v := 30) 8 rfl dX8_talks_6 (by decide) ?_
      refine gn_icmp_le 14 (by decide) 11 rfl dX8_talks_8 (by omega) (by omega) (fun c8 => absurd c8 (by omega)) (fun c8 => ?_)
      refine g_bipush (v := 4294967294) 13 rfl dX8_talks_11 (by decide) ?_
      refine g_iret .int dX8_talks_13 rfl (rfl) ?_
      exact ⟨rfl, rfl⟩
  · refine g_iload_n1 1 rfl dX8_talks_0 ?_
    refine g_iconst (v := 1) 2 rfl dX8_talks_1 (by decide) ?_
    refine g_icmp_lt 11 (by decide) 5 rfl dX8_talks_2 (fun c2 => ?_) (fun c2 => absurd (show nI m < nI 1 from Int32.lt_of_lt_of_le (nI_ng (by omega) hm) (by decide +kernel)) c2)
    refine g_bipush (v := 4294967294) 13 rfl dX8_talks_11 (by decide) ?_
    refine g_iret .int dX8_talks_13 rfl (rfl) ?_
    exact ⟨rfl, rfl⟩
theorem c_X8_talks_ok {m : Nat} (hx : XI h) (hs0 : h.1 (tr 0) 1 ≤ 9) (h1 : 1 ≤ m) (h30 : m ≤ 30) : Rti V 7 yX8_talks cX8_talks 3 (some .int) [rf V 0, .int (nI m)] h (nI (wrths (h.1 7) (tkT (h.1 4) (h.1 3 2) (h.1 3 3) (h.1 7) (h.1 (tr 0)) (h.2 0) m 8 &&& (h.1 (tr 0) 8 ^^^ 4294967295)) (h.1 3 3))) (sR (sL h 0 (sdN (h.2 0) m)) (tr 1) (tkT (h.1 4) (h.1 3 2) (h.1 3 3) (h.1 7) (h.1 (tr 0)) (h.2 0) m)) := by
  obtain ⟨hE, hC, x4, x5, x7, x8, hTT⟩ := id hx
  have hok := tkT_ok (E := h.1 4) (C := h.1 7) (T := h.1 (tr 0)) (m := h.1 3 3) (s := h.2 0) (hTT 0) hs0 x4 hE
  refine Mt_in [some (rf V 0), some (.int (nI m)), none] (own := RX8) rfl (by decide) (Nat.le_of_ble_eq_true rfl) (fun q hq => hq) ?_
  refine g_iload_n1 1 rfl dX8_talks_0 ?_
  refine g_iconst (v := 1) 2 rfl dX8_talks_1 (by decide) ?_
  refine gn_icmp_lt 11 (by decide) 5 rfl dX8_talks_2 (by omega) (by omega) (fun c2 => absurd c2 (by omega)) (fun c2 => ?_)
  refine g_iload_n1 6 rfl dX8_talks_5 ?_
  refine g_bipush (v := 30) 8 rfl dX8_talks_6 (by decide) ?_
  refine gn_icmp_le 14 (by decide) 11 rfl dX8_talks_8 (by omega) (by omega) (fun c8 => ?_) (fun c8 => absurd c8 (by omega))
  refine g_aload_n0 15 rfl dX8_talks_14 ?_
  refine gf_MT_trial 18 rfl fl_RX8_32 dX8_talks_15 ?_
  refine g_aload_n0 19 rfl dX8_talks_18 ?_
  refine gf_MT_table 22 rfl fl_RX8_28 dX8_talks_19 ?_
  refine g_cv1v 25 rfl cw_RX8_188 dX8_talks_22 (c_X7_copyFrom (by decide) (by decide) (by decide) hx) (by omega) (ob_tb V (by omega)) (Nat.le_of_ble_eq_true rfl) ?_
  refine g_iconst (v := 0) 26 rfl dX8_talks_25 (by decide) ?_
  refine g_istore_n2 27 rfl dX8_talks_26 (by decide) rfl ?_
  skip
  refine g_heap (show sR h (tr 1) (h.1 (tr 0)) = sR (sL h 0 (sdN (h.2 0) 0)) (tr 1) (tkT (h.1 4) (h.1 3 2) (h.1 3 3) (h.1 7) (h.1 (tr 0)) (h.2 0) 0) from by rw [show sdN (h.2 0) 0 = h.2 0 from rfl, sL_same]; rfl) ?_
  refine loop_up (P := fun k => G V T0 7 RX8 cX8_talks 3 (some .int) 27 [some (rf V 0), some (.int (nI m)), some (.int (nI k))] [] (sR (sL h 0 (sdN (h.2 0) k)) (tr 1) (tkT (h.1 4) (h.1 3 2) (h.1 3 3) (h.1 7) (h.1 (tr 0)) (h.2 0) k)) _) (n := m) ?_ (fun k hk ih => ?_) 0 (Nat.zero_le _)
  · have h8 := (hok m).1.2.2.2.2.1
    have hle : tkT (h.1 4) (h.1 3 2) (h.1 3 3) (h.1 7) (h.1 (tr 0)) (h.2 0) m 8 &&& (h.1 (tr 0) 8 ^^^ 4294967295) ≤ tkT (h.1 4) (h.1 3 2) (h.1 3 3) (h.1 7) (h.1 (tr 0)) (h.2 0) m 8 := Nat.and_le_left
    refine g_iload_n2 28 rfl dX8_talks_27 ?_
    refine g_iload_n1 29 rfl dX8_talks_28 ?_
    refine gn_icmp_ge 70 (by decide) 32 rfl dX8_talks_29 (by omega) (by omega) (fun c29 => ?_) (fun c29 => absurd c29 (Nat.lt_irrefl _))
    refine g_aload_n0 71 rfl dX8_talks_70 ?_
    refine gf_MT_rules 74 rfl fl_RX8_19 dX8_talks_71 ?_
    refine g_aload_n0 75 rfl dX8_talks_74 ?_
    refine gf_MT_trial 78 rfl fl_RX8_32 dX8_talks_75 ?_
    refine gf_Table_bound 81 rfl (by omega) fl_RX8_107 dX8_talks_78 ?_
    rw [sR_s]
    refine g_aload_n0 82 rfl dX8_talks_81 ?_
    refine gf_MT_table 85 rfl fl_RX8_28 dX8_talks_82 ?_
    refine gf_Table_bound 88 rfl (by omega) fl_RX8_107 dX8_talks_85 ?_
    rw [sR_n (tr_ne (by decide)), sL_1]
    refine g_iconst (v := 4294967295) 89 rfl dX8_talks_88 (by decide) ?_
    refine gn_ixor 90 rfl dX8_talks_89 ?_
    refine gn_iand 91 rfl dX8_talks_90 ?_
    refine g_cv1i 94 rfl cw_RX8_281 dX8_talks_91 (c_X1_worthOf (by rw [sR_t3]; exact hC) (by omega)) (by omega) (ob_3 V) (Nat.le_of_ble_eq_true rfl) ?_
    rw [sR_t3, sR_t7, sL_1]
    refine g_iret .int dX8_talks_94 rfl (rfl) ?_
    exact ⟨rfl, rfl⟩
  · have hN := hok k
    have hx2 : ∀ v, XI (sR (sL h 0 v) (tr 1) (tkT (h.1 4) (h.1 3 2) (h.1 3 3) (h.1 7) (h.1 (tr 0)) (h.2 0) k)) := fun v => XI_tr (XI_L hx 0 v) (i := 1) hN.1
    have hl := drw_lt (sdN (h.2 0) (k + 1))
    refine g_iload_n2 28 rfl dX8_talks_27 ?_
    refine g_iload_n1 29 rfl dX8_talks_28 ?_
    refine gn_icmp_ge 70 (by decide) 32 rfl dX8_talks_29 (by omega) (by omega) (fun c29 => absurd c29 (Nat.not_le_of_lt hk)) (fun c29 => ?_)
    refine g_aload_n0 33 rfl dX8_talks_32 ?_
    refine g_aload_n0 34 rfl dX8_talks_33 ?_
    refine gf_MT_chanceSeed 37 rfl fl_RX8_268 dX8_talks_34 ?_
    rw [sR_2, sL_s]
    refine g_ldc2 40 rfl kl_RX8_272 dX8_talks_37 ?_
    refine g_lmul 41 rfl dX8_talks_40 ?_
    refine g_ldc2 44 rfl kl_RX8_274 dX8_talks_41 ?_
    refine g_ladd 45 rfl dX8_talks_44 ?_
    refine gp_MT_chanceSeed 48 rfl fl_RX8_268 dX8_talks_45 ?_
    rw [sL_sR, sL_sL]
    refine g_aload_n0 49 rfl dX8_talks_48 ?_
    refine g_aload_n0 50 rfl dX8_talks_49 ?_
    refine gf_MT_chanceSeed 53 rfl fl_RX8_268 dX8_talks_50 ?_
    rw [sR_2, sL_s]
    refine g_bipush (v := 33) 55 rfl dX8_talks_53 (by decide) ?_
    refine g_lushr 56 rfl dX8_talks_55 ?_
    refine g_ldc2 59 rfl kl_RX8_276 dX8_talks_56 ?_
    refine g_lrem 60 rfl dX8_talks_59 (by decide) ?_
    refine g_l2i 61 rfl dX8_talks_60 ?_
    rw [drw_ok, show drw (sdN (h.2 0) k * 6364136223846793005 + 1442695040888963407) = drw (sdN (h.2 0) (k + 1)) from rfl]
    refine g_cv1v 64 rfl cw_RX8_278 dX8_talks_61 (c_X8_takeDrawnTurn (hx2 _) (by rw [sR_s]; exact hN.2) hl) (by omega) (ob_0 V) (Nat.le_of_ble_eq_true rfl) ?_
    refine gn_iinc2 1 67 rfl dX8_talks_64 rfl (by decide) rfl ?_
    refine g_goto 27 (by decide) dX8_talks_67 ?_
    rw [sR_sR, sR_s, sR_t3, sR_t4, sR_t7, sL_1]
    exact ih
theorem c_X8_keep_u {a : Nat} (ha : a < 2 ^ 32) (hn : ¬ a < 2) : Rti V 3 yX8_keep cX8_keep 2 (some .int) [rf V 0, .int (nI a)] h (nI 4294967295) h := by
  refine Mt_in [some (rf V 0), some (.int (nI a))] (own := RX8) rfl (by decide) (Nat.le_of_ble_eq_true rfl) (fun q hq => hq) ?_
  by_cases hs : a < 2 ^ 31
  · refine g_iload_n1 1 rfl dX8_keep_0 ?_
    refine gn_if_lt 9 (by decide) 4 rfl dX8_keep_1 (by omega) (fun c => c.elim) (fun _ => ?_)
    refine g_iload_n1 5 rfl dX8_keep_4 ?_
    refine g_iconst (v := 2) 6 rfl dX8_keep_5 (by decide) ?_
    refine gn_icmp_lt 11 (by decide) 9 rfl dX8_keep_6 (by omega) (by omega) (fun c6 => absurd c6 hn) (fun c6 => ?_)
    refine g_iconst (v := 4294967295) 10 rfl dX8_keep_9 (by decide) ?_
    refine g_iret .int dX8_keep_10 rfl (rfl) ?_
    exact ⟨rfl, rfl⟩
  · refine g_iload_n1 1 rfl dX8_keep_0 ?_
    refine g_if_lt 9 (by decide) 4 rfl dX8_keep_1 (fun c1 => ?_) (fun c1 => absurd (nI_ng (by omega) ha) c1)
    refine g_iconst (v := 4294967295) 10 rfl dX8_keep_9 (by decide) ?_
    refine g_iret .int dX8_keep_10 rfl (rfl) ?_
    exact ⟨rfl, rfl⟩
theorem c_X8_keep_ok {a : Nat} (hx : XI h) (hn : a < 2) : Rti V 3 yX8_keep cX8_keep 2 (some .int) [rf V 0, .int (nI a)] h (nI (h.1 (tr 0) 9)) (putH h a) := by
  refine Mt_in [some (rf V 0), some (.int (nI a))] (own := RX8) rfl (by decide) (Nat.le_of_ble_eq_true rfl) (fun q hq => hq) ?_
  refine g_iload_n1 1 rfl dX8_keep_0 ?_
  refine gn_if_lt 9 (by decide) 4 rfl dX8_keep_1 (by omega) (fun c => c.elim) (fun _ => ?_)
  refine g_iload_n1 5 rfl dX8_keep_4 ?_
  refine g_iconst (v := 2) 6 rfl dX8_keep_5 (by decide) ?_
  refine gn_icmp_lt 11 (by decide) 9 rfl dX8_keep_6 (by omega) (by omega) (fun c6 => ?_) (fun c6 => absurd hn (Nat.not_lt.mpr c6))
  refine g_aload_n0 12 rfl dX8_keep_11 ?_
  refine gf_MT_slots 15 rfl fl_RX8_45 dX8_keep_12 ?_
  refine g_iload_n1 16 rfl dX8_keep_15 ?_
  refine g_aload_n0 17 rfl dX8_keep_16 ?_
  refine gf_MT_table 20 rfl fl_RX8_28 dX8_keep_17 ?_
  refine g_cv2v 23 rfl cw_RX8_284 dX8_keep_20 (c_X5_put hx hn) (by omega) (ob_12 V) (Nat.le_of_ble_eq_true rfl) ?_
  refine g_aload_n0 24 rfl dX8_keep_23 ?_
  refine gf_MT_table 27 rfl fl_RX8_28 dX8_keep_24 ?_
  refine gf_Table_bites 30 rfl (by omega) fl_RX8_110 dX8_keep_27 ?_
  rw [show (putH h a).1 (tr 0) = h.1 (tr 0) by unfold putH; rw [sR_tl (by decide), sR_n (tr_ne (by omega))]]
  refine g_iret .int dX8_keep_30 rfl (rfl) ?_
  exact ⟨rfl, rfl⟩
theorem c_X8_again_u {a : Nat} (ha : a < 2 ^ 32) (hn : ¬ a < 2) : Rti V 3 yX8_again cX8_again 2 (some .int) [rf V 0, .int (nI a)] h (nI 4294967295) h := by
  refine Mt_in [some (rf V 0), some (.int (nI a))] (own := RX8) rfl (by decide) (Nat.le_of_ble_eq_true rfl) (fun q hq => hq) ?_
  by_cases hs : a < 2 ^ 31
  · refine g_iload_n1 1 rfl dX8_again_0 ?_
    refine gn_if_lt 9 (by decide) 4 rfl dX8_again_1 (by omega) (fun c => c.elim) (fun _ => ?_)
    refine g_iload_n1 5 rfl dX8_again_4 ?_
    refine g_iconst (v := 2) 6 rfl dX8_again_5 (by decide) ?_
    refine gn_icmp_lt 11 (by decide) 9 rfl dX8_again_6 (by omega) (by omega) (fun c6 => absurd c6 hn) (fun c6 => ?_)
    refine g_iconst (v := 4294967295) 10 rfl dX8_again_9 (by decide) ?_
    refine g_iret .int dX8_again_10 rfl (rfl) ?_
    exact ⟨rfl, rfl⟩
  · refine g_iload_n1 1 rfl dX8_again_0 ?_
    refine g_if_lt 9 (by decide) 4 rfl dX8_again_1 (fun c1 => ?_) (fun c1 => absurd (nI_ng (by omega) ha) c1)
    refine g_iconst (v := 4294967295) 10 rfl dX8_again_9 (by decide) ?_
    refine g_iret .int dX8_again_10 rfl (rfl) ?_
    exact ⟨rfl, rfl⟩
theorem c_X8_again_no {a : Nat} (hn : a < 2) (hz : h.1 14 a = 0) : Rti V 3 yX8_again cX8_again 2 (some .int) [rf V 0, .int (nI a)] h (nI 4294967293) h := by
  refine Mt_in [some (rf V 0), some (.int (nI a))] (own := RX8) rfl (by decide) (Nat.le_of_ble_eq_true rfl) (fun q hq => hq) ?_
  refine g_iload_n1 1 rfl dX8_again_0 ?_
  refine gn_if_lt 9 (by decide) 4 rfl dX8_again_1 (by omega) (fun c => c.elim) (fun _ => ?_)
  refine g_iload_n1 5 rfl dX8_again_4 ?_
  refine g_iconst (v := 2) 6 rfl dX8_again_5 (by decide) ?_
  refine gn_icmp_lt 11 (by decide) 9 rfl dX8_again_6 (by omega) (by omega) (fun c6 => ?_) (fun c6 => absurd hn (Nat.not_lt.mpr c6))
  refine g_aload_n0 12 rfl dX8_again_11 ?_
  refine gf_MT_slots 15 rfl fl_RX8_45 dX8_again_12 ?_
  refine gf_Slots_used 18 rfl fl_RX8_288 dX8_again_15 ?_
  refine g_iload_n1 19 rfl dX8_again_18 ?_
  refine ga_14 20 rfl (by omega) dX8_again_19 ?_
  refine gn_if_ne 26 (by decide) 23 rfl dX8_again_20 (by omega) (fun c20 => absurd hz c20) (fun c20 => ?_)
  refine g_bipush (v := 4294967293) 25 rfl dX8_again_23 (by decide) ?_
  refine g_iret .int dX8_again_25 rfl (rfl) ?_
  exact ⟨rfl, rfl⟩
def agnH (h : Hp) (a : Nat) : Hp := sR (sR h (tr 0) (h.1 (tr (a + 16)))) 10 (up (up (h.1 10) 1 0) 2 0)
theorem c_X8_again_ok {a : Nat} (hx : XI h) (hn : a < 2) (hu : ∀ j, h.1 14 j < 2) (hz : ¬ h.1 14 a = 0) : Rti V 3 yX8_again cX8_again 2 (some .int) [rf V 0, .int (nI a)] h (nI (h.1 (tr (a + 16)) 9)) (agnH h a) := by
  have hua := hu a
  refine Mt_in [some (rf V 0), some (.int (nI a))] (own := RX8) rfl (by decide) (Nat.le_of_ble_eq_true rfl) (fun q hq => hq) ?_
  refine g_iload_n1 1 rfl dX8_again_0 ?_
  refine gn_if_lt 9 (by decide) 4 rfl dX8_again_1 (by omega) (fun c => c.elim) (fun _ => ?_)
  refine g_iload_n1 5 rfl dX8_again_4 ?_
  refine g_iconst (v := 2) 6 rfl dX8_again_5 (by decide) ?_
  refine gn_icmp_lt 11 (by decide) 9 rfl dX8_again_6 (by omega) (by omega) (fun c6 => ?_) (fun c6 => absurd hn (Nat.not_lt.mpr c6))
  refine g_aload_n0 12 rfl dX8_again_11 ?_
  refine gf_MT_slots 15 rfl fl_RX8_45 dX8_again_12 ?_
  refine gf_Slots_used 18 rfl fl_RX8_288 dX8_again_15 ?_
  refine g_iload_n1 19 rfl dX8_again_18 ?_
  refine ga_14 20 rfl (by omega) dX8_again_19 ?_
  refine gn_if_ne 26 (by decide) 23 rfl dX8_again_20 (by omega) (fun c20 => ?_) (fun c20 => absurd c20 hz)
  refine g_aload_n0 27 rfl dX8_again_26 ?_
  refine gf_MT_table 30 rfl fl_RX8_28 dX8_again_27 ?_
  refine g_aload_n0 31 rfl dX8_again_30 ?_
  refine gf_MT_slots 34 rfl fl_RX8_45 dX8_again_31 ?_
  refine gf_Slots_tables 37 rfl fl_RX8_292 dX8_again_34 ?_
  refine g_iload_n1 38 rfl dX8_again_37 ?_
  refine ga_13 39 rfl (by omega) dX8_again_38 ?_
  refine g_cv1v 42 rfl cw_RX8_188 dX8_again_39 (c_X7_copyFrom (by decide) (by omega) (by omega) hx) (by omega) (ob_tb V (by omega)) (Nat.le_of_ble_eq_true rfl) ?_
  refine g_aload_n0 43 rfl dX8_again_42 ?_
  refine gf_MT_acts 46 rfl fl_RX8_38 dX8_again_43 ?_
  refine g_cv0v 49 rfl cw_RX8_88 dX8_again_46 (c_X0_forgetAll) (by omega) (ob_10 V) (Nat.le_of_ble_eq_true rfl) ?_
  refine g_aload_n0 50 rfl dX8_again_49 ?_
  refine gf_MT_table 53 rfl fl_RX8_28 dX8_again_50 ?_
  refine gf_Table_bites 56 rfl (by omega) fl_RX8_110 dX8_again_53 ?_
  rw [sR_tl (by decide), sR_s]
  refine g_iret .int dX8_again_56 rfl (rfl) ?_
  exact ⟨rfl, by rw [sR_lt (by decide)]; rfl⟩
end X8e
