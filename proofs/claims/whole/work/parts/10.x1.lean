/-! MustardTreaty$Rules -/
def pain (k p t : Nat) : Nat := if k = 1 then 0 else if k = 2 then (if t - p = 0 then 0 else t - p + 1) else if k = 3 then t - p - 1 else t - p
def wrth (C : Nat → Nat) (c : Nat) : Nat := C (3 * c) + C (3 * c + 1)
def wrths (C : Nat → Nat) (b : Nat) : Nat → Nat
  | 0 => 0
  | c + 1 => if bt b c = 0 then wrths C b c else wrths C b c + wrth C c
def clsOf (C : Nat → Nat) (b : Nat) : Nat → Nat
  | 0 => 0
  | c + 1 => if bt b (C (3 * c + 2)) = 0 then clsOf C b c else clsOf C b c ||| 1 * 2 ^ c
section X1
variable {V : Vt} {h : Hp}
theorem c_X1_worth {c : Nat} (hc : c < 5) : Rti V 1 yX1_worth cX1_worth 2 (some .int) [rf V 3, .int (nI c)] h (nI (wrth (h.1 7) c)) h := by
  refine Mt_in [some (rf V 3), some (.int (nI c))] (own := RX1) rfl (by decide) (Nat.le_of_ble_eq_true rfl) (fun q hq => hq) ?_
  refine g_aload_n0 1 rfl dX1_worth_0 ?_
  refine gf_Rules_words 4 rfl fl_RX1_21 dX1_worth_1 ?_
  refine g_iload_n1 5 rfl dX1_worth_4 ?_
  refine ga_7 6 rfl (by omega) dX1_worth_5 ?_
  refine g_aload_n0 7 rfl dX1_worth_6 ?_
  refine gf_Rules_heatNeeded 10 rfl fl_RX1_24 dX1_worth_7 ?_
  refine g_iload_n1 11 rfl dX1_worth_10 ?_
  refine ga_8 12 rfl (by omega) dX1_worth_11 ?_
  refine gn_iadd 13 rfl dX1_worth_12 ?_
  refine g_iret .int dX1_worth_13 rfl (rfl) ?_
  exact ⟨rfl, rfl⟩
theorem c_X1_tearsToStop {c : Nat} (hc : c < 4) : Rti V 1 yX1_tearsToStop cX1_tearsToStop 2 (some .int) [rf V 3, .int (nI c)] h (nI (2 * h.1 4 (3 * c + 1))) h := by
  refine Mt_in [some (rf V 3), some (.int (nI c))] (own := RX1) rfl (by decide) (Nat.le_of_ble_eq_true rfl) (fun q hq => hq) ?_
  refine g_iconst (v := 2) 1 rfl dX1_tearsToStop_0 (by decide) ?_
  refine g_aload_n0 2 rfl dX1_tearsToStop_1 ?_
  refine gf_Rules_wits 5 rfl fl_RX1_15 dX1_tearsToStop_2 ?_
  refine g_iload_n1 6 rfl dX1_tearsToStop_5 ?_
  refine ga_5 7 rfl (by omega) dX1_tearsToStop_6 ?_
  refine gn_imul 8 rfl dX1_tearsToStop_7 ?_
  refine g_iret .int dX1_tearsToStop_8 rfl (rfl) ?_
  exact ⟨rfl, rfl⟩
theorem c_X1_hasEnvoy {a : Nat} (hb : h.1 3 2 ≤ 4) (ha : a < 2 ^ 32) : Rti V 1 yX1_hasEnvoy cX1_hasEnvoy 2 (some .boolean) [rf V 3, .int (nI a)] h (nI (if a < h.1 3 2 then 1 else 0)) h := by
  refine Mt_in [some (rf V 3), some (.int (nI a))] (own := RX1) rfl (by decide) (Nat.le_of_ble_eq_true rfl) (fun q hq => hq) ?_
  by_cases hs : a < 2 ^ 31
  · refine g_iload_n1 1 rfl dX1_hasEnvoy_0 ?_
    refine gn_if_lt 16 (by decide) 4 rfl dX1_hasEnvoy_1 (by omega) (fun c => c.elim) (fun _ => ?_)
    refine g_iload_n1 5 rfl dX1_hasEnvoy_4 ?_
    refine g_aload_n0 6 rfl dX1_hasEnvoy_5 ?_
    refine gf_Rules_envoys 9 rfl fl_RX1_37 dX1_hasEnvoy_6 ?_
    refine gn_icmp_ge 16 (by decide) 12 rfl dX1_hasEnvoy_9 (by omega) (by omega) (fun c9 => ?_) (fun c9 => ?_)
    · refine g_iconst (v := 0) 17 rfl dX1_hasEnvoy_16 (by decide) ?_
      refine g_iret .boolean dX1_hasEnvoy_17 rfl (rfl) ?_
      first | (rw [if_pos c9]; exact ⟨rfl, rfl⟩) | (rw [if_neg (by omega)]; exact ⟨rfl, rfl⟩)
    · refine g_iconst (v := 1) 13 rfl dX1_hasEnvoy_12 (by decide) ?_
      refine g_goto 17 (by decide) dX1_hasEnvoy_13 ?_
      refine g_iret .boolean dX1_hasEnvoy_17 rfl (rfl) ?_
      first | (rw [if_pos c9]; exact ⟨rfl, rfl⟩) | (rw [if_neg (by omega)]; exact ⟨rfl, rfl⟩)
  · rw [if_neg (by omega)]
    refine g_iload_n1 1 rfl dX1_hasEnvoy_0 ?_
    refine g_if_lt 16 (by decide) 4 rfl dX1_hasEnvoy_1 (fun c1 => ?_) (fun c1 => absurd (nI_ng (by omega) ha) c1)
    refine g_iconst (v := 0) 17 rfl dX1_hasEnvoy_16 (by decide) ?_
    refine g_iret .boolean dX1_hasEnvoy_17 rfl (rfl) ?_
    exact ⟨rfl, rfl⟩
theorem c_X1_hasClause {a : Nat} (hb : h.1 3 3 ≤ 5) (ha : a < 2 ^ 32) : Rti V 1 yX1_hasClause cX1_hasClause 2 (some .boolean) [rf V 3, .int (nI a)] h (nI (if a < h.1 3 3 then 1 else 0)) h := by
  refine Mt_in [some (rf V 3), some (.int (nI a))] (own := RX1) rfl (by decide) (Nat.le_of_ble_eq_true rfl) (fun q hq => hq) ?_
  by_cases hs : a < 2 ^ 31
  · refine g_iload_n1 1 rfl dX1_hasClause_0 ?_
    refine gn_if_lt 16 (by decide) 4 rfl dX1_hasClause_1 (by omega) (fun c => c.elim) (fun _ => ?_)
    refine g_iload_n1 5 rfl dX1_hasClause_4 ?_
    refine g_aload_n0 6 rfl dX1_hasClause_5 ?_
    refine gf_Rules_clauses 9 rfl fl_RX1_40 dX1_hasClause_6 ?_
    refine gn_icmp_ge 16 (by decide) 12 rfl dX1_hasClause_9 (by omega) (by omega) (fun c9 => ?_) (fun c9 => ?_)
    · refine g_iconst (v := 0) 17 rfl dX1_hasClause_16 (by decide) ?_
      refine g_iret .boolean dX1_hasClause_17 rfl (rfl) ?_
      first | (rw [if_pos c9]; exact ⟨rfl, rfl⟩) | (rw [if_neg (by omega)]; exact ⟨rfl, rfl⟩)
    · refine g_iconst (v := 1) 13 rfl dX1_hasClause_12 (by decide) ?_
      refine g_goto 17 (by decide) dX1_hasClause_13 ?_
      refine g_iret .boolean dX1_hasClause_17 rfl (rfl) ?_
      first | (rw [if_pos c9]; exact ⟨rfl, rfl⟩) | (rw [if_neg (by omega)]; exact ⟨rfl, rfl⟩)
  · rw [if_neg (by omega)]
    refine g_iload_n1 1 rfl dX1_hasClause_0 ?_
    refine g_if_lt 16 (by decide) 4 rfl dX1_hasClause_1 (fun c1 => ?_) (fun c1 => absurd (nI_ng (by omega) ha) c1)
    refine g_iconst (v := 0) 17 rfl dX1_hasClause_16 (by decide) ?_
    refine g_iret .boolean dX1_hasClause_17 rfl (rfl) ?_
    exact ⟨rfl, rfl⟩
theorem c_X1_wordsAt {t : Nat} (ht : t ≤ 9) : Rti V 1 yX1_wordsAt cX1_wordsAt 1 (some .int) [.int (nI t)] h (nI (4 - t / 3)) h := by
  refine Mt_in [some (.int (nI t))] (own := RX1) rfl (by decide) (Nat.le_of_ble_eq_true rfl) (fun q hq => hq) ?_
  refine g_iconst (v := 4) 1 rfl dX1_wordsAt_0 (by decide) ?_
  refine g_iload_n0 2 rfl dX1_wordsAt_1 ?_
  refine g_iconst (v := 3) 3 rfl dX1_wordsAt_2 (by decide) ?_
  refine gn_idiv 4 rfl dX1_wordsAt_3 (by omega) (by omega) (by omega) ?_
  refine gn_isub 5 rfl dX1_wordsAt_4 (by omega) ?_
  refine g_iret .int dX1_wordsAt_5 rfl (rfl) ?_
  exact ⟨rfl, rfl⟩
theorem c_X1_painFor {k p t : Nat} (hk : k ≤ 3) (hp : p ≤ 9) (ht : t ≤ 9) : Rti V 1 yX1_painFor cX1_painFor 4 (some .int) [.int (nI k), .int (nI p), .int (nI t)] h (nI (pain k p t)) h := by
  refine Mt_in [some (.int (nI k)), some (.int (nI p)), some (.int (nI t)), none] (own := RX1) rfl (by decide) (Nat.le_of_ble_eq_true rfl) (fun q hq => hq) ?_
  rcases (show k = 0 ∨ k = 1 ∨ k = 2 ∨ k = 3 by omega) with rfl | rfl | rfl | rfl
  · refine g_iconst (v := 0) 1 rfl dX1_painFor_0 (by decide) ?_
    refine g_iload_n2 2 rfl dX1_painFor_1 ?_
    refine g_iload_n1 3 rfl dX1_painFor_2 ?_
    refine g_isub 4 rfl dX1_painFor_3  ?_
    refine g_max 7 rfl ml_RX1_51 dX1_painFor_4 (by decide) (Nat.le_of_ble_eq_true rfl) ?_
    rw [fx_sub0 (by omega) (by omega)]
    refine g_istore_n3 8 rfl dX1_painFor_7 (by decide) rfl ?_
    refine g_iload_n0 9 rfl dX1_painFor_8 ?_
    refine g_tsw (off := 49) 58 dX1_painFor_9 (by decide +kernel) (by decide) ?_
    refine g_iload_n3 59 rfl dX1_painFor_58 ?_
    refine g_iret .int dX1_painFor_59 rfl (rfl) ?_
    exact ⟨rfl, rfl⟩
  · refine g_iconst (v := 0) 1 rfl dX1_painFor_0 (by decide) ?_
    refine g_iload_n2 2 rfl dX1_painFor_1 ?_
    refine g_iload_n1 3 rfl dX1_painFor_2 ?_
    refine g_isub 4 rfl dX1_painFor_3  ?_
    refine g_max 7 rfl ml_RX1_51 dX1_painFor_4 (by decide) (Nat.le_of_ble_eq_true rfl) ?_
    rw [fx_sub0 (by omega) (by omega)]
    refine g_istore_n3 8 rfl dX1_painFor_7 (by decide) rfl ?_
    refine g_iload_n0 9 rfl dX1_painFor_8 ?_
    refine g_tsw (off := 27) 36 dX1_painFor_9 (by decide +kernel) (by decide) ?_
    refine g_iconst (v := 0) 37 rfl dX1_painFor_36 (by decide) ?_
    refine g_iret .int dX1_painFor_37 rfl (rfl) ?_
    exact ⟨rfl, rfl⟩
  · refine g_iconst (v := 0) 1 rfl dX1_painFor_0 (by decide) ?_
    refine g_iload_n2 2 rfl dX1_painFor_1 ?_
    refine g_iload_n1 3 rfl dX1_painFor_2 ?_
    refine g_isub 4 rfl dX1_painFor_3  ?_
    refine g_max 7 rfl ml_RX1_51 dX1_painFor_4 (by decide) (Nat.le_of_ble_eq_true rfl) ?_
    rw [fx_sub0 (by omega) (by omega)]
    refine g_istore_n3 8 rfl dX1_painFor_7 (by decide) rfl ?_
    refine g_iload_n0 9 rfl dX1_painFor_8 ?_
    refine g_tsw (off := 29) 38 dX1_painFor_9 (by decide +kernel) (by decide) ?_
    refine g_iload_n3 39 rfl dX1_painFor_38 ?_
    refine gn_if_le 48 (by decide) 42 rfl dX1_painFor_39 (by omega) (fun c39 => ?_) (fun c39 => ?_)
    · refine g_iconst (v := 0) 49 rfl dX1_painFor_48 (by decide) ?_
      refine g_iret .int dX1_painFor_49 rfl (rfl) ?_
      refine ⟨congrArg (fun q => some (Value.int (nI q))) ?_, rfl⟩
      first | exact (if_pos c39).symm | exact (if_neg (show ¬ t - p = 0 by omega)).symm
    · refine g_iload_n3 43 rfl dX1_painFor_42 ?_
      refine g_iconst (v := 1) 44 rfl dX1_painFor_43 (by decide) ?_
      refine gn_iadd 45 rfl dX1_painFor_44 ?_
      refine g_goto 49 (by decide) dX1_painFor_45 ?_
      refine g_iret .int dX1_painFor_49 rfl (rfl) ?_
      refine ⟨congrArg (fun q => some (Value.int (nI q))) ?_, rfl⟩
      first | exact (if_pos c39).symm | exact (if_neg (show ¬ t - p = 0 by omega)).symm
  · refine g_iconst (v := 0) 1 rfl dX1_painFor_0 (by decide) ?_
    refine g_iload_n2 2 rfl dX1_painFor_1 ?_
    refine g_iload_n1 3 rfl dX1_painFor_2 ?_
    refine g_isub 4 rfl dX1_painFor_3  ?_
    refine g_max 7 rfl ml_RX1_51 dX1_painFor_4 (by decide) (Nat.le_of_ble_eq_true rfl) ?_
    rw [fx_sub0 (by omega) (by omega)]
    refine g_istore_n3 8 rfl dX1_painFor_7 (by decide) rfl ?_
    refine g_iload_n0 9 rfl dX1_painFor_8 ?_
    refine g_tsw (off := 41) 50 dX1_painFor_9 (by decide +kernel) (by decide) ?_
    refine g_iconst (v := 0) 51 rfl dX1_painFor_50 (by decide) ?_
    refine g_iload_n3 52 rfl dX1_painFor_51 ?_
    refine g_iconst (v := 1) 53 rfl dX1_painFor_52 (by decide) ?_
    refine g_isub 54 rfl dX1_painFor_53  ?_
    refine g_max 57 rfl ml_RX1_51 dX1_painFor_54 (by decide) (Nat.le_of_ble_eq_true rfl) ?_
    rw [fx_sub0 (by omega) (by omega)]
    refine g_iret .int dX1_painFor_57 rfl (rfl) ?_
    exact ⟨rfl, rfl⟩
theorem c_X1_pain {e t : Nat} (he : e < 4) (hk : h.1 4 (3 * e + 2) ≤ 3) (hp : h.1 4 (3 * e) ≤ 9) (ht : t ≤ 9) : Rti V 2 yX1_pain cX1_pain 3 (some .int) [rf V 3, .int (nI e), .int (nI t)] h (nI (pain (h.1 4 (3 * e + 2)) (h.1 4 (3 * e)) t)) h := by
  refine Mt_in [some (rf V 3), some (.int (nI e)), some (.int (nI t))] (own := RX1) rfl (by decide) (Nat.le_of_ble_eq_true rfl) (fun q hq => hq) ?_
  refine g_aload_n0 1 rfl dX1_pain_0 ?_
  refine gf_Rules_kind 4 rfl fl_RX1_18 dX1_pain_1 ?_
  refine g_iload_n1 5 rfl dX1_pain_4 ?_
  refine ga_6 6 rfl (by omega) dX1_pain_5 ?_
  refine g_aload_n0 7 rfl dX1_pain_6 ?_
  refine gf_Rules_palate 10 rfl fl_RX1_9 dX1_pain_7 ?_
  refine g_iload_n1 11 rfl dX1_pain_10 ?_
  refine ga_4 12 rfl (by omega) dX1_pain_11 ?_
  refine g_iload_n2 13 rfl dX1_pain_12 ?_
  refine g_cs3i 16 rfl cw_RX1_47 dX1_pain_13 (c_X1_painFor hk hp ht) (by omega) (Nat.le_of_ble_eq_true rfl) ?_
  refine g_iret .int dX1_pain_16 rfl (rfl) ?_
  exact ⟨rfl, rfl⟩
theorem c_X1_worthOf {b : Nat} (hC : h.1 3 3 ≤ 5) (hb : b < 2 ^ 31) : Rti V 2 yX1_worthOf cX1_worthOf 4 (some .int) [rf V 3, .int (nI b)] h (nI (wrths (h.1 7) b (h.1 3 3))) h := by
  refine Mt_in [some (rf V 3), some (.int (nI b)), none, none] (own := RX1) rfl (by decide) (Nat.le_of_ble_eq_true rfl) (fun q hq => hq) ?_
  refine g_iconst (v := 0) 1 rfl dX1_worthOf_0 (by decide) ?_
  refine g_istore_n2 2 rfl dX1_worthOf_1 (by decide) rfl ?_
  refine g_iconst (v := 0) 3 rfl dX1_worthOf_2 (by decide) ?_
  refine g_istore_n3 4 rfl dX1_worthOf_3 (by decide) rfl ?_
  skip
  refine loop_up (P := fun i => G V T0 2 RX1 cX1_worthOf 4 (some .int) 4 [some (rf V 3), some (.int (nI b)), some (.int (nI (wrths (h.1 7) b i))), some (.int (nI i))] [] h _) (n := h.1 3 3) ?_ (fun i hi ih => ?_) 0 (Nat.zero_le _)
  · refine g_iload_n3 5 rfl dX1_worthOf_4 ?_
    refine g_aload_n0 6 rfl dX1_worthOf_5 ?_
    refine gf_Rules_clauses 9 rfl fl_RX1_40 dX1_worthOf_6 ?_
    refine gn_icmp_ge 34 (by decide) 12 rfl dX1_worthOf_9 (by omega) (by omega) (fun c9 => ?_) (fun c9 => absurd c9 (Nat.lt_irrefl _))
    refine g_iload_n2 35 rfl dX1_worthOf_34 ?_
    refine g_iret .int dX1_worthOf_35 rfl (rfl) ?_
    exact ⟨rfl, rfl⟩
  · refine g_iload_n3 5 rfl dX1_worthOf_4 ?_
    refine g_aload_n0 6 rfl dX1_worthOf_5 ?_
    refine gf_Rules_clauses 9 rfl fl_RX1_40 dX1_worthOf_6 ?_
    refine gn_icmp_ge 34 (by decide) 12 rfl dX1_worthOf_9 (by omega) (by omega) (fun c9 => absurd c9 (Nat.not_le_of_lt hi)) (fun c9 => ?_)
    refine g_iload_n1 13 rfl dX1_worthOf_12 ?_
    refine g_iload_n3 14 rfl dX1_worthOf_13 ?_
    refine gn_ishr 15 rfl dX1_worthOf_14 (by omega) (by omega) ?_
    refine g_iconst (v := 1) 16 rfl dX1_worthOf_15 (by decide) ?_
    refine gn_iand 17 rfl dX1_worthOf_16 ?_
    refine gn_if_eq 28 (by decide) 20 rfl dX1_worthOf_17 (Nat.lt_of_lt_of_le (bt_lt b i) (by omega)) (fun c17 => ?_) (fun c17 => ?_)
    · refine gn_iinc3 1 31 rfl dX1_worthOf_28 rfl (by decide) rfl ?_
      refine g_goto 4 (by decide) dX1_worthOf_31 ?_
      first | (rw [show wrths _ _ (i + 1) = _ from if_pos c17] at ih; exact ih) | (rw [show wrths _ _ (i + 1) = _ from if_neg c17] at ih; exact ih)
    · refine g_iload_n2 21 rfl dX1_worthOf_20 ?_
      refine g_aload_n0 22 rfl dX1_worthOf_21 ?_
      refine g_iload_n3 23 rfl dX1_worthOf_22 ?_
      refine g_cv1i 26 rfl cw_RX1_43 dX1_worthOf_23 (c_X1_worth (by omega)) (by omega) (ob_3 V) (Nat.le_of_ble_eq_true rfl) ?_
      refine gn_iadd 27 rfl dX1_worthOf_26 ?_
      refine g_istore_n2 28 rfl dX1_worthOf_27 (by decide) rfl ?_
      refine gn_iinc3 1 31 rfl dX1_worthOf_28 rfl (by decide) rfl ?_
      refine g_goto 4 (by decide) dX1_worthOf_31 ?_
      first | (rw [show wrths _ _ (i + 1) = _ from if_pos c17] at ih; exact ih) | (rw [show wrths _ _ (i + 1) = _ from if_neg c17] at ih; exact ih)
theorem c_X1_clausesOf {b : Nat} (hC : h.1 3 3 ≤ 5) (hb : b < 2 ^ 31) (ho : ∀ c, h.1 7 (3 * c + 2) < 4) : Rti V 1 yX1_clausesOf cX1_clausesOf 4 (some .int) [rf V 3, .int (nI b)] h (nI (clsOf (h.1 7) b (h.1 3 3))) h := by
  refine Mt_in [some (rf V 3), some (.int (nI b)), none, none] (own := RX1) rfl (by decide) (Nat.le_of_ble_eq_true rfl) (fun q hq => hq) ?_
  refine g_iconst (v := 0) 1 rfl dX1_clausesOf_0 (by decide) ?_
  refine g_istore_n2 2 rfl dX1_clausesOf_1 (by decide) rfl ?_
  refine g_iconst (v := 0) 3 rfl dX1_clausesOf_2 (by decide) ?_
  refine g_istore_n3 4 rfl dX1_clausesOf_3 (by decide) rfl ?_
  skip
  refine loop_up (P := fun i => G V T0 1 RX1 cX1_clausesOf 4 (some .int) 4 [some (rf V 3), some (.int (nI b)), some (.int (nI (clsOf (h.1 7) b i))), some (.int (nI i))] [] h _) (n := h.1 3 3) ?_ (fun i hi ih => ?_) 0 (Nat.zero_le _)
  · refine g_iload_n3 5 rfl dX1_clausesOf_4 ?_
    refine g_aload_n0 6 rfl dX1_clausesOf_5 ?_
    refine gf_Rules_clauses 9 rfl fl_RX1_40 dX1_clausesOf_6 ?_
    refine gn_icmp_ge 37 (by decide) 12 rfl dX1_clausesOf_9 (by omega) (by omega) (fun c9 => ?_) (fun c9 => absurd c9 (Nat.lt_irrefl _))
    refine g_iload_n2 38 rfl dX1_clausesOf_37 ?_
    refine g_iret .int dX1_clausesOf_38 rfl (rfl) ?_
    exact ⟨rfl, rfl⟩
  · have hoi := ho i
    refine g_iload_n3 5 rfl dX1_clausesOf_4 ?_
    refine g_aload_n0 6 rfl dX1_clausesOf_5 ?_
    refine gf_Rules_clauses 9 rfl fl_RX1_40 dX1_clausesOf_6 ?_
    refine gn_icmp_ge 37 (by decide) 12 rfl dX1_clausesOf_9 (by omega) (by omega) (fun c9 => absurd c9 (Nat.not_le_of_lt hi)) (fun c9 => ?_)
    refine g_iload_n1 13 rfl dX1_clausesOf_12 ?_
    refine g_aload_n0 14 rfl dX1_clausesOf_13 ?_
    refine gf_Rules_owner 17 rfl fl_RX1_27 dX1_clausesOf_14 ?_
    refine g_iload_n3 18 rfl dX1_clausesOf_17 ?_
    refine ga_9 19 rfl (by omega) dX1_clausesOf_18 ?_
    refine gn_ishr 20 rfl dX1_clausesOf_19 (by omega) (by omega) ?_
    refine g_iconst (v := 1) 21 rfl dX1_clausesOf_20 (by decide) ?_
    refine gn_iand 22 rfl dX1_clausesOf_21 ?_
    refine gn_if_eq 31 (by decide) 25 rfl dX1_clausesOf_22 (Nat.lt_of_lt_of_le (bt_lt b _) (by omega)) (fun c22 => ?_) (fun c22 => ?_)
    · refine gn_iinc3 1 34 rfl dX1_clausesOf_31 rfl (by decide) rfl ?_
      refine g_goto 4 (by decide) dX1_clausesOf_34 ?_
      first | (rw [show clsOf _ _ (i + 1) = _ from if_pos c22] at ih; exact ih) | (rw [show clsOf _ _ (i + 1) = _ from if_neg c22] at ih; exact ih)
    · refine g_iload_n2 26 rfl dX1_clausesOf_25 ?_
      refine g_iconst (v := 1) 27 rfl dX1_clausesOf_26 (by decide) ?_
      refine g_iload_n3 28 rfl dX1_clausesOf_27 ?_
      refine gn_ishl 29 rfl dX1_clausesOf_28 (by omega) ?_
      refine gn_ior 30 rfl dX1_clausesOf_29 ?_
      refine g_istore_n2 31 rfl dX1_clausesOf_30 (by decide) rfl ?_
      refine gn_iinc3 1 34 rfl dX1_clausesOf_31 rfl (by decide) rfl ?_
      refine g_goto 4 (by decide) dX1_clausesOf_34 ?_
      first | (rw [show clsOf _ _ (i + 1) = _ from if_pos c22] at ih; exact ih) | (rw [show clsOf _ _ (i + 1) = _ from if_neg c22] at ih; exact ih)
theorem c_X1_begin {t s : Nat} : Rtv V 1 yX1_begin cX1_begin 3 none [rf V 3, .int (nI t), .int (nI s)] h (sR h 3 (up (up (up (up (h.1 3) 0 t) 1 s) 2 0) 3 0)) := by
  refine Mt_in [some (rf V 3), some (.int (nI t)), some (.int (nI s))] (own := RX1) rfl (by decide) (Nat.le_of_ble_eq_true rfl) (fun q hq => hq) ?_
  refine g_aload_n0 1 rfl dX1_begin_0 ?_
  refine g_iload_n1 2 rfl dX1_begin_1 ?_
  refine gp_Rules_heatAtFirst 5 rfl fl_RX1_30 dX1_begin_2 ?_
  refine g_aload_n0 6 rfl dX1_begin_5 ?_
  refine g_iload_n2 7 rfl dX1_begin_6 ?_
  refine gp_Rules_storeAtFirst 10 rfl fl_RX1_34 dX1_begin_7 ?_
  refine g_aload_n0 11 rfl dX1_begin_10 ?_
  refine g_iconst (v := 0) 12 rfl dX1_begin_11 (by decide) ?_
  refine gp_Rules_envoys 15 rfl fl_RX1_37 dX1_begin_12 ?_
  refine g_aload_n0 16 rfl dX1_begin_15 ?_
  refine g_iconst (v := 0) 17 rfl dX1_begin_16 (by decide) ?_
  refine gp_Rules_clauses 20 rfl fl_RX1_40 dX1_begin_17 ?_
  refine g_vret dX1_begin_20 rfl ?_
  exact ⟨rfl, by rw [sR_sR, sR_sR, sR_sR]; rfl⟩
end X1
