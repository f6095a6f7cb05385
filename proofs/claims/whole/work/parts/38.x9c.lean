/-! the reference: turns judged, fractions, sights, rests -/
theorem spfS_n {m : Nat} {C T : Nat → Nat} {c k : Nat} (hf : spfS m C T c k = none) : spfS m C T c (k + 1) = if canB m C (sdk T k) c then some k else none := by
  simp only [spfS, hf]
def spfM (m : Nat) (C T : Nat → Nat) (c : Nat) : Nat := match spfS m C T c (T 1 + 1) with
  | some q => q + 1
  | none => T 1 + 1
theorem ne9 {v : Nat} (hv : v < 2 ^ 31) : ¬ nI v = nI 4294967287 := by
  intro q
  have w := congrArg Int32.toInt q
  rw [nI_toInt hv, show (nI 4294967287).toInt = -9 by decide +kernel] at w
  omega
theorem s9_22 (h : Hp) (f : Nat → Nat) : (sR h 29 f).1 22 = h.1 22 := rfl
theorem s9_24 (h : Hp) (f : Nat → Nat) : (sR h 29 f).1 24 = h.1 24 := rfl
theorem s9_25 (h : Hp) (f : Nat → Nat) : (sR h 29 f).1 25 = h.1 25 := rfl
theorem s9_28 (h : Hp) (f : Nat → Nat) : (sR h 29 f).1 28 = h.1 28 := rfl
section X9c
variable {V : Vt} {h : Hp}
theorem c_X9_power {a n : Nat} (hn : n ≤ 6) : Rti V 1 yX9_power cX9_power 4 (some .int) [.int (nI a), .int (nI n)] h (nI (a ^ n)) h := by
  refine Mt_in [some (.int (nI a)), some (.int (nI n)), none, none] (own := RX9) rfl (by decide) (Nat.le_of_ble_eq_true rfl) (fun q hq => hq) ?_
  refine g_iconst (v := 1) 1 rfl dX9_power_0 (by decide) ?_
  refine g_istore_n2 2 rfl dX9_power_1 (by decide) rfl ?_
  refine g_iconst (v := 0) 3 rfl dX9_power_2 (by decide) ?_
  refine g_istore_n3 4 rfl dX9_power_3 (by decide) rfl ?_
  skip
  refine loop_up (P := fun i => G V T0 1 RX9 cX9_power 4 (some .int) 4 [some (.int (nI a)), some (.int (nI n)), some (.int (nI (a ^ i))), some (.int (nI i))] [] h _) (n := n) ?_ (fun i hi ih => ?_) 0 (Nat.zero_le _)
  · refine g_iload_n3 5 rfl dX9_power_4 ?_
    refine g_iload_n1 6 rfl dX9_power_5 ?_
    refine gn_icmp_ge 19 (by decide) 9 rfl dX9_power_6 (by omega) (by omega) (fun c6 => ?_) (fun c6 => absurd c6 (Nat.lt_irrefl _))
    refine g_iload_n2 20 rfl dX9_power_19 ?_
    refine g_iret .int dX9_power_20 rfl (rfl) ?_
    exact ⟨rfl, rfl⟩
  · refine g_iload_n3 5 rfl dX9_power_4 ?_
    refine g_iload_n1 6 rfl dX9_power_5 ?_
    refine gn_icmp_ge 19 (by decide) 9 rfl dX9_power_6 (by omega) (by omega) (fun c6 => absurd c6 (Nat.not_le_of_lt hi)) (fun c6 => ?_)
    refine g_iload_n2 10 rfl dX9_power_9 ?_
    refine g_iload_n0 11 rfl dX9_power_10 ?_
    refine gn_imul 12 rfl dX9_power_11 ?_
    refine g_istore_n2 13 rfl dX9_power_12 (by decide) rfl ?_
    refine gn_iinc3 1 16 rfl dX9_power_13 rfl (by decide) rfl ?_
    refine g_goto 4 (by decide) dX9_power_16 ?_
    exact ih
theorem c_X9_hot_u {a k : Nat} (ht : h.1 22 0 = 0) (hm : MI h) (ha : a < 2 ^ 32) (hn : ¬ a < h.1 22 6) : Rti V 4 yX9_hot cX9_hot 6 (some .int) [rf V 22, .int (nI a), .int (nI k)] h (nI 4294967295) h := by
  have h01 : (if a < h.1 22 6 then 0 else 1) = 1 := if_neg hn
  refine Mt_in [some (rf V 22), some (.int (nI a)), some (.int (nI k)), none, none, none] (own := RX9) rfl (by decide) (Nat.le_of_ble_eq_true rfl) (fun q hq => hq) ?_
  refine g_aload_n0 1 rfl dX9_hot_0 ?_
  refine g_iconst (v := 0) 2 rfl dX9_hot_1 (by decide) ?_
  refine gp_Model_thrown 5 rfl fl_RX9_53 dX9_hot_2 ?_
  rw [thr0 ht]
  refine g_aload_n0 6 rfl dX9_hot_5 ?_
  refine g_iload_n1 7 rfl dX9_hot_6 ?_
  refine g_cv1i 10 rfl cw_RX9_132 dX9_hot_7 (c_X9_noClause hm.2.1 ha) (by omega) (ob_22 V) (Nat.le_of_ble_eq_true rfl) ?_
  rw [h01]
  refine gn_if_eq 15 (by decide) 13 rfl dX9_hot_10 (by omega) (fun c10 => absurd c10 (by decide)) (fun c10 => ?_)
  refine g_iconst (v := 4294967295) 14 rfl dX9_hot_13 (by decide) ?_
  refine g_iret .int dX9_hot_14 rfl (rfl) ?_
  exact ⟨rfl, rfl⟩
theorem c_X9_hot_bad {a k : Nat} (ht : h.1 22 0 = 0) (hm : MI h) (hn : a < h.1 22 6) (hk : k < 2 ^ 32) (hb : ¬ k ≤ 9) : Rti V 4 yX9_hot cX9_hot 6 (some .int) [rf V 22, .int (nI a), .int (nI k)] h (nI 4294967294) h := by
  have h01 : (if a < h.1 22 6 then 0 else 1) = 0 := if_pos hn
  have h02 : (if (0 : Int64) ≤ (nI k).toInt64 ∧ (nI k).toInt64 ≤ 9 then 1 else 0) = 0 := if_neg (fun q => hb ((in_c (n := k) (a := 0) (b := 9) (by omega) (by decide) (by decide) rfl rfl).mp q).2)
  have h5 := hm.2.1
  refine Mt_in [some (rf V 22), some (.int (nI a)), some (.int (nI k)), none, none, none] (own := RX9) rfl (by decide) (Nat.le_of_ble_eq_true rfl) (fun q hq => hq) ?_
  refine g_aload_n0 1 rfl dX9_hot_0 ?_
  refine g_iconst (v := 0) 2 rfl dX9_hot_1 (by decide) ?_
  refine gp_Model_thrown 5 rfl fl_RX9_53 dX9_hot_2 ?_
  rw [thr0 ht]
  refine g_aload_n0 6 rfl dX9_hot_5 ?_
  refine g_iload_n1 7 rfl dX9_hot_6 ?_
  refine g_cv1i 10 rfl cw_RX9_132 dX9_hot_7 (c_X9_noClause hm.2.1 (by omega)) (by omega) (ob_22 V) (Nat.le_of_ble_eq_true rfl) ?_
  rw [h01]
  refine gn_if_eq 15 (by decide) 13 rfl dX9_hot_10 (by omega) (fun c10 => ?_) (fun c10 => absurd rfl c10)
  refine g_iload_n2 16 rfl dX9_hot_15 ?_
  refine g_i2l 17 rfl dX9_hot_16 ?_
  refine g_lconst (v := 0) 18 rfl dX9_hot_17 rfl ?_
  refine g_ldc2 21 rfl kl_RX9_172 dX9_hot_18 ?_
  refine g_cs3i 24 rfl cw_RX9_60 dX9_hot_21 (c_X9_in) (by omega) (Nat.le_of_ble_eq_true rfl) ?_
  rw [h02]
  refine gn_if_ne 30 (by decide) 27 rfl dX9_hot_24 (by omega) (fun c24 => absurd rfl c24) (fun c24 => ?_)
  refine g_bipush (v := 4294967294) 29 rfl dX9_hot_27 (by decide) ?_
  refine g_iret .int dX9_hot_29 rfl (rfl) ?_
  exact ⟨rfl, rfl⟩
theorem c_X9_hot_ok {a k : Nat} (ht : h.1 22 0 = 0) (hm : MI h) (hn : a < h.1 22 6) (hk : k ≤ 9) : Rti V 4 yX9_hot cX9_hot 6 (some .int) [rf V 22, .int (nI a), .int (nI k)] h (nI (hotB (h.1 24) (h.1 22 4) (h.1 22 6) (h.1 25) (h.1 28) a k 10)) (sR h 29 (hotR (h.1 24) (h.1 22 4) (h.1 28) (h.1 29) k 10)) := by
  have h01 : (if a < h.1 22 6 then 0 else 1) = 0 := if_pos hn
  have h02 : (if (0 : Int64) ≤ (nI k).toInt64 ∧ (nI k).toInt64 ≤ 9 then 1 else 0) = 1 := if_pos ((in_c (n := k) (a := 0) (b := 9) (by omega) (by decide) (by decide) rfl rfl).mpr ⟨by omega, hk⟩)
  obtain ⟨hE, hC, x4, x5, x7, x8, hT, hT9⟩ := id hm
  refine Mt_in [some (rf V 22), some (.int (nI a)), some (.int (nI k)), none, none, none] (own := RX9) rfl (by decide) (Nat.le_of_ble_eq_true rfl) (fun q hq => hq) ?_
  refine g_aload_n0 1 rfl dX9_hot_0 ?_
  refine g_iconst (v := 0) 2 rfl dX9_hot_1 (by decide) ?_
  refine gp_Model_thrown 5 rfl fl_RX9_53 dX9_hot_2 ?_
  rw [thr0 ht]
  refine g_aload_n0 6 rfl dX9_hot_5 ?_
  refine g_iload_n1 7 rfl dX9_hot_6 ?_
  refine g_cv1i 10 rfl cw_RX9_132 dX9_hot_7 (c_X9_noClause hm.2.1 (by omega)) (by omega) (ob_22 V) (Nat.le_of_ble_eq_true rfl) ?_
  rw [h01]
  refine gn_if_eq 15 (by decide) 13 rfl dX9_hot_10 (by omega) (fun c10 => ?_) (fun c10 => absurd rfl c10)
  refine g_iload_n2 16 rfl dX9_hot_15 ?_
  refine g_i2l 17 rfl dX9_hot_16 ?_
  refine g_lconst (v := 0) 18 rfl dX9_hot_17 rfl ?_
  refine g_ldc2 21 rfl kl_RX9_172 dX9_hot_18 ?_
  refine g_cs3i 24 rfl cw_RX9_60 dX9_hot_21 (c_X9_in) (by omega) (Nat.le_of_ble_eq_true rfl) ?_
  rw [h02]
  refine gn_if_ne 30 (by decide) 27 rfl dX9_hot_24 (by omega) (fun c24 => ?_) (fun c24 => absurd c24 (by decide))
  refine g_iconst (v := 0) 31 rfl dX9_hot_30 (by decide) ?_
  refine g_istore_n3 32 rfl dX9_hot_31 (by decide) rfl ?_
  refine g_iconst (v := 0) 33 rfl dX9_hot_32 (by decide) ?_
  refine g_istore4 35 rfl dX9_hot_33 (by decide) rfl ?_
  skip
  refine g_heap (sR_same h 29).symm ?_
  refine loop_up (P := fun t => G V T0 4 RX9 cX9_hot 6 (some .int) 35 [some (rf V 22), some (.int (nI a)), some (.int (nI k)), some (.int (nI (hotB (h.1 24) (h.1 22 4) (h.1 22 6) (h.1 25) (h.1 28) a k t))), some (.int (nI t)), none] [] (sR h 29 (hotR (h.1 24) (h.1 22 4) (h.1 28) (h.1 29) k t)) _) (n := 10) ?_ (fun t ht2 ih => ?_) 0 (Nat.zero_le _)
  · refine g_iload4 37 rfl dX9_hot_35 ?_
    refine g_bipush (v := 9) 39 rfl dX9_hot_37 (by decide) ?_
    refine gn_icmp_gt 106 (by decide) 42 rfl dX9_hot_39 (by omega) (by omega) (fun c39 => ?_) (fun c39 => absurd c39 (by omega))
    refine g_iload_n3 107 rfl dX9_hot_106 ?_
    refine g_iret .int dX9_hot_107 rfl (rfl) ?_
    exact ⟨rfl, rfl⟩
  · have hTt : TI (hotR (h.1 24) (h.1 22 4) (h.1 28) (h.1 29) k t) := by
      cases t with
      | zero => exact hT9
      | succ t => exact TI_btk (TI_up0 hT (by omega)) x4 hE k
    have hm2 := MI_29 hm hTt
    have hT0 := TI_up0 hT (show t ≤ 9 by omega)
    refine g_iload4 37 rfl dX9_hot_35 ?_
    refine g_bipush (v := 9) 39 rfl dX9_hot_37 (by decide) ?_
    refine gn_icmp_gt 106 (by decide) 42 rfl dX9_hot_39 (by omega) (by omega) (fun c39 => absurd c39 (by omega)) (fun c39 => ?_)
    refine g_aload_n0 43 rfl dX9_hot_42 ?_
    refine g_cv0v 46 rfl cw_RX9_151 dX9_hot_43 (c_X9_begin hm2) (by omega) (ob_22 V) (Nat.le_of_ble_eq_true rfl) ?_
    rw [sR_sR, show (sR h 29 (hotR (h.1 24) (h.1 22 4) (h.1 28) (h.1 29) k t)).1 28 = h.1 28 from rfl]
    refine g_aload_n0 47 rfl dX9_hot_46 ?_
    refine gf_Model_trial 50 rfl fl_RX9_28 dX9_hot_47 ?_
    refine g_iconst (v := 0) 51 rfl dX9_hot_50 (by decide) ?_
    refine g_iload4 53 rfl dX9_hot_51 ?_
    refine gs_29 54 rfl (by omega) dX9_hot_53 ?_
    rw [sR_s, sR_sR]
    refine g_iconst (v := 0) 55 rfl dX9_hot_54 (by decide) ?_
    refine g_istore5 57 rfl dX9_hot_55 (by decide) rfl ?_
    skip
    refine loop_up (P := fun i => G V T0 4 RX9 cX9_hot 6 (some .int) 57 [some (rf V 22), some (.int (nI a)), some (.int (nI k)), some (.int (nI (hotB (h.1 24) (h.1 22 4) (h.1 22 6) (h.1 25) (h.1 28) a k t))), some (.int (nI t)), some (.int (nI i))] [] (sR h 29 (btk (h.1 24) (h.1 22 4) (up (h.1 28) 0 t) i)) _) (n := k) ?_ (fun i hi ih2 => ?_) 0 (Nat.zero_le _)
    · have hm3 := MI_29 hm (TI_btk hT0 x4 hE k)
      refine g_iload5 59 rfl dX9_hot_57 ?_
      refine g_iload_n2 60 rfl dX9_hot_59 ?_
      refine gn_icmp_ge 77 (by decide) 63 rfl dX9_hot_60 (by omega) (by omega) (fun c60 => ?_) (fun c60 => absurd c60 (Nat.lt_irrefl _))
      refine g_iload_n3 78 rfl dX9_hot_77 ?_
      refine g_aload_n0 79 rfl dX9_hot_78 ?_
      refine g_aload_n0 80 rfl dX9_hot_79 ?_
      refine gf_Model_trial 83 rfl fl_RX9_28 dX9_hot_80 ?_
      refine g_iload_n1 84 rfl dX9_hot_83 ?_
      refine g_cv2i 87 rfl cw_RX9_114 dX9_hot_84 (c_X9_canSay_29 hm3 hm3.2.2.2.2.2.2.2 hn) (by omega) (ob_22 V) (Nat.le_of_ble_eq_true rfl) ?_
      rw [sR_s, s9_22, s9_25]
      refine gn_if_eq 97 (by decide) 90 rfl dX9_hot_87 (Nat.lt_of_lt_of_le (Bool.toNat_lt _) (by omega)) (fun c87 => ?_) (fun c87 => ?_)
      · refine g_iconst (v := 0) 98 rfl dX9_hot_97 (by decide) ?_
        refine gn_ior 99 rfl dX9_hot_98 ?_
        refine g_istore_n3 100 rfl dX9_hot_99 (by decide) rfl ?_
        refine gn_iinc4 1 103 rfl dX9_hot_100 rfl (by decide) rfl ?_
        refine g_goto 35 (by decide) dX9_hot_103 ?_
        refine g_none 5 ?_
        first | (rw [show hotB _ _ _ _ _ _ _ (t + 1) = _ from if_neg (by simpa using c87)] at ih; rw [Nat.or_zero]; exact ih) | (rw [show hotB _ _ _ _ _ _ _ (t + 1) = _ from if_pos (by simpa using c87)] at ih; exact ih)
      · refine g_iconst (v := 1) 91 rfl dX9_hot_90 (by decide) ?_
        refine g_iload4 93 rfl dX9_hot_91 ?_
        refine gn_ishl 94 rfl dX9_hot_93 (by omega) ?_
        refine g_goto 98 (by decide) dX9_hot_94 ?_
        refine gn_ior 99 rfl dX9_hot_98 ?_
        refine g_istore_n3 100 rfl dX9_hot_99 (by decide) rfl ?_
        refine gn_iinc4 1 103 rfl dX9_hot_100 rfl (by decide) rfl ?_
        refine g_goto 35 (by decide) dX9_hot_103 ?_
        refine g_none 5 ?_
        first | (rw [show hotB _ _ _ _ _ _ _ (t + 1) = _ from if_neg (by simpa using c87)] at ih; rw [Nat.or_zero]; exact ih) | (rw [show hotB _ _ _ _ _ _ _ (t + 1) = _ from if_pos (by simpa using c87)] at ih; exact ih)
    · have hm3 := MI_29 hm (TI_btk hT0 x4 hE i)
      refine g_iload5 59 rfl dX9_hot_57 ?_
      refine g_iload_n2 60 rfl dX9_hot_59 ?_
      refine gn_icmp_ge 77 (by decide) 63 rfl dX9_hot_60 (by omega) (by omega) (fun c60 => absurd c60 (Nat.not_le_of_lt hi)) (fun c60 => ?_)
      refine g_aload_n0 64 rfl dX9_hot_63 ?_
      refine g_aload_n0 65 rfl dX9_hot_64 ?_
      refine gf_Model_trial 68 rfl fl_RX9_28 dX9_hot_65 ?_
      refine g_cv1v 71 rfl cw_RX9_144 dX9_hot_68 (c_X9_goBite_29 hm3 hm3.2.2.2.2.2.2.2) (by omega) (ob_22 V) (Nat.le_of_ble_eq_true rfl) ?_
      refine gn_iinc5 1 74 rfl dX9_hot_71 rfl (by decide) rfl ?_
      refine g_goto 57 (by decide) dX9_hot_74 ?_
      rw [sR_sR, sR_s]
      exact ih2
theorem c_X9_spiceFor_u {a : Nat} (ht : h.1 22 0 = 0) (hm : MI h) (ha : a < 2 ^ 32) (hn : ¬ a < h.1 22 6) : Rti V 3 yX9_spiceFor cX9_spiceFor 4 (some .int) [rf V 22, .int (nI a)] h (nI 4294967295) h := by
  have h01 : (if a < h.1 22 6 then 0 else 1) = 1 := if_neg hn
  refine Mt_in [some (rf V 22), some (.int (nI a)), none, none] (own := RX9) rfl (by decide) (Nat.le_of_ble_eq_true rfl) (fun q hq => hq) ?_
  refine g_aload_n0 1 rfl dX9_spiceFor_0 ?_
  refine g_iconst (v := 0) 2 rfl dX9_spiceFor_1 (by decide) ?_
  refine gp_Model_thrown 5 rfl fl_RX9_53 dX9_spiceFor_2 ?_
  rw [thr0 ht]
  refine g_aload_n0 6 rfl dX9_spiceFor_5 ?_
  refine g_iload_n1 7 rfl dX9_spiceFor_6 ?_
  refine g_cv1i 10 rfl cw_RX9_132 dX9_spiceFor_7 (c_X9_noClause hm.2.1 ha) (by omega) (ob_22 V) (Nat.le_of_ble_eq_true rfl) ?_
  rw [h01]
  refine gn_if_eq 15 (by decide) 13 rfl dX9_spiceFor_10 (by omega) (fun c10 => absurd c10 (by decide)) (fun c10 => ?_)
  refine g_iconst (v := 4294967295) 14 rfl dX9_spiceFor_13 (by decide) ?_
  refine g_iret .int dX9_spiceFor_14 rfl (rfl) ?_
  exact ⟨rfl, rfl⟩
theorem c_X9_spiceFor_no {a : Nat} (ht : h.1 22 0 = 0) (hm : MI h) (hn : a < h.1 22 6) (hb : ¬ bt (h.1 28 8) a = 0) : Rti V 3 yX9_spiceFor cX9_spiceFor 4 (some .int) [rf V 22, .int (nI a)] h (nI 4294967293) h := by
  have h01 : (if a < h.1 22 6 then 0 else 1) = 0 := if_pos hn
  have h5 := hm.2.1
  have h8 := hm.2.2.2.2.2.2.1.2.2.2.2.1
  refine Mt_in [some (rf V 22), some (.int (nI a)), none, none] (own := RX9) rfl (by decide) (Nat.le_of_ble_eq_true rfl) (fun q hq => hq) ?_
  refine g_aload_n0 1 rfl dX9_spiceFor_0 ?_
  refine g_iconst (v := 0) 2 rfl dX9_spiceFor_1 (by decide) ?_
  refine gp_Model_thrown 5 rfl fl_RX9_53 dX9_spiceFor_2 ?_
  rw [thr0 ht]
  refine g_aload_n0 6 rfl dX9_spiceFor_5 ?_
  refine g_iload_n1 7 rfl dX9_spiceFor_6 ?_
  refine g_cv1i 10 rfl cw_RX9_132 dX9_spiceFor_7 (c_X9_noClause hm.2.1 (by omega)) (by omega) (ob_22 V) (Nat.le_of_ble_eq_true rfl) ?_
  rw [h01]
  refine gn_if_eq 15 (by decide) 13 rfl dX9_spiceFor_10 (by omega) (fun c10 => ?_) (fun c10 => absurd rfl c10)
  refine g_aload_n0 16 rfl dX9_spiceFor_15 ?_
  refine gf_Model_page 19 rfl fl_RX9_25 dX9_spiceFor_16 ?_
  refine g_bipush (v := 8) 21 rfl dX9_spiceFor_19 (by decide) ?_
  refine ga_28 22 rfl (by omega) dX9_spiceFor_21 ?_
  refine g_iload_n1 23 rfl dX9_spiceFor_22 ?_
  refine g_cs2i 26 rfl cw_RX9_110 dX9_spiceFor_23 (c_X9_has (by omega) (by omega)) (by omega) (Nat.le_of_ble_eq_true rfl) ?_
  refine gn_if_eq 32 (by decide) 29 rfl dX9_spiceFor_26 (Nat.lt_of_lt_of_le (bt_lt _ _) (by omega)) (fun c26 => absurd c26 hb) (fun c26 => ?_)
  refine g_bipush (v := 4294967293) 31 rfl dX9_spiceFor_29 (by decide) ?_
  refine g_iret .int dX9_spiceFor_31 rfl (rfl) ?_
  exact ⟨rfl, rfl⟩
theorem c_X9_spiceFor_ok {a : Nat} (ht : h.1 22 0 = 0) (hm : MI h) (hs : h.1 28 1 ≤ 9) (hn : a < h.1 22 6) (hb : bt (h.1 28 8) a = 0) : Rti V 3 yX9_spiceFor cX9_spiceFor 4 (some .int) [rf V 22, .int (nI a)] h (nI (spfV (h.1 22 6) (h.1 25) (h.1 28) a)) (sR h 29 (sdk (h.1 28) (spfM (h.1 22 6) (h.1 25) (h.1 28) a))) := by
  have h01 : (if a < h.1 22 6 then 0 else 1) = 0 := if_pos hn
  obtain ⟨hE, hC, x4, x5, x7, x8, hT, hT9⟩ := id hm
  have h8 := hT.2.2.2.2.1
  have F : ∀ k, k ≤ 9 → spfS (h.1 22 6) (h.1 25) (h.1 28) a (h.1 28 1 + 1) = some k → G V T0 3 RX9 cX9_spiceFor 4 (some .int) 41 [some (rf V 22), some (.int (nI a)), some (.int (nI k)), some (.int (nI (k + 1)))] [] (sR h 29 (sdk (h.1 28) (k + 1))) (fun v g => v = some (.int (nI (spfV (h.1 22 6) (h.1 25) (h.1 28) a))) ∧ g = sR h 29 (sdk (h.1 28) (spfM (h.1 22 6) (h.1 25) (h.1 28) a))) := by
    intro k hk q
    refine g_iload_n3 42 rfl dX9_spiceFor_41 ?_
    refine g_aload_n0 43 rfl dX9_spiceFor_42 ?_
    refine gf_Model_page 46 rfl fl_RX9_25 dX9_spiceFor_43 ?_
    refine g_iconst (v := 1) 47 rfl dX9_spiceFor_46 (by decide) ?_
    refine ga_28 48 rfl (by omega) dX9_spiceFor_47 ?_
    rw [show (sR h 29 (sdk (h.1 28) (k + 1))).1 28 1 = h.1 28 1 from rfl]
    refine gn_icmp_gt 88 (by decide) 51 rfl dX9_spiceFor_48 (by omega) (by omega) (fun c48 => ?_) (fun c48 => ?_)
    · refine g_iload_n2 89 rfl dX9_spiceFor_88 ?_
      refine g_iret .int dX9_spiceFor_89 rfl (rfl) ?_
      exact ⟨by unfold spfV; rw [q], by unfold spfM; rw [q]⟩
    · refine g_iload_n2 52 rfl dX9_spiceFor_51 ?_
      refine g_bipush (v := 4294967287) 54 rfl dX9_spiceFor_52 (by decide) ?_
      refine g_icmp_ne 88 (by decide) 57 rfl dX9_spiceFor_54 (fun c54 => ?_) (fun c54 => absurd c54 (ne9 (by omega)))
      refine g_iload_n2 89 rfl dX9_spiceFor_88 ?_
      refine g_iret .int dX9_spiceFor_89 rfl (rfl) ?_
      exact ⟨by unfold spfV; rw [q], by unfold spfM; rw [q]⟩
  refine Mt_in [some (rf V 22), some (.int (nI a)), none, none] (own := RX9) rfl (by decide) (Nat.le_of_ble_eq_true rfl) (fun q hq => hq) ?_
  refine g_aload_n0 1 rfl dX9_spiceFor_0 ?_
  refine g_iconst (v := 0) 2 rfl dX9_spiceFor_1 (by decide) ?_
  refine gp_Model_thrown 5 rfl fl_RX9_53 dX9_spiceFor_2 ?_
  rw [thr0 ht]
  refine g_aload_n0 6 rfl dX9_spiceFor_5 ?_
  refine g_iload_n1 7 rfl dX9_spiceFor_6 ?_
  refine g_cv1i 10 rfl cw_RX9_132 dX9_spiceFor_7 (c_X9_noClause hm.2.1 (by omega)) (by omega) (ob_22 V) (Nat.le_of_ble_eq_true rfl) ?_
  rw [h01]
  refine gn_if_eq 15 (by decide) 13 rfl dX9_spiceFor_10 (by omega) (fun c10 => ?_) (fun c10 => absurd rfl c10)
  refine g_aload_n0 16 rfl dX9_spiceFor_15 ?_
  refine gf_Model_page 19 rfl fl_RX9_25 dX9_spiceFor_16 ?_
  refine g_bipush (v := 8) 21 rfl dX9_spiceFor_19 (by decide) ?_
  refine ga_28 22 rfl (by omega) dX9_spiceFor_21 ?_
  refine g_iload_n1 23 rfl dX9_spiceFor_22 ?_
  refine g_cs2i 26 rfl cw_RX9_110 dX9_spiceFor_23 (c_X9_has (by omega) (by omega)) (by omega) (Nat.le_of_ble_eq_true rfl) ?_
  refine gn_if_eq 32 (by decide) 29 rfl dX9_spiceFor_26 (Nat.lt_of_lt_of_le (bt_lt _ _) (by omega)) (fun c26 => ?_) (fun c26 => absurd hb c26)
  refine g_aload_n0 33 rfl dX9_spiceFor_32 ?_
  refine g_cv0v 36 rfl cw_RX9_151 dX9_spiceFor_33 (c_X9_begin hm) (by omega) (ob_22 V) (Nat.le_of_ble_eq_true rfl) ?_
  refine g_bipush (v := 4294967287) 38 rfl dX9_spiceFor_36 (by decide) ?_
  refine g_istore_n2 39 rfl dX9_spiceFor_38 (by decide) rfl ?_
  refine g_iconst (v := 0) 40 rfl dX9_spiceFor_39 (by decide) ?_
  refine g_istore_n3 41 rfl dX9_spiceFor_40 (by decide) rfl ?_
  skip
  refine loop_up (P := fun k => spfS (h.1 22 6) (h.1 25) (h.1 28) a k = none → G V T0 3 RX9 cX9_spiceFor 4 (some .int) 41 [some (rf V 22), some (.int (nI a)), some (.int (nI 4294967287)), some (.int (nI k))] [] (sR h 29 (sdk (h.1 28) k)) _) (n := h.1 28 1 + 1) ?_ (fun k hk ih => ?_) 0 (Nat.zero_le _) rfl
  · intro hf
    refine g_iload_n3 42 rfl dX9_spiceFor_41 ?_
    refine g_aload_n0 43 rfl dX9_spiceFor_42 ?_
    refine gf_Model_page 46 rfl fl_RX9_25 dX9_spiceFor_43 ?_
    refine g_iconst (v := 1) 47 rfl dX9_spiceFor_46 (by decide) ?_
    refine ga_28 48 rfl (by omega) dX9_spiceFor_47 ?_
    rw [show (sR h 29 (sdk (h.1 28) (h.1 28 1 + 1))).1 28 1 = h.1 28 1 from rfl]
    refine gn_icmp_gt 88 (by decide) 51 rfl dX9_spiceFor_48 (by omega) (by omega) (fun c48 => ?_) (fun c48 => absurd c48 (by omega))
    refine g_iload_n2 89 rfl dX9_spiceFor_88 ?_
    refine g_iret .int dX9_spiceFor_89 rfl (rfl) ?_
    exact ⟨by unfold spfV; rw [hf], by unfold spfM; rw [hf]⟩
  · intro hf
    have hN := TI_sdk hT k
    have hm2 := MI_29 hm hN
    refine g_iload_n3 42 rfl dX9_spiceFor_41 ?_
    refine g_aload_n0 43 rfl dX9_spiceFor_42 ?_
    refine gf_Model_page 46 rfl fl_RX9_25 dX9_spiceFor_43 ?_
    refine g_iconst (v := 1) 47 rfl dX9_spiceFor_46 (by decide) ?_
    refine ga_28 48 rfl (by omega) dX9_spiceFor_47 ?_
    rw [show (sR h 29 (sdk (h.1 28) k)).1 28 1 = h.1 28 1 from rfl]
    refine gn_icmp_gt 88 (by decide) 51 rfl dX9_spiceFor_48 (by omega) (by omega) (fun c48 => absurd c48 (by omega)) (fun c48 => ?_)
    refine g_iload_n2 52 rfl dX9_spiceFor_51 ?_
    refine g_bipush (v := 4294967287) 54 rfl dX9_spiceFor_52 (by decide) ?_
    refine g_icmp_ne 88 (by decide) 57 rfl dX9_spiceFor_54 (fun c54 => absurd rfl c54) (fun c54 => ?_)
    refine g_aload_n0 58 rfl dX9_spiceFor_57 ?_
    refine g_aload_n0 59 rfl dX9_spiceFor_58 ?_
    refine gf_Model_trial 62 rfl fl_RX9_28 dX9_spiceFor_59 ?_
    refine g_iload_n1 63 rfl dX9_spiceFor_62 ?_
    refine g_cv2i 66 rfl cw_RX9_114 dX9_spiceFor_63 (c_X9_canSay_29 hm2 hm2.2.2.2.2.2.2.2 hn) (by omega) (ob_22 V) (Nat.le_of_ble_eq_true rfl) ?_
    rw [sR_s, s9_22, s9_25]
    refine gn_if_eq 73 (by decide) 69 rfl dX9_spiceFor_66 (Nat.lt_of_lt_of_le (Bool.toNat_lt _) (by omega)) (fun c66 => ?_) (fun c66 => ?_)
    · refine g_iload_n2 74 rfl dX9_spiceFor_73 ?_
      refine g_istore_n2 75 rfl dX9_spiceFor_74 (by decide) rfl ?_
      refine g_aload_n0 76 rfl dX9_spiceFor_75 ?_
      refine gf_Model_trial 79 rfl fl_RX9_28 dX9_spiceFor_76 ?_
      refine g_cs1v 82 rfl cw_RX9_148 dX9_spiceFor_79 (c_X9_goSpice_29 hm2.2.2.2.2.2.2.2) (by omega) (Nat.le_of_ble_eq_true rfl) ?_
      refine gn_iinc3 1 85 rfl dX9_spiceFor_82 rfl (by decide) rfl ?_
      refine g_goto 41 (by decide) dX9_spiceFor_85 ?_
      rw [sR_sR, sR_s]
      first | exact F k (by omega) (spfS_mono ((spfS_n hf).trans (if_pos (by simpa using c66))) _ hk) | exact ih ((spfS_n hf).trans (if_neg (by simpa using c66)))
    · refine g_iload_n3 70 rfl dX9_spiceFor_69 ?_
      refine g_goto 74 (by decide) dX9_spiceFor_70 ?_
      refine g_istore_n2 75 rfl dX9_spiceFor_74 (by decide) rfl ?_
      refine g_aload_n0 76 rfl dX9_spiceFor_75 ?_
      refine gf_Model_trial 79 rfl fl_RX9_28 dX9_spiceFor_76 ?_
      refine g_cs1v 82 rfl cw_RX9_148 dX9_spiceFor_79 (c_X9_goSpice_29 hm2.2.2.2.2.2.2.2) (by omega) (Nat.le_of_ble_eq_true rfl) ?_
      refine gn_iinc3 1 85 rfl dX9_spiceFor_82 rfl (by decide) rfl ?_
      refine g_goto 41 (by decide) dX9_spiceFor_85 ?_
      rw [sR_sR, sR_s]
      first | exact F k (by omega) (spfS_mono ((spfS_n hf).trans (if_pos (by simpa using c66))) _ hk) | exact ih ((spfS_n hf).trans (if_neg (by simpa using c66)))
theorem c_X9_noRow {n a : Nat} (hn : n < 2 ^ 32) (ha : a < 2 ^ 32) : Rti V 2 yX9_noRow cX9_noRow 4 (some .boolean) [.int (nI n), .int (nI a)] h (nI (if 1 ≤ n ∧ n ≤ 6 ∧ a < 10 ^ n ∧ rowB a n = true then 0 else 1)) h := by
  have e1 := in_c (n := n) (a := 1) (b := 6) hn (by decide) (by decide) (al := 1) (bl := 6) rfl rfl
  refine Mt_in [some (.int (nI n)), some (.int (nI a)), none, none] (own := RX9) rfl (by decide) (Nat.le_of_ble_eq_true rfl) (fun q hq => hq) ?_
  by_cases h16 : 1 ≤ n ∧ n ≤ 6
  · have h01 : (if (1 : Int64) ≤ (nI n).toInt64 ∧ (nI n).toInt64 ≤ 6 then 1 else 0) = 1 := if_pos (e1.mpr h16)
    have hp := p10 h16.2
    have hp0 : 0 < 10 ^ n := Nat.pow_pos (by decide)
    have e2 := in_c (n := a) (a := 0) (b := 10 ^ n - 1) ha (by decide) (by omega) (al := 0) (bl := (nI (10 ^ n - 1)).toInt64) rfl (nI_l (by omega))
    by_cases hlt : a < 10 ^ n
    · have h02 : (if (0 : Int64) ≤ (nI a).toInt64 ∧ (nI a).toInt64 ≤ (nI (10 ^ n - 1)).toInt64 then 1 else 0) = 1 := if_pos (e2.mpr ⟨by omega, by omega⟩)
      have ev : (if 1 ≤ n ∧ n ≤ 6 ∧ a < 10 ^ n ∧ rowB a n = true then 0 else 1) = 1 - (rowB a n).toNat := by
        cases hq : rowB a n with
        | true => rw [if_pos ⟨h16.1, h16.2, hlt, rfl⟩]; rfl
        | false => rw [if_neg (fun q => by cases q.2.2.2)]; rfl
      rw [ev]
      refine g_iload_n0 1 rfl dX9_noRow_0 ?_
      refine g_i2l 2 rfl dX9_noRow_1 ?_
      refine g_lconst (v := 1) 3 rfl dX9_noRow_2 rfl ?_
      refine g_ldc2 6 rfl kl_RX9_174 dX9_noRow_3 ?_
      refine g_cs3i 9 rfl cw_RX9_60 dX9_noRow_6 (c_X9_in) (by omega) (Nat.le_of_ble_eq_true rfl) ?_
      rw [h01]
      refine gn_if_eq 30 (by decide) 12 rfl dX9_noRow_9 (by omega) (fun c9 => absurd c9 (by decide)) (fun c9 => ?_)
      refine g_iload_n1 13 rfl dX9_noRow_12 ?_
      refine g_i2l 14 rfl dX9_noRow_13 ?_
      refine g_lconst (v := 0) 15 rfl dX9_noRow_14 rfl ?_
      refine g_bipush (v := 10) 17 rfl dX9_noRow_15 (by decide) ?_
      refine g_iload_n0 18 rfl dX9_noRow_17 ?_
      refine g_cs2i 21 rfl cw_RX9_163 dX9_noRow_18 (c_X9_power h16.2) (by omega) (Nat.le_of_ble_eq_true rfl) ?_
      refine g_iconst (v := 1) 22 rfl dX9_noRow_21 (by decide) ?_
      refine gn_isub 23 rfl dX9_noRow_22 (by omega) ?_
      refine g_i2l 24 rfl dX9_noRow_23 ?_
      refine g_cs3i 27 rfl cw_RX9_60 dX9_noRow_24 (c_X9_in) (by omega) (Nat.le_of_ble_eq_true rfl) ?_
      rw [h02]
      refine gn_if_ne 32 (by decide) 30 rfl dX9_noRow_27 (by omega) (fun c27 => ?_) (fun c27 => absurd c27 (by decide))
      refine g_iconst (v := 1) 33 rfl dX9_noRow_32 (by decide) ?_
      refine g_istore_n2 34 rfl dX9_noRow_33 (by decide) rfl ?_
      refine g_iconst (v := 0) 35 rfl dX9_noRow_34 (by decide) ?_
      refine g_istore_n3 36 rfl dX9_noRow_35 (by decide) rfl ?_
      skip
      refine loop_up (P := fun k => G V T0 2 RX9 cX9_noRow 4 (some .boolean) 36 [some (.int (nI n)), some (.int (nI a)), some (.int (nI (rowB a k).toNat)), some (.int (nI k))] [] h _) (n := n) ?_ (fun k hk ih => ?_) 0 (Nat.zero_le _)
      · refine g_iload_n3 37 rfl dX9_noRow_36 ?_
        refine g_iload_n0 38 rfl dX9_noRow_37 ?_
        refine gn_icmp_ge 73 (by decide) 41 rfl dX9_noRow_38 (by omega) (by omega) (fun c38 => ?_) (fun c38 => absurd c38 (Nat.lt_irrefl _))
        refine g_iload_n2 74 rfl dX9_noRow_73 ?_
        refine gn_if_ne 81 (by decide) 77 rfl dX9_noRow_74 (Nat.lt_of_lt_of_le (Bool.toNat_lt _) (by omega)) (fun c74 => ?_) (fun c74 => ?_)
        · refine g_iconst (v := 0) 82 rfl dX9_noRow_81 (by decide) ?_
          refine g_iret .boolean dX9_noRow_82 rfl (rfl) ?_
          refine ⟨congrArg (fun q => some (Value.int (nI q))) ?_, rfl⟩
          have := Bool.toNat_lt (rowB a n)
          omega
        · refine g_iconst (v := 1) 78 rfl dX9_noRow_77 (by decide) ?_
          refine g_goto 82 (by decide) dX9_noRow_78 ?_
          refine g_iret .boolean dX9_noRow_82 rfl (rfl) ?_
          refine ⟨congrArg (fun q => some (Value.int (nI q))) ?_, rfl⟩
          have := Bool.toNat_lt (rowB a n)
          omega
      · have hpk := p10 (n := k) (by omega)
        have hpk0 : 0 < 10 ^ k := Nat.pow_pos (by decide)
        have hle : a / 10 ^ k ≤ a := Nat.div_le_self _ _
        have ih : G V T0 2 RX9 cX9_noRow 4 (some .boolean) 36 [some (.int (nI n)), some (.int (nI a)), some (.int (nI (rowB a k && decide (a / 10 ^ k % 10 ≤ 7)).toNat)), some (.int (nI (k + 1)))] [] h _ := ih
        refine g_iload_n3 37 rfl dX9_noRow_36 ?_
        refine g_iload_n0 38 rfl dX9_noRow_37 ?_
        refine gn_icmp_ge 73 (by decide) 41 rfl dX9_noRow_38 (by omega) (by omega) (fun c38 => absurd c38 (Nat.not_le_of_lt hk)) (fun c38 => ?_)
        refine g_iload_n2 42 rfl dX9_noRow_41 ?_
        refine gn_if_eq 65 (by decide) 45 rfl dX9_noRow_42 (Nat.lt_of_lt_of_le (Bool.toNat_lt _) (by omega)) (fun c42 => ?_) (fun c42 => ?_)
        · refine g_iconst (v := 0) 66 rfl dX9_noRow_65 (by decide) ?_
          refine g_istore_n2 67 rfl dX9_noRow_66 (by decide) rfl ?_
          refine gn_iinc3 1 70 rfl dX9_noRow_67 rfl (by decide) rfl ?_
          refine g_goto 36 (by decide) dX9_noRow_70 ?_
          first
          | (have q : rowB a k = false := by simpa using c42
             rw [q, Bool.false_and] at ih; exact ih)
          | (have q : rowB a k = true := by simpa using c42
             rw [q, Bool.true_and] at ih
             first | (rw [decide_eq_false (by omega)] at ih; exact ih) | (rw [decide_eq_true (by omega)] at ih; exact ih))
        · refine g_iload_n1 46 rfl dX9_noRow_45 ?_
          refine g_bipush (v := 10) 48 rfl dX9_noRow_46 (by decide) ?_
          refine g_iload_n3 49 rfl dX9_noRow_48 ?_
          refine g_cs2i 52 rfl cw_RX9_163 dX9_noRow_49 (c_X9_power (by omega)) (by omega) (Nat.le_of_ble_eq_true rfl) ?_
          refine gn_idiv 53 rfl dX9_noRow_52 (by omega) (by omega) (by omega) ?_
          refine g_bipush (v := 10) 55 rfl dX9_noRow_53 (by decide) ?_
          refine gn_irem 56 rfl dX9_noRow_55 (by omega) (by omega) (by omega) ?_
          refine g_bipush (v := 8) 58 rfl dX9_noRow_56 (by decide) ?_
          refine gn_icmp_ge 65 (by decide) 61 rfl dX9_noRow_58 (by omega) (by omega) (fun c58 => ?_) (fun c58 => ?_)
          · refine g_iconst (v := 0) 66 rfl dX9_noRow_65 (by decide) ?_
            refine g_istore_n2 67 rfl dX9_noRow_66 (by decide) rfl ?_
            refine gn_iinc3 1 70 rfl dX9_noRow_67 rfl (by decide) rfl ?_
            refine g_goto 36 (by decide) dX9_noRow_70 ?_
            first
            | (have q : rowB a k = false := by simpa using c42
               rw [q, Bool.false_and] at ih; exact ih)
            | (have q : rowB a k = true := by simpa using c42
               rw [q, Bool.true_and] at ih
               first | (rw [decide_eq_false (by omega)] at ih; exact ih) | (rw [decide_eq_true (by omega)] at ih; exact ih))
          · refine g_iconst (v := 1) 62 rfl dX9_noRow_61 (by decide) ?_
            refine g_goto 66 (by decide) dX9_noRow_62 ?_
            refine g_istore_n2 67 rfl dX9_noRow_66 (by decide) rfl ?_
            refine gn_iinc3 1 70 rfl dX9_noRow_67 rfl (by decide) rfl ?_
            refine g_goto 36 (by decide) dX9_noRow_70 ?_
            first
            | (have q : rowB a k = false := by simpa using c42
               rw [q, Bool.false_and] at ih; exact ih)
            | (have q : rowB a k = true := by simpa using c42
               rw [q, Bool.true_and] at ih
               first | (rw [decide_eq_false (by omega)] at ih; exact ih) | (rw [decide_eq_true (by omega)] at ih; exact ih))
    · have h02 : (if (0 : Int64) ≤ (nI a).toInt64 ∧ (nI a).toInt64 ≤ (nI (10 ^ n - 1)).toInt64 then 1 else 0) = 0 := if_neg (fun q => by have := e2.mp q; omega)
      rw [if_neg (fun q => hlt q.2.2.1)]
      refine g_iload_n0 1 rfl dX9_noRow_0 ?_
      refine g_i2l 2 rfl dX9_noRow_1 ?_
      refine g_lconst (v := 1) 3 rfl dX9_noRow_2 rfl ?_
      refine g_ldc2 6 rfl kl_RX9_174 dX9_noRow_3 ?_
      refine g_cs3i 9 rfl cw_RX9_60 dX9_noRow_6 (c_X9_in) (by omega) (Nat.le_of_ble_eq_true rfl) ?_
      rw [h01]
      refine gn_if_eq 30 (by decide) 12 rfl dX9_noRow_9 (by omega) (fun c9 => absurd c9 (by decide)) (fun c9 => ?_)
      refine g_iload_n1 13 rfl dX9_noRow_12 ?_
      refine g_i2l 14 rfl dX9_noRow_13 ?_
      refine g_lconst (v := 0) 15 rfl dX9_noRow_14 rfl ?_
      refine g_bipush (v := 10) 17 rfl dX9_noRow_15 (by decide) ?_
      refine g_iload_n0 18 rfl dX9_noRow_17 ?_
      refine g_cs2i 21 rfl cw_RX9_163 dX9_noRow_18 (c_X9_power h16.2) (by omega) (Nat.le_of_ble_eq_true rfl) ?_
      refine g_iconst (v := 1) 22 rfl dX9_noRow_21 (by decide) ?_
      refine gn_isub 23 rfl dX9_noRow_22 (by omega) ?_
      refine g_i2l 24 rfl dX9_noRow_23 ?_
      refine g_cs3i 27 rfl cw_RX9_60 dX9_noRow_24 (c_X9_in) (by omega) (Nat.le_of_ble_eq_true rfl) ?_
      rw [h02]
      refine gn_if_ne 32 (by decide) 30 rfl dX9_noRow_27 (by omega) (fun c27 => absurd rfl c27) (fun c27 => ?_)
      refine g_iconst (v := 1) 31 rfl dX9_noRow_30 (by decide) ?_
      refine g_iret .boolean dX9_noRow_31 rfl (rfl) ?_
      exact ⟨rfl, rfl⟩
  · have h01 : (if (1 : Int64) ≤ (nI n).toInt64 ∧ (nI n).toInt64 ≤ 6 then 1 else 0) = 0 := if_neg (fun q => h16 (e1.mp q))
    rw [if_neg (fun q => h16 ⟨q.1, q.2.1⟩)]
    refine g_iload_n0 1 rfl dX9_noRow_0 ?_
    refine g_i2l 2 rfl dX9_noRow_1 ?_
    refine g_lconst (v := 1) 3 rfl dX9_noRow_2 rfl ?_
    refine g_ldc2 6 rfl kl_RX9_174 dX9_noRow_3 ?_
    refine g_cs3i 9 rfl cw_RX9_60 dX9_noRow_6 (c_X9_in) (by omega) (Nat.le_of_ble_eq_true rfl) ?_
    rw [h01]
    refine gn_if_eq 30 (by decide) 12 rfl dX9_noRow_9 (by omega) (fun c9 => ?_) (fun c9 => absurd rfl c9)
    refine g_iconst (v := 1) 31 rfl dX9_noRow_30 (by decide) ?_
    refine g_iret .boolean dX9_noRow_31 rfl (rfl) ?_
    exact ⟨rfl, rfl⟩
theorem c_X9_does {f : Nat} (hm : MI h) (hs : h.1 29 1 ≤ 9) (hf : f < 8) : Rti V 4 yX9_does cX9_does 3 (some .boolean) [rf V 22, .int (nI f)] h (nI (turnC (h.1 22 6) (h.1 25) (h.1 29) f).toNat) (sR h 29 (turnX (h.1 24) (h.1 22 4) (h.1 22 6) (h.1 25) (h.1 29) f)) := by
  obtain ⟨hE, hC, x4, x5, x7, x8, hT, hT9⟩ := id hm
  have h6 := hT9.2.2.1
  have h8 := hT9.2.2.2.2.1
  refine Mt_in [some (rf V 22), some (.int (nI f)), none] (own := RX9) rfl (by decide) (Nat.le_of_ble_eq_true rfl) (fun q hq => hq) ?_
  by_cases f0 : f = 0
  · subst f0
    by_cases e0 : h.1 29 6 = 0
    · have q : turnC (h.1 22 6) (h.1 25) (h.1 29) 0 = false := decide_eq_false (fun z => z e0)
      have qx : turnX (h.1 24) (h.1 22 4) (h.1 22 6) (h.1 25) (h.1 29) 0 = h.1 29 := if_neg (by rw [q]; decide)
      rw [q, qx, sR_same]
      refine g_iload_n1 1 rfl dX9_does_0 ?_
      refine gn_if_ne 34 (by decide) 4 rfl dX9_does_1 (by omega) (fun c1 => absurd rfl c1) (fun c1 => ?_)
      refine g_aload_n0 5 rfl dX9_does_4 ?_
      refine gf_Model_trial 8 rfl fl_RX9_28 dX9_does_5 ?_
      refine g_bipush (v := 6) 10 rfl dX9_does_8 (by decide) ?_
      refine ga_29 11 rfl (by omega) dX9_does_10 ?_
      refine gn_if_eq 18 (by decide) 14 rfl dX9_does_11 (by omega) (fun c11 => ?_) (fun c11 => absurd e0 c11)
      refine g_iconst (v := 0) 19 rfl dX9_does_18 (by decide) ?_
      refine g_istore_n2 20 rfl dX9_does_19 (by decide) rfl ?_
      refine g_iload_n2 21 rfl dX9_does_20 ?_
      refine gn_if_eq 32 (by decide) 24 rfl dX9_does_21 (by omega) (fun c21 => ?_) (fun c21 => absurd rfl c21)
      refine g_iload_n2 33 rfl dX9_does_32 ?_
      refine g_iret .boolean dX9_does_33 rfl (rfl) ?_
      exact ⟨rfl, rfl⟩
    · have q : turnC (h.1 22 6) (h.1 25) (h.1 29) 0 = true := decide_eq_true e0
      have qx : turnX (h.1 24) (h.1 22 4) (h.1 22 6) (h.1 25) (h.1 29) 0 = bite (h.1 24) (h.1 22 4) (h.1 29) := if_pos q
      rw [q, qx]
      refine g_iload_n1 1 rfl dX9_does_0 ?_
      refine gn_if_ne 34 (by decide) 4 rfl dX9_does_1 (by omega) (fun c1 => absurd rfl c1) (fun c1 => ?_)
      refine g_aload_n0 5 rfl dX9_does_4 ?_
      refine gf_Model_trial 8 rfl fl_RX9_28 dX9_does_5 ?_
      refine g_bipush (v := 6) 10 rfl dX9_does_8 (by decide) ?_
      refine ga_29 11 rfl (by omega) dX9_does_10 ?_
      refine gn_if_eq 18 (by decide) 14 rfl dX9_does_11 (by omega) (fun c11 => absurd c11 e0) (fun c11 => ?_)
      refine g_iconst (v := 1) 15 rfl dX9_does_14 (by decide) ?_
      refine g_goto 19 (by decide) dX9_does_15 ?_
      refine g_istore_n2 20 rfl dX9_does_19 (by decide) rfl ?_
      refine g_iload_n2 21 rfl dX9_does_20 ?_
      refine gn_if_eq 32 (by decide) 24 rfl dX9_does_21 (by omega) (fun c21 => absurd c21 (by decide)) (fun c21 => ?_)
      refine g_aload_n0 25 rfl dX9_does_24 ?_
      refine g_aload_n0 26 rfl dX9_does_25 ?_
      refine gf_Model_trial 29 rfl fl_RX9_28 dX9_does_26 ?_
      refine g_cv1v 32 rfl cw_RX9_144 dX9_does_29 (c_X9_goBite_29 hm hT9) (by omega) (ob_22 V) (Nat.le_of_ble_eq_true rfl) ?_
      refine g_iload_n2 33 rfl dX9_does_32 ?_
      refine g_iret .boolean dX9_does_33 rfl (rfl) ?_
      exact ⟨rfl, rfl⟩
  · by_cases f6 : f = 6
    · subst f6
      by_cases e0 : h.1 29 1 = 0
      · have q : turnC (h.1 22 6) (h.1 25) (h.1 29) 6 = false := decide_eq_false (fun z => z e0)
        have qx : turnX (h.1 24) (h.1 22 4) (h.1 22 6) (h.1 25) (h.1 29) 6 = h.1 29 := if_neg (by rw [q]; decide)
        rw [q, qx, sR_same]
        refine g_iload_n1 1 rfl dX9_does_0 ?_
        refine gn_if_ne 34 (by decide) 4 rfl dX9_does_1 (by omega) (fun c1 => ?_) (fun c1 => absurd c1 (by decide))
        refine g_iload_n1 35 rfl dX9_does_34 ?_
        refine g_bipush (v := 6) 37 rfl dX9_does_35 (by decide) ?_
        refine gn_icmp_ne 68 (by decide) 40 rfl dX9_does_37 (by omega) (by omega) (fun c37 => absurd rfl c37) (fun c37 => ?_)
        refine g_aload_n0 41 rfl dX9_does_40 ?_
        refine gf_Model_trial 44 rfl fl_RX9_28 dX9_does_41 ?_
        refine g_iconst (v := 1) 45 rfl dX9_does_44 (by decide) ?_
        refine ga_29 46 rfl (by omega) dX9_does_45 ?_
        refine gn_if_le 53 (by decide) 49 rfl dX9_does_46 (by omega) (fun c46 => ?_) (fun c46 => absurd e0 (by omega))
        refine g_iconst (v := 0) 54 rfl dX9_does_53 (by decide) ?_
        refine g_istore_n2 55 rfl dX9_does_54 (by decide) rfl ?_
        refine g_iload_n2 56 rfl dX9_does_55 ?_
        refine gn_if_eq 66 (by decide) 59 rfl dX9_does_56 (by omega) (fun c56 => ?_) (fun c56 => absurd rfl c56)
        refine g_iload_n2 67 rfl dX9_does_66 ?_
        refine g_iret .boolean dX9_does_67 rfl (rfl) ?_
        exact ⟨rfl, rfl⟩
      · have q : turnC (h.1 22 6) (h.1 25) (h.1 29) 6 = true := decide_eq_true e0
        have qx : turnX (h.1 24) (h.1 22 4) (h.1 22 6) (h.1 25) (h.1 29) 6 = seedR (h.1 29) := if_pos q
        rw [q, qx]
        refine g_iload_n1 1 rfl dX9_does_0 ?_
        refine gn_if_ne 34 (by decide) 4 rfl dX9_does_1 (by omega) (fun c1 => ?_) (fun c1 => absurd c1 (by decide))
        refine g_iload_n1 35 rfl dX9_does_34 ?_
        refine g_bipush (v := 6) 37 rfl dX9_does_35 (by decide) ?_
        refine gn_icmp_ne 68 (by decide) 40 rfl dX9_does_37 (by omega) (by omega) (fun c37 => absurd rfl c37) (fun c37 => ?_)
        refine g_aload_n0 41 rfl dX9_does_40 ?_
        refine gf_Model_trial 44 rfl fl_RX9_28 dX9_does_41 ?_
        refine g_iconst (v := 1) 45 rfl dX9_does_44 (by decide) ?_
        refine ga_29 46 rfl (by omega) dX9_does_45 ?_
        refine gn_if_le 53 (by decide) 49 rfl dX9_does_46 (by omega) (fun c46 => absurd c46 (by omega)) (fun c46 => ?_)
        refine g_iconst (v := 1) 50 rfl dX9_does_49 (by decide) ?_
        refine g_goto 54 (by decide) dX9_does_50 ?_
        refine g_istore_n2 55 rfl dX9_does_54 (by decide) rfl ?_
        refine g_iload_n2 56 rfl dX9_does_55 ?_
        refine gn_if_eq 66 (by decide) 59 rfl dX9_does_56 (by omega) (fun c56 => absurd c56 (by decide)) (fun c56 => ?_)
        refine g_aload_n0 60 rfl dX9_does_59 ?_
        refine gf_Model_trial 63 rfl fl_RX9_28 dX9_does_60 ?_
        refine g_cs1v 66 rfl cw_RX9_148 dX9_does_63 (c_X9_goSpice_29 hT9) (by omega) (Nat.le_of_ble_eq_true rfl) ?_
        refine g_iload_n2 67 rfl dX9_does_66 ?_
        refine g_iret .boolean dX9_does_67 rfl (rfl) ?_
        exact ⟨rfl, rfl⟩
    · by_cases f7 : f = 7
      · subst f7
        have qx : turnX (h.1 24) (h.1 22 4) (h.1 22 6) (h.1 25) (h.1 29) 7 = h.1 29 := if_pos rfl
        rw [qx, sR_same]
        refine g_iload_n1 1 rfl dX9_does_0 ?_
        refine gn_if_ne 34 (by decide) 4 rfl dX9_does_1 (by omega) (fun c1 => ?_) (fun c1 => absurd c1 (by decide))
        refine g_iload_n1 35 rfl dX9_does_34 ?_
        refine g_bipush (v := 6) 37 rfl dX9_does_35 (by decide) ?_
        refine gn_icmp_ne 68 (by decide) 40 rfl dX9_does_37 (by omega) (by omega) (fun c37 => ?_) (fun c37 => absurd c37 (by decide))
        refine g_iload_n1 69 rfl dX9_does_68 ?_
        refine g_bipush (v := 7) 71 rfl dX9_does_69 (by decide) ?_
        refine gn_icmp_ne 76 (by decide) 74 rfl dX9_does_71 (by omega) (by omega) (fun c71 => absurd rfl c71) (fun c71 => ?_)
        refine g_iconst (v := 1) 75 rfl dX9_does_74 (by decide) ?_
        refine g_iret .boolean dX9_does_75 rfl (rfl) ?_
        exact ⟨rfl, rfl⟩
      · have q : turnC (h.1 22 6) (h.1 25) (h.1 29) f = canB (h.1 22 6) (h.1 25) (h.1 29) (f - 1) := (if_neg f0).trans ((if_neg f6).trans (if_neg f7))
        have qr : turnR (h.1 24) (h.1 22 4) (h.1 29) f = bindR (h.1 29) (f - 1) := (if_neg f0).trans ((if_neg f6).trans (if_neg f7))
        unfold turnX
        rw [q, qr]
        by_cases hc : f - 1 < h.1 22 6
        · have h01 : (if f - 1 < h.1 22 6 then 0 else 1) = 0 := if_pos hc
          cases hb : canB (h.1 22 6) (h.1 25) (h.1 29) (f - 1) with
          | false =>
            rw [if_neg (by decide), sR_same]
            refine g_iload_n1 1 rfl dX9_does_0 ?_
            refine gn_if_ne 34 (by decide) 4 rfl dX9_does_1 (by omega) (fun c1 => ?_) (fun c1 => absurd c1 f0)
            refine g_iload_n1 35 rfl dX9_does_34 ?_
            refine g_bipush (v := 6) 37 rfl dX9_does_35 (by decide) ?_
            refine gn_icmp_ne 68 (by decide) 40 rfl dX9_does_37 (by omega) (by omega) (fun c37 => ?_) (fun c37 => absurd c37 f6)
            refine g_iload_n1 69 rfl dX9_does_68 ?_
            refine g_bipush (v := 7) 71 rfl dX9_does_69 (by decide) ?_
            refine gn_icmp_ne 76 (by decide) 74 rfl dX9_does_71 (by omega) (by omega) (fun c71 => ?_) (fun c71 => absurd c71 f7)
            refine g_aload_n0 77 rfl dX9_does_76 ?_
            refine g_iload_n1 78 rfl dX9_does_77 ?_
            refine g_iconst (v := 1) 79 rfl dX9_does_78 (by decide) ?_
            refine gn_isub 80 rfl dX9_does_79 (by omega) ?_
            refine g_cv1i 83 rfl cw_RX9_132 dX9_does_80 (c_X9_noClause hC (by omega)) (by omega) (ob_22 V) (Nat.le_of_ble_eq_true rfl) ?_
            rw [h01]
            refine gn_if_ne 100 (by decide) 86 rfl dX9_does_83 (by omega) (fun c83 => absurd c83 (by decide)) (fun c83 => ?_)
            refine g_aload_n0 87 rfl dX9_does_86 ?_
            refine g_aload_n0 88 rfl dX9_does_87 ?_
            refine gf_Model_trial 91 rfl fl_RX9_28 dX9_does_88 ?_
            refine g_iload_n1 92 rfl dX9_does_91 ?_
            refine g_iconst (v := 1) 93 rfl dX9_does_92 (by decide) ?_
            refine gn_isub 94 rfl dX9_does_93 (by omega) ?_
            refine g_cv2i 97 rfl cw_RX9_114 dX9_does_94 (c_X9_canSay_29 hm hT9 hc) (by omega) (ob_22 V) (Nat.le_of_ble_eq_true rfl) ?_
            rw [hb]
            refine gn_if_ne 102 (by decide) 100 rfl dX9_does_97 (by decide) (fun c97 => absurd rfl c97) (fun c97 => ?_)
            refine g_iconst (v := 0) 101 rfl dX9_does_100 (by decide) ?_
            refine g_iret .boolean dX9_does_101 rfl (rfl) ?_
            exact ⟨rfl, rfl⟩
          | true =>
            rw [if_pos rfl]
            refine g_iload_n1 1 rfl dX9_does_0 ?_
            refine gn_if_ne 34 (by decide) 4 rfl dX9_does_1 (by omega) (fun c1 => ?_) (fun c1 => absurd c1 f0)
            refine g_iload_n1 35 rfl dX9_does_34 ?_
            refine g_bipush (v := 6) 37 rfl dX9_does_35 (by decide) ?_
            refine gn_icmp_ne 68 (by decide) 40 rfl dX9_does_37 (by omega) (by omega) (fun c37 => ?_) (fun c37 => absurd c37 f6)
            refine g_iload_n1 69 rfl dX9_does_68 ?_
            refine g_bipush (v := 7) 71 rfl dX9_does_69 (by decide) ?_
            refine gn_icmp_ne 76 (by decide) 74 rfl dX9_does_71 (by omega) (by omega) (fun c71 => ?_) (fun c71 => absurd c71 f7)
            refine g_aload_n0 77 rfl dX9_does_76 ?_
            refine g_iload_n1 78 rfl dX9_does_77 ?_
            refine g_iconst (v := 1) 79 rfl dX9_does_78 (by decide) ?_
            refine gn_isub 80 rfl dX9_does_79 (by omega) ?_
            refine g_cv1i 83 rfl cw_RX9_132 dX9_does_80 (c_X9_noClause hC (by omega)) (by omega) (ob_22 V) (Nat.le_of_ble_eq_true rfl) ?_
            rw [h01]
            refine gn_if_ne 100 (by decide) 86 rfl dX9_does_83 (by omega) (fun c83 => absurd c83 (by decide)) (fun c83 => ?_)
            refine g_aload_n0 87 rfl dX9_does_86 ?_
            refine g_aload_n0 88 rfl dX9_does_87 ?_
            refine gf_Model_trial 91 rfl fl_RX9_28 dX9_does_88 ?_
            refine g_iload_n1 92 rfl dX9_does_91 ?_
            refine g_iconst (v := 1) 93 rfl dX9_does_92 (by decide) ?_
            refine gn_isub 94 rfl dX9_does_93 (by omega) ?_
            refine g_cv2i 97 rfl cw_RX9_114 dX9_does_94 (c_X9_canSay_29 hm hT9 hc) (by omega) (ob_22 V) (Nat.le_of_ble_eq_true rfl) ?_
            rw [hb]
            refine gn_if_ne 102 (by decide) 100 rfl dX9_does_97 (by decide) (fun c97 => ?_) (fun c97 => absurd c97 (by decide))
            refine g_aload_n0 103 rfl dX9_does_102 ?_
            refine gf_Model_trial 106 rfl fl_RX9_28 dX9_does_103 ?_
            refine g_bipush (v := 8) 108 rfl dX9_does_106 (by decide) ?_
            refine g_dup2 109 rfl dX9_does_108 rfl rfl ?_
            refine ga_29 110 rfl (by omega) dX9_does_109 ?_
            refine g_iconst (v := 1) 111 rfl dX9_does_110 (by decide) ?_
            refine g_iload_n1 112 rfl dX9_does_111 ?_
            refine g_iconst (v := 1) 113 rfl dX9_does_112 (by decide) ?_
            refine gn_isub 114 rfl dX9_does_113 (by omega) ?_
            refine gn_ishl 115 rfl dX9_does_114 (by omega) ?_
            refine gn_ior 116 rfl dX9_does_115 ?_
            refine gs_29 117 rfl (by omega) dX9_does_116 ?_
            refine g_iconst (v := 1) 118 rfl dX9_does_117 (by decide) ?_
            refine g_iret .boolean dX9_does_118 rfl (rfl) ?_
            exact ⟨rfl, rfl⟩
        · have h01 : (if f - 1 < h.1 22 6 then 0 else 1) = 1 := if_neg hc
          have hb : canB (h.1 22 6) (h.1 25) (h.1 29) (f - 1) = false := decide_eq_false (fun z => hc z.1)
          rw [hb, if_neg (by decide), sR_same]
          refine g_iload_n1 1 rfl dX9_does_0 ?_
          refine gn_if_ne 34 (by decide) 4 rfl dX9_does_1 (by omega) (fun c1 => ?_) (fun c1 => absurd c1 f0)
          refine g_iload_n1 35 rfl dX9_does_34 ?_
          refine g_bipush (v := 6) 37 rfl dX9_does_35 (by decide) ?_
          refine gn_icmp_ne 68 (by decide) 40 rfl dX9_does_37 (by omega) (by omega) (fun c37 => ?_) (fun c37 => absurd c37 f6)
          refine g_iload_n1 69 rfl dX9_does_68 ?_
          refine g_bipush (v := 7) 71 rfl dX9_does_69 (by decide) ?_
          refine gn_icmp_ne 76 (by decide) 74 rfl dX9_does_71 (by omega) (by omega) (fun c71 => ?_) (fun c71 => absurd c71 f7)
          refine g_aload_n0 77 rfl dX9_does_76 ?_
          refine g_iload_n1 78 rfl dX9_does_77 ?_
          refine g_iconst (v := 1) 79 rfl dX9_does_78 (by decide) ?_
          refine gn_isub 80 rfl dX9_does_79 (by omega) ?_
          refine g_cv1i 83 rfl cw_RX9_132 dX9_does_80 (c_X9_noClause hC (by omega)) (by omega) (ob_22 V) (Nat.le_of_ble_eq_true rfl) ?_
          rw [h01]
          refine gn_if_ne 100 (by decide) 86 rfl dX9_does_83 (by omega) (fun c83 => ?_) (fun c83 => absurd c83 (by decide))
          refine g_iconst (v := 0) 101 rfl dX9_does_100 (by decide) ?_
          refine g_iret .boolean dX9_does_101 rfl (rfl) ?_
          exact ⟨rfl, rfl⟩
theorem c_X9_judge_bad {n a : Nat} (ht : h.1 22 0 = 0) (hn : n < 2 ^ 32) (ha : a < 2 ^ 32) (hb : ¬ (1 ≤ n ∧ n ≤ 6 ∧ a < 10 ^ n ∧ rowB a n = true)) : Rti V 5 yX9_judge cX9_judge 4 (some .int) [rf V 22, .int (nI n), .int (nI a)] h (nI 4294967294) h := by
  refine Mt_in [some (rf V 22), some (.int (nI n)), some (.int (nI a)), none] (own := RX9) rfl (by decide) (Nat.le_of_ble_eq_true rfl) (fun q hq => hq) ?_
  refine g_aload_n0 1 rfl dX9_judge_0 ?_
  refine g_iconst (v := 0) 2 rfl dX9_judge_1 (by decide) ?_
  refine gp_Model_thrown 5 rfl fl_RX9_53 dX9_judge_2 ?_
  rw [thr0 ht]
  refine g_iload_n1 6 rfl dX9_judge_5 ?_
  refine g_iload_n2 7 rfl dX9_judge_6 ?_
  refine g_cs2i 10 rfl cw_RX9_176 dX9_judge_7 (c_X9_noRow hn ha) (by omega) (Nat.le_of_ble_eq_true rfl) ?_
  rw [if_neg hb]
  refine gn_if_eq 16 (by decide) 13 rfl dX9_judge_10 (by omega) (fun c10 => absurd c10 (by decide)) (fun c10 => ?_)
  refine g_bipush (v := 4294967294) 15 rfl dX9_judge_13 (by decide) ?_
  refine g_iret .int dX9_judge_15 rfl (rfl) ?_
  exact ⟨rfl, rfl⟩
theorem c_X9_judge_ok {n a : Nat} (ht : h.1 22 0 = 0) (hm : MI h) (hs0 : h.1 28 1 ≤ 9) (h1 : 1 ≤ n) (h6 : n ≤ 6) (ha : a < 10 ^ n) (hr : rowB a n = true) : Rti V 5 yX9_judge cX9_judge 4 (some .int) [rf V 22, .int (nI n), .int (nI a)] h (nI (jdV (h.1 24) (h.1 22 4) (h.1 22 6) (h.1 25) (h.1 28) a n)) (sR h 29 (jdT (h.1 24) (h.1 22 4) (h.1 22 6) (h.1 25) (h.1 28) a n (jdK (h.1 24) (h.1 22 4) (h.1 22 6) (h.1 25) (h.1 28) a n))) := by
  obtain ⟨hE, hC, x4, x5, x7, x8, hT, hT9⟩ := id hm
  have hp := p10 h6
  have hjT : ∀ p, p ≤ n → TI (jdT (h.1 24) (h.1 22 4) (h.1 22 6) (h.1 25) (h.1 28) a n p) ∧ jdT (h.1 24) (h.1 22 4) (h.1 22 6) (h.1 25) (h.1 28) a n p 1 ≤ 9 := by
    intro p
    induction p with
    | zero => exact fun _ => ⟨hT, hs0⟩
    | succ p ih =>
      intro hp
      have := ih (by omega)
      exact ⟨TI_turn this.1 x4 hE (by have := rowB_at hr (i := n - 1 - p) (by omega); unfold fig; omega), st_turn this.2 hE⟩
  refine Mt_in [some (rf V 22), some (.int (nI n)), some (.int (nI a)), none] (own := RX9) rfl (by decide) (Nat.le_of_ble_eq_true rfl) (fun q hq => hq) ?_
  refine g_aload_n0 1 rfl dX9_judge_0 ?_
  refine g_iconst (v := 0) 2 rfl dX9_judge_1 (by decide) ?_
  refine gp_Model_thrown 5 rfl fl_RX9_53 dX9_judge_2 ?_
  rw [thr0 ht]
  refine g_iload_n1 6 rfl dX9_judge_5 ?_
  refine g_iload_n2 7 rfl dX9_judge_6 ?_
  refine g_cs2i 10 rfl cw_RX9_176 dX9_judge_7 (c_X9_noRow (by omega) (by omega)) (by omega) (Nat.le_of_ble_eq_true rfl) ?_
  rw [if_pos (show 1 ≤ n ∧ n ≤ 6 ∧ a < 10 ^ n ∧ rowB a n = true from ⟨h1, h6, ha, hr⟩)]
  refine gn_if_eq 16 (by decide) 13 rfl dX9_judge_10 (by omega) (fun c10 => ?_) (fun c10 => absurd rfl c10)
  refine g_aload_n0 17 rfl dX9_judge_16 ?_
  refine g_cv0v 20 rfl cw_RX9_151 dX9_judge_17 (c_X9_begin hm) (by omega) (ob_22 V) (Nat.le_of_ble_eq_true rfl) ?_
  refine g_iconst (v := 0) 21 rfl dX9_judge_20 (by decide) ?_
  refine g_istore_n3 22 rfl dX9_judge_21 (by decide) rfl ?_
  skip
  refine loop_up (P := fun p => jdS (h.1 24) (h.1 22 4) (h.1 22 6) (h.1 25) (h.1 28) a n p = none → G V T0 5 RX9 cX9_judge 4 (some .int) 22 [some (rf V 22), some (.int (nI n)), some (.int (nI a)), some (.int (nI p))] [] (sR h 29 (jdT (h.1 24) (h.1 22 4) (h.1 22 6) (h.1 25) (h.1 28) a n p)) _) (n := n) ?_ (fun p hp2 ih => ?_) 0 (Nat.zero_le _) rfl
  · intro hf
    refine g_iload_n3 23 rfl dX9_judge_22 ?_
    refine g_iload_n1 24 rfl dX9_judge_23 ?_
    refine gn_icmp_ge 57 (by decide) 27 rfl dX9_judge_24 (by omega) (by omega) (fun c24 => ?_) (fun c24 => absurd c24 (Nat.lt_irrefl _))
    refine g_bipush (v := 4294967287) 59 rfl dX9_judge_57 (by decide) ?_
    refine g_iret .int dX9_judge_59 rfl (rfl) ?_
    exact ⟨by unfold jdV; rw [hf], by unfold jdK; rw [hf]⟩
  · intro hf
    have hpp := p10 (n := n - 1 - p) (by omega)
    have hpp0 : 0 < 10 ^ (n - 1 - p) := Nat.pow_pos (by decide)
    have hd8 := rowB_at hr (i := n - 1 - p) (by omega)
    have hf8 : fig a n p < 8 := by unfold fig; omega
    have hN := hjT p (by omega)
    have hm2 := MI_29 hm hN.1
    have hle : a / 10 ^ (n - 1 - p) ≤ a := Nat.div_le_self _ _
    refine g_iload_n3 23 rfl dX9_judge_22 ?_
    refine g_iload_n1 24 rfl dX9_judge_23 ?_
    refine gn_icmp_ge 57 (by decide) 27 rfl dX9_judge_24 (by omega) (by omega) (fun c24 => absurd c24 (Nat.not_le_of_lt hp2)) (fun c24 => ?_)
    refine g_aload_n0 28 rfl dX9_judge_27 ?_
    refine g_iload_n2 29 rfl dX9_judge_28 ?_
    refine g_bipush (v := 10) 31 rfl dX9_judge_29 (by decide) ?_
    refine g_iload_n1 32 rfl dX9_judge_31 ?_
    refine g_iconst (v := 1) 33 rfl dX9_judge_32 (by decide) ?_
    refine gn_isub 34 rfl dX9_judge_33 (by omega) ?_
    refine g_iload_n3 35 rfl dX9_judge_34 ?_
    refine gn_isub 36 rfl dX9_judge_35 (by omega) ?_
    refine g_cs2i 39 rfl cw_RX9_163 dX9_judge_36 (c_X9_power (by omega)) (by omega) (Nat.le_of_ble_eq_true rfl) ?_
    refine gn_idiv 40 rfl dX9_judge_39 (by omega) (hpp0) (by omega) ?_
    refine g_bipush (v := 10) 42 rfl dX9_judge_40 (by decide) ?_
    refine gn_irem 43 rfl dX9_judge_42 (by omega) (by omega) (by omega) ?_
    rw [show a / 10 ^ (n - 1 - p) % 10 = fig a n p from rfl]
    refine g_cv1i 46 rfl cw_RX9_179 dX9_judge_43 (c_X9_does hm2 hN.2 hf8) (by omega) (ob_22 V) (Nat.le_of_ble_eq_true rfl) ?_
    rw [sR_sR, sR_s, s9_22, s9_24, s9_25]
    refine gn_if_ne 51 (by decide) 49 rfl dX9_judge_46 (Nat.lt_of_lt_of_le (Bool.toNat_lt _) (by omega)) (fun c46 => ?_) (fun c46 => ?_)
    · refine gn_iinc3 1 54 rfl dX9_judge_51 rfl (by decide) rfl ?_
      refine g_goto 22 (by decide) dX9_judge_54 ?_
      have q : jdS (h.1 24) (h.1 22 4) (h.1 22 6) (h.1 25) (h.1 28) a n (p + 1) = none := by simp only [jdS, hf]; exact if_pos (by simpa using c46)
      exact ih q
    · refine g_iload_n3 50 rfl dX9_judge_49 ?_
      refine g_iret .int dX9_judge_50 rfl (rfl) ?_
      have q : jdS (h.1 24) (h.1 22 4) (h.1 22 6) (h.1 25) (h.1 28) a n (p + 1) = some p := by simp only [jdS, hf]; exact if_neg (by simpa using c46)
      have q := jdS_mono q _ hp2
      exact ⟨by unfold jdV; rw [q], by unfold jdK; rw [q]; rfl⟩
end X9c
