/-! the reference: acts, what is asked -/
def nteA (a : Nat) : Nat := if a = 14 then 13 else a
def nteB (f P : Nat → Nat) (a : Nat) : Nat → Nat := fun j => if 10 * nteA a ≤ j ∧ j < 10 * nteA a + 10 then P (j - 10 * nteA a) else if a = 14 ∧ j < 130 then f (j + 10) else f j
def nteH (h : Hp) : Hp := sR (sR h 30 (nteB (h.1 30) (h.1 28) (h.1 22 17))) 22 (up (h.1 22) 17 (nteA (h.1 22 17) + 1))
theorem MI_30 {h : Hp} (hm : MI h) (f : Nat → Nat) : MI (sR h 30 f) := hm
theorem MI_22 {h : Hp} (hm : MI h) {o v : Nat} (h4 : o ≠ 4) (h6 : o ≠ 6) : MI (sR h 22 (up (h.1 22) o v)) := by
  obtain ⟨a1, a2, a3⟩ := hm
  refine ⟨?_, ?_, a3⟩
  · show up (h.1 22) o v 4 ≤ 4
    rw [up_n (Ne.symm h4)]; exact a1
  · show up (h.1 22) o v 6 ≤ 5
    rw [up_n (Ne.symm h6)]; exact a2
theorem MI_nte {h : Hp} (hm : MI h) : MI (nteH h) := MI_22 (MI_30 hm _) (by decide) (by decide)
def tillM (E : Nat → Nat) (n : Nat) (T : Nat → Nat) (b : Nat) : Nat := match tillS E n T b 61 with
  | some q => q
  | none => 60
theorem tillS_n {E : Nat → Nat} {n : Nat} {T : Nat → Nat} {b k : Nat} (hf : tillS E n T b k = none) : tillS E n T b (k + 1) = if btk E n T k 6 &&& b = 0 then some k else none := by
  simp only [tillS, hf]
section X9b
variable {V : Vt} {h : Hp}
theorem c_X9_note (ha : h.1 22 17 ≤ 14) : Rtv V 1 yX9_note cX9_note 2 none [rf V 22] h (nteH h) := by
  have K2 : ∀ (f : Nat → Nat) (a : Nat), a ≤ 13 → G V T0 1 RX9 cX9_note 2 none 51 [some (rf V 22), some (.int (nI 0))] [] (sR (sR h 30 f) 22 (up (h.1 22) 17 a)) (fun v g => v = none ∧ g = sR (sR h 30 (fun j => if 10 * a ≤ j ∧ j < 10 * a + 10 then h.1 28 (j - 10 * a) else f j)) 22 (up (h.1 22) 17 (a + 1))) := by
    intro f a ha
    refine g_heap (show sR (sR h 30 f) 22 (up (h.1 22) 17 a) = sR (sR h 30 (fun j => if 10 * a ≤ j ∧ j < 10 * a + 0 then h.1 28 (j - 10 * a) else f j)) 22 (up (h.1 22) 17 a) from by rw [show (fun j => if 10 * a ≤ j ∧ j < 10 * a + 0 then h.1 28 (j - 10 * a) else f j) = f from funext fun o => if_neg (by omega)]) ?_
    refine loop_up (P := fun k => G V T0 1 RX9 cX9_note 2 none 51 [some (rf V 22), some (.int (nI k))] [] (sR (sR h 30 (fun j => if 10 * a ≤ j ∧ j < 10 * a + k then h.1 28 (j - 10 * a) else f j)) 22 (up (h.1 22) 17 a)) _) (n := 10) ?_ (fun k hk ih => ?_) 0 (Nat.zero_le _)
    · refine g_iload_n1 52 rfl dX9_note_51 ?_
      refine g_bipush (v := 10) 54 rfl dX9_note_52 (by decide) ?_
      refine gn_icmp_ge 83 (by decide) 57 rfl dX9_note_54 (by omega) (by omega) (fun c54 => ?_) (fun c54 => absurd c54 (by omega))
      refine g_aload_n0 84 rfl dX9_note_83 ?_
      refine g_dup 85 rfl dX9_note_84 rfl ?_
      refine gf_Model_acts 88 rfl fl_RX9_103 dX9_note_85 ?_
      rw [sR_s, up_s]
      refine g_iconst (v := 1) 89 rfl dX9_note_88 (by decide) ?_
      refine gn_iadd 90 rfl dX9_note_89 ?_
      refine gp_Model_acts 93 rfl fl_RX9_103 dX9_note_90 ?_
      refine g_vret dX9_note_93 rfl ?_
      exact ⟨rfl, by rw [sR_s, sR_sR, up_up]⟩
    · refine g_iload_n1 52 rfl dX9_note_51 ?_
      refine g_bipush (v := 10) 54 rfl dX9_note_52 (by decide) ?_
      refine gn_icmp_ge 83 (by decide) 57 rfl dX9_note_54 (by omega) (by omega) (fun c54 => absurd c54 (by omega)) (fun c54 => ?_)
      refine g_aload_n0 58 rfl dX9_note_57 ?_
      refine gf_Model_book 61 rfl fl_RX9_31 dX9_note_58 ?_
      refine g_bipush (v := 10) 63 rfl dX9_note_61 (by decide) ?_
      refine g_aload_n0 64 rfl dX9_note_63 ?_
      refine gf_Model_acts 67 rfl fl_RX9_103 dX9_note_64 ?_
      rw [sR_s, up_s]
      refine gn_imul 68 rfl dX9_note_67 ?_
      refine g_iload_n1 69 rfl dX9_note_68 ?_
      refine gn_iadd 70 rfl dX9_note_69 ?_
      refine g_aload_n0 71 rfl dX9_note_70 ?_
      refine gf_Model_page 74 rfl fl_RX9_25 dX9_note_71 ?_
      refine g_iload_n1 75 rfl dX9_note_74 ?_
      refine ga_28 76 rfl (by omega) dX9_note_75 ?_
      rw [sR_n (show 28 ≠ 22 by decide), sR_n (show 28 ≠ 30 by decide)]
      refine gs_30 77 rfl (by omega) dX9_note_76 ?_
      refine gn_iinc1 1 80 rfl dX9_note_77 rfl (by decide) rfl ?_
      refine g_goto 51 (by decide) dX9_note_80 ?_
      rw [sR_n (show 30 ≠ 22 by decide), sR_s, sR_c _ (show 22 ≠ 30 by decide), sR_sR]
      refine g_heap (congrArg (fun z => sR (sR h 30 z) 22 (up (h.1 22) 17 a)) (funext fun o => ?_)) ih
      simp only [up]
      by_cases q : o = 10 * a + k
      · rw [if_pos q, if_pos (by omega), show o - 10 * a = k by omega]
      · rw [if_neg q]
        by_cases w : 10 * a ≤ o ∧ o < 10 * a + k
        · rw [if_pos w, if_pos (by omega)]
        · rw [if_neg w, if_neg (by omega)]
  refine Mt_in [some (rf V 22), none] (own := RX9) rfl (by decide) (Nat.le_of_ble_eq_true rfl) (fun q hq => hq) ?_
  by_cases q6 : h.1 22 17 = 14
  · have eA : nteA (h.1 22 17) = 13 := if_pos q6
    refine g_aload_n0 1 rfl dX9_note_0 ?_
    refine gf_Model_acts 4 rfl fl_RX9_103 dX9_note_1 ?_
    refine g_bipush (v := 14) 6 rfl dX9_note_4 (by decide) ?_
    refine gn_icmp_ne 49 (by decide) 9 rfl dX9_note_6 (by omega) (by omega) (fun c6 => absurd q6 c6) (fun c6 => ?_)
    refine g_iconst (v := 0) 10 rfl dX9_note_9 (by decide) ?_
    refine g_istore_n1 11 rfl dX9_note_10 (by decide) rfl ?_
    skip
    refine g_heap (show h = sR h 30 (fun j => if j < 0 then h.1 30 (j + 10) else h.1 30 j) from by rw [show (fun j => if j < 0 then h.1 30 (j + 10) else h.1 30 j) = h.1 30 from funext fun o => if_neg (by omega), sR_same]) ?_
    refine loop_up (P := fun k => G V T0 1 RX9 cX9_note 2 none 11 [some (rf V 22), some (.int (nI k))] [] (sR h 30 (fun j => if j < k then h.1 30 (j + 10) else h.1 30 j)) _) (n := 130) ?_ (fun k hk ih => ?_) 0 (Nat.zero_le _)
    · have K := K2 (fun j => if j < 130 then h.1 30 (j + 10) else h.1 30 j) 13 (by omega)
      refine g_iload_n1 12 rfl dX9_note_11 ?_
      refine g_sipush (v := 130) 15 rfl dX9_note_12 (by decide) ?_
      refine gn_icmp_ge 39 (by decide) 18 rfl dX9_note_15 (by omega) (by omega) (fun c15 => ?_) (fun c15 => absurd c15 (by omega))
      refine g_aload_n0 40 rfl dX9_note_39 ?_
      refine g_dup 41 rfl dX9_note_40 rfl ?_
      refine gf_Model_acts 44 rfl fl_RX9_103 dX9_note_41 ?_
      rw [sR_n (show 22 ≠ 30 by decide), q6]
      refine g_iconst (v := 1) 45 rfl dX9_note_44 (by decide) ?_
      refine gn_isub 46 rfl dX9_note_45 (by omega) ?_
      refine gp_Model_acts 49 rfl fl_RX9_103 dX9_note_46 ?_
      refine g_iconst (v := 0) 50 rfl dX9_note_49 (by decide) ?_
      refine g_istore_n1 51 rfl dX9_note_50 (by decide) rfl ?_
      rw [sR_n (show 22 ≠ 30 by decide)]
      have e : nteH h = sR (sR h 30 (fun j => if 10 * 13 ≤ j ∧ j < 10 * 13 + 10 then h.1 28 (j - 10 * 13) else if j < 130 then h.1 30 (j + 10) else h.1 30 j)) 22 (up (h.1 22) 17 (13 + 1)) := by
        unfold nteH nteB
        rw [eA, q6]
        simp only [true_and]
      rw [e]
      exact K
    · refine g_iload_n1 12 rfl dX9_note_11 ?_
      refine g_sipush (v := 130) 15 rfl dX9_note_12 (by decide) ?_
      refine gn_icmp_ge 39 (by decide) 18 rfl dX9_note_15 (by omega) (by omega) (fun c15 => absurd c15 (by omega)) (fun c15 => ?_)
      refine g_aload_n0 19 rfl dX9_note_18 ?_
      refine gf_Model_book 22 rfl fl_RX9_31 dX9_note_19 ?_
      refine g_iload_n1 23 rfl dX9_note_22 ?_
      refine g_aload_n0 24 rfl dX9_note_23 ?_
      refine gf_Model_book 27 rfl fl_RX9_31 dX9_note_24 ?_
      refine g_iload_n1 28 rfl dX9_note_27 ?_
      refine g_bipush (v := 10) 30 rfl dX9_note_28 (by decide) ?_
      refine gn_iadd 31 rfl dX9_note_30 ?_
      refine ga_30 32 rfl (by omega) dX9_note_31 ?_
      rw [sR_s, if_neg (by omega)]
      refine gs_30 33 rfl (by omega) dX9_note_32 ?_
      refine gn_iinc1 1 36 rfl dX9_note_33 rfl (by decide) rfl ?_
      refine g_goto 11 (by decide) dX9_note_36 ?_
      rw [sR_s, sR_sR]
      refine g_heap (congrArg (sR h 30) (funext fun o => ?_)) ih
      simp only [up]
      by_cases q : o = k
      · rw [if_pos q, if_pos (by omega), q]
      · rw [if_neg q]
        by_cases w : o < k
        · rw [if_pos w, if_pos (by omega)]
        · rw [if_neg w, if_neg (by omega)]
  · have eA : nteA (h.1 22 17) = h.1 22 17 := if_neg q6
    have K := K2 (h.1 30) (h.1 22 17) (by omega)
    rw [sR_same, up_same, sR_same] at K
    have e : nteH h = sR (sR h 30 (fun j => if 10 * h.1 22 17 ≤ j ∧ j < 10 * h.1 22 17 + 10 then h.1 28 (j - 10 * h.1 22 17) else h.1 30 j)) 22 (up (h.1 22) 17 (h.1 22 17 + 1)) := by
      unfold nteH nteB
      rw [eA]
      simp only [q6, false_and, if_false]
    rw [e]
    refine g_aload_n0 1 rfl dX9_note_0 ?_
    refine gf_Model_acts 4 rfl fl_RX9_103 dX9_note_1 ?_
    refine g_bipush (v := 14) 6 rfl dX9_note_4 (by decide) ?_
    refine gn_icmp_ne 49 (by decide) 9 rfl dX9_note_6 (by omega) (by omega) (fun c6 => ?_) (fun c6 => absurd c6 q6)
    refine g_iconst (v := 0) 50 rfl dX9_note_49 (by decide) ?_
    refine g_istore_n1 51 rfl dX9_note_50 (by decide) rfl ?_
    exact K
theorem c_X9_write_ok {a : Nat} (ht : h.1 22 0 = 0) (ha : a ≤ 255) (hl : h.1 22 2 < 48) : Rti V 2 yX9_write cX9_write 2 (some .int) [rf V 22, .int (nI a)] h (nI (h.1 22 2 + 1)) (sR (sR h 23 (up (h.1 23) (h.1 22 2) a)) 22 (up (h.1 22) 2 (h.1 22 2 + 1))) := by
  have h01 : (if (0 : Int64) ≤ (nI a).toInt64 ∧ (nI a).toInt64 ≤ 255 then 1 else 0) = 1 := if_pos ((in_c (n := a) (a := 0) (b := 255) (by omega) (by decide) (by decide) rfl rfl).mpr ⟨by omega, ha⟩)
  refine Mt_in [some (rf V 22), some (.int (nI a))] (own := RX9) rfl (by decide) (Nat.le_of_ble_eq_true rfl) (fun q hq => hq) ?_
  refine g_aload_n0 1 rfl dX9_write_0 ?_
  refine g_iconst (v := 0) 2 rfl dX9_write_1 (by decide) ?_
  refine gp_Model_thrown 5 rfl fl_RX9_53 dX9_write_2 ?_
  rw [thr0 ht]
  refine g_iload_n1 6 rfl dX9_write_5 ?_
  refine g_i2l 7 rfl dX9_write_6 ?_
  refine g_lconst (v := 0) 8 rfl dX9_write_7 rfl ?_
  refine g_ldc2 11 rfl kl_RX9_67 dX9_write_8 ?_
  refine g_cs3i 14 rfl cw_RX9_60 dX9_write_11 (c_X9_in) (by omega) (Nat.le_of_ble_eq_true rfl) ?_
  rw [h01]
  refine gn_if_ne 20 (by decide) 17 rfl dX9_write_14 (by omega) (fun c14 => ?_) (fun c14 => absurd c14 (by decide))
  refine g_aload_n0 21 rfl dX9_write_20 ?_
  refine gf_Model_textSize 24 rfl fl_RX9_69 dX9_write_21 ?_
  refine g_bipush (v := 48) 26 rfl dX9_write_24 (by decide) ?_
  refine gn_icmp_ne 32 (by decide) 29 rfl dX9_write_26 (by omega) (by omega) (fun c26 => ?_) (fun c26 => absurd c26 (by omega))
  refine g_aload_n0 33 rfl dX9_write_32 ?_
  refine gf_Model_text 36 rfl fl_RX9_7 dX9_write_33 ?_
  refine g_aload_n0 37 rfl dX9_write_36 ?_
  refine gf_Model_textSize 40 rfl fl_RX9_69 dX9_write_37 ?_
  refine g_iload_n1 41 rfl dX9_write_40 ?_
  refine gs_23 42 rfl (by omega) dX9_write_41 ?_
  refine g_aload_n0 43 rfl dX9_write_42 ?_
  refine g_dup 44 rfl dX9_write_43 rfl ?_
  refine gf_Model_textSize 47 rfl fl_RX9_69 dX9_write_44 ?_
  refine g_iconst (v := 1) 48 rfl dX9_write_47 (by decide) ?_
  refine gn_iadd 49 rfl dX9_write_48 ?_
  refine gp_Model_textSize 52 rfl fl_RX9_69 dX9_write_49 ?_
  refine g_aload_n0 53 rfl dX9_write_52 ?_
  refine gf_Model_textSize 56 rfl fl_RX9_69 dX9_write_53 ?_
  refine g_iret .int dX9_write_56 rfl (rfl) ?_
  exact ⟨rfl, rfl⟩
theorem c_X9_write_full {a : Nat} (ht : h.1 22 0 = 0) (ha : a ≤ 255) (hl : h.1 22 2 = 48) : Rti V 2 yX9_write cX9_write 2 (some .int) [rf V 22, .int (nI a)] h (nI 4294967292) h := by
  have h01 : (if (0 : Int64) ≤ (nI a).toInt64 ∧ (nI a).toInt64 ≤ 255 then 1 else 0) = 1 := if_pos ((in_c (n := a) (a := 0) (b := 255) (by omega) (by decide) (by decide) rfl rfl).mpr ⟨by omega, ha⟩)
  refine Mt_in [some (rf V 22), some (.int (nI a))] (own := RX9) rfl (by decide) (Nat.le_of_ble_eq_true rfl) (fun q hq => hq) ?_
  refine g_aload_n0 1 rfl dX9_write_0 ?_
  refine g_iconst (v := 0) 2 rfl dX9_write_1 (by decide) ?_
  refine gp_Model_thrown 5 rfl fl_RX9_53 dX9_write_2 ?_
  rw [thr0 ht]
  refine g_iload_n1 6 rfl dX9_write_5 ?_
  refine g_i2l 7 rfl dX9_write_6 ?_
  refine g_lconst (v := 0) 8 rfl dX9_write_7 rfl ?_
  refine g_ldc2 11 rfl kl_RX9_67 dX9_write_8 ?_
  refine g_cs3i 14 rfl cw_RX9_60 dX9_write_11 (c_X9_in) (by omega) (Nat.le_of_ble_eq_true rfl) ?_
  rw [h01]
  refine gn_if_ne 20 (by decide) 17 rfl dX9_write_14 (by omega) (fun c14 => ?_) (fun c14 => absurd c14 (by decide))
  refine g_aload_n0 21 rfl dX9_write_20 ?_
  refine gf_Model_textSize 24 rfl fl_RX9_69 dX9_write_21 ?_
  refine g_bipush (v := 48) 26 rfl dX9_write_24 (by decide) ?_
  refine gn_icmp_ne 32 (by decide) 29 rfl dX9_write_26 (by omega) (by omega) (fun c26 => absurd hl c26) (fun c26 => ?_)
  refine g_bipush (v := 4294967292) 31 rfl dX9_write_29 (by decide) ?_
  refine g_iret .int dX9_write_31 rfl (rfl) ?_
  exact ⟨rfl, rfl⟩
theorem c_X9_write_bad {a : Nat} (ht : h.1 22 0 = 0) (ha : ¬ a ≤ 255) (h32 : a < 2 ^ 32) : Rti V 2 yX9_write cX9_write 2 (some .int) [rf V 22, .int (nI a)] h (nI 4294967294) h := by
  have h01 : (if (0 : Int64) ≤ (nI a).toInt64 ∧ (nI a).toInt64 ≤ 255 then 1 else 0) = 0 := if_neg (fun q => ha ((in_c (n := a) (a := 0) (b := 255) (by omega) (by decide) (by decide) rfl rfl).mp q).2)
  refine Mt_in [some (rf V 22), some (.int (nI a))] (own := RX9) rfl (by decide) (Nat.le_of_ble_eq_true rfl) (fun q hq => hq) ?_
  refine g_aload_n0 1 rfl dX9_write_0 ?_
  refine g_iconst (v := 0) 2 rfl dX9_write_1 (by decide) ?_
  refine gp_Model_thrown 5 rfl fl_RX9_53 dX9_write_2 ?_
  rw [thr0 ht]
  refine g_iload_n1 6 rfl dX9_write_5 ?_
  refine g_i2l 7 rfl dX9_write_6 ?_
  refine g_lconst (v := 0) 8 rfl dX9_write_7 rfl ?_
  refine g_ldc2 11 rfl kl_RX9_67 dX9_write_8 ?_
  refine g_cs3i 14 rfl cw_RX9_60 dX9_write_11 (c_X9_in) (by omega) (Nat.le_of_ble_eq_true rfl) ?_
  rw [h01]
  refine gn_if_ne 20 (by decide) 17 rfl dX9_write_14 (by omega) (fun c14 => absurd rfl c14) (fun c14 => ?_)
  refine g_bipush (v := 4294967294) 19 rfl dX9_write_17 (by decide) ?_
  refine g_iret .int dX9_write_19 rfl (rfl) ?_
  exact ⟨rfl, rfl⟩
theorem c_X9_wipe (ht : h.1 22 0 = 0) : Rti V 1 yX9_wipe cX9_wipe 2 (some .int) [rf V 22] h (nI (h.1 22 2)) (sR h 22 (up (h.1 22) 2 0)) := by
  refine Mt_in [some (rf V 22), none] (own := RX9) rfl (by decide) (Nat.le_of_ble_eq_true rfl) (fun q hq => hq) ?_
  refine g_aload_n0 1 rfl dX9_wipe_0 ?_
  refine g_iconst (v := 0) 2 rfl dX9_wipe_1 (by decide) ?_
  refine gp_Model_thrown 5 rfl fl_RX9_53 dX9_wipe_2 ?_
  rw [thr0 ht]
  refine g_aload_n0 6 rfl dX9_wipe_5 ?_
  refine gf_Model_textSize 9 rfl fl_RX9_69 dX9_wipe_6 ?_
  refine g_istore_n1 10 rfl dX9_wipe_9 (by decide) rfl ?_
  refine g_aload_n0 11 rfl dX9_wipe_10 ?_
  refine g_iconst (v := 0) 12 rfl dX9_wipe_11 (by decide) ?_
  refine gp_Model_textSize 15 rfl fl_RX9_69 dX9_wipe_12 ?_
  refine g_iload_n1 16 rfl dX9_wipe_15 ?_
  refine g_iret .int dX9_wipe_16 rfl (rfl) ?_
  exact ⟨rfl, rfl⟩
theorem c_X9_about {b : Nat} (ht : h.1 22 0 = 0) (hm : MI h) (hb : b < 2 ^ 32) : Rti V 4 yX9_about cX9_about 2 (some .int) [rf V 22, .int (nI b)] h (nI (abtV (h.1 22 4) (h.1 22 6) (h.1 25) (h.1 28) (h.1 22 17) (h.1 22 20) (h.1 22 2) b)) h := by
  refine Mt_in [some (rf V 22), some (.int (nI b))] (own := RX9) rfl (by decide) (Nat.le_of_ble_eq_true rfl) (fun q hq => hq) ?_
  rcases (show b = 0 ∨ b = 1 ∨ b = 2 ∨ b = 3 ∨ b = 4 ∨ b = 5 ∨ b = 6 ∨ b = 7 ∨ b = 8 ∨ b = 9 ∨ b = 10 ∨ 10 < b by omega) with rfl | rfl | rfl | rfl | rfl | rfl | rfl | rfl | rfl | rfl | rfl | hb2
  · refine g_aload_n0 1 rfl dX9_about_0 ?_
    refine g_iconst (v := 0) 2 rfl dX9_about_1 (by decide) ?_
    refine gp_Model_thrown 5 rfl fl_RX9_53 dX9_about_2 ?_
    rw [thr0 ht]
    refine g_iload_n1 6 rfl dX9_about_5 ?_
    refine g_tsw (off := 58) 64 dX9_about_6 (by decide +kernel) (by decide) ?_
    refine g_aload_n0 65 rfl dX9_about_64 ?_
    refine gf_Model_envoys 68 rfl fl_RX9_57 dX9_about_65 ?_
    refine g_iret .int dX9_about_68 rfl (rfl) ?_
    exact ⟨rfl, rfl⟩
  · refine g_aload_n0 1 rfl dX9_about_0 ?_
    refine g_iconst (v := 0) 2 rfl dX9_about_1 (by decide) ?_
    refine gp_Model_thrown 5 rfl fl_RX9_53 dX9_about_2 ?_
    rw [thr0 ht]
    refine g_iload_n1 6 rfl dX9_about_5 ?_
    refine g_tsw (off := 63) 69 dX9_about_6 (by decide +kernel) (by decide) ?_
    refine g_aload_n0 70 rfl dX9_about_69 ?_
    refine gf_Model_clauses 73 rfl fl_RX9_64 dX9_about_70 ?_
    refine g_iret .int dX9_about_73 rfl (rfl) ?_
    exact ⟨rfl, rfl⟩
  · refine g_aload_n0 1 rfl dX9_about_0 ?_
    refine g_iconst (v := 0) 2 rfl dX9_about_1 (by decide) ?_
    refine gp_Model_thrown 5 rfl fl_RX9_53 dX9_about_2 ?_
    rw [thr0 ht]
    refine g_iload_n1 6 rfl dX9_about_5 ?_
    refine g_tsw (off := 68) 74 dX9_about_6 (by decide +kernel) (by decide) ?_
    refine g_aload_n0 75 rfl dX9_about_74 ?_
    refine gf_Model_page 78 rfl fl_RX9_25 dX9_about_75 ?_
    refine g_iconst (v := 0) 79 rfl dX9_about_78 (by decide) ?_
    refine ga_28 80 rfl (by omega) dX9_about_79 ?_
    refine g_iret .int dX9_about_80 rfl (rfl) ?_
    exact ⟨rfl, rfl⟩
  · refine g_aload_n0 1 rfl dX9_about_0 ?_
    refine g_iconst (v := 0) 2 rfl dX9_about_1 (by decide) ?_
    refine gp_Model_thrown 5 rfl fl_RX9_53 dX9_about_2 ?_
    rw [thr0 ht]
    refine g_iload_n1 6 rfl dX9_about_5 ?_
    refine g_tsw (off := 75) 81 dX9_about_6 (by decide +kernel) (by decide) ?_
    refine g_aload_n0 82 rfl dX9_about_81 ?_
    refine gf_Model_page 85 rfl fl_RX9_25 dX9_about_82 ?_
    refine g_iconst (v := 1) 86 rfl dX9_about_85 (by decide) ?_
    refine ga_28 87 rfl (by omega) dX9_about_86 ?_
    refine g_iret .int dX9_about_87 rfl (rfl) ?_
    exact ⟨rfl, rfl⟩
  · refine g_aload_n0 1 rfl dX9_about_0 ?_
    refine g_iconst (v := 0) 2 rfl dX9_about_1 (by decide) ?_
    refine gp_Model_thrown 5 rfl fl_RX9_53 dX9_about_2 ?_
    rw [thr0 ht]
    refine g_iload_n1 6 rfl dX9_about_5 ?_
    refine g_tsw (off := 82) 88 dX9_about_6 (by decide +kernel) (by decide) ?_
    refine g_aload_n0 89 rfl dX9_about_88 ?_
    refine gf_Model_page 92 rfl fl_RX9_25 dX9_about_89 ?_
    refine g_bipush (v := 6) 94 rfl dX9_about_92 (by decide) ?_
    refine ga_28 95 rfl (by omega) dX9_about_94 ?_
    refine g_iret .int dX9_about_95 rfl (rfl) ?_
    exact ⟨rfl, rfl⟩
  · refine g_aload_n0 1 rfl dX9_about_0 ?_
    refine g_iconst (v := 0) 2 rfl dX9_about_1 (by decide) ?_
    refine gp_Model_thrown 5 rfl fl_RX9_53 dX9_about_2 ?_
    rw [thr0 ht]
    refine g_iload_n1 6 rfl dX9_about_5 ?_
    refine g_tsw (off := 90) 96 dX9_about_6 (by decide +kernel) (by decide) ?_
    refine g_aload_n0 97 rfl dX9_about_96 ?_
    refine gf_Model_page 100 rfl fl_RX9_25 dX9_about_97 ?_
    refine g_bipush (v := 8) 102 rfl dX9_about_100 (by decide) ?_
    refine ga_28 103 rfl (by omega) dX9_about_102 ?_
    refine g_iret .int dX9_about_103 rfl (rfl) ?_
    exact ⟨rfl, rfl⟩
  · refine g_aload_n0 1 rfl dX9_about_0 ?_
    refine g_iconst (v := 0) 2 rfl dX9_about_1 (by decide) ?_
    refine gp_Model_thrown 5 rfl fl_RX9_53 dX9_about_2 ?_
    rw [thr0 ht]
    refine g_iload_n1 6 rfl dX9_about_5 ?_
    refine g_tsw (off := 98) 104 dX9_about_6 (by decide +kernel) (by decide) ?_
    refine g_aload_n0 105 rfl dX9_about_104 ?_
    refine gf_Model_page 108 rfl fl_RX9_25 dX9_about_105 ?_
    refine g_bipush (v := 9) 110 rfl dX9_about_108 (by decide) ?_
    refine ga_28 111 rfl (by omega) dX9_about_110 ?_
    refine g_iret .int dX9_about_111 rfl (rfl) ?_
    exact ⟨rfl, rfl⟩
  · refine g_aload_n0 1 rfl dX9_about_0 ?_
    refine g_iconst (v := 0) 2 rfl dX9_about_1 (by decide) ?_
    refine gp_Model_thrown 5 rfl fl_RX9_53 dX9_about_2 ?_
    rw [thr0 ht]
    refine g_iload_n1 6 rfl dX9_about_5 ?_
    refine g_tsw (off := 106) 112 dX9_about_6 (by decide +kernel) (by decide) ?_
    refine g_aload_n0 113 rfl dX9_about_112 ?_
    refine g_aload_n0 114 rfl dX9_about_113 ?_
    refine gf_Model_page 117 rfl fl_RX9_25 dX9_about_114 ?_
    refine g_cv1i 120 rfl cw_RX9_121 dX9_about_117 (c_X9_sayable hm) (by omega) (ob_22 V) (Nat.le_of_ble_eq_true rfl) ?_
    refine g_iret .int dX9_about_120 rfl (rfl) ?_
    exact ⟨rfl, rfl⟩
  · refine g_aload_n0 1 rfl dX9_about_0 ?_
    refine g_iconst (v := 0) 2 rfl dX9_about_1 (by decide) ?_
    refine gp_Model_thrown 5 rfl fl_RX9_53 dX9_about_2 ?_
    rw [thr0 ht]
    refine g_iload_n1 6 rfl dX9_about_5 ?_
    refine g_tsw (off := 115) 121 dX9_about_6 (by decide +kernel) (by decide) ?_
    refine g_aload_n0 122 rfl dX9_about_121 ?_
    refine gf_Model_acts 125 rfl fl_RX9_103 dX9_about_122 ?_
    refine g_iret .int dX9_about_125 rfl (rfl) ?_
    exact ⟨rfl, rfl⟩
  · refine g_aload_n0 1 rfl dX9_about_0 ?_
    refine g_iconst (v := 0) 2 rfl dX9_about_1 (by decide) ?_
    refine gp_Model_thrown 5 rfl fl_RX9_53 dX9_about_2 ?_
    rw [thr0 ht]
    refine g_iload_n1 6 rfl dX9_about_5 ?_
    refine g_tsw (off := 120) 126 dX9_about_6 (by decide +kernel) (by decide) ?_
    refine g_aload_n0 127 rfl dX9_about_126 ?_
    refine gf_Model_seen 130 rfl fl_RX9_125 dX9_about_127 ?_
    refine g_iret .int dX9_about_130 rfl (rfl) ?_
    exact ⟨rfl, rfl⟩
  · refine g_aload_n0 1 rfl dX9_about_0 ?_
    refine g_iconst (v := 0) 2 rfl dX9_about_1 (by decide) ?_
    refine gp_Model_thrown 5 rfl fl_RX9_53 dX9_about_2 ?_
    rw [thr0 ht]
    refine g_iload_n1 6 rfl dX9_about_5 ?_
    refine g_tsw (off := 125) 131 dX9_about_6 (by decide +kernel) (by decide) ?_
    refine g_aload_n0 132 rfl dX9_about_131 ?_
    refine gf_Model_textSize 135 rfl fl_RX9_69 dX9_about_132 ?_
    refine g_iret .int dX9_about_135 rfl (rfl) ?_
    exact ⟨rfl, rfl⟩
  · refine g_aload_n0 1 rfl dX9_about_0 ?_
    refine g_iconst (v := 0) 2 rfl dX9_about_1 (by decide) ?_
    refine gp_Model_thrown 5 rfl fl_RX9_53 dX9_about_2 ?_
    rw [thr0 ht]
    refine g_iload_n1 6 rfl dX9_about_5 ?_
    refine g_tsw (off := 130) 136 dX9_about_6 (ts_d hb (by decide) (by omega)) (by decide) ?_
    refine g_bipush (v := 4294967294) 138 rfl dX9_about_136 (by decide) ?_
    refine g_iret .int dX9_about_138 rfl (rfl) ?_
    refine ⟨congrArg (fun q => some (Value.int (nI q))) ?_, rfl⟩
    unfold abtV
    rw [if_neg (by omega), if_neg (by omega), if_neg (by omega), if_neg (by omega), if_neg (by omega), if_neg (by omega), if_neg (by omega), if_neg (by omega), if_neg (by omega), if_neg (by omega), if_neg (by omega)]
theorem c_X9_envoy {a b : Nat} (ht : h.1 22 0 = 0) (hm : MI h) (ha : a < 2 ^ 32) (hb : b < 2 ^ 32) : Rti V 3 yX9_envoy cX9_envoy 3 (some .int) [rf V 22, .int (nI a), .int (nI b)] h (nI (envV (h.1 22 4) (h.1 24) (h.1 28) a b)) h := by
  obtain ⟨hE, hC, x4, x5, x7, x8, hT, -⟩ := id hm
  have h7 := hT.2.2.2.1
  refine Mt_in [some (rf V 22), some (.int (nI a)), some (.int (nI b))] (own := RX9) rfl (by decide) (Nat.le_of_ble_eq_true rfl) (fun q hq => hq) ?_
  by_cases hn : a < h.1 22 4
  · rw [show envV (h.1 22 4) (h.1 24) (h.1 28) a b = _ from if_pos hn]
    have h01 : (if a < h.1 22 4 then 0 else 1) = 0 := if_pos hn
    rcases (show b = 0 ∨ b = 1 ∨ b = 2 ∨ b = 3 ∨ b = 4 ∨ b = 5 ∨ 5 < b by omega) with rfl | rfl | rfl | rfl | rfl | rfl | hb2
    · refine g_aload_n0 1 rfl dX9_envoy_0 ?_
      refine g_iconst (v := 0) 2 rfl dX9_envoy_1 (by decide) ?_
      refine gp_Model_thrown 5 rfl fl_RX9_53 dX9_envoy_2 ?_
      rw [thr0 ht]
      refine g_aload_n0 6 rfl dX9_envoy_5 ?_
      refine g_iload_n1 7 rfl dX9_envoy_6 ?_
      refine g_cv1i 10 rfl cw_RX9_128 dX9_envoy_7 (c_X9_noEnvoy hE ha) (by omega) (ob_22 V) (Nat.le_of_ble_eq_true rfl) ?_
      rw [h01]
      refine gn_if_eq 15 (by decide) 13 rfl dX9_envoy_10 (by omega) (fun c10 => ?_) (fun c10 => absurd rfl c10)
      refine g_iload_n2 16 rfl dX9_envoy_15 ?_
      refine g_tsw (off := 40) 56 dX9_envoy_16 (by decide +kernel) (by decide) ?_
      refine g_aload_n0 57 rfl dX9_envoy_56 ?_
      refine gf_Model_envoy 60 rfl fl_RX9_13 dX9_envoy_57 ?_
      refine g_iconst (v := 3) 61 rfl dX9_envoy_60 (by decide) ?_
      refine g_iload_n1 62 rfl dX9_envoy_61 ?_
      refine gn_imul 63 rfl dX9_envoy_62 ?_
      refine g_iload_n2 64 rfl dX9_envoy_63 ?_
      refine gn_iadd 65 rfl dX9_envoy_64 ?_
      refine ga_24 66 rfl (by omega) dX9_envoy_65 ?_
      refine g_iret .int dX9_envoy_66 rfl (rfl) ?_
      exact ⟨rfl, rfl⟩
    · refine g_aload_n0 1 rfl dX9_envoy_0 ?_
      refine g_iconst (v := 0) 2 rfl dX9_envoy_1 (by decide) ?_
      refine gp_Model_thrown 5 rfl fl_RX9_53 dX9_envoy_2 ?_
      rw [thr0 ht]
      refine g_aload_n0 6 rfl dX9_envoy_5 ?_
      refine g_iload_n1 7 rfl dX9_envoy_6 ?_
      refine g_cv1i 10 rfl cw_RX9_128 dX9_envoy_7 (c_X9_noEnvoy hE ha) (by omega) (ob_22 V) (Nat.le_of_ble_eq_true rfl) ?_
      rw [h01]
      refine gn_if_eq 15 (by decide) 13 rfl dX9_envoy_10 (by omega) (fun c10 => ?_) (fun c10 => absurd rfl c10)
      refine g_iload_n2 16 rfl dX9_envoy_15 ?_
      refine g_tsw (off := 40) 56 dX9_envoy_16 (by decide +kernel) (by decide) ?_
      refine g_aload_n0 57 rfl dX9_envoy_56 ?_
      refine gf_Model_envoy 60 rfl fl_RX9_13 dX9_envoy_57 ?_
      refine g_iconst (v := 3) 61 rfl dX9_envoy_60 (by decide) ?_
      refine g_iload_n1 62 rfl dX9_envoy_61 ?_
      refine gn_imul 63 rfl dX9_envoy_62 ?_
      refine g_iload_n2 64 rfl dX9_envoy_63 ?_
      refine gn_iadd 65 rfl dX9_envoy_64 ?_
      refine ga_24 66 rfl (by omega) dX9_envoy_65 ?_
      refine g_iret .int dX9_envoy_66 rfl (rfl) ?_
      exact ⟨rfl, rfl⟩
    · refine g_aload_n0 1 rfl dX9_envoy_0 ?_
      refine g_iconst (v := 0) 2 rfl dX9_envoy_1 (by decide) ?_
      refine gp_Model_thrown 5 rfl fl_RX9_53 dX9_envoy_2 ?_
      rw [thr0 ht]
      refine g_aload_n0 6 rfl dX9_envoy_5 ?_
      refine g_iload_n1 7 rfl dX9_envoy_6 ?_
      refine g_cv1i 10 rfl cw_RX9_128 dX9_envoy_7 (c_X9_noEnvoy hE ha) (by omega) (ob_22 V) (Nat.le_of_ble_eq_true rfl) ?_
      rw [h01]
      refine gn_if_eq 15 (by decide) 13 rfl dX9_envoy_10 (by omega) (fun c10 => ?_) (fun c10 => absurd rfl c10)
      refine g_iload_n2 16 rfl dX9_envoy_15 ?_
      refine g_tsw (off := 40) 56 dX9_envoy_16 (by decide +kernel) (by decide) ?_
      refine g_aload_n0 57 rfl dX9_envoy_56 ?_
      refine gf_Model_envoy 60 rfl fl_RX9_13 dX9_envoy_57 ?_
      refine g_iconst (v := 3) 61 rfl dX9_envoy_60 (by decide) ?_
      refine g_iload_n1 62 rfl dX9_envoy_61 ?_
      refine gn_imul 63 rfl dX9_envoy_62 ?_
      refine g_iload_n2 64 rfl dX9_envoy_63 ?_
      refine gn_iadd 65 rfl dX9_envoy_64 ?_
      refine ga_24 66 rfl (by omega) dX9_envoy_65 ?_
      refine g_iret .int dX9_envoy_66 rfl (rfl) ?_
      exact ⟨rfl, rfl⟩
    · refine g_aload_n0 1 rfl dX9_envoy_0 ?_
      refine g_iconst (v := 0) 2 rfl dX9_envoy_1 (by decide) ?_
      refine gp_Model_thrown 5 rfl fl_RX9_53 dX9_envoy_2 ?_
      rw [thr0 ht]
      refine g_aload_n0 6 rfl dX9_envoy_5 ?_
      refine g_iload_n1 7 rfl dX9_envoy_6 ?_
      refine g_cv1i 10 rfl cw_RX9_128 dX9_envoy_7 (c_X9_noEnvoy hE ha) (by omega) (ob_22 V) (Nat.le_of_ble_eq_true rfl) ?_
      rw [h01]
      refine gn_if_eq 15 (by decide) 13 rfl dX9_envoy_10 (by omega) (fun c10 => ?_) (fun c10 => absurd rfl c10)
      refine g_iload_n2 16 rfl dX9_envoy_15 ?_
      refine g_tsw (off := 51) 67 dX9_envoy_16 (by decide +kernel) (by decide) ?_
      refine g_aload_n0 68 rfl dX9_envoy_67 ?_
      refine gf_Model_page 71 rfl fl_RX9_25 dX9_envoy_68 ?_
      refine g_iconst (v := 2) 72 rfl dX9_envoy_71 (by decide) ?_
      refine g_iload_n1 73 rfl dX9_envoy_72 ?_
      refine gn_iadd 74 rfl dX9_envoy_73 ?_
      refine ga_28 75 rfl (by omega) dX9_envoy_74 ?_
      refine g_iret .int dX9_envoy_75 rfl (rfl) ?_
      exact ⟨rfl, rfl⟩
    · refine g_aload_n0 1 rfl dX9_envoy_0 ?_
      refine g_iconst (v := 0) 2 rfl dX9_envoy_1 (by decide) ?_
      refine gp_Model_thrown 5 rfl fl_RX9_53 dX9_envoy_2 ?_
      rw [thr0 ht]
      refine g_aload_n0 6 rfl dX9_envoy_5 ?_
      refine g_iload_n1 7 rfl dX9_envoy_6 ?_
      refine g_cv1i 10 rfl cw_RX9_128 dX9_envoy_7 (c_X9_noEnvoy hE ha) (by omega) (ob_22 V) (Nat.le_of_ble_eq_true rfl) ?_
      rw [h01]
      refine gn_if_eq 15 (by decide) 13 rfl dX9_envoy_10 (by omega) (fun c10 => ?_) (fun c10 => absurd rfl c10)
      refine g_iload_n2 16 rfl dX9_envoy_15 ?_
      refine g_tsw (off := 60) 76 dX9_envoy_16 (by decide +kernel) (by decide) ?_
      refine g_aload_n0 77 rfl dX9_envoy_76 ?_
      refine g_iload_n1 78 rfl dX9_envoy_77 ?_
      refine g_aload_n0 79 rfl dX9_envoy_78 ?_
      refine gf_Model_page 82 rfl fl_RX9_25 dX9_envoy_79 ?_
      refine g_iconst (v := 0) 83 rfl dX9_envoy_82 (by decide) ?_
      refine ga_28 84 rfl (by omega) dX9_envoy_83 ?_
      refine g_cv2i 87 rfl cw_RX9_118 dX9_envoy_84 (c_X9_painOf (by omega) (x5 a) (x4 _) hT.1) (by omega) (ob_22 V) (Nat.le_of_ble_eq_true rfl) ?_
      refine g_iret .int dX9_envoy_87 rfl (rfl) ?_
      exact ⟨rfl, rfl⟩
    · refine g_aload_n0 1 rfl dX9_envoy_0 ?_
      refine g_iconst (v := 0) 2 rfl dX9_envoy_1 (by decide) ?_
      refine gp_Model_thrown 5 rfl fl_RX9_53 dX9_envoy_2 ?_
      rw [thr0 ht]
      refine g_aload_n0 6 rfl dX9_envoy_5 ?_
      refine g_iload_n1 7 rfl dX9_envoy_6 ?_
      refine g_cv1i 10 rfl cw_RX9_128 dX9_envoy_7 (c_X9_noEnvoy hE ha) (by omega) (ob_22 V) (Nat.le_of_ble_eq_true rfl) ?_
      rw [h01]
      refine gn_if_eq 15 (by decide) 13 rfl dX9_envoy_10 (by omega) (fun c10 => ?_) (fun c10 => absurd rfl c10)
      refine g_iload_n2 16 rfl dX9_envoy_15 ?_
      refine g_tsw (off := 72) 88 dX9_envoy_16 (by decide +kernel) (by decide) ?_
      refine g_aload_n0 89 rfl dX9_envoy_88 ?_
      refine gf_Model_page 92 rfl fl_RX9_25 dX9_envoy_89 ?_
      refine g_bipush (v := 7) 94 rfl dX9_envoy_92 (by decide) ?_
      refine ga_28 95 rfl (by omega) dX9_envoy_94 ?_
      refine g_iload_n1 96 rfl dX9_envoy_95 ?_
      refine gn_ishr 97 rfl dX9_envoy_96 (by omega) (by omega) ?_
      refine g_iconst (v := 1) 98 rfl dX9_envoy_97 (by decide) ?_
      refine gn_iand 99 rfl dX9_envoy_98 ?_
      refine g_iret .int dX9_envoy_99 rfl (rfl) ?_
      exact ⟨rfl, rfl⟩
    · refine g_aload_n0 1 rfl dX9_envoy_0 ?_
      refine g_iconst (v := 0) 2 rfl dX9_envoy_1 (by decide) ?_
      refine gp_Model_thrown 5 rfl fl_RX9_53 dX9_envoy_2 ?_
      rw [thr0 ht]
      refine g_aload_n0 6 rfl dX9_envoy_5 ?_
      refine g_iload_n1 7 rfl dX9_envoy_6 ?_
      refine g_cv1i 10 rfl cw_RX9_128 dX9_envoy_7 (c_X9_noEnvoy hE ha) (by omega) (ob_22 V) (Nat.le_of_ble_eq_true rfl) ?_
      rw [h01]
      refine gn_if_eq 15 (by decide) 13 rfl dX9_envoy_10 (by omega) (fun c10 => ?_) (fun c10 => absurd rfl c10)
      refine g_iload_n2 16 rfl dX9_envoy_15 ?_
      refine g_tsw (off := 84) 100 dX9_envoy_16 (ts_d hb (by decide) (by omega)) (by decide) ?_
      refine g_bipush (v := 4294967294) 102 rfl dX9_envoy_100 (by decide) ?_
      refine g_iret .int dX9_envoy_102 rfl (rfl) ?_
      refine ⟨congrArg (fun q => some (Value.int (nI q))) ?_, rfl⟩
      grind
  · rw [show envV (h.1 22 4) (h.1 24) (h.1 28) a b = _ from if_neg hn]
    have h01 : (if a < h.1 22 4 then 0 else 1) = 1 := if_neg hn
    refine g_aload_n0 1 rfl dX9_envoy_0 ?_
    refine g_iconst (v := 0) 2 rfl dX9_envoy_1 (by decide) ?_
    refine gp_Model_thrown 5 rfl fl_RX9_53 dX9_envoy_2 ?_
    rw [thr0 ht]
    refine g_aload_n0 6 rfl dX9_envoy_5 ?_
    refine g_iload_n1 7 rfl dX9_envoy_6 ?_
    refine g_cv1i 10 rfl cw_RX9_128 dX9_envoy_7 (c_X9_noEnvoy hE ha) (by omega) (ob_22 V) (Nat.le_of_ble_eq_true rfl) ?_
    rw [h01]
    refine gn_if_eq 15 (by decide) 13 rfl dX9_envoy_10 (by omega) (fun c10 => absurd c10 (by decide)) (fun c10 => ?_)
    refine g_iconst (v := 4294967295) 14 rfl dX9_envoy_13 (by decide) ?_
    refine g_iret .int dX9_envoy_14 rfl (rfl) ?_
    exact ⟨rfl, rfl⟩
theorem c_X9_clause {a b : Nat} (ht : h.1 22 0 = 0) (hm : MI h) (ha : a < 2 ^ 32) (hb : b < 2 ^ 32) : Rti V 3 yX9_clause cX9_clause 3 (some .int) [rf V 22, .int (nI a), .int (nI b)] h (nI (clsV (h.1 22 6) (h.1 25) a b)) h := by
  obtain ⟨hE, hC, x4, x5, x7, x8, hT, -⟩ := id hm
  refine Mt_in [some (rf V 22), some (.int (nI a)), some (.int (nI b))] (own := RX9) rfl (by decide) (Nat.le_of_ble_eq_true rfl) (fun q hq => hq) ?_
  by_cases hn : a < h.1 22 6
  · rw [show clsV (h.1 22 6) (h.1 25) a b = _ from if_pos hn]
    have h01 : (if a < h.1 22 6 then 0 else 1) = 0 := if_pos hn
    by_cases hb2 : b ≤ 2
    · have h02 : (if (0 : Int64) ≤ (nI b).toInt64 ∧ (nI b).toInt64 ≤ 2 then 1 else 0) = 1 := if_pos ((in_c (n := b) (a := 0) (b := 2) (by omega) (by decide) (by decide) rfl rfl).mpr ⟨by omega, hb2⟩)
      refine g_aload_n0 1 rfl dX9_clause_0 ?_
      refine g_iconst (v := 0) 2 rfl dX9_clause_1 (by decide) ?_
      refine gp_Model_thrown 5 rfl fl_RX9_53 dX9_clause_2 ?_
      rw [thr0 ht]
      refine g_aload_n0 6 rfl dX9_clause_5 ?_
      refine g_iload_n1 7 rfl dX9_clause_6 ?_
      refine g_cv1i 10 rfl cw_RX9_132 dX9_clause_7 (c_X9_noClause hC ha) (by omega) (ob_22 V) (Nat.le_of_ble_eq_true rfl) ?_
      rw [h01]
      refine gn_if_eq 15 (by decide) 13 rfl dX9_clause_10 (by omega) (fun c10 => ?_) (fun c10 => absurd rfl c10)
      refine g_iload_n2 16 rfl dX9_clause_15 ?_
      refine g_i2l 17 rfl dX9_clause_16 ?_
      refine g_lconst (v := 0) 18 rfl dX9_clause_17 rfl ?_
      refine g_ldc2 21 rfl kl_RX9_135 dX9_clause_18 ?_
      refine g_cs3i 24 rfl cw_RX9_60 dX9_clause_21 (c_X9_in) (by omega) (Nat.le_of_ble_eq_true rfl) ?_
      rw [h02]
      refine gn_if_eq 40 (by decide) 27 rfl dX9_clause_24 (by omega) (fun c24 => absurd c24 (by decide)) (fun c24 => ?_)
      refine g_aload_n0 28 rfl dX9_clause_27 ?_
      refine gf_Model_clause 31 rfl fl_RX9_16 dX9_clause_28 ?_
      refine g_iconst (v := 3) 32 rfl dX9_clause_31 (by decide) ?_
      refine g_iload_n1 33 rfl dX9_clause_32 ?_
      refine gn_imul 34 rfl dX9_clause_33 ?_
      refine g_iload_n2 35 rfl dX9_clause_34 ?_
      refine gn_iadd 36 rfl dX9_clause_35 ?_
      refine ga_25 37 rfl (by omega) dX9_clause_36 ?_
      refine g_goto 55 (by decide) dX9_clause_37 ?_
      refine g_iret .int dX9_clause_55 rfl (rfl) ?_
      refine ⟨congrArg (fun q => some (Value.int (nI q))) ?_, rfl⟩
      rcases (show b = 0 ∨ b = 1 ∨ b = 2 by omega) with rfl | rfl | rfl <;> rfl
    · have h02 : (if (0 : Int64) ≤ (nI b).toInt64 ∧ (nI b).toInt64 ≤ 2 then 1 else 0) = 0 := if_neg (fun q => hb2 ((in_c (n := b) (a := 0) (b := 2) (by omega) (by decide) (by decide) rfl rfl).mp q).2)
      rw [if_neg (by omega), if_neg (by omega), if_neg (by omega)]
      by_cases hb3 : b = 3
      · subst hb3
        refine g_aload_n0 1 rfl dX9_clause_0 ?_
        refine g_iconst (v := 0) 2 rfl dX9_clause_1 (by decide) ?_
        refine gp_Model_thrown 5 rfl fl_RX9_53 dX9_clause_2 ?_
        rw [thr0 ht]
        refine g_aload_n0 6 rfl dX9_clause_5 ?_
        refine g_iload_n1 7 rfl dX9_clause_6 ?_
        refine g_cv1i 10 rfl cw_RX9_132 dX9_clause_7 (c_X9_noClause hC ha) (by omega) (ob_22 V) (Nat.le_of_ble_eq_true rfl) ?_
        rw [h01]
        refine gn_if_eq 15 (by decide) 13 rfl dX9_clause_10 (by omega) (fun c10 => ?_) (fun c10 => absurd rfl c10)
        refine g_iload_n2 16 rfl dX9_clause_15 ?_
        refine g_i2l 17 rfl dX9_clause_16 ?_
        refine g_lconst (v := 0) 18 rfl dX9_clause_17 rfl ?_
        refine g_ldc2 21 rfl kl_RX9_135 dX9_clause_18 ?_
        refine g_cs3i 24 rfl cw_RX9_60 dX9_clause_21 (c_X9_in) (by omega) (Nat.le_of_ble_eq_true rfl) ?_
        rw [h02]
        refine gn_if_eq 40 (by decide) 27 rfl dX9_clause_24 (by omega) (fun c24 => ?_) (fun c24 => absurd rfl c24)
        refine g_iload_n2 41 rfl dX9_clause_40 ?_
        refine g_iconst (v := 3) 42 rfl dX9_clause_41 (by decide) ?_
        refine gn_icmp_ne 53 (by decide) 45 rfl dX9_clause_42 (by omega) (by omega) (fun c42 => absurd rfl c42) (fun c42 => ?_)
        refine g_aload_n0 46 rfl dX9_clause_45 ?_
        refine g_iload_n1 47 rfl dX9_clause_46 ?_
        refine g_cv1i 50 rfl cw_RX9_137 dX9_clause_47 (c_X9_worthOf (by omega)) (by omega) (ob_22 V) (Nat.le_of_ble_eq_true rfl) ?_
        refine g_goto 55 (by decide) dX9_clause_50 ?_
        refine g_iret .int dX9_clause_55 rfl (rfl) ?_
        exact ⟨rfl, rfl⟩
      · have hne : ¬ nI b = nI 3 := by
          intro q
          have w := congrArg Int32.toInt q
          rw [nI_sg hb, nI_sg (by decide)] at w
          split at w <;> omega
        rw [if_neg hb3]
        refine g_aload_n0 1 rfl dX9_clause_0 ?_
        refine g_iconst (v := 0) 2 rfl dX9_clause_1 (by decide) ?_
        refine gp_Model_thrown 5 rfl fl_RX9_53 dX9_clause_2 ?_
        rw [thr0 ht]
        refine g_aload_n0 6 rfl dX9_clause_5 ?_
        refine g_iload_n1 7 rfl dX9_clause_6 ?_
        refine g_cv1i 10 rfl cw_RX9_132 dX9_clause_7 (c_X9_noClause hC ha) (by omega) (ob_22 V) (Nat.le_of_ble_eq_true rfl) ?_
        rw [h01]
        refine gn_if_eq 15 (by decide) 13 rfl dX9_clause_10 (by omega) (fun c10 => ?_) (fun c10 => absurd rfl c10)
        refine g_iload_n2 16 rfl dX9_clause_15 ?_
        refine g_i2l 17 rfl dX9_clause_16 ?_
        refine g_lconst (v := 0) 18 rfl dX9_clause_17 rfl ?_
        refine g_ldc2 21 rfl kl_RX9_135 dX9_clause_18 ?_
        refine g_cs3i 24 rfl cw_RX9_60 dX9_clause_21 (c_X9_in) (by omega) (Nat.le_of_ble_eq_true rfl) ?_
        rw [h02]
        refine gn_if_eq 40 (by decide) 27 rfl dX9_clause_24 (by omega) (fun c24 => ?_) (fun c24 => absurd rfl c24)
        refine g_iload_n2 41 rfl dX9_clause_40 ?_
        refine g_iconst (v := 3) 42 rfl dX9_clause_41 (by decide) ?_
        refine g_icmp_ne 53 (by decide) 45 rfl dX9_clause_42 (fun c42 => ?_) (fun c42 => absurd c42 hne)
        refine g_bipush (v := 4294967294) 55 rfl dX9_clause_53 (by decide) ?_
        refine g_iret .int dX9_clause_55 rfl (rfl) ?_
        exact ⟨rfl, rfl⟩
  · rw [show clsV (h.1 22 6) (h.1 25) a b = _ from if_neg hn]
    have h01 : (if a < h.1 22 6 then 0 else 1) = 1 := if_neg hn
    refine g_aload_n0 1 rfl dX9_clause_0 ?_
    refine g_iconst (v := 0) 2 rfl dX9_clause_1 (by decide) ?_
    refine gp_Model_thrown 5 rfl fl_RX9_53 dX9_clause_2 ?_
    rw [thr0 ht]
    refine g_aload_n0 6 rfl dX9_clause_5 ?_
    refine g_iload_n1 7 rfl dX9_clause_6 ?_
    refine g_cv1i 10 rfl cw_RX9_132 dX9_clause_7 (c_X9_noClause hC ha) (by omega) (ob_22 V) (Nat.le_of_ble_eq_true rfl) ?_
    rw [h01]
    refine gn_if_eq 15 (by decide) 13 rfl dX9_clause_10 (by omega) (fun c10 => absurd c10 (by decide)) (fun c10 => ?_)
    refine g_iconst (v := 4294967295) 14 rfl dX9_clause_13 (by decide) ?_
    refine g_iret .int dX9_clause_14 rfl (rfl) ?_
    exact ⟨rfl, rfl⟩
theorem c_X9_bite_no (ht : h.1 22 0 = 0) (hn : h.1 28 6 = 0) : Rti V 4 yX9_bite cX9_bite 1 (some .int) [rf V 22] h (nI 4294967293) h := by
  refine Mt_in [some (rf V 22)] (own := RX9) rfl (by decide) (Nat.le_of_ble_eq_true rfl) (fun q hq => hq) ?_
  refine g_aload_n0 1 rfl dX9_bite_0 ?_
  refine g_iconst (v := 0) 2 rfl dX9_bite_1 (by decide) ?_
  refine gp_Model_thrown 5 rfl fl_RX9_53 dX9_bite_2 ?_
  rw [thr0 ht]
  refine g_aload_n0 6 rfl dX9_bite_5 ?_
  refine gf_Model_page 9 rfl fl_RX9_25 dX9_bite_6 ?_
  refine g_bipush (v := 6) 11 rfl dX9_bite_9 (by decide) ?_
  refine ga_28 12 rfl (by omega) dX9_bite_11 ?_
  refine gn_if_ne 18 (by decide) 15 rfl dX9_bite_12 (by omega) (fun c12 => absurd hn c12) (fun c12 => ?_)
  refine g_bipush (v := 4294967293) 17 rfl dX9_bite_15 (by decide) ?_
  refine g_iret .int dX9_bite_17 rfl (rfl) ?_
  exact ⟨rfl, rfl⟩
theorem c_X9_bite_ok (ht : h.1 22 0 = 0) (hm : MI h) (ha : h.1 22 17 ≤ 14) (hn : ¬ h.1 28 6 = 0) : Rti V 4 yX9_bite cX9_bite 1 (some .int) [rf V 22] h (nI (bite (h.1 24) (h.1 22 4) (h.1 28) 6)) (sR (nteH h) 28 (bite (h.1 24) (h.1 22 4) (h.1 28))) := by
  have h6 := hm.2.2.2.2.2.2.1.2.2.1
  have hm2 := MI_nte hm
  refine Mt_in [some (rf V 22)] (own := RX9) rfl (by decide) (Nat.le_of_ble_eq_true rfl) (fun q hq => hq) ?_
  refine g_aload_n0 1 rfl dX9_bite_0 ?_
  refine g_iconst (v := 0) 2 rfl dX9_bite_1 (by decide) ?_
  refine gp_Model_thrown 5 rfl fl_RX9_53 dX9_bite_2 ?_
  rw [thr0 ht]
  refine g_aload_n0 6 rfl dX9_bite_5 ?_
  refine gf_Model_page 9 rfl fl_RX9_25 dX9_bite_6 ?_
  refine g_bipush (v := 6) 11 rfl dX9_bite_9 (by decide) ?_
  refine ga_28 12 rfl (by omega) dX9_bite_11 ?_
  refine gn_if_ne 18 (by decide) 15 rfl dX9_bite_12 (by omega) (fun c12 => ?_) (fun c12 => absurd c12 hn)
  refine g_aload_n0 19 rfl dX9_bite_18 ?_
  refine g_cv0v 22 rfl cw_RX9_141 dX9_bite_19 (c_X9_note ha) (by omega) (ob_22 V) (Nat.le_of_ble_eq_true rfl) ?_
  refine g_aload_n0 23 rfl dX9_bite_22 ?_
  refine g_aload_n0 24 rfl dX9_bite_23 ?_
  refine gf_Model_page 27 rfl fl_RX9_25 dX9_bite_24 ?_
  refine g_cv1v 30 rfl cw_RX9_144 dX9_bite_27 (c_X9_goBite_28 hm2 hm2.2.2.2.2.2.2.1) (by omega) (ob_22 V) (Nat.le_of_ble_eq_true rfl) ?_
  refine g_aload_n0 31 rfl dX9_bite_30 ?_
  refine gf_Model_page 34 rfl fl_RX9_25 dX9_bite_31 ?_
  refine g_bipush (v := 6) 36 rfl dX9_bite_34 (by decide) ?_
  refine ga_28 37 rfl (by omega) dX9_bite_36 ?_
  rw [sR_s]
  refine g_iret .int dX9_bite_37 rfl (rfl) ?_
  exact ⟨rfl, rfl⟩
theorem c_X9_say_u {a : Nat} (ht : h.1 22 0 = 0) (hm : MI h) (ha : a < 2 ^ 32) (hn : ¬ a < h.1 22 6) : Rti V 3 yX9_say cX9_say 2 (some .int) [rf V 22, .int (nI a)] h (nI 4294967295) h := by
  have h01 : (if a < h.1 22 6 then 0 else 1) = 1 := if_neg hn
  refine Mt_in [some (rf V 22), some (.int (nI a))] (own := RX9) rfl (by decide) (Nat.le_of_ble_eq_true rfl) (fun q hq => hq) ?_
  refine g_aload_n0 1 rfl dX9_say_0 ?_
  refine g_iconst (v := 0) 2 rfl dX9_say_1 (by decide) ?_
  refine gp_Model_thrown 5 rfl fl_RX9_53 dX9_say_2 ?_
  rw [thr0 ht]
  refine g_aload_n0 6 rfl dX9_say_5 ?_
  refine g_iload_n1 7 rfl dX9_say_6 ?_
  refine g_cv1i 10 rfl cw_RX9_132 dX9_say_7 (c_X9_noClause hm.2.1 ha) (by omega) (ob_22 V) (Nat.le_of_ble_eq_true rfl) ?_
  rw [h01]
  refine gn_if_eq 15 (by decide) 13 rfl dX9_say_10 (by omega) (fun c10 => absurd c10 (by decide)) (fun c10 => ?_)
  refine g_iconst (v := 4294967295) 14 rfl dX9_say_13 (by decide) ?_
  refine g_iret .int dX9_say_14 rfl (rfl) ?_
  exact ⟨rfl, rfl⟩
theorem c_X9_say_no {a : Nat} (ht : h.1 22 0 = 0) (hm : MI h) (hn : a < h.1 22 6) (hc : canB (h.1 22 6) (h.1 25) (h.1 28) a = false) : Rti V 3 yX9_say cX9_say 2 (some .int) [rf V 22, .int (nI a)] h (nI 4294967293) h := by
  have h01 : (if a < h.1 22 6 then 0 else 1) = 0 := if_pos hn
  have h5 := hm.2.1
  refine Mt_in [some (rf V 22), some (.int (nI a))] (own := RX9) rfl (by decide) (Nat.le_of_ble_eq_true rfl) (fun q hq => hq) ?_
  refine g_aload_n0 1 rfl dX9_say_0 ?_
  refine g_iconst (v := 0) 2 rfl dX9_say_1 (by decide) ?_
  refine gp_Model_thrown 5 rfl fl_RX9_53 dX9_say_2 ?_
  rw [thr0 ht]
  refine g_aload_n0 6 rfl dX9_say_5 ?_
  refine g_iload_n1 7 rfl dX9_say_6 ?_
  refine g_cv1i 10 rfl cw_RX9_132 dX9_say_7 (c_X9_noClause hm.2.1 (by omega)) (by omega) (ob_22 V) (Nat.le_of_ble_eq_true rfl) ?_
  rw [h01]
  refine gn_if_eq 15 (by decide) 13 rfl dX9_say_10 (by omega) (fun c10 => ?_) (fun c10 => absurd rfl c10)
  refine g_aload_n0 16 rfl dX9_say_15 ?_
  refine g_aload_n0 17 rfl dX9_say_16 ?_
  refine gf_Model_page 20 rfl fl_RX9_25 dX9_say_17 ?_
  refine g_iload_n1 21 rfl dX9_say_20 ?_
  refine g_cv2i 24 rfl cw_RX9_114 dX9_say_21 (c_X9_canSay_28 hm hm.2.2.2.2.2.2.1 hn) (by omega) (ob_22 V) (Nat.le_of_ble_eq_true rfl) ?_
  rw [hc]
  refine gn_if_ne 30 (by decide) 27 rfl dX9_say_24 (by decide) (fun c24 => absurd rfl c24) (fun c24 => ?_)
  refine g_bipush (v := 4294967293) 29 rfl dX9_say_27 (by decide) ?_
  refine g_iret .int dX9_say_29 rfl (rfl) ?_
  exact ⟨rfl, rfl⟩
theorem c_X9_say_ok {a : Nat} (ht : h.1 22 0 = 0) (hm : MI h) (ha : h.1 22 17 ≤ 14) (hn : a < h.1 22 6) (hc : canB (h.1 22 6) (h.1 25) (h.1 28) a = true) : Rti V 3 yX9_say cX9_say 2 (some .int) [rf V 22, .int (nI a)] h (nI (bindR (h.1 28) a 8)) (sR (nteH h) 28 (bindR (h.1 28) a)) := by
  have h01 : (if a < h.1 22 6 then 0 else 1) = 0 := if_pos hn
  have h5 := hm.2.1
  refine Mt_in [some (rf V 22), some (.int (nI a))] (own := RX9) rfl (by decide) (Nat.le_of_ble_eq_true rfl) (fun q hq => hq) ?_
  refine g_aload_n0 1 rfl dX9_say_0 ?_
  refine g_iconst (v := 0) 2 rfl dX9_say_1 (by decide) ?_
  refine gp_Model_thrown 5 rfl fl_RX9_53 dX9_say_2 ?_
  rw [thr0 ht]
  refine g_aload_n0 6 rfl dX9_say_5 ?_
  refine g_iload_n1 7 rfl dX9_say_6 ?_
  refine g_cv1i 10 rfl cw_RX9_132 dX9_say_7 (c_X9_noClause hm.2.1 (by omega)) (by omega) (ob_22 V) (Nat.le_of_ble_eq_true rfl) ?_
  rw [h01]
  refine gn_if_eq 15 (by decide) 13 rfl dX9_say_10 (by omega) (fun c10 => ?_) (fun c10 => absurd rfl c10)
  refine g_aload_n0 16 rfl dX9_say_15 ?_
  refine g_aload_n0 17 rfl dX9_say_16 ?_
  refine gf_Model_page 20 rfl fl_RX9_25 dX9_say_17 ?_
  refine g_iload_n1 21 rfl dX9_say_20 ?_
  refine g_cv2i 24 rfl cw_RX9_114 dX9_say_21 (c_X9_canSay_28 hm hm.2.2.2.2.2.2.1 hn) (by omega) (ob_22 V) (Nat.le_of_ble_eq_true rfl) ?_
  rw [hc]
  refine gn_if_ne 30 (by decide) 27 rfl dX9_say_24 (by decide) (fun c24 => ?_) (fun c24 => absurd c24 (by decide))
  refine g_aload_n0 31 rfl dX9_say_30 ?_
  refine g_cv0v 34 rfl cw_RX9_141 dX9_say_31 (c_X9_note ha) (by omega) (ob_22 V) (Nat.le_of_ble_eq_true rfl) ?_
  refine g_aload_n0 35 rfl dX9_say_34 ?_
  refine gf_Model_page 38 rfl fl_RX9_25 dX9_say_35 ?_
  refine g_bipush (v := 8) 40 rfl dX9_say_38 (by decide) ?_
  refine g_dup2 41 rfl dX9_say_40 rfl rfl ?_
  refine ga_28 42 rfl (by omega) dX9_say_41 ?_
  refine g_iconst (v := 1) 43 rfl dX9_say_42 (by decide) ?_
  refine g_iload_n1 44 rfl dX9_say_43 ?_
  refine gn_ishl 45 rfl dX9_say_44 (by omega) ?_
  refine gn_ior 46 rfl dX9_say_45 ?_
  refine gs_28 47 rfl (by omega) dX9_say_46 ?_
  refine g_aload_n0 48 rfl dX9_say_47 ?_
  refine gf_Model_page 51 rfl fl_RX9_25 dX9_say_48 ?_
  refine g_bipush (v := 8) 53 rfl dX9_say_51 (by decide) ?_
  refine ga_28 54 rfl (by omega) dX9_say_53 ?_
  rw [sR_s]
  refine g_iret .int dX9_say_54 rfl (rfl) ?_
  exact ⟨rfl, rfl⟩
theorem c_X9_spice_no (ht : h.1 22 0 = 0) (hn : h.1 28 1 = 0) : Rti V 2 yX9_spice cX9_spice 1 (some .int) [rf V 22] h (nI 4294967293) h := by
  refine Mt_in [some (rf V 22)] (own := RX9) rfl (by decide) (Nat.le_of_ble_eq_true rfl) (fun q hq => hq) ?_
  refine g_aload_n0 1 rfl dX9_spice_0 ?_
  refine g_iconst (v := 0) 2 rfl dX9_spice_1 (by decide) ?_
  refine gp_Model_thrown 5 rfl fl_RX9_53 dX9_spice_2 ?_
  rw [thr0 ht]
  refine g_aload_n0 6 rfl dX9_spice_5 ?_
  refine gf_Model_page 9 rfl fl_RX9_25 dX9_spice_6 ?_
  refine g_iconst (v := 1) 10 rfl dX9_spice_9 (by decide) ?_
  refine ga_28 11 rfl (by omega) dX9_spice_10 ?_
  refine gn_if_ne 17 (by decide) 14 rfl dX9_spice_11 (by omega) (fun c11 => absurd hn c11) (fun c11 => ?_)
  refine g_bipush (v := 4294967293) 16 rfl dX9_spice_14 (by decide) ?_
  refine g_iret .int dX9_spice_16 rfl (rfl) ?_
  exact ⟨rfl, rfl⟩
theorem c_X9_spice_ok (ht : h.1 22 0 = 0) (hm : MI h) (hs : h.1 28 1 ≤ 9) (ha : h.1 22 17 ≤ 14) (hn : ¬ h.1 28 1 = 0) : Rti V 2 yX9_spice cX9_spice 1 (some .int) [rf V 22] h (nI (seedR (h.1 28) 0)) (sR (nteH h) 28 (seedR (h.1 28))) := by
  refine Mt_in [some (rf V 22)] (own := RX9) rfl (by decide) (Nat.le_of_ble_eq_true rfl) (fun q hq => hq) ?_
  refine g_aload_n0 1 rfl dX9_spice_0 ?_
  refine g_iconst (v := 0) 2 rfl dX9_spice_1 (by decide) ?_
  refine gp_Model_thrown 5 rfl fl_RX9_53 dX9_spice_2 ?_
  rw [thr0 ht]
  refine g_aload_n0 6 rfl dX9_spice_5 ?_
  refine gf_Model_page 9 rfl fl_RX9_25 dX9_spice_6 ?_
  refine g_iconst (v := 1) 10 rfl dX9_spice_9 (by decide) ?_
  refine ga_28 11 rfl (by omega) dX9_spice_10 ?_
  refine gn_if_ne 17 (by decide) 14 rfl dX9_spice_11 (by omega) (fun c11 => ?_) (fun c11 => absurd c11 hn)
  refine g_aload_n0 18 rfl dX9_spice_17 ?_
  refine g_cv0v 21 rfl cw_RX9_141 dX9_spice_18 (c_X9_note ha) (by omega) (ob_22 V) (Nat.le_of_ble_eq_true rfl) ?_
  refine g_aload_n0 22 rfl dX9_spice_21 ?_
  refine gf_Model_page 25 rfl fl_RX9_25 dX9_spice_22 ?_
  refine g_cs1v 28 rfl cw_RX9_148 dX9_spice_25 (c_X9_goSpice_28 (MI_nte hm).2.2.2.2.2.2.1) (by omega) (Nat.le_of_ble_eq_true rfl) ?_
  refine g_aload_n0 29 rfl dX9_spice_28 ?_
  refine gf_Model_page 32 rfl fl_RX9_25 dX9_spice_29 ?_
  refine g_iconst (v := 0) 33 rfl dX9_spice_32 (by decide) ?_
  refine ga_28 34 rfl (by omega) dX9_spice_33 ?_
  rw [sR_s]
  refine g_iret .int dX9_spice_34 rfl (rfl) ?_
  exact ⟨rfl, rfl⟩
theorem c_X9_bread_u {a : Nat} (ht : h.1 22 0 = 0) (hm : MI h) (ha : a < 2 ^ 32) (hn : ¬ a < h.1 22 4) : Rti V 3 yX9_bread cX9_bread 2 (some .int) [rf V 22, .int (nI a)] h (nI 4294967295) h := by
  have h01 : (if a < h.1 22 4 then 0 else 1) = 1 := if_neg hn
  refine Mt_in [some (rf V 22), some (.int (nI a))] (own := RX9) rfl (by decide) (Nat.le_of_ble_eq_true rfl) (fun q hq => hq) ?_
  refine g_aload_n0 1 rfl dX9_bread_0 ?_
  refine g_iconst (v := 0) 2 rfl dX9_bread_1 (by decide) ?_
  refine gp_Model_thrown 5 rfl fl_RX9_53 dX9_bread_2 ?_
  rw [thr0 ht]
  refine g_aload_n0 6 rfl dX9_bread_5 ?_
  refine g_iload_n1 7 rfl dX9_bread_6 ?_
  refine g_cv1i 10 rfl cw_RX9_128 dX9_bread_7 (c_X9_noEnvoy hm.1 ha) (by omega) (ob_22 V) (Nat.le_of_ble_eq_true rfl) ?_
  rw [h01]
  refine gn_if_eq 15 (by decide) 13 rfl dX9_bread_10 (by omega) (fun c10 => absurd c10 (by decide)) (fun c10 => ?_)
  refine g_iconst (v := 4294967295) 14 rfl dX9_bread_13 (by decide) ?_
  refine g_iret .int dX9_bread_14 rfl (rfl) ?_
  exact ⟨rfl, rfl⟩
theorem c_X9_bread_no {a : Nat} (ht : h.1 22 0 = 0) (hm : MI h) (hn : a < h.1 22 4) (hc : bt (h.1 28 6) a = 0 ∨ ¬ bt (h.1 28 7) a = 0) : Rti V 3 yX9_bread cX9_bread 2 (some .int) [rf V 22, .int (nI a)] h (nI 4294967293) h := by
  have h01 : (if a < h.1 22 4 then 0 else 1) = 0 := if_pos hn
  have h4 := hm.1
  have h6 := hm.2.2.2.2.2.2.1.2.2.1
  have h7 := hm.2.2.2.2.2.2.1.2.2.2.1
  refine Mt_in [some (rf V 22), some (.int (nI a))] (own := RX9) rfl (by decide) (Nat.le_of_ble_eq_true rfl) (fun q hq => hq) ?_
  refine g_aload_n0 1 rfl dX9_bread_0 ?_
  refine g_iconst (v := 0) 2 rfl dX9_bread_1 (by decide) ?_
  refine gp_Model_thrown 5 rfl fl_RX9_53 dX9_bread_2 ?_
  rw [thr0 ht]
  refine g_aload_n0 6 rfl dX9_bread_5 ?_
  refine g_iload_n1 7 rfl dX9_bread_6 ?_
  refine g_cv1i 10 rfl cw_RX9_128 dX9_bread_7 (c_X9_noEnvoy hm.1 (by omega)) (by omega) (ob_22 V) (Nat.le_of_ble_eq_true rfl) ?_
  rw [h01]
  refine gn_if_eq 15 (by decide) 13 rfl dX9_bread_10 (by omega) (fun c10 => ?_) (fun c10 => absurd rfl c10)
  refine g_aload_n0 16 rfl dX9_bread_15 ?_
  refine gf_Model_page 19 rfl fl_RX9_25 dX9_bread_16 ?_
  refine g_bipush (v := 6) 21 rfl dX9_bread_19 (by decide) ?_
  refine ga_28 22 rfl (by omega) dX9_bread_21 ?_
  refine g_iload_n1 23 rfl dX9_bread_22 ?_
  refine g_cs2i 26 rfl cw_RX9_110 dX9_bread_23 (c_X9_has (by omega) (by omega)) (by omega) (Nat.le_of_ble_eq_true rfl) ?_
  refine gn_if_eq 43 (by decide) 29 rfl dX9_bread_26 (Nat.lt_of_lt_of_le (bt_lt _ _) (by omega)) (fun c26 => ?_) (fun c26 => ?_)
  · refine g_bipush (v := 4294967293) 45 rfl dX9_bread_43 (by decide) ?_
    refine g_iret .int dX9_bread_45 rfl (rfl) ?_
    exact ⟨rfl, rfl⟩
  · refine g_aload_n0 30 rfl dX9_bread_29 ?_
    refine gf_Model_page 33 rfl fl_RX9_25 dX9_bread_30 ?_
    refine g_bipush (v := 7) 35 rfl dX9_bread_33 (by decide) ?_
    refine ga_28 36 rfl (by omega) dX9_bread_35 ?_
    refine g_iload_n1 37 rfl dX9_bread_36 ?_
    refine g_cs2i 40 rfl cw_RX9_110 dX9_bread_37 (c_X9_has (by omega) (by omega)) (by omega) (Nat.le_of_ble_eq_true rfl) ?_
    refine gn_if_eq 46 (by decide) 43 rfl dX9_bread_40 (Nat.lt_of_lt_of_le (bt_lt _ _) (by omega)) (fun c40 => absurd c40 (by omega)) (fun c40 => ?_)
    refine g_bipush (v := 4294967293) 45 rfl dX9_bread_43 (by decide) ?_
    refine g_iret .int dX9_bread_45 rfl (rfl) ?_
    exact ⟨rfl, rfl⟩
theorem c_X9_bread_ok {a : Nat} (ht : h.1 22 0 = 0) (hm : MI h) (ha : h.1 22 17 ≤ 14) (hn : a < h.1 22 4) (hc : ¬ bt (h.1 28 6) a = 0) (hc2 : bt (h.1 28 7) a = 0) : Rti V 3 yX9_bread cX9_bread 2 (some .int) [rf V 22, .int (nI a)] h (nI (breadR (h.1 28) a (2 + a))) (sR (nteH h) 28 (breadR (h.1 28) a)) := by
  have h01 : (if a < h.1 22 4 then 0 else 1) = 0 := if_pos hn
  have h4 := hm.1
  have hT := hm.2.2.2.2.2.2.1
  have h6 := hT.2.2.1
  have h7 := hT.2.2.2.1
  have h27 := (hT.2.2.2.2.2.1 a (by omega)).1
  have e28 : (nteH h).1 28 = h.1 28 := rfl
  have J : ∀ z, z = h.1 28 (2 + a) - 3 → G V T0 3 RX9 cX9_bread 2 (some .int) 83 [some (rf V 22), some (.int (nI a))] [.int (nI z), .int (nI (2 + a)), rf V 28] (nteH h) (fun v g => v = some (.int (nI (breadR (h.1 28) a (2 + a)))) ∧ g = sR (nteH h) 28 (breadR (h.1 28) a)) := by
    intro z hz
    refine gs_28 84 rfl (by omega) dX9_bread_83 ?_
    rw [hz, e28]
    refine g_aload_n0 85 rfl dX9_bread_84 ?_
    refine gf_Model_page 88 rfl fl_RX9_25 dX9_bread_85 ?_
    refine g_bipush (v := 7) 90 rfl dX9_bread_88 (by decide) ?_
    refine g_dup2 91 rfl dX9_bread_90 rfl rfl ?_
    refine ga_28 92 rfl (by omega) dX9_bread_91 ?_
    rw [sR_s, up_n (by omega)]
    refine g_iconst (v := 1) 93 rfl dX9_bread_92 (by decide) ?_
    refine g_iload_n1 94 rfl dX9_bread_93 ?_
    refine gn_ishl 95 rfl dX9_bread_94 (by omega) ?_
    refine gn_ior 96 rfl dX9_bread_95 ?_
    refine gs_28 97 rfl (by omega) dX9_bread_96 ?_
    rw [sR_s, sR_sR]
    refine g_aload_n0 98 rfl dX9_bread_97 ?_
    refine gf_Model_page 101 rfl fl_RX9_25 dX9_bread_98 ?_
    refine g_iconst (v := 2) 102 rfl dX9_bread_101 (by decide) ?_
    refine g_iload_n1 103 rfl dX9_bread_102 ?_
    refine gn_iadd 104 rfl dX9_bread_103 ?_
    refine ga_28 105 rfl (by omega) dX9_bread_104 ?_
    rw [sR_s]
    refine g_iret .int dX9_bread_105 rfl (rfl) ?_
    exact ⟨rfl, rfl⟩
  refine Mt_in [some (rf V 22), some (.int (nI a))] (own := RX9) rfl (by decide) (Nat.le_of_ble_eq_true rfl) (fun q hq => hq) ?_
  refine g_aload_n0 1 rfl dX9_bread_0 ?_
  refine g_iconst (v := 0) 2 rfl dX9_bread_1 (by decide) ?_
  refine gp_Model_thrown 5 rfl fl_RX9_53 dX9_bread_2 ?_
  rw [thr0 ht]
  refine g_aload_n0 6 rfl dX9_bread_5 ?_
  refine g_iload_n1 7 rfl dX9_bread_6 ?_
  refine g_cv1i 10 rfl cw_RX9_128 dX9_bread_7 (c_X9_noEnvoy hm.1 (by omega)) (by omega) (ob_22 V) (Nat.le_of_ble_eq_true rfl) ?_
  rw [h01]
  refine gn_if_eq 15 (by decide) 13 rfl dX9_bread_10 (by omega) (fun c10 => ?_) (fun c10 => absurd rfl c10)
  refine g_aload_n0 16 rfl dX9_bread_15 ?_
  refine gf_Model_page 19 rfl fl_RX9_25 dX9_bread_16 ?_
  refine g_bipush (v := 6) 21 rfl dX9_bread_19 (by decide) ?_
  refine ga_28 22 rfl (by omega) dX9_bread_21 ?_
  refine g_iload_n1 23 rfl dX9_bread_22 ?_
  refine g_cs2i 26 rfl cw_RX9_110 dX9_bread_23 (c_X9_has (by omega) (by omega)) (by omega) (Nat.le_of_ble_eq_true rfl) ?_
  refine gn_if_eq 43 (by decide) 29 rfl dX9_bread_26 (Nat.lt_of_lt_of_le (bt_lt _ _) (by omega)) (fun c26 => absurd c26 hc) (fun c26 => ?_)
  refine g_aload_n0 30 rfl dX9_bread_29 ?_
  refine gf_Model_page 33 rfl fl_RX9_25 dX9_bread_30 ?_
  refine g_bipush (v := 7) 35 rfl dX9_bread_33 (by decide) ?_
  refine ga_28 36 rfl (by omega) dX9_bread_35 ?_
  refine g_iload_n1 37 rfl dX9_bread_36 ?_
  refine g_cs2i 40 rfl cw_RX9_110 dX9_bread_37 (c_X9_has (by omega) (by omega)) (by omega) (Nat.le_of_ble_eq_true rfl) ?_
  refine gn_if_eq 46 (by decide) 43 rfl dX9_bread_40 (Nat.lt_of_lt_of_le (bt_lt _ _) (by omega)) (fun c40 => ?_) (fun c40 => absurd hc2 c40)
  refine g_aload_n0 47 rfl dX9_bread_46 ?_
  refine g_cv0v 50 rfl cw_RX9_141 dX9_bread_47 (c_X9_note ha) (by omega) (ob_22 V) (Nat.le_of_ble_eq_true rfl) ?_
  refine g_aload_n0 51 rfl dX9_bread_50 ?_
  refine gf_Model_page 54 rfl fl_RX9_25 dX9_bread_51 ?_
  refine g_iconst (v := 2) 55 rfl dX9_bread_54 (by decide) ?_
  refine g_iload_n1 56 rfl dX9_bread_55 ?_
  refine gn_iadd 57 rfl dX9_bread_56 ?_
  refine g_aload_n0 58 rfl dX9_bread_57 ?_
  refine gf_Model_page 61 rfl fl_RX9_25 dX9_bread_58 ?_
  refine g_iconst (v := 2) 62 rfl dX9_bread_61 (by decide) ?_
  refine g_iload_n1 63 rfl dX9_bread_62 ?_
  refine gn_iadd 64 rfl dX9_bread_63 ?_
  refine ga_28 65 rfl (by omega) dX9_bread_64 ?_
  rw [e28]
  refine g_iconst (v := 3) 66 rfl dX9_bread_65 (by decide) ?_
  refine gn_icmp_ge 73 (by decide) 69 rfl dX9_bread_66 (by omega) (by omega) (fun c66 => ?_) (fun c66 => ?_)
  · refine g_aload_n0 74 rfl dX9_bread_73 ?_
    refine gf_Model_page 77 rfl fl_RX9_25 dX9_bread_74 ?_
    refine g_iconst (v := 2) 78 rfl dX9_bread_77 (by decide) ?_
    refine g_iload_n1 79 rfl dX9_bread_78 ?_
    refine gn_iadd 80 rfl dX9_bread_79 ?_
    refine ga_28 81 rfl (by omega) dX9_bread_80 ?_
    rw [e28]
    refine g_iconst (v := 3) 82 rfl dX9_bread_81 (by decide) ?_
    refine gn_isub 83 rfl dX9_bread_82 (by omega) ?_
    first | exact J _ rfl | exact J 0 (by omega)
  · refine g_iconst (v := 0) 70 rfl dX9_bread_69 (by decide) ?_
    refine g_goto 83 (by decide) dX9_bread_70 ?_
    first | exact J _ rfl | exact J 0 (by omega)
theorem c_X9_undo_no (ht : h.1 22 0 = 0) (hn : h.1 22 17 = 0) : Rti V 1 yX9_undo cX9_undo 2 (some .int) [rf V 22] h (nI 4294967293) h := by
  refine Mt_in [some (rf V 22), none] (own := RX9) rfl (by decide) (Nat.le_of_ble_eq_true rfl) (fun q hq => hq) ?_
  refine g_aload_n0 1 rfl dX9_undo_0 ?_
  refine g_iconst (v := 0) 2 rfl dX9_undo_1 (by decide) ?_
  refine gp_Model_thrown 5 rfl fl_RX9_53 dX9_undo_2 ?_
  rw [thr0 ht]
  refine g_aload_n0 6 rfl dX9_undo_5 ?_
  refine gf_Model_acts 9 rfl fl_RX9_103 dX9_undo_6 ?_
  refine gn_if_ne 15 (by decide) 12 rfl dX9_undo_9 (by omega) (fun c9 => absurd hn c9) (fun c9 => ?_)
  refine g_bipush (v := 4294967293) 14 rfl dX9_undo_12 (by decide) ?_
  refine g_iret .int dX9_undo_14 rfl (rfl) ?_
  exact ⟨rfl, rfl⟩
def undR (f P : Nat → Nat) (a : Nat) : Nat → Nat := fun j => if j < 10 then f (10 * a + j) else P j
theorem c_X9_undo_ok (ht : h.1 22 0 = 0) (ha : h.1 22 17 ≤ 14) (hn : ¬ h.1 22 17 = 0) : Rti V 1 yX9_undo cX9_undo 2 (some .int) [rf V 22] h (nI (h.1 22 17 - 1)) (sR (sR h 28 (undR (h.1 30) (h.1 28) (h.1 22 17 - 1))) 22 (up (h.1 22) 17 (h.1 22 17 - 1))) := by
  refine Mt_in [some (rf V 22), none] (own := RX9) rfl (by decide) (Nat.le_of_ble_eq_true rfl) (fun q hq => hq) ?_
  refine g_aload_n0 1 rfl dX9_undo_0 ?_
  refine g_iconst (v := 0) 2 rfl dX9_undo_1 (by decide) ?_
  refine gp_Model_thrown 5 rfl fl_RX9_53 dX9_undo_2 ?_
  rw [thr0 ht]
  refine g_aload_n0 6 rfl dX9_undo_5 ?_
  refine gf_Model_acts 9 rfl fl_RX9_103 dX9_undo_6 ?_
  refine gn_if_ne 15 (by decide) 12 rfl dX9_undo_9 (by omega) (fun c9 => ?_) (fun c9 => absurd c9 hn)
  refine g_aload_n0 16 rfl dX9_undo_15 ?_
  refine g_dup 17 rfl dX9_undo_16 rfl ?_
  refine gf_Model_acts 20 rfl fl_RX9_103 dX9_undo_17 ?_
  refine g_iconst (v := 1) 21 rfl dX9_undo_20 (by decide) ?_
  refine gn_isub 22 rfl dX9_undo_21 (by omega) ?_
  refine gp_Model_acts 25 rfl fl_RX9_103 dX9_undo_22 ?_
  refine g_iconst (v := 0) 26 rfl dX9_undo_25 (by decide) ?_
  refine g_istore_n1 27 rfl dX9_undo_26 (by decide) rfl ?_
  skip
  refine g_heap (show sR h 22 (up (h.1 22) 17 (h.1 22 17 - 1)) = sR (sR h 28 (fun j => if j < 0 then h.1 30 (10 * (h.1 22 17 - 1) + j) else h.1 28 j)) 22 (up (h.1 22) 17 (h.1 22 17 - 1)) from by rw [show (fun j => if j < 0 then h.1 30 (10 * (h.1 22 17 - 1) + j) else h.1 28 j) = h.1 28 from funext fun o => if_neg (by omega), sR_same]) ?_
  refine loop_up (P := fun k => G V T0 1 RX9 cX9_undo 2 (some .int) 27 [some (rf V 22), some (.int (nI k))] [] (sR (sR h 28 (fun j => if j < k then h.1 30 (10 * (h.1 22 17 - 1) + j) else h.1 28 j)) 22 (up (h.1 22) 17 (h.1 22 17 - 1))) _) (n := 10) ?_ (fun k hk ih => ?_) 0 (Nat.zero_le _)
  · refine g_iload_n1 28 rfl dX9_undo_27 ?_
    refine g_bipush (v := 10) 30 rfl dX9_undo_28 (by decide) ?_
    refine gn_icmp_ge 59 (by decide) 33 rfl dX9_undo_30 (by omega) (by omega) (fun c30 => ?_) (fun c30 => absurd c30 (by omega))
    refine g_aload_n0 60 rfl dX9_undo_59 ?_
    refine gf_Model_acts 63 rfl fl_RX9_103 dX9_undo_60 ?_
    rw [sR_s, up_s]
    refine g_iret .int dX9_undo_63 rfl (rfl) ?_
    exact ⟨rfl, rfl⟩
  · refine g_iload_n1 28 rfl dX9_undo_27 ?_
    refine g_bipush (v := 10) 30 rfl dX9_undo_28 (by decide) ?_
    refine gn_icmp_ge 59 (by decide) 33 rfl dX9_undo_30 (by omega) (by omega) (fun c30 => absurd c30 (by omega)) (fun c30 => ?_)
    refine g_aload_n0 34 rfl dX9_undo_33 ?_
    refine gf_Model_page 37 rfl fl_RX9_25 dX9_undo_34 ?_
    refine g_iload_n1 38 rfl dX9_undo_37 ?_
    refine g_aload_n0 39 rfl dX9_undo_38 ?_
    refine gf_Model_book 42 rfl fl_RX9_31 dX9_undo_39 ?_
    refine g_bipush (v := 10) 44 rfl dX9_undo_42 (by decide) ?_
    refine g_aload_n0 45 rfl dX9_undo_44 ?_
    refine gf_Model_acts 48 rfl fl_RX9_103 dX9_undo_45 ?_
    rw [sR_s, up_s]
    refine gn_imul 49 rfl dX9_undo_48 ?_
    refine g_iload_n1 50 rfl dX9_undo_49 ?_
    refine gn_iadd 51 rfl dX9_undo_50 ?_
    refine ga_30 52 rfl (by omega) dX9_undo_51 ?_
    refine gs_28 53 rfl (by omega) dX9_undo_52 ?_
    refine gn_iinc1 1 56 rfl dX9_undo_53 rfl (by decide) rfl ?_
    refine g_goto 27 (by decide) dX9_undo_56 ?_
    rw [sR_n (show 28 ≠ 22 by decide), sR_s, sR_c _ (show 22 ≠ 28 by decide), sR_sR]
    refine g_heap (congrArg (fun z => sR (sR h 28 z) 22 (up (h.1 22) 17 (h.1 22 17 - 1))) (funext fun o => ?_)) ih
    simp only [up]
    by_cases q : o = k
    · rw [if_pos q, if_pos (by omega), q]; rfl
    · rw [if_neg q]
      by_cases w : o < k
      · rw [if_pos w, if_pos (by omega)]
      · rw [if_neg w, if_neg (by omega)]
theorem c_X9_till {b : Nat} (hm : MI h) (hb : b < 2 ^ 31) : Rti V 4 yX9_till cX9_till 3 (some .int) [rf V 22, .int (nI b)] h (nI (tillV (h.1 24) (h.1 22 4) (h.1 28) b)) (sR h 29 (btk (h.1 24) (h.1 22 4) (h.1 28) (tillM (h.1 24) (h.1 22 4) (h.1 28) b))) := by
  obtain ⟨hE, hC, x4, x5, x7, x8, hT, -⟩ := id hm
  refine Mt_in [some (rf V 22), some (.int (nI b)), none] (own := RX9) rfl (by decide) (Nat.le_of_ble_eq_true rfl) (fun q hq => hq) ?_
  refine g_aload_n0 1 rfl dX9_till_0 ?_
  refine g_cv0v 4 rfl cw_RX9_151 dX9_till_1 (c_X9_begin hm) (by omega) (ob_22 V) (Nat.le_of_ble_eq_true rfl) ?_
  refine g_iconst (v := 0) 5 rfl dX9_till_4 (by decide) ?_
  refine g_istore_n2 6 rfl dX9_till_5 (by decide) rfl ?_
  skip
  refine loop_up (P := fun k => tillS (h.1 24) (h.1 22 4) (h.1 28) b k = none → G V T0 4 RX9 cX9_till 3 (some .int) 6 [some (rf V 22), some (.int (nI b)), some (.int (nI k))] [] (sR h 29 (btk (h.1 24) (h.1 22 4) (h.1 28) k)) _) (n := 60) ?_ (fun k hk ih => ?_) 0 (Nat.zero_le _) rfl
  · intro hf
    have hN := TI_btk hT x4 hE 60
    have h6 := hN.2.2.1
    have hle : btk (h.1 24) (h.1 22 4) (h.1 28) 60 6 &&& b ≤ btk (h.1 24) (h.1 22 4) (h.1 28) 60 6 := Nat.and_le_left
    refine g_iload_n2 7 rfl dX9_till_6 ?_
    refine g_bipush (v := 60) 9 rfl dX9_till_7 (by decide) ?_
    refine gn_icmp_ge 38 (by decide) 12 rfl dX9_till_9 (by omega) (by omega) (fun c9 => ?_) (fun c9 => absurd c9 (by omega))
    refine g_aload_n0 39 rfl dX9_till_38 ?_
    refine gf_Model_trial 42 rfl fl_RX9_28 dX9_till_39 ?_
    refine g_bipush (v := 6) 44 rfl dX9_till_42 (by decide) ?_
    refine ga_29 45 rfl (by omega) dX9_till_44 ?_
    rw [sR_s]
    refine g_iload_n1 46 rfl dX9_till_45 ?_
    refine gn_iand 47 rfl dX9_till_46 ?_
    refine gn_if_eq 55 (by decide) 50 rfl dX9_till_47 (by omega) (fun c47 => ?_) (fun c47 => ?_)
    · refine g_iload_n2 56 rfl dX9_till_55 ?_
      refine g_iret .int dX9_till_56 rfl (rfl) ?_
      first
      | (have q : tillS (h.1 24) (h.1 22 4) (h.1 28) b 61 = some 60 := (tillS_n hf).trans (if_pos c47)
         exact ⟨by unfold tillV; rw [q], by unfold tillM; rw [q]⟩)
      | (have q : tillS (h.1 24) (h.1 22 4) (h.1 28) b 61 = none := (tillS_n hf).trans (if_neg c47)
         exact ⟨by unfold tillV; rw [q], by unfold tillM; rw [q]⟩)
    · refine g_bipush (v := 4294967287) 52 rfl dX9_till_50 (by decide) ?_
      refine g_goto 56 (by decide) dX9_till_52 ?_
      refine g_iret .int dX9_till_56 rfl (rfl) ?_
      first
      | (have q : tillS (h.1 24) (h.1 22 4) (h.1 28) b 61 = some 60 := (tillS_n hf).trans (if_pos c47)
         exact ⟨by unfold tillV; rw [q], by unfold tillM; rw [q]⟩)
      | (have q : tillS (h.1 24) (h.1 22 4) (h.1 28) b 61 = none := (tillS_n hf).trans (if_neg c47)
         exact ⟨by unfold tillV; rw [q], by unfold tillM; rw [q]⟩)
  · intro hf
    have hN := TI_btk hT x4 hE k
    have h6 := hN.2.2.1
    have hle : btk (h.1 24) (h.1 22 4) (h.1 28) k 6 &&& b ≤ btk (h.1 24) (h.1 22 4) (h.1 28) k 6 := Nat.and_le_left
    have hm2 := MI_29 hm hN
    refine g_iload_n2 7 rfl dX9_till_6 ?_
    refine g_bipush (v := 60) 9 rfl dX9_till_7 (by decide) ?_
    refine gn_icmp_ge 38 (by decide) 12 rfl dX9_till_9 (by omega) (by omega) (fun c9 => absurd c9 (by omega)) (fun c9 => ?_)
    refine g_aload_n0 13 rfl dX9_till_12 ?_
    refine gf_Model_trial 16 rfl fl_RX9_28 dX9_till_13 ?_
    refine g_bipush (v := 6) 18 rfl dX9_till_16 (by decide) ?_
    refine ga_29 19 rfl (by omega) dX9_till_18 ?_
    rw [sR_s]
    refine g_iload_n1 20 rfl dX9_till_19 ?_
    refine gn_iand 21 rfl dX9_till_20 ?_
    refine gn_if_eq 38 (by decide) 24 rfl dX9_till_21 (by omega) (fun c21 => ?_) (fun c21 => ?_)
    · refine g_aload_n0 39 rfl dX9_till_38 ?_
      refine gf_Model_trial 42 rfl fl_RX9_28 dX9_till_39 ?_
      refine g_bipush (v := 6) 44 rfl dX9_till_42 (by decide) ?_
      refine ga_29 45 rfl (by omega) dX9_till_44 ?_
      rw [sR_s]
      refine g_iload_n1 46 rfl dX9_till_45 ?_
      refine gn_iand 47 rfl dX9_till_46 ?_
      refine gn_if_eq 55 (by decide) 50 rfl dX9_till_47 (by omega) (fun c47 => ?_) (fun c47 => absurd c21 c47)
      refine g_iload_n2 56 rfl dX9_till_55 ?_
      refine g_iret .int dX9_till_56 rfl (rfl) ?_
      have q : tillS (h.1 24) (h.1 22 4) (h.1 28) b (k + 1) = some k := by simp only [tillS, hf]; exact if_pos c21
      have q := tillS_mono q 61 (by omega)
      exact ⟨by unfold tillV; rw [q], by unfold tillM; rw [q]⟩
    · refine g_aload_n0 25 rfl dX9_till_24 ?_
      refine g_aload_n0 26 rfl dX9_till_25 ?_
      refine gf_Model_trial 29 rfl fl_RX9_28 dX9_till_26 ?_
      refine g_cv1v 32 rfl cw_RX9_144 dX9_till_29 (c_X9_goBite_29 hm2 hm2.2.2.2.2.2.2.2) (by omega) (ob_22 V) (Nat.le_of_ble_eq_true rfl) ?_
      refine gn_iinc2 1 35 rfl dX9_till_32 rfl (by decide) rfl ?_
      refine g_goto 6 (by decide) dX9_till_35 ?_
      have q : tillS (h.1 24) (h.1 22 4) (h.1 28) b (k + 1) = none := by simp only [tillS, hf]; exact if_neg c21
      rw [sR_sR, sR_s]
      exact ih q
theorem c_X9_lasts (ht : h.1 22 0 = 0) (hm : MI h) : Rti V 5 yX9_lasts cX9_lasts 1 (some .int) [rf V 22] h (nI (tillV (h.1 24) (h.1 22 4) (h.1 28) 15)) (sR h 29 (btk (h.1 24) (h.1 22 4) (h.1 28) (tillM (h.1 24) (h.1 22 4) (h.1 28) 15))) := by
  refine Mt_in [some (rf V 22)] (own := RX9) rfl (by decide) (Nat.le_of_ble_eq_true rfl) (fun q hq => hq) ?_
  refine g_aload_n0 1 rfl dX9_lasts_0 ?_
  refine g_iconst (v := 0) 2 rfl dX9_lasts_1 (by decide) ?_
  refine gp_Model_thrown 5 rfl fl_RX9_53 dX9_lasts_2 ?_
  rw [thr0 ht]
  refine g_aload_n0 6 rfl dX9_lasts_5 ?_
  refine g_bipush (v := 15) 8 rfl dX9_lasts_6 (by decide) ?_
  refine g_cv1i 11 rfl cw_RX9_154 dX9_lasts_8 (c_X9_till hm (by decide)) (by omega) (ob_22 V) (Nat.le_of_ble_eq_true rfl) ?_
  refine g_iret .int dX9_lasts_11 rfl (rfl) ?_
  exact ⟨rfl, rfl⟩
theorem c_X9_bears_u {a : Nat} (ht : h.1 22 0 = 0) (hm : MI h) (ha : a < 2 ^ 32) (hn : ¬ a < h.1 22 4) : Rti V 5 yX9_bears cX9_bears 2 (some .int) [rf V 22, .int (nI a)] h (nI 4294967295) h := by
  have h01 : (if a < h.1 22 4 then 0 else 1) = 1 := if_neg hn
  refine Mt_in [some (rf V 22), some (.int (nI a))] (own := RX9) rfl (by decide) (Nat.le_of_ble_eq_true rfl) (fun q hq => hq) ?_
  refine g_aload_n0 1 rfl dX9_bears_0 ?_
  refine g_iconst (v := 0) 2 rfl dX9_bears_1 (by decide) ?_
  refine gp_Model_thrown 5 rfl fl_RX9_53 dX9_bears_2 ?_
  rw [thr0 ht]
  refine g_aload_n0 6 rfl dX9_bears_5 ?_
  refine g_iload_n1 7 rfl dX9_bears_6 ?_
  refine g_cv1i 10 rfl cw_RX9_128 dX9_bears_7 (c_X9_noEnvoy hm.1 ha) (by omega) (ob_22 V) (Nat.le_of_ble_eq_true rfl) ?_
  rw [h01]
  refine gn_if_eq 15 (by decide) 13 rfl dX9_bears_10 (by omega) (fun c10 => absurd c10 (by decide)) (fun c10 => ?_)
  refine g_iconst (v := 4294967295) 14 rfl dX9_bears_13 (by decide) ?_
  refine g_iret .int dX9_bears_14 rfl (rfl) ?_
  exact ⟨rfl, rfl⟩
theorem c_X9_bears_no {a : Nat} (ht : h.1 22 0 = 0) (hm : MI h) (hn : a < h.1 22 4) (hc : bt (h.1 28 6) a = 0) : Rti V 5 yX9_bears cX9_bears 2 (some .int) [rf V 22, .int (nI a)] h (nI 4294967293) h := by
  have h01 : (if a < h.1 22 4 then 0 else 1) = 0 := if_pos hn
  have h4 := hm.1
  have h6 := hm.2.2.2.2.2.2.1.2.2.1
  refine Mt_in [some (rf V 22), some (.int (nI a))] (own := RX9) rfl (by decide) (Nat.le_of_ble_eq_true rfl) (fun q hq => hq) ?_
  refine g_aload_n0 1 rfl dX9_bears_0 ?_
  refine g_iconst (v := 0) 2 rfl dX9_bears_1 (by decide) ?_
  refine gp_Model_thrown 5 rfl fl_RX9_53 dX9_bears_2 ?_
  rw [thr0 ht]
  refine g_aload_n0 6 rfl dX9_bears_5 ?_
  refine g_iload_n1 7 rfl dX9_bears_6 ?_
  refine g_cv1i 10 rfl cw_RX9_128 dX9_bears_7 (c_X9_noEnvoy hm.1 (by omega)) (by omega) (ob_22 V) (Nat.le_of_ble_eq_true rfl) ?_
  rw [h01]
  refine gn_if_eq 15 (by decide) 13 rfl dX9_bears_10 (by omega) (fun c10 => ?_) (fun c10 => absurd rfl c10)
  refine g_aload_n0 16 rfl dX9_bears_15 ?_
  refine gf_Model_page 19 rfl fl_RX9_25 dX9_bears_16 ?_
  refine g_bipush (v := 6) 21 rfl dX9_bears_19 (by decide) ?_
  refine ga_28 22 rfl (by omega) dX9_bears_21 ?_
  refine g_iload_n1 23 rfl dX9_bears_22 ?_
  refine g_cs2i 26 rfl cw_RX9_110 dX9_bears_23 (c_X9_has (by omega) (by omega)) (by omega) (Nat.le_of_ble_eq_true rfl) ?_
  refine gn_if_eq 39 (by decide) 29 rfl dX9_bears_26 (Nat.lt_of_lt_of_le (bt_lt _ _) (by omega)) (fun c26 => ?_) (fun c26 => absurd hc c26)
  refine g_bipush (v := 4294967293) 41 rfl dX9_bears_39 (by decide) ?_
  refine g_iret .int dX9_bears_41 rfl (rfl) ?_
  exact ⟨rfl, rfl⟩
theorem c_X9_bears_ok {a : Nat} (ht : h.1 22 0 = 0) (hm : MI h) (hn : a < h.1 22 4) (hc : ¬ bt (h.1 28 6) a = 0) : Rti V 5 yX9_bears cX9_bears 2 (some .int) [rf V 22, .int (nI a)] h (nI (tillV (h.1 24) (h.1 22 4) (h.1 28) (1 * 2 ^ a))) (sR h 29 (btk (h.1 24) (h.1 22 4) (h.1 28) (tillM (h.1 24) (h.1 22 4) (h.1 28) (1 * 2 ^ a)))) := by
  have h01 : (if a < h.1 22 4 then 0 else 1) = 0 := if_pos hn
  have h4 := hm.1
  have h6 := hm.2.2.2.2.2.2.1.2.2.1
  have hp : 1 * 2 ^ a < 2 ^ 31 := by rw [Nat.one_mul]; exact Nat.pow_lt_pow_right (by decide) (by omega)
  refine Mt_in [some (rf V 22), some (.int (nI a))] (own := RX9) rfl (by decide) (Nat.le_of_ble_eq_true rfl) (fun q hq => hq) ?_
  refine g_aload_n0 1 rfl dX9_bears_0 ?_
  refine g_iconst (v := 0) 2 rfl dX9_bears_1 (by decide) ?_
  refine gp_Model_thrown 5 rfl fl_RX9_53 dX9_bears_2 ?_
  rw [thr0 ht]
  refine g_aload_n0 6 rfl dX9_bears_5 ?_
  refine g_iload_n1 7 rfl dX9_bears_6 ?_
  refine g_cv1i 10 rfl cw_RX9_128 dX9_bears_7 (c_X9_noEnvoy hm.1 (by omega)) (by omega) (ob_22 V) (Nat.le_of_ble_eq_true rfl) ?_
  rw [h01]
  refine gn_if_eq 15 (by decide) 13 rfl dX9_bears_10 (by omega) (fun c10 => ?_) (fun c10 => absurd rfl c10)
  refine g_aload_n0 16 rfl dX9_bears_15 ?_
  refine gf_Model_page 19 rfl fl_RX9_25 dX9_bears_16 ?_
  refine g_bipush (v := 6) 21 rfl dX9_bears_19 (by decide) ?_
  refine ga_28 22 rfl (by omega) dX9_bears_21 ?_
  refine g_iload_n1 23 rfl dX9_bears_22 ?_
  refine g_cs2i 26 rfl cw_RX9_110 dX9_bears_23 (c_X9_has (by omega) (by omega)) (by omega) (Nat.le_of_ble_eq_true rfl) ?_
  refine gn_if_eq 39 (by decide) 29 rfl dX9_bears_26 (Nat.lt_of_lt_of_le (bt_lt _ _) (by omega)) (fun c26 => absurd c26 hc) (fun c26 => ?_)
  refine g_aload_n0 30 rfl dX9_bears_29 ?_
  refine g_iconst (v := 1) 31 rfl dX9_bears_30 (by decide) ?_
  refine g_iload_n1 32 rfl dX9_bears_31 ?_
  refine gn_ishl 33 rfl dX9_bears_32 (by omega) ?_
  refine g_cv1i 36 rfl cw_RX9_154 dX9_bears_33 (c_X9_till hm hp) (by omega) (ob_22 V) (Nat.le_of_ble_eq_true rfl) ?_
  refine g_goto 41 (by decide) dX9_bears_36 ?_
  refine g_iret .int dX9_bears_41 rfl (rfl) ?_
  exact ⟨rfl, rfl⟩
end X9b
