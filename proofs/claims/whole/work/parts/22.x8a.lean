/-! MustardTreaty: the talk, acts -/
theorem ts_d {dflt hi : Int} {offs : Array Int} {a : Nat} (ha : a < 2 ^ 32) (h0 : 0 ≤ hi) (h : hi < a) : tsO dflt 0 hi offs (nI a) = some dflt := by
  unfold tsO
  refine if_pos ?_
  by_cases hs : a < 2 ^ 31
  · right; rw [nI_toInt hs]; exact h
  · left
    have := nI_ng (a := a) (by omega) ha
    rw [Int32.lt_iff_toInt_lt, Int32.toInt_zero] at this
    exact this
def abtV (n m : Nat) (C T : Nat → Nat) (acts seen len what : Nat) : Nat :=
  if what = 0 then n else if what = 1 then m else if what = 2 then T 0 else if what = 3 then T 1 else if what = 4 then T 6 else if what = 5 then T 8 else if what = 6 then T 9 else if what = 7 then sayB m C T m else if what = 8 then acts else if what = 9 then seen else if what = 10 then len else 4294967294
def envV (n : Nat) (E T : Nat → Nat) (a b : Nat) : Nat :=
  if a < n then (if b = 0 then E (3 * a) else if b = 1 then E (3 * a + 1) else if b = 2 then E (3 * a + 2) else if b = 3 then T (2 + a) else if b = 4 then pain (E (3 * a + 2)) (E (3 * a)) (T 0) else if b = 5 then bt (T 7) a else 4294967294) else 4294967295
def clsV (m : Nat) (C : Nat → Nat) (a b : Nat) : Nat :=
  if a < m then (if b = 0 then C (3 * a) else if b = 1 then C (3 * a + 1) else if b = 2 then C (3 * a + 2) else if b = 3 then wrth C a else 4294967294) else 4294967295
theorem remH_o {h : Hp} {q : Nat} (hq : q < 100) (h10 : q ≠ 10) : (remH h).1 q = h.1 q := by
  unfold remH
  rw [sR_n h10, sR_lt hq]
theorem remH_0 {h : Hp} : (remH h).1 (tr 0) = h.1 (tr 0) := by
  unfold remH
  rw [sR_tl (by decide), sR_n (tr_ne (by omega))]
theorem XI_rem {h : Hp} (hx : XI h) : XI (remH h) := XI_o (XI_tr hx (hx.2.2.2.2.2.2 0)) _ (by decide) (by decide) (by decide) (by decide)
theorem ffV_no {B : Nat → Nat} {len : Nat} (hl : len ≤ 48) (h : ¬ (ffr B len = none ∧ 3 ≤ len ∧ (len - 3) % 4 = 0)) : ffV B len ≤ 48 := by
  unfold ffV
  cases hz : ffr B len with
  | some q =>
    show q ≤ 48
    have key : ∀ n, ffr B n = some q → q < n := by
      intro n
      induction n with
      | zero => intro w; cases w
      | succ n ih =>
        intro w
        cases hy : ffr B n with
        | some z => simp only [ffr, hy] at w; cases w; have := ih hy; omega
        | none =>
          simp only [ffr, hy] at w
          split at w
          · cases w
          · cases w; omega
    have := key len hz
    omega
  | none =>
    show (if 3 ≤ len ∧ (len - 3) % 4 = 0 then 4294967287 else len) ≤ 48
    rw [if_neg (fun w => h ⟨hz, w⟩)]; exact hl
theorem ffV_yes {B : Nat → Nat} {len : Nat} (h : ffr B len = none ∧ 3 ≤ len ∧ (len - 3) % 4 = 0) : ffV B len = 4294967287 := by
  unfold ffV
  rw [h.1]
  exact if_pos h.2
def tlkH (h : Hp) : Hp :=
  sR (sR (sR (tlH (h.1 2) h ((h.1 1 0 - 3) / 4)) (tr 0) (layR ((tlH (h.1 2) h ((h.1 1 0 - 3) / 4)).1 3 0) ((tlH (h.1 2) h ((h.1 1 0 - 3) / 4)).1 3 1) ((tlH (h.1 2) h ((h.1 1 0 - 3) / 4)).1 3 2))) 10 (up (up (h.1 10) 1 0) 2 0)) 14 (up (up (h.1 14) 0 0) 1 0)
section X8a
variable {V : Vt} {h : Hp}
theorem c_X8_write_ok {a : Nat} (ha : a ≤ 255) (hl : h.1 1 0 < 48) : Rti V 2 yX8_write cX8_write 2 (some .int) [rf V 0, .int (nI a)] h (nI (h.1 1 0 + 1)) (sR (sR h 2 (up (h.1 2) (h.1 1 0) a)) 1 (up (h.1 1) 0 (h.1 1 0 + 1))) := by
  refine Mt_in [some (rf V 0), some (.int (nI a))] (own := RX8) rfl (by decide) (Nat.le_of_ble_eq_true rfl) (fun q hq => hq) ?_
  refine g_iload_n1 1 rfl dX8_write_0 ?_
  refine gn_if_lt 11 (by decide) 4 rfl dX8_write_1 (by omega) (fun c => c.elim) (fun _ => ?_)
  refine g_iload_n1 5 rfl dX8_write_4 ?_
  refine g_sipush (v := 255) 8 rfl dX8_write_5 (by decide) ?_
  refine gn_icmp_le 14 (by decide) 11 rfl dX8_write_8 (by omega) (by omega) (fun c8 => ?_) (fun c8 => absurd c8 (by omega))
  refine g_aload_n0 15 rfl dX8_write_14 ?_
  refine gf_MT_script 18 rfl fl_RX8_10 dX8_write_15 ?_
  refine gf_Script_length 21 rfl fl_RX8_70 dX8_write_18 ?_
  refine g_bipush (v := 48) 23 rfl dX8_write_21 (by decide) ?_
  refine gn_icmp_lt 29 (by decide) 26 rfl dX8_write_23 (by omega) (by omega) (fun c23 => ?_) (fun c23 => absurd c23 (by omega))
  refine g_aload_n0 30 rfl dX8_write_29 ?_
  refine gf_MT_script 33 rfl fl_RX8_10 dX8_write_30 ?_
  refine g_iload_n1 34 rfl dX8_write_33 ?_
  refine g_cv1v 37 rfl cw_RX8_74 dX8_write_34 (c_X2_append hl) (by omega) (ob_1 V) (Nat.le_of_ble_eq_true rfl) ?_
  refine g_aload_n0 38 rfl dX8_write_37 ?_
  refine gf_MT_script 41 rfl fl_RX8_10 dX8_write_38 ?_
  refine gf_Script_length 44 rfl fl_RX8_70 dX8_write_41 ?_
  refine g_iret .int dX8_write_44 rfl (rfl) ?_
  exact ⟨rfl, rfl⟩
theorem c_X8_write_full {a : Nat} (ha : a ≤ 255) (hl : h.1 1 0 = 48) : Rti V 2 yX8_write cX8_write 2 (some .int) [rf V 0, .int (nI a)] h (nI 4294967292) h := by
  refine Mt_in [some (rf V 0), some (.int (nI a))] (own := RX8) rfl (by decide) (Nat.le_of_ble_eq_true rfl) (fun q hq => hq) ?_
  refine g_iload_n1 1 rfl dX8_write_0 ?_
  refine gn_if_lt 11 (by decide) 4 rfl dX8_write_1 (by omega) (fun c => c.elim) (fun _ => ?_)
  refine g_iload_n1 5 rfl dX8_write_4 ?_
  refine g_sipush (v := 255) 8 rfl dX8_write_5 (by decide) ?_
  refine gn_icmp_le 14 (by decide) 11 rfl dX8_write_8 (by omega) (by omega) (fun c8 => ?_) (fun c8 => absurd c8 (by omega))
  refine g_aload_n0 15 rfl dX8_write_14 ?_
  refine gf_MT_script 18 rfl fl_RX8_10 dX8_write_15 ?_
  refine gf_Script_length 21 rfl fl_RX8_70 dX8_write_18 ?_
  refine g_bipush (v := 48) 23 rfl dX8_write_21 (by decide) ?_
  refine gn_icmp_lt 29 (by decide) 26 rfl dX8_write_23 (by omega) (by omega) (fun c23 => absurd c23 (by omega)) (fun c23 => ?_)
  refine g_bipush (v := 4294967292) 28 rfl dX8_write_26 (by decide) ?_
  refine g_iret .int dX8_write_28 rfl (rfl) ?_
  exact ⟨rfl, rfl⟩
theorem c_X8_write_bad {a : Nat} (ha : ¬ a ≤ 255) (h32 : a < 2 ^ 32) : Rti V 2 yX8_write cX8_write 2 (some .int) [rf V 0, .int (nI a)] h (nI 4294967294) h := by
  refine Mt_in [some (rf V 0), some (.int (nI a))] (own := RX8) rfl (by decide) (Nat.le_of_ble_eq_true rfl) (fun q hq => hq) ?_
  by_cases hs : a < 2 ^ 31
  · refine g_iload_n1 1 rfl dX8_write_0 ?_
    refine gn_if_lt 11 (by decide) 4 rfl dX8_write_1 (by omega) (fun c => c.elim) (fun _ => ?_)
    refine g_iload_n1 5 rfl dX8_write_4 ?_
    refine g_sipush (v := 255) 8 rfl dX8_write_5 (by decide) ?_
    refine gn_icmp_le 14 (by decide) 11 rfl dX8_write_8 (by omega) (by omega) (fun c8 => absurd c8 (by omega)) (fun c8 => ?_)
    refine g_bipush (v := 4294967294) 13 rfl dX8_write_11 (by decide) ?_
    refine g_iret .int dX8_write_13 rfl (rfl) ?_
    exact ⟨rfl, rfl⟩
  · refine g_iload_n1 1 rfl dX8_write_0 ?_
    refine g_if_lt 11 (by decide) 4 rfl dX8_write_1 (fun c1 => ?_) (fun c1 => absurd (nI_ng (by omega) h32) c1)
    refine g_bipush (v := 4294967294) 13 rfl dX8_write_11 (by decide) ?_
    refine g_iret .int dX8_write_13 rfl (rfl) ?_
    exact ⟨rfl, rfl⟩
theorem c_X8_wipe : Rti V 1 yX8_wipe cX8_wipe 2 (some .int) [rf V 0] h (nI (h.1 1 0)) (sR h 1 (up (h.1 1) 0 0)) := by
  refine Mt_in [some (rf V 0), none] (own := RX8) rfl (by decide) (Nat.le_of_ble_eq_true rfl) (fun q hq => hq) ?_
  refine g_aload_n0 1 rfl dX8_wipe_0 ?_
  refine gf_MT_script 4 rfl fl_RX8_10 dX8_wipe_1 ?_
  refine gf_Script_length 7 rfl fl_RX8_70 dX8_wipe_4 ?_
  refine g_istore_n1 8 rfl dX8_wipe_7 (by decide) rfl ?_
  refine g_aload_n0 9 rfl dX8_wipe_8 ?_
  refine gf_MT_script 12 rfl fl_RX8_10 dX8_wipe_9 ?_
  refine g_iconst (v := 0) 13 rfl dX8_wipe_12 (by decide) ?_
  refine gp_Script_length 16 rfl fl_RX8_70 dX8_wipe_13 ?_
  refine g_iload_n1 17 rfl dX8_wipe_16 ?_
  refine g_iret .int dX8_wipe_17 rfl (rfl) ?_
  exact ⟨rfl, rfl⟩
theorem c_X8_fault (hB : ∀ j, h.1 2 j ≤ 255) (hl : h.1 1 0 ≤ 48) : Rti V 5 yX8_fault cX8_fault 1 (some .int) [rf V 0] h (nI (ffV (h.1 2) (h.1 1 0))) h := by
  refine Mt_in [some (rf V 0)] (own := RX8) rfl (by decide) (Nat.le_of_ble_eq_true rfl) (fun q hq => hq) ?_
  refine g_aload_n0 1 rfl dX8_fault_0 ?_
  refine gf_MT_script 4 rfl fl_RX8_10 dX8_fault_1 ?_
  refine g_cv0i 7 rfl cw_RX8_78 dX8_fault_4 (c_X2_firstFault hB hl) (by omega) (ob_1 V) (Nat.le_of_ble_eq_true rfl) ?_
  refine g_iret .int dX8_fault_7 rfl (rfl) ?_
  exact ⟨rfl, rfl⟩
theorem c_X8_talk_no (hB : ∀ j, h.1 2 j ≤ 255) (hl : h.1 1 0 ≤ 48) (hf : ¬ (ffr (h.1 2) (h.1 1 0) = none ∧ 3 ≤ h.1 1 0 ∧ (h.1 1 0 - 3) % 4 = 0)) : Rti V 5 yX8_talk cX8_talk 1 (some .int) [rf V 0] h (nI 4294967293) h := by
  have hv := ffV_no hl hf
  refine Mt_in [some (rf V 0)] (own := RX8) rfl (by decide) (Nat.le_of_ble_eq_true rfl) (fun q hq => hq) ?_
  refine g_aload_n0 1 rfl dX8_talk_0 ?_
  refine gf_MT_script 4 rfl fl_RX8_10 dX8_talk_1 ?_
  refine g_cv0i 7 rfl cw_RX8_78 dX8_talk_4 (c_X2_firstFault hB hl) (by omega) (ob_1 V) (Nat.le_of_ble_eq_true rfl) ?_
  refine g_bipush (v := 4294967287) 9 rfl dX8_talk_7 (by decide) ?_
  refine g_icmp_eq 15 (by decide) 12 rfl dX8_talk_9 (fun c9 => absurd c9 (fun q => by have w := congrArg Int32.toInt q; rw [nI_toInt (by omega), show (nI 4294967287).toInt = -9 by decide +kernel] at w; omega)) (fun c9 => ?_)
  refine g_bipush (v := 4294967293) 14 rfl dX8_talk_12 (by decide) ?_
  refine g_iret .int dX8_talk_14 rfl (rfl) ?_
  exact ⟨rfl, rfl⟩
theorem c_X8_talk_ok (hx : XI (tlH (h.1 2) h ((h.1 1 0 - 3) / 4))) (hB : ∀ j, h.1 2 j ≤ 255) (hl : h.1 1 0 ≤ 48) (hf : ffr (h.1 2) (h.1 1 0) = none ∧ 3 ≤ h.1 1 0 ∧ (h.1 1 0 - 3) % 4 = 0) : Rti V 5 yX8_talk cX8_talk 1 (some .int) [rf V 0] h (nI (10 * (tlH (h.1 2) h ((h.1 1 0 - 3) / 4)).1 3 2 + (tlH (h.1 2) h ((h.1 1 0 - 3) / 4)).1 3 3)) (tlkH h) := by
  have hv := ffV_yes hf
  have e10 := tlH_o (B := h.1 2) (h := h) (q := 10) (by decide) (by decide) (by decide) ((h.1 1 0 - 3) / 4)
  have e14 := tlH_o (B := h.1 2) (h := h) (q := 14) (by decide) (by decide) (by decide) ((h.1 1 0 - 3) / 4)
  refine Mt_in [some (rf V 0)] (own := RX8) rfl (by decide) (Nat.le_of_ble_eq_true rfl) (fun q hq => hq) ?_
  refine g_aload_n0 1 rfl dX8_talk_0 ?_
  refine gf_MT_script 4 rfl fl_RX8_10 dX8_talk_1 ?_
  refine g_cv0i 7 rfl cw_RX8_78 dX8_talk_4 (c_X2_firstFault hB hl) (by omega) (ob_1 V) (Nat.le_of_ble_eq_true rfl) ?_
  rw [hv]
  refine g_bipush (v := 4294967287) 9 rfl dX8_talk_7 (by decide) ?_
  refine g_icmp_eq 15 (by decide) 12 rfl dX8_talk_9 (fun c9 => ?_) (fun c9 => absurd rfl c9)
  refine g_aload_n0 16 rfl dX8_talk_15 ?_
  refine gf_MT_script 19 rfl fl_RX8_10 dX8_talk_16 ?_
  refine g_aload_n0 20 rfl dX8_talk_19 ?_
  refine gf_MT_rules 23 rfl fl_RX8_19 dX8_talk_20 ?_
  refine g_cv1v 26 rfl cw_RX8_82 dX8_talk_23 (c_X2_tellInto hB hl hf.1 hf.2.1 hf.2.2) (by omega) (ob_1 V) (Nat.le_of_ble_eq_true rfl) ?_
  refine g_aload_n0 27 rfl dX8_talk_26 ?_
  refine gf_MT_table 30 rfl fl_RX8_28 dX8_talk_27 ?_
  refine g_cv0v 33 rfl cw_RX8_85 dX8_talk_30 (c_X7_layAnew (by decide) hx) (by omega) (ob_tb V (by omega)) (Nat.le_of_ble_eq_true rfl) ?_
  refine g_aload_n0 34 rfl dX8_talk_33 ?_
  refine gf_MT_acts 37 rfl fl_RX8_38 dX8_talk_34 ?_
  refine g_cv0v 40 rfl cw_RX8_88 dX8_talk_37 (c_X0_forgetAll) (by omega) (ob_10 V) (Nat.le_of_ble_eq_true rfl) ?_
  refine g_aload_n0 41 rfl dX8_talk_40 ?_
  refine gf_MT_slots 44 rfl fl_RX8_45 dX8_talk_41 ?_
  refine g_cv0v 47 rfl cw_RX8_91 dX8_talk_44 (c_X5_forgetAll) (by omega) (ob_12 V) (Nat.le_of_ble_eq_true rfl) ?_
  refine g_bipush (v := 10) 49 rfl dX8_talk_47 (by decide) ?_
  refine g_aload_n0 50 rfl dX8_talk_49 ?_
  refine gf_MT_rules 53 rfl fl_RX8_19 dX8_talk_50 ?_
  refine gf_Rules_envoys 56 rfl fl_RX8_92 dX8_talk_53 ?_
  rw [sR_n (by decide), sR_n (by decide), sR_lt (by decide)]
  refine gn_imul 57 rfl dX8_talk_56 ?_
  refine g_aload_n0 58 rfl dX8_talk_57 ?_
  refine gf_MT_rules 61 rfl fl_RX8_19 dX8_talk_58 ?_
  refine gf_Rules_clauses 64 rfl fl_RX8_95 dX8_talk_61 ?_
  rw [sR_n (by decide), sR_n (by decide), sR_lt (by decide)]
  refine gn_iadd 65 rfl dX8_talk_64 ?_
  refine g_iret .int dX8_talk_65 rfl (rfl) ?_
  refine ⟨rfl, ?_⟩
  rw [sR_lt (by decide), sR_n (show 14 ≠ 10 by decide), sR_lt (by decide), e10, e14]
  rfl
theorem c_X8_about {b : Nat} (hx : XI h) (hb : b < 2 ^ 32) : Rti V 4 yX8_about cX8_about 2 (some .int) [rf V 0, .int (nI b)] h (nI (abtV (h.1 3 2) (h.1 3 3) (h.1 7) (h.1 (tr 0)) (h.1 10 2) (h.1 15 3) (h.1 1 0) b)) h := by
  refine Mt_in [some (rf V 0), some (.int (nI b))] (own := RX8) rfl (by decide) (Nat.le_of_ble_eq_true rfl) (fun q hq => hq) ?_
  rcases (show b = 0 ∨ b = 1 ∨ b = 2 ∨ b = 3 ∨ b = 4 ∨ b = 5 ∨ b = 6 ∨ b = 7 ∨ b = 8 ∨ b = 9 ∨ b = 10 ∨ 10 < b by omega) with rfl | rfl | rfl | rfl | rfl | rfl | rfl | rfl | rfl | rfl | rfl | hb2
  · refine g_iload_n1 1 rfl dX8_about_0 ?_
    refine g_tsw (off := 59) 60 dX8_about_1 (by decide +kernel) (by decide) ?_
    refine g_aload_n0 61 rfl dX8_about_60 ?_
    refine gf_MT_rules 64 rfl fl_RX8_19 dX8_about_61 ?_
    refine gf_Rules_envoys 67 rfl fl_RX8_92 dX8_about_64 ?_
    refine g_iret .int dX8_about_67 rfl (rfl) ?_
    exact ⟨rfl, rfl⟩
  · refine g_iload_n1 1 rfl dX8_about_0 ?_
    refine g_tsw (off := 67) 68 dX8_about_1 (by decide +kernel) (by decide) ?_
    refine g_aload_n0 69 rfl dX8_about_68 ?_
    refine gf_MT_rules 72 rfl fl_RX8_19 dX8_about_69 ?_
    refine gf_Rules_clauses 75 rfl fl_RX8_95 dX8_about_72 ?_
    refine g_iret .int dX8_about_75 rfl (rfl) ?_
    exact ⟨rfl, rfl⟩
  · refine g_iload_n1 1 rfl dX8_about_0 ?_
    refine g_tsw (off := 75) 76 dX8_about_1 (by decide +kernel) (by decide) ?_
    refine g_aload_n0 77 rfl dX8_about_76 ?_
    refine gf_MT_table 80 rfl fl_RX8_28 dX8_about_77 ?_
    refine gf_Table_heat 83 rfl (by omega) fl_RX8_98 dX8_about_80 ?_
    refine g_iret .int dX8_about_83 rfl (rfl) ?_
    exact ⟨rfl, rfl⟩
  · refine g_iload_n1 1 rfl dX8_about_0 ?_
    refine g_tsw (off := 83) 84 dX8_about_1 (by decide +kernel) (by decide) ?_
    refine g_aload_n0 85 rfl dX8_about_84 ?_
    refine gf_MT_table 88 rfl fl_RX8_28 dX8_about_85 ?_
    refine gf_Table_store 91 rfl (by omega) fl_RX8_101 dX8_about_88 ?_
    refine g_iret .int dX8_about_91 rfl (rfl) ?_
    exact ⟨rfl, rfl⟩
  · refine g_iload_n1 1 rfl dX8_about_0 ?_
    refine g_tsw (off := 91) 92 dX8_about_1 (by decide +kernel) (by decide) ?_
    refine g_aload_n0 93 rfl dX8_about_92 ?_
    refine gf_MT_table 96 rfl fl_RX8_28 dX8_about_93 ?_
    refine gf_Table_eating 99 rfl (by omega) fl_RX8_104 dX8_about_96 ?_
    refine g_iret .int dX8_about_99 rfl (rfl) ?_
    exact ⟨rfl, rfl⟩
  · refine g_iload_n1 1 rfl dX8_about_0 ?_
    refine g_tsw (off := 99) 100 dX8_about_1 (by decide +kernel) (by decide) ?_
    refine g_aload_n0 101 rfl dX8_about_100 ?_
    refine gf_MT_table 104 rfl fl_RX8_28 dX8_about_101 ?_
    refine gf_Table_bound 107 rfl (by omega) fl_RX8_107 dX8_about_104 ?_
    refine g_iret .int dX8_about_107 rfl (rfl) ?_
    exact ⟨rfl, rfl⟩
  · refine g_iload_n1 1 rfl dX8_about_0 ?_
    refine g_tsw (off := 107) 108 dX8_about_1 (by decide +kernel) (by decide) ?_
    refine g_aload_n0 109 rfl dX8_about_108 ?_
    refine gf_MT_table 112 rfl fl_RX8_28 dX8_about_109 ?_
    refine gf_Table_bites 115 rfl (by omega) fl_RX8_110 dX8_about_112 ?_
    refine g_iret .int dX8_about_115 rfl (rfl) ?_
    exact ⟨rfl, rfl⟩
  · refine g_iload_n1 1 rfl dX8_about_0 ?_
    refine g_tsw (off := 115) 116 dX8_about_1 (by decide +kernel) (by decide) ?_
    refine g_aload_n0 117 rfl dX8_about_116 ?_
    refine gf_MT_table 120 rfl fl_RX8_28 dX8_about_117 ?_
    refine g_cv0i 123 rfl cw_RX8_113 dX8_about_120 (c_X7_sayable (by decide) hx) (by omega) (ob_tb V (by omega)) (Nat.le_of_ble_eq_true rfl) ?_
    refine g_iret .int dX8_about_123 rfl (rfl) ?_
    exact ⟨rfl, rfl⟩
  · refine g_iload_n1 1 rfl dX8_about_0 ?_
    refine g_tsw (off := 123) 124 dX8_about_1 (by decide +kernel) (by decide) ?_
    refine g_aload_n0 125 rfl dX8_about_124 ?_
    refine gf_MT_acts 128 rfl fl_RX8_38 dX8_about_125 ?_
    refine gf_Acts_count 131 rfl fl_RX8_116 dX8_about_128 ?_
    refine g_iret .int dX8_about_131 rfl (rfl) ?_
    exact ⟨rfl, rfl⟩
  · refine g_iload_n1 1 rfl dX8_about_0 ?_
    refine g_tsw (off := 131) 132 dX8_about_1 (by decide +kernel) (by decide) ?_
    refine g_aload_n0 133 rfl dX8_about_132 ?_
    refine gf_MT_sights 136 rfl fl_RX8_52 dX8_about_133 ?_
    refine gf_Sights_count 139 rfl fl_RX8_119 dX8_about_136 ?_
    refine g_iret .int dX8_about_139 rfl (rfl) ?_
    exact ⟨rfl, rfl⟩
  · refine g_iload_n1 1 rfl dX8_about_0 ?_
    refine g_tsw (off := 139) 140 dX8_about_1 (by decide +kernel) (by decide) ?_
    refine g_aload_n0 141 rfl dX8_about_140 ?_
    refine gf_MT_script 144 rfl fl_RX8_10 dX8_about_141 ?_
    refine gf_Script_length 147 rfl fl_RX8_70 dX8_about_144 ?_
    refine g_iret .int dX8_about_147 rfl (rfl) ?_
    exact ⟨rfl, rfl⟩
  · refine g_iload_n1 1 rfl dX8_about_0 ?_
    refine g_tsw (off := 147) 148 dX8_about_1 (ts_d hb (by decide) (by omega)) (by decide) ?_
    refine g_bipush (v := 4294967294) 150 rfl dX8_about_148 (by decide) ?_
    refine g_iret .int dX8_about_150 rfl (rfl) ?_
    refine ⟨congrArg (fun q => some (Value.int (nI q))) ?_, rfl⟩
    unfold abtV
    rw [if_neg (by omega), if_neg (by omega), if_neg (by omega), if_neg (by omega), if_neg (by omega), if_neg (by omega), if_neg (by omega), if_neg (by omega), if_neg (by omega), if_neg (by omega), if_neg (by omega)]
theorem c_X8_envoy {a b : Nat} (hx : XI h) (ha : a < 2 ^ 32) (hb : b < 2 ^ 32) : Rti V 3 yX8_envoy cX8_envoy 3 (some .int) [rf V 0, .int (nI a), .int (nI b)] h (nI (envV (h.1 3 2) (h.1 4) (h.1 (tr 0)) a b)) h := by
  obtain ⟨hE, hC, x4, x5, x7, x8, hTT⟩ := id hx
  refine Mt_in [some (rf V 0), some (.int (nI a)), some (.int (nI b))] (own := RX8) rfl (by decide) (Nat.le_of_ble_eq_true rfl) (fun q hq => hq) ?_
  by_cases hn : a < h.1 3 2
  · rw [show envV (h.1 3 2) (h.1 4) (h.1 (tr 0)) a b = _ from if_pos hn]
    have h01 : (if a < h.1 3 2 then 1 else 0) = 1 := if_pos hn
    rcases (show b = 0 ∨ b = 1 ∨ b = 2 ∨ b = 3 ∨ b = 4 ∨ b = 5 ∨ 5 < b by omega) with rfl | rfl | rfl | rfl | rfl | rfl | hb2
    · refine g_aload_n0 1 rfl dX8_envoy_0 ?_
      refine gf_MT_rules 4 rfl fl_RX8_19 dX8_envoy_1 ?_
      refine g_iload_n1 5 rfl dX8_envoy_4 ?_
      refine g_cv1i 8 rfl cw_RX8_120 dX8_envoy_5 (c_X1_hasEnvoy hE ha) (by omega) (ob_3 V) (Nat.le_of_ble_eq_true rfl) ?_
      rw [h01]
      refine gn_if_ne 13 (by decide) 11 rfl dX8_envoy_8 (by omega) (fun c8 => ?_) (fun c8 => absurd c8 (by decide))
      refine g_iload_n2 14 rfl dX8_envoy_13 ?_
      refine g_tsw (off := 38) 52 dX8_envoy_14 (by decide +kernel) (by decide) ?_
      refine g_aload_n0 53 rfl dX8_envoy_52 ?_
      refine gf_MT_rules 56 rfl fl_RX8_19 dX8_envoy_53 ?_
      refine gf_Rules_palate 59 rfl fl_RX8_124 dX8_envoy_56 ?_
      refine g_iload_n1 60 rfl dX8_envoy_59 ?_
      refine ga_4 61 rfl (by omega) dX8_envoy_60 ?_
      refine g_iret .int dX8_envoy_61 rfl (rfl) ?_
      exact ⟨rfl, rfl⟩
    · refine g_aload_n0 1 rfl dX8_envoy_0 ?_
      refine gf_MT_rules 4 rfl fl_RX8_19 dX8_envoy_1 ?_
      refine g_iload_n1 5 rfl dX8_envoy_4 ?_
      refine g_cv1i 8 rfl cw_RX8_120 dX8_envoy_5 (c_X1_hasEnvoy hE ha) (by omega) (ob_3 V) (Nat.le_of_ble_eq_true rfl) ?_
      rw [h01]
      refine gn_if_ne 13 (by decide) 11 rfl dX8_envoy_8 (by omega) (fun c8 => ?_) (fun c8 => absurd c8 (by decide))
      refine g_iload_n2 14 rfl dX8_envoy_13 ?_
      refine g_tsw (off := 48) 62 dX8_envoy_14 (by decide +kernel) (by decide) ?_
      refine g_aload_n0 63 rfl dX8_envoy_62 ?_
      refine gf_MT_rules 66 rfl fl_RX8_19 dX8_envoy_63 ?_
      refine gf_Rules_wits 69 rfl fl_RX8_128 dX8_envoy_66 ?_
      refine g_iload_n1 70 rfl dX8_envoy_69 ?_
      refine ga_5 71 rfl (by omega) dX8_envoy_70 ?_
      refine g_iret .int dX8_envoy_71 rfl (rfl) ?_
      exact ⟨rfl, rfl⟩
    · refine g_aload_n0 1 rfl dX8_envoy_0 ?_
      refine gf_MT_rules 4 rfl fl_RX8_19 dX8_envoy_1 ?_
      refine g_iload_n1 5 rfl dX8_envoy_4 ?_
      refine g_cv1i 8 rfl cw_RX8_120 dX8_envoy_5 (c_X1_hasEnvoy hE ha) (by omega) (ob_3 V) (Nat.le_of_ble_eq_true rfl) ?_
      rw [h01]
      refine gn_if_ne 13 (by decide) 11 rfl dX8_envoy_8 (by omega) (fun c8 => ?_) (fun c8 => absurd c8 (by decide))
      refine g_iload_n2 14 rfl dX8_envoy_13 ?_
      refine g_tsw (off := 58) 72 dX8_envoy_14 (by decide +kernel) (by decide) ?_
      refine g_aload_n0 73 rfl dX8_envoy_72 ?_
      refine gf_MT_rules 76 rfl fl_RX8_19 dX8_envoy_73 ?_
      refine gf_Rules_kind 79 rfl fl_RX8_131 dX8_envoy_76 ?_
      refine g_iload_n1 80 rfl dX8_envoy_79 ?_
      refine ga_6 81 rfl (by omega) dX8_envoy_80 ?_
      refine g_iret .int dX8_envoy_81 rfl (rfl) ?_
      exact ⟨rfl, rfl⟩
    · refine g_aload_n0 1 rfl dX8_envoy_0 ?_
      refine gf_MT_rules 4 rfl fl_RX8_19 dX8_envoy_1 ?_
      refine g_iload_n1 5 rfl dX8_envoy_4 ?_
      refine g_cv1i 8 rfl cw_RX8_120 dX8_envoy_5 (c_X1_hasEnvoy hE ha) (by omega) (ob_3 V) (Nat.le_of_ble_eq_true rfl) ?_
      rw [h01]
      refine gn_if_ne 13 (by decide) 11 rfl dX8_envoy_8 (by omega) (fun c8 => ?_) (fun c8 => absurd c8 (by decide))
      refine g_iload_n2 14 rfl dX8_envoy_13 ?_
      refine g_tsw (off := 68) 82 dX8_envoy_14 (by decide +kernel) (by decide) ?_
      refine g_aload_n0 83 rfl dX8_envoy_82 ?_
      refine gf_MT_table 86 rfl fl_RX8_28 dX8_envoy_83 ?_
      refine gf_Table_tears 89 rfl (by omega) fl_RX8_134 dX8_envoy_86 ?_
      refine g_iload_n1 90 rfl dX8_envoy_89 ?_
      refine ga_tt 91 rfl (by omega) (by omega) dX8_envoy_90 ?_
      refine g_iret .int dX8_envoy_91 rfl (rfl) ?_
      exact ⟨rfl, rfl⟩
    · refine g_aload_n0 1 rfl dX8_envoy_0 ?_
      refine gf_MT_rules 4 rfl fl_RX8_19 dX8_envoy_1 ?_
      refine g_iload_n1 5 rfl dX8_envoy_4 ?_
      refine g_cv1i 8 rfl cw_RX8_120 dX8_envoy_5 (c_X1_hasEnvoy hE ha) (by omega) (ob_3 V) (Nat.le_of_ble_eq_true rfl) ?_
      rw [h01]
      refine gn_if_ne 13 (by decide) 11 rfl dX8_envoy_8 (by omega) (fun c8 => ?_) (fun c8 => absurd c8 (by decide))
      refine g_iload_n2 14 rfl dX8_envoy_13 ?_
      refine g_tsw (off := 78) 92 dX8_envoy_14 (by decide +kernel) (by decide) ?_
      refine g_aload_n0 93 rfl dX8_envoy_92 ?_
      refine gf_MT_rules 96 rfl fl_RX8_19 dX8_envoy_93 ?_
      refine g_iload_n1 97 rfl dX8_envoy_96 ?_
      refine g_aload_n0 98 rfl dX8_envoy_97 ?_
      refine gf_MT_table 101 rfl fl_RX8_28 dX8_envoy_98 ?_
      refine gf_Table_heat 104 rfl (by omega) fl_RX8_98 dX8_envoy_101 ?_
      refine g_cv2i 107 rfl cw_RX8_137 dX8_envoy_104 (c_X1_pain (by omega) (x5 a) (x4 _) (hTT 0).1) (by omega) (ob_3 V) (Nat.le_of_ble_eq_true rfl) ?_
      refine g_iret .int dX8_envoy_107 rfl (rfl) ?_
      exact ⟨rfl, rfl⟩
    · refine g_aload_n0 1 rfl dX8_envoy_0 ?_
      refine gf_MT_rules 4 rfl fl_RX8_19 dX8_envoy_1 ?_
      refine g_iload_n1 5 rfl dX8_envoy_4 ?_
      refine g_cv1i 8 rfl cw_RX8_120 dX8_envoy_5 (c_X1_hasEnvoy hE ha) (by omega) (ob_3 V) (Nat.le_of_ble_eq_true rfl) ?_
      rw [h01]
      refine gn_if_ne 13 (by decide) 11 rfl dX8_envoy_8 (by omega) (fun c8 => ?_) (fun c8 => absurd c8 (by decide))
      refine g_iload_n2 14 rfl dX8_envoy_13 ?_
      refine g_tsw (off := 94) 108 dX8_envoy_14 (by decide +kernel) (by decide) ?_
      refine g_aload_n0 109 rfl dX8_envoy_108 ?_
      refine gf_MT_table 112 rfl fl_RX8_28 dX8_envoy_109 ?_
      refine g_iload_n1 113 rfl dX8_envoy_112 ?_
      refine g_cv1i 116 rfl cw_RX8_141 dX8_envoy_113 (c_X7_hadBread (by decide) (hTT 0) (by omega)) (by omega) (ob_tb V (by omega)) (Nat.le_of_ble_eq_true rfl) ?_
      refine gn_if_eq 123 (by decide) 119 rfl dX8_envoy_116 (Nat.lt_of_lt_of_le (bt_lt _ _) (by omega)) (fun c116 => ?_) (fun c116 => ?_)
      · refine g_iconst (v := 0) 124 rfl dX8_envoy_123 (by decide) ?_
        refine g_iret .int dX8_envoy_124 rfl (rfl) ?_
        refine ⟨congrArg (fun q => some (Value.int (nI q))) ?_, rfl⟩
        have := bt_01 (h.1 (tr 0) 7) a
        show _ = bt (h.1 (tr 0) 7) a
        omega
      · refine g_iconst (v := 1) 120 rfl dX8_envoy_119 (by decide) ?_
        refine g_goto 124 (by decide) dX8_envoy_120 ?_
        refine g_iret .int dX8_envoy_124 rfl (rfl) ?_
        refine ⟨congrArg (fun q => some (Value.int (nI q))) ?_, rfl⟩
        have := bt_01 (h.1 (tr 0) 7) a
        show _ = bt (h.1 (tr 0) 7) a
        omega
    · refine g_aload_n0 1 rfl dX8_envoy_0 ?_
      refine gf_MT_rules 4 rfl fl_RX8_19 dX8_envoy_1 ?_
      refine g_iload_n1 5 rfl dX8_envoy_4 ?_
      refine g_cv1i 8 rfl cw_RX8_120 dX8_envoy_5 (c_X1_hasEnvoy hE ha) (by omega) (ob_3 V) (Nat.le_of_ble_eq_true rfl) ?_
      rw [h01]
      refine gn_if_ne 13 (by decide) 11 rfl dX8_envoy_8 (by omega) (fun c8 => ?_) (fun c8 => absurd c8 (by decide))
      refine g_iload_n2 14 rfl dX8_envoy_13 ?_
      refine g_tsw (off := 111) 125 dX8_envoy_14 (ts_d hb (by decide) (by omega)) (by decide) ?_
      refine g_bipush (v := 4294967294) 127 rfl dX8_envoy_125 (by decide) ?_
      refine g_iret .int dX8_envoy_127 rfl (rfl) ?_
      refine ⟨congrArg (fun q => some (Value.int (nI q))) ?_, rfl⟩
      grind
  · rw [show envV (h.1 3 2) (h.1 4) (h.1 (tr 0)) a b = _ from if_neg hn]
    have h01 : (if a < h.1 3 2 then 1 else 0) = 0 := if_neg hn
    refine g_aload_n0 1 rfl dX8_envoy_0 ?_
    refine gf_MT_rules 4 rfl fl_RX8_19 dX8_envoy_1 ?_
    refine g_iload_n1 5 rfl dX8_envoy_4 ?_
    refine g_cv1i 8 rfl cw_RX8_120 dX8_envoy_5 (c_X1_hasEnvoy hE ha) (by omega) (ob_3 V) (Nat.le_of_ble_eq_true rfl) ?_
    rw [h01]
    refine gn_if_ne 13 (by decide) 11 rfl dX8_envoy_8 (by omega) (fun c8 => absurd rfl c8) (fun c8 => ?_)
    refine g_iconst (v := 4294967295) 12 rfl dX8_envoy_11 (by decide) ?_
    refine g_iret .int dX8_envoy_12 rfl (rfl) ?_
    exact ⟨rfl, rfl⟩
theorem c_X8_clause {a b : Nat} (hx : XI h) (ha : a < 2 ^ 32) (hb : b < 2 ^ 32) : Rti V 2 yX8_clause cX8_clause 3 (some .int) [rf V 0, .int (nI a), .int (nI b)] h (nI (clsV (h.1 3 3) (h.1 7) a b)) h := by
  obtain ⟨hE, hC, x4, x5, x7, x8, hTT⟩ := id hx
  refine Mt_in [some (rf V 0), some (.int (nI a)), some (.int (nI b))] (own := RX8) rfl (by decide) (Nat.le_of_ble_eq_true rfl) (fun q hq => hq) ?_
  by_cases hn : a < h.1 3 3
  · rw [show clsV (h.1 3 3) (h.1 7) a b = _ from if_pos hn]
    have h01 : (if a < h.1 3 3 then 1 else 0) = 1 := if_pos hn
    rcases (show b = 0 ∨ b = 1 ∨ b = 2 ∨ b = 3 ∨ 3 < b by omega) with rfl | rfl | rfl | rfl | hb2
    · refine g_aload_n0 1 rfl dX8_clause_0 ?_
      refine gf_MT_rules 4 rfl fl_RX8_19 dX8_clause_1 ?_
      refine g_iload_n1 5 rfl dX8_clause_4 ?_
      refine g_cv1i 8 rfl cw_RX8_144 dX8_clause_5 (c_X1_hasClause hC ha) (by omega) (ob_3 V) (Nat.le_of_ble_eq_true rfl) ?_
      rw [h01]
      refine gn_if_ne 13 (by decide) 11 rfl dX8_clause_8 (by omega) (fun c8 => ?_) (fun c8 => absurd c8 (by decide))
      refine g_iload_n2 14 rfl dX8_clause_13 ?_
      refine g_tsw (off := 30) 44 dX8_clause_14 (by decide +kernel) (by decide) ?_
      refine g_aload_n0 45 rfl dX8_clause_44 ?_
      refine gf_MT_rules 48 rfl fl_RX8_19 dX8_clause_45 ?_
      refine gf_Rules_words 51 rfl fl_RX8_147 dX8_clause_48 ?_
      refine g_iload_n1 52 rfl dX8_clause_51 ?_
      refine ga_7 53 rfl (by omega) dX8_clause_52 ?_
      refine g_iret .int dX8_clause_53 rfl (rfl) ?_
      exact ⟨rfl, rfl⟩
    · refine g_aload_n0 1 rfl dX8_clause_0 ?_
      refine gf_MT_rules 4 rfl fl_RX8_19 dX8_clause_1 ?_
      refine g_iload_n1 5 rfl dX8_clause_4 ?_
      refine g_cv1i 8 rfl cw_RX8_144 dX8_clause_5 (c_X1_hasClause hC ha) (by omega) (ob_3 V) (Nat.le_of_ble_eq_true rfl) ?_
      rw [h01]
      refine gn_if_ne 13 (by decide) 11 rfl dX8_clause_8 (by omega) (fun c8 => ?_) (fun c8 => absurd c8 (by decide))
      refine g_iload_n2 14 rfl dX8_clause_13 ?_
      refine g_tsw (off := 40) 54 dX8_clause_14 (by decide +kernel) (by decide) ?_
      refine g_aload_n0 55 rfl dX8_clause_54 ?_
      refine gf_MT_rules 58 rfl fl_RX8_19 dX8_clause_55 ?_
      refine gf_Rules_heatNeeded 61 rfl fl_RX8_150 dX8_clause_58 ?_
      refine g_iload_n1 62 rfl dX8_clause_61 ?_
      refine ga_8 63 rfl (by omega) dX8_clause_62 ?_
      refine g_iret .int dX8_clause_63 rfl (rfl) ?_
      exact ⟨rfl, rfl⟩
    · refine g_aload_n0 1 rfl dX8_clause_0 ?_
      refine gf_MT_rules 4 rfl fl_RX8_19 dX8_clause_1 ?_
      refine g_iload_n1 5 rfl dX8_clause_4 ?_
      refine g_cv1i 8 rfl cw_RX8_144 dX8_clause_5 (c_X1_hasClause hC ha) (by omega) (ob_3 V) (Nat.le_of_ble_eq_true rfl) ?_
      rw [h01]
      refine gn_if_ne 13 (by decide) 11 rfl dX8_clause_8 (by omega) (fun c8 => ?_) (fun c8 => absurd c8 (by decide))
      refine g_iload_n2 14 rfl dX8_clause_13 ?_
      refine g_tsw (off := 50) 64 dX8_clause_14 (by decide +kernel) (by decide) ?_
      refine g_aload_n0 65 rfl dX8_clause_64 ?_
      refine gf_MT_rules 68 rfl fl_RX8_19 dX8_clause_65 ?_
      refine gf_Rules_owner 71 rfl fl_RX8_153 dX8_clause_68 ?_
      refine g_iload_n1 72 rfl dX8_clause_71 ?_
      refine ga_9 73 rfl (by omega) dX8_clause_72 ?_
      refine g_iret .int dX8_clause_73 rfl (rfl) ?_
      exact ⟨rfl, rfl⟩
    · refine g_aload_n0 1 rfl dX8_clause_0 ?_
      refine gf_MT_rules 4 rfl fl_RX8_19 dX8_clause_1 ?_
      refine g_iload_n1 5 rfl dX8_clause_4 ?_
      refine g_cv1i 8 rfl cw_RX8_144 dX8_clause_5 (c_X1_hasClause hC ha) (by omega) (ob_3 V) (Nat.le_of_ble_eq_true rfl) ?_
      rw [h01]
      refine gn_if_ne 13 (by decide) 11 rfl dX8_clause_8 (by omega) (fun c8 => ?_) (fun c8 => absurd c8 (by decide))
      refine g_iload_n2 14 rfl dX8_clause_13 ?_
      refine g_tsw (off := 60) 74 dX8_clause_14 (by decide +kernel) (by decide) ?_
      refine g_aload_n0 75 rfl dX8_clause_74 ?_
      refine gf_MT_rules 78 rfl fl_RX8_19 dX8_clause_75 ?_
      refine g_iload_n1 79 rfl dX8_clause_78 ?_
      refine g_cv1i 82 rfl cw_RX8_156 dX8_clause_79 (c_X1_worth (by omega)) (by omega) (ob_3 V) (Nat.le_of_ble_eq_true rfl) ?_
      refine g_iret .int dX8_clause_82 rfl (rfl) ?_
      exact ⟨rfl, rfl⟩
    · refine g_aload_n0 1 rfl dX8_clause_0 ?_
      refine gf_MT_rules 4 rfl fl_RX8_19 dX8_clause_1 ?_
      refine g_iload_n1 5 rfl dX8_clause_4 ?_
      refine g_cv1i 8 rfl cw_RX8_144 dX8_clause_5 (c_X1_hasClause hC ha) (by omega) (ob_3 V) (Nat.le_of_ble_eq_true rfl) ?_
      rw [h01]
      refine gn_if_ne 13 (by decide) 11 rfl dX8_clause_8 (by omega) (fun c8 => ?_) (fun c8 => absurd c8 (by decide))
      refine g_iload_n2 14 rfl dX8_clause_13 ?_
      refine g_tsw (off := 69) 83 dX8_clause_14 (ts_d hb (by decide) (by omega)) (by decide) ?_
      refine g_bipush (v := 4294967294) 85 rfl dX8_clause_83 (by decide) ?_
      refine g_iret .int dX8_clause_85 rfl (rfl) ?_
      refine ⟨congrArg (fun q => some (Value.int (nI q))) ?_, rfl⟩
      grind
  · rw [show clsV (h.1 3 3) (h.1 7) a b = _ from if_neg hn]
    have h01 : (if a < h.1 3 3 then 1 else 0) = 0 := if_neg hn
    refine g_aload_n0 1 rfl dX8_clause_0 ?_
    refine gf_MT_rules 4 rfl fl_RX8_19 dX8_clause_1 ?_
    refine g_iload_n1 5 rfl dX8_clause_4 ?_
    refine g_cv1i 8 rfl cw_RX8_144 dX8_clause_5 (c_X1_hasClause hC ha) (by omega) (ob_3 V) (Nat.le_of_ble_eq_true rfl) ?_
    rw [h01]
    refine gn_if_ne 13 (by decide) 11 rfl dX8_clause_8 (by omega) (fun c8 => absurd rfl c8) (fun c8 => ?_)
    refine g_iconst (v := 4294967295) 12 rfl dX8_clause_11 (by decide) ?_
    refine g_iret .int dX8_clause_12 rfl (rfl) ?_
    exact ⟨rfl, rfl⟩
theorem c_X8_bite_no (hx : XI h) (hn : h.1 (tr 0) 6 = 0) : Rti V 4 yX8_bite cX8_bite 1 (some .int) [rf V 0] h (nI 4294967293) h := by
  refine Mt_in [some (rf V 0)] (own := RX8) rfl (by decide) (Nat.le_of_ble_eq_true rfl) (fun q hq => hq) ?_
  refine g_aload_n0 1 rfl dX8_bite_0 ?_
  refine gf_MT_table 4 rfl fl_RX8_28 dX8_bite_1 ?_
  refine gf_Table_eating 7 rfl (by omega) fl_RX8_104 dX8_bite_4 ?_
  refine gn_if_ne 13 (by decide) 10 rfl dX8_bite_7 (by omega) (fun c7 => absurd hn c7) (fun c7 => ?_)
  refine g_bipush (v := 4294967293) 12 rfl dX8_bite_10 (by decide) ?_
  refine g_iret .int dX8_bite_12 rfl (rfl) ?_
  exact ⟨rfl, rfl⟩
theorem c_X8_bite_ok (hx : XI h) (ho : h.1 10 1 < 14) (hc : h.1 10 2 ≤ 14) (hn : ¬ h.1 (tr 0) 6 = 0) : Rti V 4 yX8_bite cX8_bite 1 (some .int) [rf V 0] h (nI (bite (h.1 4) (h.1 3 2) (h.1 (tr 0)) 6)) (sR (remH h) (tr 0) (bite (h.1 4) (h.1 3 2) (h.1 (tr 0)))) := by
  have h6 := (hx.2.2.2.2.2.2 0).2.2.1
  refine Mt_in [some (rf V 0)] (own := RX8) rfl (by decide) (Nat.le_of_ble_eq_true rfl) (fun q hq => hq) ?_
  refine g_aload_n0 1 rfl dX8_bite_0 ?_
  refine gf_MT_table 4 rfl fl_RX8_28 dX8_bite_1 ?_
  refine gf_Table_eating 7 rfl (by omega) fl_RX8_104 dX8_bite_4 ?_
  refine gn_if_ne 13 (by decide) 10 rfl dX8_bite_7 (by omega) (fun c7 => ?_) (fun c7 => absurd c7 hn)
  refine g_aload_n0 14 rfl dX8_bite_13 ?_
  refine gf_MT_acts 17 rfl fl_RX8_38 dX8_bite_14 ?_
  refine g_aload_n0 18 rfl dX8_bite_17 ?_
  refine gf_MT_table 21 rfl fl_RX8_28 dX8_bite_18 ?_
  refine g_cv1v 24 rfl cw_RX8_160 dX8_bite_21 (c_X0_remember hx ho hc) (by omega) (ob_10 V) (Nat.le_of_ble_eq_true rfl) ?_
  refine g_aload_n0 25 rfl dX8_bite_24 ?_
  refine gf_MT_table 28 rfl fl_RX8_28 dX8_bite_25 ?_
  refine g_cv0v 31 rfl cw_RX8_164 dX8_bite_28 (c_X7_takeBite (by decide) (XI_rem hx)) (by omega) (ob_tb V (by omega)) (Nat.le_of_ble_eq_true rfl) ?_
  rw [remH_o (by decide) (by decide), remH_o (by decide) (by decide), remH_0]
  refine g_aload_n0 32 rfl dX8_bite_31 ?_
  refine gf_MT_table 35 rfl fl_RX8_28 dX8_bite_32 ?_
  refine gf_Table_eating 38 rfl (by omega) fl_RX8_104 dX8_bite_35 ?_
  rw [sR_s]
  refine g_iret .int dX8_bite_38 rfl (rfl) ?_
  exact ⟨rfl, rfl⟩
theorem c_X8_say_u {a : Nat} (hx : XI h) (ha : a < 2 ^ 32) (hn : ¬ a < h.1 3 3) : Rti V 3 yX8_say cX8_say 2 (some .int) [rf V 0, .int (nI a)] h (nI 4294967295) h := by
  have h01 : (if a < h.1 3 3 then 1 else 0) = 0 := if_neg hn
  refine Mt_in [some (rf V 0), some (.int (nI a))] (own := RX8) rfl (by decide) (Nat.le_of_ble_eq_true rfl) (fun q hq => hq) ?_
  refine g_aload_n0 1 rfl dX8_say_0 ?_
  refine gf_MT_rules 4 rfl fl_RX8_19 dX8_say_1 ?_
  refine g_iload_n1 5 rfl dX8_say_4 ?_
  refine g_cv1i 8 rfl cw_RX8_144 dX8_say_5 (c_X1_hasClause hx.2.1 ha) (by omega) (ob_3 V) (Nat.le_of_ble_eq_true rfl) ?_
  rw [h01]
  refine gn_if_ne 13 (by decide) 11 rfl dX8_say_8 (by omega) (fun c8 => absurd rfl c8) (fun c8 => ?_)
  refine g_iconst (v := 4294967295) 12 rfl dX8_say_11 (by decide) ?_
  refine g_iret .int dX8_say_12 rfl (rfl) ?_
  exact ⟨rfl, rfl⟩
theorem c_X8_say_no {a : Nat} (hx : XI h) (hn : a < h.1 3 3) (hc : canB (h.1 3 3) (h.1 7) (h.1 (tr 0)) a = false) : Rti V 3 yX8_say cX8_say 2 (some .int) [rf V 0, .int (nI a)] h (nI 4294967293) h := by
  have h01 : (if a < h.1 3 3 then 1 else 0) = 1 := if_pos hn
  have h5 := hx.2.1
  refine Mt_in [some (rf V 0), some (.int (nI a))] (own := RX8) rfl (by decide) (Nat.le_of_ble_eq_true rfl) (fun q hq => hq) ?_
  refine g_aload_n0 1 rfl dX8_say_0 ?_
  refine gf_MT_rules 4 rfl fl_RX8_19 dX8_say_1 ?_
  refine g_iload_n1 5 rfl dX8_say_4 ?_
  refine g_cv1i 8 rfl cw_RX8_144 dX8_say_5 (c_X1_hasClause hx.2.1 (by omega)) (by omega) (ob_3 V) (Nat.le_of_ble_eq_true rfl) ?_
  rw [h01]
  refine gn_if_ne 13 (by decide) 11 rfl dX8_say_8 (by omega) (fun c8 => ?_) (fun c8 => absurd c8 (by decide))
  refine g_aload_n0 14 rfl dX8_say_13 ?_
  refine gf_MT_table 17 rfl fl_RX8_28 dX8_say_14 ?_
  refine g_iload_n1 18 rfl dX8_say_17 ?_
  refine g_cv1i 21 rfl cw_RX8_167 dX8_say_18 (c_X7_canBeSaid (by decide) hx (by omega)) (by omega) (ob_tb V (by omega)) (Nat.le_of_ble_eq_true rfl) ?_
  rw [hc]
  refine gn_if_ne 27 (by decide) 24 rfl dX8_say_21 (by decide) (fun c21 => absurd rfl c21) (fun c21 => ?_)
  refine g_bipush (v := 4294967293) 26 rfl dX8_say_24 (by decide) ?_
  refine g_iret .int dX8_say_26 rfl (rfl) ?_
  exact ⟨rfl, rfl⟩
theorem c_X8_say_ok {a : Nat} (hx : XI h) (ho : h.1 10 1 < 14) (hc0 : h.1 10 2 ≤ 14) (hn : a < h.1 3 3) (hc : canB (h.1 3 3) (h.1 7) (h.1 (tr 0)) a = true) : Rti V 3 yX8_say cX8_say 2 (some .int) [rf V 0, .int (nI a)] h (nI (bindR (h.1 (tr 0)) a 8)) (sR (remH h) (tr 0) (bindR (h.1 (tr 0)) a)) := by
  have h01 : (if a < h.1 3 3 then 1 else 0) = 1 := if_pos hn
  have h5 := hx.2.1
  refine Mt_in [some (rf V 0), some (.int (nI a))] (own := RX8) rfl (by decide) (Nat.le_of_ble_eq_true rfl) (fun q hq => hq) ?_
  refine g_aload_n0 1 rfl dX8_say_0 ?_
  refine gf_MT_rules 4 rfl fl_RX8_19 dX8_say_1 ?_
  refine g_iload_n1 5 rfl dX8_say_4 ?_
  refine g_cv1i 8 rfl cw_RX8_144 dX8_say_5 (c_X1_hasClause hx.2.1 (by omega)) (by omega) (ob_3 V) (Nat.le_of_ble_eq_true rfl) ?_
  rw [h01]
  refine gn_if_ne 13 (by decide) 11 rfl dX8_say_8 (by omega) (fun c8 => ?_) (fun c8 => absurd c8 (by decide))
  refine g_aload_n0 14 rfl dX8_say_13 ?_
  refine gf_MT_table 17 rfl fl_RX8_28 dX8_say_14 ?_
  refine g_iload_n1 18 rfl dX8_say_17 ?_
  refine g_cv1i 21 rfl cw_RX8_167 dX8_say_18 (c_X7_canBeSaid (by decide) hx (by omega)) (by omega) (ob_tb V (by omega)) (Nat.le_of_ble_eq_true rfl) ?_
  rw [hc]
  refine gn_if_ne 27 (by decide) 24 rfl dX8_say_21 (by decide) (fun c21 => ?_) (fun c21 => absurd c21 (by decide))
  refine g_aload_n0 28 rfl dX8_say_27 ?_
  refine gf_MT_acts 31 rfl fl_RX8_38 dX8_say_28 ?_
  refine g_aload_n0 32 rfl dX8_say_31 ?_
  refine gf_MT_table 35 rfl fl_RX8_28 dX8_say_32 ?_
  refine g_cv1v 38 rfl cw_RX8_160 dX8_say_35 (c_X0_remember hx ho hc0) (by omega) (ob_10 V) (Nat.le_of_ble_eq_true rfl) ?_
  refine g_aload_n0 39 rfl dX8_say_38 ?_
  refine gf_MT_table 42 rfl fl_RX8_28 dX8_say_39 ?_
  refine g_iload_n1 43 rfl dX8_say_42 ?_
  refine g_cv1v 46 rfl cw_RX8_170 dX8_say_43 (c_X7_bind (by decide) (by omega)) (by omega) (ob_tb V (by omega)) (Nat.le_of_ble_eq_true rfl) ?_
  rw [remH_0]
  refine g_aload_n0 47 rfl dX8_say_46 ?_
  refine gf_MT_table 50 rfl fl_RX8_28 dX8_say_47 ?_
  refine gf_Table_bound 53 rfl (by omega) fl_RX8_107 dX8_say_50 ?_
  rw [sR_s]
  refine g_iret .int dX8_say_53 rfl (rfl) ?_
  exact ⟨rfl, rfl⟩
theorem c_X8_spice_no (hn : h.1 (tr 0) 1 = 0) : Rti V 3 yX8_spice cX8_spice 1 (some .int) [rf V 0] h (nI 4294967293) h := by
  refine Mt_in [some (rf V 0)] (own := RX8) rfl (by decide) (Nat.le_of_ble_eq_true rfl) (fun q hq => hq) ?_
  refine g_aload_n0 1 rfl dX8_spice_0 ?_
  refine gf_MT_table 4 rfl fl_RX8_28 dX8_spice_1 ?_
  refine gf_Table_store 7 rfl (by omega) fl_RX8_101 dX8_spice_4 ?_
  refine gn_if_gt 13 (by decide) 10 rfl dX8_spice_7 (by omega) (fun c7 => absurd c7 (by omega)) (fun c7 => ?_)
  refine g_bipush (v := 4294967293) 12 rfl dX8_spice_10 (by decide) ?_
  refine g_iret .int dX8_spice_12 rfl (rfl) ?_
  exact ⟨rfl, rfl⟩
theorem c_X8_spice_ok (hx : XI h) (h1 : h.1 (tr 0) 1 ≤ 9) (ho : h.1 10 1 < 14) (hc : h.1 10 2 ≤ 14) (hn : ¬ h.1 (tr 0) 1 = 0) : Rti V 3 yX8_spice cX8_spice 1 (some .int) [rf V 0] h (nI (seedR (h.1 (tr 0)) 0)) (sR (remH h) (tr 0) (seedR (h.1 (tr 0)))) := by
  refine Mt_in [some (rf V 0)] (own := RX8) rfl (by decide) (Nat.le_of_ble_eq_true rfl) (fun q hq => hq) ?_
  refine g_aload_n0 1 rfl dX8_spice_0 ?_
  refine gf_MT_table 4 rfl fl_RX8_28 dX8_spice_1 ?_
  refine gf_Table_store 7 rfl (by omega) fl_RX8_101 dX8_spice_4 ?_
  refine gn_if_gt 13 (by decide) 10 rfl dX8_spice_7 (by omega) (fun c7 => ?_) (fun c7 => absurd c7 (by omega))
  refine g_aload_n0 14 rfl dX8_spice_13 ?_
  refine gf_MT_acts 17 rfl fl_RX8_38 dX8_spice_14 ?_
  refine g_aload_n0 18 rfl dX8_spice_17 ?_
  refine gf_MT_table 21 rfl fl_RX8_28 dX8_spice_18 ?_
  refine g_cv1v 24 rfl cw_RX8_160 dX8_spice_21 (c_X0_remember hx ho hc) (by omega) (ob_10 V) (Nat.le_of_ble_eq_true rfl) ?_
  refine g_aload_n0 25 rfl dX8_spice_24 ?_
  refine gf_MT_table 28 rfl fl_RX8_28 dX8_spice_25 ?_
  refine g_cv0v 31 rfl cw_RX8_173 dX8_spice_28 (c_X7_putSeed (by decide) ((XI_rem hx).2.2.2.2.2.2 0)) (by omega) (ob_tb V (by omega)) (Nat.le_of_ble_eq_true rfl) ?_
  rw [remH_0]
  refine g_aload_n0 32 rfl dX8_spice_31 ?_
  refine gf_MT_table 35 rfl fl_RX8_28 dX8_spice_32 ?_
  refine gf_Table_heat 38 rfl (by omega) fl_RX8_98 dX8_spice_35 ?_
  rw [sR_s]
  refine g_iret .int dX8_spice_38 rfl (rfl) ?_
  exact ⟨rfl, rfl⟩
theorem c_X8_bread_u {a : Nat} (hx : XI h) (ha : a < 2 ^ 32) (hn : ¬ a < h.1 3 2) : Rti V 3 yX8_bread cX8_bread 2 (some .int) [rf V 0, .int (nI a)] h (nI 4294967295) h := by
  have h01 : (if a < h.1 3 2 then 1 else 0) = 0 := if_neg hn
  refine Mt_in [some (rf V 0), some (.int (nI a))] (own := RX8) rfl (by decide) (Nat.le_of_ble_eq_true rfl) (fun q hq => hq) ?_
  refine g_aload_n0 1 rfl dX8_bread_0 ?_
  refine gf_MT_rules 4 rfl fl_RX8_19 dX8_bread_1 ?_
  refine g_iload_n1 5 rfl dX8_bread_4 ?_
  refine g_cv1i 8 rfl cw_RX8_120 dX8_bread_5 (c_X1_hasEnvoy hx.1 ha) (by omega) (ob_3 V) (Nat.le_of_ble_eq_true rfl) ?_
  rw [h01]
  refine gn_if_ne 13 (by decide) 11 rfl dX8_bread_8 (by omega) (fun c8 => absurd rfl c8) (fun c8 => ?_)
  refine g_iconst (v := 4294967295) 12 rfl dX8_bread_11 (by decide) ?_
  refine g_iret .int dX8_bread_12 rfl (rfl) ?_
  exact ⟨rfl, rfl⟩
theorem c_X8_bread_no {a : Nat} (hx : XI h) (hn : a < h.1 3 2) (hc : bt (h.1 (tr 0) 6) a = 0 ∨ ¬ bt (h.1 (tr 0) 7) a = 0) : Rti V 3 yX8_bread cX8_bread 2 (some .int) [rf V 0, .int (nI a)] h (nI 4294967293) h := by
  have h01 : (if a < h.1 3 2 then 1 else 0) = 1 := if_pos hn
  have h4 := hx.1
  have hT := hx.2.2.2.2.2.2 0
  refine Mt_in [some (rf V 0), some (.int (nI a))] (own := RX8) rfl (by decide) (Nat.le_of_ble_eq_true rfl) (fun q hq => hq) ?_
  refine g_aload_n0 1 rfl dX8_bread_0 ?_
  refine gf_MT_rules 4 rfl fl_RX8_19 dX8_bread_1 ?_
  refine g_iload_n1 5 rfl dX8_bread_4 ?_
  refine g_cv1i 8 rfl cw_RX8_120 dX8_bread_5 (c_X1_hasEnvoy hx.1 (by omega)) (by omega) (ob_3 V) (Nat.le_of_ble_eq_true rfl) ?_
  rw [h01]
  refine gn_if_ne 13 (by decide) 11 rfl dX8_bread_8 (by omega) (fun c8 => ?_) (fun c8 => absurd c8 (by decide))
  refine g_aload_n0 14 rfl dX8_bread_13 ?_
  refine gf_MT_table 17 rfl fl_RX8_28 dX8_bread_14 ?_
  refine g_iload_n1 18 rfl dX8_bread_17 ?_
  refine g_cv1i 21 rfl cw_RX8_176 dX8_bread_18 (c_X7_eats (by decide) hT (by omega)) (by omega) (ob_tb V (by omega)) (Nat.le_of_ble_eq_true rfl) ?_
  refine gn_if_eq 35 (by decide) 24 rfl dX8_bread_21 (Nat.lt_of_lt_of_le (bt_lt _ _) (by omega)) (fun c21 => ?_) (fun c21 => ?_)
  · refine g_bipush (v := 4294967293) 37 rfl dX8_bread_35 (by decide) ?_
    refine g_iret .int dX8_bread_37 rfl (rfl) ?_
    exact ⟨rfl, rfl⟩
  · refine g_aload_n0 25 rfl dX8_bread_24 ?_
    refine gf_MT_table 28 rfl fl_RX8_28 dX8_bread_25 ?_
    refine g_iload_n1 29 rfl dX8_bread_28 ?_
    refine g_cv1i 32 rfl cw_RX8_141 dX8_bread_29 (c_X7_hadBread (by decide) hT (by omega)) (by omega) (ob_tb V (by omega)) (Nat.le_of_ble_eq_true rfl) ?_
    refine gn_if_eq 38 (by decide) 35 rfl dX8_bread_32 (Nat.lt_of_lt_of_le (bt_lt _ _) (by omega)) (fun c32 => absurd c32 (by omega)) (fun c32 => ?_)
    refine g_bipush (v := 4294967293) 37 rfl dX8_bread_35 (by decide) ?_
    refine g_iret .int dX8_bread_37 rfl (rfl) ?_
    exact ⟨rfl, rfl⟩
theorem c_X8_bread_ok {a : Nat} (hx : XI h) (ho : h.1 10 1 < 14) (hc0 : h.1 10 2 ≤ 14) (hn : a < h.1 3 2) (hc : ¬ bt (h.1 (tr 0) 6) a = 0) (hc2 : bt (h.1 (tr 0) 7) a = 0) : Rti V 3 yX8_bread cX8_bread 2 (some .int) [rf V 0, .int (nI a)] h (nI (breadR (h.1 (tr 0)) a (2 + a))) (sR (remH h) (tr 0) (breadR (h.1 (tr 0)) a)) := by
  have h01 : (if a < h.1 3 2 then 1 else 0) = 1 := if_pos hn
  have h4 := hx.1
  have hT := hx.2.2.2.2.2.2 0
  refine Mt_in [some (rf V 0), some (.int (nI a))] (own := RX8) rfl (by decide) (Nat.le_of_ble_eq_true rfl) (fun q hq => hq) ?_
  refine g_aload_n0 1 rfl dX8_bread_0 ?_
  refine gf_MT_rules 4 rfl fl_RX8_19 dX8_bread_1 ?_
  refine g_iload_n1 5 rfl dX8_bread_4 ?_
  refine g_cv1i 8 rfl cw_RX8_120 dX8_bread_5 (c_X1_hasEnvoy hx.1 (by omega)) (by omega) (ob_3 V) (Nat.le_of_ble_eq_true rfl) ?_
  rw [h01]
  refine gn_if_ne 13 (by decide) 11 rfl dX8_bread_8 (by omega) (fun c8 => ?_) (fun c8 => absurd c8 (by decide))
  refine g_aload_n0 14 rfl dX8_bread_13 ?_
  refine gf_MT_table 17 rfl fl_RX8_28 dX8_bread_14 ?_
  refine g_iload_n1 18 rfl dX8_bread_17 ?_
  refine g_cv1i 21 rfl cw_RX8_176 dX8_bread_18 (c_X7_eats (by decide) hT (by omega)) (by omega) (ob_tb V (by omega)) (Nat.le_of_ble_eq_true rfl) ?_
  refine gn_if_eq 35 (by decide) 24 rfl dX8_bread_21 (Nat.lt_of_lt_of_le (bt_lt _ _) (by omega)) (fun c21 => absurd c21 hc) (fun c21 => ?_)
  refine g_aload_n0 25 rfl dX8_bread_24 ?_
  refine gf_MT_table 28 rfl fl_RX8_28 dX8_bread_25 ?_
  refine g_iload_n1 29 rfl dX8_bread_28 ?_
  refine g_cv1i 32 rfl cw_RX8_141 dX8_bread_29 (c_X7_hadBread (by decide) hT (by omega)) (by omega) (ob_tb V (by omega)) (Nat.le_of_ble_eq_true rfl) ?_
  refine gn_if_eq 38 (by decide) 35 rfl dX8_bread_32 (Nat.lt_of_lt_of_le (bt_lt _ _) (by omega)) (fun c32 => ?_) (fun c32 => absurd hc2 c32)
  refine g_aload_n0 39 rfl dX8_bread_38 ?_
  refine gf_MT_acts 42 rfl fl_RX8_38 dX8_bread_39 ?_
  refine g_aload_n0 43 rfl dX8_bread_42 ?_
  refine gf_MT_table 46 rfl fl_RX8_28 dX8_bread_43 ?_
  refine g_cv1v 49 rfl cw_RX8_160 dX8_bread_46 (c_X0_remember hx ho hc0) (by omega) (ob_10 V) (Nat.le_of_ble_eq_true rfl) ?_
  refine g_aload_n0 50 rfl dX8_bread_49 ?_
  refine gf_MT_table 53 rfl fl_RX8_28 dX8_bread_50 ?_
  refine g_iload_n1 54 rfl dX8_bread_53 ?_
  refine g_cv1v 57 rfl cw_RX8_179 dX8_bread_54 (c_X7_takeBread (by decide) ((XI_rem hx).2.2.2.2.2.2 0) (by omega)) (by omega) (ob_tb V (by omega)) (Nat.le_of_ble_eq_true rfl) ?_
  rw [remH_0]
  refine g_aload_n0 58 rfl dX8_bread_57 ?_
  refine gf_MT_table 61 rfl fl_RX8_28 dX8_bread_58 ?_
  refine gf_Table_tears 64 rfl (by omega) fl_RX8_134 dX8_bread_61 ?_
  refine g_iload_n1 65 rfl dX8_bread_64 ?_
  refine ga_tt 66 rfl (by omega) (by omega) dX8_bread_65 ?_
  rw [sR_s]
  refine g_iret .int dX8_bread_66 rfl (rfl) ?_
  exact ⟨rfl, rfl⟩
theorem c_X8_undo_no (hn : h.1 10 2 = 0) : Rti V 3 yX8_undo cX8_undo 1 (some .int) [rf V 0] h (nI 4294967293) h := by
  refine Mt_in [some (rf V 0)] (own := RX8) rfl (by decide) (Nat.le_of_ble_eq_true rfl) (fun q hq => hq) ?_
  refine g_aload_n0 1 rfl dX8_undo_0 ?_
  refine gf_MT_acts 4 rfl fl_RX8_38 dX8_undo_1 ?_
  refine gf_Acts_count 7 rfl fl_RX8_116 dX8_undo_4 ?_
  refine gn_if_gt 13 (by decide) 10 rfl dX8_undo_7 (by omega) (fun c7 => absurd c7 (by omega)) (fun c7 => ?_)
  refine g_bipush (v := 4294967293) 12 rfl dX8_undo_10 (by decide) ?_
  refine g_iret .int dX8_undo_12 rfl (rfl) ?_
  exact ⟨rfl, rfl⟩
theorem c_X8_undo_ok (hx : XI h) (ho : h.1 10 1 < 14) (hc : h.1 10 2 ≤ 14) (hn : ¬ h.1 10 2 = 0) : Rti V 3 yX8_undo cX8_undo 1 (some .int) [rf V 0] h (nI (h.1 10 2 - 1)) (tbkH h) := by
  refine Mt_in [some (rf V 0)] (own := RX8) rfl (by decide) (Nat.le_of_ble_eq_true rfl) (fun q hq => hq) ?_
  refine g_aload_n0 1 rfl dX8_undo_0 ?_
  refine gf_MT_acts 4 rfl fl_RX8_38 dX8_undo_1 ?_
  refine gf_Acts_count 7 rfl fl_RX8_116 dX8_undo_4 ?_
  refine gn_if_gt 13 (by decide) 10 rfl dX8_undo_7 (by omega) (fun c7 => ?_) (fun c7 => absurd c7 (by omega))
  refine g_aload_n0 14 rfl dX8_undo_13 ?_
  refine gf_MT_acts 17 rfl fl_RX8_38 dX8_undo_14 ?_
  refine g_aload_n0 18 rfl dX8_undo_17 ?_
  refine gf_MT_table 21 rfl fl_RX8_28 dX8_undo_18 ?_
  refine g_cv1v 24 rfl cw_RX8_182 dX8_undo_21 (c_X0_takeBack hx ho hc (by omega)) (by omega) (ob_10 V) (Nat.le_of_ble_eq_true rfl) ?_
  refine g_aload_n0 25 rfl dX8_undo_24 ?_
  refine gf_MT_acts 28 rfl fl_RX8_38 dX8_undo_25 ?_
  refine gf_Acts_count 31 rfl fl_RX8_116 dX8_undo_28 ?_
  refine g_iret .int dX8_undo_31 rfl (rfl) ?_
  refine ⟨congrArg (fun q => some (Value.int (nI q))) ?_, rfl⟩
  unfold tbkH
  rw [sR_s, up_s]
end X8a
