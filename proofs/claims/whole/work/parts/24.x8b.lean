/-! MustardTreaty: how long, what (first half) -/
def btk (E : Nat → Nat) (n : Nat) (T : Nat → Nat) : Nat → Nat → Nat
  | 0 => T
  | k + 1 => bite E n (btk E n T k)
theorem TI_btk {E T : Nat → Nat} (hT : TI T) (hE : ∀ j, E j ≤ 9) {n : Nat} (hn : n ≤ 4) : ∀ k, TI (btk E n T k)
  | 0 => hT
  | k + 1 => TI_bite (TI_btk hT hE hn k) hE hn
def tillS (E : Nat → Nat) (n : Nat) (T : Nat → Nat) (b : Nat) : Nat → Option Nat
  | 0 => none
  | k + 1 => match tillS E n T b k with
    | some q => some q
    | none => if btk E n T k 6 &&& b = 0 then some k else none
theorem tillS_mono {E : Nat → Nat} {n : Nat} {T : Nat → Nat} {b p q : Nat} (h : tillS E n T b p = some q) : ∀ m, p ≤ m → tillS E n T b m = some q
  | 0, hm => by rw [show p = 0 by omega] at h; exact h
  | m + 1, hm => by
    by_cases w : p = m + 1
    · rw [← w]; exact h
    · have := tillS_mono h m (by omega)
      simp only [tillS, this]
def tillV (E : Nat → Nat) (n : Nat) (T : Nat → Nat) (b : Nat) : Nat := match tillS E n T b 61 with
  | some q => q
  | none => 4294967287
def tillK (E : Nat → Nat) (n : Nat) (T : Nat → Nat) (b : Nat) : Nat := match tillS E n T b 61 with
  | some q => q
  | none => 61
def hotB (E : Nat → Nat) (n m : Nat) (C T : Nat → Nat) (c k : Nat) : Nat → Nat
  | 0 => 0
  | t + 1 => if canB m C (btk E n (up T 0 t) k) c then hotB E n m C T c k t ||| 1 * 2 ^ t else hotB E n m C T c k t
def hotR (E : Nat → Nat) (n : Nat) (T R : Nat → Nat) (k : Nat) : Nat → Nat → Nat
  | 0 => R
  | t + 1 => btk E n (up T 0 t) k
def sdk (T : Nat → Nat) : Nat → Nat → Nat
  | 0 => T
  | k + 1 => seedR (sdk T k)
theorem TI_sdk {T : Nat → Nat} (hT : TI T) : ∀ k, TI (sdk T k)
  | 0 => hT
  | k + 1 => TI_seed (TI_sdk hT k)
def spfS (m : Nat) (C T : Nat → Nat) (c : Nat) : Nat → Option Nat
  | 0 => none
  | k + 1 => match spfS m C T c k with
    | some q => some q
    | none => if canB m C (sdk T k) c then some k else none
theorem spfS_mono {m : Nat} {C T : Nat → Nat} {c p q : Nat} (h : spfS m C T c p = some q) : ∀ n, p ≤ n → spfS m C T c n = some q
  | 0, hn => by rw [show p = 0 by omega] at h; exact h
  | n + 1, hn => by
    by_cases w : p = n + 1
    · rw [← w]; exact h
    · have := spfS_mono h n (by omega)
      simp only [spfS, this]
def spfV (m : Nat) (C T : Nat → Nat) (c : Nat) : Nat := match spfS m C T c (T 1 + 1) with
  | some q => q
  | none => 4294967287
def spfK (m : Nat) (C T : Nat → Nat) (c : Nat) : Nat := match spfS m C T c (T 1 + 1) with
  | some q => q
  | none => T 1 + 1
section X8b
variable {V : Vt} {h : Hp}
theorem c_X8_bitesTillNoneOf {b : Nat} (hx : XI h) (hb : b < 2 ^ 31) : Rti V 4 yX8_bitesTillNoneOf cX8_bitesTillNoneOf 3 (some .int) [rf V 0, .int (nI b)] h (nI (tillV (h.1 4) (h.1 3 2) (h.1 (tr 0)) b)) (sR h (tr 1) (btk (h.1 4) (h.1 3 2) (h.1 (tr 0)) (tillK (h.1 4) (h.1 3 2) (h.1 (tr 0)) b))) := by
  obtain ⟨hE, hC, x4, x5, x7, x8, hTT⟩ := id hx
  refine Mt_in [some (rf V 0), some (.int (nI b)), none] (own := RX8) rfl (by decide) (Nat.le_of_ble_eq_true rfl) (fun q hq => hq) ?_
  refine g_aload_n0 1 rfl dX8_bitesTillNoneOf_0 ?_
  refine gf_MT_trial 4 rfl fl_RX8_32 dX8_bitesTillNoneOf_1 ?_
  refine g_aload_n0 5 rfl dX8_bitesTillNoneOf_4 ?_
  refine gf_MT_table 8 rfl fl_RX8_28 dX8_bitesTillNoneOf_5 ?_
  refine g_cv1v 11 rfl cw_RX8_188 dX8_bitesTillNoneOf_8 (c_X7_copyFrom (by decide) (by decide) (by decide) hx) (by omega) (ob_tb V (by omega)) (Nat.le_of_ble_eq_true rfl) ?_
  refine g_iconst (v := 0) 12 rfl dX8_bitesTillNoneOf_11 (by decide) ?_
  refine g_istore_n2 13 rfl dX8_bitesTillNoneOf_12 (by decide) rfl ?_
  skip
  refine loop_up (P := fun k => tillS (h.1 4) (h.1 3 2) (h.1 (tr 0)) b k = none → G V T0 4 RX8 cX8_bitesTillNoneOf 3 (some .int) 13 [some (rf V 0), some (.int (nI b)), some (.int (nI k))] [] (sR h (tr 1) (btk (h.1 4) (h.1 3 2) (h.1 (tr 0)) k)) _) (n := 61) ?_ (fun k hk ih => ?_) 0 (Nat.zero_le _) rfl
  · intro hf
    refine g_iload_n2 14 rfl dX8_bitesTillNoneOf_13 ?_
    refine g_bipush (v := 60) 16 rfl dX8_bitesTillNoneOf_14 (by decide) ?_
    refine gn_icmp_gt 46 (by decide) 19 rfl dX8_bitesTillNoneOf_16 (by omega) (by omega) (fun c16 => ?_) (fun c16 => absurd c16 (by omega))
    refine g_bipush (v := 4294967287) 48 rfl dX8_bitesTillNoneOf_46 (by decide) ?_
    refine g_iret .int dX8_bitesTillNoneOf_48 rfl (rfl) ?_
    exact ⟨by unfold tillV; rw [hf], by unfold tillK; rw [hf]⟩
  · intro hf
    have hN := TI_btk (hTT 0) x4 hE k
    have h6 := hN.2.2.1
    have hx2 := XI_tr hx (i := 1) hN
    have hle : btk (h.1 4) (h.1 3 2) (h.1 (tr 0)) k 6 &&& b ≤ btk (h.1 4) (h.1 3 2) (h.1 (tr 0)) k 6 := Nat.and_le_left
    refine g_iload_n2 14 rfl dX8_bitesTillNoneOf_13 ?_
    refine g_bipush (v := 60) 16 rfl dX8_bitesTillNoneOf_14 (by decide) ?_
    refine gn_icmp_gt 46 (by decide) 19 rfl dX8_bitesTillNoneOf_16 (by omega) (by omega) (fun c16 => absurd c16 (by omega)) (fun c16 => ?_)
    refine g_aload_n0 20 rfl dX8_bitesTillNoneOf_19 ?_
    refine gf_MT_trial 23 rfl fl_RX8_32 dX8_bitesTillNoneOf_20 ?_
    refine gf_Table_eating 26 rfl (by omega) fl_RX8_104 dX8_bitesTillNoneOf_23 ?_
    rw [sR_s]
    refine g_iload_n1 27 rfl dX8_bitesTillNoneOf_26 ?_
    refine gn_iand 28 rfl dX8_bitesTillNoneOf_27 ?_
    refine gn_if_ne 33 (by decide) 31 rfl dX8_bitesTillNoneOf_28 (by omega) (fun c28 => ?_) (fun c28 => ?_)
    · refine g_aload_n0 34 rfl dX8_bitesTillNoneOf_33 ?_
      refine gf_MT_trial 37 rfl fl_RX8_32 dX8_bitesTillNoneOf_34 ?_
      refine g_cv0v 40 rfl cw_RX8_164 dX8_bitesTillNoneOf_37 (c_X7_takeBite (by decide) hx2) (by omega) (ob_tb V (by omega)) (Nat.le_of_ble_eq_true rfl) ?_
      refine gn_iinc2 1 43 rfl dX8_bitesTillNoneOf_40 rfl (by decide) rfl ?_
      refine g_goto 13 (by decide) dX8_bitesTillNoneOf_43 ?_
      have q : tillS (h.1 4) (h.1 3 2) (h.1 (tr 0)) b (k + 1) = none := by simp only [tillS, hf]; exact if_neg c28
      rw [sR_sR, sR_s, sR_t4, sR_t3]
      exact ih q
    · refine g_iload_n2 32 rfl dX8_bitesTillNoneOf_31 ?_
      refine g_iret .int dX8_bitesTillNoneOf_32 rfl (rfl) ?_
      have q : tillS (h.1 4) (h.1 3 2) (h.1 (tr 0)) b (k + 1) = some k := by simp only [tillS, hf]; exact if_pos c28
      have q := tillS_mono q 61 (by omega)
      exact ⟨by unfold tillV; rw [q], by unfold tillK; rw [q]⟩
theorem c_X8_lasts (hx : XI h) : Rti V 5 yX8_lasts cX8_lasts 2 (some .int) [rf V 0] h (nI (tillV (h.1 4) (h.1 3 2) (h.1 (tr 0)) 15)) (sR h (tr 1) (btk (h.1 4) (h.1 3 2) (h.1 (tr 0)) (tillK (h.1 4) (h.1 3 2) (h.1 (tr 0)) 15))) := by
  refine Mt_in [some (rf V 0), none] (own := RX8) rfl (by decide) (Nat.le_of_ble_eq_true rfl) (fun q hq => hq) ?_
  refine g_bipush (v := 15) 2 rfl dX8_lasts_0 (by decide) ?_
  refine g_istore_n1 3 rfl dX8_lasts_2 (by decide) rfl ?_
  refine g_aload_n0 4 rfl dX8_lasts_3 ?_
  refine g_iload_n1 5 rfl dX8_lasts_4 ?_
  refine g_cv1i 8 rfl cw_RX8_185 dX8_lasts_5 (c_X8_bitesTillNoneOf hx (by decide)) (by omega) (ob_0 V) (Nat.le_of_ble_eq_true rfl) ?_
  refine g_iret .int dX8_lasts_8 rfl (rfl) ?_
  exact ⟨rfl, rfl⟩
theorem c_X8_bears_u {a : Nat} (hx : XI h) (ha : a < 2 ^ 32) (hn : ¬ a < h.1 3 2) : Rti V 5 yX8_bears cX8_bears 2 (some .int) [rf V 0, .int (nI a)] h (nI 4294967295) h := by
  have h01 : (if a < h.1 3 2 then 1 else 0) = 0 := if_neg hn
  refine Mt_in [some (rf V 0), some (.int (nI a))] (own := RX8) rfl (by decide) (Nat.le_of_ble_eq_true rfl) (fun q hq => hq) ?_
  refine g_aload_n0 1 rfl dX8_bears_0 ?_
  refine gf_MT_rules 4 rfl fl_RX8_19 dX8_bears_1 ?_
  refine g_iload_n1 5 rfl dX8_bears_4 ?_
  refine g_cv1i 8 rfl cw_RX8_120 dX8_bears_5 (c_X1_hasEnvoy hx.1 ha) (by omega) (ob_3 V) (Nat.le_of_ble_eq_true rfl) ?_
  rw [h01]
  refine gn_if_ne 13 (by decide) 11 rfl dX8_bears_8 (by omega) (fun c8 => absurd rfl c8) (fun c8 => ?_)
  refine g_iconst (v := 4294967295) 12 rfl dX8_bears_11 (by decide) ?_
  refine g_iret .int dX8_bears_12 rfl (rfl) ?_
  exact ⟨rfl, rfl⟩
theorem c_X8_bears_no {a : Nat} (hx : XI h) (hn : a < h.1 3 2) (hc : bt (h.1 (tr 0) 6) a = 0) : Rti V 5 yX8_bears cX8_bears 2 (some .int) [rf V 0, .int (nI a)] h (nI 4294967293) h := by
  have h01 : (if a < h.1 3 2 then 1 else 0) = 1 := if_pos hn
  have h4 := hx.1
  refine Mt_in [some (rf V 0), some (.int (nI a))] (own := RX8) rfl (by decide) (Nat.le_of_ble_eq_true rfl) (fun q hq => hq) ?_
  refine g_aload_n0 1 rfl dX8_bears_0 ?_
  refine gf_MT_rules 4 rfl fl_RX8_19 dX8_bears_1 ?_
  refine g_iload_n1 5 rfl dX8_bears_4 ?_
  refine g_cv1i 8 rfl cw_RX8_120 dX8_bears_5 (c_X1_hasEnvoy hx.1 (by omega)) (by omega) (ob_3 V) (Nat.le_of_ble_eq_true rfl) ?_
  rw [h01]
  refine gn_if_ne 13 (by decide) 11 rfl dX8_bears_8 (by omega) (fun c8 => ?_) (fun c8 => absurd c8 (by decide))
  refine g_aload_n0 14 rfl dX8_bears_13 ?_
  refine gf_MT_table 17 rfl fl_RX8_28 dX8_bears_14 ?_
  refine g_iload_n1 18 rfl dX8_bears_17 ?_
  refine g_cv1i 21 rfl cw_RX8_176 dX8_bears_18 (c_X7_eats (by decide) (hx.2.2.2.2.2.2 0) (by omega)) (by omega) (ob_tb V (by omega)) (Nat.le_of_ble_eq_true rfl) ?_
  refine gn_if_ne 27 (by decide) 24 rfl dX8_bears_21 (Nat.lt_of_lt_of_le (bt_lt _ _) (by omega)) (fun c21 => absurd hc c21) (fun c21 => ?_)
  refine g_bipush (v := 4294967293) 26 rfl dX8_bears_24 (by decide) ?_
  refine g_iret .int dX8_bears_26 rfl (rfl) ?_
  exact ⟨rfl, rfl⟩
theorem c_X8_bears_ok {a : Nat} (hx : XI h) (hn : a < h.1 3 2) (hc : ¬ bt (h.1 (tr 0) 6) a = 0) : Rti V 5 yX8_bears cX8_bears 2 (some .int) [rf V 0, .int (nI a)] h (nI (tillV (h.1 4) (h.1 3 2) (h.1 (tr 0)) (1 * 2 ^ a))) (sR h (tr 1) (btk (h.1 4) (h.1 3 2) (h.1 (tr 0)) (tillK (h.1 4) (h.1 3 2) (h.1 (tr 0)) (1 * 2 ^ a)))) := by
  have h01 : (if a < h.1 3 2 then 1 else 0) = 1 := if_pos hn
  have h4 := hx.1
  have hp : 1 * 2 ^ a < 2 ^ 31 := by rw [Nat.one_mul]; exact Nat.pow_lt_pow_right (by decide) (by omega)
  refine Mt_in [some (rf V 0), some (.int (nI a))] (own := RX8) rfl (by decide) (Nat.le_of_ble_eq_true rfl) (fun q hq => hq) ?_
  refine g_aload_n0 1 rfl dX8_bears_0 ?_
  refine gf_MT_rules 4 rfl fl_RX8_19 dX8_bears_1 ?_
  refine g_iload_n1 5 rfl dX8_bears_4 ?_
  refine g_cv1i 8 rfl cw_RX8_120 dX8_bears_5 (c_X1_hasEnvoy hx.1 (by omega)) (by omega) (ob_3 V) (Nat.le_of_ble_eq_true rfl) ?_
  rw [h01]
  refine gn_if_ne 13 (by decide) 11 rfl dX8_bears_8 (by omega) (fun c8 => ?_) (fun c8 => absurd c8 (by decide))
  refine g_aload_n0 14 rfl dX8_bears_13 ?_
  refine gf_MT_table 17 rfl fl_RX8_28 dX8_bears_14 ?_
  refine g_iload_n1 18 rfl dX8_bears_17 ?_
  refine g_cv1i 21 rfl cw_RX8_176 dX8_bears_18 (c_X7_eats (by decide) (hx.2.2.2.2.2.2 0) (by omega)) (by omega) (ob_tb V (by omega)) (Nat.le_of_ble_eq_true rfl) ?_
  refine gn_if_ne 27 (by decide) 24 rfl dX8_bears_21 (Nat.lt_of_lt_of_le (bt_lt _ _) (by omega)) (fun c21 => ?_) (fun c21 => absurd c21 hc)
  refine g_aload_n0 28 rfl dX8_bears_27 ?_
  refine g_iconst (v := 1) 29 rfl dX8_bears_28 (by decide) ?_
  refine g_iload_n1 30 rfl dX8_bears_29 ?_
  refine gn_ishl 31 rfl dX8_bears_30 (by omega) ?_
  refine g_cv1i 34 rfl cw_RX8_185 dX8_bears_31 (c_X8_bitesTillNoneOf hx hp) (by omega) (ob_0 V) (Nat.le_of_ble_eq_true rfl) ?_
  refine g_iret .int dX8_bears_34 rfl (rfl) ?_
  exact ⟨rfl, rfl⟩
theorem c_X8_best_bad {a r : Nat} (ha : a < 2 ^ 32) (hn : ¬ (1 ≤ a ∧ a ≤ 5)) : Rti V 11 yX8_best cX8_best 4 (some .int) [rf V 0, .int (nI a), .int (nI r)] h (nI 4294967294) h := by
  refine Mt_in [some (rf V 0), some (.int (nI a)), some (.int (nI r)), none] (own := RX8) rfl (by decide) (Nat.le_of_ble_eq_true rfl) (fun q hq => hq) ?_
  by_cases hs : a < 2 ^ 31
  · refine g_iload_n1 1 rfl dX8_best_0 ?_
    refine g_iconst (v := 1) 2 rfl dX8_best_1 (by decide) ?_
    refine gn_icmp_lt 10 (by decide) 5 rfl dX8_best_2 (by omega) (by omega) (fun c2 => ?_) (fun c2 => ?_)
    · refine g_bipush (v := 4294967294) 12 rfl dX8_best_10 (by decide) ?_
      refine g_iret .int dX8_best_12 rfl (rfl) ?_
      exact ⟨rfl, rfl⟩
    · refine g_iload_n1 6 rfl dX8_best_5 ?_
      refine g_iconst (v := 5) 7 rfl dX8_best_6 (by decide) ?_
      refine gn_icmp_le 13 (by decide) 10 rfl dX8_best_7 (by omega) (by omega) (fun c7 => absurd c7 (by omega)) (fun c7 => ?_)
      refine g_bipush (v := 4294967294) 12 rfl dX8_best_10 (by decide) ?_
      refine g_iret .int dX8_best_12 rfl (rfl) ?_
      exact ⟨rfl, rfl⟩
  · refine g_iload_n1 1 rfl dX8_best_0 ?_
    refine g_iconst (v := 1) 2 rfl dX8_best_1 (by decide) ?_
    refine g_icmp_lt 10 (by decide) 5 rfl dX8_best_2 (fun c2 => ?_) (fun c2 => absurd (show nI a < nI 1 from Int32.lt_of_lt_of_le (nI_ng (by omega) ha) (by decide +kernel)) c2)
    refine g_bipush (v := 4294967294) 12 rfl dX8_best_10 (by decide) ?_
    refine g_iret .int dX8_best_12 rfl (rfl) ?_
    exact ⟨rfl, rfl⟩
theorem c_X8_best_ok {a r : Nat} (hx : XI h) (h1 : 1 ≤ a) (h5 : a ≤ 5) (hr : r < 2) : Rti V 11 yX8_best cX8_best 4 (some .int) [rf V 0, .int (nI a), .int (nI r)] h (nI ((mstH h a 31).1 19 (if r = 0 then 4 else 5))) (mstH h a 31) := by
  refine Mt_in [some (rf V 0), some (.int (nI a)), some (.int (nI r)), none] (own := RX8) rfl (by decide) (Nat.le_of_ble_eq_true rfl) (fun q hq => hq) ?_
  refine g_iload_n1 1 rfl dX8_best_0 ?_
  refine g_iconst (v := 1) 2 rfl dX8_best_1 (by decide) ?_
  refine gn_icmp_lt 10 (by decide) 5 rfl dX8_best_2 (by omega) (by omega) (fun c2 => absurd c2 (by omega)) (fun c2 => ?_)
  refine g_iload_n1 6 rfl dX8_best_5 ?_
  refine g_iconst (v := 5) 7 rfl dX8_best_6 (by decide) ?_
  refine gn_icmp_le 13 (by decide) 10 rfl dX8_best_7 (by omega) (by omega) (fun c7 => ?_) (fun c7 => absurd c7 (by omega))
  refine g_aload_n0 14 rfl dX8_best_13 ?_
  refine gf_MT_search 17 rfl fl_RX8_59 dX8_best_14 ?_
  refine g_aload_n0 18 rfl dX8_best_17 ?_
  refine gf_MT_table 21 rfl fl_RX8_28 dX8_best_18 ?_
  refine g_iload_n1 22 rfl dX8_best_21 ?_
  refine g_bipush (v := 31) 24 rfl dX8_best_22 (by decide) ?_
  refine g_cv3i 27 rfl cw_RX8_191 dX8_best_24 (c_X3_mostBy hx h5 (by decide)) (by omega) (ob_19 V) (Nat.le_of_ble_eq_true rfl) ?_
  refine g_istore_n3 28 rfl dX8_best_27 (by decide) rfl ?_
  refine g_iload_n2 29 rfl dX8_best_28 ?_
  refine gn_if_eq 42 (by decide) 32 rfl dX8_best_29 (by omega) (fun c29 => ?_) (fun c29 => ?_)
  · refine g_iload_n3 43 rfl dX8_best_42 ?_
    refine g_iret .int dX8_best_43 rfl (rfl) ?_
    first | (rw [if_pos c29]; exact ⟨rfl, rfl⟩) | (rw [if_neg c29]; exact ⟨rfl, rfl⟩)
  · refine g_aload_n0 33 rfl dX8_best_32 ?_
    refine gf_MT_search 36 rfl fl_RX8_59 dX8_best_33 ?_
    refine gf_Search_bestRow 39 rfl fl_RX8_195 dX8_best_36 ?_
    refine g_goto 43 (by decide) dX8_best_39 ?_
    refine g_iret .int dX8_best_43 rfl (rfl) ?_
    first | (rw [if_pos c29]; exact ⟨rfl, rfl⟩) | (rw [if_neg c29]; exact ⟨rfl, rfl⟩)
theorem c_X8_canBeSaidFrom {t c k : Nat} (hx : XI h) (ht : t ≤ 9) (hc : c < 5) (hk : k ≤ 9) : Rti V 4 yX8_canBeSaidFrom cX8_canBeSaidFrom 5 (some .boolean) [rf V 0, .int (nI t), .int (nI c), .int (nI k)] h (nI (canB (h.1 3 3) (h.1 7) (btk (h.1 4) (h.1 3 2) (up (h.1 (tr 0)) 0 t) k) c).toNat) (sR h (tr 1) (btk (h.1 4) (h.1 3 2) (up (h.1 (tr 0)) 0 t) k)) := by
  obtain ⟨hE, hC, x4, x5, x7, x8, hTT⟩ := id hx
  have hT0 := TI_up0 (hTT 0) ht
  refine Mt_in [some (rf V 0), some (.int (nI t)), some (.int (nI c)), some (.int (nI k)), none] (own := RX8) rfl (by decide) (Nat.le_of_ble_eq_true rfl) (fun q hq => hq) ?_
  refine g_aload_n0 1 rfl dX8_canBeSaidFrom_0 ?_
  refine gf_MT_trial 4 rfl fl_RX8_32 dX8_canBeSaidFrom_1 ?_
  refine g_aload_n0 5 rfl dX8_canBeSaidFrom_4 ?_
  refine gf_MT_table 8 rfl fl_RX8_28 dX8_canBeSaidFrom_5 ?_
  refine g_cv1v 11 rfl cw_RX8_188 dX8_canBeSaidFrom_8 (c_X7_copyFrom (by decide) (by decide) (by decide) hx) (by omega) (ob_tb V (by omega)) (Nat.le_of_ble_eq_true rfl) ?_
  refine g_aload_n0 12 rfl dX8_canBeSaidFrom_11 ?_
  refine gf_MT_trial 15 rfl fl_RX8_32 dX8_canBeSaidFrom_12 ?_
  refine g_iload_n1 16 rfl dX8_canBeSaidFrom_15 ?_
  refine gp_Table_heat 19 rfl (by omega) fl_RX8_98 dX8_canBeSaidFrom_16 ?_
  rw [sR_s, sR_sR]
  refine g_iconst (v := 0) 20 rfl dX8_canBeSaidFrom_19 (by decide) ?_
  refine g_istore4 22 rfl dX8_canBeSaidFrom_20 (by decide) rfl ?_
  skip
  refine loop_up (P := fun i => G V T0 4 RX8 cX8_canBeSaidFrom 5 (some .boolean) 22 [some (rf V 0), some (.int (nI t)), some (.int (nI c)), some (.int (nI k)), some (.int (nI i))] [] (sR h (tr 1) (btk (h.1 4) (h.1 3 2) (up (h.1 (tr 0)) 0 t) i)) _) (n := k) ?_ (fun i hi ih => ?_) 0 (Nat.zero_le _)
  · have hx2 := XI_tr hx (i := 1) (TI_btk hT0 x4 hE k)
    refine g_iload4 24 rfl dX8_canBeSaidFrom_22 ?_
    refine g_iload_n3 25 rfl dX8_canBeSaidFrom_24 ?_
    refine gn_icmp_ge 41 (by decide) 28 rfl dX8_canBeSaidFrom_25 (by omega) (by omega) (fun c25 => ?_) (fun c25 => absurd c25 (Nat.lt_irrefl _))
    refine g_aload_n0 42 rfl dX8_canBeSaidFrom_41 ?_
    refine gf_MT_trial 45 rfl fl_RX8_32 dX8_canBeSaidFrom_42 ?_
    refine g_iload_n2 46 rfl dX8_canBeSaidFrom_45 ?_
    refine g_cv1i 49 rfl cw_RX8_167 dX8_canBeSaidFrom_46 (c_X7_canBeSaid (by decide) hx2 hc) (by omega) (ob_tb V (by omega)) (Nat.le_of_ble_eq_true rfl) ?_
    rw [sR_s, sR_t3, sR_t7]
    refine g_iret .boolean dX8_canBeSaidFrom_49 rfl (nar2 (Bool.toNat_lt _)) ?_
    exact ⟨rfl, rfl⟩
  · have hx2 := XI_tr hx (i := 1) (TI_btk hT0 x4 hE i)
    refine g_iload4 24 rfl dX8_canBeSaidFrom_22 ?_
    refine g_iload_n3 25 rfl dX8_canBeSaidFrom_24 ?_
    refine gn_icmp_ge 41 (by decide) 28 rfl dX8_canBeSaidFrom_25 (by omega) (by omega) (fun c25 => absurd c25 (Nat.not_le_of_lt hi)) (fun c25 => ?_)
    refine g_aload_n0 29 rfl dX8_canBeSaidFrom_28 ?_
    refine gf_MT_trial 32 rfl fl_RX8_32 dX8_canBeSaidFrom_29 ?_
    refine g_cv0v 35 rfl cw_RX8_164 dX8_canBeSaidFrom_32 (c_X7_takeBite (by decide) hx2) (by omega) (ob_tb V (by omega)) (Nat.le_of_ble_eq_true rfl) ?_
    refine gn_iinc4 1 38 rfl dX8_canBeSaidFrom_35 rfl (by decide) rfl ?_
    refine g_goto 22 (by decide) dX8_canBeSaidFrom_38 ?_
    rw [sR_sR, sR_s, sR_t4, sR_t3]
    exact ih
theorem c_X8_hot_u {a k : Nat} (hx : XI h) (ha : a < 2 ^ 32) (hn : ¬ a < h.1 3 3) : Rti V 5 yX8_hot cX8_hot 5 (some .int) [rf V 0, .int (nI a), .int (nI k)] h (nI 4294967295) h := by
  have h01 : (if a < h.1 3 3 then 1 else 0) = 0 := if_neg hn
  refine Mt_in [some (rf V 0), some (.int (nI a)), some (.int (nI k)), none, none] (own := RX8) rfl (by decide) (Nat.le_of_ble_eq_true rfl) (fun q hq => hq) ?_
  refine g_aload_n0 1 rfl dX8_hot_0 ?_
  refine gf_MT_rules 4 rfl fl_RX8_19 dX8_hot_1 ?_
  refine g_iload_n1 5 rfl dX8_hot_4 ?_
  refine g_cv1i 8 rfl cw_RX8_144 dX8_hot_5 (c_X1_hasClause hx.2.1 ha) (by omega) (ob_3 V) (Nat.le_of_ble_eq_true rfl) ?_
  rw [h01]
  refine gn_if_ne 13 (by decide) 11 rfl dX8_hot_8 (by omega) (fun c8 => absurd rfl c8) (fun c8 => ?_)
  refine g_iconst (v := 4294967295) 12 rfl dX8_hot_11 (by decide) ?_
  refine g_iret .int dX8_hot_12 rfl (rfl) ?_
  exact ⟨rfl, rfl⟩
theorem c_X8_hot_bad {a k : Nat} (hx : XI h) (hn : a < h.1 3 3) (hk : k < 2 ^ 32) (hb : ¬ k ≤ 9) : Rti V 5 yX8_hot cX8_hot 5 (some .int) [rf V 0, .int (nI a), .int (nI k)] h (nI 4294967294) h := by
  have h01 : (if a < h.1 3 3 then 1 else 0) = 1 := if_pos hn
  have h5 := hx.2.1
  refine Mt_in [some (rf V 0), some (.int (nI a)), some (.int (nI k)), none, none] (own := RX8) rfl (by decide) (Nat.le_of_ble_eq_true rfl) (fun q hq => hq) ?_
  by_cases hs : k < 2 ^ 31
  · refine g_aload_n0 1 rfl dX8_hot_0 ?_
    refine gf_MT_rules 4 rfl fl_RX8_19 dX8_hot_1 ?_
    refine g_iload_n1 5 rfl dX8_hot_4 ?_
    refine g_cv1i 8 rfl cw_RX8_144 dX8_hot_5 (c_X1_hasClause hx.2.1 (by omega)) (by omega) (ob_3 V) (Nat.le_of_ble_eq_true rfl) ?_
    rw [h01]
    refine gn_if_ne 13 (by decide) 11 rfl dX8_hot_8 (by omega) (fun c8 => ?_) (fun c8 => absurd c8 (by decide))
    refine g_iload_n2 14 rfl dX8_hot_13 ?_
    refine gn_if_lt 23 (by decide) 17 rfl dX8_hot_14 (by omega) (fun c => c.elim) (fun _ => ?_)
    refine g_iload_n2 18 rfl dX8_hot_17 ?_
    refine g_bipush (v := 9) 20 rfl dX8_hot_18 (by decide) ?_
    refine gn_icmp_le 26 (by decide) 23 rfl dX8_hot_20 (by omega) (by omega) (fun c20 => absurd c20 (by omega)) (fun c20 => ?_)
    refine g_bipush (v := 4294967294) 25 rfl dX8_hot_23 (by decide) ?_
    refine g_iret .int dX8_hot_25 rfl (rfl) ?_
    exact ⟨rfl, rfl⟩
  · refine g_aload_n0 1 rfl dX8_hot_0 ?_
    refine gf_MT_rules 4 rfl fl_RX8_19 dX8_hot_1 ?_
    refine g_iload_n1 5 rfl dX8_hot_4 ?_
    refine g_cv1i 8 rfl cw_RX8_144 dX8_hot_5 (c_X1_hasClause hx.2.1 (by omega)) (by omega) (ob_3 V) (Nat.le_of_ble_eq_true rfl) ?_
    rw [h01]
    refine gn_if_ne 13 (by decide) 11 rfl dX8_hot_8 (by omega) (fun c8 => ?_) (fun c8 => absurd c8 (by decide))
    refine g_iload_n2 14 rfl dX8_hot_13 ?_
    refine g_if_lt 23 (by decide) 17 rfl dX8_hot_14 (fun c14 => ?_) (fun c14 => absurd (nI_ng (by omega) hk) c14)
    refine g_bipush (v := 4294967294) 25 rfl dX8_hot_23 (by decide) ?_
    refine g_iret .int dX8_hot_25 rfl (rfl) ?_
    exact ⟨rfl, rfl⟩
theorem c_X8_hot_ok {a k : Nat} (hx : XI h) (hn : a < h.1 3 3) (hk : k ≤ 9) : Rti V 5 yX8_hot cX8_hot 5 (some .int) [rf V 0, .int (nI a), .int (nI k)] h (nI (hotB (h.1 4) (h.1 3 2) (h.1 3 3) (h.1 7) (h.1 (tr 0)) a k 10)) (sR h (tr 1) (hotR (h.1 4) (h.1 3 2) (h.1 (tr 0)) (h.1 (tr 1)) k 10)) := by
  have h01 : (if a < h.1 3 3 then 1 else 0) = 1 := if_pos hn
  obtain ⟨hE, hC, x4, x5, x7, x8, hTT⟩ := id hx
  refine Mt_in [some (rf V 0), some (.int (nI a)), some (.int (nI k)), none, none] (own := RX8) rfl (by decide) (Nat.le_of_ble_eq_true rfl) (fun q hq => hq) ?_
  refine g_aload_n0 1 rfl dX8_hot_0 ?_
  refine gf_MT_rules 4 rfl fl_RX8_19 dX8_hot_1 ?_
  refine g_iload_n1 5 rfl dX8_hot_4 ?_
  refine g_cv1i 8 rfl cw_RX8_144 dX8_hot_5 (c_X1_hasClause hx.2.1 (by omega)) (by omega) (ob_3 V) (Nat.le_of_ble_eq_true rfl) ?_
  rw [h01]
  refine gn_if_ne 13 (by decide) 11 rfl dX8_hot_8 (by omega) (fun c8 => ?_) (fun c8 => absurd c8 (by decide))
  refine g_iload_n2 14 rfl dX8_hot_13 ?_
  refine gn_if_lt 23 (by decide) 17 rfl dX8_hot_14 (by omega) (fun c => c.elim) (fun _ => ?_)
  refine g_iload_n2 18 rfl dX8_hot_17 ?_
  refine g_bipush (v := 9) 20 rfl dX8_hot_18 (by decide) ?_
  refine gn_icmp_le 26 (by decide) 23 rfl dX8_hot_20 (by omega) (by omega) (fun c20 => ?_) (fun c20 => absurd c20 (by omega))
  refine g_iconst (v := 0) 27 rfl dX8_hot_26 (by decide) ?_
  refine g_istore_n3 28 rfl dX8_hot_27 (by decide) rfl ?_
  refine g_iconst (v := 0) 29 rfl dX8_hot_28 (by decide) ?_
  refine g_istore4 31 rfl dX8_hot_29 (by decide) rfl ?_
  skip
  refine g_heap (sR_same h (tr 1)).symm ?_
  refine loop_up (P := fun t => G V T0 5 RX8 cX8_hot 5 (some .int) 31 [some (rf V 0), some (.int (nI a)), some (.int (nI k)), some (.int (nI (hotB (h.1 4) (h.1 3 2) (h.1 3 3) (h.1 7) (h.1 (tr 0)) a k t))), some (.int (nI t))] [] (sR h (tr 1) (hotR (h.1 4) (h.1 3 2) (h.1 (tr 0)) (h.1 (tr 1)) k t)) _) (n := 10) ?_ (fun t ht ih => ?_) 0 (Nat.zero_le _)
  · refine g_iload4 33 rfl dX8_hot_31 ?_
    refine g_bipush (v := 9) 35 rfl dX8_hot_33 (by decide) ?_
    refine gn_icmp_gt 62 (by decide) 38 rfl dX8_hot_35 (by omega) (by omega) (fun c35 => ?_) (fun c35 => absurd c35 (by omega))
    refine g_iload_n3 63 rfl dX8_hot_62 ?_
    refine g_iret .int dX8_hot_63 rfl (rfl) ?_
    exact ⟨rfl, rfl⟩
  · have hTt : TI (hotR (h.1 4) (h.1 3 2) (h.1 (tr 0)) (h.1 (tr 1)) k t) := by
      cases t with
      | zero => exact hTT 1
      | succ t => exact TI_btk (TI_up0 (hTT 0) (by omega)) x4 hE k
    have hx2 := XI_tr hx (i := 1) hTt
    refine g_iload4 33 rfl dX8_hot_31 ?_
    refine g_bipush (v := 9) 35 rfl dX8_hot_33 (by decide) ?_
    refine gn_icmp_gt 62 (by decide) 38 rfl dX8_hot_35 (by omega) (by omega) (fun c35 => absurd c35 (by omega)) (fun c35 => ?_)
    refine g_aload_n0 39 rfl dX8_hot_38 ?_
    refine g_iload4 41 rfl dX8_hot_39 ?_
    refine g_iload_n1 42 rfl dX8_hot_41 ?_
    refine g_iload_n2 43 rfl dX8_hot_42 ?_
    refine g_cv3i 46 rfl cw_RX8_198 dX8_hot_43 (c_X8_canBeSaidFrom hx2 (by omega) (by omega) hk) (by omega) (ob_0 V) (Nat.le_of_ble_eq_true rfl) ?_
    rw [sR_sR, sR_t3, sR_t4, sR_t7, sR_n (tr_ne (by decide))]
    refine gn_if_eq 56 (by decide) 49 rfl dX8_hot_46 (Nat.lt_of_lt_of_le (Bool.toNat_lt _) (by omega)) (fun c46 => ?_) (fun c46 => ?_)
    · refine gn_iinc4 1 59 rfl dX8_hot_56 rfl (by decide) rfl ?_
      refine g_goto 31 (by decide) dX8_hot_59 ?_
      first | (rw [show hotB _ _ _ _ _ _ _ (t + 1) = _ from if_neg (by simpa using c46)] at ih; exact ih) | (rw [show hotB _ _ _ _ _ _ _ (t + 1) = _ from if_pos (by simpa using c46)] at ih; exact ih)
    · refine g_iload_n3 50 rfl dX8_hot_49 ?_
      refine g_iconst (v := 1) 51 rfl dX8_hot_50 (by decide) ?_
      refine g_iload4 53 rfl dX8_hot_51 ?_
      refine gn_ishl 54 rfl dX8_hot_53 (by omega) ?_
      refine gn_ior 55 rfl dX8_hot_54 ?_
      refine g_istore_n3 56 rfl dX8_hot_55 (by decide) rfl ?_
      refine gn_iinc4 1 59 rfl dX8_hot_56 rfl (by decide) rfl ?_
      refine g_goto 31 (by decide) dX8_hot_59 ?_
      first | (rw [show hotB _ _ _ _ _ _ _ (t + 1) = _ from if_neg (by simpa using c46)] at ih; exact ih) | (rw [show hotB _ _ _ _ _ _ _ (t + 1) = _ from if_pos (by simpa using c46)] at ih; exact ih)
theorem c_X8_spiceFor_u {a : Nat} (hx : XI h) (ha : a < 2 ^ 32) (hn : ¬ a < h.1 3 3) : Rti V 3 yX8_spiceFor cX8_spiceFor 3 (some .int) [rf V 0, .int (nI a)] h (nI 4294967295) h := by
  have h01 : (if a < h.1 3 3 then 1 else 0) = 0 := if_neg hn
  refine Mt_in [some (rf V 0), some (.int (nI a)), none] (own := RX8) rfl (by decide) (Nat.le_of_ble_eq_true rfl) (fun q hq => hq) ?_
  refine g_aload_n0 1 rfl dX8_spiceFor_0 ?_
  refine gf_MT_rules 4 rfl fl_RX8_19 dX8_spiceFor_1 ?_
  refine g_iload_n1 5 rfl dX8_spiceFor_4 ?_
  refine g_cv1i 8 rfl cw_RX8_144 dX8_spiceFor_5 (c_X1_hasClause hx.2.1 ha) (by omega) (ob_3 V) (Nat.le_of_ble_eq_true rfl) ?_
  rw [h01]
  refine gn_if_ne 13 (by decide) 11 rfl dX8_spiceFor_8 (by omega) (fun c8 => absurd rfl c8) (fun c8 => ?_)
  refine g_iconst (v := 4294967295) 12 rfl dX8_spiceFor_11 (by decide) ?_
  refine g_iret .int dX8_spiceFor_12 rfl (rfl) ?_
  exact ⟨rfl, rfl⟩
theorem c_X8_spiceFor_no {a : Nat} (hx : XI h) (hn : a < h.1 3 3) (hb : ¬ bt (h.1 (tr 0) 8) a = 0) : Rti V 3 yX8_spiceFor cX8_spiceFor 3 (some .int) [rf V 0, .int (nI a)] h (nI 4294967293) h := by
  have h01 : (if a < h.1 3 3 then 1 else 0) = 1 := if_pos hn
  have h5 := hx.2.1
  refine Mt_in [some (rf V 0), some (.int (nI a)), none] (own := RX8) rfl (by decide) (Nat.le_of_ble_eq_true rfl) (fun q hq => hq) ?_
  refine g_aload_n0 1 rfl dX8_spiceFor_0 ?_
  refine gf_MT_rules 4 rfl fl_RX8_19 dX8_spiceFor_1 ?_
  refine g_iload_n1 5 rfl dX8_spiceFor_4 ?_
  refine g_cv1i 8 rfl cw_RX8_144 dX8_spiceFor_5 (c_X1_hasClause hx.2.1 (by omega)) (by omega) (ob_3 V) (Nat.le_of_ble_eq_true rfl) ?_
  rw [h01]
  refine gn_if_ne 13 (by decide) 11 rfl dX8_spiceFor_8 (by omega) (fun c8 => ?_) (fun c8 => absurd c8 (by decide))
  refine g_aload_n0 14 rfl dX8_spiceFor_13 ?_
  refine gf_MT_table 17 rfl fl_RX8_28 dX8_spiceFor_14 ?_
  refine g_iload_n1 18 rfl dX8_spiceFor_17 ?_
  refine g_cv1i 21 rfl cw_RX8_202 dX8_spiceFor_18 (c_X7_isBound (by decide) (hx.2.2.2.2.2.2 0) (by omega)) (by omega) (ob_tb V (by omega)) (Nat.le_of_ble_eq_true rfl) ?_
  refine gn_if_eq 27 (by decide) 24 rfl dX8_spiceFor_21 (Nat.lt_of_lt_of_le (bt_lt _ _) (by omega)) (fun c21 => absurd c21 hb) (fun c21 => ?_)
  refine g_bipush (v := 4294967293) 26 rfl dX8_spiceFor_24 (by decide) ?_
  refine g_iret .int dX8_spiceFor_26 rfl (rfl) ?_
  exact ⟨rfl, rfl⟩
theorem c_X8_spiceFor_ok {a : Nat} (hx : XI h) (hs : h.1 (tr 0) 1 ≤ 9) (hn : a < h.1 3 3) (hb : bt (h.1 (tr 0) 8) a = 0) : Rti V 3 yX8_spiceFor cX8_spiceFor 3 (some .int) [rf V 0, .int (nI a)] h (nI (spfV (h.1 3 3) (h.1 7) (h.1 (tr 0)) a)) (sR h (tr 1) (sdk (h.1 (tr 0)) (spfK (h.1 3 3) (h.1 7) (h.1 (tr 0)) a))) := by
  have h01 : (if a < h.1 3 3 then 1 else 0) = 1 := if_pos hn
  obtain ⟨hE, hC, x4, x5, x7, x8, hTT⟩ := id hx
  refine Mt_in [some (rf V 0), some (.int (nI a)), none] (own := RX8) rfl (by decide) (Nat.le_of_ble_eq_true rfl) (fun q hq => hq) ?_
  refine g_aload_n0 1 rfl dX8_spiceFor_0 ?_
  refine gf_MT_rules 4 rfl fl_RX8_19 dX8_spiceFor_1 ?_
  refine g_iload_n1 5 rfl dX8_spiceFor_4 ?_
  refine g_cv1i 8 rfl cw_RX8_144 dX8_spiceFor_5 (c_X1_hasClause hx.2.1 (by omega)) (by omega) (ob_3 V) (Nat.le_of_ble_eq_true rfl) ?_
  rw [h01]
  refine gn_if_ne 13 (by decide) 11 rfl dX8_spiceFor_8 (by omega) (fun c8 => ?_) (fun c8 => absurd c8 (by decide))
  refine g_aload_n0 14 rfl dX8_spiceFor_13 ?_
  refine gf_MT_table 17 rfl fl_RX8_28 dX8_spiceFor_14 ?_
  refine g_iload_n1 18 rfl dX8_spiceFor_17 ?_
  refine g_cv1i 21 rfl cw_RX8_202 dX8_spiceFor_18 (c_X7_isBound (by decide) (hx.2.2.2.2.2.2 0) (by omega)) (by omega) (ob_tb V (by omega)) (Nat.le_of_ble_eq_true rfl) ?_
  refine gn_if_eq 27 (by decide) 24 rfl dX8_spiceFor_21 (Nat.lt_of_lt_of_le (bt_lt _ _) (by omega)) (fun c21 => ?_) (fun c21 => absurd hb c21)
  refine g_aload_n0 28 rfl dX8_spiceFor_27 ?_
  refine gf_MT_trial 31 rfl fl_RX8_32 dX8_spiceFor_28 ?_
  refine g_aload_n0 32 rfl dX8_spiceFor_31 ?_
  refine gf_MT_table 35 rfl fl_RX8_28 dX8_spiceFor_32 ?_
  refine g_cv1v 38 rfl cw_RX8_188 dX8_spiceFor_35 (c_X7_copyFrom (by decide) (by decide) (by decide) hx) (by omega) (ob_tb V (by omega)) (Nat.le_of_ble_eq_true rfl) ?_
  refine g_iconst (v := 0) 39 rfl dX8_spiceFor_38 (by decide) ?_
  refine g_istore_n2 40 rfl dX8_spiceFor_39 (by decide) rfl ?_
  skip
  refine loop_up (P := fun k => spfS (h.1 3 3) (h.1 7) (h.1 (tr 0)) a k = none → G V T0 3 RX8 cX8_spiceFor 3 (some .int) 40 [some (rf V 0), some (.int (nI a)), some (.int (nI k))] [] (sR h (tr 1) (sdk (h.1 (tr 0)) k)) _) (n := h.1 (tr 0) 1 + 1) ?_ (fun k hk ih => ?_) 0 (Nat.zero_le _) rfl
  · intro hf
    refine g_iload_n2 41 rfl dX8_spiceFor_40 ?_
    refine g_aload_n0 42 rfl dX8_spiceFor_41 ?_
    refine gf_MT_table 45 rfl fl_RX8_28 dX8_spiceFor_42 ?_
    refine gf_Table_store 48 rfl (by omega) fl_RX8_101 dX8_spiceFor_45 ?_
    rw [sR_n (tr_ne (by decide))]
    refine gn_icmp_gt 77 (by decide) 51 rfl dX8_spiceFor_48 (by omega) (by omega) (fun c48 => ?_) (fun c48 => absurd c48 (by omega))
    refine g_bipush (v := 4294967287) 79 rfl dX8_spiceFor_77 (by decide) ?_
    refine g_iret .int dX8_spiceFor_79 rfl (rfl) ?_
    exact ⟨by unfold spfV; rw [hf], by unfold spfK; rw [hf]⟩
  · intro hf
    have hN := TI_sdk (hTT 0) k
    have hx2 := XI_tr hx (i := 1) hN
    refine g_iload_n2 41 rfl dX8_spiceFor_40 ?_
    refine g_aload_n0 42 rfl dX8_spiceFor_41 ?_
    refine gf_MT_table 45 rfl fl_RX8_28 dX8_spiceFor_42 ?_
    refine gf_Table_store 48 rfl (by omega) fl_RX8_101 dX8_spiceFor_45 ?_
    rw [sR_n (tr_ne (by decide))]
    refine gn_icmp_gt 77 (by decide) 51 rfl dX8_spiceFor_48 (by omega) (by omega) (fun c48 => absurd c48 (by omega)) (fun c48 => ?_)
    refine g_aload_n0 52 rfl dX8_spiceFor_51 ?_
    refine gf_MT_trial 55 rfl fl_RX8_32 dX8_spiceFor_52 ?_
    refine g_iload_n1 56 rfl dX8_spiceFor_55 ?_
    refine g_cv1i 59 rfl cw_RX8_167 dX8_spiceFor_56 (c_X7_canBeSaid (by decide) hx2 (by omega)) (by omega) (ob_tb V (by omega)) (Nat.le_of_ble_eq_true rfl) ?_
    rw [sR_s, sR_t3, sR_t7]
    refine gn_if_eq 64 (by decide) 62 rfl dX8_spiceFor_59 (Nat.lt_of_lt_of_le (Bool.toNat_lt _) (by omega)) (fun c59 => ?_) (fun c59 => ?_)
    · refine g_aload_n0 65 rfl dX8_spiceFor_64 ?_
      refine gf_MT_trial 68 rfl fl_RX8_32 dX8_spiceFor_65 ?_
      refine g_cv0v 71 rfl cw_RX8_173 dX8_spiceFor_68 (c_X7_putSeed (by decide) (by rw [sR_s]; exact hN)) (by omega) (ob_tb V (by omega)) (Nat.le_of_ble_eq_true rfl) ?_
      refine gn_iinc2 1 74 rfl dX8_spiceFor_71 rfl (by decide) rfl ?_
      refine g_goto 40 (by decide) dX8_spiceFor_74 ?_
      have q : spfS (h.1 3 3) (h.1 7) (h.1 (tr 0)) a (k + 1) = none := by simp only [spfS, hf]; exact if_neg (by simpa using c59)
      rw [sR_sR, sR_s]
      exact ih q
    · refine g_iload_n2 63 rfl dX8_spiceFor_62 ?_
      refine g_iret .int dX8_spiceFor_63 rfl (rfl) ?_
      have q : spfS (h.1 3 3) (h.1 7) (h.1 (tr 0)) a (k + 1) = some k := by simp only [spfS, hf]; exact if_pos (by simpa using c59)
      have q := spfS_mono q _ hk
      exact ⟨by unfold spfV; rw [q], by unfold spfK; rw [q]⟩
end X8b
