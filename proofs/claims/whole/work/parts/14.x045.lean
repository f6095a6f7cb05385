/-! MustardTreaty$Acts, $Slots, $Sights -/
theorem sR_lt {h : Hp} {i k : Nat} {f : Nat → Nat} (hk : k < 100) : (sR h (tr i) f).1 k = h.1 k := sR_n (tr_hi hk)
theorem sR_tl {h : Hp} {i k : Nat} {f : Nat → Nat} (hk : k < 100) : (sR h k f).1 (tr i) = h.1 (tr i) := sR_n (fun q => tr_hi hk q.symm)
theorem sR_lc (h : Hp) {i k : Nat} (hk : k < 100) (f g : Nat → Nat) : sR (sR h k f) (tr i) g = sR (sR h (tr i) g) k f := sR_c h (tr_hi hk) f g
theorem XI_o {h : Hp} (hx : XI h) {r : Nat} (f : Nat → Nat) (h3 : r ≠ 3) (h4 : r ≠ 4) (h7 : r ≠ 7) (hr : r < 100) : XI (sR h r f) := by
  obtain ⟨a1, a2, a3, a4, a5, a6, a7⟩ := hx
  have e3 : (sR h r f).1 3 = h.1 3 := sR_n (Ne.symm h3)
  have e4 : (sR h r f).1 4 = h.1 4 := sR_n (Ne.symm h4)
  have e7 : (sR h r f).1 7 = h.1 7 := sR_n (Ne.symm h7)
  refine ⟨by rw [e3]; exact a1, by rw [e3]; exact a2, by rw [e4]; exact a3, by rw [e4]; exact a4, by rw [e7]; exact a5, by rw [e7]; exact a6, fun j => ?_⟩
  rw [sR_tl hr]; exact a7 j
def remO (f : Nat → Nat) : Nat := if f 2 < 14 then f 1 else (f 1 + 1) % 14
def remC (f : Nat → Nat) : Nat := if f 2 < 14 then f 2 else 13
def remQ (f : Nat → Nat) : Nat := (remO f + remC f) % 14
def remH (h : Hp) : Hp := sR (sR h (tr (remQ (h.1 10) + 2)) (h.1 (tr 0))) 10 (up (up (h.1 10) 1 (remO (h.1 10))) 2 (remC (h.1 10) + 1))
section X0
variable {V : Vt} {h : Hp}
theorem c_X0_forgetAll : Rtv V 1 yX0_forgetAll cX0_forgetAll 1 none [rf V 10] h (sR h 10 (up (up (h.1 10) 1 0) 2 0)) := by
  refine Mt_in [some (rf V 10)] (own := RX0) rfl (by decide) (Nat.le_of_ble_eq_true rfl) (fun q hq => hq) ?_
  refine g_aload_n0 1 rfl dX0_forgetAll_0 ?_
  refine g_iconst (v := 0) 2 rfl dX0_forgetAll_1 (by decide) ?_
  refine gp_Acts_oldest 5 rfl fl_RX0_20 dX0_forgetAll_2 ?_
  refine g_aload_n0 6 rfl dX0_forgetAll_5 ?_
  refine g_iconst (v := 0) 7 rfl dX0_forgetAll_6 (by decide) ?_
  refine gp_Acts_count 10 rfl fl_RX0_24 dX0_forgetAll_7 ?_
  refine g_vret dX0_forgetAll_10 rfl ?_
  exact ⟨rfl, by rw [sR_sR]; rfl⟩
theorem c_X0_remember (hx : XI h) (ho : h.1 10 1 < 14) (hc : h.1 10 2 ≤ 14) : Rtv V 2 yX0_remember cX0_remember 2 none [rf V 10, rf V (tb 0)] h (remH h) := by
  refine Mt_in [some (rf V 10), some (rf V (tb 0))] (own := RX0) rfl (by decide) (Nat.le_of_ble_eq_true rfl) (fun q hq => hq) ?_
  by_cases c6 : h.1 10 2 < 14
  · have eO : remO (h.1 10) = h.1 10 1 := if_pos c6
    have eC : remC (h.1 10) = h.1 10 2 := if_pos c6
    refine g_aload_n0 1 rfl dX0_remember_0 ?_
    refine gf_Acts_count 4 rfl fl_RX0_24 dX0_remember_1 ?_
    refine g_bipush (v := 14) 6 rfl dX0_remember_4 (by decide) ?_
    refine gn_icmp_lt 32 (by decide) 9 rfl dX0_remember_6 (by omega) (by omega) (fun c6 => ?_) (fun c6 => absurd c6 (by omega))
    refine g_aload_n0 33 rfl dX0_remember_32 ?_
    refine gf_Acts_before 36 rfl fl_RX0_11 dX0_remember_33 ?_
    refine g_aload_n0 37 rfl dX0_remember_36 ?_
    refine gf_Acts_oldest 40 rfl fl_RX0_20 dX0_remember_37 ?_
    refine g_aload_n0 41 rfl dX0_remember_40 ?_
    refine gf_Acts_count 44 rfl fl_RX0_24 dX0_remember_41 ?_
    refine gn_iadd 45 rfl dX0_remember_44 ?_
    refine g_bipush (v := 14) 47 rfl dX0_remember_45 (by decide) ?_
    refine gn_irem 48 rfl dX0_remember_47 (by omega) (by omega) (by omega) ?_
    refine ga_11 49 rfl (by omega) dX0_remember_48 ?_
    refine g_aload_n1 50 rfl dX0_remember_49 ?_
    refine g_cv1v 53 rfl cw_RX0_27 dX0_remember_50 (c_X7_copyFrom (b := 0) (by omega) (by omega) (by omega) hx) (by omega) (ob_tb V (by omega)) (Nat.le_of_ble_eq_true rfl) ?_
    refine g_aload_n0 54 rfl dX0_remember_53 ?_
    refine g_dup 55 rfl dX0_remember_54 rfl ?_
    refine gf_Acts_count 58 rfl fl_RX0_24 dX0_remember_55 ?_
    rw [sR_lt (by omega)]
    refine g_iconst (v := 1) 59 rfl dX0_remember_58 (by decide) ?_
    refine gn_iadd 60 rfl dX0_remember_59 ?_
    refine gp_Acts_count 63 rfl fl_RX0_24 dX0_remember_60 ?_
    refine g_vret dX0_remember_63 rfl ?_
    refine ⟨rfl, ?_⟩
    rw [sR_lt (by omega)]
    unfold remH remQ
    rw [eO, eC, up_same]
  · have eO : remO (h.1 10) = (h.1 10 1 + 1) % 14 := if_neg (by omega)
    have eC : remC (h.1 10) = 13 := if_neg (by omega)
    have e13 : h.1 10 2 - 1 = 13 := by omega
    refine g_aload_n0 1 rfl dX0_remember_0 ?_
    refine gf_Acts_count 4 rfl fl_RX0_24 dX0_remember_1 ?_
    refine g_bipush (v := 14) 6 rfl dX0_remember_4 (by decide) ?_
    refine gn_icmp_lt 32 (by decide) 9 rfl dX0_remember_6 (by omega) (by omega) (fun c6 => absurd c6 (by omega)) (fun c6 => ?_)
    refine g_aload_n0 10 rfl dX0_remember_9 ?_
    refine g_aload_n0 11 rfl dX0_remember_10 ?_
    refine gf_Acts_oldest 14 rfl fl_RX0_20 dX0_remember_11 ?_
    refine g_iconst (v := 1) 15 rfl dX0_remember_14 (by decide) ?_
    refine gn_iadd 16 rfl dX0_remember_15 ?_
    refine g_bipush (v := 14) 18 rfl dX0_remember_16 (by decide) ?_
    refine gn_irem 19 rfl dX0_remember_18 (by omega) (by omega) (by omega) ?_
    refine gp_Acts_oldest 22 rfl fl_RX0_20 dX0_remember_19 ?_
    refine g_aload_n0 23 rfl dX0_remember_22 ?_
    refine g_dup 24 rfl dX0_remember_23 rfl ?_
    refine gf_Acts_count 27 rfl fl_RX0_24 dX0_remember_24 ?_
    rw [sR_s, up_n (by omega)]
    refine g_iconst (v := 1) 28 rfl dX0_remember_27 (by decide) ?_
    refine gn_isub 29 rfl dX0_remember_28 (by omega) ?_
    refine gp_Acts_count 32 rfl fl_RX0_24 dX0_remember_29 ?_
    rw [sR_s, sR_sR, e13]
    refine g_aload_n0 33 rfl dX0_remember_32 ?_
    refine gf_Acts_before 36 rfl fl_RX0_11 dX0_remember_33 ?_
    refine g_aload_n0 37 rfl dX0_remember_36 ?_
    refine gf_Acts_oldest 40 rfl fl_RX0_20 dX0_remember_37 ?_
    rw [sR_s, up_n (by omega), up_s]
    refine g_aload_n0 41 rfl dX0_remember_40 ?_
    refine gf_Acts_count 44 rfl fl_RX0_24 dX0_remember_41 ?_
    rw [sR_s, up_s]
    refine gn_iadd 45 rfl dX0_remember_44 ?_
    refine g_bipush (v := 14) 47 rfl dX0_remember_45 (by decide) ?_
    refine gn_irem 48 rfl dX0_remember_47 (by omega) (by omega) (by omega) ?_
    refine ga_11 49 rfl (by omega) dX0_remember_48 ?_
    refine g_aload_n1 50 rfl dX0_remember_49 ?_
    refine g_cv1v 53 rfl cw_RX0_27 dX0_remember_50 (c_X7_copyFrom (b := 0) (by omega) (by omega) (by omega) (XI_o hx _ (by decide) (by decide) (by decide) (by decide))) (by omega) (ob_tb V (by omega)) (Nat.le_of_ble_eq_true rfl) ?_
    refine g_aload_n0 54 rfl dX0_remember_53 ?_
    refine g_dup 55 rfl dX0_remember_54 rfl ?_
    refine gf_Acts_count 58 rfl fl_RX0_24 dX0_remember_55 ?_
    rw [sR_lt (by omega), sR_s, up_s]
    refine g_iconst (v := 1) 59 rfl dX0_remember_58 (by decide) ?_
    refine gn_iadd 60 rfl dX0_remember_59 ?_
    refine gp_Acts_count 63 rfl fl_RX0_24 dX0_remember_60 ?_
    refine g_vret dX0_remember_63 rfl ?_
    refine ⟨rfl, ?_⟩
    rw [sR_lt (by omega), sR_s, sR_tl (by omega), sR_lc _ (by omega), sR_sR, up_up]
    unfold remH remQ
    rw [eO, eC]
def tbkH (h : Hp) : Hp := sR (sR h (tr 0) (h.1 (tr ((h.1 10 1 + (h.1 10 2 - 1)) % 14 + 2)))) 10 (up (h.1 10) 2 (h.1 10 2 - 1))
theorem c_X0_takeBack (hx : XI h) (ho : h.1 10 1 < 14) (hc : h.1 10 2 ≤ 14) (h1 : 0 < h.1 10 2) : Rtv V 2 yX0_takeBack cX0_takeBack 2 none [rf V 10, rf V (tb 0)] h (tbkH h) := by
  refine Mt_in [some (rf V 10), some (rf V (tb 0))] (own := RX0) rfl (by decide) (Nat.le_of_ble_eq_true rfl) (fun q hq => hq) ?_
  refine g_aload_n0 1 rfl dX0_takeBack_0 ?_
  refine gf_Acts_count 4 rfl fl_RX0_24 dX0_takeBack_1 ?_
  refine gn_if_le 38 (by decide) 7 rfl dX0_takeBack_4 (by omega) (fun c4 => absurd c4 (by omega)) (fun c4 => ?_)
  refine g_aload_n0 8 rfl dX0_takeBack_7 ?_
  refine g_dup 9 rfl dX0_takeBack_8 rfl ?_
  refine gf_Acts_count 12 rfl fl_RX0_24 dX0_takeBack_9 ?_
  refine g_iconst (v := 1) 13 rfl dX0_takeBack_12 (by decide) ?_
  refine gn_isub 14 rfl dX0_takeBack_13 (by omega) ?_
  refine gp_Acts_count 17 rfl fl_RX0_24 dX0_takeBack_14 ?_
  refine g_aload_n1 18 rfl dX0_takeBack_17 ?_
  refine g_aload_n0 19 rfl dX0_takeBack_18 ?_
  refine gf_Acts_before 22 rfl fl_RX0_11 dX0_takeBack_19 ?_
  refine g_aload_n0 23 rfl dX0_takeBack_22 ?_
  refine gf_Acts_oldest 26 rfl fl_RX0_20 dX0_takeBack_23 ?_
  rw [sR_s, up_n (by omega)]
  refine g_aload_n0 27 rfl dX0_takeBack_26 ?_
  refine gf_Acts_count 30 rfl fl_RX0_24 dX0_takeBack_27 ?_
  rw [sR_s, up_s]
  refine gn_iadd 31 rfl dX0_takeBack_30 ?_
  refine g_bipush (v := 14) 33 rfl dX0_takeBack_31 (by decide) ?_
  refine gn_irem 34 rfl dX0_takeBack_33 (by omega) (by omega) (by omega) ?_
  refine ga_11 35 rfl (by omega) dX0_takeBack_34 ?_
  refine g_cv1v 38 rfl cw_RX0_27 dX0_takeBack_35 (c_X7_copyFrom (i := 0) (by omega) (by omega) (by omega) (XI_o hx _ (by decide) (by decide) (by decide) (by decide))) (by omega) (ob_tb V (by omega)) (Nat.le_of_ble_eq_true rfl) ?_
  refine g_vret dX0_takeBack_38 rfl ?_
  refine ⟨rfl, ?_⟩
  rw [sR_tl (by omega), sR_lc _ (by omega)]
  rfl
def putH (h : Hp) (s : Nat) : Hp := sR (sR h (tr (s + 16)) (h.1 (tr 0))) 14 (up (h.1 14) s 1)
theorem c_X5_put {s : Nat} (hx : XI h) (hs : s < 2) : Rtv V 2 yX5_put cX5_put 3 none [rf V 12, .int (nI s), rf V (tb 0)] h (putH h s) := by
  refine Mt_in [some (rf V 12), some (.int (nI s)), some (rf V (tb 0))] (own := RX5) rfl (by decide) (Nat.le_of_ble_eq_true rfl) (fun q hq => hq) ?_
  refine g_aload_n0 1 rfl dX5_put_0 ?_
  refine gf_Slots_tables 4 rfl fl_RX5_11 dX5_put_1 ?_
  refine g_iload_n1 5 rfl dX5_put_4 ?_
  refine ga_13 6 rfl (by omega) dX5_put_5 ?_
  refine g_aload_n2 7 rfl dX5_put_6 ?_
  refine g_cv1v 10 rfl cw_RX5_24 dX5_put_7 (c_X7_copyFrom (b := 0) (by omega) (by omega) (by omega) hx) (by omega) (ob_tb V (by omega)) (Nat.le_of_ble_eq_true rfl) ?_
  refine g_aload_n0 11 rfl dX5_put_10 ?_
  refine gf_Slots_used 14 rfl fl_RX5_17 dX5_put_11 ?_
  refine g_iload_n1 15 rfl dX5_put_14 ?_
  refine g_iconst (v := 1) 16 rfl dX5_put_15 (by decide) ?_
  refine gs_14 17 rfl (by omega) (by omega) dX5_put_16 ?_
  refine g_vret dX5_put_17 rfl ?_
  exact ⟨rfl, by rw [sR_lt (by omega)]; rfl⟩
theorem c_X5_forgetAll : Rtv V 1 yX5_forgetAll cX5_forgetAll 2 none [rf V 12] h (sR h 14 (up (up (h.1 14) 0 0) 1 0)) := by
  refine Mt_in [some (rf V 12), none] (own := RX5) rfl (by decide) (Nat.le_of_ble_eq_true rfl) (fun q hq => hq) ?_
  refine g_iconst (v := 0) 1 rfl dX5_forgetAll_0 (by decide) ?_
  refine g_istore_n1 2 rfl dX5_forgetAll_1 (by decide) rfl ?_
  skip
  refine g_heap (show h = sR h 14 (fun o => if o < 0 then 0 else h.1 14 o) from by rw [show (fun o => if o < 0 then 0 else h.1 14 o) = h.1 14 from funext fun o => if_neg (by omega), sR_same]) ?_
  refine loop_up (P := fun e => G V T0 1 RX5 cX5_forgetAll 2 none 2 [some (rf V 12), some (.int (nI e))] [] (sR h 14 (fun o => if o < e then 0 else h.1 14 o)) _) (n := 2) ?_ (fun e he ih => ?_) 0 (Nat.zero_le _)
  · refine g_iload_n1 3 rfl dX5_forgetAll_2 ?_
    refine g_iconst (v := 2) 4 rfl dX5_forgetAll_3 (by decide) ?_
    refine gn_icmp_ge 20 (by decide) 7 rfl dX5_forgetAll_4 (by omega) (by omega) (fun c4 => ?_) (fun c4 => absurd c4 (by omega))
    refine g_vret dX5_forgetAll_20 rfl ?_
    refine ⟨rfl, congrArg (sR h 14) (funext fun o => ?_)⟩
    simp only [up]
    grind
  · refine g_iload_n1 3 rfl dX5_forgetAll_2 ?_
    refine g_iconst (v := 2) 4 rfl dX5_forgetAll_3 (by decide) ?_
    refine gn_icmp_ge 20 (by decide) 7 rfl dX5_forgetAll_4 (by omega) (by omega) (fun c4 => absurd c4 (by omega)) (fun c4 => ?_)
    refine g_aload_n0 8 rfl dX5_forgetAll_7 ?_
    refine gf_Slots_used 11 rfl fl_RX5_17 dX5_forgetAll_8 ?_
    refine g_iload_n1 12 rfl dX5_forgetAll_11 ?_
    refine g_iconst (v := 0) 13 rfl dX5_forgetAll_12 (by decide) ?_
    refine gs_14 14 rfl (by omega) (by omega) dX5_forgetAll_13 ?_
    refine gn_iinc1 1 17 rfl dX5_forgetAll_14 rfl (by decide) rfl ?_
    refine g_goto 2 (by decide) dX5_forgetAll_17 ?_
    rw [sR_s, sR_sR]
    refine g_heap (congrArg (sR h 14) (funext fun o => ?_)) ih
    simp only [up]
    grind
def seeH (h : Hp) (k t q : Nat) : Hp := sR (sR (sR (sR h 16 (up (h.1 16) (h.1 15 3) k)) 17 (up (h.1 17) (h.1 15 3) t)) 18 (up (h.1 18) (h.1 15 3) q)) 15 (up (h.1 15) 3 (h.1 15 3 + 1))
theorem c_X4_add {k t q : Nat} (hc : h.1 15 3 < 6) : Rtv V 1 yX4_add cX4_add 4 none [rf V 15, .int (nI k), .int (nI t), .int (nI q)] h (seeH h k t q) := by
  refine Mt_in [some (rf V 15), some (.int (nI k)), some (.int (nI t)), some (.int (nI q))] (own := RX4) rfl (by decide) (Nat.le_of_ble_eq_true rfl) (fun q hq => hq) ?_
  refine g_aload_n0 1 rfl dX4_add_0 ?_
  refine gf_Sights_count 4 rfl fl_RX4_21 dX4_add_1 ?_
  refine g_bipush (v := 6) 6 rfl dX4_add_4 (by decide) ?_
  refine gn_icmp_ge 49 (by decide) 9 rfl dX4_add_6 (by omega) (by omega) (fun c6 => absurd c6 (by omega)) (fun c6 => ?_)
  refine g_aload_n0 10 rfl dX4_add_9 ?_
  refine gf_Sights_kinds 13 rfl fl_RX4_9 dX4_add_10 ?_
  refine g_aload_n0 14 rfl dX4_add_13 ?_
  refine gf_Sights_count 17 rfl fl_RX4_21 dX4_add_14 ?_
  refine g_iload_n1 18 rfl dX4_add_17 ?_
  refine gs_16 19 rfl (by omega) dX4_add_18 ?_
  refine g_aload_n0 20 rfl dX4_add_19 ?_
  refine gf_Sights_heats 23 rfl fl_RX4_15 dX4_add_20 ?_
  refine g_aload_n0 24 rfl dX4_add_23 ?_
  refine gf_Sights_count 27 rfl fl_RX4_21 dX4_add_24 ?_
  refine g_iload_n2 28 rfl dX4_add_27 ?_
  refine gs_17 29 rfl (show h.1 15 3 < 6 by omega) dX4_add_28 ?_
  refine g_aload_n0 30 rfl dX4_add_29 ?_
  refine gf_Sights_tears 33 rfl fl_RX4_18 dX4_add_30 ?_
  refine g_aload_n0 34 rfl dX4_add_33 ?_
  refine gf_Sights_count 37 rfl fl_RX4_21 dX4_add_34 ?_
  refine g_iload_n3 38 rfl dX4_add_37 ?_
  refine gs_18 39 rfl (show h.1 15 3 < 6 by omega) dX4_add_38 ?_
  refine g_aload_n0 40 rfl dX4_add_39 ?_
  refine g_dup 41 rfl dX4_add_40 rfl ?_
  refine gf_Sights_count 44 rfl fl_RX4_21 dX4_add_41 ?_
  refine g_iconst (v := 1) 45 rfl dX4_add_44 (by decide) ?_
  refine gn_iadd 46 rfl dX4_add_45 ?_
  refine gp_Sights_count 49 rfl fl_RX4_21 dX4_add_46 ?_
  refine g_vret dX4_add_49 rfl ?_
  exact ⟨rfl, rfl⟩
def fitB (K H T : Nat → Nat) (k p : Nat) : Nat → Bool
  | 0 => true
  | i + 1 => fitB K H T k p i && (!decide (K i = k) || decide (pain k p (H i) = T i))
theorem fitB_mono {K H T : Nat → Nat} {k p i : Nat} (hf : fitB K H T k p i = false) : ∀ n, i ≤ n → fitB K H T k p n = false
  | 0, hn => by rw [show i = 0 by omega] at hf; exact hf
  | n + 1, hn => by
    by_cases q : i = n + 1
    · rw [← q]; exact hf
    · have := fitB_mono hf n (by omega)
      simp [fitB, this]
def palB (K H T : Nat → Nat) (k n : Nat) : Nat → Nat
  | 0 => 0
  | p + 1 => if fitB K H T k p n then palB K H T k n p ||| 1 * 2 ^ p else palB K H T k n p
theorem c_X4_fitsAll {k p : Nat} (hn : h.1 15 3 ≤ 6) (hK : ∀ j, h.1 16 j ≤ 3) (hH : ∀ j, h.1 17 j ≤ 9) (hQ : ∀ j, h.1 18 j ≤ 10) (hk : k ≤ 3) (hp : p ≤ 9) : Rti V 2 yX4_fitsAll cX4_fitsAll 4 (some .boolean) [rf V 15, .int (nI k), .int (nI p)] h (nI (fitB (h.1 16) (h.1 17) (h.1 18) k p (h.1 15 3)).toNat) h := by
  refine Mt_in [some (rf V 15), some (.int (nI k)), some (.int (nI p)), none] (own := RX4) rfl (by decide) (Nat.le_of_ble_eq_true rfl) (fun q hq => hq) ?_
  refine g_iconst (v := 0) 1 rfl dX4_fitsAll_0 (by decide) ?_
  refine g_istore_n3 2 rfl dX4_fitsAll_1 (by decide) rfl ?_
  skip
  refine loop_up (P := fun i => fitB (h.1 16) (h.1 17) (h.1 18) k p i = true → G V T0 2 RX4 cX4_fitsAll 4 (some .boolean) 2 [some (rf V 15), some (.int (nI k)), some (.int (nI p)), some (.int (nI i))] [] h _) (n := h.1 15 3) ?_ (fun i hi ih => ?_) 0 (Nat.zero_le _) rfl
  · intro hf
    refine g_iload_n3 3 rfl dX4_fitsAll_2 ?_
    refine g_aload_n0 4 rfl dX4_fitsAll_3 ?_
    refine gf_Sights_count 7 rfl fl_RX4_21 dX4_fitsAll_4 ?_
    refine gn_icmp_ge 48 (by decide) 10 rfl dX4_fitsAll_7 (by omega) (by omega) (fun c7 => ?_) (fun c7 => absurd c7 (Nat.lt_irrefl _))
    refine g_iconst (v := 1) 49 rfl dX4_fitsAll_48 (by decide) ?_
    refine g_iret .boolean dX4_fitsAll_49 rfl (rfl) ?_
    exact ⟨by rw [hf]; rfl, rfl⟩
  · intro hf
    have h1 := hK i
    have h2 := hH i
    have h3 := hQ i
    have h4 := pain_le (k := k) (p := p) h2
    refine g_iload_n3 3 rfl dX4_fitsAll_2 ?_
    refine g_aload_n0 4 rfl dX4_fitsAll_3 ?_
    refine gf_Sights_count 7 rfl fl_RX4_21 dX4_fitsAll_4 ?_
    refine gn_icmp_ge 48 (by decide) 10 rfl dX4_fitsAll_7 (by omega) (by omega) (fun c7 => absurd c7 (Nat.not_le_of_lt hi)) (fun c7 => ?_)
    refine g_aload_n0 11 rfl dX4_fitsAll_10 ?_
    refine gf_Sights_kinds 14 rfl fl_RX4_9 dX4_fitsAll_11 ?_
    refine g_iload_n3 15 rfl dX4_fitsAll_14 ?_
    refine ga_16 16 rfl (by omega) dX4_fitsAll_15 ?_
    refine g_iload_n1 17 rfl dX4_fitsAll_16 ?_
    refine gn_icmp_ne 42 (by decide) 20 rfl dX4_fitsAll_17 (by omega) (by omega) (fun c17 => ?_) (fun c17 => ?_)
    · refine gn_iinc3 1 45 rfl dX4_fitsAll_42 rfl (by decide) rfl ?_
      refine g_goto 2 (by decide) dX4_fitsAll_45 ?_
      refine ih ?_
      simp only [fitB, hf]
      grind
    · refine g_iload_n1 21 rfl dX4_fitsAll_20 ?_
      refine g_iload_n2 22 rfl dX4_fitsAll_21 ?_
      refine g_aload_n0 23 rfl dX4_fitsAll_22 ?_
      refine gf_Sights_heats 26 rfl fl_RX4_15 dX4_fitsAll_23 ?_
      refine g_iload_n3 27 rfl dX4_fitsAll_26 ?_
      refine ga_17 28 rfl (by omega) dX4_fitsAll_27 ?_
      refine g_cs3i 31 rfl cw_RX4_29 dX4_fitsAll_28 (c_X1_painFor hk hp h2) (by omega) (Nat.le_of_ble_eq_true rfl) ?_
      refine g_aload_n0 32 rfl dX4_fitsAll_31 ?_
      refine gf_Sights_tears 35 rfl fl_RX4_18 dX4_fitsAll_32 ?_
      refine g_iload_n3 36 rfl dX4_fitsAll_35 ?_
      refine ga_18 37 rfl (by omega) dX4_fitsAll_36 ?_
      refine gn_icmp_eq 42 (by decide) 40 rfl dX4_fitsAll_37 (by omega) (by omega) (fun c37 => ?_) (fun c37 => ?_)
      · refine gn_iinc3 1 45 rfl dX4_fitsAll_42 rfl (by decide) rfl ?_
        refine g_goto 2 (by decide) dX4_fitsAll_45 ?_
        refine ih ?_
        simp only [fitB, hf]
        grind
      · refine g_iconst (v := 0) 41 rfl dX4_fitsAll_40 (by decide) ?_
        refine g_iret .boolean dX4_fitsAll_41 rfl (rfl) ?_
        refine ⟨?_, rfl⟩
        rw [fitB_mono (i := i + 1) (by simp only [fitB, hf]; grind) _ (by omega)]
        rfl
theorem c_X4_palatesThatFit {k : Nat} (hn : h.1 15 3 ≤ 6) (hK : ∀ j, h.1 16 j ≤ 3) (hH : ∀ j, h.1 17 j ≤ 9) (hQ : ∀ j, h.1 18 j ≤ 10) (hk : k ≤ 3) : Rti V 3 yX4_palatesThatFit cX4_palatesThatFit 4 (some .int) [rf V 15, .int (nI k)] h (nI (palB (h.1 16) (h.1 17) (h.1 18) k (h.1 15 3) 10)) h := by
  refine Mt_in [some (rf V 15), some (.int (nI k)), none, none] (own := RX4) rfl (by decide) (Nat.le_of_ble_eq_true rfl) (fun q hq => hq) ?_
  refine g_iconst (v := 0) 1 rfl dX4_palatesThatFit_0 (by decide) ?_
  refine g_istore_n2 2 rfl dX4_palatesThatFit_1 (by decide) rfl ?_
  refine g_iconst (v := 0) 3 rfl dX4_palatesThatFit_2 (by decide) ?_
  refine g_istore_n3 4 rfl dX4_palatesThatFit_3 (by decide) rfl ?_
  skip
  refine loop_up (P := fun p => G V T0 3 RX4 cX4_palatesThatFit 4 (some .int) 4 [some (rf V 15), some (.int (nI k)), some (.int (nI (palB (h.1 16) (h.1 17) (h.1 18) k (h.1 15 3) p))), some (.int (nI p))] [] h _) (n := 10) ?_ (fun p hp ih => ?_) 0 (Nat.zero_le _)
  · refine g_iload_n3 5 rfl dX4_palatesThatFit_4 ?_
    refine g_bipush (v := 9) 7 rfl dX4_palatesThatFit_5 (by decide) ?_
    refine gn_icmp_gt 31 (by decide) 10 rfl dX4_palatesThatFit_7 (by omega) (by omega) (fun c7 => ?_) (fun c7 => absurd c7 (by omega))
    refine g_iload_n2 32 rfl dX4_palatesThatFit_31 ?_
    refine g_iret .int dX4_palatesThatFit_32 rfl (rfl) ?_
    exact ⟨rfl, rfl⟩
  · refine g_iload_n3 5 rfl dX4_palatesThatFit_4 ?_
    refine g_bipush (v := 9) 7 rfl dX4_palatesThatFit_5 (by decide) ?_
    refine gn_icmp_gt 31 (by decide) 10 rfl dX4_palatesThatFit_7 (by omega) (by omega) (fun c7 => absurd c7 (by omega)) (fun c7 => ?_)
    refine g_aload_n0 11 rfl dX4_palatesThatFit_10 ?_
    refine g_iload_n1 12 rfl dX4_palatesThatFit_11 ?_
    refine g_iload_n3 13 rfl dX4_palatesThatFit_12 ?_
    refine g_cv2i 16 rfl cw_RX4_25 dX4_palatesThatFit_13 (c_X4_fitsAll hn hK hH hQ hk (by omega)) (by omega) (ob_15 V) (Nat.le_of_ble_eq_true rfl) ?_
    refine gn_if_eq 25 (by decide) 19 rfl dX4_palatesThatFit_16 (Nat.lt_of_lt_of_le (Bool.toNat_lt _) (by omega)) (fun c16 => ?_) (fun c16 => ?_)
    · refine gn_iinc3 1 28 rfl dX4_palatesThatFit_25 rfl (by decide) rfl ?_
      refine g_goto 4 (by decide) dX4_palatesThatFit_28 ?_
      first | (rw [show palB _ _ _ _ _ (p + 1) = _ from if_neg (by simpa using c16)] at ih; exact ih) | (rw [show palB _ _ _ _ _ (p + 1) = _ from if_pos (by simpa using c16)] at ih; exact ih)
    · refine g_iload_n2 20 rfl dX4_palatesThatFit_19 ?_
      refine g_iconst (v := 1) 21 rfl dX4_palatesThatFit_20 (by decide) ?_
      refine g_iload_n3 22 rfl dX4_palatesThatFit_21 ?_
      refine gn_ishl 23 rfl dX4_palatesThatFit_22 (by omega) ?_
      refine gn_ior 24 rfl dX4_palatesThatFit_23 ?_
      refine g_istore_n2 25 rfl dX4_palatesThatFit_24 (by decide) rfl ?_
      refine gn_iinc3 1 28 rfl dX4_palatesThatFit_25 rfl (by decide) rfl ?_
      refine g_goto 4 (by decide) dX4_palatesThatFit_28 ?_
      first | (rw [show palB _ _ _ _ _ (p + 1) = _ from if_neg (by simpa using c16)] at ih; exact ih) | (rw [show palB _ _ _ _ _ (p + 1) = _ from if_pos (by simpa using c16)] at ih; exact ih)
end X0
