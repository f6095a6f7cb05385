/-! MustardTreaty$Stops -/
theorem g_none {V : Vt} {E : State → Prop} {d : Nat} {own : String} {cc : ByteArray} {nL : Nat} {rt : Option FieldType} {pc : Nat} {lv : List (Option Value)} {st : List Value} {h : Hp} {post : Option Value → Hp → Prop} (i : Nat) (k : G V E d own cc nL rt pc (lv.set i none) st h post) : G V E d own cc nL rt pc lv st h post := by
  refine g_less (lv' := lv.set i none) (fun j v hv => ?_) k
  by_cases q : j = i
  · subst q
    by_cases w : j < lv.length
    · rw [List.getElem?_set_self w] at hv; cases hv
    · rw [List.getElem?_eq_none (by rw [List.length_set]; omega)] at hv; cases hv
  · rw [List.getElem?_set_ne (fun z => q z.symm)] at hv; exact hv
def lossN (E : Nat → Nat) (e t : Nat) : Nat → Nat
  | 0 => 0
  | k + 1 => lossN E e t k + pain (E (3 * e + 2)) (E (3 * e)) (t - k)
def lossB (own oth : Nat) : Nat := if own < oth then 4 else if own = oth then 2 else 0
def lossF (E : Nat → Nat) (e own oth t : Nat) : Nat := lossB own oth + lossN E e t (min own oth)
theorem lossN_le {E : Nat → Nat} {e t : Nat} (ht : t ≤ 9) : ∀ k, lossN E e t k ≤ 10 * k
  | 0 => by simp [lossN]
  | k + 1 => by
    have := lossN_le (E := E) (e := e) ht k
    have := pain_le (k := E (3 * e + 2)) (p := E (3 * e)) (t := t - k) (by omega)
    simp only [lossN]; omega
theorem lossF_le {E : Nat → Nat} {e own oth t : Nat} (ht : t ≤ 9) (ho : own ≤ 4) : lossF E e own oth t ≤ 44 := by
  have := lossN_le (E := E) (e := e) ht (min own oth)
  unfold lossF lossB
  split
  · omega
  · split <;> omega
def lstB (E : Nat → Nat) (e own oth t : Nat) : Nat → Bool
  | 0 => true
  | c + 1 => lstB E e own oth t c && decide (lossF E e own oth t ≤ lossF E e c oth t)
theorem lstB_mono {E : Nat → Nat} {e own oth t i : Nat} (hf : lstB E e own oth t i = false) : ∀ n, i ≤ n → lstB E e own oth t n = false
  | 0, hn => by rw [show i = 0 by omega] at hf; exact hf
  | n + 1, hn => by
    by_cases q : i = n + 1
    · rw [← q]; exact hf
    · have := lstB_mono hf n (by omega)
      simp [lstB, this]
def stp (E : Nat → Nat) (e o t : Nat) : Nat → Nat × Nat
  | 0 => (0, 4294967287)
  | q + 1 => if lstB E e (q / 5) (q % 5) t 5 && lstB E o (q % 5) (q / 5) t 5 then ((stp E e o t q).1 + 1, if (stp E e o t q).1 = 0 then 10 * (q / 5) + q % 5 else (stp E e o t q).2) else stp E e o t q
theorem stp_le {E : Nat → Nat} {e o t : Nat} : ∀ q, (stp E e o t q).1 ≤ q
  | 0 => by simp [stp]
  | q + 1 => by
    have := stp_le (E := E) (e := e) (o := o) (t := t) q
    unfold stp
    split
    · show (stp E e o t q).1 + 1 ≤ q + 1; omega
    · omega
section X6
variable {V : Vt} {h : Hp}
theorem c_X6_loss {e own oth t : Nat} (hx : XI h) (he : e < 4) (h1 : own ≤ 4) (h2 : oth ≤ 4) (ht : t ≤ 9) : Rti V 3 yX6_loss cX6_loss 8 (some .int) [rf V 21, .int (nI e), .int (nI own), .int (nI oth), .int (nI t)] h (nI (lossF (h.1 4) e own oth t)) h := by
  obtain ⟨hE, hC, x4, x5, x7, x8, hTT⟩ := id hx
  refine Mt_in [some (rf V 21), some (.int (nI e)), some (.int (nI own)), some (.int (nI oth)), some (.int (nI t)), none, none, none] (own := RX6) rfl (by decide) (Nat.le_of_ble_eq_true rfl) (fun q hq => hq) ?_
  have K : G V T0 3 RX6 cX6_loss 8 (some .int) 32 [some (rf V 21), some (.int (nI e)), some (.int (nI own)), some (.int (nI oth)), some (.int (nI t)), some (.int (nI (lossB own oth))), some (.int (nI (min own oth))), some (.int (nI 0))] [] h (fun v g => v = some (.int (nI (lossF (h.1 4) e own oth t))) ∧ g = h) := by
    refine loop_up (P := fun k => G V T0 3 RX6 cX6_loss 8 (some .int) 32 [some (rf V 21), some (.int (nI e)), some (.int (nI own)), some (.int (nI oth)), some (.int (nI t)), some (.int (nI (lossB own oth + lossN (h.1 4) e t k))), some (.int (nI (min own oth))), some (.int (nI k))] [] h _) (n := min own oth) ?_ (fun k hk ih => ?_) 0 (Nat.zero_le _)
    · refine g_iload7 34 rfl dX6_loss_32 ?_
      refine g_iload6 36 rfl dX6_loss_34 ?_
      refine gn_icmp_ge 67 (by decide) 39 rfl dX6_loss_36 (by omega) (by omega) (fun c36 => ?_) (fun c36 => absurd c36 (Nat.lt_irrefl _))
      refine g_iload5 69 rfl dX6_loss_67 ?_
      refine g_iret .int dX6_loss_69 rfl (rfl) ?_
      exact ⟨rfl, rfl⟩
    · refine g_iload7 34 rfl dX6_loss_32 ?_
      refine g_iload6 36 rfl dX6_loss_34 ?_
      refine gn_icmp_ge 67 (by decide) 39 rfl dX6_loss_36 (by omega) (by omega) (fun c36 => absurd c36 (Nat.not_le_of_lt hk)) (fun c36 => ?_)
      refine g_iload5 41 rfl dX6_loss_39 ?_
      refine g_aload_n0 42 rfl dX6_loss_41 ?_
      refine gf_Stops_rules 45 rfl fl_RX6_9 dX6_loss_42 ?_
      refine g_iload_n1 46 rfl dX6_loss_45 ?_
      refine g_iconst (v := 0) 47 rfl dX6_loss_46 (by decide) ?_
      refine g_iload4 49 rfl dX6_loss_47 ?_
      refine g_iload7 51 rfl dX6_loss_49 ?_
      refine g_isub 52 rfl dX6_loss_51  ?_
      refine g_max 55 rfl ml_RX6_36 dX6_loss_52 (by decide) (Nat.le_of_ble_eq_true rfl) ?_
      rw [fx_sub0 (by omega) (by omega)]
      refine g_cv2i 58 rfl cw_RX6_39 dX6_loss_55 (c_X1_pain he (x5 e) (x4 _) (by omega)) (by omega) (ob_3 V) (Nat.le_of_ble_eq_true rfl) ?_
      refine gn_iadd 59 rfl dX6_loss_58 ?_
      refine g_istore5 61 rfl dX6_loss_59 (by decide) rfl ?_
      refine gn_iinc7 1 64 rfl dX6_loss_61 rfl (by decide) rfl ?_
      refine g_goto 32 (by decide) dX6_loss_64 ?_
      rw [Nat.add_assoc]
      exact ih
  refine g_iconst (v := 0) 1 rfl dX6_loss_0 (by decide) ?_
  refine g_istore5 3 rfl dX6_loss_1 (by decide) rfl ?_
  refine g_iload_n2 4 rfl dX6_loss_3 ?_
  refine g_iload_n3 5 rfl dX6_loss_4 ?_
  refine gn_icmp_ge 14 (by decide) 8 rfl dX6_loss_5 (by omega) (by omega) (fun c5 => ?_) (fun c5 => ?_)
  · refine g_iload_n2 15 rfl dX6_loss_14 ?_
    refine g_iload_n3 16 rfl dX6_loss_15 ?_
    refine gn_icmp_ne 22 (by decide) 19 rfl dX6_loss_16 (by omega) (by omega) (fun c16 => ?_) (fun c16 => ?_)
    · refine g_iload_n2 23 rfl dX6_loss_22 ?_
      refine g_iload_n3 24 rfl dX6_loss_23 ?_
      refine gn_min 27 rfl ml_RX6_30 dX6_loss_24 (by omega) (by omega) (by decide) (Nat.le_of_ble_eq_true rfl) ?_
      refine g_istore6 29 rfl dX6_loss_27 (by decide) rfl ?_
      refine g_iconst (v := 0) 30 rfl dX6_loss_29 (by decide) ?_
      refine g_istore7 32 rfl dX6_loss_30 (by decide) rfl ?_
      first | (rw [show lossB own oth = 4 from if_pos c5] at K; exact K) | (rw [show lossB own oth = 2 from (if_neg (by omega)).trans (if_pos c16)] at K; exact K) | (rw [show lossB own oth = 0 from (if_neg (by omega)).trans (if_neg c16)] at K; exact K)
    · refine g_iconst (v := 2) 20 rfl dX6_loss_19 (by decide) ?_
      refine g_istore5 22 rfl dX6_loss_20 (by decide) rfl ?_
      refine g_iload_n2 23 rfl dX6_loss_22 ?_
      refine g_iload_n3 24 rfl dX6_loss_23 ?_
      refine gn_min 27 rfl ml_RX6_30 dX6_loss_24 (by omega) (by omega) (by decide) (Nat.le_of_ble_eq_true rfl) ?_
      refine g_istore6 29 rfl dX6_loss_27 (by decide) rfl ?_
      refine g_iconst (v := 0) 30 rfl dX6_loss_29 (by decide) ?_
      refine g_istore7 32 rfl dX6_loss_30 (by decide) rfl ?_
      first | (rw [show lossB own oth = 4 from if_pos c5] at K; exact K) | (rw [show lossB own oth = 2 from (if_neg (by omega)).trans (if_pos c16)] at K; exact K) | (rw [show lossB own oth = 0 from (if_neg (by omega)).trans (if_neg c16)] at K; exact K)
  · refine g_iconst (v := 4) 9 rfl dX6_loss_8 (by decide) ?_
    refine g_istore5 11 rfl dX6_loss_9 (by decide) rfl ?_
    refine g_goto 22 (by decide) dX6_loss_11 ?_
    refine g_iload_n2 23 rfl dX6_loss_22 ?_
    refine g_iload_n3 24 rfl dX6_loss_23 ?_
    refine gn_min 27 rfl ml_RX6_30 dX6_loss_24 (by omega) (by omega) (by decide) (Nat.le_of_ble_eq_true rfl) ?_
    refine g_istore6 29 rfl dX6_loss_27 (by decide) rfl ?_
    refine g_iconst (v := 0) 30 rfl dX6_loss_29 (by decide) ?_
    refine g_istore7 32 rfl dX6_loss_30 (by decide) rfl ?_
    first | (rw [show lossB own oth = 4 from if_pos c5] at K; exact K) | (rw [show lossB own oth = 2 from (if_neg (by omega)).trans (if_pos c16)] at K; exact K) | (rw [show lossB own oth = 0 from (if_neg (by omega)).trans (if_neg c16)] at K; exact K)
theorem c_X6_isLeast {e own oth t : Nat} (hx : XI h) (he : e < 4) (h1 : own ≤ 4) (h2 : oth ≤ 4) (ht : t ≤ 9) : Rti V 4 yX6_isLeast cX6_isLeast 7 (some .boolean) [rf V 21, .int (nI e), .int (nI own), .int (nI oth), .int (nI t)] h (nI (lstB (h.1 4) e own oth t 5).toNat) h := by
  have hl := lossF_le (E := h.1 4) (e := e) (oth := oth) ht h1
  refine Mt_in [some (rf V 21), some (.int (nI e)), some (.int (nI own)), some (.int (nI oth)), some (.int (nI t)), none, none] (own := RX6) rfl (by decide) (Nat.le_of_ble_eq_true rfl) (fun q hq => hq) ?_
  refine g_aload_n0 1 rfl dX6_isLeast_0 ?_
  refine g_iload_n1 2 rfl dX6_isLeast_1 ?_
  refine g_iload_n2 3 rfl dX6_isLeast_2 ?_
  refine g_iload_n3 4 rfl dX6_isLeast_3 ?_
  refine g_iload4 6 rfl dX6_isLeast_4 ?_
  refine g_cv4i 9 rfl cw_RX6_26 dX6_isLeast_6 (c_X6_loss hx he h1 h2 ht) (by omega) (ob_21 V) (Nat.le_of_ble_eq_true rfl) ?_
  refine g_istore5 11 rfl dX6_isLeast_9 (by decide) rfl ?_
  refine g_iconst (v := 0) 12 rfl dX6_isLeast_11 (by decide) ?_
  refine g_istore6 14 rfl dX6_isLeast_12 (by decide) rfl ?_
  skip
  refine loop_up (P := fun i => lstB (h.1 4) e own oth t i = true → G V T0 4 RX6 cX6_isLeast 7 (some .boolean) 14 [some (rf V 21), some (.int (nI e)), some (.int (nI own)), some (.int (nI oth)), some (.int (nI t)), some (.int (nI (lossF (h.1 4) e own oth t))), some (.int (nI i))] [] h _) (n := 5) ?_ (fun i hi ih => ?_) 0 (Nat.zero_le _) rfl
  · intro hf
    refine g_iload6 16 rfl dX6_isLeast_14 ?_
    refine g_iconst (v := 4) 17 rfl dX6_isLeast_16 (by decide) ?_
    refine gn_icmp_gt 43 (by decide) 20 rfl dX6_isLeast_17 (by omega) (by omega) (fun c17 => ?_) (fun c17 => absurd c17 (by omega))
    refine g_iconst (v := 1) 44 rfl dX6_isLeast_43 (by decide) ?_
    refine g_iret .boolean dX6_isLeast_44 rfl (rfl) ?_
    exact ⟨by rw [hf]; rfl, rfl⟩
  · intro hf
    have hl2 := lossF_le (E := h.1 4) (e := e) (oth := oth) (own := i) ht (by omega)
    refine g_iload6 16 rfl dX6_isLeast_14 ?_
    refine g_iconst (v := 4) 17 rfl dX6_isLeast_16 (by decide) ?_
    refine gn_icmp_gt 43 (by decide) 20 rfl dX6_isLeast_17 (by omega) (by omega) (fun c17 => absurd c17 (by omega)) (fun c17 => ?_)
    refine g_aload_n0 21 rfl dX6_isLeast_20 ?_
    refine g_iload_n1 22 rfl dX6_isLeast_21 ?_
    refine g_iload6 24 rfl dX6_isLeast_22 ?_
    refine g_iload_n3 25 rfl dX6_isLeast_24 ?_
    refine g_iload4 27 rfl dX6_isLeast_25 ?_
    refine g_cv4i 30 rfl cw_RX6_26 dX6_isLeast_27 (c_X6_loss hx he (by omega) h2 ht) (by omega) (ob_21 V) (Nat.le_of_ble_eq_true rfl) ?_
    refine g_iload5 32 rfl dX6_isLeast_30 ?_
    refine gn_icmp_ge 37 (by decide) 35 rfl dX6_isLeast_32 (by omega) (by omega) (fun c32 => ?_) (fun c32 => ?_)
    · refine gn_iinc6 1 40 rfl dX6_isLeast_37 rfl (by decide) rfl ?_
      refine g_goto 14 (by decide) dX6_isLeast_40 ?_
      refine ih ?_
      simp only [lstB, hf, Bool.true_and]
      exact decide_eq_true c32
    · refine g_iconst (v := 0) 36 rfl dX6_isLeast_35 (by decide) ?_
      refine g_iret .boolean dX6_isLeast_36 rfl (rfl) ?_
      refine ⟨?_, rfl⟩
      rw [lstB_mono (i := i + 1) (by simp only [lstB, hf, Bool.true_and]; exact decide_eq_false (by omega)) _ (by omega)]
      rfl
theorem c_X6_find {e o t : Nat} (hx : XI h) (he : e < 4) (ho : o < 4) (ht : t ≤ 9) : Rtv V 5 yX6_find cX6_find 6 none [rf V 21, .int (nI e), .int (nI o), .int (nI t)] h (sR h 21 (up (up (h.1 21) 1 (stp (h.1 4) e o t 25).1) 2 (stp (h.1 4) e o t 25).2)) := by
  refine Mt_in [some (rf V 21), some (.int (nI e)), some (.int (nI o)), some (.int (nI t)), none, none] (own := RX6) rfl (by decide) (Nat.le_of_ble_eq_true rfl) (fun q hq => hq) ?_
  refine g_aload_n0 1 rfl dX6_find_0 ?_
  refine g_iconst (v := 0) 2 rfl dX6_find_1 (by decide) ?_
  refine gp_Stops_count 5 rfl fl_RX6_15 dX6_find_2 ?_
  refine g_aload_n0 6 rfl dX6_find_5 ?_
  refine g_bipush (v := 4294967287) 8 rfl dX6_find_6 (by decide) ?_
  refine gp_Stops_first 11 rfl fl_RX6_19 dX6_find_8 ?_
  rw [sR_s, sR_sR]
  refine g_iconst (v := 0) 12 rfl dX6_find_11 (by decide) ?_
  refine g_istore4 14 rfl dX6_find_12 (by decide) rfl ?_
  skip
  refine loop_up (P := fun a => G V T0 5 RX6 cX6_find 6 none 14 [some (rf V 21), some (.int (nI e)), some (.int (nI o)), some (.int (nI t)), some (.int (nI a)), none] [] (sR h 21 (up (up (h.1 21) 1 (stp (h.1 4) e o t (5 * a)).1) 2 (stp (h.1 4) e o t (5 * a)).2)) _) (n := 5) ?_ (fun a ha ih => ?_) 0 (Nat.zero_le _)
  · refine g_iload4 16 rfl dX6_find_14 ?_
    refine g_iconst (v := 4) 17 rfl dX6_find_16 (by decide) ?_
    refine gn_icmp_gt 96 (by decide) 20 rfl dX6_find_17 (by omega) (by omega) (fun c17 => ?_) (fun c17 => absurd c17 (by omega))
    refine g_vret dX6_find_96 rfl ?_
    exact ⟨rfl, rfl⟩
  · refine g_iload4 16 rfl dX6_find_14 ?_
    refine g_iconst (v := 4) 17 rfl dX6_find_16 (by decide) ?_
    refine gn_icmp_gt 96 (by decide) 20 rfl dX6_find_17 (by omega) (by omega) (fun c17 => absurd c17 (by omega)) (fun c17 => ?_)
    refine g_iconst (v := 0) 21 rfl dX6_find_20 (by decide) ?_
    refine g_istore5 23 rfl dX6_find_21 (by decide) rfl ?_
    skip
    refine loop_up (P := fun b => G V T0 5 RX6 cX6_find 6 none 23 [some (rf V 21), some (.int (nI e)), some (.int (nI o)), some (.int (nI t)), some (.int (nI a)), some (.int (nI b))] [] (sR h 21 (up (up (h.1 21) 1 (stp (h.1 4) e o t (5 * a + b)).1) 2 (stp (h.1 4) e o t (5 * a + b)).2)) _) (n := 5) ?_ (fun b hb ih2 => ?_) 0 (Nat.zero_le _)
    · refine g_iload5 25 rfl dX6_find_23 ?_
      refine g_iconst (v := 4) 26 rfl dX6_find_25 (by decide) ?_
      refine gn_icmp_gt 90 (by decide) 29 rfl dX6_find_26 (by omega) (by omega) (fun c26 => ?_) (fun c26 => absurd c26 (by omega))
      refine gn_iinc4 1 93 rfl dX6_find_90 rfl (by decide) rfl ?_
      refine g_goto 14 (by decide) dX6_find_93 ?_
      refine g_none 5 ?_
      exact ih
    · have hX : ∀ f, XI (sR h 21 f) := fun f => XI_o hx f (by decide) (by decide) (by decide) (by decide)
      have hs := stp_le (E := h.1 4) (e := e) (o := o) (t := t) (5 * a + b)
      have eq5 : (5 * a + b) / 5 = a := by omega
      have em5 : (5 * a + b) % 5 = b := by omega
      have ih2 : G V T0 5 RX6 cX6_find 6 none 23 [some (rf V 21), some (.int (nI e)), some (.int (nI o)), some (.int (nI t)), some (.int (nI a)), some (.int (nI (b + 1)))] [] (sR h 21 (up (up (h.1 21) 1 (stp (h.1 4) e o t (5 * a + b + 1)).1) 2 (stp (h.1 4) e o t (5 * a + b + 1)).2)) _ := ih2
      have hst : stp (h.1 4) e o t (5 * a + b + 1) = if (lstB (h.1 4) e ((5 * a + b) / 5) ((5 * a + b) % 5) t 5 && lstB (h.1 4) o ((5 * a + b) % 5) ((5 * a + b) / 5) t 5) then ((stp (h.1 4) e o t (5 * a + b)).1 + 1, if (stp (h.1 4) e o t (5 * a + b)).1 = 0 then 10 * ((5 * a + b) / 5) + (5 * a + b) % 5 else (stp (h.1 4) e o t (5 * a + b)).2) else stp (h.1 4) e o t (5 * a + b) := rfl
      rw [eq5, em5] at hst
      rw [hst] at ih2
      clear hst
      generalize stp (h.1 4) e o t (5 * a + b) = z at hs ih2 ⊢
      obtain ⟨zc, zf⟩ := z
      refine g_iload5 25 rfl dX6_find_23 ?_
      refine g_iconst (v := 4) 26 rfl dX6_find_25 (by decide) ?_
      refine gn_icmp_gt 90 (by decide) 29 rfl dX6_find_26 (by omega) (by omega) (fun c26 => absurd c26 (by omega)) (fun c26 => ?_)
      refine g_aload_n0 30 rfl dX6_find_29 ?_
      refine g_iload_n1 31 rfl dX6_find_30 ?_
      refine g_iload4 33 rfl dX6_find_31 ?_
      refine g_iload5 35 rfl dX6_find_33 ?_
      refine g_iload_n3 36 rfl dX6_find_35 ?_
      refine g_cv4i 39 rfl cw_RX6_22 dX6_find_36 (c_X6_isLeast (hX _) he (by omega) (by omega) ht) (by omega) (ob_21 V) (Nat.le_of_ble_eq_true rfl) ?_
      refine gn_if_eq 84 (by decide) 42 rfl dX6_find_39 (Nat.lt_of_lt_of_le (Bool.toNat_lt _) (by omega)) (fun c39 => ?_) (fun c39 => ?_)
      · try rw [sR_s, sR_sR, up_c _ (by omega), up_up]
        refine gn_iinc5 1 87 rfl dX6_find_84 rfl (by decide) rfl ?_
        refine g_goto 23 (by decide) dX6_find_87 ?_
        first
        | (have q : lstB (h.1 4) e a b t 5 = false := by simpa using (show (lstB (h.1 4) e a b t 5).toNat = 0 from c39)
           rw [q, Bool.false_and, if_neg (by decide)] at ih2; exact ih2)
        | (have q : lstB (h.1 4) o b a t 5 = false := by simpa using (show (lstB (h.1 4) o b a t 5).toNat = 0 from c52)
           rw [q, Bool.and_false, if_neg (by decide)] at ih2; exact ih2)
        | (have q1 : lstB (h.1 4) e a b t 5 = true := by simpa using (show ¬ (lstB (h.1 4) e a b t 5).toNat = 0 from c39)
           have q2 : lstB (h.1 4) o b a t 5 = true := by simpa using (show ¬ (lstB (h.1 4) o b a t 5).toNat = 0 from c52)
           rw [q1, q2, Bool.and_true, if_pos rfl] at ih2
           first | (rw [if_pos c59] at ih2; exact ih2) | (rw [if_neg c59] at ih2; exact ih2))
      · refine g_aload_n0 43 rfl dX6_find_42 ?_
        refine g_iload_n2 44 rfl dX6_find_43 ?_
        refine g_iload5 46 rfl dX6_find_44 ?_
        refine g_iload4 48 rfl dX6_find_46 ?_
        refine g_iload_n3 49 rfl dX6_find_48 ?_
        refine g_cv4i 52 rfl cw_RX6_22 dX6_find_49 (c_X6_isLeast (hX _) ho (by omega) (by omega) ht) (by omega) (ob_21 V) (Nat.le_of_ble_eq_true rfl) ?_
        refine gn_if_eq 84 (by decide) 55 rfl dX6_find_52 (Nat.lt_of_lt_of_le (Bool.toNat_lt _) (by omega)) (fun c52 => ?_) (fun c52 => ?_)
        · try rw [sR_s, sR_sR, up_c _ (by omega), up_up]
          refine gn_iinc5 1 87 rfl dX6_find_84 rfl (by decide) rfl ?_
          refine g_goto 23 (by decide) dX6_find_87 ?_
          first
          | (have q : lstB (h.1 4) e a b t 5 = false := by simpa using (show (lstB (h.1 4) e a b t 5).toNat = 0 from c39)
             rw [q, Bool.false_and, if_neg (by decide)] at ih2; exact ih2)
          | (have q : lstB (h.1 4) o b a t 5 = false := by simpa using (show (lstB (h.1 4) o b a t 5).toNat = 0 from c52)
             rw [q, Bool.and_false, if_neg (by decide)] at ih2; exact ih2)
          | (have q1 : lstB (h.1 4) e a b t 5 = true := by simpa using (show ¬ (lstB (h.1 4) e a b t 5).toNat = 0 from c39)
             have q2 : lstB (h.1 4) o b a t 5 = true := by simpa using (show ¬ (lstB (h.1 4) o b a t 5).toNat = 0 from c52)
             rw [q1, q2, Bool.and_true, if_pos rfl] at ih2
             first | (rw [if_pos c59] at ih2; exact ih2) | (rw [if_neg c59] at ih2; exact ih2))
        · refine g_aload_n0 56 rfl dX6_find_55 ?_
          refine gf_Stops_count 59 rfl fl_RX6_15 dX6_find_56 ?_
          rw [sR_s, up_n (by omega), up_s]
          refine gn_if_ne 74 (by decide) 62 rfl dX6_find_59 (by omega) (fun c59 => ?_) (fun c59 => ?_)
          · try rw [sR_s, sR_sR, up_up]
            refine g_aload_n0 75 rfl dX6_find_74 ?_
            refine g_dup 76 rfl dX6_find_75 rfl ?_
            refine gf_Stops_count 79 rfl fl_RX6_15 dX6_find_76 ?_
            rw [sR_s, up_n (by omega), up_s]
            refine g_iconst (v := 1) 80 rfl dX6_find_79 (by decide) ?_
            refine gn_iadd 81 rfl dX6_find_80 ?_
            refine gp_Stops_count 84 rfl fl_RX6_15 dX6_find_81 ?_
            try rw [sR_s, sR_sR, up_c _ (by omega), up_up]
            refine gn_iinc5 1 87 rfl dX6_find_84 rfl (by decide) rfl ?_
            refine g_goto 23 (by decide) dX6_find_87 ?_
            first
            | (have q : lstB (h.1 4) e a b t 5 = false := by simpa using (show (lstB (h.1 4) e a b t 5).toNat = 0 from c39)
               rw [q, Bool.false_and, if_neg (by decide)] at ih2; exact ih2)
            | (have q : lstB (h.1 4) o b a t 5 = false := by simpa using (show (lstB (h.1 4) o b a t 5).toNat = 0 from c52)
               rw [q, Bool.and_false, if_neg (by decide)] at ih2; exact ih2)
            | (have q1 : lstB (h.1 4) e a b t 5 = true := by simpa using (show ¬ (lstB (h.1 4) e a b t 5).toNat = 0 from c39)
               have q2 : lstB (h.1 4) o b a t 5 = true := by simpa using (show ¬ (lstB (h.1 4) o b a t 5).toNat = 0 from c52)
               rw [q1, q2, Bool.and_true, if_pos rfl] at ih2
               first | (rw [if_pos c59] at ih2; exact ih2) | (rw [if_neg c59] at ih2; exact ih2))
          · refine g_aload_n0 63 rfl dX6_find_62 ?_
            refine g_bipush (v := 10) 65 rfl dX6_find_63 (by decide) ?_
            refine g_iload4 67 rfl dX6_find_65 ?_
            refine gn_imul 68 rfl dX6_find_67 ?_
            refine g_iload5 70 rfl dX6_find_68 ?_
            refine gn_iadd 71 rfl dX6_find_70 ?_
            refine gp_Stops_first 74 rfl fl_RX6_19 dX6_find_71 ?_
            try rw [sR_s, sR_sR, up_up]
            refine g_aload_n0 75 rfl dX6_find_74 ?_
            refine g_dup 76 rfl dX6_find_75 rfl ?_
            refine gf_Stops_count 79 rfl fl_RX6_15 dX6_find_76 ?_
            rw [sR_s, up_n (by omega), up_s]
            refine g_iconst (v := 1) 80 rfl dX6_find_79 (by decide) ?_
            refine gn_iadd 81 rfl dX6_find_80 ?_
            refine gp_Stops_count 84 rfl fl_RX6_15 dX6_find_81 ?_
            try rw [sR_s, sR_sR, up_c _ (by omega), up_up]
            refine gn_iinc5 1 87 rfl dX6_find_84 rfl (by decide) rfl ?_
            refine g_goto 23 (by decide) dX6_find_87 ?_
            first
            | (have q : lstB (h.1 4) e a b t 5 = false := by simpa using (show (lstB (h.1 4) e a b t 5).toNat = 0 from c39)
               rw [q, Bool.false_and, if_neg (by decide)] at ih2; exact ih2)
            | (have q : lstB (h.1 4) o b a t 5 = false := by simpa using (show (lstB (h.1 4) o b a t 5).toNat = 0 from c52)
               rw [q, Bool.and_false, if_neg (by decide)] at ih2; exact ih2)
            | (have q1 : lstB (h.1 4) e a b t 5 = true := by simpa using (show ¬ (lstB (h.1 4) e a b t 5).toNat = 0 from c39)
               have q2 : lstB (h.1 4) o b a t 5 = true := by simpa using (show ¬ (lstB (h.1 4) o b a t 5).toNat = 0 from c52)
               rw [q1, q2, Bool.and_true, if_pos rfl] at ih2
               first | (rw [if_pos c59] at ih2; exact ih2) | (rw [if_neg c59] at ih2; exact ih2))
end X6
