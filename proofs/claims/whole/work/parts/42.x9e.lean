/-! the reference: rests, chances, talks, slots -/
theorem s22_24 (h : Hp) (f : Nat → Nat) : (sR h 22 f).1 24 = h.1 24 := rfl
theorem s22_28 (h : Hp) (f : Nat → Nat) : (sR h 22 f).1 28 = h.1 28 := rfl
section X9e
variable {V : Vt} {h : Hp}
theorem c_X9_findRests {e o : Nat} (hm : MI h) (he : e < 4) (ho : o < 4) : Rtv V 4 yX9_findRests cX9_findRests 7 none [rf V 22, .int (nI e), .int (nI o)] h (sR h 22 (up (up (h.1 22) 27 (stp (h.1 24) e o (h.1 28 0) 25).1) 28 (stp (h.1 24) e o (h.1 28 0) 25).2)) := by
  have ht := hm.2.2.2.2.2.2.1.1
  have hM : ∀ a b, MI (sR h 22 (up (up (h.1 22) 27 a) 28 b)) := fun a b => by
    have h1 := MI_22 hm (o := 27) (v := a) (by decide) (by decide)
    have h2 := MI_22 h1 (o := 28) (v := b) (by decide) (by decide)
    rw [sR_s, sR_sR] at h2
    exact h2
  refine Mt_in [some (rf V 22), some (.int (nI e)), some (.int (nI o)), none, none, none, none] (own := RX9) rfl (by decide) (Nat.le_of_ble_eq_true rfl) (fun q hq => hq) ?_
  refine g_aload_n0 1 rfl dX9_findRests_0 ?_
  refine g_iconst (v := 0) 2 rfl dX9_findRests_1 (by decide) ?_
  refine gp_Model_restMany 5 rfl fl_RX9_199 dX9_findRests_2 ?_
  refine g_aload_n0 6 rfl dX9_findRests_5 ?_
  refine g_bipush (v := 4294967287) 8 rfl dX9_findRests_6 (by decide) ?_
  refine gp_Model_restFirst 11 rfl fl_RX9_202 dX9_findRests_8 ?_
  rw [sR_s, sR_sR]
  refine g_iconst (v := 0) 12 rfl dX9_findRests_11 (by decide) ?_
  refine g_istore_n3 13 rfl dX9_findRests_12 (by decide) rfl ?_
  skip
  refine loop_up (P := fun a => G V T0 4 RX9 cX9_findRests 7 none 13 [some (rf V 22), some (.int (nI e)), some (.int (nI o)), some (.int (nI a)), none, none, none] [] (sR h 22 (up (up (h.1 22) 27 (stp (h.1 24) e o (h.1 28 0) (5 * a)).1) 28 (stp (h.1 24) e o (h.1 28 0) (5 * a)).2)) _) (n := 5) ?_ (fun a ha ih => ?_) 0 (Nat.zero_le _)
  · refine g_iload_n3 14 rfl dX9_findRests_13 ?_
    refine g_iconst (v := 5) 15 rfl dX9_findRests_14 (by decide) ?_
    refine gn_icmp_ge 157 (by decide) 18 rfl dX9_findRests_15 (by omega) (by omega) (fun c15 => ?_) (fun c15 => absurd c15 (by omega))
    refine g_vret dX9_findRests_157 rfl ?_
    exact ⟨rfl, rfl⟩
  · refine g_iload_n3 14 rfl dX9_findRests_13 ?_
    refine g_iconst (v := 5) 15 rfl dX9_findRests_14 (by decide) ?_
    refine gn_icmp_ge 157 (by decide) 18 rfl dX9_findRests_15 (by omega) (by omega) (fun c15 => absurd c15 (by omega)) (fun c15 => ?_)
    refine g_iconst (v := 0) 19 rfl dX9_findRests_18 (by decide) ?_
    refine g_istore4 21 rfl dX9_findRests_19 (by decide) rfl ?_
    skip
    refine loop_up (P := fun b => G V T0 4 RX9 cX9_findRests 7 none 21 [some (rf V 22), some (.int (nI e)), some (.int (nI o)), some (.int (nI a)), some (.int (nI b)), none, none] [] (sR h 22 (up (up (h.1 22) 27 (stp (h.1 24) e o (h.1 28 0) (5 * a + b)).1) 28 (stp (h.1 24) e o (h.1 28 0) (5 * a + b)).2)) _) (n := 5) ?_ (fun b hb ih2 => ?_) 0 (Nat.zero_le _)
    · refine g_iload4 23 rfl dX9_findRests_21 ?_
      refine g_iconst (v := 5) 24 rfl dX9_findRests_23 (by decide) ?_
      refine gn_icmp_ge 151 (by decide) 27 rfl dX9_findRests_24 (by omega) (by omega) (fun c24 => ?_) (fun c24 => absurd c24 (by omega))
      refine gn_iinc3 1 154 rfl dX9_findRests_151 rfl (by decide) rfl ?_
      refine g_goto 13 (by decide) dX9_findRests_154 ?_
      refine g_none 4 ?_
      exact ih
    · have hs := stp_le (E := h.1 24) (e := e) (o := o) (t := h.1 28 0) (5 * a + b)
      have eq5 : (5 * a + b) / 5 = a := by omega
      have em5 : (5 * a + b) % 5 = b := by omega
      have ih2 : G V T0 4 RX9 cX9_findRests 7 none 21 [some (rf V 22), some (.int (nI e)), some (.int (nI o)), some (.int (nI a)), some (.int (nI (b + 1))), none, none] [] (sR h 22 (up (up (h.1 22) 27 (stp (h.1 24) e o (h.1 28 0) (5 * a + b + 1)).1) 28 (stp (h.1 24) e o (h.1 28 0) (5 * a + b + 1)).2)) _ := ih2
      have hst : stp (h.1 24) e o (h.1 28 0) (5 * a + b + 1) = if (lstB (h.1 24) e ((5 * a + b) / 5) ((5 * a + b) % 5) (h.1 28 0) 5 && lstB (h.1 24) o ((5 * a + b) % 5) ((5 * a + b) / 5) (h.1 28 0) 5) then ((stp (h.1 24) e o (h.1 28 0) (5 * a + b)).1 + 1, if (stp (h.1 24) e o (h.1 28 0) (5 * a + b)).1 = 0 then 10 * ((5 * a + b) / 5) + (5 * a + b) % 5 else (stp (h.1 24) e o (h.1 28 0) (5 * a + b)).2) else stp (h.1 24) e o (h.1 28 0) (5 * a + b) := rfl
      rw [eq5, em5] at hst
      rw [hst] at ih2
      clear hst
      generalize stp (h.1 24) e o (h.1 28 0) (5 * a + b) = z at hs ih2 ⊢
      obtain ⟨zc, zf⟩ := z
      refine g_iload4 23 rfl dX9_findRests_21 ?_
      refine g_iconst (v := 5) 24 rfl dX9_findRests_23 (by decide) ?_
      refine gn_icmp_ge 151 (by decide) 27 rfl dX9_findRests_24 (by omega) (by omega) (fun c24 => absurd c24 (by omega)) (fun c24 => ?_)
      refine g_iconst (v := 1) 28 rfl dX9_findRests_27 (by decide) ?_
      refine g_istore5 30 rfl dX9_findRests_28 (by decide) rfl ?_
      refine g_iconst (v := 0) 31 rfl dX9_findRests_30 (by decide) ?_
      refine g_istore6 33 rfl dX9_findRests_31 (by decide) rfl ?_
      skip
      refine loop_up (P := fun k => G V T0 4 RX9 cX9_findRests 7 none 33 [some (rf V 22), some (.int (nI e)), some (.int (nI o)), some (.int (nI a)), some (.int (nI b)), some (.int (nI (lstB (h.1 24) e a b (h.1 28 0) k && lstB (h.1 24) o b a (h.1 28 0) k).toNat)), some (.int (nI k))] [] (sR h 22 (up (up (h.1 22) 27 zc) 28 zf)) _) (n := 5) ?_ (fun k hk ih3 => ?_) 0 (Nat.zero_le _)
      · have hs2 : zc ≤ 5 * a + b := hs
        cases hq : (lstB (h.1 24) e a b (h.1 28 0) 5 && lstB (h.1 24) o b a (h.1 28 0) 5) with
        | false =>
          rw [hq, if_neg (by decide)] at ih2
          refine g_iload6 35 rfl dX9_findRests_33 ?_
          refine g_iconst (v := 5) 36 rfl dX9_findRests_35 (by decide) ?_
          refine gn_icmp_ge 96 (by decide) 39 rfl dX9_findRests_36 (by omega) (by omega) (fun c36 => ?_) (fun c36 => absurd c36 (by omega))
          refine g_aload_n0 97 rfl dX9_findRests_96 ?_
          refine g_iload5 99 rfl dX9_findRests_97 ?_
          refine gn_if_eq 119 (by decide) 102 rfl dX9_findRests_99 (by decide) (fun c99 => ?_) (fun c99 => absurd rfl c99)
          refine g_aload_n0 120 rfl dX9_findRests_119 ?_
          refine gf_Model_restFirst 123 rfl fl_RX9_202 dX9_findRests_120 ?_
          rw [sR_s, up_s]
          refine gp_Model_restFirst 126 rfl fl_RX9_202 dX9_findRests_123 ?_
          rw [sR_s, sR_sR, up_up]
          refine g_aload_n0 127 rfl dX9_findRests_126 ?_
          refine g_dup 128 rfl dX9_findRests_127 rfl ?_
          refine gf_Model_restMany 131 rfl fl_RX9_199 dX9_findRests_128 ?_
          rw [sR_s, up_n (by omega), up_s]
          refine g_iload5 133 rfl dX9_findRests_131 ?_
          refine gn_if_eq 140 (by decide) 136 rfl dX9_findRests_133 (by decide) (fun c133 => ?_) (fun c133 => absurd rfl c133)
          refine g_iconst (v := 0) 141 rfl dX9_findRests_140 (by decide) ?_
          refine gn_iadd 142 rfl dX9_findRests_141 ?_
          rw [Nat.add_zero]
          refine gp_Model_restMany 145 rfl fl_RX9_199 dX9_findRests_142 ?_
          rw [sR_s, sR_sR, up_c _ (by omega), up_up]
          refine gn_iinc4 1 148 rfl dX9_findRests_145 rfl (by decide) rfl ?_
          refine g_goto 21 (by decide) dX9_findRests_148 ?_
          refine g_none 5 (g_none 6 ?_)
          exact ih2
        | true =>
          rw [hq, if_pos rfl] at ih2
          by_cases hz : zc = 0
          · rw [if_pos hz] at ih2
            refine g_iload6 35 rfl dX9_findRests_33 ?_
            refine g_iconst (v := 5) 36 rfl dX9_findRests_35 (by decide) ?_
            refine gn_icmp_ge 96 (by decide) 39 rfl dX9_findRests_36 (by omega) (by omega) (fun c36 => ?_) (fun c36 => absurd c36 (by omega))
            refine g_aload_n0 97 rfl dX9_findRests_96 ?_
            refine g_iload5 99 rfl dX9_findRests_97 ?_
            refine gn_if_eq 119 (by decide) 102 rfl dX9_findRests_99 (by decide) (fun c99 => absurd c99 (by decide)) (fun c99 => ?_)
            refine g_aload_n0 103 rfl dX9_findRests_102 ?_
            refine gf_Model_restMany 106 rfl fl_RX9_199 dX9_findRests_103 ?_
            rw [sR_s, up_n (by omega), up_s]
            refine gn_if_ne 119 (by decide) 109 rfl dX9_findRests_106 (by omega) (fun c106 => absurd hz c106) (fun c106 => ?_)
            refine g_bipush (v := 10) 111 rfl dX9_findRests_109 (by decide) ?_
            refine g_iload_n3 112 rfl dX9_findRests_111 ?_
            refine gn_imul 113 rfl dX9_findRests_112 ?_
            refine g_iload4 115 rfl dX9_findRests_113 ?_
            refine gn_iadd 116 rfl dX9_findRests_115 ?_
            refine g_goto 123 (by decide) dX9_findRests_116 ?_
            refine gp_Model_restFirst 126 rfl fl_RX9_202 dX9_findRests_123 ?_
            rw [sR_s, sR_sR, up_up]
            refine g_aload_n0 127 rfl dX9_findRests_126 ?_
            refine g_dup 128 rfl dX9_findRests_127 rfl ?_
            refine gf_Model_restMany 131 rfl fl_RX9_199 dX9_findRests_128 ?_
            rw [sR_s, up_n (by omega), up_s]
            refine g_iload5 133 rfl dX9_findRests_131 ?_
            refine gn_if_eq 140 (by decide) 136 rfl dX9_findRests_133 (by decide) (fun c133 => absurd c133 (by decide)) (fun c133 => ?_)
            refine g_iconst (v := 1) 137 rfl dX9_findRests_136 (by decide) ?_
            refine g_goto 141 (by decide) dX9_findRests_137 ?_
            refine gn_iadd 142 rfl dX9_findRests_141 ?_
            refine gp_Model_restMany 145 rfl fl_RX9_199 dX9_findRests_142 ?_
            rw [sR_s, sR_sR, up_c _ (by omega), up_up]
            refine gn_iinc4 1 148 rfl dX9_findRests_145 rfl (by decide) rfl ?_
            refine g_goto 21 (by decide) dX9_findRests_148 ?_
            refine g_none 5 (g_none 6 ?_)
            exact ih2
          · rw [if_neg hz] at ih2
            refine g_iload6 35 rfl dX9_findRests_33 ?_
            refine g_iconst (v := 5) 36 rfl dX9_findRests_35 (by decide) ?_
            refine gn_icmp_ge 96 (by decide) 39 rfl dX9_findRests_36 (by omega) (by omega) (fun c36 => ?_) (fun c36 => absurd c36 (by omega))
            refine g_aload_n0 97 rfl dX9_findRests_96 ?_
            refine g_iload5 99 rfl dX9_findRests_97 ?_
            refine gn_if_eq 119 (by decide) 102 rfl dX9_findRests_99 (by decide) (fun c99 => absurd c99 (by decide)) (fun c99 => ?_)
            refine g_aload_n0 103 rfl dX9_findRests_102 ?_
            refine gf_Model_restMany 106 rfl fl_RX9_199 dX9_findRests_103 ?_
            rw [sR_s, up_n (by omega), up_s]
            refine gn_if_ne 119 (by decide) 109 rfl dX9_findRests_106 (by omega) (fun c106 => ?_) (fun c106 => absurd c106 hz)
            refine g_aload_n0 120 rfl dX9_findRests_119 ?_
            refine gf_Model_restFirst 123 rfl fl_RX9_202 dX9_findRests_120 ?_
            rw [sR_s, up_s]
            refine gp_Model_restFirst 126 rfl fl_RX9_202 dX9_findRests_123 ?_
            rw [sR_s, sR_sR, up_up]
            refine g_aload_n0 127 rfl dX9_findRests_126 ?_
            refine g_dup 128 rfl dX9_findRests_127 rfl ?_
            refine gf_Model_restMany 131 rfl fl_RX9_199 dX9_findRests_128 ?_
            rw [sR_s, up_n (by omega), up_s]
            refine g_iload5 133 rfl dX9_findRests_131 ?_
            refine gn_if_eq 140 (by decide) 136 rfl dX9_findRests_133 (by decide) (fun c133 => absurd c133 (by decide)) (fun c133 => ?_)
            refine g_iconst (v := 1) 137 rfl dX9_findRests_136 (by decide) ?_
            refine g_goto 141 (by decide) dX9_findRests_137 ?_
            refine gn_iadd 142 rfl dX9_findRests_141 ?_
            refine gp_Model_restMany 145 rfl fl_RX9_199 dX9_findRests_142 ?_
            rw [sR_s, sR_sR, up_c _ (by omega), up_up]
            refine gn_iinc4 1 148 rfl dX9_findRests_145 rfl (by decide) rfl ?_
            refine g_goto 21 (by decide) dX9_findRests_148 ?_
            refine g_none 5 (g_none 6 ?_)
            exact ih2
      · have hm2 := hM zc zf
        have l1 := lossF_le (E := h.1 24) (e := e) (own := k) (oth := b) ht (by omega)
        have l2 := lossF_le (E := h.1 24) (e := e) (own := a) (oth := b) ht (by omega)
        have l3 := lossF_le (E := h.1 24) (e := o) (own := k) (oth := a) ht (by omega)
        have l4 := lossF_le (E := h.1 24) (e := o) (own := b) (oth := a) ht (by omega)
        have ih3 : G V T0 4 RX9 cX9_findRests 7 none 33 [some (rf V 22), some (.int (nI e)), some (.int (nI o)), some (.int (nI a)), some (.int (nI b)), some (.int (nI ((lstB (h.1 24) e a b (h.1 28 0) k && decide (lossF (h.1 24) e a b (h.1 28 0) ≤ lossF (h.1 24) e k b (h.1 28 0))) && (lstB (h.1 24) o b a (h.1 28 0) k && decide (lossF (h.1 24) o b a (h.1 28 0) ≤ lossF (h.1 24) o k a (h.1 28 0)))).toNat)), some (.int (nI (k + 1)))] [] (sR h 22 (up (up (h.1 22) 27 zc) 28 zf)) _ := ih3
        refine g_iload6 35 rfl dX9_findRests_33 ?_
        refine g_iconst (v := 5) 36 rfl dX9_findRests_35 (by decide) ?_
        refine gn_icmp_ge 96 (by decide) 39 rfl dX9_findRests_36 (by omega) (by omega) (fun c36 => absurd c36 (by omega)) (fun c36 => ?_)
        refine g_iload5 41 rfl dX9_findRests_39 ?_
        refine gn_if_eq 87 (by decide) 44 rfl dX9_findRests_41 (Nat.lt_of_lt_of_le (Bool.toNat_lt _) (by omega)) (fun c41 => ?_) (fun c41 => ?_)
        · refine g_iconst (v := 0) 88 rfl dX9_findRests_87 (by decide) ?_
          refine g_istore5 90 rfl dX9_findRests_88 (by decide) rfl ?_
          refine gn_iinc6 1 93 rfl dX9_findRests_90 rfl (by decide) rfl ?_
          refine g_goto 33 (by decide) dX9_findRests_93 ?_
          first
          | (have q : (lstB (h.1 24) e a b (h.1 28 0) k && lstB (h.1 24) o b a (h.1 28 0) k) = false := by simpa using c41
             rw [show ((lstB (h.1 24) e a b (h.1 28 0) k && decide (lossF (h.1 24) e a b (h.1 28 0) ≤ lossF (h.1 24) e k b (h.1 28 0))) && (lstB (h.1 24) o b a (h.1 28 0) k && decide (lossF (h.1 24) o b a (h.1 28 0) ≤ lossF (h.1 24) o k a (h.1 28 0)))) = false by grind] at ih3; exact ih3)
          | (rw [decide_eq_false (show ¬ lossF (h.1 24) e a b (h.1 28 0) ≤ lossF (h.1 24) e k b (h.1 28 0) by omega), Bool.and_false, Bool.false_and] at ih3; exact ih3)
          | (rw [decide_eq_false (show ¬ lossF (h.1 24) o b a (h.1 28 0) ≤ lossF (h.1 24) o k a (h.1 28 0) by omega), Bool.and_false, Bool.and_false] at ih3; exact ih3)
          | (have q : (lstB (h.1 24) e a b (h.1 28 0) k && lstB (h.1 24) o b a (h.1 28 0) k) = true := by simpa using c41
             rw [decide_eq_true c61, decide_eq_true c80, Bool.and_true, Bool.and_true, q] at ih3; exact ih3)
        · refine g_aload_n0 45 rfl dX9_findRests_44 ?_
          refine g_iload_n1 46 rfl dX9_findRests_45 ?_
          refine g_iload6 48 rfl dX9_findRests_46 ?_
          refine g_iload4 50 rfl dX9_findRests_48 ?_
          refine g_cv3i 53 rfl cw_RX9_205 dX9_findRests_50 (c_X9_lossOf hm2 he (by omega) (by omega)) (by omega) (ob_22 V) (Nat.le_of_ble_eq_true rfl) ?_
          refine g_aload_n0 54 rfl dX9_findRests_53 ?_
          refine g_iload_n1 55 rfl dX9_findRests_54 ?_
          refine g_iload_n3 56 rfl dX9_findRests_55 ?_
          refine g_iload4 58 rfl dX9_findRests_56 ?_
          refine g_cv3i 61 rfl cw_RX9_205 dX9_findRests_58 (c_X9_lossOf hm2 he (by omega) (by omega)) (by omega) (ob_22 V) (Nat.le_of_ble_eq_true rfl) ?_
          rw [s22_24, s22_28]
          refine gn_icmp_lt 87 (by decide) 64 rfl dX9_findRests_61 (by omega) (by omega) (fun c61 => ?_) (fun c61 => ?_)
          · refine g_iconst (v := 0) 88 rfl dX9_findRests_87 (by decide) ?_
            refine g_istore5 90 rfl dX9_findRests_88 (by decide) rfl ?_
            refine gn_iinc6 1 93 rfl dX9_findRests_90 rfl (by decide) rfl ?_
            refine g_goto 33 (by decide) dX9_findRests_93 ?_
            first
            | (have q : (lstB (h.1 24) e a b (h.1 28 0) k && lstB (h.1 24) o b a (h.1 28 0) k) = false := by simpa using c41
               rw [show ((lstB (h.1 24) e a b (h.1 28 0) k && decide (lossF (h.1 24) e a b (h.1 28 0) ≤ lossF (h.1 24) e k b (h.1 28 0))) && (lstB (h.1 24) o b a (h.1 28 0) k && decide (lossF (h.1 24) o b a (h.1 28 0) ≤ lossF (h.1 24) o k a (h.1 28 0)))) = false by grind] at ih3; exact ih3)
            | (rw [decide_eq_false (show ¬ lossF (h.1 24) e a b (h.1 28 0) ≤ lossF (h.1 24) e k b (h.1 28 0) by omega), Bool.and_false, Bool.false_and] at ih3; exact ih3)
            | (rw [decide_eq_false (show ¬ lossF (h.1 24) o b a (h.1 28 0) ≤ lossF (h.1 24) o k a (h.1 28 0) by omega), Bool.and_false, Bool.and_false] at ih3; exact ih3)
            | (have q : (lstB (h.1 24) e a b (h.1 28 0) k && lstB (h.1 24) o b a (h.1 28 0) k) = true := by simpa using c41
               rw [decide_eq_true c61, decide_eq_true c80, Bool.and_true, Bool.and_true, q] at ih3; exact ih3)
          · refine g_aload_n0 65 rfl dX9_findRests_64 ?_
            refine g_iload_n2 66 rfl dX9_findRests_65 ?_
            refine g_iload6 68 rfl dX9_findRests_66 ?_
            refine g_iload_n3 69 rfl dX9_findRests_68 ?_
            refine g_cv3i 72 rfl cw_RX9_205 dX9_findRests_69 (c_X9_lossOf hm2 ho (by omega) (by omega)) (by omega) (ob_22 V) (Nat.le_of_ble_eq_true rfl) ?_
            refine g_aload_n0 73 rfl dX9_findRests_72 ?_
            refine g_iload_n2 74 rfl dX9_findRests_73 ?_
            refine g_iload4 76 rfl dX9_findRests_74 ?_
            refine g_iload_n3 77 rfl dX9_findRests_76 ?_
            refine g_cv3i 80 rfl cw_RX9_205 dX9_findRests_77 (c_X9_lossOf hm2 ho (by omega) (by omega)) (by omega) (ob_22 V) (Nat.le_of_ble_eq_true rfl) ?_
            rw [s22_24, s22_28]
            refine gn_icmp_lt 87 (by decide) 83 rfl dX9_findRests_80 (by omega) (by omega) (fun c80 => ?_) (fun c80 => ?_)
            · refine g_iconst (v := 0) 88 rfl dX9_findRests_87 (by decide) ?_
              refine g_istore5 90 rfl dX9_findRests_88 (by decide) rfl ?_
              refine gn_iinc6 1 93 rfl dX9_findRests_90 rfl (by decide) rfl ?_
              refine g_goto 33 (by decide) dX9_findRests_93 ?_
              first
              | (have q : (lstB (h.1 24) e a b (h.1 28 0) k && lstB (h.1 24) o b a (h.1 28 0) k) = false := by simpa using c41
                 rw [show ((lstB (h.1 24) e a b (h.1 28 0) k && decide (lossF (h.1 24) e a b (h.1 28 0) ≤ lossF (h.1 24) e k b (h.1 28 0))) && (lstB (h.1 24) o b a (h.1 28 0) k && decide (lossF (h.1 24) o b a (h.1 28 0) ≤ lossF (h.1 24) o k a (h.1 28 0)))) = false by grind] at ih3; exact ih3)
              | (rw [decide_eq_false (show ¬ lossF (h.1 24) e a b (h.1 28 0) ≤ lossF (h.1 24) e k b (h.1 28 0) by omega), Bool.and_false, Bool.false_and] at ih3; exact ih3)
              | (rw [decide_eq_false (show ¬ lossF (h.1 24) o b a (h.1 28 0) ≤ lossF (h.1 24) o k a (h.1 28 0) by omega), Bool.and_false, Bool.and_false] at ih3; exact ih3)
              | (have q : (lstB (h.1 24) e a b (h.1 28 0) k && lstB (h.1 24) o b a (h.1 28 0) k) = true := by simpa using c41
                 rw [decide_eq_true c61, decide_eq_true c80, Bool.and_true, Bool.and_true, q] at ih3; exact ih3)
            · refine g_iconst (v := 1) 84 rfl dX9_findRests_83 (by decide) ?_
              refine g_goto 88 (by decide) dX9_findRests_84 ?_
              refine g_istore5 90 rfl dX9_findRests_88 (by decide) rfl ?_
              refine gn_iinc6 1 93 rfl dX9_findRests_90 rfl (by decide) rfl ?_
              refine g_goto 33 (by decide) dX9_findRests_93 ?_
              first
              | (have q : (lstB (h.1 24) e a b (h.1 28 0) k && lstB (h.1 24) o b a (h.1 28 0) k) = false := by simpa using c41
                 rw [show ((lstB (h.1 24) e a b (h.1 28 0) k && decide (lossF (h.1 24) e a b (h.1 28 0) ≤ lossF (h.1 24) e k b (h.1 28 0))) && (lstB (h.1 24) o b a (h.1 28 0) k && decide (lossF (h.1 24) o b a (h.1 28 0) ≤ lossF (h.1 24) o k a (h.1 28 0)))) = false by grind] at ih3; exact ih3)
              | (rw [decide_eq_false (show ¬ lossF (h.1 24) e a b (h.1 28 0) ≤ lossF (h.1 24) e k b (h.1 28 0) by omega), Bool.and_false, Bool.false_and] at ih3; exact ih3)
              | (rw [decide_eq_false (show ¬ lossF (h.1 24) o b a (h.1 28 0) ≤ lossF (h.1 24) o k a (h.1 28 0) by omega), Bool.and_false, Bool.and_false] at ih3; exact ih3)
              | (have q : (lstB (h.1 24) e a b (h.1 28 0) k && lstB (h.1 24) o b a (h.1 28 0) k) = true := by simpa using c41
                 rw [decide_eq_true c61, decide_eq_true c80, Bool.and_true, Bool.and_true, q] at ih3; exact ih3)
theorem c_X9_rests_u {e o w : Nat} (h0 : h.1 22 0 = 0) (hm : MI h) (he : e < 2 ^ 32) (ho : o < 2 ^ 32) (hn : ¬ (e < h.1 22 4 ∧ o < h.1 22 4)) : Rti V 5 yX9_rests cX9_rests 4 (some .int) [rf V 22, .int (nI e), .int (nI o), .int (nI w)] h (nI 4294967295) h := by
  refine Mt_in [some (rf V 22), some (.int (nI e)), some (.int (nI o)), some (.int (nI w))] (own := RX9) rfl (by decide) (Nat.le_of_ble_eq_true rfl) (fun q hq => hq) ?_
  refine g_aload_n0 1 rfl dX9_rests_0 ?_
  refine g_iconst (v := 0) 2 rfl dX9_rests_1 (by decide) ?_
  refine gp_Model_thrown 5 rfl fl_RX9_53 dX9_rests_2 ?_
  rw [thr0 h0]
  refine g_aload_n0 6 rfl dX9_rests_5 ?_
  refine g_iload_n1 7 rfl dX9_rests_6 ?_
  refine g_cv1i 10 rfl cw_RX9_128 dX9_rests_7 (c_X9_noEnvoy hm.1 he) (by omega) (ob_22 V) (Nat.le_of_ble_eq_true rfl) ?_
  refine gn_if_ne 21 (by decide) 13 rfl dX9_rests_10 (by split <;> omega) (fun c10 => ?_) (fun c10 => ?_)
  · refine g_iconst (v := 4294967295) 22 rfl dX9_rests_21 (by decide) ?_
    refine g_iret .int dX9_rests_22 rfl (rfl) ?_
    exact ⟨rfl, rfl⟩
  · refine g_aload_n0 14 rfl dX9_rests_13 ?_
    refine g_iload_n2 15 rfl dX9_rests_14 ?_
    refine g_cv1i 18 rfl cw_RX9_128 dX9_rests_15 (c_X9_noEnvoy hm.1 ho) (by omega) (ob_22 V) (Nat.le_of_ble_eq_true rfl) ?_
    refine gn_if_eq 23 (by decide) 21 rfl dX9_rests_18 (by split <;> omega) (fun c18 => absurd (show False by grind) (fun z => z)) (fun c18 => ?_)
    refine g_iconst (v := 4294967295) 22 rfl dX9_rests_21 (by decide) ?_
    refine g_iret .int dX9_rests_22 rfl (rfl) ?_
    exact ⟨rfl, rfl⟩
theorem c_X9_rests_bad {e o w : Nat} (h0 : h.1 22 0 = 0) (hm : MI h) (he : e < h.1 22 4) (ho : o < h.1 22 4) (hw : w < 2 ^ 32) (hb : e = o ∨ ¬ w ≤ 1) : Rti V 5 yX9_rests cX9_rests 4 (some .int) [rf V 22, .int (nI e), .int (nI o), .int (nI w)] h (nI 4294967294) h := by
  have h01 : (if e < h.1 22 4 then 0 else 1) = 0 := if_pos he
  have h02 : (if o < h.1 22 4 then 0 else 1) = 0 := if_pos ho
  have h4 := hm.1
  have e1 := in_c (n := w) (a := 0) (b := 1) hw (by decide) (by decide) (al := 0) (bl := 1) rfl rfl
  refine Mt_in [some (rf V 22), some (.int (nI e)), some (.int (nI o)), some (.int (nI w))] (own := RX9) rfl (by decide) (Nat.le_of_ble_eq_true rfl) (fun q hq => hq) ?_
  refine g_aload_n0 1 rfl dX9_rests_0 ?_
  refine g_iconst (v := 0) 2 rfl dX9_rests_1 (by decide) ?_
  refine gp_Model_thrown 5 rfl fl_RX9_53 dX9_rests_2 ?_
  rw [thr0 h0]
  refine g_aload_n0 6 rfl dX9_rests_5 ?_
  refine g_iload_n1 7 rfl dX9_rests_6 ?_
  refine g_cv1i 10 rfl cw_RX9_128 dX9_rests_7 (c_X9_noEnvoy hm.1 (by omega)) (by omega) (ob_22 V) (Nat.le_of_ble_eq_true rfl) ?_
  rw [h01]
  refine gn_if_ne 21 (by decide) 13 rfl dX9_rests_10 (by omega) (fun c10 => absurd c10 (by decide)) (fun c10 => ?_)
  refine g_aload_n0 14 rfl dX9_rests_13 ?_
  refine g_iload_n2 15 rfl dX9_rests_14 ?_
  refine g_cv1i 18 rfl cw_RX9_128 dX9_rests_15 (c_X9_noEnvoy hm.1 (by omega)) (by omega) (ob_22 V) (Nat.le_of_ble_eq_true rfl) ?_
  rw [h02]
  refine gn_if_eq 23 (by decide) 21 rfl dX9_rests_18 (by omega) (fun c18 => ?_) (fun c18 => absurd rfl c18)
  refine g_iload_n1 24 rfl dX9_rests_23 ?_
  refine g_iload_n2 25 rfl dX9_rests_24 ?_
  refine gn_icmp_eq 38 (by decide) 28 rfl dX9_rests_25 (by omega) (by omega) (fun c25 => ?_) (fun c25 => ?_)
  · refine g_bipush (v := 4294967294) 40 rfl dX9_rests_38 (by decide) ?_
    refine g_iret .int dX9_rests_40 rfl (rfl) ?_
    exact ⟨rfl, rfl⟩
  · refine g_iload_n3 29 rfl dX9_rests_28 ?_
    refine g_i2l 30 rfl dX9_rests_29 ?_
    refine g_lconst (v := 0) 31 rfl dX9_rests_30 rfl ?_
    refine g_lconst (v := 1) 32 rfl dX9_rests_31 rfl ?_
    refine g_cs3i 35 rfl cw_RX9_60 dX9_rests_32 (c_X9_in) (by omega) (Nat.le_of_ble_eq_true rfl) ?_
    refine gn_if_ne 41 (by decide) 38 rfl dX9_rests_35 (by split <;> omega) (fun c35 => absurd (show False by grind) (fun z => z)) (fun c35 => ?_)
    refine g_bipush (v := 4294967294) 40 rfl dX9_rests_38 (by decide) ?_
    refine g_iret .int dX9_rests_40 rfl (rfl) ?_
    exact ⟨rfl, rfl⟩
theorem c_X9_rests_ok {e o w : Nat} (h0 : h.1 22 0 = 0) (hm : MI h) (he : e < h.1 22 4) (ho : o < h.1 22 4) (hw : w ≤ 1) (hne : ¬ e = o) : Rti V 5 yX9_rests cX9_rests 4 (some .int) [rf V 22, .int (nI e), .int (nI o), .int (nI w)] h (nI (rstV (h.1 24) (h.1 28 0) e o w)) (sR h 22 (up (up (h.1 22) 27 (stp (h.1 24) e o (h.1 28 0) 25).1) 28 (stp (h.1 24) e o (h.1 28 0) 25).2)) := by
  have h01 : (if e < h.1 22 4 then 0 else 1) = 0 := if_pos he
  have h02 : (if o < h.1 22 4 then 0 else 1) = 0 := if_pos ho
  have h4 := hm.1
  have e1 : (if (0 : Int64) ≤ (nI w).toInt64 ∧ (nI w).toInt64 ≤ 1 then 1 else 0) = 1 := if_pos ((in_c (n := w) (a := 0) (b := 1) (by omega) (by decide) (by decide) rfl rfl).mpr ⟨by omega, hw⟩)
  refine Mt_in [some (rf V 22), some (.int (nI e)), some (.int (nI o)), some (.int (nI w))] (own := RX9) rfl (by decide) (Nat.le_of_ble_eq_true rfl) (fun q hq => hq) ?_
  refine g_aload_n0 1 rfl dX9_rests_0 ?_
  refine g_iconst (v := 0) 2 rfl dX9_rests_1 (by decide) ?_
  refine gp_Model_thrown 5 rfl fl_RX9_53 dX9_rests_2 ?_
  rw [thr0 h0]
  refine g_aload_n0 6 rfl dX9_rests_5 ?_
  refine g_iload_n1 7 rfl dX9_rests_6 ?_
  refine g_cv1i 10 rfl cw_RX9_128 dX9_rests_7 (c_X9_noEnvoy hm.1 (by omega)) (by omega) (ob_22 V) (Nat.le_of_ble_eq_true rfl) ?_
  rw [h01]
  refine gn_if_ne 21 (by decide) 13 rfl dX9_rests_10 (by omega) (fun c10 => absurd c10 (by decide)) (fun c10 => ?_)
  refine g_aload_n0 14 rfl dX9_rests_13 ?_
  refine g_iload_n2 15 rfl dX9_rests_14 ?_
  refine g_cv1i 18 rfl cw_RX9_128 dX9_rests_15 (c_X9_noEnvoy hm.1 (by omega)) (by omega) (ob_22 V) (Nat.le_of_ble_eq_true rfl) ?_
  rw [h02]
  refine gn_if_eq 23 (by decide) 21 rfl dX9_rests_18 (by omega) (fun c18 => ?_) (fun c18 => absurd rfl c18)
  refine g_iload_n1 24 rfl dX9_rests_23 ?_
  refine g_iload_n2 25 rfl dX9_rests_24 ?_
  refine gn_icmp_eq 38 (by decide) 28 rfl dX9_rests_25 (by omega) (by omega) (fun c25 => absurd c25 hne) (fun c25 => ?_)
  refine g_iload_n3 29 rfl dX9_rests_28 ?_
  refine g_i2l 30 rfl dX9_rests_29 ?_
  refine g_lconst (v := 0) 31 rfl dX9_rests_30 rfl ?_
  refine g_lconst (v := 1) 32 rfl dX9_rests_31 rfl ?_
  refine g_cs3i 35 rfl cw_RX9_60 dX9_rests_32 (c_X9_in) (by omega) (Nat.le_of_ble_eq_true rfl) ?_
  rw [e1]
  refine gn_if_ne 41 (by decide) 38 rfl dX9_rests_35 (by omega) (fun c35 => ?_) (fun c35 => absurd c35 (by decide))
  refine g_aload_n0 42 rfl dX9_rests_41 ?_
  refine g_iload_n1 43 rfl dX9_rests_42 ?_
  refine g_iload_n2 44 rfl dX9_rests_43 ?_
  refine g_cv2v 47 rfl cw_RX9_208 dX9_rests_44 (c_X9_findRests hm (by omega) (by omega)) (by omega) (ob_22 V) (Nat.le_of_ble_eq_true rfl) ?_
  refine g_iload_n3 48 rfl dX9_rests_47 ?_
  refine gn_if_ne 58 (by decide) 51 rfl dX9_rests_48 (by omega) (fun c48 => ?_) (fun c48 => ?_)
  · refine g_aload_n0 59 rfl dX9_rests_58 ?_
    refine gf_Model_restFirst 62 rfl fl_RX9_202 dX9_rests_59 ?_
    refine g_iret .int dX9_rests_62 rfl (rfl) ?_
    refine ⟨congrArg (fun q => some (Value.int (nI q))) ?_, rfl⟩
    unfold rstV
    first | (rw [if_pos c48, sR_s, up_n (by decide), up_s]) | (rw [if_neg c48, sR_s, up_s])
  · refine g_aload_n0 52 rfl dX9_rests_51 ?_
    refine gf_Model_restMany 55 rfl fl_RX9_199 dX9_rests_52 ?_
    refine g_goto 62 (by decide) dX9_rests_55 ?_
    refine g_iret .int dX9_rests_62 rfl (rfl) ?_
    refine ⟨congrArg (fun q => some (Value.int (nI q))) ?_, rfl⟩
    unfold rstV
    first | (rw [if_pos c48, sR_s, up_n (by decide), up_s]) | (rw [if_neg c48, sR_s, up_s])
theorem c_X9_chance_u {a n x u : Nat} (h0 : h.1 22 0 = 0) (hm : MI h) (ha : a < 2 ^ 32) (hn : ¬ a < h.1 22 4) : Rti V 3 yX9_chance cX9_chance 10 (some .int) [rf V 22, .int (nI a), .int (nI n), .int (nI x), .int (nI u)] h (nI 4294967295) h := by
  have h01 : (if a < h.1 22 4 then 0 else 1) = 1 := if_neg hn
  refine Mt_in [some (rf V 22), some (.int (nI a)), some (.int (nI n)), some (.int (nI x)), some (.int (nI u)), none, none, none, none, none] (own := RX9) rfl (by decide) (Nat.le_of_ble_eq_true rfl) (fun q hq => hq) ?_
  refine g_aload_n0 1 rfl dX9_chance_0 ?_
  refine g_iconst (v := 0) 2 rfl dX9_chance_1 (by decide) ?_
  refine gp_Model_thrown 5 rfl fl_RX9_53 dX9_chance_2 ?_
  rw [thr0 h0]
  refine g_aload_n0 6 rfl dX9_chance_5 ?_
  refine g_iload_n1 7 rfl dX9_chance_6 ?_
  refine g_cv1i 10 rfl cw_RX9_128 dX9_chance_7 (c_X9_noEnvoy hm.1 ha) (by omega) (ob_22 V) (Nat.le_of_ble_eq_true rfl) ?_
  rw [h01]
  refine gn_if_eq 15 (by decide) 13 rfl dX9_chance_10 (by omega) (fun c10 => absurd c10 (by decide)) (fun c10 => ?_)
  refine g_iconst (v := 4294967295) 14 rfl dX9_chance_13 (by decide) ?_
  refine g_iret .int dX9_chance_14 rfl (rfl) ?_
  exact ⟨rfl, rfl⟩
theorem c_X9_chance_bad {a n x u : Nat} (h0 : h.1 22 0 = 0) (hm : MI h) (ha : a < h.1 22 4) (hn : n < 2 ^ 32) (hx2 : x < 2 ^ 32) (hb : ¬ (1 ≤ n ∧ n ≤ 6 ∧ x ≤ 10)) : Rti V 3 yX9_chance cX9_chance 10 (some .int) [rf V 22, .int (nI a), .int (nI n), .int (nI x), .int (nI u)] h (nI 4294967294) h := by
  have h01 : (if a < h.1 22 4 then 0 else 1) = 0 := if_pos ha
  have h4 := hm.1
  have e1 := in_c (n := n) (a := 1) (b := 6) hn (by decide) (by decide) (al := 1) (bl := 6) rfl rfl
  have e2 := in_c (n := x) (a := 0) (b := 10) hx2 (by decide) (by decide) (al := 0) (bl := 10) rfl rfl
  refine Mt_in [some (rf V 22), some (.int (nI a)), some (.int (nI n)), some (.int (nI x)), some (.int (nI u)), none, none, none, none, none] (own := RX9) rfl (by decide) (Nat.le_of_ble_eq_true rfl) (fun q hq => hq) ?_
  refine g_aload_n0 1 rfl dX9_chance_0 ?_
  refine g_iconst (v := 0) 2 rfl dX9_chance_1 (by decide) ?_
  refine gp_Model_thrown 5 rfl fl_RX9_53 dX9_chance_2 ?_
  rw [thr0 h0]
  refine g_aload_n0 6 rfl dX9_chance_5 ?_
  refine g_iload_n1 7 rfl dX9_chance_6 ?_
  refine g_cv1i 10 rfl cw_RX9_128 dX9_chance_7 (c_X9_noEnvoy hm.1 (by omega)) (by omega) (ob_22 V) (Nat.le_of_ble_eq_true rfl) ?_
  rw [h01]
  refine gn_if_eq 15 (by decide) 13 rfl dX9_chance_10 (by omega) (fun c10 => ?_) (fun c10 => absurd rfl c10)
  refine g_iload_n2 16 rfl dX9_chance_15 ?_
  refine g_i2l 17 rfl dX9_chance_16 ?_
  refine g_lconst (v := 1) 18 rfl dX9_chance_17 rfl ?_
  refine g_ldc2 21 rfl kl_RX9_174 dX9_chance_18 ?_
  refine g_cs3i 24 rfl cw_RX9_60 dX9_chance_21 (c_X9_in) (by omega) (Nat.le_of_ble_eq_true rfl) ?_
  refine gn_if_eq 39 (by decide) 27 rfl dX9_chance_24 (by split <;> omega) (fun c24 => ?_) (fun c24 => ?_)
  · refine g_bipush (v := 4294967294) 41 rfl dX9_chance_39 (by decide) ?_
    refine g_iret .int dX9_chance_41 rfl (rfl) ?_
    exact ⟨rfl, rfl⟩
  · refine g_iload_n3 28 rfl dX9_chance_27 ?_
    refine g_i2l 29 rfl dX9_chance_28 ?_
    refine g_lconst (v := 0) 30 rfl dX9_chance_29 rfl ?_
    refine g_ldc2 33 rfl kl_RX9_197 dX9_chance_30 ?_
    refine g_cs3i 36 rfl cw_RX9_60 dX9_chance_33 (c_X9_in) (by omega) (Nat.le_of_ble_eq_true rfl) ?_
    refine gn_if_ne 42 (by decide) 39 rfl dX9_chance_36 (by split <;> omega) (fun c36 => absurd (show False by grind) (fun z => z)) (fun c36 => ?_)
    refine g_bipush (v := 4294967294) 41 rfl dX9_chance_39 (by decide) ?_
    refine g_iret .int dX9_chance_41 rfl (rfl) ?_
    exact ⟨rfl, rfl⟩
theorem c_X9_chance_ok {a n x u : Nat} (h0 : h.1 22 0 = 0) (hm : MI h) (ha : a < h.1 22 4) (h1 : 1 ≤ n) (h6 : n ≤ 6) (h10 : x ≤ 10) (hu : u < 2) : Rti V 3 yX9_chance cX9_chance 10 (some .int) [rf V 22, .int (nI a), .int (nI n), .int (nI x), .int (nI u)] h (nI (frV (chS (h.1 24) (h.1 28) a n x (1 * 2 ^ n)) (10 ^ n) u)) h := by
  have h01 : (if a < h.1 22 4 then 0 else 1) = 0 := if_pos ha
  have e1 : (if (1 : Int64) ≤ (nI n).toInt64 ∧ (nI n).toInt64 ≤ 6 then 1 else 0) = 1 := if_pos ((in_c (n := n) (a := 1) (b := 6) (by omega) (by decide) (by decide) rfl rfl).mpr ⟨h1, h6⟩)
  have e2 : (if (0 : Int64) ≤ (nI x).toInt64 ∧ (nI x).toInt64 ≤ 10 then 1 else 0) = 1 := if_pos ((in_c (n := x) (a := 0) (b := 10) (by omega) (by decide) (by decide) rfl rfl).mpr ⟨by omega, h10⟩)
  obtain ⟨hE, hC, x4, x5, x7, x8, hT, hT9⟩ := id hm
  have h64 : 1 * 2 ^ n ≤ 64 := by rw [Nat.one_mul]; exact Nat.pow_le_pow_right (by decide) h6
  have hp := p10 h6
  have hp0 : 0 < 10 ^ n := Nat.pow_pos (by decide)
  have hg6 := hT.2.2.1
  have hg0 := hT.1
  have ht27 := (hT.2.2.2.2.2.1 a (by omega)).1
  have hw9 := x4 (3 * a + 1)
  have F : ∀ s, chS (h.1 24) (h.1 28) a n x s = chS (h.1 24) (h.1 28) a n x (1 * 2 ^ n) → s ≤ 64 → G V T0 3 RX9 cX9_chance 10 (some .int) 203 [some (rf V 22), some (.int (nI a)), some (.int (nI n)), some (.int (nI x)), some (.int (nI u)), some (.int (nI (chS (h.1 24) (h.1 28) a n x s))), some (.int (nI s)), none, none, none] [] h (fun v g => v = some (.int (nI (frV (chS (h.1 24) (h.1 28) a n x (1 * 2 ^ n)) (10 ^ n) u))) ∧ g = h) := by
    intro s hs hs2
    have hc := chS_le (E := h.1 24) (T := h.1 28) (e := a) h10 h6 s
    rw [← hs]
    refine g_iload5 205 rfl dX9_chance_203 ?_
    refine g_bipush (v := 10) 207 rfl dX9_chance_205 (by decide) ?_
    refine g_iload_n2 208 rfl dX9_chance_207 ?_
    refine g_cs2i 211 rfl cw_RX9_163 dX9_chance_208 (c_X9_power h6) (by omega) (Nat.le_of_ble_eq_true rfl) ?_
    refine g_iload4 213 rfl dX9_chance_211 ?_
    refine g_cs3i 216 rfl cw_RX9_191 dX9_chance_213 (c_X9_fraction (by omega) (by omega) hp0 hu) (by omega) (Nat.le_of_ble_eq_true rfl) ?_
    refine g_iret .int dX9_chance_216 rfl (rfl) ?_
    exact ⟨rfl, rfl⟩
  refine Mt_in [some (rf V 22), some (.int (nI a)), some (.int (nI n)), some (.int (nI x)), some (.int (nI u)), none, none, none, none, none] (own := RX9) rfl (by decide) (Nat.le_of_ble_eq_true rfl) (fun q hq => hq) ?_
  refine g_aload_n0 1 rfl dX9_chance_0 ?_
  refine g_iconst (v := 0) 2 rfl dX9_chance_1 (by decide) ?_
  refine gp_Model_thrown 5 rfl fl_RX9_53 dX9_chance_2 ?_
  rw [thr0 h0]
  refine g_aload_n0 6 rfl dX9_chance_5 ?_
  refine g_iload_n1 7 rfl dX9_chance_6 ?_
  refine g_cv1i 10 rfl cw_RX9_128 dX9_chance_7 (c_X9_noEnvoy hm.1 (by omega)) (by omega) (ob_22 V) (Nat.le_of_ble_eq_true rfl) ?_
  rw [h01]
  refine gn_if_eq 15 (by decide) 13 rfl dX9_chance_10 (by omega) (fun c10 => ?_) (fun c10 => absurd rfl c10)
  refine g_iload_n2 16 rfl dX9_chance_15 ?_
  refine g_i2l 17 rfl dX9_chance_16 ?_
  refine g_lconst (v := 1) 18 rfl dX9_chance_17 rfl ?_
  refine g_ldc2 21 rfl kl_RX9_174 dX9_chance_18 ?_
  refine g_cs3i 24 rfl cw_RX9_60 dX9_chance_21 (c_X9_in) (by omega) (Nat.le_of_ble_eq_true rfl) ?_
  rw [e1]
  refine gn_if_eq 39 (by decide) 27 rfl dX9_chance_24 (by omega) (fun c24 => absurd c24 (by decide)) (fun c24 => ?_)
  refine g_iload_n3 28 rfl dX9_chance_27 ?_
  refine g_i2l 29 rfl dX9_chance_28 ?_
  refine g_lconst (v := 0) 30 rfl dX9_chance_29 rfl ?_
  refine g_ldc2 33 rfl kl_RX9_197 dX9_chance_30 ?_
  refine g_cs3i 36 rfl cw_RX9_60 dX9_chance_33 (c_X9_in) (by omega) (Nat.le_of_ble_eq_true rfl) ?_
  rw [e2]
  refine gn_if_ne 42 (by decide) 39 rfl dX9_chance_36 (by omega) (fun c36 => ?_) (fun c36 => absurd c36 (by decide))
  refine g_iconst (v := 0) 43 rfl dX9_chance_42 (by decide) ?_
  refine g_istore5 45 rfl dX9_chance_43 (by decide) rfl ?_
  refine g_iconst (v := 0) 46 rfl dX9_chance_45 (by decide) ?_
  refine g_istore6 48 rfl dX9_chance_46 (by decide) rfl ?_
  skip
  refine loop_up (P := fun s => G V T0 3 RX9 cX9_chance 10 (some .int) 48 [some (rf V 22), some (.int (nI a)), some (.int (nI n)), some (.int (nI x)), some (.int (nI u)), some (.int (nI (chS (h.1 24) (h.1 28) a n x s))), some (.int (nI s)), none, none, none] [] h _) (n := 1 * 2 ^ n) ?_ (fun s hs ih => ?_) 0 (Nat.zero_le _)
  · refine g_iload6 50 rfl dX9_chance_48 ?_
    refine g_iconst (v := 1) 51 rfl dX9_chance_50 (by decide) ?_
    refine g_iload_n2 52 rfl dX9_chance_51 ?_
    refine gn_ishl 53 rfl dX9_chance_52 (by omega) ?_
    refine gn_icmp_ge 203 (by decide) 56 rfl dX9_chance_53 (by omega) (by omega) (fun c53 => ?_) (fun c53 => absurd c53 (Nat.lt_irrefl _))
    exact F _ rfl h64
  · have hst := stT_le (E := h.1 24) (s := s) hg0 ht27 n
    have K : ¬ bt (h.1 28 6) a = 0 → G V T0 3 RX9 cX9_chance 10 (some .int) 86 [some (rf V 22), some (.int (nI a)), some (.int (nI n)), some (.int (nI x)), some (.int (nI u)), some (.int (nI (chS (h.1 24) (h.1 28) a n x s))), some (.int (nI s)), some (.int (nI (h.1 28 (2 + a)))), some (.int (nI 1)), some (.int (nI 0))] [] h (fun v g => v = some (.int (nI (frV (chS (h.1 24) (h.1 28) a n x (1 * 2 ^ n)) (10 ^ n) u))) ∧ g = h) := by
      intro c67
      refine loop_up (P := fun k => G V T0 3 RX9 cX9_chance 10 (some .int) 86 [some (rf V 22), some (.int (nI a)), some (.int (nI n)), some (.int (nI x)), some (.int (nI u)), some (.int (nI (chS (h.1 24) (h.1 28) a n x s))), some (.int (nI s)), some (.int (nI (stT (h.1 24) (h.1 28) a s k))), some (.int (nI (wgt s x k))), some (.int (nI k))] [] h _) (n := n) ?_ (fun k hk ih2 => ?_) 0 (Nat.zero_le _)
      · refine g_iload9 88 rfl dX9_chance_86 ?_
        refine g_iload_n2 89 rfl dX9_chance_88 ?_
        refine gn_icmp_ge 169 (by decide) 92 rfl dX9_chance_89 (by omega) (by omega) (fun c89 => ?_) (fun c89 => absurd c89 (Nat.lt_irrefl _))
        refine g_iload5 171 rfl dX9_chance_169 ?_
        refine g_iload7 173 rfl dX9_chance_171 ?_
        refine g_iconst (v := 2) 174 rfl dX9_chance_173 (by decide) ?_
        refine g_aload_n0 175 rfl dX9_chance_174 ?_
        refine gf_Model_envoy 178 rfl fl_RX9_13 dX9_chance_175 ?_
        refine g_iconst (v := 3) 179 rfl dX9_chance_178 (by decide) ?_
        refine g_iload_n1 180 rfl dX9_chance_179 ?_
        refine gn_imul 181 rfl dX9_chance_180 ?_
        refine g_iconst (v := 1) 182 rfl dX9_chance_181 (by decide) ?_
        refine gn_iadd 183 rfl dX9_chance_182 ?_
        refine ga_24 184 rfl (by omega) dX9_chance_183 ?_
        refine gn_imul 185 rfl dX9_chance_184 ?_
        refine gn_icmp_ge 193 (by decide) 188 rfl dX9_chance_185 (by omega) (by omega) (fun c185 => ?_) (fun c185 => ?_)
        · refine g_iconst (v := 0) 194 rfl dX9_chance_193 (by decide) ?_
          refine gn_iadd 195 rfl dX9_chance_194 ?_
          refine g_istore5 197 rfl dX9_chance_195 (by decide) rfl ?_
          refine gn_iinc6 1 200 rfl dX9_chance_197 rfl (by decide) rfl ?_
          refine g_goto 48 (by decide) dX9_chance_200 ?_
          refine g_none 7 (g_none 8 (g_none 9 ?_))
          first | (rw [show chS _ _ _ _ _ (s + 1) = _ from (if_neg c67).trans (if_neg (by omega))] at ih; rw [Nat.add_zero]; exact ih) | (rw [show chS _ _ _ _ _ (s + 1) = _ from (if_neg c67).trans (if_pos c185)] at ih; exact ih)
        · refine g_iload8 190 rfl dX9_chance_188 ?_
          refine g_goto 194 (by decide) dX9_chance_190 ?_
          refine gn_iadd 195 rfl dX9_chance_194 ?_
          refine g_istore5 197 rfl dX9_chance_195 (by decide) rfl ?_
          refine gn_iinc6 1 200 rfl dX9_chance_197 rfl (by decide) rfl ?_
          refine g_goto 48 (by decide) dX9_chance_200 ?_
          refine g_none 7 (g_none 8 (g_none 9 ?_))
          first | (rw [show chS _ _ _ _ _ (s + 1) = _ from (if_neg c67).trans (if_neg (by omega))] at ih; rw [Nat.add_zero]; exact ih) | (rw [show chS _ _ _ _ _ (s + 1) = _ from (if_neg c67).trans (if_pos c185)] at ih; exact ih)
      · have hst2 := stT_le (E := h.1 24) (s := s) hg0 ht27 k
        have ih2 : G V T0 3 RX9 cX9_chance 10 (some .int) 86 [some (rf V 22), some (.int (nI a)), some (.int (nI n)), some (.int (nI x)), some (.int (nI u)), some (.int (nI (chS (h.1 24) (h.1 28) a n x s))), some (.int (nI s)), some (.int (nI (if bt s k = 0 then stT (h.1 24) (h.1 28) a s k + pain (h.1 24 (3 * a + 2)) (h.1 24 (3 * a)) (h.1 28 0 - k) else stT (h.1 24) (h.1 28) a s k))), some (.int (nI (wgt s x k * (if bt s k = 0 then 10 - x else x)))), some (.int (nI (k + 1)))] [] h _ := ih2
        by_cases hb : bt s k = 0
        · rw [if_pos hb, if_pos hb] at ih2
          refine g_iload9 88 rfl dX9_chance_86 ?_
          refine g_iload_n2 89 rfl dX9_chance_88 ?_
          refine gn_icmp_ge 169 (by decide) 92 rfl dX9_chance_89 (by omega) (by omega) (fun c89 => absurd c89 (Nat.not_le_of_lt hk)) (fun c89 => ?_)
          refine g_iload7 94 rfl dX9_chance_92 ?_
          refine g_iload6 96 rfl dX9_chance_94 ?_
          refine g_iload9 98 rfl dX9_chance_96 ?_
          refine g_cs2i 101 rfl cw_RX9_110 dX9_chance_98 (c_X9_has (by omega) (by omega)) (by omega) (Nat.le_of_ble_eq_true rfl) ?_
          refine gn_if_eq 108 (by decide) 104 rfl dX9_chance_101 (Nat.lt_of_lt_of_le (bt_lt _ _) (by omega)) (fun c101 => ?_) (fun c101 => absurd hb c101)
          refine g_aload_n0 109 rfl dX9_chance_108 ?_
          refine g_iload_n1 110 rfl dX9_chance_109 ?_
          refine g_aload_n0 111 rfl dX9_chance_110 ?_
          refine gf_Model_page 114 rfl fl_RX9_25 dX9_chance_111 ?_
          refine g_iconst (v := 0) 115 rfl dX9_chance_114 (by decide) ?_
          refine ga_28 116 rfl (by omega) dX9_chance_115 ?_
          refine g_iload9 118 rfl dX9_chance_116 ?_
          refine gn_icmp_le 133 (by decide) 121 rfl dX9_chance_118 (by omega) (by omega) (fun c118 => ?_) (fun c118 => ?_)
          · refine g_iconst (v := 0) 134 rfl dX9_chance_133 (by decide) ?_
            refine g_cv2i 137 rfl cw_RX9_118 dX9_chance_134 (c_X9_painOf (by omega) (x5 a) (x4 _) (by omega)) (by omega) (ob_22 V) (Nat.le_of_ble_eq_true rfl) ?_
            refine gn_iadd 138 rfl dX9_chance_137 ?_
            refine g_istore7 140 rfl dX9_chance_138 (by decide) rfl ?_
            refine g_iload8 142 rfl dX9_chance_140 ?_
            refine g_iload6 144 rfl dX9_chance_142 ?_
            refine g_iload9 146 rfl dX9_chance_144 ?_
            refine g_cs2i 149 rfl cw_RX9_110 dX9_chance_146 (c_X9_has (by omega) (by omega)) (by omega) (Nat.le_of_ble_eq_true rfl) ?_
            refine gn_if_eq 156 (by decide) 152 rfl dX9_chance_149 (Nat.lt_of_lt_of_le (bt_lt _ _) (by omega)) (fun c149 => ?_) (fun c149 => absurd hb c149)
            refine g_bipush (v := 10) 158 rfl dX9_chance_156 (by decide) ?_
            refine g_iload_n3 159 rfl dX9_chance_158 ?_
            refine gn_isub 160 rfl dX9_chance_159 (by omega) ?_
            refine gn_imul 161 rfl dX9_chance_160 ?_
            refine g_istore8 163 rfl dX9_chance_161 (by decide) rfl ?_
            refine gn_iinc9 1 166 rfl dX9_chance_163 rfl (by decide) rfl ?_
            refine g_goto 86 (by decide) dX9_chance_166 ?_
            first | exact ih2 | (rw [show h.1 28 0 - k = 0 by omega] at ih2; exact ih2)
          · refine g_aload_n0 122 rfl dX9_chance_121 ?_
            refine gf_Model_page 125 rfl fl_RX9_25 dX9_chance_122 ?_
            refine g_iconst (v := 0) 126 rfl dX9_chance_125 (by decide) ?_
            refine ga_28 127 rfl (by omega) dX9_chance_126 ?_
            refine g_iload9 129 rfl dX9_chance_127 ?_
            refine gn_isub 130 rfl dX9_chance_129 (by omega) ?_
            refine g_goto 134 (by decide) dX9_chance_130 ?_
            refine g_cv2i 137 rfl cw_RX9_118 dX9_chance_134 (c_X9_painOf (by omega) (x5 a) (x4 _) (by omega)) (by omega) (ob_22 V) (Nat.le_of_ble_eq_true rfl) ?_
            refine gn_iadd 138 rfl dX9_chance_137 ?_
            refine g_istore7 140 rfl dX9_chance_138 (by decide) rfl ?_
            refine g_iload8 142 rfl dX9_chance_140 ?_
            refine g_iload6 144 rfl dX9_chance_142 ?_
            refine g_iload9 146 rfl dX9_chance_144 ?_
            refine g_cs2i 149 rfl cw_RX9_110 dX9_chance_146 (c_X9_has (by omega) (by omega)) (by omega) (Nat.le_of_ble_eq_true rfl) ?_
            refine gn_if_eq 156 (by decide) 152 rfl dX9_chance_149 (Nat.lt_of_lt_of_le (bt_lt _ _) (by omega)) (fun c149 => ?_) (fun c149 => absurd hb c149)
            refine g_bipush (v := 10) 158 rfl dX9_chance_156 (by decide) ?_
            refine g_iload_n3 159 rfl dX9_chance_158 ?_
            refine gn_isub 160 rfl dX9_chance_159 (by omega) ?_
            refine gn_imul 161 rfl dX9_chance_160 ?_
            refine g_istore8 163 rfl dX9_chance_161 (by decide) rfl ?_
            refine gn_iinc9 1 166 rfl dX9_chance_163 rfl (by decide) rfl ?_
            refine g_goto 86 (by decide) dX9_chance_166 ?_
            first | exact ih2 | (rw [show h.1 28 0 - k = 0 by omega] at ih2; exact ih2)
        · rw [if_neg hb, if_neg hb] at ih2
          refine g_iload9 88 rfl dX9_chance_86 ?_
          refine g_iload_n2 89 rfl dX9_chance_88 ?_
          refine gn_icmp_ge 169 (by decide) 92 rfl dX9_chance_89 (by omega) (by omega) (fun c89 => absurd c89 (Nat.not_le_of_lt hk)) (fun c89 => ?_)
          refine g_iload7 94 rfl dX9_chance_92 ?_
          refine g_iload6 96 rfl dX9_chance_94 ?_
          refine g_iload9 98 rfl dX9_chance_96 ?_
          refine g_cs2i 101 rfl cw_RX9_110 dX9_chance_98 (c_X9_has (by omega) (by omega)) (by omega) (Nat.le_of_ble_eq_true rfl) ?_
          refine gn_if_eq 108 (by decide) 104 rfl dX9_chance_101 (Nat.lt_of_lt_of_le (bt_lt _ _) (by omega)) (fun c101 => absurd c101 hb) (fun c101 => ?_)
          refine g_iconst (v := 0) 105 rfl dX9_chance_104 (by decide) ?_
          refine g_goto 137 (by decide) dX9_chance_105 ?_
          refine gn_iadd 138 rfl dX9_chance_137 ?_
          rw [Nat.add_zero]
          refine g_istore7 140 rfl dX9_chance_138 (by decide) rfl ?_
          refine g_iload8 142 rfl dX9_chance_140 ?_
          refine g_iload6 144 rfl dX9_chance_142 ?_
          refine g_iload9 146 rfl dX9_chance_144 ?_
          refine g_cs2i 149 rfl cw_RX9_110 dX9_chance_146 (c_X9_has (by omega) (by omega)) (by omega) (Nat.le_of_ble_eq_true rfl) ?_
          refine gn_if_eq 156 (by decide) 152 rfl dX9_chance_149 (Nat.lt_of_lt_of_le (bt_lt _ _) (by omega)) (fun c149 => absurd c149 hb) (fun c149 => ?_)
          refine g_iload_n3 153 rfl dX9_chance_152 ?_
          refine g_goto 160 (by decide) dX9_chance_153 ?_
          refine gn_imul 161 rfl dX9_chance_160 ?_
          refine g_istore8 163 rfl dX9_chance_161 (by decide) rfl ?_
          refine gn_iinc9 1 166 rfl dX9_chance_163 rfl (by decide) rfl ?_
          refine g_goto 86 (by decide) dX9_chance_166 ?_
          exact ih2
    refine g_iload6 50 rfl dX9_chance_48 ?_
    refine g_iconst (v := 1) 51 rfl dX9_chance_50 (by decide) ?_
    refine g_iload_n2 52 rfl dX9_chance_51 ?_
    refine gn_ishl 53 rfl dX9_chance_52 (by omega) ?_
    refine gn_icmp_ge 203 (by decide) 56 rfl dX9_chance_53 (by omega) (by omega) (fun c53 => absurd c53 (Nat.not_le_of_lt hs)) (fun c53 => ?_)
    refine g_aload_n0 57 rfl dX9_chance_56 ?_
    refine gf_Model_page 60 rfl fl_RX9_25 dX9_chance_57 ?_
    refine g_bipush (v := 6) 62 rfl dX9_chance_60 (by decide) ?_
    refine ga_28 63 rfl (by omega) dX9_chance_62 ?_
    refine g_iload_n1 64 rfl dX9_chance_63 ?_
    refine g_cs2i 67 rfl cw_RX9_110 dX9_chance_64 (c_X9_has (by omega) (by omega)) (by omega) (Nat.le_of_ble_eq_true rfl) ?_
    refine gn_if_eq 203 (by decide) 70 rfl dX9_chance_67 (Nat.lt_of_lt_of_le (bt_lt _ _) (by omega)) (fun c67 => ?_) (fun c67 => ?_)
    · exact F s (by rw [chS_0 c67, chS_0 c67]) (by omega)
    · refine g_aload_n0 71 rfl dX9_chance_70 ?_
      refine gf_Model_page 74 rfl fl_RX9_25 dX9_chance_71 ?_
      refine g_iconst (v := 2) 75 rfl dX9_chance_74 (by decide) ?_
      refine g_iload_n1 76 rfl dX9_chance_75 ?_
      refine gn_iadd 77 rfl dX9_chance_76 ?_
      refine ga_28 78 rfl (by omega) dX9_chance_77 ?_
      refine g_istore7 80 rfl dX9_chance_78 (by decide) rfl ?_
      refine g_iconst (v := 1) 81 rfl dX9_chance_80 (by decide) ?_
      refine g_istore8 83 rfl dX9_chance_81 (by decide) rfl ?_
      refine g_iconst (v := 0) 84 rfl dX9_chance_83 (by decide) ?_
      refine g_istore9 86 rfl dX9_chance_84 (by decide) rfl ?_
      exact K c67
theorem c_X9_seed {v : Int64} (h0 : h.1 22 0 = 0) : Rtl V 1 yX9_seed cX9_seed 5 (some .long) [rf V 22, .long v] h (h.2 1) (sL h 1 v) := by
  refine Mt_in [some (rf V 22), some (.long v), none, none, none] (own := RX9) rfl (by decide) (Nat.le_of_ble_eq_true rfl) (fun q hq => hq) ?_
  refine g_aload_n0 1 rfl dX9_seed_0 ?_
  refine g_iconst (v := 0) 2 rfl dX9_seed_1 (by decide) ?_
  refine gp_Model_thrown 5 rfl fl_RX9_53 dX9_seed_2 ?_
  rw [thr0 h0]
  refine g_aload_n0 6 rfl dX9_seed_5 ?_
  refine gf_Model_seed 9 rfl fl_RX9_211 dX9_seed_6 ?_
  refine g_lstore_n3 10 rfl dX9_seed_9 (by decide) rfl ?_
  refine g_aload_n0 11 rfl dX9_seed_10 ?_
  refine g_lload_n1 12 rfl dX9_seed_11 ?_
  refine gp_Model_seed 15 rfl fl_RX9_211 dX9_seed_12 ?_
  refine g_lload_n3 16 rfl dX9_seed_15 ?_
  refine g_lret dX9_seed_16 rfl ?_
  exact ⟨rfl, rfl⟩
theorem c_X9_talks_bad {m : Nat} (h0 : h.1 22 0 = 0) (hm : m < 2 ^ 32) (hb : ¬ (1 ≤ m ∧ m ≤ 30)) : Rti V 5 yX9_talks cX9_talks 5 (some .int) [rf V 22, .int (nI m)] h (nI 4294967294) h := by
  have e1 : (if (1 : Int64) ≤ (nI m).toInt64 ∧ (nI m).toInt64 ≤ 30 then 1 else 0) = 0 := if_neg (fun q => hb ((in_c (n := m) (a := 1) (b := 30) hm (by decide) (by decide) rfl rfl).mp q))
  refine Mt_in [some (rf V 22), some (.int (nI m)), none, none, none] (own := RX9) rfl (by decide) (Nat.le_of_ble_eq_true rfl) (fun q hq => hq) ?_
  refine g_aload_n0 1 rfl dX9_talks_0 ?_
  refine g_iconst (v := 0) 2 rfl dX9_talks_1 (by decide) ?_
  refine gp_Model_thrown 5 rfl fl_RX9_53 dX9_talks_2 ?_
  rw [thr0 h0]
  refine g_iload_n1 6 rfl dX9_talks_5 ?_
  refine g_i2l 7 rfl dX9_talks_6 ?_
  refine g_lconst (v := 1) 8 rfl dX9_talks_7 rfl ?_
  refine g_ldc2 11 rfl kl_RX9_215 dX9_talks_8 ?_
  refine g_cs3i 14 rfl cw_RX9_60 dX9_talks_11 (c_X9_in) (by omega) (Nat.le_of_ble_eq_true rfl) ?_
  rw [e1]
  refine gn_if_ne 20 (by decide) 17 rfl dX9_talks_14 (by omega) (fun c14 => absurd rfl c14) (fun c14 => ?_)
  refine g_bipush (v := 4294967294) 19 rfl dX9_talks_17 (by decide) ?_
  refine g_iret .int dX9_talks_19 rfl (rfl) ?_
  exact ⟨rfl, rfl⟩
theorem c_X9_talks_ok {m : Nat} (h0 : h.1 22 0 = 0) (hm : MI h) (hs0 : h.1 28 1 ≤ 9) (h1 : 1 ≤ m) (h30 : m ≤ 30) : Rti V 5 yX9_talks cX9_talks 5 (some .int) [rf V 22, .int (nI m)] h (nI (tkW (h.1 24) (h.1 22 4) (h.1 22 6) (h.1 25) (h.1 28) (h.2 1) m)) (sR (sL h 1 (sdN (h.2 1) m)) 29 (tkT (h.1 24) (h.1 22 4) (h.1 22 6) (h.1 25) (h.1 28) (h.2 1) m)) := by
  have e1 : (if (1 : Int64) ≤ (nI m).toInt64 ∧ (nI m).toInt64 ≤ 30 then 1 else 0) = 1 := if_pos ((in_c (n := m) (a := 1) (b := 30) (by omega) (by decide) (by decide) rfl rfl).mpr ⟨h1, h30⟩)
  obtain ⟨hE, hC, x4, x5, x7, x8, hT, hT9⟩ := id hm
  have hok := tkT_ok (E := h.1 24) (C := h.1 25) (T := h.1 28) (m := h.1 22 6) (s := h.2 1) hT hs0 x4 hE
  refine Mt_in [some (rf V 22), some (.int (nI m)), none, none, none] (own := RX9) rfl (by decide) (Nat.le_of_ble_eq_true rfl) (fun q hq => hq) ?_
  refine g_aload_n0 1 rfl dX9_talks_0 ?_
  refine g_iconst (v := 0) 2 rfl dX9_talks_1 (by decide) ?_
  refine gp_Model_thrown 5 rfl fl_RX9_53 dX9_talks_2 ?_
  rw [thr0 h0]
  refine g_iload_n1 6 rfl dX9_talks_5 ?_
  refine g_i2l 7 rfl dX9_talks_6 ?_
  refine g_lconst (v := 1) 8 rfl dX9_talks_7 rfl ?_
  refine g_ldc2 11 rfl kl_RX9_215 dX9_talks_8 ?_
  refine g_cs3i 14 rfl cw_RX9_60 dX9_talks_11 (c_X9_in) (by omega) (Nat.le_of_ble_eq_true rfl) ?_
  rw [e1]
  refine gn_if_ne 20 (by decide) 17 rfl dX9_talks_14 (by omega) (fun c14 => ?_) (fun c14 => absurd c14 (by decide))
  refine g_aload_n0 21 rfl dX9_talks_20 ?_
  refine g_cv0v 24 rfl cw_RX9_151 dX9_talks_21 (c_X9_begin hm) (by omega) (ob_22 V) (Nat.le_of_ble_eq_true rfl) ?_
  refine g_iconst (v := 0) 25 rfl dX9_talks_24 (by decide) ?_
  refine g_istore_n2 26 rfl dX9_talks_25 (by decide) rfl ?_
  refine g_iconst (v := 0) 27 rfl dX9_talks_26 (by decide) ?_
  refine g_istore_n3 28 rfl dX9_talks_27 (by decide) rfl ?_
  skip
  refine g_heap (show sR h 29 (h.1 28) = sR (sL h 1 (sdN (h.2 1) 0)) 29 (tkT (h.1 24) (h.1 22 4) (h.1 22 6) (h.1 25) (h.1 28) (h.2 1) 0) from by rw [show sdN (h.2 1) 0 = h.2 1 from rfl, sL_same]; rfl) ?_
  refine loop_up (P := fun k => G V T0 5 RX9 cX9_talks 5 (some .int) 28 [some (rf V 22), some (.int (nI m)), some (.int (nI (tkW (h.1 24) (h.1 22 4) (h.1 22 6) (h.1 25) (h.1 28) (h.2 1) k))), some (.int (nI k)), none] [] (sR (sL h 1 (sdN (h.2 1) k)) 29 (tkT (h.1 24) (h.1 22 4) (h.1 22 6) (h.1 25) (h.1 28) (h.2 1) k)) _) (n := m) ?_ (fun k hk ih => ?_) 0 (Nat.zero_le _)
  · refine g_iload_n3 29 rfl dX9_talks_28 ?_
    refine g_iload_n1 30 rfl dX9_talks_29 ?_
    refine gn_icmp_ge 122 (by decide) 33 rfl dX9_talks_30 (by omega) (by omega) (fun c30 => ?_) (fun c30 => absurd c30 (Nat.lt_irrefl _))
    refine g_iload_n2 123 rfl dX9_talks_122 ?_
    refine g_iret .int dX9_talks_123 rfl (rfl) ?_
    exact ⟨rfl, rfl⟩
  · have hN := hok k
    have hl := drw_lt (sdN (h.2 1) (k + 1))
    have hm2 : ∀ v, MI (sR (sL h 1 v) 29 (tkT (h.1 24) (h.1 22 4) (h.1 22 6) (h.1 25) (h.1 28) (h.2 1) k)) := fun v => MI_29 (h := sL h 1 v) hm hN.1
    have ih : G V T0 5 RX9 cX9_talks 5 (some .int) 28 [some (rf V 22), some (.int (nI m)), some (.int (nI (if drw (sdN (h.2 1) (k + 1)) < 5 then (if turnC (h.1 22 6) (h.1 25) (tkT (h.1 24) (h.1 22 4) (h.1 22 6) (h.1 25) (h.1 28) (h.2 1) k) (drw (sdN (h.2 1) (k + 1)) + 1) then tkW (h.1 24) (h.1 22 4) (h.1 22 6) (h.1 25) (h.1 28) (h.2 1) k + wrth (h.1 25) (drw (sdN (h.2 1) (k + 1))) else tkW (h.1 24) (h.1 22 4) (h.1 22 6) (h.1 25) (h.1 28) (h.2 1) k) else tkW (h.1 24) (h.1 22 4) (h.1 22 6) (h.1 25) (h.1 28) (h.2 1) k))), some (.int (nI (k + 1))), none] [] (sR (sL h 1 (sdN (h.2 1) (k + 1))) 29 (drwX (h.1 24) (h.1 22 4) (h.1 22 6) (h.1 25) (tkT (h.1 24) (h.1 22 4) (h.1 22 6) (h.1 25) (h.1 28) (h.2 1) k) (drw (sdN (h.2 1) (k + 1))))) _ := ih
    generalize tkT (h.1 24) (h.1 22 4) (h.1 22 6) (h.1 25) (h.1 28) (h.2 1) k = T at hN hm2 ih ⊢
    refine g_iload_n3 29 rfl dX9_talks_28 ?_
    refine g_iload_n1 30 rfl dX9_talks_29 ?_
    refine gn_icmp_ge 122 (by decide) 33 rfl dX9_talks_30 (by omega) (by omega) (fun c30 => absurd c30 (Nat.not_le_of_lt hk)) (fun c30 => ?_)
    refine g_aload_n0 34 rfl dX9_talks_33 ?_
    refine g_aload_n0 35 rfl dX9_talks_34 ?_
    refine gf_Model_seed 38 rfl fl_RX9_211 dX9_talks_35 ?_
    rw [sR_2, sL_s]
    refine g_ldc2 41 rfl kl_RX9_217 dX9_talks_38 ?_
    refine g_lmul 42 rfl dX9_talks_41 ?_
    refine g_ldc2 45 rfl kl_RX9_219 dX9_talks_42 ?_
    refine g_ladd 46 rfl dX9_talks_45 ?_
    refine gp_Model_seed 49 rfl fl_RX9_211 dX9_talks_46 ?_
    rw [sL_sR, sL_sL]
    refine g_aload_n0 50 rfl dX9_talks_49 ?_
    refine gf_Model_seed 53 rfl fl_RX9_211 dX9_talks_50 ?_
    rw [sR_2, sL_s]
    refine g_bipush (v := 33) 55 rfl dX9_talks_53 (by decide) ?_
    refine g_lushr 56 rfl dX9_talks_55 ?_
    refine g_ldc2 59 rfl kl_RX9_221 dX9_talks_56 ?_
    refine g_lrem 60 rfl dX9_talks_59 (by decide) ?_
    refine g_l2i 61 rfl dX9_talks_60 ?_
    rw [drw_ok, show drw (sdN (h.2 1) k * 6364136223846793005 + 1442695040888963407) = drw (sdN (h.2 1) (k + 1)) from rfl]
    refine g_istore4 63 rfl dX9_talks_61 (by decide) rfl ?_
    skip
    change G V T0 5 RX9 cX9_talks 5 (some .int) 63 _ [] (sR (sL h 1 (sdN (h.2 1) (k + 1))) 29 T) _
    generalize drw (sdN (h.2 1) (k + 1)) = f at hl ih ⊢
    refine g_iload4 65 rfl dX9_talks_63 ?_
    refine g_iconst (v := 5) 66 rfl dX9_talks_65 (by decide) ?_
    refine gn_icmp_le 80 (by decide) 69 rfl dX9_talks_66 (by omega) (by omega) (fun c66 => ?_) (fun c66 => ?_)
    · refine g_iload4 82 rfl dX9_talks_80 ?_
      refine g_iconst (v := 5) 83 rfl dX9_talks_82 (by decide) ?_
      refine gn_icmp_ne 96 (by decide) 86 rfl dX9_talks_83 (by omega) (by omega) (fun c83 => ?_) (fun c83 => ?_)
      · refine g_aload_n0 97 rfl dX9_talks_96 ?_
        refine g_iload4 99 rfl dX9_talks_97 ?_
        refine g_iconst (v := 1) 100 rfl dX9_talks_99 (by decide) ?_
        refine gn_iadd 101 rfl dX9_talks_100 ?_
        refine g_cv1i 104 rfl cw_RX9_179 dX9_talks_101 (c_X9_does (hm2 _) hN.2 (by omega)) (by omega) (ob_22 V) (Nat.le_of_ble_eq_true rfl) ?_
        refine gn_if_eq 116 (by decide) 107 rfl dX9_talks_104 (Nat.lt_of_lt_of_le (Bool.toNat_lt _) (by omega)) (fun c104 => ?_) (fun c104 => ?_)
        · refine gn_iinc3 1 119 rfl dX9_talks_116 rfl (by decide) rfl ?_
          refine g_goto 28 (by decide) dX9_talks_119 ?_
          refine g_none 4 ?_
          rw [sR_sR, sR_s]
          first
          | (rw [if_neg (show ¬ f < 5 by omega), show drwX _ _ _ _ T f = _ from if_pos (show 5 < f by omega)] at ih; exact ih)
          | (rw [if_neg (show ¬ f < 5 by omega), show drwX _ _ _ _ T f = _ from (if_neg (show ¬ 5 < f by omega)).trans (if_pos c83)] at ih; exact ih)
          | (have q : turnC (h.1 22 6) (h.1 25) T (f + 1) = false := by simpa using (show (turnC (h.1 22 6) (h.1 25) T (f + 1)).toNat = 0 from c104)
             rw [if_pos (show f < 5 by omega), if_neg (by rw [q]; decide), show drwX _ _ _ _ T f = _ from (if_neg (show ¬ 5 < f by omega)).trans (if_neg c83)] at ih; exact ih)
          | (have q : turnC (h.1 22 6) (h.1 25) T (f + 1) = true := by simpa using (show ¬ (turnC (h.1 22 6) (h.1 25) T (f + 1)).toNat = 0 from c104)
             rw [if_pos (show f < 5 by omega), if_pos q, show drwX _ _ _ _ T f = _ from (if_neg (show ¬ 5 < f by omega)).trans (if_neg c83)] at ih; exact ih)
        · refine g_iload_n2 108 rfl dX9_talks_107 ?_
          refine g_aload_n0 109 rfl dX9_talks_108 ?_
          refine g_iload4 111 rfl dX9_talks_109 ?_
          refine g_cv1i 114 rfl cw_RX9_137 dX9_talks_111 (c_X9_worthOf (by omega)) (by omega) (ob_22 V) (Nat.le_of_ble_eq_true rfl) ?_
          refine gn_iadd 115 rfl dX9_talks_114 ?_
          refine g_istore_n2 116 rfl dX9_talks_115 (by decide) rfl ?_
          refine gn_iinc3 1 119 rfl dX9_talks_116 rfl (by decide) rfl ?_
          refine g_goto 28 (by decide) dX9_talks_119 ?_
          refine g_none 4 ?_
          rw [sR_sR, sR_s]
          first
          | (rw [if_neg (show ¬ f < 5 by omega), show drwX _ _ _ _ T f = _ from if_pos (show 5 < f by omega)] at ih; exact ih)
          | (rw [if_neg (show ¬ f < 5 by omega), show drwX _ _ _ _ T f = _ from (if_neg (show ¬ 5 < f by omega)).trans (if_pos c83)] at ih; exact ih)
          | (have q : turnC (h.1 22 6) (h.1 25) T (f + 1) = false := by simpa using (show (turnC (h.1 22 6) (h.1 25) T (f + 1)).toNat = 0 from c104)
             rw [if_pos (show f < 5 by omega), if_neg (by rw [q]; decide), show drwX _ _ _ _ T f = _ from (if_neg (show ¬ 5 < f by omega)).trans (if_neg c83)] at ih; exact ih)
          | (have q : turnC (h.1 22 6) (h.1 25) T (f + 1) = true := by simpa using (show ¬ (turnC (h.1 22 6) (h.1 25) T (f + 1)).toNat = 0 from c104)
             rw [if_pos (show f < 5 by omega), if_pos q, show drwX _ _ _ _ T f = _ from (if_neg (show ¬ 5 < f by omega)).trans (if_neg c83)] at ih; exact ih)
      · refine g_aload_n0 87 rfl dX9_talks_86 ?_
        refine g_bipush (v := 6) 89 rfl dX9_talks_87 (by decide) ?_
        refine g_cv1i 92 rfl cw_RX9_179 dX9_talks_89 (c_X9_does (hm2 _) hN.2 (by decide)) (by omega) (ob_22 V) (Nat.le_of_ble_eq_true rfl) ?_
        refine g_pop 93 rfl dX9_talks_92 rfl ?_
        refine g_goto 116 (by decide) dX9_talks_93 ?_
        refine gn_iinc3 1 119 rfl dX9_talks_116 rfl (by decide) rfl ?_
        refine g_goto 28 (by decide) dX9_talks_119 ?_
        refine g_none 4 ?_
        rw [sR_sR, sR_s]
        first
        | (rw [if_neg (show ¬ f < 5 by omega), show drwX _ _ _ _ T f = _ from if_pos (show 5 < f by omega)] at ih; exact ih)
        | (rw [if_neg (show ¬ f < 5 by omega), show drwX _ _ _ _ T f = _ from (if_neg (show ¬ 5 < f by omega)).trans (if_pos c83)] at ih; exact ih)
        | (have q : turnC (h.1 22 6) (h.1 25) T (f + 1) = false := by simpa using (show (turnC (h.1 22 6) (h.1 25) T (f + 1)).toNat = 0 from c104)
           rw [if_pos (show f < 5 by omega), if_neg (by rw [q]; decide), show drwX _ _ _ _ T f = _ from (if_neg (show ¬ 5 < f by omega)).trans (if_neg c83)] at ih; exact ih)
        | (have q : turnC (h.1 22 6) (h.1 25) T (f + 1) = true := by simpa using (show ¬ (turnC (h.1 22 6) (h.1 25) T (f + 1)).toNat = 0 from c104)
           rw [if_pos (show f < 5 by omega), if_pos q, show drwX _ _ _ _ T f = _ from (if_neg (show ¬ 5 < f by omega)).trans (if_neg c83)] at ih; exact ih)
    · refine g_aload_n0 70 rfl dX9_talks_69 ?_
      refine g_aload_n0 71 rfl dX9_talks_70 ?_
      refine gf_Model_trial 74 rfl fl_RX9_28 dX9_talks_71 ?_
      refine g_cv1v 77 rfl cw_RX9_144 dX9_talks_74 (c_X9_goBite_29 (hm2 _) hN.1) (by omega) (ob_22 V) (Nat.le_of_ble_eq_true rfl) ?_
      refine g_goto 116 (by decide) dX9_talks_77 ?_
      refine gn_iinc3 1 119 rfl dX9_talks_116 rfl (by decide) rfl ?_
      refine g_goto 28 (by decide) dX9_talks_119 ?_
      refine g_none 4 ?_
      rw [sR_sR, sR_s]
      first
      | (rw [if_neg (show ¬ f < 5 by omega), show drwX _ _ _ _ T f = _ from if_pos (show 5 < f by omega)] at ih; exact ih)
      | (rw [if_neg (show ¬ f < 5 by omega), show drwX _ _ _ _ T f = _ from (if_neg (show ¬ 5 < f by omega)).trans (if_pos c83)] at ih; exact ih)
      | (have q : turnC (h.1 22 6) (h.1 25) T (f + 1) = false := by simpa using (show (turnC (h.1 22 6) (h.1 25) T (f + 1)).toNat = 0 from c104)
         rw [if_pos (show f < 5 by omega), if_neg (by rw [q]; decide), show drwX _ _ _ _ T f = _ from (if_neg (show ¬ 5 < f by omega)).trans (if_neg c83)] at ih; exact ih)
      | (have q : turnC (h.1 22 6) (h.1 25) T (f + 1) = true := by simpa using (show ¬ (turnC (h.1 22 6) (h.1 25) T (f + 1)).toNat = 0 from c104)
         rw [if_pos (show f < 5 by omega), if_pos q, show drwX _ _ _ _ T f = _ from (if_neg (show ¬ 5 < f by omega)).trans (if_neg c83)] at ih; exact ih)
theorem c_X9_keep_u {a : Nat} (h0 : h.1 22 0 = 0) (ha : a < 2 ^ 32) (hn : ¬ a < 2) : Rti V 2 yX9_keep cX9_keep 3 (some .int) [rf V 22, .int (nI a)] h (nI 4294967295) h := by
  have e1 : (if (0 : Int64) ≤ (nI a).toInt64 ∧ (nI a).toInt64 ≤ 1 then 1 else 0) = 0 := if_neg (fun q => hn (by have := ((in_c (n := a) (a := 0) (b := 1) ha (by decide) (by decide) rfl rfl).mp q).2; omega))
  refine Mt_in [some (rf V 22), some (.int (nI a)), none] (own := RX9) rfl (by decide) (Nat.le_of_ble_eq_true rfl) (fun q hq => hq) ?_
  refine g_aload_n0 1 rfl dX9_keep_0 ?_
  refine g_iconst (v := 0) 2 rfl dX9_keep_1 (by decide) ?_
  refine gp_Model_thrown 5 rfl fl_RX9_53 dX9_keep_2 ?_
  rw [thr0 h0]
  refine g_iload_n1 6 rfl dX9_keep_5 ?_
  refine g_i2l 7 rfl dX9_keep_6 ?_
  refine g_lconst (v := 0) 8 rfl dX9_keep_7 rfl ?_
  refine g_lconst (v := 1) 9 rfl dX9_keep_8 rfl ?_
  refine g_cs3i 12 rfl cw_RX9_60 dX9_keep_9 (c_X9_in) (by omega) (Nat.le_of_ble_eq_true rfl) ?_
  rw [e1]
  refine gn_if_ne 17 (by decide) 15 rfl dX9_keep_12 (by omega) (fun c12 => absurd rfl c12) (fun c12 => ?_)
  refine g_iconst (v := 4294967295) 16 rfl dX9_keep_15 (by decide) ?_
  refine g_iret .int dX9_keep_16 rfl (rfl) ?_
  exact ⟨rfl, rfl⟩
def kepR (f P : Nat → Nat) (a : Nat) : Nat → Nat := fun j => if 10 * a ≤ j ∧ j < 10 * a + 10 then P (j - 10 * a) else f j
theorem c_X9_keep_ok {a : Nat} (h0 : h.1 22 0 = 0) (hn : a < 2) : Rti V 2 yX9_keep cX9_keep 3 (some .int) [rf V 22, .int (nI a)] h (nI (h.1 28 9)) (sR (sR h 32 (up (h.1 32) a 1)) 31 (kepR (h.1 31) (h.1 28) a)) := by
  have e1 : (if (0 : Int64) ≤ (nI a).toInt64 ∧ (nI a).toInt64 ≤ 1 then 1 else 0) = 1 := if_pos ((in_c (n := a) (a := 0) (b := 1) (by omega) (by decide) (by decide) rfl rfl).mpr ⟨by omega, by omega⟩)
  refine Mt_in [some (rf V 22), some (.int (nI a)), none] (own := RX9) rfl (by decide) (Nat.le_of_ble_eq_true rfl) (fun q hq => hq) ?_
  refine g_aload_n0 1 rfl dX9_keep_0 ?_
  refine g_iconst (v := 0) 2 rfl dX9_keep_1 (by decide) ?_
  refine gp_Model_thrown 5 rfl fl_RX9_53 dX9_keep_2 ?_
  rw [thr0 h0]
  refine g_iload_n1 6 rfl dX9_keep_5 ?_
  refine g_i2l 7 rfl dX9_keep_6 ?_
  refine g_lconst (v := 0) 8 rfl dX9_keep_7 rfl ?_
  refine g_lconst (v := 1) 9 rfl dX9_keep_8 rfl ?_
  refine g_cs3i 12 rfl cw_RX9_60 dX9_keep_9 (c_X9_in) (by omega) (Nat.le_of_ble_eq_true rfl) ?_
  rw [e1]
  refine gn_if_ne 17 (by decide) 15 rfl dX9_keep_12 (by omega) (fun c12 => ?_) (fun c12 => absurd c12 (by decide))
  refine g_aload_n0 18 rfl dX9_keep_17 ?_
  refine gf_Model_isKept 21 rfl fl_RX9_37 dX9_keep_18 ?_
  refine g_iload_n1 22 rfl dX9_keep_21 ?_
  refine g_iconst (v := 1) 23 rfl dX9_keep_22 (by decide) ?_
  refine gs_32 24 rfl (by omega) (by omega) dX9_keep_23 ?_
  refine g_iconst (v := 0) 25 rfl dX9_keep_24 (by decide) ?_
  refine g_istore_n2 26 rfl dX9_keep_25 (by decide) rfl ?_
  skip
  refine g_heap (show sR h 32 (up (h.1 32) a 1) = sR (sR h 32 (up (h.1 32) a 1)) 31 (fun j => if 10 * a ≤ j ∧ j < 10 * a + 0 then h.1 28 (j - 10 * a) else h.1 31 j) from by rw [show (fun j => if 10 * a ≤ j ∧ j < 10 * a + 0 then h.1 28 (j - 10 * a) else h.1 31 j) = (sR h 32 (up (h.1 32) a 1)).1 31 from funext fun o => if_neg (by omega), sR_same]) ?_
  refine loop_up (P := fun k => G V T0 2 RX9 cX9_keep 3 (some .int) 26 [some (rf V 22), some (.int (nI a)), some (.int (nI k))] [] (sR (sR h 32 (up (h.1 32) a 1)) 31 (fun j => if 10 * a ≤ j ∧ j < 10 * a + k then h.1 28 (j - 10 * a) else h.1 31 j)) _) (n := 10) ?_ (fun k hk ih => ?_) 0 (Nat.zero_le _)
  · refine g_iload_n2 27 rfl dX9_keep_26 ?_
    refine g_bipush (v := 10) 29 rfl dX9_keep_27 (by decide) ?_
    refine gn_icmp_ge 55 (by decide) 32 rfl dX9_keep_29 (by omega) (by omega) (fun c29 => ?_) (fun c29 => absurd c29 (by omega))
    refine g_aload_n0 56 rfl dX9_keep_55 ?_
    refine gf_Model_page 59 rfl fl_RX9_25 dX9_keep_56 ?_
    refine g_bipush (v := 9) 61 rfl dX9_keep_59 (by decide) ?_
    refine ga_28 62 rfl (by omega) dX9_keep_61 ?_
    refine g_iret .int dX9_keep_62 rfl (rfl) ?_
    exact ⟨rfl, rfl⟩
  · refine g_iload_n2 27 rfl dX9_keep_26 ?_
    refine g_bipush (v := 10) 29 rfl dX9_keep_27 (by decide) ?_
    refine gn_icmp_ge 55 (by decide) 32 rfl dX9_keep_29 (by omega) (by omega) (fun c29 => absurd c29 (by omega)) (fun c29 => ?_)
    refine g_aload_n0 33 rfl dX9_keep_32 ?_
    refine gf_Model_kept 36 rfl fl_RX9_34 dX9_keep_33 ?_
    refine g_bipush (v := 10) 38 rfl dX9_keep_36 (by decide) ?_
    refine g_iload_n1 39 rfl dX9_keep_38 ?_
    refine gn_imul 40 rfl dX9_keep_39 ?_
    refine g_iload_n2 41 rfl dX9_keep_40 ?_
    refine gn_iadd 42 rfl dX9_keep_41 ?_
    refine g_aload_n0 43 rfl dX9_keep_42 ?_
    refine gf_Model_page 46 rfl fl_RX9_25 dX9_keep_43 ?_
    refine g_iload_n2 47 rfl dX9_keep_46 ?_
    refine ga_28 48 rfl (by omega) dX9_keep_47 ?_
    rw [show (sR (sR h 32 (up (h.1 32) a 1)) 31 (fun j => if 10 * a ≤ j ∧ j < 10 * a + k then h.1 28 (j - 10 * a) else h.1 31 j)).1 28 k = h.1 28 k from rfl]
    refine gs_31 49 rfl (by omega) dX9_keep_48 ?_
    refine gn_iinc2 1 52 rfl dX9_keep_49 rfl (by decide) rfl ?_
    refine g_goto 26 (by decide) dX9_keep_52 ?_
    rw [sR_s, sR_sR]
    refine g_heap (congrArg (sR (sR h 32 (up (h.1 32) a 1)) 31) (funext fun o => ?_)) ih
    simp only [up]
    by_cases q : o = 10 * a + k
    · rw [if_pos q, if_pos (by omega), show o - 10 * a = k by omega]
    · rw [if_neg q]
      by_cases w : 10 * a ≤ o ∧ o < 10 * a + k
      · rw [if_pos w, if_pos (by omega)]
      · rw [if_neg w, if_neg (by omega)]
theorem c_X9_again_u {a : Nat} (h0 : h.1 22 0 = 0) (ha : a < 2 ^ 32) (hn : ¬ a < 2) : Rti V 2 yX9_again cX9_again 3 (some .int) [rf V 22, .int (nI a)] h (nI 4294967295) h := by
  have e1 : (if (0 : Int64) ≤ (nI a).toInt64 ∧ (nI a).toInt64 ≤ 1 then 1 else 0) = 0 := if_neg (fun q => hn (by have := ((in_c (n := a) (a := 0) (b := 1) ha (by decide) (by decide) rfl rfl).mp q).2; omega))
  refine Mt_in [some (rf V 22), some (.int (nI a)), none] (own := RX9) rfl (by decide) (Nat.le_of_ble_eq_true rfl) (fun q hq => hq) ?_
  refine g_aload_n0 1 rfl dX9_again_0 ?_
  refine g_iconst (v := 0) 2 rfl dX9_again_1 (by decide) ?_
  refine gp_Model_thrown 5 rfl fl_RX9_53 dX9_again_2 ?_
  rw [thr0 h0]
  refine g_iload_n1 6 rfl dX9_again_5 ?_
  refine g_i2l 7 rfl dX9_again_6 ?_
  refine g_lconst (v := 0) 8 rfl dX9_again_7 rfl ?_
  refine g_lconst (v := 1) 9 rfl dX9_again_8 rfl ?_
  refine g_cs3i 12 rfl cw_RX9_60 dX9_again_9 (c_X9_in) (by omega) (Nat.le_of_ble_eq_true rfl) ?_
  rw [e1]
  refine gn_if_ne 17 (by decide) 15 rfl dX9_again_12 (by omega) (fun c12 => absurd rfl c12) (fun c12 => ?_)
  refine g_iconst (v := 4294967295) 16 rfl dX9_again_15 (by decide) ?_
  refine g_iret .int dX9_again_16 rfl (rfl) ?_
  exact ⟨rfl, rfl⟩
theorem c_X9_again_no {a : Nat} (h0 : h.1 22 0 = 0) (hn : a < 2) (hz : h.1 32 a = 0) : Rti V 2 yX9_again cX9_again 3 (some .int) [rf V 22, .int (nI a)] h (nI 4294967293) h := by
  have e1 : (if (0 : Int64) ≤ (nI a).toInt64 ∧ (nI a).toInt64 ≤ 1 then 1 else 0) = 1 := if_pos ((in_c (n := a) (a := 0) (b := 1) (by omega) (by decide) (by decide) rfl rfl).mpr ⟨by omega, by omega⟩)
  refine Mt_in [some (rf V 22), some (.int (nI a)), none] (own := RX9) rfl (by decide) (Nat.le_of_ble_eq_true rfl) (fun q hq => hq) ?_
  refine g_aload_n0 1 rfl dX9_again_0 ?_
  refine g_iconst (v := 0) 2 rfl dX9_again_1 (by decide) ?_
  refine gp_Model_thrown 5 rfl fl_RX9_53 dX9_again_2 ?_
  rw [thr0 h0]
  refine g_iload_n1 6 rfl dX9_again_5 ?_
  refine g_i2l 7 rfl dX9_again_6 ?_
  refine g_lconst (v := 0) 8 rfl dX9_again_7 rfl ?_
  refine g_lconst (v := 1) 9 rfl dX9_again_8 rfl ?_
  refine g_cs3i 12 rfl cw_RX9_60 dX9_again_9 (c_X9_in) (by omega) (Nat.le_of_ble_eq_true rfl) ?_
  rw [e1]
  refine gn_if_ne 17 (by decide) 15 rfl dX9_again_12 (by omega) (fun c12 => ?_) (fun c12 => absurd c12 (by decide))
  refine g_aload_n0 18 rfl dX9_again_17 ?_
  refine gf_Model_isKept 21 rfl fl_RX9_37 dX9_again_18 ?_
  refine g_iload_n1 22 rfl dX9_again_21 ?_
  refine ga_32 23 rfl (by omega) dX9_again_22 ?_
  refine gn_if_ne 29 (by decide) 26 rfl dX9_again_23 (by omega) (fun c23 => absurd hz c23) (fun c23 => ?_)
  refine g_bipush (v := 4294967293) 28 rfl dX9_again_26 (by decide) ?_
  refine g_iret .int dX9_again_28 rfl (rfl) ?_
  exact ⟨rfl, rfl⟩
theorem c_X9_again_ok {a : Nat} (h0 : h.1 22 0 = 0) (hn : a < 2) (hu : ∀ j, h.1 32 j < 2) (hz : ¬ h.1 32 a = 0) : Rti V 2 yX9_again cX9_again 3 (some .int) [rf V 22, .int (nI a)] h (nI (h.1 31 (10 * a + 9))) (sR (sR h 28 (undR (h.1 31) (h.1 28) a)) 22 (up (h.1 22) 17 0)) := by
  have e1 : (if (0 : Int64) ≤ (nI a).toInt64 ∧ (nI a).toInt64 ≤ 1 then 1 else 0) = 1 := if_pos ((in_c (n := a) (a := 0) (b := 1) (by omega) (by decide) (by decide) rfl rfl).mpr ⟨by omega, by omega⟩)
  have hua := hu a
  refine Mt_in [some (rf V 22), some (.int (nI a)), none] (own := RX9) rfl (by decide) (Nat.le_of_ble_eq_true rfl) (fun q hq => hq) ?_
  refine g_aload_n0 1 rfl dX9_again_0 ?_
  refine g_iconst (v := 0) 2 rfl dX9_again_1 (by decide) ?_
  refine gp_Model_thrown 5 rfl fl_RX9_53 dX9_again_2 ?_
  rw [thr0 h0]
  refine g_iload_n1 6 rfl dX9_again_5 ?_
  refine g_i2l 7 rfl dX9_again_6 ?_
  refine g_lconst (v := 0) 8 rfl dX9_again_7 rfl ?_
  refine g_lconst (v := 1) 9 rfl dX9_again_8 rfl ?_
  refine g_cs3i 12 rfl cw_RX9_60 dX9_again_9 (c_X9_in) (by omega) (Nat.le_of_ble_eq_true rfl) ?_
  rw [e1]
  refine gn_if_ne 17 (by decide) 15 rfl dX9_again_12 (by omega) (fun c12 => ?_) (fun c12 => absurd c12 (by decide))
  refine g_aload_n0 18 rfl dX9_again_17 ?_
  refine gf_Model_isKept 21 rfl fl_RX9_37 dX9_again_18 ?_
  refine g_iload_n1 22 rfl dX9_again_21 ?_
  refine ga_32 23 rfl (by omega) dX9_again_22 ?_
  refine gn_if_ne 29 (by decide) 26 rfl dX9_again_23 (by omega) (fun c23 => ?_) (fun c23 => absurd c23 hz)
  refine g_iconst (v := 0) 30 rfl dX9_again_29 (by decide) ?_
  refine g_istore_n2 31 rfl dX9_again_30 (by decide) rfl ?_
  skip
  refine g_heap (show h = sR h 28 (fun j => if j < 0 then h.1 31 (10 * a + j) else h.1 28 j) from by rw [show (fun j => if j < 0 then h.1 31 (10 * a + j) else h.1 28 j) = h.1 28 from funext fun o => if_neg (by omega), sR_same]) ?_
  refine loop_up (P := fun k => G V T0 2 RX9 cX9_again 3 (some .int) 31 [some (rf V 22), some (.int (nI a)), some (.int (nI k))] [] (sR h 28 (fun j => if j < k then h.1 31 (10 * a + j) else h.1 28 j)) _) (n := 10) ?_ (fun k hk ih => ?_) 0 (Nat.zero_le _)
  · refine g_iload_n2 32 rfl dX9_again_31 ?_
    refine g_bipush (v := 10) 34 rfl dX9_again_32 (by decide) ?_
    refine gn_icmp_ge 60 (by decide) 37 rfl dX9_again_34 (by omega) (by omega) (fun c34 => ?_) (fun c34 => absurd c34 (by omega))
    refine g_aload_n0 61 rfl dX9_again_60 ?_
    refine g_iconst (v := 0) 62 rfl dX9_again_61 (by decide) ?_
    refine gp_Model_acts 65 rfl fl_RX9_103 dX9_again_62 ?_
    refine g_aload_n0 66 rfl dX9_again_65 ?_
    refine gf_Model_page 69 rfl fl_RX9_25 dX9_again_66 ?_
    refine g_bipush (v := 9) 71 rfl dX9_again_69 (by decide) ?_
    refine ga_28 72 rfl (by omega) dX9_again_71 ?_
    refine g_iret .int dX9_again_72 rfl (rfl) ?_
    exact ⟨rfl, rfl⟩
  · refine g_iload_n2 32 rfl dX9_again_31 ?_
    refine g_bipush (v := 10) 34 rfl dX9_again_32 (by decide) ?_
    refine gn_icmp_ge 60 (by decide) 37 rfl dX9_again_34 (by omega) (by omega) (fun c34 => absurd c34 (by omega)) (fun c34 => ?_)
    refine g_aload_n0 38 rfl dX9_again_37 ?_
    refine gf_Model_page 41 rfl fl_RX9_25 dX9_again_38 ?_
    refine g_iload_n2 42 rfl dX9_again_41 ?_
    refine g_aload_n0 43 rfl dX9_again_42 ?_
    refine gf_Model_kept 46 rfl fl_RX9_34 dX9_again_43 ?_
    refine g_bipush (v := 10) 48 rfl dX9_again_46 (by decide) ?_
    refine g_iload_n1 49 rfl dX9_again_48 ?_
    refine gn_imul 50 rfl dX9_again_49 ?_
    refine g_iload_n2 51 rfl dX9_again_50 ?_
    refine gn_iadd 52 rfl dX9_again_51 ?_
    refine ga_31 53 rfl (by omega) dX9_again_52 ?_
    refine gs_28 54 rfl (by omega) dX9_again_53 ?_
    refine gn_iinc2 1 57 rfl dX9_again_54 rfl (by decide) rfl ?_
    refine g_goto 31 (by decide) dX9_again_57 ?_
    rw [sR_s, sR_sR]
    refine g_heap (congrArg (sR h 28) (funext fun o => ?_)) ih
    simp only [up]
    by_cases q : o = k
    · rw [if_pos q, if_pos (by omega), q]; rfl
    · rw [if_neg q]
      by_cases w : o < k
      · rw [if_pos w, if_pos (by omega)]
      · rw [if_neg w, if_neg (by omega)]
end X9e
