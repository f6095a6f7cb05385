/-! the reference: best, share -/
theorem rng_srch {h : Hp} (hm : MI h) {a a' N : Nat} (hN : N ≤ 5) (haa : ∀ c, c < h.1 22 6 → (bt a' c = 0 ↔ bt a (h.1 25 (3 * c + 2)) = 0)) : rng (fbG h a N) 0 ((1 + h.1 22 6) ^ N) (4294967287, 4294967287) = srch (h.1 24) (h.1 22 4) (h.1 22 6) (h.1 25) a' N (h.1 28) 1 0 (4294967295, 1) := by
  obtain ⟨hE, hC, x4, x5, x7, x8, hT, hT9⟩ := id hm
  have h1 := blk (E := h.1 24) (C := h.1 25) (T := h.1 28) (n := h.1 22 4) (m := h.1 22 6) (a := a) (a' := a') (N := N) hT x4 x7 hE hC hN haa N 0 0 (4294967287, 4294967287) (by omega) (Or.inl rfl)
  rw [Nat.zero_mul] at h1
  have h2 : phi (rng (fbG h a N) 0 ((1 + h.1 22 6) ^ N) (4294967287, 4294967287)) = srch (h.1 24) (h.1 22 4) (h.1 22 6) (h.1 25) a' N (h.1 28) 1 0 (4294967295, 1) := h1
  have h3 := srch_fst (E := h.1 24) (n := h.1 22 4) (m := h.1 22 6) (a := a') x7 N (h.1 28) 1 0 (4294967295, 1) (Or.inl rfl) (by omega)
  have h4 := mxW_le (E := h.1 24) (n := h.1 22 4) (m := h.1 22 6) (a := a') x7 N (h.1 28)
  have h5 : mxo 4294967295 (0 + mxW (h.1 24) (h.1 22 4) (h.1 22 6) (h.1 25) a' N (h.1 28)) = 0 + mxW (h.1 24) (h.1 22 4) (h.1 22 6) (h.1 25) a' N (h.1 28) := if_pos (decide_eq_true (Or.inl rfl))
  generalize rng (fbG h a N) 0 ((1 + h.1 22 6) ^ N) (4294967287, 4294967287) = b at h2 ⊢
  unfold phi at h2
  split at h2
  · rw [← h2] at h3
    rw [h5] at h3
    have h6 : (4294967295 : Nat) = 0 + mxW (h.1 24) (h.1 22 4) (h.1 22 6) (h.1 25) a' N (h.1 28) := h3
    omega
  · exact h2
theorem haa_best {h : Hp} (hm : MI h) : ∀ c, c < h.1 22 6 → (bt 31 c = 0 ↔ bt 15 (h.1 25 (3 * c + 2)) = 0) := by
  intro c hc
  have h5 := hm.2.1
  have ho := hm.2.2.2.2.2.1 c
  have k1 : ∀ c, c < 5 → ¬ bt 31 c = 0 := by decide +kernel
  have k2 : ∀ c, c < 4 → ¬ bt 15 c = 0 := by decide +kernel
  exact ⟨fun q => absurd q (k1 c (by omega)), fun q => absurd q (k2 _ ho)⟩
theorem rng_w {h : Hp} (hm : MI h) {a N : Nat} (hN : N ≤ 5) : (rng (fbG h a N) 0 ((1 + h.1 22 6) ^ N) (4294967287, 4294967287)).1 = mxW (h.1 24) (h.1 22 4) (h.1 22 6) (h.1 25) (clsOf (h.1 25) a (h.1 22 6)) N (h.1 28) := by
  have x7 := hm.2.2.2.2.1
  rw [rng_srch hm hN (a' := clsOf (h.1 25) a (h.1 22 6)) (fun c hc => by rw [cls_bt]; exact ⟨fun q => q hc, fun q _ => q⟩), srch_fst x7 N _ _ _ _ (Or.inl rfl) (by omega)]
  have h5 : mxo 4294967295 (0 + mxW (h.1 24) (h.1 22 4) (h.1 22 6) (h.1 25) (clsOf (h.1 25) a (h.1 22 6)) N (h.1 28)) = 0 + mxW (h.1 24) (h.1 22 4) (h.1 22 6) (h.1 25) (clsOf (h.1 25) a (h.1 22 6)) N (h.1 28) := if_pos (decide_eq_true (Or.inl rfl))
  rw [h5, Nat.zero_add]
theorem fbT_ok {h : Hp} (hm : MI h) (a N R : Nat) : TI (fbT h a N R) := by
  obtain ⟨hE, hC, x4, x5, x7, x8, hT, hT9⟩ := id hm
  cases R with
  | zero => exact hT9
  | succ R => exact (pS_ok hT x4 x7 hE hC N R).1
theorem MI_fbR {h : Hp} (hm : MI h) (a N : Nat) : MI (fbR h a N) := MI_fb hm (fbT_ok hm a N _) _
def shM (h : Hp) : Nat → Hp
  | 0 => h
  | t + 1 => sR (fbR (shM h t) t 2) 36 (up ((fbR (shM h t) t 2).1 36) t ((fbR (shM h t) t 2).1 22 25))
/-- what a reference's search leaves as it was -/
def KpM (h g : Hp) : Prop := (∀ q, q ≠ 22 → q ≠ 29 → q ≠ 36 → g.1 q = h.1 q) ∧ (∀ o, o ≠ 25 → o ≠ 26 → g.1 22 o = h.1 22 o) ∧ g.2 = h.2 ∧ MI g
theorem KpM_tr {h g e : Hp} (h1 : KpM h g) (h2 : KpM g e) : KpM h e := ⟨fun q a b c => (h2.1 q a b c).trans (h1.1 q a b c), fun o a b => (h2.2.1 o a b).trans (h1.2.1 o a b), h2.2.2.1.trans h1.2.2.1, h2.2.2.2⟩
theorem fbR_kp {h : Hp} (hm : MI h) (a N : Nat) : KpM h (fbR h a N) := by
  refine ⟨fun q a b c => ?_, fun o a b => ?_, rfl, MI_fbR hm a N⟩
  · unfold fbR fbH
    rw [sR_n a, sR_n b]
  · unfold fbR fbH
    rw [sR_s, up_n b, up_n a]
theorem shM_kp {h : Hp} (hm : MI h) : ∀ t, KpM h (shM h t)
  | 0 => ⟨fun _ _ _ _ => rfl, fun _ _ _ => rfl, rfl, hm⟩
  | t + 1 => by
    have ih := shM_kp hm t
    have h1 := KpM_tr ih (fbR_kp ih.2.2.2 t 2)
    refine KpM_tr h1 ⟨fun q a b c => sR_n c, fun o a b => rfl, rfl, ?_⟩
    exact h1.2.2.2
theorem shM_v {h : Hp} (hm : MI h) : ∀ t s, s < t → (shM h t).1 36 s = mxW (h.1 24) (h.1 22 4) (h.1 22 6) (h.1 25) (clsOf (h.1 25) s (h.1 22 6)) 2 (h.1 28)
  | t + 1, s, hs => by
    have ih := shM_kp hm t
    show up ((fbR (shM h t) t 2).1 36) t ((fbR (shM h t) t 2).1 22 25) s = _
    by_cases q : s = t
    · rw [q, up_s]
      show (rng (fbG (shM h t) t 2) 0 ((1 + (shM h t).1 22 6) ^ 2) (4294967287, 4294967287)).1 = _
      rw [rng_w ih.2.2.2 (by decide), ih.1 24 (by decide) (by decide) (by decide), ih.1 25 (by decide) (by decide) (by decide), ih.1 28 (by decide) (by decide) (by decide), ih.2.1 4 (by decide) (by decide), ih.2.1 6 (by decide) (by decide)]
    · rw [up_n q]
      exact shM_v hm t s (by omega)
theorem man_popc : ∀ t, t < 16 → manN t 8 = popc t := by decide +kernel
section X9h
variable {V : Vt} {h : Hp}
theorem c_X9_best_bad {a r : Nat} (h0 : h.1 22 0 = 0) (ha : a < 2 ^ 32) (hn : ¬ (1 ≤ a ∧ a ≤ 5)) : Rti V 5 yX9_best cX9_best 3 (some .int) [rf V 22, .int (nI a), .int (nI r)] h (nI 4294967294) h := by
  have e1 : (if (1 : Int64) ≤ (nI a).toInt64 ∧ (nI a).toInt64 ≤ 5 then 1 else 0) = 0 := if_neg (fun q => hn ((in_c (n := a) (a := 1) (b := 5) ha (by decide) (by decide) rfl rfl).mp q))
  refine Mt_in [some (rf V 22), some (.int (nI a)), some (.int (nI r))] (own := RX9) rfl (by decide) (Nat.le_of_ble_eq_true rfl) (fun q hq => hq) ?_
  refine g_aload_n0 1 rfl dX9_best_0 ?_
  refine g_iconst (v := 0) 2 rfl dX9_best_1 (by decide) ?_
  refine gp_Model_thrown 5 rfl fl_RX9_53 dX9_best_2 ?_
  rw [thr0 h0]
  refine g_iload_n1 6 rfl dX9_best_5 ?_
  refine g_i2l 7 rfl dX9_best_6 ?_
  refine g_lconst (v := 1) 8 rfl dX9_best_7 rfl ?_
  refine g_ldc2 11 rfl kl_RX9_166 dX9_best_8 ?_
  refine g_cs3i 14 rfl cw_RX9_60 dX9_best_11 (c_X9_in) (by omega) (Nat.le_of_ble_eq_true rfl) ?_
  rw [e1]
  refine gn_if_ne 20 (by decide) 17 rfl dX9_best_14 (by omega) (fun c14 => absurd rfl c14) (fun c14 => ?_)
  refine g_bipush (v := 4294967294) 19 rfl dX9_best_17 (by decide) ?_
  refine g_iret .int dX9_best_19 rfl (rfl) ?_
  exact ⟨rfl, rfl⟩
theorem c_X9_best_ok {a r : Nat} (h0 : h.1 22 0 = 0) (hm : MI h) (h1 : 1 ≤ a) (h5 : a ≤ 5) (hr : r < 2) : Rti V 5 yX9_best cX9_best 3 (some .int) [rf V 22, .int (nI a), .int (nI r)] h (nI (if r = 0 then (srch (h.1 24) (h.1 22 4) (h.1 22 6) (h.1 25) 31 a (h.1 28) 1 0 (4294967295, 1)).1 else (srch (h.1 24) (h.1 22 4) (h.1 22 6) (h.1 25) 31 a (h.1 28) 1 0 (4294967295, 1)).2)) (fbR h 15 a) := by
  have e1 : (if (1 : Int64) ≤ (nI a).toInt64 ∧ (nI a).toInt64 ≤ 5 then 1 else 0) = 1 := if_pos ((in_c (n := a) (a := 1) (b := 5) (by omega) (by decide) (by decide) rfl rfl).mpr ⟨h1, h5⟩)
  have er := rng_srch hm (a := 15) (a' := 31) h5 (haa_best hm)
  rw [← er]
  refine Mt_in [some (rf V 22), some (.int (nI a)), some (.int (nI r))] (own := RX9) rfl (by decide) (Nat.le_of_ble_eq_true rfl) (fun q hq => hq) ?_
  refine g_aload_n0 1 rfl dX9_best_0 ?_
  refine g_iconst (v := 0) 2 rfl dX9_best_1 (by decide) ?_
  refine gp_Model_thrown 5 rfl fl_RX9_53 dX9_best_2 ?_
  rw [thr0 h0]
  refine g_iload_n1 6 rfl dX9_best_5 ?_
  refine g_i2l 7 rfl dX9_best_6 ?_
  refine g_lconst (v := 1) 8 rfl dX9_best_7 rfl ?_
  refine g_ldc2 11 rfl kl_RX9_166 dX9_best_8 ?_
  refine g_cs3i 14 rfl cw_RX9_60 dX9_best_11 (c_X9_in) (by omega) (Nat.le_of_ble_eq_true rfl) ?_
  rw [e1]
  refine gn_if_ne 20 (by decide) 17 rfl dX9_best_14 (by omega) (fun c14 => ?_) (fun c14 => absurd c14 (by decide))
  refine g_aload_n0 21 rfl dX9_best_20 ?_
  refine g_iload_n1 22 rfl dX9_best_21 ?_
  refine g_bipush (v := 15) 24 rfl dX9_best_22 (by decide) ?_
  refine g_cv2v 27 rfl cw_RX9_168 dX9_best_24 (c_X9_findBest hm (by decide) h1 h5) (by omega) (ob_22 V) (Nat.le_of_ble_eq_true rfl) ?_
  refine g_iload_n2 28 rfl dX9_best_27 ?_
  refine gn_if_eq 38 (by decide) 31 rfl dX9_best_28 (by omega) (fun c28 => ?_) (fun c28 => ?_)
  · refine g_aload_n0 39 rfl dX9_best_38 ?_
    refine gf_Model_bestWorth 42 rfl fl_RX9_157 dX9_best_39 ?_
    refine g_iret .int dX9_best_42 rfl (rfl) ?_
    first | (rw [if_pos c28]; exact ⟨rfl, rfl⟩) | (rw [if_neg c28]; exact ⟨rfl, rfl⟩)
  · refine g_aload_n0 32 rfl dX9_best_31 ?_
    refine gf_Model_bestRow 35 rfl fl_RX9_160 dX9_best_32 ?_
    refine g_goto 42 (by decide) dX9_best_35 ?_
    refine g_iret .int dX9_best_42 rfl (rfl) ?_
    first | (rw [if_pos c28]; exact ⟨rfl, rfl⟩) | (rw [if_neg c28]; exact ⟨rfl, rfl⟩)
theorem c_X9_share_u {a u : Nat} (h0 : h.1 22 0 = 0) (hm : MI h) (ha : a < 2 ^ 32) (hn : ¬ a < h.1 22 4) : Rti V 5 yX9_share cX9_share 6 (some .int) [rf V 22, .int (nI a), .int (nI u)] h (nI 4294967295) h := by
  have h01 : (if a < h.1 22 4 then 0 else 1) = 1 := if_neg hn
  refine Mt_in [some (rf V 22), some (.int (nI a)), some (.int (nI u)), none, none, none] (own := RX9) rfl (by decide) (Nat.le_of_ble_eq_true rfl) (fun q hq => hq) ?_
  refine g_aload_n0 1 rfl dX9_share_0 ?_
  refine g_iconst (v := 0) 2 rfl dX9_share_1 (by decide) ?_
  refine gp_Model_thrown 5 rfl fl_RX9_53 dX9_share_2 ?_
  rw [thr0 h0]
  refine g_aload_n0 6 rfl dX9_share_5 ?_
  refine g_iload_n1 7 rfl dX9_share_6 ?_
  refine g_cv1i 10 rfl cw_RX9_128 dX9_share_7 (c_X9_noEnvoy hm.1 ha) (by omega) (ob_22 V) (Nat.le_of_ble_eq_true rfl) ?_
  rw [h01]
  refine gn_if_eq 15 (by decide) 13 rfl dX9_share_10 (by omega) (fun c10 => absurd c10 (by decide)) (fun c10 => ?_)
  refine g_iconst (v := 4294967295) 14 rfl dX9_share_13 (by decide) ?_
  refine g_iret .int dX9_share_14 rfl (rfl) ?_
  exact ⟨rfl, rfl⟩
theorem c_X9_share_ok {a u : Nat} (h0 : h.1 22 0 = 0) (hm : MI h) (hn : a < h.1 22 4) (hu : u < 2) : Rti V 5 yX9_share cX9_share 6 (some .int) [rf V 22, .int (nI a), .int (nI u)] h (nI (frV (shS (h.1 24) (h.1 22 4) (h.1 22 6) (h.1 25) (h.1 28) a (1 * 2 ^ h.1 22 4)) (fac (h.1 22 4)) u)) (shM h (1 * 2 ^ h.1 22 4)) := by
  have h01 : (if a < h.1 22 4 then 0 else 1) = 0 := if_pos hn
  obtain ⟨hE, hC, x4, x5, x7, x8, hT, hT9⟩ := id hm
  have h16 : 1 * 2 ^ h.1 22 4 ≤ 16 := by rw [Nat.one_mul]; exact Nat.pow_le_pow_right (by decide) hE
  have hfl := fac_le (h.1 22 4) hE
  have hfp := fac_pos (h.1 22 4) hE
  have hkE := shM_kp hm (1 * 2 ^ h.1 22 4)
  have hvE := shM_v hm (1 * 2 ^ h.1 22 4)
  have e4E := hkE.2.1 4 (by decide) (by decide)
  have K : G V T0 5 RX9 cX9_share 6 (some .int) 54 [some (rf V 22), some (.int (nI a)), some (.int (nI u)), some (.int (nI 0)), some (.int (nI 0)), none] [] (shM h (1 * 2 ^ h.1 22 4)) (fun v g => v = some (.int (nI (frV (shS (h.1 24) (h.1 22 4) (h.1 22 6) (h.1 25) (h.1 28) a (1 * 2 ^ h.1 22 4)) (fac (h.1 22 4)) u))) ∧ g = shM h (1 * 2 ^ h.1 22 4)) := by
    refine loop_up (P := fun t => G V T0 5 RX9 cX9_share 6 (some .int) 54 [some (rf V 22), some (.int (nI a)), some (.int (nI u)), some (.int (nI (shS (h.1 24) (h.1 22 4) (h.1 22 6) (h.1 25) (h.1 28) a t))), some (.int (nI t)), none] [] (shM h (1 * 2 ^ h.1 22 4)) _) (n := 1 * 2 ^ h.1 22 4) ?_ (fun t ht ih => ?_) 0 (Nat.zero_le _)
    · have hsl := shS_le (E := h.1 24) (T := h.1 28) (m := h.1 22 6) (e := a) x7 hE (1 * 2 ^ h.1 22 4) h16
      refine g_iload4 56 rfl dX9_share_54 ?_
      refine g_iconst (v := 1) 57 rfl dX9_share_56 (by decide) ?_
      refine g_aload_n0 58 rfl dX9_share_57 ?_
      refine gf_Model_envoys 61 rfl fl_RX9_57 dX9_share_58 ?_
      rw [e4E]
      refine gn_ishl 62 rfl dX9_share_61 (by omega) ?_
      refine gn_icmp_ge 128 (by decide) 65 rfl dX9_share_62 (by omega) (by omega) (fun c62 => ?_) (fun c62 => absurd c62 (Nat.lt_irrefl _))
      refine g_iload_n3 129 rfl dX9_share_128 ?_
      refine g_aload_n0 130 rfl dX9_share_129 ?_
      refine gf_Model_envoys 133 rfl fl_RX9_57 dX9_share_130 ?_
      rw [e4E]
      refine g_cs1i 136 rfl cw_RX9_188 dX9_share_133 (c_X9_ways (by omega)) (by omega) (Nat.le_of_ble_eq_true rfl) ?_
      refine g_iload_n2 137 rfl dX9_share_136 ?_
      refine g_cs3i 140 rfl cw_RX9_191 dX9_share_137 (c_X9_fraction (by omega) (by omega) hfp hu) (by omega) (Nat.le_of_ble_eq_true rfl) ?_
      refine g_iret .int dX9_share_140 rfl (rfl) ?_
      exact ⟨rfl, rfl⟩
    · have hpw : 1 * 2 ^ h.1 22 4 = 2 ^ h.1 22 4 := Nat.one_mul _
      have hor : t ||| 1 * 2 ^ a < 1 * 2 ^ h.1 22 4 := by
        rw [hpw] at ht ⊢
        refine Nat.or_lt_two_pow ht ?_
        rw [Nat.one_mul]
        exact Nat.pow_lt_pow_right (by decide) hn
      have v0 := hvE t ht
      have v1 := hvE _ hor
      have hmp := man_popc t (by omega)
      refine g_iload4 56 rfl dX9_share_54 ?_
      refine g_iconst (v := 1) 57 rfl dX9_share_56 (by decide) ?_
      refine g_aload_n0 58 rfl dX9_share_57 ?_
      refine gf_Model_envoys 61 rfl fl_RX9_57 dX9_share_58 ?_
      rw [e4E]
      refine gn_ishl 62 rfl dX9_share_61 (by omega) ?_
      refine gn_icmp_ge 128 (by decide) 65 rfl dX9_share_62 (by omega) (by omega) (fun c62 => absurd c62 (Nat.not_le_of_lt ht)) (fun c62 => ?_)
      refine g_iload4 67 rfl dX9_share_65 ?_
      refine g_iload_n1 68 rfl dX9_share_67 ?_
      refine g_cs2i 71 rfl cw_RX9_110 dX9_share_68 (c_X9_has (by omega) (by omega)) (by omega) (Nat.le_of_ble_eq_true rfl) ?_
      refine gn_if_ne 122 (by decide) 74 rfl dX9_share_71 (Nat.lt_of_lt_of_le (bt_lt _ _) (by omega)) (fun c71 => ?_) (fun c71 => ?_)
      · refine gn_iinc4 1 125 rfl dX9_share_122 rfl (by decide) rfl ?_
        refine g_goto 54 (by decide) dX9_share_125 ?_
        first
        | (rw [show shS _ _ _ _ _ _ (t + 1) = _ from if_neg c71] at ih; exact ih)
        | (rw [show shS _ _ _ _ _ _ (t + 1) = _ from if_pos c71] at ih
           rw [show h.1 22 4 - 1 - popc t = h.1 22 4 - popc t - 1 by omega]
           refine g_none 5 ?_
           exact ih)
      · refine g_iload4 76 rfl dX9_share_74 ?_
        refine g_cs1i 79 rfl cw_RX9_185 dX9_share_76 (c_X9_many (by omega)) (by omega) (Nat.le_of_ble_eq_true rfl) ?_
        rw [hmp]
        refine g_istore5 81 rfl dX9_share_79 (by decide) rfl ?_
        have hpl := popc_lt (h.1 22 4) hE t (by omega) a hn c71
        refine g_iload_n3 82 rfl dX9_share_81 ?_
        refine g_iload5 84 rfl dX9_share_82 ?_
        refine g_cs1i 87 rfl cw_RX9_188 dX9_share_84 (c_X9_ways (by omega)) (by omega) (Nat.le_of_ble_eq_true rfl) ?_
        refine g_aload_n0 88 rfl dX9_share_87 ?_
        refine gf_Model_envoys 91 rfl fl_RX9_57 dX9_share_88 ?_
        rw [e4E]
        refine g_iconst (v := 1) 92 rfl dX9_share_91 (by decide) ?_
        refine gn_isub 93 rfl dX9_share_92 (by omega) ?_
        refine g_iload5 95 rfl dX9_share_93 ?_
        refine gn_isub 96 rfl dX9_share_95 (by omega) ?_
        refine g_cs1i 99 rfl cw_RX9_188 dX9_share_96 (c_X9_ways (by omega)) (by omega) (Nat.le_of_ble_eq_true rfl) ?_
        refine gn_imul 100 rfl dX9_share_99 ?_
        refine g_aload_n0 101 rfl dX9_share_100 ?_
        refine gf_Model_value 104 rfl fl_RX9_50 dX9_share_101 ?_
        refine g_iload4 106 rfl dX9_share_104 ?_
        refine g_iconst (v := 1) 107 rfl dX9_share_106 (by decide) ?_
        refine g_iload_n1 108 rfl dX9_share_107 ?_
        refine gn_ishl 109 rfl dX9_share_108 (by omega) ?_
        refine gn_ior 110 rfl dX9_share_109 ?_
        refine ga_36 111 rfl (by omega) dX9_share_110 ?_
        rw [v1]
        refine g_aload_n0 112 rfl dX9_share_111 ?_
        refine gf_Model_value 115 rfl fl_RX9_50 dX9_share_112 ?_
        refine g_iload4 117 rfl dX9_share_115 ?_
        refine ga_36 118 rfl (by omega) dX9_share_117 ?_
        rw [v0]
        refine gn_isub 119 rfl dX9_share_118 (sh_mono) ?_
        refine gn_imul 120 rfl dX9_share_119 ?_
        refine gn_iadd 121 rfl dX9_share_120 ?_
        refine g_istore_n3 122 rfl dX9_share_121 (by decide) rfl ?_
        refine gn_iinc4 1 125 rfl dX9_share_122 rfl (by decide) rfl ?_
        refine g_goto 54 (by decide) dX9_share_125 ?_
        first
        | (rw [show shS _ _ _ _ _ _ (t + 1) = _ from if_neg c71] at ih; exact ih)
        | (rw [show shS _ _ _ _ _ _ (t + 1) = _ from if_pos c71] at ih
           rw [show h.1 22 4 - 1 - popc t = h.1 22 4 - popc t - 1 by omega]
           refine g_none 5 ?_
           exact ih)
  refine Mt_in [some (rf V 22), some (.int (nI a)), some (.int (nI u)), none, none, none] (own := RX9) rfl (by decide) (Nat.le_of_ble_eq_true rfl) (fun q hq => hq) ?_
  refine g_aload_n0 1 rfl dX9_share_0 ?_
  refine g_iconst (v := 0) 2 rfl dX9_share_1 (by decide) ?_
  refine gp_Model_thrown 5 rfl fl_RX9_53 dX9_share_2 ?_
  rw [thr0 h0]
  refine g_aload_n0 6 rfl dX9_share_5 ?_
  refine g_iload_n1 7 rfl dX9_share_6 ?_
  refine g_cv1i 10 rfl cw_RX9_128 dX9_share_7 (c_X9_noEnvoy hm.1 (by omega)) (by omega) (ob_22 V) (Nat.le_of_ble_eq_true rfl) ?_
  rw [h01]
  refine gn_if_eq 15 (by decide) 13 rfl dX9_share_10 (by omega) (fun c10 => ?_) (fun c10 => absurd rfl c10)
  refine g_iconst (v := 0) 16 rfl dX9_share_15 (by decide) ?_
  refine g_istore_n3 17 rfl dX9_share_16 (by decide) rfl ?_
  skip
  refine loop_up (P := fun t => G V T0 5 RX9 cX9_share 6 (some .int) 17 [some (rf V 22), some (.int (nI a)), some (.int (nI u)), some (.int (nI t)), none, none] [] (shM h t) _) (n := 1 * 2 ^ h.1 22 4) ?_ (fun t ht ih => ?_) 0 (Nat.zero_le _)
  · refine g_iload_n3 18 rfl dX9_share_17 ?_
    refine g_iconst (v := 1) 19 rfl dX9_share_18 (by decide) ?_
    refine g_aload_n0 20 rfl dX9_share_19 ?_
    refine gf_Model_envoys 23 rfl fl_RX9_57 dX9_share_20 ?_
    rw [e4E]
    refine gn_ishl 24 rfl dX9_share_23 (by omega) ?_
    refine gn_icmp_ge 49 (by decide) 27 rfl dX9_share_24 (by omega) (by omega) (fun c24 => ?_) (fun c24 => absurd c24 (Nat.lt_irrefl _))
    refine g_iconst (v := 0) 50 rfl dX9_share_49 (by decide) ?_
    refine g_istore_n3 51 rfl dX9_share_50 (by decide) rfl ?_
    refine g_iconst (v := 0) 52 rfl dX9_share_51 (by decide) ?_
    refine g_istore4 54 rfl dX9_share_52 (by decide) rfl ?_
    exact K
  · have hk := shM_kp hm t
    have e4 := hk.2.1 4 (by decide) (by decide)
    refine g_iload_n3 18 rfl dX9_share_17 ?_
    refine g_iconst (v := 1) 19 rfl dX9_share_18 (by decide) ?_
    refine g_aload_n0 20 rfl dX9_share_19 ?_
    refine gf_Model_envoys 23 rfl fl_RX9_57 dX9_share_20 ?_
    rw [e4]
    refine gn_ishl 24 rfl dX9_share_23 (by omega) ?_
    refine gn_icmp_ge 49 (by decide) 27 rfl dX9_share_24 (by omega) (by omega) (fun c24 => absurd c24 (Nat.not_le_of_lt ht)) (fun c24 => ?_)
    refine g_aload_n0 28 rfl dX9_share_27 ?_
    refine g_iconst (v := 2) 29 rfl dX9_share_28 (by decide) ?_
    refine g_iload_n3 30 rfl dX9_share_29 ?_
    refine g_cv2v 33 rfl cw_RX9_168 dX9_share_30 (c_X9_findBest hk.2.2.2 (by omega) (by decide) (by decide)) (by omega) (ob_22 V) (Nat.le_of_ble_eq_true rfl) ?_
    refine g_aload_n0 34 rfl dX9_share_33 ?_
    refine gf_Model_value 37 rfl fl_RX9_50 dX9_share_34 ?_
    refine g_iload_n3 38 rfl dX9_share_37 ?_
    refine g_aload_n0 39 rfl dX9_share_38 ?_
    refine gf_Model_bestWorth 42 rfl fl_RX9_157 dX9_share_39 ?_
    refine gs_36 43 rfl (by omega) dX9_share_42 ?_
    refine gn_iinc3 1 46 rfl dX9_share_43 rfl (by decide) rfl ?_
    refine g_goto 17 (by decide) dX9_share_46 ?_
    exact ih
end X9h
