/-! the reference: findBest, best, share -/
def fbH (h : Hp) (X : Nat → Nat) (b : Nat × Nat) : Hp := sR (sR h 29 X) 22 (up (up (h.1 22) 25 b.1) 26 b.2)
theorem fbH_29 (h : Hp) (X Y : Nat → Nat) (b : Nat × Nat) : sR (fbH h X b) 29 Y = fbH h Y b := by
  unfold fbH
  rw [sR_c _ (by decide), sR_sR]
theorem fbH_at (h : Hp) (X : Nat → Nat) (b : Nat × Nat) : (fbH h X b).1 29 = X := rfl
theorem fbH_24 (h : Hp) (X : Nat → Nat) (b : Nat × Nat) : (fbH h X b).1 24 = h.1 24 := rfl
theorem fbH_25 (h : Hp) (X : Nat → Nat) (b : Nat × Nat) : (fbH h X b).1 25 = h.1 25 := rfl
theorem fbH_28 (h : Hp) (X : Nat → Nat) (b : Nat × Nat) : (fbH h X b).1 28 = h.1 28 := rfl
theorem fbH_e (h : Hp) (X : Nat → Nat) (b : Nat × Nat) : (fbH h X b).1 22 4 = h.1 22 4 := rfl
theorem fbH_c (h : Hp) (X : Nat → Nat) (b : Nat × Nat) : (fbH h X b).1 22 6 = h.1 22 6 := rfl
theorem fbH_w (h : Hp) (X : Nat → Nat) (b : Nat × Nat) : (fbH h X b).1 22 25 = b.1 := rfl
theorem fbH_r (h : Hp) (X : Nat → Nat) (b : Nat × Nat) : (fbH h X b).1 22 26 = b.2 := rfl
theorem MI_fb {h : Hp} (hm : MI h) {X : Nat → Nat} (hX : TI X) (b : Nat × Nat) : MI (fbH h X b) := by
  obtain ⟨a1, a2, a3, a4, a5, a6, a7, a8⟩ := hm
  exact ⟨a1, a2, a3, a4, a5, a6, a7, hX⟩
theorem decm (k : Nat) : nI k + Int32.ofInt (-1) = nI (dec1 k) := by
  rw [← dec1_nI, Int32.sub_eq_add_neg]
  rfl
def fbG (h : Hp) (a N : Nat) : Nat → Fs := pS (h.1 24) (h.1 22 4) (h.1 22 6) (h.1 25) a (h.1 28) N
def fbT (h : Hp) (a N : Nat) : Nat → Nat → Nat
  | 0 => h.1 29
  | R + 1 => (fbG h a N R).1
def fbR (h : Hp) (a N : Nat) : Hp := fbH h (fbT h a N ((1 + h.1 22 6) ^ N)) (rng (fbG h a N) 0 ((1 + h.1 22 6) ^ N) (4294967287, 4294967287))
section X9g
variable {V : Vt} {h : Hp}
theorem c_X9_findBest {a N : Nat} (hm : MI h) (ha : a < 2 ^ 31) (h1 : 1 ≤ N) (h5 : N ≤ 5) : Rtv V 4 yX9_findBest cX9_findBest 9 none [rf V 22, .int (nI N), .int (nI a)] h (fbR h a N) := by
  obtain ⟨hE, hC, x4, x5, x7, x8, hT, hT9⟩ := id hm
  have hpow : ∀ k, k ≤ 5 → (1 + h.1 22 6) ^ k ≤ 7776 := fun k hk => Nat.le_trans (Nat.pow_le_pow_left (show 1 + h.1 22 6 ≤ 6 by omega) k) (Nat.le_trans (Nat.pow_le_pow_right (by decide) hk) (by decide))
  have hpos : ∀ k, 0 < (1 + h.1 22 6) ^ k := fun k => Nat.pow_pos (by omega)
  have hok := pS_ok (E := h.1 24) (C := h.1 25) (T := h.1 28) (n := h.1 22 4) (m := h.1 22 6) (a := a) hT x4 x7 hE hC
  have hgb : ∀ R, ((rng (fbG h a N) 0 R (4294967287, 4294967287)).1 = 4294967287 ∨ (rng (fbG h a N) 0 R (4294967287, 4294967287)).1 < 2 ^ 31) := fun R => rng_b (fun q => by have := (hok N q).2; show (pS _ _ _ _ _ _ N q).2.2.1 < _; omega) R _ (Or.inl rfl)
  refine Mt_in [some (rf V 22), some (.int (nI N)), some (.int (nI a)), none, none, none, none, none, none] (own := RX9) rfl (by decide) (Nat.le_of_ble_eq_true rfl) (fun q hq => hq) ?_
  refine g_aload_n0 1 rfl dX9_findBest_0 ?_
  refine g_bipush (v := 4294967287) 3 rfl dX9_findBest_1 (by decide) ?_
  refine gp_Model_bestWorth 6 rfl fl_RX9_157 dX9_findBest_3 ?_
  refine g_aload_n0 7 rfl dX9_findBest_6 ?_
  refine g_bipush (v := 4294967287) 9 rfl dX9_findBest_7 (by decide) ?_
  refine gp_Model_bestRow 12 rfl fl_RX9_160 dX9_findBest_9 ?_
  rw [sR_s, sR_sR]
  refine g_iconst (v := 0) 13 rfl dX9_findBest_12 (by decide) ?_
  refine g_istore_n3 14 rfl dX9_findBest_13 (by decide) rfl ?_
  skip
  refine g_heap (show sR h 22 (up (up (h.1 22) 25 4294967287) 26 4294967287) = fbH h (fbT h a N 0) (rng (fbG h a N) 0 0 (4294967287, 4294967287)) from by unfold fbH fbT; rw [sR_same]; rfl) ?_
  refine loop_up (P := fun R => G V T0 4 RX9 cX9_findBest 9 none 14 [some (rf V 22), some (.int (nI N)), some (.int (nI a)), some (.int (nI R)), none, none, none, none, none] [] (fbH h (fbT h a N R) (rng (fbG h a N) 0 R (4294967287, 4294967287))) _) (n := (1 + h.1 22 6) ^ N) ?_ (fun R hR ih => ?_) 0 (Nat.zero_le _)
  · have hp := hpow N h5
    refine g_iload_n3 15 rfl dX9_findBest_14 ?_
    refine g_iconst (v := 1) 16 rfl dX9_findBest_15 (by decide) ?_
    refine g_aload_n0 17 rfl dX9_findBest_16 ?_
    refine gf_Model_clauses 20 rfl fl_RX9_64 dX9_findBest_17 ?_
    rw [fbH_c]
    refine gn_iadd 21 rfl dX9_findBest_20 ?_
    refine g_iload_n1 22 rfl dX9_findBest_21 ?_
    refine g_cs2i 25 rfl cw_RX9_163 dX9_findBest_22 (c_X9_power (by omega)) (by omega) (Nat.le_of_ble_eq_true rfl) ?_
    refine gn_icmp_ge 211 (by decide) 28 rfl dX9_findBest_25 (by omega) (by omega) (fun c25 => ?_) (fun c25 => absurd c25 (Nat.lt_irrefl _))
    refine g_vret dX9_findBest_211 rfl ?_
    exact ⟨rfl, rfl⟩
  · have hp := hpow N h5
    have hTt : TI (fbT h a N R) := by
      cases R with
      | zero => exact hT9
      | succ R => exact (hok N R).1
    have ih : G V T0 4 RX9 cX9_findBest 9 none 14 [some (rf V 22), some (.int (nI N)), some (.int (nI a)), some (.int (nI (R + 1))), none, none, none, none, none] [] (fbH h (fbG h a N R).1 (fbU (fbG h a N R) (rng (fbG h a N) 0 R (4294967287, 4294967287)))) (fun v g => v = none ∧ g = fbR h a N) := by
      have z := ih
      rw [show rng (fbG h a N) 0 (R + 1) (4294967287, 4294967287) = fbU (fbG h a N (0 + R)) (rng (fbG h a N) 0 R (4294967287, 4294967287)) from rfl, Nat.zero_add] at z
      exact z
    have hb := hgb R
    refine g_iload_n3 15 rfl dX9_findBest_14 ?_
    refine g_iconst (v := 1) 16 rfl dX9_findBest_15 (by decide) ?_
    refine g_aload_n0 17 rfl dX9_findBest_16 ?_
    refine gf_Model_clauses 20 rfl fl_RX9_64 dX9_findBest_17 ?_
    rw [fbH_c]
    refine gn_iadd 21 rfl dX9_findBest_20 ?_
    refine g_iload_n1 22 rfl dX9_findBest_21 ?_
    refine g_cs2i 25 rfl cw_RX9_163 dX9_findBest_22 (c_X9_power (by omega)) (by omega) (Nat.le_of_ble_eq_true rfl) ?_
    refine gn_icmp_ge 211 (by decide) 28 rfl dX9_findBest_25 (by omega) (by omega) (fun c25 => absurd c25 (Nat.not_le_of_lt hR)) (fun c25 => ?_)
    refine g_aload_n0 29 rfl dX9_findBest_28 ?_
    refine g_cv0v 32 rfl cw_RX9_151 dX9_findBest_29 (c_X9_begin (MI_fb hm hTt _)) (by omega) (ob_22 V) (Nat.le_of_ble_eq_true rfl) ?_
    rw [fbH_29, fbH_28]
    refine g_iconst (v := 1) 33 rfl dX9_findBest_32 (by decide) ?_
    refine g_istore4 35 rfl dX9_findBest_33 (by decide) rfl ?_
    refine g_iconst (v := 0) 36 rfl dX9_findBest_35 (by decide) ?_
    refine g_istore5 38 rfl dX9_findBest_36 (by decide) rfl ?_
    refine g_iconst (v := 1) 39 rfl dX9_findBest_38 (by decide) ?_
    refine g_istore6 41 rfl dX9_findBest_39 (by decide) rfl ?_
    refine g_iload_n1 42 rfl dX9_findBest_41 ?_
    refine g_iconst (v := 1) 43 rfl dX9_findBest_42 (by decide) ?_
    refine gn_isub 44 rfl dX9_findBest_43 (by omega) ?_
    refine g_istore7 46 rfl dX9_findBest_44 (by decide) rfl ?_
    skip
    generalize rng (fbG h a N) 0 R (4294967287, 4294967287) = b at hb ih ⊢
    have hX : ∀ s : Fs, s = fbG h a N R → s.2.2.1 < 2 ^ 31 → ∀ kk z, G V T0 4 RX9 cX9_findBest 9 none 179 [some (rf V 22), some (.int (nI N)), some (.int (nI a)), some (.int (nI R)), some (.int (nI s.2.1)), some (.int (nI s.2.2.1)), some (.int (nI s.2.2.2.toNat)), kk, z] [] (fbH h s.1 b) (fun v g => v = none ∧ g = fbR h a N) := by
      intro s hs hw kk z
      subst hs
      have hg := gt9_le hw hb
      cases ho : (fbG h a N R).2.2.2 with
      | false =>
        have e : fbU (fbG h a N R) b = b := by unfold fbU; rw [ho, Bool.false_and]; exact if_neg (by decide)
        rw [e] at ih
        refine g_iload6 181 rfl dX9_findBest_179 ?_
        refine gn_if_eq 205 (by decide) 184 rfl dX9_findBest_181 (by decide) (fun c181 => ?_) (fun c181 => absurd rfl c181)
        refine gn_iinc3 1 208 rfl dX9_findBest_205 rfl (by decide) rfl ?_
        refine g_goto 14 (by decide) dX9_findBest_208 ?_
        refine g_none 4 (g_none 5 (g_none 6 (g_none 7 (g_none 8 ?_))))
        exact ih
      | true =>
        refine g_iload6 181 rfl dX9_findBest_179 ?_
        refine gn_if_eq 205 (by decide) 184 rfl dX9_findBest_181 (by decide) (fun c181 => absurd c181 (by decide)) (fun c181 => ?_)
        refine g_iload5 186 rfl dX9_findBest_184 ?_
        refine g_aload_n0 187 rfl dX9_findBest_186 ?_
        refine gf_Model_bestWorth 190 rfl fl_RX9_157 dX9_findBest_187 ?_
        rw [fbH_w]
        refine g_icmp_le 205 (by decide) 193 rfl dX9_findBest_190 (fun c190 => ?_) (fun c190 => ?_)
        · refine gn_iinc3 1 208 rfl dX9_findBest_205 rfl (by decide) rfl ?_
          refine g_goto 14 (by decide) dX9_findBest_208 ?_
          refine g_none 4 (g_none 5 (g_none 6 (g_none 7 (g_none 8 ?_))))
          first
          | (have e : fbU (fbG h a N R) b = b := by unfold fbU; rw [ho, Bool.true_and, hg.1 c190]; exact if_neg (by decide)
             rw [e] at ih; exact ih)
          | (have e : fbU (fbG h a N R) b = ((fbG h a N R).2.2.1, (fbG h a N R).2.1) := by unfold fbU; rw [ho, Bool.true_and, hg.2 c190]; exact if_pos rfl
             rw [e] at ih
             refine g_heap ?_ ih
             unfold fbH
             rw [sR_s, sR_sR, sR_s, sR_sR]
             refine congrArg (sR _ 22) (funext fun j => ?_)
             simp only [up]
             grind)
        · refine g_aload_n0 194 rfl dX9_findBest_193 ?_
          refine g_iload5 196 rfl dX9_findBest_194 ?_
          refine gp_Model_bestWorth 199 rfl fl_RX9_157 dX9_findBest_196 ?_
          refine g_aload_n0 200 rfl dX9_findBest_199 ?_
          refine g_iload4 202 rfl dX9_findBest_200 ?_
          refine gp_Model_bestRow 205 rfl fl_RX9_160 dX9_findBest_202 ?_
          refine gn_iinc3 1 208 rfl dX9_findBest_205 rfl (by decide) rfl ?_
          refine g_goto 14 (by decide) dX9_findBest_208 ?_
          refine g_none 4 (g_none 5 (g_none 6 (g_none 7 (g_none 8 ?_))))
          first
          | (have e : fbU (fbG h a N R) b = b := by unfold fbU; rw [ho, Bool.true_and, hg.1 c190]; exact if_neg (by decide)
             rw [e] at ih; exact ih)
          | (have e : fbU (fbG h a N R) b = ((fbG h a N R).2.2.1, (fbG h a N R).2.1) := by unfold fbU; rw [ho, Bool.true_and, hg.2 c190]; exact if_pos rfl
             rw [e] at ih
             refine g_heap ?_ ih
             unfold fbH
             rw [sR_s, sR_sR, sR_s, sR_sR]
             refine congrArg (sR _ 22) (funext fun j => ?_)
             simp only [up]
             grind)
    clear ih
    have e0 : nI (N - 1) = nI (if 0 < N then N - 1 - 0 else 4294967295) := by rw [if_pos (show 0 < N by omega), Nat.sub_zero]
    rw [e0]
    refine loop_up (P := fun i => G V T0 4 RX9 cX9_findBest 9 none 46 [some (rf V 22), some (.int (nI N)), some (.int (nI a)), some (.int (nI R)), some (.int (nI (pS (h.1 24) (h.1 22 4) (h.1 22 6) (h.1 25) a (h.1 28) i (R / (1 + h.1 22 6) ^ (N - i))).2.1)), some (.int (nI (pS (h.1 24) (h.1 22 4) (h.1 22 6) (h.1 25) a (h.1 28) i (R / (1 + h.1 22 6) ^ (N - i))).2.2.1)), some (.int (nI (pS (h.1 24) (h.1 22 4) (h.1 22 6) (h.1 25) a (h.1 28) i (R / (1 + h.1 22 6) ^ (N - i))).2.2.2.toNat)), some (.int (nI (if i < N then N - 1 - i else 4294967295))), none] [] (fbH h (pS (h.1 24) (h.1 22 4) (h.1 22 6) (h.1 25) a (h.1 28) i (R / (1 + h.1 22 6) ^ (N - i))).1 b) (fun v g => v = none ∧ g = fbR h a N)) (n := N) ?_ (fun i hi ih2 => ?_) 0 (Nat.zero_le _)
    · rw [Nat.sub_self, Nat.pow_zero, Nat.div_one, if_neg (Nat.lt_irrefl N)]
      have hw := (hok N R).2
      refine g_iload7 48 rfl dX9_findBest_46 ?_
      refine g_if_lt 179 (by decide) 51 rfl dX9_findBest_48 (fun c48 => ?_) (fun c48 => absurd (nI_ng (by decide) (by decide)) c48)
      exact hX _ rfl (by show (pS _ _ _ _ _ _ N R).2.2.1 < _; omega) _ _
    · have hs := hok i (R / (1 + h.1 22 6) ^ (N - i))
      have hstay := pS_stay (E := h.1 24) (C := h.1 25) (T := h.1 28) (n := h.1 22 4) (m := h.1 22 6) (a := a) (i := i) (q := R / (1 + h.1 22 6) ^ (N - i)) (N - i) R rfl
      rw [show i + (N - i) = N by omega] at hstay
      have hq : R / (1 + h.1 22 6) ^ (N - (i + 1)) / (1 + h.1 22 6) = R / (1 + h.1 22 6) ^ (N - i) := by
        rw [Nat.div_div_eq_div_mul, ← Nat.pow_succ, show (N - (i + 1)).succ = N - i by omega]
      have hstep : pS (h.1 24) (h.1 22 4) (h.1 22 6) (h.1 25) a (h.1 28) (i + 1) (R / (1 + h.1 22 6) ^ (N - (i + 1))) = fbStep (h.1 24) (h.1 22 4) (h.1 22 6) (h.1 25) a (pS (h.1 24) (h.1 22 4) (h.1 22 6) (h.1 25) a (h.1 28) i (R / (1 + h.1 22 6) ^ (N - i))) (R / (1 + h.1 22 6) ^ (N - 1 - i) % (1 + h.1 22 6)) := by
        show fbStep _ _ _ _ _ (pS _ _ _ _ _ _ i (R / (1 + h.1 22 6) ^ (N - (i + 1)) / (1 + h.1 22 6))) (R / (1 + h.1 22 6) ^ (N - (i + 1)) % (1 + h.1 22 6)) = _
        rw [hq, show N - (i + 1) = N - 1 - i by omega]
      have hkk : (if i + 1 < N then N - 1 - (i + 1) else 4294967295) = dec1 (N - 1 - i) := by
        unfold dec1
        by_cases w : i + 1 < N
        · rw [if_pos w, if_neg (by omega)]; omega
        · rw [if_neg w, if_pos (by omega)]
      change G V T0 4 RX9 cX9_findBest 9 none 46 [some (rf V 22), some (.int (nI N)), some (.int (nI a)), some (.int (nI R)), some (.int (nI (pS (h.1 24) (h.1 22 4) (h.1 22 6) (h.1 25) a (h.1 28) (i + 1) (R / (1 + h.1 22 6) ^ (N - (i + 1)))).2.1)), some (.int (nI (pS (h.1 24) (h.1 22 4) (h.1 22 6) (h.1 25) a (h.1 28) (i + 1) (R / (1 + h.1 22 6) ^ (N - (i + 1)))).2.2.1)), some (.int (nI (pS (h.1 24) (h.1 22 4) (h.1 22 6) (h.1 25) a (h.1 28) (i + 1) (R / (1 + h.1 22 6) ^ (N - (i + 1)))).2.2.2.toNat)), some (.int (nI (if i + 1 < N then N - 1 - (i + 1) else 4294967295))), none] [] (fbH h (pS (h.1 24) (h.1 22 4) (h.1 22 6) (h.1 25) a (h.1 28) (i + 1) (R / (1 + h.1 22 6) ^ (N - (i + 1)))).1 b) _ at ih2
      rw [hstep, hkk] at ih2
      show G V T0 4 RX9 cX9_findBest 9 none 46 [some (rf V 22), some (.int (nI N)), some (.int (nI a)), some (.int (nI R)), some (.int (nI (pS (h.1 24) (h.1 22 4) (h.1 22 6) (h.1 25) a (h.1 28) i (R / (1 + h.1 22 6) ^ (N - i))).2.1)), some (.int (nI (pS (h.1 24) (h.1 22 4) (h.1 22 6) (h.1 25) a (h.1 28) i (R / (1 + h.1 22 6) ^ (N - i))).2.2.1)), some (.int (nI (pS (h.1 24) (h.1 22 4) (h.1 22 6) (h.1 25) a (h.1 28) i (R / (1 + h.1 22 6) ^ (N - i))).2.2.2.toNat)), some (.int (nI (if i < N then N - 1 - i else 4294967295))), none] [] (fbH h (pS (h.1 24) (h.1 22 4) (h.1 22 6) (h.1 25) a (h.1 28) i (R / (1 + h.1 22 6) ^ (N - i))).1 b) _
      rw [if_pos hi]
      clear hstep hkk hq
      have hX2 := hX (pS (h.1 24) (h.1 22 4) (h.1 22 6) (h.1 25) a (h.1 28) i (R / (1 + h.1 22 6) ^ (N - i)))
      generalize pS (h.1 24) (h.1 22 4) (h.1 22 6) (h.1 25) a (h.1 28) i (R / (1 + h.1 22 6) ^ (N - i)) = s at hs hstay ih2 hX2 ⊢
      obtain ⟨sT, sf, sw, so⟩ := s
      have hsT : TI sT := hs.1
      have hsw : sw ≤ 18 * i := hs.2
      have hm2 := MI_fb hm hsT b
      cases so with
      | false =>
        have e : fbG h a N R = (sT, sf, sw, false) := hstay rfl
        refine g_iload7 48 rfl dX9_findBest_46 ?_
        refine gn_if_lt 179 (by decide) 51 rfl dX9_findBest_48 (by omega) (fun c => c.elim) (fun _ => ?_)
        refine g_iload6 53 rfl dX9_findBest_51 ?_
        refine gn_if_eq 179 (by decide) 56 rfl dX9_findBest_53 (show false.toNat < 2 ^ 31 by decide) (fun c53 => ?_) (fun c53 => absurd rfl c53)
        exact hX2 e.symm (show sw < 2 ^ 31 by omega) _ _
      | true =>
        have hpk := hpow (N - 1 - i) (by omega)
        have hpk0 := hpos (N - 1 - i)
        have hdv : R / (1 + h.1 22 6) ^ (N - 1 - i) ≤ R := Nat.div_le_self _ _
        have hd : R / (1 + h.1 22 6) ^ (N - 1 - i) % (1 + h.1 22 6) < 1 + h.1 22 6 := Nat.mod_lt _ (by omega)
        refine g_iload7 48 rfl dX9_findBest_46 ?_
        refine gn_if_lt 179 (by decide) 51 rfl dX9_findBest_48 (by omega) (fun c => c.elim) (fun _ => ?_)
        refine g_iload6 53 rfl dX9_findBest_51 ?_
        refine gn_if_eq 179 (by decide) 56 rfl dX9_findBest_53 (show true.toNat < 2 ^ 31 by decide) (fun c53 => absurd c53 (show ¬ true.toNat = 0 by decide)) (fun c53 => ?_)
        refine g_iload_n3 57 rfl dX9_findBest_56 ?_
        refine g_iconst (v := 1) 58 rfl dX9_findBest_57 (by decide) ?_
        refine g_aload_n0 59 rfl dX9_findBest_58 ?_
        refine gf_Model_clauses 62 rfl fl_RX9_64 dX9_findBest_59 ?_
        rw [fbH_c]
        refine gn_iadd 63 rfl dX9_findBest_62 ?_
        refine g_iload7 65 rfl dX9_findBest_63 ?_
        refine g_cs2i 68 rfl cw_RX9_163 dX9_findBest_65 (c_X9_power (by omega)) (by omega) (Nat.le_of_ble_eq_true rfl) ?_
        refine gn_idiv 69 rfl dX9_findBest_68 (by omega) (by omega) (by omega) ?_
        refine g_iconst (v := 1) 70 rfl dX9_findBest_69 (by decide) ?_
        refine g_aload_n0 71 rfl dX9_findBest_70 ?_
        refine gf_Model_clauses 74 rfl fl_RX9_64 dX9_findBest_71 ?_
        rw [fbH_c]
        refine gn_iadd 75 rfl dX9_findBest_74 ?_
        refine gn_irem 76 rfl dX9_findBest_75 (by omega) (by omega) (by omega) ?_
        refine g_istore8 78 rfl dX9_findBest_76 (by decide) rfl ?_
        skip
        generalize R / (1 + h.1 22 6) ^ (N - 1 - i) % (1 + h.1 22 6) = d at hd ih2 ⊢
        have ho := x8 (d - 1)
        refine g_bipush (v := 10) 80 rfl dX9_findBest_78 (by decide) ?_
        refine g_iload4 82 rfl dX9_findBest_80 ?_
        refine gn_imul 83 rfl dX9_findBest_82 ?_
        refine g_iload8 85 rfl dX9_findBest_83 ?_
        refine gn_iadd 86 rfl dX9_findBest_85 ?_
        refine g_istore4 88 rfl dX9_findBest_86 (by decide) rfl ?_
        refine g_iload8 90 rfl dX9_findBest_88 ?_
        refine gn_if_ne 104 (by decide) 93 rfl dX9_findBest_90 (by omega) (fun c90 => ?_) (fun c90 => ?_)
        · refine g_aload_n0 105 rfl dX9_findBest_104 ?_
          refine g_aload_n0 106 rfl dX9_findBest_105 ?_
          refine gf_Model_trial 109 rfl fl_RX9_28 dX9_findBest_106 ?_
          refine g_iload8 111 rfl dX9_findBest_109 ?_
          refine g_iconst (v := 1) 112 rfl dX9_findBest_111 (by decide) ?_
          refine gn_isub 113 rfl dX9_findBest_112 (by omega) ?_
          refine g_cv2i 116 rfl cw_RX9_114 dX9_findBest_113 (c_X9_canSay_29 hm2 hm2.2.2.2.2.2.2.2 (show d - 1 < h.1 22 6 by omega)) (by omega) (ob_22 V) (Nat.le_of_ble_eq_true rfl) ?_
          rw [fbH_c, fbH_25, fbH_at]
          refine gn_if_eq 141 (by decide) 119 rfl dX9_findBest_116 (Nat.lt_of_lt_of_le (Bool.toNat_lt _) (by omega)) (fun c116 => ?_) (fun c116 => ?_)
          · refine g_iconst (v := 0) 142 rfl dX9_findBest_141 (by decide) ?_
            refine g_istore6 144 rfl dX9_findBest_142 (by decide) rfl ?_
            refine g_aload_n0 145 rfl dX9_findBest_144 ?_
            refine gf_Model_trial 148 rfl fl_RX9_28 dX9_findBest_145 ?_
            refine g_bipush (v := 8) 150 rfl dX9_findBest_148 (by decide) ?_
            refine g_dup2 151 rfl dX9_findBest_150 rfl rfl ?_
            refine ga_29 152 rfl (by omega) dX9_findBest_151 ?_
            rw [fbH_at]
            refine g_iconst (v := 1) 153 rfl dX9_findBest_152 (by decide) ?_
            refine g_iload8 155 rfl dX9_findBest_153 ?_
            refine g_iconst (v := 1) 156 rfl dX9_findBest_155 (by decide) ?_
            refine gn_isub 157 rfl dX9_findBest_156 (by omega) ?_
            refine gn_ishl 158 rfl dX9_findBest_157 (by omega) ?_
            refine gn_ior 159 rfl dX9_findBest_158 ?_
            refine gs_29 160 rfl (by omega) dX9_findBest_159 ?_
            rw [fbH_29, fbH_at]
            refine g_iload5 162 rfl dX9_findBest_160 ?_
            refine g_aload_n0 163 rfl dX9_findBest_162 ?_
            refine g_iload8 165 rfl dX9_findBest_163 ?_
            refine g_iconst (v := 1) 166 rfl dX9_findBest_165 (by decide) ?_
            refine gn_isub 167 rfl dX9_findBest_166 (by omega) ?_
            refine g_cv1i 170 rfl cw_RX9_137 dX9_findBest_167 (c_X9_worthOf (by omega)) (by omega) (ob_22 V) (Nat.le_of_ble_eq_true rfl) ?_
            rw [fbH_25]
            refine gn_iadd 171 rfl dX9_findBest_170 ?_
            refine g_istore5 173 rfl dX9_findBest_171 (by decide) rfl ?_
            refine g_iinc7 176 rfl dX9_findBest_173 rfl (by decide) rfl ?_
            rw [decm]
            refine g_goto 46 (by decide) dX9_findBest_176 ?_
            refine g_none 8 ?_
            first
            | (rw [show fbStep (h.1 24) (h.1 22 4) (h.1 22 6) (h.1 25) a (sT, sf, sw, true) d = (bite (h.1 24) (h.1 22 4) sT, 10 * sf + d, sw, true) from (if_pos rfl).trans (if_pos c90)] at ih2; exact ih2)
            | (have q : canB (h.1 22 6) (h.1 25) sT (d - 1) = false := by simpa using c116
               rw [show fbStep (h.1 24) (h.1 22 4) (h.1 22 6) (h.1 25) a (sT, sf, sw, true) d = (bindR sT (d - 1), 10 * sf + d, sw + wrth (h.1 25) (d - 1), canB (h.1 22 6) (h.1 25) sT (d - 1) && !decide (bt a (h.1 25 (3 * (d - 1) + 2)) = 0)) from (if_pos rfl).trans (if_neg c90), q, Bool.false_and] at ih2; exact ih2)
            | (rw [show fbStep (h.1 24) (h.1 22 4) (h.1 22 6) (h.1 25) a (sT, sf, sw, true) d = (bindR sT (d - 1), 10 * sf + d, sw + wrth (h.1 25) (d - 1), canB (h.1 22 6) (h.1 25) sT (d - 1) && !decide (bt a (h.1 25 (3 * (d - 1) + 2)) = 0)) from (if_pos rfl).trans (if_neg c90), decide_eq_true c134, Bool.not_true, Bool.and_false] at ih2; exact ih2)
            | (have q : canB (h.1 22 6) (h.1 25) sT (d - 1) = true := by simpa using c116
               rw [show fbStep (h.1 24) (h.1 22 4) (h.1 22 6) (h.1 25) a (sT, sf, sw, true) d = (bindR sT (d - 1), 10 * sf + d, sw + wrth (h.1 25) (d - 1), canB (h.1 22 6) (h.1 25) sT (d - 1) && !decide (bt a (h.1 25 (3 * (d - 1) + 2)) = 0)) from (if_pos rfl).trans (if_neg c90), q, decide_eq_false c134, Bool.not_false, Bool.and_true] at ih2; exact ih2)
          · refine g_iload_n2 120 rfl dX9_findBest_119 ?_
            refine g_aload_n0 121 rfl dX9_findBest_120 ?_
            refine gf_Model_clause 124 rfl fl_RX9_16 dX9_findBest_121 ?_
            refine g_iconst (v := 3) 125 rfl dX9_findBest_124 (by decide) ?_
            refine g_iload8 127 rfl dX9_findBest_125 ?_
            refine gn_imul 128 rfl dX9_findBest_127 ?_
            refine g_iconst (v := 1) 129 rfl dX9_findBest_128 (by decide) ?_
            refine gn_isub 130 rfl dX9_findBest_129 (by omega) ?_
            refine ga_25 131 rfl (by omega) dX9_findBest_130 ?_
            rw [fbH_25, show 3 * d - 1 = 3 * (d - 1) + 2 by omega]
            refine g_cs2i 134 rfl cw_RX9_110 dX9_findBest_131 (c_X9_has ha (by omega)) (by omega) (Nat.le_of_ble_eq_true rfl) ?_
            refine gn_if_eq 141 (by decide) 137 rfl dX9_findBest_134 (Nat.lt_of_lt_of_le (bt_lt _ _) (by omega)) (fun c134 => ?_) (fun c134 => ?_)
            · refine g_iconst (v := 0) 142 rfl dX9_findBest_141 (by decide) ?_
              refine g_istore6 144 rfl dX9_findBest_142 (by decide) rfl ?_
              refine g_aload_n0 145 rfl dX9_findBest_144 ?_
              refine gf_Model_trial 148 rfl fl_RX9_28 dX9_findBest_145 ?_
              refine g_bipush (v := 8) 150 rfl dX9_findBest_148 (by decide) ?_
              refine g_dup2 151 rfl dX9_findBest_150 rfl rfl ?_
              refine ga_29 152 rfl (by omega) dX9_findBest_151 ?_
              rw [fbH_at]
              refine g_iconst (v := 1) 153 rfl dX9_findBest_152 (by decide) ?_
              refine g_iload8 155 rfl dX9_findBest_153 ?_
              refine g_iconst (v := 1) 156 rfl dX9_findBest_155 (by decide) ?_
              refine gn_isub 157 rfl dX9_findBest_156 (by omega) ?_
              refine gn_ishl 158 rfl dX9_findBest_157 (by omega) ?_
              refine gn_ior 159 rfl dX9_findBest_158 ?_
              refine gs_29 160 rfl (by omega) dX9_findBest_159 ?_
              rw [fbH_29, fbH_at]
              refine g_iload5 162 rfl dX9_findBest_160 ?_
              refine g_aload_n0 163 rfl dX9_findBest_162 ?_
              refine g_iload8 165 rfl dX9_findBest_163 ?_
              refine g_iconst (v := 1) 166 rfl dX9_findBest_165 (by decide) ?_
              refine gn_isub 167 rfl dX9_findBest_166 (by omega) ?_
              refine g_cv1i 170 rfl cw_RX9_137 dX9_findBest_167 (c_X9_worthOf (by omega)) (by omega) (ob_22 V) (Nat.le_of_ble_eq_true rfl) ?_
              rw [fbH_25]
              refine gn_iadd 171 rfl dX9_findBest_170 ?_
              refine g_istore5 173 rfl dX9_findBest_171 (by decide) rfl ?_
              refine g_iinc7 176 rfl dX9_findBest_173 rfl (by decide) rfl ?_
              rw [decm]
              refine g_goto 46 (by decide) dX9_findBest_176 ?_
              refine g_none 8 ?_
              first
              | (rw [show fbStep (h.1 24) (h.1 22 4) (h.1 22 6) (h.1 25) a (sT, sf, sw, true) d = (bite (h.1 24) (h.1 22 4) sT, 10 * sf + d, sw, true) from (if_pos rfl).trans (if_pos c90)] at ih2; exact ih2)
              | (have q : canB (h.1 22 6) (h.1 25) sT (d - 1) = false := by simpa using c116
                 rw [show fbStep (h.1 24) (h.1 22 4) (h.1 22 6) (h.1 25) a (sT, sf, sw, true) d = (bindR sT (d - 1), 10 * sf + d, sw + wrth (h.1 25) (d - 1), canB (h.1 22 6) (h.1 25) sT (d - 1) && !decide (bt a (h.1 25 (3 * (d - 1) + 2)) = 0)) from (if_pos rfl).trans (if_neg c90), q, Bool.false_and] at ih2; exact ih2)
              | (rw [show fbStep (h.1 24) (h.1 22 4) (h.1 22 6) (h.1 25) a (sT, sf, sw, true) d = (bindR sT (d - 1), 10 * sf + d, sw + wrth (h.1 25) (d - 1), canB (h.1 22 6) (h.1 25) sT (d - 1) && !decide (bt a (h.1 25 (3 * (d - 1) + 2)) = 0)) from (if_pos rfl).trans (if_neg c90), decide_eq_true c134, Bool.not_true, Bool.and_false] at ih2; exact ih2)
              | (have q : canB (h.1 22 6) (h.1 25) sT (d - 1) = true := by simpa using c116
                 rw [show fbStep (h.1 24) (h.1 22 4) (h.1 22 6) (h.1 25) a (sT, sf, sw, true) d = (bindR sT (d - 1), 10 * sf + d, sw + wrth (h.1 25) (d - 1), canB (h.1 22 6) (h.1 25) sT (d - 1) && !decide (bt a (h.1 25 (3 * (d - 1) + 2)) = 0)) from (if_pos rfl).trans (if_neg c90), q, decide_eq_false c134, Bool.not_false, Bool.and_true] at ih2; exact ih2)
            · refine g_iconst (v := 1) 138 rfl dX9_findBest_137 (by decide) ?_
              refine g_goto 142 (by decide) dX9_findBest_138 ?_
              refine g_istore6 144 rfl dX9_findBest_142 (by decide) rfl ?_
              refine g_aload_n0 145 rfl dX9_findBest_144 ?_
              refine gf_Model_trial 148 rfl fl_RX9_28 dX9_findBest_145 ?_
              refine g_bipush (v := 8) 150 rfl dX9_findBest_148 (by decide) ?_
              refine g_dup2 151 rfl dX9_findBest_150 rfl rfl ?_
              refine ga_29 152 rfl (by omega) dX9_findBest_151 ?_
              rw [fbH_at]
              refine g_iconst (v := 1) 153 rfl dX9_findBest_152 (by decide) ?_
              refine g_iload8 155 rfl dX9_findBest_153 ?_
              refine g_iconst (v := 1) 156 rfl dX9_findBest_155 (by decide) ?_
              refine gn_isub 157 rfl dX9_findBest_156 (by omega) ?_
              refine gn_ishl 158 rfl dX9_findBest_157 (by omega) ?_
              refine gn_ior 159 rfl dX9_findBest_158 ?_
              refine gs_29 160 rfl (by omega) dX9_findBest_159 ?_
              rw [fbH_29, fbH_at]
              refine g_iload5 162 rfl dX9_findBest_160 ?_
              refine g_aload_n0 163 rfl dX9_findBest_162 ?_
              refine g_iload8 165 rfl dX9_findBest_163 ?_
              refine g_iconst (v := 1) 166 rfl dX9_findBest_165 (by decide) ?_
              refine gn_isub 167 rfl dX9_findBest_166 (by omega) ?_
              refine g_cv1i 170 rfl cw_RX9_137 dX9_findBest_167 (c_X9_worthOf (by omega)) (by omega) (ob_22 V) (Nat.le_of_ble_eq_true rfl) ?_
              rw [fbH_25]
              refine gn_iadd 171 rfl dX9_findBest_170 ?_
              refine g_istore5 173 rfl dX9_findBest_171 (by decide) rfl ?_
              refine g_iinc7 176 rfl dX9_findBest_173 rfl (by decide) rfl ?_
              rw [decm]
              refine g_goto 46 (by decide) dX9_findBest_176 ?_
              refine g_none 8 ?_
              first
              | (rw [show fbStep (h.1 24) (h.1 22 4) (h.1 22 6) (h.1 25) a (sT, sf, sw, true) d = (bite (h.1 24) (h.1 22 4) sT, 10 * sf + d, sw, true) from (if_pos rfl).trans (if_pos c90)] at ih2; exact ih2)
              | (have q : canB (h.1 22 6) (h.1 25) sT (d - 1) = false := by simpa using c116
                 rw [show fbStep (h.1 24) (h.1 22 4) (h.1 22 6) (h.1 25) a (sT, sf, sw, true) d = (bindR sT (d - 1), 10 * sf + d, sw + wrth (h.1 25) (d - 1), canB (h.1 22 6) (h.1 25) sT (d - 1) && !decide (bt a (h.1 25 (3 * (d - 1) + 2)) = 0)) from (if_pos rfl).trans (if_neg c90), q, Bool.false_and] at ih2; exact ih2)
              | (rw [show fbStep (h.1 24) (h.1 22 4) (h.1 22 6) (h.1 25) a (sT, sf, sw, true) d = (bindR sT (d - 1), 10 * sf + d, sw + wrth (h.1 25) (d - 1), canB (h.1 22 6) (h.1 25) sT (d - 1) && !decide (bt a (h.1 25 (3 * (d - 1) + 2)) = 0)) from (if_pos rfl).trans (if_neg c90), decide_eq_true c134, Bool.not_true, Bool.and_false] at ih2; exact ih2)
              | (have q : canB (h.1 22 6) (h.1 25) sT (d - 1) = true := by simpa using c116
                 rw [show fbStep (h.1 24) (h.1 22 4) (h.1 22 6) (h.1 25) a (sT, sf, sw, true) d = (bindR sT (d - 1), 10 * sf + d, sw + wrth (h.1 25) (d - 1), canB (h.1 22 6) (h.1 25) sT (d - 1) && !decide (bt a (h.1 25 (3 * (d - 1) + 2)) = 0)) from (if_pos rfl).trans (if_neg c90), q, decide_eq_false c134, Bool.not_false, Bool.and_true] at ih2; exact ih2)
        · refine g_aload_n0 94 rfl dX9_findBest_93 ?_
          refine g_aload_n0 95 rfl dX9_findBest_94 ?_
          refine gf_Model_trial 98 rfl fl_RX9_28 dX9_findBest_95 ?_
          refine g_cv1v 101 rfl cw_RX9_144 dX9_findBest_98 (c_X9_goBite_29 hm2 hm2.2.2.2.2.2.2.2) (by omega) (ob_22 V) (Nat.le_of_ble_eq_true rfl) ?_
          rw [fbH_29, fbH_24, fbH_e, fbH_at]
          refine g_goto 173 (by decide) dX9_findBest_101 ?_
          refine g_iinc7 176 rfl dX9_findBest_173 rfl (by decide) rfl ?_
          rw [decm]
          refine g_goto 46 (by decide) dX9_findBest_176 ?_
          refine g_none 8 ?_
          first
          | (rw [show fbStep (h.1 24) (h.1 22 4) (h.1 22 6) (h.1 25) a (sT, sf, sw, true) d = (bite (h.1 24) (h.1 22 4) sT, 10 * sf + d, sw, true) from (if_pos rfl).trans (if_pos c90)] at ih2; exact ih2)
          | (have q : canB (h.1 22 6) (h.1 25) sT (d - 1) = false := by simpa using c116
             rw [show fbStep (h.1 24) (h.1 22 4) (h.1 22 6) (h.1 25) a (sT, sf, sw, true) d = (bindR sT (d - 1), 10 * sf + d, sw + wrth (h.1 25) (d - 1), canB (h.1 22 6) (h.1 25) sT (d - 1) && !decide (bt a (h.1 25 (3 * (d - 1) + 2)) = 0)) from (if_pos rfl).trans (if_neg c90), q, Bool.false_and] at ih2; exact ih2)
          | (rw [show fbStep (h.1 24) (h.1 22 4) (h.1 22 6) (h.1 25) a (sT, sf, sw, true) d = (bindR sT (d - 1), 10 * sf + d, sw + wrth (h.1 25) (d - 1), canB (h.1 22 6) (h.1 25) sT (d - 1) && !decide (bt a (h.1 25 (3 * (d - 1) + 2)) = 0)) from (if_pos rfl).trans (if_neg c90), decide_eq_true c134, Bool.not_true, Bool.and_false] at ih2; exact ih2)
          | (have q : canB (h.1 22 6) (h.1 25) sT (d - 1) = true := by simpa using c116
             rw [show fbStep (h.1 24) (h.1 22 4) (h.1 22 6) (h.1 25) a (sT, sf, sw, true) d = (bindR sT (d - 1), 10 * sf + d, sw + wrth (h.1 25) (d - 1), canB (h.1 22 6) (h.1 25) sT (d - 1) && !decide (bt a (h.1 25 (3 * (d - 1) + 2)) = 0)) from (if_pos rfl).trans (if_neg c90), q, decide_eq_false c134, Bool.not_false, Bool.and_true] at ih2; exact ih2)
end X9g
