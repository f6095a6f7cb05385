/-! the reference: readTalk, fault, talk -/
theorem pl_8 {h : Hp} {p v : Nat} : sR (pl h p) 22 (up ((pl h p).1 22) 8 v) = pl (sR h 22 (up (h.1 22) 8 v)) p := by
  unfold pl; rw [sR_s, sR_sR, sR_s, sR_sR, up_c _ (by decide)]
theorem pl_9 {h : Hp} {p v : Nat} : sR (pl h p) 22 (up ((pl h p).1 22) 9 v) = pl (sR h 22 (up (h.1 22) 9 v)) p := by
  unfold pl; rw [sR_s, sR_sR, sR_s, sR_sR, up_c _ (by decide)]
def rd0 (h : Hp) : Hp := sR h 22 (up (up (up (h.1 22) 3 0) 10 0) 12 0)
theorem Rd_0 {h : Hp} : Rd h (rd0 h) := ⟨rfl, fun q h1 _ _ => sR_n h1, fun a h1 h2 h3 h4 h5 => by unfold rd0; rw [sR_s, up_n h5, up_n h4, up_n h1]⟩
theorem rd0_22 {h : Hp} {o : Nat} (h1 : o ≠ 3) (h4 : o ≠ 10) (h5 : o ≠ 12) : (rd0 h).1 22 o = h.1 22 o := by unfold rd0; rw [sR_s, up_n h5, up_n h4, up_n h1]
theorem rd0_o {h : Hp} {q : Nat} (h1 : q ≠ 22) : (rd0 h).1 q = h.1 q := sR_n h1
theorem fitP_1 {B : Nat → Nat} {p e c : Nat} (h0 : p = 1 ∨ p = 2) : fitP B p e c = isFg (B p) 0 9 := by
  unfold fitP
  rw [if_neg (by omega), if_pos (by omega)]
theorem ffr_1 {B : Nat → Nat} (h : B 0 = 77) : ffr B 1 = none := ffr_s (p := 0) rfl (by unfold fitP; exact decide_eq_true h)
/-- after a text that can be read -/
def Fine (B : Nat → Nat) (len : Nat) : Prop := ffr B len = none ∧ 3 ≤ len ∧ (len - 3) % 4 = 0
section X9k
variable {V : Vt} {h : Hp}
theorem rt_loop {z : Hp} {B : Nat → Nat} {len : Nat} (hB : ∀ j, B j ≤ 255) (hl : len ≤ 48) : ∀ f k g, len - (4 * k + 3) ≤ f → 4 * k + 3 ≤ len → g.1 23 = B → g.1 22 2 = len → ffr B (4 * k + 3) = none → RI z B k g → ∃ g', G V T0 5 RX9 cX9_readTalk 1 (some .int) 90 [some (rf V 22)] [] g (fun v g'' => v = some (.int (nI (ffV B len))) ∧ g'' = g') ∧ Rd g g' ∧ (Fine B len → RI z B ((len - 3) / 4) g')
  | 0, k, g, h1, h2, h3, h4, h5, h6 => by
    have e : 4 * k + 3 = len := by omega
    refine ⟨g, ?_, Rd_r g, fun _ => by rw [show (len - 3) / 4 = k by omega]; exact h6⟩
    rw [ffV_yes (B := B) (len := len) ⟨e ▸ h5, by omega, by omega⟩]
    refine g_aload_n0 91 rfl dX9_readTalk_90 ?_
    refine gf_Model_place 94 rfl fl_RX9_72 dX9_readTalk_91 ?_
    refine g_aload_n0 95 rfl dX9_readTalk_94 ?_
    refine gf_Model_textSize 98 rfl fl_RX9_69 dX9_readTalk_95 ?_
    rw [h6.1, h4]
    refine gn_icmp_ge 113 (by decide) 101 rfl dX9_readTalk_98 (by omega) (by omega) (fun c98 => ?_) (fun c98 => absurd c98 (by omega))
    refine g_bipush (v := 4294967287) 115 rfl dX9_readTalk_113 (by decide) ?_
    refine g_iret .int dX9_readTalk_115 rfl (rfl) ?_
    exact ⟨rfl, rfl⟩
  | f + 1, k, g, h1, h2, h3, h4, h5, h6 => by
    by_cases e : 4 * k + 3 = len
    · refine ⟨g, ?_, Rd_r g, fun _ => by rw [show (len - 3) / 4 = k by omega]; exact h6⟩
      rw [ffV_yes (B := B) (len := len) ⟨e ▸ h5, by omega, by omega⟩]
      refine g_aload_n0 91 rfl dX9_readTalk_90 ?_
      refine gf_Model_place 94 rfl fl_RX9_72 dX9_readTalk_91 ?_
      refine g_aload_n0 95 rfl dX9_readTalk_94 ?_
      refine gf_Model_textSize 98 rfl fl_RX9_69 dX9_readTalk_95 ?_
      rw [h6.1, h4]
      refine gn_icmp_ge 113 (by decide) 101 rfl dX9_readTalk_98 (by omega) (by omega) (fun c98 => ?_) (fun c98 => absurd c98 (by omega))
      refine g_bipush (v := 4294967287) 115 rfl dX9_readTalk_113 (by decide) ?_
      refine g_iret .int dX9_readTalk_115 rfl (rfl) ?_
      exact ⟨rfl, rfl⟩
    · rcases c_X9_readPart (V := V) (h := g) (z := z) (B := B) (k := k) h3 hB (by omega) (by omega) h5 h6 with ⟨g1, M, r1, i1, f1, l1⟩ | ⟨g1, M, r1, v1, l1⟩
      · obtain ⟨g', k1, k2, k3⟩ := rt_loop hB hl f (k + 1) g1 (by omega) (by omega) ((r1.2.1 23 (by decide) (by decide) (by decide)).trans h3) ((r1.2.2 2 (by decide) (by decide) (by decide) (by decide) (by decide)).trans h4) f1 i1
        refine ⟨g', ?_, Rd_t r1 k2, k3⟩
        refine g_aload_n0 91 rfl dX9_readTalk_90 ?_
        refine gf_Model_place 94 rfl fl_RX9_72 dX9_readTalk_91 ?_
        refine g_aload_n0 95 rfl dX9_readTalk_94 ?_
        refine gf_Model_textSize 98 rfl fl_RX9_69 dX9_readTalk_95 ?_
        rw [h6.1, h4]
        refine gn_icmp_ge 113 (by decide) 101 rfl dX9_readTalk_98 (by omega) (by omega) (fun c98 => absurd c98 (by omega)) (fun c98 => ?_)
        refine g_aload_n0 102 rfl dX9_readTalk_101 ?_
        refine g_cv0i 105 rfl cw_RX9_96 dX9_readTalk_102 (M) (by omega) (ob_22 V) (Nat.le_of_ble_eq_true rfl) ?_
        refine gn_if_ne 90 (by decide) 108 rfl dX9_readTalk_105 (by omega) (fun c105 => ?_) (fun c105 => absurd c105 (by decide))
        exact k1
      · rw [h4] at v1
        refine ⟨g1, ?_, r1, fun q => ?_⟩
        · rw [v1]
          refine g_aload_n0 91 rfl dX9_readTalk_90 ?_
          refine gf_Model_place 94 rfl fl_RX9_72 dX9_readTalk_91 ?_
          refine g_aload_n0 95 rfl dX9_readTalk_94 ?_
          refine gf_Model_textSize 98 rfl fl_RX9_69 dX9_readTalk_95 ?_
          rw [h6.1, h4]
          refine gn_icmp_ge 113 (by decide) 101 rfl dX9_readTalk_98 (by omega) (by omega) (fun c98 => absurd c98 (by omega)) (fun c98 => ?_)
          refine g_aload_n0 102 rfl dX9_readTalk_101 ?_
          refine g_cv0i 105 rfl cw_RX9_96 dX9_readTalk_102 (M) (by omega) (ob_22 V) (Nat.le_of_ble_eq_true rfl) ?_
          refine gn_if_ne 90 (by decide) 108 rfl dX9_readTalk_105 (by omega) (fun c105 => absurd rfl c105) (fun c105 => ?_)
          refine g_aload_n0 109 rfl dX9_readTalk_108 ?_
          refine gf_Model_place 112 rfl fl_RX9_72 dX9_readTalk_109 ?_
          refine g_iret .int dX9_readTalk_112 rfl (rfl) ?_
          exact ⟨rfl, rfl⟩
        · rw [ffV_yes q] at v1; omega
theorem c_X9_readTalk (z : Hp) (hB : ∀ j, h.1 23 j ≤ 255) (hl : h.1 22 2 ≤ 48) : ∃ g, Rti V 5 yX9_readTalk cX9_readTalk 1 (some .int) [rf V 22] h (nI (ffV (h.1 23) (h.1 22 2))) g ∧ Rd h g ∧ (Fine (h.1 23) (h.1 22 2) → RI z (h.1 23) ((h.1 22 2 - 3) / 4) g) := by
  have hb0 := hB 0
  have hb1 := hB 1
  have hb2 := hB 2
  have no : ∀ {p g}, ffV (h.1 23) (h.1 22 2) = p → p ≤ 48 → Fine (h.1 23) (h.1 22 2) → RI z (h.1 23) ((h.1 22 2 - 3) / 4) g := fun e w q => by rw [ffV_yes q] at e; omega
  have e0 : sR (sR (sR h 22 (up (h.1 22) 3 0)) 22 (up ((sR h 22 (up (h.1 22) 3 0)).1 22) 10 0)) 22 (up ((sR (sR h 22 (up (h.1 22) 3 0)) 22 (up ((sR h 22 (up (h.1 22) 3 0)).1 22) 10 0)).1 22) 12 0) = rd0 h := by
    unfold rd0; rw [sR_s, sR_sR, sR_s, sR_sR]
  have e2 : (rd0 h).1 22 2 = h.1 22 2 := rd0_22 (by decide) (by decide) (by decide)
  have e23 : (rd0 h).1 23 = h.1 23 := rd0_o (by decide)
  by_cases w0 : h.1 22 2 = 0
  · have ev : ffV (h.1 23) (h.1 22 2) = 0 := ffV_at rfl (.inl ⟨w0.symm, by omega⟩)
    refine ⟨rd0 h, ?_, Rd_0, no ev (by omega)⟩
    rw [ev]
    refine Mt_in [some (rf V 22)] (own := RX9) rfl (by decide) (Nat.le_of_ble_eq_true rfl) (fun q hq => hq) ?_
    refine g_aload_n0 1 rfl dX9_readTalk_0 ?_
    refine g_iconst (v := 0) 2 rfl dX9_readTalk_1 (by decide) ?_
    refine gp_Model_place 5 rfl fl_RX9_72 dX9_readTalk_2 ?_
    refine g_aload_n0 6 rfl dX9_readTalk_5 ?_
    refine g_iconst (v := 0) 7 rfl dX9_readTalk_6 (by decide) ?_
    refine gp_Model_readEnvoys 10 rfl fl_RX9_79 dX9_readTalk_7 ?_
    refine g_aload_n0 11 rfl dX9_readTalk_10 ?_
    refine g_iconst (v := 0) 12 rfl dX9_readTalk_11 (by decide) ?_
    refine gp_Model_readClauses 15 rfl fl_RX9_82 dX9_readTalk_12 ?_
    rw [e0]
    refine g_aload_n0 16 rfl dX9_readTalk_15 ?_
    refine gf_Model_textSize 19 rfl fl_RX9_69 dX9_readTalk_16 ?_
    rw [e2]
    refine gn_if_eq 33 (by decide) 22 rfl dX9_readTalk_19 (by omega) (fun c19 => ?_) (fun c19 => absurd w0 c19)
    refine g_iconst (v := 0) 34 rfl dX9_readTalk_33 (by decide) ?_
    refine g_iret .int dX9_readTalk_34 rfl (rfl) ?_
    exact ⟨rfl, rfl⟩
  by_cases w1 : ¬ h.1 23 0 = 77
  · have ev : ffV (h.1 23) (h.1 22 2) = 0 := ffV_at rfl (.inr ⟨by omega, by unfold fitP; exact decide_eq_false w1⟩)
    refine ⟨rd0 h, ?_, Rd_0, no ev (by omega)⟩
    rw [ev]
    refine Mt_in [some (rf V 22)] (own := RX9) rfl (by decide) (Nat.le_of_ble_eq_true rfl) (fun q hq => hq) ?_
    refine g_aload_n0 1 rfl dX9_readTalk_0 ?_
    refine g_iconst (v := 0) 2 rfl dX9_readTalk_1 (by decide) ?_
    refine gp_Model_place 5 rfl fl_RX9_72 dX9_readTalk_2 ?_
    refine g_aload_n0 6 rfl dX9_readTalk_5 ?_
    refine g_iconst (v := 0) 7 rfl dX9_readTalk_6 (by decide) ?_
    refine gp_Model_readEnvoys 10 rfl fl_RX9_79 dX9_readTalk_7 ?_
    refine g_aload_n0 11 rfl dX9_readTalk_10 ?_
    refine g_iconst (v := 0) 12 rfl dX9_readTalk_11 (by decide) ?_
    refine gp_Model_readClauses 15 rfl fl_RX9_82 dX9_readTalk_12 ?_
    rw [e0]
    refine g_aload_n0 16 rfl dX9_readTalk_15 ?_
    refine gf_Model_textSize 19 rfl fl_RX9_69 dX9_readTalk_16 ?_
    rw [e2]
    refine gn_if_eq 33 (by decide) 22 rfl dX9_readTalk_19 (by omega) (fun c19 => absurd c19 w0) (fun c19 => ?_)
    refine g_aload_n0 23 rfl dX9_readTalk_22 ?_
    refine gf_Model_text 26 rfl fl_RX9_7 dX9_readTalk_23 ?_
    refine g_iconst (v := 0) 27 rfl dX9_readTalk_26 (by decide) ?_
    refine ga_23 28 rfl (by omega) dX9_readTalk_27 ?_
    rw [e23]
    refine g_bipush (v := 77) 30 rfl dX9_readTalk_28 (by decide) ?_
    refine gn_icmp_eq 35 (by decide) 33 rfl dX9_readTalk_30 (by omega) (by omega) (fun c30 => absurd c30 w1) (fun c30 => ?_)
    refine g_iconst (v := 0) 34 rfl dX9_readTalk_33 (by decide) ?_
    refine g_iret .int dX9_readTalk_34 rfl (rfl) ?_
    exact ⟨rfl, rfl⟩
  have w1 := Decidable.not_not.mp w1
  have f1 := ffr_1 w1
  have cE1 : cntE (h.1 23) 1 = 0 := rfl
  by_cases w2 : h.1 22 2 = 1 ∨ ¬ (48 + 0 ≤ h.1 23 1 ∧ h.1 23 1 ≤ 48 + 9)
  · have ev : ffV (h.1 23) (h.1 22 2) = 1 := ffV_at f1 (by
      by_cases q : h.1 22 2 = 1
      · exact .inl ⟨q.symm, by omega⟩
      · exact .inr ⟨by omega, by rw [fitP_1 (.inl rfl)]; exact decide_eq_false (w2.resolve_left q)⟩)
    refine ⟨pl (sR (sR (rd0 h) 22 (up ((rd0 h).1 22) 8 4294967287)) 22 (up ((sR (rd0 h) 22 (up ((rd0 h).1 22) 8 4294967287)).1 22) 9 4294967287)) 1, ?_, Rd_t (Rd_t (Rd_t Rd_0 (Rd_up (by omega))) (Rd_up (by omega))) Rd_pl, no ev (by omega)⟩
    rw [ev]
    refine Mt_in [some (rf V 22)] (own := RX9) rfl (by decide) (Nat.le_of_ble_eq_true rfl) (fun q hq => hq) ?_
    refine g_aload_n0 1 rfl dX9_readTalk_0 ?_
    refine g_iconst (v := 0) 2 rfl dX9_readTalk_1 (by decide) ?_
    refine gp_Model_place 5 rfl fl_RX9_72 dX9_readTalk_2 ?_
    refine g_aload_n0 6 rfl dX9_readTalk_5 ?_
    refine g_iconst (v := 0) 7 rfl dX9_readTalk_6 (by decide) ?_
    refine gp_Model_readEnvoys 10 rfl fl_RX9_79 dX9_readTalk_7 ?_
    refine g_aload_n0 11 rfl dX9_readTalk_10 ?_
    refine g_iconst (v := 0) 12 rfl dX9_readTalk_11 (by decide) ?_
    refine gp_Model_readClauses 15 rfl fl_RX9_82 dX9_readTalk_12 ?_
    rw [e0]
    refine g_aload_n0 16 rfl dX9_readTalk_15 ?_
    refine gf_Model_textSize 19 rfl fl_RX9_69 dX9_readTalk_16 ?_
    rw [e2]
    refine gn_if_eq 33 (by decide) 22 rfl dX9_readTalk_19 (by omega) (fun c19 => absurd c19 w0) (fun c19 => ?_)
    refine g_aload_n0 23 rfl dX9_readTalk_22 ?_
    refine gf_Model_text 26 rfl fl_RX9_7 dX9_readTalk_23 ?_
    refine g_iconst (v := 0) 27 rfl dX9_readTalk_26 (by decide) ?_
    refine ga_23 28 rfl (by omega) dX9_readTalk_27 ?_
    rw [e23]
    refine g_bipush (v := 77) 30 rfl dX9_readTalk_28 (by decide) ?_
    refine gn_icmp_eq 35 (by decide) 33 rfl dX9_readTalk_30 (by omega) (by omega) (fun c30 => ?_) (fun c30 => absurd w1 c30)
    refine g_aload_n0 36 rfl dX9_readTalk_35 ?_
    refine g_iconst (v := 1) 37 rfl dX9_readTalk_36 (by decide) ?_
    refine gp_Model_place 40 rfl fl_RX9_72 dX9_readTalk_37 ?_
    change G V T0 5 RX9 cX9_readTalk 1 (some .int) 40 [some (rf V 22)] [] (pl (rd0 h) 1) _
    refine g_aload_n0 41 rfl dX9_readTalk_40 ?_
    refine g_aload_n0 42 rfl dX9_readTalk_41 ?_
    refine g_iconst (v := 0) 43 rfl dX9_readTalk_42 (by decide) ?_
    refine g_bipush (v := 9) 45 rfl dX9_readTalk_43 (by decide) ?_
    refine g_cv2i 48 rfl cw_RX9_75 dX9_readTalk_45 (c_X9_figure_no (by omega) (by omega) (by omega) (by omega) (by rw [e23]; exact hB) (by rw [e2, e23]; omega)) (by omega) (ob_22 V) (Nat.le_of_ble_eq_true rfl) ?_
    refine gp_Model_readHeat 51 rfl fl_RX9_90 dX9_readTalk_48 ?_
    rw [pl_8]
    refine g_aload_n0 52 rfl dX9_readTalk_51 ?_
    refine g_aload_n0 53 rfl dX9_readTalk_52 ?_
    refine gf_Model_readHeat 56 rfl fl_RX9_90 dX9_readTalk_53 ?_
    rw [pl_22 (by decide), sR_s, up_s]
    refine g_bipush (v := 4294967287) 58 rfl dX9_readTalk_56 (by decide) ?_
    refine g_icmp_ne 66 (by decide) 61 rfl dX9_readTalk_58 (fun c58 => absurd rfl c58) (fun c58 => ?_)
    refine g_bipush (v := 4294967287) 63 rfl dX9_readTalk_61 (by decide) ?_
    refine g_goto 73 (by decide) dX9_readTalk_63 ?_
    refine gp_Model_readSeed 76 rfl fl_RX9_93 dX9_readTalk_73 ?_
    rw [pl_9]
    refine g_aload_n0 77 rfl dX9_readTalk_76 ?_
    refine gf_Model_readSeed 80 rfl fl_RX9_93 dX9_readTalk_77 ?_
    rw [pl_22 (by decide), sR_s, up_s]
    refine g_bipush (v := 4294967287) 82 rfl dX9_readTalk_80 (by decide) ?_
    refine g_icmp_ne 90 (by decide) 85 rfl dX9_readTalk_82 (fun c82 => absurd rfl c82) (fun c82 => ?_)
    refine g_aload_n0 86 rfl dX9_readTalk_85 ?_
    refine gf_Model_place 89 rfl fl_RX9_72 dX9_readTalk_86 ?_
    rw [pl_3]
    refine g_iret .int dX9_readTalk_89 rfl (rfl) ?_
    exact ⟨rfl, rfl⟩
  have g1 : 48 + 0 ≤ h.1 23 1 ∧ h.1 23 1 ≤ 48 + 9 := Decidable.not_not.mp (fun q => w2 (.inr q))
  have l1 : 1 < h.1 22 2 := by have : ¬ h.1 22 2 = 1 := fun q => w2 (.inl q); omega
  have f2 : ffr (h.1 23) 2 = none := ffr_s f1 (by rw [fitP_1 (.inl rfl)]; exact decide_eq_true g1)
  by_cases w3 : h.1 22 2 = 2 ∨ ¬ (48 + 0 ≤ h.1 23 2 ∧ h.1 23 2 ≤ 48 + 9)
  · have ev : ffV (h.1 23) (h.1 22 2) = 2 := ffV_at f2 (by
      by_cases q : h.1 22 2 = 2
      · exact .inl ⟨q.symm, by omega⟩
      · exact .inr ⟨by omega, by rw [fitP_1 (.inr rfl)]; exact decide_eq_false (w3.resolve_left q)⟩)
    refine ⟨pl (sR (sR (rd0 h) 22 (up ((rd0 h).1 22) 8 (h.1 23 1 - 48))) 22 (up ((sR (rd0 h) 22 (up ((rd0 h).1 22) 8 (h.1 23 1 - 48))).1 22) 9 4294967287)) 2, ?_, Rd_t (Rd_t (Rd_t Rd_0 (Rd_up (by omega))) (Rd_up (by omega))) Rd_pl, no ev (by omega)⟩
    rw [ev]
    have q2 : (sR (rd0 h) 22 (up ((rd0 h).1 22) 8 (h.1 23 1 - 48))).1 22 2 = h.1 22 2 := by rw [sR_s, up_n (by decide), e2]
    have q23 : (sR (rd0 h) 22 (up ((rd0 h).1 22) 8 (h.1 23 1 - 48))).1 23 = h.1 23 := by rw [sR_n (by decide), e23]
    refine Mt_in [some (rf V 22)] (own := RX9) rfl (by decide) (Nat.le_of_ble_eq_true rfl) (fun q hq => hq) ?_
    refine g_aload_n0 1 rfl dX9_readTalk_0 ?_
    refine g_iconst (v := 0) 2 rfl dX9_readTalk_1 (by decide) ?_
    refine gp_Model_place 5 rfl fl_RX9_72 dX9_readTalk_2 ?_
    refine g_aload_n0 6 rfl dX9_readTalk_5 ?_
    refine g_iconst (v := 0) 7 rfl dX9_readTalk_6 (by decide) ?_
    refine gp_Model_readEnvoys 10 rfl fl_RX9_79 dX9_readTalk_7 ?_
    refine g_aload_n0 11 rfl dX9_readTalk_10 ?_
    refine g_iconst (v := 0) 12 rfl dX9_readTalk_11 (by decide) ?_
    refine gp_Model_readClauses 15 rfl fl_RX9_82 dX9_readTalk_12 ?_
    rw [e0]
    refine g_aload_n0 16 rfl dX9_readTalk_15 ?_
    refine gf_Model_textSize 19 rfl fl_RX9_69 dX9_readTalk_16 ?_
    rw [e2]
    refine gn_if_eq 33 (by decide) 22 rfl dX9_readTalk_19 (by omega) (fun c19 => absurd c19 w0) (fun c19 => ?_)
    refine g_aload_n0 23 rfl dX9_readTalk_22 ?_
    refine gf_Model_text 26 rfl fl_RX9_7 dX9_readTalk_23 ?_
    refine g_iconst (v := 0) 27 rfl dX9_readTalk_26 (by decide) ?_
    refine ga_23 28 rfl (by omega) dX9_readTalk_27 ?_
    rw [e23]
    refine g_bipush (v := 77) 30 rfl dX9_readTalk_28 (by decide) ?_
    refine gn_icmp_eq 35 (by decide) 33 rfl dX9_readTalk_30 (by omega) (by omega) (fun c30 => ?_) (fun c30 => absurd w1 c30)
    refine g_aload_n0 36 rfl dX9_readTalk_35 ?_
    refine g_iconst (v := 1) 37 rfl dX9_readTalk_36 (by decide) ?_
    refine gp_Model_place 40 rfl fl_RX9_72 dX9_readTalk_37 ?_
    change G V T0 5 RX9 cX9_readTalk 1 (some .int) 40 [some (rf V 22)] [] (pl (rd0 h) 1) _
    refine g_aload_n0 41 rfl dX9_readTalk_40 ?_
    refine g_aload_n0 42 rfl dX9_readTalk_41 ?_
    refine g_iconst (v := 0) 43 rfl dX9_readTalk_42 (by decide) ?_
    refine g_bipush (v := 9) 45 rfl dX9_readTalk_43 (by decide) ?_
    refine g_cv2i 48 rfl cw_RX9_75 dX9_readTalk_45 (c_X9_figure_ok (by omega) (by omega) (by omega) (by omega) (by rw [e23]; exact g1)) (by omega) (ob_22 V) (Nat.le_of_ble_eq_true rfl) ?_
    refine gp_Model_readHeat 51 rfl fl_RX9_90 dX9_readTalk_48 ?_
    rw [pl_8, e23, show 1 + 1 = 2 from rfl]
    refine g_aload_n0 52 rfl dX9_readTalk_51 ?_
    refine g_aload_n0 53 rfl dX9_readTalk_52 ?_
    refine gf_Model_readHeat 56 rfl fl_RX9_90 dX9_readTalk_53 ?_
    rw [pl_22 (by decide), sR_s, up_s]
    refine g_bipush (v := 4294967287) 58 rfl dX9_readTalk_56 (by decide) ?_
    refine g_icmp_ne 66 (by decide) 61 rfl dX9_readTalk_58 (fun c58 => ?_) (fun c58 => absurd c58 (ne9q (by omega)))
    refine g_aload_n0 67 rfl dX9_readTalk_66 ?_
    refine g_iconst (v := 0) 68 rfl dX9_readTalk_67 (by decide) ?_
    refine g_bipush (v := 9) 70 rfl dX9_readTalk_68 (by decide) ?_
    refine g_cv2i 73 rfl cw_RX9_75 dX9_readTalk_70 (c_X9_figure_no (by omega) (by omega) (by omega) (by omega) (by rw [q23]; exact hB) (by rw [q2, q23]; omega)) (by omega) (ob_22 V) (Nat.le_of_ble_eq_true rfl) ?_
    refine gp_Model_readSeed 76 rfl fl_RX9_93 dX9_readTalk_73 ?_
    rw [pl_9]
    refine g_aload_n0 77 rfl dX9_readTalk_76 ?_
    refine gf_Model_readSeed 80 rfl fl_RX9_93 dX9_readTalk_77 ?_
    rw [pl_22 (by decide), sR_s, up_s]
    refine g_bipush (v := 4294967287) 82 rfl dX9_readTalk_80 (by decide) ?_
    refine g_icmp_ne 90 (by decide) 85 rfl dX9_readTalk_82 (fun c82 => absurd rfl c82) (fun c82 => ?_)
    refine g_aload_n0 86 rfl dX9_readTalk_85 ?_
    refine gf_Model_place 89 rfl fl_RX9_72 dX9_readTalk_86 ?_
    rw [pl_3]
    refine g_iret .int dX9_readTalk_89 rfl (rfl) ?_
    exact ⟨rfl, rfl⟩
  have g2 : 48 + 0 ≤ h.1 23 2 ∧ h.1 23 2 ≤ 48 + 9 := Decidable.not_not.mp (fun q => w3 (.inr q))
  have l2 : 2 < h.1 22 2 := by have : ¬ h.1 22 2 = 2 := fun q => w3 (.inl q); omega
  have f3 : ffr (h.1 23) (4 * 0 + 3) = none := ffr_s f2 (by rw [fitP_1 (.inr rfl)]; exact decide_eq_true g2)
  have q2 : (sR (rd0 h) 22 (up ((rd0 h).1 22) 8 (h.1 23 1 - 48))).1 22 2 = h.1 22 2 := by rw [sR_s, up_n (by decide), e2]
  have q23 : (sR (rd0 h) 22 (up ((rd0 h).1 22) 8 (h.1 23 1 - 48))).1 23 = h.1 23 := by rw [sR_n (by decide), e23]
  have R3 : RI z (h.1 23) 0 (pl (sR (sR (rd0 h) 22 (up ((rd0 h).1 22) 8 (h.1 23 1 - 48))) 22 (up ((sR (rd0 h) 22 (up ((rd0 h).1 22) 8 (h.1 23 1 - 48))).1 22) 9 (h.1 23 2 - 48))) (2 + 1)) := by
    have t2 : (tlH (h.1 23) z 0).1 3 2 = 0 := (tl_cnt 0 f3).1
    have t3 : (tlH (h.1 23) z 0).1 3 3 = 0 := (tl_cnt 0 f3).2
    have d10 : (rd0 h).1 22 10 = 0 := by unfold rd0; rw [sR_s, up_n (by decide), up_s]
    have d12 : (rd0 h).1 22 12 = 0 := by unfold rd0; rw [sR_s, up_s]
    unfold RI
    rw [pl_3, t2, t3, pl_22 (by decide), pl_22 (by decide), pl_22 (by decide), pl_22 (by decide), sR_s, sR_s, up_n (show 8 ≠ 9 by decide), up_s, up_s, up_n (show 10 ≠ 9 by decide), up_n (show 10 ≠ 8 by decide), up_n (show 12 ≠ 9 by decide), up_n (show 12 ≠ 8 by decide), d10, d12]
    exact ⟨rfl, rfl, rfl, rfl, rfl, fun j hj => absurd hj (by omega), fun j hj => absurd hj (by omega)⟩
  obtain ⟨g', k1, k2, k3⟩ := rt_loop (V := V) (z := z) hB hl 48 0 _ (by omega) (by omega) (by rw [pl_o (by decide), sR_n (by decide), q23]) (by rw [pl_22 (by decide), sR_s, up_n (by decide), q2]) f3 R3
  refine ⟨g', ?_, Rd_t (Rd_t (Rd_t (Rd_t Rd_0 (Rd_up (by omega))) (Rd_up (by omega))) Rd_pl) k2, k3⟩
  refine Mt_in [some (rf V 22)] (own := RX9) rfl (by decide) (Nat.le_of_ble_eq_true rfl) (fun q hq => hq) ?_
  refine g_aload_n0 1 rfl dX9_readTalk_0 ?_
  refine g_iconst (v := 0) 2 rfl dX9_readTalk_1 (by decide) ?_
  refine gp_Model_place 5 rfl fl_RX9_72 dX9_readTalk_2 ?_
  refine g_aload_n0 6 rfl dX9_readTalk_5 ?_
  refine g_iconst (v := 0) 7 rfl dX9_readTalk_6 (by decide) ?_
  refine gp_Model_readEnvoys 10 rfl fl_RX9_79 dX9_readTalk_7 ?_
  refine g_aload_n0 11 rfl dX9_readTalk_10 ?_
  refine g_iconst (v := 0) 12 rfl dX9_readTalk_11 (by decide) ?_
  refine gp_Model_readClauses 15 rfl fl_RX9_82 dX9_readTalk_12 ?_
  rw [e0]
  refine g_aload_n0 16 rfl dX9_readTalk_15 ?_
  refine gf_Model_textSize 19 rfl fl_RX9_69 dX9_readTalk_16 ?_
  rw [e2]
  refine gn_if_eq 33 (by decide) 22 rfl dX9_readTalk_19 (by omega) (fun c19 => absurd c19 w0) (fun c19 => ?_)
  refine g_aload_n0 23 rfl dX9_readTalk_22 ?_
  refine gf_Model_text 26 rfl fl_RX9_7 dX9_readTalk_23 ?_
  refine g_iconst (v := 0) 27 rfl dX9_readTalk_26 (by decide) ?_
  refine ga_23 28 rfl (by omega) dX9_readTalk_27 ?_
  rw [e23]
  refine g_bipush (v := 77) 30 rfl dX9_readTalk_28 (by decide) ?_
  refine gn_icmp_eq 35 (by decide) 33 rfl dX9_readTalk_30 (by omega) (by omega) (fun c30 => ?_) (fun c30 => absurd w1 c30)
  refine g_aload_n0 36 rfl dX9_readTalk_35 ?_
  refine g_iconst (v := 1) 37 rfl dX9_readTalk_36 (by decide) ?_
  refine gp_Model_place 40 rfl fl_RX9_72 dX9_readTalk_37 ?_
  change G V T0 5 RX9 cX9_readTalk 1 (some .int) 40 [some (rf V 22)] [] (pl (rd0 h) 1) _
  refine g_aload_n0 41 rfl dX9_readTalk_40 ?_
  refine g_aload_n0 42 rfl dX9_readTalk_41 ?_
  refine g_iconst (v := 0) 43 rfl dX9_readTalk_42 (by decide) ?_
  refine g_bipush (v := 9) 45 rfl dX9_readTalk_43 (by decide) ?_
  refine g_cv2i 48 rfl cw_RX9_75 dX9_readTalk_45 (c_X9_figure_ok (by omega) (by omega) (by omega) (by omega) (by rw [e23]; exact g1)) (by omega) (ob_22 V) (Nat.le_of_ble_eq_true rfl) ?_
  refine gp_Model_readHeat 51 rfl fl_RX9_90 dX9_readTalk_48 ?_
  rw [pl_8, e23, show 1 + 1 = 2 from rfl]
  refine g_aload_n0 52 rfl dX9_readTalk_51 ?_
  refine g_aload_n0 53 rfl dX9_readTalk_52 ?_
  refine gf_Model_readHeat 56 rfl fl_RX9_90 dX9_readTalk_53 ?_
  rw [pl_22 (by decide), sR_s, up_s]
  refine g_bipush (v := 4294967287) 58 rfl dX9_readTalk_56 (by decide) ?_
  refine g_icmp_ne 66 (by decide) 61 rfl dX9_readTalk_58 (fun c58 => ?_) (fun c58 => absurd c58 (ne9q (by omega)))
  refine g_aload_n0 67 rfl dX9_readTalk_66 ?_
  refine g_iconst (v := 0) 68 rfl dX9_readTalk_67 (by decide) ?_
  refine g_bipush (v := 9) 70 rfl dX9_readTalk_68 (by decide) ?_
  refine g_cv2i 73 rfl cw_RX9_75 dX9_readTalk_70 (c_X9_figure_ok (by omega) (by omega) (by omega) (by omega) (by rw [q23]; exact g2)) (by omega) (ob_22 V) (Nat.le_of_ble_eq_true rfl) ?_
  refine gp_Model_readSeed 76 rfl fl_RX9_93 dX9_readTalk_73 ?_
  rw [pl_9, q23]
  refine g_aload_n0 77 rfl dX9_readTalk_76 ?_
  refine gf_Model_readSeed 80 rfl fl_RX9_93 dX9_readTalk_77 ?_
  rw [pl_22 (by decide), sR_s, up_s]
  refine g_bipush (v := 4294967287) 82 rfl dX9_readTalk_80 (by decide) ?_
  refine g_icmp_ne 90 (by decide) 85 rfl dX9_readTalk_82 (fun c82 => ?_) (fun c82 => absurd c82 (ne9q (by omega)))
  exact k1
theorem c_X9_fault (h0 : h.1 22 0 = 0) (hB : ∀ j, h.1 23 j ≤ 255) (hl : h.1 22 2 ≤ 48) : ∃ g, Rti V 6 yX9_fault cX9_fault 1 (some .int) [rf V 22] h (nI (ffV (h.1 23) (h.1 22 2))) g ∧ Rd h g := by
  obtain ⟨g, M, r, -⟩ := c_X9_readTalk (V := V) h hB hl
  refine ⟨g, ?_, r⟩
  refine Mt_in [some (rf V 22)] (own := RX9) rfl (by decide) (Nat.le_of_ble_eq_true rfl) (fun q hq => hq) ?_
  refine g_aload_n0 1 rfl dX9_fault_0 ?_
  refine g_iconst (v := 0) 2 rfl dX9_fault_1 (by decide) ?_
  refine gp_Model_thrown 5 rfl fl_RX9_53 dX9_fault_2 ?_
  rw [thr0 h0]
  refine g_aload_n0 6 rfl dX9_fault_5 ?_
  refine g_cv0i 9 rfl cw_RX9_99 dX9_fault_6 (M) (by omega) (ob_22 V) (Nat.le_of_ble_eq_true rfl) ?_
  refine g_iret .int dX9_fault_9 rfl (rfl) ?_
  exact ⟨rfl, rfl⟩
theorem c_X9_talk_no (h0 : h.1 22 0 = 0) (hB : ∀ j, h.1 23 j ≤ 255) (hl : h.1 22 2 ≤ 48) (hf : ¬ Fine (h.1 23) (h.1 22 2)) : ∃ g, Rti V 6 yX9_talk cX9_talk 2 (some .int) [rf V 22] h (nI 4294967293) g ∧ Rd h g := by
  obtain ⟨g, M, r, -⟩ := c_X9_readTalk (V := V) h hB hl
  have hv := ffV_no hl hf
  refine ⟨g, ?_, r⟩
  refine Mt_in [some (rf V 22), none] (own := RX9) rfl (by decide) (Nat.le_of_ble_eq_true rfl) (fun q hq => hq) ?_
  refine g_aload_n0 1 rfl dX9_talk_0 ?_
  refine g_iconst (v := 0) 2 rfl dX9_talk_1 (by decide) ?_
  refine gp_Model_thrown 5 rfl fl_RX9_53 dX9_talk_2 ?_
  rw [thr0 h0]
  refine g_aload_n0 6 rfl dX9_talk_5 ?_
  refine g_cv0i 9 rfl cw_RX9_99 dX9_talk_6 (M) (by omega) (ob_22 V) (Nat.le_of_ble_eq_true rfl) ?_
  refine g_bipush (v := 4294967287) 11 rfl dX9_talk_9 (by decide) ?_
  refine g_icmp_eq 17 (by decide) 14 rfl dX9_talk_11 (fun c11 => absurd c11 (ne9 (by omega))) (fun c11 => ?_)
  refine g_bipush (v := 4294967293) 16 rfl dX9_talk_14 (by decide) ?_
  refine g_iret .int dX9_talk_16 rfl (rfl) ?_
  exact ⟨rfl, rfl⟩
def tkN (g : Hp) : Hp := sR g 22 (up (up (g.1 22) 4 (g.1 22 10)) 6 (g.1 22 12))
def tk24 (g : Hp) (k : Nat) : Nat → Nat := fun j => if j < k then g.1 26 j else g.1 24 j
def tk25 (g : Hp) (k : Nat) : Nat → Nat := fun j => if j < k then g.1 27 j else g.1 25 j
def tk28 (g : Hp) (k : Nat) : Nat → Nat := fun j => if j < k then 0 else g.1 28 j
def tkA (g : Hp) : Hp := sR (sR (tkN g) 24 (tk24 g (3 * g.1 22 10))) 25 (tk25 g (3 * g.1 22 12))
def tkF (g : Hp) : Hp := sR (sR (sR (tkA g) 28 (layR (g.1 22 8) (g.1 22 9) (g.1 22 10))) 22 (up ((tkN g).1 22) 17 0)) 32 (up (up (g.1 32) 0 0) 1 0)
theorem tkN_22 {g : Hp} {o : Nat} (h4 : o ≠ 4) (h6 : o ≠ 6) : (tkN g).1 22 o = g.1 22 o := by unfold tkN; rw [sR_s, up_n h6, up_n h4]
theorem tkN_4 {g : Hp} : (tkN g).1 22 4 = g.1 22 10 := by unfold tkN; rw [sR_s, up_n (by decide), up_s]
theorem tkN_6 {g : Hp} : (tkN g).1 22 6 = g.1 22 12 := by unfold tkN; rw [sR_s, up_s]
theorem tkN_o {g : Hp} {q : Nat} (h1 : q ≠ 22) : (tkN g).1 q = g.1 q := sR_n h1
theorem c_X9_talk_17 {g : Hp} (hn : g.1 22 10 ≤ 4) (hm : g.1 22 12 ≤ 5) (ht : TI (g.1 28)) : G V T0 6 RX9 cX9_talk 2 (some .int) 17 [some (rf V 22), none] [] g (fun v g' => v = some (.int (nI (10 * g.1 22 10 + g.1 22 12))) ∧ g' = tkF g) := by
  refine g_aload_n0 18 rfl dX9_talk_17 ?_
  refine g_aload_n0 19 rfl dX9_talk_18 ?_
  refine gf_Model_readEnvoys 22 rfl fl_RX9_79 dX9_talk_19 ?_
  refine gp_Model_envoys 25 rfl fl_RX9_57 dX9_talk_22 ?_
  refine g_aload_n0 26 rfl dX9_talk_25 ?_
  refine g_aload_n0 27 rfl dX9_talk_26 ?_
  refine gf_Model_readClauses 30 rfl fl_RX9_82 dX9_talk_27 ?_
  refine gp_Model_clauses 33 rfl fl_RX9_64 dX9_talk_30 ?_
  rw [show sR (sR g 22 (up (g.1 22) 4 (g.1 22 10))) 22 (up ((sR g 22 (up (g.1 22) 4 (g.1 22 10))).1 22) 6 ((sR g 22 (up (g.1 22) 4 (g.1 22 10))).1 22 12)) = tkN g from by unfold tkN; rw [sR_s, sR_sR, up_n (show 12 ≠ 4 by decide)]]
  refine g_iconst (v := 0) 34 rfl dX9_talk_33 (by decide) ?_
  refine g_istore_n1 35 rfl dX9_talk_34 (by decide) rfl ?_
  skip
  refine g_heap (show tkN g = sR (tkN g) 24 (tk24 g 0) from by rw [show tk24 g 0 = (tkN g).1 24 from (funext fun o => if_neg (by omega)).trans (tkN_o (by decide)).symm, sR_same]) ?_
  refine loop_up (P := fun k => G V T0 6 RX9 cX9_talk 2 (some .int) 35 [some (rf V 22), some (.int (nI k))] [] (sR (tkN g) 24 (tk24 g k)) _) (n := 3 * g.1 22 10) ?_ (fun k hk ih => ?_) 0 (Nat.zero_le _)
  · refine g_iload_n1 36 rfl dX9_talk_35 ?_
    refine g_iconst (v := 3) 37 rfl dX9_talk_36 (by decide) ?_
    refine g_aload_n0 38 rfl dX9_talk_37 ?_
    refine gf_Model_envoys 41 rfl fl_RX9_57 dX9_talk_38 ?_
    rw [sR_n (by decide), tkN_4]
    refine gn_imul 42 rfl dX9_talk_41 ?_
    refine gn_icmp_ge 63 (by decide) 45 rfl dX9_talk_42 (by omega) (by omega) (fun c42 => ?_) (fun c42 => absurd c42 (Nat.lt_irrefl _))
    refine g_iconst (v := 0) 64 rfl dX9_talk_63 (by decide) ?_
    refine g_istore_n1 65 rfl dX9_talk_64 (by decide) rfl ?_
    skip
    refine g_heap (show sR (tkN g) 24 (tk24 g (3 * g.1 22 10)) = sR (sR (tkN g) 24 (tk24 g (3 * g.1 22 10))) 25 (tk25 g 0) from by rw [show tk25 g 0 = (sR (tkN g) 24 (tk24 g (3 * g.1 22 10))).1 25 from (funext fun o => if_neg (by omega)).trans ((sR_n (by decide)).trans (tkN_o (by decide))).symm, sR_same]) ?_
    refine loop_up (P := fun k => G V T0 6 RX9 cX9_talk 2 (some .int) 65 [some (rf V 22), some (.int (nI k))] [] (sR (sR (tkN g) 24 (tk24 g (3 * g.1 22 10))) 25 (tk25 g k)) _) (n := 3 * g.1 22 12) ?_ (fun k hk ih => ?_) 0 (Nat.zero_le _)
    · refine g_iload_n1 66 rfl dX9_talk_65 ?_
      refine g_iconst (v := 3) 67 rfl dX9_talk_66 (by decide) ?_
      refine g_aload_n0 68 rfl dX9_talk_67 ?_
      refine gf_Model_clauses 71 rfl fl_RX9_64 dX9_talk_68 ?_
      rw [sR_n (by decide), sR_n (by decide), tkN_6]
      refine gn_imul 72 rfl dX9_talk_71 ?_
      refine gn_icmp_ge 93 (by decide) 75 rfl dX9_talk_72 (by omega) (by omega) (fun c72 => ?_) (fun c72 => absurd c72 (Nat.lt_irrefl _))
      refine g_iconst (v := 0) 94 rfl dX9_talk_93 (by decide) ?_
      refine g_istore_n1 95 rfl dX9_talk_94 (by decide) rfl ?_
      skip
      change G V T0 6 RX9 cX9_talk 2 (some .int) 95 [some (rf V 22), some (.int (nI 0))] [] (tkA g) _
      have A28 : (tkA g).1 28 = g.1 28 := by unfold tkA; rw [sR_n (by decide), sR_n (by decide), tkN_o (by decide)]
      have A22 : (tkA g).1 22 = (tkN g).1 22 := by unfold tkA; rw [sR_n (by decide), sR_n (by decide)]
      have A32 : (tkA g).1 32 = g.1 32 := by unfold tkA; rw [sR_n (by decide), sR_n (by decide), tkN_o (by decide)]
      refine g_heap (show tkA g = sR (tkA g) 28 (tk28 g 0) from by rw [show tk28 g 0 = (tkA g).1 28 from (funext fun o => if_neg (by omega)).trans A28.symm, sR_same]) ?_
      refine loop_up (P := fun k => G V T0 6 RX9 cX9_talk 2 (some .int) 95 [some (rf V 22), some (.int (nI k))] [] (sR (tkA g) 28 (tk28 g k)) _) (n := 10) ?_ (fun k hk ih => ?_) 0 (Nat.zero_le _)
      · have hp := Nat.two_pow_pos (g.1 22 10)
        refine g_iload_n1 96 rfl dX9_talk_95 ?_
        refine g_bipush (v := 10) 98 rfl dX9_talk_96 (by decide) ?_
        refine gn_icmp_ge 114 (by decide) 101 rfl dX9_talk_98 (by omega) (by omega) (fun c98 => ?_) (fun c98 => absurd c98 (by omega))
        refine g_aload_n0 115 rfl dX9_talk_114 ?_
        refine gf_Model_page 118 rfl fl_RX9_25 dX9_talk_115 ?_
        refine g_iconst (v := 0) 119 rfl dX9_talk_118 (by decide) ?_
        refine g_aload_n0 120 rfl dX9_talk_119 ?_
        refine gf_Model_readHeat 123 rfl fl_RX9_90 dX9_talk_120 ?_
        rw [sR_n (by decide), A22, tkN_22 (by decide) (by decide)]
        refine gs_28 124 rfl (by omega) dX9_talk_123 ?_
        rw [sR_s, sR_sR]
        refine g_aload_n0 125 rfl dX9_talk_124 ?_
        refine gf_Model_page 128 rfl fl_RX9_25 dX9_talk_125 ?_
        refine g_iconst (v := 1) 129 rfl dX9_talk_128 (by decide) ?_
        refine g_aload_n0 130 rfl dX9_talk_129 ?_
        refine gf_Model_readSeed 133 rfl fl_RX9_93 dX9_talk_130 ?_
        rw [sR_n (by decide), A22, tkN_22 (by decide) (by decide)]
        refine gs_28 134 rfl (by omega) dX9_talk_133 ?_
        rw [sR_s, sR_sR]
        refine g_aload_n0 135 rfl dX9_talk_134 ?_
        refine gf_Model_page 138 rfl fl_RX9_25 dX9_talk_135 ?_
        refine g_bipush (v := 6) 140 rfl dX9_talk_138 (by decide) ?_
        refine g_iconst (v := 1) 141 rfl dX9_talk_140 (by decide) ?_
        refine g_aload_n0 142 rfl dX9_talk_141 ?_
        refine gf_Model_envoys 145 rfl fl_RX9_57 dX9_talk_142 ?_
        rw [sR_n (by decide), A22, tkN_4]
        refine gn_ishl 146 rfl dX9_talk_145 (by omega) ?_
        refine g_iconst (v := 1) 147 rfl dX9_talk_146 (by decide) ?_
        refine gn_isub 148 rfl dX9_talk_147 (by omega) ?_
        refine gs_28 149 rfl (by omega) dX9_talk_148 ?_
        rw [sR_s, sR_sR]
        refine g_aload_n0 150 rfl dX9_talk_149 ?_
        refine g_iconst (v := 0) 151 rfl dX9_talk_150 (by decide) ?_
        refine gp_Model_acts 154 rfl fl_RX9_103 dX9_talk_151 ?_
        rw [sR_n (by decide), A22]
        refine g_aload_n0 155 rfl dX9_talk_154 ?_
        refine gf_Model_isKept 158 rfl fl_RX9_37 dX9_talk_155 ?_
        refine g_iconst (v := 0) 159 rfl dX9_talk_158 (by decide) ?_
        refine g_iconst (v := 0) 160 rfl dX9_talk_159 (by decide) ?_
        refine gs_32 161 rfl (by omega) (by omega) dX9_talk_160 ?_
        rw [sR_n (show 32 ≠ 22 by decide), sR_n (show 32 ≠ 28 by decide), A32]
        refine g_aload_n0 162 rfl dX9_talk_161 ?_
        refine gf_Model_isKept 165 rfl fl_RX9_37 dX9_talk_162 ?_
        refine g_iconst (v := 1) 166 rfl dX9_talk_165 (by decide) ?_
        refine g_iconst (v := 0) 167 rfl dX9_talk_166 (by decide) ?_
        refine gs_32 168 rfl (by omega) (by omega) dX9_talk_167 ?_
        rw [sR_s, sR_sR]
        refine g_bipush (v := 10) 170 rfl dX9_talk_168 (by decide) ?_
        refine g_aload_n0 171 rfl dX9_talk_170 ?_
        refine gf_Model_envoys 174 rfl fl_RX9_57 dX9_talk_171 ?_
        rw [sR_n (by decide), sR_s, up_n (by decide), tkN_4]
        refine gn_imul 175 rfl dX9_talk_174 ?_
        refine g_aload_n0 176 rfl dX9_talk_175 ?_
        refine gf_Model_clauses 179 rfl fl_RX9_64 dX9_talk_176 ?_
        rw [sR_n (by decide), sR_s, up_n (by decide), tkN_6]
        refine gn_iadd 180 rfl dX9_talk_179 ?_
        refine g_iret .int dX9_talk_180 rfl (rfl) ?_
        refine ⟨rfl, ?_⟩
        unfold tkF
        refine congrArg (fun q => sR (sR (sR (tkA g) 28 q) 22 (up ((tkN g).1 22) 17 0)) 32 (up (up (g.1 32) 0 0) 1 0)) (funext fun o => ?_)
        have := ht.2.2.2.2.2.2 o
        simp only [layR, up, tk28]
        grind
      · refine g_iload_n1 96 rfl dX9_talk_95 ?_
        refine g_bipush (v := 10) 98 rfl dX9_talk_96 (by decide) ?_
        refine gn_icmp_ge 114 (by decide) 101 rfl dX9_talk_98 (by omega) (by omega) (fun c98 => absurd c98 (by omega)) (fun c98 => ?_)
        refine g_aload_n0 102 rfl dX9_talk_101 ?_
        refine gf_Model_page 105 rfl fl_RX9_25 dX9_talk_102 ?_
        refine g_iload_n1 106 rfl dX9_talk_105 ?_
        refine g_iconst (v := 0) 107 rfl dX9_talk_106 (by decide) ?_
        refine gs_28 108 rfl (by omega) dX9_talk_107 ?_
        refine gn_iinc1 1 111 rfl dX9_talk_108 rfl (by decide) rfl ?_
        refine g_goto 95 (by decide) dX9_talk_111 ?_
        rw [sR_s, sR_sR]
        refine g_heap (congrArg (sR (tkA g) 28) (funext fun o => ?_)) ih
        simp only [up, tk28]
        grind
    · refine g_iload_n1 66 rfl dX9_talk_65 ?_
      refine g_iconst (v := 3) 67 rfl dX9_talk_66 (by decide) ?_
      refine g_aload_n0 68 rfl dX9_talk_67 ?_
      refine gf_Model_clauses 71 rfl fl_RX9_64 dX9_talk_68 ?_
      rw [sR_n (by decide), sR_n (by decide), tkN_6]
      refine gn_imul 72 rfl dX9_talk_71 ?_
      refine gn_icmp_ge 93 (by decide) 75 rfl dX9_talk_72 (by omega) (by omega) (fun c72 => absurd c72 (by omega)) (fun c72 => ?_)
      refine g_aload_n0 76 rfl dX9_talk_75 ?_
      refine gf_Model_clause 79 rfl fl_RX9_16 dX9_talk_76 ?_
      refine g_iload_n1 80 rfl dX9_talk_79 ?_
      refine g_aload_n0 81 rfl dX9_talk_80 ?_
      refine gf_Model_readClause 84 rfl fl_RX9_22 dX9_talk_81 ?_
      refine g_iload_n1 85 rfl dX9_talk_84 ?_
      refine ga_27 86 rfl (by omega) dX9_talk_85 ?_
      rw [sR_n (by decide), sR_n (by decide), tkN_o (by decide)]
      refine gs_25 87 rfl (by omega) dX9_talk_86 ?_
      refine gn_iinc1 1 90 rfl dX9_talk_87 rfl (by decide) rfl ?_
      refine g_goto 65 (by decide) dX9_talk_90 ?_
      rw [sR_s, sR_sR]
      refine g_heap (congrArg (sR _ 25) (funext fun o => ?_)) ih
      simp only [up, tk25]
      grind
  · refine g_iload_n1 36 rfl dX9_talk_35 ?_
    refine g_iconst (v := 3) 37 rfl dX9_talk_36 (by decide) ?_
    refine g_aload_n0 38 rfl dX9_talk_37 ?_
    refine gf_Model_envoys 41 rfl fl_RX9_57 dX9_talk_38 ?_
    rw [sR_n (by decide), tkN_4]
    refine gn_imul 42 rfl dX9_talk_41 ?_
    refine gn_icmp_ge 63 (by decide) 45 rfl dX9_talk_42 (by omega) (by omega) (fun c42 => absurd c42 (by omega)) (fun c42 => ?_)
    refine g_aload_n0 46 rfl dX9_talk_45 ?_
    refine gf_Model_envoy 49 rfl fl_RX9_13 dX9_talk_46 ?_
    refine g_iload_n1 50 rfl dX9_talk_49 ?_
    refine g_aload_n0 51 rfl dX9_talk_50 ?_
    refine gf_Model_readEnvoy 54 rfl fl_RX9_19 dX9_talk_51 ?_
    refine g_iload_n1 55 rfl dX9_talk_54 ?_
    refine ga_26 56 rfl (by omega) dX9_talk_55 ?_
    rw [sR_n (by decide), tkN_o (by decide)]
    refine gs_24 57 rfl (by omega) dX9_talk_56 ?_
    refine gn_iinc1 1 60 rfl dX9_talk_57 rfl (by decide) rfl ?_
    refine g_goto 35 (by decide) dX9_talk_60 ?_
    rw [sR_s, sR_sR]
    refine g_heap (congrArg (sR _ 24) (funext fun o => ?_)) ih
    simp only [up, tk24]
    grind
theorem c_X9_talk_ok (z : Hp) (h0 : h.1 22 0 = 0) (hm : MI h) (hB : ∀ j, h.1 23 j ≤ 255) (hl : h.1 22 2 ≤ 48) (hf : Fine (h.1 23) (h.1 22 2)) : ∃ g, Rti V 6 yX9_talk cX9_talk 2 (some .int) [rf V 22] h (nI (10 * g.1 22 10 + g.1 22 12)) (tkF g) ∧ Rd h g ∧ RI z (h.1 23) ((h.1 22 2 - 3) / 4) g := by
  obtain ⟨g, M, r, k⟩ := c_X9_readTalk (V := V) z hB hl
  have k := k hf
  have hn := tlH_n (B := h.1 23) (h := z) ((h.1 22 2 - 3) / 4)
  have hK := c_X9_talk_17 (V := V) (g := g) (by rw [k.2.2.2.1]; exact hn.1) (by rw [k.2.2.2.2.1]; exact hn.2) (by rw [r.2.1 28 (by decide) (by decide) (by decide)]; exact hm.2.2.2.2.2.2.1)
  have hv := ffV_yes hf
  refine ⟨g, ?_, r, k⟩
  refine Mt_in [some (rf V 22), none] (own := RX9) rfl (by decide) (Nat.le_of_ble_eq_true rfl) (fun q hq => hq) ?_
  refine g_aload_n0 1 rfl dX9_talk_0 ?_
  refine g_iconst (v := 0) 2 rfl dX9_talk_1 (by decide) ?_
  refine gp_Model_thrown 5 rfl fl_RX9_53 dX9_talk_2 ?_
  rw [thr0 h0]
  refine g_aload_n0 6 rfl dX9_talk_5 ?_
  refine g_cv0i 9 rfl cw_RX9_99 dX9_talk_6 (M) (by omega) (ob_22 V) (Nat.le_of_ble_eq_true rfl) ?_
  rw [hv]
  refine g_bipush (v := 4294967287) 11 rfl dX9_talk_9 (by decide) ?_
  refine g_icmp_eq 17 (by decide) 14 rfl dX9_talk_11 (fun c11 => ?_) (fun c11 => absurd rfl c11)
  exact hK
end X9k
