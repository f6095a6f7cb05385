/-! MustardTreaty$Search -/
def lpN (f : Nat → Hp → Hp) (s : Hp) : Nat → Hp
  | 0 => s
  | n + 1 => f n (lpN f s n)
def gtB (w b : Nat) : Bool := decide (b = 4294967295 ∨ b < w)
def goF (rec : Nat → Nat → Nat → Hp → Hp) (tk row w c : Nat) (g : Hp) : Hp :=
  if bt (g.1 19 3) c = 0 then g else if canB (g.1 3 3) (g.1 7) (g.1 (tr (tk + 18))) c then rec (tk + 1) (10 * row + c + 1) (w + wrth (g.1 7) c) (sR g (tr (tk + 1 + 18)) (bindR (g.1 (tr (tk + 18))) c)) else g
def goH : Nat → Nat → Nat → Nat → Hp → Hp
  | 0, _, row, w, h => if gtB w (h.1 19 4) then sR h 19 (up (up (h.1 19) 4 w) 5 row) else h
  | r + 1, tk, row, w, h => lpN (goF (goH r) tk row w) (goH r (tk + 1) (10 * row) w (sR h (tr (tk + 1 + 18)) (bite (h.1 4) (h.1 3 2) (h.1 (tr (tk + 18)))))) (h.1 3 3)
def hbp (h : Hp) : Prop := h.1 19 4 = 4294967295 ∨ h.1 19 4 < 2 ^ 31
/-- what a search leaves as it was: all but the tables from k on, and what was found -/
def Kp (k : Nat) (h g : Hp) : Prop := (∀ q, q ≠ 19 → (∀ j, k ≤ j → q ≠ tr j) → g.1 q = h.1 q) ∧ g.1 19 2 = h.1 19 2 ∧ g.1 19 3 = h.1 19 3 ∧ g.2 = h.2 ∧ XI g ∧ hbp g
theorem Kp_rf {k : Nat} {h : Hp} (hx : XI h) (hb : hbp h) : Kp k h h := ⟨fun _ _ _ => rfl, rfl, rfl, rfl, hx, hb⟩
theorem Kp_tr {k : Nat} {h g e : Hp} (h1 : Kp k h g) (h2 : Kp k g e) : Kp k h e :=
  ⟨fun q a b => (h2.1 q a b).trans (h1.1 q a b), h2.2.1.trans h1.2.1, h2.2.2.1.trans h1.2.2.1, h2.2.2.2.1.trans h1.2.2.2.1, h2.2.2.2.2.1, h2.2.2.2.2.2⟩
theorem Kp_le {k k' : Nat} {h g : Hp} (h1 : Kp k h g) (hk : k' ≤ k) : Kp k' h g := ⟨fun q a b => h1.1 q a (fun j hj => b j (by omega)), h1.2⟩
theorem Kp_lo {k : Nat} {h g : Hp} (h1 : Kp k h g) {q : Nat} (hq : q < 100) (h19 : q ≠ 19) : g.1 q = h.1 q := h1.1 q h19 (fun j _ => tr_hi hq)
theorem Kp_t {k i : Nat} {h g : Hp} (h1 : Kp k h g) (hi : i < k) : g.1 (tr i) = h.1 (tr i) := h1.1 (tr i) (fun q => tr_hi (i := i) (by decide) q.symm) (fun j hj => tr_ne (by omega))
theorem Kp_put {k i : Nat} {h : Hp} {f : Nat → Nat} (hx : XI h) (hb : hbp h) (hf : TI f) (hi : k ≤ i) : Kp k h (sR h (tr i) f) := by
  refine ⟨fun q a b => sR_n (b i hi), by rw [sR_lt (by decide)], by rw [sR_lt (by decide)], rfl, XI_tr hx hf, ?_⟩
  unfold hbp
  rw [sR_lt (by decide)]; exact hb
theorem wrth_le {h : Hp} (hx : XI h) (c : Nat) : wrth (h.1 7) c ≤ 18 := by
  have := hx.2.2.2.2.1 (3 * c)
  have := hx.2.2.2.2.1 (3 * c + 1)
  unfold wrth; omega
theorem lpN_kp {k : Nat} {f : Nat → Hp → Hp} {s : Hp} {n : Nat} (hs : XI s) (hb : hbp s) (hf : ∀ c g, c < n → XI g → hbp g → Kp k g (f c g)) : ∀ c, c ≤ n → Kp k s (lpN f s c)
  | 0, _ => Kp_rf hs hb
  | c + 1, hc => by
    have ih := lpN_kp hs hb hf c (by omega)
    exact Kp_tr ih (hf c _ (by omega) ih.2.2.2.2.1 ih.2.2.2.2.2)
theorem goF_kp {rec : Nat → Nat → Nat → Hp → Hp} {tk row w c : Nat} {W : Nat} (hw : w + 18 < 2 ^ 31 - W) (hrec : ∀ row' w' g, XI g → hbp g → w' < 2 ^ 31 - W → Kp (tk + 1 + 18) g (rec (tk + 1) row' w' g)) (hc : c < 5) {g : Hp} (hx : XI g) (hb : hbp g) : Kp (tk + 1 + 18) g (goF rec tk row w c g) := by
  unfold goF
  split
  · exact Kp_rf hx hb
  · split
    · have hp := Kp_put (k := tk + 1 + 18) (i := tk + 1 + 18) hx hb (TI_bind (hx.2.2.2.2.2.2 (tk + 18)) hc) (Nat.le_refl _)
      exact Kp_tr hp (hrec _ _ _ hp.2.2.2.2.1 hp.2.2.2.2.2 (by have := wrth_le hx c; omega))
    · exact Kp_rf hx hb
theorem goH_kp : ∀ (r tk row w : Nat) (h : Hp), XI h → hbp h → w < 2 ^ 31 - 18 * r → Kp (tk + 1 + 18) h (goH r tk row w h)
  | 0, tk, row, w, h, hx, hb, hw => by
    unfold goH
    split
    · refine ⟨fun q a b => sR_n a, by rw [sR_s, up_n (by decide), up_n (by decide)], by rw [sR_s, up_n (by decide), up_n (by decide)], rfl, XI_o hx _ (by decide) (by decide) (by decide) (by decide), Or.inr ?_⟩
      rw [sR_s, up_n (by decide), up_s]; omega
    · exact Kp_rf hx hb
  | r + 1, tk, row, w, h, hx, hb, hw => by
    have hp := Kp_put (k := tk + 1 + 18) (i := tk + 1 + 18) hx hb (TI_bite (hx.2.2.2.2.2.2 (tk + 18)) hx.2.2.1 hx.1) (Nat.le_refl _)
    have h1 := Kp_tr hp (Kp_le (goH_kp r (tk + 1) (10 * row) w _ hp.2.2.2.2.1 hp.2.2.2.2.2 (by omega)) (by omega))
    have h2 : ∀ c, c ≤ h.1 3 3 → Kp (tk + 1 + 18) _ (lpN (goF (goH r) tk row w) _ c) := lpN_kp (k := tk + 1 + 18) (f := goF (goH r) tk row w) (n := h.1 3 3) h1.2.2.2.2.1 h1.2.2.2.2.2 (fun c g hc hxg hbg => goF_kp (W := 18 * r) (by omega) (fun row' w' g' hx' hb' hw' => Kp_le (goH_kp r (tk + 1) row' w' g' hx' hb' hw') (by omega)) (by have := hx.2.1; omega) hxg hbg)
    exact Kp_tr h1 (h2 _ (Nat.le_refl _))
theorem gt_le {w b : Nat} (hw : w < 2 ^ 31) (hb : b = 4294967295 ∨ b < 2 ^ 31) : (nI w ≤ nI b → gtB w b = false) ∧ (¬ nI w ≤ nI b → gtB w b = true) := by
  rcases hb with rfl | hb
  · have h1 : ¬ nI w ≤ nI 4294967295 := by
      rw [Int32.le_iff_toInt_le, nI_toInt hw, show (nI 4294967295).toInt = -1 by decide +kernel]; omega
    exact ⟨fun q => absurd q h1, fun _ => decide_eq_true (Or.inl rfl)⟩
  · rw [nI_leI hw hb]
    exact ⟨fun q => decide_eq_false (by omega), fun q => decide_eq_true (by omega)⟩
section X3
variable {V : Vt}
theorem c_X3_goOn : ∀ (r tk row w : Nat) (h : Hp), XI h → hbp h → h.1 19 3 < 2 ^ 31 → h.1 19 2 = tk + r → tk + r ≤ 5 → w < 2 ^ 31 - 18 * r → Rtv V (4 + r) yX3_goOn cX3_goOn 7 none [rf V 19, .int (nI tk), .int (nI row), .int (nI w)] h (goH r tk row w h)
  | 0, tk, row, w, h, hx, hb, ha, ht, h5, hw => by
    have hg := gt_le (w := w) (b := h.1 19 4) (by omega) hb
    refine Mt_in [some (rf V 19), some (.int (nI tk)), some (.int (nI row)), some (.int (nI w)), none, none, none] (own := RX3) rfl (by decide) (Nat.le_of_ble_eq_true rfl) (fun q hq => hq) ?_
    refine g_iload_n1 1 rfl dX3_goOn_0 ?_
    refine g_aload_n0 2 rfl dX3_goOn_1 ?_
    refine gf_Search_turns 5 rfl fl_RX3_30 dX3_goOn_2 ?_
    refine gn_icmp_ge 13 (by decide) 8 rfl dX3_goOn_5 (by omega) (by omega) (fun c5 => ?_) (fun c5 => absurd c5 (by omega))
    refine g_iload_n3 14 rfl dX3_goOn_13 ?_
    refine g_aload_n0 15 rfl dX3_goOn_14 ?_
    refine gf_Search_bestWorth 18 rfl fl_RX3_37 dX3_goOn_15 ?_
    refine g_icmp_le 31 (by decide) 21 rfl dX3_goOn_18 (fun c18 => ?_) (fun c18 => ?_)
    · refine g_vret dX3_goOn_31 rfl ?_
      refine ⟨rfl, ?_⟩
      unfold goH
      first | (rw [if_neg (by rw [hg.1 c18]; decide)]) | (rw [if_pos (hg.2 c18)]; rw [sR_s, sR_sR])
    · refine g_aload_n0 22 rfl dX3_goOn_21 ?_
      refine g_iload_n3 23 rfl dX3_goOn_22 ?_
      refine gp_Search_bestWorth 26 rfl fl_RX3_37 dX3_goOn_23 ?_
      refine g_aload_n0 27 rfl dX3_goOn_26 ?_
      refine g_iload_n2 28 rfl dX3_goOn_27 ?_
      refine gp_Search_bestRow 31 rfl fl_RX3_40 dX3_goOn_28 ?_
      refine g_vret dX3_goOn_31 rfl ?_
      refine ⟨rfl, ?_⟩
      unfold goH
      first | (rw [if_neg (by rw [hg.1 c18]; decide)]) | (rw [if_pos (hg.2 c18)]; rw [sR_s, sR_sR])
  | r + 1, tk, row, w, h, hx, hb, ha, ht, h5, hw => by
    obtain ⟨hE, hC, x4, x5, x7, x8, hTT⟩ := id hx
    have hp := Kp_put (k := tk + 1 + 18) (i := tk + 1 + 18) hx hb (TI_bite (hTT (tk + 18)) x4 hE) (Nat.le_refl _)
    have h0 := goH_kp r (tk + 1) (10 * row) w _ hp.2.2.2.2.1 hp.2.2.2.2.2 (by omega)
    have h1 := Kp_tr hp (Kp_le h0 (by omega))
    have h2 : ∀ c, c ≤ h.1 3 3 → Kp (tk + 1 + 18) _ (lpN (goF (goH r) tk row w) _ c) := lpN_kp (k := tk + 1 + 18) (f := goF (goH r) tk row w) (n := h.1 3 3) h1.2.2.2.2.1 h1.2.2.2.2.2 (fun c g hc hxg hbg => goF_kp (W := 18 * r) (by omega) (fun row' w' g' hx' hb' hw' => Kp_le (goH_kp r (tk + 1) row' w' g' hx' hb' hw') (by omega)) (by omega) hxg hbg)
    refine Mt_in [some (rf V 19), some (.int (nI tk)), some (.int (nI row)), some (.int (nI w)), none, none, none] (own := RX3) rfl (by decide) (Nat.le_of_ble_eq_true rfl) (fun q hq => hq) ?_
    refine g_iload_n1 1 rfl dX3_goOn_0 ?_
    refine g_aload_n0 2 rfl dX3_goOn_1 ?_
    refine gf_Search_turns 5 rfl fl_RX3_30 dX3_goOn_2 ?_
    refine gn_icmp_ge 13 (by decide) 8 rfl dX3_goOn_5 (by omega) (by omega) (fun c5 => absurd c5 (by omega)) (fun c5 => ?_)
    refine g_iload_n1 9 rfl dX3_goOn_8 ?_
    refine g_iconst (v := 5) 10 rfl dX3_goOn_9 (by decide) ?_
    refine gn_icmp_lt 32 (by decide) 13 rfl dX3_goOn_10 (by omega) (by omega) (fun c10 => ?_) (fun c10 => absurd c10 (by omega))
    refine g_aload_n0 33 rfl dX3_goOn_32 ?_
    refine gf_Search_behind 36 rfl fl_RX3_13 dX3_goOn_33 ?_
    refine g_iload_n1 37 rfl dX3_goOn_36 ?_
    refine ga_20 38 rfl (by omega) dX3_goOn_37 ?_
    refine g_astore4 40 rfl dX3_goOn_38 (by decide) rfl ?_
    refine g_aload_n0 41 rfl dX3_goOn_40 ?_
    refine gf_Search_behind 44 rfl fl_RX3_13 dX3_goOn_41 ?_
    refine g_iload_n1 45 rfl dX3_goOn_44 ?_
    refine g_iconst (v := 1) 46 rfl dX3_goOn_45 (by decide) ?_
    refine gn_iadd 47 rfl dX3_goOn_46 ?_
    refine ga_20 48 rfl (by omega) dX3_goOn_47 ?_
    refine g_astore5 50 rfl dX3_goOn_48 (by decide) rfl ?_
    refine g_aload5 52 rfl dX3_goOn_50 ?_
    refine g_aload4 54 rfl dX3_goOn_52 ?_
    refine g_cv1v 57 rfl cw_RX3_43 dX3_goOn_54 (c_X7_copyFrom (by omega) (by omega) (by omega) hx) (by omega) (ob_tb V (by omega)) (Nat.le_of_ble_eq_true rfl) ?_
    refine g_aload5 59 rfl dX3_goOn_57 ?_
    refine g_cv0v 62 rfl cw_RX3_51 dX3_goOn_59 (c_X7_takeBite (by omega) (XI_tr hx (hTT _))) (by omega) (ob_tb V (by omega)) (Nat.le_of_ble_eq_true rfl) ?_
    rw [sR_sR, sR_s, sR_t4, sR_t3]
    refine g_aload_n0 63 rfl dX3_goOn_62 ?_
    refine g_iload_n1 64 rfl dX3_goOn_63 ?_
    refine g_iconst (v := 1) 65 rfl dX3_goOn_64 (by decide) ?_
    refine gn_iadd 66 rfl dX3_goOn_65 ?_
    refine g_bipush (v := 10) 68 rfl dX3_goOn_66 (by decide) ?_
    refine g_iload_n2 69 rfl dX3_goOn_68 ?_
    refine gn_imul 70 rfl dX3_goOn_69 ?_
    refine g_iload_n3 71 rfl dX3_goOn_70 ?_
    refine g_cv3v 74 rfl cw_RX3_47 dX3_goOn_71 (c_X3_goOn r (tk + 1) _ w _ hp.2.2.2.2.1 hp.2.2.2.2.2 (by rw [hp.2.2.1]; exact ha) (by rw [hp.2.1]; omega) (by omega) (by omega)) (by omega) (ob_19 V) (Nat.le_of_ble_eq_true rfl) ?_
    refine g_iconst (v := 0) 75 rfl dX3_goOn_74 (by decide) ?_
    refine g_istore6 77 rfl dX3_goOn_75 (by decide) rfl ?_
    skip
    refine loop_up (P := fun c => G V T0 (4 + (r + 1)) RX3 cX3_goOn 7 none 77 [some (rf V 19), some (.int (nI tk)), some (.int (nI row)), some (.int (nI w)), some (rf V (tb (tk + 18))), some (rf V (tb (tk + 1 + 18))), some (.int (nI c))] [] (lpN (goF (goH r) tk row w) (goH r (tk + 1) (10 * row) w (sR h (tr (tk + 1 + 18)) (bite (h.1 4) (h.1 3 2) (h.1 (tr (tk + 18)))))) c) _) (n := h.1 3 3) ?_ (fun c hc ih => ?_) 0 (Nat.zero_le _)
    · have h3 := h2 _ (Nat.le_refl _)
      have e3 := Kp_lo (Kp_tr h1 h3) (q := 3) (by decide) (by decide)
      refine g_iload6 79 rfl dX3_goOn_77 ?_
      refine g_aload_n0 80 rfl dX3_goOn_79 ?_
      refine gf_Search_rules 83 rfl fl_RX3_17 dX3_goOn_80 ?_
      refine gf_Rules_clauses 86 rfl fl_RX3_54 dX3_goOn_83 ?_
      rw [e3]
      refine gn_icmp_ge 158 (by decide) 89 rfl dX3_goOn_86 (by omega) (by omega) (fun c86 => ?_) (fun c86 => absurd c86 (Nat.lt_irrefl _))
      refine g_vret dX3_goOn_158 rfl ?_
      exact ⟨rfl, rfl⟩
    · have h3 := h2 c (Nat.le_of_lt hc)
      have h4 := Kp_tr h1 h3
      have e3 := Kp_lo h4 (q := 3) (by decide) (by decide)
      have e7 := Kp_lo h4 (q := 7) (by decide) (by decide)
      have eT := Kp_t h4 (i := tk + 18) (by omega)
      change G V T0 (4 + (r + 1)) RX3 cX3_goOn 7 none 77 _ [] (goF (goH r) tk row w c (lpN (goF (goH r) tk row w) _ c)) _ at ih
      generalize lpN (goF (goH r) tk row w) _ c = g at h3 h4 e3 e7 eT ih ⊢
      have hxg := h4.2.2.2.2.1
      have hbg := h4.2.2.2.2.2
      have hwl := wrth_le hxg c
      refine g_iload6 79 rfl dX3_goOn_77 ?_
      refine g_aload_n0 80 rfl dX3_goOn_79 ?_
      refine gf_Search_rules 83 rfl fl_RX3_17 dX3_goOn_80 ?_
      refine gf_Rules_clauses 86 rfl fl_RX3_54 dX3_goOn_83 ?_
      rw [e3]
      refine gn_icmp_ge 158 (by decide) 89 rfl dX3_goOn_86 (by omega) (by omega) (fun c86 => absurd c86 (Nat.not_le_of_lt hc)) (fun c86 => ?_)
      refine g_aload_n0 90 rfl dX3_goOn_89 ?_
      refine gf_Search_allowed 93 rfl fl_RX3_34 dX3_goOn_90 ?_
      refine g_iload6 95 rfl dX3_goOn_93 ?_
      refine gn_ishr 96 rfl dX3_goOn_95 (by rw [h4.2.2.1]; exact ha) (by omega) ?_
      refine g_iconst (v := 1) 97 rfl dX3_goOn_96 (by decide) ?_
      refine gn_iand 98 rfl dX3_goOn_97 ?_
      refine gn_if_eq 152 (by decide) 101 rfl dX3_goOn_98 (Nat.lt_of_lt_of_le (bt_lt _ _) (by omega)) (fun c98 => ?_) (fun c98 => ?_)
      · refine gn_iinc6 1 155 rfl dX3_goOn_152 rfl (by decide) rfl ?_
        refine g_goto 77 (by decide) dX3_goOn_155 ?_
        first | (rw [show goF (goH r) tk row w c g = g from if_pos c98] at ih; exact ih) | (rw [show goF (goH r) tk row w c g = g from (if_neg c98).trans (if_neg (by simpa using c108))] at ih; exact ih) | (rw [show goF (goH r) tk row w c g = _ from (if_neg c98).trans (if_pos (by simpa using c108))] at ih; exact ih)
      · refine g_aload4 103 rfl dX3_goOn_101 ?_
        refine g_iload6 105 rfl dX3_goOn_103 ?_
        refine g_cv1i 108 rfl cw_RX3_59 dX3_goOn_105 (c_X7_canBeSaid (by omega) hxg (by omega)) (by omega) (ob_tb V (by omega)) (Nat.le_of_ble_eq_true rfl) ?_
        refine gn_if_eq 152 (by decide) 111 rfl dX3_goOn_108 (Nat.lt_of_lt_of_le (Bool.toNat_lt _) (by omega)) (fun c108 => ?_) (fun c108 => ?_)
        · refine gn_iinc6 1 155 rfl dX3_goOn_152 rfl (by decide) rfl ?_
          refine g_goto 77 (by decide) dX3_goOn_155 ?_
          first | (rw [show goF (goH r) tk row w c g = g from if_pos c98] at ih; exact ih) | (rw [show goF (goH r) tk row w c g = g from (if_neg c98).trans (if_neg (by simpa using c108))] at ih; exact ih) | (rw [show goF (goH r) tk row w c g = _ from (if_neg c98).trans (if_pos (by simpa using c108))] at ih; exact ih)
        · refine g_aload5 113 rfl dX3_goOn_111 ?_
          refine g_aload4 115 rfl dX3_goOn_113 ?_
          refine g_cv1v 118 rfl cw_RX3_43 dX3_goOn_115 (c_X7_copyFrom (by omega) (by omega) (by omega) hxg) (by omega) (ob_tb V (by omega)) (Nat.le_of_ble_eq_true rfl) ?_
          refine g_aload5 120 rfl dX3_goOn_118 ?_
          refine g_iload6 122 rfl dX3_goOn_120 ?_
          refine g_cv1v 125 rfl cw_RX3_63 dX3_goOn_122 (c_X7_bind (by omega) (by omega)) (by omega) (ob_tb V (by omega)) (Nat.le_of_ble_eq_true rfl) ?_
          rw [sR_sR, sR_s]
          refine g_aload_n0 126 rfl dX3_goOn_125 ?_
          refine g_iload_n1 127 rfl dX3_goOn_126 ?_
          refine g_iconst (v := 1) 128 rfl dX3_goOn_127 (by decide) ?_
          refine gn_iadd 129 rfl dX3_goOn_128 ?_
          refine g_bipush (v := 10) 131 rfl dX3_goOn_129 (by decide) ?_
          refine g_iload_n2 132 rfl dX3_goOn_131 ?_
          refine gn_imul 133 rfl dX3_goOn_132 ?_
          refine g_iload6 135 rfl dX3_goOn_133 ?_
          refine gn_iadd 136 rfl dX3_goOn_135 ?_
          refine g_iconst (v := 1) 137 rfl dX3_goOn_136 (by decide) ?_
          refine gn_iadd 138 rfl dX3_goOn_137 ?_
          refine g_iload_n3 139 rfl dX3_goOn_138 ?_
          refine g_aload_n0 140 rfl dX3_goOn_139 ?_
          refine gf_Search_rules 143 rfl fl_RX3_17 dX3_goOn_140 ?_
          refine g_iload6 145 rfl dX3_goOn_143 ?_
          refine g_cv1i 148 rfl cw_RX3_67 dX3_goOn_145 (c_X1_worth (by omega)) (by omega) (ob_3 V) (Nat.le_of_ble_eq_true rfl) ?_
          rw [sR_t7]
          refine gn_iadd 149 rfl dX3_goOn_148 ?_
          refine g_cv3v 152 rfl cw_RX3_47 dX3_goOn_149 (c_X3_goOn r (tk + 1) _ _ _ (XI_tr hxg (TI_bind (hxg.2.2.2.2.2.2 _) (by omega))) (by unfold hbp; rw [sR_lt (by decide)]; exact hbg) (by rw [sR_lt (by decide), h4.2.2.1]; exact ha) (by rw [sR_lt (by decide), h4.2.1]; omega) (by omega) (by omega)) (by omega) (ob_19 V) (Nat.le_of_ble_eq_true rfl) ?_
          refine gn_iinc6 1 155 rfl dX3_goOn_152 rfl (by decide) rfl ?_
          refine g_goto 77 (by decide) dX3_goOn_155 ?_
          first | (rw [show goF (goH r) tk row w c g = g from if_pos c98] at ih; exact ih) | (rw [show goF (goH r) tk row w c g = g from (if_neg c98).trans (if_neg (by simpa using c108))] at ih; exact ih) | (rw [show goF (goH r) tk row w c g = _ from (if_neg c98).trans (if_pos (by simpa using c108))] at ih; exact ih)
def mstS (h : Hp) (n a : Nat) : Hp := sR (sR h 19 (up (up (up (up (h.1 19) 2 n) 3 a) 4 4294967295) 5 1)) (tr 18) (h.1 (tr 0))
def mstH (h : Hp) (n a : Nat) : Hp := goH n 0 1 0 (mstS h n a)
theorem mstS_ok {h : Hp} (hx : XI h) (n a : Nat) : XI (mstS h n a) ∧ hbp (mstS h n a) ∧ (mstS h n a).1 19 3 = a ∧ (mstS h n a).1 19 2 = n := by
  have h1 : XI (sR h 19 (up (up (up (up (h.1 19) 2 n) 3 a) 4 4294967295) 5 1)) := XI_o hx _ (by decide) (by decide) (by decide) (by decide)
  refine ⟨XI_tr h1 (hx.2.2.2.2.2.2 0), Or.inl ?_, ?_, ?_⟩
  · unfold mstS; rw [sR_lt (by decide), sR_s, up_n (by decide), up_s]
  · unfold mstS; rw [sR_lt (by decide), sR_s, up_n (by decide), up_n (by decide), up_s]
  · unfold mstS; rw [sR_lt (by decide), sR_s, up_n (by decide), up_n (by decide), up_n (by decide), up_s]
theorem c_X3_mostBy {h : Hp} {n a : Nat} (hx : XI h) (hn : n ≤ 5) (ha : a < 2 ^ 31) : Rti V 10 yX3_mostBy cX3_mostBy 4 (some .int) [rf V 19, rf V (tb 0), .int (nI n), .int (nI a)] h (nI ((mstH h n a).1 19 4)) (mstH h n a) := by
  obtain ⟨o1, o2, o3, o4⟩ := mstS_ok hx n a
  refine Mt_in [some (rf V 19), some (rf V (tb 0)), some (.int (nI n)), some (.int (nI a))] (own := RX3) rfl (by decide) (Nat.le_of_ble_eq_true rfl) (fun q hq => hq) ?_
  refine g_aload_n0 1 rfl dX3_mostBy_0 ?_
  refine g_iload_n2 2 rfl dX3_mostBy_1 ?_
  refine g_iconst (v := 5) 3 rfl dX3_mostBy_2 (by decide) ?_
  refine gn_min 6 rfl ml_RX3_24 dX3_mostBy_3 (by omega) (by omega) (by decide) (Nat.le_of_ble_eq_true rfl) ?_
  rw [Nat.min_eq_left hn]
  refine gp_Search_turns 9 rfl fl_RX3_30 dX3_mostBy_6 ?_
  refine g_aload_n0 10 rfl dX3_mostBy_9 ?_
  refine g_iload_n3 11 rfl dX3_mostBy_10 ?_
  refine gp_Search_allowed 14 rfl fl_RX3_34 dX3_mostBy_11 ?_
  refine g_aload_n0 15 rfl dX3_mostBy_14 ?_
  refine g_iconst (v := 4294967295) 16 rfl dX3_mostBy_15 (by decide) ?_
  refine gp_Search_bestWorth 19 rfl fl_RX3_37 dX3_mostBy_16 ?_
  refine g_aload_n0 20 rfl dX3_mostBy_19 ?_
  refine g_iconst (v := 1) 21 rfl dX3_mostBy_20 (by decide) ?_
  refine gp_Search_bestRow 24 rfl fl_RX3_40 dX3_mostBy_21 ?_
  simp only [sR_s, sR_sR]
  refine g_aload_n0 25 rfl dX3_mostBy_24 ?_
  refine gf_Search_behind 28 rfl fl_RX3_13 dX3_mostBy_25 ?_
  refine g_iconst (v := 0) 29 rfl dX3_mostBy_28 (by decide) ?_
  refine ga_20 30 rfl (by omega) dX3_mostBy_29 ?_
  refine g_aload_n1 31 rfl dX3_mostBy_30 ?_
  refine g_cv1v 34 rfl cw_RX3_43 dX3_mostBy_31 (c_X7_copyFrom (b := 0) (by omega) (by omega) (by omega) (XI_o hx _ (by decide) (by decide) (by decide) (by decide))) (by omega) (ob_tb V (by omega)) (Nat.le_of_ble_eq_true rfl) ?_
  rw [sR_tl (by decide)]
  refine g_aload_n0 35 rfl dX3_mostBy_34 ?_
  refine g_iconst (v := 0) 36 rfl dX3_mostBy_35 (by decide) ?_
  refine g_iconst (v := 1) 37 rfl dX3_mostBy_36 (by decide) ?_
  refine g_iconst (v := 0) 38 rfl dX3_mostBy_37 (by decide) ?_
  refine g_cv3v 41 rfl cw_RX3_47 dX3_mostBy_38 (c_X3_goOn n 0 1 0 (mstS h n a) o1 o2 (by rw [o3]; exact ha) (by rw [o4]; omega) (by omega) (by omega)) (by omega) (ob_19 V) (Nat.le_of_ble_eq_true rfl) ?_
  refine g_aload_n0 42 rfl dX3_mostBy_41 ?_
  refine gf_Search_bestWorth 45 rfl fl_RX3_37 dX3_mostBy_42 ?_
  refine g_iret .int dX3_mostBy_45 rfl (rfl) ?_
  exact ⟨rfl, rfl⟩
end X3
