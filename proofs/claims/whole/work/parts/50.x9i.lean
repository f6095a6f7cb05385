/-! the reference: reading the talk -/
def pl (h : Hp) (p : Nat) : Hp := sR h 22 (up (h.1 22) 3 p)
theorem pl_22 {h : Hp} {p o : Nat} (ho : o ≠ 3) : (pl h p).1 22 o = h.1 22 o := by
  unfold pl; rw [sR_s, up_n ho]
theorem pl_3 {h : Hp} {p : Nat} : (pl h p).1 22 3 = p := by
  unfold pl; rw [sR_s, up_s]
theorem pl_o {h : Hp} {p q : Nat} (hq : q ≠ 22) : (pl h p).1 q = h.1 q := sR_n hq
theorem pl_pl {h : Hp} {p q : Nat} : sR (pl h p) 22 (up ((pl h p).1 22) 3 q) = pl h q := by
  unfold pl; rw [sR_s, up_up, sR_sR]
theorem pl_0 (h : Hp) : pl h (h.1 22 3) = h := by
  unfold pl; rw [up_same, sR_same]
theorem ne9q {v : Nat} (hv : v ≤ 57) : ¬ nI (v - 48) = nI 4294967287 := fun q => by
  have w := congrArg Int32.toInt q
  rw [nI_toInt (by omega), show (nI 4294967287).toInt = -9 by decide +kernel] at w
  omega
section X9i
variable {V : Vt} {h : Hp}
theorem c_X9_figure_ok {p lo hi : Nat} (hlo : lo ≤ 9) (hhi : hi ≤ 9) (hp : p < h.1 22 2) (hl : h.1 22 2 ≤ 48) (hf : 48 + lo ≤ h.1 23 p ∧ h.1 23 p ≤ 48 + hi) : Rti V 2 yX9_figure cX9_figure 3 (some .int) [rf V 22, .int (nI lo), .int (nI hi)] (pl h p) (nI (h.1 23 p - 48)) (pl h (p + 1)) := by
  refine Mt_in [some (rf V 22), some (.int (nI lo)), some (.int (nI hi))] (own := RX9) rfl (by decide) (Nat.le_of_ble_eq_true rfl) (fun q hq => hq) ?_
  refine g_aload_n0 1 rfl dX9_figure_0 ?_
  refine gf_Model_place 4 rfl fl_RX9_72 dX9_figure_1 ?_
  refine g_aload_n0 5 rfl dX9_figure_4 ?_
  refine gf_Model_textSize 8 rfl fl_RX9_69 dX9_figure_5 ?_
  rw [pl_3, pl_22 (by decide)]
  refine gn_icmp_eq 34 (by decide) 11 rfl dX9_figure_8 (by omega) (by omega) (fun c8 => absurd c8 (by omega)) (fun c8 => ?_)
  refine g_aload_n0 12 rfl dX9_figure_11 ?_
  refine gf_Model_text 15 rfl fl_RX9_7 dX9_figure_12 ?_
  refine g_aload_n0 16 rfl dX9_figure_15 ?_
  refine gf_Model_place 19 rfl fl_RX9_72 dX9_figure_16 ?_
  rw [pl_3]
  refine ga_23 20 rfl (by omega) dX9_figure_19 ?_
  rw [pl_o (by decide)]
  refine g_bipush (v := 48) 22 rfl dX9_figure_20 (by decide) ?_
  refine g_isub 23 rfl dX9_figure_22  ?_
  refine g_i2l 24 rfl dX9_figure_23 ?_
  refine g_iload_n1 25 rfl dX9_figure_24 ?_
  refine g_i2l 26 rfl dX9_figure_25 ?_
  refine g_iload_n2 27 rfl dX9_figure_26 ?_
  refine g_i2l 28 rfl dX9_figure_27 ?_
  refine g_cs3i 31 rfl cw_RX9_60 dX9_figure_28 (c_X9_in) (by omega) (Nat.le_of_ble_eq_true rfl) ?_
  rw [if_pos ((in_f (by omega) (by omega) (by omega)).mpr hf)]
  refine gn_if_ne 37 (by decide) 34 rfl dX9_figure_31 (by omega) (fun c31 => ?_) (fun c31 => absurd c31 (by decide))
  refine g_aload_n0 38 rfl dX9_figure_37 ?_
  refine g_dup 39 rfl dX9_figure_38 rfl ?_
  refine gf_Model_place 42 rfl fl_RX9_72 dX9_figure_39 ?_
  rw [pl_3]
  refine g_iconst (v := 1) 43 rfl dX9_figure_42 (by decide) ?_
  refine gn_iadd 44 rfl dX9_figure_43 ?_
  refine gp_Model_place 47 rfl fl_RX9_72 dX9_figure_44 ?_
  rw [pl_pl]
  refine g_aload_n0 48 rfl dX9_figure_47 ?_
  refine gf_Model_text 51 rfl fl_RX9_7 dX9_figure_48 ?_
  refine g_aload_n0 52 rfl dX9_figure_51 ?_
  refine gf_Model_place 55 rfl fl_RX9_72 dX9_figure_52 ?_
  rw [pl_3]
  refine g_iconst (v := 1) 56 rfl dX9_figure_55 (by decide) ?_
  refine gn_isub 57 rfl dX9_figure_56 (by omega) ?_
  rw [show p + 1 - 1 = p by omega]
  refine ga_23 58 rfl (by omega) dX9_figure_57 ?_
  rw [pl_o (by decide)]
  refine g_bipush (v := 48) 60 rfl dX9_figure_58 (by decide) ?_
  refine gn_isub 61 rfl dX9_figure_60 (by omega) ?_
  refine g_iret .int dX9_figure_61 rfl (rfl) ?_
  exact ⟨rfl, rfl⟩
theorem c_X9_figure_no {p lo hi : Nat} (hlo : lo ≤ 9) (hhi : hi ≤ 9) (hp : p ≤ h.1 22 2) (hl : h.1 22 2 ≤ 48) (hB : ∀ j, h.1 23 j ≤ 255) (hf : p = h.1 22 2 ∨ ¬ (48 + lo ≤ h.1 23 p ∧ h.1 23 p ≤ 48 + hi)) : Rti V 2 yX9_figure cX9_figure 3 (some .int) [rf V 22, .int (nI lo), .int (nI hi)] (pl h p) (nI 4294967287) (pl h p) := by
  have hb := hB p
  refine Mt_in [some (rf V 22), some (.int (nI lo)), some (.int (nI hi))] (own := RX9) rfl (by decide) (Nat.le_of_ble_eq_true rfl) (fun q hq => hq) ?_
  by_cases q : p = h.1 22 2
  · refine g_aload_n0 1 rfl dX9_figure_0 ?_
    refine gf_Model_place 4 rfl fl_RX9_72 dX9_figure_1 ?_
    refine g_aload_n0 5 rfl dX9_figure_4 ?_
    refine gf_Model_textSize 8 rfl fl_RX9_69 dX9_figure_5 ?_
    rw [pl_3, pl_22 (by decide)]
    refine gn_icmp_eq 34 (by decide) 11 rfl dX9_figure_8 (by omega) (by omega) (fun c8 => ?_) (fun c8 => absurd q c8)
    refine g_bipush (v := 4294967287) 36 rfl dX9_figure_34 (by decide) ?_
    refine g_iret .int dX9_figure_36 rfl (rfl) ?_
    exact ⟨rfl, rfl⟩
  · have hf2 := hf.resolve_left q
    refine g_aload_n0 1 rfl dX9_figure_0 ?_
    refine gf_Model_place 4 rfl fl_RX9_72 dX9_figure_1 ?_
    refine g_aload_n0 5 rfl dX9_figure_4 ?_
    refine gf_Model_textSize 8 rfl fl_RX9_69 dX9_figure_5 ?_
    rw [pl_3, pl_22 (by decide)]
    refine gn_icmp_eq 34 (by decide) 11 rfl dX9_figure_8 (by omega) (by omega) (fun c8 => absurd c8 q) (fun c8 => ?_)
    refine g_aload_n0 12 rfl dX9_figure_11 ?_
    refine gf_Model_text 15 rfl fl_RX9_7 dX9_figure_12 ?_
    refine g_aload_n0 16 rfl dX9_figure_15 ?_
    refine gf_Model_place 19 rfl fl_RX9_72 dX9_figure_16 ?_
    rw [pl_3]
    refine ga_23 20 rfl (by omega) dX9_figure_19 ?_
    rw [pl_o (by decide)]
    refine g_bipush (v := 48) 22 rfl dX9_figure_20 (by decide) ?_
    refine g_isub 23 rfl dX9_figure_22  ?_
    refine g_i2l 24 rfl dX9_figure_23 ?_
    refine g_iload_n1 25 rfl dX9_figure_24 ?_
    refine g_i2l 26 rfl dX9_figure_25 ?_
    refine g_iload_n2 27 rfl dX9_figure_26 ?_
    refine g_i2l 28 rfl dX9_figure_27 ?_
    refine g_cs3i 31 rfl cw_RX9_60 dX9_figure_28 (c_X9_in) (by omega) (Nat.le_of_ble_eq_true rfl) ?_
    rw [if_neg (fun z => hf2 ((in_f (by omega) (by omega) (by omega)).mp z))]
    refine gn_if_ne 37 (by decide) 34 rfl dX9_figure_31 (by omega) (fun c31 => absurd rfl c31) (fun c31 => ?_)
    refine g_bipush (v := 4294967287) 36 rfl dX9_figure_34 (by decide) ?_
    refine g_iret .int dX9_figure_36 rfl (rfl) ?_
    exact ⟨rfl, rfl⟩
def rdE (h : Hp) (p : Nat) : Hp := sR (sR h 26 (up (up (up (h.1 26) (3 * h.1 22 10) (h.1 23 p - 48)) (3 * h.1 22 10 + 1) (h.1 23 (p + 1) - 48)) (3 * h.1 22 10 + 2) (h.1 23 (p + 2) - 48))) 22 (up (up (h.1 22) 3 (p + 3)) 10 (h.1 22 10 + 1))
def rdC (h : Hp) (p : Nat) : Hp := sR (sR h 27 (up (up (up (h.1 27) (3 * h.1 22 12) (h.1 23 p - 48)) (3 * h.1 22 12 + 1) (h.1 23 (p + 1) - 48)) (3 * h.1 22 12 + 2) (h.1 23 (p + 2) - 48))) 22 (up (up (h.1 22) 3 (p + 3)) 12 (h.1 22 12 + 1))
theorem fitE_1 {b : Nat} : fitE 1 b = true ↔ (48 + 0 ≤ b ∧ b ≤ 48 + 9) := by unfold fitE isFg; exact decide_eq_true_iff
theorem fitE_2 {b : Nat} : fitE 2 b = true ↔ (48 + 1 ≤ b ∧ b ≤ 48 + 9) := by unfold fitE isFg; exact decide_eq_true_iff
theorem fitE_3 {b : Nat} : fitE 3 b = true ↔ (48 + 0 ≤ b ∧ b ≤ 48 + 3) := by unfold fitE isFg; exact decide_eq_true_iff
theorem fitC_1 {b e : Nat} : fitC 1 b e = true ↔ (48 + 1 ≤ b ∧ b ≤ 48 + 4) := by unfold fitC isFg; exact decide_eq_true_iff
theorem fitC_2 {b e : Nat} : fitC 2 b e = true ↔ (48 + 0 ≤ b ∧ b ≤ 48 + 9) := by unfold fitC isFg; exact decide_eq_true_iff
theorem fitC_3 {b e : Nat} : fitC 3 b e = true ↔ (48 + 0 ≤ b ∧ b ≤ 48 + (e - 1)) := by unfold fitC isFg; exact decide_eq_true_iff
/-- how far a part's three figures fit -/
def Sto (F : Nat → Bool) (p len j : Nat) : Prop := (∀ i, i < j → p + i < len ∧ F i = true) ∧ (p + j = len ∨ (p + j < len ∧ F j = false))
theorem Sto_all (F : Nat → Bool) (p len : Nat) (hp : p ≤ len) : (∃ j, j < 3 ∧ Sto F p len j) ∨ (p + 3 ≤ len ∧ ∀ i, i < 3 → F i = true) := by
  have st : ∀ j, (∀ i, i < j → p + i < len ∧ F i = true) → p + j ≤ len → Sto F p len j ∨ (p + j < len ∧ F j = true) := by
    intro j hj hl
    by_cases q : p + j = len
    · exact .inl ⟨hj, .inl q⟩
    · cases hF : F j with
      | true => exact .inr ⟨by omega, rfl⟩
      | false => exact .inl ⟨hj, .inr ⟨by omega, hF⟩⟩
  rcases st 0 (fun i hi => absurd hi (by omega)) hp with a | a
  · exact .inl ⟨0, by omega, a⟩
  have a1 : ∀ i, i < 1 → p + i < len ∧ F i = true := fun i hi => by rw [show i = 0 by omega]; exact a
  rcases st 1 a1 (by omega) with b | b
  · exact .inl ⟨1, by omega, b⟩
  have a2 : ∀ i, i < 2 → p + i < len ∧ F i = true := fun i hi => by
    by_cases q : i = 1
    · rw [q]; exact b
    · exact a1 i (by omega)
  rcases st 2 a2 (by omega) with c | c
  · exact .inl ⟨2, by omega, c⟩
  refine .inr ⟨by omega, fun i hi => ?_⟩
  by_cases q : i = 2
  · rw [q]; exact c.2
  · exact (a2 i (by omega)).2
theorem c_X9_readEnvoy_ok {p : Nat} (hl : h.1 22 2 ≤ 48) (hn : h.1 22 10 < 4) (hp : p + 3 ≤ h.1 22 2) (hf : ∀ i, i < 3 → fitE (i + 1) (h.1 23 (p + i)) = true) : Rti V 3 yX9_readEnvoy cX9_readEnvoy 4 (some .boolean) [rf V 22] (pl h p) (nI 1) (rdE h p) := by
  have f0 : 48 + 0 ≤ h.1 23 p ∧ h.1 23 p ≤ 48 + 9 := fitE_1.mp (hf 0 (by omega))
  have f1 := fitE_2.mp (hf 1 (by omega))
  have f2 : 48 + 0 ≤ h.1 23 (p + 1 + 1) ∧ h.1 23 (p + 1 + 1) ≤ 48 + 3 := fitE_3.mp (hf 2 (by omega))
  refine Mt_in [some (rf V 22), none, none, none] (own := RX9) rfl (by decide) (Nat.le_of_ble_eq_true rfl) (fun q hq => hq) ?_
  refine g_aload_n0 1 rfl dX9_readEnvoy_0 ?_
  refine g_iconst (v := 0) 2 rfl dX9_readEnvoy_1 (by decide) ?_
  refine g_bipush (v := 9) 4 rfl dX9_readEnvoy_2 (by decide) ?_
  refine g_cv2i 7 rfl cw_RX9_75 dX9_readEnvoy_4 (c_X9_figure_ok (by omega) (by omega) (by omega) hl f0) (by omega) (ob_22 V) (Nat.le_of_ble_eq_true rfl) ?_
  refine g_istore_n1 8 rfl dX9_readEnvoy_7 (by decide) rfl ?_
  refine g_iload_n1 9 rfl dX9_readEnvoy_8 ?_
  refine g_bipush (v := 4294967287) 11 rfl dX9_readEnvoy_9 (by decide) ?_
  refine g_icmp_ne 19 (by decide) 14 rfl dX9_readEnvoy_11 (fun c11 => ?_) (fun c11 => absurd c11 (ne9q (by omega)))
  refine g_aload_n0 20 rfl dX9_readEnvoy_19 ?_
  refine g_iconst (v := 1) 21 rfl dX9_readEnvoy_20 (by decide) ?_
  refine g_bipush (v := 9) 23 rfl dX9_readEnvoy_21 (by decide) ?_
  refine g_cv2i 26 rfl cw_RX9_75 dX9_readEnvoy_23 (c_X9_figure_ok (by omega) (by omega) (by omega) hl f1) (by omega) (ob_22 V) (Nat.le_of_ble_eq_true rfl) ?_
  refine g_istore_n2 27 rfl dX9_readEnvoy_26 (by decide) rfl ?_
  refine g_iload_n2 28 rfl dX9_readEnvoy_27 ?_
  refine g_bipush (v := 4294967287) 30 rfl dX9_readEnvoy_28 (by decide) ?_
  refine g_icmp_ne 38 (by decide) 33 rfl dX9_readEnvoy_30 (fun c30 => ?_) (fun c30 => absurd c30 (ne9q (by omega)))
  refine g_aload_n0 39 rfl dX9_readEnvoy_38 ?_
  refine g_iconst (v := 0) 40 rfl dX9_readEnvoy_39 (by decide) ?_
  refine g_iconst (v := 3) 41 rfl dX9_readEnvoy_40 (by decide) ?_
  refine g_cv2i 44 rfl cw_RX9_75 dX9_readEnvoy_41 (c_X9_figure_ok (by omega) (by omega) (by omega) hl f2) (by omega) (ob_22 V) (Nat.le_of_ble_eq_true rfl) ?_
  refine g_istore_n3 45 rfl dX9_readEnvoy_44 (by decide) rfl ?_
  refine g_iload_n3 46 rfl dX9_readEnvoy_45 ?_
  refine g_bipush (v := 4294967287) 48 rfl dX9_readEnvoy_46 (by decide) ?_
  refine g_icmp_ne 53 (by decide) 51 rfl dX9_readEnvoy_48 (fun c48 => ?_) (fun c48 => absurd c48 (ne9q (by omega)))
  refine g_aload_n0 54 rfl dX9_readEnvoy_53 ?_
  refine gf_Model_readEnvoy 57 rfl fl_RX9_19 dX9_readEnvoy_54 ?_
  refine g_iconst (v := 3) 58 rfl dX9_readEnvoy_57 (by decide) ?_
  refine g_aload_n0 59 rfl dX9_readEnvoy_58 ?_
  refine gf_Model_readEnvoys 62 rfl fl_RX9_79 dX9_readEnvoy_59 ?_
  rw [pl_22 (by decide)]
  refine gn_imul 63 rfl dX9_readEnvoy_62 ?_
  refine g_iload_n1 64 rfl dX9_readEnvoy_63 ?_
  refine gs_26 65 rfl (by omega) dX9_readEnvoy_64 ?_
  rw [pl_o (by decide)]
  refine g_aload_n0 66 rfl dX9_readEnvoy_65 ?_
  refine gf_Model_readEnvoy 69 rfl fl_RX9_19 dX9_readEnvoy_66 ?_
  refine g_iconst (v := 3) 70 rfl dX9_readEnvoy_69 (by decide) ?_
  refine g_aload_n0 71 rfl dX9_readEnvoy_70 ?_
  refine gf_Model_readEnvoys 74 rfl fl_RX9_79 dX9_readEnvoy_71 ?_
  rw [sR_n (by decide), pl_22 (by decide)]
  refine gn_imul 75 rfl dX9_readEnvoy_74 ?_
  refine g_iconst (v := 1) 76 rfl dX9_readEnvoy_75 (by decide) ?_
  refine gn_iadd 77 rfl dX9_readEnvoy_76 ?_
  refine g_iload_n2 78 rfl dX9_readEnvoy_77 ?_
  refine gs_26 79 rfl (by omega) dX9_readEnvoy_78 ?_
  rw [sR_s, sR_sR]
  refine g_aload_n0 80 rfl dX9_readEnvoy_79 ?_
  refine gf_Model_readEnvoy 83 rfl fl_RX9_19 dX9_readEnvoy_80 ?_
  refine g_iconst (v := 3) 84 rfl dX9_readEnvoy_83 (by decide) ?_
  refine g_aload_n0 85 rfl dX9_readEnvoy_84 ?_
  refine gf_Model_readEnvoys 88 rfl fl_RX9_79 dX9_readEnvoy_85 ?_
  rw [sR_n (by decide), pl_22 (by decide)]
  refine gn_imul 89 rfl dX9_readEnvoy_88 ?_
  refine g_iconst (v := 2) 90 rfl dX9_readEnvoy_89 (by decide) ?_
  refine gn_iadd 91 rfl dX9_readEnvoy_90 ?_
  refine g_iload_n3 92 rfl dX9_readEnvoy_91 ?_
  refine gs_26 93 rfl (by omega) dX9_readEnvoy_92 ?_
  rw [sR_s, sR_sR]
  refine g_aload_n0 94 rfl dX9_readEnvoy_93 ?_
  refine g_dup 95 rfl dX9_readEnvoy_94 rfl ?_
  refine gf_Model_readEnvoys 98 rfl fl_RX9_79 dX9_readEnvoy_95 ?_
  rw [sR_n (by decide), pl_22 (by decide)]
  refine g_iconst (v := 1) 99 rfl dX9_readEnvoy_98 (by decide) ?_
  refine gn_iadd 100 rfl dX9_readEnvoy_99 ?_
  refine gp_Model_readEnvoys 103 rfl fl_RX9_79 dX9_readEnvoy_100 ?_
  refine g_iconst (v := 1) 104 rfl dX9_readEnvoy_103 (by decide) ?_
  refine g_iret .boolean dX9_readEnvoy_104 rfl (rfl) ?_
  refine ⟨rfl, ?_⟩
  unfold rdE
  rw [sR_n (show 22 ≠ 26 by decide)]
  unfold pl
  rw [sR_c _ (show 22 ≠ 26 by decide), sR_s, sR_sR]
theorem c_X9_readEnvoy_no {p j : Nat} (hl : h.1 22 2 ≤ 48) (hB : ∀ j, h.1 23 j ≤ 255) (hj : j < 3) (hs : Sto (fun i => fitE (i + 1) (h.1 23 (p + i))) p (h.1 22 2) j) : Rti V 3 yX9_readEnvoy cX9_readEnvoy 4 (some .boolean) [rf V 22] (pl h p) (nI 0) (pl h (p + j)) := by
  refine Mt_in [some (rf V 22), none, none, none] (own := RX9) rfl (by decide) (Nat.le_of_ble_eq_true rfl) (fun q hq => hq) ?_
  obtain ⟨hs1, hs2⟩ := hs
  have nf : ∀ {b : Bool} {P : Prop}, (b = true ↔ P) → b = false → ¬ P := fun e w z => by rw [e.mpr z] at w; cases w
  rcases (show j = 0 ∨ j = 1 ∨ j = 2 by omega) with rfl | rfl | rfl
  · have z : p = h.1 22 2 ∨ ¬ (48 + 0 ≤ h.1 23 p ∧ h.1 23 p ≤ 48 + 9) := hs2.imp id (fun w => nf fitE_1 w.2)
    refine g_aload_n0 1 rfl dX9_readEnvoy_0 ?_
    refine g_iconst (v := 0) 2 rfl dX9_readEnvoy_1 (by decide) ?_
    refine g_bipush (v := 9) 4 rfl dX9_readEnvoy_2 (by decide) ?_
    refine g_cv2i 7 rfl cw_RX9_75 dX9_readEnvoy_4 (c_X9_figure_no (by omega) (by omega) (by omega) hl hB z) (by omega) (ob_22 V) (Nat.le_of_ble_eq_true rfl) ?_
    refine g_istore_n1 8 rfl dX9_readEnvoy_7 (by decide) rfl ?_
    refine g_iload_n1 9 rfl dX9_readEnvoy_8 ?_
    refine g_bipush (v := 4294967287) 11 rfl dX9_readEnvoy_9 (by decide) ?_
    refine g_icmp_ne 19 (by decide) 14 rfl dX9_readEnvoy_11 (fun c11 => absurd rfl c11) (fun c11 => ?_)
    refine g_bipush (v := 4294967287) 16 rfl dX9_readEnvoy_14 (by decide) ?_
    refine g_goto 26 (by decide) dX9_readEnvoy_16 ?_
    refine g_istore_n2 27 rfl dX9_readEnvoy_26 (by decide) rfl ?_
    refine g_iload_n2 28 rfl dX9_readEnvoy_27 ?_
    refine g_bipush (v := 4294967287) 30 rfl dX9_readEnvoy_28 (by decide) ?_
    refine g_icmp_ne 38 (by decide) 33 rfl dX9_readEnvoy_30 (fun c30 => absurd rfl c30) (fun c30 => ?_)
    refine g_bipush (v := 4294967287) 35 rfl dX9_readEnvoy_33 (by decide) ?_
    refine g_goto 44 (by decide) dX9_readEnvoy_35 ?_
    refine g_istore_n3 45 rfl dX9_readEnvoy_44 (by decide) rfl ?_
    refine g_iload_n3 46 rfl dX9_readEnvoy_45 ?_
    refine g_bipush (v := 4294967287) 48 rfl dX9_readEnvoy_46 (by decide) ?_
    refine g_icmp_ne 53 (by decide) 51 rfl dX9_readEnvoy_48 (fun c48 => absurd rfl c48) (fun c48 => ?_)
    refine g_iconst (v := 0) 52 rfl dX9_readEnvoy_51 (by decide) ?_
    refine g_iret .boolean dX9_readEnvoy_52 rfl (rfl) ?_
    exact ⟨rfl, rfl⟩
  · have f0 : 48 + 0 ≤ h.1 23 p ∧ h.1 23 p ≤ 48 + 9 := fitE_1.mp (hs1 0 (by omega)).2
    have z : p + 1 = h.1 22 2 ∨ ¬ (48 + 1 ≤ h.1 23 (p + 1) ∧ h.1 23 (p + 1) ≤ 48 + 9) := hs2.imp id (fun w => nf fitE_2 w.2)
    refine g_aload_n0 1 rfl dX9_readEnvoy_0 ?_
    refine g_iconst (v := 0) 2 rfl dX9_readEnvoy_1 (by decide) ?_
    refine g_bipush (v := 9) 4 rfl dX9_readEnvoy_2 (by decide) ?_
    refine g_cv2i 7 rfl cw_RX9_75 dX9_readEnvoy_4 (c_X9_figure_ok (by omega) (by omega) (by have := hs1 0; omega) hl f0) (by omega) (ob_22 V) (Nat.le_of_ble_eq_true rfl) ?_
    refine g_istore_n1 8 rfl dX9_readEnvoy_7 (by decide) rfl ?_
    refine g_iload_n1 9 rfl dX9_readEnvoy_8 ?_
    refine g_bipush (v := 4294967287) 11 rfl dX9_readEnvoy_9 (by decide) ?_
    refine g_icmp_ne 19 (by decide) 14 rfl dX9_readEnvoy_11 (fun c11 => ?_) (fun c11 => absurd c11 (ne9q (by omega)))
    refine g_aload_n0 20 rfl dX9_readEnvoy_19 ?_
    refine g_iconst (v := 1) 21 rfl dX9_readEnvoy_20 (by decide) ?_
    refine g_bipush (v := 9) 23 rfl dX9_readEnvoy_21 (by decide) ?_
    refine g_cv2i 26 rfl cw_RX9_75 dX9_readEnvoy_23 (c_X9_figure_no (by omega) (by omega) (by omega) hl hB z) (by omega) (ob_22 V) (Nat.le_of_ble_eq_true rfl) ?_
    refine g_istore_n2 27 rfl dX9_readEnvoy_26 (by decide) rfl ?_
    refine g_iload_n2 28 rfl dX9_readEnvoy_27 ?_
    refine g_bipush (v := 4294967287) 30 rfl dX9_readEnvoy_28 (by decide) ?_
    refine g_icmp_ne 38 (by decide) 33 rfl dX9_readEnvoy_30 (fun c30 => absurd rfl c30) (fun c30 => ?_)
    refine g_bipush (v := 4294967287) 35 rfl dX9_readEnvoy_33 (by decide) ?_
    refine g_goto 44 (by decide) dX9_readEnvoy_35 ?_
    refine g_istore_n3 45 rfl dX9_readEnvoy_44 (by decide) rfl ?_
    refine g_iload_n3 46 rfl dX9_readEnvoy_45 ?_
    refine g_bipush (v := 4294967287) 48 rfl dX9_readEnvoy_46 (by decide) ?_
    refine g_icmp_ne 53 (by decide) 51 rfl dX9_readEnvoy_48 (fun c48 => absurd rfl c48) (fun c48 => ?_)
    refine g_iconst (v := 0) 52 rfl dX9_readEnvoy_51 (by decide) ?_
    refine g_iret .boolean dX9_readEnvoy_52 rfl (rfl) ?_
    exact ⟨rfl, rfl⟩
  · have f0 : 48 + 0 ≤ h.1 23 p ∧ h.1 23 p ≤ 48 + 9 := fitE_1.mp (hs1 0 (by omega)).2
    have f1 := fitE_2.mp (hs1 1 (by omega)).2
    have z : p + 2 = h.1 22 2 ∨ ¬ (48 + 0 ≤ h.1 23 (p + 2) ∧ h.1 23 (p + 2) ≤ 48 + 3) := hs2.imp id (fun w => nf fitE_3 w.2)
    refine g_aload_n0 1 rfl dX9_readEnvoy_0 ?_
    refine g_iconst (v := 0) 2 rfl dX9_readEnvoy_1 (by decide) ?_
    refine g_bipush (v := 9) 4 rfl dX9_readEnvoy_2 (by decide) ?_
    refine g_cv2i 7 rfl cw_RX9_75 dX9_readEnvoy_4 (c_X9_figure_ok (by omega) (by omega) (by have := hs1 0; omega) hl f0) (by omega) (ob_22 V) (Nat.le_of_ble_eq_true rfl) ?_
    refine g_istore_n1 8 rfl dX9_readEnvoy_7 (by decide) rfl ?_
    refine g_iload_n1 9 rfl dX9_readEnvoy_8 ?_
    refine g_bipush (v := 4294967287) 11 rfl dX9_readEnvoy_9 (by decide) ?_
    refine g_icmp_ne 19 (by decide) 14 rfl dX9_readEnvoy_11 (fun c11 => ?_) (fun c11 => absurd c11 (ne9q (by omega)))
    refine g_aload_n0 20 rfl dX9_readEnvoy_19 ?_
    refine g_iconst (v := 1) 21 rfl dX9_readEnvoy_20 (by decide) ?_
    refine g_bipush (v := 9) 23 rfl dX9_readEnvoy_21 (by decide) ?_
    refine g_cv2i 26 rfl cw_RX9_75 dX9_readEnvoy_23 (c_X9_figure_ok (by omega) (by omega) (by have := hs1 1; omega) hl f1) (by omega) (ob_22 V) (Nat.le_of_ble_eq_true rfl) ?_
    refine g_istore_n2 27 rfl dX9_readEnvoy_26 (by decide) rfl ?_
    refine g_iload_n2 28 rfl dX9_readEnvoy_27 ?_
    refine g_bipush (v := 4294967287) 30 rfl dX9_readEnvoy_28 (by decide) ?_
    refine g_icmp_ne 38 (by decide) 33 rfl dX9_readEnvoy_30 (fun c30 => ?_) (fun c30 => absurd c30 (ne9q (by omega)))
    refine g_aload_n0 39 rfl dX9_readEnvoy_38 ?_
    refine g_iconst (v := 0) 40 rfl dX9_readEnvoy_39 (by decide) ?_
    refine g_iconst (v := 3) 41 rfl dX9_readEnvoy_40 (by decide) ?_
    refine g_cv2i 44 rfl cw_RX9_75 dX9_readEnvoy_41 (c_X9_figure_no (by omega) (by omega) (by omega) hl hB z) (by omega) (ob_22 V) (Nat.le_of_ble_eq_true rfl) ?_
    refine g_istore_n3 45 rfl dX9_readEnvoy_44 (by decide) rfl ?_
    refine g_iload_n3 46 rfl dX9_readEnvoy_45 ?_
    refine g_bipush (v := 4294967287) 48 rfl dX9_readEnvoy_46 (by decide) ?_
    refine g_icmp_ne 53 (by decide) 51 rfl dX9_readEnvoy_48 (fun c48 => absurd rfl c48) (fun c48 => ?_)
    refine g_iconst (v := 0) 52 rfl dX9_readEnvoy_51 (by decide) ?_
    refine g_iret .boolean dX9_readEnvoy_52 rfl (rfl) ?_
    exact ⟨rfl, rfl⟩
theorem c_X9_readClause_ok {p : Nat} (hl : h.1 22 2 ≤ 48) (he : 0 < h.1 22 10 ∧ h.1 22 10 ≤ 4) (hn : h.1 22 12 < 5) (hp : p + 3 ≤ h.1 22 2) (hf : ∀ i, i < 3 → fitC (i + 1) (h.1 23 (p + i)) (h.1 22 10) = true) : Rti V 3 yX9_readClause cX9_readClause 4 (some .boolean) [rf V 22] (pl h p) (nI 1) (rdC h p) := by
  have f0 : 48 + 1 ≤ h.1 23 p ∧ h.1 23 p ≤ 48 + 4 := fitC_1.mp (hf 0 (by omega))
  have f1 := fitC_2.mp (hf 1 (by omega))
  have f2 : 48 + 0 ≤ h.1 23 (p + 1 + 1) ∧ h.1 23 (p + 1 + 1) ≤ 48 + (h.1 22 10 - 1) := fitC_3.mp (hf 2 (by omega))
  refine Mt_in [some (rf V 22), none, none, none] (own := RX9) rfl (by decide) (Nat.le_of_ble_eq_true rfl) (fun q hq => hq) ?_
  refine g_aload_n0 1 rfl dX9_readClause_0 ?_
  refine g_iconst (v := 1) 2 rfl dX9_readClause_1 (by decide) ?_
  refine g_iconst (v := 4) 3 rfl dX9_readClause_2 (by decide) ?_
  refine g_cv2i 6 rfl cw_RX9_75 dX9_readClause_3 (c_X9_figure_ok (by omega) (by omega) (by omega) hl f0) (by omega) (ob_22 V) (Nat.le_of_ble_eq_true rfl) ?_
  refine g_istore_n1 7 rfl dX9_readClause_6 (by decide) rfl ?_
  refine g_iload_n1 8 rfl dX9_readClause_7 ?_
  refine g_bipush (v := 4294967287) 10 rfl dX9_readClause_8 (by decide) ?_
  refine g_icmp_ne 18 (by decide) 13 rfl dX9_readClause_10 (fun c10 => ?_) (fun c10 => absurd c10 (ne9q (by omega)))
  refine g_aload_n0 19 rfl dX9_readClause_18 ?_
  refine g_iconst (v := 0) 20 rfl dX9_readClause_19 (by decide) ?_
  refine g_bipush (v := 9) 22 rfl dX9_readClause_20 (by decide) ?_
  refine g_cv2i 25 rfl cw_RX9_75 dX9_readClause_22 (c_X9_figure_ok (by omega) (by omega) (by omega) hl f1) (by omega) (ob_22 V) (Nat.le_of_ble_eq_true rfl) ?_
  refine g_istore_n2 26 rfl dX9_readClause_25 (by decide) rfl ?_
  refine g_iload_n2 27 rfl dX9_readClause_26 ?_
  refine g_bipush (v := 4294967287) 29 rfl dX9_readClause_27 (by decide) ?_
  refine g_icmp_ne 37 (by decide) 32 rfl dX9_readClause_29 (fun c29 => ?_) (fun c29 => absurd c29 (ne9q (by omega)))
  refine g_aload_n0 38 rfl dX9_readClause_37 ?_
  refine g_iconst (v := 0) 39 rfl dX9_readClause_38 (by decide) ?_
  refine g_aload_n0 40 rfl dX9_readClause_39 ?_
  refine gf_Model_readEnvoys 43 rfl fl_RX9_79 dX9_readClause_40 ?_
  rw [pl_22 (by decide)]
  refine g_iconst (v := 1) 44 rfl dX9_readClause_43 (by decide) ?_
  refine gn_isub 45 rfl dX9_readClause_44 (by omega) ?_
  refine g_cv2i 48 rfl cw_RX9_75 dX9_readClause_45 (c_X9_figure_ok (by omega) (by omega) (by omega) hl f2) (by omega) (ob_22 V) (Nat.le_of_ble_eq_true rfl) ?_
  refine g_istore_n3 49 rfl dX9_readClause_48 (by decide) rfl ?_
  refine g_iload_n3 50 rfl dX9_readClause_49 ?_
  refine g_bipush (v := 4294967287) 52 rfl dX9_readClause_50 (by decide) ?_
  refine g_icmp_ne 57 (by decide) 55 rfl dX9_readClause_52 (fun c52 => ?_) (fun c52 => absurd c52 (ne9q (by omega)))
  refine g_aload_n0 58 rfl dX9_readClause_57 ?_
  refine gf_Model_readClause 61 rfl fl_RX9_22 dX9_readClause_58 ?_
  refine g_iconst (v := 3) 62 rfl dX9_readClause_61 (by decide) ?_
  refine g_aload_n0 63 rfl dX9_readClause_62 ?_
  refine gf_Model_readClauses 66 rfl fl_RX9_82 dX9_readClause_63 ?_
  rw [pl_22 (by decide)]
  refine gn_imul 67 rfl dX9_readClause_66 ?_
  refine g_iload_n1 68 rfl dX9_readClause_67 ?_
  refine gs_27 69 rfl (by omega) dX9_readClause_68 ?_
  rw [pl_o (by decide)]
  refine g_aload_n0 70 rfl dX9_readClause_69 ?_
  refine gf_Model_readClause 73 rfl fl_RX9_22 dX9_readClause_70 ?_
  refine g_iconst (v := 3) 74 rfl dX9_readClause_73 (by decide) ?_
  refine g_aload_n0 75 rfl dX9_readClause_74 ?_
  refine gf_Model_readClauses 78 rfl fl_RX9_82 dX9_readClause_75 ?_
  rw [sR_n (by decide), pl_22 (by decide)]
  refine gn_imul 79 rfl dX9_readClause_78 ?_
  refine g_iconst (v := 1) 80 rfl dX9_readClause_79 (by decide) ?_
  refine gn_iadd 81 rfl dX9_readClause_80 ?_
  refine g_iload_n2 82 rfl dX9_readClause_81 ?_
  refine gs_27 83 rfl (by omega) dX9_readClause_82 ?_
  rw [sR_s, sR_sR]
  refine g_aload_n0 84 rfl dX9_readClause_83 ?_
  refine gf_Model_readClause 87 rfl fl_RX9_22 dX9_readClause_84 ?_
  refine g_iconst (v := 3) 88 rfl dX9_readClause_87 (by decide) ?_
  refine g_aload_n0 89 rfl dX9_readClause_88 ?_
  refine gf_Model_readClauses 92 rfl fl_RX9_82 dX9_readClause_89 ?_
  rw [sR_n (by decide), pl_22 (by decide)]
  refine gn_imul 93 rfl dX9_readClause_92 ?_
  refine g_iconst (v := 2) 94 rfl dX9_readClause_93 (by decide) ?_
  refine gn_iadd 95 rfl dX9_readClause_94 ?_
  refine g_iload_n3 96 rfl dX9_readClause_95 ?_
  refine gs_27 97 rfl (by omega) dX9_readClause_96 ?_
  rw [sR_s, sR_sR]
  refine g_aload_n0 98 rfl dX9_readClause_97 ?_
  refine g_dup 99 rfl dX9_readClause_98 rfl ?_
  refine gf_Model_readClauses 102 rfl fl_RX9_82 dX9_readClause_99 ?_
  rw [sR_n (by decide), pl_22 (by decide)]
  refine g_iconst (v := 1) 103 rfl dX9_readClause_102 (by decide) ?_
  refine gn_iadd 104 rfl dX9_readClause_103 ?_
  refine gp_Model_readClauses 107 rfl fl_RX9_82 dX9_readClause_104 ?_
  refine g_iconst (v := 1) 108 rfl dX9_readClause_107 (by decide) ?_
  refine g_iret .boolean dX9_readClause_108 rfl (rfl) ?_
  refine ⟨rfl, ?_⟩
  unfold rdC
  rw [sR_n (show 22 ≠ 27 by decide)]
  unfold pl
  rw [sR_c _ (show 22 ≠ 27 by decide), sR_s, sR_sR]
theorem c_X9_readClause_no {p j : Nat} (hl : h.1 22 2 ≤ 48) (hB : ∀ j, h.1 23 j ≤ 255) (he : 0 < h.1 22 10 ∧ h.1 22 10 ≤ 4) (hj : j < 3) (hs : Sto (fun i => fitC (i + 1) (h.1 23 (p + i)) (h.1 22 10)) p (h.1 22 2) j) : Rti V 3 yX9_readClause cX9_readClause 4 (some .boolean) [rf V 22] (pl h p) (nI 0) (pl h (p + j)) := by
  refine Mt_in [some (rf V 22), none, none, none] (own := RX9) rfl (by decide) (Nat.le_of_ble_eq_true rfl) (fun q hq => hq) ?_
  obtain ⟨hs1, hs2⟩ := hs
  have nf : ∀ {b : Bool} {P : Prop}, (b = true ↔ P) → b = false → ¬ P := fun e w z => by rw [e.mpr z] at w; cases w
  rcases (show j = 0 ∨ j = 1 ∨ j = 2 by omega) with rfl | rfl | rfl
  · have z : p = h.1 22 2 ∨ ¬ (48 + 1 ≤ h.1 23 p ∧ h.1 23 p ≤ 48 + 4) := hs2.imp id (fun w => nf fitC_1 w.2)
    refine g_aload_n0 1 rfl dX9_readClause_0 ?_
    refine g_iconst (v := 1) 2 rfl dX9_readClause_1 (by decide) ?_
    refine g_iconst (v := 4) 3 rfl dX9_readClause_2 (by decide) ?_
    refine g_cv2i 6 rfl cw_RX9_75 dX9_readClause_3 (c_X9_figure_no (by omega) (by omega) (by omega) hl hB z) (by omega) (ob_22 V) (Nat.le_of_ble_eq_true rfl) ?_
    refine g_istore_n1 7 rfl dX9_readClause_6 (by decide) rfl ?_
    refine g_iload_n1 8 rfl dX9_readClause_7 ?_
    refine g_bipush (v := 4294967287) 10 rfl dX9_readClause_8 (by decide) ?_
    refine g_icmp_ne 18 (by decide) 13 rfl dX9_readClause_10 (fun c10 => absurd rfl c10) (fun c10 => ?_)
    refine g_bipush (v := 4294967287) 15 rfl dX9_readClause_13 (by decide) ?_
    refine g_goto 25 (by decide) dX9_readClause_15 ?_
    refine g_istore_n2 26 rfl dX9_readClause_25 (by decide) rfl ?_
    refine g_iload_n2 27 rfl dX9_readClause_26 ?_
    refine g_bipush (v := 4294967287) 29 rfl dX9_readClause_27 (by decide) ?_
    refine g_icmp_ne 37 (by decide) 32 rfl dX9_readClause_29 (fun c29 => absurd rfl c29) (fun c29 => ?_)
    refine g_bipush (v := 4294967287) 34 rfl dX9_readClause_32 (by decide) ?_
    refine g_goto 48 (by decide) dX9_readClause_34 ?_
    refine g_istore_n3 49 rfl dX9_readClause_48 (by decide) rfl ?_
    refine g_iload_n3 50 rfl dX9_readClause_49 ?_
    refine g_bipush (v := 4294967287) 52 rfl dX9_readClause_50 (by decide) ?_
    refine g_icmp_ne 57 (by decide) 55 rfl dX9_readClause_52 (fun c52 => absurd rfl c52) (fun c52 => ?_)
    refine g_iconst (v := 0) 56 rfl dX9_readClause_55 (by decide) ?_
    refine g_iret .boolean dX9_readClause_56 rfl (rfl) ?_
    exact ⟨rfl, rfl⟩
  · have f0 : 48 + 1 ≤ h.1 23 p ∧ h.1 23 p ≤ 48 + 4 := fitC_1.mp (hs1 0 (by omega)).2
    have z : p + 1 = h.1 22 2 ∨ ¬ (48 + 0 ≤ h.1 23 (p + 1) ∧ h.1 23 (p + 1) ≤ 48 + 9) := hs2.imp id (fun w => nf fitC_2 w.2)
    refine g_aload_n0 1 rfl dX9_readClause_0 ?_
    refine g_iconst (v := 1) 2 rfl dX9_readClause_1 (by decide) ?_
    refine g_iconst (v := 4) 3 rfl dX9_readClause_2 (by decide) ?_
    refine g_cv2i 6 rfl cw_RX9_75 dX9_readClause_3 (c_X9_figure_ok (by omega) (by omega) (by have := hs1 0; omega) hl f0) (by omega) (ob_22 V) (Nat.le_of_ble_eq_true rfl) ?_
    refine g_istore_n1 7 rfl dX9_readClause_6 (by decide) rfl ?_
    refine g_iload_n1 8 rfl dX9_readClause_7 ?_
    refine g_bipush (v := 4294967287) 10 rfl dX9_readClause_8 (by decide) ?_
    refine g_icmp_ne 18 (by decide) 13 rfl dX9_readClause_10 (fun c10 => ?_) (fun c10 => absurd c10 (ne9q (by omega)))
    refine g_aload_n0 19 rfl dX9_readClause_18 ?_
    refine g_iconst (v := 0) 20 rfl dX9_readClause_19 (by decide) ?_
    refine g_bipush (v := 9) 22 rfl dX9_readClause_20 (by decide) ?_
    refine g_cv2i 25 rfl cw_RX9_75 dX9_readClause_22 (c_X9_figure_no (by omega) (by omega) (by omega) hl hB z) (by omega) (ob_22 V) (Nat.le_of_ble_eq_true rfl) ?_
    refine g_istore_n2 26 rfl dX9_readClause_25 (by decide) rfl ?_
    refine g_iload_n2 27 rfl dX9_readClause_26 ?_
    refine g_bipush (v := 4294967287) 29 rfl dX9_readClause_27 (by decide) ?_
    refine g_icmp_ne 37 (by decide) 32 rfl dX9_readClause_29 (fun c29 => absurd rfl c29) (fun c29 => ?_)
    refine g_bipush (v := 4294967287) 34 rfl dX9_readClause_32 (by decide) ?_
    refine g_goto 48 (by decide) dX9_readClause_34 ?_
    refine g_istore_n3 49 rfl dX9_readClause_48 (by decide) rfl ?_
    refine g_iload_n3 50 rfl dX9_readClause_49 ?_
    refine g_bipush (v := 4294967287) 52 rfl dX9_readClause_50 (by decide) ?_
    refine g_icmp_ne 57 (by decide) 55 rfl dX9_readClause_52 (fun c52 => absurd rfl c52) (fun c52 => ?_)
    refine g_iconst (v := 0) 56 rfl dX9_readClause_55 (by decide) ?_
    refine g_iret .boolean dX9_readClause_56 rfl (rfl) ?_
    exact ⟨rfl, rfl⟩
  · have f0 : 48 + 1 ≤ h.1 23 p ∧ h.1 23 p ≤ 48 + 4 := fitC_1.mp (hs1 0 (by omega)).2
    have f1 := fitC_2.mp (hs1 1 (by omega)).2
    have z : p + 2 = h.1 22 2 ∨ ¬ (48 + 0 ≤ h.1 23 (p + 2) ∧ h.1 23 (p + 2) ≤ 48 + (h.1 22 10 - 1)) := hs2.imp id (fun w => nf fitC_3 w.2)
    refine g_aload_n0 1 rfl dX9_readClause_0 ?_
    refine g_iconst (v := 1) 2 rfl dX9_readClause_1 (by decide) ?_
    refine g_iconst (v := 4) 3 rfl dX9_readClause_2 (by decide) ?_
    refine g_cv2i 6 rfl cw_RX9_75 dX9_readClause_3 (c_X9_figure_ok (by omega) (by omega) (by have := hs1 0; omega) hl f0) (by omega) (ob_22 V) (Nat.le_of_ble_eq_true rfl) ?_
    refine g_istore_n1 7 rfl dX9_readClause_6 (by decide) rfl ?_
    refine g_iload_n1 8 rfl dX9_readClause_7 ?_
    refine g_bipush (v := 4294967287) 10 rfl dX9_readClause_8 (by decide) ?_
    refine g_icmp_ne 18 (by decide) 13 rfl dX9_readClause_10 (fun c10 => ?_) (fun c10 => absurd c10 (ne9q (by omega)))
    refine g_aload_n0 19 rfl dX9_readClause_18 ?_
    refine g_iconst (v := 0) 20 rfl dX9_readClause_19 (by decide) ?_
    refine g_bipush (v := 9) 22 rfl dX9_readClause_20 (by decide) ?_
    refine g_cv2i 25 rfl cw_RX9_75 dX9_readClause_22 (c_X9_figure_ok (by omega) (by omega) (by have := hs1 1; omega) hl f1) (by omega) (ob_22 V) (Nat.le_of_ble_eq_true rfl) ?_
    refine g_istore_n2 26 rfl dX9_readClause_25 (by decide) rfl ?_
    refine g_iload_n2 27 rfl dX9_readClause_26 ?_
    refine g_bipush (v := 4294967287) 29 rfl dX9_readClause_27 (by decide) ?_
    refine g_icmp_ne 37 (by decide) 32 rfl dX9_readClause_29 (fun c29 => ?_) (fun c29 => absurd c29 (ne9q (by omega)))
    refine g_aload_n0 38 rfl dX9_readClause_37 ?_
    refine g_iconst (v := 0) 39 rfl dX9_readClause_38 (by decide) ?_
    refine g_aload_n0 40 rfl dX9_readClause_39 ?_
    refine gf_Model_readEnvoys 43 rfl fl_RX9_79 dX9_readClause_40 ?_
    rw [pl_22 (by decide)]
    refine g_iconst (v := 1) 44 rfl dX9_readClause_43 (by decide) ?_
    refine gn_isub 45 rfl dX9_readClause_44 (by omega) ?_
    refine g_cv2i 48 rfl cw_RX9_75 dX9_readClause_45 (c_X9_figure_no (by omega) (by omega) (by omega) hl hB z) (by omega) (ob_22 V) (Nat.le_of_ble_eq_true rfl) ?_
    refine g_istore_n3 49 rfl dX9_readClause_48 (by decide) rfl ?_
    refine g_iload_n3 50 rfl dX9_readClause_49 ?_
    refine g_bipush (v := 4294967287) 52 rfl dX9_readClause_50 (by decide) ?_
    refine g_icmp_ne 57 (by decide) 55 rfl dX9_readClause_52 (fun c52 => absurd rfl c52) (fun c52 => ?_)
    refine g_iconst (v := 0) 56 rfl dX9_readClause_55 (by decide) ?_
    refine g_iret .boolean dX9_readClause_56 rfl (rfl) ?_
    exact ⟨rfl, rfl⟩
end X9i
