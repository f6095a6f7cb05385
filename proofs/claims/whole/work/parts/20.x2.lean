/-! MustardTreaty$Script; and Rules.addEnvoy, addClause -/
def isFg (b lo hi : Nat) : Bool := decide (48 + lo ≤ b ∧ b ≤ 48 + hi)
def fitE (k b : Nat) : Bool := if k = 1 then isFg b 0 9 else if k = 2 then isFg b 1 9 else isFg b 0 3
def fitC (k b e : Nat) : Bool := if k = 1 then isFg b 1 4 else if k = 2 then isFg b 0 9 else isFg b 0 (e - 1)
def fitP (B : Nat → Nat) (p e c : Nat) : Bool :=
  if p = 0 then decide (B p = 77) else if p < 3 then isFg (B p) 0 9 else
  if (p - 3) % 4 = 0 then decide ((B p = 69 ∧ e < 4) ∨ (B p = 67 ∧ c < 5 ∧ 0 < e))
  else if B (p - (p - 3) % 4) = 69 then fitE ((p - 3) % 4) (B p) else fitC ((p - 3) % 4) (B p) e
def endP (p : Nat) : Bool := decide (3 ≤ p ∧ (p - 3) % 4 = 3)
def cntE (B : Nat → Nat) : Nat → Nat
  | 0 => 0
  | p + 1 => if endP p then (if B (p - 3) = 69 then cntE B p + 1 else cntE B p) else cntE B p
def cntC (B : Nat → Nat) : Nat → Nat
  | 0 => 0
  | p + 1 => if endP p then (if B (p - 3) = 69 then cntC B p else cntC B p + 1) else cntC B p
def ffr (B : Nat → Nat) : Nat → Option Nat
  | 0 => none
  | p + 1 => match ffr B p with
    | some q => some q
    | none => if fitP B p (cntE B p) (cntC B p) then none else some p
def ffV (B : Nat → Nat) (len : Nat) : Nat := match ffr B len with
  | some q => q
  | none => if 3 ≤ len ∧ (len - 3) % 4 = 0 then 4294967287 else len
theorem ffr_mono {B : Nat → Nat} {p q : Nat} (h : ffr B p = some q) : ∀ n, p ≤ n → ffr B n = some q
  | 0, hn => by rw [show p = 0 by omega] at h; exact h
  | n + 1, hn => by
    by_cases w : p = n + 1
    · rw [← w]; exact h
    · have := ffr_mono h n (by omega)
      simp only [ffr, this]
theorem ffr_none {B : Nat → Nat} : ∀ {p : Nat}, ffr B p = none → ∀ q, q < p → fitP B q (cntE B q) (cntC B q) = true
  | 0, _, q, hq => absurd hq (by omega)
  | p + 1, h, q, hq => by
    have h0 : ffr B p = none := by
      cases hz : ffr B p with
      | none => rfl
      | some z => simp only [ffr, hz] at h; cases h
    by_cases w : q = p
    · subst w
      simp only [ffr, h0] at h
      by_cases f : fitP B q (cntE B q) (cntC B q) = true
      · exact f
      · rw [if_neg f] at h; cases h
    · exact ffr_none h0 q (by omega)
theorem cntE_le {B : Nat → Nat} : ∀ p, cntE B p ≤ p
  | 0 => Nat.le_refl _
  | p + 1 => by
    have := cntE_le (B := B) p
    unfold cntE
    split
    · split <;> omega
    · omega
theorem cntC_le {B : Nat → Nat} : ∀ p, cntC B p ≤ p
  | 0 => Nat.le_refl _
  | p + 1 => by
    have := cntC_le (B := B) p
    unfold cntC
    split
    · split <;> omega
    · omega
theorem cntE_mono {B : Nat → Nat} {q : Nat} : ∀ p, q ≤ p → cntE B q ≤ cntE B p
  | 0, h => by rw [show q = 0 by omega]; exact Nat.le_refl _
  | p + 1, h => by
    by_cases w : q = p + 1
    · rw [w]; exact Nat.le_refl _
    · have := cntE_mono (B := B) (q := q) p (by omega)
      have : cntE B p ≤ cntE B (p + 1) := by
        conv => rhs; unfold cntE
        split
        · split <;> omega
        · omega
      omega
theorem cntE_pos {B : Nat → Nat} {p : Nat} (h : ffr B p = none) (h3 : 3 ≤ p) (hm : ¬ (p - 3) % 4 = 0) (hb : ¬ B (p - (p - 3) % 4) = 69) : 1 ≤ cntE B p := by
  have hf := ffr_none h (p - (p - 3) % 4) (by omega)
  have hmo := cntE_mono (B := B) (q := p - (p - 3) % 4) p (by omega)
  unfold fitP at hf
  rw [if_neg (by omega), if_neg (by omega), if_pos (by omega)] at hf
  have := of_decide_eq_true hf
  omega
def addE (g : Hp) (a b c : Nat) : Hp := if g.1 3 2 < 4 then sR (sR g 4 (up (up (up (g.1 4) (3 * g.1 3 2) a) (3 * g.1 3 2 + 1) b) (3 * g.1 3 2 + 2) c)) 3 (up (g.1 3) 2 (g.1 3 2 + 1)) else g
def addC (g : Hp) (a b c : Nat) : Hp := if g.1 3 3 < 5 then sR (sR g 7 (up (up (up (g.1 7) (3 * g.1 3 3) a) (3 * g.1 3 3 + 1) b) (3 * g.1 3 3 + 2) c)) 3 (up (g.1 3) 3 (g.1 3 3 + 1)) else g
def tlH (B : Nat → Nat) (h : Hp) : Nat → Hp
  | 0 => sR h 3 (up (up (up (up (h.1 3) 0 (B 1 - 48)) 1 (B 2 - 48)) 2 0) 3 0)
  | k + 1 => if B (4 * k + 3) = 69 then addE (tlH B h k) (B (4 * k + 3 + 1) - 48) (B (4 * k + 3 + 2) - 48) (B (4 * k + 3 + 3) - 48) else addC (tlH B h k) (B (4 * k + 3 + 1) - 48) (B (4 * k + 3 + 2) - 48) (B (4 * k + 3 + 3) - 48)
section X2
variable {V : Vt} {h : Hp}
theorem c_X1_addEnvoy {a b c : Nat} (hn : h.1 3 2 < 2 ^ 31) : Rtv V 1 yX1_addEnvoy cX1_addEnvoy 4 none [rf V 3, .int (nI a), .int (nI b), .int (nI c)] h (addE h a b c) := by
  refine Mt_in [some (rf V 3), some (.int (nI a)), some (.int (nI b)), some (.int (nI c))] (own := RX1) rfl (by decide) (Nat.le_of_ble_eq_true rfl) (fun q hq => hq) ?_
  refine g_aload_n0 1 rfl dX1_addEnvoy_0 ?_
  refine gf_Rules_envoys 4 rfl fl_RX1_37 dX1_addEnvoy_1 ?_
  refine g_iconst (v := 4) 5 rfl dX1_addEnvoy_4 (by decide) ?_
  refine gn_icmp_ge 48 (by decide) 8 rfl dX1_addEnvoy_5 (by omega) (by omega) (fun c5 => ?_) (fun c5 => ?_)
  · refine g_vret dX1_addEnvoy_48 rfl ?_
    refine ⟨rfl, ?_⟩
    unfold addE
    first | (rw [if_neg (by omega)]) | (rw [if_pos (by omega)]; rfl)
  · refine g_aload_n0 9 rfl dX1_addEnvoy_8 ?_
    refine gf_Rules_palate 12 rfl fl_RX1_9 dX1_addEnvoy_9 ?_
    refine g_aload_n0 13 rfl dX1_addEnvoy_12 ?_
    refine gf_Rules_envoys 16 rfl fl_RX1_37 dX1_addEnvoy_13 ?_
    refine g_iload_n1 17 rfl dX1_addEnvoy_16 ?_
    refine gs_4 18 rfl (by omega) dX1_addEnvoy_17 ?_
    skip
    refine g_aload_n0 19 rfl dX1_addEnvoy_18 ?_
    refine gf_Rules_wits 22 rfl fl_RX1_15 dX1_addEnvoy_19 ?_
    refine g_aload_n0 23 rfl dX1_addEnvoy_22 ?_
    refine gf_Rules_envoys 26 rfl fl_RX1_37 dX1_addEnvoy_23 ?_
    refine g_iload_n2 27 rfl dX1_addEnvoy_26 ?_
    refine gs_5 28 rfl (show h.1 3 2 < 4 by omega) dX1_addEnvoy_27 ?_
    rw [sR_s, sR_sR]
    refine g_aload_n0 29 rfl dX1_addEnvoy_28 ?_
    refine gf_Rules_kind 32 rfl fl_RX1_18 dX1_addEnvoy_29 ?_
    refine g_aload_n0 33 rfl dX1_addEnvoy_32 ?_
    refine gf_Rules_envoys 36 rfl fl_RX1_37 dX1_addEnvoy_33 ?_
    refine g_iload_n3 37 rfl dX1_addEnvoy_36 ?_
    refine gs_6 38 rfl (show h.1 3 2 < 4 by omega) dX1_addEnvoy_37 ?_
    rw [sR_s, sR_sR]
    refine g_aload_n0 39 rfl dX1_addEnvoy_38 ?_
    refine g_dup 40 rfl dX1_addEnvoy_39 rfl ?_
    refine gf_Rules_envoys 43 rfl fl_RX1_37 dX1_addEnvoy_40 ?_
    refine g_iconst (v := 1) 44 rfl dX1_addEnvoy_43 (by decide) ?_
    refine gn_iadd 45 rfl dX1_addEnvoy_44 ?_
    refine gp_Rules_envoys 48 rfl fl_RX1_37 dX1_addEnvoy_45 ?_
    refine g_vret dX1_addEnvoy_48 rfl ?_
    refine ⟨rfl, ?_⟩
    unfold addE
    first | (rw [if_neg (by omega)]) | (rw [if_pos (by omega)]; rfl)
theorem c_X1_addClause {a b c : Nat} (hn : h.1 3 3 < 2 ^ 31) : Rtv V 1 yX1_addClause cX1_addClause 4 none [rf V 3, .int (nI a), .int (nI b), .int (nI c)] h (addC h a b c) := by
  refine Mt_in [some (rf V 3), some (.int (nI a)), some (.int (nI b)), some (.int (nI c))] (own := RX1) rfl (by decide) (Nat.le_of_ble_eq_true rfl) (fun q hq => hq) ?_
  refine g_aload_n0 1 rfl dX1_addClause_0 ?_
  refine gf_Rules_clauses 4 rfl fl_RX1_40 dX1_addClause_1 ?_
  refine g_iconst (v := 5) 5 rfl dX1_addClause_4 (by decide) ?_
  refine gn_icmp_ge 48 (by decide) 8 rfl dX1_addClause_5 (by omega) (by omega) (fun c5 => ?_) (fun c5 => ?_)
  · refine g_vret dX1_addClause_48 rfl ?_
    refine ⟨rfl, ?_⟩
    unfold addC
    first | (rw [if_neg (by omega)]) | (rw [if_pos (by omega)]; rfl)
  · refine g_aload_n0 9 rfl dX1_addClause_8 ?_
    refine gf_Rules_words 12 rfl fl_RX1_21 dX1_addClause_9 ?_
    refine g_aload_n0 13 rfl dX1_addClause_12 ?_
    refine gf_Rules_clauses 16 rfl fl_RX1_40 dX1_addClause_13 ?_
    refine g_iload_n1 17 rfl dX1_addClause_16 ?_
    refine gs_7 18 rfl (by omega) dX1_addClause_17 ?_
    refine g_aload_n0 19 rfl dX1_addClause_18 ?_
    refine gf_Rules_heatNeeded 22 rfl fl_RX1_24 dX1_addClause_19 ?_
    refine g_aload_n0 23 rfl dX1_addClause_22 ?_
    refine gf_Rules_clauses 26 rfl fl_RX1_40 dX1_addClause_23 ?_
    refine g_iload_n2 27 rfl dX1_addClause_26 ?_
    refine gs_8 28 rfl (show h.1 3 3 < 5 by omega) dX1_addClause_27 ?_
    rw [sR_s, sR_sR]
    refine g_aload_n0 29 rfl dX1_addClause_28 ?_
    refine gf_Rules_owner 32 rfl fl_RX1_27 dX1_addClause_29 ?_
    refine g_aload_n0 33 rfl dX1_addClause_32 ?_
    refine gf_Rules_clauses 36 rfl fl_RX1_40 dX1_addClause_33 ?_
    refine g_iload_n3 37 rfl dX1_addClause_36 ?_
    refine gs_9 38 rfl (show h.1 3 3 < 5 by omega) dX1_addClause_37 ?_
    rw [sR_s, sR_sR]
    refine g_aload_n0 39 rfl dX1_addClause_38 ?_
    refine g_dup 40 rfl dX1_addClause_39 rfl ?_
    refine gf_Rules_clauses 43 rfl fl_RX1_40 dX1_addClause_40 ?_
    refine g_iconst (v := 1) 44 rfl dX1_addClause_43 (by decide) ?_
    refine gn_iadd 45 rfl dX1_addClause_44 ?_
    refine gp_Rules_clauses 48 rfl fl_RX1_40 dX1_addClause_45 ?_
    refine g_vret dX1_addClause_48 rfl ?_
    refine ⟨rfl, ?_⟩
    unfold addC
    first | (rw [if_neg (by omega)]) | (rw [if_pos (by omega)]; rfl)
theorem c_X2_append {b : Nat} (hn : h.1 1 0 < 48) : Rtv V 1 yX2_append cX2_append 2 none [rf V 1, .int (nI b)] h (sR (sR h 2 (up (h.1 2) (h.1 1 0) b)) 1 (up (h.1 1) 0 (h.1 1 0 + 1))) := by
  refine Mt_in [some (rf V 1), some (.int (nI b))] (own := RX2) rfl (by decide) (Nat.le_of_ble_eq_true rfl) (fun q hq => hq) ?_
  refine g_aload_n0 1 rfl dX2_append_0 ?_
  refine gf_Script_length 4 rfl fl_RX2_15 dX2_append_1 ?_
  refine g_bipush (v := 48) 6 rfl dX2_append_4 (by decide) ?_
  refine gn_icmp_ge 29 (by decide) 9 rfl dX2_append_6 (by omega) (by omega) (fun c6 => absurd c6 (by omega)) (fun c6 => ?_)
  refine g_aload_n0 10 rfl dX2_append_9 ?_
  refine gf_Script_bytes 13 rfl fl_RX2_9 dX2_append_10 ?_
  refine g_aload_n0 14 rfl dX2_append_13 ?_
  refine gf_Script_length 17 rfl fl_RX2_15 dX2_append_14 ?_
  refine g_iload_n1 18 rfl dX2_append_17 ?_
  refine gs_2 19 rfl (by omega) dX2_append_18 ?_
  refine g_aload_n0 20 rfl dX2_append_19 ?_
  refine g_dup 21 rfl dX2_append_20 rfl ?_
  refine gf_Script_length 24 rfl fl_RX2_15 dX2_append_21 ?_
  refine g_iconst (v := 1) 25 rfl dX2_append_24 (by decide) ?_
  refine gn_iadd 26 rfl dX2_append_25 ?_
  refine gp_Script_length 29 rfl fl_RX2_15 dX2_append_26 ?_
  refine g_vret dX2_append_29 rfl ?_
  exact ⟨rfl, rfl⟩
theorem c_X2_isFigure {b lo hi : Nat} (hb : b ≤ 255) (h1 : lo ≤ 9) (h2 : hi ≤ 100) : Rti V 1 yX2_isFigure cX2_isFigure 3 (some .boolean) [.int (nI b), .int (nI lo), .int (nI hi)] h (nI (isFg b lo hi).toNat) h := by
  refine Mt_in [some (.int (nI b)), some (.int (nI lo)), some (.int (nI hi))] (own := RX2) rfl (by decide) (Nat.le_of_ble_eq_true rfl) (fun q hq => hq) ?_
  refine g_iload_n0 1 rfl dX2_isFigure_0 ?_
  refine g_bipush (v := 48) 3 rfl dX2_isFigure_1 (by decide) ?_
  refine g_iload_n1 4 rfl dX2_isFigure_3 ?_
  refine gn_iadd 5 rfl dX2_isFigure_4 ?_
  refine gn_icmp_lt 20 (by decide) 8 rfl dX2_isFigure_5 (by omega) (by omega) (fun c5 => ?_) (fun c5 => ?_)
  · refine g_iconst (v := 0) 21 rfl dX2_isFigure_20 (by decide) ?_
    refine g_iret .boolean dX2_isFigure_21 rfl (rfl) ?_
    refine ⟨congrArg (fun q => some (Value.int (nI q))) ?_, rfl⟩
    grind [isFg]
  · refine g_iload_n0 9 rfl dX2_isFigure_8 ?_
    refine g_bipush (v := 48) 11 rfl dX2_isFigure_9 (by decide) ?_
    refine g_iload_n2 12 rfl dX2_isFigure_11 ?_
    refine gn_iadd 13 rfl dX2_isFigure_12 ?_
    refine gn_icmp_gt 20 (by decide) 16 rfl dX2_isFigure_13 (by omega) (by omega) (fun c13 => ?_) (fun c13 => ?_)
    · refine g_iconst (v := 0) 21 rfl dX2_isFigure_20 (by decide) ?_
      refine g_iret .boolean dX2_isFigure_21 rfl (rfl) ?_
      refine ⟨congrArg (fun q => some (Value.int (nI q))) ?_, rfl⟩
      grind [isFg]
    · refine g_iconst (v := 1) 17 rfl dX2_isFigure_16 (by decide) ?_
      refine g_goto 21 (by decide) dX2_isFigure_17 ?_
      refine g_iret .boolean dX2_isFigure_21 rfl (rfl) ?_
      refine ⟨congrArg (fun q => some (Value.int (nI q))) ?_, rfl⟩
      grind [isFg]
theorem c_X2_fitsEnvoy {k b : Nat} (hk : k = 1 ∨ k = 2 ∨ k = 3) (hb : b ≤ 255) : Rti V 2 yX2_fitsEnvoy cX2_fitsEnvoy 2 (some .boolean) [.int (nI k), .int (nI b)] h (nI (fitE k b).toNat) h := by
  refine Mt_in [some (.int (nI k)), some (.int (nI b))] (own := RX2) rfl (by decide) (Nat.le_of_ble_eq_true rfl) (fun q hq => hq) ?_
  rcases hk with rfl | rfl | rfl
  · refine g_iload_n0 1 rfl dX2_fitsEnvoy_0 ?_
    refine g_lsw (off := 27) 28 dX2_fitsEnvoy_1 (by decide) (by decide +kernel) (by decide) ?_
    refine g_iload_n1 29 rfl dX2_fitsEnvoy_28 ?_
    refine g_iconst (v := 0) 30 rfl dX2_fitsEnvoy_29 (by decide) ?_
    refine g_bipush (v := 9) 32 rfl dX2_fitsEnvoy_30 (by decide) ?_
    refine g_cs3i 35 rfl cw_RX2_27 dX2_fitsEnvoy_32 (c_X2_isFigure hb (by decide) (by decide)) (by omega) (Nat.le_of_ble_eq_true rfl) ?_
    refine g_iret .boolean dX2_fitsEnvoy_35 rfl (nar2 (Bool.toNat_lt _)) ?_
    exact ⟨rfl, rfl⟩
  · refine g_iload_n0 1 rfl dX2_fitsEnvoy_0 ?_
    refine g_lsw (off := 35) 36 dX2_fitsEnvoy_1 (by decide) (by decide +kernel) (by decide) ?_
    refine g_iload_n1 37 rfl dX2_fitsEnvoy_36 ?_
    refine g_iconst (v := 1) 38 rfl dX2_fitsEnvoy_37 (by decide) ?_
    refine g_bipush (v := 9) 40 rfl dX2_fitsEnvoy_38 (by decide) ?_
    refine g_cs3i 43 rfl cw_RX2_27 dX2_fitsEnvoy_40 (c_X2_isFigure hb (by decide) (by decide)) (by omega) (Nat.le_of_ble_eq_true rfl) ?_
    refine g_iret .boolean dX2_fitsEnvoy_43 rfl (nar2 (Bool.toNat_lt _)) ?_
    exact ⟨rfl, rfl⟩
  · refine g_iload_n0 1 rfl dX2_fitsEnvoy_0 ?_
    refine g_lsw (off := 43) 44 dX2_fitsEnvoy_1 (by decide) (by decide +kernel) (by decide) ?_
    refine g_iload_n1 45 rfl dX2_fitsEnvoy_44 ?_
    refine g_iconst (v := 0) 46 rfl dX2_fitsEnvoy_45 (by decide) ?_
    refine g_iconst (v := 3) 47 rfl dX2_fitsEnvoy_46 (by decide) ?_
    refine g_cs3i 50 rfl cw_RX2_27 dX2_fitsEnvoy_47 (c_X2_isFigure hb (by decide) (by decide)) (by omega) (Nat.le_of_ble_eq_true rfl) ?_
    refine g_iret .boolean dX2_fitsEnvoy_50 rfl (nar2 (Bool.toNat_lt _)) ?_
    exact ⟨rfl, rfl⟩
theorem c_X2_fitsClause {k b e : Nat} (hk : k = 1 ∨ k = 2 ∨ k = 3) (hb : b ≤ 255) (he : 1 ≤ e) (he2 : e ≤ 100) : Rti V 2 yX2_fitsClause cX2_fitsClause 3 (some .boolean) [.int (nI k), .int (nI b), .int (nI e)] h (nI (fitC k b e).toNat) h := by
  refine Mt_in [some (.int (nI k)), some (.int (nI b)), some (.int (nI e))] (own := RX2) rfl (by decide) (Nat.le_of_ble_eq_true rfl) (fun q hq => hq) ?_
  rcases hk with rfl | rfl | rfl
  · refine g_iload_n0 1 rfl dX2_fitsClause_0 ?_
    refine g_lsw (off := 27) 28 dX2_fitsClause_1 (by decide) (by decide +kernel) (by decide) ?_
    refine g_iload_n1 29 rfl dX2_fitsClause_28 ?_
    refine g_iconst (v := 1) 30 rfl dX2_fitsClause_29 (by decide) ?_
    refine g_iconst (v := 4) 31 rfl dX2_fitsClause_30 (by decide) ?_
    refine g_cs3i 34 rfl cw_RX2_27 dX2_fitsClause_31 (c_X2_isFigure hb (by decide) (by decide)) (by omega) (Nat.le_of_ble_eq_true rfl) ?_
    refine g_iret .boolean dX2_fitsClause_34 rfl (nar2 (Bool.toNat_lt _)) ?_
    exact ⟨rfl, rfl⟩
  · refine g_iload_n0 1 rfl dX2_fitsClause_0 ?_
    refine g_lsw (off := 34) 35 dX2_fitsClause_1 (by decide) (by decide +kernel) (by decide) ?_
    refine g_iload_n1 36 rfl dX2_fitsClause_35 ?_
    refine g_iconst (v := 0) 37 rfl dX2_fitsClause_36 (by decide) ?_
    refine g_bipush (v := 9) 39 rfl dX2_fitsClause_37 (by decide) ?_
    refine g_cs3i 42 rfl cw_RX2_27 dX2_fitsClause_39 (c_X2_isFigure hb (by decide) (by decide)) (by omega) (Nat.le_of_ble_eq_true rfl) ?_
    refine g_iret .boolean dX2_fitsClause_42 rfl (nar2 (Bool.toNat_lt _)) ?_
    exact ⟨rfl, rfl⟩
  · refine g_iload_n0 1 rfl dX2_fitsClause_0 ?_
    refine g_lsw (off := 42) 43 dX2_fitsClause_1 (by decide) (by decide +kernel) (by decide) ?_
    refine g_iload_n1 44 rfl dX2_fitsClause_43 ?_
    refine g_iconst (v := 0) 45 rfl dX2_fitsClause_44 (by decide) ?_
    refine g_iload_n2 46 rfl dX2_fitsClause_45 ?_
    refine g_iconst (v := 1) 47 rfl dX2_fitsClause_46 (by decide) ?_
    refine gn_isub 48 rfl dX2_fitsClause_47 (by omega) ?_
    refine g_cs3i 51 rfl cw_RX2_27 dX2_fitsClause_48 (c_X2_isFigure hb (by decide) (by omega)) (by omega) (Nat.le_of_ble_eq_true rfl) ?_
    refine g_iret .boolean dX2_fitsClause_51 rfl (nar2 (Bool.toNat_lt _)) ?_
    exact ⟨rfl, rfl⟩
theorem c_X2_isAtEndOfPart {p : Nat} (hp : p < 48) : Rti V 1 yX2_isAtEndOfPart cX2_isAtEndOfPart 1 (some .boolean) [.int (nI p)] h (nI (endP p).toNat) h := by
  refine Mt_in [some (.int (nI p))] (own := RX2) rfl (by decide) (Nat.le_of_ble_eq_true rfl) (fun q hq => hq) ?_
  refine g_iload_n0 1 rfl dX2_isAtEndOfPart_0 ?_
  refine g_iconst (v := 3) 2 rfl dX2_isAtEndOfPart_1 (by decide) ?_
  refine gn_icmp_lt 18 (by decide) 5 rfl dX2_isAtEndOfPart_2 (by omega) (by omega) (fun c2 => ?_) (fun c2 => ?_)
  · refine g_iconst (v := 0) 19 rfl dX2_isAtEndOfPart_18 (by decide) ?_
    refine g_iret .boolean dX2_isAtEndOfPart_19 rfl (rfl) ?_
    refine ⟨congrArg (fun q => some (Value.int (nI q))) ?_, rfl⟩
    grind [endP]
  · refine g_iload_n0 6 rfl dX2_isAtEndOfPart_5 ?_
    refine g_iconst (v := 3) 7 rfl dX2_isAtEndOfPart_6 (by decide) ?_
    refine gn_isub 8 rfl dX2_isAtEndOfPart_7 (by omega) ?_
    refine g_iconst (v := 4) 9 rfl dX2_isAtEndOfPart_8 (by decide) ?_
    refine gn_irem 10 rfl dX2_isAtEndOfPart_9 (by omega) (by omega) (by omega) ?_
    refine g_iconst (v := 3) 11 rfl dX2_isAtEndOfPart_10 (by decide) ?_
    refine gn_icmp_ne 18 (by decide) 14 rfl dX2_isAtEndOfPart_11 (by omega) (by omega) (fun c11 => ?_) (fun c11 => ?_)
    · refine g_iconst (v := 0) 19 rfl dX2_isAtEndOfPart_18 (by decide) ?_
      refine g_iret .boolean dX2_isAtEndOfPart_19 rfl (rfl) ?_
      refine ⟨congrArg (fun q => some (Value.int (nI q))) ?_, rfl⟩
      grind [endP]
    · refine g_iconst (v := 1) 15 rfl dX2_isAtEndOfPart_14 (by decide) ?_
      refine g_goto 19 (by decide) dX2_isAtEndOfPart_15 ?_
      refine g_iret .boolean dX2_isAtEndOfPart_19 rfl (rfl) ?_
      refine ⟨congrArg (fun q => some (Value.int (nI q))) ?_, rfl⟩
      grind [endP]
theorem c_X2_fits {p e c : Nat} (hB : ∀ j, h.1 2 j ≤ 255) (hp : p < 48) (he : e < 2 ^ 31) (hc : c < 2 ^ 31) (hcl : 3 ≤ p → ¬ (p - 3) % 4 = 0 → ¬ h.1 2 (p - (p - 3) % 4) = 69 → 1 ≤ e ∧ e ≤ 100) : Rti V 3 yX2_fits cX2_fits 6 (some .boolean) [rf V 1, .int (nI p), .int (nI e), .int (nI c)] h (nI (fitP (h.1 2) p e c).toNat) h := by
  have hb := hB p
  have hb2 := hB (p - (p - 3) % 4)
  refine Mt_in [some (rf V 1), some (.int (nI p)), some (.int (nI e)), some (.int (nI c)), none, none] (own := RX2) rfl (by decide) (Nat.le_of_ble_eq_true rfl) (fun q hq => hq) ?_
  by_cases p0 : p = 0
  · refine g_aload_n0 1 rfl dX2_fits_0 ?_
    refine gf_Script_bytes 4 rfl fl_RX2_9 dX2_fits_1 ?_
    refine g_iload_n1 5 rfl dX2_fits_4 ?_
    refine ga_2 6 rfl (by omega) dX2_fits_5 ?_
    refine g_istore4 8 rfl dX2_fits_6 (by decide) rfl ?_
    refine g_iload_n1 9 rfl dX2_fits_8 ?_
    refine gn_if_ne 25 (by decide) 12 rfl dX2_fits_9 (by omega) (fun c9 => absurd p0 c9) (fun c9 => ?_)
    refine g_iload4 14 rfl dX2_fits_12 ?_
    refine g_bipush (v := 77) 16 rfl dX2_fits_14 (by decide) ?_
    refine gn_icmp_ne 23 (by decide) 19 rfl dX2_fits_16 (by omega) (by omega) (fun c16 => ?_) (fun c16 => ?_)
    · refine g_iconst (v := 0) 24 rfl dX2_fits_23 (by decide) ?_
      refine g_iret .boolean dX2_fits_24 rfl (rfl) ?_
      refine ⟨congrArg (fun q => some (Value.int (nI q))) ?_, rfl⟩
      grind [fitP]
    · refine g_iconst (v := 1) 20 rfl dX2_fits_19 (by decide) ?_
      refine g_goto 24 (by decide) dX2_fits_20 ?_
      refine g_iret .boolean dX2_fits_24 rfl (rfl) ?_
      refine ⟨congrArg (fun q => some (Value.int (nI q))) ?_, rfl⟩
      grind [fitP]
  · by_cases p3 : p < 3
    · refine g_aload_n0 1 rfl dX2_fits_0 ?_
      refine gf_Script_bytes 4 rfl fl_RX2_9 dX2_fits_1 ?_
      refine g_iload_n1 5 rfl dX2_fits_4 ?_
      refine ga_2 6 rfl (by omega) dX2_fits_5 ?_
      refine g_istore4 8 rfl dX2_fits_6 (by decide) rfl ?_
      refine g_iload_n1 9 rfl dX2_fits_8 ?_
      refine gn_if_ne 25 (by decide) 12 rfl dX2_fits_9 (by omega) (fun c9 => ?_) (fun c9 => absurd c9 p0)
      refine g_iload_n1 26 rfl dX2_fits_25 ?_
      refine g_iconst (v := 3) 27 rfl dX2_fits_26 (by decide) ?_
      refine gn_icmp_ge 39 (by decide) 30 rfl dX2_fits_27 (by omega) (by omega) (fun c27 => absurd c27 (by omega)) (fun c27 => ?_)
      refine g_iload4 32 rfl dX2_fits_30 ?_
      refine g_iconst (v := 0) 33 rfl dX2_fits_32 (by decide) ?_
      refine g_bipush (v := 9) 35 rfl dX2_fits_33 (by decide) ?_
      refine g_cs3i 38 rfl cw_RX2_27 dX2_fits_35 (c_X2_isFigure hb (by decide) (by decide)) (by omega) (Nat.le_of_ble_eq_true rfl) ?_
      refine g_iret .boolean dX2_fits_38 rfl (nar2 (Bool.toNat_lt _)) ?_
      refine ⟨congrArg (fun q => some (Value.int (nI q))) ?_, rfl⟩
      unfold fitP
      rw [if_neg p0, if_pos p3]
    · by_cases pm : (p - 3) % 4 = 0
      · have ef : fitP (h.1 2) p e c = decide ((h.1 2 p = 69 ∧ e < 4) ∨ (h.1 2 p = 67 ∧ c < 5 ∧ 0 < e)) := by
          unfold fitP
          rw [if_neg p0, if_neg p3, if_pos pm]
        rw [ef]
        refine g_aload_n0 1 rfl dX2_fits_0 ?_
        refine gf_Script_bytes 4 rfl fl_RX2_9 dX2_fits_1 ?_
        refine g_iload_n1 5 rfl dX2_fits_4 ?_
        refine ga_2 6 rfl (by omega) dX2_fits_5 ?_
        refine g_istore4 8 rfl dX2_fits_6 (by decide) rfl ?_
        refine g_iload_n1 9 rfl dX2_fits_8 ?_
        refine gn_if_ne 25 (by decide) 12 rfl dX2_fits_9 (by omega) (fun c9 => ?_) (fun c9 => absurd c9 p0)
        refine g_iload_n1 26 rfl dX2_fits_25 ?_
        refine g_iconst (v := 3) 27 rfl dX2_fits_26 (by decide) ?_
        refine gn_icmp_ge 39 (by decide) 30 rfl dX2_fits_27 (by omega) (by omega) (fun c27 => ?_) (fun c27 => absurd c27 (by omega))
        refine g_iload_n1 40 rfl dX2_fits_39 ?_
        refine g_iconst (v := 3) 41 rfl dX2_fits_40 (by decide) ?_
        refine gn_isub 42 rfl dX2_fits_41 (by omega) ?_
        refine g_iconst (v := 4) 43 rfl dX2_fits_42 (by decide) ?_
        refine gn_irem 44 rfl dX2_fits_43 (by omega) (by omega) (by omega) ?_
        refine g_istore5 46 rfl dX2_fits_44 (by decide) rfl ?_
        refine g_iload5 48 rfl dX2_fits_46 ?_
        refine gn_if_ne 85 (by decide) 51 rfl dX2_fits_48 (by omega) (fun c48 => absurd pm c48) (fun c48 => ?_)
        refine g_iload4 53 rfl dX2_fits_51 ?_
        refine g_bipush (v := 69) 55 rfl dX2_fits_53 (by decide) ?_
        refine gn_icmp_ne 63 (by decide) 58 rfl dX2_fits_55 (by omega) (by omega) (fun c55 => ?_) (fun c55 => ?_)
        · refine g_iload4 65 rfl dX2_fits_63 ?_
          refine g_bipush (v := 67) 67 rfl dX2_fits_65 (by decide) ?_
          refine gn_icmp_ne 83 (by decide) 70 rfl dX2_fits_67 (by omega) (by omega) (fun c67 => ?_) (fun c67 => ?_)
          · refine g_iconst (v := 0) 84 rfl dX2_fits_83 (by decide) ?_
            refine g_iret .boolean dX2_fits_84 rfl (rfl) ?_
            refine ⟨congrArg (fun q => some (Value.int (nI q))) ?_, rfl⟩
            grind
          · refine g_iload_n3 71 rfl dX2_fits_70 ?_
            refine g_iconst (v := 5) 72 rfl dX2_fits_71 (by decide) ?_
            refine gn_icmp_ge 83 (by decide) 75 rfl dX2_fits_72 (by omega) (by omega) (fun c72 => ?_) (fun c72 => ?_)
            · refine g_iconst (v := 0) 84 rfl dX2_fits_83 (by decide) ?_
              refine g_iret .boolean dX2_fits_84 rfl (rfl) ?_
              refine ⟨congrArg (fun q => some (Value.int (nI q))) ?_, rfl⟩
              grind
            · refine g_iload_n2 76 rfl dX2_fits_75 ?_
              refine gn_if_le 83 (by decide) 79 rfl dX2_fits_76 (by omega) (fun c76 => ?_) (fun c76 => ?_)
              · refine g_iconst (v := 0) 84 rfl dX2_fits_83 (by decide) ?_
                refine g_iret .boolean dX2_fits_84 rfl (rfl) ?_
                refine ⟨congrArg (fun q => some (Value.int (nI q))) ?_, rfl⟩
                grind
              · refine g_iconst (v := 1) 80 rfl dX2_fits_79 (by decide) ?_
                refine g_goto 84 (by decide) dX2_fits_80 ?_
                refine g_iret .boolean dX2_fits_84 rfl (rfl) ?_
                refine ⟨congrArg (fun q => some (Value.int (nI q))) ?_, rfl⟩
                grind
        · refine g_iload_n2 59 rfl dX2_fits_58 ?_
          refine g_iconst (v := 4) 60 rfl dX2_fits_59 (by decide) ?_
          refine gn_icmp_lt 79 (by decide) 63 rfl dX2_fits_60 (by omega) (by omega) (fun c60 => ?_) (fun c60 => ?_)
          · refine g_iconst (v := 1) 80 rfl dX2_fits_79 (by decide) ?_
            refine g_goto 84 (by decide) dX2_fits_80 ?_
            refine g_iret .boolean dX2_fits_84 rfl (rfl) ?_
            refine ⟨congrArg (fun q => some (Value.int (nI q))) ?_, rfl⟩
            grind
          · refine g_iload4 65 rfl dX2_fits_63 ?_
            refine g_bipush (v := 67) 67 rfl dX2_fits_65 (by decide) ?_
            refine gn_icmp_ne 83 (by decide) 70 rfl dX2_fits_67 (by omega) (by omega) (fun c67 => ?_) (fun c67 => ?_)
            · refine g_iconst (v := 0) 84 rfl dX2_fits_83 (by decide) ?_
              refine g_iret .boolean dX2_fits_84 rfl (rfl) ?_
              refine ⟨congrArg (fun q => some (Value.int (nI q))) ?_, rfl⟩
              grind
            · refine g_iload_n3 71 rfl dX2_fits_70 ?_
              refine g_iconst (v := 5) 72 rfl dX2_fits_71 (by decide) ?_
              refine gn_icmp_ge 83 (by decide) 75 rfl dX2_fits_72 (by omega) (by omega) (fun c72 => ?_) (fun c72 => ?_)
              · refine g_iconst (v := 0) 84 rfl dX2_fits_83 (by decide) ?_
                refine g_iret .boolean dX2_fits_84 rfl (rfl) ?_
                refine ⟨congrArg (fun q => some (Value.int (nI q))) ?_, rfl⟩
                grind
              · refine g_iload_n2 76 rfl dX2_fits_75 ?_
                refine gn_if_le 83 (by decide) 79 rfl dX2_fits_76 (by omega) (fun c76 => ?_) (fun c76 => ?_)
                · refine g_iconst (v := 0) 84 rfl dX2_fits_83 (by decide) ?_
                  refine g_iret .boolean dX2_fits_84 rfl (rfl) ?_
                  refine ⟨congrArg (fun q => some (Value.int (nI q))) ?_, rfl⟩
                  grind
                · refine g_iconst (v := 1) 80 rfl dX2_fits_79 (by decide) ?_
                  refine g_goto 84 (by decide) dX2_fits_80 ?_
                  refine g_iret .boolean dX2_fits_84 rfl (rfl) ?_
                  refine ⟨congrArg (fun q => some (Value.int (nI q))) ?_, rfl⟩
                  grind
      · have ef : fitP (h.1 2) p e c = if h.1 2 (p - (p - 3) % 4) = 69 then fitE ((p - 3) % 4) (h.1 2 p) else fitC ((p - 3) % 4) (h.1 2 p) e := by
          unfold fitP
          rw [if_neg p0, if_neg p3, if_neg pm]
        rw [ef]
        refine g_aload_n0 1 rfl dX2_fits_0 ?_
        refine gf_Script_bytes 4 rfl fl_RX2_9 dX2_fits_1 ?_
        refine g_iload_n1 5 rfl dX2_fits_4 ?_
        refine ga_2 6 rfl (by omega) dX2_fits_5 ?_
        refine g_istore4 8 rfl dX2_fits_6 (by decide) rfl ?_
        refine g_iload_n1 9 rfl dX2_fits_8 ?_
        refine gn_if_ne 25 (by decide) 12 rfl dX2_fits_9 (by omega) (fun c9 => ?_) (fun c9 => absurd c9 p0)
        refine g_iload_n1 26 rfl dX2_fits_25 ?_
        refine g_iconst (v := 3) 27 rfl dX2_fits_26 (by decide) ?_
        refine gn_icmp_ge 39 (by decide) 30 rfl dX2_fits_27 (by omega) (by omega) (fun c27 => ?_) (fun c27 => absurd c27 (by omega))
        refine g_iload_n1 40 rfl dX2_fits_39 ?_
        refine g_iconst (v := 3) 41 rfl dX2_fits_40 (by decide) ?_
        refine gn_isub 42 rfl dX2_fits_41 (by omega) ?_
        refine g_iconst (v := 4) 43 rfl dX2_fits_42 (by decide) ?_
        refine gn_irem 44 rfl dX2_fits_43 (by omega) (by omega) (by omega) ?_
        refine g_istore5 46 rfl dX2_fits_44 (by decide) rfl ?_
        refine g_iload5 48 rfl dX2_fits_46 ?_
        refine gn_if_ne 85 (by decide) 51 rfl dX2_fits_48 (by omega) (fun c48 => ?_) (fun c48 => absurd c48 pm)
        refine g_aload_n0 86 rfl dX2_fits_85 ?_
        refine gf_Script_bytes 89 rfl fl_RX2_9 dX2_fits_86 ?_
        refine g_iload_n1 90 rfl dX2_fits_89 ?_
        refine g_iload5 92 rfl dX2_fits_90 ?_
        refine gn_isub 93 rfl dX2_fits_92 (by omega) ?_
        refine ga_2 94 rfl (by omega) dX2_fits_93 ?_
        refine g_bipush (v := 69) 96 rfl dX2_fits_94 (by decide) ?_
        refine gn_icmp_ne 109 (by decide) 99 rfl dX2_fits_96 (by omega) (by omega) (fun c96 => ?_) (fun c96 => ?_)
        · refine g_iload5 111 rfl dX2_fits_109 ?_
          refine g_iload4 113 rfl dX2_fits_111 ?_
          refine g_iload_n2 114 rfl dX2_fits_113 ?_
          refine g_cs3i 117 rfl cw_RX2_34 dX2_fits_114 (c_X2_fitsClause (by omega) hb (hcl (by omega) pm c96).1 (hcl (by omega) pm c96).2) (by omega) (Nat.le_of_ble_eq_true rfl) ?_
          refine g_iret .boolean dX2_fits_117 rfl (nar2 (Bool.toNat_lt _)) ?_
          refine ⟨congrArg (fun q => some (Value.int (nI q))) ?_, rfl⟩
          first | rw [if_neg c96] | rw [if_pos c96]
        · refine g_iload5 101 rfl dX2_fits_99 ?_
          refine g_iload4 103 rfl dX2_fits_101 ?_
          refine g_cs2i 106 rfl cw_RX2_30 dX2_fits_103 (c_X2_fitsEnvoy (by omega) hb) (by omega) (Nat.le_of_ble_eq_true rfl) ?_
          refine g_goto 117 (by decide) dX2_fits_106 ?_
          refine g_iret .boolean dX2_fits_117 rfl (nar2 (Bool.toNat_lt _)) ?_
          refine ⟨congrArg (fun q => some (Value.int (nI q))) ?_, rfl⟩
          first | rw [if_neg c96] | rw [if_pos c96]
theorem c_X2_firstFault (hB : ∀ j, h.1 2 j ≤ 255) (hl : h.1 1 0 ≤ 48) : Rti V 4 yX2_firstFault cX2_firstFault 4 (some .int) [rf V 1] h (nI (ffV (h.1 2) (h.1 1 0))) h := by
  refine Mt_in [some (rf V 1), none, none, none] (own := RX2) rfl (by decide) (Nat.le_of_ble_eq_true rfl) (fun q hq => hq) ?_
  refine g_iconst (v := 0) 1 rfl dX2_firstFault_0 (by decide) ?_
  refine g_istore_n1 2 rfl dX2_firstFault_1 (by decide) rfl ?_
  refine g_iconst (v := 0) 3 rfl dX2_firstFault_2 (by decide) ?_
  refine g_istore_n2 4 rfl dX2_firstFault_3 (by decide) rfl ?_
  refine g_iconst (v := 0) 5 rfl dX2_firstFault_4 (by decide) ?_
  refine g_istore_n3 6 rfl dX2_firstFault_5 (by decide) rfl ?_
  skip
  refine loop_up (P := fun p => ffr (h.1 2) p = none → G V T0 4 RX2 cX2_firstFault 4 (some .int) 6 [some (rf V 1), some (.int (nI (cntE (h.1 2) p))), some (.int (nI (cntC (h.1 2) p))), some (.int (nI p))] [] h _) (n := h.1 1 0) ?_ (fun p hp ih => ?_) 0 (Nat.zero_le _) rfl
  · intro hf
    have ev : ffV (h.1 2) (h.1 1 0) = if 3 ≤ h.1 1 0 ∧ (h.1 1 0 - 3) % 4 = 0 then 4294967287 else h.1 1 0 := by unfold ffV; rw [hf]
    rw [ev]
    refine g_iload_n3 7 rfl dX2_firstFault_6 ?_
    refine g_aload_n0 8 rfl dX2_firstFault_7 ?_
    refine gf_Script_length 11 rfl fl_RX2_15 dX2_firstFault_8 ?_
    refine gn_icmp_ge 63 (by decide) 14 rfl dX2_firstFault_11 (by omega) (by omega) (fun c11 => ?_) (fun c11 => absurd c11 (Nat.lt_irrefl _))
    refine g_aload_n0 64 rfl dX2_firstFault_63 ?_
    refine gf_Script_length 67 rfl fl_RX2_15 dX2_firstFault_64 ?_
    refine g_iconst (v := 3) 68 rfl dX2_firstFault_67 (by decide) ?_
    refine gn_icmp_lt 87 (by decide) 71 rfl dX2_firstFault_68 (by omega) (by omega) (fun c68 => ?_) (fun c68 => ?_)
    · refine g_aload_n0 88 rfl dX2_firstFault_87 ?_
      refine gf_Script_length 91 rfl fl_RX2_15 dX2_firstFault_88 ?_
      refine g_iret .int dX2_firstFault_91 rfl (rfl) ?_
      refine ⟨congrArg (fun q => some (Value.int (nI q))) ?_, rfl⟩
      first | rw [if_neg (by omega)] | rw [if_pos (by omega)]
    · refine g_aload_n0 72 rfl dX2_firstFault_71 ?_
      refine gf_Script_length 75 rfl fl_RX2_15 dX2_firstFault_72 ?_
      refine g_iconst (v := 3) 76 rfl dX2_firstFault_75 (by decide) ?_
      refine gn_isub 77 rfl dX2_firstFault_76 (by omega) ?_
      refine g_iconst (v := 4) 78 rfl dX2_firstFault_77 (by decide) ?_
      refine gn_irem 79 rfl dX2_firstFault_78 (by omega) (by omega) (by omega) ?_
      refine gn_if_ne 87 (by decide) 82 rfl dX2_firstFault_79 (by omega) (fun c79 => ?_) (fun c79 => ?_)
      · refine g_aload_n0 88 rfl dX2_firstFault_87 ?_
        refine gf_Script_length 91 rfl fl_RX2_15 dX2_firstFault_88 ?_
        refine g_iret .int dX2_firstFault_91 rfl (rfl) ?_
        refine ⟨congrArg (fun q => some (Value.int (nI q))) ?_, rfl⟩
        first | rw [if_neg (by omega)] | rw [if_pos (by omega)]
      · refine g_bipush (v := 4294967287) 84 rfl dX2_firstFault_82 (by decide) ?_
        refine g_goto 91 (by decide) dX2_firstFault_84 ?_
        refine g_iret .int dX2_firstFault_91 rfl (rfl) ?_
        refine ⟨congrArg (fun q => some (Value.int (nI q))) ?_, rfl⟩
        first | rw [if_neg (by omega)] | rw [if_pos (by omega)]
  · intro hf
    have h1 := cntE_le (B := h.1 2) p
    have h2 := cntC_le (B := h.1 2) p
    refine g_iload_n3 7 rfl dX2_firstFault_6 ?_
    refine g_aload_n0 8 rfl dX2_firstFault_7 ?_
    refine gf_Script_length 11 rfl fl_RX2_15 dX2_firstFault_8 ?_
    refine gn_icmp_ge 63 (by decide) 14 rfl dX2_firstFault_11 (by omega) (by omega) (fun c11 => absurd c11 (Nat.not_le_of_lt hp)) (fun c11 => ?_)
    refine g_aload_n0 15 rfl dX2_firstFault_14 ?_
    refine g_iload_n3 16 rfl dX2_firstFault_15 ?_
    refine g_iload_n1 17 rfl dX2_firstFault_16 ?_
    refine g_iload_n2 18 rfl dX2_firstFault_17 ?_
    refine g_cv3i 21 rfl cw_RX2_19 dX2_firstFault_18 (c_X2_fits hB (by omega) (by omega) (by omega) (fun a b c => ⟨cntE_pos hf a b c, by omega⟩)) (by omega) (ob_1 V) (Nat.le_of_ble_eq_true rfl) ?_
    refine gn_if_ne 26 (by decide) 24 rfl dX2_firstFault_21 (Nat.lt_of_lt_of_le (Bool.toNat_lt _) (by omega)) (fun c21 => ?_) (fun c21 => ?_)
    · refine g_iload_n3 27 rfl dX2_firstFault_26 ?_
      refine g_cs1i 30 rfl cw_RX2_23 dX2_firstFault_27 (c_X2_isAtEndOfPart (by omega)) (by omega) (Nat.le_of_ble_eq_true rfl) ?_
      refine gn_if_eq 57 (by decide) 33 rfl dX2_firstFault_30 (Nat.lt_of_lt_of_le (Bool.toNat_lt _) (by omega)) (fun c30 => ?_) (fun c30 => ?_)
      · refine gn_iinc3 1 60 rfl dX2_firstFault_57 rfl (by decide) rfl ?_
        refine g_goto 6 (by decide) dX2_firstFault_60 ?_
        have q : ffr (h.1 2) (p + 1) = none := by simp only [ffr, hf]; exact if_pos (by simpa using c21)
        have z := ih q
        first
        | (have w : endP p = false := by simpa using c30
           rw [show cntE (h.1 2) (p + 1) = _ from if_neg (by rw [w]; decide), show cntC (h.1 2) (p + 1) = _ from if_neg (by rw [w]; decide)] at z; exact z)
        | (have w : endP p = true := by simpa using c30
           rw [show cntE (h.1 2) (p + 1) = _ from (if_pos w).trans (if_pos c45), show cntC (h.1 2) (p + 1) = _ from (if_pos w).trans (if_pos c45)] at z; exact z)
        | (have w : endP p = true := by simpa using c30
           rw [show cntE (h.1 2) (p + 1) = _ from (if_pos w).trans (if_neg c45), show cntC (h.1 2) (p + 1) = _ from (if_pos w).trans (if_neg c45)] at z; exact z)
      · have hen : 3 ≤ p ∧ (p - 3) % 4 = 3 := of_decide_eq_true (show endP p = true by simpa using c30)
        refine g_aload_n0 34 rfl dX2_firstFault_33 ?_
        refine gf_Script_bytes 37 rfl fl_RX2_9 dX2_firstFault_34 ?_
        refine g_iload_n3 38 rfl dX2_firstFault_37 ?_
        refine g_iconst (v := 4) 39 rfl dX2_firstFault_38 (by decide) ?_
        refine gn_isub 40 rfl dX2_firstFault_39 (by omega) ?_
        refine g_iconst (v := 1) 41 rfl dX2_firstFault_40 (by decide) ?_
        refine gn_iadd 42 rfl dX2_firstFault_41 ?_
        rw [show p - 4 + 1 = p - 3 by omega]
        refine ga_2 43 rfl (by omega) dX2_firstFault_42 ?_
        refine g_bipush (v := 69) 45 rfl dX2_firstFault_43 (by decide) ?_
        refine gn_icmp_ne 54 (by decide) 48 rfl dX2_firstFault_45 (Nat.lt_of_le_of_lt (hB _) (by decide)) (by decide) (fun c45 => ?_) (fun c45 => ?_)
        · refine gn_iinc2 1 57 rfl dX2_firstFault_54 rfl (by decide) rfl ?_
          refine gn_iinc3 1 60 rfl dX2_firstFault_57 rfl (by decide) rfl ?_
          refine g_goto 6 (by decide) dX2_firstFault_60 ?_
          have q : ffr (h.1 2) (p + 1) = none := by simp only [ffr, hf]; exact if_pos (by simpa using c21)
          have z := ih q
          first
          | (have w : endP p = false := by simpa using c30
             rw [show cntE (h.1 2) (p + 1) = _ from if_neg (by rw [w]; decide), show cntC (h.1 2) (p + 1) = _ from if_neg (by rw [w]; decide)] at z; exact z)
          | (have w : endP p = true := by simpa using c30
             rw [show cntE (h.1 2) (p + 1) = _ from (if_pos w).trans (if_pos c45), show cntC (h.1 2) (p + 1) = _ from (if_pos w).trans (if_pos c45)] at z; exact z)
          | (have w : endP p = true := by simpa using c30
             rw [show cntE (h.1 2) (p + 1) = _ from (if_pos w).trans (if_neg c45), show cntC (h.1 2) (p + 1) = _ from (if_pos w).trans (if_neg c45)] at z; exact z)
        · refine gn_iinc1 1 51 rfl dX2_firstFault_48 rfl (by decide) rfl ?_
          refine g_goto 57 (by decide) dX2_firstFault_51 ?_
          refine gn_iinc3 1 60 rfl dX2_firstFault_57 rfl (by decide) rfl ?_
          refine g_goto 6 (by decide) dX2_firstFault_60 ?_
          have q : ffr (h.1 2) (p + 1) = none := by simp only [ffr, hf]; exact if_pos (by simpa using c21)
          have z := ih q
          first
          | (have w : endP p = false := by simpa using c30
             rw [show cntE (h.1 2) (p + 1) = _ from if_neg (by rw [w]; decide), show cntC (h.1 2) (p + 1) = _ from if_neg (by rw [w]; decide)] at z; exact z)
          | (have w : endP p = true := by simpa using c30
             rw [show cntE (h.1 2) (p + 1) = _ from (if_pos w).trans (if_pos c45), show cntC (h.1 2) (p + 1) = _ from (if_pos w).trans (if_pos c45)] at z; exact z)
          | (have w : endP p = true := by simpa using c30
             rw [show cntE (h.1 2) (p + 1) = _ from (if_pos w).trans (if_neg c45), show cntC (h.1 2) (p + 1) = _ from (if_pos w).trans (if_neg c45)] at z; exact z)
    · refine g_iload_n3 25 rfl dX2_firstFault_24 ?_
      refine g_iret .int dX2_firstFault_25 rfl (rfl) ?_
      refine ⟨congrArg (fun q => some (Value.int (nI q))) ?_, rfl⟩
      have q : ffr (h.1 2) (p + 1) = some p := by simp only [ffr, hf]; exact if_neg (by simpa using c21)
      unfold ffV
      rw [ffr_mono q _ hp]
theorem c_X2_figure {p : Nat} (hp : p < 48) (hb : 48 ≤ h.1 2 p) : Rti V 1 yX2_figure cX2_figure 2 (some .int) [rf V 1, .int (nI p)] h (nI (h.1 2 p - 48)) h := by
  refine Mt_in [some (rf V 1), some (.int (nI p))] (own := RX2) rfl (by decide) (Nat.le_of_ble_eq_true rfl) (fun q hq => hq) ?_
  refine g_aload_n0 1 rfl dX2_figure_0 ?_
  refine gf_Script_bytes 4 rfl fl_RX2_9 dX2_figure_1 ?_
  refine g_iload_n1 5 rfl dX2_figure_4 ?_
  refine ga_2 6 rfl (by omega) dX2_figure_5 ?_
  refine g_bipush (v := 48) 8 rfl dX2_figure_6 (by decide) ?_
  refine gn_isub 9 rfl dX2_figure_8 (by omega) ?_
  refine g_iret .int dX2_figure_9 rfl (rfl) ?_
  exact ⟨rfl, rfl⟩
theorem addE_o {g : Hp} {a b c q : Nat} (h3 : q ≠ 3) (h4 : q ≠ 4) : (addE g a b c).1 q = g.1 q := by
  unfold addE
  split
  · rw [sR_n h3, sR_n h4]
  · rfl
theorem addC_o {g : Hp} {a b c q : Nat} (h3 : q ≠ 3) (h7 : q ≠ 7) : (addC g a b c).1 q = g.1 q := by
  unfold addC
  split
  · rw [sR_n h3, sR_n h7]
  · rfl
theorem tlH_o {B : Nat → Nat} {h : Hp} {q : Nat} (h3 : q ≠ 3) (h4 : q ≠ 4) (h7 : q ≠ 7) : ∀ k, (tlH B h k).1 q = h.1 q
  | 0 => sR_n h3
  | k + 1 => by
    have ih := tlH_o (B := B) (h := h) h3 h4 h7 k
    unfold tlH
    split
    · rw [addE_o h3 h4, ih]
    · rw [addC_o h3 h7, ih]
theorem tlH_n {B : Nat → Nat} {h : Hp} : ∀ k, (tlH B h k).1 3 2 ≤ 4 ∧ (tlH B h k).1 3 3 ≤ 5
  | 0 => by
    unfold tlH
    rw [sR_s, up_n (by decide), up_s, up_s]; omega
  | k + 1 => by
    have ih := tlH_n (B := B) (h := h) k
    unfold tlH
    split
    · unfold addE
      split
      · rw [sR_s, up_s, up_n (by decide)]; omega
      · exact ih
    · unfold addC
      split
      · rw [sR_s, up_s, up_n (by decide)]; omega
      · exact ih
theorem dig_ok {B : Nat → Nat} {len : Nat} (hf : ffr B len = none) {q : Nat} (hq : q < len) (h0 : q ≠ 0) (hm : q < 3 ∨ ¬ (q - 3) % 4 = 0) : 48 ≤ B q := by
  have h := ffr_none hf q hq
  unfold fitP at h
  rw [if_neg h0] at h
  have key : ∀ b lo hi, isFg b lo hi = true → 48 ≤ b := fun b lo hi w => by have := of_decide_eq_true w; omega
  by_cases w : q < 3
  · rw [if_pos w] at h; exact key _ _ _ h
  · rw [if_neg w, if_neg (by omega)] at h
    split at h
    · unfold fitE at h
      split at h
      · exact key _ _ _ h
      · split at h <;> exact key _ _ _ h
    · unfold fitC at h
      split at h
      · exact key _ _ _ h
      · split at h <;> exact key _ _ _ h
theorem c_X2_tellInto (hB : ∀ j, h.1 2 j ≤ 255) (hl : h.1 1 0 ≤ 48) (hf : ffr (h.1 2) (h.1 1 0) = none) (h3 : 3 ≤ h.1 1 0) (hm : (h.1 1 0 - 3) % 4 = 0) : Rtv V 2 yX2_tellInto cX2_tellInto 3 none [rf V 1, rf V 3] h (tlH (h.1 2) h ((h.1 1 0 - 3) / 4)) := by
  refine Mt_in [some (rf V 1), some (rf V 3), none] (own := RX2) rfl (by decide) (Nat.le_of_ble_eq_true rfl) (fun q hq => hq) ?_
  refine g_aload_n1 1 rfl dX2_tellInto_0 ?_
  refine g_aload_n0 2 rfl dX2_tellInto_1 ?_
  refine g_iconst (v := 1) 3 rfl dX2_tellInto_2 (by decide) ?_
  refine g_cv1i 6 rfl cw_RX2_37 dX2_tellInto_3 (c_X2_figure (by decide) (dig_ok hf (by omega) (by decide) (by omega))) (by omega) (ob_1 V) (Nat.le_of_ble_eq_true rfl) ?_
  refine g_aload_n0 7 rfl dX2_tellInto_6 ?_
  refine g_iconst (v := 2) 8 rfl dX2_tellInto_7 (by decide) ?_
  refine g_cv1i 11 rfl cw_RX2_37 dX2_tellInto_8 (c_X2_figure (by decide) (dig_ok hf (by omega) (by decide) (by omega))) (by omega) (ob_1 V) (Nat.le_of_ble_eq_true rfl) ?_
  refine g_cv2v 14 rfl cw_RX2_41 dX2_tellInto_11 (c_X1_begin) (by omega) (ob_3 V) (Nat.le_of_ble_eq_true rfl) ?_
  refine g_iconst (v := 3) 15 rfl dX2_tellInto_14 (by decide) ?_
  refine g_istore_n2 16 rfl dX2_tellInto_15 (by decide) rfl ?_
  skip
  refine loop_up (P := fun k => G V T0 2 RX2 cX2_tellInto 3 none 16 [some (rf V 1), some (rf V 3), some (.int (nI (4 * k + 3)))] [] (tlH (h.1 2) h k) _) (n := (h.1 1 0 - 3) / 4) ?_ (fun k hk ih => ?_) 0 (Nat.zero_le _)
  · have e1 := tlH_o (B := h.1 2) (h := h) (q := 1) (by decide) (by decide) (by decide) ((h.1 1 0 - 3) / 4)
    refine g_iload_n2 17 rfl dX2_tellInto_16 ?_
    refine g_iconst (v := 4) 18 rfl dX2_tellInto_17 (by decide) ?_
    refine gn_iadd 19 rfl dX2_tellInto_18 ?_
    refine g_aload_n0 20 rfl dX2_tellInto_19 ?_
    refine gf_Script_length 23 rfl fl_RX2_15 dX2_tellInto_20 ?_
    rw [e1]
    refine gn_icmp_gt 96 (by decide) 26 rfl dX2_tellInto_23 (by omega) (by omega) (fun c23 => ?_) (fun c23 => absurd c23 (by omega))
    refine g_vret dX2_tellInto_96 rfl ?_
    exact ⟨rfl, rfl⟩
  · have e1 := tlH_o (B := h.1 2) (h := h) (q := 1) (by decide) (by decide) (by decide) k
    have e2 := tlH_o (B := h.1 2) (h := h) (q := 2) (by decide) (by decide) (by decide) k
    have hn := tlH_n (B := h.1 2) (h := h) k
    have hb := hB (4 * k + 3)
    have d1 := dig_ok hf (q := 4 * k + 3 + 1) (by omega) (by omega) (by omega)
    have d2 := dig_ok hf (q := 4 * k + 3 + 2) (by omega) (by omega) (by omega)
    have d3 := dig_ok hf (q := 4 * k + 3 + 3) (by omega) (by omega) (by omega)
    change G V T0 2 RX2 cX2_tellInto 3 none 16 [some (rf V 1), some (rf V 3), some (.int (nI (4 * (k + 1) + 3)))] [] (if h.1 2 (4 * k + 3) = 69 then addE (tlH (h.1 2) h k) (h.1 2 (4 * k + 3 + 1) - 48) (h.1 2 (4 * k + 3 + 2) - 48) (h.1 2 (4 * k + 3 + 3) - 48) else addC (tlH (h.1 2) h k) (h.1 2 (4 * k + 3 + 1) - 48) (h.1 2 (4 * k + 3 + 2) - 48) (h.1 2 (4 * k + 3 + 3) - 48)) _ at ih
    rw [show 4 * (k + 1) + 3 = 4 * k + 3 + 4 by omega] at ih
    generalize tlH (h.1 2) h k = g at e1 e2 hn ih ⊢
    refine g_iload_n2 17 rfl dX2_tellInto_16 ?_
    refine g_iconst (v := 4) 18 rfl dX2_tellInto_17 (by decide) ?_
    refine gn_iadd 19 rfl dX2_tellInto_18 ?_
    refine g_aload_n0 20 rfl dX2_tellInto_19 ?_
    refine gf_Script_length 23 rfl fl_RX2_15 dX2_tellInto_20 ?_
    rw [e1]
    refine gn_icmp_gt 96 (by decide) 26 rfl dX2_tellInto_23 (by omega) (by omega) (fun c23 => absurd c23 (by omega)) (fun c23 => ?_)
    refine g_aload_n0 27 rfl dX2_tellInto_26 ?_
    refine gf_Script_bytes 30 rfl fl_RX2_9 dX2_tellInto_27 ?_
    refine g_iload_n2 31 rfl dX2_tellInto_30 ?_
    refine ga_2 32 rfl (by omega) dX2_tellInto_31 ?_
    rw [e2]
    refine g_bipush (v := 69) 34 rfl dX2_tellInto_32 (by decide) ?_
    refine gn_icmp_ne 65 (by decide) 37 rfl dX2_tellInto_34 (by omega) (by omega) (fun c34 => ?_) (fun c34 => ?_)
    · refine g_aload_n1 66 rfl dX2_tellInto_65 ?_
      refine g_aload_n0 67 rfl dX2_tellInto_66 ?_
      refine g_iload_n2 68 rfl dX2_tellInto_67 ?_
      refine g_iconst (v := 1) 69 rfl dX2_tellInto_68 (by decide) ?_
      refine gn_iadd 70 rfl dX2_tellInto_69 ?_
      refine g_cv1i 73 rfl cw_RX2_37 dX2_tellInto_70 (c_X2_figure (by omega) (by rw [e2]; exact d1)) (by omega) (ob_1 V) (Nat.le_of_ble_eq_true rfl) ?_
      refine g_aload_n0 74 rfl dX2_tellInto_73 ?_
      refine g_iload_n2 75 rfl dX2_tellInto_74 ?_
      refine g_iconst (v := 2) 76 rfl dX2_tellInto_75 (by decide) ?_
      refine gn_iadd 77 rfl dX2_tellInto_76 ?_
      refine g_cv1i 80 rfl cw_RX2_37 dX2_tellInto_77 (c_X2_figure (by omega) (by rw [e2]; exact d2)) (by omega) (ob_1 V) (Nat.le_of_ble_eq_true rfl) ?_
      refine g_aload_n0 81 rfl dX2_tellInto_80 ?_
      refine g_iload_n2 82 rfl dX2_tellInto_81 ?_
      refine g_iconst (v := 3) 83 rfl dX2_tellInto_82 (by decide) ?_
      refine gn_iadd 84 rfl dX2_tellInto_83 ?_
      refine g_cv1i 87 rfl cw_RX2_37 dX2_tellInto_84 (c_X2_figure (by omega) (by rw [e2]; exact d3)) (by omega) (ob_1 V) (Nat.le_of_ble_eq_true rfl) ?_
      refine g_cv3v 90 rfl cw_RX2_51 dX2_tellInto_87 (c_X1_addClause (by omega)) (by omega) (ob_3 V) (Nat.le_of_ble_eq_true rfl) ?_
      refine gn_iinc2 4 93 rfl dX2_tellInto_90 rfl (by decide) rfl ?_
      refine g_goto 16 (by decide) dX2_tellInto_93 ?_
      first | (rw [if_neg c34] at ih; rw [e2]; exact ih) | (rw [if_pos c34] at ih; rw [e2]; exact ih)
    · refine g_aload_n1 38 rfl dX2_tellInto_37 ?_
      refine g_aload_n0 39 rfl dX2_tellInto_38 ?_
      refine g_iload_n2 40 rfl dX2_tellInto_39 ?_
      refine g_iconst (v := 1) 41 rfl dX2_tellInto_40 (by decide) ?_
      refine gn_iadd 42 rfl dX2_tellInto_41 ?_
      refine g_cv1i 45 rfl cw_RX2_37 dX2_tellInto_42 (c_X2_figure (by omega) (by rw [e2]; exact d1)) (by omega) (ob_1 V) (Nat.le_of_ble_eq_true rfl) ?_
      refine g_aload_n0 46 rfl dX2_tellInto_45 ?_
      refine g_iload_n2 47 rfl dX2_tellInto_46 ?_
      refine g_iconst (v := 2) 48 rfl dX2_tellInto_47 (by decide) ?_
      refine gn_iadd 49 rfl dX2_tellInto_48 ?_
      refine g_cv1i 52 rfl cw_RX2_37 dX2_tellInto_49 (c_X2_figure (by omega) (by rw [e2]; exact d2)) (by omega) (ob_1 V) (Nat.le_of_ble_eq_true rfl) ?_
      refine g_aload_n0 53 rfl dX2_tellInto_52 ?_
      refine g_iload_n2 54 rfl dX2_tellInto_53 ?_
      refine g_iconst (v := 3) 55 rfl dX2_tellInto_54 (by decide) ?_
      refine gn_iadd 56 rfl dX2_tellInto_55 ?_
      refine g_cv1i 59 rfl cw_RX2_37 dX2_tellInto_56 (c_X2_figure (by omega) (by rw [e2]; exact d3)) (by omega) (ob_1 V) (Nat.le_of_ble_eq_true rfl) ?_
      refine g_cv3v 62 rfl cw_RX2_47 dX2_tellInto_59 (c_X1_addEnvoy (by omega)) (by omega) (ob_3 V) (Nat.le_of_ble_eq_true rfl) ?_
      refine g_goto 90 (by decide) dX2_tellInto_62 ?_
      refine gn_iinc2 4 93 rfl dX2_tellInto_90 rfl (by decide) rfl ?_
      refine g_goto 16 (by decide) dX2_tellInto_93 ?_
      first | (rw [if_neg c34] at ih; rw [e2]; exact ih) | (rw [if_pos c34] at ih; rw [e2]; exact ih)
end X2
