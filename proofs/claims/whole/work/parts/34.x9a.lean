/-! the reference: small parts -/
def MI (h : Hp) : Prop := h.1 22 4 ≤ 4 ∧ h.1 22 6 ≤ 5 ∧ (∀ j, h.1 24 j ≤ 9) ∧ (∀ e, h.1 24 (3 * e + 2) ≤ 3) ∧ (∀ j, h.1 25 j ≤ 9) ∧ (∀ c, h.1 25 (3 * c + 2) < 4) ∧ TI (h.1 28) ∧ TI (h.1 29)
theorem MI_28 {h : Hp} (hm : MI h) {f : Nat → Nat} (hf : TI f) : MI (sR h 28 f) := ⟨hm.1, hm.2.1, hm.2.2.1, hm.2.2.2.1, hm.2.2.2.2.1, hm.2.2.2.2.2.1, hf, hm.2.2.2.2.2.2.2⟩
theorem MI_29 {h : Hp} (hm : MI h) {f : Nat → Nat} (hf : TI f) : MI (sR h 29 f) := ⟨hm.1, hm.2.1, hm.2.2.1, hm.2.2.2.1, hm.2.2.2.2.1, hm.2.2.2.2.2.1, hm.2.2.2.2.2.2.1, hf⟩
theorem thr0 {h : Hp} (h0 : h.1 22 0 = 0) : sR h 22 (up (h.1 22) 0 0) = h := by
  have e : up (h.1 22) 0 0 = h.1 22 := by
    funext j
    show (if j = 0 then 0 else h.1 22 j) = h.1 22 j
    split
    · rename_i q; rw [q, h0]
    · rfl
  rw [e, sR_same]
theorem nI_sg {n : Nat} (hn : n < 2 ^ 32) : (nI n).toInt = if n < 2 ^ 31 then (n : Int) else (n : Int) - 2 ^ 32 := by
  show (Int32.ofNat n).toInt = _
  rw [Int32.toInt_ofNat', Int.bmod_def, show Int32.size = 4294967296 from rfl]
  split <;> split <;> omega
theorem le64 (x y : Int64) : x ≤ y ↔ x.toInt ≤ y.toInt := Int64.le_iff_toInt_le
theorem in_c {n a b : Nat} (hn : n < 2 ^ 32) (ha : a < 2 ^ 31) (hb : b < 2 ^ 31) {al bl : Int64} (ea : al = lN a) (eb : bl = lN b) : (al ≤ (nI n).toInt64 ∧ (nI n).toInt64 ≤ bl) ↔ (a ≤ n ∧ n ≤ b) := by
  subst ea; subst eb
  rw [le64, le64, Int32.toInt_toInt64, pk_lT (by omega), pk_lT (by omega), nI_sg hn]
  split <;> omega
theorem in_d {n a : Nat} (hn : n < 2 ^ 31) (ha : a < 2 ^ 32) {al : Int64} (ea : al = lN 0) : (al ≤ (nI a).toInt64 ∧ (nI a).toInt64 ≤ (nI n - nI 1).toInt64) ↔ a < n := by
  subst ea
  rw [dec1_nI, le64, le64, Int32.toInt_toInt64, Int32.toInt_toInt64, pk_lT (by omega), nI_sg ha]
  unfold dec1
  by_cases q : n = 0
  · rw [if_pos q, nI_sg (n := 4294967295) (by omega)]
    split <;> split <;> omega
  · rw [if_neg q, nI_sg (n := n - 1) (by omega)]
    split <;> split <;> omega
theorem in_f {b lo hi : Nat} (hb : b < 2 ^ 31) (hlo : lo < 2 ^ 31) (hhi : hi < 2 ^ 31) : ((nI lo).toInt64 ≤ (nI b - nI 48).toInt64 ∧ (nI b - nI 48).toInt64 ≤ (nI hi).toInt64) ↔ (48 + lo ≤ b ∧ b ≤ 48 + hi) := by
  have e : (nI b - nI 48).toInt = (b : Int) - 48 := by
    by_cases q : 48 ≤ b
    · rw [pk_sub q, nI_toInt (by omega)]; omega
    · exact pk_sub_toInt (by omega) (by omega)
  rw [le64, le64, Int32.toInt_toInt64, Int32.toInt_toInt64, Int32.toInt_toInt64, e, nI_toInt hlo, nI_toInt hhi]
  omega
theorem cmp_lt (x y : Int64) : lg_cmp x y < 0 ↔ ¬ y ≤ x := by
  rw [← lg_cmp_ge, Int32.not_le]
theorem cmp_gt (x y : Int64) : 0 < lg_cmp x y ↔ ¬ x ≤ y := by
  unfold lg_cmp
  rw [Int64.not_le]
  split
  · rename_i q; exact ⟨fun _ => q, fun _ => by decide⟩
  · rename_i q
    split
    · exact ⟨fun w => absurd w (by decide), fun w => absurd w q⟩
    · exact ⟨fun w => absurd w (by decide), fun w => absurd w q⟩
section X9a
variable {V : Vt} {h : Hp}
theorem c_X9_in {x a b : Int64} : Rti V 1 yX9_in cX9_in 6 (some .boolean) [.long x, .long a, .long b] h (nI (if a ≤ x ∧ x ≤ b then 1 else 0)) h := by
  refine Mt_in [some (.long x), none, some (.long a), none, some (.long b), none] (own := RX9) rfl (by decide) (Nat.le_of_ble_eq_true rfl) (fun q hq => hq) ?_
  refine g_lload_n0 1 rfl dX9_in_0 ?_
  refine g_lload_n2 2 rfl dX9_in_1 ?_
  refine g_lcmp 3 rfl dX9_in_2 ?_
  refine g_if_lt 17 (by decide) 6 rfl dX9_in_3 (fun c3 => ?_) (fun c3 => ?_)
  · refine g_iconst (v := 0) 18 rfl dX9_in_17 (by decide) ?_
    refine g_iret .boolean dX9_in_18 rfl (rfl) ?_
    refine ⟨congrArg (fun q => some (Value.int (nI q))) ?_, rfl⟩
    first | exact (if_neg (fun q => (cmp_lt _ _).mp c3 q.1)).symm | exact (if_neg (fun q => (cmp_gt _ _).mp c10 q.2)).symm | exact (if_pos ⟨Decidable.not_not.mp (fun q => c3 ((cmp_lt _ _).mpr q)), Decidable.not_not.mp (fun q => c10 ((cmp_gt _ _).mpr q))⟩).symm
  · refine g_lload_n0 7 rfl dX9_in_6 ?_
    refine g_lload4 9 rfl dX9_in_7 ?_
    refine g_lcmp 10 rfl dX9_in_9 ?_
    refine g_if_gt 17 (by decide) 13 rfl dX9_in_10 (fun c10 => ?_) (fun c10 => ?_)
    · refine g_iconst (v := 0) 18 rfl dX9_in_17 (by decide) ?_
      refine g_iret .boolean dX9_in_18 rfl (rfl) ?_
      refine ⟨congrArg (fun q => some (Value.int (nI q))) ?_, rfl⟩
      first | exact (if_neg (fun q => (cmp_lt _ _).mp c3 q.1)).symm | exact (if_neg (fun q => (cmp_gt _ _).mp c10 q.2)).symm | exact (if_pos ⟨Decidable.not_not.mp (fun q => c3 ((cmp_lt _ _).mpr q)), Decidable.not_not.mp (fun q => c10 ((cmp_gt _ _).mpr q))⟩).symm
    · refine g_iconst (v := 1) 14 rfl dX9_in_13 (by decide) ?_
      refine g_goto 18 (by decide) dX9_in_14 ?_
      refine g_iret .boolean dX9_in_18 rfl (rfl) ?_
      refine ⟨congrArg (fun q => some (Value.int (nI q))) ?_, rfl⟩
      first | exact (if_neg (fun q => (cmp_lt _ _).mp c3 q.1)).symm | exact (if_neg (fun q => (cmp_gt _ _).mp c10 q.2)).symm | exact (if_pos ⟨Decidable.not_not.mp (fun q => c3 ((cmp_lt _ _).mpr q)), Decidable.not_not.mp (fun q => c10 ((cmp_gt _ _).mpr q))⟩).symm
theorem c_X9_has {s k : Nat} (hs : s < 2 ^ 31) (hk : k < 32) : Rti V 1 yX9_has cX9_has 2 (some .boolean) [.int (nI s), .int (nI k)] h (nI (bt s k)) h := by
  have hb := bt_01 s k
  have hb2 : s / 2 ^ k &&& 1 < 2 := bt_lt s k
  refine Mt_in [some (.int (nI s)), some (.int (nI k))] (own := RX9) rfl (by decide) (Nat.le_of_ble_eq_true rfl) (fun q hq => hq) ?_
  refine g_iload_n0 1 rfl dX9_has_0 ?_
  refine g_iload_n1 2 rfl dX9_has_1 ?_
  refine gn_ishr 3 rfl dX9_has_2 (by omega) (by omega) ?_
  refine g_iconst (v := 1) 4 rfl dX9_has_3 (by decide) ?_
  refine gn_iand 5 rfl dX9_has_4 ?_
  refine g_iconst (v := 1) 6 rfl dX9_has_5 (by decide) ?_
  refine gn_icmp_ne 13 (by decide) 9 rfl dX9_has_6 (by omega) (by omega) (fun c6 => ?_) (fun c6 => ?_)
  · refine g_iconst (v := 0) 14 rfl dX9_has_13 (by decide) ?_
    refine g_iret .boolean dX9_has_14 rfl (rfl) ?_
    refine ⟨congrArg (fun q => some (Value.int (nI q))) ?_, rfl⟩
    first | (have q : bt s k = 1 := c6; omega) | (have q : ¬ bt s k = 1 := c6; omega)
  · refine g_iconst (v := 1) 10 rfl dX9_has_9 (by decide) ?_
    refine g_goto 14 (by decide) dX9_has_10 ?_
    refine g_iret .boolean dX9_has_14 rfl (rfl) ?_
    refine ⟨congrArg (fun q => some (Value.int (nI q))) ?_, rfl⟩
    first | (have q : bt s k = 1 := c6; omega) | (have q : ¬ bt s k = 1 := c6; omega)
def manN (s : Nat) : Nat → Nat
  | 0 => 0
  | k + 1 => manN s k + bt s k
theorem c_X9_many {s : Nat} (hs : s < 2 ^ 31) : Rti V 1 yX9_many cX9_many 3 (some .int) [.int (nI s)] h (nI (manN s 8)) h := by
  refine Mt_in [some (.int (nI s)), none, none] (own := RX9) rfl (by decide) (Nat.le_of_ble_eq_true rfl) (fun q hq => hq) ?_
  refine g_iconst (v := 0) 1 rfl dX9_many_0 (by decide) ?_
  refine g_istore_n1 2 rfl dX9_many_1 (by decide) rfl ?_
  refine g_iconst (v := 0) 3 rfl dX9_many_2 (by decide) ?_
  refine g_istore_n2 4 rfl dX9_many_3 (by decide) rfl ?_
  skip
  refine loop_up (P := fun k => G V T0 1 RX9 cX9_many 3 (some .int) 4 [some (.int (nI s)), some (.int (nI (manN s k))), some (.int (nI k))] [] h _) (n := 8) ?_ (fun k hk ih => ?_) 0 (Nat.zero_le _)
  · refine g_iload_n2 5 rfl dX9_many_4 ?_
    refine g_bipush (v := 8) 7 rfl dX9_many_5 (by decide) ?_
    refine gn_icmp_ge 24 (by decide) 10 rfl dX9_many_7 (by omega) (by omega) (fun c7 => ?_) (fun c7 => absurd c7 (by omega))
    refine g_iload_n1 25 rfl dX9_many_24 ?_
    refine g_iret .int dX9_many_25 rfl (rfl) ?_
    exact ⟨rfl, rfl⟩
  · refine g_iload_n2 5 rfl dX9_many_4 ?_
    refine g_bipush (v := 8) 7 rfl dX9_many_5 (by decide) ?_
    refine gn_icmp_ge 24 (by decide) 10 rfl dX9_many_7 (by omega) (by omega) (fun c7 => absurd c7 (by omega)) (fun c7 => ?_)
    refine g_iload_n1 11 rfl dX9_many_10 ?_
    refine g_iload_n0 12 rfl dX9_many_11 ?_
    refine g_iload_n2 13 rfl dX9_many_12 ?_
    refine gn_ishr 14 rfl dX9_many_13 (by omega) (by omega) ?_
    refine g_iconst (v := 1) 15 rfl dX9_many_14 (by decide) ?_
    refine gn_iand 16 rfl dX9_many_15 ?_
    refine gn_iadd 17 rfl dX9_many_16 ?_
    refine g_istore_n1 18 rfl dX9_many_17 (by decide) rfl ?_
    refine gn_iinc2 1 21 rfl dX9_many_18 rfl (by decide) rfl ?_
    refine g_goto 4 (by decide) dX9_many_21 ?_
    exact ih
theorem c_X9_noEnvoy {a : Nat} (hn : h.1 22 4 ≤ 4) (ha : a < 2 ^ 32) : Rti V 2 yX9_noEnvoy cX9_noEnvoy 2 (some .boolean) [rf V 22, .int (nI a)] h (nI (if a < h.1 22 4 then 0 else 1)) h := by
  refine Mt_in [some (rf V 22), some (.int (nI a))] (own := RX9) rfl (by decide) (Nat.le_of_ble_eq_true rfl) (fun q hq => hq) ?_
  refine g_iload_n1 1 rfl dX9_noEnvoy_0 ?_
  refine g_i2l 2 rfl dX9_noEnvoy_1 ?_
  refine g_lconst (v := 0) 3 rfl dX9_noEnvoy_2 rfl ?_
  refine g_aload_n0 4 rfl dX9_noEnvoy_3 ?_
  refine gf_Model_envoys 7 rfl fl_RX9_57 dX9_noEnvoy_4 ?_
  refine g_iconst (v := 1) 8 rfl dX9_noEnvoy_7 (by decide) ?_
  refine g_isub 9 rfl dX9_noEnvoy_8  ?_
  refine g_i2l 10 rfl dX9_noEnvoy_9 ?_
  refine g_cs3i 13 rfl cw_RX9_60 dX9_noEnvoy_10 (c_X9_in) (by omega) (Nat.le_of_ble_eq_true rfl) ?_
  refine gn_if_ne 20 (by decide) 16 rfl dX9_noEnvoy_13 (by split <;> omega) (fun c13 => ?_) (fun c13 => ?_)
  · refine g_iconst (v := 0) 21 rfl dX9_noEnvoy_20 (by decide) ?_
    refine g_iret .boolean dX9_noEnvoy_21 rfl (rfl) ?_
    refine ⟨congrArg (fun q => some (Value.int (nI q))) ?_, rfl⟩
    have e := in_d (n := h.1 22 4) (a := a) (by omega) ha (al := 0) rfl
    grind
  · refine g_iconst (v := 1) 17 rfl dX9_noEnvoy_16 (by decide) ?_
    refine g_goto 21 (by decide) dX9_noEnvoy_17 ?_
    refine g_iret .boolean dX9_noEnvoy_21 rfl (rfl) ?_
    refine ⟨congrArg (fun q => some (Value.int (nI q))) ?_, rfl⟩
    have e := in_d (n := h.1 22 4) (a := a) (by omega) ha (al := 0) rfl
    grind
theorem c_X9_noClause {a : Nat} (hn : h.1 22 6 ≤ 5) (ha : a < 2 ^ 32) : Rti V 2 yX9_noClause cX9_noClause 2 (some .boolean) [rf V 22, .int (nI a)] h (nI (if a < h.1 22 6 then 0 else 1)) h := by
  refine Mt_in [some (rf V 22), some (.int (nI a))] (own := RX9) rfl (by decide) (Nat.le_of_ble_eq_true rfl) (fun q hq => hq) ?_
  refine g_iload_n1 1 rfl dX9_noClause_0 ?_
  refine g_i2l 2 rfl dX9_noClause_1 ?_
  refine g_lconst (v := 0) 3 rfl dX9_noClause_2 rfl ?_
  refine g_aload_n0 4 rfl dX9_noClause_3 ?_
  refine gf_Model_clauses 7 rfl fl_RX9_64 dX9_noClause_4 ?_
  refine g_iconst (v := 1) 8 rfl dX9_noClause_7 (by decide) ?_
  refine g_isub 9 rfl dX9_noClause_8  ?_
  refine g_i2l 10 rfl dX9_noClause_9 ?_
  refine g_cs3i 13 rfl cw_RX9_60 dX9_noClause_10 (c_X9_in) (by omega) (Nat.le_of_ble_eq_true rfl) ?_
  refine gn_if_ne 20 (by decide) 16 rfl dX9_noClause_13 (by split <;> omega) (fun c13 => ?_) (fun c13 => ?_)
  · refine g_iconst (v := 0) 21 rfl dX9_noClause_20 (by decide) ?_
    refine g_iret .boolean dX9_noClause_21 rfl (rfl) ?_
    refine ⟨congrArg (fun q => some (Value.int (nI q))) ?_, rfl⟩
    have e := in_d (n := h.1 22 6) (a := a) (by omega) ha (al := 0) rfl
    grind
  · refine g_iconst (v := 1) 17 rfl dX9_noClause_16 (by decide) ?_
    refine g_goto 21 (by decide) dX9_noClause_17 ?_
    refine g_iret .boolean dX9_noClause_21 rfl (rfl) ?_
    refine ⟨congrArg (fun q => some (Value.int (nI q))) ?_, rfl⟩
    have e := in_d (n := h.1 22 6) (a := a) (by omega) ha (al := 0) rfl
    grind
theorem c_X9_painBy {k p t : Nat} (hk : k ≤ 3) (hp : p ≤ 9) (ht : t ≤ 9) : Rti V 1 yX9_painBy cX9_painBy 4 (some .int) [.int (nI p), .int (nI k), .int (nI t)] h (nI (pain k p t)) h := by
  refine Mt_in [some (.int (nI p)), some (.int (nI k)), some (.int (nI t)), none] (own := RX9) rfl (by decide) (Nat.le_of_ble_eq_true rfl) (fun q hq => hq) ?_
  refine g_iload_n2 1 rfl dX9_painBy_0 ?_
  refine g_iload_n0 2 rfl dX9_painBy_1 ?_
  refine gn_icmp_le 11 (by decide) 5 rfl dX9_painBy_2 (by omega) (by omega) (fun c2 => ?_) (fun c2 => ?_)
  · refine g_iconst (v := 0) 12 rfl dX9_painBy_11 (by decide) ?_
    refine g_istore_n3 13 rfl dX9_painBy_12 (by decide) rfl ?_
    refine g_iload_n1 14 rfl dX9_painBy_13 ?_
    refine g_iconst (v := 1) 15 rfl dX9_painBy_14 (by decide) ?_
    refine gn_icmp_eq 22 (by decide) 18 rfl dX9_painBy_15 (by omega) (by omega) (fun c15 => ?_) (fun c15 => ?_)
    · refine g_iconst (v := 0) 23 rfl dX9_painBy_22 (by decide) ?_
      refine g_iret .int dX9_painBy_23 rfl (rfl) ?_
      refine ⟨congrArg (fun q => some (Value.int (nI q))) ?_, rfl⟩
      grind [pain]
    · refine g_iload_n3 19 rfl dX9_painBy_18 ?_
      refine gn_if_ne 24 (by decide) 22 rfl dX9_painBy_19 (by omega) (fun c19 => ?_) (fun c19 => ?_)
      · refine g_iload_n1 25 rfl dX9_painBy_24 ?_
        refine g_iconst (v := 2) 26 rfl dX9_painBy_25 (by decide) ?_
        refine gn_icmp_ne 35 (by decide) 29 rfl dX9_painBy_26 (by omega) (by omega) (fun c26 => ?_) (fun c26 => ?_)
        · refine g_iload_n1 36 rfl dX9_painBy_35 ?_
          refine g_iconst (v := 3) 37 rfl dX9_painBy_36 (by decide) ?_
          refine gn_icmp_ne 46 (by decide) 40 rfl dX9_painBy_37 (by omega) (by omega) (fun c37 => ?_) (fun c37 => ?_)
          · refine g_iload_n3 47 rfl dX9_painBy_46 ?_
            refine g_iret .int dX9_painBy_47 rfl (rfl) ?_
            refine ⟨congrArg (fun q => some (Value.int (nI q))) ?_, rfl⟩
            grind [pain]
          · refine g_iload_n3 41 rfl dX9_painBy_40 ?_
            refine g_iconst (v := 1) 42 rfl dX9_painBy_41 (by decide) ?_
            refine gn_isub 43 rfl dX9_painBy_42 (by omega) ?_
            refine g_goto 47 (by decide) dX9_painBy_43 ?_
            refine g_iret .int dX9_painBy_47 rfl (rfl) ?_
            refine ⟨congrArg (fun q => some (Value.int (nI q))) ?_, rfl⟩
            grind [pain]
        · refine g_iload_n3 30 rfl dX9_painBy_29 ?_
          refine g_iconst (v := 1) 31 rfl dX9_painBy_30 (by decide) ?_
          refine gn_iadd 32 rfl dX9_painBy_31 ?_
          refine g_goto 47 (by decide) dX9_painBy_32 ?_
          refine g_iret .int dX9_painBy_47 rfl (rfl) ?_
          refine ⟨congrArg (fun q => some (Value.int (nI q))) ?_, rfl⟩
          grind [pain]
      · refine g_iconst (v := 0) 23 rfl dX9_painBy_22 (by decide) ?_
        refine g_iret .int dX9_painBy_23 rfl (rfl) ?_
        refine ⟨congrArg (fun q => some (Value.int (nI q))) ?_, rfl⟩
        grind [pain]
  · refine g_iload_n2 6 rfl dX9_painBy_5 ?_
    refine g_iload_n0 7 rfl dX9_painBy_6 ?_
    refine gn_isub 8 rfl dX9_painBy_7 (by omega) ?_
    refine g_goto 12 (by decide) dX9_painBy_8 ?_
    refine g_istore_n3 13 rfl dX9_painBy_12 (by decide) rfl ?_
    refine g_iload_n1 14 rfl dX9_painBy_13 ?_
    refine g_iconst (v := 1) 15 rfl dX9_painBy_14 (by decide) ?_
    refine gn_icmp_eq 22 (by decide) 18 rfl dX9_painBy_15 (by omega) (by omega) (fun c15 => ?_) (fun c15 => ?_)
    · refine g_iconst (v := 0) 23 rfl dX9_painBy_22 (by decide) ?_
      refine g_iret .int dX9_painBy_23 rfl (rfl) ?_
      refine ⟨congrArg (fun q => some (Value.int (nI q))) ?_, rfl⟩
      grind [pain]
    · refine g_iload_n3 19 rfl dX9_painBy_18 ?_
      refine gn_if_ne 24 (by decide) 22 rfl dX9_painBy_19 (by omega) (fun c19 => ?_) (fun c19 => ?_)
      · refine g_iload_n1 25 rfl dX9_painBy_24 ?_
        refine g_iconst (v := 2) 26 rfl dX9_painBy_25 (by decide) ?_
        refine gn_icmp_ne 35 (by decide) 29 rfl dX9_painBy_26 (by omega) (by omega) (fun c26 => ?_) (fun c26 => ?_)
        · refine g_iload_n1 36 rfl dX9_painBy_35 ?_
          refine g_iconst (v := 3) 37 rfl dX9_painBy_36 (by decide) ?_
          refine gn_icmp_ne 46 (by decide) 40 rfl dX9_painBy_37 (by omega) (by omega) (fun c37 => ?_) (fun c37 => ?_)
          · refine g_iload_n3 47 rfl dX9_painBy_46 ?_
            refine g_iret .int dX9_painBy_47 rfl (rfl) ?_
            refine ⟨congrArg (fun q => some (Value.int (nI q))) ?_, rfl⟩
            grind [pain]
          · refine g_iload_n3 41 rfl dX9_painBy_40 ?_
            refine g_iconst (v := 1) 42 rfl dX9_painBy_41 (by decide) ?_
            refine gn_isub 43 rfl dX9_painBy_42 (by omega) ?_
            refine g_goto 47 (by decide) dX9_painBy_43 ?_
            refine g_iret .int dX9_painBy_47 rfl (rfl) ?_
            refine ⟨congrArg (fun q => some (Value.int (nI q))) ?_, rfl⟩
            grind [pain]
        · refine g_iload_n3 30 rfl dX9_painBy_29 ?_
          refine g_iconst (v := 1) 31 rfl dX9_painBy_30 (by decide) ?_
          refine gn_iadd 32 rfl dX9_painBy_31 ?_
          refine g_goto 47 (by decide) dX9_painBy_32 ?_
          refine g_iret .int dX9_painBy_47 rfl (rfl) ?_
          refine ⟨congrArg (fun q => some (Value.int (nI q))) ?_, rfl⟩
          grind [pain]
      · refine g_iconst (v := 0) 23 rfl dX9_painBy_22 (by decide) ?_
        refine g_iret .int dX9_painBy_23 rfl (rfl) ?_
        refine ⟨congrArg (fun q => some (Value.int (nI q))) ?_, rfl⟩
        grind [pain]
theorem c_X9_painOf {e t : Nat} (he : e < 4) (hk : h.1 24 (3 * e + 2) ≤ 3) (hp : h.1 24 (3 * e) ≤ 9) (ht : t ≤ 9) : Rti V 2 yX9_painOf cX9_painOf 3 (some .int) [rf V 22, .int (nI e), .int (nI t)] h (nI (pain (h.1 24 (3 * e + 2)) (h.1 24 (3 * e)) t)) h := by
  refine Mt_in [some (rf V 22), some (.int (nI e)), some (.int (nI t))] (own := RX9) rfl (by decide) (Nat.le_of_ble_eq_true rfl) (fun q hq => hq) ?_
  refine g_aload_n0 1 rfl dX9_painOf_0 ?_
  refine gf_Model_envoy 4 rfl fl_RX9_13 dX9_painOf_1 ?_
  refine g_iconst (v := 3) 5 rfl dX9_painOf_4 (by decide) ?_
  refine g_iload_n1 6 rfl dX9_painOf_5 ?_
  refine gn_imul 7 rfl dX9_painOf_6 ?_
  refine ga_24 8 rfl (by omega) dX9_painOf_7 ?_
  refine g_aload_n0 9 rfl dX9_painOf_8 ?_
  refine gf_Model_envoy 12 rfl fl_RX9_13 dX9_painOf_9 ?_
  refine g_iconst (v := 3) 13 rfl dX9_painOf_12 (by decide) ?_
  refine g_iload_n1 14 rfl dX9_painOf_13 ?_
  refine gn_imul 15 rfl dX9_painOf_14 ?_
  refine g_iconst (v := 2) 16 rfl dX9_painOf_15 (by decide) ?_
  refine gn_iadd 17 rfl dX9_painOf_16 ?_
  refine ga_24 18 rfl (by omega) dX9_painOf_17 ?_
  refine g_iload_n2 19 rfl dX9_painOf_18 ?_
  refine g_cs3i 22 rfl cw_RX9_106 dX9_painOf_19 (c_X9_painBy hk hp ht) (by omega) (Nat.le_of_ble_eq_true rfl) ?_
  refine g_iret .int dX9_painOf_22 rfl (rfl) ?_
  exact ⟨rfl, rfl⟩
theorem c_X9_worthOf {c : Nat} (hc : c < 5) : Rti V 1 yX9_worthOf cX9_worthOf 2 (some .int) [rf V 22, .int (nI c)] h (nI (wrth (h.1 25) c)) h := by
  refine Mt_in [some (rf V 22), some (.int (nI c))] (own := RX9) rfl (by decide) (Nat.le_of_ble_eq_true rfl) (fun q hq => hq) ?_
  refine g_aload_n0 1 rfl dX9_worthOf_0 ?_
  refine gf_Model_clause 4 rfl fl_RX9_16 dX9_worthOf_1 ?_
  refine g_iconst (v := 3) 5 rfl dX9_worthOf_4 (by decide) ?_
  refine g_iload_n1 6 rfl dX9_worthOf_5 ?_
  refine gn_imul 7 rfl dX9_worthOf_6 ?_
  refine ga_25 8 rfl (by omega) dX9_worthOf_7 ?_
  refine g_aload_n0 9 rfl dX9_worthOf_8 ?_
  refine gf_Model_clause 12 rfl fl_RX9_16 dX9_worthOf_9 ?_
  refine g_iconst (v := 3) 13 rfl dX9_worthOf_12 (by decide) ?_
  refine g_iload_n1 14 rfl dX9_worthOf_13 ?_
  refine gn_imul 15 rfl dX9_worthOf_14 ?_
  refine g_iconst (v := 1) 16 rfl dX9_worthOf_15 (by decide) ?_
  refine gn_iadd 17 rfl dX9_worthOf_16 ?_
  refine ga_25 18 rfl (by omega) dX9_worthOf_17 ?_
  refine gn_iadd 19 rfl dX9_worthOf_18 ?_
  refine g_iret .int dX9_worthOf_19 rfl (rfl) ?_
  exact ⟨rfl, rfl⟩
theorem c_X9_canSay_28 {c : Nat} (hm : MI h) (hT : TI (h.1 28)) (hc : c < h.1 22 6) : Rti V 2 yX9_canSay cX9_canSay 4 (some .boolean) [rf V 22, rf V 28, .int (nI c)] h (nI (canB (h.1 22 6) (h.1 25) (h.1 28) c).toNat) h := by
  obtain ⟨hE, hC, x4, x5, x7, x8, -, -⟩ := id hm
  have ho := x8 c
  have hq := x7 (3 * c + 1)
  have hq2 := x7 (3 * c)
  have h0 := hT.1
  have h6 := hT.2.2.1
  have h8 := hT.2.2.2.2.1
  refine Mt_in [some (rf V 22), some (rf V 28), some (.int (nI c)), none] (own := RX9) rfl (by decide) (Nat.le_of_ble_eq_true rfl) (fun q hq => hq) ?_
  refine g_aload_n1 1 rfl dX9_canSay_0 ?_
  refine g_bipush (v := 8) 3 rfl dX9_canSay_1 (by decide) ?_
  refine ga_28 4 rfl (by omega) dX9_canSay_3 ?_
  refine g_iload_n2 5 rfl dX9_canSay_4 ?_
  refine g_cs2i 8 rfl cw_RX9_110 dX9_canSay_5 (c_X9_has (by omega) (by omega)) (by omega) (Nat.le_of_ble_eq_true rfl) ?_
  refine gn_if_ne 35 (by decide) 11 rfl dX9_canSay_8 (Nat.lt_of_lt_of_le (bt_lt _ _) (by omega)) (fun c8 => ?_) (fun c8 => ?_)
  · refine g_iconst (v := 0) 36 rfl dX9_canSay_35 (by decide) ?_
    refine g_istore_n3 37 rfl dX9_canSay_36 (by decide) rfl ?_
    refine g_iload_n3 38 rfl dX9_canSay_37 ?_
    refine gn_if_eq 79 (by decide) 41 rfl dX9_canSay_38 (by omega) (fun c38 => ?_) (fun c38 => ?_)
    · refine g_iconst (v := 0) 80 rfl dX9_canSay_79 (by decide) ?_
      refine g_iret .boolean dX9_canSay_80 rfl (rfl) ?_
      refine ⟨congrArg (fun q => some (Value.int (nI q))) ?_, rfl⟩
      grind [canB]
    · refine g_aload_n1 42 rfl dX9_canSay_41 ?_
      refine g_iconst (v := 0) 43 rfl dX9_canSay_42 (by decide) ?_
      refine ga_28 44 rfl (by omega) dX9_canSay_43 ?_
      refine g_aload_n0 45 rfl dX9_canSay_44 ?_
      refine gf_Model_clause 48 rfl fl_RX9_16 dX9_canSay_45 ?_
      refine g_iconst (v := 3) 49 rfl dX9_canSay_48 (by decide) ?_
      refine g_iload_n2 50 rfl dX9_canSay_49 ?_
      refine gn_imul 51 rfl dX9_canSay_50 ?_
      refine g_iconst (v := 1) 52 rfl dX9_canSay_51 (by decide) ?_
      refine gn_iadd 53 rfl dX9_canSay_52 ?_
      refine ga_25 54 rfl (by omega) dX9_canSay_53 ?_
      refine gn_icmp_lt 79 (by decide) 57 rfl dX9_canSay_54 (by omega) (by omega) (fun c54 => ?_) (fun c54 => ?_)
      · refine g_iconst (v := 0) 80 rfl dX9_canSay_79 (by decide) ?_
        refine g_iret .boolean dX9_canSay_80 rfl (rfl) ?_
        refine ⟨congrArg (fun q => some (Value.int (nI q))) ?_, rfl⟩
        grind [canB]
      · refine g_aload_n0 58 rfl dX9_canSay_57 ?_
        refine gf_Model_clause 61 rfl fl_RX9_16 dX9_canSay_58 ?_
        refine g_iconst (v := 3) 62 rfl dX9_canSay_61 (by decide) ?_
        refine g_iload_n2 63 rfl dX9_canSay_62 ?_
        refine gn_imul 64 rfl dX9_canSay_63 ?_
        refine ga_25 65 rfl (by omega) dX9_canSay_64 ?_
        refine g_iconst (v := 4) 66 rfl dX9_canSay_65 (by decide) ?_
        refine g_aload_n1 67 rfl dX9_canSay_66 ?_
        refine g_iconst (v := 0) 68 rfl dX9_canSay_67 (by decide) ?_
        refine ga_28 69 rfl (by omega) dX9_canSay_68 ?_
        refine g_iconst (v := 3) 70 rfl dX9_canSay_69 (by decide) ?_
        refine gn_idiv 71 rfl dX9_canSay_70 (by omega) (by omega) (by omega) ?_
        refine gn_isub 72 rfl dX9_canSay_71 (by omega) ?_
        refine gn_icmp_gt 79 (by decide) 75 rfl dX9_canSay_72 (by omega) (by omega) (fun c72 => ?_) (fun c72 => ?_)
        · refine g_iconst (v := 0) 80 rfl dX9_canSay_79 (by decide) ?_
          refine g_iret .boolean dX9_canSay_80 rfl (rfl) ?_
          refine ⟨congrArg (fun q => some (Value.int (nI q))) ?_, rfl⟩
          grind [canB]
        · refine g_iconst (v := 1) 76 rfl dX9_canSay_75 (by decide) ?_
          refine g_goto 80 (by decide) dX9_canSay_76 ?_
          refine g_iret .boolean dX9_canSay_80 rfl (rfl) ?_
          refine ⟨congrArg (fun q => some (Value.int (nI q))) ?_, rfl⟩
          grind [canB]
  · refine g_aload_n1 12 rfl dX9_canSay_11 ?_
    refine g_bipush (v := 6) 14 rfl dX9_canSay_12 (by decide) ?_
    refine ga_28 15 rfl (by omega) dX9_canSay_14 ?_
    refine g_aload_n0 16 rfl dX9_canSay_15 ?_
    refine gf_Model_clause 19 rfl fl_RX9_16 dX9_canSay_16 ?_
    refine g_iconst (v := 3) 20 rfl dX9_canSay_19 (by decide) ?_
    refine g_iload_n2 21 rfl dX9_canSay_20 ?_
    refine gn_imul 22 rfl dX9_canSay_21 ?_
    refine g_iconst (v := 2) 23 rfl dX9_canSay_22 (by decide) ?_
    refine gn_iadd 24 rfl dX9_canSay_23 ?_
    refine ga_25 25 rfl (by omega) dX9_canSay_24 ?_
    refine g_cs2i 28 rfl cw_RX9_110 dX9_canSay_25 (c_X9_has (by omega) (by omega)) (by omega) (Nat.le_of_ble_eq_true rfl) ?_
    refine gn_if_eq 35 (by decide) 31 rfl dX9_canSay_28 (Nat.lt_of_lt_of_le (bt_lt _ _) (by omega)) (fun c28 => ?_) (fun c28 => ?_)
    · refine g_iconst (v := 0) 36 rfl dX9_canSay_35 (by decide) ?_
      refine g_istore_n3 37 rfl dX9_canSay_36 (by decide) rfl ?_
      refine g_iload_n3 38 rfl dX9_canSay_37 ?_
      refine gn_if_eq 79 (by decide) 41 rfl dX9_canSay_38 (by omega) (fun c38 => ?_) (fun c38 => ?_)
      · refine g_iconst (v := 0) 80 rfl dX9_canSay_79 (by decide) ?_
        refine g_iret .boolean dX9_canSay_80 rfl (rfl) ?_
        refine ⟨congrArg (fun q => some (Value.int (nI q))) ?_, rfl⟩
        grind [canB]
      · refine g_aload_n1 42 rfl dX9_canSay_41 ?_
        refine g_iconst (v := 0) 43 rfl dX9_canSay_42 (by decide) ?_
        refine ga_28 44 rfl (by omega) dX9_canSay_43 ?_
        refine g_aload_n0 45 rfl dX9_canSay_44 ?_
        refine gf_Model_clause 48 rfl fl_RX9_16 dX9_canSay_45 ?_
        refine g_iconst (v := 3) 49 rfl dX9_canSay_48 (by decide) ?_
        refine g_iload_n2 50 rfl dX9_canSay_49 ?_
        refine gn_imul 51 rfl dX9_canSay_50 ?_
        refine g_iconst (v := 1) 52 rfl dX9_canSay_51 (by decide) ?_
        refine gn_iadd 53 rfl dX9_canSay_52 ?_
        refine ga_25 54 rfl (by omega) dX9_canSay_53 ?_
        refine gn_icmp_lt 79 (by decide) 57 rfl dX9_canSay_54 (by omega) (by omega) (fun c54 => ?_) (fun c54 => ?_)
        · refine g_iconst (v := 0) 80 rfl dX9_canSay_79 (by decide) ?_
          refine g_iret .boolean dX9_canSay_80 rfl (rfl) ?_
          refine ⟨congrArg (fun q => some (Value.int (nI q))) ?_, rfl⟩
          grind [canB]
        · refine g_aload_n0 58 rfl dX9_canSay_57 ?_
          refine gf_Model_clause 61 rfl fl_RX9_16 dX9_canSay_58 ?_
          refine g_iconst (v := 3) 62 rfl dX9_canSay_61 (by decide) ?_
          refine g_iload_n2 63 rfl dX9_canSay_62 ?_
          refine gn_imul 64 rfl dX9_canSay_63 ?_
          refine ga_25 65 rfl (by omega) dX9_canSay_64 ?_
          refine g_iconst (v := 4) 66 rfl dX9_canSay_65 (by decide) ?_
          refine g_aload_n1 67 rfl dX9_canSay_66 ?_
          refine g_iconst (v := 0) 68 rfl dX9_canSay_67 (by decide) ?_
          refine ga_28 69 rfl (by omega) dX9_canSay_68 ?_
          refine g_iconst (v := 3) 70 rfl dX9_canSay_69 (by decide) ?_
          refine gn_idiv 71 rfl dX9_canSay_70 (by omega) (by omega) (by omega) ?_
          refine gn_isub 72 rfl dX9_canSay_71 (by omega) ?_
          refine gn_icmp_gt 79 (by decide) 75 rfl dX9_canSay_72 (by omega) (by omega) (fun c72 => ?_) (fun c72 => ?_)
          · refine g_iconst (v := 0) 80 rfl dX9_canSay_79 (by decide) ?_
            refine g_iret .boolean dX9_canSay_80 rfl (rfl) ?_
            refine ⟨congrArg (fun q => some (Value.int (nI q))) ?_, rfl⟩
            grind [canB]
          · refine g_iconst (v := 1) 76 rfl dX9_canSay_75 (by decide) ?_
            refine g_goto 80 (by decide) dX9_canSay_76 ?_
            refine g_iret .boolean dX9_canSay_80 rfl (rfl) ?_
            refine ⟨congrArg (fun q => some (Value.int (nI q))) ?_, rfl⟩
            grind [canB]
    · refine g_iconst (v := 1) 32 rfl dX9_canSay_31 (by decide) ?_
      refine g_goto 36 (by decide) dX9_canSay_32 ?_
      refine g_istore_n3 37 rfl dX9_canSay_36 (by decide) rfl ?_
      refine g_iload_n3 38 rfl dX9_canSay_37 ?_
      refine gn_if_eq 79 (by decide) 41 rfl dX9_canSay_38 (by omega) (fun c38 => ?_) (fun c38 => ?_)
      · refine g_iconst (v := 0) 80 rfl dX9_canSay_79 (by decide) ?_
        refine g_iret .boolean dX9_canSay_80 rfl (rfl) ?_
        refine ⟨congrArg (fun q => some (Value.int (nI q))) ?_, rfl⟩
        grind [canB]
      · refine g_aload_n1 42 rfl dX9_canSay_41 ?_
        refine g_iconst (v := 0) 43 rfl dX9_canSay_42 (by decide) ?_
        refine ga_28 44 rfl (by omega) dX9_canSay_43 ?_
        refine g_aload_n0 45 rfl dX9_canSay_44 ?_
        refine gf_Model_clause 48 rfl fl_RX9_16 dX9_canSay_45 ?_
        refine g_iconst (v := 3) 49 rfl dX9_canSay_48 (by decide) ?_
        refine g_iload_n2 50 rfl dX9_canSay_49 ?_
        refine gn_imul 51 rfl dX9_canSay_50 ?_
        refine g_iconst (v := 1) 52 rfl dX9_canSay_51 (by decide) ?_
        refine gn_iadd 53 rfl dX9_canSay_52 ?_
        refine ga_25 54 rfl (by omega) dX9_canSay_53 ?_
        refine gn_icmp_lt 79 (by decide) 57 rfl dX9_canSay_54 (by omega) (by omega) (fun c54 => ?_) (fun c54 => ?_)
        · refine g_iconst (v := 0) 80 rfl dX9_canSay_79 (by decide) ?_
          refine g_iret .boolean dX9_canSay_80 rfl (rfl) ?_
          refine ⟨congrArg (fun q => some (Value.int (nI q))) ?_, rfl⟩
          grind [canB]
        · refine g_aload_n0 58 rfl dX9_canSay_57 ?_
          refine gf_Model_clause 61 rfl fl_RX9_16 dX9_canSay_58 ?_
          refine g_iconst (v := 3) 62 rfl dX9_canSay_61 (by decide) ?_
          refine g_iload_n2 63 rfl dX9_canSay_62 ?_
          refine gn_imul 64 rfl dX9_canSay_63 ?_
          refine ga_25 65 rfl (by omega) dX9_canSay_64 ?_
          refine g_iconst (v := 4) 66 rfl dX9_canSay_65 (by decide) ?_
          refine g_aload_n1 67 rfl dX9_canSay_66 ?_
          refine g_iconst (v := 0) 68 rfl dX9_canSay_67 (by decide) ?_
          refine ga_28 69 rfl (by omega) dX9_canSay_68 ?_
          refine g_iconst (v := 3) 70 rfl dX9_canSay_69 (by decide) ?_
          refine gn_idiv 71 rfl dX9_canSay_70 (by omega) (by omega) (by omega) ?_
          refine gn_isub 72 rfl dX9_canSay_71 (by omega) ?_
          refine gn_icmp_gt 79 (by decide) 75 rfl dX9_canSay_72 (by omega) (by omega) (fun c72 => ?_) (fun c72 => ?_)
          · refine g_iconst (v := 0) 80 rfl dX9_canSay_79 (by decide) ?_
            refine g_iret .boolean dX9_canSay_80 rfl (rfl) ?_
            refine ⟨congrArg (fun q => some (Value.int (nI q))) ?_, rfl⟩
            grind [canB]
          · refine g_iconst (v := 1) 76 rfl dX9_canSay_75 (by decide) ?_
            refine g_goto 80 (by decide) dX9_canSay_76 ?_
            refine g_iret .boolean dX9_canSay_80 rfl (rfl) ?_
            refine ⟨congrArg (fun q => some (Value.int (nI q))) ?_, rfl⟩
            grind [canB]
theorem c_X9_goBite_28 (hm : MI h) (hT : TI (h.1 28)) : Rtv V 3 yX9_goBite cX9_goBite 3 none [rf V 22, rf V 28] h (sR h 28 (bite (h.1 24) (h.1 22 4) (h.1 28))) := by
  obtain ⟨hE, hC, x4, x5, x7, x8, -, -⟩ := id hm
  refine Mt_in [some (rf V 22), some (rf V 28), none] (own := RX9) rfl (by decide) (Nat.le_of_ble_eq_true rfl) (fun q hq => hq) ?_
  refine g_iconst (v := 0) 1 rfl dX9_goBite_0 (by decide) ?_
  refine g_istore_n2 2 rfl dX9_goBite_1 (by decide) rfl ?_
  skip
  refine g_heap (sR_same h 28).symm ?_
  refine loop_up (P := fun e => G V T0 3 RX9 cX9_goBite 3 none 2 [some (rf V 22), some (rf V 28), some (.int (nI e))] [] (sR h 28 (biteN (h.1 24) (h.1 28) e)) _) (n := h.1 22 4) ?_ (fun e he ih => ?_) 0 (Nat.zero_le _)
  · have hN := TI_biteN hT x4 (h.1 22 4) hE
    have h0 := hN.1
    have J : ∀ z, biteN (h.1 24) (h.1 28) (h.1 22 4) 0 - z = biteN (h.1 24) (h.1 28) (h.1 22 4) 0 - 1 → z ≤ biteN (h.1 24) (h.1 28) (h.1 22 4) 0 → G V T0 3 RX9 cX9_goBite 3 none 94 [some (rf V 22), some (rf V 28), some (.int (nI (h.1 22 4)))] [.int (nI z), .int (nI (biteN (h.1 24) (h.1 28) (h.1 22 4) 0)), .int (nI 0), rf V 28] (sR h 28 (biteN (h.1 24) (h.1 28) (h.1 22 4))) (fun v g => v = none ∧ g = sR h 28 (bite (h.1 24) (h.1 22 4) (h.1 28))) := by
      intro z hz hz2
      refine gn_isub 95 rfl dX9_goBite_94 hz2 ?_
      rw [hz]
      refine gs_28 96 rfl (by omega) dX9_goBite_95 ?_
      rw [sR_s, sR_sR]
      refine g_aload_n1 97 rfl dX9_goBite_96 ?_
      refine g_bipush (v := 9) 99 rfl dX9_goBite_97 (by decide) ?_
      refine g_dup2 100 rfl dX9_goBite_99 rfl rfl ?_
      refine ga_28 101 rfl (by omega) dX9_goBite_100 ?_
      rw [sR_s, up_n (by omega)]
      refine g_iconst (v := 1) 102 rfl dX9_goBite_101 (by decide) ?_
      refine gn_iadd 103 rfl dX9_goBite_102 ?_
      refine gs_28 104 rfl (by omega) dX9_goBite_103 ?_
      refine g_vret dX9_goBite_104 rfl ?_
      exact ⟨rfl, by rw [sR_s, sR_sR]; rfl⟩
    refine g_iload_n2 3 rfl dX9_goBite_2 ?_
    refine g_aload_n0 4 rfl dX9_goBite_3 ?_
    refine gf_Model_envoys 7 rfl fl_RX9_57 dX9_goBite_4 ?_
    rw [sR_n (by decide)]
    refine gn_icmp_ge 79 (by decide) 10 rfl dX9_goBite_7 (by omega) (by omega) (fun c7 => ?_) (fun c7 => absurd c7 (Nat.lt_irrefl _))
    refine g_aload_n1 80 rfl dX9_goBite_79 ?_
    refine g_iconst (v := 0) 81 rfl dX9_goBite_80 (by decide) ?_
    refine g_dup2 82 rfl dX9_goBite_81 rfl rfl ?_
    refine ga_28 83 rfl (by omega) dX9_goBite_82 ?_
    rw [sR_s]
    refine g_aload_n1 84 rfl dX9_goBite_83 ?_
    refine g_iconst (v := 0) 85 rfl dX9_goBite_84 (by decide) ?_
    refine ga_28 86 rfl (by omega) dX9_goBite_85 ?_
    rw [sR_s]
    refine gn_if_le 93 (by decide) 89 rfl dX9_goBite_86 (by omega) (fun c86 => ?_) (fun c86 => ?_)
    · refine g_iconst (v := 0) 94 rfl dX9_goBite_93 (by decide) ?_
      first | exact J 0 (by omega) (by omega) | exact J 1 rfl (by omega)
    · refine g_iconst (v := 1) 90 rfl dX9_goBite_89 (by decide) ?_
      refine g_goto 94 (by decide) dX9_goBite_90 ?_
      first | exact J 0 (by omega) (by omega) | exact J 1 rfl (by omega)
  · have hN := TI_biteN hT x4 e (by omega)
    change G V T0 3 RX9 cX9_goBite 3 none 2 _ [] (sR h 28 (bite1 (h.1 24) e (biteN (h.1 24) (h.1 28) e))) _ at ih
    generalize biteN (h.1 24) (h.1 28) e = T at hN ih ⊢
    have hp := pain_le (k := h.1 24 (3 * e + 2)) (p := h.1 24 (3 * e)) hN.1
    have ht := (hN.2.2.2.2.2.1 e (by omega)).1
    have hw := x4 (3 * e + 1)
    have h6 := hN.2.2.1
    refine g_iload_n2 3 rfl dX9_goBite_2 ?_
    refine g_aload_n0 4 rfl dX9_goBite_3 ?_
    refine gf_Model_envoys 7 rfl fl_RX9_57 dX9_goBite_4 ?_
    rw [sR_n (by decide)]
    refine gn_icmp_ge 79 (by decide) 10 rfl dX9_goBite_7 (by omega) (by omega) (fun c7 => absurd c7 (Nat.not_le_of_lt he)) (fun c7 => ?_)
    refine g_aload_n1 11 rfl dX9_goBite_10 ?_
    refine g_bipush (v := 6) 13 rfl dX9_goBite_11 (by decide) ?_
    refine ga_28 14 rfl (by omega) dX9_goBite_13 ?_
    rw [sR_s]
    refine g_iload_n2 15 rfl dX9_goBite_14 ?_
    refine g_cs2i 18 rfl cw_RX9_110 dX9_goBite_15 (c_X9_has (by omega) (by omega)) (by omega) (Nat.le_of_ble_eq_true rfl) ?_
    refine gn_if_eq 73 (by decide) 21 rfl dX9_goBite_18 (Nat.lt_of_lt_of_le (bt_lt _ _) (by omega)) (fun c18 => ?_) (fun c18 => ?_)
    · try rw [sR_s, sR_sR]
      refine gn_iinc2 1 76 rfl dX9_goBite_73 rfl (by decide) rfl ?_
      refine g_goto 2 (by decide) dX9_goBite_76 ?_
      first | (rw [show bite1 (h.1 24) e T = T from if_pos c18] at ih; exact ih) | (rw [show bite1 (h.1 24) e T = _ from (if_neg c18).trans (if_pos c59)] at ih; rw [show (4294967295 : Nat) = 2 ^ 32 - 1 from rfl, Nat.and_two_pow_sub_one_of_lt_two_pow (by omega), show up (up T (2 + e) (T (2 + e) + pain (h.1 24 (3 * e + 2)) (h.1 24 (3 * e)) (T 0))) 6 (T 6) = up T (2 + e) (T (2 + e) + pain (h.1 24 (3 * e + 2)) (h.1 24 (3 * e)) (T 0)) from by rw [up_c _ (by omega), up_same]]; exact ih) | (rw [show bite1 (h.1 24) e T = _ from (if_neg c18).trans (if_neg (Nat.not_lt.mpr c59))] at ih; exact ih)
    · refine g_aload_n1 22 rfl dX9_goBite_21 ?_
      refine g_iconst (v := 2) 23 rfl dX9_goBite_22 (by decide) ?_
      refine g_iload_n2 24 rfl dX9_goBite_23 ?_
      refine gn_iadd 25 rfl dX9_goBite_24 ?_
      refine g_dup2 26 rfl dX9_goBite_25 rfl rfl ?_
      refine ga_28 27 rfl (by omega) dX9_goBite_26 ?_
      rw [sR_s]
      refine g_aload_n0 28 rfl dX9_goBite_27 ?_
      refine g_iload_n2 29 rfl dX9_goBite_28 ?_
      refine g_aload_n1 30 rfl dX9_goBite_29 ?_
      refine g_iconst (v := 0) 31 rfl dX9_goBite_30 (by decide) ?_
      refine ga_28 32 rfl (by omega) dX9_goBite_31 ?_
      rw [sR_s]
      refine g_cv2i 35 rfl cw_RX9_118 dX9_goBite_32 (c_X9_painOf (by omega) (x5 e) (x4 _) hN.1) (by omega) (ob_22 V) (Nat.le_of_ble_eq_true rfl) ?_
      rw [sR_n (by decide)]
      refine gn_iadd 36 rfl dX9_goBite_35 ?_
      refine gs_28 37 rfl (by omega) dX9_goBite_36 ?_
      rw [sR_s, sR_sR]
      refine g_aload_n1 38 rfl dX9_goBite_37 ?_
      refine g_bipush (v := 6) 40 rfl dX9_goBite_38 (by decide) ?_
      refine g_dup2 41 rfl dX9_goBite_40 rfl rfl ?_
      refine ga_28 42 rfl (by omega) dX9_goBite_41 ?_
      rw [sR_s, up_n (by omega)]
      refine g_aload_n1 43 rfl dX9_goBite_42 ?_
      refine g_iconst (v := 2) 44 rfl dX9_goBite_43 (by decide) ?_
      refine g_iload_n2 45 rfl dX9_goBite_44 ?_
      refine gn_iadd 46 rfl dX9_goBite_45 ?_
      refine ga_28 47 rfl (by omega) dX9_goBite_46 ?_
      rw [sR_s, up_s]
      refine g_iconst (v := 2) 48 rfl dX9_goBite_47 (by decide) ?_
      refine g_aload_n0 49 rfl dX9_goBite_48 ?_
      refine gf_Model_envoy 52 rfl fl_RX9_13 dX9_goBite_49 ?_
      refine g_iconst (v := 3) 53 rfl dX9_goBite_52 (by decide) ?_
      refine g_iload_n2 54 rfl dX9_goBite_53 ?_
      refine gn_imul 55 rfl dX9_goBite_54 ?_
      refine g_iconst (v := 1) 56 rfl dX9_goBite_55 (by decide) ?_
      refine gn_iadd 57 rfl dX9_goBite_56 ?_
      refine ga_24 58 rfl (by omega) dX9_goBite_57 ?_
      rw [sR_n (by decide)]
      refine gn_imul 59 rfl dX9_goBite_58 ?_
      refine gn_icmp_lt 70 (by decide) 62 rfl dX9_goBite_59 (by omega) (by omega) (fun c59 => ?_) (fun c59 => ?_)
      · refine g_iconst (v := 4294967295) 71 rfl dX9_goBite_70 (by decide) ?_
        refine gn_iand 72 rfl dX9_goBite_71 ?_
        refine gs_28 73 rfl (by omega) dX9_goBite_72 ?_
        try rw [sR_s, sR_sR]
        refine gn_iinc2 1 76 rfl dX9_goBite_73 rfl (by decide) rfl ?_
        refine g_goto 2 (by decide) dX9_goBite_76 ?_
        first | (rw [show bite1 (h.1 24) e T = T from if_pos c18] at ih; exact ih) | (rw [show bite1 (h.1 24) e T = _ from (if_neg c18).trans (if_pos c59)] at ih; rw [show (4294967295 : Nat) = 2 ^ 32 - 1 from rfl, Nat.and_two_pow_sub_one_of_lt_two_pow (by omega), show up (up T (2 + e) (T (2 + e) + pain (h.1 24 (3 * e + 2)) (h.1 24 (3 * e)) (T 0))) 6 (T 6) = up T (2 + e) (T (2 + e) + pain (h.1 24 (3 * e + 2)) (h.1 24 (3 * e)) (T 0)) from by rw [up_c _ (by omega), up_same]]; exact ih) | (rw [show bite1 (h.1 24) e T = _ from (if_neg c18).trans (if_neg (Nat.not_lt.mpr c59))] at ih; exact ih)
      · refine g_iconst (v := 1) 63 rfl dX9_goBite_62 (by decide) ?_
        refine g_iload_n2 64 rfl dX9_goBite_63 ?_
        refine gn_ishl 65 rfl dX9_goBite_64 (by omega) ?_
        refine g_iconst (v := 4294967295) 66 rfl dX9_goBite_65 (by decide) ?_
        refine gn_ixor 67 rfl dX9_goBite_66 ?_
        refine g_goto 71 (by decide) dX9_goBite_67 ?_
        refine gn_iand 72 rfl dX9_goBite_71 ?_
        refine gs_28 73 rfl (by omega) dX9_goBite_72 ?_
        try rw [sR_s, sR_sR]
        refine gn_iinc2 1 76 rfl dX9_goBite_73 rfl (by decide) rfl ?_
        refine g_goto 2 (by decide) dX9_goBite_76 ?_
        first | (rw [show bite1 (h.1 24) e T = T from if_pos c18] at ih; exact ih) | (rw [show bite1 (h.1 24) e T = _ from (if_neg c18).trans (if_pos c59)] at ih; rw [show (4294967295 : Nat) = 2 ^ 32 - 1 from rfl, Nat.and_two_pow_sub_one_of_lt_two_pow (by omega), show up (up T (2 + e) (T (2 + e) + pain (h.1 24 (3 * e + 2)) (h.1 24 (3 * e)) (T 0))) 6 (T 6) = up T (2 + e) (T (2 + e) + pain (h.1 24 (3 * e + 2)) (h.1 24 (3 * e)) (T 0)) from by rw [up_c _ (by omega), up_same]]; exact ih) | (rw [show bite1 (h.1 24) e T = _ from (if_neg c18).trans (if_neg (Nat.not_lt.mpr c59))] at ih; exact ih)
theorem c_X9_goSpice_28 (hT : TI (h.1 28)) : Rtv V 1 yX9_goSpice cX9_goSpice 1 none [rf V 28] h (sR h 28 (seedR (h.1 28))) := by
  have h0 := hT.1
  refine Mt_in [some (rf V 28)] (own := RX9) rfl (by decide) (Nat.le_of_ble_eq_true rfl) (fun q hq => hq) ?_
  refine g_aload_n0 1 rfl dX9_goSpice_0 ?_
  refine g_iconst (v := 1) 2 rfl dX9_goSpice_1 (by decide) ?_
  refine g_dup2 3 rfl dX9_goSpice_2 rfl rfl ?_
  refine ga_28 4 rfl (by omega) dX9_goSpice_3 ?_
  refine g_iconst (v := 1) 5 rfl dX9_goSpice_4 (by decide) ?_
  refine g_isub 6 rfl dX9_goSpice_5  ?_
  rw [dec1_nI]
  refine gs_28 7 rfl (by omega) dX9_goSpice_6 ?_
  refine g_aload_n0 8 rfl dX9_goSpice_7 ?_
  refine g_iconst (v := 0) 9 rfl dX9_goSpice_8 (by decide) ?_
  refine g_aload_n0 10 rfl dX9_goSpice_9 ?_
  refine g_iconst (v := 0) 11 rfl dX9_goSpice_10 (by decide) ?_
  refine ga_28 12 rfl (by omega) dX9_goSpice_11 ?_
  rw [sR_s, up_n (by omega)]
  refine g_iconst (v := 2) 13 rfl dX9_goSpice_12 (by decide) ?_
  refine gn_iadd 14 rfl dX9_goSpice_13 ?_
  refine g_bipush (v := 9) 16 rfl dX9_goSpice_14 (by decide) ?_
  refine gn_icmp_le 24 (by decide) 19 rfl dX9_goSpice_16 (by omega) (by omega) (fun c16 => ?_) (fun c16 => ?_)
  · refine g_aload_n0 25 rfl dX9_goSpice_24 ?_
    refine g_iconst (v := 0) 26 rfl dX9_goSpice_25 (by decide) ?_
    refine ga_28 27 rfl (by omega) dX9_goSpice_26 ?_
    rw [sR_s, up_n (by omega)]
    refine g_iconst (v := 2) 28 rfl dX9_goSpice_27 (by decide) ?_
    refine gn_iadd 29 rfl dX9_goSpice_28 ?_
    refine gs_28 30 rfl (by omega) dX9_goSpice_29 ?_
    refine g_vret dX9_goSpice_30 rfl ?_
    refine ⟨rfl, ?_⟩
    rw [sR_s, sR_sR]
    unfold seedR
    first | (rw [show min 9 (h.1 28 0 + 2) = 9 by omega]; done) | (rw [show min 9 (h.1 28 0 + 2) = h.1 28 0 + 2 by omega]; done)
  · refine g_bipush (v := 9) 21 rfl dX9_goSpice_19 (by decide) ?_
    refine g_goto 29 (by decide) dX9_goSpice_21 ?_
    refine gs_28 30 rfl (by omega) dX9_goSpice_29 ?_
    refine g_vret dX9_goSpice_30 rfl ?_
    refine ⟨rfl, ?_⟩
    rw [sR_s, sR_sR]
    unfold seedR
    first | (rw [show min 9 (h.1 28 0 + 2) = 9 by omega]; done) | (rw [show min 9 (h.1 28 0 + 2) = h.1 28 0 + 2 by omega]; done)
theorem c_X9_canSay_29 {c : Nat} (hm : MI h) (hT : TI (h.1 29)) (hc : c < h.1 22 6) : Rti V 2 yX9_canSay cX9_canSay 4 (some .boolean) [rf V 22, rf V 29, .int (nI c)] h (nI (canB (h.1 22 6) (h.1 25) (h.1 29) c).toNat) h := by
  obtain ⟨hE, hC, x4, x5, x7, x8, -, -⟩ := id hm
  have ho := x8 c
  have hq := x7 (3 * c + 1)
  have hq2 := x7 (3 * c)
  have h0 := hT.1
  have h6 := hT.2.2.1
  have h8 := hT.2.2.2.2.1
  refine Mt_in [some (rf V 22), some (rf V 29), some (.int (nI c)), none] (own := RX9) rfl (by decide) (Nat.le_of_ble_eq_true rfl) (fun q hq => hq) ?_
  refine g_aload_n1 1 rfl dX9_canSay_0 ?_
  refine g_bipush (v := 8) 3 rfl dX9_canSay_1 (by decide) ?_
  refine ga_29 4 rfl (by omega) dX9_canSay_3 ?_
  refine g_iload_n2 5 rfl dX9_canSay_4 ?_
  refine g_cs2i 8 rfl cw_RX9_110 dX9_canSay_5 (c_X9_has (by omega) (by omega)) (by omega) (Nat.le_of_ble_eq_true rfl) ?_
  refine gn_if_ne 35 (by decide) 11 rfl dX9_canSay_8 (Nat.lt_of_lt_of_le (bt_lt _ _) (by omega)) (fun c8 => ?_) (fun c8 => ?_)
  · refine g_iconst (v := 0) 36 rfl dX9_canSay_35 (by decide) ?_
    refine g_istore_n3 37 rfl dX9_canSay_36 (by decide) rfl ?_
    refine g_iload_n3 38 rfl dX9_canSay_37 ?_
    refine gn_if_eq 79 (by decide) 41 rfl dX9_canSay_38 (by omega) (fun c38 => ?_) (fun c38 => ?_)
    · refine g_iconst (v := 0) 80 rfl dX9_canSay_79 (by decide) ?_
      refine g_iret .boolean dX9_canSay_80 rfl (rfl) ?_
      refine ⟨congrArg (fun q => some (Value.int (nI q))) ?_, rfl⟩
      grind [canB]
    · refine g_aload_n1 42 rfl dX9_canSay_41 ?_
      refine g_iconst (v := 0) 43 rfl dX9_canSay_42 (by decide) ?_
      refine ga_29 44 rfl (by omega) dX9_canSay_43 ?_
      refine g_aload_n0 45 rfl dX9_canSay_44 ?_
      refine gf_Model_clause 48 rfl fl_RX9_16 dX9_canSay_45 ?_
      refine g_iconst (v := 3) 49 rfl dX9_canSay_48 (by decide) ?_
      refine g_iload_n2 50 rfl dX9_canSay_49 ?_
      refine gn_imul 51 rfl dX9_canSay_50 ?_
      refine g_iconst (v := 1) 52 rfl dX9_canSay_51 (by decide) ?_
      refine gn_iadd 53 rfl dX9_canSay_52 ?_
      refine ga_25 54 rfl (by omega) dX9_canSay_53 ?_
      refine gn_icmp_lt 79 (by decide) 57 rfl dX9_canSay_54 (by omega) (by omega) (fun c54 => ?_) (fun c54 => ?_)
      · refine g_iconst (v := 0) 80 rfl dX9_canSay_79 (by decide) ?_
        refine g_iret .boolean dX9_canSay_80 rfl (rfl) ?_
        refine ⟨congrArg (fun q => some (Value.int (nI q))) ?_, rfl⟩
        grind [canB]
      · refine g_aload_n0 58 rfl dX9_canSay_57 ?_
        refine gf_Model_clause 61 rfl fl_RX9_16 dX9_canSay_58 ?_
        refine g_iconst (v := 3) 62 rfl dX9_canSay_61 (by decide) ?_
        refine g_iload_n2 63 rfl dX9_canSay_62 ?_
        refine gn_imul 64 rfl dX9_canSay_63 ?_
        refine ga_25 65 rfl (by omega) dX9_canSay_64 ?_
        refine g_iconst (v := 4) 66 rfl dX9_canSay_65 (by decide) ?_
        refine g_aload_n1 67 rfl dX9_canSay_66 ?_
        refine g_iconst (v := 0) 68 rfl dX9_canSay_67 (by decide) ?_
        refine ga_29 69 rfl (by omega) dX9_canSay_68 ?_
        refine g_iconst (v := 3) 70 rfl dX9_canSay_69 (by decide) ?_
        refine gn_idiv 71 rfl dX9_canSay_70 (by omega) (by omega) (by omega) ?_
        refine gn_isub 72 rfl dX9_canSay_71 (by omega) ?_
        refine gn_icmp_gt 79 (by decide) 75 rfl dX9_canSay_72 (by omega) (by omega) (fun c72 => ?_) (fun c72 => ?_)
        · refine g_iconst (v := 0) 80 rfl dX9_canSay_79 (by decide) ?_
          refine g_iret .boolean dX9_canSay_80 rfl (rfl) ?_
          refine ⟨congrArg (fun q => some (Value.int (nI q))) ?_, rfl⟩
          grind [canB]
        · refine g_iconst (v := 1) 76 rfl dX9_canSay_75 (by decide) ?_
          refine g_goto 80 (by decide) dX9_canSay_76 ?_
          refine g_iret .boolean dX9_canSay_80 rfl (rfl) ?_
          refine ⟨congrArg (fun q => some (Value.int (nI q))) ?_, rfl⟩
          grind [canB]
  · refine g_aload_n1 12 rfl dX9_canSay_11 ?_
    refine g_bipush (v := 6) 14 rfl dX9_canSay_12 (by decide) ?_
    refine ga_29 15 rfl (by omega) dX9_canSay_14 ?_
    refine g_aload_n0 16 rfl dX9_canSay_15 ?_
    refine gf_Model_clause 19 rfl fl_RX9_16 dX9_canSay_16 ?_
    refine g_iconst (v := 3) 20 rfl dX9_canSay_19 (by decide) ?_
    refine g_iload_n2 21 rfl dX9_canSay_20 ?_
    refine gn_imul 22 rfl dX9_canSay_21 ?_
    refine g_iconst (v := 2) 23 rfl dX9_canSay_22 (by decide) ?_
    refine gn_iadd 24 rfl dX9_canSay_23 ?_
    refine ga_25 25 rfl (by omega) dX9_canSay_24 ?_
    refine g_cs2i 28 rfl cw_RX9_110 dX9_canSay_25 (c_X9_has (by omega) (by omega)) (by omega) (Nat.le_of_ble_eq_true rfl) ?_
    refine gn_if_eq 35 (by decide) 31 rfl dX9_canSay_28 (Nat.lt_of_lt_of_le (bt_lt _ _) (by omega)) (fun c28 => ?_) (fun c28 => ?_)
    · refine g_iconst (v := 0) 36 rfl dX9_canSay_35 (by decide) ?_
      refine g_istore_n3 37 rfl dX9_canSay_36 (by decide) rfl ?_
      refine g_iload_n3 38 rfl dX9_canSay_37 ?_
      refine gn_if_eq 79 (by decide) 41 rfl dX9_canSay_38 (by omega) (fun c38 => ?_) (fun c38 => ?_)
      · refine g_iconst (v := 0) 80 rfl dX9_canSay_79 (by decide) ?_
        refine g_iret .boolean dX9_canSay_80 rfl (rfl) ?_
        refine ⟨congrArg (fun q => some (Value.int (nI q))) ?_, rfl⟩
        grind [canB]
      · refine g_aload_n1 42 rfl dX9_canSay_41 ?_
        refine g_iconst (v := 0) 43 rfl dX9_canSay_42 (by decide) ?_
        refine ga_29 44 rfl (by omega) dX9_canSay_43 ?_
        refine g_aload_n0 45 rfl dX9_canSay_44 ?_
        refine gf_Model_clause 48 rfl fl_RX9_16 dX9_canSay_45 ?_
        refine g_iconst (v := 3) 49 rfl dX9_canSay_48 (by decide) ?_
        refine g_iload_n2 50 rfl dX9_canSay_49 ?_
        refine gn_imul 51 rfl dX9_canSay_50 ?_
        refine g_iconst (v := 1) 52 rfl dX9_canSay_51 (by decide) ?_
        refine gn_iadd 53 rfl dX9_canSay_52 ?_
        refine ga_25 54 rfl (by omega) dX9_canSay_53 ?_
        refine gn_icmp_lt 79 (by decide) 57 rfl dX9_canSay_54 (by omega) (by omega) (fun c54 => ?_) (fun c54 => ?_)
        · refine g_iconst (v := 0) 80 rfl dX9_canSay_79 (by decide) ?_
          refine g_iret .boolean dX9_canSay_80 rfl (rfl) ?_
          refine ⟨congrArg (fun q => some (Value.int (nI q))) ?_, rfl⟩
          grind [canB]
        · refine g_aload_n0 58 rfl dX9_canSay_57 ?_
          refine gf_Model_clause 61 rfl fl_RX9_16 dX9_canSay_58 ?_
          refine g_iconst (v := 3) 62 rfl dX9_canSay_61 (by decide) ?_
          refine g_iload_n2 63 rfl dX9_canSay_62 ?_
          refine gn_imul 64 rfl dX9_canSay_63 ?_
          refine ga_25 65 rfl (by omega) dX9_canSay_64 ?_
          refine g_iconst (v := 4) 66 rfl dX9_canSay_65 (by decide) ?_
          refine g_aload_n1 67 rfl dX9_canSay_66 ?_
          refine g_iconst (v := 0) 68 rfl dX9_canSay_67 (by decide) ?_
          refine ga_29 69 rfl (by omega) dX9_canSay_68 ?_
          refine g_iconst (v := 3) 70 rfl dX9_canSay_69 (by decide) ?_
          refine gn_idiv 71 rfl dX9_canSay_70 (by omega) (by omega) (by omega) ?_
          refine gn_isub 72 rfl dX9_canSay_71 (by omega) ?_
          refine gn_icmp_gt 79 (by decide) 75 rfl dX9_canSay_72 (by omega) (by omega) (fun c72 => ?_) (fun c72 => ?_)
          · refine g_iconst (v := 0) 80 rfl dX9_canSay_79 (by decide) ?_
            refine g_iret .boolean dX9_canSay_80 rfl (rfl) ?_
            refine ⟨congrArg (fun q => some (Value.int (nI q))) ?_, rfl⟩
            grind [canB]
          · refine g_iconst (v := 1) 76 rfl dX9_canSay_75 (by decide) ?_
            refine g_goto 80 (by decide) dX9_canSay_76 ?_
            refine g_iret .boolean dX9_canSay_80 rfl (rfl) ?_
            refine ⟨congrArg (fun q => some (Value.int (nI q))) ?_, rfl⟩
            grind [canB]
    · refine g_iconst (v := 1) 32 rfl dX9_canSay_31 (by decide) ?_
      refine g_goto 36 (by decide) dX9_canSay_32 ?_
      refine g_istore_n3 37 rfl dX9_canSay_36 (by decide) rfl ?_
      refine g_iload_n3 38 rfl dX9_canSay_37 ?_
      refine gn_if_eq 79 (by decide) 41 rfl dX9_canSay_38 (by omega) (fun c38 => ?_) (fun c38 => ?_)
      · refine g_iconst (v := 0) 80 rfl dX9_canSay_79 (by decide) ?_
        refine g_iret .boolean dX9_canSay_80 rfl (rfl) ?_
        refine ⟨congrArg (fun q => some (Value.int (nI q))) ?_, rfl⟩
        grind [canB]
      · refine g_aload_n1 42 rfl dX9_canSay_41 ?_
        refine g_iconst (v := 0) 43 rfl dX9_canSay_42 (by decide) ?_
        refine ga_29 44 rfl (by omega) dX9_canSay_43 ?_
        refine g_aload_n0 45 rfl dX9_canSay_44 ?_
        refine gf_Model_clause 48 rfl fl_RX9_16 dX9_canSay_45 ?_
        refine g_iconst (v := 3) 49 rfl dX9_canSay_48 (by decide) ?_
        refine g_iload_n2 50 rfl dX9_canSay_49 ?_
        refine gn_imul 51 rfl dX9_canSay_50 ?_
        refine g_iconst (v := 1) 52 rfl dX9_canSay_51 (by decide) ?_
        refine gn_iadd 53 rfl dX9_canSay_52 ?_
        refine ga_25 54 rfl (by omega) dX9_canSay_53 ?_
        refine gn_icmp_lt 79 (by decide) 57 rfl dX9_canSay_54 (by omega) (by omega) (fun c54 => ?_) (fun c54 => ?_)
        · refine g_iconst (v := 0) 80 rfl dX9_canSay_79 (by decide) ?_
          refine g_iret .boolean dX9_canSay_80 rfl (rfl) ?_
          refine ⟨congrArg (fun q => some (Value.int (nI q))) ?_, rfl⟩
          grind [canB]
        · refine g_aload_n0 58 rfl dX9_canSay_57 ?_
          refine gf_Model_clause 61 rfl fl_RX9_16 dX9_canSay_58 ?_
          refine g_iconst (v := 3) 62 rfl dX9_canSay_61 (by decide) ?_
          refine g_iload_n2 63 rfl dX9_canSay_62 ?_
          refine gn_imul 64 rfl dX9_canSay_63 ?_
          refine ga_25 65 rfl (by omega) dX9_canSay_64 ?_
          refine g_iconst (v := 4) 66 rfl dX9_canSay_65 (by decide) ?_
          refine g_aload_n1 67 rfl dX9_canSay_66 ?_
          refine g_iconst (v := 0) 68 rfl dX9_canSay_67 (by decide) ?_
          refine ga_29 69 rfl (by omega) dX9_canSay_68 ?_
          refine g_iconst (v := 3) 70 rfl dX9_canSay_69 (by decide) ?_
          refine gn_idiv 71 rfl dX9_canSay_70 (by omega) (by omega) (by omega) ?_
          refine gn_isub 72 rfl dX9_canSay_71 (by omega) ?_
          refine gn_icmp_gt 79 (by decide) 75 rfl dX9_canSay_72 (by omega) (by omega) (fun c72 => ?_) (fun c72 => ?_)
          · refine g_iconst (v := 0) 80 rfl dX9_canSay_79 (by decide) ?_
            refine g_iret .boolean dX9_canSay_80 rfl (rfl) ?_
            refine ⟨congrArg (fun q => some (Value.int (nI q))) ?_, rfl⟩
            grind [canB]
          · refine g_iconst (v := 1) 76 rfl dX9_canSay_75 (by decide) ?_
            refine g_goto 80 (by decide) dX9_canSay_76 ?_
            refine g_iret .boolean dX9_canSay_80 rfl (rfl) ?_
            refine ⟨congrArg (fun q => some (Value.int (nI q))) ?_, rfl⟩
            grind [canB]
theorem c_X9_goBite_29 (hm : MI h) (hT : TI (h.1 29)) : Rtv V 3 yX9_goBite cX9_goBite 3 none [rf V 22, rf V 29] h (sR h 29 (bite (h.1 24) (h.1 22 4) (h.1 29))) := by
  obtain ⟨hE, hC, x4, x5, x7, x8, -, -⟩ := id hm
  refine Mt_in [some (rf V 22), some (rf V 29), none] (own := RX9) rfl (by decide) (Nat.le_of_ble_eq_true rfl) (fun q hq => hq) ?_
  refine g_iconst (v := 0) 1 rfl dX9_goBite_0 (by decide) ?_
  refine g_istore_n2 2 rfl dX9_goBite_1 (by decide) rfl ?_
  skip
  refine g_heap (sR_same h 29).symm ?_
  refine loop_up (P := fun e => G V T0 3 RX9 cX9_goBite 3 none 2 [some (rf V 22), some (rf V 29), some (.int (nI e))] [] (sR h 29 (biteN (h.1 24) (h.1 29) e)) _) (n := h.1 22 4) ?_ (fun e he ih => ?_) 0 (Nat.zero_le _)
  · have hN := TI_biteN hT x4 (h.1 22 4) hE
    have h0 := hN.1
    have J : ∀ z, biteN (h.1 24) (h.1 29) (h.1 22 4) 0 - z = biteN (h.1 24) (h.1 29) (h.1 22 4) 0 - 1 → z ≤ biteN (h.1 24) (h.1 29) (h.1 22 4) 0 → G V T0 3 RX9 cX9_goBite 3 none 94 [some (rf V 22), some (rf V 29), some (.int (nI (h.1 22 4)))] [.int (nI z), .int (nI (biteN (h.1 24) (h.1 29) (h.1 22 4) 0)), .int (nI 0), rf V 29] (sR h 29 (biteN (h.1 24) (h.1 29) (h.1 22 4))) (fun v g => v = none ∧ g = sR h 29 (bite (h.1 24) (h.1 22 4) (h.1 29))) := by
      intro z hz hz2
      refine gn_isub 95 rfl dX9_goBite_94 hz2 ?_
      rw [hz]
      refine gs_29 96 rfl (by omega) dX9_goBite_95 ?_
      rw [sR_s, sR_sR]
      refine g_aload_n1 97 rfl dX9_goBite_96 ?_
      refine g_bipush (v := 9) 99 rfl dX9_goBite_97 (by decide) ?_
      refine g_dup2 100 rfl dX9_goBite_99 rfl rfl ?_
      refine ga_29 101 rfl (by omega) dX9_goBite_100 ?_
      rw [sR_s, up_n (by omega)]
      refine g_iconst (v := 1) 102 rfl dX9_goBite_101 (by decide) ?_
      refine gn_iadd 103 rfl dX9_goBite_102 ?_
      refine gs_29 104 rfl (by omega) dX9_goBite_103 ?_
      refine g_vret dX9_goBite_104 rfl ?_
      exact ⟨rfl, by rw [sR_s, sR_sR]; rfl⟩
    refine g_iload_n2 3 rfl dX9_goBite_2 ?_
    refine g_aload_n0 4 rfl dX9_goBite_3 ?_
    refine gf_Model_envoys 7 rfl fl_RX9_57 dX9_goBite_4 ?_
    rw [sR_n (by decide)]
    refine gn_icmp_ge 79 (by decide) 10 rfl dX9_goBite_7 (by omega) (by omega) (fun c7 => ?_) (fun c7 => absurd c7 (Nat.lt_irrefl _))
    refine g_aload_n1 80 rfl dX9_goBite_79 ?_
    refine g_iconst (v := 0) 81 rfl dX9_goBite_80 (by decide) ?_
    refine g_dup2 82 rfl dX9_goBite_81 rfl rfl ?_
    refine ga_29 83 rfl (by omega) dX9_goBite_82 ?_
    rw [sR_s]
    refine g_aload_n1 84 rfl dX9_goBite_83 ?_
    refine g_iconst (v := 0) 85 rfl dX9_goBite_84 (by decide) ?_
    refine ga_29 86 rfl (by omega) dX9_goBite_85 ?_
    rw [sR_s]
    refine gn_if_le 93 (by decide) 89 rfl dX9_goBite_86 (by omega) (fun c86 => ?_) (fun c86 => ?_)
    · refine g_iconst (v := 0) 94 rfl dX9_goBite_93 (by decide) ?_
      first | exact J 0 (by omega) (by omega) | exact J 1 rfl (by omega)
    · refine g_iconst (v := 1) 90 rfl dX9_goBite_89 (by decide) ?_
      refine g_goto 94 (by decide) dX9_goBite_90 ?_
      first | exact J 0 (by omega) (by omega) | exact J 1 rfl (by omega)
  · have hN := TI_biteN hT x4 e (by omega)
    change G V T0 3 RX9 cX9_goBite 3 none 2 _ [] (sR h 29 (bite1 (h.1 24) e (biteN (h.1 24) (h.1 29) e))) _ at ih
    generalize biteN (h.1 24) (h.1 29) e = T at hN ih ⊢
    have hp := pain_le (k := h.1 24 (3 * e + 2)) (p := h.1 24 (3 * e)) hN.1
    have ht := (hN.2.2.2.2.2.1 e (by omega)).1
    have hw := x4 (3 * e + 1)
    have h6 := hN.2.2.1
    refine g_iload_n2 3 rfl dX9_goBite_2 ?_
    refine g_aload_n0 4 rfl dX9_goBite_3 ?_
    refine gf_Model_envoys 7 rfl fl_RX9_57 dX9_goBite_4 ?_
    rw [sR_n (by decide)]
    refine gn_icmp_ge 79 (by decide) 10 rfl dX9_goBite_7 (by omega) (by omega) (fun c7 => absurd c7 (Nat.not_le_of_lt he)) (fun c7 => ?_)
    refine g_aload_n1 11 rfl dX9_goBite_10 ?_
    refine g_bipush (v := 6) 13 rfl dX9_goBite_11 (by decide) ?_
    refine ga_29 14 rfl (by omega) dX9_goBite_13 ?_
    rw [sR_s]
    refine g_iload_n2 15 rfl dX9_goBite_14 ?_
    refine g_cs2i 18 rfl cw_RX9_110 dX9_goBite_15 (c_X9_has (by omega) (by omega)) (by omega) (Nat.le_of_ble_eq_true rfl) ?_
    refine gn_if_eq 73 (by decide) 21 rfl dX9_goBite_18 (Nat.lt_of_lt_of_le (bt_lt _ _) (by omega)) (fun c18 => ?_) (fun c18 => ?_)
    · try rw [sR_s, sR_sR]
      refine gn_iinc2 1 76 rfl dX9_goBite_73 rfl (by decide) rfl ?_
      refine g_goto 2 (by decide) dX9_goBite_76 ?_
      first | (rw [show bite1 (h.1 24) e T = T from if_pos c18] at ih; exact ih) | (rw [show bite1 (h.1 24) e T = _ from (if_neg c18).trans (if_pos c59)] at ih; rw [show (4294967295 : Nat) = 2 ^ 32 - 1 from rfl, Nat.and_two_pow_sub_one_of_lt_two_pow (by omega), show up (up T (2 + e) (T (2 + e) + pain (h.1 24 (3 * e + 2)) (h.1 24 (3 * e)) (T 0))) 6 (T 6) = up T (2 + e) (T (2 + e) + pain (h.1 24 (3 * e + 2)) (h.1 24 (3 * e)) (T 0)) from by rw [up_c _ (by omega), up_same]]; exact ih) | (rw [show bite1 (h.1 24) e T = _ from (if_neg c18).trans (if_neg (Nat.not_lt.mpr c59))] at ih; exact ih)
    · refine g_aload_n1 22 rfl dX9_goBite_21 ?_
      refine g_iconst (v := 2) 23 rfl dX9_goBite_22 (by decide) ?_
      refine g_iload_n2 24 rfl dX9_goBite_23 ?_
      refine gn_iadd 25 rfl dX9_goBite_24 ?_
      refine g_dup2 26 rfl dX9_goBite_25 rfl rfl ?_
      refine ga_29 27 rfl (by omega) dX9_goBite_26 ?_
      rw [sR_s]
      refine g_aload_n0 28 rfl dX9_goBite_27 ?_
      refine g_iload_n2 29 rfl dX9_goBite_28 ?_
      refine g_aload_n1 30 rfl dX9_goBite_29 ?_
      refine g_iconst (v := 0) 31 rfl dX9_goBite_30 (by decide) ?_
      refine ga_29 32 rfl (by omega) dX9_goBite_31 ?_
      rw [sR_s]
      refine g_cv2i 35 rfl cw_RX9_118 dX9_goBite_32 (c_X9_painOf (by omega) (x5 e) (x4 _) hN.1) (by omega) (ob_22 V) (Nat.le_of_ble_eq_true rfl) ?_
      rw [sR_n (by decide)]
      refine gn_iadd 36 rfl dX9_goBite_35 ?_
      refine gs_29 37 rfl (by omega) dX9_goBite_36 ?_
      rw [sR_s, sR_sR]
      refine g_aload_n1 38 rfl dX9_goBite_37 ?_
      refine g_bipush (v := 6) 40 rfl dX9_goBite_38 (by decide) ?_
      refine g_dup2 41 rfl dX9_goBite_40 rfl rfl ?_
      refine ga_29 42 rfl (by omega) dX9_goBite_41 ?_
      rw [sR_s, up_n (by omega)]
      refine g_aload_n1 43 rfl dX9_goBite_42 ?_
      refine g_iconst (v := 2) 44 rfl dX9_goBite_43 (by decide) ?_
      refine g_iload_n2 45 rfl dX9_goBite_44 ?_
      refine gn_iadd 46 rfl dX9_goBite_45 ?_
      refine ga_29 47 rfl (by omega) dX9_goBite_46 ?_
      rw [sR_s, up_s]
      refine g_iconst (v := 2) 48 rfl dX9_goBite_47 (by decide) ?_
      refine g_aload_n0 49 rfl dX9_goBite_48 ?_
      refine gf_Model_envoy 52 rfl fl_RX9_13 dX9_goBite_49 ?_
      refine g_iconst (v := 3) 53 rfl dX9_goBite_52 (by decide) ?_
      refine g_iload_n2 54 rfl dX9_goBite_53 ?_
      refine gn_imul 55 rfl dX9_goBite_54 ?_
      refine g_iconst (v := 1) 56 rfl dX9_goBite_55 (by decide) ?_
      refine gn_iadd 57 rfl dX9_goBite_56 ?_
      refine ga_24 58 rfl (by omega) dX9_goBite_57 ?_
      rw [sR_n (by decide)]
      refine gn_imul 59 rfl dX9_goBite_58 ?_
      refine gn_icmp_lt 70 (by decide) 62 rfl dX9_goBite_59 (by omega) (by omega) (fun c59 => ?_) (fun c59 => ?_)
      · refine g_iconst (v := 4294967295) 71 rfl dX9_goBite_70 (by decide) ?_
        refine gn_iand 72 rfl dX9_goBite_71 ?_
        refine gs_29 73 rfl (by omega) dX9_goBite_72 ?_
        try rw [sR_s, sR_sR]
        refine gn_iinc2 1 76 rfl dX9_goBite_73 rfl (by decide) rfl ?_
        refine g_goto 2 (by decide) dX9_goBite_76 ?_
        first | (rw [show bite1 (h.1 24) e T = T from if_pos c18] at ih; exact ih) | (rw [show bite1 (h.1 24) e T = _ from (if_neg c18).trans (if_pos c59)] at ih; rw [show (4294967295 : Nat) = 2 ^ 32 - 1 from rfl, Nat.and_two_pow_sub_one_of_lt_two_pow (by omega), show up (up T (2 + e) (T (2 + e) + pain (h.1 24 (3 * e + 2)) (h.1 24 (3 * e)) (T 0))) 6 (T 6) = up T (2 + e) (T (2 + e) + pain (h.1 24 (3 * e + 2)) (h.1 24 (3 * e)) (T 0)) from by rw [up_c _ (by omega), up_same]]; exact ih) | (rw [show bite1 (h.1 24) e T = _ from (if_neg c18).trans (if_neg (Nat.not_lt.mpr c59))] at ih; exact ih)
      · refine g_iconst (v := 1) 63 rfl dX9_goBite_62 (by decide) ?_
        refine g_iload_n2 64 rfl dX9_goBite_63 ?_
        refine gn_ishl 65 rfl dX9_goBite_64 (by omega) ?_
        refine g_iconst (v := 4294967295) 66 rfl dX9_goBite_65 (by decide) ?_
        refine gn_ixor 67 rfl dX9_goBite_66 ?_
        refine g_goto 71 (by decide) dX9_goBite_67 ?_
        refine gn_iand 72 rfl dX9_goBite_71 ?_
        refine gs_29 73 rfl (by omega) dX9_goBite_72 ?_
        try rw [sR_s, sR_sR]
        refine gn_iinc2 1 76 rfl dX9_goBite_73 rfl (by decide) rfl ?_
        refine g_goto 2 (by decide) dX9_goBite_76 ?_
        first | (rw [show bite1 (h.1 24) e T = T from if_pos c18] at ih; exact ih) | (rw [show bite1 (h.1 24) e T = _ from (if_neg c18).trans (if_pos c59)] at ih; rw [show (4294967295 : Nat) = 2 ^ 32 - 1 from rfl, Nat.and_two_pow_sub_one_of_lt_two_pow (by omega), show up (up T (2 + e) (T (2 + e) + pain (h.1 24 (3 * e + 2)) (h.1 24 (3 * e)) (T 0))) 6 (T 6) = up T (2 + e) (T (2 + e) + pain (h.1 24 (3 * e + 2)) (h.1 24 (3 * e)) (T 0)) from by rw [up_c _ (by omega), up_same]]; exact ih) | (rw [show bite1 (h.1 24) e T = _ from (if_neg c18).trans (if_neg (Nat.not_lt.mpr c59))] at ih; exact ih)
theorem c_X9_goSpice_29 (hT : TI (h.1 29)) : Rtv V 1 yX9_goSpice cX9_goSpice 1 none [rf V 29] h (sR h 29 (seedR (h.1 29))) := by
  have h0 := hT.1
  refine Mt_in [some (rf V 29)] (own := RX9) rfl (by decide) (Nat.le_of_ble_eq_true rfl) (fun q hq => hq) ?_
  refine g_aload_n0 1 rfl dX9_goSpice_0 ?_
  refine g_iconst (v := 1) 2 rfl dX9_goSpice_1 (by decide) ?_
  refine g_dup2 3 rfl dX9_goSpice_2 rfl rfl ?_
  refine ga_29 4 rfl (by omega) dX9_goSpice_3 ?_
  refine g_iconst (v := 1) 5 rfl dX9_goSpice_4 (by decide) ?_
  refine g_isub 6 rfl dX9_goSpice_5  ?_
  rw [dec1_nI]
  refine gs_29 7 rfl (by omega) dX9_goSpice_6 ?_
  refine g_aload_n0 8 rfl dX9_goSpice_7 ?_
  refine g_iconst (v := 0) 9 rfl dX9_goSpice_8 (by decide) ?_
  refine g_aload_n0 10 rfl dX9_goSpice_9 ?_
  refine g_iconst (v := 0) 11 rfl dX9_goSpice_10 (by decide) ?_
  refine ga_29 12 rfl (by omega) dX9_goSpice_11 ?_
  rw [sR_s, up_n (by omega)]
  refine g_iconst (v := 2) 13 rfl dX9_goSpice_12 (by decide) ?_
  refine gn_iadd 14 rfl dX9_goSpice_13 ?_
  refine g_bipush (v := 9) 16 rfl dX9_goSpice_14 (by decide) ?_
  refine gn_icmp_le 24 (by decide) 19 rfl dX9_goSpice_16 (by omega) (by omega) (fun c16 => ?_) (fun c16 => ?_)
  · refine g_aload_n0 25 rfl dX9_goSpice_24 ?_
    refine g_iconst (v := 0) 26 rfl dX9_goSpice_25 (by decide) ?_
    refine ga_29 27 rfl (by omega) dX9_goSpice_26 ?_
    rw [sR_s, up_n (by omega)]
    refine g_iconst (v := 2) 28 rfl dX9_goSpice_27 (by decide) ?_
    refine gn_iadd 29 rfl dX9_goSpice_28 ?_
    refine gs_29 30 rfl (by omega) dX9_goSpice_29 ?_
    refine g_vret dX9_goSpice_30 rfl ?_
    refine ⟨rfl, ?_⟩
    rw [sR_s, sR_sR]
    unfold seedR
    first | (rw [show min 9 (h.1 29 0 + 2) = 9 by omega]; done) | (rw [show min 9 (h.1 29 0 + 2) = h.1 29 0 + 2 by omega]; done)
  · refine g_bipush (v := 9) 21 rfl dX9_goSpice_19 (by decide) ?_
    refine g_goto 29 (by decide) dX9_goSpice_21 ?_
    refine gs_29 30 rfl (by omega) dX9_goSpice_29 ?_
    refine g_vret dX9_goSpice_30 rfl ?_
    refine ⟨rfl, ?_⟩
    rw [sR_s, sR_sR]
    unfold seedR
    first | (rw [show min 9 (h.1 29 0 + 2) = 9 by omega]; done) | (rw [show min 9 (h.1 29 0 + 2) = h.1 29 0 + 2 by omega]; done)
theorem c_X9_sayable (hm : MI h) : Rti V 3 yX9_sayable cX9_sayable 4 (some .int) [rf V 22, rf V 28] h (nI (sayB (h.1 22 6) (h.1 25) (h.1 28) (h.1 22 6))) h := by
  have hC := hm.2.1
  refine Mt_in [some (rf V 22), some (rf V 28), none, none] (own := RX9) rfl (by decide) (Nat.le_of_ble_eq_true rfl) (fun q hq => hq) ?_
  refine g_iconst (v := 0) 1 rfl dX9_sayable_0 (by decide) ?_
  refine g_istore_n2 2 rfl dX9_sayable_1 (by decide) rfl ?_
  refine g_iconst (v := 0) 3 rfl dX9_sayable_2 (by decide) ?_
  refine g_istore_n3 4 rfl dX9_sayable_3 (by decide) rfl ?_
  skip
  refine loop_up (P := fun c => G V T0 3 RX9 cX9_sayable 4 (some .int) 4 [some (rf V 22), some (rf V 28), some (.int (nI (sayB (h.1 22 6) (h.1 25) (h.1 28) c))), some (.int (nI c))] [] h _) (n := h.1 22 6) ?_ (fun c hc ih => ?_) 0 (Nat.zero_le _)
  · refine g_iload_n3 5 rfl dX9_sayable_4 ?_
    refine g_aload_n0 6 rfl dX9_sayable_5 ?_
    refine gf_Model_clauses 9 rfl fl_RX9_64 dX9_sayable_6 ?_
    refine gn_icmp_ge 37 (by decide) 12 rfl dX9_sayable_9 (by omega) (by omega) (fun c9 => ?_) (fun c9 => absurd c9 (Nat.lt_irrefl _))
    refine g_iload_n2 38 rfl dX9_sayable_37 ?_
    refine g_iret .int dX9_sayable_38 rfl (rfl) ?_
    exact ⟨rfl, rfl⟩
  · refine g_iload_n3 5 rfl dX9_sayable_4 ?_
    refine g_aload_n0 6 rfl dX9_sayable_5 ?_
    refine gf_Model_clauses 9 rfl fl_RX9_64 dX9_sayable_6 ?_
    refine gn_icmp_ge 37 (by decide) 12 rfl dX9_sayable_9 (by omega) (by omega) (fun c9 => absurd c9 (Nat.not_le_of_lt hc)) (fun c9 => ?_)
    refine g_iload_n2 13 rfl dX9_sayable_12 ?_
    refine g_aload_n0 14 rfl dX9_sayable_13 ?_
    refine g_aload_n1 15 rfl dX9_sayable_14 ?_
    refine g_iload_n3 16 rfl dX9_sayable_15 ?_
    refine g_cv2i 19 rfl cw_RX9_114 dX9_sayable_16 (c_X9_canSay_28 hm hm.2.2.2.2.2.2.1 hc) (by omega) (ob_22 V) (Nat.le_of_ble_eq_true rfl) ?_
    refine gn_if_eq 28 (by decide) 22 rfl dX9_sayable_19 (Nat.lt_of_lt_of_le (Bool.toNat_lt _) (by omega)) (fun c19 => ?_) (fun c19 => ?_)
    · refine g_iconst (v := 0) 29 rfl dX9_sayable_28 (by decide) ?_
      refine gn_ior 30 rfl dX9_sayable_29 ?_
      refine g_istore_n2 31 rfl dX9_sayable_30 (by decide) rfl ?_
      refine gn_iinc3 1 34 rfl dX9_sayable_31 rfl (by decide) rfl ?_
      refine g_goto 4 (by decide) dX9_sayable_34 ?_
      first | (rw [show sayB _ _ _ (c + 1) = _ from if_neg (by simpa using c19)] at ih; rw [Nat.or_zero]; exact ih) | (rw [show sayB _ _ _ (c + 1) = _ from if_pos (by simpa using c19)] at ih; exact ih)
    · refine g_iconst (v := 1) 23 rfl dX9_sayable_22 (by decide) ?_
      refine g_iload_n3 24 rfl dX9_sayable_23 ?_
      refine gn_ishl 25 rfl dX9_sayable_24 (by omega) ?_
      refine g_goto 29 (by decide) dX9_sayable_25 ?_
      refine gn_ior 30 rfl dX9_sayable_29 ?_
      refine g_istore_n2 31 rfl dX9_sayable_30 (by decide) rfl ?_
      refine gn_iinc3 1 34 rfl dX9_sayable_31 rfl (by decide) rfl ?_
      refine g_goto 4 (by decide) dX9_sayable_34 ?_
      first | (rw [show sayB _ _ _ (c + 1) = _ from if_neg (by simpa using c19)] at ih; rw [Nat.or_zero]; exact ih) | (rw [show sayB _ _ _ (c + 1) = _ from if_pos (by simpa using c19)] at ih; exact ih)
theorem c_X9_begin (hm : MI h) : Rtv V 1 yX9_begin cX9_begin 2 none [rf V 22] h (sR h 29 (h.1 28)) := by
  have z8 := hm.2.2.2.2.2.2.1.2.2.2.2.2.2
  have z9 := hm.2.2.2.2.2.2.2.2.2.2.2.2.2
  refine Mt_in [some (rf V 22), none] (own := RX9) rfl (by decide) (Nat.le_of_ble_eq_true rfl) (fun q hq => hq) ?_
  refine g_iconst (v := 0) 1 rfl dX9_begin_0 (by decide) ?_
  refine g_istore_n1 2 rfl dX9_begin_1 (by decide) rfl ?_
  skip
  refine g_heap (show h = sR h 29 (fun o => if o < 0 then h.1 28 o else h.1 29 o) from by rw [show (fun o => if o < 0 then h.1 28 o else h.1 29 o) = h.1 29 from funext fun o => if_neg (by omega), sR_same]) ?_
  refine loop_up (P := fun k => G V T0 1 RX9 cX9_begin 2 none 2 [some (rf V 22), some (.int (nI k))] [] (sR h 29 (fun o => if o < k then h.1 28 o else h.1 29 o)) _) (n := 10) ?_ (fun k hk ih => ?_) 0 (Nat.zero_le _)
  · refine g_iload_n1 3 rfl dX9_begin_2 ?_
    refine g_bipush (v := 10) 5 rfl dX9_begin_3 (by decide) ?_
    refine gn_icmp_ge 26 (by decide) 8 rfl dX9_begin_5 (by omega) (by omega) (fun c5 => ?_) (fun c5 => absurd c5 (by omega))
    refine g_vret dX9_begin_26 rfl ?_
    refine ⟨rfl, congrArg (sR h 29) (funext fun o => ?_)⟩
    by_cases q : o < 10
    · rw [if_pos q]
    · rw [if_neg q, z8 o (by omega), z9 o (by omega)]
  · refine g_iload_n1 3 rfl dX9_begin_2 ?_
    refine g_bipush (v := 10) 5 rfl dX9_begin_3 (by decide) ?_
    refine gn_icmp_ge 26 (by decide) 8 rfl dX9_begin_5 (by omega) (by omega) (fun c5 => absurd c5 (by omega)) (fun c5 => ?_)
    refine g_aload_n0 9 rfl dX9_begin_8 ?_
    refine gf_Model_trial 12 rfl fl_RX9_28 dX9_begin_9 ?_
    refine g_iload_n1 13 rfl dX9_begin_12 ?_
    refine g_aload_n0 14 rfl dX9_begin_13 ?_
    refine gf_Model_page 17 rfl fl_RX9_25 dX9_begin_14 ?_
    refine g_iload_n1 18 rfl dX9_begin_17 ?_
    refine ga_28 19 rfl (by omega) dX9_begin_18 ?_
    rw [sR_n (by decide)]
    refine gs_29 20 rfl (by omega) dX9_begin_19 ?_
    refine gn_iinc1 1 23 rfl dX9_begin_20 rfl (by decide) rfl ?_
    refine g_goto 2 (by decide) dX9_begin_23 ?_
    rw [sR_s, sR_sR]
    refine g_heap (congrArg (sR h 29) (funext fun o => ?_)) ih
    simp only [up]
    grind
end X9a
