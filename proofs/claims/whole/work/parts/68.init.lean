/-! the constructors without loops -/
def z0 : Nat → Nat := fun _ => 0
def dfX0 : List Value := [.null, .int (nI 0), .int (nI 0)]
def dfX1 : List Value := [.int (nI 0), .int (nI 0), .int (nI 0), .int (nI 0), .null, .null, .null, .null, .null, .null]
def dfX2 : List Value := [.null, .int (nI 0)]
def dfX3 : List Value := [.null, .null, .int (nI 0), .int (nI 0), .int (nI 0), .int (nI 0)]
def dfX4 : List Value := [.null, .null, .null, .int (nI 0)]
def dfX5 : List Value := [.null, .null]
def dfX6 : List Value := [.null, .int (nI 0), .int (nI 0)]
def dfX7 : List Value := [.null, .int (nI 0), .int (nI 0), .int (nI 0), .int (nI 0), .int (nI 0), .int (nI 0), .null]
def dfX8 : List Value := [.null, .null, .null, .null, .null, .null, .null, .null, .null, .long 0]
def dfX9 : List Value := [.int (nI 0), .null, .int (nI 0), .int (nI 0), .int (nI 0), .null, .int (nI 0), .null, .int (nI 0), .int (nI 0), .int (nI 0), .null, .int (nI 0), .null, .null, .null, .null, .int (nI 0), .null, .null, .int (nI 0), .null, .null, .null, .long 0, .int (nI 0), .int (nI 0), .int (nI 0), .int (nI 0), .null]
section Inits
variable {V : Vt}
theorem c_X2_init {w0 : va_W} {b : Nat} : Mk V 1 1 48 yX2_init cX2_init 1 [.ref b] (w0 ++ [(b, .inr (2, dfX2))]) (fun w => ∃ q1 : Nat, w = w0 ++ [(b, .inr (2, [.ref q1, .int (nI 0)])), (q1, ai V 48 z0)]) := by
  refine Mk_of [some (.ref b)] 12 (own := RX2) rfl (by decide) rfl (Nat.le_of_ble_eq_true rfl) (fun q hq => hq) dX2_init_12 ?_
  refine gc_aload 1 rfl dX2_init_0 rfl ?_
  refine gc_obj 4 rfl (by decide) ml_RX2_3 dX2_init_1 ?_
  refine gc_aload 5 rfl dX2_init_4 rfl ?_
  refine gc_bipush 48 7 rfl dX2_init_5 (by decide) ?_
  refine gc_newi 9 rfl (by decide) (Nat.le_of_ble_eq_true rfl) (Nat.le_of_ble_eq_true rfl) dX2_init_7 (fun q1 => ?_)
  rw [List.append_assoc]
  refine gc_putF (j := 0) (k := 0) 12 rfl (by decide) rfl rfl inX2 tyX2_ok nmX2 (by decide) fl_RX2_9 rfl rfl (tyX2_ok 0 (by decide)) rfl rfl (Nat.le_of_ble_eq_true rfl) dX2_init_9 ?_
  change GC V _ _ _ _ _ _ _ _ _ _ _ (w0 ++ [(b, .inr (2, [.ref q1, .int (nI 0)])), (q1, ai V 48 z0)]) _ _
  exact gc_end ⟨q1, rfl⟩ (Nat.le_refl _) (Nat.le_refl _)
theorem c_X7_init {w0 : va_W} {b r : Nat} : Mk V 1 1 4 yX7_init cX7_init 2 [.ref b, .ref r] (w0 ++ [(b, .inr (7, dfX7))]) (fun w => ∃ q1 : Nat, w = w0 ++ [(b, .inr (7, [.ref r, .int (nI 0), .int (nI 0), .int (nI 0), .int (nI 0), .int (nI 0), .int (nI 0), .ref q1])), (q1, ai V 4 z0)]) := by
  refine Mk_of [some (.ref b), some (.ref r)] 16 (own := RX7) rfl (by decide) rfl (Nat.le_of_ble_eq_true rfl) (fun q hq => hq) dX7_init_16 ?_
  refine gc_aload 1 rfl dX7_init_0 rfl ?_
  refine gc_obj 4 rfl (by decide) ml_RX7_3 dX7_init_1 ?_
  refine gc_aload 5 rfl dX7_init_4 rfl ?_
  refine gc_iconst 4 6 rfl dX7_init_5 (by decide) ?_
  refine gc_newi 8 rfl (by decide) (Nat.le_of_ble_eq_true rfl) (Nat.le_of_ble_eq_true rfl) dX7_init_6 (fun q1 => ?_)
  rw [List.append_assoc]
  refine gc_putF (j := 0) (k := 7) 11 rfl (by decide) rfl rfl inX7 tyX7_ok nmX7 (by decide) fl_RX7_9 rfl rfl (tyX7_ok 7 (by decide)) rfl rfl (Nat.le_of_ble_eq_true rfl) dX7_init_8 ?_
  change GC V _ _ _ _ _ _ _ _ _ _ _ (w0 ++ [(b, .inr (7, [.null, .int (nI 0), .int (nI 0), .int (nI 0), .int (nI 0), .int (nI 0), .int (nI 0), .ref q1])), (q1, ai V 4 z0)]) _ _
  refine gc_aload 12 rfl dX7_init_11 rfl ?_
  refine gc_aload 13 rfl dX7_init_12 rfl ?_
  refine gc_putF (j := 0) (k := 0) 16 rfl (by decide) rfl rfl inX7 tyX7_ok nmX7 (by decide) fl_RX7_15 rfl rfl (tyX7_ok 0 (by decide)) rfl rfl (Nat.le_of_ble_eq_true rfl) dX7_init_13 ?_
  change GC V _ _ _ _ _ _ _ _ _ _ _ (w0 ++ [(b, .inr (7, [.ref r, .int (nI 0), .int (nI 0), .int (nI 0), .int (nI 0), .int (nI 0), .int (nI 0), .ref q1])), (q1, ai V 4 z0)]) _ _
  exact gc_end ⟨q1, rfl⟩ (Nat.le_refl _) (Nat.le_refl _)
theorem c_X1_init {w0 : va_W} {b : Nat} : Mk V 1 6 27 yX1_init cX1_init 1 [.ref b] (w0 ++ [(b, .inr (1, dfX1))]) (fun w => ∃ q1 q2 q3 q4 q5 q6 : Nat, w = w0 ++ [(b, .inr (1, [.int (nI 0), .int (nI 0), .int (nI 0), .int (nI 0), .ref q1, .ref q2, .ref q3, .ref q4, .ref q5, .ref q6])), (q1, ai V 4 z0), (q2, ai V 4 z0), (q3, ai V 4 z0), (q4, ai V 5 z0), (q5, ai V 5 z0), (q6, ai V 5 z0)]) := by
  refine Mk_of [some (.ref b)] 46 (own := RX1) rfl (by decide) rfl (Nat.le_of_ble_eq_true rfl) (fun q hq => hq) dX1_init_46 ?_
  refine gc_aload 1 rfl dX1_init_0 rfl ?_
  refine gc_obj 4 rfl (by decide) ml_RX1_3 dX1_init_1 ?_
  refine gc_aload 5 rfl dX1_init_4 rfl ?_
  refine gc_iconst 4 6 rfl dX1_init_5 (by decide) ?_
  refine gc_newi 8 rfl (by decide) (Nat.le_of_ble_eq_true rfl) (Nat.le_of_ble_eq_true rfl) dX1_init_6 (fun q1 => ?_)
  rw [List.append_assoc]
  refine gc_putF (j := 0) (k := 4) 11 rfl (by decide) rfl rfl inX1 tyX1_ok nmX1 (by decide) fl_RX1_9 rfl rfl (tyX1_ok 4 (by decide)) rfl rfl (Nat.le_of_ble_eq_true rfl) dX1_init_8 ?_
  change GC V _ _ _ _ _ _ _ _ _ _ _ (w0 ++ [(b, .inr (1, [.int (nI 0), .int (nI 0), .int (nI 0), .int (nI 0), .ref q1, .null, .null, .null, .null, .null])), (q1, ai V 4 z0)]) _ _
  refine gc_aload 12 rfl dX1_init_11 rfl ?_
  refine gc_iconst 4 13 rfl dX1_init_12 (by decide) ?_
  refine gc_newi 15 rfl (by decide) (Nat.le_of_ble_eq_true rfl) (Nat.le_of_ble_eq_true rfl) dX1_init_13 (fun q2 => ?_)
  rw [List.append_assoc]
  refine gc_putF (j := 0) (k := 5) 18 rfl (by decide) rfl rfl inX1 tyX1_ok nmX1 (by decide) fl_RX1_15 rfl rfl (tyX1_ok 5 (by decide)) rfl rfl (Nat.le_of_ble_eq_true rfl) dX1_init_15 ?_
  change GC V _ _ _ _ _ _ _ _ _ _ _ (w0 ++ [(b, .inr (1, [.int (nI 0), .int (nI 0), .int (nI 0), .int (nI 0), .ref q1, .ref q2, .null, .null, .null, .null])), (q1, ai V 4 z0), (q2, ai V 4 z0)]) _ _
  refine gc_aload 19 rfl dX1_init_18 rfl ?_
  refine gc_iconst 4 20 rfl dX1_init_19 (by decide) ?_
  refine gc_newi 22 rfl (by decide) (Nat.le_of_ble_eq_true rfl) (Nat.le_of_ble_eq_true rfl) dX1_init_20 (fun q3 => ?_)
  rw [List.append_assoc]
  refine gc_putF (j := 0) (k := 6) 25 rfl (by decide) rfl rfl inX1 tyX1_ok nmX1 (by decide) fl_RX1_18 rfl rfl (tyX1_ok 6 (by decide)) rfl rfl (Nat.le_of_ble_eq_true rfl) dX1_init_22 ?_
  change GC V _ _ _ _ _ _ _ _ _ _ _ (w0 ++ [(b, .inr (1, [.int (nI 0), .int (nI 0), .int (nI 0), .int (nI 0), .ref q1, .ref q2, .ref q3, .null, .null, .null])), (q1, ai V 4 z0), (q2, ai V 4 z0), (q3, ai V 4 z0)]) _ _
  refine gc_aload 26 rfl dX1_init_25 rfl ?_
  refine gc_iconst 5 27 rfl dX1_init_26 (by decide) ?_
  refine gc_newi 29 rfl (by decide) (Nat.le_of_ble_eq_true rfl) (Nat.le_of_ble_eq_true rfl) dX1_init_27 (fun q4 => ?_)
  rw [List.append_assoc]
  refine gc_putF (j := 0) (k := 7) 32 rfl (by decide) rfl rfl inX1 tyX1_ok nmX1 (by decide) fl_RX1_21 rfl rfl (tyX1_ok 7 (by decide)) rfl rfl (Nat.le_of_ble_eq_true rfl) dX1_init_29 ?_
  change GC V _ _ _ _ _ _ _ _ _ _ _ (w0 ++ [(b, .inr (1, [.int (nI 0), .int (nI 0), .int (nI 0), .int (nI 0), .ref q1, .ref q2, .ref q3, .ref q4, .null, .null])), (q1, ai V 4 z0), (q2, ai V 4 z0), (q3, ai V 4 z0), (q4, ai V 5 z0)]) _ _
  refine gc_aload 33 rfl dX1_init_32 rfl ?_
  refine gc_iconst 5 34 rfl dX1_init_33 (by decide) ?_
  refine gc_newi 36 rfl (by decide) (Nat.le_of_ble_eq_true rfl) (Nat.le_of_ble_eq_true rfl) dX1_init_34 (fun q5 => ?_)
  rw [List.append_assoc]
  refine gc_putF (j := 0) (k := 8) 39 rfl (by decide) rfl rfl inX1 tyX1_ok nmX1 (by decide) fl_RX1_24 rfl rfl (tyX1_ok 8 (by decide)) rfl rfl (Nat.le_of_ble_eq_true rfl) dX1_init_36 ?_
  change GC V _ _ _ _ _ _ _ _ _ _ _ (w0 ++ [(b, .inr (1, [.int (nI 0), .int (nI 0), .int (nI 0), .int (nI 0), .ref q1, .ref q2, .ref q3, .ref q4, .ref q5, .null])), (q1, ai V 4 z0), (q2, ai V 4 z0), (q3, ai V 4 z0), (q4, ai V 5 z0), (q5, ai V 5 z0)]) _ _
  refine gc_aload 40 rfl dX1_init_39 rfl ?_
  refine gc_iconst 5 41 rfl dX1_init_40 (by decide) ?_
  refine gc_newi 43 rfl (by decide) (Nat.le_of_ble_eq_true rfl) (Nat.le_of_ble_eq_true rfl) dX1_init_41 (fun q6 => ?_)
  rw [List.append_assoc]
  refine gc_putF (j := 0) (k := 9) 46 rfl (by decide) rfl rfl inX1 tyX1_ok nmX1 (by decide) fl_RX1_27 rfl rfl (tyX1_ok 9 (by decide)) rfl rfl (Nat.le_of_ble_eq_true rfl) dX1_init_43 ?_
  change GC V _ _ _ _ _ _ _ _ _ _ _ (w0 ++ [(b, .inr (1, [.int (nI 0), .int (nI 0), .int (nI 0), .int (nI 0), .ref q1, .ref q2, .ref q3, .ref q4, .ref q5, .ref q6])), (q1, ai V 4 z0), (q2, ai V 4 z0), (q3, ai V 4 z0), (q4, ai V 5 z0), (q5, ai V 5 z0), (q6, ai V 5 z0)]) _ _
  exact gc_end ⟨q1, q2, q3, q4, q5, q6, rfl⟩ (Nat.le_refl _) (Nat.le_refl _)
theorem c_X4_init {w0 : va_W} {b : Nat} : Mk V 1 3 18 yX4_init cX4_init 1 [.ref b] (w0 ++ [(b, .inr (4, dfX4))]) (fun w => ∃ q1 q2 q3 : Nat, w = w0 ++ [(b, .inr (4, [.ref q1, .ref q2, .ref q3, .int (nI 0)])), (q1, ai V 6 z0), (q2, ai V 6 z0), (q3, ai V 6 z0)]) := by
  refine Mk_of [some (.ref b)] 28 (own := RX4) rfl (by decide) rfl (Nat.le_of_ble_eq_true rfl) (fun q hq => hq) dX4_init_28 ?_
  refine gc_aload 1 rfl dX4_init_0 rfl ?_
  refine gc_obj 4 rfl (by decide) ml_RX4_3 dX4_init_1 ?_
  refine gc_aload 5 rfl dX4_init_4 rfl ?_
  refine gc_bipush 6 7 rfl dX4_init_5 (by decide) ?_
  refine gc_newi 9 rfl (by decide) (Nat.le_of_ble_eq_true rfl) (Nat.le_of_ble_eq_true rfl) dX4_init_7 (fun q1 => ?_)
  rw [List.append_assoc]
  refine gc_putF (j := 0) (k := 0) 12 rfl (by decide) rfl rfl inX4 tyX4_ok nmX4 (by decide) fl_RX4_9 rfl rfl (tyX4_ok 0 (by decide)) rfl rfl (Nat.le_of_ble_eq_true rfl) dX4_init_9 ?_
  change GC V _ _ _ _ _ _ _ _ _ _ _ (w0 ++ [(b, .inr (4, [.ref q1, .null, .null, .int (nI 0)])), (q1, ai V 6 z0)]) _ _
  refine gc_aload 13 rfl dX4_init_12 rfl ?_
  refine gc_bipush 6 15 rfl dX4_init_13 (by decide) ?_
  refine gc_newi 17 rfl (by decide) (Nat.le_of_ble_eq_true rfl) (Nat.le_of_ble_eq_true rfl) dX4_init_15 (fun q2 => ?_)
  rw [List.append_assoc]
  refine gc_putF (j := 0) (k := 1) 20 rfl (by decide) rfl rfl inX4 tyX4_ok nmX4 (by decide) fl_RX4_15 rfl rfl (tyX4_ok 1 (by decide)) rfl rfl (Nat.le_of_ble_eq_true rfl) dX4_init_17 ?_
  change GC V _ _ _ _ _ _ _ _ _ _ _ (w0 ++ [(b, .inr (4, [.ref q1, .ref q2, .null, .int (nI 0)])), (q1, ai V 6 z0), (q2, ai V 6 z0)]) _ _
  refine gc_aload 21 rfl dX4_init_20 rfl ?_
  refine gc_bipush 6 23 rfl dX4_init_21 (by decide) ?_
  refine gc_newi 25 rfl (by decide) (Nat.le_of_ble_eq_true rfl) (Nat.le_of_ble_eq_true rfl) dX4_init_23 (fun q3 => ?_)
  rw [List.append_assoc]
  refine gc_putF (j := 0) (k := 2) 28 rfl (by decide) rfl rfl inX4 tyX4_ok nmX4 (by decide) fl_RX4_18 rfl rfl (tyX4_ok 2 (by decide)) rfl rfl (Nat.le_of_ble_eq_true rfl) dX4_init_25 ?_
  change GC V _ _ _ _ _ _ _ _ _ _ _ (w0 ++ [(b, .inr (4, [.ref q1, .ref q2, .ref q3, .int (nI 0)])), (q1, ai V 6 z0), (q2, ai V 6 z0), (q3, ai V 6 z0)]) _ _
  exact gc_end ⟨q1, q2, q3, rfl⟩ (Nat.le_refl _) (Nat.le_refl _)
theorem c_X6_init {w0 : va_W} {b r : Nat} : Mk V 1 0 0 yX6_init cX6_init 2 [.ref b, .ref r] (w0 ++ [(b, .inr (6, dfX6))]) (fun w => w = w0 ++ [(b, .inr (6, [.ref r, .int (nI 0), .int (nI 0)]))]) := by
  refine Mk_of [some (.ref b), some (.ref r)] 9 (own := RX6) rfl (by decide) rfl (Nat.le_of_ble_eq_true rfl) (fun q hq => hq) dX6_init_9 ?_
  refine gc_aload 1 rfl dX6_init_0 rfl ?_
  refine gc_obj 4 rfl (by decide) ml_RX6_3 dX6_init_1 ?_
  refine gc_aload 5 rfl dX6_init_4 rfl ?_
  refine gc_aload 6 rfl dX6_init_5 rfl ?_
  refine gc_putF (j := 0) (k := 0) 9 rfl (by decide) rfl rfl inX6 tyX6_ok nmX6 (by decide) fl_RX6_9 rfl rfl (tyX6_ok 0 (by decide)) rfl rfl (Nat.le_of_ble_eq_true rfl) dX6_init_6 ?_
  change GC V _ _ _ _ _ _ _ _ _ _ _ (w0 ++ [(b, .inr (6, [.ref r, .int (nI 0), .int (nI 0)]))]) _ _
  exact gc_end rfl (Nat.le_refl _) (Nat.le_refl _)
theorem c_X9_init {w0 : va_W} {b : Nat} : Mk V 1 14 318 yX9_init cX9_init 1 [.ref b] (w0 ++ [(b, .inr (9, dfX9))]) (fun w => ∃ q1 q2 q3 q4 q5 q6 q7 q8 q9 q10 q11 q12 q13 q14 : Nat, w = w0 ++ [(b, .inr (9, [.int (nI 0), .ref q1, .int (nI 0), .int (nI 0), .int (nI 0), .ref q2, .int (nI 0), .ref q3, .int (nI 0), .int (nI 0), .int (nI 0), .ref q4, .int (nI 0), .ref q5, .ref q6, .ref q7, .ref q8, .int (nI 0), .ref q9, .ref q10, .int (nI 0), .ref q11, .ref q12, .ref q13, .long 0, .int (nI 0), .int (nI 0), .int (nI 0), .int (nI 0), .ref q14])), (q1, ai V 48 z0), (q2, ai V 12 z0), (q3, ai V 15 z0), (q4, ai V 12 z0), (q5, ai V 15 z0), (q6, ai V 10 z0), (q7, ai V 10 z0), (q8, ai V 140 z0), (q9, ai V 20 z0), (q10, az V 2 z0), (q11, ai V 6 z0), (q12, ai V 6 z0), (q13, ai V 6 z0), (q14, ai V 16 z0)]) := by
  refine Mk_of [some (.ref b)] 116 (own := RX9) rfl (by decide) rfl (Nat.le_of_ble_eq_true rfl) (fun q hq => hq) dX9_init_116 ?_
  refine gc_aload 1 rfl dX9_init_0 rfl ?_
  refine gc_obj 4 rfl (by decide) ml_RX9_1 dX9_init_1 ?_
  refine gc_aload 5 rfl dX9_init_4 rfl ?_
  refine gc_bipush 48 7 rfl dX9_init_5 (by decide) ?_
  refine gc_newi 9 rfl (by decide) (Nat.le_of_ble_eq_true rfl) (Nat.le_of_ble_eq_true rfl) dX9_init_7 (fun q1 => ?_)
  rw [List.append_assoc]
  refine gc_putF (j := 0) (k := 1) 12 rfl (by decide) rfl rfl inX9 tyX9_ok nmX9 (by decide) fl_RX9_7 rfl rfl (tyX9_ok 1 (by decide)) rfl rfl (Nat.le_of_ble_eq_true rfl) dX9_init_9 ?_
  change GC V _ _ _ _ _ _ _ _ _ _ _ (w0 ++ [(b, .inr (9, [.int (nI 0), .ref q1, .int (nI 0), .int (nI 0), .int (nI 0), .null, .int (nI 0), .null, .int (nI 0), .int (nI 0), .int (nI 0), .null, .int (nI 0), .null, .null, .null, .null, .int (nI 0), .null, .null, .int (nI 0), .null, .null, .null, .long 0, .int (nI 0), .int (nI 0), .int (nI 0), .int (nI 0), .null])), (q1, ai V 48 z0)]) _ _
  refine gc_aload 13 rfl dX9_init_12 rfl ?_
  refine gc_bipush 12 15 rfl dX9_init_13 (by decide) ?_
  refine gc_newi 17 rfl (by decide) (Nat.le_of_ble_eq_true rfl) (Nat.le_of_ble_eq_true rfl) dX9_init_15 (fun q2 => ?_)
  rw [List.append_assoc]
  refine gc_putF (j := 0) (k := 5) 20 rfl (by decide) rfl rfl inX9 tyX9_ok nmX9 (by decide) fl_RX9_13 rfl rfl (tyX9_ok 5 (by decide)) rfl rfl (Nat.le_of_ble_eq_true rfl) dX9_init_17 ?_
  change GC V _ _ _ _ _ _ _ _ _ _ _ (w0 ++ [(b, .inr (9, [.int (nI 0), .ref q1, .int (nI 0), .int (nI 0), .int (nI 0), .ref q2, .int (nI 0), .null, .int (nI 0), .int (nI 0), .int (nI 0), .null, .int (nI 0), .null, .null, .null, .null, .int (nI 0), .null, .null, .int (nI 0), .null, .null, .null, .long 0, .int (nI 0), .int (nI 0), .int (nI 0), .int (nI 0), .null])), (q1, ai V 48 z0), (q2, ai V 12 z0)]) _ _
  refine gc_aload 21 rfl dX9_init_20 rfl ?_
  refine gc_bipush 15 23 rfl dX9_init_21 (by decide) ?_
  refine gc_newi 25 rfl (by decide) (Nat.le_of_ble_eq_true rfl) (Nat.le_of_ble_eq_true rfl) dX9_init_23 (fun q3 => ?_)
  rw [List.append_assoc]
  refine gc_putF (j := 0) (k := 7) 28 rfl (by decide) rfl rfl inX9 tyX9_ok nmX9 (by decide) fl_RX9_16 rfl rfl (tyX9_ok 7 (by decide)) rfl rfl (Nat.le_of_ble_eq_true rfl) dX9_init_25 ?_
  change GC V _ _ _ _ _ _ _ _ _ _ _ (w0 ++ [(b, .inr (9, [.int (nI 0), .ref q1, .int (nI 0), .int (nI 0), .int (nI 0), .ref q2, .int (nI 0), .ref q3, .int (nI 0), .int (nI 0), .int (nI 0), .null, .int (nI 0), .null, .null, .null, .null, .int (nI 0), .null, .null, .int (nI 0), .null, .null, .null, .long 0, .int (nI 0), .int (nI 0), .int (nI 0), .int (nI 0), .null])), (q1, ai V 48 z0), (q2, ai V 12 z0), (q3, ai V 15 z0)]) _ _
  refine gc_aload 29 rfl dX9_init_28 rfl ?_
  refine gc_bipush 12 31 rfl dX9_init_29 (by decide) ?_
  refine gc_newi 33 rfl (by decide) (Nat.le_of_ble_eq_true rfl) (Nat.le_of_ble_eq_true rfl) dX9_init_31 (fun q4 => ?_)
  rw [List.append_assoc]
  refine gc_putF (j := 0) (k := 11) 36 rfl (by decide) rfl rfl inX9 tyX9_ok nmX9 (by decide) fl_RX9_19 rfl rfl (tyX9_ok 11 (by decide)) rfl rfl (Nat.le_of_ble_eq_true rfl) dX9_init_33 ?_
  change GC V _ _ _ _ _ _ _ _ _ _ _ (w0 ++ [(b, .inr (9, [.int (nI 0), .ref q1, .int (nI 0), .int (nI 0), .int (nI 0), .ref q2, .int (nI 0), .ref q3, .int (nI 0), .int (nI 0), .int (nI 0), .ref q4, .int (nI 0), .null, .null, .null, .null, .int (nI 0), .null, .null, .int (nI 0), .null, .null, .null, .long 0, .int (nI 0), .int (nI 0), .int (nI 0), .int (nI 0), .null])), (q1, ai V 48 z0), (q2, ai V 12 z0), (q3, ai V 15 z0), (q4, ai V 12 z0)]) _ _
  refine gc_aload 37 rfl dX9_init_36 rfl ?_
  refine gc_bipush 15 39 rfl dX9_init_37 (by decide) ?_
  refine gc_newi 41 rfl (by decide) (Nat.le_of_ble_eq_true rfl) (Nat.le_of_ble_eq_true rfl) dX9_init_39 (fun q5 => ?_)
  rw [List.append_assoc]
  refine gc_putF (j := 0) (k := 13) 44 rfl (by decide) rfl rfl inX9 tyX9_ok nmX9 (by decide) fl_RX9_22 rfl rfl (tyX9_ok 13 (by decide)) rfl rfl (Nat.le_of_ble_eq_true rfl) dX9_init_41 ?_
  change GC V _ _ _ _ _ _ _ _ _ _ _ (w0 ++ [(b, .inr (9, [.int (nI 0), .ref q1, .int (nI 0), .int (nI 0), .int (nI 0), .ref q2, .int (nI 0), .ref q3, .int (nI 0), .int (nI 0), .int (nI 0), .ref q4, .int (nI 0), .ref q5, .null, .null, .null, .int (nI 0), .null, .null, .int (nI 0), .null, .null, .null, .long 0, .int (nI 0), .int (nI 0), .int (nI 0), .int (nI 0), .null])), (q1, ai V 48 z0), (q2, ai V 12 z0), (q3, ai V 15 z0), (q4, ai V 12 z0), (q5, ai V 15 z0)]) _ _
  refine gc_aload 45 rfl dX9_init_44 rfl ?_
  refine gc_bipush 10 47 rfl dX9_init_45 (by decide) ?_
  refine gc_newi 49 rfl (by decide) (Nat.le_of_ble_eq_true rfl) (Nat.le_of_ble_eq_true rfl) dX9_init_47 (fun q6 => ?_)
  rw [List.append_assoc]
  refine gc_putF (j := 0) (k := 14) 52 rfl (by decide) rfl rfl inX9 tyX9_ok nmX9 (by decide) fl_RX9_25 rfl rfl (tyX9_ok 14 (by decide)) rfl rfl (Nat.le_of_ble_eq_true rfl) dX9_init_49 ?_
  change GC V _ _ _ _ _ _ _ _ _ _ _ (w0 ++ [(b, .inr (9, [.int (nI 0), .ref q1, .int (nI 0), .int (nI 0), .int (nI 0), .ref q2, .int (nI 0), .ref q3, .int (nI 0), .int (nI 0), .int (nI 0), .ref q4, .int (nI 0), .ref q5, .ref q6, .null, .null, .int (nI 0), .null, .null, .int (nI 0), .null, .null, .null, .long 0, .int (nI 0), .int (nI 0), .int (nI 0), .int (nI 0), .null])), (q1, ai V 48 z0), (q2, ai V 12 z0), (q3, ai V 15 z0), (q4, ai V 12 z0), (q5, ai V 15 z0), (q6, ai V 10 z0)]) _ _
  refine gc_aload 53 rfl dX9_init_52 rfl ?_
  refine gc_bipush 10 55 rfl dX9_init_53 (by decide) ?_
  refine gc_newi 57 rfl (by decide) (Nat.le_of_ble_eq_true rfl) (Nat.le_of_ble_eq_true rfl) dX9_init_55 (fun q7 => ?_)
  rw [List.append_assoc]
  refine gc_putF (j := 0) (k := 15) 60 rfl (by decide) rfl rfl inX9 tyX9_ok nmX9 (by decide) fl_RX9_28 rfl rfl (tyX9_ok 15 (by decide)) rfl rfl (Nat.le_of_ble_eq_true rfl) dX9_init_57 ?_
  change GC V _ _ _ _ _ _ _ _ _ _ _ (w0 ++ [(b, .inr (9, [.int (nI 0), .ref q1, .int (nI 0), .int (nI 0), .int (nI 0), .ref q2, .int (nI 0), .ref q3, .int (nI 0), .int (nI 0), .int (nI 0), .ref q4, .int (nI 0), .ref q5, .ref q6, .ref q7, .null, .int (nI 0), .null, .null, .int (nI 0), .null, .null, .null, .long 0, .int (nI 0), .int (nI 0), .int (nI 0), .int (nI 0), .null])), (q1, ai V 48 z0), (q2, ai V 12 z0), (q3, ai V 15 z0), (q4, ai V 12 z0), (q5, ai V 15 z0), (q6, ai V 10 z0), (q7, ai V 10 z0)]) _ _
  refine gc_aload 61 rfl dX9_init_60 rfl ?_
  refine gc_sipush 140 64 rfl dX9_init_61 (by decide) ?_
  refine gc_newi 66 rfl (by decide) (Nat.le_of_ble_eq_true rfl) (Nat.le_of_ble_eq_true rfl) dX9_init_64 (fun q8 => ?_)
  rw [List.append_assoc]
  refine gc_putF (j := 0) (k := 16) 69 rfl (by decide) rfl rfl inX9 tyX9_ok nmX9 (by decide) fl_RX9_31 rfl rfl (tyX9_ok 16 (by decide)) rfl rfl (Nat.le_of_ble_eq_true rfl) dX9_init_66 ?_
  change GC V _ _ _ _ _ _ _ _ _ _ _ (w0 ++ [(b, .inr (9, [.int (nI 0), .ref q1, .int (nI 0), .int (nI 0), .int (nI 0), .ref q2, .int (nI 0), .ref q3, .int (nI 0), .int (nI 0), .int (nI 0), .ref q4, .int (nI 0), .ref q5, .ref q6, .ref q7, .ref q8, .int (nI 0), .null, .null, .int (nI 0), .null, .null, .null, .long 0, .int (nI 0), .int (nI 0), .int (nI 0), .int (nI 0), .null])), (q1, ai V 48 z0), (q2, ai V 12 z0), (q3, ai V 15 z0), (q4, ai V 12 z0), (q5, ai V 15 z0), (q6, ai V 10 z0), (q7, ai V 10 z0), (q8, ai V 140 z0)]) _ _
  refine gc_aload 70 rfl dX9_init_69 rfl ?_
  refine gc_bipush 20 72 rfl dX9_init_70 (by decide) ?_
  refine gc_newi 74 rfl (by decide) (Nat.le_of_ble_eq_true rfl) (Nat.le_of_ble_eq_true rfl) dX9_init_72 (fun q9 => ?_)
  rw [List.append_assoc]
  refine gc_putF (j := 0) (k := 18) 77 rfl (by decide) rfl rfl inX9 tyX9_ok nmX9 (by decide) fl_RX9_34 rfl rfl (tyX9_ok 18 (by decide)) rfl rfl (Nat.le_of_ble_eq_true rfl) dX9_init_74 ?_
  change GC V _ _ _ _ _ _ _ _ _ _ _ (w0 ++ [(b, .inr (9, [.int (nI 0), .ref q1, .int (nI 0), .int (nI 0), .int (nI 0), .ref q2, .int (nI 0), .ref q3, .int (nI 0), .int (nI 0), .int (nI 0), .ref q4, .int (nI 0), .ref q5, .ref q6, .ref q7, .ref q8, .int (nI 0), .ref q9, .null, .int (nI 0), .null, .null, .null, .long 0, .int (nI 0), .int (nI 0), .int (nI 0), .int (nI 0), .null])), (q1, ai V 48 z0), (q2, ai V 12 z0), (q3, ai V 15 z0), (q4, ai V 12 z0), (q5, ai V 15 z0), (q6, ai V 10 z0), (q7, ai V 10 z0), (q8, ai V 140 z0), (q9, ai V 20 z0)]) _ _
  refine gc_aload 78 rfl dX9_init_77 rfl ?_
  refine gc_iconst 2 79 rfl dX9_init_78 (by decide) ?_
  refine gc_newz 81 rfl (by decide) (Nat.le_of_ble_eq_true rfl) (Nat.le_of_ble_eq_true rfl) dX9_init_79 (fun q10 => ?_)
  rw [List.append_assoc]
  refine gc_putF (j := 0) (k := 19) 84 rfl (by decide) rfl rfl inX9 tyX9_ok nmX9 (by decide) fl_RX9_37 rfl rfl (tyX9_ok 19 (by decide)) rfl rfl (Nat.le_of_ble_eq_true rfl) dX9_init_81 ?_
  change GC V _ _ _ _ _ _ _ _ _ _ _ (w0 ++ [(b, .inr (9, [.int (nI 0), .ref q1, .int (nI 0), .int (nI 0), .int (nI 0), .ref q2, .int (nI 0), .ref q3, .int (nI 0), .int (nI 0), .int (nI 0), .ref q4, .int (nI 0), .ref q5, .ref q6, .ref q7, .ref q8, .int (nI 0), .ref q9, .ref q10, .int (nI 0), .null, .null, .null, .long 0, .int (nI 0), .int (nI 0), .int (nI 0), .int (nI 0), .null])), (q1, ai V 48 z0), (q2, ai V 12 z0), (q3, ai V 15 z0), (q4, ai V 12 z0), (q5, ai V 15 z0), (q6, ai V 10 z0), (q7, ai V 10 z0), (q8, ai V 140 z0), (q9, ai V 20 z0), (q10, az V 2 z0)]) _ _
  refine gc_aload 85 rfl dX9_init_84 rfl ?_
  refine gc_bipush 6 87 rfl dX9_init_85 (by decide) ?_
  refine gc_newi 89 rfl (by decide) (Nat.le_of_ble_eq_true rfl) (Nat.le_of_ble_eq_true rfl) dX9_init_87 (fun q11 => ?_)
  rw [List.append_assoc]
  refine gc_putF (j := 0) (k := 21) 92 rfl (by decide) rfl rfl inX9 tyX9_ok nmX9 (by decide) fl_RX9_41 rfl rfl (tyX9_ok 21 (by decide)) rfl rfl (Nat.le_of_ble_eq_true rfl) dX9_init_89 ?_
  change GC V _ _ _ _ _ _ _ _ _ _ _ (w0 ++ [(b, .inr (9, [.int (nI 0), .ref q1, .int (nI 0), .int (nI 0), .int (nI 0), .ref q2, .int (nI 0), .ref q3, .int (nI 0), .int (nI 0), .int (nI 0), .ref q4, .int (nI 0), .ref q5, .ref q6, .ref q7, .ref q8, .int (nI 0), .ref q9, .ref q10, .int (nI 0), .ref q11, .null, .null, .long 0, .int (nI 0), .int (nI 0), .int (nI 0), .int (nI 0), .null])), (q1, ai V 48 z0), (q2, ai V 12 z0), (q3, ai V 15 z0), (q4, ai V 12 z0), (q5, ai V 15 z0), (q6, ai V 10 z0), (q7, ai V 10 z0), (q8, ai V 140 z0), (q9, ai V 20 z0), (q10, az V 2 z0), (q11, ai V 6 z0)]) _ _
  refine gc_aload 93 rfl dX9_init_92 rfl ?_
  refine gc_bipush 6 95 rfl dX9_init_93 (by decide) ?_
  refine gc_newi 97 rfl (by decide) (Nat.le_of_ble_eq_true rfl) (Nat.le_of_ble_eq_true rfl) dX9_init_95 (fun q12 => ?_)
  rw [List.append_assoc]
  refine gc_putF (j := 0) (k := 22) 100 rfl (by decide) rfl rfl inX9 tyX9_ok nmX9 (by decide) fl_RX9_44 rfl rfl (tyX9_ok 22 (by decide)) rfl rfl (Nat.le_of_ble_eq_true rfl) dX9_init_97 ?_
  change GC V _ _ _ _ _ _ _ _ _ _ _ (w0 ++ [(b, .inr (9, [.int (nI 0), .ref q1, .int (nI 0), .int (nI 0), .int (nI 0), .ref q2, .int (nI 0), .ref q3, .int (nI 0), .int (nI 0), .int (nI 0), .ref q4, .int (nI 0), .ref q5, .ref q6, .ref q7, .ref q8, .int (nI 0), .ref q9, .ref q10, .int (nI 0), .ref q11, .ref q12, .null, .long 0, .int (nI 0), .int (nI 0), .int (nI 0), .int (nI 0), .null])), (q1, ai V 48 z0), (q2, ai V 12 z0), (q3, ai V 15 z0), (q4, ai V 12 z0), (q5, ai V 15 z0), (q6, ai V 10 z0), (q7, ai V 10 z0), (q8, ai V 140 z0), (q9, ai V 20 z0), (q10, az V 2 z0), (q11, ai V 6 z0), (q12, ai V 6 z0)]) _ _
  refine gc_aload 101 rfl dX9_init_100 rfl ?_
  refine gc_bipush 6 103 rfl dX9_init_101 (by decide) ?_
  refine gc_newi 105 rfl (by decide) (Nat.le_of_ble_eq_true rfl) (Nat.le_of_ble_eq_true rfl) dX9_init_103 (fun q13 => ?_)
  rw [List.append_assoc]
  refine gc_putF (j := 0) (k := 23) 108 rfl (by decide) rfl rfl inX9 tyX9_ok nmX9 (by decide) fl_RX9_47 rfl rfl (tyX9_ok 23 (by decide)) rfl rfl (Nat.le_of_ble_eq_true rfl) dX9_init_105 ?_
  change GC V _ _ _ _ _ _ _ _ _ _ _ (w0 ++ [(b, .inr (9, [.int (nI 0), .ref q1, .int (nI 0), .int (nI 0), .int (nI 0), .ref q2, .int (nI 0), .ref q3, .int (nI 0), .int (nI 0), .int (nI 0), .ref q4, .int (nI 0), .ref q5, .ref q6, .ref q7, .ref q8, .int (nI 0), .ref q9, .ref q10, .int (nI 0), .ref q11, .ref q12, .ref q13, .long 0, .int (nI 0), .int (nI 0), .int (nI 0), .int (nI 0), .null])), (q1, ai V 48 z0), (q2, ai V 12 z0), (q3, ai V 15 z0), (q4, ai V 12 z0), (q5, ai V 15 z0), (q6, ai V 10 z0), (q7, ai V 10 z0), (q8, ai V 140 z0), (q9, ai V 20 z0), (q10, az V 2 z0), (q11, ai V 6 z0), (q12, ai V 6 z0), (q13, ai V 6 z0)]) _ _
  refine gc_aload 109 rfl dX9_init_108 rfl ?_
  refine gc_bipush 16 111 rfl dX9_init_109 (by decide) ?_
  refine gc_newi 113 rfl (by decide) (Nat.le_of_ble_eq_true rfl) (Nat.le_of_ble_eq_true rfl) dX9_init_111 (fun q14 => ?_)
  rw [List.append_assoc]
  refine gc_putF (j := 0) (k := 29) 116 rfl (by decide) rfl rfl inX9 tyX9_ok nmX9 (by decide) fl_RX9_50 rfl rfl (tyX9_ok 29 (by decide)) rfl rfl (Nat.le_of_ble_eq_true rfl) dX9_init_113 ?_
  change GC V _ _ _ _ _ _ _ _ _ _ _ (w0 ++ [(b, .inr (9, [.int (nI 0), .ref q1, .int (nI 0), .int (nI 0), .int (nI 0), .ref q2, .int (nI 0), .ref q3, .int (nI 0), .int (nI 0), .int (nI 0), .ref q4, .int (nI 0), .ref q5, .ref q6, .ref q7, .ref q8, .int (nI 0), .ref q9, .ref q10, .int (nI 0), .ref q11, .ref q12, .ref q13, .long 0, .int (nI 0), .int (nI 0), .int (nI 0), .int (nI 0), .ref q14])), (q1, ai V 48 z0), (q2, ai V 12 z0), (q3, ai V 15 z0), (q4, ai V 12 z0), (q5, ai V 15 z0), (q6, ai V 10 z0), (q7, ai V 10 z0), (q8, ai V 140 z0), (q9, ai V 20 z0), (q10, az V 2 z0), (q11, ai V 6 z0), (q12, ai V 6 z0), (q13, ai V 6 z0), (q14, ai V 16 z0)]) _ _
  exact gc_end ⟨q1, q2, q3, q4, q5, q6, q7, q8, q9, q10, q11, q12, q13, q14, rfl⟩ (Nat.le_refl _) (Nat.le_refl _)
end Inits
