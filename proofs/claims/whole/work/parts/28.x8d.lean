/-! MustardTreaty: fractions, sights, rests, chances, slots -/
def fac : Nat → Nat
  | 0 => 1
  | n + 1 => fac n * (n + 1)
def popc (t : Nat) : Nat := bt t 0 + bt t 1 + bt t 2 + bt t 3
def us (x y : Int32) : Int32 := (x.toUInt32 >>> (y.toUInt32 &&& Int32.toUInt32 31)).toInt32
def bc1 (x : Int32) : Int32 := x - (us x (nI 1) &&& 1431655765)
def bc2 (x : Int32) : Int32 := (x &&& 858993459) + (us x (nI 2) &&& 858993459)
def bc3 (x : Int32) : Int32 := (x + us x (nI 4)) &&& 252645135
def bc4 (x : Int32) : Int32 := x + us x (nI 8)
def bc5 (x : Int32) : Int32 := x + us x (nI 16)
theorem bc_ok : ∀ t, t < 16 → bc5 (bc4 (bc3 (bc2 (bc1 (nI t))))) &&& nI 63 = nI (popc t) := by decide +kernel
theorem popc_le : ∀ t, t < 16 → popc t ≤ 4 := by decide +kernel
theorem popc_lt : ∀ n, n ≤ 4 → ∀ t, t < 2 ^ n → ∀ e, e < n → bt t e = 0 → popc t < n := by decide +kernel
theorem mod_le_sub {l r : Nat} (h : r ≤ l) : l % r ≤ l - r := by
  rw [Nat.mod_eq_sub_mod h]; exact Nat.mod_le _ _
def frV (a b u : Nat) : Nat := if u = 0 then b / Nat.gcd a b else a / Nat.gcd a b
def stT (E T : Nat → Nat) (e s : Nat) : Nat → Nat
  | 0 => T (2 + e)
  | k + 1 => if bt s k = 0 then stT E T e s k + pain (E (3 * e + 2)) (E (3 * e)) (T 0 - k) else stT E T e s k
theorem stT_le {E T : Nat → Nat} {e s : Nat} (h0 : T 0 ≤ 9) (ht : T (2 + e) ≤ 27) : ∀ k, stT E T e s k ≤ 27 + 10 * k
  | 0 => by show T (2 + e) ≤ _; omega
  | k + 1 => by
    have := stT_le (E := E) (s := s) h0 ht k
    have := pain_le (k := E (3 * e + 2)) (p := E (3 * e)) (t := T 0 - k) (by omega)
    unfold stT
    split <;> omega
def wgt (s x : Nat) : Nat → Nat
  | 0 => 1
  | k + 1 => wgt s x k * (if bt s k = 0 then 10 - x else x)
theorem wgt_le {s x : Nat} (hx : x ≤ 10) : ∀ k, wgt s x k ≤ 10 ^ k
  | 0 => Nat.le_refl _
  | k + 1 => by
    have := wgt_le (s := s) hx k
    unfold wgt
    rw [Nat.pow_succ]
    exact Nat.mul_le_mul this (by split <;> omega)
def chS (E T : Nat → Nat) (e n x : Nat) : Nat → Nat
  | 0 => 0
  | s + 1 => if bt (T 6) e = 0 then chS E T e n x s else if stT E T e s n < 2 * E (3 * e + 1) then chS E T e n x s + wgt s x n else chS E T e n x s
theorem chS_le {E T : Nat → Nat} {e n x : Nat} (hx : x ≤ 10) (hn : n ≤ 6) : ∀ s, chS E T e n x s ≤ 1000000 * s
  | 0 => Nat.le_refl _
  | s + 1 => by
    have h1 := chS_le (E := E) (T := T) (e := e) hx hn s
    have h2 := wgt_le (s := s) hx n
    have h3 := p10 hn
    unfold chS
    split
    · omega
    · split <;> omega
def sdA : Int64 := 6364136223846793005
def sdB : Int64 := 1442695040888963407
def sdN (s : Int64) : Nat → Int64
  | 0 => s
  | k + 1 => sdN s k * sdA + sdB
def drw (s : Int64) : Nat := s.toUInt64.toNat / 2 ^ 33 % 12
theorem drw_ok (s : Int64) : ((s.toUInt64 >>> ((nI 33).toInt64.toUInt64 &&& Int64.toUInt64 63)).toInt64 - (s.toUInt64 >>> ((nI 33).toInt64.toUInt64 &&& Int64.toUInt64 63)).toInt64 / 12 * 12).toInt32 = nI (drw s) := by
  have h1 : (s.toUInt64 >>> ((nI 33).toInt64.toUInt64 &&& Int64.toUInt64 63)).toInt64 = lN (s.toUInt64.toNat / 2 ^ 33) := by
    have e : ((nI 33).toInt64.toUInt64 &&& Int64.toUInt64 63) = (33 : UInt64) := by decide +kernel
    rw [e]
    apply Int64.toBitVec_inj.mp
    apply BitVec.eq_of_toNat_eq
    show (s.toUInt64 >>> (33 : UInt64)).toNat = (BitVec.ofNat 64 (s.toUInt64.toNat / 2 ^ 33)).toNat
    rw [UInt64.toNat_shiftRight, BitVec.toNat_ofNat, Nat.shiftRight_eq_div_pow]
    have hlt : s.toUInt64.toNat < 2 ^ 64 := s.toUInt64.toNat_lt
    rw [show (33 : UInt64).toNat % 64 = 33 from rfl, Nat.mod_eq_of_lt]
    exact Nat.lt_of_le_of_lt (Nat.div_le_self _ _) hlt
  rw [h1]
  have hlt : s.toUInt64.toNat / 2 ^ 33 < 2 ^ 63 := by
    have hlt : s.toUInt64.toNat < 2 ^ 64 := s.toUInt64.toNat_lt
    omega
  rw [show (12 : Int64) = lN 12 from rfl, pk_lRem hlt (by decide) (by decide), lN_i]
  rfl
theorem drw_lt (s : Int64) : drw s < 12 := Nat.mod_lt _ (by decide)
def drwX (E : Nat → Nat) (n m : Nat) (C T : Nat → Nat) (f : Nat) : Nat → Nat := if 5 < f then bite E n T else if f = 5 then turnX E n m C T 6 else turnX E n m C T (f + 1)
def tkT (E : Nat → Nat) (n m : Nat) (C T : Nat → Nat) (s : Int64) : Nat → Nat → Nat
  | 0 => T
  | k + 1 => drwX E n m C (tkT E n m C T s k) (drw (sdN s (k + 1)))
theorem tkT_ok {E C T : Nat → Nat} {n m : Nat} {s : Int64} (hT : TI T) (h1 : T 1 ≤ 9) (hE : ∀ j, E j ≤ 9) (hn : n ≤ 4) : ∀ k, TI (tkT E n m C T s k) ∧ tkT E n m C T s k 1 ≤ 9
  | 0 => ⟨hT, h1⟩
  | k + 1 => by
    have ih := tkT_ok (C := C) (m := m) (s := s) hT h1 hE hn k
    have hl := drw_lt (sdN s (k + 1))
    show TI (drwX E n m C (tkT E n m C T s k) (drw (sdN s (k + 1)))) ∧ drwX E n m C (tkT E n m C T s k) (drw (sdN s (k + 1))) 1 ≤ 9
    unfold drwX
    split
    · exact ⟨TI_bite ih.1 hE hn, by rw [bite_1 hn]; exact ih.2⟩
    · split
      · exact ⟨TI_turn ih.1 hE hn (by decide), st_turn ih.2 hn⟩
      · exact ⟨TI_turn ih.1 hE hn (by omega), st_turn ih.2 hn⟩
theorem sL_1 (h : Hp) (i : Nat) (v : Int64) : (sL h i v).1 = h.1 := rfl
theorem sL_s (h : Hp) (i : Nat) (v : Int64) : (sL h i v).2 i = v := if_pos rfl
theorem sL_sL (h : Hp) (i : Nat) (v w : Int64) : sL (sL h i v) i w = sL h i w := by
  refine Prod.ext rfl (funext fun q => ?_)
  show (if q = i then w else if q = i then v else h.2 q) = if q = i then w else h.2 q
  split <;> rfl
theorem sL_sR (h : Hp) (i r : Nat) (v : Int64) (f : Nat → Nat) : sL (sR h r f) i v = sR (sL h i v) r f := rfl
theorem sL_same (h : Hp) (i : Nat) : sL h i (h.2 i) = h := by
  refine Prod.ext rfl (funext fun q => ?_)
  show (if q = i then h.2 i else h.2 q) = h.2 q
  split
  · rename_i e; rw [e]
  · rfl
theorem XI_L {h : Hp} (hx : XI h) (i : Nat) (v : Int64) : XI (sL h i v) := hx
section X8d
variable {V : Vt} {h : Hp}
theorem c_X8_factorial {n : Nat} (hn : n ≤ 12) : Rti V 1 yX8_factorial cX8_factorial 3 (some .int) [.int (nI n)] h (nI (fac n)) h := by
  refine Mt_in [some (.int (nI n)), none, none] (own := RX8) rfl (by decide) (Nat.le_of_ble_eq_true rfl) (fun q hq => hq) ?_
  refine g_iconst (v := 1) 1 rfl dX8_factorial_0 (by decide) ?_
  refine g_istore_n1 2 rfl dX8_factorial_1 (by decide) rfl ?_
  refine g_iconst (v := 2) 3 rfl dX8_factorial_2 (by decide) ?_
  refine g_istore_n2 4 rfl dX8_factorial_3 (by decide) rfl ?_
  skip
  refine loop_up (P := fun j => G V T0 1 RX8 cX8_factorial 3 (some .int) 4 [some (.int (nI n)), some (.int (nI (fac (j + 1)))), some (.int (nI (j + 2)))] [] h _) (n := n - 1) ?_ (fun j hj ih => ?_) 0 (Nat.zero_le _)
  · have e : fac (n - 1 + 1) = fac n := by
      by_cases q : n = 0
      · rw [q]; rfl
      · rw [show n - 1 + 1 = n by omega]
    rw [e]
    refine g_iload_n2 5 rfl dX8_factorial_4 ?_
    refine g_iload_n0 6 rfl dX8_factorial_5 ?_
    refine gn_icmp_gt 19 (by decide) 9 rfl dX8_factorial_6 (by omega) (by omega) (fun c6 => ?_) (fun c6 => absurd c6 (by omega))
    refine g_iload_n1 20 rfl dX8_factorial_19 ?_
    refine g_iret .int dX8_factorial_20 rfl (rfl) ?_
    exact ⟨rfl, rfl⟩
  · refine g_iload_n2 5 rfl dX8_factorial_4 ?_
    refine g_iload_n0 6 rfl dX8_factorial_5 ?_
    refine gn_icmp_gt 19 (by decide) 9 rfl dX8_factorial_6 (by omega) (by omega) (fun c6 => absurd c6 (by omega)) (fun c6 => ?_)
    refine g_iload_n1 10 rfl dX8_factorial_9 ?_
    refine g_iload_n2 11 rfl dX8_factorial_10 ?_
    refine gn_imul 12 rfl dX8_factorial_11 ?_
    refine g_istore_n1 13 rfl dX8_factorial_12 (by decide) rfl ?_
    refine gn_iinc2 1 16 rfl dX8_factorial_13 rfl (by decide) rfl ?_
    refine g_goto 4 (by decide) dX8_factorial_16 ?_
    exact ih
theorem c_J6_bitCount_0f7a4 {t : Nat} (ht : t < 16) : Rti V 1 yJ6_bitCount_0f7a4 cJ6_bitCount_0f7a4 1 (some .int) [.int (nI t)] h (nI (popc t)) h := by
  refine Mt_in [some (.int (nI t))] (own := RJ6) rfl (by decide) (Nat.le_of_ble_eq_true rfl) (fun q hq => hq) ?_
  refine g_iload_n0 1 rfl dJ6_bitCount_0f7a4_0 ?_
  refine g_iload_n0 2 rfl dJ6_bitCount_0f7a4_1 ?_
  refine g_iconst (v := 1) 3 rfl dJ6_bitCount_0f7a4_2 (by decide) ?_
  refine g_iushr 4 rfl dJ6_bitCount_0f7a4_3 rfl ?_
  refine g_ldcw 7 rfl ki_RJ6_265 dJ6_bitCount_0f7a4_4 ?_
  refine g_iand 8 rfl dJ6_bitCount_0f7a4_7  ?_
  refine g_isub 9 rfl dJ6_bitCount_0f7a4_8  ?_
  refine g_istore_n0 10 rfl dJ6_bitCount_0f7a4_9 (by decide) ?_
  refine g_iload_n0 11 rfl dJ6_bitCount_0f7a4_10 ?_
  refine g_ldcw 14 rfl ki_RJ6_266 dJ6_bitCount_0f7a4_11 ?_
  refine g_iand 15 rfl dJ6_bitCount_0f7a4_14  ?_
  refine g_iload_n0 16 rfl dJ6_bitCount_0f7a4_15 ?_
  refine g_iconst (v := 2) 17 rfl dJ6_bitCount_0f7a4_16 (by decide) ?_
  refine g_iushr 18 rfl dJ6_bitCount_0f7a4_17 rfl ?_
  refine g_ldcw 21 rfl ki_RJ6_266 dJ6_bitCount_0f7a4_18 ?_
  refine g_iand 22 rfl dJ6_bitCount_0f7a4_21  ?_
  refine g_iadd 23 rfl dJ6_bitCount_0f7a4_22  ?_
  refine g_istore_n0 24 rfl dJ6_bitCount_0f7a4_23 (by decide) ?_
  refine g_iload_n0 25 rfl dJ6_bitCount_0f7a4_24 ?_
  refine g_iload_n0 26 rfl dJ6_bitCount_0f7a4_25 ?_
  refine g_iconst (v := 4) 27 rfl dJ6_bitCount_0f7a4_26 (by decide) ?_
  refine g_iushr 28 rfl dJ6_bitCount_0f7a4_27 rfl ?_
  refine g_iadd 29 rfl dJ6_bitCount_0f7a4_28  ?_
  refine g_ldcw 32 rfl ki_RJ6_267 dJ6_bitCount_0f7a4_29 ?_
  refine g_iand 33 rfl dJ6_bitCount_0f7a4_32  ?_
  refine g_istore_n0 34 rfl dJ6_bitCount_0f7a4_33 (by decide) ?_
  refine g_iload_n0 35 rfl dJ6_bitCount_0f7a4_34 ?_
  refine g_iload_n0 36 rfl dJ6_bitCount_0f7a4_35 ?_
  refine g_bipush (v := 8) 38 rfl dJ6_bitCount_0f7a4_36 (by decide) ?_
  refine g_iushr 39 rfl dJ6_bitCount_0f7a4_38 rfl ?_
  refine g_iadd 40 rfl dJ6_bitCount_0f7a4_39  ?_
  refine g_istore_n0 41 rfl dJ6_bitCount_0f7a4_40 (by decide) ?_
  refine g_iload_n0 42 rfl dJ6_bitCount_0f7a4_41 ?_
  refine g_iload_n0 43 rfl dJ6_bitCount_0f7a4_42 ?_
  refine g_bipush (v := 16) 45 rfl dJ6_bitCount_0f7a4_43 (by decide) ?_
  refine g_iushr 46 rfl dJ6_bitCount_0f7a4_45 rfl ?_
  refine g_iadd 47 rfl dJ6_bitCount_0f7a4_46  ?_
  refine g_istore_n0 48 rfl dJ6_bitCount_0f7a4_47 (by decide) ?_
  refine g_iload_n0 49 rfl dJ6_bitCount_0f7a4_48 ?_
  refine g_bipush (v := 63) 51 rfl dJ6_bitCount_0f7a4_49 (by decide) ?_
  refine g_iand 52 rfl dJ6_bitCount_0f7a4_51  ?_
  refine g_iret .int dJ6_bitCount_0f7a4_52 rfl (rfl) ?_
  exact ⟨congrArg (fun q => some (Value.int q)) (bc_ok t ht), rfl⟩
theorem c_X8_ordersWith {t e : Nat} (hn : h.1 3 2 ≤ 4) (ht : t < 2 ^ h.1 3 2) (he : e < h.1 3 2) (hb : bt t e = 0) : Rti V 2 yX8_ordersWith cX8_ordersWith 3 (some .int) [rf V 0, .int (nI t)] h (nI (fac (popc t) * fac (h.1 3 2 - popc t - 1))) h := by
  have h16 : t < 16 := Nat.lt_of_lt_of_le ht (Nat.pow_le_pow_right (by decide) hn)
  have hp := popc_lt (h.1 3 2) hn t ht e he hb
  refine Mt_in [some (rf V 0), some (.int (nI t)), none] (own := RX8) rfl (by decide) (Nat.le_of_ble_eq_true rfl) (fun q hq => hq) ?_
  refine g_iload_n1 1 rfl dX8_ordersWith_0 ?_
  refine g_cs1i 4 rfl cw_RX8_228 dX8_ordersWith_1 (c_J6_bitCount_0f7a4 h16) (by omega) (Nat.le_of_ble_eq_true rfl) ?_
  refine g_istore_n2 5 rfl dX8_ordersWith_4 (by decide) rfl ?_
  refine g_iload_n2 6 rfl dX8_ordersWith_5 ?_
  refine g_cs1i 9 rfl cw_RX8_221 dX8_ordersWith_6 (c_X8_factorial (by omega)) (by omega) (Nat.le_of_ble_eq_true rfl) ?_
  refine g_aload_n0 10 rfl dX8_ordersWith_9 ?_
  refine gf_MT_rules 13 rfl fl_RX8_19 dX8_ordersWith_10 ?_
  refine gf_Rules_envoys 16 rfl fl_RX8_92 dX8_ordersWith_13 ?_
  refine g_iload_n2 17 rfl dX8_ordersWith_16 ?_
  refine gn_isub 18 rfl dX8_ordersWith_17 (by omega) ?_
  refine g_iconst (v := 1) 19 rfl dX8_ordersWith_18 (by decide) ?_
  refine gn_isub 20 rfl dX8_ordersWith_19 (by omega) ?_
  refine g_cs1i 23 rfl cw_RX8_221 dX8_ordersWith_20 (c_X8_factorial (by omega)) (by omega) (Nat.le_of_ble_eq_true rfl) ?_
  refine gn_imul 24 rfl dX8_ordersWith_23 ?_
  refine g_iret .int dX8_ordersWith_24 rfl (rfl) ?_
  exact ⟨rfl, rfl⟩
theorem c_X8_commonDivisor {a b : Nat} (ha : a < 2 ^ 31) (hb : b < 2 ^ 31) (h0 : 0 < b) : Rti V 1 yX8_commonDivisor cX8_commonDivisor 6 (some .int) [.int (nI a), .int (nI b)] h (nI (Nat.gcd a b)) h := by
  have hg : 0 < Nat.gcd a b := Nat.gcd_pos_of_pos_right a h0
  refine Mt_in [some (.int (nI a)), some (.int (nI b)), none, none, none, none] (own := RX8) rfl (by decide) (Nat.le_of_ble_eq_true rfl) (fun q hq => hq) ?_
  refine g_iload_n0 1 rfl dX8_commonDivisor_0 ?_
  refine g_istore_n2 2 rfl dX8_commonDivisor_1 (by decide) rfl ?_
  refine g_iload_n1 3 rfl dX8_commonDivisor_2 ?_
  refine g_istore_n3 4 rfl dX8_commonDivisor_3 (by decide) rfl ?_
  refine g_iconst (v := 0) 5 rfl dX8_commonDivisor_4 (by decide) ?_
  refine g_istore4 7 rfl dX8_commonDivisor_5 (by decide) rfl ?_
  skip
  have key := loop_up (P := fun s => ∀ l r, l < 2 ^ 31 → r < 2 ^ 31 → Nat.gcd l r = Nat.gcd a b → (s = 0 ∧ l + r ≤ 4294967296 ∨ 1 ≤ s ∧ r ≤ l ∧ (l + r) * 3 ^ (s - 1) ≤ 4294967296 * 2 ^ (s - 1)) → G V T0 1 RX8 cX8_commonDivisor 6 (some .int) 7 [some (.int (nI a)), some (.int (nI b)), some (.int (nI l)), some (.int (nI r)), some (.int (nI s)), none] [] h (fun v g => v = some (.int (nI (Nat.gcd a b))) ∧ g = h)) (n := 64) ?_ (fun s hs ih => ?_) 0 (Nat.zero_le _) a b ha hb rfl (Or.inl ⟨rfl, by omega⟩)
  · exact key
  · intro l r hl hr hgc hinv
    have hr0 : r = 0 := by
      rcases hinv with q | ⟨-, q1, q2⟩
      · omega
      · by_cases hz : r = 0
        · exact hz
        · exfalso
          have h3 : 2 * 3 ^ (64 - 1) ≤ (l + r) * 3 ^ (64 - 1) := Nat.mul_le_mul_right _ (by omega)
          have h4 := Nat.le_trans h3 q2
          exact absurd h4 (by decide)
    have hl0 : l = Nat.gcd a b := by rw [← hgc, hr0, Nat.gcd_zero_right]
    refine g_iload4 9 rfl dX8_commonDivisor_7 ?_
    refine g_bipush (v := 64) 11 rfl dX8_commonDivisor_9 (by decide) ?_
    refine gn_icmp_ge 34 (by decide) 14 rfl dX8_commonDivisor_11 (by omega) (by omega) (fun c11 => ?_) (fun c11 => absurd c11 (by omega))
    refine g_iconst (v := 1) 35 rfl dX8_commonDivisor_34 (by decide) ?_
    refine g_iload_n2 36 rfl dX8_commonDivisor_35 ?_
    refine gn_max 39 rfl ml_RX8_236 dX8_commonDivisor_36 (by omega) (by omega) (by decide) (Nat.le_of_ble_eq_true rfl) ?_
    refine g_iret .int dX8_commonDivisor_39 rfl (rfl) ?_
    exact ⟨congrArg (fun q => some (Value.int (nI q))) (by rw [hl0]; exact Nat.max_eq_right hg), rfl⟩
  · intro l r hl hr hgc hinv
    refine g_iload4 9 rfl dX8_commonDivisor_7 ?_
    refine g_bipush (v := 64) 11 rfl dX8_commonDivisor_9 (by decide) ?_
    refine gn_icmp_ge 34 (by decide) 14 rfl dX8_commonDivisor_11 (by omega) (by omega) (fun c11 => absurd c11 (by omega)) (fun c11 => ?_)
    refine g_iload_n3 15 rfl dX8_commonDivisor_14 ?_
    refine gn_if_eq 34 (by decide) 18 rfl dX8_commonDivisor_15 (by omega) (fun c15 => ?_) (fun c15 => ?_)
    · refine g_iconst (v := 1) 35 rfl dX8_commonDivisor_34 (by decide) ?_
      refine g_iload_n2 36 rfl dX8_commonDivisor_35 ?_
      refine gn_max 39 rfl ml_RX8_236 dX8_commonDivisor_36 (by omega) (by omega) (by decide) (Nat.le_of_ble_eq_true rfl) ?_
      refine g_iret .int dX8_commonDivisor_39 rfl (rfl) ?_
      have hl0 : l = Nat.gcd a b := by rw [← hgc, c15, Nat.gcd_zero_right]
      exact ⟨congrArg (fun q => some (Value.int (nI q))) (by rw [hl0]; exact Nat.max_eq_right hg), rfl⟩
    · refine g_iload_n2 19 rfl dX8_commonDivisor_18 ?_
      refine g_iload_n3 20 rfl dX8_commonDivisor_19 ?_
      refine gn_irem 21 rfl dX8_commonDivisor_20 (by omega) (by omega) (by omega) ?_
      refine g_istore5 23 rfl dX8_commonDivisor_21 (by decide) rfl ?_
      refine g_iload_n3 24 rfl dX8_commonDivisor_23 ?_
      refine g_istore_n2 25 rfl dX8_commonDivisor_24 (by decide) rfl ?_
      refine g_iload5 27 rfl dX8_commonDivisor_25 ?_
      refine g_istore_n3 28 rfl dX8_commonDivisor_27 (by decide) rfl ?_
      refine gn_iinc4 1 31 rfl dX8_commonDivisor_28 rfl (by decide) rfl ?_
      refine g_goto 7 (by decide) dX8_commonDivisor_31 ?_
      refine g_none 5 ?_
      have hm : l % r < r := Nat.mod_lt _ (by omega)
      refine ih r (l % r) hr (by omega) (by rw [← hgc, Nat.gcd_comm l r, Nat.gcd_rec r l, Nat.gcd_comm]) (Or.inr ⟨by omega, by omega, ?_⟩)
      rw [show s + 1 - 1 = s by omega]
      rcases hinv with ⟨q1, q2⟩ | ⟨q0, q1, q2⟩
      · subst q1
        have := Nat.mod_le l r
        show (r + l % r) * 1 ≤ 4294967296 * 1
        omega
      · have hm2 := mod_le_sub q1
        have h3 : 3 * (r + l % r) ≤ 2 * (l + r) := by omega
        obtain ⟨k, rfl⟩ : ∃ k, s = k + 1 := ⟨s - 1, by omega⟩
        rw [show k + 1 - 1 = k by omega] at q2
        calc (r + l % r) * 3 ^ (k + 1) = 3 * (r + l % r) * 3 ^ k := by rw [Nat.pow_succ, Nat.mul_comm (3 ^ k) 3, ← Nat.mul_assoc, Nat.mul_comm (r + l % r) 3]
          _ ≤ 2 * (l + r) * 3 ^ k := Nat.mul_le_mul_right _ h3
          _ = 2 * ((l + r) * 3 ^ k) := by rw [Nat.mul_assoc]
          _ ≤ 2 * (4294967296 * 2 ^ k) := Nat.mul_le_mul_left _ q2
          _ = 4294967296 * 2 ^ (k + 1) := by rw [Nat.pow_succ, Nat.mul_comm (2 ^ k) 2, ← Nat.mul_assoc, ← Nat.mul_assoc, Nat.mul_comm 2 4294967296]
theorem c_X8_fraction {a b u : Nat} (ha : a < 2 ^ 31) (hb : b < 2 ^ 31) (h0 : 0 < b) (hu : u < 2) : Rti V 2 yX8_fraction cX8_fraction 4 (some .int) [.int (nI a), .int (nI b), .int (nI u)] h (nI (frV a b u)) h := by
  have hg : 0 < Nat.gcd a b := Nat.gcd_pos_of_pos_right a h0
  have hg2 : Nat.gcd a b ≤ b := Nat.gcd_le_right a h0
  refine Mt_in [some (.int (nI a)), some (.int (nI b)), some (.int (nI u)), none] (own := RX8) rfl (by decide) (Nat.le_of_ble_eq_true rfl) (fun q hq => hq) ?_
  refine g_iload_n0 1 rfl dX8_fraction_0 ?_
  refine g_iload_n1 2 rfl dX8_fraction_1 ?_
  refine g_cs2i 5 rfl cw_RX8_233 dX8_fraction_2 (c_X8_commonDivisor ha hb h0) (by omega) (Nat.le_of_ble_eq_true rfl) ?_
  refine g_istore_n3 6 rfl dX8_fraction_5 (by decide) rfl ?_
  refine g_iload_n2 7 rfl dX8_fraction_6 ?_
  refine gn_if_eq 16 (by decide) 10 rfl dX8_fraction_7 (by omega) (fun c7 => ?_) (fun c7 => ?_)
  · refine g_iload_n1 17 rfl dX8_fraction_16 ?_
    refine g_iload_n3 18 rfl dX8_fraction_17 ?_
    refine gn_idiv 19 rfl dX8_fraction_18 (by omega) (by omega) (by omega) ?_
    refine g_iret .int dX8_fraction_19 rfl (rfl) ?_
    refine ⟨congrArg (fun q => some (Value.int (nI q))) ?_, rfl⟩
    unfold frV
    first | rw [if_pos c7] | rw [if_neg c7]
  · refine g_iload_n0 11 rfl dX8_fraction_10 ?_
    refine g_iload_n3 12 rfl dX8_fraction_11 ?_
    refine gn_idiv 13 rfl dX8_fraction_12 (by omega) (by omega) (by omega) ?_
    refine g_goto 19 (by decide) dX8_fraction_13 ?_
    refine g_iret .int dX8_fraction_19 rfl (rfl) ?_
    refine ⟨congrArg (fun q => some (Value.int (nI q))) ?_, rfl⟩
    unfold frV
    first | rw [if_pos c7] | rw [if_neg c7]
theorem c_X8_isKind {k : Nat} (hk : k < 2 ^ 32) : Rti V 1 yX8_isKind cX8_isKind 1 (some .boolean) [.int (nI k)] h (nI (if k ≤ 3 then 1 else 0)) h := by
  refine Mt_in [some (.int (nI k))] (own := RX8) rfl (by decide) (Nat.le_of_ble_eq_true rfl) (fun q hq => hq) ?_
  by_cases hs : k < 2 ^ 31
  · refine g_iload_n0 1 rfl dX8_isKind_0 ?_
    refine gn_if_lt 13 (by decide) 4 rfl dX8_isKind_1 (by omega) (fun c => c.elim) (fun _ => ?_)
    refine g_iload_n0 5 rfl dX8_isKind_4 ?_
    refine g_iconst (v := 3) 6 rfl dX8_isKind_5 (by decide) ?_
    refine gn_icmp_gt 13 (by decide) 9 rfl dX8_isKind_6 (by omega) (by omega) (fun c6 => ?_) (fun c6 => ?_)
    · refine g_iconst (v := 0) 14 rfl dX8_isKind_13 (by decide) ?_
      refine g_iret .boolean dX8_isKind_14 rfl (rfl) ?_
      refine ⟨congrArg (fun q => some (Value.int (nI q))) ?_, rfl⟩
      first | rw [if_pos (by omega)] | rw [if_neg (by omega)]
    · refine g_iconst (v := 1) 10 rfl dX8_isKind_9 (by decide) ?_
      refine g_goto 14 (by decide) dX8_isKind_10 ?_
      refine g_iret .boolean dX8_isKind_14 rfl (rfl) ?_
      refine ⟨congrArg (fun q => some (Value.int (nI q))) ?_, rfl⟩
      first | rw [if_pos (by omega)] | rw [if_neg (by omega)]
  · rw [if_neg (by omega)]
    refine g_iload_n0 1 rfl dX8_isKind_0 ?_
    refine g_if_lt 13 (by decide) 4 rfl dX8_isKind_1 (fun c1 => ?_) (fun c1 => absurd (nI_ng (by omega) hk) c1)
    refine g_iconst (v := 0) 14 rfl dX8_isKind_13 (by decide) ?_
    refine g_iret .boolean dX8_isKind_14 rfl (rfl) ?_
    exact ⟨rfl, rfl⟩
theorem c_X8_see_bad {k t q : Nat} (hk : k < 2 ^ 32) (ht : t < 2 ^ 32) (hq : q < 2 ^ 32) (hb : ¬ (k ≤ 3 ∧ t ≤ 9 ∧ q ≤ 10)) : Rti V 2 yX8_see cX8_see 4 (some .int) [rf V 0, .int (nI k), .int (nI t), .int (nI q)] h (nI 4294967294) h := by
  refine Mt_in [some (rf V 0), some (.int (nI k)), some (.int (nI t)), some (.int (nI q))] (own := RX8) rfl (by decide) (Nat.le_of_ble_eq_true rfl) (fun q hq => hq) ?_
  by_cases h3 : k ≤ 3
  · have h01 : (if k ≤ 3 then 1 else 0) = 1 := if_pos h3
    by_cases ts : t < 2 ^ 31
    · by_cases t9 : t ≤ 9
      · by_cases qs : q < 2 ^ 31
        · refine g_iload_n1 1 rfl dX8_see_0 ?_
          refine g_cs1i 4 rfl cw_RX8_241 dX8_see_1 (c_X8_isKind hk) (by omega) (Nat.le_of_ble_eq_true rfl) ?_
          rw [h01]
          refine gn_if_eq 27 (by decide) 7 rfl dX8_see_4 (by omega) (fun c4 => absurd c4 (by decide)) (fun c4 => ?_)
          refine g_iload_n2 8 rfl dX8_see_7 ?_
          refine gn_if_lt 27 (by decide) 11 rfl dX8_see_8 (by omega) (fun c => c.elim) (fun _ => ?_)
          refine g_iload_n2 12 rfl dX8_see_11 ?_
          refine g_bipush (v := 9) 14 rfl dX8_see_12 (by decide) ?_
          refine gn_icmp_gt 27 (by decide) 17 rfl dX8_see_14 (by omega) (by omega) (fun c14 => absurd c14 (by omega)) (fun c14 => ?_)
          refine g_iload_n3 18 rfl dX8_see_17 ?_
          refine gn_if_lt 27 (by decide) 21 rfl dX8_see_18 (by omega) (fun c => c.elim) (fun _ => ?_)
          refine g_iload_n3 22 rfl dX8_see_21 ?_
          refine g_bipush (v := 10) 24 rfl dX8_see_22 (by decide) ?_
          refine gn_icmp_le 30 (by decide) 27 rfl dX8_see_24 (by omega) (by omega) (fun c24 => absurd c24 (by omega)) (fun c24 => ?_)
          refine g_bipush (v := 4294967294) 29 rfl dX8_see_27 (by decide) ?_
          refine g_iret .int dX8_see_29 rfl (rfl) ?_
          exact ⟨rfl, rfl⟩
        · refine g_iload_n1 1 rfl dX8_see_0 ?_
          refine g_cs1i 4 rfl cw_RX8_241 dX8_see_1 (c_X8_isKind hk) (by omega) (Nat.le_of_ble_eq_true rfl) ?_
          rw [h01]
          refine gn_if_eq 27 (by decide) 7 rfl dX8_see_4 (by omega) (fun c4 => absurd c4 (by decide)) (fun c4 => ?_)
          refine g_iload_n2 8 rfl dX8_see_7 ?_
          refine gn_if_lt 27 (by decide) 11 rfl dX8_see_8 (by omega) (fun c => c.elim) (fun _ => ?_)
          refine g_iload_n2 12 rfl dX8_see_11 ?_
          refine g_bipush (v := 9) 14 rfl dX8_see_12 (by decide) ?_
          refine gn_icmp_gt 27 (by decide) 17 rfl dX8_see_14 (by omega) (by omega) (fun c14 => absurd c14 (by omega)) (fun c14 => ?_)
          refine g_iload_n3 18 rfl dX8_see_17 ?_
          refine g_if_lt 27 (by decide) 21 rfl dX8_see_18 (fun c18 => ?_) (fun c18 => absurd (nI_ng (by omega) hq) c18)
          refine g_bipush (v := 4294967294) 29 rfl dX8_see_27 (by decide) ?_
          refine g_iret .int dX8_see_29 rfl (rfl) ?_
          exact ⟨rfl, rfl⟩
      · refine g_iload_n1 1 rfl dX8_see_0 ?_
        refine g_cs1i 4 rfl cw_RX8_241 dX8_see_1 (c_X8_isKind hk) (by omega) (Nat.le_of_ble_eq_true rfl) ?_
        rw [h01]
        refine gn_if_eq 27 (by decide) 7 rfl dX8_see_4 (by omega) (fun c4 => absurd c4 (by decide)) (fun c4 => ?_)
        refine g_iload_n2 8 rfl dX8_see_7 ?_
        refine gn_if_lt 27 (by decide) 11 rfl dX8_see_8 (by omega) (fun c => c.elim) (fun _ => ?_)
        refine g_iload_n2 12 rfl dX8_see_11 ?_
        refine g_bipush (v := 9) 14 rfl dX8_see_12 (by decide) ?_
        refine gn_icmp_gt 27 (by decide) 17 rfl dX8_see_14 (by omega) (by omega) (fun c14 => ?_) (fun c14 => absurd c14 (by omega))
        refine g_bipush (v := 4294967294) 29 rfl dX8_see_27 (by decide) ?_
        refine g_iret .int dX8_see_29 rfl (rfl) ?_
        exact ⟨rfl, rfl⟩
    · refine g_iload_n1 1 rfl dX8_see_0 ?_
      refine g_cs1i 4 rfl cw_RX8_241 dX8_see_1 (c_X8_isKind hk) (by omega) (Nat.le_of_ble_eq_true rfl) ?_
      rw [h01]
      refine gn_if_eq 27 (by decide) 7 rfl dX8_see_4 (by omega) (fun c4 => absurd c4 (by decide)) (fun c4 => ?_)
      refine g_iload_n2 8 rfl dX8_see_7 ?_
      refine g_if_lt 27 (by decide) 11 rfl dX8_see_8 (fun c8 => ?_) (fun c8 => absurd (nI_ng (by omega) ht) c8)
      refine g_bipush (v := 4294967294) 29 rfl dX8_see_27 (by decide) ?_
      refine g_iret .int dX8_see_29 rfl (rfl) ?_
      exact ⟨rfl, rfl⟩
  · have h01 : (if k ≤ 3 then 1 else 0) = 0 := if_neg h3
    refine g_iload_n1 1 rfl dX8_see_0 ?_
    refine g_cs1i 4 rfl cw_RX8_241 dX8_see_1 (c_X8_isKind hk) (by omega) (Nat.le_of_ble_eq_true rfl) ?_
    rw [h01]
    refine gn_if_eq 27 (by decide) 7 rfl dX8_see_4 (by omega) (fun c4 => ?_) (fun c4 => absurd rfl c4)
    refine g_bipush (v := 4294967294) 29 rfl dX8_see_27 (by decide) ?_
    refine g_iret .int dX8_see_29 rfl (rfl) ?_
    exact ⟨rfl, rfl⟩
theorem c_X8_see_full {k t q : Nat} (hk : k ≤ 3) (ht : t ≤ 9) (hq : q ≤ 10) (hn : h.1 15 3 = 6) : Rti V 2 yX8_see cX8_see 4 (some .int) [rf V 0, .int (nI k), .int (nI t), .int (nI q)] h (nI 4294967292) h := by
  have h01 : (if k ≤ 3 then 1 else 0) = 1 := if_pos hk
  refine Mt_in [some (rf V 0), some (.int (nI k)), some (.int (nI t)), some (.int (nI q))] (own := RX8) rfl (by decide) (Nat.le_of_ble_eq_true rfl) (fun q hq => hq) ?_
  refine g_iload_n1 1 rfl dX8_see_0 ?_
  refine g_cs1i 4 rfl cw_RX8_241 dX8_see_1 (c_X8_isKind (by omega)) (by omega) (Nat.le_of_ble_eq_true rfl) ?_
  rw [h01]
  refine gn_if_eq 27 (by decide) 7 rfl dX8_see_4 (by omega) (fun c4 => absurd c4 (by decide)) (fun c4 => ?_)
  refine g_iload_n2 8 rfl dX8_see_7 ?_
  refine gn_if_lt 27 (by decide) 11 rfl dX8_see_8 (by omega) (fun c => c.elim) (fun _ => ?_)
  refine g_iload_n2 12 rfl dX8_see_11 ?_
  refine g_bipush (v := 9) 14 rfl dX8_see_12 (by decide) ?_
  refine gn_icmp_gt 27 (by decide) 17 rfl dX8_see_14 (by omega) (by omega) (fun c14 => absurd c14 (by omega)) (fun c14 => ?_)
  refine g_iload_n3 18 rfl dX8_see_17 ?_
  refine gn_if_lt 27 (by decide) 21 rfl dX8_see_18 (by omega) (fun c => c.elim) (fun _ => ?_)
  refine g_iload_n3 22 rfl dX8_see_21 ?_
  refine g_bipush (v := 10) 24 rfl dX8_see_22 (by decide) ?_
  refine gn_icmp_le 30 (by decide) 27 rfl dX8_see_24 (by omega) (by omega) (fun c24 => ?_) (fun c24 => absurd c24 (by omega))
  refine g_aload_n0 31 rfl dX8_see_30 ?_
  refine gf_MT_sights 34 rfl fl_RX8_52 dX8_see_31 ?_
  refine gf_Sights_count 37 rfl fl_RX8_119 dX8_see_34 ?_
  refine g_bipush (v := 6) 39 rfl dX8_see_37 (by decide) ?_
  refine gn_icmp_lt 45 (by decide) 42 rfl dX8_see_39 (by omega) (by omega) (fun c39 => absurd c39 (by omega)) (fun c39 => ?_)
  refine g_bipush (v := 4294967292) 44 rfl dX8_see_42 (by decide) ?_
  refine g_iret .int dX8_see_44 rfl (rfl) ?_
  exact ⟨rfl, rfl⟩
theorem c_X8_see_ok {k t q : Nat} (hk : k ≤ 3) (ht : t ≤ 9) (hq : q ≤ 10) (hn : h.1 15 3 < 6) : Rti V 2 yX8_see cX8_see 4 (some .int) [rf V 0, .int (nI k), .int (nI t), .int (nI q)] h (nI (h.1 15 3 + 1)) (seeH h k t q) := by
  have h01 : (if k ≤ 3 then 1 else 0) = 1 := if_pos hk
  refine Mt_in [some (rf V 0), some (.int (nI k)), some (.int (nI t)), some (.int (nI q))] (own := RX8) rfl (by decide) (Nat.le_of_ble_eq_true rfl) (fun q hq => hq) ?_
  refine g_iload_n1 1 rfl dX8_see_0 ?_
  refine g_cs1i 4 rfl cw_RX8_241 dX8_see_1 (c_X8_isKind (by omega)) (by omega) (Nat.le_of_ble_eq_true rfl) ?_
  rw [h01]
  refine gn_if_eq 27 (by decide) 7 rfl dX8_see_4 (by omega) (fun c4 => absurd c4 (by decide)) (fun c4 => ?_)
  refine g_iload_n2 8 rfl dX8_see_7 ?_
  refine gn_if_lt 27 (by decide) 11 rfl dX8_see_8 (by omega) (fun c => c.elim) (fun _ => ?_)
  refine g_iload_n2 12 rfl dX8_see_11 ?_
  refine g_bipush (v := 9) 14 rfl dX8_see_12 (by decide) ?_
  refine gn_icmp_gt 27 (by decide) 17 rfl dX8_see_14 (by omega) (by omega) (fun c14 => absurd c14 (by omega)) (fun c14 => ?_)
  refine g_iload_n3 18 rfl dX8_see_17 ?_
  refine gn_if_lt 27 (by decide) 21 rfl dX8_see_18 (by omega) (fun c => c.elim) (fun _ => ?_)
  refine g_iload_n3 22 rfl dX8_see_21 ?_
  refine g_bipush (v := 10) 24 rfl dX8_see_22 (by decide) ?_
  refine gn_icmp_le 30 (by decide) 27 rfl dX8_see_24 (by omega) (by omega) (fun c24 => ?_) (fun c24 => absurd c24 (by omega))
  refine g_aload_n0 31 rfl dX8_see_30 ?_
  refine gf_MT_sights 34 rfl fl_RX8_52 dX8_see_31 ?_
  refine gf_Sights_count 37 rfl fl_RX8_119 dX8_see_34 ?_
  refine g_bipush (v := 6) 39 rfl dX8_see_37 (by decide) ?_
  refine gn_icmp_lt 45 (by decide) 42 rfl dX8_see_39 (by omega) (by omega) (fun c39 => ?_) (fun c39 => absurd c39 (by omega))
  refine g_aload_n0 46 rfl dX8_see_45 ?_
  refine gf_MT_sights 49 rfl fl_RX8_52 dX8_see_46 ?_
  refine g_iload_n1 50 rfl dX8_see_49 ?_
  refine g_iload_n2 51 rfl dX8_see_50 ?_
  refine g_iload_n3 52 rfl dX8_see_51 ?_
  refine g_cv3v 55 rfl cw_RX8_244 dX8_see_52 (c_X4_add hn) (by omega) (ob_15 V) (Nat.le_of_ble_eq_true rfl) ?_
  refine g_aload_n0 56 rfl dX8_see_55 ?_
  refine gf_MT_sights 59 rfl fl_RX8_52 dX8_see_56 ?_
  refine gf_Sights_count 62 rfl fl_RX8_119 dX8_see_59 ?_
  refine g_iret .int dX8_see_62 rfl (rfl) ?_
  exact ⟨rfl, rfl⟩
theorem c_X8_unsee : Rti V 1 yX8_unsee cX8_unsee 2 (some .int) [rf V 0] h (nI (h.1 15 3)) (sR h 15 (up (h.1 15) 3 0)) := by
  refine Mt_in [some (rf V 0), none] (own := RX8) rfl (by decide) (Nat.le_of_ble_eq_true rfl) (fun q hq => hq) ?_
  refine g_aload_n0 1 rfl dX8_unsee_0 ?_
  refine gf_MT_sights 4 rfl fl_RX8_52 dX8_unsee_1 ?_
  refine gf_Sights_count 7 rfl fl_RX8_119 dX8_unsee_4 ?_
  refine g_istore_n1 8 rfl dX8_unsee_7 (by decide) rfl ?_
  refine g_aload_n0 9 rfl dX8_unsee_8 ?_
  refine gf_MT_sights 12 rfl fl_RX8_52 dX8_unsee_9 ?_
  refine g_iconst (v := 0) 13 rfl dX8_unsee_12 (by decide) ?_
  refine gp_Sights_count 16 rfl fl_RX8_119 dX8_unsee_13 ?_
  refine g_iload_n1 17 rfl dX8_unsee_16 ?_
  refine g_iret .int dX8_unsee_17 rfl (rfl) ?_
  exact ⟨rfl, rfl⟩
theorem c_X8_palates_bad {k : Nat} (hk : k < 2 ^ 32) (h3 : ¬ k ≤ 3) : Rti V 4 yX8_palates cX8_palates 2 (some .int) [rf V 0, .int (nI k)] h (nI 4294967294) h := by
  have h01 : (if k ≤ 3 then 1 else 0) = 0 := if_neg h3
  refine Mt_in [some (rf V 0), some (.int (nI k))] (own := RX8) rfl (by decide) (Nat.le_of_ble_eq_true rfl) (fun q hq => hq) ?_
  refine g_iload_n1 1 rfl dX8_palates_0 ?_
  refine g_cs1i 4 rfl cw_RX8_241 dX8_palates_1 (c_X8_isKind hk) (by omega) (Nat.le_of_ble_eq_true rfl) ?_
  rw [h01]
  refine gn_if_ne 10 (by decide) 7 rfl dX8_palates_4 (by omega) (fun c4 => absurd rfl c4) (fun c4 => ?_)
  refine g_bipush (v := 4294967294) 9 rfl dX8_palates_7 (by decide) ?_
  refine g_iret .int dX8_palates_9 rfl (rfl) ?_
  exact ⟨rfl, rfl⟩
theorem c_X8_palates_ok {k : Nat} (hn : h.1 15 3 ≤ 6) (hK : ∀ j, h.1 16 j ≤ 3) (hH : ∀ j, h.1 17 j ≤ 9) (hQ : ∀ j, h.1 18 j ≤ 10) (h3 : k ≤ 3) : Rti V 4 yX8_palates cX8_palates 2 (some .int) [rf V 0, .int (nI k)] h (nI (palB (h.1 16) (h.1 17) (h.1 18) k (h.1 15 3) 10)) h := by
  have h01 : (if k ≤ 3 then 1 else 0) = 1 := if_pos h3
  refine Mt_in [some (rf V 0), some (.int (nI k))] (own := RX8) rfl (by decide) (Nat.le_of_ble_eq_true rfl) (fun q hq => hq) ?_
  refine g_iload_n1 1 rfl dX8_palates_0 ?_
  refine g_cs1i 4 rfl cw_RX8_241 dX8_palates_1 (c_X8_isKind (by omega)) (by omega) (Nat.le_of_ble_eq_true rfl) ?_
  rw [h01]
  refine gn_if_ne 10 (by decide) 7 rfl dX8_palates_4 (by omega) (fun c4 => ?_) (fun c4 => absurd c4 (by decide))
  refine g_aload_n0 11 rfl dX8_palates_10 ?_
  refine gf_MT_sights 14 rfl fl_RX8_52 dX8_palates_11 ?_
  refine g_iload_n1 15 rfl dX8_palates_14 ?_
  refine g_cv1i 18 rfl cw_RX8_248 dX8_palates_15 (c_X4_palatesThatFit hn hK hH hQ h3) (by omega) (ob_15 V) (Nat.le_of_ble_eq_true rfl) ?_
  refine g_iret .int dX8_palates_18 rfl (rfl) ?_
  exact ⟨rfl, rfl⟩
def rstV (E : Nat → Nat) (t e o w : Nat) : Nat := if w = 0 then (stp E e o t 25).1 else (stp E e o t 25).2
theorem c_X8_rests_u {e o w : Nat} (hx : XI h) (he : e < 2 ^ 32) (ho : o < 2 ^ 32) (hn : ¬ (e < h.1 3 2 ∧ o < h.1 3 2)) : Rti V 6 yX8_rests cX8_rests 4 (some .int) [rf V 0, .int (nI e), .int (nI o), .int (nI w)] h (nI 4294967295) h := by
  refine Mt_in [some (rf V 0), some (.int (nI e)), some (.int (nI o)), some (.int (nI w))] (own := RX8) rfl (by decide) (Nat.le_of_ble_eq_true rfl) (fun q hq => hq) ?_
  by_cases h1 : e < h.1 3 2
  · have h01 : (if e < h.1 3 2 then 1 else 0) = 1 := if_pos h1
    have h02 : (if o < h.1 3 2 then 1 else 0) = 0 := if_neg (by omega)
    refine g_aload_n0 1 rfl dX8_rests_0 ?_
    refine gf_MT_rules 4 rfl fl_RX8_19 dX8_rests_1 ?_
    refine g_iload_n1 5 rfl dX8_rests_4 ?_
    refine g_cv1i 8 rfl cw_RX8_120 dX8_rests_5 (c_X1_hasEnvoy hx.1 he) (by omega) (ob_3 V) (Nat.le_of_ble_eq_true rfl) ?_
    rw [h01]
    refine gn_if_eq 22 (by decide) 11 rfl dX8_rests_8 (by omega) (fun c8 => absurd c8 (by decide)) (fun c8 => ?_)
    refine g_aload_n0 12 rfl dX8_rests_11 ?_
    refine gf_MT_rules 15 rfl fl_RX8_19 dX8_rests_12 ?_
    refine g_iload_n2 16 rfl dX8_rests_15 ?_
    refine g_cv1i 19 rfl cw_RX8_120 dX8_rests_16 (c_X1_hasEnvoy hx.1 ho) (by omega) (ob_3 V) (Nat.le_of_ble_eq_true rfl) ?_
    rw [h02]
    refine gn_if_ne 24 (by decide) 22 rfl dX8_rests_19 (by omega) (fun c19 => absurd rfl c19) (fun c19 => ?_)
    refine g_iconst (v := 4294967295) 23 rfl dX8_rests_22 (by decide) ?_
    refine g_iret .int dX8_rests_23 rfl (rfl) ?_
    exact ⟨rfl, rfl⟩
  · have h01 : (if e < h.1 3 2 then 1 else 0) = 0 := if_neg h1
    refine g_aload_n0 1 rfl dX8_rests_0 ?_
    refine gf_MT_rules 4 rfl fl_RX8_19 dX8_rests_1 ?_
    refine g_iload_n1 5 rfl dX8_rests_4 ?_
    refine g_cv1i 8 rfl cw_RX8_120 dX8_rests_5 (c_X1_hasEnvoy hx.1 he) (by omega) (ob_3 V) (Nat.le_of_ble_eq_true rfl) ?_
    rw [h01]
    refine gn_if_eq 22 (by decide) 11 rfl dX8_rests_8 (by omega) (fun c8 => ?_) (fun c8 => absurd rfl c8)
    refine g_iconst (v := 4294967295) 23 rfl dX8_rests_22 (by decide) ?_
    refine g_iret .int dX8_rests_23 rfl (rfl) ?_
    exact ⟨rfl, rfl⟩
theorem c_X8_rests_bad {e o w : Nat} (hx : XI h) (he : e < h.1 3 2) (ho : o < h.1 3 2) (hw : w < 2 ^ 32) (hb : e = o ∨ ¬ w ≤ 1) : Rti V 6 yX8_rests cX8_rests 4 (some .int) [rf V 0, .int (nI e), .int (nI o), .int (nI w)] h (nI 4294967294) h := by
  have h01 : (if e < h.1 3 2 then 1 else 0) = 1 := if_pos he
  have h02 : (if o < h.1 3 2 then 1 else 0) = 1 := if_pos ho
  have h4 := hx.1
  refine Mt_in [some (rf V 0), some (.int (nI e)), some (.int (nI o)), some (.int (nI w))] (own := RX8) rfl (by decide) (Nat.le_of_ble_eq_true rfl) (fun q hq => hq) ?_
  by_cases hs : w < 2 ^ 31
  · refine g_aload_n0 1 rfl dX8_rests_0 ?_
    refine gf_MT_rules 4 rfl fl_RX8_19 dX8_rests_1 ?_
    refine g_iload_n1 5 rfl dX8_rests_4 ?_
    refine g_cv1i 8 rfl cw_RX8_120 dX8_rests_5 (c_X1_hasEnvoy hx.1 (by omega)) (by omega) (ob_3 V) (Nat.le_of_ble_eq_true rfl) ?_
    rw [h01]
    refine gn_if_eq 22 (by decide) 11 rfl dX8_rests_8 (by omega) (fun c8 => absurd c8 (by decide)) (fun c8 => ?_)
    refine g_aload_n0 12 rfl dX8_rests_11 ?_
    refine gf_MT_rules 15 rfl fl_RX8_19 dX8_rests_12 ?_
    refine g_iload_n2 16 rfl dX8_rests_15 ?_
    refine g_cv1i 19 rfl cw_RX8_120 dX8_rests_16 (c_X1_hasEnvoy hx.1 (by omega)) (by omega) (ob_3 V) (Nat.le_of_ble_eq_true rfl) ?_
    rw [h02]
    refine gn_if_ne 24 (by decide) 22 rfl dX8_rests_19 (by omega) (fun c19 => ?_) (fun c19 => absurd c19 (by decide))
    refine g_iload_n1 25 rfl dX8_rests_24 ?_
    refine g_iload_n2 26 rfl dX8_rests_25 ?_
    refine gn_icmp_eq 38 (by decide) 29 rfl dX8_rests_26 (by omega) (by omega) (fun c26 => ?_) (fun c26 => ?_)
    · refine g_bipush (v := 4294967294) 40 rfl dX8_rests_38 (by decide) ?_
      refine g_iret .int dX8_rests_40 rfl (rfl) ?_
      exact ⟨rfl, rfl⟩
    · refine g_iload_n3 30 rfl dX8_rests_29 ?_
      refine gn_if_lt 38 (by decide) 33 rfl dX8_rests_30 (by omega) (fun c => c.elim) (fun _ => ?_)
      refine g_iload_n3 34 rfl dX8_rests_33 ?_
      refine g_iconst (v := 1) 35 rfl dX8_rests_34 (by decide) ?_
      refine gn_icmp_le 41 (by decide) 38 rfl dX8_rests_35 (by omega) (by omega) (fun c35 => absurd c35 (by omega)) (fun c35 => ?_)
      refine g_bipush (v := 4294967294) 40 rfl dX8_rests_38 (by decide) ?_
      refine g_iret .int dX8_rests_40 rfl (rfl) ?_
      exact ⟨rfl, rfl⟩
  · refine g_aload_n0 1 rfl dX8_rests_0 ?_
    refine gf_MT_rules 4 rfl fl_RX8_19 dX8_rests_1 ?_
    refine g_iload_n1 5 rfl dX8_rests_4 ?_
    refine g_cv1i 8 rfl cw_RX8_120 dX8_rests_5 (c_X1_hasEnvoy hx.1 (by omega)) (by omega) (ob_3 V) (Nat.le_of_ble_eq_true rfl) ?_
    rw [h01]
    refine gn_if_eq 22 (by decide) 11 rfl dX8_rests_8 (by omega) (fun c8 => absurd c8 (by decide)) (fun c8 => ?_)
    refine g_aload_n0 12 rfl dX8_rests_11 ?_
    refine gf_MT_rules 15 rfl fl_RX8_19 dX8_rests_12 ?_
    refine g_iload_n2 16 rfl dX8_rests_15 ?_
    refine g_cv1i 19 rfl cw_RX8_120 dX8_rests_16 (c_X1_hasEnvoy hx.1 (by omega)) (by omega) (ob_3 V) (Nat.le_of_ble_eq_true rfl) ?_
    rw [h02]
    refine gn_if_ne 24 (by decide) 22 rfl dX8_rests_19 (by omega) (fun c19 => ?_) (fun c19 => absurd c19 (by decide))
    refine g_iload_n1 25 rfl dX8_rests_24 ?_
    refine g_iload_n2 26 rfl dX8_rests_25 ?_
    refine gn_icmp_eq 38 (by decide) 29 rfl dX8_rests_26 (by omega) (by omega) (fun c26 => ?_) (fun c26 => ?_)
    · refine g_bipush (v := 4294967294) 40 rfl dX8_rests_38 (by decide) ?_
      refine g_iret .int dX8_rests_40 rfl (rfl) ?_
      exact ⟨rfl, rfl⟩
    · refine g_iload_n3 30 rfl dX8_rests_29 ?_
      refine g_if_lt 38 (by decide) 33 rfl dX8_rests_30 (fun c30 => ?_) (fun c30 => absurd (nI_ng (by omega) hw) c30)
      refine g_bipush (v := 4294967294) 40 rfl dX8_rests_38 (by decide) ?_
      refine g_iret .int dX8_rests_40 rfl (rfl) ?_
      exact ⟨rfl, rfl⟩
theorem c_X8_rests_ok {e o w : Nat} (hx : XI h) (he : e < h.1 3 2) (ho : o < h.1 3 2) (hw : w ≤ 1) (hne : ¬ e = o) : Rti V 6 yX8_rests cX8_rests 4 (some .int) [rf V 0, .int (nI e), .int (nI o), .int (nI w)] h (nI (rstV (h.1 4) (h.1 (tr 0) 0) e o w)) (sR h 21 (up (up (h.1 21) 1 (stp (h.1 4) e o (h.1 (tr 0) 0) 25).1) 2 (stp (h.1 4) e o (h.1 (tr 0) 0) 25).2)) := by
  have h01 : (if e < h.1 3 2 then 1 else 0) = 1 := if_pos he
  have h02 : (if o < h.1 3 2 then 1 else 0) = 1 := if_pos ho
  have h4 := hx.1
  refine Mt_in [some (rf V 0), some (.int (nI e)), some (.int (nI o)), some (.int (nI w))] (own := RX8) rfl (by decide) (Nat.le_of_ble_eq_true rfl) (fun q hq => hq) ?_
  refine g_aload_n0 1 rfl dX8_rests_0 ?_
  refine gf_MT_rules 4 rfl fl_RX8_19 dX8_rests_1 ?_
  refine g_iload_n1 5 rfl dX8_rests_4 ?_
  refine g_cv1i 8 rfl cw_RX8_120 dX8_rests_5 (c_X1_hasEnvoy hx.1 (by omega)) (by omega) (ob_3 V) (Nat.le_of_ble_eq_true rfl) ?_
  rw [h01]
  refine gn_if_eq 22 (by decide) 11 rfl dX8_rests_8 (by omega) (fun c8 => absurd c8 (by decide)) (fun c8 => ?_)
  refine g_aload_n0 12 rfl dX8_rests_11 ?_
  refine gf_MT_rules 15 rfl fl_RX8_19 dX8_rests_12 ?_
  refine g_iload_n2 16 rfl dX8_rests_15 ?_
  refine g_cv1i 19 rfl cw_RX8_120 dX8_rests_16 (c_X1_hasEnvoy hx.1 (by omega)) (by omega) (ob_3 V) (Nat.le_of_ble_eq_true rfl) ?_
  rw [h02]
  refine gn_if_ne 24 (by decide) 22 rfl dX8_rests_19 (by omega) (fun c19 => ?_) (fun c19 => absurd c19 (by decide))
  refine g_iload_n1 25 rfl dX8_rests_24 ?_
  refine g_iload_n2 26 rfl dX8_rests_25 ?_
  refine gn_icmp_eq 38 (by decide) 29 rfl dX8_rests_26 (by omega) (by omega) (fun c26 => absurd c26 hne) (fun c26 => ?_)
  refine g_iload_n3 30 rfl dX8_rests_29 ?_
  refine gn_if_lt 38 (by decide) 33 rfl dX8_rests_30 (by omega) (fun c => c.elim) (fun _ => ?_)
  refine g_iload_n3 34 rfl dX8_rests_33 ?_
  refine g_iconst (v := 1) 35 rfl dX8_rests_34 (by decide) ?_
  refine gn_icmp_le 41 (by decide) 38 rfl dX8_rests_35 (by omega) (by omega) (fun c35 => ?_) (fun c35 => absurd c35 (by omega))
  refine g_aload_n0 42 rfl dX8_rests_41 ?_
  refine gf_MT_stops 45 rfl fl_RX8_66 dX8_rests_42 ?_
  refine g_iload_n1 46 rfl dX8_rests_45 ?_
  refine g_iload_n2 47 rfl dX8_rests_46 ?_
  refine g_aload_n0 48 rfl dX8_rests_47 ?_
  refine gf_MT_table 51 rfl fl_RX8_28 dX8_rests_48 ?_
  refine gf_Table_heat 54 rfl (by omega) fl_RX8_98 dX8_rests_51 ?_
  refine g_cv3v 57 rfl cw_RX8_251 dX8_rests_54 (c_X6_find hx (by omega) (by omega) (hx.2.2.2.2.2.2 0).1) (by omega) (ob_21 V) (Nat.le_of_ble_eq_true rfl) ?_
  refine g_iload_n3 58 rfl dX8_rests_57 ?_
  refine gn_if_ne 71 (by decide) 61 rfl dX8_rests_58 (by omega) (fun c58 => ?_) (fun c58 => ?_)
  · refine g_aload_n0 72 rfl dX8_rests_71 ?_
    refine gf_MT_stops 75 rfl fl_RX8_66 dX8_rests_72 ?_
    refine gf_Stops_first 78 rfl fl_RX8_255 dX8_rests_75 ?_
    refine g_iret .int dX8_rests_78 rfl (rfl) ?_
    refine ⟨congrArg (fun q => some (Value.int (nI q))) ?_, rfl⟩
    unfold rstV
    first | (rw [if_pos c58, sR_s, up_n (by decide), up_s]) | (rw [if_neg c58, sR_s, up_s])
  · refine g_aload_n0 62 rfl dX8_rests_61 ?_
    refine gf_MT_stops 65 rfl fl_RX8_66 dX8_rests_62 ?_
    refine gf_Stops_count 68 rfl fl_RX8_254 dX8_rests_65 ?_
    refine g_goto 78 (by decide) dX8_rests_68 ?_
    refine g_iret .int dX8_rests_78 rfl (rfl) ?_
    refine ⟨congrArg (fun q => some (Value.int (nI q))) ?_, rfl⟩
    unfold rstV
    first | (rw [if_pos c58, sR_s, up_n (by decide), up_s]) | (rw [if_neg c58, sR_s, up_s])
end X8d
