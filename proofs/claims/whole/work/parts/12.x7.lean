/-! MustardTreaty$Table: a table's numbers are a row: heat 0, store 1, tears 2 .. 5, eating 6, fed 7, bound 8, bites 9 -/
def TI (f : Nat → Nat) : Prop := f 0 ≤ 9 ∧ f 1 < 4294967296 ∧ f 6 < 16 ∧ f 7 < 16 ∧ f 8 < 32 ∧ (∀ e, e < 4 → f (2 + e) ≤ 27 ∧ (bt (f 6) e = 1 → f (2 + e) ≤ 17)) ∧ ∀ o, 10 ≤ o → f o = 0
def XI (h : Hp) : Prop := h.1 3 2 ≤ 4 ∧ h.1 3 3 ≤ 5 ∧ (∀ j, h.1 4 j ≤ 9) ∧ (∀ e, h.1 4 (3 * e + 2) ≤ 3) ∧ (∀ j, h.1 7 j ≤ 9) ∧ (∀ c, h.1 7 (3 * c + 2) < 4) ∧ ∀ i, TI (h.1 (tr i))
theorem XI_tr {h : Hp} (hx : XI h) {i : Nat} {f : Nat → Nat} (hf : TI f) : XI (sR h (tr i) f) := by
  obtain ⟨h1, h2, h3, h4, h5, h6, h7⟩ := hx
  have e3 : (sR h (tr i) f).1 3 = h.1 3 := sR_n (tr_hi (by omega))
  have e4 : (sR h (tr i) f).1 4 = h.1 4 := sR_n (tr_hi (by omega))
  have e7 : (sR h (tr i) f).1 7 = h.1 7 := sR_n (tr_hi (by omega))
  refine ⟨by rw [e3]; exact h1, by rw [e3]; exact h2, by rw [e4]; exact h3, by rw [e4]; exact h4, by rw [e7]; exact h5, by rw [e7]; exact h6, fun j => ?_⟩
  by_cases q : j = i
  · rw [q, sR_s]; exact hf
  · rw [sR_n (tr_ne q)]; exact h7 j
theorem sR_t3 (h : Hp) (i : Nat) (f : Nat → Nat) : (sR h (tr i) f).1 3 = h.1 3 := sR_n (tr_hi (by omega))
theorem sR_t4 (h : Hp) (i : Nat) (f : Nat → Nat) : (sR h (tr i) f).1 4 = h.1 4 := sR_n (tr_hi (by omega))
theorem sR_t7 (h : Hp) (i : Nat) (f : Nat → Nat) : (sR h (tr i) f).1 7 = h.1 7 := sR_n (tr_hi (by omega))
def bite1 (E : Nat → Nat) (e : Nat) (T : Nat → Nat) : Nat → Nat :=
  if bt (T 6) e = 0 then T else if T (2 + e) + pain (E (3 * e + 2)) (E (3 * e)) (T 0) < 2 * E (3 * e + 1) then up T (2 + e) (T (2 + e) + pain (E (3 * e + 2)) (E (3 * e)) (T 0)) else up (up T (2 + e) (T (2 + e) + pain (E (3 * e + 2)) (E (3 * e)) (T 0))) 6 (T 6 &&& (1 * 2 ^ e ^^^ 4294967295))
def biteN (E T : Nat → Nat) : Nat → Nat → Nat
  | 0 => T
  | e + 1 => bite1 E e (biteN E T e)
def bite (E : Nat → Nat) (n : Nat) (T : Nat → Nat) : Nat → Nat := up (up (biteN E T n) 0 (biteN E T n 0 - 1)) 9 (biteN E T n 9 + 1)
def canB (n : Nat) (C T : Nat → Nat) (c : Nat) : Bool := decide (c < n ∧ bt (T 8) c = 0 ∧ ¬ bt (T 6) (C (3 * c + 2)) = 0 ∧ C (3 * c + 1) ≤ T 0 ∧ C (3 * c) ≤ 4 - T 0 / 3)
def sayB (n : Nat) (C T : Nat → Nat) : Nat → Nat
  | 0 => 0
  | c + 1 => if canB n C T c then sayB n C T c ||| 1 * 2 ^ c else sayB n C T c
def bindR (T : Nat → Nat) (c : Nat) : Nat → Nat := up T 8 (T 8 ||| 1 * 2 ^ c)
def dec1 (x : Nat) : Nat := if x = 0 then 4294967295 else x - 1
theorem dec1_lt {x : Nat} (h : x < 4294967296) : dec1 x < 4294967296 := by unfold dec1; split <;> omega
theorem dec1_nI (x : Nat) : nI x - nI 1 = nI (dec1 x) := by
  unfold dec1
  split
  · rename_i e; rw [e]; decide +kernel
  · rw [pk_sub (by omega)]
def seedR (T : Nat → Nat) : Nat → Nat := up (up T 1 (dec1 (T 1))) 0 (min 9 (T 0 + 2))
def breadR (T : Nat → Nat) (e : Nat) : Nat → Nat := up (up T (2 + e) (T (2 + e) - 3)) 7 (T 7 ||| 1 * 2 ^ e)
theorem pain_le {k p t : Nat} (ht : t ≤ 9) : pain k p t ≤ 10 := by
  unfold pain
  split
  · omega
  · split
    · split <;> omega
    · split <;> omega
theorem and_le16 {a b : Nat} (h : a < 16) : a &&& b < 16 := Nat.lt_of_le_of_lt Nat.and_le_left h
theorem bt_clr : ∀ a, a < 16 → ∀ e, e < 4 → bt (a &&& (1 * 2 ^ e ^^^ 4294967295)) e = 0 ∧ ∀ j, j < 4 → j ≠ e → bt (a &&& (1 * 2 ^ e ^^^ 4294967295)) j = bt a j := by decide +kernel
theorem TI_bite1 {E T : Nat → Nat} {e : Nat} (hT : TI T) (he : e < 4) (hE : ∀ j, E j ≤ 9) : TI (bite1 E e T) := by
  obtain ⟨h0, h1, h6, h7, h8, ht, hz⟩ := hT
  unfold bite1
  have hp := pain_le (k := E (3 * e + 2)) (p := E (3 * e)) h0
  have hw := hE (3 * e + 1)
  split
  · exact ⟨h0, h1, h6, h7, h8, ht, hz⟩
  · rename_i hb
    have hb1 : bt (T 6) e = 1 := by rcases bt_01 (T 6) e with q | q <;> omega
    have h17 := (ht e he).2 hb1
    have hv : T (2 + e) + pain (E (3 * e + 2)) (E (3 * e)) (T 0) ≤ 27 := by omega
    generalize T (2 + e) + pain (E (3 * e + 2)) (E (3 * e)) (T 0) = v at hv ⊢
    split
    · refine ⟨by rw [up_n (by omega)]; exact h0, by rw [up_n (by omega)]; exact h1, by rw [up_n (by omega)]; exact h6, by rw [up_n (by omega)]; exact h7, by rw [up_n (by omega)]; exact h8, fun a ha => ?_, fun o ho => by rw [up_n (by omega)]; exact hz o ho⟩
      rw [up_n (show 6 ≠ 2 + e by omega)]
      by_cases q : a = e
      · rw [q, up_s]; omega
      · rw [up_n (by omega)]; exact ht a ha
    · obtain ⟨k1, k2⟩ := bt_clr (T 6) h6 e he
      refine ⟨by rw [up_n (by omega), up_n (by omega)]; exact h0, by rw [up_n (by omega), up_n (by omega)]; exact h1, by rw [up_s]; exact and_le16 h6, by rw [up_n (by omega), up_n (by omega)]; exact h7, by rw [up_n (by omega), up_n (by omega)]; exact h8, fun a ha => ?_, fun o ho => by rw [up_n (by omega), up_n (by omega)]; exact hz o ho⟩
      rw [up_s, up_n (show 2 + a ≠ 6 by omega)]
      by_cases q : a = e
      · rw [q, up_s, k1]; omega
      · rw [up_n (by omega), k2 a ha q]; exact ht a ha
theorem TI_biteN {E T : Nat → Nat} (hT : TI T) (hE : ∀ j, E j ≤ 9) : ∀ e, e ≤ 4 → TI (biteN E T e)
  | 0, _ => hT
  | e + 1, he => TI_bite1 (TI_biteN hT hE e (by omega)) (by omega) hE
theorem TI_up0 {T : Nat → Nat} (hT : TI T) {v : Nat} (hv : v ≤ 9) : TI (up T 0 v) := by
  obtain ⟨h0, h1, h6, h7, h8, ht, hz⟩ := hT
  refine ⟨by rw [up_s]; exact hv, by rw [up_n (by omega)]; exact h1, by rw [up_n (by omega)]; exact h6, by rw [up_n (by omega)]; exact h7, by rw [up_n (by omega)]; exact h8, fun a ha => ?_, fun o ho => by rw [up_n (by omega)]; exact hz o ho⟩
  rw [up_n (by omega), up_n (by omega)]; exact ht a ha
theorem TI_up9 {T : Nat → Nat} (hT : TI T) (v : Nat) : TI (up T 9 v) := by
  obtain ⟨h0, h1, h6, h7, h8, ht, hz⟩ := hT
  refine ⟨by rw [up_n (by omega)]; exact h0, by rw [up_n (by omega)]; exact h1, by rw [up_n (by omega)]; exact h6, by rw [up_n (by omega)]; exact h7, by rw [up_n (by omega)]; exact h8, fun a ha => ?_, fun o ho => by rw [up_n (by omega)]; exact hz o ho⟩
  rw [up_n (by omega), up_n (by omega)]; exact ht a ha
theorem TI_up1 {T : Nat → Nat} (hT : TI T) {v : Nat} (hv : v < 4294967296) : TI (up T 1 v) := by
  obtain ⟨h0, h1, h6, h7, h8, ht, hz⟩ := hT
  refine ⟨by rw [up_n (by omega)]; exact h0, by rw [up_s]; exact hv, by rw [up_n (by omega)]; exact h6, by rw [up_n (by omega)]; exact h7, by rw [up_n (by omega)]; exact h8, fun a ha => ?_, fun o ho => by rw [up_n (by omega)]; exact hz o ho⟩
  rw [up_n (by omega), up_n (by omega)]; exact ht a ha
theorem TI_up8 {T : Nat → Nat} (hT : TI T) {v : Nat} (hv : v < 32) : TI (up T 8 v) := by
  obtain ⟨h0, h1, h6, h7, h8, ht, hz⟩ := hT
  refine ⟨by rw [up_n (by omega)]; exact h0, by rw [up_n (by omega)]; exact h1, by rw [up_n (by omega)]; exact h6, by rw [up_n (by omega)]; exact h7, by rw [up_s]; exact hv, fun a ha => ?_, fun o ho => by rw [up_n (by omega)]; exact hz o ho⟩
  rw [up_n (by omega), up_n (by omega)]; exact ht a ha
theorem TI_up7 {T : Nat → Nat} (hT : TI T) {v : Nat} (hv : v < 16) : TI (up T 7 v) := by
  obtain ⟨h0, h1, h6, h7, h8, ht, hz⟩ := hT
  refine ⟨by rw [up_n (by omega)]; exact h0, by rw [up_n (by omega)]; exact h1, by rw [up_n (by omega)]; exact h6, by rw [up_s]; exact hv, by rw [up_n (by omega)]; exact h8, fun a ha => ?_, fun o ho => by rw [up_n (by omega)]; exact hz o ho⟩
  rw [up_n (by omega), up_n (by omega)]; exact ht a ha
theorem TI_upt {T : Nat → Nat} (hT : TI T) {e v : Nat} (he : e < 4) (hv : v ≤ T (2 + e)) : TI (up T (2 + e) v) := by
  obtain ⟨h0, h1, h6, h7, h8, ht, hz⟩ := hT
  refine ⟨by rw [up_n (by omega)]; exact h0, by rw [up_n (by omega)]; exact h1, by rw [up_n (by omega)]; exact h6, by rw [up_n (by omega)]; exact h7, by rw [up_n (by omega)]; exact h8, fun a ha => ?_, fun o ho => by rw [up_n (by omega)]; exact hz o ho⟩
  rw [up_n (show 6 ≠ 2 + e by omega)]
  have := ht e he
  by_cases q : a = e
  · rw [q, up_s]; omega
  · rw [up_n (by omega)]; exact ht a ha
theorem TI_bite {E T : Nat → Nat} (hT : TI T) (hE : ∀ j, E j ≤ 9) {n : Nat} (hn : n ≤ 4) : TI (bite E n T) := by
  have h := TI_biteN (T := T) hT hE n hn
  exact TI_up9 (TI_up0 h (by have := h.1; omega)) _
theorem or32 : ∀ a, a < 32 → ∀ c, c < 5 → a ||| 1 * 2 ^ c < 32 := by decide +kernel
theorem or16 : ∀ a, a < 16 → ∀ c, c < 4 → a ||| 1 * 2 ^ c < 16 := by decide +kernel
theorem TI_bind {T : Nat → Nat} (hT : TI T) {c : Nat} (hc : c < 5) : TI (bindR T c) := TI_up8 hT (or32 _ hT.2.2.2.2.1 c hc)
theorem TI_seed {T : Nat → Nat} (hT : TI T) : TI (seedR T) := TI_up0 (TI_up1 hT (dec1_lt hT.2.1)) (by omega)
theorem TI_bread {T : Nat → Nat} (hT : TI T) {e : Nat} (he : e < 4) : TI (breadR T e) := TI_up7 (TI_upt hT he (by omega)) (or16 _ hT.2.2.2.1 e he)
section X7
variable {V : Vt} {h : Hp}
theorem nar2 {v : Nat} (hv : v < 2) : narrow .boolean (.int (nI v)) = .int (nI v) := by
  rcases (show v = 0 ∨ v = 1 by omega) with rfl | rfl <;> rfl
theorem c_X7_eats {i e : Nat} (hi : i < 24) (hT : TI (h.1 (tr i))) (he : e < 32) : Rti V 1 yX7_eats cX7_eats 2 (some .boolean) [rf V (tb i), .int (nI e)] h (nI (bt (h.1 (tr i) 6) e)) h := by
  have h6 := hT.2.2.1
  refine Mt_in [some (rf V (tb i)), some (.int (nI e))] (own := RX7) rfl (by decide) (Nat.le_of_ble_eq_true rfl) (fun q hq => hq) ?_
  refine g_aload_n0 1 rfl dX7_eats_0 ?_
  refine gf_Table_eating 4 rfl (by omega) fl_RX7_37 dX7_eats_1 ?_
  refine g_iload_n1 5 rfl dX7_eats_4 ?_
  refine gn_ishr 6 rfl dX7_eats_5 (by omega) (by omega) ?_
  refine g_iconst (v := 1) 7 rfl dX7_eats_6 (by decide) ?_
  refine gn_iand 8 rfl dX7_eats_7 ?_
  refine gn_if_eq 15 (by decide) 11 rfl dX7_eats_8 (Nat.lt_of_lt_of_le (bt_lt (h.1 (tr i) 6) e) (by omega)) (fun c8 => ?_) (fun c8 => ?_)
  · refine g_iconst (v := 0) 16 rfl dX7_eats_15 (by decide) ?_
    refine g_iret .boolean dX7_eats_16 rfl (rfl) ?_
    refine ⟨congrArg (fun q => some (Value.int (nI q))) ?_, rfl⟩
    have := bt_01 (h.1 (tr i) 6) e
    first | (have q : bt (h.1 (tr i) 6) e = 0 := c8; omega) | (have q : ¬ bt (h.1 (tr i) 6) e = 0 := c8; omega)
  · refine g_iconst (v := 1) 12 rfl dX7_eats_11 (by decide) ?_
    refine g_goto 16 (by decide) dX7_eats_12 ?_
    refine g_iret .boolean dX7_eats_16 rfl (rfl) ?_
    refine ⟨congrArg (fun q => some (Value.int (nI q))) ?_, rfl⟩
    have := bt_01 (h.1 (tr i) 6) e
    first | (have q : bt (h.1 (tr i) 6) e = 0 := c8; omega) | (have q : ¬ bt (h.1 (tr i) 6) e = 0 := c8; omega)
theorem c_X7_hadBread {i e : Nat} (hi : i < 24) (hT : TI (h.1 (tr i))) (he : e < 32) : Rti V 1 yX7_hadBread cX7_hadBread 2 (some .boolean) [rf V (tb i), .int (nI e)] h (nI (bt (h.1 (tr i) 7) e)) h := by
  have h6 := hT.2.2.2.1
  refine Mt_in [some (rf V (tb i)), some (.int (nI e))] (own := RX7) rfl (by decide) (Nat.le_of_ble_eq_true rfl) (fun q hq => hq) ?_
  refine g_aload_n0 1 rfl dX7_hadBread_0 ?_
  refine gf_Table_fed 4 rfl (by omega) fl_RX7_40 dX7_hadBread_1 ?_
  refine g_iload_n1 5 rfl dX7_hadBread_4 ?_
  refine gn_ishr 6 rfl dX7_hadBread_5 (by omega) (by omega) ?_
  refine g_iconst (v := 1) 7 rfl dX7_hadBread_6 (by decide) ?_
  refine gn_iand 8 rfl dX7_hadBread_7 ?_
  refine gn_if_eq 15 (by decide) 11 rfl dX7_hadBread_8 (Nat.lt_of_lt_of_le (bt_lt (h.1 (tr i) 7) e) (by omega)) (fun c8 => ?_) (fun c8 => ?_)
  · refine g_iconst (v := 0) 16 rfl dX7_hadBread_15 (by decide) ?_
    refine g_iret .boolean dX7_hadBread_16 rfl (rfl) ?_
    refine ⟨congrArg (fun q => some (Value.int (nI q))) ?_, rfl⟩
    have := bt_01 (h.1 (tr i) 7) e
    first | (have q : bt (h.1 (tr i) 7) e = 0 := c8; omega) | (have q : ¬ bt (h.1 (tr i) 7) e = 0 := c8; omega)
  · refine g_iconst (v := 1) 12 rfl dX7_hadBread_11 (by decide) ?_
    refine g_goto 16 (by decide) dX7_hadBread_12 ?_
    refine g_iret .boolean dX7_hadBread_16 rfl (rfl) ?_
    refine ⟨congrArg (fun q => some (Value.int (nI q))) ?_, rfl⟩
    have := bt_01 (h.1 (tr i) 7) e
    first | (have q : bt (h.1 (tr i) 7) e = 0 := c8; omega) | (have q : ¬ bt (h.1 (tr i) 7) e = 0 := c8; omega)
theorem c_X7_isBound {i e : Nat} (hi : i < 24) (hT : TI (h.1 (tr i))) (he : e < 32) : Rti V 1 yX7_isBound cX7_isBound 2 (some .boolean) [rf V (tb i), .int (nI e)] h (nI (bt (h.1 (tr i) 8) e)) h := by
  have h6 := hT.2.2.2.2.1
  refine Mt_in [some (rf V (tb i)), some (.int (nI e))] (own := RX7) rfl (by decide) (Nat.le_of_ble_eq_true rfl) (fun q hq => hq) ?_
  refine g_aload_n0 1 rfl dX7_isBound_0 ?_
  refine gf_Table_bound 4 rfl (by omega) fl_RX7_43 dX7_isBound_1 ?_
  refine g_iload_n1 5 rfl dX7_isBound_4 ?_
  refine gn_ishr 6 rfl dX7_isBound_5 (by omega) (by omega) ?_
  refine g_iconst (v := 1) 7 rfl dX7_isBound_6 (by decide) ?_
  refine gn_iand 8 rfl dX7_isBound_7 ?_
  refine gn_if_eq 15 (by decide) 11 rfl dX7_isBound_8 (Nat.lt_of_lt_of_le (bt_lt (h.1 (tr i) 8) e) (by omega)) (fun c8 => ?_) (fun c8 => ?_)
  · refine g_iconst (v := 0) 16 rfl dX7_isBound_15 (by decide) ?_
    refine g_iret .boolean dX7_isBound_16 rfl (rfl) ?_
    refine ⟨congrArg (fun q => some (Value.int (nI q))) ?_, rfl⟩
    have := bt_01 (h.1 (tr i) 8) e
    first | (have q : bt (h.1 (tr i) 8) e = 0 := c8; omega) | (have q : ¬ bt (h.1 (tr i) 8) e = 0 := c8; omega)
  · refine g_iconst (v := 1) 12 rfl dX7_isBound_11 (by decide) ?_
    refine g_goto 16 (by decide) dX7_isBound_12 ?_
    refine g_iret .boolean dX7_isBound_16 rfl (rfl) ?_
    refine ⟨congrArg (fun q => some (Value.int (nI q))) ?_, rfl⟩
    have := bt_01 (h.1 (tr i) 8) e
    first | (have q : bt (h.1 (tr i) 8) e = 0 := c8; omega) | (have q : ¬ bt (h.1 (tr i) 8) e = 0 := c8; omega)
theorem c_X7_canBeSaid {i c : Nat} (hi : i < 24) (hx : XI h) (hc : c < 5) : Rti V 2 yX7_canBeSaid cX7_canBeSaid 2 (some .boolean) [rf V (tb i), .int (nI c)] h (nI (canB (h.1 3 3) (h.1 7) (h.1 (tr i)) c).toNat) h := by
  obtain ⟨hE, hC, x4, x5, x7, x8, hTT⟩ := hx
  have hT := hTT i
  have ho := x8 c
  have hq := x7 (3 * c + 1)
  have hq2 := x7 (3 * c)
  have h0 := hT.1
  refine Mt_in [some (rf V (tb i)), some (.int (nI c))] (own := RX7) rfl (by decide) (Nat.le_of_ble_eq_true rfl) (fun q hq => hq) ?_
  refine g_aload_n0 1 rfl dX7_canBeSaid_0 ?_
  refine gf_Table_rules 4 rfl (by omega) fl_RX7_15 dX7_canBeSaid_1 ?_
  refine g_iload_n1 5 rfl dX7_canBeSaid_4 ?_
  refine g_cv1i 8 rfl cw_RX7_49 dX7_canBeSaid_5 (c_X1_hasClause hC (by omega)) (by omega) (ob_3 V) (Nat.le_of_ble_eq_true rfl) ?_
  refine gn_if_eq 74 (by decide) 11 rfl dX7_canBeSaid_8 (by split <;> omega) (fun c8 => ?_) (fun c8 => ?_)
  · refine g_iconst (v := 0) 75 rfl dX7_canBeSaid_74 (by decide) ?_
    refine g_iret .boolean dX7_canBeSaid_75 rfl (rfl) ?_
    refine ⟨congrArg (fun q => some (Value.int (nI q))) ?_, rfl⟩
    grind [canB]
  · refine g_aload_n0 12 rfl dX7_canBeSaid_11 ?_
    refine g_iload_n1 13 rfl dX7_canBeSaid_12 ?_
    refine g_cv1i 16 rfl cw_RX7_53 dX7_canBeSaid_13 (c_X7_isBound hi hT (by omega)) (by omega) (ob_tb V (by omega)) (Nat.le_of_ble_eq_true rfl) ?_
    refine gn_if_ne 74 (by decide) 19 rfl dX7_canBeSaid_16 (Nat.lt_of_lt_of_le (bt_lt _ _) (by omega)) (fun c16 => ?_) (fun c16 => ?_)
    · refine g_iconst (v := 0) 75 rfl dX7_canBeSaid_74 (by decide) ?_
      refine g_iret .boolean dX7_canBeSaid_75 rfl (rfl) ?_
      refine ⟨congrArg (fun q => some (Value.int (nI q))) ?_, rfl⟩
      grind [canB]
    · refine g_aload_n0 20 rfl dX7_canBeSaid_19 ?_
      refine g_aload_n0 21 rfl dX7_canBeSaid_20 ?_
      refine gf_Table_rules 24 rfl (by omega) fl_RX7_15 dX7_canBeSaid_21 ?_
      refine gf_Rules_owner 27 rfl fl_RX7_56 dX7_canBeSaid_24 ?_
      refine g_iload_n1 28 rfl dX7_canBeSaid_27 ?_
      refine ga_9 29 rfl (by omega) dX7_canBeSaid_28 ?_
      refine g_cv1i 32 rfl cw_RX7_59 dX7_canBeSaid_29 (c_X7_eats hi hT (by omega)) (by omega) (ob_tb V (by omega)) (Nat.le_of_ble_eq_true rfl) ?_
      refine gn_if_eq 74 (by decide) 35 rfl dX7_canBeSaid_32 (Nat.lt_of_lt_of_le (bt_lt _ _) (by omega)) (fun c32 => ?_) (fun c32 => ?_)
      · refine g_iconst (v := 0) 75 rfl dX7_canBeSaid_74 (by decide) ?_
        refine g_iret .boolean dX7_canBeSaid_75 rfl (rfl) ?_
        refine ⟨congrArg (fun q => some (Value.int (nI q))) ?_, rfl⟩
        grind [canB]
      · refine g_aload_n0 36 rfl dX7_canBeSaid_35 ?_
        refine gf_Table_heat 39 rfl (by omega) fl_RX7_25 dX7_canBeSaid_36 ?_
        refine g_aload_n0 40 rfl dX7_canBeSaid_39 ?_
        refine gf_Table_rules 43 rfl (by omega) fl_RX7_15 dX7_canBeSaid_40 ?_
        refine gf_Rules_heatNeeded 46 rfl fl_RX7_62 dX7_canBeSaid_43 ?_
        refine g_iload_n1 47 rfl dX7_canBeSaid_46 ?_
        refine ga_8 48 rfl (by omega) dX7_canBeSaid_47 ?_
        refine gn_icmp_lt 74 (by decide) 51 rfl dX7_canBeSaid_48 (by omega) (by omega) (fun c48 => ?_) (fun c48 => ?_)
        · refine g_iconst (v := 0) 75 rfl dX7_canBeSaid_74 (by decide) ?_
          refine g_iret .boolean dX7_canBeSaid_75 rfl (rfl) ?_
          refine ⟨congrArg (fun q => some (Value.int (nI q))) ?_, rfl⟩
          grind [canB]
        · refine g_aload_n0 52 rfl dX7_canBeSaid_51 ?_
          refine gf_Table_rules 55 rfl (by omega) fl_RX7_15 dX7_canBeSaid_52 ?_
          refine gf_Rules_words 58 rfl fl_RX7_65 dX7_canBeSaid_55 ?_
          refine g_iload_n1 59 rfl dX7_canBeSaid_58 ?_
          refine ga_7 60 rfl (by omega) dX7_canBeSaid_59 ?_
          refine g_aload_n0 61 rfl dX7_canBeSaid_60 ?_
          refine gf_Table_heat 64 rfl (by omega) fl_RX7_25 dX7_canBeSaid_61 ?_
          refine g_cs1i 67 rfl cw_RX7_68 dX7_canBeSaid_64 (c_X1_wordsAt h0) (by omega) (Nat.le_of_ble_eq_true rfl) ?_
          refine gn_icmp_gt 74 (by decide) 70 rfl dX7_canBeSaid_67 (by omega) (by omega) (fun c67 => ?_) (fun c67 => ?_)
          · refine g_iconst (v := 0) 75 rfl dX7_canBeSaid_74 (by decide) ?_
            refine g_iret .boolean dX7_canBeSaid_75 rfl (rfl) ?_
            refine ⟨congrArg (fun q => some (Value.int (nI q))) ?_, rfl⟩
            grind [canB]
          · refine g_iconst (v := 1) 71 rfl dX7_canBeSaid_70 (by decide) ?_
            refine g_goto 75 (by decide) dX7_canBeSaid_71 ?_
            refine g_iret .boolean dX7_canBeSaid_75 rfl (rfl) ?_
            refine ⟨congrArg (fun q => some (Value.int (nI q))) ?_, rfl⟩
            grind [canB]
theorem c_X7_sayable {i : Nat} (hi : i < 24) (hx : XI h) : Rti V 3 yX7_sayable cX7_sayable 3 (some .int) [rf V (tb i)] h (nI (sayB (h.1 3 3) (h.1 7) (h.1 (tr i)) (h.1 3 3))) h := by
  have hC := hx.2.1
  refine Mt_in [some (rf V (tb i)), none, none] (own := RX7) rfl (by decide) (Nat.le_of_ble_eq_true rfl) (fun q hq => hq) ?_
  refine g_iconst (v := 0) 1 rfl dX7_sayable_0 (by decide) ?_
  refine g_istore_n1 2 rfl dX7_sayable_1 (by decide) rfl ?_
  refine g_iconst (v := 0) 3 rfl dX7_sayable_2 (by decide) ?_
  refine g_istore_n2 4 rfl dX7_sayable_3 (by decide) rfl ?_
  skip
  refine loop_up (P := fun c => G V T0 3 RX7 cX7_sayable 3 (some .int) 4 [some (rf V (tb i)), some (.int (nI (sayB (h.1 3 3) (h.1 7) (h.1 (tr i)) c))), some (.int (nI c))] [] h _) (n := h.1 3 3) ?_ (fun c hc ih => ?_) 0 (Nat.zero_le _)
  · refine g_iload_n2 5 rfl dX7_sayable_4 ?_
    refine g_aload_n0 6 rfl dX7_sayable_5 ?_
    refine gf_Table_rules 9 rfl (by omega) fl_RX7_15 dX7_sayable_6 ?_
    refine gf_Rules_clauses 12 rfl fl_RX7_72 dX7_sayable_9 ?_
    refine gn_icmp_ge 35 (by decide) 15 rfl dX7_sayable_12 (by omega) (by omega) (fun c12 => ?_) (fun c12 => absurd c12 (Nat.lt_irrefl _))
    refine g_iload_n1 36 rfl dX7_sayable_35 ?_
    refine g_iret .int dX7_sayable_36 rfl (rfl) ?_
    exact ⟨rfl, rfl⟩
  · refine g_iload_n2 5 rfl dX7_sayable_4 ?_
    refine g_aload_n0 6 rfl dX7_sayable_5 ?_
    refine gf_Table_rules 9 rfl (by omega) fl_RX7_15 dX7_sayable_6 ?_
    refine gf_Rules_clauses 12 rfl fl_RX7_72 dX7_sayable_9 ?_
    refine gn_icmp_ge 35 (by decide) 15 rfl dX7_sayable_12 (by omega) (by omega) (fun c12 => absurd c12 (Nat.not_le_of_lt hc)) (fun c12 => ?_)
    refine g_aload_n0 16 rfl dX7_sayable_15 ?_
    refine g_iload_n2 17 rfl dX7_sayable_16 ?_
    refine g_cv1i 20 rfl cw_RX7_75 dX7_sayable_17 (c_X7_canBeSaid hi hx (by omega)) (by omega) (ob_tb V (by omega)) (Nat.le_of_ble_eq_true rfl) ?_
    refine gn_if_eq 29 (by decide) 23 rfl dX7_sayable_20 (Nat.lt_of_lt_of_le (Bool.toNat_lt _) (by omega)) (fun c20 => ?_) (fun c20 => ?_)
    · refine gn_iinc2 1 32 rfl dX7_sayable_29 rfl (by decide) rfl ?_
      refine g_goto 4 (by decide) dX7_sayable_32 ?_
      first | (rw [show sayB _ _ _ (c + 1) = _ from if_neg (by simpa using c20)] at ih; exact ih) | (rw [show sayB _ _ _ (c + 1) = _ from if_pos (by simpa using c20)] at ih; exact ih)
    · refine g_iload_n1 24 rfl dX7_sayable_23 ?_
      refine g_iconst (v := 1) 25 rfl dX7_sayable_24 (by decide) ?_
      refine g_iload_n2 26 rfl dX7_sayable_25 ?_
      refine gn_ishl 27 rfl dX7_sayable_26 (by omega) ?_
      refine gn_ior 28 rfl dX7_sayable_27 ?_
      refine g_istore_n1 29 rfl dX7_sayable_28 (by decide) rfl ?_
      refine gn_iinc2 1 32 rfl dX7_sayable_29 rfl (by decide) rfl ?_
      refine g_goto 4 (by decide) dX7_sayable_32 ?_
      first | (rw [show sayB _ _ _ (c + 1) = _ from if_neg (by simpa using c20)] at ih; exact ih) | (rw [show sayB _ _ _ (c + 1) = _ from if_pos (by simpa using c20)] at ih; exact ih)
theorem c_X7_bind {i c : Nat} (hi : i < 24) (hc : c < 5) : Rtv V 1 yX7_bind cX7_bind 2 none [rf V (tb i), .int (nI c)] h (sR h (tr i) (bindR (h.1 (tr i)) c)) := by
  refine Mt_in [some (rf V (tb i)), some (.int (nI c))] (own := RX7) rfl (by decide) (Nat.le_of_ble_eq_true rfl) (fun q hq => hq) ?_
  refine g_aload_n0 1 rfl dX7_bind_0 ?_
  refine g_dup 2 rfl dX7_bind_1 rfl ?_
  refine gf_Table_bound 5 rfl (by omega) fl_RX7_43 dX7_bind_2 ?_
  refine g_iconst (v := 1) 6 rfl dX7_bind_5 (by decide) ?_
  refine g_iload_n1 7 rfl dX7_bind_6 ?_
  refine gn_ishl 8 rfl dX7_bind_7 (by omega) ?_
  refine gn_ior 9 rfl dX7_bind_8 ?_
  refine gp_Table_bound 12 rfl (by omega) fl_RX7_43 dX7_bind_9 ?_
  refine g_vret dX7_bind_12 rfl ?_
  exact ⟨rfl, rfl⟩
theorem c_X7_putSeed {i : Nat} (hi : i < 24) (hT : TI (h.1 (tr i))) : Rtv V 1 yX7_putSeed cX7_putSeed 1 none [rf V (tb i)] h (sR h (tr i) (seedR (h.1 (tr i)))) := by
  have h0 := hT.1
  refine Mt_in [some (rf V (tb i))] (own := RX7) rfl (by decide) (Nat.le_of_ble_eq_true rfl) (fun q hq => hq) ?_
  refine g_aload_n0 1 rfl dX7_putSeed_0 ?_
  refine g_dup 2 rfl dX7_putSeed_1 rfl ?_
  refine gf_Table_store 5 rfl (by omega) fl_RX7_31 dX7_putSeed_2 ?_
  refine g_iconst (v := 1) 6 rfl dX7_putSeed_5 (by decide) ?_
  refine g_isub 7 rfl dX7_putSeed_6  ?_
  rw [dec1_nI]
  refine gp_Table_store 10 rfl (by omega) fl_RX7_31 dX7_putSeed_7 ?_
  refine g_aload_n0 11 rfl dX7_putSeed_10 ?_
  refine g_bipush (v := 9) 13 rfl dX7_putSeed_11 (by decide) ?_
  refine g_aload_n0 14 rfl dX7_putSeed_13 ?_
  refine gf_Table_heat 17 rfl (by omega) fl_RX7_25 dX7_putSeed_14 ?_
  rw [sR_s, up_n (by omega)]
  refine g_iconst (v := 2) 18 rfl dX7_putSeed_17 (by decide) ?_
  refine gn_iadd 19 rfl dX7_putSeed_18 ?_
  refine gn_min 22 rfl ml_RX7_90 dX7_putSeed_19 (by omega) (by omega) (by decide) (Nat.le_of_ble_eq_true rfl) ?_
  refine gp_Table_heat 25 rfl (by omega) fl_RX7_25 dX7_putSeed_22 ?_
  refine g_vret dX7_putSeed_25 rfl ?_
  exact ⟨rfl, by rw [sR_sR, sR_s]; rfl⟩
theorem c_X7_takeBread {i e : Nat} (hi : i < 24) (hT : TI (h.1 (tr i))) (he : e < 4) : Rtv V 1 yX7_takeBread cX7_takeBread 2 none [rf V (tb i), .int (nI e)] h (sR h (tr i) (breadR (h.1 (tr i)) e)) := by
  have h0 := (hT.2.2.2.2.2.1 e he).1
  refine Mt_in [some (rf V (tb i)), some (.int (nI e))] (own := RX7) rfl (by decide) (Nat.le_of_ble_eq_true rfl) (fun q hq => hq) ?_
  refine g_aload_n0 1 rfl dX7_takeBread_0 ?_
  refine gf_Table_tears 4 rfl (by omega) fl_RX7_9 dX7_takeBread_1 ?_
  refine g_iload_n1 5 rfl dX7_takeBread_4 ?_
  refine g_iconst (v := 0) 6 rfl dX7_takeBread_5 (by decide) ?_
  refine g_aload_n0 7 rfl dX7_takeBread_6 ?_
  refine gf_Table_tears 10 rfl (by omega) fl_RX7_9 dX7_takeBread_7 ?_
  refine g_iload_n1 11 rfl dX7_takeBread_10 ?_
  refine ga_tt 12 rfl (by omega) (by omega) dX7_takeBread_11 ?_
  refine g_iconst (v := 3) 13 rfl dX7_takeBread_12 (by decide) ?_
  refine g_isub 14 rfl dX7_takeBread_13  ?_
  refine g_max 17 rfl ml_RX7_85 dX7_takeBread_14 (by decide) (Nat.le_of_ble_eq_true rfl) ?_
  rw [fx_sub0 (by omega) (by omega)]
  refine gs_tt 18 rfl (by omega) (by omega) dX7_takeBread_17 ?_
  refine g_aload_n0 19 rfl dX7_takeBread_18 ?_
  refine g_dup 20 rfl dX7_takeBread_19 rfl ?_
  refine gf_Table_fed 23 rfl (by omega) fl_RX7_40 dX7_takeBread_20 ?_
  rw [sR_s, up_n (by omega)]
  refine g_iconst (v := 1) 24 rfl dX7_takeBread_23 (by decide) ?_
  refine g_iload_n1 25 rfl dX7_takeBread_24 ?_
  refine gn_ishl 26 rfl dX7_takeBread_25 (by omega) ?_
  refine gn_ior 27 rfl dX7_takeBread_26 ?_
  refine gp_Table_fed 30 rfl (by omega) fl_RX7_40 dX7_takeBread_27 ?_
  refine g_vret dX7_takeBread_30 rfl ?_
  exact ⟨rfl, by rw [sR_sR, sR_s]; rfl⟩
theorem c_X7_takeBite {i : Nat} (hi : i < 24) (hx : XI h) : Rtv V 3 yX7_takeBite cX7_takeBite 2 none [rf V (tb i)] h (sR h (tr i) (bite (h.1 4) (h.1 3 2) (h.1 (tr i)))) := by
  obtain ⟨hE, hC, x4, x5, x7, x8, hTT⟩ := id hx
  have hT := hTT i
  refine Mt_in [some (rf V (tb i)), none] (own := RX7) rfl (by decide) (Nat.le_of_ble_eq_true rfl) (fun q hq => hq) ?_
  refine g_iconst (v := 0) 1 rfl dX7_takeBite_0 (by decide) ?_
  refine g_istore_n1 2 rfl dX7_takeBite_1 (by decide) rfl ?_
  skip
  refine g_heap (sR_same h (tr i)).symm ?_
  refine loop_up (P := fun e => G V T0 3 RX7 cX7_takeBite 2 none 2 [some (rf V (tb i)), some (.int (nI e))] [] (sR h (tr i) (biteN (h.1 4) (h.1 (tr i)) e)) _) (n := h.1 3 2) ?_ (fun e he ih => ?_) 0 (Nat.zero_le _)
  · have hN := TI_biteN hT x4 (h.1 3 2) hE
    have h0 := hN.1
    refine g_iload_n1 3 rfl dX7_takeBite_2 ?_
    refine g_aload_n0 4 rfl dX7_takeBite_3 ?_
    refine gf_Table_rules 7 rfl (by omega) fl_RX7_15 dX7_takeBite_4 ?_
    refine gf_Rules_envoys 10 rfl fl_RX7_34 dX7_takeBite_7 ?_
    rw [sR_t3]
    refine gn_icmp_ge 79 (by decide) 13 rfl dX7_takeBite_10 (by omega) (by omega) (fun c10 => ?_) (fun c10 => absurd c10 (Nat.lt_irrefl _))
    refine g_aload_n0 80 rfl dX7_takeBite_79 ?_
    refine g_iconst (v := 0) 81 rfl dX7_takeBite_80 (by decide) ?_
    refine g_aload_n0 82 rfl dX7_takeBite_81 ?_
    refine gf_Table_heat 85 rfl (by omega) fl_RX7_25 dX7_takeBite_82 ?_
    rw [sR_s]
    refine g_iconst (v := 1) 86 rfl dX7_takeBite_85 (by decide) ?_
    refine g_isub 87 rfl dX7_takeBite_86  ?_
    refine g_max 90 rfl ml_RX7_85 dX7_takeBite_87 (by decide) (Nat.le_of_ble_eq_true rfl) ?_
    rw [fx_sub0 (by omega) (by omega)]
    refine gp_Table_heat 93 rfl (by omega) fl_RX7_25 dX7_takeBite_90 ?_
    refine g_aload_n0 94 rfl dX7_takeBite_93 ?_
    refine g_dup 95 rfl dX7_takeBite_94 rfl ?_
    refine gf_Table_bites 98 rfl (by omega) fl_RX7_46 dX7_takeBite_95 ?_
    rw [sR_s, sR_s, up_n (by omega)]
    refine g_iconst (v := 1) 99 rfl dX7_takeBite_98 (by decide) ?_
    refine gn_iadd 100 rfl dX7_takeBite_99 ?_
    refine gp_Table_bites 103 rfl (by omega) fl_RX7_46 dX7_takeBite_100 ?_
    refine g_vret dX7_takeBite_103 rfl ?_
    exact ⟨rfl, by simp only [sR_s, sR_sR]; rfl⟩
  · have hN := TI_biteN hT x4 e (by omega)
    have hX := XI_tr hx (i := i) hN
    change G V T0 3 RX7 cX7_takeBite 2 none 2 _ [] (sR h (tr i) (bite1 (h.1 4) e (biteN (h.1 4) (h.1 (tr i)) e))) _ at ih
    generalize biteN (h.1 4) (h.1 (tr i)) e = T at hN hX ih ⊢
    have hp := pain_le (k := h.1 4 (3 * e + 2)) (p := h.1 4 (3 * e)) hN.1
    have ht := (hN.2.2.2.2.2.1 e (by omega)).1
    have hw := x4 (3 * e + 1)
    have h6 := hN.2.2.1
    refine g_iload_n1 3 rfl dX7_takeBite_2 ?_
    refine g_aload_n0 4 rfl dX7_takeBite_3 ?_
    refine gf_Table_rules 7 rfl (by omega) fl_RX7_15 dX7_takeBite_4 ?_
    refine gf_Rules_envoys 10 rfl fl_RX7_34 dX7_takeBite_7 ?_
    rw [sR_t3]
    refine gn_icmp_ge 79 (by decide) 13 rfl dX7_takeBite_10 (by omega) (by omega) (fun c10 => absurd c10 (Nat.not_le_of_lt he)) (fun c10 => ?_)
    refine g_aload_n0 14 rfl dX7_takeBite_13 ?_
    refine g_iload_n1 15 rfl dX7_takeBite_14 ?_
    refine g_cv1i 18 rfl cw_RX7_59 dX7_takeBite_15 (c_X7_eats hi (by rw [sR_s]; exact hN) (by omega)) (by omega) (ob_tb V (by omega)) (Nat.le_of_ble_eq_true rfl) ?_
    rw [sR_s]
    refine gn_if_eq 73 (by decide) 21 rfl dX7_takeBite_18 (Nat.lt_of_lt_of_le (bt_lt _ _) (by omega)) (fun c18 => ?_) (fun c18 => ?_)
    · try rw [sR_s, sR_sR]
      refine gn_iinc1 1 76 rfl dX7_takeBite_73 rfl (by decide) rfl ?_
      refine g_goto 2 (by decide) dX7_takeBite_76 ?_
      first | (rw [show bite1 (h.1 4) e T = T from if_pos c18] at ih; exact ih) | (rw [show bite1 (h.1 4) e T = _ from (if_neg c18).trans (if_pos c56)] at ih; exact ih) | (rw [show bite1 (h.1 4) e T = _ from (if_neg c18).trans (if_neg (Nat.not_lt.mpr c56))] at ih; exact ih)
    · refine g_aload_n0 22 rfl dX7_takeBite_21 ?_
      refine gf_Table_tears 25 rfl (by omega) fl_RX7_9 dX7_takeBite_22 ?_
      refine g_iload_n1 26 rfl dX7_takeBite_25 ?_
      refine g_dup2 27 rfl dX7_takeBite_26 rfl rfl ?_
      refine ga_tt 28 rfl (by omega) (by omega) dX7_takeBite_27 ?_
      rw [sR_s]
      refine g_aload_n0 29 rfl dX7_takeBite_28 ?_
      refine gf_Table_rules 32 rfl (by omega) fl_RX7_15 dX7_takeBite_29 ?_
      refine g_iload_n1 33 rfl dX7_takeBite_32 ?_
      refine g_aload_n0 34 rfl dX7_takeBite_33 ?_
      refine gf_Table_heat 37 rfl (by omega) fl_RX7_25 dX7_takeBite_34 ?_
      rw [sR_s]
      refine g_cv2i 40 rfl cw_RX7_78 dX7_takeBite_37 (c_X1_pain (by omega) (by rw [sR_t4]; exact x5 e) (by rw [sR_t4]; exact x4 _) hN.1) (by omega) (ob_3 V) (Nat.le_of_ble_eq_true rfl) ?_
      rw [sR_t4]
      refine gn_iadd 41 rfl dX7_takeBite_40 ?_
      refine gs_tt 42 rfl (by omega) (by omega) dX7_takeBite_41 ?_
      rw [sR_s, sR_sR]
      refine g_aload_n0 43 rfl dX7_takeBite_42 ?_
      refine gf_Table_tears 46 rfl (by omega) fl_RX7_9 dX7_takeBite_43 ?_
      refine g_iload_n1 47 rfl dX7_takeBite_46 ?_
      refine ga_tt 48 rfl (by omega) (by omega) dX7_takeBite_47 ?_
      rw [sR_s, up_s]
      refine g_aload_n0 49 rfl dX7_takeBite_48 ?_
      refine gf_Table_rules 52 rfl (by omega) fl_RX7_15 dX7_takeBite_49 ?_
      refine g_iload_n1 53 rfl dX7_takeBite_52 ?_
      refine g_cv1i 56 rfl cw_RX7_82 dX7_takeBite_53 (c_X1_tearsToStop (by omega)) (by omega) (ob_3 V) (Nat.le_of_ble_eq_true rfl) ?_
      rw [sR_t4]
      refine gn_icmp_lt 73 (by decide) 59 rfl dX7_takeBite_56 (by omega) (by omega) (fun c56 => ?_) (fun c56 => ?_)
      · try rw [sR_s, sR_sR]
        refine gn_iinc1 1 76 rfl dX7_takeBite_73 rfl (by decide) rfl ?_
        refine g_goto 2 (by decide) dX7_takeBite_76 ?_
        first | (rw [show bite1 (h.1 4) e T = T from if_pos c18] at ih; exact ih) | (rw [show bite1 (h.1 4) e T = _ from (if_neg c18).trans (if_pos c56)] at ih; exact ih) | (rw [show bite1 (h.1 4) e T = _ from (if_neg c18).trans (if_neg (Nat.not_lt.mpr c56))] at ih; exact ih)
      · refine g_aload_n0 60 rfl dX7_takeBite_59 ?_
        refine g_dup 61 rfl dX7_takeBite_60 rfl ?_
        refine gf_Table_eating 64 rfl (by omega) fl_RX7_37 dX7_takeBite_61 ?_
        rw [sR_s, up_n (by omega)]
        refine g_iconst (v := 1) 65 rfl dX7_takeBite_64 (by decide) ?_
        refine g_iload_n1 66 rfl dX7_takeBite_65 ?_
        refine gn_ishl 67 rfl dX7_takeBite_66 (by omega) ?_
        refine g_iconst (v := 4294967295) 68 rfl dX7_takeBite_67 (by decide) ?_
        refine gn_ixor 69 rfl dX7_takeBite_68 ?_
        refine gn_iand 70 rfl dX7_takeBite_69 ?_
        refine gp_Table_eating 73 rfl (by omega) fl_RX7_37 dX7_takeBite_70 ?_
        try rw [sR_s, sR_sR]
        refine gn_iinc1 1 76 rfl dX7_takeBite_73 rfl (by decide) rfl ?_
        refine g_goto 2 (by decide) dX7_takeBite_76 ?_
        first | (rw [show bite1 (h.1 4) e T = T from if_pos c18] at ih; exact ih) | (rw [show bite1 (h.1 4) e T = _ from (if_neg c18).trans (if_pos c56)] at ih; exact ih) | (rw [show bite1 (h.1 4) e T = _ from (if_neg c18).trans (if_neg (Nat.not_lt.mpr c56))] at ih; exact ih)
def layR (H S n : Nat) : Nat → Nat := fun o => if o = 0 then H else if o = 1 then S else if o = 6 then 1 * 2 ^ n - 1 else 0
theorem c_X7_layAnew {i : Nat} (hi : i < 24) (hx : XI h) : Rtv V 1 yX7_layAnew cX7_layAnew 2 none [rf V (tb i)] h (sR h (tr i) (layR (h.1 3 0) (h.1 3 1) (h.1 3 2))) := by
  obtain ⟨hE, hC, x4, x5, x7, x8, hTT⟩ := id hx
  have hT := hTT i
  refine Mt_in [some (rf V (tb i)), none] (own := RX7) rfl (by decide) (Nat.le_of_ble_eq_true rfl) (fun q hq => hq) ?_
  refine g_aload_n0 1 rfl dX7_layAnew_0 ?_
  refine g_aload_n0 2 rfl dX7_layAnew_1 ?_
  refine gf_Table_rules 5 rfl (by omega) fl_RX7_15 dX7_layAnew_2 ?_
  refine gf_Rules_heatAtFirst 8 rfl fl_RX7_19 dX7_layAnew_5 ?_
  refine gp_Table_heat 11 rfl (by omega) fl_RX7_25 dX7_layAnew_8 ?_
  refine g_aload_n0 12 rfl dX7_layAnew_11 ?_
  refine g_aload_n0 13 rfl dX7_layAnew_12 ?_
  refine gf_Table_rules 16 rfl (by omega) fl_RX7_15 dX7_layAnew_13 ?_
  refine gf_Rules_storeAtFirst 19 rfl fl_RX7_28 dX7_layAnew_16 ?_
  rw [sR_t3]
  refine gp_Table_store 22 rfl (by omega) fl_RX7_31 dX7_layAnew_19 ?_
  rw [sR_sR, sR_s]
  refine g_aload_n0 23 rfl dX7_layAnew_22 ?_
  refine g_iconst (v := 1) 24 rfl dX7_layAnew_23 (by decide) ?_
  refine g_aload_n0 25 rfl dX7_layAnew_24 ?_
  refine gf_Table_rules 28 rfl (by omega) fl_RX7_15 dX7_layAnew_25 ?_
  refine gf_Rules_envoys 31 rfl fl_RX7_34 dX7_layAnew_28 ?_
  rw [sR_t3]
  refine gn_ishl 32 rfl dX7_layAnew_31 (by omega) ?_
  refine g_iconst (v := 1) 33 rfl dX7_layAnew_32 (by decide) ?_
  refine gn_isub 34 rfl dX7_layAnew_33 (by have := Nat.two_pow_pos (h.1 3 2); omega) ?_
  refine gp_Table_eating 37 rfl (by omega) fl_RX7_37 dX7_layAnew_34 ?_
  rw [sR_sR, sR_s]
  refine g_aload_n0 38 rfl dX7_layAnew_37 ?_
  refine g_iconst (v := 0) 39 rfl dX7_layAnew_38 (by decide) ?_
  refine gp_Table_fed 42 rfl (by omega) fl_RX7_40 dX7_layAnew_39 ?_
  rw [sR_sR, sR_s]
  refine g_aload_n0 43 rfl dX7_layAnew_42 ?_
  refine g_iconst (v := 0) 44 rfl dX7_layAnew_43 (by decide) ?_
  refine gp_Table_bound 47 rfl (by omega) fl_RX7_43 dX7_layAnew_44 ?_
  rw [sR_sR, sR_s]
  refine g_aload_n0 48 rfl dX7_layAnew_47 ?_
  refine g_iconst (v := 0) 49 rfl dX7_layAnew_48 (by decide) ?_
  refine gp_Table_bites 52 rfl (by omega) fl_RX7_46 dX7_layAnew_49 ?_
  rw [sR_sR, sR_s]
  refine g_iconst (v := 0) 53 rfl dX7_layAnew_52 (by decide) ?_
  refine g_istore_n1 54 rfl dX7_layAnew_53 (by decide) rfl ?_
  skip
  generalize hF : up (up (up (up (up (up (h.1 (tr i)) 0 (h.1 3 0)) 1 (h.1 3 1)) 6 (1 * 2 ^ h.1 3 2 - 1)) 7 0) 8 0) 9 0 = F
  refine g_heap (show sR h (tr i) F = sR h (tr i) (fun o => if 2 ≤ o ∧ o < 2 + 0 then 0 else F o) from congrArg (sR h (tr i)) (funext fun o => (if_neg (by omega)).symm)) ?_
  refine loop_up (P := fun e => G V T0 1 RX7 cX7_layAnew 2 none 54 [some (rf V (tb i)), some (.int (nI e))] [] (sR h (tr i) (fun o => if 2 ≤ o ∧ o < 2 + e then 0 else F o)) _) (n := 4) ?_ (fun e he ih => ?_) 0 (Nat.zero_le _)
  · refine g_iload_n1 55 rfl dX7_layAnew_54 ?_
    refine g_iconst (v := 4) 56 rfl dX7_layAnew_55 (by decide) ?_
    refine gn_icmp_ge 72 (by decide) 59 rfl dX7_layAnew_56 (by omega) (by omega) (fun c56 => ?_) (fun c56 => absurd c56 (by omega))
    refine g_vret dX7_layAnew_72 rfl ?_
    refine ⟨rfl, congrArg (sR h (tr i)) (funext fun o => ?_)⟩
    subst hF
    have hz := hT.2.2.2.2.2.2 o
    simp only [layR, up]
    grind
  · refine g_iload_n1 55 rfl dX7_layAnew_54 ?_
    refine g_iconst (v := 4) 56 rfl dX7_layAnew_55 (by decide) ?_
    refine gn_icmp_ge 72 (by decide) 59 rfl dX7_layAnew_56 (by omega) (by omega) (fun c56 => absurd c56 (by omega)) (fun c56 => ?_)
    refine g_aload_n0 60 rfl dX7_layAnew_59 ?_
    refine gf_Table_tears 63 rfl (by omega) fl_RX7_9 dX7_layAnew_60 ?_
    refine g_iload_n1 64 rfl dX7_layAnew_63 ?_
    refine g_iconst (v := 0) 65 rfl dX7_layAnew_64 (by decide) ?_
    refine gs_tt 66 rfl (by omega) (by omega) dX7_layAnew_65 ?_
    refine gn_iinc1 1 69 rfl dX7_layAnew_66 rfl (by decide) rfl ?_
    refine g_goto 54 (by decide) dX7_layAnew_69 ?_
    rw [sR_s, sR_sR]
    refine g_heap (congrArg (sR h (tr i)) (funext fun o => ?_)) ih
    simp only [up]
    grind
theorem c_X7_copyFrom {i b : Nat} (hi : i < 24) (hb : b < 24) (hne : b ≠ i) (hx : XI h) : Rtv V 1 yX7_copyFrom cX7_copyFrom 3 none [rf V (tb i), rf V (tb b)] h (sR h (tr i) (h.1 (tr b))) := by
  obtain ⟨hE, hC, x4, x5, x7, x8, hTT⟩ := id hx
  have hT := hTT i
  have hB := hTT b
  have hr : ∀ f, (sR h (tr i) f).1 (tr b) = h.1 (tr b) := fun f => sR_n (tr_ne hne)
  refine Mt_in [some (rf V (tb i)), some (rf V (tb b)), none] (own := RX7) rfl (by decide) (Nat.le_of_ble_eq_true rfl) (fun q hq => hq) ?_
  refine g_aload_n0 1 rfl dX7_copyFrom_0 ?_
  refine g_aload_n1 2 rfl dX7_copyFrom_1 ?_
  refine gf_Table_heat 5 rfl (by omega) fl_RX7_25 dX7_copyFrom_2 ?_
  refine gp_Table_heat 8 rfl (by omega) fl_RX7_25 dX7_copyFrom_5 ?_
  refine g_aload_n0 9 rfl dX7_copyFrom_8 ?_
  refine g_aload_n1 10 rfl dX7_copyFrom_9 ?_
  refine gf_Table_store 13 rfl (by omega) fl_RX7_31 dX7_copyFrom_10 ?_
  rw [hr]
  refine gp_Table_store 16 rfl (by omega) fl_RX7_31 dX7_copyFrom_13 ?_
  try rw [sR_sR, sR_s]
  refine g_aload_n0 17 rfl dX7_copyFrom_16 ?_
  refine g_aload_n1 18 rfl dX7_copyFrom_17 ?_
  refine gf_Table_eating 21 rfl (by omega) fl_RX7_37 dX7_copyFrom_18 ?_
  rw [hr]
  refine gp_Table_eating 24 rfl (by omega) fl_RX7_37 dX7_copyFrom_21 ?_
  try rw [sR_sR, sR_s]
  refine g_aload_n0 25 rfl dX7_copyFrom_24 ?_
  refine g_aload_n1 26 rfl dX7_copyFrom_25 ?_
  refine gf_Table_fed 29 rfl (by omega) fl_RX7_40 dX7_copyFrom_26 ?_
  rw [hr]
  refine gp_Table_fed 32 rfl (by omega) fl_RX7_40 dX7_copyFrom_29 ?_
  try rw [sR_sR, sR_s]
  refine g_aload_n0 33 rfl dX7_copyFrom_32 ?_
  refine g_aload_n1 34 rfl dX7_copyFrom_33 ?_
  refine gf_Table_bound 37 rfl (by omega) fl_RX7_43 dX7_copyFrom_34 ?_
  rw [hr]
  refine gp_Table_bound 40 rfl (by omega) fl_RX7_43 dX7_copyFrom_37 ?_
  try rw [sR_sR, sR_s]
  refine g_aload_n0 41 rfl dX7_copyFrom_40 ?_
  refine g_aload_n1 42 rfl dX7_copyFrom_41 ?_
  refine gf_Table_bites 45 rfl (by omega) fl_RX7_46 dX7_copyFrom_42 ?_
  rw [hr]
  refine gp_Table_bites 48 rfl (by omega) fl_RX7_46 dX7_copyFrom_45 ?_
  try rw [sR_sR, sR_s]
  refine g_iconst (v := 0) 49 rfl dX7_copyFrom_48 (by decide) ?_
  refine g_istore_n2 50 rfl dX7_copyFrom_49 (by decide) rfl ?_
  skip
  generalize hF : up (up (up (up (up (up (h.1 (tr i)) 0 (h.1 (tr b) 0)) 1 (h.1 (tr b) 1)) 6 (h.1 (tr b) 6)) 7 (h.1 (tr b) 7)) 8 (h.1 (tr b) 8)) 9 (h.1 (tr b) 9) = F
  refine g_heap (show sR h (tr i) F = sR h (tr i) (fun o => if 2 ≤ o ∧ o < 2 + 0 then h.1 (tr b) o else F o) from congrArg (sR h (tr i)) (funext fun o => (if_neg (by omega)).symm)) ?_
  refine loop_up (P := fun e => G V T0 1 RX7 cX7_copyFrom 3 none 50 [some (rf V (tb i)), some (rf V (tb b)), some (.int (nI e))] [] (sR h (tr i) (fun o => if 2 ≤ o ∧ o < 2 + e then h.1 (tr b) o else F o)) _) (n := 4) ?_ (fun e he ih => ?_) 0 (Nat.zero_le _)
  · refine g_iload_n2 51 rfl dX7_copyFrom_50 ?_
    refine g_iconst (v := 4) 52 rfl dX7_copyFrom_51 (by decide) ?_
    refine gn_icmp_ge 73 (by decide) 55 rfl dX7_copyFrom_52 (by omega) (by omega) (fun c52 => ?_) (fun c52 => absurd c52 (by omega))
    refine g_vret dX7_copyFrom_73 rfl ?_
    refine ⟨rfl, congrArg (sR h (tr i)) (funext fun o => ?_)⟩
    subst hF
    have hz := hT.2.2.2.2.2.2 o
    have hz2 := hB.2.2.2.2.2.2 o
    simp only [up]
    grind
  · refine g_iload_n2 51 rfl dX7_copyFrom_50 ?_
    refine g_iconst (v := 4) 52 rfl dX7_copyFrom_51 (by decide) ?_
    refine gn_icmp_ge 73 (by decide) 55 rfl dX7_copyFrom_52 (by omega) (by omega) (fun c52 => absurd c52 (by omega)) (fun c52 => ?_)
    refine g_aload_n0 56 rfl dX7_copyFrom_55 ?_
    refine gf_Table_tears 59 rfl (by omega) fl_RX7_9 dX7_copyFrom_56 ?_
    refine g_iload_n2 60 rfl dX7_copyFrom_59 ?_
    refine g_aload_n1 61 rfl dX7_copyFrom_60 ?_
    refine gf_Table_tears 64 rfl (by omega) fl_RX7_9 dX7_copyFrom_61 ?_
    refine g_iload_n2 65 rfl dX7_copyFrom_64 ?_
    refine ga_tt 66 rfl (by omega) (by omega) dX7_copyFrom_65 ?_
    rw [hr]
    refine gs_tt 67 rfl (by omega) (by omega) dX7_copyFrom_66 ?_
    refine gn_iinc2 1 70 rfl dX7_copyFrom_67 rfl (by decide) rfl ?_
    refine g_goto 50 (by decide) dX7_copyFrom_70 ?_
    rw [sR_s, sR_sR]
    refine g_heap (congrArg (sR h (tr i)) (funext fun o => ?_)) ih
    simp only [up]
    grind
def turnC (n : Nat) (C T : Nat → Nat) (f : Nat) : Bool := if f = 0 then decide (T 6 ≠ 0) else if f = 6 then decide (T 1 ≠ 0) else if f = 7 then true else canB n C T (f - 1)
def turnR (E : Nat → Nat) (n : Nat) (T : Nat → Nat) (f : Nat) : Nat → Nat := if f = 0 then bite E n T else if f = 6 then seedR T else if f = 7 then T else bindR T (f - 1)
theorem c_X7_changeBy {i f : Nat} (hi : i < 24) (hx : XI h) (hf : f < 8) : Rtv V 4 yX7_changeBy cX7_changeBy 2 none [rf V (tb i), .int (nI f)] h (sR h (tr i) (turnR (h.1 4) (h.1 3 2) (h.1 (tr i)) f)) := by
  have hT := hx.2.2.2.2.2.2 i
  refine Mt_in [some (rf V (tb i)), some (.int (nI f))] (own := RX7) rfl (by decide) (Nat.le_of_ble_eq_true rfl) (fun q hq => hq) ?_
  rcases (show f = 0 ∨ f = 6 ∨ f = 7 ∨ f = 1 ∨ f = 2 ∨ f = 3 ∨ f = 4 ∨ f = 5 by omega) with rfl | rfl | rfl | rfl | rfl | rfl | rfl | rfl
  · refine g_iload_n1 1 rfl dX7_changeBy_0 ?_
    refine g_lsw (off := 35) 36 dX7_changeBy_1 (by decide) (by decide +kernel) (by decide) ?_
    refine g_aload_n0 37 rfl dX7_changeBy_36 ?_
    refine g_cv0v 40 rfl cw_RX7_97 dX7_changeBy_37 (c_X7_takeBite hi hx) (by omega) (ob_tb V (by omega)) (Nat.le_of_ble_eq_true rfl) ?_
    refine g_goto 60 (by decide) dX7_changeBy_40 ?_
    refine g_vret dX7_changeBy_60 rfl ?_
    exact ⟨rfl, rfl⟩
  · refine g_iload_n1 1 rfl dX7_changeBy_0 ?_
    refine g_lsw (off := 42) 43 dX7_changeBy_1 (by decide) (by decide +kernel) (by decide) ?_
    refine g_aload_n0 44 rfl dX7_changeBy_43 ?_
    refine g_cv0v 47 rfl cw_RX7_100 dX7_changeBy_44 (c_X7_putSeed hi hT) (by omega) (ob_tb V (by omega)) (Nat.le_of_ble_eq_true rfl) ?_
    refine g_goto 60 (by decide) dX7_changeBy_47 ?_
    refine g_vret dX7_changeBy_60 rfl ?_
    exact ⟨rfl, rfl⟩
  · refine g_iload_n1 1 rfl dX7_changeBy_0 ?_
    refine g_lsw (off := 49) 50 dX7_changeBy_1 (by decide) (by decide +kernel) (by decide) ?_
    refine g_goto 60 (by decide) dX7_changeBy_50 ?_
    refine g_vret dX7_changeBy_60 rfl ?_
    exact ⟨rfl, (sR_same h (tr i)).symm⟩
  · refine g_iload_n1 1 rfl dX7_changeBy_0 ?_
    refine g_lsw (off := 52) 53 dX7_changeBy_1 (by decide) (by decide +kernel) (by decide) ?_
    refine g_aload_n0 54 rfl dX7_changeBy_53 ?_
    refine g_iload_n1 55 rfl dX7_changeBy_54 ?_
    refine g_iconst (v := 1) 56 rfl dX7_changeBy_55 (by decide) ?_
    refine gn_isub 57 rfl dX7_changeBy_56 (by omega) ?_
    refine g_cv1v 60 rfl cw_RX7_103 dX7_changeBy_57 (c_X7_bind hi (by omega)) (by omega) (ob_tb V (by omega)) (Nat.le_of_ble_eq_true rfl) ?_
    refine g_vret dX7_changeBy_60 rfl ?_
    exact ⟨rfl, rfl⟩
  · refine g_iload_n1 1 rfl dX7_changeBy_0 ?_
    refine g_lsw (off := 52) 53 dX7_changeBy_1 (by decide) (by decide +kernel) (by decide) ?_
    refine g_aload_n0 54 rfl dX7_changeBy_53 ?_
    refine g_iload_n1 55 rfl dX7_changeBy_54 ?_
    refine g_iconst (v := 1) 56 rfl dX7_changeBy_55 (by decide) ?_
    refine gn_isub 57 rfl dX7_changeBy_56 (by omega) ?_
    refine g_cv1v 60 rfl cw_RX7_103 dX7_changeBy_57 (c_X7_bind hi (by omega)) (by omega) (ob_tb V (by omega)) (Nat.le_of_ble_eq_true rfl) ?_
    refine g_vret dX7_changeBy_60 rfl ?_
    exact ⟨rfl, rfl⟩
  · refine g_iload_n1 1 rfl dX7_changeBy_0 ?_
    refine g_lsw (off := 52) 53 dX7_changeBy_1 (by decide) (by decide +kernel) (by decide) ?_
    refine g_aload_n0 54 rfl dX7_changeBy_53 ?_
    refine g_iload_n1 55 rfl dX7_changeBy_54 ?_
    refine g_iconst (v := 1) 56 rfl dX7_changeBy_55 (by decide) ?_
    refine gn_isub 57 rfl dX7_changeBy_56 (by omega) ?_
    refine g_cv1v 60 rfl cw_RX7_103 dX7_changeBy_57 (c_X7_bind hi (by omega)) (by omega) (ob_tb V (by omega)) (Nat.le_of_ble_eq_true rfl) ?_
    refine g_vret dX7_changeBy_60 rfl ?_
    exact ⟨rfl, rfl⟩
  · refine g_iload_n1 1 rfl dX7_changeBy_0 ?_
    refine g_lsw (off := 52) 53 dX7_changeBy_1 (by decide) (by decide +kernel) (by decide) ?_
    refine g_aload_n0 54 rfl dX7_changeBy_53 ?_
    refine g_iload_n1 55 rfl dX7_changeBy_54 ?_
    refine g_iconst (v := 1) 56 rfl dX7_changeBy_55 (by decide) ?_
    refine gn_isub 57 rfl dX7_changeBy_56 (by omega) ?_
    refine g_cv1v 60 rfl cw_RX7_103 dX7_changeBy_57 (c_X7_bind hi (by omega)) (by omega) (ob_tb V (by omega)) (Nat.le_of_ble_eq_true rfl) ?_
    refine g_vret dX7_changeBy_60 rfl ?_
    exact ⟨rfl, rfl⟩
  · refine g_iload_n1 1 rfl dX7_changeBy_0 ?_
    refine g_lsw (off := 52) 53 dX7_changeBy_1 (by decide) (by decide +kernel) (by decide) ?_
    refine g_aload_n0 54 rfl dX7_changeBy_53 ?_
    refine g_iload_n1 55 rfl dX7_changeBy_54 ?_
    refine g_iconst (v := 1) 56 rfl dX7_changeBy_55 (by decide) ?_
    refine gn_isub 57 rfl dX7_changeBy_56 (by omega) ?_
    refine g_cv1v 60 rfl cw_RX7_103 dX7_changeBy_57 (c_X7_bind hi (by omega)) (by omega) (ob_tb V (by omega)) (Nat.le_of_ble_eq_true rfl) ?_
    refine g_vret dX7_changeBy_60 rfl ?_
    exact ⟨rfl, rfl⟩
theorem c_X7_takeTurn {i f : Nat} (hi : i < 24) (hx : XI h) (hf : f < 8) (h1 : h.1 (tr i) 1 < 2 ^ 31) : Rti V 5 yX7_takeTurn cX7_takeTurn 3 (some .boolean) [rf V (tb i), .int (nI f)] h (nI (turnC (h.1 3 3) (h.1 7) (h.1 (tr i)) f).toNat) (sR h (tr i) (if turnC (h.1 3 3) (h.1 7) (h.1 (tr i)) f then turnR (h.1 4) (h.1 3 2) (h.1 (tr i)) f else h.1 (tr i))) := by
  have hT := hx.2.2.2.2.2.2 i
  have h6 := hT.2.2.1
  refine Mt_in [some (rf V (tb i)), some (.int (nI f)), none] (own := RX7) rfl (by decide) (Nat.le_of_ble_eq_true rfl) (fun q hq => hq) ?_
  have J : ∀ b : Bool, G V T0 5 RX7 cX7_takeTurn 3 (some .boolean) 81 [some (rf V (tb i)), some (.int (nI f)), some (.int (nI b.toNat))] [] h (fun v g => v = some (.int (nI b.toNat)) ∧ g = sR h (tr i) (if b then turnR (h.1 4) (h.1 3 2) (h.1 (tr i)) f else h.1 (tr i))) := by
    intro b
    cases b with
    | false =>
      refine g_iload_n2 82 rfl dX7_takeTurn_81 ?_
      refine gn_if_eq 90 (by decide) 85 rfl dX7_takeTurn_82 (by decide) (fun c82 => ?_) (fun c82 => absurd rfl c82)
      refine g_iload_n2 91 rfl dX7_takeTurn_90 ?_
      refine g_iret .boolean dX7_takeTurn_91 rfl (rfl) ?_
      exact ⟨rfl, (sR_same h (tr i)).symm⟩
    | true =>
      refine g_iload_n2 82 rfl dX7_takeTurn_81 ?_
      refine gn_if_eq 90 (by decide) 85 rfl dX7_takeTurn_82 (by decide) (fun c82 => absurd c82 (by decide)) (fun c82 => ?_)
      refine g_aload_n0 86 rfl dX7_takeTurn_85 ?_
      refine g_iload_n1 87 rfl dX7_takeTurn_86 ?_
      refine g_cv1v 90 rfl cw_RX7_93 dX7_takeTurn_87 (c_X7_changeBy hi hx hf) (by omega) (ob_tb V (by omega)) (Nat.le_of_ble_eq_true rfl) ?_
      refine g_iload_n2 91 rfl dX7_takeTurn_90 ?_
      refine g_iret .boolean dX7_takeTurn_91 rfl (rfl) ?_
      exact ⟨rfl, rfl⟩
  rcases (show f = 0 ∨ f = 6 ∨ f = 7 ∨ f = 1 ∨ f = 2 ∨ f = 3 ∨ f = 4 ∨ f = 5 by omega) with rfl | rfl | rfl | rfl | rfl | rfl | rfl | rfl
  · refine g_iload_n1 1 rfl dX7_takeTurn_0 ?_
    refine g_lsw (off := 35) 36 dX7_takeTurn_1 (by decide) (by decide +kernel) (by decide) ?_
    refine g_aload_n0 37 rfl dX7_takeTurn_36 ?_
    refine gf_Table_eating 40 rfl (by omega) fl_RX7_37 dX7_takeTurn_37 ?_
    refine gn_if_eq 47 (by decide) 43 rfl dX7_takeTurn_40 (by omega) (fun c40 => ?_) (fun c40 => ?_)
    · refine g_iconst (v := 0) 48 rfl dX7_takeTurn_47 (by decide) ?_
      refine g_istore_n2 49 rfl dX7_takeTurn_48 (by decide) rfl ?_
      refine g_goto 81 (by decide) dX7_takeTurn_49 ?_
      rw [show turnC (h.1 3 3) (h.1 7) (h.1 (tr i)) 0 = _ from by first | exact decide_eq_false (fun q => q c40) | exact decide_eq_true c40]
      exact J _
    · refine g_iconst (v := 1) 44 rfl dX7_takeTurn_43 (by decide) ?_
      refine g_goto 48 (by decide) dX7_takeTurn_44 ?_
      refine g_istore_n2 49 rfl dX7_takeTurn_48 (by decide) rfl ?_
      refine g_goto 81 (by decide) dX7_takeTurn_49 ?_
      rw [show turnC (h.1 3 3) (h.1 7) (h.1 (tr i)) 0 = _ from by first | exact decide_eq_false (fun q => q c40) | exact decide_eq_true c40]
      exact J _
  · refine g_iload_n1 1 rfl dX7_takeTurn_0 ?_
    refine g_lsw (off := 51) 52 dX7_takeTurn_1 (by decide) (by decide +kernel) (by decide) ?_
    refine g_aload_n0 53 rfl dX7_takeTurn_52 ?_
    refine gf_Table_store 56 rfl (by omega) fl_RX7_31 dX7_takeTurn_53 ?_
    refine gn_if_le 63 (by decide) 59 rfl dX7_takeTurn_56 (by omega) (fun c56 => ?_) (fun c56 => ?_)
    · refine g_iconst (v := 0) 64 rfl dX7_takeTurn_63 (by decide) ?_
      refine g_istore_n2 65 rfl dX7_takeTurn_64 (by decide) rfl ?_
      refine g_goto 81 (by decide) dX7_takeTurn_65 ?_
      rw [show turnC (h.1 3 3) (h.1 7) (h.1 (tr i)) 6 = _ from by first | exact decide_eq_false (fun q => q c56) | exact decide_eq_true (show h.1 (tr i) 1 ≠ 0 by omega)]
      exact J _
    · refine g_iconst (v := 1) 60 rfl dX7_takeTurn_59 (by decide) ?_
      refine g_goto 64 (by decide) dX7_takeTurn_60 ?_
      refine g_istore_n2 65 rfl dX7_takeTurn_64 (by decide) rfl ?_
      refine g_goto 81 (by decide) dX7_takeTurn_65 ?_
      rw [show turnC (h.1 3 3) (h.1 7) (h.1 (tr i)) 6 = _ from by first | exact decide_eq_false (fun q => q c56) | exact decide_eq_true (show h.1 (tr i) 1 ≠ 0 by omega)]
      exact J _
  · refine g_iload_n1 1 rfl dX7_takeTurn_0 ?_
    refine g_lsw (off := 67) 68 dX7_takeTurn_1 (by decide) (by decide +kernel) (by decide) ?_
    refine g_iconst (v := 1) 69 rfl dX7_takeTurn_68 (by decide) ?_
    refine g_istore_n2 70 rfl dX7_takeTurn_69 (by decide) rfl ?_
    refine g_goto 81 (by decide) dX7_takeTurn_70 ?_
    exact J true
  · refine g_iload_n1 1 rfl dX7_takeTurn_0 ?_
    refine g_lsw (off := 72) 73 dX7_takeTurn_1 (by decide) (by decide +kernel) (by decide) ?_
    refine g_aload_n0 74 rfl dX7_takeTurn_73 ?_
    refine g_iload_n1 75 rfl dX7_takeTurn_74 ?_
    refine g_iconst (v := 1) 76 rfl dX7_takeTurn_75 (by decide) ?_
    refine gn_isub 77 rfl dX7_takeTurn_76 (by omega) ?_
    refine g_cv1i 80 rfl cw_RX7_75 dX7_takeTurn_77 (c_X7_canBeSaid hi hx (by omega)) (by omega) (ob_tb V (by omega)) (Nat.le_of_ble_eq_true rfl) ?_
    refine g_istore_n2 81 rfl dX7_takeTurn_80 (by decide) rfl ?_
    exact J _
  · refine g_iload_n1 1 rfl dX7_takeTurn_0 ?_
    refine g_lsw (off := 72) 73 dX7_takeTurn_1 (by decide) (by decide +kernel) (by decide) ?_
    refine g_aload_n0 74 rfl dX7_takeTurn_73 ?_
    refine g_iload_n1 75 rfl dX7_takeTurn_74 ?_
    refine g_iconst (v := 1) 76 rfl dX7_takeTurn_75 (by decide) ?_
    refine gn_isub 77 rfl dX7_takeTurn_76 (by omega) ?_
    refine g_cv1i 80 rfl cw_RX7_75 dX7_takeTurn_77 (c_X7_canBeSaid hi hx (by omega)) (by omega) (ob_tb V (by omega)) (Nat.le_of_ble_eq_true rfl) ?_
    refine g_istore_n2 81 rfl dX7_takeTurn_80 (by decide) rfl ?_
    exact J _
  · refine g_iload_n1 1 rfl dX7_takeTurn_0 ?_
    refine g_lsw (off := 72) 73 dX7_takeTurn_1 (by decide) (by decide +kernel) (by decide) ?_
    refine g_aload_n0 74 rfl dX7_takeTurn_73 ?_
    refine g_iload_n1 75 rfl dX7_takeTurn_74 ?_
    refine g_iconst (v := 1) 76 rfl dX7_takeTurn_75 (by decide) ?_
    refine gn_isub 77 rfl dX7_takeTurn_76 (by omega) ?_
    refine g_cv1i 80 rfl cw_RX7_75 dX7_takeTurn_77 (c_X7_canBeSaid hi hx (by omega)) (by omega) (ob_tb V (by omega)) (Nat.le_of_ble_eq_true rfl) ?_
    refine g_istore_n2 81 rfl dX7_takeTurn_80 (by decide) rfl ?_
    exact J _
  · refine g_iload_n1 1 rfl dX7_takeTurn_0 ?_
    refine g_lsw (off := 72) 73 dX7_takeTurn_1 (by decide) (by decide +kernel) (by decide) ?_
    refine g_aload_n0 74 rfl dX7_takeTurn_73 ?_
    refine g_iload_n1 75 rfl dX7_takeTurn_74 ?_
    refine g_iconst (v := 1) 76 rfl dX7_takeTurn_75 (by decide) ?_
    refine gn_isub 77 rfl dX7_takeTurn_76 (by omega) ?_
    refine g_cv1i 80 rfl cw_RX7_75 dX7_takeTurn_77 (c_X7_canBeSaid hi hx (by omega)) (by omega) (ob_tb V (by omega)) (Nat.le_of_ble_eq_true rfl) ?_
    refine g_istore_n2 81 rfl dX7_takeTurn_80 (by decide) rfl ?_
    exact J _
  · refine g_iload_n1 1 rfl dX7_takeTurn_0 ?_
    refine g_lsw (off := 72) 73 dX7_takeTurn_1 (by decide) (by decide +kernel) (by decide) ?_
    refine g_aload_n0 74 rfl dX7_takeTurn_73 ?_
    refine g_iload_n1 75 rfl dX7_takeTurn_74 ?_
    refine g_iconst (v := 1) 76 rfl dX7_takeTurn_75 (by decide) ?_
    refine gn_isub 77 rfl dX7_takeTurn_76 (by omega) ?_
    refine g_cv1i 80 rfl cw_RX7_75 dX7_takeTurn_77 (c_X7_canBeSaid hi hx (by omega)) (by omega) (ob_tb V (by omega)) (Nat.le_of_ble_eq_true rfl) ?_
    refine g_istore_n2 81 rfl dX7_takeTurn_80 (by decide) rfl ?_
    exact J _
end X7
