/-! the reference: the best row, by trying all; it is what the search finds -/
abbrev Fs : Type := (Nat → Nat) × Nat × Nat × Bool
def fbStep (E : Nat → Nat) (n m : Nat) (C : Nat → Nat) (a : Nat) (s : Fs) (d : Nat) : Fs :=
  if s.2.2.2 then (if d = 0 then (bite E n s.1, 10 * s.2.1 + d, s.2.2.1, true) else (bindR s.1 (d - 1), 10 * s.2.1 + d, s.2.2.1 + wrth C (d - 1), canB m C s.1 (d - 1) && !decide (bt a (C (3 * (d - 1) + 2)) = 0))) else s
def pS (E : Nat → Nat) (n m : Nat) (C : Nat → Nat) (a : Nat) (T : Nat → Nat) : Nat → Nat → Fs
  | 0, _ => (T, 1, 0, true)
  | i + 1, q => fbStep E n m C a (pS E n m C a T i (q / (1 + m))) (q % (1 + m))
def gt9 (w b : Nat) : Bool := decide (b = 4294967287 ∨ b < w)
def fbU (s : Fs) (b : Nat × Nat) : Nat × Nat := if s.2.2.2 && gt9 s.2.2.1 b.1 then (s.2.2.1, s.2.1) else b
def rng (g : Nat → Fs) (s : Nat) : Nat → Nat × Nat → Nat × Nat
  | 0, b => b
  | k + 1, b => fbU (g (s + k)) (rng g s k b)
theorem rng_add (g : Nat → Fs) (s k1 : Nat) (b : Nat × Nat) : ∀ k2, rng g s (k1 + k2) b = rng g (s + k1) k2 (rng g s k1 b)
  | 0 => rfl
  | k2 + 1 => by
    show fbU (g (s + (k1 + k2))) (rng g s (k1 + k2) b) = fbU (g (s + k1 + k2)) (rng g (s + k1) k2 (rng g s k1 b))
    rw [rng_add g s k1 b k2, Nat.add_assoc]
theorem pS_ok {E C T : Nat → Nat} {n m a : Nat} (hT : TI T) (hE : ∀ j, E j ≤ 9) (hC : ∀ j, C j ≤ 9) (hn : n ≤ 4) (hm : m ≤ 5) : ∀ i q, TI (pS E n m C a T i q).1 ∧ (pS E n m C a T i q).2.2.1 ≤ 18 * i
  | 0, q => ⟨hT, Nat.le_refl _⟩
  | i + 1, q => by
    have ih := pS_ok (a := a) hT hE hC hn hm i (q / (1 + m))
    show TI (fbStep E n m C a (pS E n m C a T i (q / (1 + m))) (q % (1 + m))).1 ∧ (fbStep E n m C a (pS E n m C a T i (q / (1 + m))) (q % (1 + m))).2.2.1 ≤ _
    have hd : q % (1 + m) < 1 + m := Nat.mod_lt _ (by omega)
    generalize pS E n m C a T i (q / (1 + m)) = s at ih
    generalize q % (1 + m) = d at hd
    unfold fbStep
    split
    · split
      · exact ⟨TI_bite ih.1 hE hn, by show s.2.2.1 ≤ _; omega⟩
      · refine ⟨TI_bind ih.1 (by omega), ?_⟩
        show s.2.2.1 + wrth C (d - 1) ≤ _
        have h1 := hC (3 * (d - 1))
        have h2 := hC (3 * (d - 1) + 1)
        unfold wrth; omega
    · exact ⟨ih.1, by omega⟩
theorem pS_stay {E C T : Nat → Nat} {n m a : Nat} {i q : Nat} : ∀ k r, r / (1 + m) ^ k = q → (pS E n m C a T i q).2.2.2 = false → pS E n m C a T (i + k) r = pS E n m C a T i q
  | 0, r, hr, h => by rw [Nat.pow_zero, Nat.div_one] at hr; rw [hr]; rfl
  | k + 1, r, hr, h => by
    have ih := pS_stay (E := E) (C := C) (T := T) (n := n) (a := a) (i := i) (q := q) k (r / (1 + m)) (by rw [Nat.div_div_eq_div_mul, Nat.mul_comm, ← Nat.pow_succ]; exact hr) h
    show fbStep E n m C a (pS E n m C a T (i + k) (r / (1 + m))) (r % (1 + m)) = _
    rw [ih]
    unfold fbStep
    rw [if_neg (by rw [h]; decide)]
theorem gt9_le {w b : Nat} (hw : w < 2 ^ 31) (hb : b = 4294967287 ∨ b < 2 ^ 31) : (nI w ≤ nI b → gt9 w b = false) ∧ (¬ nI w ≤ nI b → gt9 w b = true) := by
  rcases hb with rfl | hb
  · have h1 : ¬ nI w ≤ nI 4294967287 := by
      rw [Int32.le_iff_toInt_le, nI_toInt hw, show (nI 4294967287).toInt = -9 by decide +kernel]; omega
    exact ⟨fun q => absurd q h1, fun _ => decide_eq_true (Or.inl rfl)⟩
  · rw [nI_leI hw hb]
    exact ⟨fun q => decide_eq_false (by omega), fun q => decide_eq_true (by omega)⟩
theorem rng_b {g : Nat → Fs} {s : Nat} (hg : ∀ q, (g q).2.2.1 < 2 ^ 31) : ∀ k b, (b.1 = 4294967287 ∨ b.1 < 2 ^ 31) → ((rng g s k b).1 = 4294967287 ∨ (rng g s k b).1 < 2 ^ 31)
  | 0, b, h => h
  | k + 1, b, h => by
    have ih := rng_b (s := s) hg k b h
    rw [show rng g s (k + 1) b = fbU (g (s + k)) (rng g s k b) from rfl]
    unfold fbU
    split
    · exact Or.inr (hg _)
    · exact ih
/-- the reference's best, told as the class tells it -/
def phi (b : Nat × Nat) : Nat × Nat := if b.1 = 4294967287 then (4294967295, 1) else b
theorem fbU_phi {s : Fs} {b : Nat × Nat} (hs : s.2.2.2 = true) (hw : s.2.2.1 < 2 ^ 31) (hb : b.1 = 4294967287 ∨ b.1 < 2 ^ 31) : phi (fbU s b) = if gtB s.2.2.1 (phi b).1 then (s.2.2.1, s.2.1) else phi b := by
  unfold fbU
  rw [hs, Bool.true_and]
  rcases hb with q | q
  · rw [show gt9 s.2.2.1 b.1 = true from decide_eq_true (Or.inl q), if_pos rfl]
    have e : phi b = (4294967295, 1) := if_pos q
    rw [e, if_pos (show gtB s.2.2.1 4294967295 = true from decide_eq_true (Or.inl rfl))]
    exact if_neg (show ¬ s.2.2.1 = 4294967287 by omega)
  · have e : phi b = b := if_neg (by omega)
    rw [e]
    by_cases w : b.1 < s.2.2.1
    · rw [if_pos (show gt9 s.2.2.1 b.1 = true from decide_eq_true (Or.inr w)), if_pos (show gtB s.2.2.1 b.1 = true from decide_eq_true (Or.inr w))]
      exact if_neg (show ¬ s.2.2.1 = 4294967287 by omega)
    · rw [if_neg (by rw [show gt9 s.2.2.1 b.1 = false from decide_eq_false (by omega)]; decide), if_neg (by rw [show gtB s.2.2.1 b.1 = false from decide_eq_false (by omega)]; decide), e]
theorem blk {E C T : Nat → Nat} {n m a a' N : Nat} (hT : TI T) (hE : ∀ j, E j ≤ 9) (hC : ∀ j, C j ≤ 9) (hn : n ≤ 4) (hm : m ≤ 5) (hN : N ≤ 5) (haa : ∀ c, c < m → (bt a' c = 0 ↔ bt a (C (3 * c + 2)) = 0)) : ∀ r i q b, i + r = N → (b.1 = 4294967287 ∨ b.1 < 2 ^ 31) → phi (rng (pS E n m C a T N) (q * (1 + m) ^ r) ((1 + m) ^ r) b) = if (pS E n m C a T i q).2.2.2 then srch E n m C a' r (pS E n m C a T i q).1 (pS E n m C a T i q).2.1 (pS E n m C a T i q).2.2.1 (phi b) else phi b
  | 0, i, q, b, hi, hb => by
    have hw := (pS_ok (a := a) hT hE hC hn hm i q).2
    rw [Nat.pow_zero, Nat.mul_one]
    show phi (fbU (pS E n m C a T N (q + 0)) b) = _
    rw [Nat.add_zero, show N = i by omega]
    cases hs : (pS E n m C a T i q).2.2.2 with
    | true =>
      rw [fbU_phi hs (by omega) hb, if_pos rfl]
      unfold srch
      rfl
    | false =>
      rw [if_neg (by decide)]
      unfold fbU
      rw [hs, Bool.false_and, if_neg (by decide)]
  | r + 1, i, q, b, hi, hb => by
    have hg : ∀ z, (pS E n m C a T N z).2.2.1 < 2 ^ 31 := fun z => by have := (pS_ok (a := a) hT hE hC hn hm N z).2; omega
    have hstep : ∀ d, d < 1 + m → pS E n m C a T (i + 1) (q * (1 + m) + d) = fbStep E n m C a (pS E n m C a T i q) d := by
      intro d hd
      show fbStep E n m C a (pS E n m C a T i ((q * (1 + m) + d) / (1 + m))) ((q * (1 + m) + d) % (1 + m)) = _
      rw [show (q * (1 + m) + d) / (1 + m) = q by rw [Nat.mul_comm, Nat.mul_add_div (by omega), Nat.div_eq_of_lt hd, Nat.add_zero], show (q * (1 + m) + d) % (1 + m) = d by rw [Nat.mul_comm, Nat.mul_add_mod, Nat.mod_eq_of_lt hd]]
    have hsplit : ∀ d b', rng (pS E n m C a T N) (q * (1 + m) ^ (r + 1)) ((d + 1) * (1 + m) ^ r) b' = rng (pS E n m C a T N) ((q * (1 + m) + d) * (1 + m) ^ r) ((1 + m) ^ r) (rng (pS E n m C a T N) (q * (1 + m) ^ (r + 1)) (d * (1 + m) ^ r) b') := by
      intro d b'
      rw [Nat.succ_mul, rng_add]
      congr 1
      rw [Nat.pow_succ, Nat.add_mul, Nat.mul_assoc, Nat.mul_comm (1 + m) ((1 + m) ^ r)]
    cases hs : (pS E n m C a T i q).2.2.2 with
    | false =>
      rw [if_neg (by decide)]
      have key : ∀ d, d ≤ 1 + m → phi (rng (pS E n m C a T N) (q * (1 + m) ^ (r + 1)) (d * (1 + m) ^ r) b) = phi b := by
        intro d
        induction d with
        | zero => intro _; rw [Nat.zero_mul]; rfl
        | succ d ih =>
          intro hd
          have e : (pS E n m C a T (i + 1) (q * (1 + m) + d)).2.2.2 = false := by
            rw [hstep d (by omega)]
            unfold fbStep
            rw [if_neg (by rw [hs]; decide)]; exact hs
          rw [hsplit, blk hT hE hC hn hm hN haa r (i + 1) (q * (1 + m) + d) _ (by omega) (rng_b hg _ _ hb), if_neg (by rw [e]; decide)]
          exact ih (by omega)
      have h1 := key (1 + m) (Nat.le_refl _)
      rw [show (1 + m) * (1 + m) ^ r = (1 + m) ^ (r + 1) by rw [Nat.pow_succ, Nat.mul_comm]] at h1
      exact h1
    | true =>
      rw [if_pos rfl]
      have key : ∀ d, d ≤ m → phi (rng (pS E n m C a T N) (q * (1 + m) ^ (r + 1)) ((d + 1) * (1 + m) ^ r) b) = lpG (fun c x => if bt a' c = 0 then x else if canB m C (pS E n m C a T i q).1 c then srch E n m C a' r (bindR (pS E n m C a T i q).1 c) (10 * (pS E n m C a T i q).2.1 + c + 1) ((pS E n m C a T i q).2.2.1 + wrth C c) x else x) (srch E n m C a' r (bite E n (pS E n m C a T i q).1) (10 * (pS E n m C a T i q).2.1) (pS E n m C a T i q).2.2.1 (phi b)) d := by
        intro d
        induction d with
        | zero =>
          intro _
          have e : pS E n m C a T (i + 1) (q * (1 + m) + 0) = (bite E n (pS E n m C a T i q).1, 10 * (pS E n m C a T i q).2.1 + 0, (pS E n m C a T i q).2.2.1, true) := by
            rw [hstep 0 (by omega)]
            unfold fbStep
            rw [if_pos hs, if_pos rfl]
          rw [hsplit, Nat.zero_mul, show rng (pS E n m C a T N) (q * (1 + m) ^ (r + 1)) 0 b = b from rfl, blk hT hE hC hn hm hN haa r (i + 1) (q * (1 + m) + 0) _ (by omega) hb, e, if_pos rfl]
          rfl
        | succ d ih =>
          intro hd
          have ih := ih (by omega)
          have e : pS E n m C a T (i + 1) (q * (1 + m) + (d + 1)) = (bindR (pS E n m C a T i q).1 d, 10 * (pS E n m C a T i q).2.1 + (d + 1), (pS E n m C a T i q).2.2.1 + wrth C d, canB m C (pS E n m C a T i q).1 d && !decide (bt a (C (3 * d + 2)) = 0)) := by
            rw [hstep (d + 1) (by omega)]
            unfold fbStep
            rw [if_pos hs, if_neg (by omega)]
            rfl
          rw [hsplit, blk hT hE hC hn hm hN haa r (i + 1) (q * (1 + m) + (d + 1)) _ (by omega) (rng_b hg _ _ hb), e, ih]
          have h3 := haa d (by omega)
          show (if (canB m C (pS E n m C a T i q).1 d && !decide (bt a (C (3 * d + 2)) = 0)) then _ else _) = (if bt a' d = 0 then _ else if canB m C (pS E n m C a T i q).1 d then _ else _)
          by_cases q1 : bt a' d = 0
          · rw [if_pos q1, if_neg (by rw [decide_eq_true (h3.mp q1), Bool.not_true, Bool.and_false]; decide)]
          · rw [if_neg q1, decide_eq_false (fun z => q1 (h3.mpr z)), Bool.not_false, Bool.and_true]
            split
            · rw [Nat.add_assoc]
            · rfl
      have h1 := key m (Nat.le_refl _)
      rw [show (m + 1) * (1 + m) ^ r = (1 + m) ^ (r + 1) by rw [Nat.pow_succ, Nat.mul_comm, Nat.add_comm m 1]] at h1
      rw [h1]
      rfl
