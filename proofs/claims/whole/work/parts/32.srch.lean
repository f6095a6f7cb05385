/-! what the search finds, without the heap; MustardTreaty.share -/
def lpG {α : Type} (f : Nat → α → α) (s : α) : Nat → α
  | 0 => s
  | n + 1 => f n (lpG f s n)
def srch (E : Nat → Nat) (n m : Nat) (C : Nat → Nat) (a : Nat) : Nat → (Nat → Nat) → Nat → Nat → Nat × Nat → Nat × Nat
  | 0, _, row, w, b => if gtB w b.1 then (w, row) else b
  | r + 1, T, row, w, b => lpG (fun c x => if bt a c = 0 then x else if canB m C T c then srch E n m C a r (bindR T c) (10 * row + c + 1) (w + wrth C c) x else x) (srch E n m C a r (bite E n T) (10 * row) w b) m
def bst (h : Hp) : Nat × Nat := (h.1 19 4, h.1 19 5)
theorem goH_srch : ∀ (r tk row w : Nat) (h : Hp), XI h → hbp h → w < 2 ^ 31 - 18 * r → bst (goH r tk row w h) = srch (h.1 4) (h.1 3 2) (h.1 3 3) (h.1 7) (h.1 19 3) r (h.1 (tr (tk + 18))) row w (bst h)
  | 0, tk, row, w, h, hx, hb, hw => by
    unfold goH srch
    show bst (if gtB w (h.1 19 4) then _ else h) = if gtB w (h.1 19 4) then _ else bst h
    split
    · unfold bst
      rw [sR_s, up_n (by decide), up_s, up_s]
    · rfl
  | r + 1, tk, row, w, h, hx, hb, hw => by
    have hp := Kp_put (k := tk + 1 + 18) (i := tk + 1 + 18) hx hb (TI_bite (hx.2.2.2.2.2.2 (tk + 18)) hx.2.2.1 hx.1) (Nat.le_refl _)
    have h0 := goH_srch r (tk + 1) (10 * row) w _ hp.2.2.2.2.1 hp.2.2.2.2.2 (by omega)
    have h1 := Kp_tr hp (Kp_le (goH_kp r (tk + 1) (10 * row) w _ hp.2.2.2.2.1 hp.2.2.2.2.2 (by omega)) (by omega))
    have h2 : ∀ c, c ≤ h.1 3 3 → Kp (tk + 1 + 18) _ (lpN (goF (goH r) tk row w) _ c) := lpN_kp (k := tk + 1 + 18) (f := goF (goH r) tk row w) (n := h.1 3 3) h1.2.2.2.2.1 h1.2.2.2.2.2 (fun c g hc hxg hbg => goF_kp (W := 18 * r) (by omega) (fun row' w' g' hx' hb' hw' => Kp_le (goH_kp r (tk + 1) row' w' g' hx' hb' hw') (by omega)) (by have := hx.2.1; omega) hxg hbg)
    rw [sR_t3, sR_t4, sR_t7, sR_lt (by decide), sR_s] at h0
    have hbst : bst (sR h (tr (tk + 1 + 18)) (bite (h.1 4) (h.1 3 2) (h.1 (tr (tk + 18))))) = bst h := by
      unfold bst
      rw [sR_lt (by decide)]
    rw [hbst] at h0
    show bst (lpN (goF (goH r) tk row w) _ (h.1 3 3)) = lpG _ _ (h.1 3 3)
    have key : ∀ c, c ≤ h.1 3 3 → bst (lpN (goF (goH r) tk row w) (goH r (tk + 1) (10 * row) w (sR h (tr (tk + 1 + 18)) (bite (h.1 4) (h.1 3 2) (h.1 (tr (tk + 18)))))) c) = lpG (fun c x => if bt (h.1 19 3) c = 0 then x else if canB (h.1 3 3) (h.1 7) (h.1 (tr (tk + 18))) c then srch (h.1 4) (h.1 3 2) (h.1 3 3) (h.1 7) (h.1 19 3) r (bindR (h.1 (tr (tk + 18))) c) (10 * row + c + 1) (w + wrth (h.1 7) c) x else x) (srch (h.1 4) (h.1 3 2) (h.1 3 3) (h.1 7) (h.1 19 3) r (bite (h.1 4) (h.1 3 2) (h.1 (tr (tk + 18)))) (10 * row) w (bst h)) c := by
      intro c
      induction c with
      | zero => intro _; exact h0
      | succ c ih =>
        intro hc
        have ihc := ih (by omega)
        have h4 := Kp_tr h1 (h2 c (by omega))
        have e3 := Kp_lo h4 (q := 3) (by decide) (by decide)
        have e4 := Kp_lo h4 (q := 4) (by decide) (by decide)
        have e7 := Kp_lo h4 (q := 7) (by decide) (by decide)
        have eT := Kp_t h4 (i := tk + 18) (by omega)
        have ea := h4.2.2.1
        have hxg := h4.2.2.2.2.1
        have hbg := h4.2.2.2.2.2
        show bst (goF (goH r) tk row w c (lpN (goF (goH r) tk row w) _ c)) = (if bt (h.1 19 3) c = 0 then lpG _ _ c else if canB (h.1 3 3) (h.1 7) (h.1 (tr (tk + 18))) c then srch _ _ _ _ _ r _ _ _ (lpG _ _ c) else lpG _ _ c)
        rw [← ihc]
        generalize lpN (goF (goH r) tk row w) (goH r (tk + 1) (10 * row) w (sR h (tr (tk + 1 + 18)) (bite (h.1 4) (h.1 3 2) (h.1 (tr (tk + 18)))))) c = g at h4 e3 e4 e7 eT ea hxg hbg ⊢
        unfold goF
        rw [ea, e3, e7, eT]
        split
        · rfl
        · split
          · have hwl := wrth_le hx c
            have hx5 := hx.2.1
            have hpg := Kp_put (k := tk + 1 + 18) (i := tk + 1 + 18) hxg hbg (TI_bind (hx.2.2.2.2.2.2 (tk + 18)) (show c < 5 by omega)) (Nat.le_refl _)
            have hr := goH_srch r (tk + 1) (10 * row + c + 1) (w + wrth (h.1 7) c) _ hpg.2.2.2.2.1 hpg.2.2.2.2.2 (by omega)
            rw [hr, sR_t3, sR_t4, sR_t7, sR_lt (by decide), sR_s, e3, e4, e7, ea]
            have hb2 : bst (sR g (tr (tk + 1 + 18)) (bindR (h.1 (tr (tk + 18))) c)) = bst g := by
              unfold bst
              rw [sR_lt (by decide)]
            rw [hb2]
          · rfl
    exact key _ (Nat.le_refl _)
/-- what the tables and the rest are behind a search -/
def KpS (h g : Hp) : Prop := (∀ q, q ≠ 19 → (∀ j, 18 ≤ j → q ≠ tr j) → g.1 q = h.1 q) ∧ g.2 = h.2 ∧ XI g
theorem KpS_tr {h g e : Hp} (h1 : KpS h g) (h2 : KpS g e) : KpS h e := ⟨fun q a b => (h2.1 q a b).trans (h1.1 q a b), h2.2.1.trans h1.2.1, h2.2.2⟩
theorem KpS_lo {h g : Hp} (h1 : KpS h g) {q : Nat} (hq : q < 100) (h19 : q ≠ 19) : g.1 q = h.1 q := h1.1 q h19 (fun j _ => tr_hi hq)
theorem KpS_t {i : Nat} {h g : Hp} (h1 : KpS h g) (hi : i < 18) : g.1 (tr i) = h.1 (tr i) := h1.1 (tr i) (fun q => tr_hi (i := i) (by decide) q.symm) (fun j hj => tr_ne (by omega))
theorem mstS_kp {h : Hp} (hx : XI h) (n a : Nat) : KpS h (mstS h n a) := by
  refine ⟨fun q a b => ?_, rfl, (mstS_ok hx n a).1⟩
  unfold mstS
  rw [sR_n (b 18 (Nat.le_refl _)), sR_n a]
theorem mstH_kp {h : Hp} (hx : XI h) {n : Nat} (hn : n ≤ 5) (a : Nat) : KpS h (mstH h n a) := by
  obtain ⟨o1, o2, o3, o4⟩ := mstS_ok hx n a
  have h1 := goH_kp n 0 1 0 (mstS h n a) o1 o2 (by omega)
  exact KpS_tr (mstS_kp hx n a) ⟨fun q a b => h1.1 q a (fun j hj => b j (by omega)), h1.2.2.2.1, h1.2.2.2.2.1⟩
theorem mstH_srch {h : Hp} (hx : XI h) {n : Nat} (hn : n ≤ 5) (a : Nat) : bst (mstH h n a) = srch (h.1 4) (h.1 3 2) (h.1 3 3) (h.1 7) a n (h.1 (tr 0)) 1 0 (4294967295, 1) := by
  obtain ⟨o1, o2, o3, o4⟩ := mstS_ok hx n a
  have h1 := goH_srch n 0 1 0 (mstS h n a) o1 o2 (by omega)
  have hk := mstS_kp hx n a
  have e18 : (mstS h n a).1 (tr (0 + 18)) = h.1 (tr 0) := sR_s _ _ _
  have eb : bst (mstS h n a) = (4294967295, 1) := by
    unfold bst mstS
    rw [sR_lt (by decide), sR_s, up_n (by decide), up_s, up_s]
  unfold mstH
  rw [h1, o3, e18, eb, KpS_lo hk (q := 3) (by decide) (by decide), KpS_lo hk (q := 4) (by decide) (by decide), KpS_lo hk (q := 7) (by decide) (by decide)]
/-- the most that can be bound -/
def mxW (E : Nat → Nat) (n m : Nat) (C : Nat → Nat) (a : Nat) : Nat → (Nat → Nat) → Nat
  | 0, _ => 0
  | r + 1, T => lpG (fun c x => if bt a c = 0 then x else if canB m C T c then max x (wrth C c + mxW E n m C a r (bindR T c)) else x) (mxW E n m C a r (bite E n T)) m
def mxo (b x : Nat) : Nat := if gtB x b then x else b
theorem mxo_max {b x y : Nat} (hb : b = 4294967295 ∨ b < 2 ^ 31) (hx : x < 2 ^ 31) (hy : y < 2 ^ 31) : mxo (mxo b x) y = mxo b (max x y) := by
  unfold mxo gtB
  rcases hb with rfl | hb
  · rw [if_pos (decide_eq_true (Or.inl rfl)), if_pos (show decide ((4294967295 : Nat) = 4294967295 ∨ 4294967295 < max x y) = true from decide_eq_true (Or.inl rfl))]
    by_cases q : x < y
    · rw [if_pos (decide_eq_true (Or.inr q)), Nat.max_eq_right (by omega)]
    · rw [if_neg (by rw [decide_eq_false (by omega)]; decide), Nat.max_eq_left (by omega)]
  · by_cases q : b < x
    · rw [if_pos (show decide (b = 4294967295 ∨ b < x) = true from decide_eq_true (Or.inr q)), if_pos (show decide (b = 4294967295 ∨ b < max x y) = true from decide_eq_true (Or.inr (by omega)))]
      by_cases q2 : x < y
      · rw [if_pos (decide_eq_true (Or.inr q2)), Nat.max_eq_right (by omega)]
      · rw [if_neg (by rw [decide_eq_false (by omega)]; decide), Nat.max_eq_left (by omega)]
    · rw [if_neg (show ¬ decide (b = 4294967295 ∨ b < x) = true by rw [decide_eq_false (by omega)]; decide)]
      by_cases q2 : b < y
      · rw [if_pos (decide_eq_true (Or.inr q2)), if_pos (decide_eq_true (Or.inr (by omega))), Nat.max_eq_right (by omega)]
      · rw [if_neg (by rw [decide_eq_false (by omega)]; decide), if_neg (by rw [decide_eq_false (by omega)]; decide)]
theorem mxW_le {E C : Nat → Nat} {n m a : Nat} (hC : ∀ j, C j ≤ 9) : ∀ r T, mxW E n m C a r T ≤ 18 * r
  | 0, T => Nat.le_refl _
  | r + 1, T => by
    have key : ∀ c, lpG (fun c x => if bt a c = 0 then x else if canB m C T c then max x (wrth C c + mxW E n m C a r (bindR T c)) else x) (mxW E n m C a r (bite E n T)) c ≤ 18 * (r + 1) := by
      intro c
      induction c with
      | zero => have := mxW_le (E := E) (n := n) (m := m) (a := a) hC r (bite E n T); show mxW E n m C a r (bite E n T) ≤ _; omega
      | succ c ih =>
        show (if bt a c = 0 then lpG _ _ c else if canB m C T c then max (lpG _ _ c) (wrth C c + mxW E n m C a r (bindR T c)) else lpG _ _ c) ≤ _
        split
        · exact ih
        · split
          · have h1 := mxW_le (E := E) (n := n) (m := m) (a := a) hC r (bindR T c)
            have h2 := hC (3 * c)
            have h3 := hC (3 * c + 1)
            have h4 : wrth C c ≤ 18 := by unfold wrth; omega
            exact Nat.max_le.mpr ⟨ih, by omega⟩
          · exact ih
    exact key m
theorem srch_fst {E C : Nat → Nat} {n m a : Nat} (hC : ∀ j, C j ≤ 9) : ∀ (r : Nat) (T : Nat → Nat) (row w : Nat) (b : Nat × Nat), (b.1 = 4294967295 ∨ b.1 < 2 ^ 31) → w + 18 * r < 2 ^ 31 → (srch E n m C a r T row w b).1 = mxo b.1 (w + mxW E n m C a r T)
  | 0, T, row, w, b, hb, hw => by
    unfold srch mxo
    show (if gtB w b.1 then (w, row) else b).1 = if gtB (w + 0) b.1 then w + 0 else b.1
    rw [Nat.add_zero]
    split <;> rfl
  | r + 1, T, row, w, b, hb, hw => by
    have key : ∀ c, (lpG (fun c x => if bt a c = 0 then x else if canB m C T c then srch E n m C a r (bindR T c) (10 * row + c + 1) (w + wrth C c) x else x) (srch E n m C a r (bite E n T) (10 * row) w b) c).1 = mxo b.1 (w + lpG (fun c x => if bt a c = 0 then x else if canB m C T c then max x (wrth C c + mxW E n m C a r (bindR T c)) else x) (mxW E n m C a r (bite E n T)) c) ∧ lpG (fun c x => if bt a c = 0 then x else if canB m C T c then max x (wrth C c + mxW E n m C a r (bindR T c)) else x) (mxW E n m C a r (bite E n T)) c ≤ 18 * (r + 1) := by
      intro c
      induction c with
      | zero =>
        have := mxW_le (E := E) (n := n) (m := m) (a := a) hC r (bite E n T)
        exact ⟨srch_fst hC r (bite E n T) (10 * row) w b hb (by omega), by show mxW E n m C a r (bite E n T) ≤ _; omega⟩
      | succ c ih =>
        obtain ⟨ih, ihl⟩ := ih
        show (if bt a c = 0 then lpG _ _ c else if canB m C T c then srch E n m C a r (bindR T c) (10 * row + c + 1) (w + wrth C c) (lpG _ _ c) else lpG _ _ c).1 = mxo b.1 (w + if bt a c = 0 then lpG _ _ c else if canB m C T c then max (lpG _ _ c) (wrth C c + mxW E n m C a r (bindR T c)) else lpG _ _ c) ∧ (if bt a c = 0 then lpG _ _ c else if canB m C T c then max (lpG _ _ c) (wrth C c + mxW E n m C a r (bindR T c)) else lpG _ _ c) ≤ _
        split
        · exact ⟨ih, ihl⟩
        · split
          · have h1 := mxW_le (E := E) (n := n) (m := m) (a := a) hC r (bindR T c)
            have h2 := hC (3 * c)
            have h3 := hC (3 * c + 1)
            have h4 : wrth C c ≤ 18 := by unfold wrth; omega
            refine ⟨?_, Nat.max_le.mpr ⟨ihl, by omega⟩⟩
            have hb2 : mxo b.1 (w + lpG (fun c x => if bt a c = 0 then x else if canB m C T c then max x (wrth C c + mxW E n m C a r (bindR T c)) else x) (mxW E n m C a r (bite E n T)) c) < 2 ^ 31 ∨ mxo b.1 (w + lpG (fun c x => if bt a c = 0 then x else if canB m C T c then max x (wrth C c + mxW E n m C a r (bindR T c)) else x) (mxW E n m C a r (bite E n T)) c) = 4294967295 := by
              unfold mxo
              split
              · left; omega
              · rcases hb with q | q
                · exact Or.inr q
                · exact Or.inl q
            rw [srch_fst hC r (bindR T c) (10 * row + c + 1) (w + wrth C c) _ (by rw [ih]; exact hb2.symm) (by omega), ih, mxo_max hb (by omega) (by omega)]
            congr 1
            rw [Nat.add_assoc]
            exact (Nat.add_max_add_left _ _ _)
          · exact ⟨ih, ihl⟩
    exact (key m).1
theorem mst_w {h : Hp} (hx : XI h) {n : Nat} (hn : n ≤ 5) (a : Nat) : (mstH h n a).1 19 4 = mxW (h.1 4) (h.1 3 2) (h.1 3 3) (h.1 7) a n (h.1 (tr 0)) := by
  have h1 := congrArg Prod.fst (mstH_srch hx hn a)
  rw [srch_fst hx.2.2.2.2.1 n _ _ _ _ (Or.inl rfl) (by omega)] at h1
  rw [Nat.zero_add] at h1
  exact h1
theorem mxW_mono {E C : Nat → Nat} {n m a a' : Nat} (ha : ∀ c, c < m → ¬ bt a c = 0 → ¬ bt a' c = 0) : ∀ r T, mxW E n m C a r T ≤ mxW E n m C a' r T
  | 0, T => Nat.le_refl _
  | r + 1, T => by
    have key : ∀ c, c ≤ m → lpG (fun c x => if bt a c = 0 then x else if canB m C T c then max x (wrth C c + mxW E n m C a r (bindR T c)) else x) (mxW E n m C a r (bite E n T)) c ≤ lpG (fun c x => if bt a' c = 0 then x else if canB m C T c then max x (wrth C c + mxW E n m C a' r (bindR T c)) else x) (mxW E n m C a' r (bite E n T)) c := by
      intro c
      induction c with
      | zero => intro _; exact mxW_mono ha r _
      | succ c ih =>
        intro hc
        have ih := ih (by omega)
        have h1 := mxW_mono (E := E) (C := C) (n := n) ha r (bindR T c)
        have h2 := ha c (by omega)
        show (if bt a c = 0 then lpG _ _ c else if canB m C T c then max (lpG _ _ c) (wrth C c + mxW E n m C a r (bindR T c)) else lpG _ _ c) ≤ (if bt a' c = 0 then lpG _ _ c else if canB m C T c then max (lpG _ _ c) (wrth C c + mxW E n m C a' r (bindR T c)) else lpG _ _ c)
        by_cases q : bt a c = 0
        · rw [if_pos q]
          split
          · exact ih
          · split
            · exact Nat.le_trans ih (Nat.le_max_left _ _)
            · exact ih
        · rw [if_neg q, if_neg (h2 q)]
          split
          · exact Nat.max_le.mpr ⟨Nat.le_trans ih (Nat.le_max_left _ _), Nat.le_trans (Nat.add_le_add_left h1 _) (Nat.le_max_right _ _)⟩
          · exact ih
    exact key m (Nat.le_refl _)
theorem bt_tb (s k : Nat) : bt s k = (s.testBit k).toNat := by
  unfold bt
  rw [Nat.and_one_is_mod, Nat.toNat_testBit]
theorem bt_or (s t k : Nat) : bt (s ||| t) k = 0 ↔ bt s k = 0 ∧ bt t k = 0 := by
  rw [bt_tb, bt_tb, bt_tb, Nat.testBit_or]
  cases s.testBit k <;> cases t.testBit k <;> simp
theorem bt_pow (c k : Nat) : bt (1 * 2 ^ c) k = 0 ↔ c ≠ k := by
  rw [bt_tb, Nat.one_mul, Nat.testBit_two_pow]
  by_cases q : c = k
  · simp [q]
  · simp [q]
theorem cls_bt {C : Nat → Nat} {b : Nat} : ∀ m c, bt (clsOf C b m) c = 0 ↔ (c < m → bt b (C (3 * c + 2)) = 0)
  | 0, c => by
    constructor
    · intro _ h; omega
    · intro _
      show bt 0 c = 0
      rw [bt_tb, Nat.zero_testBit]; rfl
  | m + 1, c => by
    have ih := cls_bt (C := C) (b := b) m c
    show bt (if bt b (C (3 * m + 2)) = 0 then clsOf C b m else clsOf C b m ||| 1 * 2 ^ m) c = 0 ↔ _
    split
    · rename_i q
      rw [ih]
      constructor
      · intro h1 h2
        by_cases w : c = m
        · rw [w]; exact q
        · exact h1 (by omega)
      · intro h1 h2; exact h1 (by omega)
    · rename_i q
      rw [bt_or, bt_pow, ih]
      constructor
      · rintro ⟨h1, h2⟩ h3
        exact h1 (by omega)
      · intro h1
        exact ⟨fun h2 => h1 (by omega), fun w => q (by subst w; exact h1 (by omega))⟩
def shS (E : Nat → Nat) (n m : Nat) (C T : Nat → Nat) (e : Nat) : Nat → Nat
  | 0 => 0
  | t + 1 => if bt t e = 0 then shS E n m C T e t + fac (popc t) * fac (n - popc t - 1) * (mxW E n m C (clsOf C (t ||| 1 * 2 ^ e) m) 2 T - mxW E n m C (clsOf C t m) 2 T) else shS E n m C T e t
def shF (C : Nat → Nat) (m e t : Nat) (g : Hp) : Hp := if bt t e = 0 then mstH (mstH g 2 (clsOf C t m)) 2 (clsOf C (t ||| 1 * 2 ^ e) m) else g
theorem and_bt : ∀ t, t < 16 → ∀ e, e < 4 → (t &&& 1 * 2 ^ e = 0 ↔ bt t e = 0) := by decide +kernel
theorem or_lt16 : ∀ t, t < 16 → ∀ e, e < 4 → t ||| 1 * 2 ^ e < 16 := by decide +kernel
theorem cls_lt {C : Nat → Nat} {b : Nat} : ∀ m, m ≤ 5 → clsOf C b m < 32
  | 0, _ => by show 0 < 32; decide
  | m + 1, hm => by
    have := cls_lt (C := C) (b := b) m (by omega)
    show (if bt b (C (3 * m + 2)) = 0 then clsOf C b m else clsOf C b m ||| 1 * 2 ^ m) < 32
    split
    · exact this
    · exact or32 _ this m (by omega)
theorem fac_le : ∀ k, k ≤ 4 → fac k ≤ 24 := by decide +kernel
theorem fac_pos : ∀ k, k ≤ 4 → 0 < fac k := by decide +kernel
theorem shS_le {E C T : Nat → Nat} {n m e : Nat} (hC : ∀ j, C j ≤ 9) (hn : n ≤ 4) : ∀ t, t ≤ 16 → shS E n m C T e t ≤ 20736 * t
  | 0, _ => Nat.le_refl _
  | t + 1, ht => by
    have h1 := shS_le (E := E) (T := T) (e := e) (m := m) hC hn t (by omega)
    have h2 := mxW_le (E := E) (n := n) (m := m) (a := clsOf C (t ||| 1 * 2 ^ e) m) hC 2 T
    have h3 := fac_le (popc t) (popc_le t (by omega))
    have h4 := fac_le (n - popc t - 1) (by omega)
    have h5 : fac (popc t) * fac (n - popc t - 1) ≤ 24 * 24 := Nat.mul_le_mul h3 h4
    have h6 : fac (popc t) * fac (n - popc t - 1) * (mxW E n m C (clsOf C (t ||| 1 * 2 ^ e) m) 2 T - mxW E n m C (clsOf C t m) 2 T) ≤ 24 * 24 * 36 := Nat.mul_le_mul h5 (by omega)
    show (if bt t e = 0 then _ else _) ≤ _
    split <;> omega
theorem sh_mono {E C T : Nat → Nat} {n m e t : Nat} : mxW E n m C (clsOf C t m) 2 T ≤ mxW E n m C (clsOf C (t ||| 1 * 2 ^ e) m) 2 T := by
  refine mxW_mono (fun c hc h1 h2 => h1 ?_) 2 T
  rw [cls_bt] at h2 ⊢
  intro _
  have := h2 hc
  rw [bt_or] at this
  exact this.1
section XSH
variable {V : Vt} {h : Hp}
theorem c_X8_share_u {a u : Nat} (hx : XI h) (ha : a < 2 ^ 32) (hn : ¬ a < h.1 3 2) : Rti V 12 yX8_share cX8_share 8 (some .int) [rf V 0, .int (nI a), .int (nI u)] h (nI 4294967295) h := by
  have h01 : (if a < h.1 3 2 then 1 else 0) = 0 := if_neg hn
  refine Mt_in [some (rf V 0), some (.int (nI a)), some (.int (nI u)), none, none, none, none, none] (own := RX8) rfl (by decide) (Nat.le_of_ble_eq_true rfl) (fun q hq => hq) ?_
  refine g_aload_n0 1 rfl dX8_share_0 ?_
  refine gf_MT_rules 4 rfl fl_RX8_19 dX8_share_1 ?_
  refine g_iload_n1 5 rfl dX8_share_4 ?_
  refine g_cv1i 8 rfl cw_RX8_120 dX8_share_5 (c_X1_hasEnvoy hx.1 ha) (by omega) (ob_3 V) (Nat.le_of_ble_eq_true rfl) ?_
  rw [h01]
  refine gn_if_ne 13 (by decide) 11 rfl dX8_share_8 (by omega) (fun c8 => absurd rfl c8) (fun c8 => ?_)
  refine g_iconst (v := 4294967295) 12 rfl dX8_share_11 (by decide) ?_
  refine g_iret .int dX8_share_12 rfl (rfl) ?_
  exact ⟨rfl, rfl⟩
theorem shF_kp {h : Hp} (hx : XI h) (C : Nat → Nat) (m e : Nat) : ∀ t, KpS h (lpN (shF C m e) h t)
  | 0 => ⟨fun _ _ _ => rfl, rfl, hx⟩
  | t + 1 => by
    have ih := shF_kp hx C m e t
    show KpS h (shF C m e t (lpN (shF C m e) h t))
    unfold shF
    split
    · have h1 := mstH_kp ih.2.2 (n := 2) (by decide) (clsOf C t m)
      exact KpS_tr ih (KpS_tr h1 (mstH_kp h1.2.2 (n := 2) (by decide) _))
    · exact ih
theorem c_X8_share_ok {a u : Nat} (hx : XI h) (hn : a < h.1 3 2) (hu : u < 2) : Rti V 12 yX8_share cX8_share 8 (some .int) [rf V 0, .int (nI a), .int (nI u)] h (nI (frV (shS (h.1 4) (h.1 3 2) (h.1 3 3) (h.1 7) (h.1 (tr 0)) a (1 * 2 ^ h.1 3 2)) (fac (h.1 3 2)) u)) (lpN (shF (h.1 7) (h.1 3 3) a) h (1 * 2 ^ h.1 3 2)) := by
  have h01 : (if a < h.1 3 2 then 1 else 0) = 1 := if_pos hn
  obtain ⟨hE, hC, x4, x5, x7, x8, hTT⟩ := id hx
  have h16 : 1 * 2 ^ h.1 3 2 ≤ 16 := by rw [Nat.one_mul]; exact Nat.pow_le_pow_right (by decide) hE
  have hfl := fac_le (h.1 3 2) hE
  have hfp := fac_pos (h.1 3 2) hE
  refine Mt_in [some (rf V 0), some (.int (nI a)), some (.int (nI u)), none, none, none, none, none] (own := RX8) rfl (by decide) (Nat.le_of_ble_eq_true rfl) (fun q hq => hq) ?_
  refine g_aload_n0 1 rfl dX8_share_0 ?_
  refine gf_MT_rules 4 rfl fl_RX8_19 dX8_share_1 ?_
  refine g_iload_n1 5 rfl dX8_share_4 ?_
  refine g_cv1i 8 rfl cw_RX8_120 dX8_share_5 (c_X1_hasEnvoy hx.1 (by omega)) (by omega) (ob_3 V) (Nat.le_of_ble_eq_true rfl) ?_
  rw [h01]
  refine gn_if_ne 13 (by decide) 11 rfl dX8_share_8 (by omega) (fun c8 => ?_) (fun c8 => absurd c8 (by decide))
  refine g_iconst (v := 1) 14 rfl dX8_share_13 (by decide) ?_
  refine g_iload_n1 15 rfl dX8_share_14 ?_
  refine gn_ishl 16 rfl dX8_share_15 (by omega) ?_
  refine g_istore_n3 17 rfl dX8_share_16 (by decide) rfl ?_
  refine g_iconst (v := 0) 18 rfl dX8_share_17 (by decide) ?_
  refine g_istore4 20 rfl dX8_share_18 (by decide) rfl ?_
  refine g_iconst (v := 0) 21 rfl dX8_share_20 (by decide) ?_
  refine g_istore5 23 rfl dX8_share_21 (by decide) rfl ?_
  skip
  refine loop_up (P := fun t => G V T0 12 RX8 cX8_share 8 (some .int) 23 [some (rf V 0), some (.int (nI a)), some (.int (nI u)), some (.int (nI (1 * 2 ^ a))), some (.int (nI (shS (h.1 4) (h.1 3 2) (h.1 3 3) (h.1 7) (h.1 (tr 0)) a t))), some (.int (nI t)), none, none] [] (lpN (shF (h.1 7) (h.1 3 3) a) h t) _) (n := 1 * 2 ^ h.1 3 2) ?_ (fun t ht ih => ?_) 0 (Nat.zero_le _)
  · have hk := shF_kp hx (h.1 7) (h.1 3 3) a (1 * 2 ^ h.1 3 2)
    have e3 := KpS_lo hk (q := 3) (by decide) (by decide)
    have hsl := shS_le (E := h.1 4) (T := h.1 (tr 0)) (m := h.1 3 3) (e := a) x7 hE (1 * 2 ^ h.1 3 2) h16
    refine g_iload5 25 rfl dX8_share_23 ?_
    refine g_iconst (v := 1) 26 rfl dX8_share_25 (by decide) ?_
    refine g_aload_n0 27 rfl dX8_share_26 ?_
    refine gf_MT_rules 30 rfl fl_RX8_19 dX8_share_27 ?_
    refine gf_Rules_envoys 33 rfl fl_RX8_92 dX8_share_30 ?_
    rw [e3]
    refine gn_ishl 34 rfl dX8_share_33 (by omega) ?_
    refine gn_icmp_ge 115 (by decide) 37 rfl dX8_share_34 (by omega) (by omega) (fun c34 => ?_) (fun c34 => absurd c34 (Nat.lt_irrefl _))
    refine g_iload4 117 rfl dX8_share_115 ?_
    refine g_aload_n0 118 rfl dX8_share_117 ?_
    refine gf_MT_rules 121 rfl fl_RX8_19 dX8_share_118 ?_
    refine gf_Rules_envoys 124 rfl fl_RX8_92 dX8_share_121 ?_
    rw [e3]
    refine g_cs1i 127 rfl cw_RX8_221 dX8_share_124 (c_X8_factorial (by omega)) (by omega) (Nat.le_of_ble_eq_true rfl) ?_
    refine g_iload_n2 128 rfl dX8_share_127 ?_
    refine g_cs3i 131 rfl cw_RX8_224 dX8_share_128 (c_X8_fraction (by omega) (by omega) hfp hu) (by omega) (Nat.le_of_ble_eq_true rfl) ?_
    refine g_iret .int dX8_share_131 rfl (rfl) ?_
    exact ⟨rfl, rfl⟩
  · have hk := shF_kp hx (h.1 7) (h.1 3 3) a t
    have e3 := KpS_lo hk (q := 3) (by decide) (by decide)
    have e4 := KpS_lo hk (q := 4) (by decide) (by decide)
    have e7 := KpS_lo hk (q := 7) (by decide) (by decide)
    have eT := KpS_t hk (i := 0) (by decide)
    have ih : G V T0 12 RX8 cX8_share 8 (some .int) 23 [some (rf V 0), some (.int (nI a)), some (.int (nI u)), some (.int (nI (1 * 2 ^ a))), some (.int (nI (shS (h.1 4) (h.1 3 2) (h.1 3 3) (h.1 7) (h.1 (tr 0)) a (t + 1)))), some (.int (nI (t + 1))), none, none] [] (shF (h.1 7) (h.1 3 3) a t (lpN (shF (h.1 7) (h.1 3 3) a) h t)) _ := ih
    generalize lpN (shF (h.1 7) (h.1 3 3) a) h t = g at hk e3 e4 e7 eT ih ⊢
    have hxg := hk.2.2
    have hk1 := mstH_kp hxg (n := 2) (by decide) (clsOf (h.1 7) t (h.1 3 3))
    have f3 := (KpS_lo hk1 (q := 3) (by decide) (by decide)).trans e3
    have f4 := (KpS_lo hk1 (q := 4) (by decide) (by decide)).trans e4
    have f7 := (KpS_lo hk1 (q := 7) (by decide) (by decide)).trans e7
    have fT := (KpS_t hk1 (i := 0) (by decide)).trans eT
    have hk2 := mstH_kp hk1.2.2 (n := 2) (by decide) (clsOf (h.1 7) (t ||| 1 * 2 ^ a) (h.1 3 3))
    have g3 := (KpS_lo hk2 (q := 3) (by decide) (by decide)).trans f3
    have w1 := mst_w hxg (n := 2) (by decide) (clsOf (h.1 7) t (h.1 3 3))
    have w2 := mst_w hk1.2.2 (n := 2) (by decide) (clsOf (h.1 7) (t ||| 1 * 2 ^ a) (h.1 3 3))
    rw [e3, e4, e7, eT] at w1
    rw [f3, f4, f7, fT] at w2
    have hor := or_lt16 t (by omega) a (by omega)
    have hc1 := cls_lt (C := h.1 7) (b := t) (h.1 3 3) hC
    have hc2 := cls_lt (C := h.1 7) (b := t ||| 1 * 2 ^ a) (h.1 3 3) hC
    have ha2 := and_bt t (by omega) a (by omega)
    refine g_iload5 25 rfl dX8_share_23 ?_
    refine g_iconst (v := 1) 26 rfl dX8_share_25 (by decide) ?_
    refine g_aload_n0 27 rfl dX8_share_26 ?_
    refine gf_MT_rules 30 rfl fl_RX8_19 dX8_share_27 ?_
    refine gf_Rules_envoys 33 rfl fl_RX8_92 dX8_share_30 ?_
    rw [e3]
    refine gn_ishl 34 rfl dX8_share_33 (by omega) ?_
    refine gn_icmp_ge 115 (by decide) 37 rfl dX8_share_34 (by omega) (by omega) (fun c34 => absurd c34 (Nat.not_le_of_lt ht)) (fun c34 => ?_)
    refine g_iload5 39 rfl dX8_share_37 ?_
    refine g_iload_n3 40 rfl dX8_share_39 ?_
    refine gn_iand 41 rfl dX8_share_40 ?_
    refine gn_if_ne 109 (by decide) 44 rfl dX8_share_41 (Nat.lt_of_le_of_lt Nat.and_le_left (by omega)) (fun c41 => ?_) (fun c41 => ?_)
    · refine gn_iinc5 1 112 rfl dX8_share_109 rfl (by decide) rfl ?_
      refine g_goto 23 (by decide) dX8_share_112 ?_
      first
      | (have q : ¬ bt t a = 0 := fun z => c41 (ha2.mpr z)
         rw [show shS _ _ _ _ _ _ (t + 1) = _ from if_neg q, show shF _ _ _ t g = g from if_neg q] at ih; exact ih)
      | (have q : bt t a = 0 := ha2.mp c41
         rw [show shS _ _ _ _ _ _ (t + 1) = _ from if_pos q, show shF _ _ _ t g = _ from if_pos q] at ih
         refine g_none 6 (g_none 7 ?_)
         exact ih)
    · refine g_aload_n0 45 rfl dX8_share_44 ?_
      refine gf_MT_search 48 rfl fl_RX8_59 dX8_share_45 ?_
      refine g_aload_n0 49 rfl dX8_share_48 ?_
      refine gf_MT_table 52 rfl fl_RX8_28 dX8_share_49 ?_
      refine g_iconst (v := 2) 53 rfl dX8_share_52 (by decide) ?_
      refine g_aload_n0 54 rfl dX8_share_53 ?_
      refine gf_MT_rules 57 rfl fl_RX8_19 dX8_share_54 ?_
      refine g_iload5 59 rfl dX8_share_57 ?_
      refine g_cv1i 62 rfl cw_RX8_215 dX8_share_59 (c_X1_clausesOf (by rw [e3]; exact hC) (by omega) (by rw [e7]; exact x8)) (by omega) (ob_3 V) (Nat.le_of_ble_eq_true rfl) ?_
      rw [e3, e7]
      refine g_cv3i 65 rfl cw_RX8_191 dX8_share_62 (c_X3_mostBy hxg (by decide) (by omega)) (by omega) (ob_19 V) (Nat.le_of_ble_eq_true rfl) ?_
      rw [w1]
      refine g_istore6 67 rfl dX8_share_65 (by decide) rfl ?_
      refine g_aload_n0 68 rfl dX8_share_67 ?_
      refine gf_MT_search 71 rfl fl_RX8_59 dX8_share_68 ?_
      refine g_aload_n0 72 rfl dX8_share_71 ?_
      refine gf_MT_table 75 rfl fl_RX8_28 dX8_share_72 ?_
      refine g_iconst (v := 2) 76 rfl dX8_share_75 (by decide) ?_
      refine g_aload_n0 77 rfl dX8_share_76 ?_
      refine gf_MT_rules 80 rfl fl_RX8_19 dX8_share_77 ?_
      refine g_iload5 82 rfl dX8_share_80 ?_
      refine g_iload_n3 83 rfl dX8_share_82 ?_
      refine gn_ior 84 rfl dX8_share_83 ?_
      refine g_cv1i 87 rfl cw_RX8_215 dX8_share_84 (c_X1_clausesOf (by rw [f3]; exact hC) (by omega) (by rw [f7]; exact x8)) (by omega) (ob_3 V) (Nat.le_of_ble_eq_true rfl) ?_
      rw [f3, f7]
      refine g_cv3i 90 rfl cw_RX8_191 dX8_share_87 (c_X3_mostBy hk1.2.2 (by decide) (by omega)) (by omega) (ob_19 V) (Nat.le_of_ble_eq_true rfl) ?_
      rw [w2]
      refine g_istore7 92 rfl dX8_share_90 (by decide) rfl ?_
      refine g_iload4 94 rfl dX8_share_92 ?_
      refine g_aload_n0 95 rfl dX8_share_94 ?_
      refine g_iload5 97 rfl dX8_share_95 ?_
      refine g_cv1i 100 rfl cw_RX8_218 dX8_share_97 (c_X8_ordersWith (e := a) (by rw [g3]; exact hE) (by rw [g3]; omega) (by rw [g3]; exact hn) (ha2.mp c41)) (by omega) (ob_0 V) (Nat.le_of_ble_eq_true rfl) ?_
      rw [g3]
      refine g_iload7 102 rfl dX8_share_100 ?_
      refine g_iload6 104 rfl dX8_share_102 ?_
      refine gn_isub 105 rfl dX8_share_104 (sh_mono) ?_
      refine gn_imul 106 rfl dX8_share_105 ?_
      refine gn_iadd 107 rfl dX8_share_106 ?_
      refine g_istore4 109 rfl dX8_share_107 (by decide) rfl ?_
      refine gn_iinc5 1 112 rfl dX8_share_109 rfl (by decide) rfl ?_
      refine g_goto 23 (by decide) dX8_share_112 ?_
      first
      | (have q : ¬ bt t a = 0 := fun z => c41 (ha2.mpr z)
         rw [show shS _ _ _ _ _ _ (t + 1) = _ from if_neg q, show shF _ _ _ t g = g from if_neg q] at ih; exact ih)
      | (have q : bt t a = 0 := ha2.mp c41
         rw [show shS _ _ _ _ _ _ (t + 1) = _ from if_pos q, show shF _ _ _ t g = _ from if_pos q] at ih
         refine g_none 6 (g_none 7 ?_)
         exact ih)
end XSH
