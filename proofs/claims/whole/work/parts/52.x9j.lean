/-! the reference: a part, the whole text -/
theorem fitP_0 {B : Nat → Nat} {k e c : Nat} : fitP B (4 * k + 3) e c = decide ((B (4 * k + 3) = 69 ∧ e < 4) ∨ (B (4 * k + 3) = 67 ∧ c < 5 ∧ 0 < e)) := by
  unfold fitP
  rw [if_neg (by omega), if_neg (by omega), if_pos (by omega)]
theorem fitP_i {B : Nat → Nat} {k e c i : Nat} (hi : i < 3) : fitP B (4 * k + 4 + i) e c = if B (4 * k + 3) = 69 then fitE (i + 1) (B (4 * k + 4 + i)) else fitC (i + 1) (B (4 * k + 4 + i)) e := by
  unfold fitP
  rw [if_neg (by omega), if_neg (by omega), if_neg (by omega), show (4 * k + 4 + i - 3) % 4 = i + 1 by omega, show 4 * k + 4 + i - (i + 1) = 4 * k + 3 by omega]
theorem cnt_s {B : Nat → Nat} {p : Nat} (hp : ¬ (3 ≤ p ∧ (p - 3) % 4 = 3)) : cntE B (p + 1) = cntE B p ∧ cntC B (p + 1) = cntC B p := by
  have e : endP p = false := decide_eq_false hp
  constructor
  · show (if endP p then _ else _) = _
    rw [e]; rfl
  · show (if endP p then _ else _) = _
    rw [e]; rfl
theorem cnt_in {B : Nat → Nat} {k : Nat} : ∀ i, i < 4 → cntE B (4 * k + 3 + i) = cntE B (4 * k + 3) ∧ cntC B (4 * k + 3 + i) = cntC B (4 * k + 3)
  | 0, _ => ⟨rfl, rfl⟩
  | i + 1, hi => by
    have a := cnt_in (B := B) (k := k) i (by omega)
    have b := cnt_s (B := B) (p := 4 * k + 3 + i) (by omega)
    exact ⟨b.1.trans a.1, b.2.trans a.2⟩
theorem cnt_end {B : Nat → Nat} {k : Nat} : cntE B (4 * k + 7) = (if B (4 * k + 3) = 69 then cntE B (4 * k + 3) + 1 else cntE B (4 * k + 3)) ∧ cntC B (4 * k + 7) = (if B (4 * k + 3) = 69 then cntC B (4 * k + 3) else cntC B (4 * k + 3) + 1) := by
  have a := cnt_in (B := B) (k := k) 3 (by omega)
  have e : endP (4 * k + 6) = true := decide_eq_true (by omega)
  constructor
  · show (if endP (4 * k + 6) then (if B (4 * k + 6 - 3) = 69 then cntE B (4 * k + 6) + 1 else cntE B (4 * k + 6)) else _) = _
    rw [if_pos e, show 4 * k + 6 - 3 = 4 * k + 3 by omega, show cntE B (4 * k + 6) = cntE B (4 * k + 3) from a.1]
  · show (if endP (4 * k + 6) then (if B (4 * k + 6 - 3) = 69 then cntC B (4 * k + 6) else cntC B (4 * k + 6) + 1) else _) = _
    rw [if_pos e, show 4 * k + 6 - 3 = 4 * k + 3 by omega, show cntC B (4 * k + 6) = cntC B (4 * k + 3) from a.2]
theorem cnt_3 {B : Nat → Nat} : cntE B 3 = 0 ∧ cntC B 3 = 0 := ⟨rfl, rfl⟩
theorem ffr_s {B : Nat → Nat} {p : Nat} (h : ffr B p = none) (hf : fitP B p (cntE B p) (cntC B p) = true) : ffr B (p + 1) = none := by
  simp only [ffr, h]
  exact if_pos hf
theorem ffr_f {B : Nat → Nat} {p : Nat} (h : ffr B p = none) (hf : fitP B p (cntE B p) (cntC B p) = false) : ffr B (p + 1) = some p := by
  simp only [ffr, h]
  exact if_neg (by rw [hf]; decide)
theorem ffr_dn {B : Nat → Nat} {p q : Nat} (h : ffr B q = none) (hp : p ≤ q) : ffr B p = none := by
  cases hz : ffr B p with
  | none => rfl
  | some w => rw [ffr_mono hz q hp] at h; cases h
theorem ffV_at {B : Nat → Nat} {p len : Nat} (h : ffr B p = none) (hs : (p = len ∧ ¬ (3 ≤ len ∧ (len - 3) % 4 = 0)) ∨ (p < len ∧ fitP B p (cntE B p) (cntC B p) = false)) : ffV B len = p := by
  unfold ffV
  rcases hs with ⟨rfl, w⟩ | ⟨w, f⟩
  · rw [h]; exact if_neg w
  · rw [ffr_mono (ffr_f h f) len w]
theorem ffr_run {B : Nat → Nat} {k : Nat} (h : ffr B (4 * k + 3) = none) : ∀ j, j ≤ 4 → (∀ i, i < j → fitP B (4 * k + 3 + i) (cntE B (4 * k + 3)) (cntC B (4 * k + 3)) = true) → ffr B (4 * k + 3 + j) = none
  | 0, _, _ => h
  | j + 1, hj, hf => by
    have a := ffr_run h j (by omega) (fun i hi => hf i (by omega))
    have c := cnt_in (B := B) (k := k) j (by omega)
    have f : fitP B (4 * k + 3 + j) (cntE B (4 * k + 3 + j)) (cntC B (4 * k + 3 + j)) = true := by rw [c.1, c.2]; exact hf j (by omega)
    exact ffr_s a f
theorem part_no {B : Nat → Nat} {k j len : Nat} (h : ffr B (4 * k + 3) = none) (hj : j ≤ 3) (hf : ∀ i, i < j → fitP B (4 * k + 3 + i) (cntE B (4 * k + 3)) (cntC B (4 * k + 3)) = true) (hs : (4 * k + 3 + j = len ∧ 1 ≤ j) ∨ (4 * k + 3 + j < len ∧ fitP B (4 * k + 3 + j) (cntE B (4 * k + 3)) (cntC B (4 * k + 3)) = false)) : ffV B len = 4 * k + 3 + j := by
  have a := ffr_run h j (by omega) hf
  have c := cnt_in (B := B) (k := k) j (by omega)
  refine ffV_at a ?_
  rcases hs with ⟨w, w2⟩ | ⟨w, f⟩
  · exact .inl ⟨w, by omega⟩
  · exact .inr ⟨w, by rw [c.1, c.2]; exact f⟩
/-- what the told rules hold, part after part -/
theorem tl_cnt {B : Nat → Nat} {z : Hp} : ∀ k, ffr B (4 * k + 3) = none → (tlH B z k).1 3 2 = cntE B (4 * k + 3) ∧ (tlH B z k).1 3 3 = cntC B (4 * k + 3)
  | 0, _ => by
    unfold tlH
    rw [sR_s, up_n (by decide), up_s, up_s]
    exact ⟨rfl, rfl⟩
  | k + 1, h => by
    have h0 := ffr_dn h (show 4 * k + 3 ≤ 4 * (k + 1) + 3 by omega)
    have ih := tl_cnt (z := z) k h0
    have hf := ffr_none h (4 * k + 3) (by omega)
    rw [fitP_0] at hf
    have hf := of_decide_eq_true hf
    have ce := cnt_end (B := B) (k := k)
    rw [show 4 * (k + 1) + 3 = 4 * k + 7 by omega, ce.1, ce.2]
    unfold tlH
    by_cases w : B (4 * k + 3) = 69
    · rw [if_pos w, if_pos w, if_pos w]
      unfold addE
      rw [if_pos (by omega), sR_s, up_s, up_n (by decide)]
      exact ⟨by rw [ih.1], ih.2⟩
    · rw [if_neg w, if_neg w, if_neg w]
      unfold addC
      rw [if_pos (by omega), sR_s, up_s, up_n (by decide)]
      exact ⟨ih.1, by rw [ih.2]⟩
theorem cnt_lim {B : Nat → Nat} : ∀ k, ffr B (4 * k + 3) = none → cntE B (4 * k + 3) ≤ 4 ∧ cntC B (4 * k + 3) ≤ 5 := fun k h => by
  have a := tl_cnt (B := B) (z := (fun _ _ => 0, fun _ => 0)) k h
  have b := tlH_n (B := B) (h := (fun _ _ => 0, fun _ => 0)) k
  rw [← a.1, ← a.2]; exact b
/-- what reading leaves alone -/
def Rd (h g : Hp) : Prop := g.2 = h.2 ∧ (∀ q, q ≠ 22 → q ≠ 26 → q ≠ 27 → g.1 q = h.1 q) ∧ ∀ o, o ≠ 3 → o ≠ 8 → o ≠ 9 → o ≠ 10 → o ≠ 12 → g.1 22 o = h.1 22 o
theorem Rd_r (h : Hp) : Rd h h := ⟨rfl, fun _ _ _ _ => rfl, fun _ _ _ _ _ _ => rfl⟩
theorem Rd_t {h g k : Hp} (a : Rd h g) (b : Rd g k) : Rd h k := ⟨b.1.trans a.1, fun q h1 h2 h3 => (b.2.1 q h1 h2 h3).trans (a.2.1 q h1 h2 h3), fun o h1 h2 h3 h4 h5 => (b.2.2 o h1 h2 h3 h4 h5).trans (a.2.2 o h1 h2 h3 h4 h5)⟩
theorem Rd_up {h : Hp} {o v : Nat} (ho : o = 3 ∨ o = 8 ∨ o = 9 ∨ o = 10 ∨ o = 12) : Rd h (sR h 22 (up (h.1 22) o v)) := ⟨rfl, fun q h1 _ _ => sR_n h1, fun a h1 h2 h3 h4 h5 => by rw [sR_s, up_n (by omega)]⟩
theorem Rd_26 {h : Hp} {f : Nat → Nat} : Rd h (sR h 26 f) := ⟨rfl, fun q _ h2 _ => sR_n h2, fun a _ _ _ _ _ => by rw [sR_n (by decide)]⟩
theorem Rd_27 {h : Hp} {f : Nat → Nat} : Rd h (sR h 27 f) := ⟨rfl, fun q _ _ h3 => sR_n h3, fun a _ _ _ _ _ => by rw [sR_n (by decide)]⟩
theorem Rd_pl {h : Hp} {p : Nat} : Rd h (pl h p) := Rd_up (.inl rfl)
theorem Rd_rdE {h : Hp} {p : Nat} : Rd h (rdE h p) := by
  unfold rdE
  refine ⟨rfl, fun q h1 h2 h3 => ?_, fun o h1 h2 h3 h4 h5 => ?_⟩
  · rw [sR_n h1, sR_n h2]
  · rw [sR_s, up_n h4, up_n h1]
theorem Rd_rdC {h : Hp} {p : Nat} : Rd h (rdC h p) := by
  unfold rdC
  refine ⟨rfl, fun q h1 h2 h3 => ?_, fun o h1 h2 h3 h4 h5 => ?_⟩
  · rw [sR_n h1, sR_n h3]
  · rw [sR_s, up_n h5, up_n h1]
def RI (z : Hp) (B : Nat → Nat) (k : Nat) (g : Hp) : Prop := g.1 22 3 = 4 * k + 3 ∧ g.1 22 8 = B 1 - 48 ∧ g.1 22 9 = B 2 - 48 ∧ g.1 22 10 = (tlH B z k).1 3 2 ∧ g.1 22 12 = (tlH B z k).1 3 3 ∧ (∀ j, j < 3 * g.1 22 10 → g.1 26 j = (tlH B z k).1 4 j) ∧ (∀ j, j < 3 * g.1 22 12 → g.1 27 j = (tlH B z k).1 7 j)
theorem RI_E {z : Hp} {B : Nat → Nat} {k : Nat} {g : Hp} (h : RI z B k g) (hb : g.1 23 = B) (h69 : B (4 * k + 3) = 69) (he : g.1 22 10 < 4) : RI z B (k + 1) (rdE g (4 * k + 4)) := by
  obtain ⟨a1, a2, a3, a4, a5, a6, a7⟩ := h
  have et : tlH B z (k + 1) = addE (tlH B z k) (B (4 * k + 3 + 1) - 48) (B (4 * k + 3 + 2) - 48) (B (4 * k + 3 + 3) - 48) := if_pos h69
  unfold addE at et
  rw [← a4, if_pos he] at et
  unfold RI rdE
  rw [et, hb]
  simp only [sR_s, sR_n (show 26 ≠ 22 by decide), sR_n (show 27 ≠ 22 by decide), sR_n (show 27 ≠ 26 by decide), sR_n (show 4 ≠ 3 by decide), sR_n (show 7 ≠ 3 by decide), sR_n (show 7 ≠ 4 by decide)]
  refine ⟨?_, ?_, ?_, ?_, ?_, ?_, ?_⟩
  · rw [up_n (by decide), up_s]; omega
  · rw [up_n (by decide), up_n (by decide)]; exact a2
  · rw [up_n (by decide), up_n (by decide)]; exact a3
  · rw [up_s, up_s]
  · rw [up_n (by decide), up_n (by decide), up_n (by decide)]; exact a5
  · intro j hj
    rw [up_s] at hj
    simp only [up]
    rw [show 4 * k + 4 = 4 * k + 3 + 1 by omega, show 4 * k + 3 + 1 + 1 = 4 * k + 3 + 2 by omega, show 4 * k + 3 + 1 + 2 = 4 * k + 3 + 3 by omega]
    have := a6 j
    grind
  · intro j hj
    rw [up_n (by decide), up_n (by decide)] at hj
    exact a7 j hj
theorem RI_C {z : Hp} {B : Nat → Nat} {k : Nat} {g : Hp} (h : RI z B k g) (hb : g.1 23 = B) (h69 : ¬ B (4 * k + 3) = 69) (he : g.1 22 12 < 5) : RI z B (k + 1) (rdC g (4 * k + 4)) := by
  obtain ⟨a1, a2, a3, a4, a5, a6, a7⟩ := h
  have et : tlH B z (k + 1) = addC (tlH B z k) (B (4 * k + 3 + 1) - 48) (B (4 * k + 3 + 2) - 48) (B (4 * k + 3 + 3) - 48) := if_neg h69
  unfold addC at et
  rw [← a5, if_pos he] at et
  unfold RI rdC
  rw [et, hb]
  simp only [sR_s, sR_n (show 26 ≠ 22 by decide), sR_n (show 27 ≠ 22 by decide), sR_n (show 26 ≠ 27 by decide), sR_n (show 4 ≠ 3 by decide), sR_n (show 7 ≠ 3 by decide), sR_n (show 4 ≠ 7 by decide)]
  refine ⟨?_, ?_, ?_, ?_, ?_, ?_, ?_⟩
  · rw [up_n (by decide), up_s]; omega
  · rw [up_n (by decide), up_n (by decide)]; exact a2
  · rw [up_n (by decide), up_n (by decide)]; exact a3
  · rw [up_n (by decide), up_n (by decide), up_n (by decide)]; exact a4
  · rw [up_s, up_s]
  · intro j hj
    rw [up_n (by decide), up_n (by decide)] at hj
    exact a6 j hj
  · intro j hj
    rw [up_s] at hj
    simp only [up]
    rw [show 4 * k + 4 = 4 * k + 3 + 1 by omega, show 4 * k + 3 + 1 + 1 = 4 * k + 3 + 2 by omega, show 4 * k + 3 + 1 + 2 = 4 * k + 3 + 3 by omega]
    have := a7 j
    grind
section X9j
variable {V : Vt} {h : Hp}
theorem c_X9_readPart_0 {p : Nat} (hp : p < 48) (hB : ∀ j, h.1 23 j ≤ 255) (he : h.1 22 10 ≤ 4) (hc : h.1 22 12 ≤ 5) (hf : ¬ ((h.1 23 p = 69 ∧ h.1 22 10 < 4) ∨ (h.1 23 p = 67 ∧ h.1 22 12 < 5 ∧ 0 < h.1 22 10))) : Rti V 4 yX9_readPart cX9_readPart 2 (some .boolean) [rf V 22] (pl h p) (nI 0) (pl h p) := by
  have hb := hB p
  have K : G V T0 4 RX9 cX9_readPart 2 (some .boolean) 65 [some (rf V 22), some (.int (nI (h.1 23 p)))] [] (pl h (p + 1)) (fun v g => v = some (.int (nI 0)) ∧ g = pl h p) := by
    refine g_aload_n0 66 rfl dX9_readPart_65 ?_
    refine g_dup 67 rfl dX9_readPart_66 rfl ?_
    refine gf_Model_place 70 rfl fl_RX9_72 dX9_readPart_67 ?_
    rw [pl_3]
    refine g_iconst (v := 1) 71 rfl dX9_readPart_70 (by decide) ?_
    refine gn_isub 72 rfl dX9_readPart_71 (by omega) ?_
    refine gp_Model_place 75 rfl fl_RX9_72 dX9_readPart_72 ?_
    rw [pl_pl, show p + 1 - 1 = p by omega]
    refine g_iconst (v := 0) 76 rfl dX9_readPart_75 (by decide) ?_
    refine g_iret .boolean dX9_readPart_76 rfl (rfl) ?_
    exact ⟨rfl, rfl⟩
  have K2 : G V T0 4 RX9 cX9_readPart 2 (some .boolean) 39 [some (rf V 22), some (.int (nI (h.1 23 p)))] [] (pl h (p + 1)) (fun v g => v = some (.int (nI 0)) ∧ g = pl h p) := by
    by_cases c1 : h.1 23 p = 67
    · by_cases c2 : 0 < h.1 22 10
      · refine g_iload_n1 40 rfl dX9_readPart_39 ?_
        refine g_bipush (v := 67) 42 rfl dX9_readPart_40 (by decide) ?_
        refine gn_icmp_ne 65 (by decide) 45 rfl dX9_readPart_42 (by omega) (by omega) (fun c42 => absurd c1 c42) (fun c42 => ?_)
        refine g_aload_n0 46 rfl dX9_readPart_45 ?_
        refine gf_Model_readEnvoys 49 rfl fl_RX9_79 dX9_readPart_46 ?_
        rw [pl_22 (by decide)]
        refine gn_if_le 65 (by decide) 52 rfl dX9_readPart_49 (by omega) (fun c49 => absurd c49 (by omega)) (fun c49 => ?_)
        refine g_aload_n0 53 rfl dX9_readPart_52 ?_
        refine gf_Model_readClauses 56 rfl fl_RX9_82 dX9_readPart_53 ?_
        refine g_iconst (v := 5) 57 rfl dX9_readPart_56 (by decide) ?_
        rw [pl_22 (by decide)]
        refine gn_icmp_ge 65 (by decide) 60 rfl dX9_readPart_57 (by omega) (by omega) (fun c57 => ?_) (fun c57 => absurd c57 (by omega))
        exact K
      · refine g_iload_n1 40 rfl dX9_readPart_39 ?_
        refine g_bipush (v := 67) 42 rfl dX9_readPart_40 (by decide) ?_
        refine gn_icmp_ne 65 (by decide) 45 rfl dX9_readPart_42 (by omega) (by omega) (fun c42 => absurd c1 c42) (fun c42 => ?_)
        refine g_aload_n0 46 rfl dX9_readPart_45 ?_
        refine gf_Model_readEnvoys 49 rfl fl_RX9_79 dX9_readPart_46 ?_
        rw [pl_22 (by decide)]
        refine gn_if_le 65 (by decide) 52 rfl dX9_readPart_49 (by omega) (fun c49 => ?_) (fun c49 => absurd c49 (by omega))
        exact K
    · refine g_iload_n1 40 rfl dX9_readPart_39 ?_
      refine g_bipush (v := 67) 42 rfl dX9_readPart_40 (by decide) ?_
      refine gn_icmp_ne 65 (by decide) 45 rfl dX9_readPart_42 (by omega) (by omega) (fun c42 => ?_) (fun c42 => absurd c42 c1)
      exact K
  refine Mt_in [some (rf V 22), none] (own := RX9) rfl (by decide) (Nat.le_of_ble_eq_true rfl) (fun q hq => hq) ?_
  by_cases c1 : h.1 23 p = 69
  · refine g_aload_n0 1 rfl dX9_readPart_0 ?_
    refine gf_Model_text 4 rfl fl_RX9_7 dX9_readPart_1 ?_
    refine g_aload_n0 5 rfl dX9_readPart_4 ?_
    refine gf_Model_place 8 rfl fl_RX9_72 dX9_readPart_5 ?_
    rw [pl_3]
    refine ga_23 9 rfl (by omega) dX9_readPart_8 ?_
    rw [pl_o (by decide)]
    refine g_istore_n1 10 rfl dX9_readPart_9 (by decide) rfl ?_
    refine g_aload_n0 11 rfl dX9_readPart_10 ?_
    refine g_dup 12 rfl dX9_readPart_11 rfl ?_
    refine gf_Model_place 15 rfl fl_RX9_72 dX9_readPart_12 ?_
    rw [pl_3]
    refine g_iconst (v := 1) 16 rfl dX9_readPart_15 (by decide) ?_
    refine gn_iadd 17 rfl dX9_readPart_16 ?_
    refine gp_Model_place 20 rfl fl_RX9_72 dX9_readPart_17 ?_
    rw [pl_pl]
    refine g_iload_n1 21 rfl dX9_readPart_20 ?_
    refine g_bipush (v := 69) 23 rfl dX9_readPart_21 (by decide) ?_
    refine gn_icmp_ne 39 (by decide) 26 rfl dX9_readPart_23 (by omega) (by omega) (fun c23 => absurd c1 c23) (fun c23 => ?_)
    refine g_aload_n0 27 rfl dX9_readPart_26 ?_
    refine gf_Model_readEnvoys 30 rfl fl_RX9_79 dX9_readPart_27 ?_
    refine g_iconst (v := 4) 31 rfl dX9_readPart_30 (by decide) ?_
    rw [pl_22 (by decide)]
    refine gn_icmp_ge 39 (by decide) 34 rfl dX9_readPart_31 (by omega) (by omega) (fun c31 => ?_) (fun c31 => absurd c31 (by omega))
    exact K2
  · refine g_aload_n0 1 rfl dX9_readPart_0 ?_
    refine gf_Model_text 4 rfl fl_RX9_7 dX9_readPart_1 ?_
    refine g_aload_n0 5 rfl dX9_readPart_4 ?_
    refine gf_Model_place 8 rfl fl_RX9_72 dX9_readPart_5 ?_
    rw [pl_3]
    refine ga_23 9 rfl (by omega) dX9_readPart_8 ?_
    rw [pl_o (by decide)]
    refine g_istore_n1 10 rfl dX9_readPart_9 (by decide) rfl ?_
    refine g_aload_n0 11 rfl dX9_readPart_10 ?_
    refine g_dup 12 rfl dX9_readPart_11 rfl ?_
    refine gf_Model_place 15 rfl fl_RX9_72 dX9_readPart_12 ?_
    rw [pl_3]
    refine g_iconst (v := 1) 16 rfl dX9_readPart_15 (by decide) ?_
    refine gn_iadd 17 rfl dX9_readPart_16 ?_
    refine gp_Model_place 20 rfl fl_RX9_72 dX9_readPart_17 ?_
    rw [pl_pl]
    refine g_iload_n1 21 rfl dX9_readPart_20 ?_
    refine g_bipush (v := 69) 23 rfl dX9_readPart_21 (by decide) ?_
    refine gn_icmp_ne 39 (by decide) 26 rfl dX9_readPart_23 (by omega) (by omega) (fun c23 => ?_) (fun c23 => absurd c23 c1)
    exact K2
theorem c_X9_readPart_E {p x : Nat} {g : Hp} (hp : p < 48) (c1 : h.1 23 p = 69) (he : h.1 22 10 < 4) (hx : x < 2) (hM : Rti V 3 yX9_readEnvoy cX9_readEnvoy 4 (some .boolean) [rf V 22] (pl h (p + 1)) (nI x) g) : Rti V 4 yX9_readPart cX9_readPart 2 (some .boolean) [rf V 22] (pl h p) (nI x) g := by
  refine Mt_in [some (rf V 22), none] (own := RX9) rfl (by decide) (Nat.le_of_ble_eq_true rfl) (fun q hq => hq) ?_
  refine g_aload_n0 1 rfl dX9_readPart_0 ?_
  refine gf_Model_text 4 rfl fl_RX9_7 dX9_readPart_1 ?_
  refine g_aload_n0 5 rfl dX9_readPart_4 ?_
  refine gf_Model_place 8 rfl fl_RX9_72 dX9_readPart_5 ?_
  rw [pl_3]
  refine ga_23 9 rfl (by omega) dX9_readPart_8 ?_
  rw [pl_o (by decide)]
  refine g_istore_n1 10 rfl dX9_readPart_9 (by decide) rfl ?_
  refine g_aload_n0 11 rfl dX9_readPart_10 ?_
  refine g_dup 12 rfl dX9_readPart_11 rfl ?_
  refine gf_Model_place 15 rfl fl_RX9_72 dX9_readPart_12 ?_
  rw [pl_3]
  refine g_iconst (v := 1) 16 rfl dX9_readPart_15 (by decide) ?_
  refine gn_iadd 17 rfl dX9_readPart_16 ?_
  refine gp_Model_place 20 rfl fl_RX9_72 dX9_readPart_17 ?_
  rw [pl_pl]
  refine g_iload_n1 21 rfl dX9_readPart_20 ?_
  refine g_bipush (v := 69) 23 rfl dX9_readPart_21 (by decide) ?_
  refine gn_icmp_ne 39 (by decide) 26 rfl dX9_readPart_23 (by omega) (by omega) (fun c23 => absurd c1 c23) (fun c23 => ?_)
  refine g_aload_n0 27 rfl dX9_readPart_26 ?_
  refine gf_Model_readEnvoys 30 rfl fl_RX9_79 dX9_readPart_27 ?_
  refine g_iconst (v := 4) 31 rfl dX9_readPart_30 (by decide) ?_
  rw [pl_22 (by decide)]
  refine gn_icmp_ge 39 (by decide) 34 rfl dX9_readPart_31 (by omega) (by omega) (fun c31 => absurd c31 (by omega)) (fun c31 => ?_)
  refine g_aload_n0 35 rfl dX9_readPart_34 ?_
  refine g_cv0i 38 rfl cw_RX9_85 dX9_readPart_35 (hM) (by omega) (ob_22 V) (Nat.le_of_ble_eq_true rfl) ?_
  refine g_iret .boolean dX9_readPart_38 rfl (nar2 hx) ?_
  exact ⟨rfl, rfl⟩
theorem c_X9_readPart_C {p x : Nat} {g : Hp} (hp : p < 48) (c1 : h.1 23 p = 67) (he : 0 < h.1 22 10 ∧ h.1 22 10 ≤ 4) (hc : h.1 22 12 < 5) (hx : x < 2) (hM : Rti V 3 yX9_readClause cX9_readClause 4 (some .boolean) [rf V 22] (pl h (p + 1)) (nI x) g) : Rti V 4 yX9_readPart cX9_readPart 2 (some .boolean) [rf V 22] (pl h p) (nI x) g := by
  refine Mt_in [some (rf V 22), none] (own := RX9) rfl (by decide) (Nat.le_of_ble_eq_true rfl) (fun q hq => hq) ?_
  refine g_aload_n0 1 rfl dX9_readPart_0 ?_
  refine gf_Model_text 4 rfl fl_RX9_7 dX9_readPart_1 ?_
  refine g_aload_n0 5 rfl dX9_readPart_4 ?_
  refine gf_Model_place 8 rfl fl_RX9_72 dX9_readPart_5 ?_
  rw [pl_3]
  refine ga_23 9 rfl (by omega) dX9_readPart_8 ?_
  rw [pl_o (by decide)]
  refine g_istore_n1 10 rfl dX9_readPart_9 (by decide) rfl ?_
  refine g_aload_n0 11 rfl dX9_readPart_10 ?_
  refine g_dup 12 rfl dX9_readPart_11 rfl ?_
  refine gf_Model_place 15 rfl fl_RX9_72 dX9_readPart_12 ?_
  rw [pl_3]
  refine g_iconst (v := 1) 16 rfl dX9_readPart_15 (by decide) ?_
  refine gn_iadd 17 rfl dX9_readPart_16 ?_
  refine gp_Model_place 20 rfl fl_RX9_72 dX9_readPart_17 ?_
  rw [pl_pl]
  refine g_iload_n1 21 rfl dX9_readPart_20 ?_
  refine g_bipush (v := 69) 23 rfl dX9_readPart_21 (by decide) ?_
  refine gn_icmp_ne 39 (by decide) 26 rfl dX9_readPart_23 (by omega) (by omega) (fun c23 => ?_) (fun c23 => absurd c23 (by omega))
  refine g_iload_n1 40 rfl dX9_readPart_39 ?_
  refine g_bipush (v := 67) 42 rfl dX9_readPart_40 (by decide) ?_
  refine gn_icmp_ne 65 (by decide) 45 rfl dX9_readPart_42 (by omega) (by omega) (fun c42 => absurd c1 c42) (fun c42 => ?_)
  refine g_aload_n0 46 rfl dX9_readPart_45 ?_
  refine gf_Model_readEnvoys 49 rfl fl_RX9_79 dX9_readPart_46 ?_
  rw [pl_22 (by decide)]
  refine gn_if_le 65 (by decide) 52 rfl dX9_readPart_49 (by omega) (fun c49 => absurd c49 (by omega)) (fun c49 => ?_)
  refine g_aload_n0 53 rfl dX9_readPart_52 ?_
  refine gf_Model_readClauses 56 rfl fl_RX9_82 dX9_readPart_53 ?_
  refine g_iconst (v := 5) 57 rfl dX9_readPart_56 (by decide) ?_
  rw [pl_22 (by decide)]
  refine gn_icmp_ge 65 (by decide) 60 rfl dX9_readPart_57 (by omega) (by omega) (fun c57 => absurd c57 (by omega)) (fun c57 => ?_)
  refine g_aload_n0 61 rfl dX9_readPart_60 ?_
  refine g_cv0i 64 rfl cw_RX9_88 dX9_readPart_61 (hM) (by omega) (ob_22 V) (Nat.le_of_ble_eq_true rfl) ?_
  refine g_iret .boolean dX9_readPart_64 rfl (nar2 hx) ?_
  exact ⟨rfl, rfl⟩
/-- a part: the next, or where it fails -/
theorem c_X9_readPart {z : Hp} {B : Nat → Nat} {k : Nat} (hb : h.1 23 = B) (hB : ∀ j, B j ≤ 255) (hl : h.1 22 2 ≤ 48) (hp : 4 * k + 3 < h.1 22 2) (hf : ffr B (4 * k + 3) = none) (hr : RI z B k h) : (∃ g, Rti V 4 yX9_readPart cX9_readPart 2 (some .boolean) [rf V 22] h (nI 1) g ∧ Rd h g ∧ RI z B (k + 1) g ∧ ffr B (4 * (k + 1) + 3) = none ∧ 4 * (k + 1) + 3 ≤ h.1 22 2) ∨ (∃ g, Rti V 4 yX9_readPart cX9_readPart 2 (some .boolean) [rf V 22] h (nI 0) g ∧ Rd h g ∧ ffV B (h.1 22 2) = g.1 22 3 ∧ g.1 22 3 ≤ 48) := by
  subst hb
  have hc := tl_cnt (z := z) k hf
  have hm := cnt_lim k hf
  have e0 : pl h (4 * k + 3) = h := by rw [← hr.1]; exact pl_0 h
  have e4 := hr.2.2.2.1
  have e5 := hr.2.2.2.2.1
  rw [hc.1] at e4
  rw [hc.2] at e5
  by_cases w : (h.1 23 (4 * k + 3) = 69 ∧ h.1 22 10 < 4) ∨ (h.1 23 (4 * k + 3) = 67 ∧ h.1 22 12 < 5 ∧ 0 < h.1 22 10)
  · have f0 : fitP (h.1 23) (4 * k + 3) (cntE (h.1 23) (4 * k + 3)) (cntC (h.1 23) (4 * k + 3)) = true := by
      rw [fitP_0, ← e4, ← e5]; exact decide_eq_true w
    by_cases w1 : h.1 23 (4 * k + 3) = 69
    · have he : h.1 22 10 < 4 := by omega
      have fi : ∀ i, i < 3 → fitP (h.1 23) (4 * k + 4 + i) (cntE (h.1 23) (4 * k + 3)) (cntC (h.1 23) (4 * k + 3)) = fitE (i + 1) (h.1 23 (4 * k + 4 + i)) := fun i hi => by rw [fitP_i hi, if_pos w1]
      rcases Sto_all (fun i => fitE (i + 1) (h.1 23 (4 * k + 4 + i))) (4 * k + 4) (h.1 22 2) (by omega) with ⟨j, hj, hs⟩ | ⟨hn, ha⟩
      · have M := c_X9_readPart_E (V := V) (h := h) (by omega) w1 he (by decide) (c_X9_readEnvoy_no (p := 4 * k + 4) hl hB hj hs)
        rw [e0] at M
        refine .inr ⟨_, M, Rd_pl, ?_, ?_⟩
        · rw [pl_3, show 4 * k + 4 + j = 4 * k + 3 + (j + 1) by omega]
          refine part_no hf (by omega) (fun i hi => ?_) ?_
          · by_cases q : i = 0
            · rw [q]; exact f0
            · obtain ⟨i', rfl⟩ : ∃ i', i = i' + 1 := ⟨i - 1, by omega⟩
              rw [show 4 * k + 3 + (i' + 1) = 4 * k + 4 + i' by omega, fi i' (by omega)]
              exact (hs.1 i' (by omega)).2
          · rcases hs.2 with u | u
            · exact .inl ⟨by omega, by omega⟩
            · refine .inr ⟨by omega, ?_⟩
              rw [show 4 * k + 3 + (j + 1) = 4 * k + 4 + j by omega, fi j hj]; exact u.2
        · rw [pl_3]; rcases hs.2 with u | u <;> omega
      · have M := c_X9_readPart_E (V := V) (h := h) (by omega) w1 he (by decide) (c_X9_readEnvoy_ok (p := 4 * k + 4) hl he hn ha)
        rw [e0] at M
        refine .inl ⟨_, M, Rd_rdE, RI_E hr rfl w1 he, ?_, by omega⟩
        refine ffr_run hf 4 (by omega) (fun i hi => ?_)
        by_cases q : i = 0
        · rw [q]; exact f0
        · obtain ⟨i', rfl⟩ : ∃ i', i = i' + 1 := ⟨i - 1, by omega⟩
          rw [show 4 * k + 3 + (i' + 1) = 4 * k + 4 + i' by omega, fi i' (by omega)]
          exact ha i' (by omega)
    · have w2 : h.1 23 (4 * k + 3) = 67 ∧ h.1 22 12 < 5 ∧ 0 < h.1 22 10 := w.resolve_left (fun u => w1 u.1)
      have he : 0 < h.1 22 10 ∧ h.1 22 10 ≤ 4 := ⟨w2.2.2, by omega⟩
      have fi : ∀ i, i < 3 → fitP (h.1 23) (4 * k + 4 + i) (cntE (h.1 23) (4 * k + 3)) (cntC (h.1 23) (4 * k + 3)) = fitC (i + 1) (h.1 23 (4 * k + 4 + i)) (h.1 22 10) := fun i hi => by rw [fitP_i hi, if_neg w1, e4]
      rcases Sto_all (fun i => fitC (i + 1) (h.1 23 (4 * k + 4 + i)) (h.1 22 10)) (4 * k + 4) (h.1 22 2) (by omega) with ⟨j, hj, hs⟩ | ⟨hn, ha⟩
      · have M := c_X9_readPart_C (V := V) (h := h) (by omega) w2.1 he w2.2.1 (by decide) (c_X9_readClause_no (p := 4 * k + 4) hl hB he hj hs)
        rw [e0] at M
        refine .inr ⟨_, M, Rd_pl, ?_, ?_⟩
        · rw [pl_3, show 4 * k + 4 + j = 4 * k + 3 + (j + 1) by omega]
          refine part_no hf (by omega) (fun i hi => ?_) ?_
          · by_cases q : i = 0
            · rw [q]; exact f0
            · obtain ⟨i', rfl⟩ : ∃ i', i = i' + 1 := ⟨i - 1, by omega⟩
              rw [show 4 * k + 3 + (i' + 1) = 4 * k + 4 + i' by omega, fi i' (by omega)]
              exact (hs.1 i' (by omega)).2
          · rcases hs.2 with u | u
            · exact .inl ⟨by omega, by omega⟩
            · refine .inr ⟨by omega, ?_⟩
              rw [show 4 * k + 3 + (j + 1) = 4 * k + 4 + j by omega, fi j hj]; exact u.2
        · rw [pl_3]; rcases hs.2 with u | u <;> omega
      · have M := c_X9_readPart_C (V := V) (h := h) (by omega) w2.1 he w2.2.1 (by decide) (c_X9_readClause_ok (p := 4 * k + 4) hl he w2.2.1 hn ha)
        rw [e0] at M
        refine .inl ⟨_, M, Rd_rdC, RI_C hr rfl w1 w2.2.1, ?_, by omega⟩
        refine ffr_run hf 4 (by omega) (fun i hi => ?_)
        by_cases q : i = 0
        · rw [q]; exact f0
        · obtain ⟨i', rfl⟩ : ∃ i', i = i' + 1 := ⟨i - 1, by omega⟩
          rw [show 4 * k + 3 + (i' + 1) = 4 * k + 4 + i' by omega, fi i' (by omega)]
          exact ha i' (by omega)
  · have f0 : fitP (h.1 23) (4 * k + 3) (cntE (h.1 23) (4 * k + 3)) (cntC (h.1 23) (4 * k + 3)) = false := by
      rw [fitP_0, ← e4, ← e5]; exact decide_eq_false w
    have M := c_X9_readPart_0 (V := V) (h := h) (p := 4 * k + 3) (by omega) hB (by omega) (by omega) w
    rw [e0] at M
    refine .inr ⟨_, M, Rd_r h, ?_, by rw [hr.1]; omega⟩
    rw [hr.1]
    exact part_no (j := 0) hf (by omega) (fun i hi => absurd hi (by omega)) (.inr ⟨hp, f0⟩)
end X9j
