/-! what all modules use -/
theorem Mt_in {V : Vt} {d : Nat} {y : MethodName} {cc : ByteArray} {nL : Nat} {rt : Option FieldType} {av : List Value} {h : Hp} {post : Option Value → Hp → Prop} (lv : List (Option Value)) {own : String} (ho : y.cls = own) (hy : plainName y.cls = true) (hlen : (lg_sl av).length ≤ nL) (hlv : ∀ q ∈ asl 0 lv, q ∈ lv_args 0 av)
    (k : G V T0 d own cc nL rt 0 lv [] h post) : Mt V d y cc nL rt av h post := by
  subst ho
  exact Mt_of lv hy hlen hlv k
theorem loop_up {P : Nat → Prop} {n : Nat} (hx : P n) (hs : ∀ i, i < n → P (i + 1) → P i) : ∀ i, i ≤ n → P i := by
  have key : ∀ k i, i + k = n → P i := by
    intro k
    induction k with
    | zero => intro i hi; rw [show i = n by omega]; exact hx
    | succ k ih => intro i hi; exact hs i (by omega) (ih (i + 1) (by omega))
  exact fun i hi => key (n - i) i (by omega)
theorem sR_s (h : Hp) (r : Nat) (f : Nat → Nat) : (sR h r f).1 r = f := if_pos rfl
theorem sR_n {h : Hp} {r q : Nat} {f : Nat → Nat} (hq : q ≠ r) : (sR h r f).1 q = h.1 q := if_neg hq
theorem sR_2 (h : Hp) (r : Nat) (f : Nat → Nat) : (sR h r f).2 = h.2 := rfl
theorem sR_sR (h : Hp) (r : Nat) (f g : Nat → Nat) : sR (sR h r f) r g = sR h r g := by
  refine Prod.ext (funext fun q => ?_) rfl
  show (if q = r then g else if q = r then f else h.1 q) = if q = r then g else h.1 q
  split <;> rfl
theorem sR_same (h : Hp) (r : Nat) : sR h r (h.1 r) = h := by
  refine Prod.ext (funext fun q => ?_) rfl
  show (if q = r then h.1 r else h.1 q) = h.1 q
  split
  · rename_i e; rw [e]
  · rfl
theorem sR_c (h : Hp) {r q : Nat} (hq : r ≠ q) (f g : Nat → Nat) : sR (sR h r f) q g = sR (sR h q g) r f := by
  refine Prod.ext (funext fun a => ?_) rfl
  show (if a = q then g else if a = r then f else h.1 a) = if a = r then f else if a = q then g else h.1 a
  by_cases h1 : a = q
  · rw [if_pos h1, if_neg (by omega), if_pos h1]
  · rw [if_neg h1]
    split <;> rfl
theorem up_up (f : Nat → Nat) (o a b : Nat) : up (up f o a) o b = up f o b := by
  funext j
  show (if j = o then b else if j = o then a else f j) = if j = o then b else f j
  split <;> rfl
theorem up_c (f : Nat → Nat) {o q : Nat} (h : o ≠ q) (a b : Nat) : up (up f o a) q b = up (up f q b) o a := by
  funext j
  show (if j = q then b else if j = o then a else f j) = if j = o then a else if j = q then b else f j
  by_cases h1 : j = q
  · rw [if_pos h1, if_neg (by omega), if_pos h1]
  · rw [if_neg h1]
    split <;> rfl
theorem up_same (f : Nat → Nat) (o : Nat) : up f o (f o) = f := by
  funext j
  show (if j = o then f o else f j) = f j
  split
  · rename_i e; rw [e]
  · rfl
theorem tr_ne {i j : Nat} (h : i ≠ j) : tr i ≠ tr j := by unfold tr; omega
theorem tr_hi {i k : Nat} (h : k < 100) : k ≠ tr i := by unfold tr; omega
/-- an int that is below 0, as a natural -/
theorem nI_ng {a : Nat} (h : 2 ^ 31 ≤ a) (h2 : a < 2 ^ 32) : nI a < 0 := by
  rw [Int32.lt_iff_toInt_lt, Int32.toInt_zero]
  show (Int32.ofNat a).toInt < 0
  rw [Int32.toInt_ofNat']
  rw [Int.bmod_def, show Int32.size = 4294967296 from rfl]
  split <;> omega
theorem nI_all (x : Int32) : ∃ a, a < 2 ^ 32 ∧ x = nI a := ⟨x.toBitVec.toNat, x.toBitVec.isLt, by
  apply Int32.toBitVec_inj.mp
  show x.toBitVec = BitVec.ofNat 32 x.toBitVec.toNat
  rw [BitVec.ofNat_toNat, BitVec.setWidth_eq]⟩
theorem fx_sub0 {t p : Nat} (ht : t < 2 ^ 31) (hp : p < 2 ^ 31) : (if nI 0 < nI t - nI p then nI t - nI p else nI 0) = nI (t - p) := by
  by_cases q : p ≤ t
  · rw [pk_sub q]
    have h1 := fx_max (x := 0) (y := t - p) (by omega) (by omega)
    rw [h1, Nat.max_eq_right (by omega)]
  · have e : (nI t - nI p) = -(nI (p - t)) := by
      rw [← pk_sub (show t ≤ p by omega), Int32.neg_sub]
    have h0 : ¬ nI 0 < nI t - nI p := by
      rw [e, nI_0, Int32.lt_iff_toInt_lt, Int32.toInt_zero, sb_negT (by omega)]
      omega
    rw [if_neg h0, show t - p = 0 by omega]
def bt (s k : Nat) : Nat := s / 2 ^ k &&& 1
theorem bt_01 (s k : Nat) : bt s k = 0 ∨ bt s k = 1 := by
  unfold bt
  rw [Nat.and_one_is_mod]
  omega
theorem bt_lt (s k : Nat) : bt s k < 2 := by rcases bt_01 s k with h | h <;> omega
section Rows2
variable {V : Vt} {E : State → Prop} {d : Nat} {own : String} {cc : ByteArray} {nL : Nat} {rt : Option FieldType} {pc : Nat} {lv : List (Option Value)} {st : List Value} {h : Hp} {post : Option Value → Hp → Prop}
theorem ga_pt {k j : Nat} (pc' : Nat) (hp : pc + 1 = pc') (hk : k = 28 ∨ k = 29) (hj : j < 10) (hd : decode cc pc = .ok (.iaload, 1)) (kk : G V E d own cc nL rt pc' lv (.int (nI (h.1 k j)) :: st) h post) : G V E d own cc nL rt pc lv (.int (nI j) :: rf V k :: st) h post := by
  rcases hk with rfl | rfl
  · exact ga_28 pc' hp hj hd kk
  · exact ga_29 pc' hp hj hd kk
theorem gs_pt {k j v : Nat} (pc' : Nat) (hp : pc + 1 = pc') (hk : k = 28 ∨ k = 29) (hj : j < 10) (hd : decode cc pc = .ok (.iastore, 1)) (kk : G V E d own cc nL rt pc' lv st (sR h k (up (h.1 k) j v)) post) : G V E d own cc nL rt pc lv (.int (nI v) :: .int (nI j) :: rf V k :: st) h post := by
  rcases hk with rfl | rfl
  · exact gs_28 pc' hp hj hd kk
  · exact gs_29 pc' hp hj hd kk
end Rows2
