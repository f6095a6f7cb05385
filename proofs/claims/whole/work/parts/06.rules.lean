/-! rows of plain numbers -/
theorem fa_and (a b : Nat) : nI a &&& nI b = nI (a &&& b) := by
  apply Int32.toBitVec_inj.mp
  show BitVec.ofNat 32 a &&& BitVec.ofNat 32 b = BitVec.ofNat 32 (a &&& b)
  apply BitVec.eq_of_toNat_eq
  simp [Nat.and_mod_two_pow]
theorem fa_or (a b : Nat) : nI a ||| nI b = nI (a ||| b) := by
  apply Int32.toBitVec_inj.mp
  show BitVec.ofNat 32 a ||| BitVec.ofNat 32 b = BitVec.ofNat 32 (a ||| b)
  apply BitVec.eq_of_toNat_eq
  simp [Nat.or_mod_two_pow]
theorem fx_xor (a b : Nat) : nI a ^^^ nI b = nI (a ^^^ b) := by
  apply Int32.toBitVec_inj.mp
  show BitVec.ofNat 32 a ^^^ BitVec.ofNat 32 b = BitVec.ofNat 32 (a ^^^ b)
  apply BitVec.eq_of_toNat_eq
  simp [Nat.xor_mod_two_pow]
theorem fx_sm : ∀ n, n < 32 → ((nI n &&& 31).toBitVec.smod 32).toNat = n := by decide +kernel
theorem fx_shl {x y : Nat} (hy : y < 32) : nI x <<< (nI y &&& 31) = nI (x * 2 ^ y) := by
  have h := pk_shl (nI x) (nI y &&& 31) y (fx_sm y hy)
  apply Int32.toBitVec_inj.mp
  apply BitVec.eq_of_toNat_eq
  rw [h]
  show (BitVec.ofNat 32 x).toNat * 2 ^ y % 2 ^ 32 = (BitVec.ofNat 32 (x * 2 ^ y)).toNat
  rw [BitVec.toNat_ofNat, BitVec.toNat_ofNat, Nat.mod_mul_mod]
theorem fx_shr {x y : Nat} (hx : x < 2 ^ 31) (hy : y < 32) : nI x >>> (nI y &&& 31) = nI (x / 2 ^ y) := pk_shrN hx (nI y &&& 31) y (fx_sm y hy)
theorem fz_eq {x : Nat} (hx : x < 2 ^ 31) : (nI x = 0 → x = 0) ∧ (¬ nI x = 0 → ¬ x = 0) := by
  rw [← nI_0, nI_eq hx (by omega)]; exact ⟨id, id⟩
theorem fz_ne {x : Nat} (hx : x < 2 ^ 31) : (¬ nI x = 0 → ¬ x = 0) ∧ (nI x = 0 → x = 0) := by
  rw [← nI_0, nI_eq hx (by omega)]; exact ⟨id, id⟩
theorem fz_lt {x : Nat} (hx : x < 2 ^ 31) : (nI x < 0 → False) ∧ (¬ nI x < 0 → True) := ⟨fun q => nI_pos hx q, fun _ => trivial⟩
theorem fz_ge {x : Nat} (hx : x < 2 ^ 31) : (0 ≤ nI x → True) ∧ (¬ 0 ≤ nI x → False) := ⟨fun _ => trivial, fun q => q (nI_pos' hx)⟩
theorem fz_gt {x : Nat} (hx : x < 2 ^ 31) : (0 < nI x → 0 < x) ∧ (¬ 0 < nI x → x = 0) := by
  rw [← nI_0, nI_ltI (by omega) hx]; exact ⟨id, fun q => by omega⟩
theorem fz_le {x : Nat} (hx : x < 2 ^ 31) : (nI x ≤ 0 → x = 0) ∧ (¬ nI x ≤ 0 → 0 < x) := by
  rw [← nI_0, nI_leI hx (by omega)]; exact ⟨fun q => by omega, fun q => by omega⟩
theorem fx_max {x y : Nat} (hx : x < 2 ^ 31) (hy : y < 2 ^ 31) : (if nI x < nI y then nI y else nI x) = nI (max x y) := by
  by_cases q : x < y
  · rw [if_pos ((nI_ltI hx hy).mpr q), Nat.max_eq_right (by omega)]
  · rw [if_neg (fun w => q ((nI_ltI hx hy).mp w)), Nat.max_eq_left (by omega)]
theorem fx_min {x y : Nat} (hx : x < 2 ^ 31) (hy : y < 2 ^ 31) : (if nI y < nI x then nI y else nI x) = nI (min x y) := by
  by_cases q : y < x
  · rw [if_pos ((nI_ltI hy hx).mpr q), Nat.min_eq_right (by omega)]
  · rw [if_neg (fun w => q ((nI_ltI hy hx).mp w)), Nat.min_eq_left (by omega)]
theorem asl_cat {lv : List (Option Value)} {i : Nat} {a : Option Value} (ha : lv[i - 1]? = some a) (hc : catOK a = true) {j : Nat} {w : Value} (hj : j + 1 = i) (hw : lv[j]? = some (some w)) : w.category ≠ 2 := by
  have e : i - 1 = j := by omega
  rw [e, hw] at ha
  cases ha
  simp only [catOK, beq_iff_eq] at hc
  omega
theorem asl_stl {ls : Array Slot} {nL : Nat} {lv lv' : List (Option Value)} {i : Nat} {v : Value} (h : lv_has ls nL ((i, v) :: (asl 0 lv).filter (fun q => !(q.1 == i) && (!(q.1 == i + 1) && !(q.1 + 1 == i && q.2.category == 2))))) (he : (lv.set i (some v)).set (i + 1) none = lv') (hi : i + 1 < lv.length) (hc : ∀ j w, j + 1 = i → lv[j]? = some (some w) → w.category ≠ 2) : lv_has ls nL (asl 0 lv') := by
  refine ⟨h.1, h.2.1, fun q hq => h.2.2 q ?_⟩
  obtain ⟨a, w⟩ := q
  obtain ⟨j, rfl, hj⟩ := (asl_mem lv' 0 a w).mp hq
  subst he
  rw [Nat.zero_add]
  by_cases hji2 : j = i + 1
  · subst hji2
    rw [List.getElem?_set_self (by rw [List.length_set]; exact hi)] at hj
    cases hj
  · rw [List.getElem?_set_ne (fun q => hji2 q.symm)] at hj
    by_cases hji : j = i
    · subst hji
      rw [List.getElem?_set_self (by omega)] at hj
      cases hj
      exact List.mem_cons_self
    · rw [List.getElem?_set_ne (fun q => hji q.symm)] at hj
      refine List.mem_cons_of_mem _ (List.mem_filter.mpr ⟨(asl_mem lv 0 j w).mpr ⟨j, by omega, hj⟩, ?_⟩)
      have h1 : (j == i) = false := by simpa using hji
      have h3 : (j == i + 1) = false := by simpa using hji2
      have h2 : (j + 1 == i && w.category == 2) = false := by
        by_cases hq2 : j + 1 = i
        · have := hc j w hq2 hj
          simp [this]
        · simp [hq2]
      simp [h1, h2, h3]
section Rules
variable {V : Vt} {E : State → Prop} {d : Nat} {own : String} {cc : ByteArray} {nL : Nat} {rt : Option FieldType} {pc : Nat} {lv : List (Option Value)} {st : List Value} {h : Hp} {post : Option Value → Hp → Prop}
theorem g_iconst {n : Int} {v : Nat} (pc' : Nat) (hp : pc + 1 = pc') (hd : decode cc pc = .ok (.iconst n, 1)) (hv : Int32.ofInt n = nI v) (k : G V E d own cc nL rt pc' lv (.int (nI v) :: st) h post) : G V E d own cc nL rt pc lv (st) h post := by
  subst hp
  exact fun p e s m args below meth c R H locs ls cells slots Q C X hP hS hl hc => lv_iconst C.1 C.2.1 hd hv (k p e s m args below meth c R H locs ls cells slots Q C X hP hS hl hc)
theorem g_bipush {n : Int} {v : Nat} (pc' : Nat) (hp : pc + 2 = pc') (hd : decode cc pc = .ok (.bipush n, 2)) (hv : (Int8.ofInt n).toInt32 = nI v) (k : G V E d own cc nL rt pc' lv (.int (nI v) :: st) h post) : G V E d own cc nL rt pc lv (st) h post := by
  subst hp
  exact fun p e s m args below meth c R H locs ls cells slots Q C X hP hS hl hc => lv_bipush C.1 C.2.1 hd hv (k p e s m args below meth c R H locs ls cells slots Q C X hP hS hl hc)
theorem g_sipush {n : Int} {v : Nat} (pc' : Nat) (hp : pc + 3 = pc') (hd : decode cc pc = .ok (.sipush n, 3)) (hv : (Int16.ofInt n).toInt32 = nI v) (k : G V E d own cc nL rt pc' lv (.int (nI v) :: st) h post) : G V E d own cc nL rt pc lv (st) h post := by
  subst hp
  exact fun p e s m args below meth c R H locs ls cells slots Q C X hP hS hl hc => lv_sipush C.1 C.2.1 hd hv (k p e s m args below meth c R H locs ls cells slots Q C X hP hS hl hc)
theorem g_lconst {n : Fin 2} {v : Int64} (pc' : Nat) (hp : pc + 1 = pc') (hd : decode cc pc = .ok (.lconst n, 1)) (hv : Int64.ofNat (n : Nat) = v) (k : G V E d own cc nL rt pc' lv (.long v :: st) h post) : G V E d own cc nL rt pc lv (st) h post := by
  subst hp
  exact fun p e s m args below meth c R H locs ls cells slots Q C X hP hS hl hc => lv_lconst C.1 C.2.1 hd hv (k p e s m args below meth c R H locs ls cells slots Q C X hP hS hl hc)
theorem g_ldc2 {index : Nat} {v : Int64} (pc' : Nat) (hp : pc + 3 = pc') (hw : Cond.constantLong own index v ∈ lw_tbl) (hd : decode cc pc = .ok (.ldc2_w index, 3)) (k : G V E d own cc nL rt pc' lv (.long v :: st) h post) : G V E d own cc nL rt pc lv (st) h post := by
  subst hp
  exact fun p e s m args below meth c R H locs ls cells slots Q C X hP hS hl hc => lv_ldc2 C.1 C.2.1 C.2.2.2.1 (C.2.2.2.2.1 _ (lgm hw rfl)) hd (k p e s m args below meth c R H locs ls cells slots Q C X hP hS hl hc)
theorem g_ldcw {index : Nat} {v : Int32} (pc' : Nat) (hp : pc + 3 = pc') (hw : Cond.constant own index v ∈ lw_tbl) (hd : decode cc pc = .ok (.ldc_w index, 3)) (k : G V E d own cc nL rt pc' lv (.int v :: st) h post) : G V E d own cc nL rt pc lv (st) h post := by
  subst hp
  exact fun p e s m args below meth c R H locs ls cells slots Q C X hP hS hl hc => lv_ldcw C.1 C.2.1 C.2.2.2.1 (C.2.2.2.2.1 _ (lgm hw rfl)) hd (k p e s m args below meth c R H locs ls cells slots Q C X hP hS hl hc)
theorem g_dup {va : Value} (pc' : Nat) (hp : pc + 1 = pc') (hd : decode cc pc = .ok (.dup, 1)) (h1 : va.category = 1) (k : G V E d own cc nL rt pc' lv (va :: va :: st) h post) : G V E d own cc nL rt pc lv (va :: st) h post := by
  subst hp
  exact fun p e s m args below meth c R H locs ls cells slots Q C X hP hS hl hc => lv_dup C.1 C.2.1 hd h1 (k p e s m args below meth c R H locs ls cells slots Q C X hP hS hl hc)
theorem g_pop {va : Value} (pc' : Nat) (hp : pc + 1 = pc') (hd : decode cc pc = .ok (.pop, 1)) (h1 : va.category = 1) (k : G V E d own cc nL rt pc' lv (st) h post) : G V E d own cc nL rt pc lv (va :: st) h post := by
  subst hp
  exact fun p e s m args below meth c R H locs ls cells slots Q C X hP hS hl hc => lv_pop C.1 C.2.1 hd h1 (k p e s m args below meth c R H locs ls cells slots Q C X hP hS hl hc)
theorem g_dup2 {va vb : Value} (pc' : Nat) (hp : pc + 1 = pc') (hd : decode cc pc = .ok (.dup2, 1)) (h1 : va.category = 1) (h2 : vb.category = 1) (k : G V E d own cc nL rt pc' lv (va :: vb :: va :: vb :: st) h post) : G V E d own cc nL rt pc lv (va :: vb :: st) h post := by
  subst hp
  exact fun p e s m args below meth c R H locs ls cells slots Q C X hP hS hl hc => lv_dup2_11 C.1 C.2.1 hd h1 h2 (k p e s m args below meth c R H locs ls cells slots Q C X hP hS hl hc)
theorem g_dup2l {x : Int64} (pc' : Nat) (hp : pc + 1 = pc') (hd : decode cc pc = .ok (.dup2, 1))  (k : G V E d own cc nL rt pc' lv (.long x :: .long x :: st) h post) : G V E d own cc nL rt pc lv (.long x :: st) h post := by
  subst hp
  exact fun p e s m args below meth c R H locs ls cells slots Q C X hP hS hl hc => lv_dup2_2 C.1 C.2.1 hd rfl (k p e s m args below meth c R H locs ls cells slots Q C X hP hS hl hc)
theorem g_iadd {x y : Int32} (pc' : Nat) (hp : pc + 1 = pc') (hd : decode cc pc = .ok (.iadd, 1))  (k : G V E d own cc nL rt pc' lv (.int (x + y) :: st) h post) : G V E d own cc nL rt pc lv (.int y :: .int x :: st) h post := by
  subst hp
  exact fun p e s m args below meth c R H locs ls cells slots Q C X hP hS hl hc => lv_iadd C.1 C.2.1 hd (k p e s m args below meth c R H locs ls cells slots Q C X hP hS hl hc)
theorem g_isub {x y : Int32} (pc' : Nat) (hp : pc + 1 = pc') (hd : decode cc pc = .ok (.isub, 1))  (k : G V E d own cc nL rt pc' lv (.int (x - y) :: st) h post) : G V E d own cc nL rt pc lv (.int y :: .int x :: st) h post := by
  subst hp
  exact fun p e s m args below meth c R H locs ls cells slots Q C X hP hS hl hc => lv_isub C.1 C.2.1 hd (k p e s m args below meth c R H locs ls cells slots Q C X hP hS hl hc)
theorem g_imul {x y : Int32} (pc' : Nat) (hp : pc + 1 = pc') (hd : decode cc pc = .ok (.imul, 1))  (k : G V E d own cc nL rt pc' lv (.int (x * y) :: st) h post) : G V E d own cc nL rt pc lv (.int y :: .int x :: st) h post := by
  subst hp
  exact fun p e s m args below meth c R H locs ls cells slots Q C X hP hS hl hc => lv_imul C.1 C.2.1 hd (k p e s m args below meth c R H locs ls cells slots Q C X hP hS hl hc)
theorem g_iand {x y : Int32} (pc' : Nat) (hp : pc + 1 = pc') (hd : decode cc pc = .ok (.iand, 1))  (k : G V E d own cc nL rt pc' lv (.int (x &&& y) :: st) h post) : G V E d own cc nL rt pc lv (.int y :: .int x :: st) h post := by
  subst hp
  exact fun p e s m args below meth c R H locs ls cells slots Q C X hP hS hl hc => lv_iand C.1 C.2.1 hd (k p e s m args below meth c R H locs ls cells slots Q C X hP hS hl hc)
theorem g_ior {x y : Int32} (pc' : Nat) (hp : pc + 1 = pc') (hd : decode cc pc = .ok (.ior, 1))  (k : G V E d own cc nL rt pc' lv (.int (x ||| y) :: st) h post) : G V E d own cc nL rt pc lv (.int y :: .int x :: st) h post := by
  subst hp
  exact fun p e s m args below meth c R H locs ls cells slots Q C X hP hS hl hc => lv_ior C.1 C.2.1 hd (k p e s m args below meth c R H locs ls cells slots Q C X hP hS hl hc)
theorem g_ixor {x y : Int32} (pc' : Nat) (hp : pc + 1 = pc') (hd : decode cc pc = .ok (.ixor, 1))  (k : G V E d own cc nL rt pc' lv (.int (x ^^^ y) :: st) h post) : G V E d own cc nL rt pc lv (.int y :: .int x :: st) h post := by
  subst hp
  exact fun p e s m args below meth c R H locs ls cells slots Q C X hP hS hl hc => lv_ixor C.1 C.2.1 hd (k p e s m args below meth c R H locs ls cells slots Q C X hP hS hl hc)
theorem g_ishl {x y : Int32} (pc' : Nat) (hp : pc + 1 = pc') (hd : decode cc pc = .ok (.ishl, 1))  (k : G V E d own cc nL rt pc' lv (.int (x <<< (y &&& 31)) :: st) h post) : G V E d own cc nL rt pc lv (.int y :: .int x :: st) h post := by
  subst hp
  exact fun p e s m args below meth c R H locs ls cells slots Q C X hP hS hl hc => lv_ishl C.1 C.2.1 hd (k p e s m args below meth c R H locs ls cells slots Q C X hP hS hl hc)
theorem g_ishr {x y : Int32} (pc' : Nat) (hp : pc + 1 = pc') (hd : decode cc pc = .ok (.ishr, 1))  (k : G V E d own cc nL rt pc' lv (.int (x >>> (y &&& 31)) :: st) h post) : G V E d own cc nL rt pc lv (.int y :: .int x :: st) h post := by
  subst hp
  exact fun p e s m args below meth c R H locs ls cells slots Q C X hP hS hl hc => lv_ishr C.1 C.2.1 hd (k p e s m args below meth c R H locs ls cells slots Q C X hP hS hl hc)
theorem g_iushr {x y v : Int32} (pc' : Nat) (hp : pc + 1 = pc') (hd : decode cc pc = .ok (.iushr, 1)) (hv : (x.toUInt32 >>> (y.toUInt32 &&& Int32.toUInt32 31)).toInt32 = v) (k : G V E d own cc nL rt pc' lv (.int v :: st) h post) : G V E d own cc nL rt pc lv (.int y :: .int x :: st) h post := by
  subst hp
  exact fun p e s m args below meth c R H locs ls cells slots Q C X hP hS hl hc => lv_iushr C.1 C.2.1 hd hv (k p e s m args below meth c R H locs ls cells slots Q C X hP hS hl hc)
theorem g_idiv {x y : Int32} (pc' : Nat) (hp : pc + 1 = pc') (hd : decode cc pc = .ok (.idiv, 1)) (h0 : ¬ y = 0) (k : G V E d own cc nL rt pc' lv (.int (x / y) :: st) h post) : G V E d own cc nL rt pc lv (.int y :: .int x :: st) h post := by
  subst hp
  exact fun p e s m args below meth c R H locs ls cells slots Q C X hP hS hl hc => lv_idiv C.1 C.2.1 hd h0 (k p e s m args below meth c R H locs ls cells slots Q C X hP hS hl hc)
theorem g_irem {x y : Int32} (pc' : Nat) (hp : pc + 1 = pc') (hd : decode cc pc = .ok (.irem, 1)) (h0 : ¬ y = 0) (k : G V E d own cc nL rt pc' lv (.int (x - x / y * y) :: st) h post) : G V E d own cc nL rt pc lv (.int y :: .int x :: st) h post := by
  subst hp
  exact fun p e s m args below meth c R H locs ls cells slots Q C X hP hS hl hc => lv_irem C.1 C.2.1 hd h0 (k p e s m args below meth c R H locs ls cells slots Q C X hP hS hl hc)
theorem g_ineg {x : Int32} (pc' : Nat) (hp : pc + 1 = pc') (hd : decode cc pc = .ok (.ineg, 1))  (k : G V E d own cc nL rt pc' lv (.int (-x) :: st) h post) : G V E d own cc nL rt pc lv (.int x :: st) h post := by
  subst hp
  exact fun p e s m args below meth c R H locs ls cells slots Q C X hP hS hl hc => lv_ineg C.1 C.2.1 hd (k p e s m args below meth c R H locs ls cells slots Q C X hP hS hl hc)
theorem g_i2l {x : Int32} (pc' : Nat) (hp : pc + 1 = pc') (hd : decode cc pc = .ok (.i2l, 1))  (k : G V E d own cc nL rt pc' lv (.long x.toInt64 :: st) h post) : G V E d own cc nL rt pc lv (.int x :: st) h post := by
  subst hp
  exact fun p e s m args below meth c R H locs ls cells slots Q C X hP hS hl hc => lv_i2l C.1 C.2.1 hd rfl (k p e s m args below meth c R H locs ls cells slots Q C X hP hS hl hc)
theorem g_l2i {x : Int64} (pc' : Nat) (hp : pc + 1 = pc') (hd : decode cc pc = .ok (.l2i, 1))  (k : G V E d own cc nL rt pc' lv (.int x.toInt32 :: st) h post) : G V E d own cc nL rt pc lv (.long x :: st) h post := by
  subst hp
  exact fun p e s m args below meth c R H locs ls cells slots Q C X hP hS hl hc => lv_l2i C.1 C.2.1 hd rfl (k p e s m args below meth c R H locs ls cells slots Q C X hP hS hl hc)
theorem g_ladd {x y : Int64} (pc' : Nat) (hp : pc + 1 = pc') (hd : decode cc pc = .ok (.ladd, 1))  (k : G V E d own cc nL rt pc' lv (.long (x + y) :: st) h post) : G V E d own cc nL rt pc lv (.long y :: .long x :: st) h post := by
  subst hp
  exact fun p e s m args below meth c R H locs ls cells slots Q C X hP hS hl hc => lv_ladd C.1 C.2.1 hd (k p e s m args below meth c R H locs ls cells slots Q C X hP hS hl hc)
theorem g_lmul {x y : Int64} (pc' : Nat) (hp : pc + 1 = pc') (hd : decode cc pc = .ok (.lmul, 1))  (k : G V E d own cc nL rt pc' lv (.long (x * y) :: st) h post) : G V E d own cc nL rt pc lv (.long y :: .long x :: st) h post := by
  subst hp
  exact fun p e s m args below meth c R H locs ls cells slots Q C X hP hS hl hc => lv_lmul C.1 C.2.1 hd (k p e s m args below meth c R H locs ls cells slots Q C X hP hS hl hc)
theorem g_land {x y : Int64} (pc' : Nat) (hp : pc + 1 = pc') (hd : decode cc pc = .ok (.land, 1))  (k : G V E d own cc nL rt pc' lv (.long (x &&& y) :: st) h post) : G V E d own cc nL rt pc lv (.long y :: .long x :: st) h post := by
  subst hp
  exact fun p e s m args below meth c R H locs ls cells slots Q C X hP hS hl hc => lv_land C.1 C.2.1 hd (k p e s m args below meth c R H locs ls cells slots Q C X hP hS hl hc)
theorem g_lor {x y : Int64} (pc' : Nat) (hp : pc + 1 = pc') (hd : decode cc pc = .ok (.lor, 1))  (k : G V E d own cc nL rt pc' lv (.long (x ||| y) :: st) h post) : G V E d own cc nL rt pc lv (.long y :: .long x :: st) h post := by
  subst hp
  exact fun p e s m args below meth c R H locs ls cells slots Q C X hP hS hl hc => lv_lor C.1 C.2.1 hd (k p e s m args below meth c R H locs ls cells slots Q C X hP hS hl hc)
theorem g_lrem {x y : Int64} (pc' : Nat) (hp : pc + 1 = pc') (hd : decode cc pc = .ok (.lrem, 1)) (h0 : ¬ y = 0) (k : G V E d own cc nL rt pc' lv (.long (x - x / y * y) :: st) h post) : G V E d own cc nL rt pc lv (.long y :: .long x :: st) h post := by
  subst hp
  exact fun p e s m args below meth c R H locs ls cells slots Q C X hP hS hl hc => lv_lrem C.1 C.2.1 hd h0 (k p e s m args below meth c R H locs ls cells slots Q C X hP hS hl hc)
theorem g_lcmp {x y : Int64} (pc' : Nat) (hp : pc + 1 = pc') (hd : decode cc pc = .ok (.lcmp, 1))  (k : G V E d own cc nL rt pc' lv (.int (lg_cmp x y) :: st) h post) : G V E d own cc nL rt pc lv (.long y :: .long x :: st) h post := by
  subst hp
  exact fun p e s m args below meth c R H locs ls cells slots Q C X hP hS hl hc => W.lcmp C.1 C.2.1 hd (k p e s m args below meth c R H locs ls cells slots Q C X hP hS hl hc)
theorem g_lushr {x : Int64} {y : Int32} (pc' : Nat) (hp : pc + 1 = pc') (hd : decode cc pc = .ok (.lushr, 1))  (k : G V E d own cc nL rt pc' lv (.long (x.toUInt64 >>> (y.toInt64.toUInt64 &&& Int64.toUInt64 63)).toInt64 :: st) h post) : G V E d own cc nL rt pc lv (.int y :: .long x :: st) h post := by
  subst hp
  exact fun p e s m args below meth c R H locs ls cells slots Q C X hP hS hl hc => lv_lushr C.1 C.2.1 hd rfl (k p e s m args below meth c R H locs ls cells slots Q C X hP hS hl hc)
theorem g_lshl {x : Int64} {y : Int32} (pc' : Nat) (hp : pc + 1 = pc') (hd : decode cc pc = .ok (.lshl, 1))  (k : G V E d own cc nL rt pc' lv (.long (x <<< (y.toInt64 &&& 63)) :: st) h post) : G V E d own cc nL rt pc lv (.int y :: .long x :: st) h post := by
  subst hp
  exact fun p e s m args below meth c R H locs ls cells slots Q C X hP hS hl hc => lv_lshl C.1 C.2.1 hd rfl (k p e s m args below meth c R H locs ls cells slots Q C X hP hS hl hc)
theorem g_top {x y : Int32} (e : x = y) (k : G V E d own cc nL rt pc lv (.int y :: st) h post) : G V E d own cc nL rt pc lv (.int x :: st) h post := e ▸ k
theorem g_heap {h' : Hp} (e : h = h') (k : G V E d own cc nL rt pc lv (st) h' post) : G V E d own cc nL rt pc lv (st) h post := e ▸ k
theorem gn_iadd {x y : Nat} (pc' : Nat) (hp : pc + 1 = pc') (hd : decode cc pc = .ok (.iadd, 1))  (k : G V E d own cc nL rt pc' lv (.int (nI (x + y)) :: st) h post) : G V E d own cc nL rt pc lv (.int (nI y) :: .int (nI x) :: st) h post := by
  refine g_iadd pc' hp hd ?_
  rw [nI_add]
  exact k
theorem gn_imul {x y : Nat} (pc' : Nat) (hp : pc + 1 = pc') (hd : decode cc pc = .ok (.imul, 1))  (k : G V E d own cc nL rt pc' lv (.int (nI (x * y)) :: st) h post) : G V E d own cc nL rt pc lv (.int (nI y) :: .int (nI x) :: st) h post := by
  refine g_imul pc' hp hd ?_
  rw [pk_mul]
  exact k
theorem gn_isub {x y : Nat} (pc' : Nat) (hp : pc + 1 = pc') (hd : decode cc pc = .ok (.isub, 1)) (hy : y ≤ x) (k : G V E d own cc nL rt pc' lv (.int (nI (x - y)) :: st) h post) : G V E d own cc nL rt pc lv (.int (nI y) :: .int (nI x) :: st) h post := by
  refine g_isub pc' hp hd ?_
  rw [pk_sub hy]
  exact k
theorem gn_iand {x y : Nat} (pc' : Nat) (hp : pc + 1 = pc') (hd : decode cc pc = .ok (.iand, 1))  (k : G V E d own cc nL rt pc' lv (.int (nI (x &&& y)) :: st) h post) : G V E d own cc nL rt pc lv (.int (nI y) :: .int (nI x) :: st) h post := by
  refine g_iand pc' hp hd ?_
  rw [fa_and]
  exact k
theorem gn_ior {x y : Nat} (pc' : Nat) (hp : pc + 1 = pc') (hd : decode cc pc = .ok (.ior, 1))  (k : G V E d own cc nL rt pc' lv (.int (nI (x ||| y)) :: st) h post) : G V E d own cc nL rt pc lv (.int (nI y) :: .int (nI x) :: st) h post := by
  refine g_ior pc' hp hd ?_
  rw [fa_or]
  exact k
theorem gn_ixor {x y : Nat} (pc' : Nat) (hp : pc + 1 = pc') (hd : decode cc pc = .ok (.ixor, 1))  (k : G V E d own cc nL rt pc' lv (.int (nI (x ^^^ y)) :: st) h post) : G V E d own cc nL rt pc lv (.int (nI y) :: .int (nI x) :: st) h post := by
  refine g_ixor pc' hp hd ?_
  rw [fx_xor]
  exact k
theorem gn_ishl {x y : Nat} (pc' : Nat) (hp : pc + 1 = pc') (hd : decode cc pc = .ok (.ishl, 1)) (hy : y < 32) (k : G V E d own cc nL rt pc' lv (.int (nI (x * 2 ^ y)) :: st) h post) : G V E d own cc nL rt pc lv (.int (nI y) :: .int (nI x) :: st) h post := by
  refine g_ishl pc' hp hd ?_
  rw [fx_shl hy]
  exact k
theorem gn_ishr {x y : Nat} (pc' : Nat) (hp : pc + 1 = pc') (hd : decode cc pc = .ok (.ishr, 1)) (hx : x < 2 ^ 31) (hy : y < 32) (k : G V E d own cc nL rt pc' lv (.int (nI (x / 2 ^ y)) :: st) h post) : G V E d own cc nL rt pc lv (.int (nI y) :: .int (nI x) :: st) h post := by
  refine g_ishr pc' hp hd ?_
  rw [fx_shr hx hy]
  exact k
theorem gn_idiv {x y : Nat} (pc' : Nat) (hp : pc + 1 = pc') (hd : decode cc pc = .ok (.idiv, 1)) (hx : x < 2 ^ 31) (h0 : 0 < y) (hy : y < 2 ^ 31) (k : G V E d own cc nL rt pc' lv (.int (nI (x / y)) :: st) h post) : G V E d own cc nL rt pc lv (.int (nI y) :: .int (nI x) :: st) h post := by
  refine g_idiv pc' hp hd (nI_ne0 h0 hy) ?_
  rw [pk_div hx h0 hy]
  exact k
theorem gn_irem {x y : Nat} (pc' : Nat) (hp : pc + 1 = pc') (hd : decode cc pc = .ok (.irem, 1)) (hx : x < 2 ^ 31) (h0 : 0 < y) (hy : y < 2 ^ 31) (k : G V E d own cc nL rt pc' lv (.int (nI (x % y)) :: st) h post) : G V E d own cc nL rt pc lv (.int (nI y) :: .int (nI x) :: st) h post := by
  refine g_irem pc' hp hd (nI_ne0 h0 hy) ?_
  rw [pk_rem hx h0 hy]
  exact k
theorem g_icmp_eq {x y : Int32} {off : Int} (tgt : Nat) (ht : (pc : Int) + off = (tgt : Int)) (pc' : Nat) (hp : pc + 3 = pc') (hd : decode cc pc = .ok (.if_icmp .eq off, 3)) (kt : x = y → G V E d own cc nL rt tgt lv (st) h post) (kf : ¬ x = y → G V E d own cc nL rt pc' lv (st) h post) : G V E d own cc nL rt pc lv (.int y :: .int x :: st) h post := by
  subst hp
  exact fun p e s m args below meth c R H locs ls cells slots Q C X hP hS hl hc => lv_icmp_eq C.1 C.2.1 hd ht (fun q => kt q p e s m args below meth c R H locs ls cells slots Q C X hP hS hl hc) (fun q => kf q p e s m args below meth c R H locs ls cells slots Q C X hP hS hl hc)
theorem g_if_eq {x : Int32} {off : Int} (tgt : Nat) (ht : (pc : Int) + off = (tgt : Int)) (pc' : Nat) (hp : pc + 3 = pc') (hd : decode cc pc = .ok (.ifCond .eq off, 3)) (kt : x = 0 → G V E d own cc nL rt tgt lv (st) h post) (kf : ¬ x = 0 → G V E d own cc nL rt pc' lv (st) h post) : G V E d own cc nL rt pc lv (.int x :: st) h post := by
  subst hp
  exact fun p e s m args below meth c R H locs ls cells slots Q C X hP hS hl hc => lv_if_eq C.1 C.2.1 hd ht (fun q => kt q p e s m args below meth c R H locs ls cells slots Q C X hP hS hl hc) (fun q => kf q p e s m args below meth c R H locs ls cells slots Q C X hP hS hl hc)
theorem gn_icmp_eq {x y : Nat} {off : Int} (tgt : Nat) (ht : (pc : Int) + off = (tgt : Int)) (pc' : Nat) (hp : pc + 3 = pc') (hd : decode cc pc = .ok (.if_icmp .eq off, 3)) (hx : x < 2 ^ 31) (hy : y < 2 ^ 31) (kt : x = y → G V E d own cc nL rt tgt lv (st) h post) (kf : ¬ x = y → G V E d own cc nL rt pc' lv (st) h post) : G V E d own cc nL rt pc lv (.int (nI y) :: .int (nI x) :: st) h post := by
  exact g_icmp_eq tgt ht pc' hp hd (fun q => kt ((nI_eq hx hy) |>.mp q)) (fun q => kf (fun w => q ((nI_eq hx hy).mpr w)))
theorem gn_if_eq {x : Nat} {off : Int} (tgt : Nat) (ht : (pc : Int) + off = (tgt : Int)) (pc' : Nat) (hp : pc + 3 = pc') (hd : decode cc pc = .ok (.ifCond .eq off, 3)) (hx : x < 2 ^ 31) (kt : x = 0 → G V E d own cc nL rt tgt lv (st) h post) (kf : ¬ x = 0 → G V E d own cc nL rt pc' lv (st) h post) : G V E d own cc nL rt pc lv (.int (nI x) :: st) h post := by
  refine g_if_eq tgt ht pc' hp hd (fun q => kt ?_) (fun q => kf ?_)
  · exact (fz_eq hx).1 q
  · exact (fz_eq hx).2 q
theorem g_icmp_ne {x y : Int32} {off : Int} (tgt : Nat) (ht : (pc : Int) + off = (tgt : Int)) (pc' : Nat) (hp : pc + 3 = pc') (hd : decode cc pc = .ok (.if_icmp .ne off, 3)) (kt : ¬ x = y → G V E d own cc nL rt tgt lv (st) h post) (kf : x = y → G V E d own cc nL rt pc' lv (st) h post) : G V E d own cc nL rt pc lv (.int y :: .int x :: st) h post := by
  subst hp
  exact fun p e s m args below meth c R H locs ls cells slots Q C X hP hS hl hc => lv_icmp_ne C.1 C.2.1 hd ht (fun q => kt q p e s m args below meth c R H locs ls cells slots Q C X hP hS hl hc) (fun q => kf q p e s m args below meth c R H locs ls cells slots Q C X hP hS hl hc)
theorem g_if_ne {x : Int32} {off : Int} (tgt : Nat) (ht : (pc : Int) + off = (tgt : Int)) (pc' : Nat) (hp : pc + 3 = pc') (hd : decode cc pc = .ok (.ifCond .ne off, 3)) (kt : ¬ x = 0 → G V E d own cc nL rt tgt lv (st) h post) (kf : x = 0 → G V E d own cc nL rt pc' lv (st) h post) : G V E d own cc nL rt pc lv (.int x :: st) h post := by
  subst hp
  exact fun p e s m args below meth c R H locs ls cells slots Q C X hP hS hl hc => lv_if_ne C.1 C.2.1 hd ht (fun q => kt q p e s m args below meth c R H locs ls cells slots Q C X hP hS hl hc) (fun q => kf q p e s m args below meth c R H locs ls cells slots Q C X hP hS hl hc)
theorem gn_icmp_ne {x y : Nat} {off : Int} (tgt : Nat) (ht : (pc : Int) + off = (tgt : Int)) (pc' : Nat) (hp : pc + 3 = pc') (hd : decode cc pc = .ok (.if_icmp .ne off, 3)) (hx : x < 2 ^ 31) (hy : y < 2 ^ 31) (kt : ¬ x = y → G V E d own cc nL rt tgt lv (st) h post) (kf : x = y → G V E d own cc nL rt pc' lv (st) h post) : G V E d own cc nL rt pc lv (.int (nI y) :: .int (nI x) :: st) h post := by
  exact g_icmp_ne tgt ht pc' hp hd (fun q => kt (fun w => q ((nI_eq hx hy).mpr w))) (fun q => kf ((nI_eq hx hy).mp q))
theorem gn_if_ne {x : Nat} {off : Int} (tgt : Nat) (ht : (pc : Int) + off = (tgt : Int)) (pc' : Nat) (hp : pc + 3 = pc') (hd : decode cc pc = .ok (.ifCond .ne off, 3)) (hx : x < 2 ^ 31) (kt : ¬ x = 0 → G V E d own cc nL rt tgt lv (st) h post) (kf : x = 0 → G V E d own cc nL rt pc' lv (st) h post) : G V E d own cc nL rt pc lv (.int (nI x) :: st) h post := by
  refine g_if_ne tgt ht pc' hp hd (fun q => kt ?_) (fun q => kf ?_)
  · exact (fz_ne hx).1 q
  · exact (fz_ne hx).2 q
theorem g_icmp_lt {x y : Int32} {off : Int} (tgt : Nat) (ht : (pc : Int) + off = (tgt : Int)) (pc' : Nat) (hp : pc + 3 = pc') (hd : decode cc pc = .ok (.if_icmp .lt off, 3)) (kt : x < y → G V E d own cc nL rt tgt lv (st) h post) (kf : ¬ x < y → G V E d own cc nL rt pc' lv (st) h post) : G V E d own cc nL rt pc lv (.int y :: .int x :: st) h post := by
  subst hp
  exact fun p e s m args below meth c R H locs ls cells slots Q C X hP hS hl hc => lv_icmp_lt C.1 C.2.1 hd ht (fun q => kt q p e s m args below meth c R H locs ls cells slots Q C X hP hS hl hc) (fun q => kf q p e s m args below meth c R H locs ls cells slots Q C X hP hS hl hc)
theorem g_if_lt {x : Int32} {off : Int} (tgt : Nat) (ht : (pc : Int) + off = (tgt : Int)) (pc' : Nat) (hp : pc + 3 = pc') (hd : decode cc pc = .ok (.ifCond .lt off, 3)) (kt : x < 0 → G V E d own cc nL rt tgt lv (st) h post) (kf : ¬ x < 0 → G V E d own cc nL rt pc' lv (st) h post) : G V E d own cc nL rt pc lv (.int x :: st) h post := by
  subst hp
  exact fun p e s m args below meth c R H locs ls cells slots Q C X hP hS hl hc => lv_if_lt C.1 C.2.1 hd ht (fun q => kt q p e s m args below meth c R H locs ls cells slots Q C X hP hS hl hc) (fun q => kf q p e s m args below meth c R H locs ls cells slots Q C X hP hS hl hc)
theorem gn_icmp_lt {x y : Nat} {off : Int} (tgt : Nat) (ht : (pc : Int) + off = (tgt : Int)) (pc' : Nat) (hp : pc + 3 = pc') (hd : decode cc pc = .ok (.if_icmp .lt off, 3)) (hx : x < 2 ^ 31) (hy : y < 2 ^ 31) (kt : x < y → G V E d own cc nL rt tgt lv (st) h post) (kf : y ≤ x → G V E d own cc nL rt pc' lv (st) h post) : G V E d own cc nL rt pc lv (.int (nI y) :: .int (nI x) :: st) h post := by
  exact g_icmp_lt tgt ht pc' hp hd (fun q => kt ((nI_ltI hx hy).mp q)) (fun q => kf (by have w := (not_congr (nI_ltI hx hy)).mp q; omega))
theorem gn_if_lt {x : Nat} {off : Int} (tgt : Nat) (ht : (pc : Int) + off = (tgt : Int)) (pc' : Nat) (hp : pc + 3 = pc') (hd : decode cc pc = .ok (.ifCond .lt off, 3)) (hx : x < 2 ^ 31) (kt : False → G V E d own cc nL rt tgt lv (st) h post) (kf : True → G V E d own cc nL rt pc' lv (st) h post) : G V E d own cc nL rt pc lv (.int (nI x) :: st) h post := by
  refine g_if_lt tgt ht pc' hp hd (fun q => kt ?_) (fun q => kf ?_)
  · exact (fz_lt hx).1 q
  · exact (fz_lt hx).2 q
theorem g_icmp_ge {x y : Int32} {off : Int} (tgt : Nat) (ht : (pc : Int) + off = (tgt : Int)) (pc' : Nat) (hp : pc + 3 = pc') (hd : decode cc pc = .ok (.if_icmp .ge off, 3)) (kt : y ≤ x → G V E d own cc nL rt tgt lv (st) h post) (kf : ¬ y ≤ x → G V E d own cc nL rt pc' lv (st) h post) : G V E d own cc nL rt pc lv (.int y :: .int x :: st) h post := by
  subst hp
  exact fun p e s m args below meth c R H locs ls cells slots Q C X hP hS hl hc => lv_icmp_ge C.1 C.2.1 hd ht (fun q => kt q p e s m args below meth c R H locs ls cells slots Q C X hP hS hl hc) (fun q => kf q p e s m args below meth c R H locs ls cells slots Q C X hP hS hl hc)
theorem g_if_ge {x : Int32} {off : Int} (tgt : Nat) (ht : (pc : Int) + off = (tgt : Int)) (pc' : Nat) (hp : pc + 3 = pc') (hd : decode cc pc = .ok (.ifCond .ge off, 3)) (kt : 0 ≤ x → G V E d own cc nL rt tgt lv (st) h post) (kf : ¬ 0 ≤ x → G V E d own cc nL rt pc' lv (st) h post) : G V E d own cc nL rt pc lv (.int x :: st) h post := by
  subst hp
  exact fun p e s m args below meth c R H locs ls cells slots Q C X hP hS hl hc => lv_if_ge C.1 C.2.1 hd ht (fun q => kt q p e s m args below meth c R H locs ls cells slots Q C X hP hS hl hc) (fun q => kf q p e s m args below meth c R H locs ls cells slots Q C X hP hS hl hc)
theorem gn_icmp_ge {x y : Nat} {off : Int} (tgt : Nat) (ht : (pc : Int) + off = (tgt : Int)) (pc' : Nat) (hp : pc + 3 = pc') (hd : decode cc pc = .ok (.if_icmp .ge off, 3)) (hx : x < 2 ^ 31) (hy : y < 2 ^ 31) (kt : y ≤ x → G V E d own cc nL rt tgt lv (st) h post) (kf : x < y → G V E d own cc nL rt pc' lv (st) h post) : G V E d own cc nL rt pc lv (.int (nI y) :: .int (nI x) :: st) h post := by
  exact g_icmp_ge tgt ht pc' hp hd (fun q => kt ((nI_leI hy hx).mp q)) (fun q => kf (by have w := (not_congr (nI_leI hy hx)).mp q; omega))
theorem gn_if_ge {x : Nat} {off : Int} (tgt : Nat) (ht : (pc : Int) + off = (tgt : Int)) (pc' : Nat) (hp : pc + 3 = pc') (hd : decode cc pc = .ok (.ifCond .ge off, 3)) (hx : x < 2 ^ 31) (kt : True → G V E d own cc nL rt tgt lv (st) h post) (kf : False → G V E d own cc nL rt pc' lv (st) h post) : G V E d own cc nL rt pc lv (.int (nI x) :: st) h post := by
  refine g_if_ge tgt ht pc' hp hd (fun q => kt ?_) (fun q => kf ?_)
  · exact (fz_ge hx).1 q
  · exact (fz_ge hx).2 q
theorem g_icmp_gt {x y : Int32} {off : Int} (tgt : Nat) (ht : (pc : Int) + off = (tgt : Int)) (pc' : Nat) (hp : pc + 3 = pc') (hd : decode cc pc = .ok (.if_icmp .gt off, 3)) (kt : y < x → G V E d own cc nL rt tgt lv (st) h post) (kf : ¬ y < x → G V E d own cc nL rt pc' lv (st) h post) : G V E d own cc nL rt pc lv (.int y :: .int x :: st) h post := by
  subst hp
  exact fun p e s m args below meth c R H locs ls cells slots Q C X hP hS hl hc => lv_icmp_gt C.1 C.2.1 hd ht (fun q => kt q p e s m args below meth c R H locs ls cells slots Q C X hP hS hl hc) (fun q => kf q p e s m args below meth c R H locs ls cells slots Q C X hP hS hl hc)
theorem g_if_gt {x : Int32} {off : Int} (tgt : Nat) (ht : (pc : Int) + off = (tgt : Int)) (pc' : Nat) (hp : pc + 3 = pc') (hd : decode cc pc = .ok (.ifCond .gt off, 3)) (kt : 0 < x → G V E d own cc nL rt tgt lv (st) h post) (kf : ¬ 0 < x → G V E d own cc nL rt pc' lv (st) h post) : G V E d own cc nL rt pc lv (.int x :: st) h post := by
  subst hp
  exact fun p e s m args below meth c R H locs ls cells slots Q C X hP hS hl hc => lv_if_gt C.1 C.2.1 hd ht (fun q => kt q p e s m args below meth c R H locs ls cells slots Q C X hP hS hl hc) (fun q => kf q p e s m args below meth c R H locs ls cells slots Q C X hP hS hl hc)
theorem gn_icmp_gt {x y : Nat} {off : Int} (tgt : Nat) (ht : (pc : Int) + off = (tgt : Int)) (pc' : Nat) (hp : pc + 3 = pc') (hd : decode cc pc = .ok (.if_icmp .gt off, 3)) (hx : x < 2 ^ 31) (hy : y < 2 ^ 31) (kt : y < x → G V E d own cc nL rt tgt lv (st) h post) (kf : x ≤ y → G V E d own cc nL rt pc' lv (st) h post) : G V E d own cc nL rt pc lv (.int (nI y) :: .int (nI x) :: st) h post := by
  exact g_icmp_gt tgt ht pc' hp hd (fun q => kt ((nI_ltI hy hx).mp q)) (fun q => kf (by have w := (not_congr (nI_ltI hy hx)).mp q; omega))
theorem gn_if_gt {x : Nat} {off : Int} (tgt : Nat) (ht : (pc : Int) + off = (tgt : Int)) (pc' : Nat) (hp : pc + 3 = pc') (hd : decode cc pc = .ok (.ifCond .gt off, 3)) (hx : x < 2 ^ 31) (kt : 0 < x → G V E d own cc nL rt tgt lv (st) h post) (kf : x = 0 → G V E d own cc nL rt pc' lv (st) h post) : G V E d own cc nL rt pc lv (.int (nI x) :: st) h post := by
  refine g_if_gt tgt ht pc' hp hd (fun q => kt ?_) (fun q => kf ?_)
  · exact (fz_gt hx).1 q
  · exact (fz_gt hx).2 q
theorem g_icmp_le {x y : Int32} {off : Int} (tgt : Nat) (ht : (pc : Int) + off = (tgt : Int)) (pc' : Nat) (hp : pc + 3 = pc') (hd : decode cc pc = .ok (.if_icmp .le off, 3)) (kt : x ≤ y → G V E d own cc nL rt tgt lv (st) h post) (kf : ¬ x ≤ y → G V E d own cc nL rt pc' lv (st) h post) : G V E d own cc nL rt pc lv (.int y :: .int x :: st) h post := by
  subst hp
  exact fun p e s m args below meth c R H locs ls cells slots Q C X hP hS hl hc => lv_icmp_le C.1 C.2.1 hd ht (fun q => kt q p e s m args below meth c R H locs ls cells slots Q C X hP hS hl hc) (fun q => kf q p e s m args below meth c R H locs ls cells slots Q C X hP hS hl hc)
theorem g_if_le {x : Int32} {off : Int} (tgt : Nat) (ht : (pc : Int) + off = (tgt : Int)) (pc' : Nat) (hp : pc + 3 = pc') (hd : decode cc pc = .ok (.ifCond .le off, 3)) (kt : x ≤ 0 → G V E d own cc nL rt tgt lv (st) h post) (kf : ¬ x ≤ 0 → G V E d own cc nL rt pc' lv (st) h post) : G V E d own cc nL rt pc lv (.int x :: st) h post := by
  subst hp
  exact fun p e s m args below meth c R H locs ls cells slots Q C X hP hS hl hc => lv_if_le C.1 C.2.1 hd ht (fun q => kt q p e s m args below meth c R H locs ls cells slots Q C X hP hS hl hc) (fun q => kf q p e s m args below meth c R H locs ls cells slots Q C X hP hS hl hc)
theorem gn_icmp_le {x y : Nat} {off : Int} (tgt : Nat) (ht : (pc : Int) + off = (tgt : Int)) (pc' : Nat) (hp : pc + 3 = pc') (hd : decode cc pc = .ok (.if_icmp .le off, 3)) (hx : x < 2 ^ 31) (hy : y < 2 ^ 31) (kt : x ≤ y → G V E d own cc nL rt tgt lv (st) h post) (kf : y < x → G V E d own cc nL rt pc' lv (st) h post) : G V E d own cc nL rt pc lv (.int (nI y) :: .int (nI x) :: st) h post := by
  exact g_icmp_le tgt ht pc' hp hd (fun q => kt ((nI_leI hx hy).mp q)) (fun q => kf (by have w := (not_congr (nI_leI hx hy)).mp q; omega))
theorem gn_if_le {x : Nat} {off : Int} (tgt : Nat) (ht : (pc : Int) + off = (tgt : Int)) (pc' : Nat) (hp : pc + 3 = pc') (hd : decode cc pc = .ok (.ifCond .le off, 3)) (hx : x < 2 ^ 31) (kt : x = 0 → G V E d own cc nL rt tgt lv (st) h post) (kf : 0 < x → G V E d own cc nL rt pc' lv (st) h post) : G V E d own cc nL rt pc lv (.int (nI x) :: st) h post := by
  refine g_if_le tgt ht pc' hp hd (fun q => kt ?_) (fun q => kf ?_)
  · exact (fz_le hx).1 q
  · exact (fz_le hx).2 q
theorem g_goto {off : Int} (tgt : Nat) (ht : (pc : Int) + off = (tgt : Int)) (hd : decode cc pc = .ok (.goto off, 3)) (k : G V E d own cc nL rt tgt lv (st) h post) : G V E d own cc nL rt pc lv (st) h post := fun p e s m args below meth c R H locs ls cells slots Q C X hP hS hl hc => lv_goto C.1 C.2.1 hd ht (k p e s m args below meth c R H locs ls cells slots Q C X hP hS hl hc)
def tsO (dflt lo hi : Int) (offs : Array Int) (x : Int32) : Option Int := if x.toInt < lo ∨ hi < x.toInt then some dflt else offs[(x.toInt - lo).toNat]?
theorem g_tsw {dflt lo hi : Int} {offs : Array Int} {len : Nat} {x : Int32} {off : Int} (tgt : Nat) (hd : decode cc pc = .ok (.tableswitch dflt lo hi offs, len)) (ho : tsO dflt lo hi offs x = some off) (ht : (pc : Int) + off = (tgt : Int)) (k : G V E d own cc nL rt tgt lv (st) h post) : G V E d own cc nL rt pc lv (.int x :: st) h post := by
  intro p e s m args below meth c R H locs ls cells slots Q C X hP hS hl hc
  unfold tsO at ho
  split at ho
  · rename_i q
    cases ho
    exact lv_tableOut C.1 C.2.1 hd q ht (k p e s m args below meth c R H locs ls cells slots Q C X hP hS hl hc)
  · rename_i q
    exact lv_tableIn C.1 C.2.1 hd (fun w => q (Or.inl w)) (fun w => q (Or.inr w)) ho ht (k p e s m args below meth c R H locs ls cells slots Q C X hP hS hl hc)
theorem g_lsw {dflt : Int} {ps : Array (Int × Int)} {len : Nat} {x : Int32} {off : Int} (tgt : Nat) (hd : decode cc pc = .ok (.lookupswitch dflt ps, len)) (hs : (ps.toList.zip (ps.toList.drop 1)).all (fun (a, next) => a.1 < next.1) = true) (ho : Op.lookupswitch.offset ps.toList dflt x.toInt = off) (ht : (pc : Int) + off = (tgt : Int)) (k : G V E d own cc nL rt tgt lv (st) h post) : G V E d own cc nL rt pc lv (.int x :: st) h post := fun p e s m args below meth c R H locs ls cells slots Q C X hP hS hl hc => lv_lookup C.1 C.2.1 hd hs ho ht (k p e s m args below meth c R H locs ls cells slots Q C X hP hS hl hc)
theorem g_iload0 {t : List (Option Value)} {x : Int32} (pc' : Nat) (hp : pc + 2 = pc') (hd : decode cc pc = .ok (.iload 0, 2)) (k : G V E d own cc nL rt pc' (some (.int x) :: t) (.int x :: st) h post) : G V E d own cc nL rt pc (some (.int x) :: t) (st) h post := by
  subst hp
  exact fun p e s m args below meth c R H locs ls cells slots Q C X hP hS hl hc => lv_iload C.1 C.2.1 hd (asl_at (i := 0) hl rfl) (k p e s m args below meth c R H locs ls cells slots Q C X hP hS hl hc)
theorem g_iload_n0 {t : List (Option Value)} {x : Int32} (pc' : Nat) (hp : pc + 1 = pc') (hd : decode cc pc = .ok (.iload_n 0, 1)) (k : G V E d own cc nL rt pc' (some (.int x) :: t) (.int x :: st) h post) : G V E d own cc nL rt pc (some (.int x) :: t) (st) h post := by
  subst hp
  exact fun p e s m args below meth c R H locs ls cells slots Q C X hP hS hl hc => lv_iload_n C.1 C.2.1 hd rfl (asl_at (i := 0) hl rfl) (k p e s m args below meth c R H locs ls cells slots Q C X hP hS hl hc)
theorem g_aload0 {t : List (Option Value)} {x : Nat} (pc' : Nat) (hp : pc + 2 = pc') (hd : decode cc pc = .ok (.aload 0, 2)) (k : G V E d own cc nL rt pc' (some (rf V x) :: t) (rf V x :: st) h post) : G V E d own cc nL rt pc (some (rf V x) :: t) (st) h post := by
  subst hp
  exact fun p e s m args below meth c R H locs ls cells slots Q C X hP hS hl hc => lv_aload C.1 C.2.1 hd (asl_at (i := 0) hl rfl) (k p e s m args below meth c R H locs ls cells slots Q C X hP hS hl hc)
theorem g_aload_n0 {t : List (Option Value)} {x : Nat} (pc' : Nat) (hp : pc + 1 = pc') (hd : decode cc pc = .ok (.aload_n 0, 1)) (k : G V E d own cc nL rt pc' (some (rf V x) :: t) (rf V x :: st) h post) : G V E d own cc nL rt pc (some (rf V x) :: t) (st) h post := by
  subst hp
  exact fun p e s m args below meth c R H locs ls cells slots Q C X hP hS hl hc => lv_aload_n C.1 C.2.1 hd rfl (asl_at (i := 0) hl rfl) (k p e s m args below meth c R H locs ls cells slots Q C X hP hS hl hc)
theorem g_lload0 {t : List (Option Value)} {x : Int64} (pc' : Nat) (hp : pc + 2 = pc') (hd : decode cc pc = .ok (.lload 0, 2)) (k : G V E d own cc nL rt pc' (some (.long x) :: t) (.long x :: st) h post) : G V E d own cc nL rt pc (some (.long x) :: t) (st) h post := by
  subst hp
  exact fun p e s m args below meth c R H locs ls cells slots Q C X hP hS hl hc => lv_lload C.1 C.2.1 hd (asl_at (i := 0) hl rfl) (k p e s m args below meth c R H locs ls cells slots Q C X hP hS hl hc)
theorem g_lload_n0 {t : List (Option Value)} {x : Int64} (pc' : Nat) (hp : pc + 1 = pc') (hd : decode cc pc = .ok (.lload_n 0, 1)) (k : G V E d own cc nL rt pc' (some (.long x) :: t) (.long x :: st) h post) : G V E d own cc nL rt pc (some (.long x) :: t) (st) h post := by
  subst hp
  exact fun p e s m args below meth c R H locs ls cells slots Q C X hP hS hl hc => lv_lload_n C.1 C.2.1 hd rfl (asl_at (i := 0) hl rfl) (k p e s m args below meth c R H locs ls cells slots Q C X hP hS hl hc)
theorem g_istore0 { b : Option Value} {t : List (Option Value)} {x : Int32} (pc' : Nat) (hp : pc + 2 = pc') (hd : decode cc pc = .ok (.istore 0, 2)) (hn : 0 < nL) (k : G V E d own cc nL rt pc' (some (.int x) :: t) (st) h post) : G V E d own cc nL rt pc (b :: t) (.int x :: st) h post := by
  subst hp
  exact fun p e s m args below meth c R H locs ls cells slots Q C X hP hS hl hc => lv_istore C.1 C.2.1 hd hl hn rfl (fun ls' hl' => k p e s m args below meth c R H locs ls' cells slots Q C X hP hS (asl_st (lv := (b :: t)) (i := 0) hl' rfl (by simp only [List.length_cons]; omega) (fun j w hj _ => absurd hj (Nat.succ_ne_zero j))) hc)
theorem g_istore_n0 { b : Option Value} {t : List (Option Value)} {x : Int32} (pc' : Nat) (hp : pc + 1 = pc') (hd : decode cc pc = .ok (.istore_n 0, 1)) (hn : 0 < nL) (k : G V E d own cc nL rt pc' (some (.int x) :: t) (st) h post) : G V E d own cc nL rt pc (b :: t) (.int x :: st) h post := by
  subst hp
  exact fun p e s m args below meth c R H locs ls cells slots Q C X hP hS hl hc => lv_istore_n C.1 C.2.1 hd rfl hl hn rfl (fun ls' hl' => k p e s m args below meth c R H locs ls' cells slots Q C X hP hS (asl_st (lv := (b :: t)) (i := 0) hl' rfl (by simp only [List.length_cons]; omega) (fun j w hj _ => absurd hj (Nat.succ_ne_zero j))) hc)
theorem g_astore0 { b : Option Value} {t : List (Option Value)} {x : Nat} (pc' : Nat) (hp : pc + 2 = pc') (hd : decode cc pc = .ok (.astore 0, 2)) (hn : 0 < nL) (k : G V E d own cc nL rt pc' (some (rf V x) :: t) (st) h post) : G V E d own cc nL rt pc (b :: t) (rf V x :: st) h post := by
  subst hp
  exact fun p e s m args below meth c R H locs ls cells slots Q C X hP hS hl hc => lv_astore C.1 C.2.1 hd hl hn rfl (fun ls' hl' => k p e s m args below meth c R H locs ls' cells slots Q C X hP hS (asl_st (lv := (b :: t)) (i := 0) hl' rfl (by simp only [List.length_cons]; omega) (fun j w hj _ => absurd hj (Nat.succ_ne_zero j))) hc)
theorem g_astore_n0 { b : Option Value} {t : List (Option Value)} {x : Nat} (pc' : Nat) (hp : pc + 1 = pc') (hd : decode cc pc = .ok (.astore_n 0, 1)) (hn : 0 < nL) (k : G V E d own cc nL rt pc' (some (rf V x) :: t) (st) h post) : G V E d own cc nL rt pc (b :: t) (rf V x :: st) h post := by
  subst hp
  exact fun p e s m args below meth c R H locs ls cells slots Q C X hP hS hl hc => lv_astore_n C.1 C.2.1 hd rfl hl hn rfl (fun ls' hl' => k p e s m args below meth c R H locs ls' cells slots Q C X hP hS (asl_st (lv := (b :: t)) (i := 0) hl' rfl (by simp only [List.length_cons]; omega) (fun j w hj _ => absurd hj (Nat.succ_ne_zero j))) hc)
theorem g_iinc0 {t : List (Option Value)} {x v : Int32} {n : Int} (pc' : Nat) (hp : pc + 3 = pc') (hd : decode cc pc = .ok (.iinc 0 n, 3)) (hv : x + Int32.ofInt n = v) (hn : 0 < nL) (k : G V E d own cc nL rt pc' (some (.int v) :: t) (st) h post) : G V E d own cc nL rt pc (some (.int x) :: t) (st) h post := by
  subst hp
  intro p e s m args below meth c R H locs ls cells slots Q C X hP hS hl hc
  obtain ⟨q, hq⟩ := List.getElem?_of_mem ((asl_mem (some (.int x) :: t) 0 0 (.int x)).mpr ⟨0, by omega, rfl⟩)
  exact lv_iinc C.1 C.2.1 hd hl hq hv hn rfl (fun ls' hl' => k p e s m args below meth c R H locs ls' cells slots Q C X hP hS (asl_st (lv := (some (.int x) :: t)) (i := 0) hl' rfl (by simp only [List.length_cons]; omega) (fun j w hj _ => absurd hj (Nat.succ_ne_zero j))) hc)
theorem gn_iinc0 {t : List (Option Value)} {x : Nat} {n : Int} (z : Nat) (pc' : Nat) (hp : pc + 3 = pc') (hd : decode cc pc = .ok (.iinc 0 n, 3)) (hz : Int32.ofInt n = nI z) (hn : 0 < nL) (k : G V E d own cc nL rt pc' (some (.int (nI (x + z))) :: t) (st) h post) : G V E d own cc nL rt pc (some (.int (nI x)) :: t) (st) h post := g_iinc0 pc' hp hd (by rw [hz, nI_add]) hn k
theorem g_iload1 {a0 : Option Value} {t : List (Option Value)} {x : Int32} (pc' : Nat) (hp : pc + 2 = pc') (hd : decode cc pc = .ok (.iload 1, 2)) (k : G V E d own cc nL rt pc' (a0 :: some (.int x) :: t) (.int x :: st) h post) : G V E d own cc nL rt pc (a0 :: some (.int x) :: t) (st) h post := by
  subst hp
  exact fun p e s m args below meth c R H locs ls cells slots Q C X hP hS hl hc => lv_iload C.1 C.2.1 hd (asl_at (i := 1) hl rfl) (k p e s m args below meth c R H locs ls cells slots Q C X hP hS hl hc)
theorem g_iload_n1 {a0 : Option Value} {t : List (Option Value)} {x : Int32} (pc' : Nat) (hp : pc + 1 = pc') (hd : decode cc pc = .ok (.iload_n 1, 1)) (k : G V E d own cc nL rt pc' (a0 :: some (.int x) :: t) (.int x :: st) h post) : G V E d own cc nL rt pc (a0 :: some (.int x) :: t) (st) h post := by
  subst hp
  exact fun p e s m args below meth c R H locs ls cells slots Q C X hP hS hl hc => lv_iload_n C.1 C.2.1 hd rfl (asl_at (i := 1) hl rfl) (k p e s m args below meth c R H locs ls cells slots Q C X hP hS hl hc)
theorem g_aload1 {a0 : Option Value} {t : List (Option Value)} {x : Nat} (pc' : Nat) (hp : pc + 2 = pc') (hd : decode cc pc = .ok (.aload 1, 2)) (k : G V E d own cc nL rt pc' (a0 :: some (rf V x) :: t) (rf V x :: st) h post) : G V E d own cc nL rt pc (a0 :: some (rf V x) :: t) (st) h post := by
  subst hp
  exact fun p e s m args below meth c R H locs ls cells slots Q C X hP hS hl hc => lv_aload C.1 C.2.1 hd (asl_at (i := 1) hl rfl) (k p e s m args below meth c R H locs ls cells slots Q C X hP hS hl hc)
theorem g_aload_n1 {a0 : Option Value} {t : List (Option Value)} {x : Nat} (pc' : Nat) (hp : pc + 1 = pc') (hd : decode cc pc = .ok (.aload_n 1, 1)) (k : G V E d own cc nL rt pc' (a0 :: some (rf V x) :: t) (rf V x :: st) h post) : G V E d own cc nL rt pc (a0 :: some (rf V x) :: t) (st) h post := by
  subst hp
  exact fun p e s m args below meth c R H locs ls cells slots Q C X hP hS hl hc => lv_aload_n C.1 C.2.1 hd rfl (asl_at (i := 1) hl rfl) (k p e s m args below meth c R H locs ls cells slots Q C X hP hS hl hc)
theorem g_lload1 {a0 : Option Value} {t : List (Option Value)} {x : Int64} (pc' : Nat) (hp : pc + 2 = pc') (hd : decode cc pc = .ok (.lload 1, 2)) (k : G V E d own cc nL rt pc' (a0 :: some (.long x) :: t) (.long x :: st) h post) : G V E d own cc nL rt pc (a0 :: some (.long x) :: t) (st) h post := by
  subst hp
  exact fun p e s m args below meth c R H locs ls cells slots Q C X hP hS hl hc => lv_lload C.1 C.2.1 hd (asl_at (i := 1) hl rfl) (k p e s m args below meth c R H locs ls cells slots Q C X hP hS hl hc)
theorem g_lload_n1 {a0 : Option Value} {t : List (Option Value)} {x : Int64} (pc' : Nat) (hp : pc + 1 = pc') (hd : decode cc pc = .ok (.lload_n 1, 1)) (k : G V E d own cc nL rt pc' (a0 :: some (.long x) :: t) (.long x :: st) h post) : G V E d own cc nL rt pc (a0 :: some (.long x) :: t) (st) h post := by
  subst hp
  exact fun p e s m args below meth c R H locs ls cells slots Q C X hP hS hl hc => lv_lload_n C.1 C.2.1 hd rfl (asl_at (i := 1) hl rfl) (k p e s m args below meth c R H locs ls cells slots Q C X hP hS hl hc)
theorem g_istore1 {a0 b : Option Value} {t : List (Option Value)} {x : Int32} (pc' : Nat) (hp : pc + 2 = pc') (hd : decode cc pc = .ok (.istore 1, 2)) (hn : 1 < nL) (hcat : catOK a0 = true) (k : G V E d own cc nL rt pc' (a0 :: some (.int x) :: t) (st) h post) : G V E d own cc nL rt pc (a0 :: b :: t) (.int x :: st) h post := by
  subst hp
  exact fun p e s m args below meth c R H locs ls cells slots Q C X hP hS hl hc => lv_istore C.1 C.2.1 hd hl hn rfl (fun ls' hl' => k p e s m args below meth c R H locs ls' cells slots Q C X hP hS (asl_st (lv := (a0 :: b :: t)) (i := 1) hl' rfl (by simp only [List.length_cons]; omega) (fun j w hj hw => asl_cat (i := 1) (a := a0) rfl hcat (j := j) hj hw)) hc)
theorem g_istore_n1 {a0 b : Option Value} {t : List (Option Value)} {x : Int32} (pc' : Nat) (hp : pc + 1 = pc') (hd : decode cc pc = .ok (.istore_n 1, 1)) (hn : 1 < nL) (hcat : catOK a0 = true) (k : G V E d own cc nL rt pc' (a0 :: some (.int x) :: t) (st) h post) : G V E d own cc nL rt pc (a0 :: b :: t) (.int x :: st) h post := by
  subst hp
  exact fun p e s m args below meth c R H locs ls cells slots Q C X hP hS hl hc => lv_istore_n C.1 C.2.1 hd rfl hl hn rfl (fun ls' hl' => k p e s m args below meth c R H locs ls' cells slots Q C X hP hS (asl_st (lv := (a0 :: b :: t)) (i := 1) hl' rfl (by simp only [List.length_cons]; omega) (fun j w hj hw => asl_cat (i := 1) (a := a0) rfl hcat (j := j) hj hw)) hc)
theorem g_astore1 {a0 b : Option Value} {t : List (Option Value)} {x : Nat} (pc' : Nat) (hp : pc + 2 = pc') (hd : decode cc pc = .ok (.astore 1, 2)) (hn : 1 < nL) (hcat : catOK a0 = true) (k : G V E d own cc nL rt pc' (a0 :: some (rf V x) :: t) (st) h post) : G V E d own cc nL rt pc (a0 :: b :: t) (rf V x :: st) h post := by
  subst hp
  exact fun p e s m args below meth c R H locs ls cells slots Q C X hP hS hl hc => lv_astore C.1 C.2.1 hd hl hn rfl (fun ls' hl' => k p e s m args below meth c R H locs ls' cells slots Q C X hP hS (asl_st (lv := (a0 :: b :: t)) (i := 1) hl' rfl (by simp only [List.length_cons]; omega) (fun j w hj hw => asl_cat (i := 1) (a := a0) rfl hcat (j := j) hj hw)) hc)
theorem g_astore_n1 {a0 b : Option Value} {t : List (Option Value)} {x : Nat} (pc' : Nat) (hp : pc + 1 = pc') (hd : decode cc pc = .ok (.astore_n 1, 1)) (hn : 1 < nL) (hcat : catOK a0 = true) (k : G V E d own cc nL rt pc' (a0 :: some (rf V x) :: t) (st) h post) : G V E d own cc nL rt pc (a0 :: b :: t) (rf V x :: st) h post := by
  subst hp
  exact fun p e s m args below meth c R H locs ls cells slots Q C X hP hS hl hc => lv_astore_n C.1 C.2.1 hd rfl hl hn rfl (fun ls' hl' => k p e s m args below meth c R H locs ls' cells slots Q C X hP hS (asl_st (lv := (a0 :: b :: t)) (i := 1) hl' rfl (by simp only [List.length_cons]; omega) (fun j w hj hw => asl_cat (i := 1) (a := a0) rfl hcat (j := j) hj hw)) hc)
theorem g_iinc1 {a0 : Option Value} {t : List (Option Value)} {x v : Int32} {n : Int} (pc' : Nat) (hp : pc + 3 = pc') (hd : decode cc pc = .ok (.iinc 1 n, 3)) (hv : x + Int32.ofInt n = v) (hn : 1 < nL) (hcat : catOK a0 = true) (k : G V E d own cc nL rt pc' (a0 :: some (.int v) :: t) (st) h post) : G V E d own cc nL rt pc (a0 :: some (.int x) :: t) (st) h post := by
  subst hp
  intro p e s m args below meth c R H locs ls cells slots Q C X hP hS hl hc
  obtain ⟨q, hq⟩ := List.getElem?_of_mem ((asl_mem (a0 :: some (.int x) :: t) 0 1 (.int x)).mpr ⟨1, by omega, rfl⟩)
  exact lv_iinc C.1 C.2.1 hd hl hq hv hn rfl (fun ls' hl' => k p e s m args below meth c R H locs ls' cells slots Q C X hP hS (asl_st (lv := (a0 :: some (.int x) :: t)) (i := 1) hl' rfl (by simp only [List.length_cons]; omega) (fun j w hj hw => asl_cat (i := 1) (a := a0) rfl hcat (j := j) hj hw)) hc)
theorem gn_iinc1 {a0 : Option Value} {t : List (Option Value)} {x : Nat} {n : Int} (z : Nat) (pc' : Nat) (hp : pc + 3 = pc') (hd : decode cc pc = .ok (.iinc 1 n, 3)) (hz : Int32.ofInt n = nI z) (hn : 1 < nL) (hcat : catOK a0 = true) (k : G V E d own cc nL rt pc' (a0 :: some (.int (nI (x + z))) :: t) (st) h post) : G V E d own cc nL rt pc (a0 :: some (.int (nI x)) :: t) (st) h post := g_iinc1 pc' hp hd (by rw [hz, nI_add]) hn hcat k
theorem g_iload2 {a0 a1 : Option Value} {t : List (Option Value)} {x : Int32} (pc' : Nat) (hp : pc + 2 = pc') (hd : decode cc pc = .ok (.iload 2, 2)) (k : G V E d own cc nL rt pc' (a0 :: a1 :: some (.int x) :: t) (.int x :: st) h post) : G V E d own cc nL rt pc (a0 :: a1 :: some (.int x) :: t) (st) h post := by
  subst hp
  exact fun p e s m args below meth c R H locs ls cells slots Q C X hP hS hl hc => lv_iload C.1 C.2.1 hd (asl_at (i := 2) hl rfl) (k p e s m args below meth c R H locs ls cells slots Q C X hP hS hl hc)
theorem g_iload_n2 {a0 a1 : Option Value} {t : List (Option Value)} {x : Int32} (pc' : Nat) (hp : pc + 1 = pc') (hd : decode cc pc = .ok (.iload_n 2, 1)) (k : G V E d own cc nL rt pc' (a0 :: a1 :: some (.int x) :: t) (.int x :: st) h post) : G V E d own cc nL rt pc (a0 :: a1 :: some (.int x) :: t) (st) h post := by
  subst hp
  exact fun p e s m args below meth c R H locs ls cells slots Q C X hP hS hl hc => lv_iload_n C.1 C.2.1 hd rfl (asl_at (i := 2) hl rfl) (k p e s m args below meth c R H locs ls cells slots Q C X hP hS hl hc)
theorem g_aload2 {a0 a1 : Option Value} {t : List (Option Value)} {x : Nat} (pc' : Nat) (hp : pc + 2 = pc') (hd : decode cc pc = .ok (.aload 2, 2)) (k : G V E d own cc nL rt pc' (a0 :: a1 :: some (rf V x) :: t) (rf V x :: st) h post) : G V E d own cc nL rt pc (a0 :: a1 :: some (rf V x) :: t) (st) h post := by
  subst hp
  exact fun p e s m args below meth c R H locs ls cells slots Q C X hP hS hl hc => lv_aload C.1 C.2.1 hd (asl_at (i := 2) hl rfl) (k p e s m args below meth c R H locs ls cells slots Q C X hP hS hl hc)
theorem g_aload_n2 {a0 a1 : Option Value} {t : List (Option Value)} {x : Nat} (pc' : Nat) (hp : pc + 1 = pc') (hd : decode cc pc = .ok (.aload_n 2, 1)) (k : G V E d own cc nL rt pc' (a0 :: a1 :: some (rf V x) :: t) (rf V x :: st) h post) : G V E d own cc nL rt pc (a0 :: a1 :: some (rf V x) :: t) (st) h post := by
  subst hp
  exact fun p e s m args below meth c R H locs ls cells slots Q C X hP hS hl hc => lv_aload_n C.1 C.2.1 hd rfl (asl_at (i := 2) hl rfl) (k p e s m args below meth c R H locs ls cells slots Q C X hP hS hl hc)
theorem g_lload2 {a0 a1 : Option Value} {t : List (Option Value)} {x : Int64} (pc' : Nat) (hp : pc + 2 = pc') (hd : decode cc pc = .ok (.lload 2, 2)) (k : G V E d own cc nL rt pc' (a0 :: a1 :: some (.long x) :: t) (.long x :: st) h post) : G V E d own cc nL rt pc (a0 :: a1 :: some (.long x) :: t) (st) h post := by
  subst hp
  exact fun p e s m args below meth c R H locs ls cells slots Q C X hP hS hl hc => lv_lload C.1 C.2.1 hd (asl_at (i := 2) hl rfl) (k p e s m args below meth c R H locs ls cells slots Q C X hP hS hl hc)
theorem g_lload_n2 {a0 a1 : Option Value} {t : List (Option Value)} {x : Int64} (pc' : Nat) (hp : pc + 1 = pc') (hd : decode cc pc = .ok (.lload_n 2, 1)) (k : G V E d own cc nL rt pc' (a0 :: a1 :: some (.long x) :: t) (.long x :: st) h post) : G V E d own cc nL rt pc (a0 :: a1 :: some (.long x) :: t) (st) h post := by
  subst hp
  exact fun p e s m args below meth c R H locs ls cells slots Q C X hP hS hl hc => lv_lload_n C.1 C.2.1 hd rfl (asl_at (i := 2) hl rfl) (k p e s m args below meth c R H locs ls cells slots Q C X hP hS hl hc)
theorem g_istore2 {a0 a1 b : Option Value} {t : List (Option Value)} {x : Int32} (pc' : Nat) (hp : pc + 2 = pc') (hd : decode cc pc = .ok (.istore 2, 2)) (hn : 2 < nL) (hcat : catOK a1 = true) (k : G V E d own cc nL rt pc' (a0 :: a1 :: some (.int x) :: t) (st) h post) : G V E d own cc nL rt pc (a0 :: a1 :: b :: t) (.int x :: st) h post := by
  subst hp
  exact fun p e s m args below meth c R H locs ls cells slots Q C X hP hS hl hc => lv_istore C.1 C.2.1 hd hl hn rfl (fun ls' hl' => k p e s m args below meth c R H locs ls' cells slots Q C X hP hS (asl_st (lv := (a0 :: a1 :: b :: t)) (i := 2) hl' rfl (by simp only [List.length_cons]; omega) (fun j w hj hw => asl_cat (i := 2) (a := a1) rfl hcat (j := j) hj hw)) hc)
theorem g_istore_n2 {a0 a1 b : Option Value} {t : List (Option Value)} {x : Int32} (pc' : Nat) (hp : pc + 1 = pc') (hd : decode cc pc = .ok (.istore_n 2, 1)) (hn : 2 < nL) (hcat : catOK a1 = true) (k : G V E d own cc nL rt pc' (a0 :: a1 :: some (.int x) :: t) (st) h post) : G V E d own cc nL rt pc (a0 :: a1 :: b :: t) (.int x :: st) h post := by
  subst hp
  exact fun p e s m args below meth c R H locs ls cells slots Q C X hP hS hl hc => lv_istore_n C.1 C.2.1 hd rfl hl hn rfl (fun ls' hl' => k p e s m args below meth c R H locs ls' cells slots Q C X hP hS (asl_st (lv := (a0 :: a1 :: b :: t)) (i := 2) hl' rfl (by simp only [List.length_cons]; omega) (fun j w hj hw => asl_cat (i := 2) (a := a1) rfl hcat (j := j) hj hw)) hc)
theorem g_astore2 {a0 a1 b : Option Value} {t : List (Option Value)} {x : Nat} (pc' : Nat) (hp : pc + 2 = pc') (hd : decode cc pc = .ok (.astore 2, 2)) (hn : 2 < nL) (hcat : catOK a1 = true) (k : G V E d own cc nL rt pc' (a0 :: a1 :: some (rf V x) :: t) (st) h post) : G V E d own cc nL rt pc (a0 :: a1 :: b :: t) (rf V x :: st) h post := by
  subst hp
  exact fun p e s m args below meth c R H locs ls cells slots Q C X hP hS hl hc => lv_astore C.1 C.2.1 hd hl hn rfl (fun ls' hl' => k p e s m args below meth c R H locs ls' cells slots Q C X hP hS (asl_st (lv := (a0 :: a1 :: b :: t)) (i := 2) hl' rfl (by simp only [List.length_cons]; omega) (fun j w hj hw => asl_cat (i := 2) (a := a1) rfl hcat (j := j) hj hw)) hc)
theorem g_astore_n2 {a0 a1 b : Option Value} {t : List (Option Value)} {x : Nat} (pc' : Nat) (hp : pc + 1 = pc') (hd : decode cc pc = .ok (.astore_n 2, 1)) (hn : 2 < nL) (hcat : catOK a1 = true) (k : G V E d own cc nL rt pc' (a0 :: a1 :: some (rf V x) :: t) (st) h post) : G V E d own cc nL rt pc (a0 :: a1 :: b :: t) (rf V x :: st) h post := by
  subst hp
  exact fun p e s m args below meth c R H locs ls cells slots Q C X hP hS hl hc => lv_astore_n C.1 C.2.1 hd rfl hl hn rfl (fun ls' hl' => k p e s m args below meth c R H locs ls' cells slots Q C X hP hS (asl_st (lv := (a0 :: a1 :: b :: t)) (i := 2) hl' rfl (by simp only [List.length_cons]; omega) (fun j w hj hw => asl_cat (i := 2) (a := a1) rfl hcat (j := j) hj hw)) hc)
theorem g_iinc2 {a0 a1 : Option Value} {t : List (Option Value)} {x v : Int32} {n : Int} (pc' : Nat) (hp : pc + 3 = pc') (hd : decode cc pc = .ok (.iinc 2 n, 3)) (hv : x + Int32.ofInt n = v) (hn : 2 < nL) (hcat : catOK a1 = true) (k : G V E d own cc nL rt pc' (a0 :: a1 :: some (.int v) :: t) (st) h post) : G V E d own cc nL rt pc (a0 :: a1 :: some (.int x) :: t) (st) h post := by
  subst hp
  intro p e s m args below meth c R H locs ls cells slots Q C X hP hS hl hc
  obtain ⟨q, hq⟩ := List.getElem?_of_mem ((asl_mem (a0 :: a1 :: some (.int x) :: t) 0 2 (.int x)).mpr ⟨2, by omega, rfl⟩)
  exact lv_iinc C.1 C.2.1 hd hl hq hv hn rfl (fun ls' hl' => k p e s m args below meth c R H locs ls' cells slots Q C X hP hS (asl_st (lv := (a0 :: a1 :: some (.int x) :: t)) (i := 2) hl' rfl (by simp only [List.length_cons]; omega) (fun j w hj hw => asl_cat (i := 2) (a := a1) rfl hcat (j := j) hj hw)) hc)
theorem gn_iinc2 {a0 a1 : Option Value} {t : List (Option Value)} {x : Nat} {n : Int} (z : Nat) (pc' : Nat) (hp : pc + 3 = pc') (hd : decode cc pc = .ok (.iinc 2 n, 3)) (hz : Int32.ofInt n = nI z) (hn : 2 < nL) (hcat : catOK a1 = true) (k : G V E d own cc nL rt pc' (a0 :: a1 :: some (.int (nI (x + z))) :: t) (st) h post) : G V E d own cc nL rt pc (a0 :: a1 :: some (.int (nI x)) :: t) (st) h post := g_iinc2 pc' hp hd (by rw [hz, nI_add]) hn hcat k
theorem g_iload3 {a0 a1 a2 : Option Value} {t : List (Option Value)} {x : Int32} (pc' : Nat) (hp : pc + 2 = pc') (hd : decode cc pc = .ok (.iload 3, 2)) (k : G V E d own cc nL rt pc' (a0 :: a1 :: a2 :: some (.int x) :: t) (.int x :: st) h post) : G V E d own cc nL rt pc (a0 :: a1 :: a2 :: some (.int x) :: t) (st) h post := by
  subst hp
  exact fun p e s m args below meth c R H locs ls cells slots Q C X hP hS hl hc => lv_iload C.1 C.2.1 hd (asl_at (i := 3) hl rfl) (k p e s m args below meth c R H locs ls cells slots Q C X hP hS hl hc)
theorem g_iload_n3 {a0 a1 a2 : Option Value} {t : List (Option Value)} {x : Int32} (pc' : Nat) (hp : pc + 1 = pc') (hd : decode cc pc = .ok (.iload_n 3, 1)) (k : G V E d own cc nL rt pc' (a0 :: a1 :: a2 :: some (.int x) :: t) (.int x :: st) h post) : G V E d own cc nL rt pc (a0 :: a1 :: a2 :: some (.int x) :: t) (st) h post := by
  subst hp
  exact fun p e s m args below meth c R H locs ls cells slots Q C X hP hS hl hc => lv_iload_n C.1 C.2.1 hd rfl (asl_at (i := 3) hl rfl) (k p e s m args below meth c R H locs ls cells slots Q C X hP hS hl hc)
theorem g_aload3 {a0 a1 a2 : Option Value} {t : List (Option Value)} {x : Nat} (pc' : Nat) (hp : pc + 2 = pc') (hd : decode cc pc = .ok (.aload 3, 2)) (k : G V E d own cc nL rt pc' (a0 :: a1 :: a2 :: some (rf V x) :: t) (rf V x :: st) h post) : G V E d own cc nL rt pc (a0 :: a1 :: a2 :: some (rf V x) :: t) (st) h post := by
  subst hp
  exact fun p e s m args below meth c R H locs ls cells slots Q C X hP hS hl hc => lv_aload C.1 C.2.1 hd (asl_at (i := 3) hl rfl) (k p e s m args below meth c R H locs ls cells slots Q C X hP hS hl hc)
theorem g_aload_n3 {a0 a1 a2 : Option Value} {t : List (Option Value)} {x : Nat} (pc' : Nat) (hp : pc + 1 = pc') (hd : decode cc pc = .ok (.aload_n 3, 1)) (k : G V E d own cc nL rt pc' (a0 :: a1 :: a2 :: some (rf V x) :: t) (rf V x :: st) h post) : G V E d own cc nL rt pc (a0 :: a1 :: a2 :: some (rf V x) :: t) (st) h post := by
  subst hp
  exact fun p e s m args below meth c R H locs ls cells slots Q C X hP hS hl hc => lv_aload_n C.1 C.2.1 hd rfl (asl_at (i := 3) hl rfl) (k p e s m args below meth c R H locs ls cells slots Q C X hP hS hl hc)
theorem g_lload3 {a0 a1 a2 : Option Value} {t : List (Option Value)} {x : Int64} (pc' : Nat) (hp : pc + 2 = pc') (hd : decode cc pc = .ok (.lload 3, 2)) (k : G V E d own cc nL rt pc' (a0 :: a1 :: a2 :: some (.long x) :: t) (.long x :: st) h post) : G V E d own cc nL rt pc (a0 :: a1 :: a2 :: some (.long x) :: t) (st) h post := by
  subst hp
  exact fun p e s m args below meth c R H locs ls cells slots Q C X hP hS hl hc => lv_lload C.1 C.2.1 hd (asl_at (i := 3) hl rfl) (k p e s m args below meth c R H locs ls cells slots Q C X hP hS hl hc)
theorem g_lload_n3 {a0 a1 a2 : Option Value} {t : List (Option Value)} {x : Int64} (pc' : Nat) (hp : pc + 1 = pc') (hd : decode cc pc = .ok (.lload_n 3, 1)) (k : G V E d own cc nL rt pc' (a0 :: a1 :: a2 :: some (.long x) :: t) (.long x :: st) h post) : G V E d own cc nL rt pc (a0 :: a1 :: a2 :: some (.long x) :: t) (st) h post := by
  subst hp
  exact fun p e s m args below meth c R H locs ls cells slots Q C X hP hS hl hc => lv_lload_n C.1 C.2.1 hd rfl (asl_at (i := 3) hl rfl) (k p e s m args below meth c R H locs ls cells slots Q C X hP hS hl hc)
theorem g_istore3 {a0 a1 a2 b : Option Value} {t : List (Option Value)} {x : Int32} (pc' : Nat) (hp : pc + 2 = pc') (hd : decode cc pc = .ok (.istore 3, 2)) (hn : 3 < nL) (hcat : catOK a2 = true) (k : G V E d own cc nL rt pc' (a0 :: a1 :: a2 :: some (.int x) :: t) (st) h post) : G V E d own cc nL rt pc (a0 :: a1 :: a2 :: b :: t) (.int x :: st) h post := by
  subst hp
  exact fun p e s m args below meth c R H locs ls cells slots Q C X hP hS hl hc => lv_istore C.1 C.2.1 hd hl hn rfl (fun ls' hl' => k p e s m args below meth c R H locs ls' cells slots Q C X hP hS (asl_st (lv := (a0 :: a1 :: a2 :: b :: t)) (i := 3) hl' rfl (by simp only [List.length_cons]; omega) (fun j w hj hw => asl_cat (i := 3) (a := a2) rfl hcat (j := j) hj hw)) hc)
theorem g_istore_n3 {a0 a1 a2 b : Option Value} {t : List (Option Value)} {x : Int32} (pc' : Nat) (hp : pc + 1 = pc') (hd : decode cc pc = .ok (.istore_n 3, 1)) (hn : 3 < nL) (hcat : catOK a2 = true) (k : G V E d own cc nL rt pc' (a0 :: a1 :: a2 :: some (.int x) :: t) (st) h post) : G V E d own cc nL rt pc (a0 :: a1 :: a2 :: b :: t) (.int x :: st) h post := by
  subst hp
  exact fun p e s m args below meth c R H locs ls cells slots Q C X hP hS hl hc => lv_istore_n C.1 C.2.1 hd rfl hl hn rfl (fun ls' hl' => k p e s m args below meth c R H locs ls' cells slots Q C X hP hS (asl_st (lv := (a0 :: a1 :: a2 :: b :: t)) (i := 3) hl' rfl (by simp only [List.length_cons]; omega) (fun j w hj hw => asl_cat (i := 3) (a := a2) rfl hcat (j := j) hj hw)) hc)
theorem g_astore3 {a0 a1 a2 b : Option Value} {t : List (Option Value)} {x : Nat} (pc' : Nat) (hp : pc + 2 = pc') (hd : decode cc pc = .ok (.astore 3, 2)) (hn : 3 < nL) (hcat : catOK a2 = true) (k : G V E d own cc nL rt pc' (a0 :: a1 :: a2 :: some (rf V x) :: t) (st) h post) : G V E d own cc nL rt pc (a0 :: a1 :: a2 :: b :: t) (rf V x :: st) h post := by
  subst hp
  exact fun p e s m args below meth c R H locs ls cells slots Q C X hP hS hl hc => lv_astore C.1 C.2.1 hd hl hn rfl (fun ls' hl' => k p e s m args below meth c R H locs ls' cells slots Q C X hP hS (asl_st (lv := (a0 :: a1 :: a2 :: b :: t)) (i := 3) hl' rfl (by simp only [List.length_cons]; omega) (fun j w hj hw => asl_cat (i := 3) (a := a2) rfl hcat (j := j) hj hw)) hc)
theorem g_astore_n3 {a0 a1 a2 b : Option Value} {t : List (Option Value)} {x : Nat} (pc' : Nat) (hp : pc + 1 = pc') (hd : decode cc pc = .ok (.astore_n 3, 1)) (hn : 3 < nL) (hcat : catOK a2 = true) (k : G V E d own cc nL rt pc' (a0 :: a1 :: a2 :: some (rf V x) :: t) (st) h post) : G V E d own cc nL rt pc (a0 :: a1 :: a2 :: b :: t) (rf V x :: st) h post := by
  subst hp
  exact fun p e s m args below meth c R H locs ls cells slots Q C X hP hS hl hc => lv_astore_n C.1 C.2.1 hd rfl hl hn rfl (fun ls' hl' => k p e s m args below meth c R H locs ls' cells slots Q C X hP hS (asl_st (lv := (a0 :: a1 :: a2 :: b :: t)) (i := 3) hl' rfl (by simp only [List.length_cons]; omega) (fun j w hj hw => asl_cat (i := 3) (a := a2) rfl hcat (j := j) hj hw)) hc)
theorem g_iinc3 {a0 a1 a2 : Option Value} {t : List (Option Value)} {x v : Int32} {n : Int} (pc' : Nat) (hp : pc + 3 = pc') (hd : decode cc pc = .ok (.iinc 3 n, 3)) (hv : x + Int32.ofInt n = v) (hn : 3 < nL) (hcat : catOK a2 = true) (k : G V E d own cc nL rt pc' (a0 :: a1 :: a2 :: some (.int v) :: t) (st) h post) : G V E d own cc nL rt pc (a0 :: a1 :: a2 :: some (.int x) :: t) (st) h post := by
  subst hp
  intro p e s m args below meth c R H locs ls cells slots Q C X hP hS hl hc
  obtain ⟨q, hq⟩ := List.getElem?_of_mem ((asl_mem (a0 :: a1 :: a2 :: some (.int x) :: t) 0 3 (.int x)).mpr ⟨3, by omega, rfl⟩)
  exact lv_iinc C.1 C.2.1 hd hl hq hv hn rfl (fun ls' hl' => k p e s m args below meth c R H locs ls' cells slots Q C X hP hS (asl_st (lv := (a0 :: a1 :: a2 :: some (.int x) :: t)) (i := 3) hl' rfl (by simp only [List.length_cons]; omega) (fun j w hj hw => asl_cat (i := 3) (a := a2) rfl hcat (j := j) hj hw)) hc)
theorem gn_iinc3 {a0 a1 a2 : Option Value} {t : List (Option Value)} {x : Nat} {n : Int} (z : Nat) (pc' : Nat) (hp : pc + 3 = pc') (hd : decode cc pc = .ok (.iinc 3 n, 3)) (hz : Int32.ofInt n = nI z) (hn : 3 < nL) (hcat : catOK a2 = true) (k : G V E d own cc nL rt pc' (a0 :: a1 :: a2 :: some (.int (nI (x + z))) :: t) (st) h post) : G V E d own cc nL rt pc (a0 :: a1 :: a2 :: some (.int (nI x)) :: t) (st) h post := g_iinc3 pc' hp hd (by rw [hz, nI_add]) hn hcat k
theorem g_iload4 {a0 a1 a2 a3 : Option Value} {t : List (Option Value)} {x : Int32} (pc' : Nat) (hp : pc + 2 = pc') (hd : decode cc pc = .ok (.iload 4, 2)) (k : G V E d own cc nL rt pc' (a0 :: a1 :: a2 :: a3 :: some (.int x) :: t) (.int x :: st) h post) : G V E d own cc nL rt pc (a0 :: a1 :: a2 :: a3 :: some (.int x) :: t) (st) h post := by
  subst hp
  exact fun p e s m args below meth c R H locs ls cells slots Q C X hP hS hl hc => lv_iload C.1 C.2.1 hd (asl_at (i := 4) hl rfl) (k p e s m args below meth c R H locs ls cells slots Q C X hP hS hl hc)
theorem g_aload4 {a0 a1 a2 a3 : Option Value} {t : List (Option Value)} {x : Nat} (pc' : Nat) (hp : pc + 2 = pc') (hd : decode cc pc = .ok (.aload 4, 2)) (k : G V E d own cc nL rt pc' (a0 :: a1 :: a2 :: a3 :: some (rf V x) :: t) (rf V x :: st) h post) : G V E d own cc nL rt pc (a0 :: a1 :: a2 :: a3 :: some (rf V x) :: t) (st) h post := by
  subst hp
  exact fun p e s m args below meth c R H locs ls cells slots Q C X hP hS hl hc => lv_aload C.1 C.2.1 hd (asl_at (i := 4) hl rfl) (k p e s m args below meth c R H locs ls cells slots Q C X hP hS hl hc)
theorem g_lload4 {a0 a1 a2 a3 : Option Value} {t : List (Option Value)} {x : Int64} (pc' : Nat) (hp : pc + 2 = pc') (hd : decode cc pc = .ok (.lload 4, 2)) (k : G V E d own cc nL rt pc' (a0 :: a1 :: a2 :: a3 :: some (.long x) :: t) (.long x :: st) h post) : G V E d own cc nL rt pc (a0 :: a1 :: a2 :: a3 :: some (.long x) :: t) (st) h post := by
  subst hp
  exact fun p e s m args below meth c R H locs ls cells slots Q C X hP hS hl hc => lv_lload C.1 C.2.1 hd (asl_at (i := 4) hl rfl) (k p e s m args below meth c R H locs ls cells slots Q C X hP hS hl hc)
theorem g_istore4 {a0 a1 a2 a3 b : Option Value} {t : List (Option Value)} {x : Int32} (pc' : Nat) (hp : pc + 2 = pc') (hd : decode cc pc = .ok (.istore 4, 2)) (hn : 4 < nL) (hcat : catOK a3 = true) (k : G V E d own cc nL rt pc' (a0 :: a1 :: a2 :: a3 :: some (.int x) :: t) (st) h post) : G V E d own cc nL rt pc (a0 :: a1 :: a2 :: a3 :: b :: t) (.int x :: st) h post := by
  subst hp
  exact fun p e s m args below meth c R H locs ls cells slots Q C X hP hS hl hc => lv_istore C.1 C.2.1 hd hl hn rfl (fun ls' hl' => k p e s m args below meth c R H locs ls' cells slots Q C X hP hS (asl_st (lv := (a0 :: a1 :: a2 :: a3 :: b :: t)) (i := 4) hl' rfl (by simp only [List.length_cons]; omega) (fun j w hj hw => asl_cat (i := 4) (a := a3) rfl hcat (j := j) hj hw)) hc)
theorem g_astore4 {a0 a1 a2 a3 b : Option Value} {t : List (Option Value)} {x : Nat} (pc' : Nat) (hp : pc + 2 = pc') (hd : decode cc pc = .ok (.astore 4, 2)) (hn : 4 < nL) (hcat : catOK a3 = true) (k : G V E d own cc nL rt pc' (a0 :: a1 :: a2 :: a3 :: some (rf V x) :: t) (st) h post) : G V E d own cc nL rt pc (a0 :: a1 :: a2 :: a3 :: b :: t) (rf V x :: st) h post := by
  subst hp
  exact fun p e s m args below meth c R H locs ls cells slots Q C X hP hS hl hc => lv_astore C.1 C.2.1 hd hl hn rfl (fun ls' hl' => k p e s m args below meth c R H locs ls' cells slots Q C X hP hS (asl_st (lv := (a0 :: a1 :: a2 :: a3 :: b :: t)) (i := 4) hl' rfl (by simp only [List.length_cons]; omega) (fun j w hj hw => asl_cat (i := 4) (a := a3) rfl hcat (j := j) hj hw)) hc)
theorem g_iinc4 {a0 a1 a2 a3 : Option Value} {t : List (Option Value)} {x v : Int32} {n : Int} (pc' : Nat) (hp : pc + 3 = pc') (hd : decode cc pc = .ok (.iinc 4 n, 3)) (hv : x + Int32.ofInt n = v) (hn : 4 < nL) (hcat : catOK a3 = true) (k : G V E d own cc nL rt pc' (a0 :: a1 :: a2 :: a3 :: some (.int v) :: t) (st) h post) : G V E d own cc nL rt pc (a0 :: a1 :: a2 :: a3 :: some (.int x) :: t) (st) h post := by
  subst hp
  intro p e s m args below meth c R H locs ls cells slots Q C X hP hS hl hc
  obtain ⟨q, hq⟩ := List.getElem?_of_mem ((asl_mem (a0 :: a1 :: a2 :: a3 :: some (.int x) :: t) 0 4 (.int x)).mpr ⟨4, by omega, rfl⟩)
  exact lv_iinc C.1 C.2.1 hd hl hq hv hn rfl (fun ls' hl' => k p e s m args below meth c R H locs ls' cells slots Q C X hP hS (asl_st (lv := (a0 :: a1 :: a2 :: a3 :: some (.int x) :: t)) (i := 4) hl' rfl (by simp only [List.length_cons]; omega) (fun j w hj hw => asl_cat (i := 4) (a := a3) rfl hcat (j := j) hj hw)) hc)
theorem gn_iinc4 {a0 a1 a2 a3 : Option Value} {t : List (Option Value)} {x : Nat} {n : Int} (z : Nat) (pc' : Nat) (hp : pc + 3 = pc') (hd : decode cc pc = .ok (.iinc 4 n, 3)) (hz : Int32.ofInt n = nI z) (hn : 4 < nL) (hcat : catOK a3 = true) (k : G V E d own cc nL rt pc' (a0 :: a1 :: a2 :: a3 :: some (.int (nI (x + z))) :: t) (st) h post) : G V E d own cc nL rt pc (a0 :: a1 :: a2 :: a3 :: some (.int (nI x)) :: t) (st) h post := g_iinc4 pc' hp hd (by rw [hz, nI_add]) hn hcat k
theorem g_iload5 {a0 a1 a2 a3 a4 : Option Value} {t : List (Option Value)} {x : Int32} (pc' : Nat) (hp : pc + 2 = pc') (hd : decode cc pc = .ok (.iload 5, 2)) (k : G V E d own cc nL rt pc' (a0 :: a1 :: a2 :: a3 :: a4 :: some (.int x) :: t) (.int x :: st) h post) : G V E d own cc nL rt pc (a0 :: a1 :: a2 :: a3 :: a4 :: some (.int x) :: t) (st) h post := by
  subst hp
  exact fun p e s m args below meth c R H locs ls cells slots Q C X hP hS hl hc => lv_iload C.1 C.2.1 hd (asl_at (i := 5) hl rfl) (k p e s m args below meth c R H locs ls cells slots Q C X hP hS hl hc)
theorem g_aload5 {a0 a1 a2 a3 a4 : Option Value} {t : List (Option Value)} {x : Nat} (pc' : Nat) (hp : pc + 2 = pc') (hd : decode cc pc = .ok (.aload 5, 2)) (k : G V E d own cc nL rt pc' (a0 :: a1 :: a2 :: a3 :: a4 :: some (rf V x) :: t) (rf V x :: st) h post) : G V E d own cc nL rt pc (a0 :: a1 :: a2 :: a3 :: a4 :: some (rf V x) :: t) (st) h post := by
  subst hp
  exact fun p e s m args below meth c R H locs ls cells slots Q C X hP hS hl hc => lv_aload C.1 C.2.1 hd (asl_at (i := 5) hl rfl) (k p e s m args below meth c R H locs ls cells slots Q C X hP hS hl hc)
theorem g_lload5 {a0 a1 a2 a3 a4 : Option Value} {t : List (Option Value)} {x : Int64} (pc' : Nat) (hp : pc + 2 = pc') (hd : decode cc pc = .ok (.lload 5, 2)) (k : G V E d own cc nL rt pc' (a0 :: a1 :: a2 :: a3 :: a4 :: some (.long x) :: t) (.long x :: st) h post) : G V E d own cc nL rt pc (a0 :: a1 :: a2 :: a3 :: a4 :: some (.long x) :: t) (st) h post := by
  subst hp
  exact fun p e s m args below meth c R H locs ls cells slots Q C X hP hS hl hc => lv_lload C.1 C.2.1 hd (asl_at (i := 5) hl rfl) (k p e s m args below meth c R H locs ls cells slots Q C X hP hS hl hc)
theorem g_istore5 {a0 a1 a2 a3 a4 b : Option Value} {t : List (Option Value)} {x : Int32} (pc' : Nat) (hp : pc + 2 = pc') (hd : decode cc pc = .ok (.istore 5, 2)) (hn : 5 < nL) (hcat : catOK a4 = true) (k : G V E d own cc nL rt pc' (a0 :: a1 :: a2 :: a3 :: a4 :: some (.int x) :: t) (st) h post) : G V E d own cc nL rt pc (a0 :: a1 :: a2 :: a3 :: a4 :: b :: t) (.int x :: st) h post := by
  subst hp
  exact fun p e s m args below meth c R H locs ls cells slots Q C X hP hS hl hc => lv_istore C.1 C.2.1 hd hl hn rfl (fun ls' hl' => k p e s m args below meth c R H locs ls' cells slots Q C X hP hS (asl_st (lv := (a0 :: a1 :: a2 :: a3 :: a4 :: b :: t)) (i := 5) hl' rfl (by simp only [List.length_cons]; omega) (fun j w hj hw => asl_cat (i := 5) (a := a4) rfl hcat (j := j) hj hw)) hc)
theorem g_astore5 {a0 a1 a2 a3 a4 b : Option Value} {t : List (Option Value)} {x : Nat} (pc' : Nat) (hp : pc + 2 = pc') (hd : decode cc pc = .ok (.astore 5, 2)) (hn : 5 < nL) (hcat : catOK a4 = true) (k : G V E d own cc nL rt pc' (a0 :: a1 :: a2 :: a3 :: a4 :: some (rf V x) :: t) (st) h post) : G V E d own cc nL rt pc (a0 :: a1 :: a2 :: a3 :: a4 :: b :: t) (rf V x :: st) h post := by
  subst hp
  exact fun p e s m args below meth c R H locs ls cells slots Q C X hP hS hl hc => lv_astore C.1 C.2.1 hd hl hn rfl (fun ls' hl' => k p e s m args below meth c R H locs ls' cells slots Q C X hP hS (asl_st (lv := (a0 :: a1 :: a2 :: a3 :: a4 :: b :: t)) (i := 5) hl' rfl (by simp only [List.length_cons]; omega) (fun j w hj hw => asl_cat (i := 5) (a := a4) rfl hcat (j := j) hj hw)) hc)
theorem g_iinc5 {a0 a1 a2 a3 a4 : Option Value} {t : List (Option Value)} {x v : Int32} {n : Int} (pc' : Nat) (hp : pc + 3 = pc') (hd : decode cc pc = .ok (.iinc 5 n, 3)) (hv : x + Int32.ofInt n = v) (hn : 5 < nL) (hcat : catOK a4 = true) (k : G V E d own cc nL rt pc' (a0 :: a1 :: a2 :: a3 :: a4 :: some (.int v) :: t) (st) h post) : G V E d own cc nL rt pc (a0 :: a1 :: a2 :: a3 :: a4 :: some (.int x) :: t) (st) h post := by
  subst hp
  intro p e s m args below meth c R H locs ls cells slots Q C X hP hS hl hc
  obtain ⟨q, hq⟩ := List.getElem?_of_mem ((asl_mem (a0 :: a1 :: a2 :: a3 :: a4 :: some (.int x) :: t) 0 5 (.int x)).mpr ⟨5, by omega, rfl⟩)
  exact lv_iinc C.1 C.2.1 hd hl hq hv hn rfl (fun ls' hl' => k p e s m args below meth c R H locs ls' cells slots Q C X hP hS (asl_st (lv := (a0 :: a1 :: a2 :: a3 :: a4 :: some (.int x) :: t)) (i := 5) hl' rfl (by simp only [List.length_cons]; omega) (fun j w hj hw => asl_cat (i := 5) (a := a4) rfl hcat (j := j) hj hw)) hc)
theorem gn_iinc5 {a0 a1 a2 a3 a4 : Option Value} {t : List (Option Value)} {x : Nat} {n : Int} (z : Nat) (pc' : Nat) (hp : pc + 3 = pc') (hd : decode cc pc = .ok (.iinc 5 n, 3)) (hz : Int32.ofInt n = nI z) (hn : 5 < nL) (hcat : catOK a4 = true) (k : G V E d own cc nL rt pc' (a0 :: a1 :: a2 :: a3 :: a4 :: some (.int (nI (x + z))) :: t) (st) h post) : G V E d own cc nL rt pc (a0 :: a1 :: a2 :: a3 :: a4 :: some (.int (nI x)) :: t) (st) h post := g_iinc5 pc' hp hd (by rw [hz, nI_add]) hn hcat k
theorem g_iload6 {a0 a1 a2 a3 a4 a5 : Option Value} {t : List (Option Value)} {x : Int32} (pc' : Nat) (hp : pc + 2 = pc') (hd : decode cc pc = .ok (.iload 6, 2)) (k : G V E d own cc nL rt pc' (a0 :: a1 :: a2 :: a3 :: a4 :: a5 :: some (.int x) :: t) (.int x :: st) h post) : G V E d own cc nL rt pc (a0 :: a1 :: a2 :: a3 :: a4 :: a5 :: some (.int x) :: t) (st) h post := by
  subst hp
  exact fun p e s m args below meth c R H locs ls cells slots Q C X hP hS hl hc => lv_iload C.1 C.2.1 hd (asl_at (i := 6) hl rfl) (k p e s m args below meth c R H locs ls cells slots Q C X hP hS hl hc)
theorem g_aload6 {a0 a1 a2 a3 a4 a5 : Option Value} {t : List (Option Value)} {x : Nat} (pc' : Nat) (hp : pc + 2 = pc') (hd : decode cc pc = .ok (.aload 6, 2)) (k : G V E d own cc nL rt pc' (a0 :: a1 :: a2 :: a3 :: a4 :: a5 :: some (rf V x) :: t) (rf V x :: st) h post) : G V E d own cc nL rt pc (a0 :: a1 :: a2 :: a3 :: a4 :: a5 :: some (rf V x) :: t) (st) h post := by
  subst hp
  exact fun p e s m args below meth c R H locs ls cells slots Q C X hP hS hl hc => lv_aload C.1 C.2.1 hd (asl_at (i := 6) hl rfl) (k p e s m args below meth c R H locs ls cells slots Q C X hP hS hl hc)
theorem g_lload6 {a0 a1 a2 a3 a4 a5 : Option Value} {t : List (Option Value)} {x : Int64} (pc' : Nat) (hp : pc + 2 = pc') (hd : decode cc pc = .ok (.lload 6, 2)) (k : G V E d own cc nL rt pc' (a0 :: a1 :: a2 :: a3 :: a4 :: a5 :: some (.long x) :: t) (.long x :: st) h post) : G V E d own cc nL rt pc (a0 :: a1 :: a2 :: a3 :: a4 :: a5 :: some (.long x) :: t) (st) h post := by
  subst hp
  exact fun p e s m args below meth c R H locs ls cells slots Q C X hP hS hl hc => lv_lload C.1 C.2.1 hd (asl_at (i := 6) hl rfl) (k p e s m args below meth c R H locs ls cells slots Q C X hP hS hl hc)
theorem g_istore6 {a0 a1 a2 a3 a4 a5 b : Option Value} {t : List (Option Value)} {x : Int32} (pc' : Nat) (hp : pc + 2 = pc') (hd : decode cc pc = .ok (.istore 6, 2)) (hn : 6 < nL) (hcat : catOK a5 = true) (k : G V E d own cc nL rt pc' (a0 :: a1 :: a2 :: a3 :: a4 :: a5 :: some (.int x) :: t) (st) h post) : G V E d own cc nL rt pc (a0 :: a1 :: a2 :: a3 :: a4 :: a5 :: b :: t) (.int x :: st) h post := by
  subst hp
  exact fun p e s m args below meth c R H locs ls cells slots Q C X hP hS hl hc => lv_istore C.1 C.2.1 hd hl hn rfl (fun ls' hl' => k p e s m args below meth c R H locs ls' cells slots Q C X hP hS (asl_st (lv := (a0 :: a1 :: a2 :: a3 :: a4 :: a5 :: b :: t)) (i := 6) hl' rfl (by simp only [List.length_cons]; omega) (fun j w hj hw => asl_cat (i := 6) (a := a5) rfl hcat (j := j) hj hw)) hc)
theorem g_astore6 {a0 a1 a2 a3 a4 a5 b : Option Value} {t : List (Option Value)} {x : Nat} (pc' : Nat) (hp : pc + 2 = pc') (hd : decode cc pc = .ok (.astore 6, 2)) (hn : 6 < nL) (hcat : catOK a5 = true) (k : G V E d own cc nL rt pc' (a0 :: a1 :: a2 :: a3 :: a4 :: a5 :: some (rf V x) :: t) (st) h post) : G V E d own cc nL rt pc (a0 :: a1 :: a2 :: a3 :: a4 :: a5 :: b :: t) (rf V x :: st) h post := by
  subst hp
  exact fun p e s m args below meth c R H locs ls cells slots Q C X hP hS hl hc => lv_astore C.1 C.2.1 hd hl hn rfl (fun ls' hl' => k p e s m args below meth c R H locs ls' cells slots Q C X hP hS (asl_st (lv := (a0 :: a1 :: a2 :: a3 :: a4 :: a5 :: b :: t)) (i := 6) hl' rfl (by simp only [List.length_cons]; omega) (fun j w hj hw => asl_cat (i := 6) (a := a5) rfl hcat (j := j) hj hw)) hc)
theorem g_iinc6 {a0 a1 a2 a3 a4 a5 : Option Value} {t : List (Option Value)} {x v : Int32} {n : Int} (pc' : Nat) (hp : pc + 3 = pc') (hd : decode cc pc = .ok (.iinc 6 n, 3)) (hv : x + Int32.ofInt n = v) (hn : 6 < nL) (hcat : catOK a5 = true) (k : G V E d own cc nL rt pc' (a0 :: a1 :: a2 :: a3 :: a4 :: a5 :: some (.int v) :: t) (st) h post) : G V E d own cc nL rt pc (a0 :: a1 :: a2 :: a3 :: a4 :: a5 :: some (.int x) :: t) (st) h post := by
  subst hp
  intro p e s m args below meth c R H locs ls cells slots Q C X hP hS hl hc
  obtain ⟨q, hq⟩ := List.getElem?_of_mem ((asl_mem (a0 :: a1 :: a2 :: a3 :: a4 :: a5 :: some (.int x) :: t) 0 6 (.int x)).mpr ⟨6, by omega, rfl⟩)
  exact lv_iinc C.1 C.2.1 hd hl hq hv hn rfl (fun ls' hl' => k p e s m args below meth c R H locs ls' cells slots Q C X hP hS (asl_st (lv := (a0 :: a1 :: a2 :: a3 :: a4 :: a5 :: some (.int x) :: t)) (i := 6) hl' rfl (by simp only [List.length_cons]; omega) (fun j w hj hw => asl_cat (i := 6) (a := a5) rfl hcat (j := j) hj hw)) hc)
theorem gn_iinc6 {a0 a1 a2 a3 a4 a5 : Option Value} {t : List (Option Value)} {x : Nat} {n : Int} (z : Nat) (pc' : Nat) (hp : pc + 3 = pc') (hd : decode cc pc = .ok (.iinc 6 n, 3)) (hz : Int32.ofInt n = nI z) (hn : 6 < nL) (hcat : catOK a5 = true) (k : G V E d own cc nL rt pc' (a0 :: a1 :: a2 :: a3 :: a4 :: a5 :: some (.int (nI (x + z))) :: t) (st) h post) : G V E d own cc nL rt pc (a0 :: a1 :: a2 :: a3 :: a4 :: a5 :: some (.int (nI x)) :: t) (st) h post := g_iinc6 pc' hp hd (by rw [hz, nI_add]) hn hcat k
theorem g_iload7 {a0 a1 a2 a3 a4 a5 a6 : Option Value} {t : List (Option Value)} {x : Int32} (pc' : Nat) (hp : pc + 2 = pc') (hd : decode cc pc = .ok (.iload 7, 2)) (k : G V E d own cc nL rt pc' (a0 :: a1 :: a2 :: a3 :: a4 :: a5 :: a6 :: some (.int x) :: t) (.int x :: st) h post) : G V E d own cc nL rt pc (a0 :: a1 :: a2 :: a3 :: a4 :: a5 :: a6 :: some (.int x) :: t) (st) h post := by
  subst hp
  exact fun p e s m args below meth c R H locs ls cells slots Q C X hP hS hl hc => lv_iload C.1 C.2.1 hd (asl_at (i := 7) hl rfl) (k p e s m args below meth c R H locs ls cells slots Q C X hP hS hl hc)
theorem g_aload7 {a0 a1 a2 a3 a4 a5 a6 : Option Value} {t : List (Option Value)} {x : Nat} (pc' : Nat) (hp : pc + 2 = pc') (hd : decode cc pc = .ok (.aload 7, 2)) (k : G V E d own cc nL rt pc' (a0 :: a1 :: a2 :: a3 :: a4 :: a5 :: a6 :: some (rf V x) :: t) (rf V x :: st) h post) : G V E d own cc nL rt pc (a0 :: a1 :: a2 :: a3 :: a4 :: a5 :: a6 :: some (rf V x) :: t) (st) h post := by
  subst hp
  exact fun p e s m args below meth c R H locs ls cells slots Q C X hP hS hl hc => lv_aload C.1 C.2.1 hd (asl_at (i := 7) hl rfl) (k p e s m args below meth c R H locs ls cells slots Q C X hP hS hl hc)
theorem g_lload7 {a0 a1 a2 a3 a4 a5 a6 : Option Value} {t : List (Option Value)} {x : Int64} (pc' : Nat) (hp : pc + 2 = pc') (hd : decode cc pc = .ok (.lload 7, 2)) (k : G V E d own cc nL rt pc' (a0 :: a1 :: a2 :: a3 :: a4 :: a5 :: a6 :: some (.long x) :: t) (.long x :: st) h post) : G V E d own cc nL rt pc (a0 :: a1 :: a2 :: a3 :: a4 :: a5 :: a6 :: some (.long x) :: t) (st) h post := by
  subst hp
  exact fun p e s m args below meth c R H locs ls cells slots Q C X hP hS hl hc => lv_lload C.1 C.2.1 hd (asl_at (i := 7) hl rfl) (k p e s m args below meth c R H locs ls cells slots Q C X hP hS hl hc)
theorem g_istore7 {a0 a1 a2 a3 a4 a5 a6 b : Option Value} {t : List (Option Value)} {x : Int32} (pc' : Nat) (hp : pc + 2 = pc') (hd : decode cc pc = .ok (.istore 7, 2)) (hn : 7 < nL) (hcat : catOK a6 = true) (k : G V E d own cc nL rt pc' (a0 :: a1 :: a2 :: a3 :: a4 :: a5 :: a6 :: some (.int x) :: t) (st) h post) : G V E d own cc nL rt pc (a0 :: a1 :: a2 :: a3 :: a4 :: a5 :: a6 :: b :: t) (.int x :: st) h post := by
  subst hp
  exact fun p e s m args below meth c R H locs ls cells slots Q C X hP hS hl hc => lv_istore C.1 C.2.1 hd hl hn rfl (fun ls' hl' => k p e s m args below meth c R H locs ls' cells slots Q C X hP hS (asl_st (lv := (a0 :: a1 :: a2 :: a3 :: a4 :: a5 :: a6 :: b :: t)) (i := 7) hl' rfl (by simp only [List.length_cons]; omega) (fun j w hj hw => asl_cat (i := 7) (a := a6) rfl hcat (j := j) hj hw)) hc)
theorem g_astore7 {a0 a1 a2 a3 a4 a5 a6 b : Option Value} {t : List (Option Value)} {x : Nat} (pc' : Nat) (hp : pc + 2 = pc') (hd : decode cc pc = .ok (.astore 7, 2)) (hn : 7 < nL) (hcat : catOK a6 = true) (k : G V E d own cc nL rt pc' (a0 :: a1 :: a2 :: a3 :: a4 :: a5 :: a6 :: some (rf V x) :: t) (st) h post) : G V E d own cc nL rt pc (a0 :: a1 :: a2 :: a3 :: a4 :: a5 :: a6 :: b :: t) (rf V x :: st) h post := by
  subst hp
  exact fun p e s m args below meth c R H locs ls cells slots Q C X hP hS hl hc => lv_astore C.1 C.2.1 hd hl hn rfl (fun ls' hl' => k p e s m args below meth c R H locs ls' cells slots Q C X hP hS (asl_st (lv := (a0 :: a1 :: a2 :: a3 :: a4 :: a5 :: a6 :: b :: t)) (i := 7) hl' rfl (by simp only [List.length_cons]; omega) (fun j w hj hw => asl_cat (i := 7) (a := a6) rfl hcat (j := j) hj hw)) hc)
theorem g_iinc7 {a0 a1 a2 a3 a4 a5 a6 : Option Value} {t : List (Option Value)} {x v : Int32} {n : Int} (pc' : Nat) (hp : pc + 3 = pc') (hd : decode cc pc = .ok (.iinc 7 n, 3)) (hv : x + Int32.ofInt n = v) (hn : 7 < nL) (hcat : catOK a6 = true) (k : G V E d own cc nL rt pc' (a0 :: a1 :: a2 :: a3 :: a4 :: a5 :: a6 :: some (.int v) :: t) (st) h post) : G V E d own cc nL rt pc (a0 :: a1 :: a2 :: a3 :: a4 :: a5 :: a6 :: some (.int x) :: t) (st) h post := by
  subst hp
  intro p e s m args below meth c R H locs ls cells slots Q C X hP hS hl hc
  obtain ⟨q, hq⟩ := List.getElem?_of_mem ((asl_mem (a0 :: a1 :: a2 :: a3 :: a4 :: a5 :: a6 :: some (.int x) :: t) 0 7 (.int x)).mpr ⟨7, by omega, rfl⟩)
  exact lv_iinc C.1 C.2.1 hd hl hq hv hn rfl (fun ls' hl' => k p e s m args below meth c R H locs ls' cells slots Q C X hP hS (asl_st (lv := (a0 :: a1 :: a2 :: a3 :: a4 :: a5 :: a6 :: some (.int x) :: t)) (i := 7) hl' rfl (by simp only [List.length_cons]; omega) (fun j w hj hw => asl_cat (i := 7) (a := a6) rfl hcat (j := j) hj hw)) hc)
theorem gn_iinc7 {a0 a1 a2 a3 a4 a5 a6 : Option Value} {t : List (Option Value)} {x : Nat} {n : Int} (z : Nat) (pc' : Nat) (hp : pc + 3 = pc') (hd : decode cc pc = .ok (.iinc 7 n, 3)) (hz : Int32.ofInt n = nI z) (hn : 7 < nL) (hcat : catOK a6 = true) (k : G V E d own cc nL rt pc' (a0 :: a1 :: a2 :: a3 :: a4 :: a5 :: a6 :: some (.int (nI (x + z))) :: t) (st) h post) : G V E d own cc nL rt pc (a0 :: a1 :: a2 :: a3 :: a4 :: a5 :: a6 :: some (.int (nI x)) :: t) (st) h post := g_iinc7 pc' hp hd (by rw [hz, nI_add]) hn hcat k
theorem g_iload8 {a0 a1 a2 a3 a4 a5 a6 a7 : Option Value} {t : List (Option Value)} {x : Int32} (pc' : Nat) (hp : pc + 2 = pc') (hd : decode cc pc = .ok (.iload 8, 2)) (k : G V E d own cc nL rt pc' (a0 :: a1 :: a2 :: a3 :: a4 :: a5 :: a6 :: a7 :: some (.int x) :: t) (.int x :: st) h post) : G V E d own cc nL rt pc (a0 :: a1 :: a2 :: a3 :: a4 :: a5 :: a6 :: a7 :: some (.int x) :: t) (st) h post := by
  subst hp
  exact fun p e s m args below meth c R H locs ls cells slots Q C X hP hS hl hc => lv_iload C.1 C.2.1 hd (asl_at (i := 8) hl rfl) (k p e s m args below meth c R H locs ls cells slots Q C X hP hS hl hc)
theorem g_aload8 {a0 a1 a2 a3 a4 a5 a6 a7 : Option Value} {t : List (Option Value)} {x : Nat} (pc' : Nat) (hp : pc + 2 = pc') (hd : decode cc pc = .ok (.aload 8, 2)) (k : G V E d own cc nL rt pc' (a0 :: a1 :: a2 :: a3 :: a4 :: a5 :: a6 :: a7 :: some (rf V x) :: t) (rf V x :: st) h post) : G V E d own cc nL rt pc (a0 :: a1 :: a2 :: a3 :: a4 :: a5 :: a6 :: a7 :: some (rf V x) :: t) (st) h post := by
  subst hp
  exact fun p e s m args below meth c R H locs ls cells slots Q C X hP hS hl hc => lv_aload C.1 C.2.1 hd (asl_at (i := 8) hl rfl) (k p e s m args below meth c R H locs ls cells slots Q C X hP hS hl hc)
theorem g_lload8 {a0 a1 a2 a3 a4 a5 a6 a7 : Option Value} {t : List (Option Value)} {x : Int64} (pc' : Nat) (hp : pc + 2 = pc') (hd : decode cc pc = .ok (.lload 8, 2)) (k : G V E d own cc nL rt pc' (a0 :: a1 :: a2 :: a3 :: a4 :: a5 :: a6 :: a7 :: some (.long x) :: t) (.long x :: st) h post) : G V E d own cc nL rt pc (a0 :: a1 :: a2 :: a3 :: a4 :: a5 :: a6 :: a7 :: some (.long x) :: t) (st) h post := by
  subst hp
  exact fun p e s m args below meth c R H locs ls cells slots Q C X hP hS hl hc => lv_lload C.1 C.2.1 hd (asl_at (i := 8) hl rfl) (k p e s m args below meth c R H locs ls cells slots Q C X hP hS hl hc)
theorem g_istore8 {a0 a1 a2 a3 a4 a5 a6 a7 b : Option Value} {t : List (Option Value)} {x : Int32} (pc' : Nat) (hp : pc + 2 = pc') (hd : decode cc pc = .ok (.istore 8, 2)) (hn : 8 < nL) (hcat : catOK a7 = true) (k : G V E d own cc nL rt pc' (a0 :: a1 :: a2 :: a3 :: a4 :: a5 :: a6 :: a7 :: some (.int x) :: t) (st) h post) : G V E d own cc nL rt pc (a0 :: a1 :: a2 :: a3 :: a4 :: a5 :: a6 :: a7 :: b :: t) (.int x :: st) h post := by
  subst hp
  exact fun p e s m args below meth c R H locs ls cells slots Q C X hP hS hl hc => lv_istore C.1 C.2.1 hd hl hn rfl (fun ls' hl' => k p e s m args below meth c R H locs ls' cells slots Q C X hP hS (asl_st (lv := (a0 :: a1 :: a2 :: a3 :: a4 :: a5 :: a6 :: a7 :: b :: t)) (i := 8) hl' rfl (by simp only [List.length_cons]; omega) (fun j w hj hw => asl_cat (i := 8) (a := a7) rfl hcat (j := j) hj hw)) hc)
theorem g_astore8 {a0 a1 a2 a3 a4 a5 a6 a7 b : Option Value} {t : List (Option Value)} {x : Nat} (pc' : Nat) (hp : pc + 2 = pc') (hd : decode cc pc = .ok (.astore 8, 2)) (hn : 8 < nL) (hcat : catOK a7 = true) (k : G V E d own cc nL rt pc' (a0 :: a1 :: a2 :: a3 :: a4 :: a5 :: a6 :: a7 :: some (rf V x) :: t) (st) h post) : G V E d own cc nL rt pc (a0 :: a1 :: a2 :: a3 :: a4 :: a5 :: a6 :: a7 :: b :: t) (rf V x :: st) h post := by
  subst hp
  exact fun p e s m args below meth c R H locs ls cells slots Q C X hP hS hl hc => lv_astore C.1 C.2.1 hd hl hn rfl (fun ls' hl' => k p e s m args below meth c R H locs ls' cells slots Q C X hP hS (asl_st (lv := (a0 :: a1 :: a2 :: a3 :: a4 :: a5 :: a6 :: a7 :: b :: t)) (i := 8) hl' rfl (by simp only [List.length_cons]; omega) (fun j w hj hw => asl_cat (i := 8) (a := a7) rfl hcat (j := j) hj hw)) hc)
theorem g_iinc8 {a0 a1 a2 a3 a4 a5 a6 a7 : Option Value} {t : List (Option Value)} {x v : Int32} {n : Int} (pc' : Nat) (hp : pc + 3 = pc') (hd : decode cc pc = .ok (.iinc 8 n, 3)) (hv : x + Int32.ofInt n = v) (hn : 8 < nL) (hcat : catOK a7 = true) (k : G V E d own cc nL rt pc' (a0 :: a1 :: a2 :: a3 :: a4 :: a5 :: a6 :: a7 :: some (.int v) :: t) (st) h post) : G V E d own cc nL rt pc (a0 :: a1 :: a2 :: a3 :: a4 :: a5 :: a6 :: a7 :: some (.int x) :: t) (st) h post := by
  subst hp
  intro p e s m args below meth c R H locs ls cells slots Q C X hP hS hl hc
  obtain ⟨q, hq⟩ := List.getElem?_of_mem ((asl_mem (a0 :: a1 :: a2 :: a3 :: a4 :: a5 :: a6 :: a7 :: some (.int x) :: t) 0 8 (.int x)).mpr ⟨8, by omega, rfl⟩)
  exact lv_iinc C.1 C.2.1 hd hl hq hv hn rfl (fun ls' hl' => k p e s m args below meth c R H locs ls' cells slots Q C X hP hS (asl_st (lv := (a0 :: a1 :: a2 :: a3 :: a4 :: a5 :: a6 :: a7 :: some (.int x) :: t)) (i := 8) hl' rfl (by simp only [List.length_cons]; omega) (fun j w hj hw => asl_cat (i := 8) (a := a7) rfl hcat (j := j) hj hw)) hc)
theorem gn_iinc8 {a0 a1 a2 a3 a4 a5 a6 a7 : Option Value} {t : List (Option Value)} {x : Nat} {n : Int} (z : Nat) (pc' : Nat) (hp : pc + 3 = pc') (hd : decode cc pc = .ok (.iinc 8 n, 3)) (hz : Int32.ofInt n = nI z) (hn : 8 < nL) (hcat : catOK a7 = true) (k : G V E d own cc nL rt pc' (a0 :: a1 :: a2 :: a3 :: a4 :: a5 :: a6 :: a7 :: some (.int (nI (x + z))) :: t) (st) h post) : G V E d own cc nL rt pc (a0 :: a1 :: a2 :: a3 :: a4 :: a5 :: a6 :: a7 :: some (.int (nI x)) :: t) (st) h post := g_iinc8 pc' hp hd (by rw [hz, nI_add]) hn hcat k
theorem g_iload9 {a0 a1 a2 a3 a4 a5 a6 a7 a8 : Option Value} {t : List (Option Value)} {x : Int32} (pc' : Nat) (hp : pc + 2 = pc') (hd : decode cc pc = .ok (.iload 9, 2)) (k : G V E d own cc nL rt pc' (a0 :: a1 :: a2 :: a3 :: a4 :: a5 :: a6 :: a7 :: a8 :: some (.int x) :: t) (.int x :: st) h post) : G V E d own cc nL rt pc (a0 :: a1 :: a2 :: a3 :: a4 :: a5 :: a6 :: a7 :: a8 :: some (.int x) :: t) (st) h post := by
  subst hp
  exact fun p e s m args below meth c R H locs ls cells slots Q C X hP hS hl hc => lv_iload C.1 C.2.1 hd (asl_at (i := 9) hl rfl) (k p e s m args below meth c R H locs ls cells slots Q C X hP hS hl hc)
theorem g_aload9 {a0 a1 a2 a3 a4 a5 a6 a7 a8 : Option Value} {t : List (Option Value)} {x : Nat} (pc' : Nat) (hp : pc + 2 = pc') (hd : decode cc pc = .ok (.aload 9, 2)) (k : G V E d own cc nL rt pc' (a0 :: a1 :: a2 :: a3 :: a4 :: a5 :: a6 :: a7 :: a8 :: some (rf V x) :: t) (rf V x :: st) h post) : G V E d own cc nL rt pc (a0 :: a1 :: a2 :: a3 :: a4 :: a5 :: a6 :: a7 :: a8 :: some (rf V x) :: t) (st) h post := by
  subst hp
  exact fun p e s m args below meth c R H locs ls cells slots Q C X hP hS hl hc => lv_aload C.1 C.2.1 hd (asl_at (i := 9) hl rfl) (k p e s m args below meth c R H locs ls cells slots Q C X hP hS hl hc)
theorem g_lload9 {a0 a1 a2 a3 a4 a5 a6 a7 a8 : Option Value} {t : List (Option Value)} {x : Int64} (pc' : Nat) (hp : pc + 2 = pc') (hd : decode cc pc = .ok (.lload 9, 2)) (k : G V E d own cc nL rt pc' (a0 :: a1 :: a2 :: a3 :: a4 :: a5 :: a6 :: a7 :: a8 :: some (.long x) :: t) (.long x :: st) h post) : G V E d own cc nL rt pc (a0 :: a1 :: a2 :: a3 :: a4 :: a5 :: a6 :: a7 :: a8 :: some (.long x) :: t) (st) h post := by
  subst hp
  exact fun p e s m args below meth c R H locs ls cells slots Q C X hP hS hl hc => lv_lload C.1 C.2.1 hd (asl_at (i := 9) hl rfl) (k p e s m args below meth c R H locs ls cells slots Q C X hP hS hl hc)
theorem g_istore9 {a0 a1 a2 a3 a4 a5 a6 a7 a8 b : Option Value} {t : List (Option Value)} {x : Int32} (pc' : Nat) (hp : pc + 2 = pc') (hd : decode cc pc = .ok (.istore 9, 2)) (hn : 9 < nL) (hcat : catOK a8 = true) (k : G V E d own cc nL rt pc' (a0 :: a1 :: a2 :: a3 :: a4 :: a5 :: a6 :: a7 :: a8 :: some (.int x) :: t) (st) h post) : G V E d own cc nL rt pc (a0 :: a1 :: a2 :: a3 :: a4 :: a5 :: a6 :: a7 :: a8 :: b :: t) (.int x :: st) h post := by
  subst hp
  exact fun p e s m args below meth c R H locs ls cells slots Q C X hP hS hl hc => lv_istore C.1 C.2.1 hd hl hn rfl (fun ls' hl' => k p e s m args below meth c R H locs ls' cells slots Q C X hP hS (asl_st (lv := (a0 :: a1 :: a2 :: a3 :: a4 :: a5 :: a6 :: a7 :: a8 :: b :: t)) (i := 9) hl' rfl (by simp only [List.length_cons]; omega) (fun j w hj hw => asl_cat (i := 9) (a := a8) rfl hcat (j := j) hj hw)) hc)
theorem g_astore9 {a0 a1 a2 a3 a4 a5 a6 a7 a8 b : Option Value} {t : List (Option Value)} {x : Nat} (pc' : Nat) (hp : pc + 2 = pc') (hd : decode cc pc = .ok (.astore 9, 2)) (hn : 9 < nL) (hcat : catOK a8 = true) (k : G V E d own cc nL rt pc' (a0 :: a1 :: a2 :: a3 :: a4 :: a5 :: a6 :: a7 :: a8 :: some (rf V x) :: t) (st) h post) : G V E d own cc nL rt pc (a0 :: a1 :: a2 :: a3 :: a4 :: a5 :: a6 :: a7 :: a8 :: b :: t) (rf V x :: st) h post := by
  subst hp
  exact fun p e s m args below meth c R H locs ls cells slots Q C X hP hS hl hc => lv_astore C.1 C.2.1 hd hl hn rfl (fun ls' hl' => k p e s m args below meth c R H locs ls' cells slots Q C X hP hS (asl_st (lv := (a0 :: a1 :: a2 :: a3 :: a4 :: a5 :: a6 :: a7 :: a8 :: b :: t)) (i := 9) hl' rfl (by simp only [List.length_cons]; omega) (fun j w hj hw => asl_cat (i := 9) (a := a8) rfl hcat (j := j) hj hw)) hc)
theorem g_iinc9 {a0 a1 a2 a3 a4 a5 a6 a7 a8 : Option Value} {t : List (Option Value)} {x v : Int32} {n : Int} (pc' : Nat) (hp : pc + 3 = pc') (hd : decode cc pc = .ok (.iinc 9 n, 3)) (hv : x + Int32.ofInt n = v) (hn : 9 < nL) (hcat : catOK a8 = true) (k : G V E d own cc nL rt pc' (a0 :: a1 :: a2 :: a3 :: a4 :: a5 :: a6 :: a7 :: a8 :: some (.int v) :: t) (st) h post) : G V E d own cc nL rt pc (a0 :: a1 :: a2 :: a3 :: a4 :: a5 :: a6 :: a7 :: a8 :: some (.int x) :: t) (st) h post := by
  subst hp
  intro p e s m args below meth c R H locs ls cells slots Q C X hP hS hl hc
  obtain ⟨q, hq⟩ := List.getElem?_of_mem ((asl_mem (a0 :: a1 :: a2 :: a3 :: a4 :: a5 :: a6 :: a7 :: a8 :: some (.int x) :: t) 0 9 (.int x)).mpr ⟨9, by omega, rfl⟩)
  exact lv_iinc C.1 C.2.1 hd hl hq hv hn rfl (fun ls' hl' => k p e s m args below meth c R H locs ls' cells slots Q C X hP hS (asl_st (lv := (a0 :: a1 :: a2 :: a3 :: a4 :: a5 :: a6 :: a7 :: a8 :: some (.int x) :: t)) (i := 9) hl' rfl (by simp only [List.length_cons]; omega) (fun j w hj hw => asl_cat (i := 9) (a := a8) rfl hcat (j := j) hj hw)) hc)
theorem gn_iinc9 {a0 a1 a2 a3 a4 a5 a6 a7 a8 : Option Value} {t : List (Option Value)} {x : Nat} {n : Int} (z : Nat) (pc' : Nat) (hp : pc + 3 = pc') (hd : decode cc pc = .ok (.iinc 9 n, 3)) (hz : Int32.ofInt n = nI z) (hn : 9 < nL) (hcat : catOK a8 = true) (k : G V E d own cc nL rt pc' (a0 :: a1 :: a2 :: a3 :: a4 :: a5 :: a6 :: a7 :: a8 :: some (.int (nI (x + z))) :: t) (st) h post) : G V E d own cc nL rt pc (a0 :: a1 :: a2 :: a3 :: a4 :: a5 :: a6 :: a7 :: a8 :: some (.int (nI x)) :: t) (st) h post := g_iinc9 pc' hp hd (by rw [hz, nI_add]) hn hcat k
theorem g_iload10 {a0 a1 a2 a3 a4 a5 a6 a7 a8 a9 : Option Value} {t : List (Option Value)} {x : Int32} (pc' : Nat) (hp : pc + 2 = pc') (hd : decode cc pc = .ok (.iload 10, 2)) (k : G V E d own cc nL rt pc' (a0 :: a1 :: a2 :: a3 :: a4 :: a5 :: a6 :: a7 :: a8 :: a9 :: some (.int x) :: t) (.int x :: st) h post) : G V E d own cc nL rt pc (a0 :: a1 :: a2 :: a3 :: a4 :: a5 :: a6 :: a7 :: a8 :: a9 :: some (.int x) :: t) (st) h post := by
  subst hp
  exact fun p e s m args below meth c R H locs ls cells slots Q C X hP hS hl hc => lv_iload C.1 C.2.1 hd (asl_at (i := 10) hl rfl) (k p e s m args below meth c R H locs ls cells slots Q C X hP hS hl hc)
theorem g_aload10 {a0 a1 a2 a3 a4 a5 a6 a7 a8 a9 : Option Value} {t : List (Option Value)} {x : Nat} (pc' : Nat) (hp : pc + 2 = pc') (hd : decode cc pc = .ok (.aload 10, 2)) (k : G V E d own cc nL rt pc' (a0 :: a1 :: a2 :: a3 :: a4 :: a5 :: a6 :: a7 :: a8 :: a9 :: some (rf V x) :: t) (rf V x :: st) h post) : G V E d own cc nL rt pc (a0 :: a1 :: a2 :: a3 :: a4 :: a5 :: a6 :: a7 :: a8 :: a9 :: some (rf V x) :: t) (st) h post := by
  subst hp
  exact fun p e s m args below meth c R H locs ls cells slots Q C X hP hS hl hc => lv_aload C.1 C.2.1 hd (asl_at (i := 10) hl rfl) (k p e s m args below meth c R H locs ls cells slots Q C X hP hS hl hc)
theorem g_lload10 {a0 a1 a2 a3 a4 a5 a6 a7 a8 a9 : Option Value} {t : List (Option Value)} {x : Int64} (pc' : Nat) (hp : pc + 2 = pc') (hd : decode cc pc = .ok (.lload 10, 2)) (k : G V E d own cc nL rt pc' (a0 :: a1 :: a2 :: a3 :: a4 :: a5 :: a6 :: a7 :: a8 :: a9 :: some (.long x) :: t) (.long x :: st) h post) : G V E d own cc nL rt pc (a0 :: a1 :: a2 :: a3 :: a4 :: a5 :: a6 :: a7 :: a8 :: a9 :: some (.long x) :: t) (st) h post := by
  subst hp
  exact fun p e s m args below meth c R H locs ls cells slots Q C X hP hS hl hc => lv_lload C.1 C.2.1 hd (asl_at (i := 10) hl rfl) (k p e s m args below meth c R H locs ls cells slots Q C X hP hS hl hc)
theorem g_istore10 {a0 a1 a2 a3 a4 a5 a6 a7 a8 a9 b : Option Value} {t : List (Option Value)} {x : Int32} (pc' : Nat) (hp : pc + 2 = pc') (hd : decode cc pc = .ok (.istore 10, 2)) (hn : 10 < nL) (hcat : catOK a9 = true) (k : G V E d own cc nL rt pc' (a0 :: a1 :: a2 :: a3 :: a4 :: a5 :: a6 :: a7 :: a8 :: a9 :: some (.int x) :: t) (st) h post) : G V E d own cc nL rt pc (a0 :: a1 :: a2 :: a3 :: a4 :: a5 :: a6 :: a7 :: a8 :: a9 :: b :: t) (.int x :: st) h post := by
  subst hp
  exact fun p e s m args below meth c R H locs ls cells slots Q C X hP hS hl hc => lv_istore C.1 C.2.1 hd hl hn rfl (fun ls' hl' => k p e s m args below meth c R H locs ls' cells slots Q C X hP hS (asl_st (lv := (a0 :: a1 :: a2 :: a3 :: a4 :: a5 :: a6 :: a7 :: a8 :: a9 :: b :: t)) (i := 10) hl' rfl (by simp only [List.length_cons]; omega) (fun j w hj hw => asl_cat (i := 10) (a := a9) rfl hcat (j := j) hj hw)) hc)
theorem g_astore10 {a0 a1 a2 a3 a4 a5 a6 a7 a8 a9 b : Option Value} {t : List (Option Value)} {x : Nat} (pc' : Nat) (hp : pc + 2 = pc') (hd : decode cc pc = .ok (.astore 10, 2)) (hn : 10 < nL) (hcat : catOK a9 = true) (k : G V E d own cc nL rt pc' (a0 :: a1 :: a2 :: a3 :: a4 :: a5 :: a6 :: a7 :: a8 :: a9 :: some (rf V x) :: t) (st) h post) : G V E d own cc nL rt pc (a0 :: a1 :: a2 :: a3 :: a4 :: a5 :: a6 :: a7 :: a8 :: a9 :: b :: t) (rf V x :: st) h post := by
  subst hp
  exact fun p e s m args below meth c R H locs ls cells slots Q C X hP hS hl hc => lv_astore C.1 C.2.1 hd hl hn rfl (fun ls' hl' => k p e s m args below meth c R H locs ls' cells slots Q C X hP hS (asl_st (lv := (a0 :: a1 :: a2 :: a3 :: a4 :: a5 :: a6 :: a7 :: a8 :: a9 :: b :: t)) (i := 10) hl' rfl (by simp only [List.length_cons]; omega) (fun j w hj hw => asl_cat (i := 10) (a := a9) rfl hcat (j := j) hj hw)) hc)
theorem g_iinc10 {a0 a1 a2 a3 a4 a5 a6 a7 a8 a9 : Option Value} {t : List (Option Value)} {x v : Int32} {n : Int} (pc' : Nat) (hp : pc + 3 = pc') (hd : decode cc pc = .ok (.iinc 10 n, 3)) (hv : x + Int32.ofInt n = v) (hn : 10 < nL) (hcat : catOK a9 = true) (k : G V E d own cc nL rt pc' (a0 :: a1 :: a2 :: a3 :: a4 :: a5 :: a6 :: a7 :: a8 :: a9 :: some (.int v) :: t) (st) h post) : G V E d own cc nL rt pc (a0 :: a1 :: a2 :: a3 :: a4 :: a5 :: a6 :: a7 :: a8 :: a9 :: some (.int x) :: t) (st) h post := by
  subst hp
  intro p e s m args below meth c R H locs ls cells slots Q C X hP hS hl hc
  obtain ⟨q, hq⟩ := List.getElem?_of_mem ((asl_mem (a0 :: a1 :: a2 :: a3 :: a4 :: a5 :: a6 :: a7 :: a8 :: a9 :: some (.int x) :: t) 0 10 (.int x)).mpr ⟨10, by omega, rfl⟩)
  exact lv_iinc C.1 C.2.1 hd hl hq hv hn rfl (fun ls' hl' => k p e s m args below meth c R H locs ls' cells slots Q C X hP hS (asl_st (lv := (a0 :: a1 :: a2 :: a3 :: a4 :: a5 :: a6 :: a7 :: a8 :: a9 :: some (.int x) :: t)) (i := 10) hl' rfl (by simp only [List.length_cons]; omega) (fun j w hj hw => asl_cat (i := 10) (a := a9) rfl hcat (j := j) hj hw)) hc)
theorem gn_iinc10 {a0 a1 a2 a3 a4 a5 a6 a7 a8 a9 : Option Value} {t : List (Option Value)} {x : Nat} {n : Int} (z : Nat) (pc' : Nat) (hp : pc + 3 = pc') (hd : decode cc pc = .ok (.iinc 10 n, 3)) (hz : Int32.ofInt n = nI z) (hn : 10 < nL) (hcat : catOK a9 = true) (k : G V E d own cc nL rt pc' (a0 :: a1 :: a2 :: a3 :: a4 :: a5 :: a6 :: a7 :: a8 :: a9 :: some (.int (nI (x + z))) :: t) (st) h post) : G V E d own cc nL rt pc (a0 :: a1 :: a2 :: a3 :: a4 :: a5 :: a6 :: a7 :: a8 :: a9 :: some (.int (nI x)) :: t) (st) h post := g_iinc10 pc' hp hd (by rw [hz, nI_add]) hn hcat k
theorem g_iload11 {a0 a1 a2 a3 a4 a5 a6 a7 a8 a9 a10 : Option Value} {t : List (Option Value)} {x : Int32} (pc' : Nat) (hp : pc + 2 = pc') (hd : decode cc pc = .ok (.iload 11, 2)) (k : G V E d own cc nL rt pc' (a0 :: a1 :: a2 :: a3 :: a4 :: a5 :: a6 :: a7 :: a8 :: a9 :: a10 :: some (.int x) :: t) (.int x :: st) h post) : G V E d own cc nL rt pc (a0 :: a1 :: a2 :: a3 :: a4 :: a5 :: a6 :: a7 :: a8 :: a9 :: a10 :: some (.int x) :: t) (st) h post := by
  subst hp
  exact fun p e s m args below meth c R H locs ls cells slots Q C X hP hS hl hc => lv_iload C.1 C.2.1 hd (asl_at (i := 11) hl rfl) (k p e s m args below meth c R H locs ls cells slots Q C X hP hS hl hc)
theorem g_aload11 {a0 a1 a2 a3 a4 a5 a6 a7 a8 a9 a10 : Option Value} {t : List (Option Value)} {x : Nat} (pc' : Nat) (hp : pc + 2 = pc') (hd : decode cc pc = .ok (.aload 11, 2)) (k : G V E d own cc nL rt pc' (a0 :: a1 :: a2 :: a3 :: a4 :: a5 :: a6 :: a7 :: a8 :: a9 :: a10 :: some (rf V x) :: t) (rf V x :: st) h post) : G V E d own cc nL rt pc (a0 :: a1 :: a2 :: a3 :: a4 :: a5 :: a6 :: a7 :: a8 :: a9 :: a10 :: some (rf V x) :: t) (st) h post := by
  subst hp
  exact fun p e s m args below meth c R H locs ls cells slots Q C X hP hS hl hc => lv_aload C.1 C.2.1 hd (asl_at (i := 11) hl rfl) (k p e s m args below meth c R H locs ls cells slots Q C X hP hS hl hc)
theorem g_lload11 {a0 a1 a2 a3 a4 a5 a6 a7 a8 a9 a10 : Option Value} {t : List (Option Value)} {x : Int64} (pc' : Nat) (hp : pc + 2 = pc') (hd : decode cc pc = .ok (.lload 11, 2)) (k : G V E d own cc nL rt pc' (a0 :: a1 :: a2 :: a3 :: a4 :: a5 :: a6 :: a7 :: a8 :: a9 :: a10 :: some (.long x) :: t) (.long x :: st) h post) : G V E d own cc nL rt pc (a0 :: a1 :: a2 :: a3 :: a4 :: a5 :: a6 :: a7 :: a8 :: a9 :: a10 :: some (.long x) :: t) (st) h post := by
  subst hp
  exact fun p e s m args below meth c R H locs ls cells slots Q C X hP hS hl hc => lv_lload C.1 C.2.1 hd (asl_at (i := 11) hl rfl) (k p e s m args below meth c R H locs ls cells slots Q C X hP hS hl hc)
theorem g_istore11 {a0 a1 a2 a3 a4 a5 a6 a7 a8 a9 a10 b : Option Value} {t : List (Option Value)} {x : Int32} (pc' : Nat) (hp : pc + 2 = pc') (hd : decode cc pc = .ok (.istore 11, 2)) (hn : 11 < nL) (hcat : catOK a10 = true) (k : G V E d own cc nL rt pc' (a0 :: a1 :: a2 :: a3 :: a4 :: a5 :: a6 :: a7 :: a8 :: a9 :: a10 :: some (.int x) :: t) (st) h post) : G V E d own cc nL rt pc (a0 :: a1 :: a2 :: a3 :: a4 :: a5 :: a6 :: a7 :: a8 :: a9 :: a10 :: b :: t) (.int x :: st) h post := by
  subst hp
  exact fun p e s m args below meth c R H locs ls cells slots Q C X hP hS hl hc => lv_istore C.1 C.2.1 hd hl hn rfl (fun ls' hl' => k p e s m args below meth c R H locs ls' cells slots Q C X hP hS (asl_st (lv := (a0 :: a1 :: a2 :: a3 :: a4 :: a5 :: a6 :: a7 :: a8 :: a9 :: a10 :: b :: t)) (i := 11) hl' rfl (by simp only [List.length_cons]; omega) (fun j w hj hw => asl_cat (i := 11) (a := a10) rfl hcat (j := j) hj hw)) hc)
theorem g_astore11 {a0 a1 a2 a3 a4 a5 a6 a7 a8 a9 a10 b : Option Value} {t : List (Option Value)} {x : Nat} (pc' : Nat) (hp : pc + 2 = pc') (hd : decode cc pc = .ok (.astore 11, 2)) (hn : 11 < nL) (hcat : catOK a10 = true) (k : G V E d own cc nL rt pc' (a0 :: a1 :: a2 :: a3 :: a4 :: a5 :: a6 :: a7 :: a8 :: a9 :: a10 :: some (rf V x) :: t) (st) h post) : G V E d own cc nL rt pc (a0 :: a1 :: a2 :: a3 :: a4 :: a5 :: a6 :: a7 :: a8 :: a9 :: a10 :: b :: t) (rf V x :: st) h post := by
  subst hp
  exact fun p e s m args below meth c R H locs ls cells slots Q C X hP hS hl hc => lv_astore C.1 C.2.1 hd hl hn rfl (fun ls' hl' => k p e s m args below meth c R H locs ls' cells slots Q C X hP hS (asl_st (lv := (a0 :: a1 :: a2 :: a3 :: a4 :: a5 :: a6 :: a7 :: a8 :: a9 :: a10 :: b :: t)) (i := 11) hl' rfl (by simp only [List.length_cons]; omega) (fun j w hj hw => asl_cat (i := 11) (a := a10) rfl hcat (j := j) hj hw)) hc)
theorem g_iinc11 {a0 a1 a2 a3 a4 a5 a6 a7 a8 a9 a10 : Option Value} {t : List (Option Value)} {x v : Int32} {n : Int} (pc' : Nat) (hp : pc + 3 = pc') (hd : decode cc pc = .ok (.iinc 11 n, 3)) (hv : x + Int32.ofInt n = v) (hn : 11 < nL) (hcat : catOK a10 = true) (k : G V E d own cc nL rt pc' (a0 :: a1 :: a2 :: a3 :: a4 :: a5 :: a6 :: a7 :: a8 :: a9 :: a10 :: some (.int v) :: t) (st) h post) : G V E d own cc nL rt pc (a0 :: a1 :: a2 :: a3 :: a4 :: a5 :: a6 :: a7 :: a8 :: a9 :: a10 :: some (.int x) :: t) (st) h post := by
  subst hp
  intro p e s m args below meth c R H locs ls cells slots Q C X hP hS hl hc
  obtain ⟨q, hq⟩ := List.getElem?_of_mem ((asl_mem (a0 :: a1 :: a2 :: a3 :: a4 :: a5 :: a6 :: a7 :: a8 :: a9 :: a10 :: some (.int x) :: t) 0 11 (.int x)).mpr ⟨11, by omega, rfl⟩)
  exact lv_iinc C.1 C.2.1 hd hl hq hv hn rfl (fun ls' hl' => k p e s m args below meth c R H locs ls' cells slots Q C X hP hS (asl_st (lv := (a0 :: a1 :: a2 :: a3 :: a4 :: a5 :: a6 :: a7 :: a8 :: a9 :: a10 :: some (.int x) :: t)) (i := 11) hl' rfl (by simp only [List.length_cons]; omega) (fun j w hj hw => asl_cat (i := 11) (a := a10) rfl hcat (j := j) hj hw)) hc)
theorem gn_iinc11 {a0 a1 a2 a3 a4 a5 a6 a7 a8 a9 a10 : Option Value} {t : List (Option Value)} {x : Nat} {n : Int} (z : Nat) (pc' : Nat) (hp : pc + 3 = pc') (hd : decode cc pc = .ok (.iinc 11 n, 3)) (hz : Int32.ofInt n = nI z) (hn : 11 < nL) (hcat : catOK a10 = true) (k : G V E d own cc nL rt pc' (a0 :: a1 :: a2 :: a3 :: a4 :: a5 :: a6 :: a7 :: a8 :: a9 :: a10 :: some (.int (nI (x + z))) :: t) (st) h post) : G V E d own cc nL rt pc (a0 :: a1 :: a2 :: a3 :: a4 :: a5 :: a6 :: a7 :: a8 :: a9 :: a10 :: some (.int (nI x)) :: t) (st) h post := g_iinc11 pc' hp hd (by rw [hz, nI_add]) hn hcat k
theorem g_iload12 {a0 a1 a2 a3 a4 a5 a6 a7 a8 a9 a10 a11 : Option Value} {t : List (Option Value)} {x : Int32} (pc' : Nat) (hp : pc + 2 = pc') (hd : decode cc pc = .ok (.iload 12, 2)) (k : G V E d own cc nL rt pc' (a0 :: a1 :: a2 :: a3 :: a4 :: a5 :: a6 :: a7 :: a8 :: a9 :: a10 :: a11 :: some (.int x) :: t) (.int x :: st) h post) : G V E d own cc nL rt pc (a0 :: a1 :: a2 :: a3 :: a4 :: a5 :: a6 :: a7 :: a8 :: a9 :: a10 :: a11 :: some (.int x) :: t) (st) h post := by
  subst hp
  exact fun p e s m args below meth c R H locs ls cells slots Q C X hP hS hl hc => lv_iload C.1 C.2.1 hd (asl_at (i := 12) hl rfl) (k p e s m args below meth c R H locs ls cells slots Q C X hP hS hl hc)
theorem g_aload12 {a0 a1 a2 a3 a4 a5 a6 a7 a8 a9 a10 a11 : Option Value} {t : List (Option Value)} {x : Nat} (pc' : Nat) (hp : pc + 2 = pc') (hd : decode cc pc = .ok (.aload 12, 2)) (k : G V E d own cc nL rt pc' (a0 :: a1 :: a2 :: a3 :: a4 :: a5 :: a6 :: a7 :: a8 :: a9 :: a10 :: a11 :: some (rf V x) :: t) (rf V x :: st) h post) : G V E d own cc nL rt pc (a0 :: a1 :: a2 :: a3 :: a4 :: a5 :: a6 :: a7 :: a8 :: a9 :: a10 :: a11 :: some (rf V x) :: t) (st) h post := by
  subst hp
  exact fun p e s m args below meth c R H locs ls cells slots Q C X hP hS hl hc => lv_aload C.1 C.2.1 hd (asl_at (i := 12) hl rfl) (k p e s m args below meth c R H locs ls cells slots Q C X hP hS hl hc)
theorem g_lload12 {a0 a1 a2 a3 a4 a5 a6 a7 a8 a9 a10 a11 : Option Value} {t : List (Option Value)} {x : Int64} (pc' : Nat) (hp : pc + 2 = pc') (hd : decode cc pc = .ok (.lload 12, 2)) (k : G V E d own cc nL rt pc' (a0 :: a1 :: a2 :: a3 :: a4 :: a5 :: a6 :: a7 :: a8 :: a9 :: a10 :: a11 :: some (.long x) :: t) (.long x :: st) h post) : G V E d own cc nL rt pc (a0 :: a1 :: a2 :: a3 :: a4 :: a5 :: a6 :: a7 :: a8 :: a9 :: a10 :: a11 :: some (.long x) :: t) (st) h post := by
  subst hp
  exact fun p e s m args below meth c R H locs ls cells slots Q C X hP hS hl hc => lv_lload C.1 C.2.1 hd (asl_at (i := 12) hl rfl) (k p e s m args below meth c R H locs ls cells slots Q C X hP hS hl hc)
theorem g_istore12 {a0 a1 a2 a3 a4 a5 a6 a7 a8 a9 a10 a11 b : Option Value} {t : List (Option Value)} {x : Int32} (pc' : Nat) (hp : pc + 2 = pc') (hd : decode cc pc = .ok (.istore 12, 2)) (hn : 12 < nL) (hcat : catOK a11 = true) (k : G V E d own cc nL rt pc' (a0 :: a1 :: a2 :: a3 :: a4 :: a5 :: a6 :: a7 :: a8 :: a9 :: a10 :: a11 :: some (.int x) :: t) (st) h post) : G V E d own cc nL rt pc (a0 :: a1 :: a2 :: a3 :: a4 :: a5 :: a6 :: a7 :: a8 :: a9 :: a10 :: a11 :: b :: t) (.int x :: st) h post := by
  subst hp
  exact fun p e s m args below meth c R H locs ls cells slots Q C X hP hS hl hc => lv_istore C.1 C.2.1 hd hl hn rfl (fun ls' hl' => k p e s m args below meth c R H locs ls' cells slots Q C X hP hS (asl_st (lv := (a0 :: a1 :: a2 :: a3 :: a4 :: a5 :: a6 :: a7 :: a8 :: a9 :: a10 :: a11 :: b :: t)) (i := 12) hl' rfl (by simp only [List.length_cons]; omega) (fun j w hj hw => asl_cat (i := 12) (a := a11) rfl hcat (j := j) hj hw)) hc)
theorem g_astore12 {a0 a1 a2 a3 a4 a5 a6 a7 a8 a9 a10 a11 b : Option Value} {t : List (Option Value)} {x : Nat} (pc' : Nat) (hp : pc + 2 = pc') (hd : decode cc pc = .ok (.astore 12, 2)) (hn : 12 < nL) (hcat : catOK a11 = true) (k : G V E d own cc nL rt pc' (a0 :: a1 :: a2 :: a3 :: a4 :: a5 :: a6 :: a7 :: a8 :: a9 :: a10 :: a11 :: some (rf V x) :: t) (st) h post) : G V E d own cc nL rt pc (a0 :: a1 :: a2 :: a3 :: a4 :: a5 :: a6 :: a7 :: a8 :: a9 :: a10 :: a11 :: b :: t) (rf V x :: st) h post := by
  subst hp
  exact fun p e s m args below meth c R H locs ls cells slots Q C X hP hS hl hc => lv_astore C.1 C.2.1 hd hl hn rfl (fun ls' hl' => k p e s m args below meth c R H locs ls' cells slots Q C X hP hS (asl_st (lv := (a0 :: a1 :: a2 :: a3 :: a4 :: a5 :: a6 :: a7 :: a8 :: a9 :: a10 :: a11 :: b :: t)) (i := 12) hl' rfl (by simp only [List.length_cons]; omega) (fun j w hj hw => asl_cat (i := 12) (a := a11) rfl hcat (j := j) hj hw)) hc)
theorem g_iinc12 {a0 a1 a2 a3 a4 a5 a6 a7 a8 a9 a10 a11 : Option Value} {t : List (Option Value)} {x v : Int32} {n : Int} (pc' : Nat) (hp : pc + 3 = pc') (hd : decode cc pc = .ok (.iinc 12 n, 3)) (hv : x + Int32.ofInt n = v) (hn : 12 < nL) (hcat : catOK a11 = true) (k : G V E d own cc nL rt pc' (a0 :: a1 :: a2 :: a3 :: a4 :: a5 :: a6 :: a7 :: a8 :: a9 :: a10 :: a11 :: some (.int v) :: t) (st) h post) : G V E d own cc nL rt pc (a0 :: a1 :: a2 :: a3 :: a4 :: a5 :: a6 :: a7 :: a8 :: a9 :: a10 :: a11 :: some (.int x) :: t) (st) h post := by
  subst hp
  intro p e s m args below meth c R H locs ls cells slots Q C X hP hS hl hc
  obtain ⟨q, hq⟩ := List.getElem?_of_mem ((asl_mem (a0 :: a1 :: a2 :: a3 :: a4 :: a5 :: a6 :: a7 :: a8 :: a9 :: a10 :: a11 :: some (.int x) :: t) 0 12 (.int x)).mpr ⟨12, by omega, rfl⟩)
  exact lv_iinc C.1 C.2.1 hd hl hq hv hn rfl (fun ls' hl' => k p e s m args below meth c R H locs ls' cells slots Q C X hP hS (asl_st (lv := (a0 :: a1 :: a2 :: a3 :: a4 :: a5 :: a6 :: a7 :: a8 :: a9 :: a10 :: a11 :: some (.int x) :: t)) (i := 12) hl' rfl (by simp only [List.length_cons]; omega) (fun j w hj hw => asl_cat (i := 12) (a := a11) rfl hcat (j := j) hj hw)) hc)
theorem gn_iinc12 {a0 a1 a2 a3 a4 a5 a6 a7 a8 a9 a10 a11 : Option Value} {t : List (Option Value)} {x : Nat} {n : Int} (z : Nat) (pc' : Nat) (hp : pc + 3 = pc') (hd : decode cc pc = .ok (.iinc 12 n, 3)) (hz : Int32.ofInt n = nI z) (hn : 12 < nL) (hcat : catOK a11 = true) (k : G V E d own cc nL rt pc' (a0 :: a1 :: a2 :: a3 :: a4 :: a5 :: a6 :: a7 :: a8 :: a9 :: a10 :: a11 :: some (.int (nI (x + z))) :: t) (st) h post) : G V E d own cc nL rt pc (a0 :: a1 :: a2 :: a3 :: a4 :: a5 :: a6 :: a7 :: a8 :: a9 :: a10 :: a11 :: some (.int (nI x)) :: t) (st) h post := g_iinc12 pc' hp hd (by rw [hz, nI_add]) hn hcat k
theorem g_lstore_n1 {a0 b b2 : Option Value} {t : List (Option Value)} {x : Int64} (pc' : Nat) (hp : pc + 1 = pc') (hd : decode cc pc = .ok (.lstore_n 1, 1)) (hn : 1 + 1 < nL) (hcat : catOK a0 = true) (k : G V E d own cc nL rt pc' (a0 :: some (.long x) :: none :: t) (st) h post) : G V E d own cc nL rt pc (a0 :: b :: b2 :: t) (.long x :: st) h post := by
  subst hp
  exact fun p e s m args below meth c R H locs ls cells slots Q C X hP hS hl hc => lv_lstore_n C.1 C.2.1 hd rfl hl hn rfl (fun ls' hl' => k p e s m args below meth c R H locs ls' cells slots Q C X hP hS (asl_stl (lv := (a0 :: b :: b2 :: t)) (i := 1) hl' rfl (by simp only [List.length_cons]; omega) (fun j w hj hw => asl_cat (i := 1) (a := a0) rfl hcat (j := j) hj hw)) hc)
theorem g_lstore_n3 {a0 a1 a2 b b2 : Option Value} {t : List (Option Value)} {x : Int64} (pc' : Nat) (hp : pc + 1 = pc') (hd : decode cc pc = .ok (.lstore_n 3, 1)) (hn : 3 + 1 < nL) (hcat : catOK a2 = true) (k : G V E d own cc nL rt pc' (a0 :: a1 :: a2 :: some (.long x) :: none :: t) (st) h post) : G V E d own cc nL rt pc (a0 :: a1 :: a2 :: b :: b2 :: t) (.long x :: st) h post := by
  subst hp
  exact fun p e s m args below meth c R H locs ls cells slots Q C X hP hS hl hc => lv_lstore_n C.1 C.2.1 hd rfl hl hn rfl (fun ls' hl' => k p e s m args below meth c R H locs ls' cells slots Q C X hP hS (asl_stl (lv := (a0 :: a1 :: a2 :: b :: b2 :: t)) (i := 3) hl' rfl (by simp only [List.length_cons]; omega) (fun j w hj hw => asl_cat (i := 3) (a := a2) rfl hcat (j := j) hj hw)) hc)
theorem g_iret {x : Int32} (ty : FieldType) (hd : decode cc pc = .ok (.ireturn, 1)) (hr : rt = some ty) (hn : narrow ty (.int x) = .int x) (hq : post (some (.int x)) h) : G V E d own cc nL rt pc lv ([.int x]) h post := fun p e s m args below meth c R H locs ls cells slots Q C X hP hS hl hc => X.1 pc ls x h H locs ty hd hr hn hq hP hS
theorem g_lret {x : Int64} (hd : decode cc pc = .ok (.lreturn, 1)) (hr : rt = some .long) (hq : post (some (.long x)) h) : G V E d own cc nL rt pc lv ([.long x]) h post := fun p e s m args below meth c R H locs ls cells slots Q C X hP hS hl hc => X.2.1 pc ls x h H locs hd hr hq hP hS
theorem g_vret (hd : decode cc pc = .ok (.return_, 1)) (hr : rt = none) (hq : post none h) : G V E d own cc nL rt pc lv ([]) h post := fun p e s m args below meth c R H locs ls cells slots Q C X hP hS hl hc => X.2.2 pc ls h H locs hd hr hq hP hS
theorem g_less {lv' : List (Option Value)} (hs : ∀ (i : Nat) (v : Value), lv'[i]? = some (some v) → lv[i]? = some (some v)) (k : G V E d own cc nL rt pc lv' (st) h post) : G V E d own cc nL rt pc lv (st) h post := fun p e s m args below meth c R H locs ls cells slots Q C X hP hS hl hc => k p e s m args below meth c R H locs ls cells slots Q C X hP hS (asl_sub hl hs) hc
theorem g_max {x y : Int32} {index : Nat} (pc' : Nat) (hp : pc + 3 = pc') (hl1 : Cond.methodLink own index Lib.Math.max.name ∈ lw_tbl) (hd : decode cc pc = .ok (.invokestatic index, 3)) (h1 : 1 ≤ d) (hs : (st.map fun v => v.category).sum ≤ 8) (k : G V E d own cc nL rt pc' lv (.int (if x < y then y else x) :: st) h post) : G V E d own cc nL rt pc lv (.int y :: .int x :: st) h post := by
  subst hp
  exact fun p e s m args below meth c R H locs ls cells slots Q C X hP hS hl hc => va_mmax C.1 C.2.1 (C.2.2.1.trans hl.1.symm) C.2.2.2.1 (C.2.2.2.2.1 _ (lgm hl1 rfl)) (C.2.2.2.2.1 _ (lgm st_Lib_Math_max_name rfl)) (C.2.2.2.2.1 _ (lgm ini_RJ9 rfl)) (C.2.2.2.2.1 _ (lgm cd_Lib_Math_max_name rfl)) (Nat.le_trans h1 C.2.2.2.2.2.2.2.2.2.1) (by have := C.2.2.2.2.2.2.2.2.2.2.1; omega) hc.1 hc.2 hd (k p e s m args below meth c R H locs ls cells slots Q C X hP hS hl hc)
theorem gn_max {x y : Nat} {index : Nat} (pc' : Nat) (hp : pc + 3 = pc') (hl1 : Cond.methodLink own index Lib.Math.max.name ∈ lw_tbl) (hd : decode cc pc = .ok (.invokestatic index, 3)) (hx : x < 2 ^ 31) (hy : y < 2 ^ 31) (h1 : 1 ≤ d) (hs : (st.map fun v => v.category).sum ≤ 8) (k : G V E d own cc nL rt pc' lv (.int (nI (max x y)) :: st) h post) : G V E d own cc nL rt pc lv (.int (nI y) :: .int (nI x) :: st) h post := by
  refine g_max pc' hp hl1 hd h1 hs ?_
  rw [fx_max hx hy]
  exact k
theorem g_min {x y : Int32} {index : Nat} (pc' : Nat) (hp : pc + 3 = pc') (hl1 : Cond.methodLink own index Lib.Math.min.name ∈ lw_tbl) (hd : decode cc pc = .ok (.invokestatic index, 3)) (h1 : 1 ≤ d) (hs : (st.map fun v => v.category).sum ≤ 8) (k : G V E d own cc nL rt pc' lv (.int (if y < x then y else x) :: st) h post) : G V E d own cc nL rt pc lv (.int y :: .int x :: st) h post := by
  subst hp
  exact fun p e s m args below meth c R H locs ls cells slots Q C X hP hS hl hc => va_mmin C.1 C.2.1 (C.2.2.1.trans hl.1.symm) C.2.2.2.1 (C.2.2.2.2.1 _ (lgm hl1 rfl)) (C.2.2.2.2.1 _ (lgm st_Lib_Math_min_name rfl)) (C.2.2.2.2.1 _ (lgm ini_RJ9 rfl)) (C.2.2.2.2.1 _ (lgm cd_Lib_Math_min_name rfl)) (Nat.le_trans h1 C.2.2.2.2.2.2.2.2.2.1) (by have := C.2.2.2.2.2.2.2.2.2.2.1; omega) hc.1 hc.2 hd (k p e s m args below meth c R H locs ls cells slots Q C X hP hS hl hc)
theorem gn_min {x y : Nat} {index : Nat} (pc' : Nat) (hp : pc + 3 = pc') (hl1 : Cond.methodLink own index Lib.Math.min.name ∈ lw_tbl) (hd : decode cc pc = .ok (.invokestatic index, 3)) (hx : x < 2 ^ 31) (hy : y < 2 ^ 31) (h1 : 1 ≤ d) (hs : (st.map fun v => v.category).sum ≤ 8) (k : G V E d own cc nL rt pc' lv (.int (nI (min x y)) :: st) h post) : G V E d own cc nL rt pc lv (.int (nI y) :: .int (nI x) :: st) h post := by
  refine g_min pc' hp hl1 hd h1 hs ?_
  rw [fx_min hx hy]
  exact k
end Rules
