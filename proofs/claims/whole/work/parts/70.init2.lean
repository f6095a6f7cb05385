/-! the constructors with loops -/
def fT (a : Nat → Nat) (k : Nat) : Nat → Option Nat := fun j => if j < k then some (a (2 * j)) else none
def tabs (V : Vt) (r : Nat) (a : Nat → Nat) : Nat → va_W
  | 0 => []
  | k + 1 => tabs V r a k ++ [(a (2 * k), .inr (7, [.ref r, .int (nI 0), .int (nI 0), .int (nI 0), .int (nI 0), .int (nI 0), .int (nI 0), .ref (a (2 * k + 1))])), (a (2 * k + 1), ai V 4 z0)]
theorem tabs_len (V : Vt) (r : Nat) (a : Nat → Nat) : ∀ k, (tabs V r a k).length = 2 * k
  | 0 => rfl
  | k + 1 => by
    show (tabs V r a k ++ _).length = _
    rw [List.length_append, tabs_len V r a k]
    show 2 * k + 2 = _
    omega
theorem tabs_c (V : Vt) (r : Nat) {a a' : Nat → Nat} : ∀ k, (∀ i, i < 2 * k → a i = a' i) → tabs V r a k = tabs V r a' k
  | 0, _ => rfl
  | k + 1, h => by
    show tabs V r a k ++ _ = tabs V r a' k ++ _
    rw [tabs_c V r k (fun i hi => h i (by omega)), h (2 * k) (by omega), h (2 * k + 1) (by omega)]
def aN (a : Nat → Nat) (k q q' : Nat) : Nat → Nat := fun i => if i = 2 * k then q else if i = 2 * k + 1 then q' else a i
theorem tabs_n (V : Vt) (r : Nat) (a : Nat → Nat) (k q q' : Nat) : tabs V r (aN a k q q') (k + 1) = tabs V r a k ++ [(q, .inr (7, [.ref r, .int (nI 0), .int (nI 0), .int (nI 0), .int (nI 0), .int (nI 0), .int (nI 0), .ref q'])), (q', ai V 4 z0)] := by
  have e1 : aN a k q q' (2 * k) = q := if_pos rfl
  have e2 : aN a k q q' (2 * k + 1) = q' := (if_neg (by omega)).trans (if_pos rfl)
  show tabs V r (aN a k q q') k ++ _ = _
  rw [e1, e2, tabs_c V r (a := aN a k q q') (a' := a) k (fun i hi => (if_neg (by omega)).trans (if_neg (by omega)))]
theorem fT_n (a : Nat → Nat) (k q q' : Nat) (hk : k < 1000) : va_up (fT a k) (nI k).toNatClampNeg (some q) = fT (aN a k q q') (k + 1) := by
  rw [nI_clamp (by omega)]
  funext j
  unfold va_up fT
  by_cases e : j = k
  · rw [if_pos e, if_pos (by omega), e]
    exact congrArg some (if_pos rfl).symm
  · rw [if_neg e]
    by_cases w : j < k
    · rw [if_pos w, if_pos (by omega)]
      exact congrArg some ((if_neg (by omega)).trans (if_neg (by omega))).symm
    · rw [if_neg w, if_neg (by omega)]
section Making2
variable {V : Vt} {d mc ms : Nat} {own : String} {cc : ByteArray} {nL pcf : Nat} {post : List (Option Value) → va_W → Prop} {pc : Nat} {lv : List (Option Value)} {st : List Value} {ws w0 t : va_W} {cells slots : Nat}
theorem gc_cs {c' s' : Nat} (hc : cells = c') (hs : slots = s') (k : GC V d mc ms own cc nL pcf post pc lv st ws c' s') : GC V d mc ms own cc nL pcf post pc lv st ws cells slots := by
  subst hc; subst hs; exact k
theorem gc_ws {ws' : va_W} (h : ws = ws') (k : GC V d mc ms own cc nL pcf post pc lv st ws' cells slots) : GC V d mc ms own cc nL pcf post pc lv st ws cells slots := by
  subst h; exact k
theorem gc_istore2 {a0 a1 b0 : Option Value} {tl : List (Option Value)} {x : Int32} (pc' : Nat) (hp : pc + 1 = pc') (hd : decode cc pc = .ok (.istore_n 2, 1)) (hn : 2 < nL) (hcat : catOK a1 = true) (k : GC V d mc ms own cc nL pcf post pc' (a0 :: a1 :: some (.int x) :: tl) st ws cells slots) : GC V d mc ms own cc nL pcf post pc (a0 :: a1 :: b0 :: tl) (.int x :: st) ws cells slots := by
  subst hp
  exact fun p e s m args below meth c R H locs ls Q C X hP hD hS hl => lv_istore_n C.1 C.2.1 hd rfl hl hn rfl (fun ls' hl' => k p e s m args below meth c R H locs ls' Q C X hP hD hS (asl_st (lv := (a0 :: a1 :: b0 :: tl)) (i := 2) hl' rfl (by simp only [List.length_cons]; omega) (fun j w hj hw => asl_cat (i := 2) (a := a1) rfl hcat (j := j) hj hw)))
theorem gc_iinc2 {a0 a1 : Option Value} {tl : List (Option Value)} {x : Nat} (pc' : Nat) (hp : pc + 3 = pc') (hd : decode cc pc = .ok (.iinc 2 1, 3)) (hn : 2 < nL) (hcat : catOK a1 = true) (k : GC V d mc ms own cc nL pcf post pc' (a0 :: a1 :: some (.int (nI (x + 1))) :: tl) st ws cells slots) : GC V d mc ms own cc nL pcf post pc (a0 :: a1 :: some (.int (nI x)) :: tl) st ws cells slots := by
  subst hp
  intro p e s m args below meth c R H locs ls Q C X hP hD hS hl
  obtain ⟨q, hq⟩ := List.getElem?_of_mem ((asl_mem (a0 :: a1 :: some (.int (nI x)) :: tl) 0 2 (.int (nI x))).mpr ⟨2, by omega, rfl⟩)
  exact lv_iinc C.1 C.2.1 hd hl hq (show nI x + Int32.ofInt 1 = nI (x + 1) from by rw [show Int32.ofInt 1 = nI 1 by decide, nI_add]) hn rfl (fun ls' hl' => k p e s m args below meth c R H locs ls' Q C X hP hD hS (asl_st (lv := (a0 :: a1 :: some (.int (nI x)) :: tl)) (i := 2) hl' rfl (by simp only [List.length_cons]; omega) (fun j w hj hw => asl_cat (i := 2) (a := a1) rfl hcat (j := j) hj hw)))
theorem gc_icmp_ge {x y : Int32} {off : Int} (tgt : Nat) (ht : (pc : Int) + off = (tgt : Int)) (pc' : Nat) (hp : pc + 3 = pc') (hd : decode cc pc = .ok (.if_icmp .ge off, 3)) (kt : y ≤ x → GC V d mc ms own cc nL pcf post tgt lv st ws cells slots) (kf : ¬ y ≤ x → GC V d mc ms own cc nL pcf post pc' lv st ws cells slots) : GC V d mc ms own cc nL pcf post pc lv (.int y :: .int x :: st) ws cells slots := by
  subst hp
  exact fun p e s m args below meth c R H locs ls Q C X hP hD hS hl => lv_icmp_ge C.1 C.2.1 hd ht (fun q => kt q p e s m args below meth c R H locs ls Q C X hP hD hS hl) (fun q => kf q p e s m args below meth c R H locs ls Q C X hP hD hS hl)
theorem gc_icmp_gt {x y : Int32} {off : Int} (tgt : Nat) (ht : (pc : Int) + off = (tgt : Int)) (pc' : Nat) (hp : pc + 3 = pc') (hd : decode cc pc = .ok (.if_icmp .gt off, 3)) (kt : y < x → GC V d mc ms own cc nL pcf post tgt lv st ws cells slots) (kf : ¬ y < x → GC V d mc ms own cc nL pcf post pc' lv st ws cells slots) : GC V d mc ms own cc nL pcf post pc lv (.int y :: .int x :: st) ws cells slots := by
  subst hp
  exact fun p e s m args below meth c R H locs ls Q C X hP hD hS hl => lv_icmp_gt C.1 C.2.1 hd ht (fun q => kt q p e s m args below meth c R H locs ls Q C X hP hD hS hl) (fun q => kf q p e s m args below meth c R H locs ls Q C X hP hD hS hl)
theorem gc_goto {off : Int} (tgt : Nat) (ht : (pc : Int) + off = (tgt : Int)) (hd : decode cc pc = .ok (.goto off, 3)) (k : GC V d mc ms own cc nL pcf post tgt lv st ws cells slots) : GC V d mc ms own cc nL pcf post pc lv st ws cells slots := fun p e s m args below meth c R H locs ls Q C X hP hD hS hl => lv_goto C.1 C.2.1 hd ht (k p e s m args below meth c R H locs ls Q C X hP hD hS hl)
theorem gc_get {a j k idx ci N : Nat} {fs : List Value} {v : Value} {C0 : String} {T : u_T} (pc' : Nat) (hp : pc + 3 = pc') (he : t[j]? = some (a, .inr (ci, fs))) (hc0 : vwCl[ci]? = some (C0, T, N)) (hin : ∀ w ∈ u_ws C0 T N, w ∈ lw_tbl) (hk : k < N) (hlink : Cond.fieldLink own idx (T k).1 (T k).2.1 (T k).2.2.1 ∈ lw_tbl) (hv : fs[k]? = some v) (hd : decode cc pc = .ok (.getfield idx, 3)) (kk : GC V d mc ms own cc nL pcf post pc' lv (v :: st) (w0 ++ t) cells slots) : GC V d mc ms own cc nL pcf post pc lv (.ref a :: st) (w0 ++ t) cells slots := by
  subst hp
  exact fun p e s m args below meth c R H locs ls Q C X hP hD hS hl => va_get (D := V.2.1) (cl := vwCl) C.1 C.2.1 C.2.2.2.2.1 (lg_lays hin) C.2.2.2.1 C.2.2.2.2.2.1 hP (w0.length + j) ((at_app w0 t j).trans he) hc0 k hk (C.2.2.2.2.1 _ (lgm hlink rfl)) (fun _ h9 => h9) hv hd (kk p e s m args below meth c R H locs ls Q C X hP hD hS hl)
theorem gc_aast {a q j jk n i : Nat} {f : Nat → Option Nat} {vs : List Value} (pc' : Nat) (hp : pc + 1 = pc') (he : t[j]? = some (a, qT V n f)) (hv : t[jk]? = some (q, .inr (7, vs))) (hi : i < n) (hn : n ≤ 1000) (hd : decode cc pc = .ok (.aastore, 1)) (kk : GC V d mc ms own cc nL pcf post pc' lv st (w0 ++ t.set j (a, qT V n (va_up f (nI i).toNatClampNeg (some q)))) cells slots) : GC V d mc ms own cc nL pcf post pc lv (.ref q :: .int (nI i) :: .ref a :: st) (w0 ++ t) cells slots := by
  subst hp
  intro p e s m args below meth c R H locs ls Q C X hP hD hS hl
  refine va_astq (D := V.2.1) (cl := vwCl) C.1 C.2.1 C.2.2.2.2.2.1 hP hD hS (w0.length + j) 2 (w0.length + jk) 7 ((at_app w0 t j).trans he) (r := (RX7, TX7, 8)) rfl ((at_app w0 t jk).trans hv) rfl (vp_in_nI hi (by omega)) hd (fun H1 locs1 hP1 hD1 hS1 => ?_)
  rw [set_app] at hP1 hD1
  exact kk p e s m args below meth c R H1 locs1 ls Q C X hP1 hD1 hS1 hl
end Making2
theorem at_tabs (V : Vt) (r : Nat) (a : Nat → Nat) (k : Nat) (t : va_W) (j : Nat) : (tabs V r a k ++ t)[2 * k + j]? = t[j]? := by
  have h := at_app (tabs V r a k) t j
  rw [tabs_len] at h
  exact h
theorem wX7 : ∀ {own : String} {idx : Nat}, Cond.methodLink own idx yX7_init ∈ lw_tbl → (Cond.methodLink own idx yX7_init ∈ lw_tbl ∧ Cond.instanceMethod yX7_init ∈ lw_tbl ∧ Cond.initialized yX7_init.cls ∈ lw_tbl ∧ Cond.code yX7_init cX7_init 2 none ∈ lw_tbl ∧ yX7_init.name = "<init>" ∧ (yX7_init.cls ≠ "java/lang/invoke/MethodHandle" ∧ yX7_init.cls ≠ "java/lang/invoke/VarHandle" ∧ (parseMethodDescriptor yX7_init.desc).map (fun d => d.parameters.length) = some 1) ∧ 2 ≤ 40) := fun h => ⟨h, im_yX7_init, ini_RX7, cd_yX7_init, rfl, by decide +kernel, by decide⟩
section Inits2
variable {V : Vt}
theorem c_X0_init {w0 : va_W} {b r : Nat} : Mk V 2 29 182 yX0_init cX0_init 3 [.ref b, .ref r] (w0 ++ [(b, .inr (0, dfX0))]) (fun w => ∃ (qb : Nat) (a : Nat → Nat), w = w0 ++ ((b, .inr (0, [.ref qb, .int (nI 0), .int (nI 0)])) :: (qb, qT V 14 (fT a (14))) :: tabs V r a (14))) := by
  refine Mk_of [some (.ref b), some (.ref r), none] 41 (own := RX0) rfl (by decide) rfl (Nat.le_of_ble_eq_true rfl) (fun q hq => hq) dX0_init_41 ?_
  refine gc_aload 1 rfl dX0_init_0 rfl ?_
  refine gc_obj 4 rfl (by decide) ml_RX0_3 dX0_init_1 ?_
  refine gc_aload 5 rfl dX0_init_4 rfl ?_
  refine gc_bipush 14 7 rfl dX0_init_5 (by decide) ?_
  refine gc_newq 10 rfl (by decide) (by decide) (by decide) cl_RX0_9 dX0_init_7 (fun qb => ?_)
  rw [List.append_assoc]
  refine gc_putF (j := 0) (k := 0) 13 rfl (by decide) rfl rfl inX0 tyX0_ok nmX0 (by decide) fl_RX0_11 rfl rfl (tyX0_ok 0 (by decide)) rfl rfl (Nat.le_of_ble_eq_true rfl) dX0_init_10 ?_
  change GC V _ _ _ _ _ _ _ _ _ _ _ (w0 ++ [(b, .inr (0, [.ref qb, .int (nI 0), .int (nI 0)])), (qb, qT V 14 (fun _ => none))]) _ _
  refine gc_iconst 0 14 rfl dX0_init_13 (by decide) ?_
  refine gc_istore2 15 rfl dX0_init_14 (by decide) rfl ?_
  have K := loop_up (P := fun k => ∀ a, GC V 2 29 182 RX0 cX0_init 3 41 (fun _ w => ∃ (qb : Nat) (a : Nat → Nat), w = w0 ++ ((b, .inr (0, [.ref qb, .int (nI 0), .int (nI 0)])) :: (qb, qT V 14 (fT a (14))) :: tabs V r a (14))) 15 [some (.ref b), some (.ref r), some (.int (nI k))] [] (w0 ++ ((b, .inr (0, [.ref qb, .int (nI 0), .int (nI 0)])) :: (qb, qT V 14 (fT a (k))) :: tabs V r a (k))) (1 + 2 * k) (14 + 12 * k)) (n := 14) ?_ (fun k hk ih => ?_) 0 (Nat.zero_le _) (fun _ => 0)
  · refine gc_ws (congrArg (fun z => w0 ++ (b, .inr (0, [.ref qb, .int (nI 0), .int (nI 0)])) :: (qb, qT V 14 z) :: []) (show (fun _ => none) = fT (fun _ => 0) 0 from funext fun j => (if_neg (Nat.not_lt_zero j)).symm)) K
  · intro a
    refine gc_iload 16 rfl dX0_init_15 rfl ?_
    refine gc_bipush 14 18 rfl dX0_init_16 (by decide) ?_
    refine gc_icmp_ge 41 (by decide) 21 rfl dX0_init_18 (fun _ => gc_end ⟨qb, a, rfl⟩ (Nat.le_of_ble_eq_true rfl) (Nat.le_of_ble_eq_true rfl)) (fun c => absurd (by decide) c)
  · intro a
    refine gc_iload 16 rfl dX0_init_15 rfl ?_
    refine gc_bipush 14 18 rfl dX0_init_16 (by decide) ?_
    refine gc_icmp_ge 41 (by decide) 21 rfl dX0_init_18 (fun c => absurd c (Int32.not_le.mpr (nI_lt hk (by decide)))) (fun _ => ?_)
    refine gc_aload 22 rfl dX0_init_21 rfl ?_
    refine gc_get (j := 0) (k := 0) 25 rfl rfl rfl inX0 (by decide) fl_RX0_11 rfl dX0_init_22 ?_
    refine gc_iload 26 rfl dX0_init_25 rfl ?_
    refine gc_new (ci := 7) dfX7 29 rfl rfl inX7 tyX7_ok cl_RX0_9 ins_RX7 ini_RX7 (by decide) (by omega) (by omega) dX0_init_26 (fun q1 => ?_)
    refine gc_dup 30 rfl dX0_init_29 rfl ?_
    refine gc_aload 31 rfl dX0_init_30 rfl ?_
    refine gc_callI (b := q1) (As := [.ref r]) 34 rfl (wX7 ml_RX0_17) c_X7_init (by decide) rfl rfl (Nat.le_of_ble_eq_true rfl) (by omega) (by omega) dX0_init_31 (fun w hw => ?_)
    obtain ⟨q2, rfl⟩ := hw
    rw [List.append_assoc]
    refine gc_aast (j := 1) (jk := 2 + 2 * k) (vs := [.ref r, .int (nI 0), .int (nI 0), .int (nI 0), .int (nI 0), .int (nI 0), .int (nI 0), .ref q2]) 35 rfl rfl ?_ hk (by decide) dX0_init_34 ?_
    · rw [show 2 + 2 * k = 2 * k + 0 + 1 + 1 by omega]
      exact at_tabs V r a k _ 0
    refine gc_iinc2 38 rfl dX0_init_35 (by decide) rfl ?_
    refine gc_goto 15 (by decide) dX0_init_38 ?_
    rw [fT_n a k q1 q2 (by omega)]
    refine gc_ws (congrArg (fun z => w0 ++ (b, .inr (0, [.ref qb, .int (nI 0), .int (nI 0)])) :: (qb, qT V 14 (fT (aN a k q1 q2) (k + 1))) :: z) (tabs_n V r a k q1 q2).symm) ?_
    exact gc_cs (by omega) (by omega) (ih (aN a k q1 q2))
theorem c_X5_init {w0 : va_W} {b r : Nat} : Mk V 2 6 28 yX5_init cX5_init 3 [.ref b, .ref r] (w0 ++ [(b, .inr (5, dfX5))]) (fun w => ∃ (qb : Nat) (qu : Nat) (a : Nat → Nat), w = w0 ++ ((b, .inr (5, [.ref qb, .ref qu])) :: (qb, qT V 2 (fT a (2))) :: (qu, az V 2 z0) :: tabs V r a (2))) := by
  refine Mk_of [some (.ref b), some (.ref r), none] 46 (own := RX5) rfl (by decide) rfl (Nat.le_of_ble_eq_true rfl) (fun q hq => hq) dX5_init_46 ?_
  refine gc_aload 1 rfl dX5_init_0 rfl ?_
  refine gc_obj 4 rfl (by decide) ml_RX5_3 dX5_init_1 ?_
  refine gc_aload 5 rfl dX5_init_4 rfl ?_
  refine gc_iconst 2 6 rfl dX5_init_5 (by decide) ?_
  refine gc_newq 9 rfl (by decide) (by decide) (by decide) cl_RX5_9 dX5_init_6 (fun qb => ?_)
  rw [List.append_assoc]
  refine gc_putF (j := 0) (k := 0) 12 rfl (by decide) rfl rfl inX5 tyX5_ok nmX5 (by decide) fl_RX5_11 rfl rfl (tyX5_ok 0 (by decide)) rfl rfl (Nat.le_of_ble_eq_true rfl) dX5_init_9 ?_
  refine gc_aload 13 rfl dX5_init_12 rfl ?_
  refine gc_iconst 2 14 rfl dX5_init_13 (by decide) ?_
  refine gc_newz 16 rfl (by decide) (by decide) (by decide) dX5_init_14 (fun qu => ?_)
  rw [List.append_assoc]
  refine gc_putF (j := 0) (k := 1) 19 rfl (by decide) rfl rfl inX5 tyX5_ok nmX5 (by decide) fl_RX5_17 rfl rfl (tyX5_ok 1 (by decide)) rfl rfl (Nat.le_of_ble_eq_true rfl) dX5_init_16 ?_
  change GC V _ _ _ _ _ _ _ _ _ _ _ (w0 ++ [(b, .inr (5, [.ref qb, .ref qu])), (qb, qT V 2 (fun _ => none)), (qu, az V 2 z0)]) _ _
  refine gc_iconst 0 20 rfl dX5_init_19 (by decide) ?_
  refine gc_istore2 21 rfl dX5_init_20 (by decide) rfl ?_
  have K := loop_up (P := fun k => ∀ a, GC V 2 6 28 RX5 cX5_init 3 46 (fun _ w => ∃ (qb : Nat) (qu : Nat) (a : Nat → Nat), w = w0 ++ ((b, .inr (5, [.ref qb, .ref qu])) :: (qb, qT V 2 (fT a (2))) :: (qu, az V 2 z0) :: tabs V r a (2))) 21 [some (.ref b), some (.ref r), some (.int (nI k))] [] (w0 ++ ((b, .inr (5, [.ref qb, .ref qu])) :: (qb, qT V 2 (fT a (k))) :: (qu, az V 2 z0) :: tabs V r a (k))) (2 + 2 * k) (4 + 12 * k)) (n := 2) ?_ (fun k hk ih => ?_) 0 (Nat.zero_le _) (fun _ => 0)
  · refine gc_ws (congrArg (fun z => w0 ++ (b, .inr (5, [.ref qb, .ref qu])) :: (qb, qT V 2 z) :: (qu, az V 2 z0) :: []) (show (fun _ => none) = fT (fun _ => 0) 0 from funext fun j => (if_neg (Nat.not_lt_zero j)).symm)) K
  · intro a
    refine gc_iload 22 rfl dX5_init_21 rfl ?_
    refine gc_iconst 2 23 rfl dX5_init_22 (by decide) ?_
    refine gc_icmp_ge 46 (by decide) 26 rfl dX5_init_23 (fun _ => gc_end ⟨qb, qu, a, rfl⟩ (Nat.le_of_ble_eq_true rfl) (Nat.le_of_ble_eq_true rfl)) (fun c => absurd (by decide) c)
  · intro a
    refine gc_iload 22 rfl dX5_init_21 rfl ?_
    refine gc_iconst 2 23 rfl dX5_init_22 (by decide) ?_
    refine gc_icmp_ge 46 (by decide) 26 rfl dX5_init_23 (fun c => absurd c (Int32.not_le.mpr (nI_lt hk (by decide)))) (fun _ => ?_)
    refine gc_aload 27 rfl dX5_init_26 rfl ?_
    refine gc_get (j := 0) (k := 0) 30 rfl rfl rfl inX5 (by decide) fl_RX5_11 rfl dX5_init_27 ?_
    refine gc_iload 31 rfl dX5_init_30 rfl ?_
    refine gc_new (ci := 7) dfX7 34 rfl rfl inX7 tyX7_ok cl_RX5_9 ins_RX7 ini_RX7 (by decide) (by omega) (by omega) dX5_init_31 (fun q1 => ?_)
    refine gc_dup 35 rfl dX5_init_34 rfl ?_
    refine gc_aload 36 rfl dX5_init_35 rfl ?_
    refine gc_callI (b := q1) (As := [.ref r]) 39 rfl (wX7 ml_RX5_21) c_X7_init (by decide) rfl rfl (Nat.le_of_ble_eq_true rfl) (by omega) (by omega) dX5_init_36 (fun w hw => ?_)
    obtain ⟨q2, rfl⟩ := hw
    rw [List.append_assoc]
    refine gc_aast (j := 1) (jk := 3 + 2 * k) (vs := [.ref r, .int (nI 0), .int (nI 0), .int (nI 0), .int (nI 0), .int (nI 0), .int (nI 0), .ref q2]) 40 rfl rfl ?_ hk (by decide) dX5_init_39 ?_
    · rw [show 3 + 2 * k = 2 * k + 0 + 1 + 1 + 1 by omega]
      exact at_tabs V r a k _ 0
    refine gc_iinc2 43 rfl dX5_init_40 (by decide) rfl ?_
    refine gc_goto 21 (by decide) dX5_init_43 ?_
    rw [fT_n a k q1 q2 (by omega)]
    refine gc_ws (congrArg (fun z => w0 ++ (b, .inr (5, [.ref qb, .ref qu])) :: (qb, qT V 2 (fT (aN a k q1 q2) (k + 1))) :: (qu, az V 2 z0) :: z) (tabs_n V r a k q1 q2).symm) ?_
    exact gc_cs (by omega) (by omega) (ih (aN a k q1 q2))
theorem c_X3_init {w0 : va_W} {b r : Nat} : Mk V 2 13 78 yX3_init cX3_init 3 [.ref b, .ref r] (w0 ++ [(b, .inr (3, dfX3))]) (fun w => ∃ (qb : Nat) (a : Nat → Nat), w = w0 ++ ((b, .inr (3, [.ref r, .ref qb, .int (nI 0), .int (nI 0), .int (nI 0), .int (nI 0)])) :: (qb, qT V 6 (fT a (6))) :: tabs V r a (6))) := by
  refine Mk_of [some (.ref b), some (.ref r), none] 45 (own := RX3) rfl (by decide) rfl (Nat.le_of_ble_eq_true rfl) (fun q hq => hq) dX3_init_45 ?_
  refine gc_aload 1 rfl dX3_init_0 rfl ?_
  refine gc_obj 4 rfl (by decide) ml_RX3_3 dX3_init_1 ?_
  refine gc_aload 5 rfl dX3_init_4 rfl ?_
  refine gc_bipush 6 7 rfl dX3_init_5 (by decide) ?_
  refine gc_newq 10 rfl (by decide) (by decide) (by decide) cl_RX3_11 dX3_init_7 (fun qb => ?_)
  rw [List.append_assoc]
  refine gc_putF (j := 0) (k := 1) 13 rfl (by decide) rfl rfl inX3 tyX3_ok nmX3 (by decide) fl_RX3_13 rfl rfl (tyX3_ok 1 (by decide)) rfl rfl (Nat.le_of_ble_eq_true rfl) dX3_init_10 ?_
  refine gc_aload 14 rfl dX3_init_13 rfl ?_
  refine gc_aload 15 rfl dX3_init_14 rfl ?_
  refine gc_putF (j := 0) (k := 0) 18 rfl (by decide) rfl rfl inX3 tyX3_ok nmX3 (by decide) fl_RX3_17 rfl rfl (tyX3_ok 0 (by decide)) rfl rfl (Nat.le_of_ble_eq_true rfl) dX3_init_15 ?_
  change GC V _ _ _ _ _ _ _ _ _ _ _ (w0 ++ [(b, .inr (3, [.ref r, .ref qb, .int (nI 0), .int (nI 0), .int (nI 0), .int (nI 0)])), (qb, qT V 6 (fun _ => none))]) _ _
  refine gc_iconst 0 19 rfl dX3_init_18 (by decide) ?_
  refine gc_istore2 20 rfl dX3_init_19 (by decide) rfl ?_
  have K := loop_up (P := fun k => ∀ a, GC V 2 13 78 RX3 cX3_init 3 45 (fun _ w => ∃ (qb : Nat) (a : Nat → Nat), w = w0 ++ ((b, .inr (3, [.ref r, .ref qb, .int (nI 0), .int (nI 0), .int (nI 0), .int (nI 0)])) :: (qb, qT V 6 (fT a (6))) :: tabs V r a (6))) 20 [some (.ref b), some (.ref r), some (.int (nI k))] [] (w0 ++ ((b, .inr (3, [.ref r, .ref qb, .int (nI 0), .int (nI 0), .int (nI 0), .int (nI 0)])) :: (qb, qT V 6 (fT a (k))) :: tabs V r a (k))) (1 + 2 * k) (6 + 12 * k)) (n := 6) ?_ (fun k hk ih => ?_) 0 (Nat.zero_le _) (fun _ => 0)
  · refine gc_ws (congrArg (fun z => w0 ++ (b, .inr (3, [.ref r, .ref qb, .int (nI 0), .int (nI 0), .int (nI 0), .int (nI 0)])) :: (qb, qT V 6 z) :: []) (show (fun _ => none) = fT (fun _ => 0) 0 from funext fun j => (if_neg (Nat.not_lt_zero j)).symm)) K
  · intro a
    refine gc_iload 21 rfl dX3_init_20 rfl ?_
    refine gc_iconst 5 22 rfl dX3_init_21 (by decide) ?_
    refine gc_icmp_gt 45 (by decide) 25 rfl dX3_init_22 (fun _ => gc_end ⟨qb, a, rfl⟩ (Nat.le_of_ble_eq_true rfl) (Nat.le_of_ble_eq_true rfl)) (fun c => absurd (by decide) c)
  · intro a
    refine gc_iload 21 rfl dX3_init_20 rfl ?_
    refine gc_iconst 5 22 rfl dX3_init_21 (by decide) ?_
    refine gc_icmp_gt 45 (by decide) 25 rfl dX3_init_22 (fun c => absurd c (Int32.not_lt.mpr (nI_le (by omega) (by decide)))) (fun _ => ?_)
    refine gc_aload 26 rfl dX3_init_25 rfl ?_
    refine gc_get (j := 0) (k := 1) 29 rfl rfl rfl inX3 (by decide) fl_RX3_13 rfl dX3_init_26 ?_
    refine gc_iload 30 rfl dX3_init_29 rfl ?_
    refine gc_new (ci := 7) dfX7 33 rfl rfl inX7 tyX7_ok cl_RX3_11 ins_RX7 ini_RX7 (by decide) (by omega) (by omega) dX3_init_30 (fun q1 => ?_)
    refine gc_dup 34 rfl dX3_init_33 rfl ?_
    refine gc_aload 35 rfl dX3_init_34 rfl ?_
    refine gc_callI (b := q1) (As := [.ref r]) 38 rfl (wX7 ml_RX3_21) c_X7_init (by decide) rfl rfl (Nat.le_of_ble_eq_true rfl) (by omega) (by omega) dX3_init_35 (fun w hw => ?_)
    obtain ⟨q2, rfl⟩ := hw
    rw [List.append_assoc]
    refine gc_aast (j := 1) (jk := 2 + 2 * k) (vs := [.ref r, .int (nI 0), .int (nI 0), .int (nI 0), .int (nI 0), .int (nI 0), .int (nI 0), .ref q2]) 39 rfl rfl ?_ hk (by decide) dX3_init_38 ?_
    · rw [show 2 + 2 * k = 2 * k + 0 + 1 + 1 by omega]
      exact at_tabs V r a k _ 0
    refine gc_iinc2 42 rfl dX3_init_39 (by decide) rfl ?_
    refine gc_goto 20 (by decide) dX3_init_42 ?_
    rw [fT_n a k q1 q2 (by omega)]
    refine gc_ws (congrArg (fun z => w0 ++ (b, .inr (3, [.ref r, .ref qb, .int (nI 0), .int (nI 0), .int (nI 0), .int (nI 0)])) :: (qb, qT V 6 (fT (aN a k q1 q2) (k + 1))) :: z) (tabs_n V r a k q1 q2).symm) ?_
    exact gc_cs (by omega) (by omega) (ih (aN a k q1 q2))
end Inits2
