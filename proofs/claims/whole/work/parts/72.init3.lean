/-! the constructor of MustardTreaty; the law's two objects -/
section Making3
variable {V : Vt} {d mc ms : Nat} {own : String} {cc : ByteArray} {nL pcf : Nat} {post : List (Option Value) → va_W → Prop} {pc : Nat} {lv : List (Option Value)} {st : List Value} {ws w0 t : va_W} {cells slots : Nat}
theorem gc_astore1 {a0 b0 : Option Value} {tl : List (Option Value)} {x : Nat} (pc' : Nat) (hp : pc + 1 = pc') (hd : decode cc pc = .ok (.astore_n 1, 1)) (hn : 1 < nL) (hcat : catOK a0 = true) (k : GC V d mc ms own cc nL pcf post pc' (a0 :: some (.ref x) :: tl) st ws cells slots) : GC V d mc ms own cc nL pcf post pc (a0 :: b0 :: tl) (.ref x :: st) ws cells slots := by
  subst hp
  exact fun p e s m args below meth c R H locs ls Q C X hP hD hS hl => lv_astore_n C.1 C.2.1 hd rfl hl hn rfl (fun ls' hl' => k p e s m args below meth c R H locs ls' Q C X hP hD hS (asl_st (lv := (a0 :: b0 :: tl)) (i := 1) hl' rfl (by simp only [List.length_cons]; omega) (fun j w hj hw => asl_cat (i := 1) (a := a0) rfl hcat (j := j) hj hw)))
theorem gc_astore2 {a0 a1 b0 : Option Value} {tl : List (Option Value)} {x : Nat} (pc' : Nat) (hp : pc + 1 = pc') (hd : decode cc pc = .ok (.astore_n 2, 1)) (hn : 2 < nL) (hcat : catOK a1 = true) (k : GC V d mc ms own cc nL pcf post pc' (a0 :: a1 :: some (.ref x) :: tl) st ws cells slots) : GC V d mc ms own cc nL pcf post pc (a0 :: a1 :: b0 :: tl) (.ref x :: st) ws cells slots := by
  subst hp
  exact fun p e s m args below meth c R H locs ls Q C X hP hD hS hl => lv_astore_n C.1 C.2.1 hd rfl hl hn rfl (fun ls' hl' => k p e s m args below meth c R H locs ls' Q C X hP hD hS (asl_st (lv := (a0 :: a1 :: b0 :: tl)) (i := 2) hl' rfl (by simp only [List.length_cons]; omega) (fun j w hj hw => asl_cat (i := 2) (a := a1) rfl hcat (j := j) hj hw)))
theorem gc_callIN {y : MethodName} {cc' : ByteArray} {nL' d' mc' ms' n idx b : Nat} {host : String} {As st0 : List Value} {post' : va_W → Prop} (pc' : Nat) (hp : pc + 3 = pc') (hw : (∀ s, Xw s → va_Nw (.methodLinkNest own idx y host) s) ∧ Cond.instanceMethod y ∈ lw_tbl ∧ Cond.initialized y.cls ∈ lw_tbl ∧ Cond.code y cc' nL' none ∈ lw_tbl ∧ y.name = "<init>" ∧ (y.cls ≠ "java/lang/invoke/MethodHandle" ∧ y.cls ≠ "java/lang/invoke/VarHandle" ∧ (parseMethodDescriptor y.desc).map (fun d => d.parameters.length) = some n) ∧ nL' ≤ 40) (hM : Mk V d' mc' ms' y cc' nL' (.ref b :: As) ws post') (hdd : d' < d) (hn : As.length = n) (hst : st0 = As.reverse ++ .ref b :: st) (hr : (st.map fun v => v.category).sum ≤ 8) (hcs : cells + mc' ≤ mc) (hss : slots + ms' ≤ ms) (hd : decode cc pc = .ok (.invokespecial idx, 3)) (kk : ∀ ws', post' ws' → GC V d mc ms own cc nL pcf post pc' lv st ws' (cells + mc') (slots + ms')) : GC V d mc ms own cc nL pcf post pc lv st0 ws cells slots := by
  subst hp
  intro p e s m args below meth c R H locs ls Q C X hP hD hS hl
  obtain ⟨w1, w2, w4, w5, w6, w7, w8⟩ := hw
  have hts := C.2.2.2.2.1
  have hF := C.2.2.2.2.2.2.2.2.1
  have hL := C.2.2.2.2.2.2.2.2.2.1
  have hx := C.2.2.2.2.2.2.2.2.2.2
  have cw : va_CN R s args own idx y host cc' nL' none (.code y cc' nL' none :: lw_g) (rmc d' mc' ms') mc' ms' n ∧ y.name = "<init>" ∧ (Cond.instanceMethod y).before args s = true :=
    ⟨va_cnB n hts (lw_code w5) rfl rfl rfl (w1 s C.2.2.2.2.2.2.1) (hts _ (lgm w4 rfl)) w7 ⟨by show d' + 1 ≤ R.frames; omega, by show 8 + (nL' + 11) + 60 * d' ≤ R.locals; omega⟩, w6, hts _ (lgm w2 rfl)⟩
  have run := va_runIN (p := p) (e := e) (R := R) (below := below) (meth := meth) (locs := locs) (cells := cells) (slots := slots) (As := As) (rest := st) (g := F0 m pc ls st0) ⟨C.1, C.2.1, C.2.2.1, C.2.2.2.1, hts⟩ hM cw ⟨Cp_blind V _ ws, fun U hU hW => ⟨rfl, hD, by rw [hU]; exact hP, va_K.moved hW.alike C.2.2.2.2.2.1, Xw_warm hW C.2.2.2.2.2.2.1, fun q hq => C.2.2.2.2.2.2.2.1 q (Nat.le_trans hS.1 (by rw [hU] at hq; exact hq))⟩⟩ rfl hn hl.1 hst (lv_room hr) hd ⟨by omega, by omega⟩
  intro Tt hT Xt
  obtain ⟨v, st₀, t, T', L, h0, X', hL, e1, e2, ⟨⟨ws', hv, hq, hP1, hD1⟩, hz, hk1⟩, stp⟩ := run Tt hT Xt
  cases hv
  rw [h0] at hz hk1
  obtain ⟨t2, a1, b1⟩ := kk ws' hq p e s m args below meth c R T'.heap (locs ++ L) ls Q C X (by rw [e1]; exact hP1) hD1
    ⟨Nat.le_trans hS.1 (by rw [e1]; exact hz), fun q h1 h2 => by rw [e1, hk1 q (Nat.lt_of_lt_of_le h1 hS.1) h2]; exact hS.2.1 q h1 h2, fun q hq => by
      rcases List.mem_append.mp hq with w | w
      · exact hS.2.2 q w
      · exact hL q w⟩ hl T' rfl X'
  exact ⟨t2, stp t2 a1, b1⟩
end Making3
section Inits3
variable {V : Vt}
theorem nX2 {idx : Nat} (h : ∀ s, Xw s → va_Nw (.methodLinkNest RX8 idx yX2_init RX8) s) : (∀ s, Xw s → va_Nw (.methodLinkNest RX8 idx yX2_init RX8) s) ∧ Cond.instanceMethod yX2_init ∈ lw_tbl ∧ Cond.initialized yX2_init.cls ∈ lw_tbl ∧ Cond.code yX2_init cX2_init 1 none ∈ lw_tbl ∧ yX2_init.name = "<init>" ∧ (yX2_init.cls ≠ "java/lang/invoke/MethodHandle" ∧ yX2_init.cls ≠ "java/lang/invoke/VarHandle" ∧ (parseMethodDescriptor yX2_init.desc).map (fun d => d.parameters.length) = some 0) ∧ 1 ≤ 40 := ⟨h, im_yX2_init, ini_RX2, cd_yX2_init, rfl, by decide +kernel, by decide⟩
theorem nX1 {idx : Nat} (h : ∀ s, Xw s → va_Nw (.methodLinkNest RX8 idx yX1_init RX8) s) : (∀ s, Xw s → va_Nw (.methodLinkNest RX8 idx yX1_init RX8) s) ∧ Cond.instanceMethod yX1_init ∈ lw_tbl ∧ Cond.initialized yX1_init.cls ∈ lw_tbl ∧ Cond.code yX1_init cX1_init 1 none ∈ lw_tbl ∧ yX1_init.name = "<init>" ∧ (yX1_init.cls ≠ "java/lang/invoke/MethodHandle" ∧ yX1_init.cls ≠ "java/lang/invoke/VarHandle" ∧ (parseMethodDescriptor yX1_init.desc).map (fun d => d.parameters.length) = some 0) ∧ 1 ≤ 40 := ⟨h, im_yX1_init, ini_RX1, cd_yX1_init, rfl, by decide +kernel, by decide⟩
theorem nX4 {idx : Nat} (h : ∀ s, Xw s → va_Nw (.methodLinkNest RX8 idx yX4_init RX8) s) : (∀ s, Xw s → va_Nw (.methodLinkNest RX8 idx yX4_init RX8) s) ∧ Cond.instanceMethod yX4_init ∈ lw_tbl ∧ Cond.initialized yX4_init.cls ∈ lw_tbl ∧ Cond.code yX4_init cX4_init 1 none ∈ lw_tbl ∧ yX4_init.name = "<init>" ∧ (yX4_init.cls ≠ "java/lang/invoke/MethodHandle" ∧ yX4_init.cls ≠ "java/lang/invoke/VarHandle" ∧ (parseMethodDescriptor yX4_init.desc).map (fun d => d.parameters.length) = some 0) ∧ 1 ≤ 40 := ⟨h, im_yX4_init, ini_RX4, cd_yX4_init, rfl, by decide +kernel, by decide⟩
theorem wiX0 {own : String} {idx : Nat} (h : Cond.methodLink own idx yX0_init ∈ lw_tbl) : Cond.methodLink own idx yX0_init ∈ lw_tbl ∧ Cond.instanceMethod yX0_init ∈ lw_tbl ∧ Cond.initialized yX0_init.cls ∈ lw_tbl ∧ Cond.code yX0_init cX0_init 3 none ∈ lw_tbl ∧ yX0_init.name = "<init>" ∧ (yX0_init.cls ≠ "java/lang/invoke/MethodHandle" ∧ yX0_init.cls ≠ "java/lang/invoke/VarHandle" ∧ (parseMethodDescriptor yX0_init.desc).map (fun d => d.parameters.length) = some 1) ∧ 3 ≤ 40 := ⟨h, im_yX0_init, ini_RX0, cd_yX0_init, rfl, by decide +kernel, by decide⟩
theorem wiX5 {own : String} {idx : Nat} (h : Cond.methodLink own idx yX5_init ∈ lw_tbl) : Cond.methodLink own idx yX5_init ∈ lw_tbl ∧ Cond.instanceMethod yX5_init ∈ lw_tbl ∧ Cond.initialized yX5_init.cls ∈ lw_tbl ∧ Cond.code yX5_init cX5_init 3 none ∈ lw_tbl ∧ yX5_init.name = "<init>" ∧ (yX5_init.cls ≠ "java/lang/invoke/MethodHandle" ∧ yX5_init.cls ≠ "java/lang/invoke/VarHandle" ∧ (parseMethodDescriptor yX5_init.desc).map (fun d => d.parameters.length) = some 1) ∧ 3 ≤ 40 := ⟨h, im_yX5_init, ini_RX5, cd_yX5_init, rfl, by decide +kernel, by decide⟩
theorem wiX3 {own : String} {idx : Nat} (h : Cond.methodLink own idx yX3_init ∈ lw_tbl) : Cond.methodLink own idx yX3_init ∈ lw_tbl ∧ Cond.instanceMethod yX3_init ∈ lw_tbl ∧ Cond.initialized yX3_init.cls ∈ lw_tbl ∧ Cond.code yX3_init cX3_init 3 none ∈ lw_tbl ∧ yX3_init.name = "<init>" ∧ (yX3_init.cls ≠ "java/lang/invoke/MethodHandle" ∧ yX3_init.cls ≠ "java/lang/invoke/VarHandle" ∧ (parseMethodDescriptor yX3_init.desc).map (fun d => d.parameters.length) = some 1) ∧ 3 ≤ 40 := ⟨h, im_yX3_init, ini_RX3, cd_yX3_init, rfl, by decide +kernel, by decide⟩
theorem wiX6 {own : String} {idx : Nat} (h : Cond.methodLink own idx yX6_init ∈ lw_tbl) : Cond.methodLink own idx yX6_init ∈ lw_tbl ∧ Cond.instanceMethod yX6_init ∈ lw_tbl ∧ Cond.initialized yX6_init.cls ∈ lw_tbl ∧ Cond.code yX6_init cX6_init 2 none ∈ lw_tbl ∧ yX6_init.name = "<init>" ∧ (yX6_init.cls ≠ "java/lang/invoke/MethodHandle" ∧ yX6_init.cls ≠ "java/lang/invoke/VarHandle" ∧ (parseMethodDescriptor yX6_init.desc).map (fun d => d.parameters.length) = some 1) ∧ 2 ≤ 40 := ⟨h, im_yX6_init, ini_RX6, cd_yX6_init, rfl, by decide +kernel, by decide⟩
theorem wiX8 {own : String} {idx : Nat} (h : Cond.methodLink own idx yX8_init ∈ lw_tbl) : Cond.methodLink own idx yX8_init ∈ lw_tbl ∧ Cond.instanceMethod yX8_init ∈ lw_tbl ∧ Cond.initialized yX8_init.cls ∈ lw_tbl ∧ Cond.code yX8_init cX8_init 1 none ∈ lw_tbl ∧ yX8_init.name = "<init>" ∧ (yX8_init.cls ≠ "java/lang/invoke/MethodHandle" ∧ yX8_init.cls ≠ "java/lang/invoke/VarHandle" ∧ (parseMethodDescriptor yX8_init.desc).map (fun d => d.parameters.length) = some 0) ∧ 1 ≤ 40 := ⟨h, im_yX8_init, ini_RX8, cd_yX8_init, rfl, by decide +kernel, by decide⟩
theorem wiX9 {own : String} {idx : Nat} (h : Cond.methodLink own idx yX9_init ∈ lw_tbl) : Cond.methodLink own idx yX9_init ∈ lw_tbl ∧ Cond.instanceMethod yX9_init ∈ lw_tbl ∧ Cond.initialized yX9_init.cls ∈ lw_tbl ∧ Cond.code yX9_init cX9_init 1 none ∈ lw_tbl ∧ yX9_init.name = "<init>" ∧ (yX9_init.cls ≠ "java/lang/invoke/MethodHandle" ∧ yX9_init.cls ≠ "java/lang/invoke/VarHandle" ∧ (parseMethodDescriptor yX9_init.desc).map (fun d => d.parameters.length) = some 0) ∧ 1 ≤ 40 := ⟨h, im_yX9_init, ini_RX9, cd_yX9_init, rfl, by decide +kernel, by decide⟩
theorem c_X8_init {w0 : va_W} {b : Nat} : Mk V 3 69 435 yX8_init cX8_init 1 [.ref b] (w0 ++ [(b, .inr (8, dfX8))]) (fun w => ∃ (qs : Nat) (qsb : Nat) (qr : Nat) (r1 : Nat) (r2 : Nat) (r3 : Nat) (r4 : Nat) (r5 : Nat) (r6 : Nat) (t0 : Nat) (t0b : Nat) (t1 : Nat) (t1b : Nat) (qa : Nat) (qab : Nat) (aa : Nat → Nat) (ql : Nat) (qlb : Nat) (qlu : Nat) (al : Nat → Nat) (qg : Nat) (g1 : Nat) (g2 : Nat) (g3 : Nat) (qe : Nat) (qeb : Nat) (ae : Nat → Nat) (qp : Nat), w = w0 ++ ((b, .inr (8, [.ref qs, .ref qr, .ref t0, .ref t1, .ref qa, .ref ql, .ref qg, .ref qe, .ref qp, .long 0])) :: (((((((([(qs, .inr (2, [.ref qsb, .int (nI 0)])), (qsb, ai V 48 z0)] ++ [(qr, .inr (1, [.int (nI 0), .int (nI 0), .int (nI 0), .int (nI 0), .ref r1, .ref r2, .ref r3, .ref r4, .ref r5, .ref r6])), (r1, ai V 4 z0), (r2, ai V 4 z0), (r3, ai V 4 z0), (r4, ai V 5 z0), (r5, ai V 5 z0), (r6, ai V 5 z0)]) ++ [(t0, .inr (7, [.ref qr, .int (nI 0), .int (nI 0), .int (nI 0), .int (nI 0), .int (nI 0), .int (nI 0), .ref t0b])), (t0b, ai V 4 z0)]) ++ [(t1, .inr (7, [.ref qr, .int (nI 0), .int (nI 0), .int (nI 0), .int (nI 0), .int (nI 0), .int (nI 0), .ref t1b])), (t1b, ai V 4 z0)]) ++ ((qa, .inr (0, [.ref qab, .int (nI 0), .int (nI 0)])) :: (qab, qT V 14 (fT aa 14)) :: tabs V qr aa 14)) ++ ((ql, .inr (5, [.ref qlb, .ref qlu])) :: (qlb, qT V 2 (fT al 2)) :: (qlu, az V 2 z0) :: tabs V qr al 2)) ++ [(qg, .inr (4, [.ref g1, .ref g2, .ref g3, .int (nI 0)])), (g1, ai V 6 z0), (g2, ai V 6 z0), (g3, ai V 6 z0)]) ++ ((qe, .inr (3, [.ref qr, .ref qeb, .int (nI 0), .int (nI 0), .int (nI 0), .int (nI 0)])) :: (qeb, qT V 6 (fT ae 6)) :: tabs V qr ae 6)) ++ [(qp, .inr (6, [.ref qr, .int (nI 0), .int (nI 0)]))]))) := by
  refine Mk_of [some (.ref b)] 127 (own := RX8) rfl (by decide) rfl (Nat.le_of_ble_eq_true rfl) (fun q hq => hq) dX8_init_127 ?_
  refine gc_aload 1 rfl dX8_init_0 rfl ?_
  refine gc_obj 4 rfl (by decide) ml_RX8_1 dX8_init_1 ?_
  refine gc_aload 5 rfl dX8_init_4 rfl ?_
  refine gc_new (ci := 2) dfX2 8 rfl rfl inX2 tyX2_ok cl_RX8_7 ins_RX2 ini_RX2 (by decide) (Nat.le_of_ble_eq_true rfl) (Nat.le_of_ble_eq_true rfl) dX8_init_5 (fun qs => ?_)
  refine gc_dup 9 rfl dX8_init_8 rfl ?_
  refine gc_callIN (b := qs) (As := []) 12 rfl (nX2 (fun s x => x.1)) c_X2_init (by decide) rfl rfl (Nat.le_of_ble_eq_true rfl) (Nat.le_of_ble_eq_true rfl) (Nat.le_of_ble_eq_true rfl) dX8_init_9 (fun w hw => ?_)
  obtain ⟨qsb, rfl⟩ := hw
  rw [List.append_assoc]
  refine gc_putF (j := 0) (k := 0) 15 rfl (by decide) rfl rfl inX8 tyX8_ok nmX8 (by decide) fl_RX8_10 rfl rfl (tyX8_ok 0 (by decide)) rfl rfl (Nat.le_of_ble_eq_true rfl) dX8_init_12 ?_
  change GC V _ _ _ _ _ _ _ _ _ _ _ (w0 ++ ((b, .inr (8, [.ref qs, .null, .null, .null, .null, .null, .null, .null, .null, .long 0])) :: [(qs, .inr (2, [.ref qsb, .int (nI 0)])), (qsb, ai V 48 z0)])) _ _
  refine gc_aload 16 rfl dX8_init_15 rfl ?_
  refine gc_new (ci := 1) dfX1 19 rfl rfl inX1 tyX1_ok cl_RX8_16 ins_RX1 ini_RX1 (by decide) (Nat.le_of_ble_eq_true rfl) (Nat.le_of_ble_eq_true rfl) dX8_init_16 (fun qr => ?_)
  refine gc_dup 20 rfl dX8_init_19 rfl ?_
  refine gc_callIN (b := qr) (As := []) 23 rfl (nX1 (fun s x => x.2.1)) c_X1_init (by decide) rfl rfl (Nat.le_of_ble_eq_true rfl) (Nat.le_of_ble_eq_true rfl) (Nat.le_of_ble_eq_true rfl) dX8_init_20 (fun w hw => ?_)
  obtain ⟨r1, r2, r3, r4, r5, r6, rfl⟩ := hw
  rw [List.append_assoc]
  refine gc_putF (j := 0) (k := 1) 26 rfl (by decide) rfl rfl inX8 tyX8_ok nmX8 (by decide) fl_RX8_19 rfl rfl (tyX8_ok 1 (by decide)) rfl rfl (Nat.le_of_ble_eq_true rfl) dX8_init_23 ?_
  change GC V _ _ _ _ _ _ _ _ _ _ _ (w0 ++ ((b, .inr (8, [.ref qs, .ref qr, .null, .null, .null, .null, .null, .null, .null, .long 0])) :: ([(qs, .inr (2, [.ref qsb, .int (nI 0)])), (qsb, ai V 48 z0)] ++ [(qr, .inr (1, [.int (nI 0), .int (nI 0), .int (nI 0), .int (nI 0), .ref r1, .ref r2, .ref r3, .ref r4, .ref r5, .ref r6])), (r1, ai V 4 z0), (r2, ai V 4 z0), (r3, ai V 4 z0), (r4, ai V 5 z0), (r5, ai V 5 z0), (r6, ai V 5 z0)]))) _ _
  refine gc_aload 27 rfl dX8_init_26 rfl ?_
  refine gc_new (ci := 7) dfX7 30 rfl rfl inX7 tyX7_ok cl_RX8_23 ins_RX7 ini_RX7 (by decide) (Nat.le_of_ble_eq_true rfl) (Nat.le_of_ble_eq_true rfl) dX8_init_27 (fun t0 => ?_)
  refine gc_dup 31 rfl dX8_init_30 rfl ?_
  refine gc_aload 32 rfl dX8_init_31 rfl ?_
  rw [List.append_assoc]
  refine gc_get (j := 0) (k := 1) 35 rfl rfl rfl inX8 (by decide) fl_RX8_19 rfl dX8_init_32 ?_
  rw [← List.append_assoc]
  refine gc_callI (b := t0) (As := [.ref qr]) 38 rfl (wX7 ml_RX8_25) c_X7_init (by decide) rfl rfl (Nat.le_of_ble_eq_true rfl) (Nat.le_of_ble_eq_true rfl) (Nat.le_of_ble_eq_true rfl) dX8_init_35 (fun w hw => ?_)
  obtain ⟨t0b, rfl⟩ := hw
  rw [List.append_assoc]
  refine gc_putF (j := 0) (k := 2) 41 rfl (by decide) rfl rfl inX8 tyX8_ok nmX8 (by decide) fl_RX8_28 rfl rfl (tyX8_ok 2 (by decide)) rfl rfl (Nat.le_of_ble_eq_true rfl) dX8_init_38 ?_
  change GC V _ _ _ _ _ _ _ _ _ _ _ (w0 ++ ((b, .inr (8, [.ref qs, .ref qr, .ref t0, .null, .null, .null, .null, .null, .null, .long 0])) :: (([(qs, .inr (2, [.ref qsb, .int (nI 0)])), (qsb, ai V 48 z0)] ++ [(qr, .inr (1, [.int (nI 0), .int (nI 0), .int (nI 0), .int (nI 0), .ref r1, .ref r2, .ref r3, .ref r4, .ref r5, .ref r6])), (r1, ai V 4 z0), (r2, ai V 4 z0), (r3, ai V 4 z0), (r4, ai V 5 z0), (r5, ai V 5 z0), (r6, ai V 5 z0)]) ++ [(t0, .inr (7, [.ref qr, .int (nI 0), .int (nI 0), .int (nI 0), .int (nI 0), .int (nI 0), .int (nI 0), .ref t0b])), (t0b, ai V 4 z0)]))) _ _
  refine gc_aload 42 rfl dX8_init_41 rfl ?_
  refine gc_new (ci := 7) dfX7 45 rfl rfl inX7 tyX7_ok cl_RX8_23 ins_RX7 ini_RX7 (by decide) (Nat.le_of_ble_eq_true rfl) (Nat.le_of_ble_eq_true rfl) dX8_init_42 (fun t1 => ?_)
  refine gc_dup 46 rfl dX8_init_45 rfl ?_
  refine gc_aload 47 rfl dX8_init_46 rfl ?_
  rw [List.append_assoc]
  refine gc_get (j := 0) (k := 1) 50 rfl rfl rfl inX8 (by decide) fl_RX8_19 rfl dX8_init_47 ?_
  rw [← List.append_assoc]
  refine gc_callI (b := t1) (As := [.ref qr]) 53 rfl (wX7 ml_RX8_25) c_X7_init (by decide) rfl rfl (Nat.le_of_ble_eq_true rfl) (Nat.le_of_ble_eq_true rfl) (Nat.le_of_ble_eq_true rfl) dX8_init_50 (fun w hw => ?_)
  obtain ⟨t1b, rfl⟩ := hw
  rw [List.append_assoc]
  refine gc_putF (j := 0) (k := 3) 56 rfl (by decide) rfl rfl inX8 tyX8_ok nmX8 (by decide) fl_RX8_32 rfl rfl (tyX8_ok 3 (by decide)) rfl rfl (Nat.le_of_ble_eq_true rfl) dX8_init_53 ?_
  change GC V _ _ _ _ _ _ _ _ _ _ _ (w0 ++ ((b, .inr (8, [.ref qs, .ref qr, .ref t0, .ref t1, .null, .null, .null, .null, .null, .long 0])) :: ((([(qs, .inr (2, [.ref qsb, .int (nI 0)])), (qsb, ai V 48 z0)] ++ [(qr, .inr (1, [.int (nI 0), .int (nI 0), .int (nI 0), .int (nI 0), .ref r1, .ref r2, .ref r3, .ref r4, .ref r5, .ref r6])), (r1, ai V 4 z0), (r2, ai V 4 z0), (r3, ai V 4 z0), (r4, ai V 5 z0), (r5, ai V 5 z0), (r6, ai V 5 z0)]) ++ [(t0, .inr (7, [.ref qr, .int (nI 0), .int (nI 0), .int (nI 0), .int (nI 0), .int (nI 0), .int (nI 0), .ref t0b])), (t0b, ai V 4 z0)]) ++ [(t1, .inr (7, [.ref qr, .int (nI 0), .int (nI 0), .int (nI 0), .int (nI 0), .int (nI 0), .int (nI 0), .ref t1b])), (t1b, ai V 4 z0)]))) _ _
  refine gc_aload 57 rfl dX8_init_56 rfl ?_
  refine gc_new (ci := 0) dfX0 60 rfl rfl inX0 tyX0_ok cl_RX8_35 ins_RX0 ini_RX0 (by decide) (Nat.le_of_ble_eq_true rfl) (Nat.le_of_ble_eq_true rfl) dX8_init_57 (fun qa => ?_)
  refine gc_dup 61 rfl dX8_init_60 rfl ?_
  refine gc_aload 62 rfl dX8_init_61 rfl ?_
  rw [List.append_assoc]
  refine gc_get (j := 0) (k := 1) 65 rfl rfl rfl inX8 (by decide) fl_RX8_19 rfl dX8_init_62 ?_
  rw [← List.append_assoc]
  refine gc_callI (b := qa) (As := [.ref qr]) 68 rfl (wiX0 ml_RX8_37) c_X0_init (by decide) rfl rfl (Nat.le_of_ble_eq_true rfl) (Nat.le_of_ble_eq_true rfl) (Nat.le_of_ble_eq_true rfl) dX8_init_65 (fun w hw => ?_)
  obtain ⟨qab, aa, rfl⟩ := hw
  rw [List.append_assoc]
  refine gc_putF (j := 0) (k := 4) 71 rfl (by decide) rfl rfl inX8 tyX8_ok nmX8 (by decide) fl_RX8_38 rfl rfl (tyX8_ok 4 (by decide)) rfl rfl (Nat.le_of_ble_eq_true rfl) dX8_init_68 ?_
  change GC V _ _ _ _ _ _ _ _ _ _ _ (w0 ++ ((b, .inr (8, [.ref qs, .ref qr, .ref t0, .ref t1, .ref qa, .null, .null, .null, .null, .long 0])) :: (((([(qs, .inr (2, [.ref qsb, .int (nI 0)])), (qsb, ai V 48 z0)] ++ [(qr, .inr (1, [.int (nI 0), .int (nI 0), .int (nI 0), .int (nI 0), .ref r1, .ref r2, .ref r3, .ref r4, .ref r5, .ref r6])), (r1, ai V 4 z0), (r2, ai V 4 z0), (r3, ai V 4 z0), (r4, ai V 5 z0), (r5, ai V 5 z0), (r6, ai V 5 z0)]) ++ [(t0, .inr (7, [.ref qr, .int (nI 0), .int (nI 0), .int (nI 0), .int (nI 0), .int (nI 0), .int (nI 0), .ref t0b])), (t0b, ai V 4 z0)]) ++ [(t1, .inr (7, [.ref qr, .int (nI 0), .int (nI 0), .int (nI 0), .int (nI 0), .int (nI 0), .int (nI 0), .ref t1b])), (t1b, ai V 4 z0)]) ++ ((qa, .inr (0, [.ref qab, .int (nI 0), .int (nI 0)])) :: (qab, qT V 14 (fT aa 14)) :: tabs V qr aa 14)))) _ _
  refine gc_aload 72 rfl dX8_init_71 rfl ?_
  refine gc_new (ci := 5) dfX5 75 rfl rfl inX5 tyX5_ok cl_RX8_42 ins_RX5 ini_RX5 (by decide) (Nat.le_of_ble_eq_true rfl) (Nat.le_of_ble_eq_true rfl) dX8_init_72 (fun ql => ?_)
  refine gc_dup 76 rfl dX8_init_75 rfl ?_
  refine gc_aload 77 rfl dX8_init_76 rfl ?_
  rw [List.append_assoc]
  refine gc_get (j := 0) (k := 1) 80 rfl rfl rfl inX8 (by decide) fl_RX8_19 rfl dX8_init_77 ?_
  rw [← List.append_assoc]
  refine gc_callI (b := ql) (As := [.ref qr]) 83 rfl (wiX5 ml_RX8_44) c_X5_init (by decide) rfl rfl (Nat.le_of_ble_eq_true rfl) (Nat.le_of_ble_eq_true rfl) (Nat.le_of_ble_eq_true rfl) dX8_init_80 (fun w hw => ?_)
  obtain ⟨qlb, qlu, al, rfl⟩ := hw
  rw [List.append_assoc]
  refine gc_putF (j := 0) (k := 5) 86 rfl (by decide) rfl rfl inX8 tyX8_ok nmX8 (by decide) fl_RX8_45 rfl rfl (tyX8_ok 5 (by decide)) rfl rfl (Nat.le_of_ble_eq_true rfl) dX8_init_83 ?_
  change GC V _ _ _ _ _ _ _ _ _ _ _ (w0 ++ ((b, .inr (8, [.ref qs, .ref qr, .ref t0, .ref t1, .ref qa, .ref ql, .null, .null, .null, .long 0])) :: ((((([(qs, .inr (2, [.ref qsb, .int (nI 0)])), (qsb, ai V 48 z0)] ++ [(qr, .inr (1, [.int (nI 0), .int (nI 0), .int (nI 0), .int (nI 0), .ref r1, .ref r2, .ref r3, .ref r4, .ref r5, .ref r6])), (r1, ai V 4 z0), (r2, ai V 4 z0), (r3, ai V 4 z0), (r4, ai V 5 z0), (r5, ai V 5 z0), (r6, ai V 5 z0)]) ++ [(t0, .inr (7, [.ref qr, .int (nI 0), .int (nI 0), .int (nI 0), .int (nI 0), .int (nI 0), .int (nI 0), .ref t0b])), (t0b, ai V 4 z0)]) ++ [(t1, .inr (7, [.ref qr, .int (nI 0), .int (nI 0), .int (nI 0), .int (nI 0), .int (nI 0), .int (nI 0), .ref t1b])), (t1b, ai V 4 z0)]) ++ ((qa, .inr (0, [.ref qab, .int (nI 0), .int (nI 0)])) :: (qab, qT V 14 (fT aa 14)) :: tabs V qr aa 14)) ++ ((ql, .inr (5, [.ref qlb, .ref qlu])) :: (qlb, qT V 2 (fT al 2)) :: (qlu, az V 2 z0) :: tabs V qr al 2)))) _ _
  refine gc_aload 87 rfl dX8_init_86 rfl ?_
  refine gc_new (ci := 4) dfX4 90 rfl rfl inX4 tyX4_ok cl_RX8_49 ins_RX4 ini_RX4 (by decide) (Nat.le_of_ble_eq_true rfl) (Nat.le_of_ble_eq_true rfl) dX8_init_87 (fun qg => ?_)
  refine gc_dup 91 rfl dX8_init_90 rfl ?_
  refine gc_callIN (b := qg) (As := []) 94 rfl (nX4 (fun s x => x.2.2.1)) c_X4_init (by decide) rfl rfl (Nat.le_of_ble_eq_true rfl) (Nat.le_of_ble_eq_true rfl) (Nat.le_of_ble_eq_true rfl) dX8_init_91 (fun w hw => ?_)
  obtain ⟨g1, g2, g3, rfl⟩ := hw
  rw [List.append_assoc]
  refine gc_putF (j := 0) (k := 6) 97 rfl (by decide) rfl rfl inX8 tyX8_ok nmX8 (by decide) fl_RX8_52 rfl rfl (tyX8_ok 6 (by decide)) rfl rfl (Nat.le_of_ble_eq_true rfl) dX8_init_94 ?_
  change GC V _ _ _ _ _ _ _ _ _ _ _ (w0 ++ ((b, .inr (8, [.ref qs, .ref qr, .ref t0, .ref t1, .ref qa, .ref ql, .ref qg, .null, .null, .long 0])) :: (((((([(qs, .inr (2, [.ref qsb, .int (nI 0)])), (qsb, ai V 48 z0)] ++ [(qr, .inr (1, [.int (nI 0), .int (nI 0), .int (nI 0), .int (nI 0), .ref r1, .ref r2, .ref r3, .ref r4, .ref r5, .ref r6])), (r1, ai V 4 z0), (r2, ai V 4 z0), (r3, ai V 4 z0), (r4, ai V 5 z0), (r5, ai V 5 z0), (r6, ai V 5 z0)]) ++ [(t0, .inr (7, [.ref qr, .int (nI 0), .int (nI 0), .int (nI 0), .int (nI 0), .int (nI 0), .int (nI 0), .ref t0b])), (t0b, ai V 4 z0)]) ++ [(t1, .inr (7, [.ref qr, .int (nI 0), .int (nI 0), .int (nI 0), .int (nI 0), .int (nI 0), .int (nI 0), .ref t1b])), (t1b, ai V 4 z0)]) ++ ((qa, .inr (0, [.ref qab, .int (nI 0), .int (nI 0)])) :: (qab, qT V 14 (fT aa 14)) :: tabs V qr aa 14)) ++ ((ql, .inr (5, [.ref qlb, .ref qlu])) :: (qlb, qT V 2 (fT al 2)) :: (qlu, az V 2 z0) :: tabs V qr al 2)) ++ [(qg, .inr (4, [.ref g1, .ref g2, .ref g3, .int (nI 0)])), (g1, ai V 6 z0), (g2, ai V 6 z0), (g3, ai V 6 z0)]))) _ _
  refine gc_aload 98 rfl dX8_init_97 rfl ?_
  refine gc_new (ci := 3) dfX3 101 rfl rfl inX3 tyX3_ok cl_RX8_56 ins_RX3 ini_RX3 (by decide) (Nat.le_of_ble_eq_true rfl) (Nat.le_of_ble_eq_true rfl) dX8_init_98 (fun qe => ?_)
  refine gc_dup 102 rfl dX8_init_101 rfl ?_
  refine gc_aload 103 rfl dX8_init_102 rfl ?_
  rw [List.append_assoc]
  refine gc_get (j := 0) (k := 1) 106 rfl rfl rfl inX8 (by decide) fl_RX8_19 rfl dX8_init_103 ?_
  rw [← List.append_assoc]
  refine gc_callI (b := qe) (As := [.ref qr]) 109 rfl (wiX3 ml_RX8_58) c_X3_init (by decide) rfl rfl (Nat.le_of_ble_eq_true rfl) (Nat.le_of_ble_eq_true rfl) (Nat.le_of_ble_eq_true rfl) dX8_init_106 (fun w hw => ?_)
  obtain ⟨qeb, ae, rfl⟩ := hw
  rw [List.append_assoc]
  refine gc_putF (j := 0) (k := 7) 112 rfl (by decide) rfl rfl inX8 tyX8_ok nmX8 (by decide) fl_RX8_59 rfl rfl (tyX8_ok 7 (by decide)) rfl rfl (Nat.le_of_ble_eq_true rfl) dX8_init_109 ?_
  change GC V _ _ _ _ _ _ _ _ _ _ _ (w0 ++ ((b, .inr (8, [.ref qs, .ref qr, .ref t0, .ref t1, .ref qa, .ref ql, .ref qg, .ref qe, .null, .long 0])) :: ((((((([(qs, .inr (2, [.ref qsb, .int (nI 0)])), (qsb, ai V 48 z0)] ++ [(qr, .inr (1, [.int (nI 0), .int (nI 0), .int (nI 0), .int (nI 0), .ref r1, .ref r2, .ref r3, .ref r4, .ref r5, .ref r6])), (r1, ai V 4 z0), (r2, ai V 4 z0), (r3, ai V 4 z0), (r4, ai V 5 z0), (r5, ai V 5 z0), (r6, ai V 5 z0)]) ++ [(t0, .inr (7, [.ref qr, .int (nI 0), .int (nI 0), .int (nI 0), .int (nI 0), .int (nI 0), .int (nI 0), .ref t0b])), (t0b, ai V 4 z0)]) ++ [(t1, .inr (7, [.ref qr, .int (nI 0), .int (nI 0), .int (nI 0), .int (nI 0), .int (nI 0), .int (nI 0), .ref t1b])), (t1b, ai V 4 z0)]) ++ ((qa, .inr (0, [.ref qab, .int (nI 0), .int (nI 0)])) :: (qab, qT V 14 (fT aa 14)) :: tabs V qr aa 14)) ++ ((ql, .inr (5, [.ref qlb, .ref qlu])) :: (qlb, qT V 2 (fT al 2)) :: (qlu, az V 2 z0) :: tabs V qr al 2)) ++ [(qg, .inr (4, [.ref g1, .ref g2, .ref g3, .int (nI 0)])), (g1, ai V 6 z0), (g2, ai V 6 z0), (g3, ai V 6 z0)]) ++ ((qe, .inr (3, [.ref qr, .ref qeb, .int (nI 0), .int (nI 0), .int (nI 0), .int (nI 0)])) :: (qeb, qT V 6 (fT ae 6)) :: tabs V qr ae 6)))) _ _
  refine gc_aload 113 rfl dX8_init_112 rfl ?_
  refine gc_new (ci := 6) dfX6 116 rfl rfl inX6 tyX6_ok cl_RX8_63 ins_RX6 ini_RX6 (by decide) (Nat.le_of_ble_eq_true rfl) (Nat.le_of_ble_eq_true rfl) dX8_init_113 (fun qp => ?_)
  refine gc_dup 117 rfl dX8_init_116 rfl ?_
  refine gc_aload 118 rfl dX8_init_117 rfl ?_
  rw [List.append_assoc]
  refine gc_get (j := 0) (k := 1) 121 rfl rfl rfl inX8 (by decide) fl_RX8_19 rfl dX8_init_118 ?_
  rw [← List.append_assoc]
  refine gc_callI (b := qp) (As := [.ref qr]) 124 rfl (wiX6 ml_RX8_65) c_X6_init (by decide) rfl rfl (Nat.le_of_ble_eq_true rfl) (Nat.le_of_ble_eq_true rfl) (Nat.le_of_ble_eq_true rfl) dX8_init_121 (fun w hw => ?_)
  subst hw
  rw [List.append_assoc]
  refine gc_putF (j := 0) (k := 8) 127 rfl (by decide) rfl rfl inX8 tyX8_ok nmX8 (by decide) fl_RX8_66 rfl rfl (tyX8_ok 8 (by decide)) rfl rfl (Nat.le_of_ble_eq_true rfl) dX8_init_124 ?_
  change GC V _ _ _ _ _ _ _ _ _ _ _ (w0 ++ ((b, .inr (8, [.ref qs, .ref qr, .ref t0, .ref t1, .ref qa, .ref ql, .ref qg, .ref qe, .ref qp, .long 0])) :: (((((((([(qs, .inr (2, [.ref qsb, .int (nI 0)])), (qsb, ai V 48 z0)] ++ [(qr, .inr (1, [.int (nI 0), .int (nI 0), .int (nI 0), .int (nI 0), .ref r1, .ref r2, .ref r3, .ref r4, .ref r5, .ref r6])), (r1, ai V 4 z0), (r2, ai V 4 z0), (r3, ai V 4 z0), (r4, ai V 5 z0), (r5, ai V 5 z0), (r6, ai V 5 z0)]) ++ [(t0, .inr (7, [.ref qr, .int (nI 0), .int (nI 0), .int (nI 0), .int (nI 0), .int (nI 0), .int (nI 0), .ref t0b])), (t0b, ai V 4 z0)]) ++ [(t1, .inr (7, [.ref qr, .int (nI 0), .int (nI 0), .int (nI 0), .int (nI 0), .int (nI 0), .int (nI 0), .ref t1b])), (t1b, ai V 4 z0)]) ++ ((qa, .inr (0, [.ref qab, .int (nI 0), .int (nI 0)])) :: (qab, qT V 14 (fT aa 14)) :: tabs V qr aa 14)) ++ ((ql, .inr (5, [.ref qlb, .ref qlu])) :: (qlb, qT V 2 (fT al 2)) :: (qlu, az V 2 z0) :: tabs V qr al 2)) ++ [(qg, .inr (4, [.ref g1, .ref g2, .ref g3, .int (nI 0)])), (g1, ai V 6 z0), (g2, ai V 6 z0), (g3, ai V 6 z0)]) ++ ((qe, .inr (3, [.ref qr, .ref qeb, .int (nI 0), .int (nI 0), .int (nI 0), .int (nI 0)])) :: (qeb, qT V 6 (fT ae 6)) :: tabs V qr ae 6)) ++ [(qp, .inr (6, [.ref qr, .int (nI 0), .int (nI 0)]))]))) _ _
  exact gc_end ⟨qs, qsb, qr, r1, r2, r3, r4, r5, r6, t0, t0b, t1, t1b, qa, qab, aa, ql, qlb, qlu, al, qg, g1, g2, g3, qe, qeb, ae, qp, rfl⟩ (Nat.le_refl _) (Nat.le_refl _)
def lwW (V : Vt) (w : va_W) (lv : List (Option Value)) (sc : Nat) : Prop := ∃ (b : Nat) (bm : Nat), lv = [some (.ref sc), some (.ref b), some (.ref bm), none] ∧ ∃ (qs : Nat) (qsb : Nat) (qr : Nat) (r1 : Nat) (r2 : Nat) (r3 : Nat) (r4 : Nat) (r5 : Nat) (r6 : Nat) (t0 : Nat) (t0b : Nat) (t1 : Nat) (t1b : Nat) (qa : Nat) (qab : Nat) (aa : Nat → Nat) (ql : Nat) (qlb : Nat) (qlu : Nat) (al : Nat → Nat) (qg : Nat) (g1 : Nat) (g2 : Nat) (g3 : Nat) (qe : Nat) (qeb : Nat) (ae : Nat → Nat) (qp : Nat), ∃ (m1 : Nat) (m2 : Nat) (m3 : Nat) (m4 : Nat) (m5 : Nat) (m6 : Nat) (m7 : Nat) (m8 : Nat) (m9 : Nat) (m10 : Nat) (m11 : Nat) (m12 : Nat) (m13 : Nat) (m14 : Nat), w = [] ++ ((b, .inr (8, [.ref qs, .ref qr, .ref t0, .ref t1, .ref qa, .ref ql, .ref qg, .ref qe, .ref qp, .long 0])) :: (((((((([(qs, .inr (2, [.ref qsb, .int (nI 0)])), (qsb, ai V 48 z0)] ++ [(qr, .inr (1, [.int (nI 0), .int (nI 0), .int (nI 0), .int (nI 0), .ref r1, .ref r2, .ref r3, .ref r4, .ref r5, .ref r6])), (r1, ai V 4 z0), (r2, ai V 4 z0), (r3, ai V 4 z0), (r4, ai V 5 z0), (r5, ai V 5 z0), (r6, ai V 5 z0)]) ++ [(t0, .inr (7, [.ref qr, .int (nI 0), .int (nI 0), .int (nI 0), .int (nI 0), .int (nI 0), .int (nI 0), .ref t0b])), (t0b, ai V 4 z0)]) ++ [(t1, .inr (7, [.ref qr, .int (nI 0), .int (nI 0), .int (nI 0), .int (nI 0), .int (nI 0), .int (nI 0), .ref t1b])), (t1b, ai V 4 z0)]) ++ ((qa, .inr (0, [.ref qab, .int (nI 0), .int (nI 0)])) :: (qab, qT V 14 (fT aa 14)) :: tabs V qr aa 14)) ++ ((ql, .inr (5, [.ref qlb, .ref qlu])) :: (qlb, qT V 2 (fT al 2)) :: (qlu, az V 2 z0) :: tabs V qr al 2)) ++ [(qg, .inr (4, [.ref g1, .ref g2, .ref g3, .int (nI 0)])), (g1, ai V 6 z0), (g2, ai V 6 z0), (g3, ai V 6 z0)]) ++ ((qe, .inr (3, [.ref qr, .ref qeb, .int (nI 0), .int (nI 0), .int (nI 0), .int (nI 0)])) :: (qeb, qT V 6 (fT ae 6)) :: tabs V qr ae 6)) ++ [(qp, .inr (6, [.ref qr, .int (nI 0), .int (nI 0)]))])) ++ [(bm, .inr (9, [.int (nI 0), .ref m1, .int (nI 0), .int (nI 0), .int (nI 0), .ref m2, .int (nI 0), .ref m3, .int (nI 0), .int (nI 0), .int (nI 0), .ref m4, .int (nI 0), .ref m5, .ref m6, .ref m7, .ref m8, .int (nI 0), .ref m9, .ref m10, .int (nI 0), .ref m11, .ref m12, .ref m13, .long 0, .int (nI 0), .int (nI 0), .int (nI 0), .int (nI 0), .ref m14])), (m1, ai V 48 z0), (m2, ai V 12 z0), (m3, ai V 15 z0), (m4, ai V 12 z0), (m5, ai V 15 z0), (m6, ai V 10 z0), (m7, ai V 10 z0), (m8, ai V 140 z0), (m9, ai V 20 z0), (m10, az V 2 z0), (m11, ai V 6 z0), (m12, ai V 6 z0), (m13, ai V 6 z0), (m14, ai V 16 z0)]
theorem lw_make {sc : Nat} : GC V 20 85 793 RL cL_law 4 16 (fun lv w => lwW V w lv sc) 0 [some (.ref sc), none, none, none] [] [] 0 0 := by
  refine gc_new (ci := 8) dfX8 3 rfl rfl inX8 tyX8_ok cl_RL_7 ins_RX8 ini_RX8 (by decide) (Nat.le_of_ble_eq_true rfl) (Nat.le_of_ble_eq_true rfl) dL_law_0 (fun b => ?_)
  refine gc_dup 4 rfl dL_law_3 rfl ?_
  refine gc_callI (b := b) (As := []) 7 rfl (wiX8 ml_RL_9) c_X8_init (by decide) rfl rfl (Nat.le_of_ble_eq_true rfl) (Nat.le_of_ble_eq_true rfl) (Nat.le_of_ble_eq_true rfl) dL_law_4 (fun w hw => ?_)
  obtain ⟨qs, qsb, qr, r1, r2, r3, r4, r5, r6, t0, t0b, t1, t1b, qa, qab, aa, ql, qlb, qlu, al, qg, g1, g2, g3, qe, qeb, ae, qp, rfl⟩ := hw
  refine gc_astore1 8 rfl dL_law_7 (by decide) rfl ?_
  refine gc_new (ci := 9) dfX9 11 rfl rfl inX9 tyX9_ok cl_RL_10 ins_RX9 ini_RX9 (by decide) (Nat.le_of_ble_eq_true rfl) (Nat.le_of_ble_eq_true rfl) dL_law_8 (fun bm => ?_)
  refine gc_dup 12 rfl dL_law_11 rfl ?_
  refine gc_callI (b := bm) (As := []) 15 rfl (wiX9 ml_RL_12) c_X9_init (by decide) rfl rfl (Nat.le_of_ble_eq_true rfl) (Nat.le_of_ble_eq_true rfl) (Nat.le_of_ble_eq_true rfl) dL_law_12 (fun w hw => ?_)
  obtain ⟨m1, m2, m3, m4, m5, m6, m7, m8, m9, m10, m11, m12, m13, m14, rfl⟩ := hw
  refine gc_astore2 16 rfl dL_law_15 (by decide) rfl ?_
  exact gc_end ⟨b, bm, rfl, qs, qsb, qr, r1, r2, r3, r4, r5, r6, t0, t0b, t1, t1b, qa, qab, aa, ql, qlb, qlu, al, qg, g1, g2, g3, qe, qeb, ae, qp, m1, m2, m3, m4, m5, m6, m7, m8, m9, m10, m11, m12, m13, m14, rfl⟩ (Nat.le_refl _) (Nat.le_refl _)
end Inits3
