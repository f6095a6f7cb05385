/-! making: worlds that grow, a list that stays and a tail -/
def Xw (s : State) : Prop := va_Nw (.methodLinkNest RX8 9 yX2_init RX8) s ∧ va_Nw (.methodLinkNest RX8 18 yX1_init RX8) s ∧ va_Nw (.methodLinkNest RX8 51 yX4_init RX8) s ∧ va_AO RX7 s
def Cc (V : Vt) (d mc ms : Nat) (own : String) (cc : ByteArray) (nL : Nat) (p : Program) (s : State) (m : MethodId) (args : Array Value) (meth : Method) (c : Code) (R : Room) : Prop :=
  p.tables.exec = Jvm.exec ∧ c.code = cc ∧ c.maxLocals = nL ∧ s.vm.findClass own = some m.cls ∧ (∀ w ∈ lw_g, w.before args s = true) ∧ Kx V s ∧ Xw s ∧ (∀ q, s.heap.size ≤ q → V.2.2.2.2 q) ∧ d ≤ R.frames ∧ 60 * d ≤ R.locals ∧ mc ≤ R.cells ∧ ms ≤ R.slots ∧ (own ≠ RL → meth.name = "<init>")
def Ec (V : Vt) (mc ms pcf nL : Nat) (post : List (Option Value) → va_W → Prop) (p : Program) (e : Env) (R : Room) (s : State) (m : MethodId) (args : Array Value) (below : List Frame) (meth : Method) (c : Code) (Q : State → Prop) : Prop :=
  ∀ (ls : Array Slot) (lv : List (Option Value)) (ws : va_W) (H : Heap) (locs : List Loc), post lv ws → va_P V.2.1 vwCl ws H → va_D V.2.2.2.2 ws → va_S V.2.2.2.2 s.heap H locs → lv_has ls nL (asl 0 lv) → W p V.1 e R s m args below meth c H locs mc ms Q (F0 m pcf ls [])
def GC (V : Vt) (d mc ms : Nat) (own : String) (cc : ByteArray) (nL pcf : Nat) (post : List (Option Value) → va_W → Prop) (pc : Nat) (lv : List (Option Value)) (st : List Value) (ws : va_W) (cells slots : Nat) : Prop :=
  ∀ (p : Program) (e : Env) (s : State) (m : MethodId) (args : Array Value) (below : List Frame) (meth : Method) (c : Code) (R : Room) (H : Heap) (locs : List Loc) (ls : Array Slot) (Q : State → Prop),
    Cc V d mc ms own cc nL p s m args meth c R → Ec V mc ms pcf nL post p e R s m args below meth c Q → va_P V.2.1 vwCl ws H → va_D V.2.2.2.2 ws → va_S V.2.2.2.2 s.heap H locs → lv_has ls nL (asl 0 lv) → W p V.1 e R s m args below meth c H locs cells slots Q (F0 m pc ls st)
def rmc (d mc ms : Nat) : Room := { frames := d, cells := mc, slots := ms, locals := 60 * d }
def Cp (V : Vt) (av : List Value) (ws : va_W) : Array Value → State → Prop := va_Pc av (fun U => va_D V.2.2.2.2 ws ∧ va_P V.2.1 vwCl ws U.heap ∧ Kx V U ∧ Xw U ∧ ∀ q, U.heap.size ≤ q → V.2.2.2.2 q)
def Cq (V : Vt) (post : va_W → Prop) : Array Value → State → Outcome → State → Prop := fun _ st o t => (∃ ws' : va_W, o = .returned none ∧ post ws' ∧ va_P V.2.1 vwCl ws' t.heap ∧ va_D V.2.2.2.2 ws') ∧ va_F V.2.2.2.2 st t
def Mk (V : Vt) (d mc ms : Nat) (y : MethodName) (cc : ByteArray) (nL : Nat) (av : List Value) (ws : va_W) (post : va_W → Prop) : Prop :=
  Met V.1 y (.code y cc nL none :: lw_g) (rmc d mc ms) (Cp V av ws) (Cq V post) mc ms V.2.2.2.2
theorem Xw_same {u U : State} (h : u.vm = U.vm) (x : Xw u) : Xw U := ⟨va_Nw.same rfl h x.1, va_Nw.same rfl h x.2.1, va_Nw.same rfl h x.2.2.1, va_AO.moved (by rw [h]; exact Vm.Alike.refl _) x.2.2.2⟩
theorem Xw_warm {s U : State} (h : s.WarmedH U.vm) (x : Xw s) : Xw U := ⟨va_Nw.warmM h x.1, va_Nw.warmM h x.2.1, va_Nw.warmM h x.2.2.1, va_AO.moved h.alike x.2.2.2⟩
theorem Cp_blind (V : Vt) (av : List Value) (ws : va_W) : FrameBlind (Cp V av ws) := fun a U g mk q => by
  obtain ⟨q0, qD, qP, qK, qX, qA⟩ := q
  exact ⟨q0, qD, qP, va_K.moved (u := U) (U := U.calling g mk a) (Vm.Alike.refl U.vm) qK, Xw_same (u := U) (U := U.calling g mk a) rfl qX, qA⟩
theorem Mk_of {V : Vt} {d mc ms : Nat} {y : MethodName} {cc : ByteArray} {nL : Nat} {av : List Value} {ws : va_W} {post : va_W → Prop} (lv : List (Option Value)) (pcf : Nat) {own : String} (ho : y.cls = own) (hy : plainName y.cls = true) (hyi : y.name = "<init>") (hlen : (lg_sl av).length ≤ nL) (hlv : ∀ q ∈ asl 0 lv, q ∈ lv_args 0 av) (hd : decode cc pcf = .ok (.return_, 1))
    (k : GC V d mc ms own cc nL pcf (fun _ w => post w) 0 lv [] ws 0 0) : Mk V d mc ms y cc nL av ws post := by
  subst ho
  refine Met.ofW (cc := cc) (maxL := nL) (ret := none) hy rfl ?_
  intro p e s m args below meth c s₁ B hml hv
  obtain ⟨rfl, hD, hP, hK, hX, hA⟩ := hv
  have hts0 := atoms_spec (ws := .code y cc nL none :: lw_g) B.pre
  have hown : s.vm.findClass y.cls = some m.cls := findClass_of_methodNamed B.named
  have hlocks := B.notSynchronized
  have hin : meth.name = "<init>" := (name_of_methodNamed B.named B.method).1.trans hyi
  have hl := lv_entry av (n := nL) hlen
  rw [lg_entry_eq]
  generalize (lg_sl av ++ List.replicate (nL - (lg_sl av).length) Slot.unset).toArray = ls at hl ⊢
  refine k p e s m av.toArray below meth c (rmc d mc ms) s.heap [] ls _ ⟨B.exec, B.bytes, hml, hown, fun w hw => hts0 w (List.mem_cons_of_mem _ hw), hK, hX, hA, Nat.le_refl _, Nat.le_refl _, Nat.le_refl _, Nat.le_refl _, fun _ => hin⟩ ?_ hP hD va_S.rf ⟨hl.1, hl.2.1, fun q hq => hl.2.2 q (hlv q hq)⟩
  intro ls lv' ws' H locs hp hP' hD' hS hl'
  exact W.vret B.exec B.bytes B.returns (fun t ht hW => ⟨⟨ws', rfl, hp, by rw [ht]; exact hP', hD'⟩, hS.F ht⟩) hS.2.2 hd hlocks
section Making
variable {V : Vt} {d mc ms : Nat} {own : String} {cc : ByteArray} {nL pcf : Nat} {post : List (Option Value) → va_W → Prop} {pc : Nat} {lv : List (Option Value)} {st : List Value} {ws w0 t : va_W} {cells slots : Nat}
theorem gc_end (hp : post lv ws) (hc : cells ≤ mc) (hs : slots ≤ ms) : GC V d mc ms own cc nL pcf post pcf lv [] ws cells slots := fun p e s m args below meth c R H locs ls Q C X hP hD hS hl => W.widen hc hs (X ls lv ws H locs hp hP hD hS hl)
theorem gc_aload {i : Fin 4} {a : Nat} (pc' : Nat) (hp : pc + 1 = pc') (hd : decode cc pc = .ok (.aload_n i, 1)) (hv : lv[i.val]? = some (some (.ref a))) (k : GC V d mc ms own cc nL pcf post pc' lv (.ref a :: st) ws cells slots) : GC V d mc ms own cc nL pcf post pc lv st ws cells slots := by
  subst hp
  exact fun p e s m args below meth c R H locs ls Q C X hP hD hS hl => lv_aload_n C.1 C.2.1 hd rfl (asl_at (i := i.val) hl hv) (k p e s m args below meth c R H locs ls Q C X hP hD hS hl)
theorem gc_iload {i : Fin 4} {x : Int32} (pc' : Nat) (hp : pc + 1 = pc') (hd : decode cc pc = .ok (.iload_n i, 1)) (hv : lv[i.val]? = some (some (.int x))) (k : GC V d mc ms own cc nL pcf post pc' lv (.int x :: st) ws cells slots) : GC V d mc ms own cc nL pcf post pc lv st ws cells slots := by
  subst hp
  exact fun p e s m args below meth c R H locs ls Q C X hP hD hS hl => lv_iload_n C.1 C.2.1 hd rfl (asl_at (i := i.val) hl hv) (k p e s m args below meth c R H locs ls Q C X hP hD hS hl)
theorem gc_dup {va : Value} (pc' : Nat) (hp : pc + 1 = pc') (hd : decode cc pc = .ok (.dup, 1)) (h1 : va.category = 1) (k : GC V d mc ms own cc nL pcf post pc' lv (va :: va :: st) ws cells slots) : GC V d mc ms own cc nL pcf post pc lv (va :: st) ws cells slots := by
  subst hp
  exact fun p e s m args below meth c R H locs ls Q C X hP hD hS hl => lv_dup C.1 C.2.1 hd h1 (k p e s m args below meth c R H locs ls Q C X hP hD hS hl)
theorem gc_bipush {n : Int} (v : Nat) (pc' : Nat) (hp : pc + 2 = pc') (hd : decode cc pc = .ok (.bipush n, 2)) (hv : (Int8.ofInt n).toInt32 = nI v) (k : GC V d mc ms own cc nL pcf post pc' lv (.int (nI v) :: st) ws cells slots) : GC V d mc ms own cc nL pcf post pc lv st ws cells slots := by
  subst hp
  exact fun p e s m args below meth c R H locs ls Q C X hP hD hS hl => lv_bipush C.1 C.2.1 hd hv (k p e s m args below meth c R H locs ls Q C X hP hD hS hl)
theorem gc_sipush {n : Int} (v : Nat) (pc' : Nat) (hp : pc + 3 = pc') (hd : decode cc pc = .ok (.sipush n, 3)) (hv : (Int16.ofInt n).toInt32 = nI v) (k : GC V d mc ms own cc nL pcf post pc' lv (.int (nI v) :: st) ws cells slots) : GC V d mc ms own cc nL pcf post pc lv st ws cells slots := by
  subst hp
  exact fun p e s m args below meth c R H locs ls Q C X hP hD hS hl => lv_sipush C.1 C.2.1 hd hv (k p e s m args below meth c R H locs ls Q C X hP hD hS hl)
theorem gc_iconst {n : Int} (v : Nat) (pc' : Nat) (hp : pc + 1 = pc') (hd : decode cc pc = .ok (.iconst n, 1)) (hv : Int32.ofInt n = nI v) (k : GC V d mc ms own cc nL pcf post pc' lv (.int (nI v) :: st) ws cells slots) : GC V d mc ms own cc nL pcf post pc lv st ws cells slots := by
  subst hp
  exact fun p e s m args below meth c R H locs ls Q C X hP hD hS hl => lv_iconst C.1 C.2.1 hd hv (k p e s m args below meth c R H locs ls Q C X hP hD hS hl)
theorem gc_obj {a idx : Nat} (pc' : Nat) (hp : pc + 3 = pc') (hd1 : 1 ≤ d) (hw : Cond.methodLink own idx objectInit ∈ lw_tbl) (hd : decode cc pc = .ok (.invokespecial idx, 3)) (k : GC V d mc ms own cc nL pcf post pc' lv [] ws cells slots) : GC V d mc ms own cc nL pcf post pc lv [.ref a] ws cells slots := by
  subst hp
  intro p e s m args below meth c R H locs ls Q C X hP hD hS hl
  have hF := C.2.2.2.2.2.2.2.2.1
  have hL := C.2.2.2.2.2.2.2.2.2.1
  have hr0 : 2 * (F0 m pc ls [Value.ref a]).monitorRoom + (([] : List Value).map fun v => v.category).sum ≤ 8 := lv_room (Nat.zero_le _)
  refine W.objInit C.1 C.2.1 C.2.2.2.1 (C.2.2.2.2.1 _ (lgm hw rfl)) (C.2.2.2.2.1 _ (lgm im_objectInit rfl)) (C.2.2.2.2.1 _ (lgm cd_objectInit rfl)) rfl (by rw [C.2.2.1]; exact hl.1) rfl hd (by omega) (by omega) ?_
  exact k p e s m args below meth c R H locs ls Q C X hP hD hS hl
theorem gc_new {idx ci N : Nat} {C0 : String} {T : u_T} {ty : Nat → FieldType} (fs : List Value) (pc' : Nat) (hp : pc + 3 = pc') (hc0 : vwCl[ci]? = some (C0, T, N)) (hin : ∀ w ∈ u_ws C0 T N, w ∈ lw_tbl) (hty : ∀ k, k < N → parseFieldDescriptor (T k).2.2.1 = some (ty k)) (hlink : Cond.classLink own idx C0 ∈ lw_tbl) (hins : Cond.instantiable C0 N ∈ lw_tbl) (hini : Cond.initialized C0 ∈ lw_tbl) (hfs : ∀ j, j < N → defaultValue (ty j) = vp_V fs j) (hcs : cells + 1 ≤ mc) (hss : slots + N ≤ ms) (hd : decode cc pc = .ok (.new idx, 3)) (kk : ∀ q : Nat, GC V d mc ms own cc nL pcf post pc' lv (.ref q :: st) (ws ++ [(q, .inr (ci, fs))]) (cells + 1) (slots + N)) : GC V d mc ms own cc nL pcf post pc lv st ws cells slots := by
  subst hp
  intro p e s m args below meth c R H locs ls Q C X hP hD hS hl
  have hx := C.2.2.2.2.2.2.2.2.2.2
  exact va_new (D := V.2.1) (cl := vwCl) C.1 C.2.1 C.2.2.2.2.1 (lg_lays hin) ty hty C.2.2.2.1 (C.2.2.2.2.1 _ (lgm hlink rfl)) (C.2.2.2.2.1 _ (lgm hins rfl)) (C.2.2.2.2.1 _ (lgm hini rfl)) C.2.2.2.2.2.1 hP hD hS C.2.2.2.2.2.2.2.1 hc0 hfs (by omega) (by omega) hd (fun q H1 hP1 hD1 hS1 => kk q p e s m args below meth c R H1 locs ls Q C X hP1 hD1 hS1 hl)
theorem gc_newi {N : Nat} (pc' : Nat) (hp : pc + 2 = pc') (hN : N ≤ 1000) (hcs : cells + 1 ≤ mc) (hss : slots + N ≤ ms) (hd : decode cc pc = .ok (.newarray .int, 2)) (kk : ∀ q : Nat, GC V d mc ms own cc nL pcf post pc' lv (.ref q :: st) (ws ++ [(q, ai V N (fun _ => 0))]) (cells + 1) (slots + N)) : GC V d mc ms own cc nL pcf post pc lv (.int (nI N) :: st) ws cells slots := by
  subst hp
  intro p e s m args below meth c R H locs ls Q C X hP hD hS hl
  have hx := C.2.2.2.2.2.2.2.2.2.2
  have hK := C.2.2.2.2.2.1
  refine va_newa (D := V.2.1) (cl := vwCl) (atype := .int) (ty := .int) (a0 := (N, .inl (fun _ => nI 0))) (N' := N) C.1 C.2.1 (C.2.2.2.2.1 _ (lgm ac_JvmClassFileFieldTypeint rfl)) rfl hK hP hD hS C.2.2.2.2.2.2.2.1 (fun cA => vp_cell_i _ _ _) (Int32.not_lt.mpr (by rw [← nI_0]; exact nI_le (Nat.zero_le _) (by omega))) (nI_clamp (by omega)) (by show N * 4 ≤ 536870912; omega) (by omega) (by omega) hd (fun q cA H1 hK1 hP1 hD1 hS1 => ?_)
  have e1 : s.vm.findClass _ = some V.2.2.1.1 := (hK.2 0 _ rfl).2
  have e2 : s.vm.findClass _ = some cA := (hK1.2 3 _ rfl).2
  have e3 : cA = V.2.2.1.1 := Option.some.inj (e2.symm.trans e1)
  subst e3
  exact kk q p e s m args below meth c R H1 locs ls Q C X hP1 hD1 hS1 hl
theorem gc_newz {N : Nat} (pc' : Nat) (hp : pc + 2 = pc') (hN : N ≤ 1000) (hcs : cells + 1 ≤ mc) (hss : slots + N ≤ ms) (hd : decode cc pc = .ok (.newarray .boolean, 2)) (kk : ∀ q : Nat, GC V d mc ms own cc nL pcf post pc' lv (.ref q :: st) (ws ++ [(q, az V N (fun _ => 0))]) (cells + 1) (slots + N)) : GC V d mc ms own cc nL pcf post pc lv (.int (nI N) :: st) ws cells slots := by
  subst hp
  intro p e s m args below meth c R H locs ls Q C X hP hD hS hl
  have hx := C.2.2.2.2.2.2.2.2.2.2
  have hK := C.2.2.2.2.2.1
  refine va_newa (D := V.2.1) (cl := vwCl) (atype := .boolean) (ty := .boolean) (a0 := (N, .inl (fun _ => nI 0))) (N' := N) C.1 C.2.1 (C.2.2.2.2.1 _ (lgm ac_JvmClassFileFieldTypeboolean rfl)) rfl hK hP hD hS C.2.2.2.2.2.2.2.1 (fun cA => vp_cell_i _ _ _) (Int32.not_lt.mpr (by rw [← nI_0]; exact nI_le (Nat.zero_le _) (by omega))) (nI_clamp (by omega)) (by show N * 1 ≤ 536870912; omega) (by omega) (by omega) hd (fun q cA H1 hK1 hP1 hD1 hS1 => ?_)
  have e1 : s.vm.findClass _ = some V.2.2.1.2.1 := (hK.2 1 _ rfl).2
  have e2 : s.vm.findClass _ = some cA := (hK1.2 3 _ rfl).2
  have e3 : cA = V.2.2.1.2.1 := Option.some.inj (e2.symm.trans e1)
  subst e3
  exact kk q p e s m args below meth c R H1 locs ls Q C X hP1 hD1 hS1 hl
def qT (V : Vt) (N : Nat) (f : Nat → Option Nat) : va_E := .inl (V.2.2.1.2.2, N, .inr (.inr (.inr (.inr f))))
theorem gc_newq {N idx : Nat} (pc' : Nat) (hp : pc + 3 = pc') (hN : N ≤ 1000) (hcs : cells + 1 ≤ mc) (hss : slots + N ≤ ms) (hlink : Cond.classLink own idx RX7 ∈ lw_tbl) (hd : decode cc pc = .ok (.anewarray idx, 3)) (kk : ∀ q : Nat, GC V d mc ms own cc nL pcf post pc' lv (.ref q :: st) (ws ++ [(q, qT V N (fun _ => none))]) (cells + 1) (slots + N)) : GC V d mc ms own cc nL pcf post pc lv (.int (nI N) :: st) ws cells slots := by
  subst hp
  intro p e s m args below meth c R H locs ls Q C X hP hD hS hl
  have hx := C.2.2.2.2.2.2.2.2.2.2
  have hK := C.2.2.2.2.2.1
  refine va_newq (D := V.2.1) (cl := vwCl) (C := RX7) (N' := N) C.1 C.2.1 C.2.2.2.1 (C.2.2.2.2.1 _ (lgm hlink rfl)) C.2.2.2.2.2.2.1.2.2.2 hK hP hD hS C.2.2.2.2.2.2.2.1 (Int32.not_lt.mpr (by rw [← nI_0]; exact nI_le (Nat.zero_le _) (by omega))) (nI_clamp (by omega)) (by omega) (by omega) (by omega) hd (fun q cA H1 hK1 hP1 hD1 hS1 => ?_)
  obtain ⟨-, -, -, -, -, e1⟩ := (hK.2 2 _ rfl).2
  obtain ⟨-, -, -, -, -, e2⟩ := (hK1.2 3 _ rfl).2
  have e3 : cA = V.2.2.1.2.2 := Option.some.inj (e2.symm.trans e1)
  subst e3
  exact kk q p e s m args below meth c R H1 locs ls Q C X hP1 hD1 hS1 hl
theorem at_app (w0 t : va_W) (j : Nat) : (w0 ++ t)[w0.length + j]? = t[j]? := by
  rw [List.getElem?_append_right (by omega), Nat.add_sub_cancel_left]
theorem set_app (w0 t : va_W) (j : Nat) (x : Nat × va_E) : (w0 ++ t).set (w0.length + j) x = w0 ++ t.set j x := by
  rw [List.set_append_right _ _ (by omega), Nat.add_sub_cancel_left]
theorem gc_putF {a j k idx ci N : Nat} {fs : List Value} {v : Value} {C0 : String} {T : u_T} {ty0 : Nat → FieldType} {fty : FieldType} (pc' : Nat) (hp : pc + 3 = pc') (hi : own ≠ RL) (he : t[j]? = some (a, .inr (ci, fs))) (hc0 : vwCl[ci]? = some (C0, T, N)) (hin : ∀ w ∈ u_ws C0 T N, w ∈ lw_tbl) (hty : ∀ k, k < N → parseFieldDescriptor (T k).2.2.1 = some (ty0 k)) (hnm : ∀ a, a < N → ∀ b, b < N → a ≠ b → (T a).2.1 ≠ (T b).2.1) (hk : k < N) (hlink : Cond.fieldLink own idx (T k).1 (T k).2.1 (T k).2.2.1 ∈ lw_tbl) (hfin : (T k).2.2.2 = true) (hdecl : (T k).1 = own) (hde : parseFieldDescriptor (T k).2.2.1 = some fty) (hn : narrow fty v = v) (hfit : fits fty v = true) (hlen : k < fs.length) (hd : decode cc pc = .ok (.putfield idx, 3)) (kk : GC V d mc ms own cc nL pcf post pc' lv st (w0 ++ t.set j (a, .inr (ci, fs.set k v))) cells slots) : GC V d mc ms own cc nL pcf post pc lv (v :: .ref a :: st) (w0 ++ t) cells slots := by
  subst hp
  intro p e s m args below meth c R H locs ls Q C X hP hD hS hl
  refine va_putF (D := V.2.1) (cl := vwCl) (ty := fty) C.1 C.2.1 C.2.2.2.2.1 (lg_lays hin) ty0 hty hnm C.2.2.2.1 C.2.2.2.2.2.1 hP hD hS (w0.length + j) ((at_app w0 t j).trans he) hc0 k hk (C.2.2.2.2.1 _ (lgm hlink rfl)) (fun _ h9 => h9) hfin (C.2.2.2.2.2.2.2.2.2.2.2.2 hi) hdecl hde hn hfit hlen hd (fun H1 locs1 hP1 hD1 hS1 => ?_)
  rw [set_app] at hP1 hD1
  exact kk p e s m args below meth c R H1 locs1 ls Q C X hP1 hD1 hS1 hl
theorem gc_callI {y : MethodName} {cc' : ByteArray} {nL' d' mc' ms' n idx b : Nat} {As st0 : List Value} {post' : va_W → Prop} (pc' : Nat) (hp : pc + 3 = pc') (hw : Cond.methodLink own idx y ∈ lw_tbl ∧ Cond.instanceMethod y ∈ lw_tbl ∧ Cond.initialized y.cls ∈ lw_tbl ∧ Cond.code y cc' nL' none ∈ lw_tbl ∧ y.name = "<init>" ∧ (y.cls ≠ "java/lang/invoke/MethodHandle" ∧ y.cls ≠ "java/lang/invoke/VarHandle" ∧ (parseMethodDescriptor y.desc).map (fun d => d.parameters.length) = some n) ∧ nL' ≤ 40) (hM : Mk V d' mc' ms' y cc' nL' (.ref b :: As) ws post') (hdd : d' < d) (hn : As.length = n) (hst : st0 = As.reverse ++ .ref b :: st) (hr : (st.map fun v => v.category).sum ≤ 8) (hcs : cells + mc' ≤ mc) (hss : slots + ms' ≤ ms) (hd : decode cc pc = .ok (.invokespecial idx, 3)) (kk : ∀ ws', post' ws' → GC V d mc ms own cc nL pcf post pc' lv st ws' (cells + mc') (slots + ms')) : GC V d mc ms own cc nL pcf post pc lv st0 ws cells slots := by
  subst hp
  intro p e s m args below meth c R H locs ls Q C X hP hD hS hl
  obtain ⟨w1, w2, w4, w5, w6, w7, w8⟩ := hw
  have hts := C.2.2.2.2.1
  have hF := C.2.2.2.2.2.2.2.2.1
  have hL := C.2.2.2.2.2.2.2.2.2.1
  have hx := C.2.2.2.2.2.2.2.2.2.2
  have cw : CallB R s args own idx y cc' nL' none (.code y cc' nL' none :: lw_g) (rmc d' mc' ms') mc' ms' n ∧ y.name = "<init>" ∧ (Cond.instanceMethod y).before args s = true :=
    ⟨callB_of n hts (lw_code w5) rfl rfl rfl (hts _ (lgm w4 rfl)) (hts _ (lgm w1 rfl)) w7 ⟨by show d' + 1 ≤ R.frames; omega, by show 8 + (nL' + 11) + 60 * d' ≤ R.locals; omega⟩, w6, hts _ (lgm w2 rfl)⟩
  have run := va_runI (p := p) (e := e) (R := R) (below := below) (meth := meth) (locs := locs) (cells := cells) (slots := slots) (As := As) (rest := st) (g := F0 m pc ls st0) ⟨C.1, C.2.1, C.2.2.1, C.2.2.2.1, hts⟩ hM cw ⟨Cp_blind V _ ws, fun U hU hW => ⟨rfl, hD, by rw [hU]; exact hP, va_K.moved hW.alike C.2.2.2.2.2.1, Xw_warm hW C.2.2.2.2.2.2.1, fun q hq => C.2.2.2.2.2.2.2.1 q (Nat.le_trans hS.1 (by rw [hU] at hq; exact hq))⟩⟩ rfl hn hl.1 hst (lv_room hr) hd ⟨by omega, by omega⟩
  intro Tt hT Xt
  obtain ⟨v, st₀, t, T', L, h0, X', hL, e1, e2, ⟨⟨ws', hv, hq, hP1, hD1⟩, hz, hk1⟩, stp⟩ := run Tt hT Xt
  cases hv
  rw [h0] at hz hk1
  obtain ⟨t2, a1, b1⟩ := kk ws' hq p e s m args below meth c R T'.heap (locs ++ L) ls Q C X (by rw [e1]; exact hP1) hD1
    ⟨Nat.le_trans hS.1 (by rw [e1]; exact hz), fun q h1 h2 => by rw [e1, hk1 q (Nat.lt_of_lt_of_le h1 hS.1) h2]; exact hS.2.1 q h1 h2, fun q hq => by
      rcases List.mem_append.mp hq with w | w
      · exact hS.2.2 q w
      · exact hL q w⟩ hl T' rfl X'
  exact ⟨t2, stp t2 a1, b1⟩
end Making
