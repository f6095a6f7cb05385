/-- the words that stay true as the machine goes on -/
def lw_g : List Cond := lw_tbl.filter goodWord
theorem lgm {w : Cond} (h : w ∈ lw_tbl) (hg : goodWord w = true) : w ∈ lw_g := List.mem_filter.mpr ⟨h, hg⟩
theorem lg_lays {C : String} {T : u_T} {N : Nat} (h : ∀ w ∈ u_ws C T N, w ∈ lw_tbl) : ∀ w ∈ u_ws C T N, w ∈ lw_g := by
  intro w hw
  refine lgm (h w hw) ?_
  obtain ⟨k, -, rfl⟩ := List.mem_map.mp hw
  unfold u_lay
  split <;> rfl
/-! the world: 85 cells by number, each cell's numbers in a row of naturals; rows may serve several cells -/
abbrev Hp : Type := (Nat → Nat → Nat) × (Nat → Int64)
abbrev Vt : Type := Launch × va_G × (ClassId × ClassId × ClassId) × (Nat → Nat) × (Nat → Prop)
def rf (V : Vt) (k : Nat) : Value := .ref (V.2.2.2.1 k)
def tb (i : Nat) : Nat := 2 * i + 37
def tr (i : Nat) : Nat := i + 100
def tof (j : Nat) : Nat := if j < 4 then 2 + j else 10 + j
def ai (V : Vt) (n : Nat) (f : Nat → Nat) : va_E := .inl (V.2.2.1.1, n, .inl (fun j => nI (f j)))
def az (V : Vt) (n : Nat) (f : Nat → Nat) : va_E := .inl (V.2.2.1.2.1, n, .inl (fun j => nI (f j)))
def aT (V : Vt) (n : Nat) (g : Nat → Nat) : va_E := .inl (V.2.2.1.2.2, n, .inr (.inr (.inr (.inr (fun j => some (V.2.2.2.1 (g j)))))))
def c0 (V : Vt) (z : Nat → Int64) (f : Nat → Nat) (k : Nat) : va_E := match k with
  | 0 => .inr (8, [rf V 1, rf V 3, rf V (tb 0), rf V (tb 1), rf V 10, rf V 12, rf V 15, rf V 19, rf V 21, .long (z 0)])
  | 1 => .inr (2, [rf V 2, .int (nI (f 0))])
  | 2 => ai V 48 f
  | 3 => .inr (1, [.int (nI (f 0)), .int (nI (f 1)), .int (nI (f 2)), .int (nI (f 3)), rf V 4, rf V 5, rf V 6, rf V 7, rf V 8, rf V 9])
  | 4 => ai V 4 (fun j => f (3 * j))
  | 5 => ai V 4 (fun j => f (3 * j + 1))
  | 6 => ai V 4 (fun j => f (3 * j + 2))
  | 7 => ai V 5 (fun j => f (3 * j))
  | 8 => ai V 5 (fun j => f (3 * j + 1))
  | 9 => ai V 5 (fun j => f (3 * j + 2))
  | 10 => .inr (0, [rf V 11, .int (nI (f 1)), .int (nI (f 2))])
  | 11 => aT V 14 (fun j => tb (j + 2))
  | 12 => .inr (5, [rf V 13, rf V 14])
  | 13 => aT V 2 (fun j => tb (j + 16))
  | 14 => az V 2 f
  | 15 => .inr (4, [rf V 16, rf V 17, rf V 18, .int (nI (f 3))])
  | 16 => ai V 6 f
  | 17 => ai V 6 f
  | 18 => ai V 6 f
  | 19 => .inr (3, [rf V 3, rf V 20, .int (nI (f 2)), .int (nI (f 3)), .int (nI (f 4)), .int (nI (f 5))])
  | 20 => aT V 6 (fun j => tb (j + 18))
  | 21 => .inr (6, [rf V 3, .int (nI (f 1)), .int (nI (f 2))])
  | 22 => .inr (9, [.int (nI (f 0)), rf V 23, .int (nI (f 2)), .int (nI (f 3)), .int (nI (f 4)), rf V 24, .int (nI (f 6)), rf V 25, .int (nI (f 8)), .int (nI (f 9)), .int (nI (f 10)), rf V 26, .int (nI (f 12)), rf V 27, rf V 28, rf V 29, rf V 30, .int (nI (f 17)), rf V 31, rf V 32, .int (nI (f 20)), rf V 33, rf V 34, rf V 35, .long (z 1), .int (nI (f 25)), .int (nI (f 26)), .int (nI (f 27)), .int (nI (f 28)), rf V 36])
  | 23 => ai V 48 f
  | 24 => ai V 12 f
  | 25 => ai V 15 f
  | 26 => ai V 12 f
  | 27 => ai V 15 f
  | 28 => ai V 10 f
  | 29 => ai V 10 f
  | 30 => ai V 140 f
  | 31 => ai V 20 f
  | 32 => az V 2 f
  | 33 => ai V 6 f
  | 34 => ai V 6 f
  | 35 => ai V 6 f
  | 36 => ai V 16 f
  | _ => ai V 0 f
def cl (V : Vt) (z : Nat → Int64) (k : Nat) (f : Nat → Nat) : va_E :=
  if k < 37 then c0 V z f k else if (k - 37) % 2 = 0 then .inr (7, [rf V 3, .int (nI (f 0)), .int (nI (f 1)), .int (nI (f 6)), .int (nI (f 7)), .int (nI (f 8)), .int (nI (f 9)), rf V (k + 1)]) else ai V 4 (fun j => f (tof j))
def rw5 (k : Nat) : Nat := if k < 4 then k else if k < 7 then 4 else if k < 10 then 7 else k
def rw (k : Nat) : Nat := if k < 37 then rw5 k else (k - 37) / 2 + 100
def ow (r off : Nat) : Nat := if r < 100 then (if r = 4 then 4 + off % 3 else if r = 7 then 7 + off % 3 else r) else if (2 ≤ off ∧ off < 6) ∨ 14 ≤ off then 2 * (r - 100) + 38 else 2 * (r - 100) + 37
theorem cl_tb (V : Vt) (z : Nat → Int64) (i : Nat) (f : Nat → Nat) : cl V z (tb i) f = .inr (7, [rf V 3, .int (nI (f 0)), .int (nI (f 1)), .int (nI (f 6)), .int (nI (f 7)), .int (nI (f 8)), .int (nI (f 9)), rf V (tb i + 1)]) := by
  unfold cl tb
  rw [if_neg (by omega), if_pos (by omega)]
theorem cl_tt (V : Vt) (z : Nat → Int64) (i : Nat) (f : Nat → Nat) : cl V z (tb i + 1) f = ai V 4 (fun j => f (tof j)) := by
  unfold cl tb
  rw [if_neg (by omega), if_neg (by omega)]
theorem rw_tb (i : Nat) : rw (tb i) = tr i := by unfold rw tb tr; rw [if_neg (by omega)]; omega
theorem rw_tt (i : Nat) : rw (tb i + 1) = tr i := by unfold rw tb tr; rw [if_neg (by omega)]; omega
theorem ow_tb {i off : Nat} (h : ¬ ((2 ≤ off ∧ off < 6) ∨ 14 ≤ off)) : ow (tr i) off = tb i := by
  unfold ow tr tb
  rw [if_neg (by omega), if_neg h]
  omega
theorem ow_tt (i j : Nat) : ow (tr i) (tof j) = tb i + 1 := by
  unfold ow tr tb tof
  rw [if_neg (by omega), if_pos (by split <;> omega)]
  omega
theorem tof_inj {a b : Nat} (h : tof a = tof b) : a = b := by
  unfold tof at h
  split at h <;> split at h <;> omega
theorem c0_dep (V : Vt) (z : Nat → Int64) {k : Nat} (hk : k < 37) {f g : Nat → Nat} (h : ∀ off, ow (rw5 k) off = k → f off = g off) : c0 V z f k = c0 V z g k := by
  match k, hk, h with
  | 0, _, h => exact rfl
  | 1, _, h => exact by simp only [c0, h 0 rfl]
  | 2, _, h => exact congrArg (ai V 48) (funext fun j => h j rfl)
  | 3, _, h => exact by simp only [c0, h 0 rfl, h 1 rfl, h 2 rfl, h 3 rfl]
  | 4, _, h => exact congrArg (ai V 4) (funext fun j => h (3 * j) (show 4 + (3 * j) % 3 = 4 by omega))
  | 5, _, h => exact congrArg (ai V 4) (funext fun j => h (3 * j + 1) (show 4 + (3 * j + 1) % 3 = 5 by omega))
  | 6, _, h => exact congrArg (ai V 4) (funext fun j => h (3 * j + 2) (show 4 + (3 * j + 2) % 3 = 6 by omega))
  | 7, _, h => exact congrArg (ai V 5) (funext fun j => h (3 * j) (show 7 + (3 * j) % 3 = 7 by omega))
  | 8, _, h => exact congrArg (ai V 5) (funext fun j => h (3 * j + 1) (show 7 + (3 * j + 1) % 3 = 8 by omega))
  | 9, _, h => exact congrArg (ai V 5) (funext fun j => h (3 * j + 2) (show 7 + (3 * j + 2) % 3 = 9 by omega))
  | 10, _, h => exact by simp only [c0, h 1 rfl, h 2 rfl]
  | 11, _, h => exact rfl
  | 12, _, h => exact rfl
  | 13, _, h => exact rfl
  | 14, _, h => exact congrArg (az V 2) (funext fun j => h j rfl)
  | 15, _, h => exact by simp only [c0, h 3 rfl]
  | 16, _, h => exact congrArg (ai V 6) (funext fun j => h j rfl)
  | 17, _, h => exact congrArg (ai V 6) (funext fun j => h j rfl)
  | 18, _, h => exact congrArg (ai V 6) (funext fun j => h j rfl)
  | 19, _, h => exact by simp only [c0, h 2 rfl, h 3 rfl, h 4 rfl, h 5 rfl]
  | 20, _, h => exact rfl
  | 21, _, h => exact by simp only [c0, h 1 rfl, h 2 rfl]
  | 22, _, h => exact by simp only [c0, h 0 rfl, h 2 rfl, h 3 rfl, h 4 rfl, h 6 rfl, h 8 rfl, h 9 rfl, h 10 rfl, h 12 rfl, h 17 rfl, h 20 rfl, h 25 rfl, h 26 rfl, h 27 rfl, h 28 rfl]
  | 23, _, h => exact congrArg (ai V 48) (funext fun j => h j rfl)
  | 24, _, h => exact congrArg (ai V 12) (funext fun j => h j rfl)
  | 25, _, h => exact congrArg (ai V 15) (funext fun j => h j rfl)
  | 26, _, h => exact congrArg (ai V 12) (funext fun j => h j rfl)
  | 27, _, h => exact congrArg (ai V 15) (funext fun j => h j rfl)
  | 28, _, h => exact congrArg (ai V 10) (funext fun j => h j rfl)
  | 29, _, h => exact congrArg (ai V 10) (funext fun j => h j rfl)
  | 30, _, h => exact congrArg (ai V 140) (funext fun j => h j rfl)
  | 31, _, h => exact congrArg (ai V 20) (funext fun j => h j rfl)
  | 32, _, h => exact congrArg (az V 2) (funext fun j => h j rfl)
  | 33, _, h => exact congrArg (ai V 6) (funext fun j => h j rfl)
  | 34, _, h => exact congrArg (ai V 6) (funext fun j => h j rfl)
  | 35, _, h => exact congrArg (ai V 6) (funext fun j => h j rfl)
  | 36, _, h => exact congrArg (ai V 16) (funext fun j => h j rfl)
  | k + 37, hk, _ => exact absurd hk (by omega)
/-- a cell's numbers are its own -/
theorem cl_dep (V : Vt) (z : Nat → Int64) {k : Nat} {f g : Nat → Nat} (h : ∀ off, ow (rw k) off = k → f off = g off) : cl V z k f = cl V z k g := by
  by_cases hk : k < 37
  · have e1 : cl V z k f = c0 V z f k := if_pos hk
    have e2 : cl V z k g = c0 V z g k := if_pos hk
    rw [e1, e2]
    refine c0_dep V z hk (fun off ho => h off ?_)
    rw [show rw k = rw5 k from if_pos hk]
    exact ho
  · obtain ⟨i, hi⟩ : ∃ i, k = tb i ∨ k = tb i + 1 := ⟨(k - 37) / 2, by unfold tb; omega⟩
    rcases hi with rfl | rfl
    · rw [rw_tb] at h
      rw [cl_tb, cl_tb, h 0 (ow_tb (by omega)), h 1 (ow_tb (by omega)), h 6 (ow_tb (by omega)), h 7 (ow_tb (by omega)), h 8 (ow_tb (by omega)), h 9 (ow_tb (by omega))]
    · rw [rw_tt] at h
      rw [cl_tt, cl_tt, funext (fun j => h (tof j) (ow_tt i j))]
def sR (h : Hp) (r : Nat) (f : Nat → Nat) : Hp := (fun q => if q = r then f else h.1 q, h.2)
def up (f : Nat → Nat) (o v : Nat) : Nat → Nat := fun j => if j = o then v else f j
def sL (h : Hp) (i : Nat) (v : Int64) : Hp := (h.1, fun q => if q = i then v else h.2 q)
theorem up_s (f : Nat → Nat) (o v : Nat) : up f o v o = v := if_pos rfl
theorem up_n {f : Nat → Nat} {o v j : Nat} (h : j ≠ o) : up f o v j = f j := if_neg h
def wd (V : Vt) (h : Hp) : va_W := (List.range 85).map (fun k => (V.2.2.2.1 k, cl V h.2 k (h.1 (rw k))))
theorem wd_at (V : Vt) (h : Hp) {k : Nat} (hk : k < 85) : (wd V h)[k]? = some (V.2.2.2.1 k, cl V h.2 k (h.1 (rw k))) := by
  unfold wd
  rw [List.getElem?_map, List.getElem?_range hk]
  rfl
theorem wd_out (V : Vt) (h : Hp) {k : Nat} (hk : 85 ≤ k) : (wd V h)[k]? = none := by
  unfold wd
  rw [List.getElem?_map, List.getElem?_eq_none (by rw [List.length_range]; exact hk)]
  rfl
theorem wd_len (V : Vt) (h : Hp) : (wd V h).length = 85 := by unfold wd; rw [List.length_map, List.length_range]
theorem wd_eq (V : Vt) {h h' : Hp} (he : ∀ k, k < 85 → cl V h.2 k (h.1 (rw k)) = cl V h'.2 k (h'.1 (rw k))) : wd V h = wd V h' := by
  refine List.ext_getElem? fun i => ?_
  by_cases hi : i < 85
  · rw [wd_at V h hi, wd_at V h' hi, he i hi]
  · rw [wd_out V h (by omega), wd_out V h' (by omega)]
theorem wd_set (V : Vt) {h h' : Hp} {k : Nat} (hk : k < 85) {e : va_E} (h1 : cl V h'.2 k (h'.1 (rw k)) = e) (h2 : ∀ i, i < 85 → i ≠ k → cl V h'.2 i (h'.1 (rw i)) = cl V h.2 i (h.1 (rw i))) : (wd V h).set k (V.2.2.2.1 k, e) = wd V h' := by
  refine List.ext_getElem? fun i => ?_
  by_cases hik : i = k
  · subst hik
    rw [List.getElem?_set_self (by rw [wd_len]; exact hk), wd_at V h' hk, h1]
  · rw [List.getElem?_set_ne (fun q => hik q.symm)]
    by_cases hi : i < 85
    · rw [wd_at V h hi, wd_at V h' hi, h2 i hi hik]
    · rw [wd_out V h (by omega), wd_out V h' (by omega)]
/-- one number of one cell -/
theorem wd_put (V : Vt) (h : Hp) {k off n : Nat} (hk : k < 85) (ho : ow (rw k) off = k) {e : va_E} (he : cl V h.2 k (up (h.1 (rw k)) off n) = e) : (wd V h).set k (V.2.2.2.1 k, e) = wd V (sR h (rw k) (up (h.1 (rw k)) off n)) := by
  refine wd_set V hk ?_ ?_
  · show cl V h.2 k (if rw k = rw k then _ else _) = e
    rw [if_pos rfl]
    exact he
  · intro i hi hik
    show cl V h.2 i (if rw i = rw k then _ else _) = _
    by_cases hr : rw i = rw k
    · rw [if_pos hr, hr]
      refine cl_dep V h.2 fun o hoo => up_n ?_
      intro q
      subst q
      rw [hr, ho] at hoo
      exact hik hoo.symm
    · rw [if_neg hr]
/-- the locals by their places -/
def asl : Nat → List (Option Value) → List (Nat × Value)
  | _, [] => []
  | i, none :: t => asl (i + 1) t
  | i, some v :: t => (i, v) :: asl (i + 1) t
theorem asl_mem : ∀ (lv : List (Option Value)) (k i : Nat) (v : Value), (i, v) ∈ asl k lv ↔ ∃ j, i = k + j ∧ lv[j]? = some (some v)
  | [], k, i, v => by simp [asl]
  | none :: t, k, i, v => by
    show (i, v) ∈ asl (k + 1) t ↔ _
    rw [asl_mem t (k + 1) i v]
    constructor
    · rintro ⟨j, rfl, hj⟩
      exact ⟨j + 1, by omega, by rw [List.getElem?_cons_succ]; exact hj⟩
    · rintro ⟨j, rfl, hj⟩
      cases j with
      | zero => simp at hj
      | succ j => exact ⟨j, by omega, by rw [List.getElem?_cons_succ] at hj; exact hj⟩
  | some w :: t, k, i, v => by
    show (i, v) ∈ (k, w) :: asl (k + 1) t ↔ _
    rw [List.mem_cons, asl_mem t (k + 1) i v]
    constructor
    · rintro (hq | ⟨j, rfl, hj⟩)
      · obtain ⟨rfl, rfl⟩ := Prod.mk.inj hq
        exact ⟨0, rfl, rfl⟩
      · exact ⟨j + 1, by omega, by rw [List.getElem?_cons_succ]; exact hj⟩
    · rintro ⟨j, rfl, hj⟩
      cases j with
      | zero =>
        left
        rw [List.getElem?_cons_zero] at hj
        cases hj
        rfl
      | succ j => exact Or.inr ⟨j, by omega, by rw [List.getElem?_cons_succ] at hj; exact hj⟩
theorem asl_at {ls : Array Slot} {nL : Nat} {lv : List (Option Value)} (h : lv_has ls nL (asl 0 lv)) {i : Nat} {v : Value} (hv : lv[i]? = some (some v)) : ls[i]? = some (.val v) := h.2.2 (i, v) ((asl_mem lv 0 i v).mpr ⟨i, by omega, hv⟩)
def catOK : Option Value → Bool
  | none => true
  | some v => v.category == 1
theorem asl_st {ls : Array Slot} {nL : Nat} {lv lv' : List (Option Value)} {i : Nat} {v : Value} (h : lv_has ls nL ((i, v) :: (asl 0 lv).filter (fun q => !(q.1 == i) && !(q.1 + 1 == i && q.2.category == 2)))) (he : lv.set i (some v) = lv') (hi : i < lv.length) (hc : ∀ j w, j + 1 = i → lv[j]? = some (some w) → w.category ≠ 2) : lv_has ls nL (asl 0 lv') := by
  refine ⟨h.1, h.2.1, fun q hq => h.2.2 q ?_⟩
  obtain ⟨a, w⟩ := q
  obtain ⟨j, rfl, hj⟩ := (asl_mem lv' 0 a w).mp hq
  subst he
  rw [Nat.zero_add]
  by_cases hji : j = i
  · subst hji
    rw [List.getElem?_set_self hi] at hj
    cases hj
    exact List.mem_cons_self
  · rw [List.getElem?_set_ne (fun q => hji q.symm)] at hj
    refine List.mem_cons_of_mem _ (List.mem_filter.mpr ⟨(asl_mem lv 0 j w).mpr ⟨j, by omega, hj⟩, ?_⟩)
    have h1 : (j == i) = false := by simpa using hji
    have h2 : (j + 1 == i && w.category == 2) = false := by
      by_cases hq2 : j + 1 = i
      · have := hc j w hq2 hj
        simp [this]
      · simp [hq2]
    simp [h1, h2]
theorem asl_sub {ls : Array Slot} {nL : Nat} {lv lv' : List (Option Value)} (h : lv_has ls nL (asl 0 lv)) (hs : ∀ (i : Nat) (v : Value), lv'[i]? = some (some v) → lv[i]? = some (some v)) : lv_has ls nL (asl 0 lv') := by
  refine ⟨h.1, h.2.1, fun q hq => h.2.2 q ?_⟩
  obtain ⟨a, w⟩ := q
  obtain ⟨j, rfl, hj⟩ := (asl_mem lv' 0 a w).mp hq
  exact (asl_mem lv 0 _ w).mpr ⟨j, rfl, hs j w hj⟩
/-! the judgement of a walk: from here on, at this place of this method, with these locals, this stack and these numbers, the method returns as 'post' says -/
def Kx (V : Vt) (s : State) : Prop := va_K V.2.1 vwCl [(V.2.2.1.1, .int), (V.2.2.1.2.1, .boolean), (V.2.2.1.2.2, .object RX7)] s
def Cx (V : Vt) (E : State → Prop) (d : Nat) (own : String) (cc : ByteArray) (nL : Nat) (rt : Option FieldType) (p : Program) (s : State) (m : MethodId) (args : Array Value) (meth : Method) (c : Code) (R : Room) : Prop :=
  p.tables.exec = Jvm.exec ∧ c.code = cc ∧ c.maxLocals = nL ∧ s.vm.findClass own = some m.cls ∧ (∀ w ∈ lw_g, w.before args s = true) ∧ meth.sig.returnType = rt ∧ meth.locks = false ∧ Kx V s ∧ (∀ h, va_D V.2.2.2.2 (wd V h)) ∧ d ≤ R.frames ∧ 60 * d ≤ R.locals ∧ E s
def Rx (V : Vt) (cc : ByteArray) (rt : Option FieldType) (post : Option Value → Hp → Prop) (p : Program) (e : Env) (R : Room) (s : State) (m : MethodId) (args : Array Value) (below : List Frame) (meth : Method) (c : Code) (cells slots : Nat) (Q : State → Prop) : Prop :=
  (∀ (pc : Nat) (ls : Array Slot) (x : Int32) (h : Hp) (H : Heap) (locs : List Loc) (ty : FieldType), decode cc pc = .ok (.ireturn, 1) → rt = some ty → narrow ty (.int x) = .int x → post (some (.int x)) h → va_P V.2.1 vwCl (wd V h) H → va_S V.2.2.2.2 s.heap H locs → W p V.1 e R s m args below meth c H locs cells slots Q (F0 m pc ls [.int x])) ∧
  (∀ (pc : Nat) (ls : Array Slot) (x : Int64) (h : Hp) (H : Heap) (locs : List Loc), decode cc pc = .ok (.lreturn, 1) → rt = some .long → post (some (.long x)) h → va_P V.2.1 vwCl (wd V h) H → va_S V.2.2.2.2 s.heap H locs → W p V.1 e R s m args below meth c H locs cells slots Q (F0 m pc ls [.long x])) ∧
  (∀ (pc : Nat) (ls : Array Slot) (h : Hp) (H : Heap) (locs : List Loc), decode cc pc = .ok (.return_, 1) → rt = none → post none h → va_P V.2.1 vwCl (wd V h) H → va_S V.2.2.2.2 s.heap H locs → W p V.1 e R s m args below meth c H locs cells slots Q (F0 m pc ls []))
def G (V : Vt) (E : State → Prop) (d : Nat) (own : String) (cc : ByteArray) (nL : Nat) (rt : Option FieldType) (pc : Nat) (lv : List (Option Value)) (st : List Value) (h : Hp) (post : Option Value → Hp → Prop) : Prop :=
  ∀ (p : Program) (e : Env) (s : State) (m : MethodId) (args : Array Value) (below : List Frame) (meth : Method) (c : Code) (R : Room) (H : Heap) (locs : List Loc) (ls : Array Slot) (cells slots : Nat) (Q : State → Prop),
    Cx V E d own cc nL rt p s m args meth c R → Rx V cc rt post p e R s m args below meth c cells slots Q → va_P V.2.1 vwCl (wd V h) H → va_S V.2.2.2.2 s.heap H locs → lv_has ls nL (asl 0 lv) → (cells ≤ R.cells ∧ slots ≤ R.slots) → W p V.1 e R s m args below meth c H locs cells slots Q (F0 m pc ls st)
def T0 : State → Prop := fun _ => True
/-- a method's contract, from these numbers -/
def rm (d : Nat) : Room := { frames := d, cells := 0, slots := 0, locals := 60 * d }
def Qp (V : Vt) (post : Option Value → Hp → Prop) : Array Value → State → Outcome → State → Prop := fun _ st o t => (∃ (v : Option Value) (h' : Hp), o = .returned v ∧ post v h' ∧ va_P V.2.1 vwCl (wd V h') t.heap) ∧ va_F V.2.2.2.2 st t
def Pp (V : Vt) (av : List Value) (h : Hp) : Array Value → State → Prop := va_Pc av (fun U => (∀ h, va_D V.2.2.2.2 (wd V h)) ∧ va_P V.2.1 vwCl (wd V h) U.heap ∧ Kx V U)
def Mt (V : Vt) (d : Nat) (y : MethodName) (cc : ByteArray) (nL : Nat) (rt : Option FieldType) (av : List Value) (h : Hp) (post : Option Value → Hp → Prop) : Prop :=
  Met V.1 y (.code y cc nL rt :: lw_g) (rm d) (Pp V av h) (Qp V post) 0 0 V.2.2.2.2
theorem Pp_blind (V : Vt) (av : List Value) (h : Hp) : FrameBlind (Pp V av h) := fun a U g mk q => by
  obtain ⟨q0, qD, qP, qK⟩ := q
  exact ⟨q0, qD, qP, va_K.moved (u := U) (U := U.calling g mk a) (Vm.Alike.refl U.vm) qK⟩
def Rti (V : Vt) (d : Nat) (y : MethodName) (cc : ByteArray) (nL : Nat) (rt : Option FieldType) (av : List Value) (h : Hp) (x : Int32) (h' : Hp) : Prop := Mt V d y cc nL rt av h (fun v g => v = some (.int x) ∧ g = h')
def Rtl (V : Vt) (d : Nat) (y : MethodName) (cc : ByteArray) (nL : Nat) (rt : Option FieldType) (av : List Value) (h : Hp) (x : Int64) (h' : Hp) : Prop := Mt V d y cc nL rt av h (fun v g => v = some (.long x) ∧ g = h')
def Rtv (V : Vt) (d : Nat) (y : MethodName) (cc : ByteArray) (nL : Nat) (rt : Option FieldType) (av : List Value) (h : Hp) (h' : Hp) : Prop := Mt V d y cc nL rt av h (fun v g => v = none ∧ g = h')
theorem lw_code {y : MethodName} {cc : ByteArray} {nL : Nat} {rt : Option FieldType} (hc : Cond.code y cc nL rt ∈ lw_tbl) : GoodIn lw_g (.code y cc nL rt :: lw_g) := by
  intro w hw
  have hm : w ∈ lw_g := by
    rcases List.mem_cons.mp hw with rfl | h
    · exact lgm hc rfl
    · exact h
  exact ⟨hm, good_of_word (List.mem_filter.mp hm).2⟩
/-- a contract out of its walk -/
theorem Mt_of {V : Vt} {d : Nat} {y : MethodName} {cc : ByteArray} {nL : Nat} {rt : Option FieldType} {av : List Value} {h : Hp} {post : Option Value → Hp → Prop} (lv : List (Option Value)) (hy : plainName y.cls = true) (hlen : (lg_sl av).length ≤ nL) (hlv : ∀ q ∈ asl 0 lv, q ∈ lv_args 0 av)
    (k : G V T0 d y.cls cc nL rt 0 lv [] h post) : Mt V d y cc nL rt av h post := by
  refine Met.ofW (cc := cc) (maxL := nL) (ret := rt) hy rfl ?_
  intro p e s m args below meth c s₁ B hml hv
  obtain ⟨rfl, hD, hP, hK⟩ := hv
  have hts0 := atoms_spec (ws := .code y cc nL rt :: lw_g) B.pre
  have hown : s.vm.findClass y.cls = some m.cls := findClass_of_methodNamed B.named
  have hlocks := B.notSynchronized
  have hl := lv_entry av (n := nL) hlen
  rw [lg_entry_eq]
  generalize (lg_sl av ++ List.replicate (nL - (lg_sl av).length) Slot.unset).toArray = ls at hl ⊢
  refine k p e s m av.toArray below meth c (rm d) s.heap [] ls 0 0 _ ⟨B.exec, B.bytes, hml, hown, fun w hw => hts0 w (List.mem_cons_of_mem _ hw), B.returns, hlocks, hK, hD, Nat.le_refl _, Nat.le_refl _, trivial⟩ ⟨?_, ?_, ?_⟩ hP va_S.rf ⟨hl.1, hl.2.1, fun q hq => hl.2.2 q (hlv q hq)⟩ ⟨Nat.zero_le _, Nat.zero_le _⟩
  · intro pc ls x h' H locs ty hd hrt hn hp hP' hS
    exact W.zret (ty := ty) B.exec B.bytes (B.returns.trans hrt) hn (fun t ht hW => ⟨⟨_, h', rfl, hp, by rw [ht]; exact hP'⟩, hS.F ht⟩) hS.2.2 hd hlocks
  · intro pc ls x h' H locs hd hrt hp hP' hS
    exact W.lret B.exec B.bytes (B.returns.trans hrt) (fun t ht hW => ⟨⟨_, h', rfl, hp, by rw [ht]; exact hP'⟩, hS.F ht⟩) hS.2.2 hd hlocks
  · intro pc ls h' H locs hd hrt hp hP' hS
    exact W.vret B.exec B.bytes (B.returns.trans hrt) (fun t ht hW => ⟨⟨_, h', rfl, hp, by rw [ht]; exact hP'⟩, hS.F ht⟩) hS.2.2 hd hlocks
