theorem bnar {v : Nat} (hv : v < 2) : nI v = vp_nar .boolean (nI v) := by
  rcases (show v = 0 ∨ v = 1 by omega) with rfl | rfl <;> rfl
theorem cl_z0 (V : Vt) {h : Hp} {x : Int64} {i : Nat} (hi : i ≠ 0) : cl V (sL h 0 x).2 i ((sL h 0 x).1 (rw i)) = cl V h.2 i (h.1 (rw i)) := by
  show cl V (fun q => if q = 0 then x else h.2 q) i (h.1 (rw i)) = _
  unfold cl
  split
  · unfold c0
    split <;> first | rfl | exact absurd rfl hi
  · rfl
theorem cl_z1 (V : Vt) {h : Hp} {x : Int64} {i : Nat} (hi : i ≠ 22) : cl V (sL h 1 x).2 i ((sL h 1 x).1 (rw i)) = cl V h.2 i (h.1 (rw i)) := by
  show cl V (fun q => if q = 1 then x else h.2 q) i (h.1 (rw i)) = _
  unfold cl
  split
  · unfold c0
    split <;> first | rfl | exact absurd rfl hi
  · rfl
section Fields
variable {V : Vt} {E : State → Prop} {d : Nat} {own : String} {cc : ByteArray} {nL : Nat} {rt : Option FieldType} {pc : Nat} {lv : List (Option Value)} {st : List Value} {h : Hp} {post : Option Value → Hp → Prop}
theorem g_get {k ci j idx N : Nat} {fs : List Value} {v : Value} {C : String} {T : u_T} (pc' : Nat) (hp : pc + 3 = pc') (hk : k < 85) (hc0 : cl V h.2 k (h.1 (rw k)) = .inr (ci, fs)) (hcl : vwCl[ci]? = some (C, T, N)) (hin : ∀ w ∈ u_ws C T N, w ∈ lw_tbl) (hj : j < N) (hlink : Cond.fieldLink own idx (T j).1 (T j).2.1 (T j).2.2.1 ∈ lw_tbl) (hv : fs[j]? = some v) (hd : decode cc pc = .ok (.getfield idx, 3)) (kk : G V E d own cc nL rt pc' lv (v :: st) h post) : G V E d own cc nL rt pc lv (rf V k :: st) h post := by
  subst hp
  intro p e s m args below meth c R H locs ls cells slots Q C X hP hS hl hc
  have he := wd_at V h hk
  rw [hc0] at he
  exact va_get (D := V.2.1) (cl := vwCl) C.1 C.2.1 C.2.2.2.2.1 (lg_lays hin) C.2.2.2.1 C.2.2.2.2.2.2.2.1 hP k he hcl j hj (C.2.2.2.2.1 _ (lgm hlink rfl)) (fun _ h9 => h9) hv hd (kk p e s m args below meth c R H locs ls cells slots Q C X hP hS hl hc)
theorem g_put {k ci j idx N off n : Nat} {fs : List Value} {C : String} {T : u_T} {ty0 : Nat → FieldType} (pc' : Nat) (hp : pc + 3 = pc') (hk : k < 85) (hc0 : cl V h.2 k (h.1 (rw k)) = .inr (ci, fs)) (hcl : vwCl[ci]? = some (C, T, N)) (hin : ∀ w ∈ u_ws C T N, w ∈ lw_tbl) (hty : ∀ k, k < N → parseFieldDescriptor (T k).2.2.1 = some (ty0 k)) (hnm : ∀ a, a < N → ∀ b, b < N → a ≠ b → (T a).2.1 ≠ (T b).2.1) (hj : j < N) (hfin : (T j).2.2.2 = false) (hde : parseFieldDescriptor (T j).2.2.1 = some .int) (hlen : j < fs.length) (ho : ow (rw k) off = k) (he : cl V h.2 k (up (h.1 (rw k)) off n) = .inr (ci, fs.set j (.int (nI n)))) (hlink : Cond.fieldLink own idx (T j).1 (T j).2.1 (T j).2.2.1 ∈ lw_tbl) (hd : decode cc pc = .ok (.putfield idx, 3)) (kk : G V E d own cc nL rt pc' lv (st) (sR h (rw k) (up (h.1 (rw k)) off n)) post) : G V E d own cc nL rt pc lv (.int (nI n) :: rf V k :: st) h post := by
  subst hp
  intro p e s m args below meth c R H locs ls cells slots Q C X hP hS hl hc
  have he0 := wd_at V h hk
  rw [hc0] at he0
  refine va_put (D := V.2.1) (cl := vwCl) (ty := .int) C.1 C.2.1 C.2.2.2.2.1 (lg_lays hin) ty0 hty hnm C.2.2.2.1 C.2.2.2.2.2.2.2.1 hP (C.2.2.2.2.2.2.2.2.1 h) hS k he0 hcl j hj (C.2.2.2.2.1 _ (lgm hlink rfl)) (fun _ h9 => h9) hfin hde rfl rfl hlen hd (fun H1 locs1 hP1 hD1 hS1 => ?_)
  rw [wd_put V h hk ho he] at hP1
  exact kk p e s m args below meth c R H1 locs1 ls cells slots Q C X hP1 hS1 hl hc
theorem g_putl {k ci j idx N i : Nat} {x : Int64} {fs : List Value} {C : String} {T : u_T} {ty0 : Nat → FieldType} (pc' : Nat) (hp : pc + 3 = pc') (hk : k < 85) (hc0 : cl V h.2 k (h.1 (rw k)) = .inr (ci, fs)) (hcl : vwCl[ci]? = some (C, T, N)) (hin : ∀ w ∈ u_ws C T N, w ∈ lw_tbl) (hty : ∀ k, k < N → parseFieldDescriptor (T k).2.2.1 = some (ty0 k)) (hnm : ∀ a, a < N → ∀ b, b < N → a ≠ b → (T a).2.1 ≠ (T b).2.1) (hj : j < N) (hfin : (T j).2.2.2 = false) (hde : parseFieldDescriptor (T j).2.2.1 = some .long) (hlen : j < fs.length) (he : (wd V h).set k (V.2.2.2.1 k, .inr (ci, fs.set j (.long x))) = wd V (sL h i x)) (hlink : Cond.fieldLink own idx (T j).1 (T j).2.1 (T j).2.2.1 ∈ lw_tbl) (hd : decode cc pc = .ok (.putfield idx, 3)) (kk : G V E d own cc nL rt pc' lv (st) (sL h i x) post) : G V E d own cc nL rt pc lv (.long x :: rf V k :: st) h post := by
  subst hp
  intro p e s m args below meth c R H locs ls cells slots Q C X hP hS hl hc
  have he0 := wd_at V h hk
  rw [hc0] at he0
  refine va_put (D := V.2.1) (cl := vwCl) (ty := .long) C.1 C.2.1 C.2.2.2.2.1 (lg_lays hin) ty0 hty hnm C.2.2.2.1 C.2.2.2.2.2.2.2.1 hP (C.2.2.2.2.2.2.2.2.1 h) hS k he0 hcl j hj (C.2.2.2.2.1 _ (lgm hlink rfl)) (fun _ h9 => h9) hfin hde rfl rfl hlen hd (fun H1 locs1 hP1 hD1 hS1 => ?_)
  rw [he] at hP1
  exact kk p e s m args below meth c R H1 locs1 ls cells slots Q C X hP1 hS1 hl hc
theorem gf_MT_script {idx : Nat} (pc' : Nat) (hp : pc + 3 = pc') (hl : Cond.fieldLink own idx "MustardTreaty" "script" "LMustardTreaty$Script;" ∈ lw_tbl) (hd : decode cc pc = .ok (.getfield idx, 3)) (kk : G V E d own cc nL rt pc' lv (rf V 1 :: st) h post) : G V E d own cc nL rt pc lv (rf V 0 :: st) h post := g_get (k := 0) (ci := 8) (j := 0) (T := TX8) (C := RX8) (N := 10) pc' hp (by decide) rfl rfl inX8 (by decide) hl rfl hd kk
theorem gf_MT_rules {idx : Nat} (pc' : Nat) (hp : pc + 3 = pc') (hl : Cond.fieldLink own idx "MustardTreaty" "rules" "LMustardTreaty$Rules;" ∈ lw_tbl) (hd : decode cc pc = .ok (.getfield idx, 3)) (kk : G V E d own cc nL rt pc' lv (rf V 3 :: st) h post) : G V E d own cc nL rt pc lv (rf V 0 :: st) h post := g_get (k := 0) (ci := 8) (j := 1) (T := TX8) (C := RX8) (N := 10) pc' hp (by decide) rfl rfl inX8 (by decide) hl rfl hd kk
theorem gf_MT_table {idx : Nat} (pc' : Nat) (hp : pc + 3 = pc') (hl : Cond.fieldLink own idx "MustardTreaty" "table" "LMustardTreaty$Table;" ∈ lw_tbl) (hd : decode cc pc = .ok (.getfield idx, 3)) (kk : G V E d own cc nL rt pc' lv (rf V (tb 0) :: st) h post) : G V E d own cc nL rt pc lv (rf V 0 :: st) h post := g_get (k := 0) (ci := 8) (j := 2) (T := TX8) (C := RX8) (N := 10) pc' hp (by decide) rfl rfl inX8 (by decide) hl rfl hd kk
theorem gf_MT_trial {idx : Nat} (pc' : Nat) (hp : pc + 3 = pc') (hl : Cond.fieldLink own idx "MustardTreaty" "trial" "LMustardTreaty$Table;" ∈ lw_tbl) (hd : decode cc pc = .ok (.getfield idx, 3)) (kk : G V E d own cc nL rt pc' lv (rf V (tb 1) :: st) h post) : G V E d own cc nL rt pc lv (rf V 0 :: st) h post := g_get (k := 0) (ci := 8) (j := 3) (T := TX8) (C := RX8) (N := 10) pc' hp (by decide) rfl rfl inX8 (by decide) hl rfl hd kk
theorem gf_MT_acts {idx : Nat} (pc' : Nat) (hp : pc + 3 = pc') (hl : Cond.fieldLink own idx "MustardTreaty" "acts" "LMustardTreaty$Acts;" ∈ lw_tbl) (hd : decode cc pc = .ok (.getfield idx, 3)) (kk : G V E d own cc nL rt pc' lv (rf V 10 :: st) h post) : G V E d own cc nL rt pc lv (rf V 0 :: st) h post := g_get (k := 0) (ci := 8) (j := 4) (T := TX8) (C := RX8) (N := 10) pc' hp (by decide) rfl rfl inX8 (by decide) hl rfl hd kk
theorem gf_MT_slots {idx : Nat} (pc' : Nat) (hp : pc + 3 = pc') (hl : Cond.fieldLink own idx "MustardTreaty" "slots" "LMustardTreaty$Slots;" ∈ lw_tbl) (hd : decode cc pc = .ok (.getfield idx, 3)) (kk : G V E d own cc nL rt pc' lv (rf V 12 :: st) h post) : G V E d own cc nL rt pc lv (rf V 0 :: st) h post := g_get (k := 0) (ci := 8) (j := 5) (T := TX8) (C := RX8) (N := 10) pc' hp (by decide) rfl rfl inX8 (by decide) hl rfl hd kk
theorem gf_MT_sights {idx : Nat} (pc' : Nat) (hp : pc + 3 = pc') (hl : Cond.fieldLink own idx "MustardTreaty" "sights" "LMustardTreaty$Sights;" ∈ lw_tbl) (hd : decode cc pc = .ok (.getfield idx, 3)) (kk : G V E d own cc nL rt pc' lv (rf V 15 :: st) h post) : G V E d own cc nL rt pc lv (rf V 0 :: st) h post := g_get (k := 0) (ci := 8) (j := 6) (T := TX8) (C := RX8) (N := 10) pc' hp (by decide) rfl rfl inX8 (by decide) hl rfl hd kk
theorem gf_MT_search {idx : Nat} (pc' : Nat) (hp : pc + 3 = pc') (hl : Cond.fieldLink own idx "MustardTreaty" "search" "LMustardTreaty$Search;" ∈ lw_tbl) (hd : decode cc pc = .ok (.getfield idx, 3)) (kk : G V E d own cc nL rt pc' lv (rf V 19 :: st) h post) : G V E d own cc nL rt pc lv (rf V 0 :: st) h post := g_get (k := 0) (ci := 8) (j := 7) (T := TX8) (C := RX8) (N := 10) pc' hp (by decide) rfl rfl inX8 (by decide) hl rfl hd kk
theorem gf_MT_stops {idx : Nat} (pc' : Nat) (hp : pc + 3 = pc') (hl : Cond.fieldLink own idx "MustardTreaty" "stops" "LMustardTreaty$Stops;" ∈ lw_tbl) (hd : decode cc pc = .ok (.getfield idx, 3)) (kk : G V E d own cc nL rt pc' lv (rf V 21 :: st) h post) : G V E d own cc nL rt pc lv (rf V 0 :: st) h post := g_get (k := 0) (ci := 8) (j := 8) (T := TX8) (C := RX8) (N := 10) pc' hp (by decide) rfl rfl inX8 (by decide) hl rfl hd kk
theorem gf_MT_chanceSeed {idx : Nat} (pc' : Nat) (hp : pc + 3 = pc') (hl : Cond.fieldLink own idx "MustardTreaty" "chanceSeed" "J" ∈ lw_tbl) (hd : decode cc pc = .ok (.getfield idx, 3)) (kk : G V E d own cc nL rt pc' lv (.long (h.2 0) :: st) h post) : G V E d own cc nL rt pc lv (rf V 0 :: st) h post := g_get (k := 0) (ci := 8) (j := 9) (T := TX8) (C := RX8) (N := 10) pc' hp (by decide) rfl rfl inX8 (by decide) hl rfl hd kk
theorem wd_sL0 (V : Vt) (h : Hp) (x : Int64) : (wd V h).set 0 (V.2.2.2.1 0, .inr (8, [rf V 1, rf V 3, rf V (tb 0), rf V (tb 1), rf V 10, rf V 12, rf V 15, rf V 19, rf V 21, .long x])) = wd V (sL h 0 x) := by
  refine wd_set V (by decide) rfl ?_
  intro i hi hik
  exact cl_z0 V hik
theorem gp_MT_chanceSeed {idx : Nat} {x : Int64} (pc' : Nat) (hp : pc + 3 = pc') (hl : Cond.fieldLink own idx "MustardTreaty" "chanceSeed" "J" ∈ lw_tbl) (hd : decode cc pc = .ok (.putfield idx, 3)) (kk : G V E d own cc nL rt pc' lv (st) (sL h 0 x) post) : G V E d own cc nL rt pc lv (.long x :: rf V 0 :: st) h post := g_putl (k := 0) (ci := 8) (j := 9) (i := 0) (T := TX8) (C := RX8) (N := 10) (ty0 := tyX8) pc' hp (by decide) rfl rfl inX8 tyX8_ok nmX8 (by decide) rfl (by decide +kernel) (Nat.le_of_ble_eq_true rfl) (wd_sL0 V h x) hl hd kk
theorem gf_Script_bytes {idx : Nat} (pc' : Nat) (hp : pc + 3 = pc') (hl : Cond.fieldLink own idx "MustardTreaty$Script" "bytes" "[I" ∈ lw_tbl) (hd : decode cc pc = .ok (.getfield idx, 3)) (kk : G V E d own cc nL rt pc' lv (rf V 2 :: st) h post) : G V E d own cc nL rt pc lv (rf V 1 :: st) h post := g_get (k := 1) (ci := 2) (j := 0) (T := TX2) (C := RX2) (N := 2) pc' hp (by decide) rfl rfl inX2 (by decide) hl rfl hd kk
theorem gf_Script_length {idx : Nat} (pc' : Nat) (hp : pc + 3 = pc') (hl : Cond.fieldLink own idx "MustardTreaty$Script" "length" "I" ∈ lw_tbl) (hd : decode cc pc = .ok (.getfield idx, 3)) (kk : G V E d own cc nL rt pc' lv (.int (nI (h.1 1 0)) :: st) h post) : G V E d own cc nL rt pc lv (rf V 1 :: st) h post := g_get (k := 1) (ci := 2) (j := 1) (T := TX2) (C := RX2) (N := 2) pc' hp (by decide) rfl rfl inX2 (by decide) hl rfl hd kk
theorem gp_Script_length {idx n : Nat} (pc' : Nat) (hp : pc + 3 = pc') (hl : Cond.fieldLink own idx "MustardTreaty$Script" "length" "I" ∈ lw_tbl) (hd : decode cc pc = .ok (.putfield idx, 3)) (kk : G V E d own cc nL rt pc' lv (st) (sR h 1 (up (h.1 1) 0 n)) post) : G V E d own cc nL rt pc lv (.int (nI n) :: rf V 1 :: st) h post := g_put (k := 1) (ci := 2) (j := 1) (off := 0) (T := TX2) (C := RX2) (N := 2) (ty0 := tyX2) pc' hp (by decide) rfl rfl inX2 tyX2_ok nmX2 (by decide) rfl (by decide +kernel) (Nat.le_of_ble_eq_true rfl) rfl rfl hl hd kk
theorem gf_Rules_heatAtFirst {idx : Nat} (pc' : Nat) (hp : pc + 3 = pc') (hl : Cond.fieldLink own idx "MustardTreaty$Rules" "heatAtFirst" "I" ∈ lw_tbl) (hd : decode cc pc = .ok (.getfield idx, 3)) (kk : G V E d own cc nL rt pc' lv (.int (nI (h.1 3 0)) :: st) h post) : G V E d own cc nL rt pc lv (rf V 3 :: st) h post := g_get (k := 3) (ci := 1) (j := 0) (T := TX1) (C := RX1) (N := 10) pc' hp (by decide) rfl rfl inX1 (by decide) hl rfl hd kk
theorem gp_Rules_heatAtFirst {idx n : Nat} (pc' : Nat) (hp : pc + 3 = pc') (hl : Cond.fieldLink own idx "MustardTreaty$Rules" "heatAtFirst" "I" ∈ lw_tbl) (hd : decode cc pc = .ok (.putfield idx, 3)) (kk : G V E d own cc nL rt pc' lv (st) (sR h 3 (up (h.1 3) 0 n)) post) : G V E d own cc nL rt pc lv (.int (nI n) :: rf V 3 :: st) h post := g_put (k := 3) (ci := 1) (j := 0) (off := 0) (T := TX1) (C := RX1) (N := 10) (ty0 := tyX1) pc' hp (by decide) rfl rfl inX1 tyX1_ok nmX1 (by decide) rfl (by decide +kernel) (Nat.le_of_ble_eq_true rfl) rfl rfl hl hd kk
theorem gf_Rules_storeAtFirst {idx : Nat} (pc' : Nat) (hp : pc + 3 = pc') (hl : Cond.fieldLink own idx "MustardTreaty$Rules" "storeAtFirst" "I" ∈ lw_tbl) (hd : decode cc pc = .ok (.getfield idx, 3)) (kk : G V E d own cc nL rt pc' lv (.int (nI (h.1 3 1)) :: st) h post) : G V E d own cc nL rt pc lv (rf V 3 :: st) h post := g_get (k := 3) (ci := 1) (j := 1) (T := TX1) (C := RX1) (N := 10) pc' hp (by decide) rfl rfl inX1 (by decide) hl rfl hd kk
theorem gp_Rules_storeAtFirst {idx n : Nat} (pc' : Nat) (hp : pc + 3 = pc') (hl : Cond.fieldLink own idx "MustardTreaty$Rules" "storeAtFirst" "I" ∈ lw_tbl) (hd : decode cc pc = .ok (.putfield idx, 3)) (kk : G V E d own cc nL rt pc' lv (st) (sR h 3 (up (h.1 3) 1 n)) post) : G V E d own cc nL rt pc lv (.int (nI n) :: rf V 3 :: st) h post := g_put (k := 3) (ci := 1) (j := 1) (off := 1) (T := TX1) (C := RX1) (N := 10) (ty0 := tyX1) pc' hp (by decide) rfl rfl inX1 tyX1_ok nmX1 (by decide) rfl (by decide +kernel) (Nat.le_of_ble_eq_true rfl) rfl rfl hl hd kk
theorem gf_Rules_envoys {idx : Nat} (pc' : Nat) (hp : pc + 3 = pc') (hl : Cond.fieldLink own idx "MustardTreaty$Rules" "envoys" "I" ∈ lw_tbl) (hd : decode cc pc = .ok (.getfield idx, 3)) (kk : G V E d own cc nL rt pc' lv (.int (nI (h.1 3 2)) :: st) h post) : G V E d own cc nL rt pc lv (rf V 3 :: st) h post := g_get (k := 3) (ci := 1) (j := 2) (T := TX1) (C := RX1) (N := 10) pc' hp (by decide) rfl rfl inX1 (by decide) hl rfl hd kk
theorem gp_Rules_envoys {idx n : Nat} (pc' : Nat) (hp : pc + 3 = pc') (hl : Cond.fieldLink own idx "MustardTreaty$Rules" "envoys" "I" ∈ lw_tbl) (hd : decode cc pc = .ok (.putfield idx, 3)) (kk : G V E d own cc nL rt pc' lv (st) (sR h 3 (up (h.1 3) 2 n)) post) : G V E d own cc nL rt pc lv (.int (nI n) :: rf V 3 :: st) h post := g_put (k := 3) (ci := 1) (j := 2) (off := 2) (T := TX1) (C := RX1) (N := 10) (ty0 := tyX1) pc' hp (by decide) rfl rfl inX1 tyX1_ok nmX1 (by decide) rfl (by decide +kernel) (Nat.le_of_ble_eq_true rfl) rfl rfl hl hd kk
theorem gf_Rules_clauses {idx : Nat} (pc' : Nat) (hp : pc + 3 = pc') (hl : Cond.fieldLink own idx "MustardTreaty$Rules" "clauses" "I" ∈ lw_tbl) (hd : decode cc pc = .ok (.getfield idx, 3)) (kk : G V E d own cc nL rt pc' lv (.int (nI (h.1 3 3)) :: st) h post) : G V E d own cc nL rt pc lv (rf V 3 :: st) h post := g_get (k := 3) (ci := 1) (j := 3) (T := TX1) (C := RX1) (N := 10) pc' hp (by decide) rfl rfl inX1 (by decide) hl rfl hd kk
theorem gp_Rules_clauses {idx n : Nat} (pc' : Nat) (hp : pc + 3 = pc') (hl : Cond.fieldLink own idx "MustardTreaty$Rules" "clauses" "I" ∈ lw_tbl) (hd : decode cc pc = .ok (.putfield idx, 3)) (kk : G V E d own cc nL rt pc' lv (st) (sR h 3 (up (h.1 3) 3 n)) post) : G V E d own cc nL rt pc lv (.int (nI n) :: rf V 3 :: st) h post := g_put (k := 3) (ci := 1) (j := 3) (off := 3) (T := TX1) (C := RX1) (N := 10) (ty0 := tyX1) pc' hp (by decide) rfl rfl inX1 tyX1_ok nmX1 (by decide) rfl (by decide +kernel) (Nat.le_of_ble_eq_true rfl) rfl rfl hl hd kk
theorem gf_Rules_palate {idx : Nat} (pc' : Nat) (hp : pc + 3 = pc') (hl : Cond.fieldLink own idx "MustardTreaty$Rules" "palate" "[I" ∈ lw_tbl) (hd : decode cc pc = .ok (.getfield idx, 3)) (kk : G V E d own cc nL rt pc' lv (rf V 4 :: st) h post) : G V E d own cc nL rt pc lv (rf V 3 :: st) h post := g_get (k := 3) (ci := 1) (j := 4) (T := TX1) (C := RX1) (N := 10) pc' hp (by decide) rfl rfl inX1 (by decide) hl rfl hd kk
theorem gf_Rules_wits {idx : Nat} (pc' : Nat) (hp : pc + 3 = pc') (hl : Cond.fieldLink own idx "MustardTreaty$Rules" "wits" "[I" ∈ lw_tbl) (hd : decode cc pc = .ok (.getfield idx, 3)) (kk : G V E d own cc nL rt pc' lv (rf V 5 :: st) h post) : G V E d own cc nL rt pc lv (rf V 3 :: st) h post := g_get (k := 3) (ci := 1) (j := 5) (T := TX1) (C := RX1) (N := 10) pc' hp (by decide) rfl rfl inX1 (by decide) hl rfl hd kk
theorem gf_Rules_kind {idx : Nat} (pc' : Nat) (hp : pc + 3 = pc') (hl : Cond.fieldLink own idx "MustardTreaty$Rules" "kind" "[I" ∈ lw_tbl) (hd : decode cc pc = .ok (.getfield idx, 3)) (kk : G V E d own cc nL rt pc' lv (rf V 6 :: st) h post) : G V E d own cc nL rt pc lv (rf V 3 :: st) h post := g_get (k := 3) (ci := 1) (j := 6) (T := TX1) (C := RX1) (N := 10) pc' hp (by decide) rfl rfl inX1 (by decide) hl rfl hd kk
theorem gf_Rules_words {idx : Nat} (pc' : Nat) (hp : pc + 3 = pc') (hl : Cond.fieldLink own idx "MustardTreaty$Rules" "words" "[I" ∈ lw_tbl) (hd : decode cc pc = .ok (.getfield idx, 3)) (kk : G V E d own cc nL rt pc' lv (rf V 7 :: st) h post) : G V E d own cc nL rt pc lv (rf V 3 :: st) h post := g_get (k := 3) (ci := 1) (j := 7) (T := TX1) (C := RX1) (N := 10) pc' hp (by decide) rfl rfl inX1 (by decide) hl rfl hd kk
theorem gf_Rules_heatNeeded {idx : Nat} (pc' : Nat) (hp : pc + 3 = pc') (hl : Cond.fieldLink own idx "MustardTreaty$Rules" "heatNeeded" "[I" ∈ lw_tbl) (hd : decode cc pc = .ok (.getfield idx, 3)) (kk : G V E d own cc nL rt pc' lv (rf V 8 :: st) h post) : G V E d own cc nL rt pc lv (rf V 3 :: st) h post := g_get (k := 3) (ci := 1) (j := 8) (T := TX1) (C := RX1) (N := 10) pc' hp (by decide) rfl rfl inX1 (by decide) hl rfl hd kk
theorem gf_Rules_owner {idx : Nat} (pc' : Nat) (hp : pc + 3 = pc') (hl : Cond.fieldLink own idx "MustardTreaty$Rules" "owner" "[I" ∈ lw_tbl) (hd : decode cc pc = .ok (.getfield idx, 3)) (kk : G V E d own cc nL rt pc' lv (rf V 9 :: st) h post) : G V E d own cc nL rt pc lv (rf V 3 :: st) h post := g_get (k := 3) (ci := 1) (j := 9) (T := TX1) (C := RX1) (N := 10) pc' hp (by decide) rfl rfl inX1 (by decide) hl rfl hd kk
theorem gf_Acts_before {idx : Nat} (pc' : Nat) (hp : pc + 3 = pc') (hl : Cond.fieldLink own idx "MustardTreaty$Acts" "before" "[LMustardTreaty$Table;" ∈ lw_tbl) (hd : decode cc pc = .ok (.getfield idx, 3)) (kk : G V E d own cc nL rt pc' lv (rf V 11 :: st) h post) : G V E d own cc nL rt pc lv (rf V 10 :: st) h post := g_get (k := 10) (ci := 0) (j := 0) (T := TX0) (C := RX0) (N := 3) pc' hp (by decide) rfl rfl inX0 (by decide) hl rfl hd kk
theorem gf_Acts_oldest {idx : Nat} (pc' : Nat) (hp : pc + 3 = pc') (hl : Cond.fieldLink own idx "MustardTreaty$Acts" "oldest" "I" ∈ lw_tbl) (hd : decode cc pc = .ok (.getfield idx, 3)) (kk : G V E d own cc nL rt pc' lv (.int (nI (h.1 10 1)) :: st) h post) : G V E d own cc nL rt pc lv (rf V 10 :: st) h post := g_get (k := 10) (ci := 0) (j := 1) (T := TX0) (C := RX0) (N := 3) pc' hp (by decide) rfl rfl inX0 (by decide) hl rfl hd kk
theorem gp_Acts_oldest {idx n : Nat} (pc' : Nat) (hp : pc + 3 = pc') (hl : Cond.fieldLink own idx "MustardTreaty$Acts" "oldest" "I" ∈ lw_tbl) (hd : decode cc pc = .ok (.putfield idx, 3)) (kk : G V E d own cc nL rt pc' lv (st) (sR h 10 (up (h.1 10) 1 n)) post) : G V E d own cc nL rt pc lv (.int (nI n) :: rf V 10 :: st) h post := g_put (k := 10) (ci := 0) (j := 1) (off := 1) (T := TX0) (C := RX0) (N := 3) (ty0 := tyX0) pc' hp (by decide) rfl rfl inX0 tyX0_ok nmX0 (by decide) rfl (by decide +kernel) (Nat.le_of_ble_eq_true rfl) rfl rfl hl hd kk
theorem gf_Acts_count {idx : Nat} (pc' : Nat) (hp : pc + 3 = pc') (hl : Cond.fieldLink own idx "MustardTreaty$Acts" "count" "I" ∈ lw_tbl) (hd : decode cc pc = .ok (.getfield idx, 3)) (kk : G V E d own cc nL rt pc' lv (.int (nI (h.1 10 2)) :: st) h post) : G V E d own cc nL rt pc lv (rf V 10 :: st) h post := g_get (k := 10) (ci := 0) (j := 2) (T := TX0) (C := RX0) (N := 3) pc' hp (by decide) rfl rfl inX0 (by decide) hl rfl hd kk
theorem gp_Acts_count {idx n : Nat} (pc' : Nat) (hp : pc + 3 = pc') (hl : Cond.fieldLink own idx "MustardTreaty$Acts" "count" "I" ∈ lw_tbl) (hd : decode cc pc = .ok (.putfield idx, 3)) (kk : G V E d own cc nL rt pc' lv (st) (sR h 10 (up (h.1 10) 2 n)) post) : G V E d own cc nL rt pc lv (.int (nI n) :: rf V 10 :: st) h post := g_put (k := 10) (ci := 0) (j := 2) (off := 2) (T := TX0) (C := RX0) (N := 3) (ty0 := tyX0) pc' hp (by decide) rfl rfl inX0 tyX0_ok nmX0 (by decide) rfl (by decide +kernel) (Nat.le_of_ble_eq_true rfl) rfl rfl hl hd kk
theorem gf_Slots_tables {idx : Nat} (pc' : Nat) (hp : pc + 3 = pc') (hl : Cond.fieldLink own idx "MustardTreaty$Slots" "tables" "[LMustardTreaty$Table;" ∈ lw_tbl) (hd : decode cc pc = .ok (.getfield idx, 3)) (kk : G V E d own cc nL rt pc' lv (rf V 13 :: st) h post) : G V E d own cc nL rt pc lv (rf V 12 :: st) h post := g_get (k := 12) (ci := 5) (j := 0) (T := TX5) (C := RX5) (N := 2) pc' hp (by decide) rfl rfl inX5 (by decide) hl rfl hd kk
theorem gf_Slots_used {idx : Nat} (pc' : Nat) (hp : pc + 3 = pc') (hl : Cond.fieldLink own idx "MustardTreaty$Slots" "used" "[Z" ∈ lw_tbl) (hd : decode cc pc = .ok (.getfield idx, 3)) (kk : G V E d own cc nL rt pc' lv (rf V 14 :: st) h post) : G V E d own cc nL rt pc lv (rf V 12 :: st) h post := g_get (k := 12) (ci := 5) (j := 1) (T := TX5) (C := RX5) (N := 2) pc' hp (by decide) rfl rfl inX5 (by decide) hl rfl hd kk
theorem gf_Sights_kinds {idx : Nat} (pc' : Nat) (hp : pc + 3 = pc') (hl : Cond.fieldLink own idx "MustardTreaty$Sights" "kinds" "[I" ∈ lw_tbl) (hd : decode cc pc = .ok (.getfield idx, 3)) (kk : G V E d own cc nL rt pc' lv (rf V 16 :: st) h post) : G V E d own cc nL rt pc lv (rf V 15 :: st) h post := g_get (k := 15) (ci := 4) (j := 0) (T := TX4) (C := RX4) (N := 4) pc' hp (by decide) rfl rfl inX4 (by decide) hl rfl hd kk
theorem gf_Sights_heats {idx : Nat} (pc' : Nat) (hp : pc + 3 = pc') (hl : Cond.fieldLink own idx "MustardTreaty$Sights" "heats" "[I" ∈ lw_tbl) (hd : decode cc pc = .ok (.getfield idx, 3)) (kk : G V E d own cc nL rt pc' lv (rf V 17 :: st) h post) : G V E d own cc nL rt pc lv (rf V 15 :: st) h post := g_get (k := 15) (ci := 4) (j := 1) (T := TX4) (C := RX4) (N := 4) pc' hp (by decide) rfl rfl inX4 (by decide) hl rfl hd kk
theorem gf_Sights_tears {idx : Nat} (pc' : Nat) (hp : pc + 3 = pc') (hl : Cond.fieldLink own idx "MustardTreaty$Sights" "tears" "[I" ∈ lw_tbl) (hd : decode cc pc = .ok (.getfield idx, 3)) (kk : G V E d own cc nL rt pc' lv (rf V 18 :: st) h post) : G V E d own cc nL rt pc lv (rf V 15 :: st) h post := g_get (k := 15) (ci := 4) (j := 2) (T := TX4) (C := RX4) (N := 4) pc' hp (by decide) rfl rfl inX4 (by decide) hl rfl hd kk
theorem gf_Sights_count {idx : Nat} (pc' : Nat) (hp : pc + 3 = pc') (hl : Cond.fieldLink own idx "MustardTreaty$Sights" "count" "I" ∈ lw_tbl) (hd : decode cc pc = .ok (.getfield idx, 3)) (kk : G V E d own cc nL rt pc' lv (.int (nI (h.1 15 3)) :: st) h post) : G V E d own cc nL rt pc lv (rf V 15 :: st) h post := g_get (k := 15) (ci := 4) (j := 3) (T := TX4) (C := RX4) (N := 4) pc' hp (by decide) rfl rfl inX4 (by decide) hl rfl hd kk
theorem gp_Sights_count {idx n : Nat} (pc' : Nat) (hp : pc + 3 = pc') (hl : Cond.fieldLink own idx "MustardTreaty$Sights" "count" "I" ∈ lw_tbl) (hd : decode cc pc = .ok (.putfield idx, 3)) (kk : G V E d own cc nL rt pc' lv (st) (sR h 15 (up (h.1 15) 3 n)) post) : G V E d own cc nL rt pc lv (.int (nI n) :: rf V 15 :: st) h post := g_put (k := 15) (ci := 4) (j := 3) (off := 3) (T := TX4) (C := RX4) (N := 4) (ty0 := tyX4) pc' hp (by decide) rfl rfl inX4 tyX4_ok nmX4 (by decide) rfl (by decide +kernel) (Nat.le_of_ble_eq_true rfl) rfl rfl hl hd kk
theorem gf_Search_rules {idx : Nat} (pc' : Nat) (hp : pc + 3 = pc') (hl : Cond.fieldLink own idx "MustardTreaty$Search" "rules" "LMustardTreaty$Rules;" ∈ lw_tbl) (hd : decode cc pc = .ok (.getfield idx, 3)) (kk : G V E d own cc nL rt pc' lv (rf V 3 :: st) h post) : G V E d own cc nL rt pc lv (rf V 19 :: st) h post := g_get (k := 19) (ci := 3) (j := 0) (T := TX3) (C := RX3) (N := 6) pc' hp (by decide) rfl rfl inX3 (by decide) hl rfl hd kk
theorem gf_Search_behind {idx : Nat} (pc' : Nat) (hp : pc + 3 = pc') (hl : Cond.fieldLink own idx "MustardTreaty$Search" "behind" "[LMustardTreaty$Table;" ∈ lw_tbl) (hd : decode cc pc = .ok (.getfield idx, 3)) (kk : G V E d own cc nL rt pc' lv (rf V 20 :: st) h post) : G V E d own cc nL rt pc lv (rf V 19 :: st) h post := g_get (k := 19) (ci := 3) (j := 1) (T := TX3) (C := RX3) (N := 6) pc' hp (by decide) rfl rfl inX3 (by decide) hl rfl hd kk
theorem gf_Search_turns {idx : Nat} (pc' : Nat) (hp : pc + 3 = pc') (hl : Cond.fieldLink own idx "MustardTreaty$Search" "turns" "I" ∈ lw_tbl) (hd : decode cc pc = .ok (.getfield idx, 3)) (kk : G V E d own cc nL rt pc' lv (.int (nI (h.1 19 2)) :: st) h post) : G V E d own cc nL rt pc lv (rf V 19 :: st) h post := g_get (k := 19) (ci := 3) (j := 2) (T := TX3) (C := RX3) (N := 6) pc' hp (by decide) rfl rfl inX3 (by decide) hl rfl hd kk
theorem gp_Search_turns {idx n : Nat} (pc' : Nat) (hp : pc + 3 = pc') (hl : Cond.fieldLink own idx "MustardTreaty$Search" "turns" "I" ∈ lw_tbl) (hd : decode cc pc = .ok (.putfield idx, 3)) (kk : G V E d own cc nL rt pc' lv (st) (sR h 19 (up (h.1 19) 2 n)) post) : G V E d own cc nL rt pc lv (.int (nI n) :: rf V 19 :: st) h post := g_put (k := 19) (ci := 3) (j := 2) (off := 2) (T := TX3) (C := RX3) (N := 6) (ty0 := tyX3) pc' hp (by decide) rfl rfl inX3 tyX3_ok nmX3 (by decide) rfl (by decide +kernel) (Nat.le_of_ble_eq_true rfl) rfl rfl hl hd kk
theorem gf_Search_allowed {idx : Nat} (pc' : Nat) (hp : pc + 3 = pc') (hl : Cond.fieldLink own idx "MustardTreaty$Search" "allowed" "I" ∈ lw_tbl) (hd : decode cc pc = .ok (.getfield idx, 3)) (kk : G V E d own cc nL rt pc' lv (.int (nI (h.1 19 3)) :: st) h post) : G V E d own cc nL rt pc lv (rf V 19 :: st) h post := g_get (k := 19) (ci := 3) (j := 3) (T := TX3) (C := RX3) (N := 6) pc' hp (by decide) rfl rfl inX3 (by decide) hl rfl hd kk
theorem gp_Search_allowed {idx n : Nat} (pc' : Nat) (hp : pc + 3 = pc') (hl : Cond.fieldLink own idx "MustardTreaty$Search" "allowed" "I" ∈ lw_tbl) (hd : decode cc pc = .ok (.putfield idx, 3)) (kk : G V E d own cc nL rt pc' lv (st) (sR h 19 (up (h.1 19) 3 n)) post) : G V E d own cc nL rt pc lv (.int (nI n) :: rf V 19 :: st) h post := g_put (k := 19) (ci := 3) (j := 3) (off := 3) (T := TX3) (C := RX3) (N := 6) (ty0 := tyX3) pc' hp (by decide) rfl rfl inX3 tyX3_ok nmX3 (by decide) rfl (by decide +kernel) (Nat.le_of_ble_eq_true rfl) rfl rfl hl hd kk
theorem gf_Search_bestWorth {idx : Nat} (pc' : Nat) (hp : pc + 3 = pc') (hl : Cond.fieldLink own idx "MustardTreaty$Search" "bestWorth" "I" ∈ lw_tbl) (hd : decode cc pc = .ok (.getfield idx, 3)) (kk : G V E d own cc nL rt pc' lv (.int (nI (h.1 19 4)) :: st) h post) : G V E d own cc nL rt pc lv (rf V 19 :: st) h post := g_get (k := 19) (ci := 3) (j := 4) (T := TX3) (C := RX3) (N := 6) pc' hp (by decide) rfl rfl inX3 (by decide) hl rfl hd kk
theorem gp_Search_bestWorth {idx n : Nat} (pc' : Nat) (hp : pc + 3 = pc') (hl : Cond.fieldLink own idx "MustardTreaty$Search" "bestWorth" "I" ∈ lw_tbl) (hd : decode cc pc = .ok (.putfield idx, 3)) (kk : G V E d own cc nL rt pc' lv (st) (sR h 19 (up (h.1 19) 4 n)) post) : G V E d own cc nL rt pc lv (.int (nI n) :: rf V 19 :: st) h post := g_put (k := 19) (ci := 3) (j := 4) (off := 4) (T := TX3) (C := RX3) (N := 6) (ty0 := tyX3) pc' hp (by decide) rfl rfl inX3 tyX3_ok nmX3 (by decide) rfl (by decide +kernel) (Nat.le_of_ble_eq_true rfl) rfl rfl hl hd kk
theorem gf_Search_bestRow {idx : Nat} (pc' : Nat) (hp : pc + 3 = pc') (hl : Cond.fieldLink own idx "MustardTreaty$Search" "bestRow" "I" ∈ lw_tbl) (hd : decode cc pc = .ok (.getfield idx, 3)) (kk : G V E d own cc nL rt pc' lv (.int (nI (h.1 19 5)) :: st) h post) : G V E d own cc nL rt pc lv (rf V 19 :: st) h post := g_get (k := 19) (ci := 3) (j := 5) (T := TX3) (C := RX3) (N := 6) pc' hp (by decide) rfl rfl inX3 (by decide) hl rfl hd kk
theorem gp_Search_bestRow {idx n : Nat} (pc' : Nat) (hp : pc + 3 = pc') (hl : Cond.fieldLink own idx "MustardTreaty$Search" "bestRow" "I" ∈ lw_tbl) (hd : decode cc pc = .ok (.putfield idx, 3)) (kk : G V E d own cc nL rt pc' lv (st) (sR h 19 (up (h.1 19) 5 n)) post) : G V E d own cc nL rt pc lv (.int (nI n) :: rf V 19 :: st) h post := g_put (k := 19) (ci := 3) (j := 5) (off := 5) (T := TX3) (C := RX3) (N := 6) (ty0 := tyX3) pc' hp (by decide) rfl rfl inX3 tyX3_ok nmX3 (by decide) rfl (by decide +kernel) (Nat.le_of_ble_eq_true rfl) rfl rfl hl hd kk
theorem gf_Stops_rules {idx : Nat} (pc' : Nat) (hp : pc + 3 = pc') (hl : Cond.fieldLink own idx "MustardTreaty$Stops" "rules" "LMustardTreaty$Rules;" ∈ lw_tbl) (hd : decode cc pc = .ok (.getfield idx, 3)) (kk : G V E d own cc nL rt pc' lv (rf V 3 :: st) h post) : G V E d own cc nL rt pc lv (rf V 21 :: st) h post := g_get (k := 21) (ci := 6) (j := 0) (T := TX6) (C := RX6) (N := 3) pc' hp (by decide) rfl rfl inX6 (by decide) hl rfl hd kk
theorem gf_Stops_count {idx : Nat} (pc' : Nat) (hp : pc + 3 = pc') (hl : Cond.fieldLink own idx "MustardTreaty$Stops" "count" "I" ∈ lw_tbl) (hd : decode cc pc = .ok (.getfield idx, 3)) (kk : G V E d own cc nL rt pc' lv (.int (nI (h.1 21 1)) :: st) h post) : G V E d own cc nL rt pc lv (rf V 21 :: st) h post := g_get (k := 21) (ci := 6) (j := 1) (T := TX6) (C := RX6) (N := 3) pc' hp (by decide) rfl rfl inX6 (by decide) hl rfl hd kk
theorem gp_Stops_count {idx n : Nat} (pc' : Nat) (hp : pc + 3 = pc') (hl : Cond.fieldLink own idx "MustardTreaty$Stops" "count" "I" ∈ lw_tbl) (hd : decode cc pc = .ok (.putfield idx, 3)) (kk : G V E d own cc nL rt pc' lv (st) (sR h 21 (up (h.1 21) 1 n)) post) : G V E d own cc nL rt pc lv (.int (nI n) :: rf V 21 :: st) h post := g_put (k := 21) (ci := 6) (j := 1) (off := 1) (T := TX6) (C := RX6) (N := 3) (ty0 := tyX6) pc' hp (by decide) rfl rfl inX6 tyX6_ok nmX6 (by decide) rfl (by decide +kernel) (Nat.le_of_ble_eq_true rfl) rfl rfl hl hd kk
theorem gf_Stops_first {idx : Nat} (pc' : Nat) (hp : pc + 3 = pc') (hl : Cond.fieldLink own idx "MustardTreaty$Stops" "first" "I" ∈ lw_tbl) (hd : decode cc pc = .ok (.getfield idx, 3)) (kk : G V E d own cc nL rt pc' lv (.int (nI (h.1 21 2)) :: st) h post) : G V E d own cc nL rt pc lv (rf V 21 :: st) h post := g_get (k := 21) (ci := 6) (j := 2) (T := TX6) (C := RX6) (N := 3) pc' hp (by decide) rfl rfl inX6 (by decide) hl rfl hd kk
theorem gp_Stops_first {idx n : Nat} (pc' : Nat) (hp : pc + 3 = pc') (hl : Cond.fieldLink own idx "MustardTreaty$Stops" "first" "I" ∈ lw_tbl) (hd : decode cc pc = .ok (.putfield idx, 3)) (kk : G V E d own cc nL rt pc' lv (st) (sR h 21 (up (h.1 21) 2 n)) post) : G V E d own cc nL rt pc lv (.int (nI n) :: rf V 21 :: st) h post := g_put (k := 21) (ci := 6) (j := 2) (off := 2) (T := TX6) (C := RX6) (N := 3) (ty0 := tyX6) pc' hp (by decide) rfl rfl inX6 tyX6_ok nmX6 (by decide) rfl (by decide +kernel) (Nat.le_of_ble_eq_true rfl) rfl rfl hl hd kk
theorem gf_Model_thrown {idx : Nat} (pc' : Nat) (hp : pc + 3 = pc') (hl : Cond.fieldLink own idx "MustardTreatyModel" "thrown" "I" ∈ lw_tbl) (hd : decode cc pc = .ok (.getfield idx, 3)) (kk : G V E d own cc nL rt pc' lv (.int (nI (h.1 22 0)) :: st) h post) : G V E d own cc nL rt pc lv (rf V 22 :: st) h post := g_get (k := 22) (ci := 9) (j := 0) (T := TX9) (C := RX9) (N := 30) pc' hp (by decide) rfl rfl inX9 (by decide) hl rfl hd kk
theorem gp_Model_thrown {idx n : Nat} (pc' : Nat) (hp : pc + 3 = pc') (hl : Cond.fieldLink own idx "MustardTreatyModel" "thrown" "I" ∈ lw_tbl) (hd : decode cc pc = .ok (.putfield idx, 3)) (kk : G V E d own cc nL rt pc' lv (st) (sR h 22 (up (h.1 22) 0 n)) post) : G V E d own cc nL rt pc lv (.int (nI n) :: rf V 22 :: st) h post := g_put (k := 22) (ci := 9) (j := 0) (off := 0) (T := TX9) (C := RX9) (N := 30) (ty0 := tyX9) pc' hp (by decide) rfl rfl inX9 tyX9_ok nmX9 (by decide) rfl (by decide +kernel) (Nat.le_of_ble_eq_true rfl) rfl rfl hl hd kk
theorem gf_Model_text {idx : Nat} (pc' : Nat) (hp : pc + 3 = pc') (hl : Cond.fieldLink own idx "MustardTreatyModel" "text" "[I" ∈ lw_tbl) (hd : decode cc pc = .ok (.getfield idx, 3)) (kk : G V E d own cc nL rt pc' lv (rf V 23 :: st) h post) : G V E d own cc nL rt pc lv (rf V 22 :: st) h post := g_get (k := 22) (ci := 9) (j := 1) (T := TX9) (C := RX9) (N := 30) pc' hp (by decide) rfl rfl inX9 (by decide) hl rfl hd kk
theorem gf_Model_textSize {idx : Nat} (pc' : Nat) (hp : pc + 3 = pc') (hl : Cond.fieldLink own idx "MustardTreatyModel" "textSize" "I" ∈ lw_tbl) (hd : decode cc pc = .ok (.getfield idx, 3)) (kk : G V E d own cc nL rt pc' lv (.int (nI (h.1 22 2)) :: st) h post) : G V E d own cc nL rt pc lv (rf V 22 :: st) h post := g_get (k := 22) (ci := 9) (j := 2) (T := TX9) (C := RX9) (N := 30) pc' hp (by decide) rfl rfl inX9 (by decide) hl rfl hd kk
theorem gp_Model_textSize {idx n : Nat} (pc' : Nat) (hp : pc + 3 = pc') (hl : Cond.fieldLink own idx "MustardTreatyModel" "textSize" "I" ∈ lw_tbl) (hd : decode cc pc = .ok (.putfield idx, 3)) (kk : G V E d own cc nL rt pc' lv (st) (sR h 22 (up (h.1 22) 2 n)) post) : G V E d own cc nL rt pc lv (.int (nI n) :: rf V 22 :: st) h post := g_put (k := 22) (ci := 9) (j := 2) (off := 2) (T := TX9) (C := RX9) (N := 30) (ty0 := tyX9) pc' hp (by decide) rfl rfl inX9 tyX9_ok nmX9 (by decide) rfl (by decide +kernel) (Nat.le_of_ble_eq_true rfl) rfl rfl hl hd kk
theorem gf_Model_place {idx : Nat} (pc' : Nat) (hp : pc + 3 = pc') (hl : Cond.fieldLink own idx "MustardTreatyModel" "place" "I" ∈ lw_tbl) (hd : decode cc pc = .ok (.getfield idx, 3)) (kk : G V E d own cc nL rt pc' lv (.int (nI (h.1 22 3)) :: st) h post) : G V E d own cc nL rt pc lv (rf V 22 :: st) h post := g_get (k := 22) (ci := 9) (j := 3) (T := TX9) (C := RX9) (N := 30) pc' hp (by decide) rfl rfl inX9 (by decide) hl rfl hd kk
theorem gp_Model_place {idx n : Nat} (pc' : Nat) (hp : pc + 3 = pc') (hl : Cond.fieldLink own idx "MustardTreatyModel" "place" "I" ∈ lw_tbl) (hd : decode cc pc = .ok (.putfield idx, 3)) (kk : G V E d own cc nL rt pc' lv (st) (sR h 22 (up (h.1 22) 3 n)) post) : G V E d own cc nL rt pc lv (.int (nI n) :: rf V 22 :: st) h post := g_put (k := 22) (ci := 9) (j := 3) (off := 3) (T := TX9) (C := RX9) (N := 30) (ty0 := tyX9) pc' hp (by decide) rfl rfl inX9 tyX9_ok nmX9 (by decide) rfl (by decide +kernel) (Nat.le_of_ble_eq_true rfl) rfl rfl hl hd kk
theorem gf_Model_envoys {idx : Nat} (pc' : Nat) (hp : pc + 3 = pc') (hl : Cond.fieldLink own idx "MustardTreatyModel" "envoys" "I" ∈ lw_tbl) (hd : decode cc pc = .ok (.getfield idx, 3)) (kk : G V E d own cc nL rt pc' lv (.int (nI (h.1 22 4)) :: st) h post) : G V E d own cc nL rt pc lv (rf V 22 :: st) h post := g_get (k := 22) (ci := 9) (j := 4) (T := TX9) (C := RX9) (N := 30) pc' hp (by decide) rfl rfl inX9 (by decide) hl rfl hd kk
theorem gp_Model_envoys {idx n : Nat} (pc' : Nat) (hp : pc + 3 = pc') (hl : Cond.fieldLink own idx "MustardTreatyModel" "envoys" "I" ∈ lw_tbl) (hd : decode cc pc = .ok (.putfield idx, 3)) (kk : G V E d own cc nL rt pc' lv (st) (sR h 22 (up (h.1 22) 4 n)) post) : G V E d own cc nL rt pc lv (.int (nI n) :: rf V 22 :: st) h post := g_put (k := 22) (ci := 9) (j := 4) (off := 4) (T := TX9) (C := RX9) (N := 30) (ty0 := tyX9) pc' hp (by decide) rfl rfl inX9 tyX9_ok nmX9 (by decide) rfl (by decide +kernel) (Nat.le_of_ble_eq_true rfl) rfl rfl hl hd kk
theorem gf_Model_envoy {idx : Nat} (pc' : Nat) (hp : pc + 3 = pc') (hl : Cond.fieldLink own idx "MustardTreatyModel" "envoy" "[I" ∈ lw_tbl) (hd : decode cc pc = .ok (.getfield idx, 3)) (kk : G V E d own cc nL rt pc' lv (rf V 24 :: st) h post) : G V E d own cc nL rt pc lv (rf V 22 :: st) h post := g_get (k := 22) (ci := 9) (j := 5) (T := TX9) (C := RX9) (N := 30) pc' hp (by decide) rfl rfl inX9 (by decide) hl rfl hd kk
theorem gf_Model_clauses {idx : Nat} (pc' : Nat) (hp : pc + 3 = pc') (hl : Cond.fieldLink own idx "MustardTreatyModel" "clauses" "I" ∈ lw_tbl) (hd : decode cc pc = .ok (.getfield idx, 3)) (kk : G V E d own cc nL rt pc' lv (.int (nI (h.1 22 6)) :: st) h post) : G V E d own cc nL rt pc lv (rf V 22 :: st) h post := g_get (k := 22) (ci := 9) (j := 6) (T := TX9) (C := RX9) (N := 30) pc' hp (by decide) rfl rfl inX9 (by decide) hl rfl hd kk
theorem gp_Model_clauses {idx n : Nat} (pc' : Nat) (hp : pc + 3 = pc') (hl : Cond.fieldLink own idx "MustardTreatyModel" "clauses" "I" ∈ lw_tbl) (hd : decode cc pc = .ok (.putfield idx, 3)) (kk : G V E d own cc nL rt pc' lv (st) (sR h 22 (up (h.1 22) 6 n)) post) : G V E d own cc nL rt pc lv (.int (nI n) :: rf V 22 :: st) h post := g_put (k := 22) (ci := 9) (j := 6) (off := 6) (T := TX9) (C := RX9) (N := 30) (ty0 := tyX9) pc' hp (by decide) rfl rfl inX9 tyX9_ok nmX9 (by decide) rfl (by decide +kernel) (Nat.le_of_ble_eq_true rfl) rfl rfl hl hd kk
theorem gf_Model_clause {idx : Nat} (pc' : Nat) (hp : pc + 3 = pc') (hl : Cond.fieldLink own idx "MustardTreatyModel" "clause" "[I" ∈ lw_tbl) (hd : decode cc pc = .ok (.getfield idx, 3)) (kk : G V E d own cc nL rt pc' lv (rf V 25 :: st) h post) : G V E d own cc nL rt pc lv (rf V 22 :: st) h post := g_get (k := 22) (ci := 9) (j := 7) (T := TX9) (C := RX9) (N := 30) pc' hp (by decide) rfl rfl inX9 (by decide) hl rfl hd kk
theorem gf_Model_readHeat {idx : Nat} (pc' : Nat) (hp : pc + 3 = pc') (hl : Cond.fieldLink own idx "MustardTreatyModel" "readHeat" "I" ∈ lw_tbl) (hd : decode cc pc = .ok (.getfield idx, 3)) (kk : G V E d own cc nL rt pc' lv (.int (nI (h.1 22 8)) :: st) h post) : G V E d own cc nL rt pc lv (rf V 22 :: st) h post := g_get (k := 22) (ci := 9) (j := 8) (T := TX9) (C := RX9) (N := 30) pc' hp (by decide) rfl rfl inX9 (by decide) hl rfl hd kk
theorem gp_Model_readHeat {idx n : Nat} (pc' : Nat) (hp : pc + 3 = pc') (hl : Cond.fieldLink own idx "MustardTreatyModel" "readHeat" "I" ∈ lw_tbl) (hd : decode cc pc = .ok (.putfield idx, 3)) (kk : G V E d own cc nL rt pc' lv (st) (sR h 22 (up (h.1 22) 8 n)) post) : G V E d own cc nL rt pc lv (.int (nI n) :: rf V 22 :: st) h post := g_put (k := 22) (ci := 9) (j := 8) (off := 8) (T := TX9) (C := RX9) (N := 30) (ty0 := tyX9) pc' hp (by decide) rfl rfl inX9 tyX9_ok nmX9 (by decide) rfl (by decide +kernel) (Nat.le_of_ble_eq_true rfl) rfl rfl hl hd kk
theorem gf_Model_readSeed {idx : Nat} (pc' : Nat) (hp : pc + 3 = pc') (hl : Cond.fieldLink own idx "MustardTreatyModel" "readSeed" "I" ∈ lw_tbl) (hd : decode cc pc = .ok (.getfield idx, 3)) (kk : G V E d own cc nL rt pc' lv (.int (nI (h.1 22 9)) :: st) h post) : G V E d own cc nL rt pc lv (rf V 22 :: st) h post := g_get (k := 22) (ci := 9) (j := 9) (T := TX9) (C := RX9) (N := 30) pc' hp (by decide) rfl rfl inX9 (by decide) hl rfl hd kk
theorem gp_Model_readSeed {idx n : Nat} (pc' : Nat) (hp : pc + 3 = pc') (hl : Cond.fieldLink own idx "MustardTreatyModel" "readSeed" "I" ∈ lw_tbl) (hd : decode cc pc = .ok (.putfield idx, 3)) (kk : G V E d own cc nL rt pc' lv (st) (sR h 22 (up (h.1 22) 9 n)) post) : G V E d own cc nL rt pc lv (.int (nI n) :: rf V 22 :: st) h post := g_put (k := 22) (ci := 9) (j := 9) (off := 9) (T := TX9) (C := RX9) (N := 30) (ty0 := tyX9) pc' hp (by decide) rfl rfl inX9 tyX9_ok nmX9 (by decide) rfl (by decide +kernel) (Nat.le_of_ble_eq_true rfl) rfl rfl hl hd kk
theorem gf_Model_readEnvoys {idx : Nat} (pc' : Nat) (hp : pc + 3 = pc') (hl : Cond.fieldLink own idx "MustardTreatyModel" "readEnvoys" "I" ∈ lw_tbl) (hd : decode cc pc = .ok (.getfield idx, 3)) (kk : G V E d own cc nL rt pc' lv (.int (nI (h.1 22 10)) :: st) h post) : G V E d own cc nL rt pc lv (rf V 22 :: st) h post := g_get (k := 22) (ci := 9) (j := 10) (T := TX9) (C := RX9) (N := 30) pc' hp (by decide) rfl rfl inX9 (by decide) hl rfl hd kk
theorem gp_Model_readEnvoys {idx n : Nat} (pc' : Nat) (hp : pc + 3 = pc') (hl : Cond.fieldLink own idx "MustardTreatyModel" "readEnvoys" "I" ∈ lw_tbl) (hd : decode cc pc = .ok (.putfield idx, 3)) (kk : G V E d own cc nL rt pc' lv (st) (sR h 22 (up (h.1 22) 10 n)) post) : G V E d own cc nL rt pc lv (.int (nI n) :: rf V 22 :: st) h post := g_put (k := 22) (ci := 9) (j := 10) (off := 10) (T := TX9) (C := RX9) (N := 30) (ty0 := tyX9) pc' hp (by decide) rfl rfl inX9 tyX9_ok nmX9 (by decide) rfl (by decide +kernel) (Nat.le_of_ble_eq_true rfl) rfl rfl hl hd kk
theorem gf_Model_readEnvoy {idx : Nat} (pc' : Nat) (hp : pc + 3 = pc') (hl : Cond.fieldLink own idx "MustardTreatyModel" "readEnvoy" "[I" ∈ lw_tbl) (hd : decode cc pc = .ok (.getfield idx, 3)) (kk : G V E d own cc nL rt pc' lv (rf V 26 :: st) h post) : G V E d own cc nL rt pc lv (rf V 22 :: st) h post := g_get (k := 22) (ci := 9) (j := 11) (T := TX9) (C := RX9) (N := 30) pc' hp (by decide) rfl rfl inX9 (by decide) hl rfl hd kk
theorem gf_Model_readClauses {idx : Nat} (pc' : Nat) (hp : pc + 3 = pc') (hl : Cond.fieldLink own idx "MustardTreatyModel" "readClauses" "I" ∈ lw_tbl) (hd : decode cc pc = .ok (.getfield idx, 3)) (kk : G V E d own cc nL rt pc' lv (.int (nI (h.1 22 12)) :: st) h post) : G V E d own cc nL rt pc lv (rf V 22 :: st) h post := g_get (k := 22) (ci := 9) (j := 12) (T := TX9) (C := RX9) (N := 30) pc' hp (by decide) rfl rfl inX9 (by decide) hl rfl hd kk
theorem gp_Model_readClauses {idx n : Nat} (pc' : Nat) (hp : pc + 3 = pc') (hl : Cond.fieldLink own idx "MustardTreatyModel" "readClauses" "I" ∈ lw_tbl) (hd : decode cc pc = .ok (.putfield idx, 3)) (kk : G V E d own cc nL rt pc' lv (st) (sR h 22 (up (h.1 22) 12 n)) post) : G V E d own cc nL rt pc lv (.int (nI n) :: rf V 22 :: st) h post := g_put (k := 22) (ci := 9) (j := 12) (off := 12) (T := TX9) (C := RX9) (N := 30) (ty0 := tyX9) pc' hp (by decide) rfl rfl inX9 tyX9_ok nmX9 (by decide) rfl (by decide +kernel) (Nat.le_of_ble_eq_true rfl) rfl rfl hl hd kk
theorem gf_Model_readClause {idx : Nat} (pc' : Nat) (hp : pc + 3 = pc') (hl : Cond.fieldLink own idx "MustardTreatyModel" "readClause" "[I" ∈ lw_tbl) (hd : decode cc pc = .ok (.getfield idx, 3)) (kk : G V E d own cc nL rt pc' lv (rf V 27 :: st) h post) : G V E d own cc nL rt pc lv (rf V 22 :: st) h post := g_get (k := 22) (ci := 9) (j := 13) (T := TX9) (C := RX9) (N := 30) pc' hp (by decide) rfl rfl inX9 (by decide) hl rfl hd kk
theorem gf_Model_page {idx : Nat} (pc' : Nat) (hp : pc + 3 = pc') (hl : Cond.fieldLink own idx "MustardTreatyModel" "page" "[I" ∈ lw_tbl) (hd : decode cc pc = .ok (.getfield idx, 3)) (kk : G V E d own cc nL rt pc' lv (rf V 28 :: st) h post) : G V E d own cc nL rt pc lv (rf V 22 :: st) h post := g_get (k := 22) (ci := 9) (j := 14) (T := TX9) (C := RX9) (N := 30) pc' hp (by decide) rfl rfl inX9 (by decide) hl rfl hd kk
theorem gf_Model_trial {idx : Nat} (pc' : Nat) (hp : pc + 3 = pc') (hl : Cond.fieldLink own idx "MustardTreatyModel" "trial" "[I" ∈ lw_tbl) (hd : decode cc pc = .ok (.getfield idx, 3)) (kk : G V E d own cc nL rt pc' lv (rf V 29 :: st) h post) : G V E d own cc nL rt pc lv (rf V 22 :: st) h post := g_get (k := 22) (ci := 9) (j := 15) (T := TX9) (C := RX9) (N := 30) pc' hp (by decide) rfl rfl inX9 (by decide) hl rfl hd kk
theorem gf_Model_book {idx : Nat} (pc' : Nat) (hp : pc + 3 = pc') (hl : Cond.fieldLink own idx "MustardTreatyModel" "book" "[I" ∈ lw_tbl) (hd : decode cc pc = .ok (.getfield idx, 3)) (kk : G V E d own cc nL rt pc' lv (rf V 30 :: st) h post) : G V E d own cc nL rt pc lv (rf V 22 :: st) h post := g_get (k := 22) (ci := 9) (j := 16) (T := TX9) (C := RX9) (N := 30) pc' hp (by decide) rfl rfl inX9 (by decide) hl rfl hd kk
theorem gf_Model_acts {idx : Nat} (pc' : Nat) (hp : pc + 3 = pc') (hl : Cond.fieldLink own idx "MustardTreatyModel" "acts" "I" ∈ lw_tbl) (hd : decode cc pc = .ok (.getfield idx, 3)) (kk : G V E d own cc nL rt pc' lv (.int (nI (h.1 22 17)) :: st) h post) : G V E d own cc nL rt pc lv (rf V 22 :: st) h post := g_get (k := 22) (ci := 9) (j := 17) (T := TX9) (C := RX9) (N := 30) pc' hp (by decide) rfl rfl inX9 (by decide) hl rfl hd kk
theorem gp_Model_acts {idx n : Nat} (pc' : Nat) (hp : pc + 3 = pc') (hl : Cond.fieldLink own idx "MustardTreatyModel" "acts" "I" ∈ lw_tbl) (hd : decode cc pc = .ok (.putfield idx, 3)) (kk : G V E d own cc nL rt pc' lv (st) (sR h 22 (up (h.1 22) 17 n)) post) : G V E d own cc nL rt pc lv (.int (nI n) :: rf V 22 :: st) h post := g_put (k := 22) (ci := 9) (j := 17) (off := 17) (T := TX9) (C := RX9) (N := 30) (ty0 := tyX9) pc' hp (by decide) rfl rfl inX9 tyX9_ok nmX9 (by decide) rfl (by decide +kernel) (Nat.le_of_ble_eq_true rfl) rfl rfl hl hd kk
theorem gf_Model_kept {idx : Nat} (pc' : Nat) (hp : pc + 3 = pc') (hl : Cond.fieldLink own idx "MustardTreatyModel" "kept" "[I" ∈ lw_tbl) (hd : decode cc pc = .ok (.getfield idx, 3)) (kk : G V E d own cc nL rt pc' lv (rf V 31 :: st) h post) : G V E d own cc nL rt pc lv (rf V 22 :: st) h post := g_get (k := 22) (ci := 9) (j := 18) (T := TX9) (C := RX9) (N := 30) pc' hp (by decide) rfl rfl inX9 (by decide) hl rfl hd kk
theorem gf_Model_isKept {idx : Nat} (pc' : Nat) (hp : pc + 3 = pc') (hl : Cond.fieldLink own idx "MustardTreatyModel" "isKept" "[Z" ∈ lw_tbl) (hd : decode cc pc = .ok (.getfield idx, 3)) (kk : G V E d own cc nL rt pc' lv (rf V 32 :: st) h post) : G V E d own cc nL rt pc lv (rf V 22 :: st) h post := g_get (k := 22) (ci := 9) (j := 19) (T := TX9) (C := RX9) (N := 30) pc' hp (by decide) rfl rfl inX9 (by decide) hl rfl hd kk
theorem gf_Model_seen {idx : Nat} (pc' : Nat) (hp : pc + 3 = pc') (hl : Cond.fieldLink own idx "MustardTreatyModel" "seen" "I" ∈ lw_tbl) (hd : decode cc pc = .ok (.getfield idx, 3)) (kk : G V E d own cc nL rt pc' lv (.int (nI (h.1 22 20)) :: st) h post) : G V E d own cc nL rt pc lv (rf V 22 :: st) h post := g_get (k := 22) (ci := 9) (j := 20) (T := TX9) (C := RX9) (N := 30) pc' hp (by decide) rfl rfl inX9 (by decide) hl rfl hd kk
theorem gp_Model_seen {idx n : Nat} (pc' : Nat) (hp : pc + 3 = pc') (hl : Cond.fieldLink own idx "MustardTreatyModel" "seen" "I" ∈ lw_tbl) (hd : decode cc pc = .ok (.putfield idx, 3)) (kk : G V E d own cc nL rt pc' lv (st) (sR h 22 (up (h.1 22) 20 n)) post) : G V E d own cc nL rt pc lv (.int (nI n) :: rf V 22 :: st) h post := g_put (k := 22) (ci := 9) (j := 20) (off := 20) (T := TX9) (C := RX9) (N := 30) (ty0 := tyX9) pc' hp (by decide) rfl rfl inX9 tyX9_ok nmX9 (by decide) rfl (by decide +kernel) (Nat.le_of_ble_eq_true rfl) rfl rfl hl hd kk
theorem gf_Model_seenKind {idx : Nat} (pc' : Nat) (hp : pc + 3 = pc') (hl : Cond.fieldLink own idx "MustardTreatyModel" "seenKind" "[I" ∈ lw_tbl) (hd : decode cc pc = .ok (.getfield idx, 3)) (kk : G V E d own cc nL rt pc' lv (rf V 33 :: st) h post) : G V E d own cc nL rt pc lv (rf V 22 :: st) h post := g_get (k := 22) (ci := 9) (j := 21) (T := TX9) (C := RX9) (N := 30) pc' hp (by decide) rfl rfl inX9 (by decide) hl rfl hd kk
theorem gf_Model_seenHeat {idx : Nat} (pc' : Nat) (hp : pc + 3 = pc') (hl : Cond.fieldLink own idx "MustardTreatyModel" "seenHeat" "[I" ∈ lw_tbl) (hd : decode cc pc = .ok (.getfield idx, 3)) (kk : G V E d own cc nL rt pc' lv (rf V 34 :: st) h post) : G V E d own cc nL rt pc lv (rf V 22 :: st) h post := g_get (k := 22) (ci := 9) (j := 22) (T := TX9) (C := RX9) (N := 30) pc' hp (by decide) rfl rfl inX9 (by decide) hl rfl hd kk
theorem gf_Model_seenTears {idx : Nat} (pc' : Nat) (hp : pc + 3 = pc') (hl : Cond.fieldLink own idx "MustardTreatyModel" "seenTears" "[I" ∈ lw_tbl) (hd : decode cc pc = .ok (.getfield idx, 3)) (kk : G V E d own cc nL rt pc' lv (rf V 35 :: st) h post) : G V E d own cc nL rt pc lv (rf V 22 :: st) h post := g_get (k := 22) (ci := 9) (j := 23) (T := TX9) (C := RX9) (N := 30) pc' hp (by decide) rfl rfl inX9 (by decide) hl rfl hd kk
theorem gf_Model_seed {idx : Nat} (pc' : Nat) (hp : pc + 3 = pc') (hl : Cond.fieldLink own idx "MustardTreatyModel" "seed" "J" ∈ lw_tbl) (hd : decode cc pc = .ok (.getfield idx, 3)) (kk : G V E d own cc nL rt pc' lv (.long (h.2 1) :: st) h post) : G V E d own cc nL rt pc lv (rf V 22 :: st) h post := g_get (k := 22) (ci := 9) (j := 24) (T := TX9) (C := RX9) (N := 30) pc' hp (by decide) rfl rfl inX9 (by decide) hl rfl hd kk
theorem wd_sL1 (V : Vt) (h : Hp) (x : Int64) : (wd V h).set 22 (V.2.2.2.1 22, .inr (9, [.int (nI (h.1 22 0)), rf V 23, .int (nI (h.1 22 2)), .int (nI (h.1 22 3)), .int (nI (h.1 22 4)), rf V 24, .int (nI (h.1 22 6)), rf V 25, .int (nI (h.1 22 8)), .int (nI (h.1 22 9)), .int (nI (h.1 22 10)), rf V 26, .int (nI (h.1 22 12)), rf V 27, rf V 28, rf V 29, rf V 30, .int (nI (h.1 22 17)), rf V 31, rf V 32, .int (nI (h.1 22 20)), rf V 33, rf V 34, rf V 35, .long x, .int (nI (h.1 22 25)), .int (nI (h.1 22 26)), .int (nI (h.1 22 27)), .int (nI (h.1 22 28)), rf V 36])) = wd V (sL h 1 x) := by
  refine wd_set V (by decide) rfl ?_
  intro i hi hik
  exact cl_z1 V hik
theorem gp_Model_seed {idx : Nat} {x : Int64} (pc' : Nat) (hp : pc + 3 = pc') (hl : Cond.fieldLink own idx "MustardTreatyModel" "seed" "J" ∈ lw_tbl) (hd : decode cc pc = .ok (.putfield idx, 3)) (kk : G V E d own cc nL rt pc' lv (st) (sL h 1 x) post) : G V E d own cc nL rt pc lv (.long x :: rf V 22 :: st) h post := g_putl (k := 22) (ci := 9) (j := 24) (i := 1) (T := TX9) (C := RX9) (N := 30) (ty0 := tyX9) pc' hp (by decide) rfl rfl inX9 tyX9_ok nmX9 (by decide) rfl (by decide +kernel) (Nat.le_of_ble_eq_true rfl) (wd_sL1 V h x) hl hd kk
theorem gf_Model_bestWorth {idx : Nat} (pc' : Nat) (hp : pc + 3 = pc') (hl : Cond.fieldLink own idx "MustardTreatyModel" "bestWorth" "I" ∈ lw_tbl) (hd : decode cc pc = .ok (.getfield idx, 3)) (kk : G V E d own cc nL rt pc' lv (.int (nI (h.1 22 25)) :: st) h post) : G V E d own cc nL rt pc lv (rf V 22 :: st) h post := g_get (k := 22) (ci := 9) (j := 25) (T := TX9) (C := RX9) (N := 30) pc' hp (by decide) rfl rfl inX9 (by decide) hl rfl hd kk
theorem gp_Model_bestWorth {idx n : Nat} (pc' : Nat) (hp : pc + 3 = pc') (hl : Cond.fieldLink own idx "MustardTreatyModel" "bestWorth" "I" ∈ lw_tbl) (hd : decode cc pc = .ok (.putfield idx, 3)) (kk : G V E d own cc nL rt pc' lv (st) (sR h 22 (up (h.1 22) 25 n)) post) : G V E d own cc nL rt pc lv (.int (nI n) :: rf V 22 :: st) h post := g_put (k := 22) (ci := 9) (j := 25) (off := 25) (T := TX9) (C := RX9) (N := 30) (ty0 := tyX9) pc' hp (by decide) rfl rfl inX9 tyX9_ok nmX9 (by decide) rfl (by decide +kernel) (Nat.le_of_ble_eq_true rfl) rfl rfl hl hd kk
theorem gf_Model_bestRow {idx : Nat} (pc' : Nat) (hp : pc + 3 = pc') (hl : Cond.fieldLink own idx "MustardTreatyModel" "bestRow" "I" ∈ lw_tbl) (hd : decode cc pc = .ok (.getfield idx, 3)) (kk : G V E d own cc nL rt pc' lv (.int (nI (h.1 22 26)) :: st) h post) : G V E d own cc nL rt pc lv (rf V 22 :: st) h post := g_get (k := 22) (ci := 9) (j := 26) (T := TX9) (C := RX9) (N := 30) pc' hp (by decide) rfl rfl inX9 (by decide) hl rfl hd kk
theorem gp_Model_bestRow {idx n : Nat} (pc' : Nat) (hp : pc + 3 = pc') (hl : Cond.fieldLink own idx "MustardTreatyModel" "bestRow" "I" ∈ lw_tbl) (hd : decode cc pc = .ok (.putfield idx, 3)) (kk : G V E d own cc nL rt pc' lv (st) (sR h 22 (up (h.1 22) 26 n)) post) : G V E d own cc nL rt pc lv (.int (nI n) :: rf V 22 :: st) h post := g_put (k := 22) (ci := 9) (j := 26) (off := 26) (T := TX9) (C := RX9) (N := 30) (ty0 := tyX9) pc' hp (by decide) rfl rfl inX9 tyX9_ok nmX9 (by decide) rfl (by decide +kernel) (Nat.le_of_ble_eq_true rfl) rfl rfl hl hd kk
theorem gf_Model_restMany {idx : Nat} (pc' : Nat) (hp : pc + 3 = pc') (hl : Cond.fieldLink own idx "MustardTreatyModel" "restMany" "I" ∈ lw_tbl) (hd : decode cc pc = .ok (.getfield idx, 3)) (kk : G V E d own cc nL rt pc' lv (.int (nI (h.1 22 27)) :: st) h post) : G V E d own cc nL rt pc lv (rf V 22 :: st) h post := g_get (k := 22) (ci := 9) (j := 27) (T := TX9) (C := RX9) (N := 30) pc' hp (by decide) rfl rfl inX9 (by decide) hl rfl hd kk
theorem gp_Model_restMany {idx n : Nat} (pc' : Nat) (hp : pc + 3 = pc') (hl : Cond.fieldLink own idx "MustardTreatyModel" "restMany" "I" ∈ lw_tbl) (hd : decode cc pc = .ok (.putfield idx, 3)) (kk : G V E d own cc nL rt pc' lv (st) (sR h 22 (up (h.1 22) 27 n)) post) : G V E d own cc nL rt pc lv (.int (nI n) :: rf V 22 :: st) h post := g_put (k := 22) (ci := 9) (j := 27) (off := 27) (T := TX9) (C := RX9) (N := 30) (ty0 := tyX9) pc' hp (by decide) rfl rfl inX9 tyX9_ok nmX9 (by decide) rfl (by decide +kernel) (Nat.le_of_ble_eq_true rfl) rfl rfl hl hd kk
theorem gf_Model_restFirst {idx : Nat} (pc' : Nat) (hp : pc + 3 = pc') (hl : Cond.fieldLink own idx "MustardTreatyModel" "restFirst" "I" ∈ lw_tbl) (hd : decode cc pc = .ok (.getfield idx, 3)) (kk : G V E d own cc nL rt pc' lv (.int (nI (h.1 22 28)) :: st) h post) : G V E d own cc nL rt pc lv (rf V 22 :: st) h post := g_get (k := 22) (ci := 9) (j := 28) (T := TX9) (C := RX9) (N := 30) pc' hp (by decide) rfl rfl inX9 (by decide) hl rfl hd kk
theorem gp_Model_restFirst {idx n : Nat} (pc' : Nat) (hp : pc + 3 = pc') (hl : Cond.fieldLink own idx "MustardTreatyModel" "restFirst" "I" ∈ lw_tbl) (hd : decode cc pc = .ok (.putfield idx, 3)) (kk : G V E d own cc nL rt pc' lv (st) (sR h 22 (up (h.1 22) 28 n)) post) : G V E d own cc nL rt pc lv (.int (nI n) :: rf V 22 :: st) h post := g_put (k := 22) (ci := 9) (j := 28) (off := 28) (T := TX9) (C := RX9) (N := 30) (ty0 := tyX9) pc' hp (by decide) rfl rfl inX9 tyX9_ok nmX9 (by decide) rfl (by decide +kernel) (Nat.le_of_ble_eq_true rfl) rfl rfl hl hd kk
theorem gf_Model_value {idx : Nat} (pc' : Nat) (hp : pc + 3 = pc') (hl : Cond.fieldLink own idx "MustardTreatyModel" "value" "[I" ∈ lw_tbl) (hd : decode cc pc = .ok (.getfield idx, 3)) (kk : G V E d own cc nL rt pc' lv (rf V 36 :: st) h post) : G V E d own cc nL rt pc lv (rf V 22 :: st) h post := g_get (k := 22) (ci := 9) (j := 29) (T := TX9) (C := RX9) (N := 30) pc' hp (by decide) rfl rfl inX9 (by decide) hl rfl hd kk
theorem hc_tb (V : Vt) (h : Hp) (i : Nat) : cl V h.2 (tb i) (h.1 (rw (tb i))) = .inr (7, [rf V 3, .int (nI (h.1 (tr i) 0)), .int (nI (h.1 (tr i) 1)), .int (nI (h.1 (tr i) 6)), .int (nI (h.1 (tr i) 7)), .int (nI (h.1 (tr i) 8)), .int (nI (h.1 (tr i) 9)), rf V (tb i + 1)]) := by
  rw [rw_tb, cl_tb]
theorem gf_Table_rules {i idx : Nat} (pc' : Nat) (hp : pc + 3 = pc') (hi : i < 24) (hl : Cond.fieldLink own idx "MustardTreaty$Table" "rules" "LMustardTreaty$Rules;" ∈ lw_tbl) (hd : decode cc pc = .ok (.getfield idx, 3)) (kk : G V E d own cc nL rt pc' lv (rf V 3 :: st) h post) : G V E d own cc nL rt pc lv (rf V (tb i) :: st) h post := g_get (k := tb i) (ci := 7) (j := 0) (T := TX7) (C := RX7) (N := 8) pc' hp (by unfold tb; omega) (hc_tb V h i) rfl inX7 (by decide) hl rfl hd kk
theorem gf_Table_heat {i idx : Nat} (pc' : Nat) (hp : pc + 3 = pc') (hi : i < 24) (hl : Cond.fieldLink own idx "MustardTreaty$Table" "heat" "I" ∈ lw_tbl) (hd : decode cc pc = .ok (.getfield idx, 3)) (kk : G V E d own cc nL rt pc' lv (.int (nI (h.1 (tr i) 0)) :: st) h post) : G V E d own cc nL rt pc lv (rf V (tb i) :: st) h post := g_get (k := tb i) (ci := 7) (j := 1) (T := TX7) (C := RX7) (N := 8) pc' hp (by unfold tb; omega) (hc_tb V h i) rfl inX7 (by decide) hl rfl hd kk
theorem gp_Table_heat {i idx n : Nat} (pc' : Nat) (hp : pc + 3 = pc') (hi : i < 24) (hl : Cond.fieldLink own idx "MustardTreaty$Table" "heat" "I" ∈ lw_tbl) (hd : decode cc pc = .ok (.putfield idx, 3)) (kk : G V E d own cc nL rt pc' lv (st) (sR h (tr i) (up (h.1 (tr i)) 0 n)) post) : G V E d own cc nL rt pc lv (.int (nI n) :: rf V (tb i) :: st) h post := by
  refine g_put (k := tb i) (ci := 7) (j := 1) (off := 0) (T := TX7) (C := RX7) (N := 8) (ty0 := tyX7) pc' hp (by unfold tb; omega) (hc_tb V h i) rfl inX7 tyX7_ok nmX7 (by decide) rfl (by decide +kernel) (Nat.le_of_ble_eq_true rfl) (by rw [rw_tb]; exact ow_tb (by omega)) ?_ hl hd (by rw [rw_tb]; exact kk)
  rw [rw_tb, cl_tb]
  rfl
theorem gf_Table_store {i idx : Nat} (pc' : Nat) (hp : pc + 3 = pc') (hi : i < 24) (hl : Cond.fieldLink own idx "MustardTreaty$Table" "store" "I" ∈ lw_tbl) (hd : decode cc pc = .ok (.getfield idx, 3)) (kk : G V E d own cc nL rt pc' lv (.int (nI (h.1 (tr i) 1)) :: st) h post) : G V E d own cc nL rt pc lv (rf V (tb i) :: st) h post := g_get (k := tb i) (ci := 7) (j := 2) (T := TX7) (C := RX7) (N := 8) pc' hp (by unfold tb; omega) (hc_tb V h i) rfl inX7 (by decide) hl rfl hd kk
theorem gp_Table_store {i idx n : Nat} (pc' : Nat) (hp : pc + 3 = pc') (hi : i < 24) (hl : Cond.fieldLink own idx "MustardTreaty$Table" "store" "I" ∈ lw_tbl) (hd : decode cc pc = .ok (.putfield idx, 3)) (kk : G V E d own cc nL rt pc' lv (st) (sR h (tr i) (up (h.1 (tr i)) 1 n)) post) : G V E d own cc nL rt pc lv (.int (nI n) :: rf V (tb i) :: st) h post := by
  refine g_put (k := tb i) (ci := 7) (j := 2) (off := 1) (T := TX7) (C := RX7) (N := 8) (ty0 := tyX7) pc' hp (by unfold tb; omega) (hc_tb V h i) rfl inX7 tyX7_ok nmX7 (by decide) rfl (by decide +kernel) (Nat.le_of_ble_eq_true rfl) (by rw [rw_tb]; exact ow_tb (by omega)) ?_ hl hd (by rw [rw_tb]; exact kk)
  rw [rw_tb, cl_tb]
  rfl
theorem gf_Table_eating {i idx : Nat} (pc' : Nat) (hp : pc + 3 = pc') (hi : i < 24) (hl : Cond.fieldLink own idx "MustardTreaty$Table" "eating" "I" ∈ lw_tbl) (hd : decode cc pc = .ok (.getfield idx, 3)) (kk : G V E d own cc nL rt pc' lv (.int (nI (h.1 (tr i) 6)) :: st) h post) : G V E d own cc nL rt pc lv (rf V (tb i) :: st) h post := g_get (k := tb i) (ci := 7) (j := 3) (T := TX7) (C := RX7) (N := 8) pc' hp (by unfold tb; omega) (hc_tb V h i) rfl inX7 (by decide) hl rfl hd kk
theorem gp_Table_eating {i idx n : Nat} (pc' : Nat) (hp : pc + 3 = pc') (hi : i < 24) (hl : Cond.fieldLink own idx "MustardTreaty$Table" "eating" "I" ∈ lw_tbl) (hd : decode cc pc = .ok (.putfield idx, 3)) (kk : G V E d own cc nL rt pc' lv (st) (sR h (tr i) (up (h.1 (tr i)) 6 n)) post) : G V E d own cc nL rt pc lv (.int (nI n) :: rf V (tb i) :: st) h post := by
  refine g_put (k := tb i) (ci := 7) (j := 3) (off := 6) (T := TX7) (C := RX7) (N := 8) (ty0 := tyX7) pc' hp (by unfold tb; omega) (hc_tb V h i) rfl inX7 tyX7_ok nmX7 (by decide) rfl (by decide +kernel) (Nat.le_of_ble_eq_true rfl) (by rw [rw_tb]; exact ow_tb (by omega)) ?_ hl hd (by rw [rw_tb]; exact kk)
  rw [rw_tb, cl_tb]
  rfl
theorem gf_Table_fed {i idx : Nat} (pc' : Nat) (hp : pc + 3 = pc') (hi : i < 24) (hl : Cond.fieldLink own idx "MustardTreaty$Table" "fed" "I" ∈ lw_tbl) (hd : decode cc pc = .ok (.getfield idx, 3)) (kk : G V E d own cc nL rt pc' lv (.int (nI (h.1 (tr i) 7)) :: st) h post) : G V E d own cc nL rt pc lv (rf V (tb i) :: st) h post := g_get (k := tb i) (ci := 7) (j := 4) (T := TX7) (C := RX7) (N := 8) pc' hp (by unfold tb; omega) (hc_tb V h i) rfl inX7 (by decide) hl rfl hd kk
theorem gp_Table_fed {i idx n : Nat} (pc' : Nat) (hp : pc + 3 = pc') (hi : i < 24) (hl : Cond.fieldLink own idx "MustardTreaty$Table" "fed" "I" ∈ lw_tbl) (hd : decode cc pc = .ok (.putfield idx, 3)) (kk : G V E d own cc nL rt pc' lv (st) (sR h (tr i) (up (h.1 (tr i)) 7 n)) post) : G V E d own cc nL rt pc lv (.int (nI n) :: rf V (tb i) :: st) h post := by
  refine g_put (k := tb i) (ci := 7) (j := 4) (off := 7) (T := TX7) (C := RX7) (N := 8) (ty0 := tyX7) pc' hp (by unfold tb; omega) (hc_tb V h i) rfl inX7 tyX7_ok nmX7 (by decide) rfl (by decide +kernel) (Nat.le_of_ble_eq_true rfl) (by rw [rw_tb]; exact ow_tb (by omega)) ?_ hl hd (by rw [rw_tb]; exact kk)
  rw [rw_tb, cl_tb]
  rfl
theorem gf_Table_bound {i idx : Nat} (pc' : Nat) (hp : pc + 3 = pc') (hi : i < 24) (hl : Cond.fieldLink own idx "MustardTreaty$Table" "bound" "I" ∈ lw_tbl) (hd : decode cc pc = .ok (.getfield idx, 3)) (kk : G V E d own cc nL rt pc' lv (.int (nI (h.1 (tr i) 8)) :: st) h post) : G V E d own cc nL rt pc lv (rf V (tb i) :: st) h post := g_get (k := tb i) (ci := 7) (j := 5) (T := TX7) (C := RX7) (N := 8) pc' hp (by unfold tb; omega) (hc_tb V h i) rfl inX7 (by decide) hl rfl hd kk
theorem gp_Table_bound {i idx n : Nat} (pc' : Nat) (hp : pc + 3 = pc') (hi : i < 24) (hl : Cond.fieldLink own idx "MustardTreaty$Table" "bound" "I" ∈ lw_tbl) (hd : decode cc pc = .ok (.putfield idx, 3)) (kk : G V E d own cc nL rt pc' lv (st) (sR h (tr i) (up (h.1 (tr i)) 8 n)) post) : G V E d own cc nL rt pc lv (.int (nI n) :: rf V (tb i) :: st) h post := by
  refine g_put (k := tb i) (ci := 7) (j := 5) (off := 8) (T := TX7) (C := RX7) (N := 8) (ty0 := tyX7) pc' hp (by unfold tb; omega) (hc_tb V h i) rfl inX7 tyX7_ok nmX7 (by decide) rfl (by decide +kernel) (Nat.le_of_ble_eq_true rfl) (by rw [rw_tb]; exact ow_tb (by omega)) ?_ hl hd (by rw [rw_tb]; exact kk)
  rw [rw_tb, cl_tb]
  rfl
theorem gf_Table_bites {i idx : Nat} (pc' : Nat) (hp : pc + 3 = pc') (hi : i < 24) (hl : Cond.fieldLink own idx "MustardTreaty$Table" "bites" "I" ∈ lw_tbl) (hd : decode cc pc = .ok (.getfield idx, 3)) (kk : G V E d own cc nL rt pc' lv (.int (nI (h.1 (tr i) 9)) :: st) h post) : G V E d own cc nL rt pc lv (rf V (tb i) :: st) h post := g_get (k := tb i) (ci := 7) (j := 6) (T := TX7) (C := RX7) (N := 8) pc' hp (by unfold tb; omega) (hc_tb V h i) rfl inX7 (by decide) hl rfl hd kk
theorem gp_Table_bites {i idx n : Nat} (pc' : Nat) (hp : pc + 3 = pc') (hi : i < 24) (hl : Cond.fieldLink own idx "MustardTreaty$Table" "bites" "I" ∈ lw_tbl) (hd : decode cc pc = .ok (.putfield idx, 3)) (kk : G V E d own cc nL rt pc' lv (st) (sR h (tr i) (up (h.1 (tr i)) 9 n)) post) : G V E d own cc nL rt pc lv (.int (nI n) :: rf V (tb i) :: st) h post := by
  refine g_put (k := tb i) (ci := 7) (j := 6) (off := 9) (T := TX7) (C := RX7) (N := 8) (ty0 := tyX7) pc' hp (by unfold tb; omega) (hc_tb V h i) rfl inX7 tyX7_ok nmX7 (by decide) rfl (by decide +kernel) (Nat.le_of_ble_eq_true rfl) (by rw [rw_tb]; exact ow_tb (by omega)) ?_ hl hd (by rw [rw_tb]; exact kk)
  rw [rw_tb, cl_tb]
  rfl
theorem gf_Table_tears {i idx : Nat} (pc' : Nat) (hp : pc + 3 = pc') (hi : i < 24) (hl : Cond.fieldLink own idx "MustardTreaty$Table" "tears" "[I" ∈ lw_tbl) (hd : decode cc pc = .ok (.getfield idx, 3)) (kk : G V E d own cc nL rt pc' lv (rf V (tb i + 1) :: st) h post) : G V E d own cc nL rt pc lv (rf V (tb i) :: st) h post := g_get (k := tb i) (ci := 7) (j := 7) (T := TX7) (C := RX7) (N := 8) pc' hp (by unfold tb; omega) (hc_tb V h i) rfl inX7 (by decide) hl rfl hd kk
theorem g_iald {k n j : Nat} {f : Nat → Nat} (pc' : Nat) (hp : pc + 1 = pc') (hk : k < 85) (hc0 : cl V h.2 k (h.1 (rw k)) = ai V n f) (hj : j < n) (hn : n < 2 ^ 31) (hd : decode cc pc = .ok (.iaload, 1)) (kk : G V E d own cc nL rt pc' lv (.int (nI (f j)) :: st) h post) : G V E d own cc nL rt pc lv (.int (nI j) :: rf V k :: st) h post := by
  subst hp
  intro p e s m args below meth c R H locs ls cells slots Q C X hP hS hl hc
  have he := wd_at V h hk
  rw [hc0] at he
  refine va_iald (D := V.2.1) (cl := vwCl) C.1 C.2.1 C.2.2.2.2.2.2.2.1 hP k 0 he rfl (vp_in_nI hj hn) hd ?_
  rw [nI_clamp (by omega)]
  exact kk p e s m args below meth c R H locs ls cells slots Q C X hP hS hl hc
theorem g_zald {k n j : Nat} {f : Nat → Nat} (pc' : Nat) (hp : pc + 1 = pc') (hk : k < 85) (hc0 : cl V h.2 k (h.1 (rw k)) = az V n f) (hj : j < n) (hn : n < 2 ^ 31) (hd : decode cc pc = .ok (.baload, 1)) (kk : G V E d own cc nL rt pc' lv (.int (nI (f j)) :: st) h post) : G V E d own cc nL rt pc lv (.int (nI j) :: rf V k :: st) h post := by
  subst hp
  intro p e s m args below meth c R H locs ls cells slots Q C X hP hS hl hc
  have he := wd_at V h hk
  rw [hc0] at he
  refine va_zald (D := V.2.1) (cl := vwCl) C.1 C.2.1 C.2.2.2.2.2.2.2.1 hP k 1 he rfl (vp_in_nI hj hn) hd ?_
  rw [nI_clamp (by omega)]
  exact kk p e s m args below meth c R H locs ls cells slots Q C X hP hS hl hc
theorem g_aald {k n j : Nat} {f : Nat → Nat} (pc' : Nat) (hp : pc + 1 = pc') (hk : k < 85) (hc0 : cl V h.2 k (h.1 (rw k)) = aT V n f) (hj : j < n) (hn : n < 2 ^ 31) (hd : decode cc pc = .ok (.aaload, 1)) (kk : G V E d own cc nL rt pc' lv (rf V (f j) :: st) h post) : G V E d own cc nL rt pc lv (.int (nI j) :: rf V k :: st) h post := by
  subst hp
  intro p e s m args below meth c R H locs ls cells slots Q C X hP hS hl hc
  have he := wd_at V h hk
  rw [hc0] at he
  refine va_aldq (D := V.2.1) (cl := vwCl) (C := RX7) C.1 C.2.1 C.2.2.2.2.2.2.2.1 hP k 2 he rfl (vp_in_nI hj hn) hd ?_
  rw [nI_clamp (by omega)]
  exact kk p e s m args below meth c R H locs ls cells slots Q C X hP hS hl hc
theorem g_iast {k n j v off : Nat} {f f' : Nat → Nat} (pc' : Nat) (hp : pc + 1 = pc') (hk : k < 85) (hc0 : cl V h.2 k (h.1 (rw k)) = ai V n f) (hj : j < n) (hn : n < 2 ^ 31) (ho : ow (rw k) off = k) (he : cl V h.2 k (up (h.1 (rw k)) off v) = ai V n f') (hf : ∀ i, nI (f' i) = if i = j then nI v else nI (f i)) (hd : decode cc pc = .ok (.iastore, 1)) (kk : G V E d own cc nL rt pc' lv (st) (sR h (rw k) (up (h.1 (rw k)) off v)) post) : G V E d own cc nL rt pc lv (.int (nI v) :: .int (nI j) :: rf V k :: st) h post := by
  subst hp
  intro p e s m args below meth c R H locs ls cells slots Q C X hP hS hl hc
  have he0 := wd_at V h hk
  rw [hc0] at he0
  refine va_iast (D := V.2.1) (cl := vwCl) C.1 C.2.1 C.2.2.2.2.2.2.2.1 hP (C.2.2.2.2.2.2.2.2.1 h) hS k 0 he0 rfl (vp_in_nI hj hn) hd (fun H1 locs1 hP1 hD1 hS1 => ?_)
  rw [nI_clamp (by omega)] at hP1
  rw [show (upd (fun j => nI (f j)) j (nI v)) = fun i => nI (f' i) from funext fun i => ((hf i).symm)] at hP1
  have hP1 : va_P V.2.1 vwCl ((wd V h).set k (V.2.2.2.1 k, ai V n f')) H1 := hP1
  rw [wd_put V h hk ho he] at hP1
  exact kk p e s m args below meth c R H1 locs1 ls cells slots Q C X hP1 hS1 hl hc
theorem g_zast {k n j v off : Nat} {f f' : Nat → Nat} (pc' : Nat) (hp : pc + 1 = pc') (hk : k < 85) (hc0 : cl V h.2 k (h.1 (rw k)) = az V n f) (hj : j < n) (hn : n < 2 ^ 31) (ho : ow (rw k) off = k) (he : cl V h.2 k (up (h.1 (rw k)) off v) = az V n f') (hf : ∀ i, nI (f' i) = if i = j then vp_nar .boolean (nI v) else nI (f i)) (hd : decode cc pc = .ok (.bastore, 1)) (kk : G V E d own cc nL rt pc' lv (st) (sR h (rw k) (up (h.1 (rw k)) off v)) post) : G V E d own cc nL rt pc lv (.int (nI v) :: .int (nI j) :: rf V k :: st) h post := by
  subst hp
  intro p e s m args below meth c R H locs ls cells slots Q C X hP hS hl hc
  have he0 := wd_at V h hk
  rw [hc0] at he0
  refine va_zast (D := V.2.1) (cl := vwCl) C.1 C.2.1 C.2.2.2.2.2.2.2.1 hP (C.2.2.2.2.2.2.2.2.1 h) hS k 1 he0 rfl (vp_in_nI hj hn) hd (fun H1 locs1 hP1 hD1 hS1 => ?_)
  rw [nI_clamp (by omega)] at hP1
  rw [show (upd (fun j => nI (f j)) j (vp_nar .boolean (nI v))) = fun i => nI (f' i) from funext fun i => ((hf i).symm)] at hP1
  have hP1 : va_P V.2.1 vwCl ((wd V h).set k (V.2.2.2.1 k, az V n f')) H1 := hP1
  rw [wd_put V h hk ho he] at hP1
  exact kk p e s m args below meth c R H1 locs1 ls cells slots Q C X hP1 hS1 hl hc
theorem ga_2 {j : Nat} (pc' : Nat) (hp : pc + 1 = pc') (hj : j < 48) (hd : decode cc pc = .ok (.iaload, 1)) (kk : G V E d own cc nL rt pc' lv (.int (nI (h.1 2 j)) :: st) h post) : G V E d own cc nL rt pc lv (.int (nI j) :: rf V 2 :: st) h post := g_iald (k := 2) (n := 48) (f := fun j => h.1 2 j) pc' hp (by decide) rfl hj (by decide) hd kk
theorem gs_2 {j v : Nat} (pc' : Nat) (hp : pc + 1 = pc') (hj : j < 48) (hd : decode cc pc = .ok (.iastore, 1)) (kk : G V E d own cc nL rt pc' lv (st) (sR h 2 (up (h.1 2) (j) v)) post) : G V E d own cc nL rt pc lv (.int (nI v) :: .int (nI j) :: rf V 2 :: st) h post := g_iast (k := 2) (n := 48) (off := j) (f := fun j => h.1 2 j) (f' := fun i => up (h.1 2) (j) v (i)) pc' hp (by decide) rfl hj (by decide) rfl rfl (fun i => by
    show nI (if (i) = (j) then v else h.1 2 (i)) = _
    by_cases q : i = j
    · rw [if_pos (by omega), if_pos q]
    · rw [if_neg (by omega), if_neg q]) hd kk
theorem ga_4 {j : Nat} (pc' : Nat) (hp : pc + 1 = pc') (hj : j < 4) (hd : decode cc pc = .ok (.iaload, 1)) (kk : G V E d own cc nL rt pc' lv (.int (nI (h.1 4 (3 * j))) :: st) h post) : G V E d own cc nL rt pc lv (.int (nI j) :: rf V 4 :: st) h post := g_iald (k := 4) (n := 4) (f := fun j => h.1 4 (3 * j)) pc' hp (by decide) rfl hj (by decide) hd kk
theorem gs_4 {j v : Nat} (pc' : Nat) (hp : pc + 1 = pc') (hj : j < 4) (hd : decode cc pc = .ok (.iastore, 1)) (kk : G V E d own cc nL rt pc' lv (st) (sR h 4 (up (h.1 4) (3 * j) v)) post) : G V E d own cc nL rt pc lv (.int (nI v) :: .int (nI j) :: rf V 4 :: st) h post := g_iast (k := 4) (n := 4) (off := 3 * j) (f := fun j => h.1 4 (3 * j)) (f' := fun i => up (h.1 4) (3 * j) v (3 * i)) pc' hp (by decide) rfl hj (by decide) (show 4 + (3 * j) % 3 = 4 by omega) rfl (fun i => by
    show nI (if (3 * i) = (3 * j) then v else h.1 4 (3 * i)) = _
    by_cases q : i = j
    · rw [if_pos (by omega), if_pos q]
    · rw [if_neg (by omega), if_neg q]) hd kk
theorem ga_5 {j : Nat} (pc' : Nat) (hp : pc + 1 = pc') (hj : j < 4) (hd : decode cc pc = .ok (.iaload, 1)) (kk : G V E d own cc nL rt pc' lv (.int (nI (h.1 4 (3 * j + 1))) :: st) h post) : G V E d own cc nL rt pc lv (.int (nI j) :: rf V 5 :: st) h post := g_iald (k := 5) (n := 4) (f := fun j => h.1 4 (3 * j + 1)) pc' hp (by decide) rfl hj (by decide) hd kk
theorem gs_5 {j v : Nat} (pc' : Nat) (hp : pc + 1 = pc') (hj : j < 4) (hd : decode cc pc = .ok (.iastore, 1)) (kk : G V E d own cc nL rt pc' lv (st) (sR h 4 (up (h.1 4) (3 * j + 1) v)) post) : G V E d own cc nL rt pc lv (.int (nI v) :: .int (nI j) :: rf V 5 :: st) h post := g_iast (k := 5) (n := 4) (off := 3 * j + 1) (f := fun j => h.1 4 (3 * j + 1)) (f' := fun i => up (h.1 4) (3 * j + 1) v (3 * i + 1)) pc' hp (by decide) rfl hj (by decide) (show 4 + (3 * j + 1) % 3 = 5 by omega) rfl (fun i => by
    show nI (if (3 * i + 1) = (3 * j + 1) then v else h.1 4 (3 * i + 1)) = _
    by_cases q : i = j
    · rw [if_pos (by omega), if_pos q]
    · rw [if_neg (by omega), if_neg q]) hd kk
theorem ga_6 {j : Nat} (pc' : Nat) (hp : pc + 1 = pc') (hj : j < 4) (hd : decode cc pc = .ok (.iaload, 1)) (kk : G V E d own cc nL rt pc' lv (.int (nI (h.1 4 (3 * j + 2))) :: st) h post) : G V E d own cc nL rt pc lv (.int (nI j) :: rf V 6 :: st) h post := g_iald (k := 6) (n := 4) (f := fun j => h.1 4 (3 * j + 2)) pc' hp (by decide) rfl hj (by decide) hd kk
theorem gs_6 {j v : Nat} (pc' : Nat) (hp : pc + 1 = pc') (hj : j < 4) (hd : decode cc pc = .ok (.iastore, 1)) (kk : G V E d own cc nL rt pc' lv (st) (sR h 4 (up (h.1 4) (3 * j + 2) v)) post) : G V E d own cc nL rt pc lv (.int (nI v) :: .int (nI j) :: rf V 6 :: st) h post := g_iast (k := 6) (n := 4) (off := 3 * j + 2) (f := fun j => h.1 4 (3 * j + 2)) (f' := fun i => up (h.1 4) (3 * j + 2) v (3 * i + 2)) pc' hp (by decide) rfl hj (by decide) (show 4 + (3 * j + 2) % 3 = 6 by omega) rfl (fun i => by
    show nI (if (3 * i + 2) = (3 * j + 2) then v else h.1 4 (3 * i + 2)) = _
    by_cases q : i = j
    · rw [if_pos (by omega), if_pos q]
    · rw [if_neg (by omega), if_neg q]) hd kk
theorem ga_7 {j : Nat} (pc' : Nat) (hp : pc + 1 = pc') (hj : j < 5) (hd : decode cc pc = .ok (.iaload, 1)) (kk : G V E d own cc nL rt pc' lv (.int (nI (h.1 7 (3 * j))) :: st) h post) : G V E d own cc nL rt pc lv (.int (nI j) :: rf V 7 :: st) h post := g_iald (k := 7) (n := 5) (f := fun j => h.1 7 (3 * j)) pc' hp (by decide) rfl hj (by decide) hd kk
theorem gs_7 {j v : Nat} (pc' : Nat) (hp : pc + 1 = pc') (hj : j < 5) (hd : decode cc pc = .ok (.iastore, 1)) (kk : G V E d own cc nL rt pc' lv (st) (sR h 7 (up (h.1 7) (3 * j) v)) post) : G V E d own cc nL rt pc lv (.int (nI v) :: .int (nI j) :: rf V 7 :: st) h post := g_iast (k := 7) (n := 5) (off := 3 * j) (f := fun j => h.1 7 (3 * j)) (f' := fun i => up (h.1 7) (3 * j) v (3 * i)) pc' hp (by decide) rfl hj (by decide) (show 7 + (3 * j) % 3 = 7 by omega) rfl (fun i => by
    show nI (if (3 * i) = (3 * j) then v else h.1 7 (3 * i)) = _
    by_cases q : i = j
    · rw [if_pos (by omega), if_pos q]
    · rw [if_neg (by omega), if_neg q]) hd kk
theorem ga_8 {j : Nat} (pc' : Nat) (hp : pc + 1 = pc') (hj : j < 5) (hd : decode cc pc = .ok (.iaload, 1)) (kk : G V E d own cc nL rt pc' lv (.int (nI (h.1 7 (3 * j + 1))) :: st) h post) : G V E d own cc nL rt pc lv (.int (nI j) :: rf V 8 :: st) h post := g_iald (k := 8) (n := 5) (f := fun j => h.1 7 (3 * j + 1)) pc' hp (by decide) rfl hj (by decide) hd kk
theorem gs_8 {j v : Nat} (pc' : Nat) (hp : pc + 1 = pc') (hj : j < 5) (hd : decode cc pc = .ok (.iastore, 1)) (kk : G V E d own cc nL rt pc' lv (st) (sR h 7 (up (h.1 7) (3 * j + 1) v)) post) : G V E d own cc nL rt pc lv (.int (nI v) :: .int (nI j) :: rf V 8 :: st) h post := g_iast (k := 8) (n := 5) (off := 3 * j + 1) (f := fun j => h.1 7 (3 * j + 1)) (f' := fun i => up (h.1 7) (3 * j + 1) v (3 * i + 1)) pc' hp (by decide) rfl hj (by decide) (show 7 + (3 * j + 1) % 3 = 8 by omega) rfl (fun i => by
    show nI (if (3 * i + 1) = (3 * j + 1) then v else h.1 7 (3 * i + 1)) = _
    by_cases q : i = j
    · rw [if_pos (by omega), if_pos q]
    · rw [if_neg (by omega), if_neg q]) hd kk
theorem ga_9 {j : Nat} (pc' : Nat) (hp : pc + 1 = pc') (hj : j < 5) (hd : decode cc pc = .ok (.iaload, 1)) (kk : G V E d own cc nL rt pc' lv (.int (nI (h.1 7 (3 * j + 2))) :: st) h post) : G V E d own cc nL rt pc lv (.int (nI j) :: rf V 9 :: st) h post := g_iald (k := 9) (n := 5) (f := fun j => h.1 7 (3 * j + 2)) pc' hp (by decide) rfl hj (by decide) hd kk
theorem gs_9 {j v : Nat} (pc' : Nat) (hp : pc + 1 = pc') (hj : j < 5) (hd : decode cc pc = .ok (.iastore, 1)) (kk : G V E d own cc nL rt pc' lv (st) (sR h 7 (up (h.1 7) (3 * j + 2) v)) post) : G V E d own cc nL rt pc lv (.int (nI v) :: .int (nI j) :: rf V 9 :: st) h post := g_iast (k := 9) (n := 5) (off := 3 * j + 2) (f := fun j => h.1 7 (3 * j + 2)) (f' := fun i => up (h.1 7) (3 * j + 2) v (3 * i + 2)) pc' hp (by decide) rfl hj (by decide) (show 7 + (3 * j + 2) % 3 = 9 by omega) rfl (fun i => by
    show nI (if (3 * i + 2) = (3 * j + 2) then v else h.1 7 (3 * i + 2)) = _
    by_cases q : i = j
    · rw [if_pos (by omega), if_pos q]
    · rw [if_neg (by omega), if_neg q]) hd kk
theorem ga_11 {j : Nat} (pc' : Nat) (hp : pc + 1 = pc') (hj : j < 14) (hd : decode cc pc = .ok (.aaload, 1)) (kk : G V E d own cc nL rt pc' lv (rf V (tb (j + 2)) :: st) h post) : G V E d own cc nL rt pc lv (.int (nI j) :: rf V 11 :: st) h post := g_aald (k := 11) pc' hp (by decide) rfl hj (by decide) hd kk
theorem ga_13 {j : Nat} (pc' : Nat) (hp : pc + 1 = pc') (hj : j < 2) (hd : decode cc pc = .ok (.aaload, 1)) (kk : G V E d own cc nL rt pc' lv (rf V (tb (j + 16)) :: st) h post) : G V E d own cc nL rt pc lv (.int (nI j) :: rf V 13 :: st) h post := g_aald (k := 13) pc' hp (by decide) rfl hj (by decide) hd kk
theorem ga_14 {j : Nat} (pc' : Nat) (hp : pc + 1 = pc') (hj : j < 2) (hd : decode cc pc = .ok (.baload, 1)) (kk : G V E d own cc nL rt pc' lv (.int (nI (h.1 14 j)) :: st) h post) : G V E d own cc nL rt pc lv (.int (nI j) :: rf V 14 :: st) h post := g_zald (k := 14) (n := 2) (f := fun j => h.1 14 j) pc' hp (by decide) rfl hj (by decide) hd kk
theorem gs_14 {j v : Nat} (pc' : Nat) (hp : pc + 1 = pc') (hj : j < 2) (hv : v < 2) (hd : decode cc pc = .ok (.bastore, 1)) (kk : G V E d own cc nL rt pc' lv (st) (sR h 14 (up (h.1 14) (j) v)) post) : G V E d own cc nL rt pc lv (.int (nI v) :: .int (nI j) :: rf V 14 :: st) h post := g_zast (k := 14) (n := 2) (off := j) (f := fun j => h.1 14 j) (f' := fun i => up (h.1 14) (j) v (i)) pc' hp (by decide) rfl hj (by decide) rfl rfl (fun i => by
    show nI (if (i) = (j) then v else h.1 14 (i)) = _
    by_cases q : i = j
    · rw [if_pos (by omega), if_pos q]
      exact bnar hv
    · rw [if_neg (by omega), if_neg q]) hd kk
theorem ga_16 {j : Nat} (pc' : Nat) (hp : pc + 1 = pc') (hj : j < 6) (hd : decode cc pc = .ok (.iaload, 1)) (kk : G V E d own cc nL rt pc' lv (.int (nI (h.1 16 j)) :: st) h post) : G V E d own cc nL rt pc lv (.int (nI j) :: rf V 16 :: st) h post := g_iald (k := 16) (n := 6) (f := fun j => h.1 16 j) pc' hp (by decide) rfl hj (by decide) hd kk
theorem gs_16 {j v : Nat} (pc' : Nat) (hp : pc + 1 = pc') (hj : j < 6) (hd : decode cc pc = .ok (.iastore, 1)) (kk : G V E d own cc nL rt pc' lv (st) (sR h 16 (up (h.1 16) (j) v)) post) : G V E d own cc nL rt pc lv (.int (nI v) :: .int (nI j) :: rf V 16 :: st) h post := g_iast (k := 16) (n := 6) (off := j) (f := fun j => h.1 16 j) (f' := fun i => up (h.1 16) (j) v (i)) pc' hp (by decide) rfl hj (by decide) rfl rfl (fun i => by
    show nI (if (i) = (j) then v else h.1 16 (i)) = _
    by_cases q : i = j
    · rw [if_pos (by omega), if_pos q]
    · rw [if_neg (by omega), if_neg q]) hd kk
theorem ga_17 {j : Nat} (pc' : Nat) (hp : pc + 1 = pc') (hj : j < 6) (hd : decode cc pc = .ok (.iaload, 1)) (kk : G V E d own cc nL rt pc' lv (.int (nI (h.1 17 j)) :: st) h post) : G V E d own cc nL rt pc lv (.int (nI j) :: rf V 17 :: st) h post := g_iald (k := 17) (n := 6) (f := fun j => h.1 17 j) pc' hp (by decide) rfl hj (by decide) hd kk
theorem gs_17 {j v : Nat} (pc' : Nat) (hp : pc + 1 = pc') (hj : j < 6) (hd : decode cc pc = .ok (.iastore, 1)) (kk : G V E d own cc nL rt pc' lv (st) (sR h 17 (up (h.1 17) (j) v)) post) : G V E d own cc nL rt pc lv (.int (nI v) :: .int (nI j) :: rf V 17 :: st) h post := g_iast (k := 17) (n := 6) (off := j) (f := fun j => h.1 17 j) (f' := fun i => up (h.1 17) (j) v (i)) pc' hp (by decide) rfl hj (by decide) rfl rfl (fun i => by
    show nI (if (i) = (j) then v else h.1 17 (i)) = _
    by_cases q : i = j
    · rw [if_pos (by omega), if_pos q]
    · rw [if_neg (by omega), if_neg q]) hd kk
theorem ga_18 {j : Nat} (pc' : Nat) (hp : pc + 1 = pc') (hj : j < 6) (hd : decode cc pc = .ok (.iaload, 1)) (kk : G V E d own cc nL rt pc' lv (.int (nI (h.1 18 j)) :: st) h post) : G V E d own cc nL rt pc lv (.int (nI j) :: rf V 18 :: st) h post := g_iald (k := 18) (n := 6) (f := fun j => h.1 18 j) pc' hp (by decide) rfl hj (by decide) hd kk
theorem gs_18 {j v : Nat} (pc' : Nat) (hp : pc + 1 = pc') (hj : j < 6) (hd : decode cc pc = .ok (.iastore, 1)) (kk : G V E d own cc nL rt pc' lv (st) (sR h 18 (up (h.1 18) (j) v)) post) : G V E d own cc nL rt pc lv (.int (nI v) :: .int (nI j) :: rf V 18 :: st) h post := g_iast (k := 18) (n := 6) (off := j) (f := fun j => h.1 18 j) (f' := fun i => up (h.1 18) (j) v (i)) pc' hp (by decide) rfl hj (by decide) rfl rfl (fun i => by
    show nI (if (i) = (j) then v else h.1 18 (i)) = _
    by_cases q : i = j
    · rw [if_pos (by omega), if_pos q]
    · rw [if_neg (by omega), if_neg q]) hd kk
theorem ga_20 {j : Nat} (pc' : Nat) (hp : pc + 1 = pc') (hj : j < 6) (hd : decode cc pc = .ok (.aaload, 1)) (kk : G V E d own cc nL rt pc' lv (rf V (tb (j + 18)) :: st) h post) : G V E d own cc nL rt pc lv (.int (nI j) :: rf V 20 :: st) h post := g_aald (k := 20) pc' hp (by decide) rfl hj (by decide) hd kk
theorem ga_23 {j : Nat} (pc' : Nat) (hp : pc + 1 = pc') (hj : j < 48) (hd : decode cc pc = .ok (.iaload, 1)) (kk : G V E d own cc nL rt pc' lv (.int (nI (h.1 23 j)) :: st) h post) : G V E d own cc nL rt pc lv (.int (nI j) :: rf V 23 :: st) h post := g_iald (k := 23) (n := 48) (f := fun j => h.1 23 j) pc' hp (by decide) rfl hj (by decide) hd kk
theorem gs_23 {j v : Nat} (pc' : Nat) (hp : pc + 1 = pc') (hj : j < 48) (hd : decode cc pc = .ok (.iastore, 1)) (kk : G V E d own cc nL rt pc' lv (st) (sR h 23 (up (h.1 23) (j) v)) post) : G V E d own cc nL rt pc lv (.int (nI v) :: .int (nI j) :: rf V 23 :: st) h post := g_iast (k := 23) (n := 48) (off := j) (f := fun j => h.1 23 j) (f' := fun i => up (h.1 23) (j) v (i)) pc' hp (by decide) rfl hj (by decide) rfl rfl (fun i => by
    show nI (if (i) = (j) then v else h.1 23 (i)) = _
    by_cases q : i = j
    · rw [if_pos (by omega), if_pos q]
    · rw [if_neg (by omega), if_neg q]) hd kk
theorem ga_24 {j : Nat} (pc' : Nat) (hp : pc + 1 = pc') (hj : j < 12) (hd : decode cc pc = .ok (.iaload, 1)) (kk : G V E d own cc nL rt pc' lv (.int (nI (h.1 24 j)) :: st) h post) : G V E d own cc nL rt pc lv (.int (nI j) :: rf V 24 :: st) h post := g_iald (k := 24) (n := 12) (f := fun j => h.1 24 j) pc' hp (by decide) rfl hj (by decide) hd kk
theorem gs_24 {j v : Nat} (pc' : Nat) (hp : pc + 1 = pc') (hj : j < 12) (hd : decode cc pc = .ok (.iastore, 1)) (kk : G V E d own cc nL rt pc' lv (st) (sR h 24 (up (h.1 24) (j) v)) post) : G V E d own cc nL rt pc lv (.int (nI v) :: .int (nI j) :: rf V 24 :: st) h post := g_iast (k := 24) (n := 12) (off := j) (f := fun j => h.1 24 j) (f' := fun i => up (h.1 24) (j) v (i)) pc' hp (by decide) rfl hj (by decide) rfl rfl (fun i => by
    show nI (if (i) = (j) then v else h.1 24 (i)) = _
    by_cases q : i = j
    · rw [if_pos (by omega), if_pos q]
    · rw [if_neg (by omega), if_neg q]) hd kk
theorem ga_25 {j : Nat} (pc' : Nat) (hp : pc + 1 = pc') (hj : j < 15) (hd : decode cc pc = .ok (.iaload, 1)) (kk : G V E d own cc nL rt pc' lv (.int (nI (h.1 25 j)) :: st) h post) : G V E d own cc nL rt pc lv (.int (nI j) :: rf V 25 :: st) h post := g_iald (k := 25) (n := 15) (f := fun j => h.1 25 j) pc' hp (by decide) rfl hj (by decide) hd kk
theorem gs_25 {j v : Nat} (pc' : Nat) (hp : pc + 1 = pc') (hj : j < 15) (hd : decode cc pc = .ok (.iastore, 1)) (kk : G V E d own cc nL rt pc' lv (st) (sR h 25 (up (h.1 25) (j) v)) post) : G V E d own cc nL rt pc lv (.int (nI v) :: .int (nI j) :: rf V 25 :: st) h post := g_iast (k := 25) (n := 15) (off := j) (f := fun j => h.1 25 j) (f' := fun i => up (h.1 25) (j) v (i)) pc' hp (by decide) rfl hj (by decide) rfl rfl (fun i => by
    show nI (if (i) = (j) then v else h.1 25 (i)) = _
    by_cases q : i = j
    · rw [if_pos (by omega), if_pos q]
    · rw [if_neg (by omega), if_neg q]) hd kk
theorem ga_26 {j : Nat} (pc' : Nat) (hp : pc + 1 = pc') (hj : j < 12) (hd : decode cc pc = .ok (.iaload, 1)) (kk : G V E d own cc nL rt pc' lv (.int (nI (h.1 26 j)) :: st) h post) : G V E d own cc nL rt pc lv (.int (nI j) :: rf V 26 :: st) h post := g_iald (k := 26) (n := 12) (f := fun j => h.1 26 j) pc' hp (by decide) rfl hj (by decide) hd kk
theorem gs_26 {j v : Nat} (pc' : Nat) (hp : pc + 1 = pc') (hj : j < 12) (hd : decode cc pc = .ok (.iastore, 1)) (kk : G V E d own cc nL rt pc' lv (st) (sR h 26 (up (h.1 26) (j) v)) post) : G V E d own cc nL rt pc lv (.int (nI v) :: .int (nI j) :: rf V 26 :: st) h post := g_iast (k := 26) (n := 12) (off := j) (f := fun j => h.1 26 j) (f' := fun i => up (h.1 26) (j) v (i)) pc' hp (by decide) rfl hj (by decide) rfl rfl (fun i => by
    show nI (if (i) = (j) then v else h.1 26 (i)) = _
    by_cases q : i = j
    · rw [if_pos (by omega), if_pos q]
    · rw [if_neg (by omega), if_neg q]) hd kk
theorem ga_27 {j : Nat} (pc' : Nat) (hp : pc + 1 = pc') (hj : j < 15) (hd : decode cc pc = .ok (.iaload, 1)) (kk : G V E d own cc nL rt pc' lv (.int (nI (h.1 27 j)) :: st) h post) : G V E d own cc nL rt pc lv (.int (nI j) :: rf V 27 :: st) h post := g_iald (k := 27) (n := 15) (f := fun j => h.1 27 j) pc' hp (by decide) rfl hj (by decide) hd kk
theorem gs_27 {j v : Nat} (pc' : Nat) (hp : pc + 1 = pc') (hj : j < 15) (hd : decode cc pc = .ok (.iastore, 1)) (kk : G V E d own cc nL rt pc' lv (st) (sR h 27 (up (h.1 27) (j) v)) post) : G V E d own cc nL rt pc lv (.int (nI v) :: .int (nI j) :: rf V 27 :: st) h post := g_iast (k := 27) (n := 15) (off := j) (f := fun j => h.1 27 j) (f' := fun i => up (h.1 27) (j) v (i)) pc' hp (by decide) rfl hj (by decide) rfl rfl (fun i => by
    show nI (if (i) = (j) then v else h.1 27 (i)) = _
    by_cases q : i = j
    · rw [if_pos (by omega), if_pos q]
    · rw [if_neg (by omega), if_neg q]) hd kk
theorem ga_28 {j : Nat} (pc' : Nat) (hp : pc + 1 = pc') (hj : j < 10) (hd : decode cc pc = .ok (.iaload, 1)) (kk : G V E d own cc nL rt pc' lv (.int (nI (h.1 28 j)) :: st) h post) : G V E d own cc nL rt pc lv (.int (nI j) :: rf V 28 :: st) h post := g_iald (k := 28) (n := 10) (f := fun j => h.1 28 j) pc' hp (by decide) rfl hj (by decide) hd kk
theorem gs_28 {j v : Nat} (pc' : Nat) (hp : pc + 1 = pc') (hj : j < 10) (hd : decode cc pc = .ok (.iastore, 1)) (kk : G V E d own cc nL rt pc' lv (st) (sR h 28 (up (h.1 28) (j) v)) post) : G V E d own cc nL rt pc lv (.int (nI v) :: .int (nI j) :: rf V 28 :: st) h post := g_iast (k := 28) (n := 10) (off := j) (f := fun j => h.1 28 j) (f' := fun i => up (h.1 28) (j) v (i)) pc' hp (by decide) rfl hj (by decide) rfl rfl (fun i => by
    show nI (if (i) = (j) then v else h.1 28 (i)) = _
    by_cases q : i = j
    · rw [if_pos (by omega), if_pos q]
    · rw [if_neg (by omega), if_neg q]) hd kk
theorem ga_29 {j : Nat} (pc' : Nat) (hp : pc + 1 = pc') (hj : j < 10) (hd : decode cc pc = .ok (.iaload, 1)) (kk : G V E d own cc nL rt pc' lv (.int (nI (h.1 29 j)) :: st) h post) : G V E d own cc nL rt pc lv (.int (nI j) :: rf V 29 :: st) h post := g_iald (k := 29) (n := 10) (f := fun j => h.1 29 j) pc' hp (by decide) rfl hj (by decide) hd kk
theorem gs_29 {j v : Nat} (pc' : Nat) (hp : pc + 1 = pc') (hj : j < 10) (hd : decode cc pc = .ok (.iastore, 1)) (kk : G V E d own cc nL rt pc' lv (st) (sR h 29 (up (h.1 29) (j) v)) post) : G V E d own cc nL rt pc lv (.int (nI v) :: .int (nI j) :: rf V 29 :: st) h post := g_iast (k := 29) (n := 10) (off := j) (f := fun j => h.1 29 j) (f' := fun i => up (h.1 29) (j) v (i)) pc' hp (by decide) rfl hj (by decide) rfl rfl (fun i => by
    show nI (if (i) = (j) then v else h.1 29 (i)) = _
    by_cases q : i = j
    · rw [if_pos (by omega), if_pos q]
    · rw [if_neg (by omega), if_neg q]) hd kk
theorem ga_30 {j : Nat} (pc' : Nat) (hp : pc + 1 = pc') (hj : j < 140) (hd : decode cc pc = .ok (.iaload, 1)) (kk : G V E d own cc nL rt pc' lv (.int (nI (h.1 30 j)) :: st) h post) : G V E d own cc nL rt pc lv (.int (nI j) :: rf V 30 :: st) h post := g_iald (k := 30) (n := 140) (f := fun j => h.1 30 j) pc' hp (by decide) rfl hj (by decide) hd kk
theorem gs_30 {j v : Nat} (pc' : Nat) (hp : pc + 1 = pc') (hj : j < 140) (hd : decode cc pc = .ok (.iastore, 1)) (kk : G V E d own cc nL rt pc' lv (st) (sR h 30 (up (h.1 30) (j) v)) post) : G V E d own cc nL rt pc lv (.int (nI v) :: .int (nI j) :: rf V 30 :: st) h post := g_iast (k := 30) (n := 140) (off := j) (f := fun j => h.1 30 j) (f' := fun i => up (h.1 30) (j) v (i)) pc' hp (by decide) rfl hj (by decide) rfl rfl (fun i => by
    show nI (if (i) = (j) then v else h.1 30 (i)) = _
    by_cases q : i = j
    · rw [if_pos (by omega), if_pos q]
    · rw [if_neg (by omega), if_neg q]) hd kk
theorem ga_31 {j : Nat} (pc' : Nat) (hp : pc + 1 = pc') (hj : j < 20) (hd : decode cc pc = .ok (.iaload, 1)) (kk : G V E d own cc nL rt pc' lv (.int (nI (h.1 31 j)) :: st) h post) : G V E d own cc nL rt pc lv (.int (nI j) :: rf V 31 :: st) h post := g_iald (k := 31) (n := 20) (f := fun j => h.1 31 j) pc' hp (by decide) rfl hj (by decide) hd kk
theorem gs_31 {j v : Nat} (pc' : Nat) (hp : pc + 1 = pc') (hj : j < 20) (hd : decode cc pc = .ok (.iastore, 1)) (kk : G V E d own cc nL rt pc' lv (st) (sR h 31 (up (h.1 31) (j) v)) post) : G V E d own cc nL rt pc lv (.int (nI v) :: .int (nI j) :: rf V 31 :: st) h post := g_iast (k := 31) (n := 20) (off := j) (f := fun j => h.1 31 j) (f' := fun i => up (h.1 31) (j) v (i)) pc' hp (by decide) rfl hj (by decide) rfl rfl (fun i => by
    show nI (if (i) = (j) then v else h.1 31 (i)) = _
    by_cases q : i = j
    · rw [if_pos (by omega), if_pos q]
    · rw [if_neg (by omega), if_neg q]) hd kk
theorem ga_32 {j : Nat} (pc' : Nat) (hp : pc + 1 = pc') (hj : j < 2) (hd : decode cc pc = .ok (.baload, 1)) (kk : G V E d own cc nL rt pc' lv (.int (nI (h.1 32 j)) :: st) h post) : G V E d own cc nL rt pc lv (.int (nI j) :: rf V 32 :: st) h post := g_zald (k := 32) (n := 2) (f := fun j => h.1 32 j) pc' hp (by decide) rfl hj (by decide) hd kk
theorem gs_32 {j v : Nat} (pc' : Nat) (hp : pc + 1 = pc') (hj : j < 2) (hv : v < 2) (hd : decode cc pc = .ok (.bastore, 1)) (kk : G V E d own cc nL rt pc' lv (st) (sR h 32 (up (h.1 32) (j) v)) post) : G V E d own cc nL rt pc lv (.int (nI v) :: .int (nI j) :: rf V 32 :: st) h post := g_zast (k := 32) (n := 2) (off := j) (f := fun j => h.1 32 j) (f' := fun i => up (h.1 32) (j) v (i)) pc' hp (by decide) rfl hj (by decide) rfl rfl (fun i => by
    show nI (if (i) = (j) then v else h.1 32 (i)) = _
    by_cases q : i = j
    · rw [if_pos (by omega), if_pos q]
      exact bnar hv
    · rw [if_neg (by omega), if_neg q]) hd kk
theorem ga_33 {j : Nat} (pc' : Nat) (hp : pc + 1 = pc') (hj : j < 6) (hd : decode cc pc = .ok (.iaload, 1)) (kk : G V E d own cc nL rt pc' lv (.int (nI (h.1 33 j)) :: st) h post) : G V E d own cc nL rt pc lv (.int (nI j) :: rf V 33 :: st) h post := g_iald (k := 33) (n := 6) (f := fun j => h.1 33 j) pc' hp (by decide) rfl hj (by decide) hd kk
theorem gs_33 {j v : Nat} (pc' : Nat) (hp : pc + 1 = pc') (hj : j < 6) (hd : decode cc pc = .ok (.iastore, 1)) (kk : G V E d own cc nL rt pc' lv (st) (sR h 33 (up (h.1 33) (j) v)) post) : G V E d own cc nL rt pc lv (.int (nI v) :: .int (nI j) :: rf V 33 :: st) h post := g_iast (k := 33) (n := 6) (off := j) (f := fun j => h.1 33 j) (f' := fun i => up (h.1 33) (j) v (i)) pc' hp (by decide) rfl hj (by decide) rfl rfl (fun i => by
    show nI (if (i) = (j) then v else h.1 33 (i)) = _
    by_cases q : i = j
    · rw [if_pos (by omega), if_pos q]
    · rw [if_neg (by omega), if_neg q]) hd kk
theorem ga_34 {j : Nat} (pc' : Nat) (hp : pc + 1 = pc') (hj : j < 6) (hd : decode cc pc = .ok (.iaload, 1)) (kk : G V E d own cc nL rt pc' lv (.int (nI (h.1 34 j)) :: st) h post) : G V E d own cc nL rt pc lv (.int (nI j) :: rf V 34 :: st) h post := g_iald (k := 34) (n := 6) (f := fun j => h.1 34 j) pc' hp (by decide) rfl hj (by decide) hd kk
theorem gs_34 {j v : Nat} (pc' : Nat) (hp : pc + 1 = pc') (hj : j < 6) (hd : decode cc pc = .ok (.iastore, 1)) (kk : G V E d own cc nL rt pc' lv (st) (sR h 34 (up (h.1 34) (j) v)) post) : G V E d own cc nL rt pc lv (.int (nI v) :: .int (nI j) :: rf V 34 :: st) h post := g_iast (k := 34) (n := 6) (off := j) (f := fun j => h.1 34 j) (f' := fun i => up (h.1 34) (j) v (i)) pc' hp (by decide) rfl hj (by decide) rfl rfl (fun i => by
    show nI (if (i) = (j) then v else h.1 34 (i)) = _
    by_cases q : i = j
    · rw [if_pos (by omega), if_pos q]
    · rw [if_neg (by omega), if_neg q]) hd kk
theorem ga_35 {j : Nat} (pc' : Nat) (hp : pc + 1 = pc') (hj : j < 6) (hd : decode cc pc = .ok (.iaload, 1)) (kk : G V E d own cc nL rt pc' lv (.int (nI (h.1 35 j)) :: st) h post) : G V E d own cc nL rt pc lv (.int (nI j) :: rf V 35 :: st) h post := g_iald (k := 35) (n := 6) (f := fun j => h.1 35 j) pc' hp (by decide) rfl hj (by decide) hd kk
theorem gs_35 {j v : Nat} (pc' : Nat) (hp : pc + 1 = pc') (hj : j < 6) (hd : decode cc pc = .ok (.iastore, 1)) (kk : G V E d own cc nL rt pc' lv (st) (sR h 35 (up (h.1 35) (j) v)) post) : G V E d own cc nL rt pc lv (.int (nI v) :: .int (nI j) :: rf V 35 :: st) h post := g_iast (k := 35) (n := 6) (off := j) (f := fun j => h.1 35 j) (f' := fun i => up (h.1 35) (j) v (i)) pc' hp (by decide) rfl hj (by decide) rfl rfl (fun i => by
    show nI (if (i) = (j) then v else h.1 35 (i)) = _
    by_cases q : i = j
    · rw [if_pos (by omega), if_pos q]
    · rw [if_neg (by omega), if_neg q]) hd kk
theorem ga_36 {j : Nat} (pc' : Nat) (hp : pc + 1 = pc') (hj : j < 16) (hd : decode cc pc = .ok (.iaload, 1)) (kk : G V E d own cc nL rt pc' lv (.int (nI (h.1 36 j)) :: st) h post) : G V E d own cc nL rt pc lv (.int (nI j) :: rf V 36 :: st) h post := g_iald (k := 36) (n := 16) (f := fun j => h.1 36 j) pc' hp (by decide) rfl hj (by decide) hd kk
theorem gs_36 {j v : Nat} (pc' : Nat) (hp : pc + 1 = pc') (hj : j < 16) (hd : decode cc pc = .ok (.iastore, 1)) (kk : G V E d own cc nL rt pc' lv (st) (sR h 36 (up (h.1 36) (j) v)) post) : G V E d own cc nL rt pc lv (.int (nI v) :: .int (nI j) :: rf V 36 :: st) h post := g_iast (k := 36) (n := 16) (off := j) (f := fun j => h.1 36 j) (f' := fun i => up (h.1 36) (j) v (i)) pc' hp (by decide) rfl hj (by decide) rfl rfl (fun i => by
    show nI (if (i) = (j) then v else h.1 36 (i)) = _
    by_cases q : i = j
    · rw [if_pos (by omega), if_pos q]
    · rw [if_neg (by omega), if_neg q]) hd kk
theorem hc_tt (V : Vt) (h : Hp) (i : Nat) : cl V h.2 (tb i + 1) (h.1 (rw (tb i + 1))) = ai V 4 (fun j => h.1 (tr i) (tof j)) := by
  rw [rw_tt, cl_tt]
theorem tof_lt {j : Nat} (h : j < 4) : tof j = 2 + j := if_pos h
theorem ga_tt {i j : Nat} (pc' : Nat) (hp : pc + 1 = pc') (hi : i < 24) (hj : j < 4) (hd : decode cc pc = .ok (.iaload, 1)) (kk : G V E d own cc nL rt pc' lv (.int (nI (h.1 (tr i) (2 + j))) :: st) h post) : G V E d own cc nL rt pc lv (.int (nI j) :: rf V (tb i + 1) :: st) h post := by
  refine g_iald (k := tb i + 1) (n := 4) (f := fun j => h.1 (tr i) (tof j)) pc' hp (by unfold tb; omega) (hc_tt V h i) hj (by decide) hd ?_
  show G V E d own cc nL rt pc' lv (.int (nI (h.1 (tr i) (tof j))) :: st) h post
  rw [tof_lt hj]
  exact kk
theorem gs_tt {i j v : Nat} (pc' : Nat) (hp : pc + 1 = pc') (hi : i < 24) (hj : j < 4) (hd : decode cc pc = .ok (.iastore, 1)) (kk : G V E d own cc nL rt pc' lv (st) (sR h (tr i) (up (h.1 (tr i)) (2 + j) v)) post) : G V E d own cc nL rt pc lv (.int (nI v) :: .int (nI j) :: rf V (tb i + 1) :: st) h post := by
  refine g_iast (k := tb i + 1) (n := 4) (off := tof j) (f := fun j => h.1 (tr i) (tof j)) (f' := fun q => up (h.1 (tr i)) (tof j) v (tof q)) pc' hp (by unfold tb; omega) (hc_tt V h i) hj (by decide) (by rw [rw_tt]; exact ow_tt i j) (by rw [rw_tt, cl_tt]) (fun q => ?_) hd (by rw [rw_tt, tof_lt hj]; exact kk)
  show nI (if tof q = tof j then v else h.1 (tr i) (tof q)) = _
  by_cases w : q = j
  · rw [if_pos (by rw [w]), if_pos w]
  · rw [if_neg (fun z => w (tof_inj z)), if_neg w]
def Ob (V : Vt) (k ci : Nat) : Prop := k < 85 ∧ ∀ h : Hp, ∃ fs, cl V h.2 k (h.1 (rw k)) = .inr (ci, fs)
def CV (own : String) (idx : Nat) (y : MethodName) (cc : ByteArray) (nL : Nat) (rt : Option FieldType) (n ci : Nat) : Prop :=
  Cond.methodLink own idx y ∈ lw_tbl ∧ Cond.instanceMethod y ∈ lw_tbl ∧ Cond.selects y.cls y y ∈ lw_tbl ∧ Cond.initialized y.cls ∈ lw_tbl ∧ Cond.code y cc nL rt ∈ lw_tbl ∧ (y.cls ≠ "java/lang/invoke/MethodHandle" ∧ y.cls ≠ "java/lang/invoke/VarHandle" ∧ (parseMethodDescriptor y.desc).map (fun d => d.parameters.length) = some n) ∧ nL ≤ 41 ∧ ∃ T N, vwCl[ci]? = some (y.cls, T, N)
def CS (own : String) (idx : Nat) (y : MethodName) (cc : ByteArray) (nL : Nat) (rt : Option FieldType) (n : Nat) : Prop :=
  Cond.methodLink own idx y ∈ lw_tbl ∧ Cond.static y ∈ lw_tbl ∧ Cond.initialized y.cls ∈ lw_tbl ∧ Cond.code y cc nL rt ∈ lw_tbl ∧ (y.cls ≠ "java/lang/invoke/MethodHandle" ∧ y.cls ≠ "java/lang/invoke/VarHandle" ∧ (parseMethodDescriptor y.desc).map (fun d => d.parameters.length) = some n) ∧ nL ≤ 41
theorem g_callV {y : MethodName} {cc' : ByteArray} {nL' d' n ci k idx : Nat} {rt' : Option FieldType} {As st0 : List Value} {post' : Option Value → Hp → Prop} (hw : CV own idx y cc' nL' rt' n ci) (hM : Mt V d' y cc' nL' rt' (rf V k :: As) h post') (hdd : d' < d) (hk : Ob V k ci) (hn : As.length = n) (hst : st0 = As.reverse ++ rf V k :: st) (hr : (st.map fun v => v.category).sum ≤ 8) (hd : decode cc pc = .ok (.invokevirtual idx, 3)) (kk : ∀ (v : Option Value) (h' : Hp), post' v h' → G V E d own cc nL rt (pc + 3) lv (v.toList ++ st) h' post) : G V E d own cc nL rt pc lv (st0) h post := by
  intro p e s m args below meth c R H locs ls cells slots Q C X hP hS hl hc
  obtain ⟨w1, w2, w3, w4, w5, w6, w7, T, N, w8⟩ := hw
  obtain ⟨fs, hfs⟩ := hk.2 h
  have he := wd_at V h hk.1
  rw [hfs] at he
  have hts := C.2.2.2.2.1
  have hF := C.2.2.2.2.2.2.2.2.2.1
  have hL := C.2.2.2.2.2.2.2.2.2.2.1
  have cw : CallW R s args own y.cls idx y cc' nL' rt' (.code y cc' nL' rt' :: lw_g) (rm d') 0 0 n :=
    ⟨callB_of n hts (lw_code w5) rfl rfl rfl (hts _ (lgm w4 rfl)) (hts _ (lgm w1 rfl)) w6 ⟨by show d' + 1 ≤ R.frames; omega, by show 8 + (nL' + 11) + 60 * d' ≤ R.locals; omega⟩, hts _ (lgm w2 rfl), hts _ (lgm w3 rfl)⟩
  have run := va_runV (p := p) (e := e) (R := R) (below := below) (meth := meth) (locs := locs) (cells := cells) (slots := slots) (As := As) (rest := st) (g := F0 m pc ls st0) ⟨C.1, C.2.1, C.2.2.1, C.2.2.2.1, hts⟩ hM cw ⟨Pp_blind V _ h, va_recv C.2.2.2.2.2.2.2.1 hP w8 he, fun U hU hW => ⟨rfl, C.2.2.2.2.2.2.2.2.1, by rw [hU]; exact hP, va_K.moved hW.alike C.2.2.2.2.2.2.2.1⟩⟩ rfl hn hl.1 hst (lv_room hr) hd ⟨hc.1, hc.2⟩
  intro Tt hT Xt
  obtain ⟨v, st₀, t, T', L, h0, X', hL, e1, e2, ⟨⟨v', h', hv, hq, hP1⟩, hz, hk1⟩, stp⟩ := run Tt hT Xt
  cases hv
  rw [h0] at hz hk1
  obtain ⟨t2, a1, b1⟩ := kk v h' hq p e s m args below meth c R T'.heap (locs ++ L) ls cells slots Q C X (by rw [e1]; exact hP1)
    ⟨Nat.le_trans hS.1 (by rw [e1]; exact hz), fun q h1 h2 => by rw [e1, hk1 q (Nat.lt_of_lt_of_le h1 hS.1) h2]; exact hS.2.1 q h1 h2, fun q hq => by
      rcases List.mem_append.mp hq with w | w
      · exact hS.2.2 q w
      · exact hL q w⟩ hl hc T' rfl X'
  exact ⟨t2, stp t2 a1, b1⟩
theorem g_callS {y : MethodName} {cc' : ByteArray} {nL' d' n idx : Nat} {rt' : Option FieldType} {As st0 : List Value} {post' : Option Value → Hp → Prop} (hw : CS own idx y cc' nL' rt' n) (hM : Mt V d' y cc' nL' rt' As h post') (hdd : d' < d) (hn : As.length = n) (hst : st0 = As.reverse ++ st) (hr : (st.map fun v => v.category).sum ≤ 8) (hd : decode cc pc = .ok (.invokestatic idx, 3)) (kk : ∀ (v : Option Value) (h' : Hp), post' v h' → G V E d own cc nL rt (pc + 3) lv (v.toList ++ st) h' post) : G V E d own cc nL rt pc lv (st0) h post := by
  intro p e s m args below meth c R H locs ls cells slots Q C X hP hS hl hc
  obtain ⟨w1, w2, w4, w5, w6, w7⟩ := hw
  have hts := C.2.2.2.2.1
  have hF := C.2.2.2.2.2.2.2.2.2.1
  have hL := C.2.2.2.2.2.2.2.2.2.2.1
  have cw : CallB R s args own idx y cc' nL' rt' (.code y cc' nL' rt' :: lw_g) (rm d') 0 0 n ∧ (Cond.static y).before args s = true :=
    ⟨callB_of n hts (lw_code w5) rfl rfl rfl (hts _ (lgm w4 rfl)) (hts _ (lgm w1 rfl)) w6 ⟨by show d' + 1 ≤ R.frames; omega, by show 8 + (nL' + 11) + 60 * d' ≤ R.locals; omega⟩, hts _ (lgm w2 rfl)⟩
  have run := va_runS (p := p) (e := e) (R := R) (below := below) (meth := meth) (locs := locs) (cells := cells) (slots := slots) (As := As) (rest := st) (g := F0 m pc ls st0) ⟨C.1, C.2.1, C.2.2.1, C.2.2.2.1, hts⟩ hM cw ⟨Pp_blind V _ h, fun U hU hW => ⟨rfl, C.2.2.2.2.2.2.2.2.1, by rw [hU]; exact hP, va_K.moved hW.alike C.2.2.2.2.2.2.2.1⟩⟩ rfl hn hl.1 hst (lv_room hr) hd ⟨hc.1, hc.2⟩
  intro Tt hT Xt
  obtain ⟨v, st₀, t, T', L, h0, X', hL, e1, e2, ⟨⟨v', h', hv, hq, hP1⟩, hz, hk1⟩, stp⟩ := run Tt hT Xt
  cases hv
  rw [h0] at hz hk1
  obtain ⟨t2, a1, b1⟩ := kk v h' hq p e s m args below meth c R T'.heap (locs ++ L) ls cells slots Q C X (by rw [e1]; exact hP1)
    ⟨Nat.le_trans hS.1 (by rw [e1]; exact hz), fun q h1 h2 => by rw [e1, hk1 q (Nat.lt_of_lt_of_le h1 hS.1) h2]; exact hS.2.1 q h1 h2, fun q hq => by
      rcases List.mem_append.mp hq with w | w
      · exact hS.2.2 q w
      · exact hL q w⟩ hl hc T' rfl X'
  exact ⟨t2, stp t2 a1, b1⟩
theorem g_cv0i {y : MethodName} {cc' : ByteArray} {nL' d' ci k idx : Nat} {rt' : Option FieldType} {x : Int32} {h' : Hp} (pc' : Nat) (hp : pc + 3 = pc') (hw : CV own idx y cc' nL' rt' 0 ci) (hd : decode cc pc = .ok (.invokevirtual idx, 3)) (hM : Rti V d' y cc' nL' rt' (rf V k :: []) h x h') (hdd : d' < d) (hk : Ob V k ci) (hr : (st.map fun v => v.category).sum ≤ 8) (kk : G V E d own cc nL rt pc' lv (.int x :: st) h' post) : G V E d own cc nL rt pc lv (rf V k :: st) h post := by
  subst hp
  refine g_callV hw hM hdd hk rfl rfl hr hd (fun v g hq => ?_)
  obtain ⟨rfl, rfl⟩ := hq
  exact kk
theorem g_cv0l {y : MethodName} {cc' : ByteArray} {nL' d' ci k idx : Nat} {rt' : Option FieldType} {x : Int64} {h' : Hp} (pc' : Nat) (hp : pc + 3 = pc') (hw : CV own idx y cc' nL' rt' 0 ci) (hd : decode cc pc = .ok (.invokevirtual idx, 3)) (hM : Rtl V d' y cc' nL' rt' (rf V k :: []) h x h') (hdd : d' < d) (hk : Ob V k ci) (hr : (st.map fun v => v.category).sum ≤ 8) (kk : G V E d own cc nL rt pc' lv (.long x :: st) h' post) : G V E d own cc nL rt pc lv (rf V k :: st) h post := by
  subst hp
  refine g_callV hw hM hdd hk rfl rfl hr hd (fun v g hq => ?_)
  obtain ⟨rfl, rfl⟩ := hq
  exact kk
theorem g_cv0v {y : MethodName} {cc' : ByteArray} {nL' d' ci k idx : Nat} {rt' : Option FieldType} {h' : Hp} (pc' : Nat) (hp : pc + 3 = pc') (hw : CV own idx y cc' nL' rt' 0 ci) (hd : decode cc pc = .ok (.invokevirtual idx, 3)) (hM : Rtv V d' y cc' nL' rt' (rf V k :: []) h h') (hdd : d' < d) (hk : Ob V k ci) (hr : (st.map fun v => v.category).sum ≤ 8) (kk : G V E d own cc nL rt pc' lv (st) h' post) : G V E d own cc nL rt pc lv (rf V k :: st) h post := by
  subst hp
  refine g_callV hw hM hdd hk rfl rfl hr hd (fun v g hq => ?_)
  obtain ⟨rfl, rfl⟩ := hq
  exact kk
theorem g_cv1i {y : MethodName} {cc' : ByteArray} {nL' d' ci k idx : Nat} {rt' : Option FieldType} {a1 : Value} {x : Int32} {h' : Hp} (pc' : Nat) (hp : pc + 3 = pc') (hw : CV own idx y cc' nL' rt' 1 ci) (hd : decode cc pc = .ok (.invokevirtual idx, 3)) (hM : Rti V d' y cc' nL' rt' (rf V k :: [a1]) h x h') (hdd : d' < d) (hk : Ob V k ci) (hr : (st.map fun v => v.category).sum ≤ 8) (kk : G V E d own cc nL rt pc' lv (.int x :: st) h' post) : G V E d own cc nL rt pc lv (a1 :: rf V k :: st) h post := by
  subst hp
  refine g_callV hw hM hdd hk rfl rfl hr hd (fun v g hq => ?_)
  obtain ⟨rfl, rfl⟩ := hq
  exact kk
theorem g_cv1l {y : MethodName} {cc' : ByteArray} {nL' d' ci k idx : Nat} {rt' : Option FieldType} {a1 : Value} {x : Int64} {h' : Hp} (pc' : Nat) (hp : pc + 3 = pc') (hw : CV own idx y cc' nL' rt' 1 ci) (hd : decode cc pc = .ok (.invokevirtual idx, 3)) (hM : Rtl V d' y cc' nL' rt' (rf V k :: [a1]) h x h') (hdd : d' < d) (hk : Ob V k ci) (hr : (st.map fun v => v.category).sum ≤ 8) (kk : G V E d own cc nL rt pc' lv (.long x :: st) h' post) : G V E d own cc nL rt pc lv (a1 :: rf V k :: st) h post := by
  subst hp
  refine g_callV hw hM hdd hk rfl rfl hr hd (fun v g hq => ?_)
  obtain ⟨rfl, rfl⟩ := hq
  exact kk
theorem g_cv1v {y : MethodName} {cc' : ByteArray} {nL' d' ci k idx : Nat} {rt' : Option FieldType} {a1 : Value} {h' : Hp} (pc' : Nat) (hp : pc + 3 = pc') (hw : CV own idx y cc' nL' rt' 1 ci) (hd : decode cc pc = .ok (.invokevirtual idx, 3)) (hM : Rtv V d' y cc' nL' rt' (rf V k :: [a1]) h h') (hdd : d' < d) (hk : Ob V k ci) (hr : (st.map fun v => v.category).sum ≤ 8) (kk : G V E d own cc nL rt pc' lv (st) h' post) : G V E d own cc nL rt pc lv (a1 :: rf V k :: st) h post := by
  subst hp
  refine g_callV hw hM hdd hk rfl rfl hr hd (fun v g hq => ?_)
  obtain ⟨rfl, rfl⟩ := hq
  exact kk
theorem g_cs1i {y : MethodName} {cc' : ByteArray} {nL' d' idx : Nat} {rt' : Option FieldType} {a1 : Value} {x : Int32} {h' : Hp} (pc' : Nat) (hp : pc + 3 = pc') (hw : CS own idx y cc' nL' rt' 1) (hd : decode cc pc = .ok (.invokestatic idx, 3)) (hM : Rti V d' y cc' nL' rt' [a1] h x h') (hdd : d' < d) (hr : (st.map fun v => v.category).sum ≤ 8) (kk : G V E d own cc nL rt pc' lv (.int x :: st) h' post) : G V E d own cc nL rt pc lv (a1 :: st) h post := by
  subst hp
  refine g_callS hw hM hdd rfl rfl hr hd (fun v g hq => ?_)
  obtain ⟨rfl, rfl⟩ := hq
  exact kk
theorem g_cs1v {y : MethodName} {cc' : ByteArray} {nL' d' idx : Nat} {rt' : Option FieldType} {a1 : Value} {h' : Hp} (pc' : Nat) (hp : pc + 3 = pc') (hw : CS own idx y cc' nL' rt' 1) (hd : decode cc pc = .ok (.invokestatic idx, 3)) (hM : Rtv V d' y cc' nL' rt' [a1] h h') (hdd : d' < d) (hr : (st.map fun v => v.category).sum ≤ 8) (kk : G V E d own cc nL rt pc' lv (st) h' post) : G V E d own cc nL rt pc lv (a1 :: st) h post := by
  subst hp
  refine g_callS hw hM hdd rfl rfl hr hd (fun v g hq => ?_)
  obtain ⟨rfl, rfl⟩ := hq
  exact kk
theorem g_cv2i {y : MethodName} {cc' : ByteArray} {nL' d' ci k idx : Nat} {rt' : Option FieldType} {a1 a2 : Value} {x : Int32} {h' : Hp} (pc' : Nat) (hp : pc + 3 = pc') (hw : CV own idx y cc' nL' rt' 2 ci) (hd : decode cc pc = .ok (.invokevirtual idx, 3)) (hM : Rti V d' y cc' nL' rt' (rf V k :: [a1, a2]) h x h') (hdd : d' < d) (hk : Ob V k ci) (hr : (st.map fun v => v.category).sum ≤ 8) (kk : G V E d own cc nL rt pc' lv (.int x :: st) h' post) : G V E d own cc nL rt pc lv (a2 :: a1 :: rf V k :: st) h post := by
  subst hp
  refine g_callV hw hM hdd hk rfl rfl hr hd (fun v g hq => ?_)
  obtain ⟨rfl, rfl⟩ := hq
  exact kk
theorem g_cv2l {y : MethodName} {cc' : ByteArray} {nL' d' ci k idx : Nat} {rt' : Option FieldType} {a1 a2 : Value} {x : Int64} {h' : Hp} (pc' : Nat) (hp : pc + 3 = pc') (hw : CV own idx y cc' nL' rt' 2 ci) (hd : decode cc pc = .ok (.invokevirtual idx, 3)) (hM : Rtl V d' y cc' nL' rt' (rf V k :: [a1, a2]) h x h') (hdd : d' < d) (hk : Ob V k ci) (hr : (st.map fun v => v.category).sum ≤ 8) (kk : G V E d own cc nL rt pc' lv (.long x :: st) h' post) : G V E d own cc nL rt pc lv (a2 :: a1 :: rf V k :: st) h post := by
  subst hp
  refine g_callV hw hM hdd hk rfl rfl hr hd (fun v g hq => ?_)
  obtain ⟨rfl, rfl⟩ := hq
  exact kk
theorem g_cv2v {y : MethodName} {cc' : ByteArray} {nL' d' ci k idx : Nat} {rt' : Option FieldType} {a1 a2 : Value} {h' : Hp} (pc' : Nat) (hp : pc + 3 = pc') (hw : CV own idx y cc' nL' rt' 2 ci) (hd : decode cc pc = .ok (.invokevirtual idx, 3)) (hM : Rtv V d' y cc' nL' rt' (rf V k :: [a1, a2]) h h') (hdd : d' < d) (hk : Ob V k ci) (hr : (st.map fun v => v.category).sum ≤ 8) (kk : G V E d own cc nL rt pc' lv (st) h' post) : G V E d own cc nL rt pc lv (a2 :: a1 :: rf V k :: st) h post := by
  subst hp
  refine g_callV hw hM hdd hk rfl rfl hr hd (fun v g hq => ?_)
  obtain ⟨rfl, rfl⟩ := hq
  exact kk
theorem g_cs2i {y : MethodName} {cc' : ByteArray} {nL' d' idx : Nat} {rt' : Option FieldType} {a1 a2 : Value} {x : Int32} {h' : Hp} (pc' : Nat) (hp : pc + 3 = pc') (hw : CS own idx y cc' nL' rt' 2) (hd : decode cc pc = .ok (.invokestatic idx, 3)) (hM : Rti V d' y cc' nL' rt' [a1, a2] h x h') (hdd : d' < d) (hr : (st.map fun v => v.category).sum ≤ 8) (kk : G V E d own cc nL rt pc' lv (.int x :: st) h' post) : G V E d own cc nL rt pc lv (a2 :: a1 :: st) h post := by
  subst hp
  refine g_callS hw hM hdd rfl rfl hr hd (fun v g hq => ?_)
  obtain ⟨rfl, rfl⟩ := hq
  exact kk
theorem g_cs2v {y : MethodName} {cc' : ByteArray} {nL' d' idx : Nat} {rt' : Option FieldType} {a1 a2 : Value} {h' : Hp} (pc' : Nat) (hp : pc + 3 = pc') (hw : CS own idx y cc' nL' rt' 2) (hd : decode cc pc = .ok (.invokestatic idx, 3)) (hM : Rtv V d' y cc' nL' rt' [a1, a2] h h') (hdd : d' < d) (hr : (st.map fun v => v.category).sum ≤ 8) (kk : G V E d own cc nL rt pc' lv (st) h' post) : G V E d own cc nL rt pc lv (a2 :: a1 :: st) h post := by
  subst hp
  refine g_callS hw hM hdd rfl rfl hr hd (fun v g hq => ?_)
  obtain ⟨rfl, rfl⟩ := hq
  exact kk
theorem g_cv3i {y : MethodName} {cc' : ByteArray} {nL' d' ci k idx : Nat} {rt' : Option FieldType} {a1 a2 a3 : Value} {x : Int32} {h' : Hp} (pc' : Nat) (hp : pc + 3 = pc') (hw : CV own idx y cc' nL' rt' 3 ci) (hd : decode cc pc = .ok (.invokevirtual idx, 3)) (hM : Rti V d' y cc' nL' rt' (rf V k :: [a1, a2, a3]) h x h') (hdd : d' < d) (hk : Ob V k ci) (hr : (st.map fun v => v.category).sum ≤ 8) (kk : G V E d own cc nL rt pc' lv (.int x :: st) h' post) : G V E d own cc nL rt pc lv (a3 :: a2 :: a1 :: rf V k :: st) h post := by
  subst hp
  refine g_callV hw hM hdd hk rfl rfl hr hd (fun v g hq => ?_)
  obtain ⟨rfl, rfl⟩ := hq
  exact kk
theorem g_cv3l {y : MethodName} {cc' : ByteArray} {nL' d' ci k idx : Nat} {rt' : Option FieldType} {a1 a2 a3 : Value} {x : Int64} {h' : Hp} (pc' : Nat) (hp : pc + 3 = pc') (hw : CV own idx y cc' nL' rt' 3 ci) (hd : decode cc pc = .ok (.invokevirtual idx, 3)) (hM : Rtl V d' y cc' nL' rt' (rf V k :: [a1, a2, a3]) h x h') (hdd : d' < d) (hk : Ob V k ci) (hr : (st.map fun v => v.category).sum ≤ 8) (kk : G V E d own cc nL rt pc' lv (.long x :: st) h' post) : G V E d own cc nL rt pc lv (a3 :: a2 :: a1 :: rf V k :: st) h post := by
  subst hp
  refine g_callV hw hM hdd hk rfl rfl hr hd (fun v g hq => ?_)
  obtain ⟨rfl, rfl⟩ := hq
  exact kk
theorem g_cv3v {y : MethodName} {cc' : ByteArray} {nL' d' ci k idx : Nat} {rt' : Option FieldType} {a1 a2 a3 : Value} {h' : Hp} (pc' : Nat) (hp : pc + 3 = pc') (hw : CV own idx y cc' nL' rt' 3 ci) (hd : decode cc pc = .ok (.invokevirtual idx, 3)) (hM : Rtv V d' y cc' nL' rt' (rf V k :: [a1, a2, a3]) h h') (hdd : d' < d) (hk : Ob V k ci) (hr : (st.map fun v => v.category).sum ≤ 8) (kk : G V E d own cc nL rt pc' lv (st) h' post) : G V E d own cc nL rt pc lv (a3 :: a2 :: a1 :: rf V k :: st) h post := by
  subst hp
  refine g_callV hw hM hdd hk rfl rfl hr hd (fun v g hq => ?_)
  obtain ⟨rfl, rfl⟩ := hq
  exact kk
theorem g_cs3i {y : MethodName} {cc' : ByteArray} {nL' d' idx : Nat} {rt' : Option FieldType} {a1 a2 a3 : Value} {x : Int32} {h' : Hp} (pc' : Nat) (hp : pc + 3 = pc') (hw : CS own idx y cc' nL' rt' 3) (hd : decode cc pc = .ok (.invokestatic idx, 3)) (hM : Rti V d' y cc' nL' rt' [a1, a2, a3] h x h') (hdd : d' < d) (hr : (st.map fun v => v.category).sum ≤ 8) (kk : G V E d own cc nL rt pc' lv (.int x :: st) h' post) : G V E d own cc nL rt pc lv (a3 :: a2 :: a1 :: st) h post := by
  subst hp
  refine g_callS hw hM hdd rfl rfl hr hd (fun v g hq => ?_)
  obtain ⟨rfl, rfl⟩ := hq
  exact kk
theorem g_cs3v {y : MethodName} {cc' : ByteArray} {nL' d' idx : Nat} {rt' : Option FieldType} {a1 a2 a3 : Value} {h' : Hp} (pc' : Nat) (hp : pc + 3 = pc') (hw : CS own idx y cc' nL' rt' 3) (hd : decode cc pc = .ok (.invokestatic idx, 3)) (hM : Rtv V d' y cc' nL' rt' [a1, a2, a3] h h') (hdd : d' < d) (hr : (st.map fun v => v.category).sum ≤ 8) (kk : G V E d own cc nL rt pc' lv (st) h' post) : G V E d own cc nL rt pc lv (a3 :: a2 :: a1 :: st) h post := by
  subst hp
  refine g_callS hw hM hdd rfl rfl hr hd (fun v g hq => ?_)
  obtain ⟨rfl, rfl⟩ := hq
  exact kk
theorem g_cv4i {y : MethodName} {cc' : ByteArray} {nL' d' ci k idx : Nat} {rt' : Option FieldType} {a1 a2 a3 a4 : Value} {x : Int32} {h' : Hp} (pc' : Nat) (hp : pc + 3 = pc') (hw : CV own idx y cc' nL' rt' 4 ci) (hd : decode cc pc = .ok (.invokevirtual idx, 3)) (hM : Rti V d' y cc' nL' rt' (rf V k :: [a1, a2, a3, a4]) h x h') (hdd : d' < d) (hk : Ob V k ci) (hr : (st.map fun v => v.category).sum ≤ 8) (kk : G V E d own cc nL rt pc' lv (.int x :: st) h' post) : G V E d own cc nL rt pc lv (a4 :: a3 :: a2 :: a1 :: rf V k :: st) h post := by
  subst hp
  refine g_callV hw hM hdd hk rfl rfl hr hd (fun v g hq => ?_)
  obtain ⟨rfl, rfl⟩ := hq
  exact kk
theorem g_cv4l {y : MethodName} {cc' : ByteArray} {nL' d' ci k idx : Nat} {rt' : Option FieldType} {a1 a2 a3 a4 : Value} {x : Int64} {h' : Hp} (pc' : Nat) (hp : pc + 3 = pc') (hw : CV own idx y cc' nL' rt' 4 ci) (hd : decode cc pc = .ok (.invokevirtual idx, 3)) (hM : Rtl V d' y cc' nL' rt' (rf V k :: [a1, a2, a3, a4]) h x h') (hdd : d' < d) (hk : Ob V k ci) (hr : (st.map fun v => v.category).sum ≤ 8) (kk : G V E d own cc nL rt pc' lv (.long x :: st) h' post) : G V E d own cc nL rt pc lv (a4 :: a3 :: a2 :: a1 :: rf V k :: st) h post := by
  subst hp
  refine g_callV hw hM hdd hk rfl rfl hr hd (fun v g hq => ?_)
  obtain ⟨rfl, rfl⟩ := hq
  exact kk
theorem g_cv4v {y : MethodName} {cc' : ByteArray} {nL' d' ci k idx : Nat} {rt' : Option FieldType} {a1 a2 a3 a4 : Value} {h' : Hp} (pc' : Nat) (hp : pc + 3 = pc') (hw : CV own idx y cc' nL' rt' 4 ci) (hd : decode cc pc = .ok (.invokevirtual idx, 3)) (hM : Rtv V d' y cc' nL' rt' (rf V k :: [a1, a2, a3, a4]) h h') (hdd : d' < d) (hk : Ob V k ci) (hr : (st.map fun v => v.category).sum ≤ 8) (kk : G V E d own cc nL rt pc' lv (st) h' post) : G V E d own cc nL rt pc lv (a4 :: a3 :: a2 :: a1 :: rf V k :: st) h post := by
  subst hp
  refine g_callV hw hM hdd hk rfl rfl hr hd (fun v g hq => ?_)
  obtain ⟨rfl, rfl⟩ := hq
  exact kk
theorem g_cs4i {y : MethodName} {cc' : ByteArray} {nL' d' idx : Nat} {rt' : Option FieldType} {a1 a2 a3 a4 : Value} {x : Int32} {h' : Hp} (pc' : Nat) (hp : pc + 3 = pc') (hw : CS own idx y cc' nL' rt' 4) (hd : decode cc pc = .ok (.invokestatic idx, 3)) (hM : Rti V d' y cc' nL' rt' [a1, a2, a3, a4] h x h') (hdd : d' < d) (hr : (st.map fun v => v.category).sum ≤ 8) (kk : G V E d own cc nL rt pc' lv (.int x :: st) h' post) : G V E d own cc nL rt pc lv (a4 :: a3 :: a2 :: a1 :: st) h post := by
  subst hp
  refine g_callS hw hM hdd rfl rfl hr hd (fun v g hq => ?_)
  obtain ⟨rfl, rfl⟩ := hq
  exact kk
theorem g_cs4v {y : MethodName} {cc' : ByteArray} {nL' d' idx : Nat} {rt' : Option FieldType} {a1 a2 a3 a4 : Value} {h' : Hp} (pc' : Nat) (hp : pc + 3 = pc') (hw : CS own idx y cc' nL' rt' 4) (hd : decode cc pc = .ok (.invokestatic idx, 3)) (hM : Rtv V d' y cc' nL' rt' [a1, a2, a3, a4] h h') (hdd : d' < d) (hr : (st.map fun v => v.category).sum ≤ 8) (kk : G V E d own cc nL rt pc' lv (st) h' post) : G V E d own cc nL rt pc lv (a4 :: a3 :: a2 :: a1 :: st) h post := by
  subst hp
  refine g_callS hw hM hdd rfl rfl hr hd (fun v g hq => ?_)
  obtain ⟨rfl, rfl⟩ := hq
  exact kk
end Fields
theorem ob_0 (V : Vt) : Ob V 0 8 := ⟨by decide, fun _ => ⟨_, rfl⟩⟩
theorem ob_1 (V : Vt) : Ob V 1 2 := ⟨by decide, fun _ => ⟨_, rfl⟩⟩
theorem ob_3 (V : Vt) : Ob V 3 1 := ⟨by decide, fun _ => ⟨_, rfl⟩⟩
theorem ob_10 (V : Vt) : Ob V 10 0 := ⟨by decide, fun _ => ⟨_, rfl⟩⟩
theorem ob_12 (V : Vt) : Ob V 12 5 := ⟨by decide, fun _ => ⟨_, rfl⟩⟩
theorem ob_15 (V : Vt) : Ob V 15 4 := ⟨by decide, fun _ => ⟨_, rfl⟩⟩
theorem ob_19 (V : Vt) : Ob V 19 3 := ⟨by decide, fun _ => ⟨_, rfl⟩⟩
theorem ob_21 (V : Vt) : Ob V 21 6 := ⟨by decide, fun _ => ⟨_, rfl⟩⟩
theorem ob_22 (V : Vt) : Ob V 22 9 := ⟨by decide, fun _ => ⟨_, rfl⟩⟩
theorem ob_tb (V : Vt) {i : Nat} (hi : i < 24) : Ob V (tb i) 7 := ⟨by unfold tb; omega, fun h => ⟨_, hc_tb V h i⟩⟩
theorem cw_RL_13 : CV RL 13 yX8_write cX8_write 2 (some .int) 1 8 := ⟨ml_RL_13, im_yX8_write, se_yX8_write, ini_RX8, cd_yX8_write, by decide +kernel, by decide, _, _, rfl⟩
theorem cw_RX8_74 : CV RX8 74 yX2_append cX2_append 2 none 1 2 := ⟨ml_RX8_74, im_yX2_append, se_yX2_append, ini_RX2, cd_yX2_append, by decide +kernel, by decide, _, _, rfl⟩
theorem cw_RL_18 : CV RL 18 yX8_wipe cX8_wipe 2 (some .int) 0 8 := ⟨ml_RL_18, im_yX8_wipe, se_yX8_wipe, ini_RX8, cd_yX8_wipe, by decide +kernel, by decide, _, _, rfl⟩
theorem cw_RL_23 : CV RL 23 yX8_fault cX8_fault 1 (some .int) 0 8 := ⟨ml_RL_23, im_yX8_fault, se_yX8_fault, ini_RX8, cd_yX8_fault, by decide +kernel, by decide, _, _, rfl⟩
theorem cw_RX8_78 : CV RX8 78 yX2_firstFault cX2_firstFault 4 (some .int) 0 2 := ⟨ml_RX8_78, im_yX2_firstFault, se_yX2_firstFault, ini_RX2, cd_yX2_firstFault, by decide +kernel, by decide, _, _, rfl⟩
theorem cw_RX2_19 : CV RX2 19 yX2_fits cX2_fits 6 (some .boolean) 3 2 := ⟨ml_RX2_19, im_yX2_fits, se_yX2_fits, ini_RX2, cd_yX2_fits, by decide +kernel, by decide, _, _, rfl⟩
theorem cw_RX2_27 : CS RX2 27 yX2_isFigure cX2_isFigure 3 (some .boolean) 3 := ⟨ml_RX2_27, st_yX2_isFigure, ini_RX2, cd_yX2_isFigure, by decide +kernel, by decide⟩
theorem cw_RX2_30 : CS RX2 30 yX2_fitsEnvoy cX2_fitsEnvoy 2 (some .boolean) 2 := ⟨ml_RX2_30, st_yX2_fitsEnvoy, ini_RX2, cd_yX2_fitsEnvoy, by decide +kernel, by decide⟩
theorem cw_RX2_34 : CS RX2 34 yX2_fitsClause cX2_fitsClause 3 (some .boolean) 3 := ⟨ml_RX2_34, st_yX2_fitsClause, ini_RX2, cd_yX2_fitsClause, by decide +kernel, by decide⟩
theorem cw_RX2_23 : CS RX2 23 yX2_isAtEndOfPart cX2_isAtEndOfPart 1 (some .boolean) 1 := ⟨ml_RX2_23, st_yX2_isAtEndOfPart, ini_RX2, cd_yX2_isAtEndOfPart, by decide +kernel, by decide⟩
theorem cw_RL_27 : CV RL 27 yX8_talk cX8_talk 1 (some .int) 0 8 := ⟨ml_RL_27, im_yX8_talk, se_yX8_talk, ini_RX8, cd_yX8_talk, by decide +kernel, by decide, _, _, rfl⟩
theorem cw_RX8_82 : CV RX8 82 yX2_tellInto cX2_tellInto 3 none 1 2 := ⟨ml_RX8_82, im_yX2_tellInto, se_yX2_tellInto, ini_RX2, cd_yX2_tellInto, by decide +kernel, by decide, _, _, rfl⟩
theorem cw_RX2_37 : CV RX2 37 yX2_figure cX2_figure 2 (some .int) 1 2 := ⟨ml_RX2_37, im_yX2_figure, se_yX2_figure, ini_RX2, cd_yX2_figure, by decide +kernel, by decide, _, _, rfl⟩
theorem cw_RX2_41 : CV RX2 41 yX1_begin cX1_begin 3 none 2 1 := ⟨ml_RX2_41, im_yX1_begin, se_yX1_begin, ini_RX1, cd_yX1_begin, by decide +kernel, by decide, _, _, rfl⟩
theorem cw_RX2_47 : CV RX2 47 yX1_addEnvoy cX1_addEnvoy 4 none 3 1 := ⟨ml_RX2_47, im_yX1_addEnvoy, se_yX1_addEnvoy, ini_RX1, cd_yX1_addEnvoy, by decide +kernel, by decide, _, _, rfl⟩
theorem cw_RX2_51 : CV RX2 51 yX1_addClause cX1_addClause 4 none 3 1 := ⟨ml_RX2_51, im_yX1_addClause, se_yX1_addClause, ini_RX1, cd_yX1_addClause, by decide +kernel, by decide, _, _, rfl⟩
theorem cw_RX8_85 : CV RX8 85 yX7_layAnew cX7_layAnew 2 none 0 7 := ⟨ml_RX8_85, im_yX7_layAnew, se_yX7_layAnew, ini_RX7, cd_yX7_layAnew, by decide +kernel, by decide, _, _, rfl⟩
theorem cw_RX8_88 : CV RX8 88 yX0_forgetAll cX0_forgetAll 1 none 0 0 := ⟨ml_RX8_88, im_yX0_forgetAll, se_yX0_forgetAll, ini_RX0, cd_yX0_forgetAll, by decide +kernel, by decide, _, _, rfl⟩
theorem cw_RX8_91 : CV RX8 91 yX5_forgetAll cX5_forgetAll 2 none 0 5 := ⟨ml_RX8_91, im_yX5_forgetAll, se_yX5_forgetAll, ini_RX5, cd_yX5_forgetAll, by decide +kernel, by decide, _, _, rfl⟩
theorem cw_RL_31 : CV RL 31 yX8_about cX8_about 2 (some .int) 1 8 := ⟨ml_RL_31, im_yX8_about, se_yX8_about, ini_RX8, cd_yX8_about, by decide +kernel, by decide, _, _, rfl⟩
theorem cw_RX8_113 : CV RX8 113 yX7_sayable cX7_sayable 3 (some .int) 0 7 := ⟨ml_RX8_113, im_yX7_sayable, se_yX7_sayable, ini_RX7, cd_yX7_sayable, by decide +kernel, by decide, _, _, rfl⟩
theorem cw_RX7_75 : CV RX7 75 yX7_canBeSaid cX7_canBeSaid 2 (some .boolean) 1 7 := ⟨ml_RX7_75, im_yX7_canBeSaid, se_yX7_canBeSaid, ini_RX7, cd_yX7_canBeSaid, by decide +kernel, by decide, _, _, rfl⟩
theorem cw_RX7_49 : CV RX7 49 yX1_hasClause cX1_hasClause 2 (some .boolean) 1 1 := ⟨ml_RX7_49, im_yX1_hasClause, se_yX1_hasClause, ini_RX1, cd_yX1_hasClause, by decide +kernel, by decide, _, _, rfl⟩
theorem cw_RX7_53 : CV RX7 53 yX7_isBound cX7_isBound 2 (some .boolean) 1 7 := ⟨ml_RX7_53, im_yX7_isBound, se_yX7_isBound, ini_RX7, cd_yX7_isBound, by decide +kernel, by decide, _, _, rfl⟩
theorem cw_RX7_59 : CV RX7 59 yX7_eats cX7_eats 2 (some .boolean) 1 7 := ⟨ml_RX7_59, im_yX7_eats, se_yX7_eats, ini_RX7, cd_yX7_eats, by decide +kernel, by decide, _, _, rfl⟩
theorem cw_RX7_68 : CS RX7 68 yX1_wordsAt cX1_wordsAt 1 (some .int) 1 := ⟨ml_RX7_68, st_yX1_wordsAt, ini_RX1, cd_yX1_wordsAt, by decide +kernel, by decide⟩
theorem cw_RL_35 : CV RL 35 yX8_envoy cX8_envoy 3 (some .int) 2 8 := ⟨ml_RL_35, im_yX8_envoy, se_yX8_envoy, ini_RX8, cd_yX8_envoy, by decide +kernel, by decide, _, _, rfl⟩
theorem cw_RX8_120 : CV RX8 120 yX1_hasEnvoy cX1_hasEnvoy 2 (some .boolean) 1 1 := ⟨ml_RX8_120, im_yX1_hasEnvoy, se_yX1_hasEnvoy, ini_RX1, cd_yX1_hasEnvoy, by decide +kernel, by decide, _, _, rfl⟩
theorem cw_RX8_137 : CV RX8 137 yX1_pain cX1_pain 3 (some .int) 2 1 := ⟨ml_RX8_137, im_yX1_pain, se_yX1_pain, ini_RX1, cd_yX1_pain, by decide +kernel, by decide, _, _, rfl⟩
theorem cw_RX1_47 : CS RX1 47 yX1_painFor cX1_painFor 4 (some .int) 3 := ⟨ml_RX1_47, st_yX1_painFor, ini_RX1, cd_yX1_painFor, by decide +kernel, by decide⟩
theorem cw_RX8_141 : CV RX8 141 yX7_hadBread cX7_hadBread 2 (some .boolean) 1 7 := ⟨ml_RX8_141, im_yX7_hadBread, se_yX7_hadBread, ini_RX7, cd_yX7_hadBread, by decide +kernel, by decide, _, _, rfl⟩
theorem cw_RL_40 : CV RL 40 yX8_clause cX8_clause 3 (some .int) 2 8 := ⟨ml_RL_40, im_yX8_clause, se_yX8_clause, ini_RX8, cd_yX8_clause, by decide +kernel, by decide, _, _, rfl⟩
theorem cw_RX8_144 : CV RX8 144 yX1_hasClause cX1_hasClause 2 (some .boolean) 1 1 := ⟨ml_RX8_144, im_yX1_hasClause, se_yX1_hasClause, ini_RX1, cd_yX1_hasClause, by decide +kernel, by decide, _, _, rfl⟩
theorem cw_RX8_156 : CV RX8 156 yX1_worth cX1_worth 2 (some .int) 1 1 := ⟨ml_RX8_156, im_yX1_worth, se_yX1_worth, ini_RX1, cd_yX1_worth, by decide +kernel, by decide, _, _, rfl⟩
theorem cw_RL_44 : CV RL 44 yX8_bite cX8_bite 1 (some .int) 0 8 := ⟨ml_RL_44, im_yX8_bite, se_yX8_bite, ini_RX8, cd_yX8_bite, by decide +kernel, by decide, _, _, rfl⟩
theorem cw_RX8_160 : CV RX8 160 yX0_remember cX0_remember 2 none 1 0 := ⟨ml_RX8_160, im_yX0_remember, se_yX0_remember, ini_RX0, cd_yX0_remember, by decide +kernel, by decide, _, _, rfl⟩
theorem cw_RX0_27 : CV RX0 27 yX7_copyFrom cX7_copyFrom 3 none 1 7 := ⟨ml_RX0_27, im_yX7_copyFrom, se_yX7_copyFrom, ini_RX7, cd_yX7_copyFrom, by decide +kernel, by decide, _, _, rfl⟩
theorem cw_RX8_164 : CV RX8 164 yX7_takeBite cX7_takeBite 2 none 0 7 := ⟨ml_RX8_164, im_yX7_takeBite, se_yX7_takeBite, ini_RX7, cd_yX7_takeBite, by decide +kernel, by decide, _, _, rfl⟩
theorem cw_RX7_78 : CV RX7 78 yX1_pain cX1_pain 3 (some .int) 2 1 := ⟨ml_RX7_78, im_yX1_pain, se_yX1_pain, ini_RX1, cd_yX1_pain, by decide +kernel, by decide, _, _, rfl⟩
theorem cw_RX7_82 : CV RX7 82 yX1_tearsToStop cX1_tearsToStop 2 (some .int) 1 1 := ⟨ml_RX7_82, im_yX1_tearsToStop, se_yX1_tearsToStop, ini_RX1, cd_yX1_tearsToStop, by decide +kernel, by decide, _, _, rfl⟩
theorem cw_RL_48 : CV RL 48 yX8_say cX8_say 2 (some .int) 1 8 := ⟨ml_RL_48, im_yX8_say, se_yX8_say, ini_RX8, cd_yX8_say, by decide +kernel, by decide, _, _, rfl⟩
theorem cw_RX8_167 : CV RX8 167 yX7_canBeSaid cX7_canBeSaid 2 (some .boolean) 1 7 := ⟨ml_RX8_167, im_yX7_canBeSaid, se_yX7_canBeSaid, ini_RX7, cd_yX7_canBeSaid, by decide +kernel, by decide, _, _, rfl⟩
theorem cw_RX8_170 : CV RX8 170 yX7_bind cX7_bind 2 none 1 7 := ⟨ml_RX8_170, im_yX7_bind, se_yX7_bind, ini_RX7, cd_yX7_bind, by decide +kernel, by decide, _, _, rfl⟩
theorem cw_RL_52 : CV RL 52 yX8_spice cX8_spice 1 (some .int) 0 8 := ⟨ml_RL_52, im_yX8_spice, se_yX8_spice, ini_RX8, cd_yX8_spice, by decide +kernel, by decide, _, _, rfl⟩
theorem cw_RX8_173 : CV RX8 173 yX7_putSeed cX7_putSeed 1 none 0 7 := ⟨ml_RX8_173, im_yX7_putSeed, se_yX7_putSeed, ini_RX7, cd_yX7_putSeed, by decide +kernel, by decide, _, _, rfl⟩
theorem cw_RL_56 : CV RL 56 yX8_bread cX8_bread 2 (some .int) 1 8 := ⟨ml_RL_56, im_yX8_bread, se_yX8_bread, ini_RX8, cd_yX8_bread, by decide +kernel, by decide, _, _, rfl⟩
theorem cw_RX8_176 : CV RX8 176 yX7_eats cX7_eats 2 (some .boolean) 1 7 := ⟨ml_RX8_176, im_yX7_eats, se_yX7_eats, ini_RX7, cd_yX7_eats, by decide +kernel, by decide, _, _, rfl⟩
theorem cw_RX8_179 : CV RX8 179 yX7_takeBread cX7_takeBread 2 none 1 7 := ⟨ml_RX8_179, im_yX7_takeBread, se_yX7_takeBread, ini_RX7, cd_yX7_takeBread, by decide +kernel, by decide, _, _, rfl⟩
theorem cw_RL_60 : CV RL 60 yX8_undo cX8_undo 1 (some .int) 0 8 := ⟨ml_RL_60, im_yX8_undo, se_yX8_undo, ini_RX8, cd_yX8_undo, by decide +kernel, by decide, _, _, rfl⟩
theorem cw_RX8_182 : CV RX8 182 yX0_takeBack cX0_takeBack 2 none 1 0 := ⟨ml_RX8_182, im_yX0_takeBack, se_yX0_takeBack, ini_RX0, cd_yX0_takeBack, by decide +kernel, by decide, _, _, rfl⟩
theorem cw_RL_64 : CV RL 64 yX8_lasts cX8_lasts 2 (some .int) 0 8 := ⟨ml_RL_64, im_yX8_lasts, se_yX8_lasts, ini_RX8, cd_yX8_lasts, by decide +kernel, by decide, _, _, rfl⟩
theorem cw_RX8_185 : CV RX8 185 yX8_bitesTillNoneOf cX8_bitesTillNoneOf 3 (some .int) 1 8 := ⟨ml_RX8_185, im_yX8_bitesTillNoneOf, se_yX8_bitesTillNoneOf, ini_RX8, cd_yX8_bitesTillNoneOf, by decide +kernel, by decide, _, _, rfl⟩
theorem cw_RX8_188 : CV RX8 188 yX7_copyFrom cX7_copyFrom 3 none 1 7 := ⟨ml_RX8_188, im_yX7_copyFrom, se_yX7_copyFrom, ini_RX7, cd_yX7_copyFrom, by decide +kernel, by decide, _, _, rfl⟩
theorem cw_RL_68 : CV RL 68 yX8_bears cX8_bears 2 (some .int) 1 8 := ⟨ml_RL_68, im_yX8_bears, se_yX8_bears, ini_RX8, cd_yX8_bears, by decide +kernel, by decide, _, _, rfl⟩
theorem cw_RL_72 : CV RL 72 yX8_best cX8_best 4 (some .int) 2 8 := ⟨ml_RL_72, im_yX8_best, se_yX8_best, ini_RX8, cd_yX8_best, by decide +kernel, by decide, _, _, rfl⟩
theorem cw_RX8_191 : CV RX8 191 yX3_mostBy cX3_mostBy 4 (some .int) 3 3 := ⟨ml_RX8_191, im_yX3_mostBy, se_yX3_mostBy, ini_RX3, cd_yX3_mostBy, by decide +kernel, by decide, _, _, rfl⟩
theorem cw_RX3_43 : CV RX3 43 yX7_copyFrom cX7_copyFrom 3 none 1 7 := ⟨ml_RX3_43, im_yX7_copyFrom, se_yX7_copyFrom, ini_RX7, cd_yX7_copyFrom, by decide +kernel, by decide, _, _, rfl⟩
theorem cw_RX3_47 : CV RX3 47 yX3_goOn cX3_goOn 7 none 3 3 := ⟨ml_RX3_47, im_yX3_goOn, se_yX3_goOn, ini_RX3, cd_yX3_goOn, by decide +kernel, by decide, _, _, rfl⟩
theorem cw_RX3_51 : CV RX3 51 yX7_takeBite cX7_takeBite 2 none 0 7 := ⟨ml_RX3_51, im_yX7_takeBite, se_yX7_takeBite, ini_RX7, cd_yX7_takeBite, by decide +kernel, by decide, _, _, rfl⟩
theorem cw_RX3_59 : CV RX3 59 yX7_canBeSaid cX7_canBeSaid 2 (some .boolean) 1 7 := ⟨ml_RX3_59, im_yX7_canBeSaid, se_yX7_canBeSaid, ini_RX7, cd_yX7_canBeSaid, by decide +kernel, by decide, _, _, rfl⟩
theorem cw_RX3_63 : CV RX3 63 yX7_bind cX7_bind 2 none 1 7 := ⟨ml_RX3_63, im_yX7_bind, se_yX7_bind, ini_RX7, cd_yX7_bind, by decide +kernel, by decide, _, _, rfl⟩
theorem cw_RX3_67 : CV RX3 67 yX1_worth cX1_worth 2 (some .int) 1 1 := ⟨ml_RX3_67, im_yX1_worth, se_yX1_worth, ini_RX1, cd_yX1_worth, by decide +kernel, by decide, _, _, rfl⟩
theorem cw_RL_77 : CV RL 77 yX8_hot cX8_hot 5 (some .int) 2 8 := ⟨ml_RL_77, im_yX8_hot, se_yX8_hot, ini_RX8, cd_yX8_hot, by decide +kernel, by decide, _, _, rfl⟩
theorem cw_RX8_198 : CV RX8 198 yX8_canBeSaidFrom cX8_canBeSaidFrom 5 (some .boolean) 3 8 := ⟨ml_RX8_198, im_yX8_canBeSaidFrom, se_yX8_canBeSaidFrom, ini_RX8, cd_yX8_canBeSaidFrom, by decide +kernel, by decide, _, _, rfl⟩
theorem cw_RL_81 : CV RL 81 yX8_spiceFor cX8_spiceFor 3 (some .int) 1 8 := ⟨ml_RL_81, im_yX8_spiceFor, se_yX8_spiceFor, ini_RX8, cd_yX8_spiceFor, by decide +kernel, by decide, _, _, rfl⟩
theorem cw_RX8_202 : CV RX8 202 yX7_isBound cX7_isBound 2 (some .boolean) 1 7 := ⟨ml_RX8_202, im_yX7_isBound, se_yX7_isBound, ini_RX7, cd_yX7_isBound, by decide +kernel, by decide, _, _, rfl⟩
theorem cw_RL_85 : CV RL 85 yX8_judge cX8_judge 5 (some .int) 2 8 := ⟨ml_RL_85, im_yX8_judge, se_yX8_judge, ini_RX8, cd_yX8_judge, by decide +kernel, by decide, _, _, rfl⟩
theorem cw_RX8_205 : CS RX8 205 yX8_isRowOfFigures cX8_isRowOfFigures 4 (some .boolean) 2 := ⟨ml_RX8_205, st_yX8_isRowOfFigures, ini_RX8, cd_yX8_isRowOfFigures, by decide +kernel, by decide⟩
theorem cw_RX8_209 : CS RX8 209 yX8_powerOfTen cX8_powerOfTen 3 (some .int) 1 := ⟨ml_RX8_209, st_yX8_powerOfTen, ini_RX8, cd_yX8_powerOfTen, by decide +kernel, by decide⟩
theorem cw_RX8_212 : CV RX8 212 yX7_takeTurn cX7_takeTurn 3 (some .boolean) 1 7 := ⟨ml_RX8_212, im_yX7_takeTurn, se_yX7_takeTurn, ini_RX7, cd_yX7_takeTurn, by decide +kernel, by decide, _, _, rfl⟩
theorem cw_RX7_93 : CV RX7 93 yX7_changeBy cX7_changeBy 2 none 1 7 := ⟨ml_RX7_93, im_yX7_changeBy, se_yX7_changeBy, ini_RX7, cd_yX7_changeBy, by decide +kernel, by decide, _, _, rfl⟩
theorem cw_RX7_97 : CV RX7 97 yX7_takeBite cX7_takeBite 2 none 0 7 := ⟨ml_RX7_97, im_yX7_takeBite, se_yX7_takeBite, ini_RX7, cd_yX7_takeBite, by decide +kernel, by decide, _, _, rfl⟩
theorem cw_RX7_100 : CV RX7 100 yX7_putSeed cX7_putSeed 1 none 0 7 := ⟨ml_RX7_100, im_yX7_putSeed, se_yX7_putSeed, ini_RX7, cd_yX7_putSeed, by decide +kernel, by decide, _, _, rfl⟩
theorem cw_RX7_103 : CV RX7 103 yX7_bind cX7_bind 2 none 1 7 := ⟨ml_RX7_103, im_yX7_bind, se_yX7_bind, ini_RX7, cd_yX7_bind, by decide +kernel, by decide, _, _, rfl⟩
theorem cw_RL_89 : CV RL 89 yX8_share cX8_share 8 (some .int) 2 8 := ⟨ml_RL_89, im_yX8_share, se_yX8_share, ini_RX8, cd_yX8_share, by decide +kernel, by decide, _, _, rfl⟩
theorem cw_RX8_215 : CV RX8 215 yX1_clausesOf cX1_clausesOf 4 (some .int) 1 1 := ⟨ml_RX8_215, im_yX1_clausesOf, se_yX1_clausesOf, ini_RX1, cd_yX1_clausesOf, by decide +kernel, by decide, _, _, rfl⟩
theorem cw_RX8_218 : CV RX8 218 yX8_ordersWith cX8_ordersWith 3 (some .int) 1 8 := ⟨ml_RX8_218, im_yX8_ordersWith, se_yX8_ordersWith, ini_RX8, cd_yX8_ordersWith, by decide +kernel, by decide, _, _, rfl⟩
theorem cw_RX8_228 : CS RX8 228 yJ6_bitCount_0f7a4 cJ6_bitCount_0f7a4 1 (some .int) 1 := ⟨ml_RX8_228, st_yJ6_bitCount_0f7a4, ini_RJ6, cd_yJ6_bitCount_0f7a4, by decide +kernel, by decide⟩
theorem cw_RX8_221 : CS RX8 221 yX8_factorial cX8_factorial 3 (some .int) 1 := ⟨ml_RX8_221, st_yX8_factorial, ini_RX8, cd_yX8_factorial, by decide +kernel, by decide⟩
theorem cw_RX8_224 : CS RX8 224 yX8_fraction cX8_fraction 4 (some .int) 3 := ⟨ml_RX8_224, st_yX8_fraction, ini_RX8, cd_yX8_fraction, by decide +kernel, by decide⟩
theorem cw_RX8_233 : CS RX8 233 yX8_commonDivisor cX8_commonDivisor 6 (some .int) 2 := ⟨ml_RX8_233, st_yX8_commonDivisor, ini_RX8, cd_yX8_commonDivisor, by decide +kernel, by decide⟩
theorem cw_RL_93 : CV RL 93 yX8_see cX8_see 4 (some .int) 3 8 := ⟨ml_RL_93, im_yX8_see, se_yX8_see, ini_RX8, cd_yX8_see, by decide +kernel, by decide, _, _, rfl⟩
theorem cw_RX8_241 : CS RX8 241 yX8_isKind cX8_isKind 1 (some .boolean) 1 := ⟨ml_RX8_241, st_yX8_isKind, ini_RX8, cd_yX8_isKind, by decide +kernel, by decide⟩
theorem cw_RX8_244 : CV RX8 244 yX4_add cX4_add 4 none 3 4 := ⟨ml_RX8_244, im_yX4_add, se_yX4_add, ini_RX4, cd_yX4_add, by decide +kernel, by decide, _, _, rfl⟩
theorem cw_RL_98 : CV RL 98 yX8_unsee cX8_unsee 2 (some .int) 0 8 := ⟨ml_RL_98, im_yX8_unsee, se_yX8_unsee, ini_RX8, cd_yX8_unsee, by decide +kernel, by decide, _, _, rfl⟩
theorem cw_RL_102 : CV RL 102 yX8_palates cX8_palates 2 (some .int) 1 8 := ⟨ml_RL_102, im_yX8_palates, se_yX8_palates, ini_RX8, cd_yX8_palates, by decide +kernel, by decide, _, _, rfl⟩
theorem cw_RX8_248 : CV RX8 248 yX4_palatesThatFit cX4_palatesThatFit 4 (some .int) 1 4 := ⟨ml_RX8_248, im_yX4_palatesThatFit, se_yX4_palatesThatFit, ini_RX4, cd_yX4_palatesThatFit, by decide +kernel, by decide, _, _, rfl⟩
theorem cw_RX4_25 : CV RX4 25 yX4_fitsAll cX4_fitsAll 4 (some .boolean) 2 4 := ⟨ml_RX4_25, im_yX4_fitsAll, se_yX4_fitsAll, ini_RX4, cd_yX4_fitsAll, by decide +kernel, by decide, _, _, rfl⟩
theorem cw_RX4_29 : CS RX4 29 yX1_painFor cX1_painFor 4 (some .int) 3 := ⟨ml_RX4_29, st_yX1_painFor, ini_RX1, cd_yX1_painFor, by decide +kernel, by decide⟩
theorem cw_RL_106 : CV RL 106 yX8_rests cX8_rests 4 (some .int) 3 8 := ⟨ml_RL_106, im_yX8_rests, se_yX8_rests, ini_RX8, cd_yX8_rests, by decide +kernel, by decide, _, _, rfl⟩
theorem cw_RX8_251 : CV RX8 251 yX6_find cX6_find 6 none 3 6 := ⟨ml_RX8_251, im_yX6_find, se_yX6_find, ini_RX6, cd_yX6_find, by decide +kernel, by decide, _, _, rfl⟩
theorem cw_RX6_22 : CV RX6 22 yX6_isLeast cX6_isLeast 7 (some .boolean) 4 6 := ⟨ml_RX6_22, im_yX6_isLeast, se_yX6_isLeast, ini_RX6, cd_yX6_isLeast, by decide +kernel, by decide, _, _, rfl⟩
theorem cw_RX6_26 : CV RX6 26 yX6_loss cX6_loss 8 (some .int) 4 6 := ⟨ml_RX6_26, im_yX6_loss, se_yX6_loss, ini_RX6, cd_yX6_loss, by decide +kernel, by decide, _, _, rfl⟩
theorem cw_RX6_39 : CV RX6 39 yX1_pain cX1_pain 3 (some .int) 2 1 := ⟨ml_RX6_39, im_yX1_pain, se_yX1_pain, ini_RX1, cd_yX1_pain, by decide +kernel, by decide, _, _, rfl⟩
theorem cw_RL_110 : CV RL 110 yX8_chance cX8_chance 7 (some .int) 4 8 := ⟨ml_RL_110, im_yX8_chance, se_yX8_chance, ini_RX8, cd_yX8_chance, by decide +kernel, by decide, _, _, rfl⟩
theorem cw_RX8_258 : CV RX8 258 yX8_stillEats cX8_stillEats 6 (some .boolean) 3 8 := ⟨ml_RX8_258, im_yX8_stillEats, se_yX8_stillEats, ini_RX8, cd_yX8_stillEats, by decide +kernel, by decide, _, _, rfl⟩
theorem cw_RX8_265 : CV RX8 265 yX1_tearsToStop cX1_tearsToStop 2 (some .int) 1 1 := ⟨ml_RX8_265, im_yX1_tearsToStop, se_yX1_tearsToStop, ini_RX1, cd_yX1_tearsToStop, by decide +kernel, by decide, _, _, rfl⟩
theorem cw_RX8_261 : CS RX8 261 yX8_weight cX8_weight 5 (some .int) 3 := ⟨ml_RX8_261, st_yX8_weight, ini_RX8, cd_yX8_weight, by decide +kernel, by decide⟩
theorem cw_RL_117 : CV RL 117 yX8_seed cX8_seed 5 (some .long) 1 8 := ⟨ml_RL_117, im_yX8_seed, se_yX8_seed, ini_RX8, cd_yX8_seed, by decide +kernel, by decide, _, _, rfl⟩
theorem cw_RL_122 : CV RL 122 yX8_talks cX8_talks 3 (some .int) 1 8 := ⟨ml_RL_122, im_yX8_talks, se_yX8_talks, ini_RX8, cd_yX8_talks, by decide +kernel, by decide, _, _, rfl⟩
theorem cw_RX8_278 : CV RX8 278 yX8_takeDrawnTurn cX8_takeDrawnTurn 2 none 1 8 := ⟨ml_RX8_278, im_yX8_takeDrawnTurn, se_yX8_takeDrawnTurn, ini_RX8, cd_yX8_takeDrawnTurn, by decide +kernel, by decide, _, _, rfl⟩
theorem cw_RX8_281 : CV RX8 281 yX1_worthOf cX1_worthOf 4 (some .int) 1 1 := ⟨ml_RX8_281, im_yX1_worthOf, se_yX1_worthOf, ini_RX1, cd_yX1_worthOf, by decide +kernel, by decide, _, _, rfl⟩
theorem cw_RX1_43 : CV RX1 43 yX1_worth cX1_worth 2 (some .int) 1 1 := ⟨ml_RX1_43, im_yX1_worth, se_yX1_worth, ini_RX1, cd_yX1_worth, by decide +kernel, by decide, _, _, rfl⟩
theorem cw_RL_126 : CV RL 126 yX8_keep cX8_keep 2 (some .int) 1 8 := ⟨ml_RL_126, im_yX8_keep, se_yX8_keep, ini_RX8, cd_yX8_keep, by decide +kernel, by decide, _, _, rfl⟩
theorem cw_RX8_284 : CV RX8 284 yX5_put cX5_put 3 none 2 5 := ⟨ml_RX8_284, im_yX5_put, se_yX5_put, ini_RX5, cd_yX5_put, by decide +kernel, by decide, _, _, rfl⟩
theorem cw_RX5_24 : CV RX5 24 yX7_copyFrom cX7_copyFrom 3 none 1 7 := ⟨ml_RX5_24, im_yX7_copyFrom, se_yX7_copyFrom, ini_RX7, cd_yX7_copyFrom, by decide +kernel, by decide, _, _, rfl⟩
theorem cw_RL_130 : CV RL 130 yX8_again cX8_again 2 (some .int) 1 8 := ⟨ml_RL_130, im_yX8_again, se_yX8_again, ini_RX8, cd_yX8_again, by decide +kernel, by decide, _, _, rfl⟩
theorem cw_RL_17 : CV RL 17 yX9_write cX9_write 2 (some .int) 1 9 := ⟨ml_RL_17, im_yX9_write, se_yX9_write, ini_RX9, cd_yX9_write, by decide +kernel, by decide, _, _, rfl⟩
theorem cw_RX9_60 : CS RX9 60 yX9_in cX9_in 6 (some .boolean) 3 := ⟨ml_RX9_60, st_yX9_in, ini_RX9, cd_yX9_in, by decide +kernel, by decide⟩
theorem cw_RL_22 : CV RL 22 yX9_wipe cX9_wipe 2 (some .int) 0 9 := ⟨ml_RL_22, im_yX9_wipe, se_yX9_wipe, ini_RX9, cd_yX9_wipe, by decide +kernel, by decide, _, _, rfl⟩
theorem cw_RL_26 : CV RL 26 yX9_fault cX9_fault 1 (some .int) 0 9 := ⟨ml_RL_26, im_yX9_fault, se_yX9_fault, ini_RX9, cd_yX9_fault, by decide +kernel, by decide, _, _, rfl⟩
theorem cw_RX9_99 : CV RX9 99 yX9_readTalk cX9_readTalk 1 (some .int) 0 9 := ⟨ml_RX9_99, im_yX9_readTalk, se_yX9_readTalk, ini_RX9, cd_yX9_readTalk, by decide +kernel, by decide, _, _, rfl⟩
theorem cw_RX9_75 : CV RX9 75 yX9_figure cX9_figure 3 (some .int) 2 9 := ⟨ml_RX9_75, im_yX9_figure, se_yX9_figure, ini_RX9, cd_yX9_figure, by decide +kernel, by decide, _, _, rfl⟩
theorem cw_RX9_96 : CV RX9 96 yX9_readPart cX9_readPart 2 (some .boolean) 0 9 := ⟨ml_RX9_96, im_yX9_readPart, se_yX9_readPart, ini_RX9, cd_yX9_readPart, by decide +kernel, by decide, _, _, rfl⟩
theorem cw_RX9_85 : CV RX9 85 yX9_readEnvoy cX9_readEnvoy 4 (some .boolean) 0 9 := ⟨ml_RX9_85, im_yX9_readEnvoy, se_yX9_readEnvoy, ini_RX9, cd_yX9_readEnvoy, by decide +kernel, by decide, _, _, rfl⟩
theorem cw_RX9_88 : CV RX9 88 yX9_readClause cX9_readClause 4 (some .boolean) 0 9 := ⟨ml_RX9_88, im_yX9_readClause, se_yX9_readClause, ini_RX9, cd_yX9_readClause, by decide +kernel, by decide, _, _, rfl⟩
theorem cw_RL_30 : CV RL 30 yX9_talk cX9_talk 2 (some .int) 0 9 := ⟨ml_RL_30, im_yX9_talk, se_yX9_talk, ini_RX9, cd_yX9_talk, by decide +kernel, by decide, _, _, rfl⟩
theorem cw_RL_34 : CV RL 34 yX9_about cX9_about 2 (some .int) 1 9 := ⟨ml_RL_34, im_yX9_about, se_yX9_about, ini_RX9, cd_yX9_about, by decide +kernel, by decide, _, _, rfl⟩
theorem cw_RX9_121 : CV RX9 121 yX9_sayable cX9_sayable 4 (some .int) 1 9 := ⟨ml_RX9_121, im_yX9_sayable, se_yX9_sayable, ini_RX9, cd_yX9_sayable, by decide +kernel, by decide, _, _, rfl⟩
theorem cw_RX9_114 : CV RX9 114 yX9_canSay cX9_canSay 4 (some .boolean) 2 9 := ⟨ml_RX9_114, im_yX9_canSay, se_yX9_canSay, ini_RX9, cd_yX9_canSay, by decide +kernel, by decide, _, _, rfl⟩
theorem cw_RX9_110 : CS RX9 110 yX9_has cX9_has 2 (some .boolean) 2 := ⟨ml_RX9_110, st_yX9_has, ini_RX9, cd_yX9_has, by decide +kernel, by decide⟩
theorem cw_RL_39 : CV RL 39 yX9_envoy cX9_envoy 3 (some .int) 2 9 := ⟨ml_RL_39, im_yX9_envoy, se_yX9_envoy, ini_RX9, cd_yX9_envoy, by decide +kernel, by decide, _, _, rfl⟩
theorem cw_RX9_128 : CV RX9 128 yX9_noEnvoy cX9_noEnvoy 2 (some .boolean) 1 9 := ⟨ml_RX9_128, im_yX9_noEnvoy, se_yX9_noEnvoy, ini_RX9, cd_yX9_noEnvoy, by decide +kernel, by decide, _, _, rfl⟩
theorem cw_RX9_118 : CV RX9 118 yX9_painOf cX9_painOf 3 (some .int) 2 9 := ⟨ml_RX9_118, im_yX9_painOf, se_yX9_painOf, ini_RX9, cd_yX9_painOf, by decide +kernel, by decide, _, _, rfl⟩
theorem cw_RX9_106 : CS RX9 106 yX9_painBy cX9_painBy 4 (some .int) 3 := ⟨ml_RX9_106, st_yX9_painBy, ini_RX9, cd_yX9_painBy, by decide +kernel, by decide⟩
theorem cw_RL_43 : CV RL 43 yX9_clause cX9_clause 3 (some .int) 2 9 := ⟨ml_RL_43, im_yX9_clause, se_yX9_clause, ini_RX9, cd_yX9_clause, by decide +kernel, by decide, _, _, rfl⟩
theorem cw_RX9_132 : CV RX9 132 yX9_noClause cX9_noClause 2 (some .boolean) 1 9 := ⟨ml_RX9_132, im_yX9_noClause, se_yX9_noClause, ini_RX9, cd_yX9_noClause, by decide +kernel, by decide, _, _, rfl⟩
theorem cw_RX9_137 : CV RX9 137 yX9_worthOf cX9_worthOf 2 (some .int) 1 9 := ⟨ml_RX9_137, im_yX9_worthOf, se_yX9_worthOf, ini_RX9, cd_yX9_worthOf, by decide +kernel, by decide, _, _, rfl⟩
theorem cw_RL_47 : CV RL 47 yX9_bite cX9_bite 1 (some .int) 0 9 := ⟨ml_RL_47, im_yX9_bite, se_yX9_bite, ini_RX9, cd_yX9_bite, by decide +kernel, by decide, _, _, rfl⟩
theorem cw_RX9_141 : CV RX9 141 yX9_note cX9_note 2 none 0 9 := ⟨ml_RX9_141, im_yX9_note, se_yX9_note, ini_RX9, cd_yX9_note, by decide +kernel, by decide, _, _, rfl⟩
theorem cw_RX9_144 : CV RX9 144 yX9_goBite cX9_goBite 3 none 1 9 := ⟨ml_RX9_144, im_yX9_goBite, se_yX9_goBite, ini_RX9, cd_yX9_goBite, by decide +kernel, by decide, _, _, rfl⟩
theorem cw_RL_51 : CV RL 51 yX9_say cX9_say 2 (some .int) 1 9 := ⟨ml_RL_51, im_yX9_say, se_yX9_say, ini_RX9, cd_yX9_say, by decide +kernel, by decide, _, _, rfl⟩
theorem cw_RL_55 : CV RL 55 yX9_spice cX9_spice 1 (some .int) 0 9 := ⟨ml_RL_55, im_yX9_spice, se_yX9_spice, ini_RX9, cd_yX9_spice, by decide +kernel, by decide, _, _, rfl⟩
theorem cw_RX9_148 : CS RX9 148 yX9_goSpice cX9_goSpice 1 none 1 := ⟨ml_RX9_148, st_yX9_goSpice, ini_RX9, cd_yX9_goSpice, by decide +kernel, by decide⟩
theorem cw_RL_59 : CV RL 59 yX9_bread cX9_bread 2 (some .int) 1 9 := ⟨ml_RL_59, im_yX9_bread, se_yX9_bread, ini_RX9, cd_yX9_bread, by decide +kernel, by decide, _, _, rfl⟩
theorem cw_RL_63 : CV RL 63 yX9_undo cX9_undo 2 (some .int) 0 9 := ⟨ml_RL_63, im_yX9_undo, se_yX9_undo, ini_RX9, cd_yX9_undo, by decide +kernel, by decide, _, _, rfl⟩
theorem cw_RL_67 : CV RL 67 yX9_lasts cX9_lasts 1 (some .int) 0 9 := ⟨ml_RL_67, im_yX9_lasts, se_yX9_lasts, ini_RX9, cd_yX9_lasts, by decide +kernel, by decide, _, _, rfl⟩
theorem cw_RX9_154 : CV RX9 154 yX9_till cX9_till 3 (some .int) 1 9 := ⟨ml_RX9_154, im_yX9_till, se_yX9_till, ini_RX9, cd_yX9_till, by decide +kernel, by decide, _, _, rfl⟩
theorem cw_RX9_151 : CV RX9 151 yX9_begin cX9_begin 2 none 0 9 := ⟨ml_RX9_151, im_yX9_begin, se_yX9_begin, ini_RX9, cd_yX9_begin, by decide +kernel, by decide, _, _, rfl⟩
theorem cw_RL_71 : CV RL 71 yX9_bears cX9_bears 2 (some .int) 1 9 := ⟨ml_RL_71, im_yX9_bears, se_yX9_bears, ini_RX9, cd_yX9_bears, by decide +kernel, by decide, _, _, rfl⟩
theorem cw_RL_76 : CV RL 76 yX9_best cX9_best 3 (some .int) 2 9 := ⟨ml_RL_76, im_yX9_best, se_yX9_best, ini_RX9, cd_yX9_best, by decide +kernel, by decide, _, _, rfl⟩
theorem cw_RX9_168 : CV RX9 168 yX9_findBest cX9_findBest 9 none 2 9 := ⟨ml_RX9_168, im_yX9_findBest, se_yX9_findBest, ini_RX9, cd_yX9_findBest, by decide +kernel, by decide, _, _, rfl⟩
theorem cw_RX9_163 : CS RX9 163 yX9_power cX9_power 4 (some .int) 2 := ⟨ml_RX9_163, st_yX9_power, ini_RX9, cd_yX9_power, by decide +kernel, by decide⟩
theorem cw_RL_80 : CV RL 80 yX9_hot cX9_hot 6 (some .int) 2 9 := ⟨ml_RL_80, im_yX9_hot, se_yX9_hot, ini_RX9, cd_yX9_hot, by decide +kernel, by decide, _, _, rfl⟩
theorem cw_RL_84 : CV RL 84 yX9_spiceFor cX9_spiceFor 4 (some .int) 1 9 := ⟨ml_RL_84, im_yX9_spiceFor, se_yX9_spiceFor, ini_RX9, cd_yX9_spiceFor, by decide +kernel, by decide, _, _, rfl⟩
theorem cw_RL_88 : CV RL 88 yX9_judge cX9_judge 4 (some .int) 2 9 := ⟨ml_RL_88, im_yX9_judge, se_yX9_judge, ini_RX9, cd_yX9_judge, by decide +kernel, by decide, _, _, rfl⟩
theorem cw_RX9_176 : CS RX9 176 yX9_noRow cX9_noRow 4 (some .boolean) 2 := ⟨ml_RX9_176, st_yX9_noRow, ini_RX9, cd_yX9_noRow, by decide +kernel, by decide⟩
theorem cw_RX9_179 : CV RX9 179 yX9_does cX9_does 3 (some .boolean) 1 9 := ⟨ml_RX9_179, im_yX9_does, se_yX9_does, ini_RX9, cd_yX9_does, by decide +kernel, by decide, _, _, rfl⟩
theorem cw_RL_92 : CV RL 92 yX9_share cX9_share 6 (some .int) 2 9 := ⟨ml_RL_92, im_yX9_share, se_yX9_share, ini_RX9, cd_yX9_share, by decide +kernel, by decide, _, _, rfl⟩
theorem cw_RX9_185 : CS RX9 185 yX9_many cX9_many 3 (some .int) 1 := ⟨ml_RX9_185, st_yX9_many, ini_RX9, cd_yX9_many, by decide +kernel, by decide⟩
theorem cw_RX9_188 : CS RX9 188 yX9_ways cX9_ways 3 (some .int) 1 := ⟨ml_RX9_188, st_yX9_ways, ini_RX9, cd_yX9_ways, by decide +kernel, by decide⟩
theorem cw_RX9_191 : CS RX9 191 yX9_fraction cX9_fraction 4 (some .int) 3 := ⟨ml_RX9_191, st_yX9_fraction, ini_RX9, cd_yX9_fraction, by decide +kernel, by decide⟩
theorem cw_RX9_182 : CS RX9 182 yX9_divisor cX9_divisor 5 (some .int) 2 := ⟨ml_RX9_182, st_yX9_divisor, ini_RX9, cd_yX9_divisor, by decide +kernel, by decide⟩
theorem cw_RL_97 : CV RL 97 yX9_see cX9_see 4 (some .int) 3 9 := ⟨ml_RL_97, im_yX9_see, se_yX9_see, ini_RX9, cd_yX9_see, by decide +kernel, by decide, _, _, rfl⟩
theorem cw_RL_101 : CV RL 101 yX9_unsee cX9_unsee 2 (some .int) 0 9 := ⟨ml_RL_101, im_yX9_unsee, se_yX9_unsee, ini_RX9, cd_yX9_unsee, by decide +kernel, by decide, _, _, rfl⟩
theorem cw_RL_105 : CV RL 105 yX9_palates cX9_palates 6 (some .int) 1 9 := ⟨ml_RL_105, im_yX9_palates, se_yX9_palates, ini_RX9, cd_yX9_palates, by decide +kernel, by decide, _, _, rfl⟩
theorem cw_RL_109 : CV RL 109 yX9_rests cX9_rests 4 (some .int) 3 9 := ⟨ml_RL_109, im_yX9_rests, se_yX9_rests, ini_RX9, cd_yX9_rests, by decide +kernel, by decide, _, _, rfl⟩
theorem cw_RX9_208 : CV RX9 208 yX9_findRests cX9_findRests 7 none 2 9 := ⟨ml_RX9_208, im_yX9_findRests, se_yX9_findRests, ini_RX9, cd_yX9_findRests, by decide +kernel, by decide, _, _, rfl⟩
theorem cw_RX9_205 : CV RX9 205 yX9_lossOf cX9_lossOf 7 (some .int) 3 9 := ⟨ml_RX9_205, im_yX9_lossOf, se_yX9_lossOf, ini_RX9, cd_yX9_lossOf, by decide +kernel, by decide, _, _, rfl⟩
theorem cw_RL_114 : CV RL 114 yX9_chance cX9_chance 10 (some .int) 4 9 := ⟨ml_RL_114, im_yX9_chance, se_yX9_chance, ini_RX9, cd_yX9_chance, by decide +kernel, by decide, _, _, rfl⟩
theorem cw_RL_121 : CV RL 121 yX9_seed cX9_seed 5 (some .long) 1 9 := ⟨ml_RL_121, im_yX9_seed, se_yX9_seed, ini_RX9, cd_yX9_seed, by decide +kernel, by decide, _, _, rfl⟩
theorem cw_RL_125 : CV RL 125 yX9_talks cX9_talks 5 (some .int) 1 9 := ⟨ml_RL_125, im_yX9_talks, se_yX9_talks, ini_RX9, cd_yX9_talks, by decide +kernel, by decide, _, _, rfl⟩
theorem cw_RL_129 : CV RL 129 yX9_keep cX9_keep 3 (some .int) 1 9 := ⟨ml_RL_129, im_yX9_keep, se_yX9_keep, ini_RX9, cd_yX9_keep, by decide +kernel, by decide, _, _, rfl⟩
theorem cw_RL_133 : CV RL 133 yX9_again cX9_again 3 (some .int) 1 9 := ⟨ml_RL_133, im_yX9_again, se_yX9_again, ini_RX9, cd_yX9_again, by decide +kernel, by decide, _, _, rfl⟩
