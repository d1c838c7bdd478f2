/-! ===== the memory picture: 93 cells of fixed shape, ints by (cell, slot); references never change ===== -/
abbrev m_G : Type := Nat → Nat → Int32
def m_ur (g : m_G) (k : Nat) (f : Nat → Int32) : m_G := fun a => if a = k then f else g a
def m_up (g : m_G) (k j : Nat) (v : Int32) : m_G := m_ur g k (upd (g k) j v)
def m_hl5 : List (Nat × Nat) := [(1, 0), (22, 6), (3, 0), (20, 10), (2, 0), (2, 0), (2, 0), (2, 0), (2, 0), (2, 0)]
def m_shL : List (Nat × Nat) := [(8, 0), (23, 8), (4, 0), (4, 0), (4, 0), (4, 0), (4, 0), (4, 0), (4, 0), (4, 0), (20, 40), (20, 40), (20, 40), (20, 40), (20, 40), (20, 40), (20, 40), (20, 40), (6, 0), (20, 100), (0, 0), (20, 24), (20, 24), (20, 24), (5, 0), (7, 0), (20, 16), (24, 2)] ++ (m_hl5 ++ (m_hl5 ++ (m_hl5 ++ (m_hl5 ++ m_hl5)))) ++ [(9, 0), (20, 1092), (21, 2), (20, 8), (20, 8), (20, 320), (20, 100), (20, 16), (20, 6), (20, 6), (20, 6), (20, 10), (20, 4), (20, 4), (20, 6)]
def m_sh (k : Nat) : Nat × Nat := m_shL.getD k (99, 0)
def m_nf (t : Nat) : Nat := [4, 12, 5, 6, 4, 2, 5, 2, 10, 24].getD t 0
def m_ir (t j : Nat) : Bool := match t with
  | 0 => decide (j < 3)
  | 1 => decide (j < 2)
  | 2 => false
  | 3 => decide (j = 0)
  | 4 => decide (j = 0)
  | 5 => decide (j = 0)
  | 6 => decide (j = 0)
  | 7 => decide (j = 0)
  | 8 => decide (j < 8)
  | _ => [0, 3, 4, 5, 6, 7, 11, 16, 17, 18, 19, 21, 22, 23].elem j
def m_rt (t k j : Nat) : Nat := match t with
  | 0 => 21 + j
  | 1 => k + 1 + j
  | 3 => k + 1
  | 4 => k + 8
  | 5 => 68
  | 6 => 19
  | 7 => 26
  | 8 => [1, 18, 28, 38, 27, 20, 24, 25].getD j 0
  | 9 => [79, 0, 0, 80, 81, 82, 83, 84, 0, 0, 0, 85, 0, 0, 0, 0, 86, 87, 88, 89, 0, 90, 91, 92].getD j 0
  | 22 => k + 3 + j
  | 23 => 2 + j
  | _ => 48 + 10 * j
def m_rf (k j : Nat) : Nat := m_rt (m_sh k).1 k j
def m_fs (ad : Nat → Nat) (g : m_G) (k : Nat) : List Value := (List.range (m_nf (m_sh k).1)).map (fun j => if m_ir (m_sh k).1 j = true then Value.ref (ad (m_rf k j)) else Value.int (g k j))
def m_ce (cy : Nat → ClassId) (ad : Nat → Nat) (g : m_G) (k : Nat) : va_E :=
  if (m_sh k).1 < 10 then .inr ((m_sh k).1, m_fs ad g k)
  else if (m_sh k).1 < 22 then .inl (cy ((m_sh k).1 - 20), (m_sh k).2, .inl (g k))
  else .inl (cy ((m_sh k).1 - 20), (m_sh k).2, .inr (.inr (.inr (.inr (fun i => some (ad (m_rf k i)))))))
def m_ws (cy : Nat → ClassId) (ad : Nat → Nat) (g : m_G) : va_W := (List.range 93).map (fun k => (ad k, m_ce cy ad g k))
def m_ty (cy : Nat → ClassId) : List (ClassId × FieldType) := [(cy 0, .int), (cy 1, .boolean), (cy 2, .object "SaintHill$House"), (cy 3, .object "SaintHill$Row"), (cy 4, .object "SaintHill$Hill")]
abbrev m_cl : List vw_C := [(RX0, TX0, 4), (RX1, TX1, 12), (RX2, TX2, 5), (RX3, TX3, 6), (RX4, TX4, 4), (RX5, TX5, 2), (RX6, TX6, 5), (RX7, TX7, 2), (RX8, TX8, 10), (RX9, TX9, 24)]
def m_cr (t : Nat) : vw_C := m_cl.getD t (RX0, TX0, 0)
def m_ro (SL : Nat) : List (Nat × Nat) := [(200, SL), (201, 6), (202, 6), (203, 6), (204, 6), (205, 6)]
def m_sta : List (String × String × Nat) := [("SaintHill", "WIDER", 201), ("SaintHill$Hill", "LEAST", 202), ("SaintHill$Hill", "MOST", 203), ("SaintHill$Trace", "SIZE_BODY", 204), ("SaintHill$Trace", "MARK_BODY", 205)]
def m_isN : Cond → Bool
  | .fieldLinkNest .. => true
  | .methodLinkNest .. => true
  | _ => false
def m_gw : List Cond := lw_tbl.filter goodWord
def m_nw : List Cond := lw_tbl.filter m_isN
def m_cv (ad : Nat → Nat) : Value → Value
  | .ref k => .ref (ad k)
  | v => v
theorem m_cv_cat (ad : Nat → Nat) (v : Value) : (m_cv ad v).category = v.category := by cases v <;> rfl
theorem m_ws_get {cy : Nat → ClassId} {ad : Nat → Nat} {g : m_G} {k : Nat} (h : k < 93) : (m_ws cy ad g)[k]? = some (ad k, m_ce cy ad g k) := by
  simp [m_ws, h]
theorem m_ws_set {cy : Nat → ClassId} {ad : Nat → Nat} {g : m_G} {k : Nat} {f : Nat → Int32} {e : va_E} (h : k < 93) (he : e = m_ce cy ad (m_ur g k f) k) : (m_ws cy ad g).set k (ad k, e) = m_ws cy ad (m_ur g k f) := by
  apply List.ext_getElem?
  intro j
  by_cases hj : j = k
  · subst hj
    rw [m_ws_get h, List.getElem?_set_self (by simp [m_ws]; exact h), he]
  · rw [List.getElem?_set_ne (Ne.symm hj)]
    by_cases hl : j < 93
    · rw [m_ws_get hl, m_ws_get hl]
      have e1 : m_ur g k f j = g j := by simp [m_ur, hj]
      have e2 : m_ce cy ad (m_ur g k f) j = m_ce cy ad g j := by
        have e3 : m_fs ad (m_ur g k f) j = m_fs ad g j := by unfold m_fs; rw [e1]
        unfold m_ce; rw [e1, e3]
      rw [e2]
    · rw [List.getElem?_eq_none (by simp [m_ws]; omega), List.getElem?_eq_none (by simp [m_ws]; omega)]
theorem m_fs_get {ad : Nat → Nat} {g : m_G} {k j : Nat} (h : j < m_nf (m_sh k).1) : (m_fs ad g k)[j]? = some (if m_ir (m_sh k).1 j = true then Value.ref (ad (m_rf k j)) else Value.int (g k j)) := by
  simp [m_fs, h]
theorem m_fs_len {ad : Nat → Nat} {g : m_G} {k : Nat} : (m_fs ad g k).length = m_nf (m_sh k).1 := by simp [m_fs]
theorem m_fs_set {ad : Nat → Nat} {g : m_G} {k j : Nat} {v : Int32} (h : j < m_nf (m_sh k).1) (hr : m_ir (m_sh k).1 j = false) : (m_fs ad g k).set j (.int v) = m_fs ad (m_up g k j v) k := by
  apply List.ext_getElem?
  intro i
  by_cases hi : i = j
  · subst hi
    rw [List.getElem?_set_self (by rw [m_fs_len]; exact h), m_fs_get h, hr]
    simp [m_up, m_ur, upd]
  · rw [List.getElem?_set_ne (Ne.symm hi)]
    by_cases hl : i < m_nf (m_sh k).1
    · rw [m_fs_get hl, m_fs_get hl]
      simp [m_up, m_ur, upd, hi]
    · rw [List.getElem?_eq_none (by rw [m_fs_len]; omega), List.getElem?_eq_none (by rw [m_fs_len]; omega)]
theorem m_ce_ob {cy : Nat → ClassId} {ad : Nat → Nat} {g : m_G} {k t : Nat} (h : (m_sh k).1 = t) (ht : t < 10) : m_ce cy ad g k = .inr (t, m_fs ad g k) := by
  unfold m_ce; rw [h, if_pos ht]
theorem m_ce_ar {cy : Nat → ClassId} {ad : Nat → Nat} {g : m_G} {k n : Nat} (h : m_sh k = (20, n)) : m_ce cy ad g k = .inl (cy 0, n, .inl (g k)) := by
  unfold m_ce; rw [h]; rfl
theorem m_ce_az {cy : Nat → ClassId} {ad : Nat → Nat} {g : m_G} {k n : Nat} (h : m_sh k = (21, n)) : m_ce cy ad g k = .inl (cy 1, n, .inl (g k)) := by
  unfold m_ce; rw [h]; rfl
theorem m_ce_aq {cy : Nat → ClassId} {ad : Nat → Nat} {g : m_G} {k t n : Nat} (h : m_sh k = (22 + t, n)) : m_ce cy ad g k = .inl (cy (2 + t), n, .inr (.inr (.inr (.inr (fun i => some (ad (m_rf k i))))))) := by
  unfold m_ce; rw [h]
  rw [if_neg (by show ¬ 22 + t < 10; omega), if_neg (by show ¬ 22 + t < 22; omega), show 22 + t - 20 = 2 + t by omega]
theorem m_lt93 {k t n : Nat} (h : m_sh k = (t, n)) (ht : t < 99) : k < 93 := by
  rcases Nat.lt_or_ge k 93 with q | q
  · exact q
  · have h2 : m_sh k = (99, 0) := by
      unfold m_sh
      rw [List.getD_eq_getElem?_getD, List.getElem?_eq_none (by exact q)]; rfl
    rw [h2] at h
    have : (99 : Nat) = t := congrArg Prod.fst h
    omega
/-! ===== the judgement ===== -/
def m_HL (ls : Array Slot) (nL : Nat) (L : List Value) (ad : Nat → Nat) : Prop := ls.size = nL ∧ lv_wf ls ∧ ∀ (i : Nat) (v : Value), L[i]? = some v → v ≠ .null → ls[i]? = some (.val (m_cv ad v))
def m_C (SL d : Nat) (p : Program) (R : Room) (s : State) (m : MethodId) (args : Array Value) (meth : Method) (c : Code) (cells slots : Nat) (y : MethodName) (cc : ByteArray) (nL : Nat) (ret : Option FieldType) (A : Nat → Prop) (dC : Nat → ClassId) (dI : Nat → Nat → Nat) (cy : Nat → ClassId) (ad : Nat → Nat) (g0 : m_G) : Prop :=
  p.tables.exec = Jvm.exec ∧ c.code = cc ∧ c.maxLocals = nL ∧ meth.sig.returnType = ret ∧ meth.locks = false ∧ s.vm.findClass y.cls = some m.cls ∧ (∀ w ∈ m_gw, w.before args s = true) ∧ (∀ w ∈ m_nw, va_Nw w s) ∧ (∀ q, s.heap.size ≤ q → A q) ∧ va_K (dC, dI) m_cl (m_ty cy) s ∧ (d ≤ R.frames ∧ 60 * d ≤ R.locals) ∧ (∀ q ∈ m_sta, va_Z q.1 q.2.1 "[I" (.ref (ad q.2.2)) A s s.heap) ∧ (∀ q ∈ m_ro SL, va_T .int (ad q.1) q.2 (fun j => .int (g0 q.1 j)) A s s.heap) ∧ cells ≤ R.cells ∧ slots ≤ R.slots
def m_W (s : State) (A : Nat → Prop) (dC : Nat → ClassId) (dI : Nat → Nat → Nat) (cy : Nat → ClassId) (ad : Nat → Nat) (g0 g : m_G) (H : Heap) (locs : List Loc) : Prop :=
  va_P (dC, dI) m_cl (m_ws cy ad g) H ∧ va_D A (m_ws cy ad g) ∧ va_S A s.heap H locs ∧ ∀ k, 93 ≤ k → g k = g0 k
def m_nar (ret : Option FieldType) (r : Int32) : Prop := ∀ ty, ret = some ty → narrow ty (.int r) = .int r
def m_R (p : Program) (l : Launch) (e : Env) (R : Room) (s : State) (m : MethodId) (args : Array Value) (below : List Frame) (meth : Method) (c : Code) (cells slots : Nat) (Z : State → Prop) (cc : ByteArray) (ret : Option FieldType) (A : Nat → Prop) (dC : Nat → ClassId) (dI : Nat → Nat → Nat) (cy : Nat → ClassId) (ad : Nat → Nat) (g0 : m_G) (Q : Option Int32 → m_G → Prop) : Prop :=
  ∀ (g' : m_G) (H' : Heap) (locs' : List Loc) (pc' : Nat) (ls' : Array Slot), m_W s A dC dI cy ad g0 g' H' locs' →
    (∀ r, (∃ ty, ret = some ty) → Q (some r) g' → m_nar ret r → decode cc pc' = .ok (.ireturn, 1) → W p l e R s m args below meth c H' locs' cells slots Z (F0 m pc' ls' [.int r])) ∧
    (ret = none → Q none g' → decode cc pc' = .ok (.return_, 1) → W p l e R s m args below meth c H' locs' cells slots Z (F0 m pc' ls' []))
def Sim (SL d : Nat) (y : MethodName) (cc : ByteArray) (nL : Nat) (ret : Option FieldType) (pc : Nat) (L st : List Value) (g : m_G) (Q : Option Int32 → m_G → Prop) : Prop :=
  ∀ ⦃p : Program⦄ ⦃l : Launch⦄ ⦃e : Env⦄ ⦃R : Room⦄ ⦃s : State⦄ ⦃m : MethodId⦄ ⦃args : Array Value⦄ ⦃below : List Frame⦄ ⦃meth : Method⦄ ⦃c : Code⦄ ⦃H : Heap⦄ ⦃locs : List Loc⦄ ⦃cells slots : Nat⦄ ⦃Z : State → Prop⦄ ⦃A : Nat → Prop⦄ ⦃dC : Nat → ClassId⦄ ⦃dI : Nat → Nat → Nat⦄ ⦃cy : Nat → ClassId⦄ ⦃ad : Nat → Nat⦄ ⦃ls : Array Slot⦄ ⦃g0 : m_G⦄,
    m_C SL d p R s m args meth c cells slots y cc nL ret A dC dI cy ad g0 → m_R p l e R s m args below meth c cells slots Z cc ret A dC dI cy ad g0 Q → m_W s A dC dI cy ad g0 g H locs → m_HL ls nL L ad →
    W p l e R s m args below meth c H locs cells slots Z (F0 m pc ls (st.map (m_cv ad)))

section SIMROWS
variable {SL d : Nat} {y : MethodName} {cc : ByteArray} {nL : Nat} {ret : Option FieldType} {pc n : Nat} {L L2 st : List Value} {g : m_G} {Q : Option Int32 → m_G → Prop}
theorem s_iconst {z : Int} {v : Int32} (hd : decode cc pc = .ok (.iconst z, 1)) (hn : n = pc + 1) (hv : Int32.ofInt z = v) (k : Sim SL d y cc nL ret n L (.int v :: st) g Q) : Sim SL d y cc nL ret pc L (st) g Q := by
  intro p l e R s m args below meth c H locs cells slots Z A dC dI cy ad ls g0 hC hR hW hL
  subst hn
  exact lv_iconst hC.1 hC.2.1 hd hv (k hC hR hW hL)
theorem s_bipush {z : Int} {v : Int32} (hd : decode cc pc = .ok (.bipush z, 2)) (hn : n = pc + 2) (hv : (Int8.ofInt z).toInt32 = v) (k : Sim SL d y cc nL ret n L (.int v :: st) g Q) : Sim SL d y cc nL ret pc L (st) g Q := by
  intro p l e R s m args below meth c H locs cells slots Z A dC dI cy ad ls g0 hC hR hW hL
  subst hn
  exact lv_bipush hC.1 hC.2.1 hd hv (k hC hR hW hL)
theorem s_sipush {z : Int} {v : Int32} (hd : decode cc pc = .ok (.sipush z, 3)) (hn : n = pc + 3) (hv : (Int16.ofInt z).toInt32 = v) (k : Sim SL d y cc nL ret n L (.int v :: st) g Q) : Sim SL d y cc nL ret pc L (st) g Q := by
  intro p l e R s m args below meth c H locs cells slots Z A dC dI cy ad ls g0 hC hR hW hL
  subst hn
  exact lv_sipush hC.1 hC.2.1 hd hv (k hC hR hW hL)
theorem s_lconst {z : Fin 2} {v : Int64} (hd : decode cc pc = .ok (.lconst z, 1)) (hn : n = pc + 1) (hv : Int64.ofNat (z : Nat) = v) (k : Sim SL d y cc nL ret n L (.long v :: st) g Q) : Sim SL d y cc nL ret pc L (st) g Q := by
  intro p l e R s m args below meth c H locs cells slots Z A dC dI cy ad ls g0 hC hR hW hL
  subst hn
  exact lv_lconst hC.1 hC.2.1 hd hv (k hC hR hW hL)
theorem s_ldc {ix : Nat} {v : Int32} (hd : decode cc pc = .ok (.ldc ix, 2)) (hn : n = pc + 2) (hw : Cond.constant y.cls ix v ∈ m_gw) (k : Sim SL d y cc nL ret n L (.int v :: st) g Q) : Sim SL d y cc nL ret pc L (st) g Q := by
  intro p l e R s m args below meth c H locs cells slots Z A dC dI cy ad ls g0 hC hR hW hL
  subst hn
  exact lv_ldc hC.1 hC.2.1 hC.2.2.2.2.2.1 (hC.2.2.2.2.2.2.1 _ hw) hd (k hC hR hW hL)
theorem s_ldcw {ix : Nat} {v : Int32} (hd : decode cc pc = .ok (.ldc_w ix, 3)) (hn : n = pc + 3) (hw : Cond.constant y.cls ix v ∈ m_gw) (k : Sim SL d y cc nL ret n L (.int v :: st) g Q) : Sim SL d y cc nL ret pc L (st) g Q := by
  intro p l e R s m args below meth c H locs cells slots Z A dC dI cy ad ls g0 hC hR hW hL
  subst hn
  exact lv_ldcw hC.1 hC.2.1 hC.2.2.2.2.2.1 (hC.2.2.2.2.2.2.1 _ hw) hd (k hC hR hW hL)
theorem s_ldc2 {ix : Nat} {v : Int64} (hd : decode cc pc = .ok (.ldc2_w ix, 3)) (hn : n = pc + 3) (hw : Cond.constantLong y.cls ix v ∈ m_gw) (k : Sim SL d y cc nL ret n L (.long v :: st) g Q) : Sim SL d y cc nL ret pc L (st) g Q := by
  intro p l e R s m args below meth c H locs cells slots Z A dC dI cy ad ls g0 hC hR hW hL
  subst hn
  exact lv_ldc2 hC.1 hC.2.1 hC.2.2.2.2.2.1 (hC.2.2.2.2.2.2.1 _ hw) hd (k hC hR hW hL)
theorem s_iload_n {q : Fin 4} {i : Nat} {x : Int32} (hd : decode cc pc = .ok (.iload_n q, 1)) (hn : n = pc + 1) (hi : (q : Nat) = i) (hl : L[i]? = some (.int x)) (k : Sim SL d y cc nL ret n L (.int x :: st) g Q) : Sim SL d y cc nL ret pc L (st) g Q := by
  intro p l e R s m args below meth c H locs cells slots Z A dC dI cy ad ls g0 hC hR hW hL
  subst hn
  exact lv_iload_n hC.1 hC.2.1 hd hi (hL.2.2 _ _ hl (fun h => by cases h)) (k hC hR hW hL)
theorem s_lload_n {q : Fin 4} {i : Nat} {x : Int64} (hd : decode cc pc = .ok (.lload_n q, 1)) (hn : n = pc + 1) (hi : (q : Nat) = i) (hl : L[i]? = some (.long x)) (k : Sim SL d y cc nL ret n L (.long x :: st) g Q) : Sim SL d y cc nL ret pc L (st) g Q := by
  intro p l e R s m args below meth c H locs cells slots Z A dC dI cy ad ls g0 hC hR hW hL
  subst hn
  exact lv_lload_n hC.1 hC.2.1 hd hi (hL.2.2 _ _ hl (fun h => by cases h)) (k hC hR hW hL)
theorem s_aload_n {q : Fin 4} {i : Nat} {x : Nat} (hd : decode cc pc = .ok (.aload_n q, 1)) (hn : n = pc + 1) (hi : (q : Nat) = i) (hl : L[i]? = some (.ref x)) (k : Sim SL d y cc nL ret n L (.ref x :: st) g Q) : Sim SL d y cc nL ret pc L (st) g Q := by
  intro p l e R s m args below meth c H locs cells slots Z A dC dI cy ad ls g0 hC hR hW hL
  subst hn
  exact lv_aload_n hC.1 hC.2.1 hd hi (hL.2.2 _ _ hl (fun h => by cases h)) (k hC hR hW hL)
theorem s_iload {i : Nat} {x : Int32} (hd : decode cc pc = .ok (.iload i, 2)) (hn : n = pc + 2) (hl : L[i]? = some (.int x)) (k : Sim SL d y cc nL ret n L (.int x :: st) g Q) : Sim SL d y cc nL ret pc L (st) g Q := by
  intro p l e R s m args below meth c H locs cells slots Z A dC dI cy ad ls g0 hC hR hW hL
  subst hn
  exact lv_iload hC.1 hC.2.1 hd (hL.2.2 _ _ hl (fun h => by cases h)) (k hC hR hW hL)
theorem s_lload {i : Nat} {x : Int64} (hd : decode cc pc = .ok (.lload i, 2)) (hn : n = pc + 2) (hl : L[i]? = some (.long x)) (k : Sim SL d y cc nL ret n L (.long x :: st) g Q) : Sim SL d y cc nL ret pc L (st) g Q := by
  intro p l e R s m args below meth c H locs cells slots Z A dC dI cy ad ls g0 hC hR hW hL
  subst hn
  exact lv_lload hC.1 hC.2.1 hd (hL.2.2 _ _ hl (fun h => by cases h)) (k hC hR hW hL)
theorem s_aload {i : Nat} {x : Nat} (hd : decode cc pc = .ok (.aload i, 2)) (hn : n = pc + 2) (hl : L[i]? = some (.ref x)) (k : Sim SL d y cc nL ret n L (.ref x :: st) g Q) : Sim SL d y cc nL ret pc L (st) g Q := by
  intro p l e R s m args below meth c H locs cells slots Z A dC dI cy ad ls g0 hC hR hW hL
  subst hn
  exact lv_aload hC.1 hC.2.1 hd (hL.2.2 _ _ hl (fun h => by cases h)) (k hC hR hW hL)
theorem s_iadd {a b : Int32} (hd : decode cc pc = .ok (.iadd, 1)) (hn : n = pc + 1) (k : Sim SL d y cc nL ret n L (.int (a + b) :: st) g Q) : Sim SL d y cc nL ret pc L (.int b :: .int a :: st) g Q := by
  intro p l e R s m args below meth c H locs cells slots Z A dC dI cy ad ls g0 hC hR hW hL
  subst hn
  exact lv_iadd hC.1 hC.2.1 hd (k hC hR hW hL)
theorem s_isub {a b : Int32} (hd : decode cc pc = .ok (.isub, 1)) (hn : n = pc + 1) (k : Sim SL d y cc nL ret n L (.int (a - b) :: st) g Q) : Sim SL d y cc nL ret pc L (.int b :: .int a :: st) g Q := by
  intro p l e R s m args below meth c H locs cells slots Z A dC dI cy ad ls g0 hC hR hW hL
  subst hn
  exact lv_isub hC.1 hC.2.1 hd (k hC hR hW hL)
theorem s_imul {a b : Int32} (hd : decode cc pc = .ok (.imul, 1)) (hn : n = pc + 1) (k : Sim SL d y cc nL ret n L (.int (a * b) :: st) g Q) : Sim SL d y cc nL ret pc L (.int b :: .int a :: st) g Q := by
  intro p l e R s m args below meth c H locs cells slots Z A dC dI cy ad ls g0 hC hR hW hL
  subst hn
  exact lv_imul hC.1 hC.2.1 hd (k hC hR hW hL)
theorem s_iand {a b : Int32} (hd : decode cc pc = .ok (.iand, 1)) (hn : n = pc + 1) (k : Sim SL d y cc nL ret n L (.int (a &&& b) :: st) g Q) : Sim SL d y cc nL ret pc L (.int b :: .int a :: st) g Q := by
  intro p l e R s m args below meth c H locs cells slots Z A dC dI cy ad ls g0 hC hR hW hL
  subst hn
  exact lv_iand hC.1 hC.2.1 hd (k hC hR hW hL)
theorem s_ior {a b : Int32} (hd : decode cc pc = .ok (.ior, 1)) (hn : n = pc + 1) (k : Sim SL d y cc nL ret n L (.int (a ||| b) :: st) g Q) : Sim SL d y cc nL ret pc L (.int b :: .int a :: st) g Q := by
  intro p l e R s m args below meth c H locs cells slots Z A dC dI cy ad ls g0 hC hR hW hL
  subst hn
  exact lv_ior hC.1 hC.2.1 hd (k hC hR hW hL)
theorem s_ixor {a b : Int32} (hd : decode cc pc = .ok (.ixor, 1)) (hn : n = pc + 1) (k : Sim SL d y cc nL ret n L (.int (a ^^^ b) :: st) g Q) : Sim SL d y cc nL ret pc L (.int b :: .int a :: st) g Q := by
  intro p l e R s m args below meth c H locs cells slots Z A dC dI cy ad ls g0 hC hR hW hL
  subst hn
  exact lv_ixor hC.1 hC.2.1 hd (k hC hR hW hL)
theorem s_ishl {a b : Int32} (hd : decode cc pc = .ok (.ishl, 1)) (hn : n = pc + 1) (k : Sim SL d y cc nL ret n L (.int (a <<< (b &&& 31)) :: st) g Q) : Sim SL d y cc nL ret pc L (.int b :: .int a :: st) g Q := by
  intro p l e R s m args below meth c H locs cells slots Z A dC dI cy ad ls g0 hC hR hW hL
  subst hn
  exact lv_ishl hC.1 hC.2.1 hd (k hC hR hW hL)
theorem s_ishr {a b : Int32} (hd : decode cc pc = .ok (.ishr, 1)) (hn : n = pc + 1) (k : Sim SL d y cc nL ret n L (.int (a >>> (b &&& 31)) :: st) g Q) : Sim SL d y cc nL ret pc L (.int b :: .int a :: st) g Q := by
  intro p l e R s m args below meth c H locs cells slots Z A dC dI cy ad ls g0 hC hR hW hL
  subst hn
  exact lv_ishr hC.1 hC.2.1 hd (k hC hR hW hL)
theorem s_idiv {a b : Int32} (hd : decode cc pc = .ok (.idiv, 1)) (hn : n = pc + 1) (hz : ¬ b = 0) (k : Sim SL d y cc nL ret n L (.int (a / b) :: st) g Q) : Sim SL d y cc nL ret pc L (.int b :: .int a :: st) g Q := by
  intro p l e R s m args below meth c H locs cells slots Z A dC dI cy ad ls g0 hC hR hW hL
  subst hn
  exact lv_idiv hC.1 hC.2.1 hd hz (k hC hR hW hL)
theorem s_irem {a b : Int32} (hd : decode cc pc = .ok (.irem, 1)) (hn : n = pc + 1) (hz : ¬ b = 0) (k : Sim SL d y cc nL ret n L (.int (a - a / b * b) :: st) g Q) : Sim SL d y cc nL ret pc L (.int b :: .int a :: st) g Q := by
  intro p l e R s m args below meth c H locs cells slots Z A dC dI cy ad ls g0 hC hR hW hL
  subst hn
  exact lv_irem hC.1 hC.2.1 hd hz (k hC hR hW hL)
theorem s_iushr {a b v : Int32} (hd : decode cc pc = .ok (.iushr, 1)) (hn : n = pc + 1) (hv : (a.toUInt32 >>> (b.toUInt32 &&& Int32.toUInt32 31)).toInt32 = v) (k : Sim SL d y cc nL ret n L (.int v :: st) g Q) : Sim SL d y cc nL ret pc L (.int b :: .int a :: st) g Q := by
  intro p l e R s m args below meth c H locs cells slots Z A dC dI cy ad ls g0 hC hR hW hL
  subst hn
  exact lv_iushr hC.1 hC.2.1 hd hv (k hC hR hW hL)
theorem s_ineg {a : Int32} (hd : decode cc pc = .ok (.ineg, 1)) (hn : n = pc + 1) (k : Sim SL d y cc nL ret n L (.int (-a) :: st) g Q) : Sim SL d y cc nL ret pc L (.int a :: st) g Q := by
  intro p l e R s m args below meth c H locs cells slots Z A dC dI cy ad ls g0 hC hR hW hL
  subst hn
  exact lv_ineg hC.1 hC.2.1 hd (k hC hR hW hL)
theorem s_ladd {a b : Int64} (hd : decode cc pc = .ok (.ladd, 1)) (hn : n = pc + 1) (k : Sim SL d y cc nL ret n L (.long (a + b) :: st) g Q) : Sim SL d y cc nL ret pc L (.long b :: .long a :: st) g Q := by
  intro p l e R s m args below meth c H locs cells slots Z A dC dI cy ad ls g0 hC hR hW hL
  subst hn
  exact lv_ladd hC.1 hC.2.1 hd (k hC hR hW hL)
theorem s_lmul {a b : Int64} (hd : decode cc pc = .ok (.lmul, 1)) (hn : n = pc + 1) (k : Sim SL d y cc nL ret n L (.long (a * b) :: st) g Q) : Sim SL d y cc nL ret pc L (.long b :: .long a :: st) g Q := by
  intro p l e R s m args below meth c H locs cells slots Z A dC dI cy ad ls g0 hC hR hW hL
  subst hn
  exact lv_lmul hC.1 hC.2.1 hd (k hC hR hW hL)
theorem s_lrem {a b : Int64} (hd : decode cc pc = .ok (.lrem, 1)) (hn : n = pc + 1) (hz : ¬ b = 0) (k : Sim SL d y cc nL ret n L (.long (a - a / b * b) :: st) g Q) : Sim SL d y cc nL ret pc L (.long b :: .long a :: st) g Q := by
  intro p l e R s m args below meth c H locs cells slots Z A dC dI cy ad ls g0 hC hR hW hL
  subst hn
  exact lv_lrem hC.1 hC.2.1 hd hz (k hC hR hW hL)
theorem s_lcmp {a b : Int64} (hd : decode cc pc = .ok (.lcmp, 1)) (hn : n = pc + 1) (k : Sim SL d y cc nL ret n L (.int (lg_cmp a b) :: st) g Q) : Sim SL d y cc nL ret pc L (.long b :: .long a :: st) g Q := by
  intro p l e R s m args below meth c H locs cells slots Z A dC dI cy ad ls g0 hC hR hW hL
  subst hn
  exact W.lcmp hC.1 hC.2.1 hd (k hC hR hW hL)
theorem s_i2l {a : Int32} (hd : decode cc pc = .ok (.i2l, 1)) (hn : n = pc + 1) (k : Sim SL d y cc nL ret n L (.long a.toInt64 :: st) g Q) : Sim SL d y cc nL ret pc L (.int a :: st) g Q := by
  intro p l e R s m args below meth c H locs cells slots Z A dC dI cy ad ls g0 hC hR hW hL
  subst hn
  exact lv_i2l hC.1 hC.2.1 hd rfl (k hC hR hW hL)
theorem s_l2i {a : Int64} (hd : decode cc pc = .ok (.l2i, 1)) (hn : n = pc + 1) (k : Sim SL d y cc nL ret n L (.int a.toInt32 :: st) g Q) : Sim SL d y cc nL ret pc L (.long a :: st) g Q := by
  intro p l e R s m args below meth c H locs cells slots Z A dC dI cy ad ls g0 hC hR hW hL
  subst hn
  exact lv_l2i hC.1 hC.2.1 hd rfl (k hC hR hW hL)
theorem s_i2b {a : Int32} (hd : decode cc pc = .ok (.i2b, 1)) (hn : n = pc + 1) (k : Sim SL d y cc nL ret n L (.int a.toInt8.toInt32 :: st) g Q) : Sim SL d y cc nL ret pc L (.int a :: st) g Q := by
  intro p l e R s m args below meth c H locs cells slots Z A dC dI cy ad ls g0 hC hR hW hL
  subst hn
  exact lv_i2b hC.1 hC.2.1 hd rfl (k hC hR hW hL)
theorem s_i2s {a : Int32} (hd : decode cc pc = .ok (.i2s, 1)) (hn : n = pc + 1) (k : Sim SL d y cc nL ret n L (.int a.toInt16.toInt32 :: st) g Q) : Sim SL d y cc nL ret pc L (.int a :: st) g Q := by
  intro p l e R s m args below meth c H locs cells slots Z A dC dI cy ad ls g0 hC hR hW hL
  subst hn
  exact lv_i2s hC.1 hC.2.1 hd rfl (k hC hR hW hL)
theorem s_dup {a : Value} (hd : decode cc pc = .ok (.dup, 1)) (hn : n = pc + 1) (hv : a.category = 1) (k : Sim SL d y cc nL ret n L (a :: a :: st) g Q) : Sim SL d y cc nL ret pc L (a :: st) g Q := by
  intro p l e R s m args below meth c H locs cells slots Z A dC dI cy ad ls g0 hC hR hW hL
  subst hn
  exact lv_dup hC.1 hC.2.1 hd ((m_cv_cat ad a).trans hv) (k hC hR hW hL)
theorem s_pop {a : Value} (hd : decode cc pc = .ok (.pop, 1)) (hn : n = pc + 1) (hv : a.category = 1) (k : Sim SL d y cc nL ret n L (st) g Q) : Sim SL d y cc nL ret pc L (a :: st) g Q := by
  intro p l e R s m args below meth c H locs cells slots Z A dC dI cy ad ls g0 hC hR hW hL
  subst hn
  exact lv_pop hC.1 hC.2.1 hd ((m_cv_cat ad a).trans hv) (k hC hR hW hL)
theorem s_dup_x1 {a b : Value} (hd : decode cc pc = .ok (.dup_x1, 1)) (hn : n = pc + 1) (hv : a.category = 1) (hw : b.category = 1) (k : Sim SL d y cc nL ret n L (a :: b :: a :: st) g Q) : Sim SL d y cc nL ret pc L (a :: b :: st) g Q := by
  intro p l e R s m args below meth c H locs cells slots Z A dC dI cy ad ls g0 hC hR hW hL
  subst hn
  exact lv_dup_x1 hC.1 hC.2.1 hd ((m_cv_cat ad a).trans hv) ((m_cv_cat ad b).trans hw) (k hC hR hW hL)
theorem s_dup2 {a b : Value} (hd : decode cc pc = .ok (.dup2, 1)) (hn : n = pc + 1) (hv : a.category = 1) (hw : b.category = 1) (k : Sim SL d y cc nL ret n L (a :: b :: a :: b :: st) g Q) : Sim SL d y cc nL ret pc L (a :: b :: st) g Q := by
  intro p l e R s m args below meth c H locs cells slots Z A dC dI cy ad ls g0 hC hR hW hL
  subst hn
  exact lv_dup2_11 hC.1 hC.2.1 hd ((m_cv_cat ad a).trans hv) ((m_cv_cat ad b).trans hw) (k hC hR hW hL)
theorem s_icmp_eq {a b : Int32} {off : Int} {t : Nat} (hd : decode cc pc = .ok (.if_icmp .eq off, 3)) (ht : (pc : Int) + off = (t : Int)) (hn : n = pc + 3) (k1 : a = b → Sim SL d y cc nL ret t L st g Q) (k2 : ¬ (a = b) → Sim SL d y cc nL ret n L st g Q) : Sim SL d y cc nL ret pc L (.int b :: .int a :: st) g Q := by
  intro p l e R s m args below meth c H locs cells slots Z A dC dI cy ad ls g0 hC hR hW hL
  subst hn
  exact lv_icmp_eq hC.1 hC.2.1 hd ht (fun h => k1 h hC hR hW hL) (fun h => k2 h hC hR hW hL)
theorem s_icmp_ne {a b : Int32} {off : Int} {t : Nat} (hd : decode cc pc = .ok (.if_icmp .ne off, 3)) (ht : (pc : Int) + off = (t : Int)) (hn : n = pc + 3) (k1 : a ≠ b → Sim SL d y cc nL ret t L st g Q) (k2 : a = b → Sim SL d y cc nL ret n L st g Q) : Sim SL d y cc nL ret pc L (.int b :: .int a :: st) g Q := by
  intro p l e R s m args below meth c H locs cells slots Z A dC dI cy ad ls g0 hC hR hW hL
  subst hn
  exact lv_icmp_ne hC.1 hC.2.1 hd ht (fun h => k1 h hC hR hW hL) (fun h => k2 h hC hR hW hL)
theorem s_icmp_lt {a b : Int32} {off : Int} {t : Nat} (hd : decode cc pc = .ok (.if_icmp .lt off, 3)) (ht : (pc : Int) + off = (t : Int)) (hn : n = pc + 3) (k1 : a < b → Sim SL d y cc nL ret t L st g Q) (k2 : ¬ (a < b) → Sim SL d y cc nL ret n L st g Q) : Sim SL d y cc nL ret pc L (.int b :: .int a :: st) g Q := by
  intro p l e R s m args below meth c H locs cells slots Z A dC dI cy ad ls g0 hC hR hW hL
  subst hn
  exact lv_icmp_lt hC.1 hC.2.1 hd ht (fun h => k1 h hC hR hW hL) (fun h => k2 h hC hR hW hL)
theorem s_icmp_ge {a b : Int32} {off : Int} {t : Nat} (hd : decode cc pc = .ok (.if_icmp .ge off, 3)) (ht : (pc : Int) + off = (t : Int)) (hn : n = pc + 3) (k1 : b ≤ a → Sim SL d y cc nL ret t L st g Q) (k2 : ¬ (b ≤ a) → Sim SL d y cc nL ret n L st g Q) : Sim SL d y cc nL ret pc L (.int b :: .int a :: st) g Q := by
  intro p l e R s m args below meth c H locs cells slots Z A dC dI cy ad ls g0 hC hR hW hL
  subst hn
  exact lv_icmp_ge hC.1 hC.2.1 hd ht (fun h => k1 h hC hR hW hL) (fun h => k2 h hC hR hW hL)
theorem s_icmp_gt {a b : Int32} {off : Int} {t : Nat} (hd : decode cc pc = .ok (.if_icmp .gt off, 3)) (ht : (pc : Int) + off = (t : Int)) (hn : n = pc + 3) (k1 : b < a → Sim SL d y cc nL ret t L st g Q) (k2 : ¬ (b < a) → Sim SL d y cc nL ret n L st g Q) : Sim SL d y cc nL ret pc L (.int b :: .int a :: st) g Q := by
  intro p l e R s m args below meth c H locs cells slots Z A dC dI cy ad ls g0 hC hR hW hL
  subst hn
  exact lv_icmp_gt hC.1 hC.2.1 hd ht (fun h => k1 h hC hR hW hL) (fun h => k2 h hC hR hW hL)
theorem s_icmp_le {a b : Int32} {off : Int} {t : Nat} (hd : decode cc pc = .ok (.if_icmp .le off, 3)) (ht : (pc : Int) + off = (t : Int)) (hn : n = pc + 3) (k1 : a ≤ b → Sim SL d y cc nL ret t L st g Q) (k2 : ¬ (a ≤ b) → Sim SL d y cc nL ret n L st g Q) : Sim SL d y cc nL ret pc L (.int b :: .int a :: st) g Q := by
  intro p l e R s m args below meth c H locs cells slots Z A dC dI cy ad ls g0 hC hR hW hL
  subst hn
  exact lv_icmp_le hC.1 hC.2.1 hd ht (fun h => k1 h hC hR hW hL) (fun h => k2 h hC hR hW hL)
theorem s_if_eq {a : Int32} {off : Int} {t : Nat} (hd : decode cc pc = .ok (.ifCond .eq off, 3)) (ht : (pc : Int) + off = (t : Int)) (hn : n = pc + 3) (k1 : a = 0 → Sim SL d y cc nL ret t L st g Q) (k2 : ¬ (a = 0) → Sim SL d y cc nL ret n L st g Q) : Sim SL d y cc nL ret pc L (.int a :: st) g Q := by
  intro p l e R s m args below meth c H locs cells slots Z A dC dI cy ad ls g0 hC hR hW hL
  subst hn
  exact lv_if_eq hC.1 hC.2.1 hd ht (fun h => k1 h hC hR hW hL) (fun h => k2 h hC hR hW hL)
theorem s_if_ne {a : Int32} {off : Int} {t : Nat} (hd : decode cc pc = .ok (.ifCond .ne off, 3)) (ht : (pc : Int) + off = (t : Int)) (hn : n = pc + 3) (k1 : a ≠ 0 → Sim SL d y cc nL ret t L st g Q) (k2 : a = 0 → Sim SL d y cc nL ret n L st g Q) : Sim SL d y cc nL ret pc L (.int a :: st) g Q := by
  intro p l e R s m args below meth c H locs cells slots Z A dC dI cy ad ls g0 hC hR hW hL
  subst hn
  exact lv_if_ne hC.1 hC.2.1 hd ht (fun h => k1 h hC hR hW hL) (fun h => k2 h hC hR hW hL)
theorem s_if_lt {a : Int32} {off : Int} {t : Nat} (hd : decode cc pc = .ok (.ifCond .lt off, 3)) (ht : (pc : Int) + off = (t : Int)) (hn : n = pc + 3) (k1 : a < 0 → Sim SL d y cc nL ret t L st g Q) (k2 : ¬ (a < 0) → Sim SL d y cc nL ret n L st g Q) : Sim SL d y cc nL ret pc L (.int a :: st) g Q := by
  intro p l e R s m args below meth c H locs cells slots Z A dC dI cy ad ls g0 hC hR hW hL
  subst hn
  exact lv_if_lt hC.1 hC.2.1 hd ht (fun h => k1 h hC hR hW hL) (fun h => k2 h hC hR hW hL)
theorem s_if_ge {a : Int32} {off : Int} {t : Nat} (hd : decode cc pc = .ok (.ifCond .ge off, 3)) (ht : (pc : Int) + off = (t : Int)) (hn : n = pc + 3) (k1 : 0 ≤ a → Sim SL d y cc nL ret t L st g Q) (k2 : ¬ (0 ≤ a) → Sim SL d y cc nL ret n L st g Q) : Sim SL d y cc nL ret pc L (.int a :: st) g Q := by
  intro p l e R s m args below meth c H locs cells slots Z A dC dI cy ad ls g0 hC hR hW hL
  subst hn
  exact lv_if_ge hC.1 hC.2.1 hd ht (fun h => k1 h hC hR hW hL) (fun h => k2 h hC hR hW hL)
theorem s_if_gt {a : Int32} {off : Int} {t : Nat} (hd : decode cc pc = .ok (.ifCond .gt off, 3)) (ht : (pc : Int) + off = (t : Int)) (hn : n = pc + 3) (k1 : 0 < a → Sim SL d y cc nL ret t L st g Q) (k2 : ¬ (0 < a) → Sim SL d y cc nL ret n L st g Q) : Sim SL d y cc nL ret pc L (.int a :: st) g Q := by
  intro p l e R s m args below meth c H locs cells slots Z A dC dI cy ad ls g0 hC hR hW hL
  subst hn
  exact lv_if_gt hC.1 hC.2.1 hd ht (fun h => k1 h hC hR hW hL) (fun h => k2 h hC hR hW hL)
theorem s_if_le {a : Int32} {off : Int} {t : Nat} (hd : decode cc pc = .ok (.ifCond .le off, 3)) (ht : (pc : Int) + off = (t : Int)) (hn : n = pc + 3) (k1 : a ≤ 0 → Sim SL d y cc nL ret t L st g Q) (k2 : ¬ (a ≤ 0) → Sim SL d y cc nL ret n L st g Q) : Sim SL d y cc nL ret pc L (.int a :: st) g Q := by
  intro p l e R s m args below meth c H locs cells slots Z A dC dI cy ad ls g0 hC hR hW hL
  subst hn
  exact lv_if_le hC.1 hC.2.1 hd ht (fun h => k1 h hC hR hW hL) (fun h => k2 h hC hR hW hL)
theorem s_goto {off : Int} {t : Nat} (hd : decode cc pc = .ok (.goto off, 3)) (ht : (pc : Int) + off = (t : Int)) (k : Sim SL d y cc nL ret t L st g Q) : Sim SL d y cc nL ret pc L st g Q := by
  intro p l e R s m args below meth c H locs cells slots Z A dC dI cy ad ls g0 hC hR hW hL
  exact lv_goto hC.1 hC.2.1 hd ht (k hC hR hW hL)
theorem s_tsw_in {dflt lo hi off : Int} {offs : Array Int} {len t : Nat} {x : Int32} (hd : decode cc pc = .ok (.tableswitch dflt lo hi offs, len)) (h1 : ¬ x.toInt < lo) (h2 : ¬ hi < x.toInt) (ho : offs[(x.toInt - lo).toNat]? = some off) (ht : (pc : Int) + off = (t : Int)) (k : Sim SL d y cc nL ret t L st g Q) : Sim SL d y cc nL ret pc L (.int x :: st) g Q := by
  intro p l e R s m args below meth c H locs cells slots Z A dC dI cy ad ls g0 hC hR hW hL
  exact lv_tableIn hC.1 hC.2.1 hd h1 h2 ho ht (k hC hR hW hL)
theorem s_tsw_out {dflt lo hi : Int} {offs : Array Int} {len t : Nat} {x : Int32} (hd : decode cc pc = .ok (.tableswitch dflt lo hi offs, len)) (h : x.toInt < lo ∨ hi < x.toInt) (ht : (pc : Int) + dflt = (t : Int)) (k : Sim SL d y cc nL ret t L st g Q) : Sim SL d y cc nL ret pc L (.int x :: st) g Q := by
  intro p l e R s m args below meth c H locs cells slots Z A dC dI cy ad ls g0 hC hR hW hL
  exact lv_tableOut hC.1 hC.2.1 hd h ht (k hC hR hW hL)
theorem s_lsw {dflt : Int} {ps : Array (Int × Int)} {len : Nat} {x : Int32} {off : Int} {t : Nat} (hd : decode cc pc = .ok (.lookupswitch dflt ps, len)) (hp : (ps.toList.zip (ps.toList.drop 1)).all (fun (a, next) => a.1 < next.1) = true) (ho : Op.lookupswitch.offset ps.toList dflt x.toInt = off) (ht : (pc : Int) + off = (t : Int)) (k : Sim SL d y cc nL ret t L st g Q) : Sim SL d y cc nL ret pc L (.int x :: st) g Q := by
  intro p l e R s m args below meth c H locs cells slots Z A dC dI cy ad ls g0 hC hR hW hL
  exact lv_lookup hC.1 hC.2.1 hd hp ho ht (k hC hR hW hL)
theorem s_ireturn {r : Int32} {ty : FieldType} (hd : decode cc pc = .ok (.ireturn, 1)) (hr : ret = some ty) (hv : narrow ty (.int r) = .int r) (k : Q (some r) g) : Sim SL d y cc nL ret pc L [.int r] g Q := by
  intro p l e R s m args below meth c H locs cells slots Z A dC dI cy ad ls g0 hC hR hW hL
  exact (hR g H locs pc ls hW).1 r ⟨ty, hr⟩ k (fun t ht => by rw [hr] at ht; cases ht; exact hv) hd
theorem s_return (hd : decode cc pc = .ok (.return_, 1)) (hr : ret = none) (k : Q none g) : Sim SL d y cc nL ret pc L [] g Q := by
  intro p l e R s m args below meth c H locs cells slots Z A dC dI cy ad ls g0 hC hR hW hL
  exact (hR g H locs pc ls hW).2 hr k hd
theorem s_mono {Q2 : Option Int32 → m_G → Prop} (k : Sim SL d y cc nL ret pc L st g Q2) (hQ : ∀ r g2, Q2 r g2 → Q r g2) : Sim SL d y cc nL ret pc L st g Q := by
  intro p l e R s m args below meth c H locs cells slots Z A dC dI cy ad ls g0 hC hR hW hL
  exact k hC (fun g2 H2 locs2 pc2 ls2 w => ⟨fun r hr hq => ((hR g2 H2 locs2 pc2 ls2 w).1 r hr (hQ _ _ hq)), fun hr hq => (hR g2 H2 locs2 pc2 ls2 w).2 hr (hQ _ _ hq)⟩) hW hL
def m_nl (L : List Value) (i : Nat) : Bool := match i with
  | 0 => true
  | j + 1 => match L[j]? with
    | some (.long _) => false
    | some (.double _) => false
    | _ => true
def m_lv (L : List Value) (ad : Nat → Nat) : List (Nat × Value) := (List.range L.length).filterMap (fun (i : Nat) => match (L[i]? : Option Value) with
  | some Value.null => none
  | some v => some (i, m_cv ad v)
  | none => none)
theorem m_lv_mem {ad : Nat → Nat} {i : Nat} {w : Value} : (i, w) ∈ m_lv L ad ↔ ∃ v, L[i]? = some v ∧ v ≠ .null ∧ w = m_cv ad v := by
  unfold m_lv
  rw [List.mem_filterMap]
  constructor
  · rintro ⟨j, hj, he⟩
    cases hv : L[j]? with
    | none => rw [hv] at he; cases he
    | some v =>
      rw [hv] at he
      cases v <;> first | (cases he; done) | (cases he; exact ⟨_, hv, (fun h => by cases h), rfl⟩)
  · rintro ⟨v, hv, hne, rfl⟩
    refine ⟨i, List.mem_range.mpr (List.getElem?_eq_some_iff.mp hv).1, ?_⟩
    rw [hv]
    cases v <;> first | rfl | exact absurd rfl hne
theorem m_HL.has {ls : Array Slot} {ad : Nat → Nat} (h : m_HL ls nL L ad) : lv_has ls nL (m_lv L ad) := ⟨h.1, h.2.1, fun q hq => by
  obtain ⟨v, h1, h2, h3⟩ := m_lv_mem.mp (show (q.1, q.2) ∈ m_lv L ad from hq)
  rw [h3]; exact h.2.2 _ _ h1 h2⟩
theorem m_nl_cat {i : Nat} {v : Value} (h : m_nl L (i + 1) = true) (hv : L[i]? = some v) : ¬ v.category = 2 := by
  unfold m_nl at h
  simp only [hv] at h
  cases v <;> simp_all [Value.category]
theorem m_HL.st1 {ls : Array Slot} {ad : Nat → Nat} {i : Nat} {x : Value} (hn : m_nl L i = true) (hLS : L.set i x = L2) (h : lv_has ls nL ((i, m_cv ad x) :: (m_lv L ad).filter (fun q => !(q.1 == i) && !(q.1 + 1 == i && q.2.category == 2)))) : m_HL ls nL L2 ad := by
  subst hLS
  refine ⟨h.1, h.2.1, fun j v hv hne => ?_⟩
  by_cases hj : j = i
  · subst hj
    have hlt : j < L.length := by
      have := (List.getElem?_eq_some_iff.mp hv).1
      simpa using this
    rw [List.getElem?_set_self hlt] at hv
    cases hv
    exact h.2.2 (j, m_cv ad x) List.mem_cons_self
  · rw [List.getElem?_set_ne (Ne.symm hj)] at hv
    refine h.2.2 (j, m_cv ad v) (List.mem_cons_of_mem _ (List.mem_filter.mpr ⟨m_lv_mem.mpr ⟨v, hv, hne, rfl⟩, ?_⟩))
    have h1 : (j == i) = false := by simp [hj]
    by_cases h2 : j + 1 = i
    · subst h2
      have := m_nl_cat hn hv
      rw [← m_cv_cat ad] at this
      simp [this]
    · simp [h1, h2]
theorem m_HL.st2 {ls : Array Slot} {ad : Nat → Nat} {i : Nat} {x : Int64} (hn : m_nl L i = true) (hLS : (L.set i (.long x)).set (i + 1) .null = L2) (h : lv_has ls nL ((i, .long x) :: (m_lv L ad).filter (fun q => !(q.1 == i) && (!(q.1 == i + 1) && !(q.1 + 1 == i && q.2.category == 2))))) : m_HL ls nL L2 ad := by
  subst hLS
  refine ⟨h.1, h.2.1, fun j v hv hne => ?_⟩
  by_cases hj1 : j = i + 1
  · subst hj1
    by_cases hlt : i + 1 < (L.set i (.long x)).length
    · rw [List.getElem?_set_self hlt] at hv
      cases hv
      exact absurd rfl hne
    · rw [List.getElem?_eq_none (by simpa using hlt)] at hv
      cases hv
  · rw [List.getElem?_set_ne (Ne.symm hj1)] at hv
    by_cases hj : j = i
    · subst hj
      have hlt : j < L.length := by
        have := (List.getElem?_eq_some_iff.mp hv).1
        simpa using this
      rw [List.getElem?_set_self hlt] at hv
      cases hv
      exact h.2.2 (j, .long x) List.mem_cons_self
    · rw [List.getElem?_set_ne (Ne.symm hj)] at hv
      refine h.2.2 (j, m_cv ad v) (List.mem_cons_of_mem _ (List.mem_filter.mpr ⟨m_lv_mem.mpr ⟨v, hv, hne, rfl⟩, ?_⟩))
      have h1 : (j == i) = false := by simp [hj]
      by_cases h2 : j + 1 = i
      · subst h2
        have := m_nl_cat hn hv
        rw [← m_cv_cat ad] at this
        simp [this]
        omega
      · simp [h1, h2, hj1]
theorem s_istore {i : Nat} {x : Int32} (hd : decode cc pc = .ok (.istore i, 2)) (hn : n = pc + 2) (hi : i < nL) (hk : m_nl L i = true) (hL2 : L.set i (.int x) = L2) (k : Sim SL d y cc nL ret n L2 st g Q) : Sim SL d y cc nL ret pc L (.int x :: st) g Q := by
  intro p l e R s m args below meth c H locs cells slots Z A dC dI cy ad ls g0 hC hR hW hL
  subst hn
  exact lv_istore hC.1 hC.2.1 hd hL.has hi rfl (fun ls2 h2 => k hC hR hW (m_HL.st1 hk hL2 h2))
theorem s_astore {i : Nat} {x : Nat} (hd : decode cc pc = .ok (.astore i, 2)) (hn : n = pc + 2) (hi : i < nL) (hk : m_nl L i = true) (hL2 : L.set i (.ref x) = L2) (k : Sim SL d y cc nL ret n L2 st g Q) : Sim SL d y cc nL ret pc L (.ref x :: st) g Q := by
  intro p l e R s m args below meth c H locs cells slots Z A dC dI cy ad ls g0 hC hR hW hL
  subst hn
  exact lv_astore hC.1 hC.2.1 hd hL.has hi rfl (fun ls2 h2 => k hC hR hW (m_HL.st1 hk hL2 h2))
theorem s_istore_n {q : Fin 4} {i : Nat} {x : Int32} (hd : decode cc pc = .ok (.istore_n q, 1)) (hq : (q : Nat) = i) (hn : n = pc + 1) (hi : i < nL) (hk : m_nl L i = true) (hL2 : L.set i (.int x) = L2) (k : Sim SL d y cc nL ret n L2 st g Q) : Sim SL d y cc nL ret pc L (.int x :: st) g Q := by
  intro p l e R s m args below meth c H locs cells slots Z A dC dI cy ad ls g0 hC hR hW hL
  subst hn
  exact lv_istore_n hC.1 hC.2.1 hd hq hL.has hi rfl (fun ls2 h2 => k hC hR hW (m_HL.st1 hk hL2 h2))
theorem s_astore_n {q : Fin 4} {i : Nat} {x : Nat} (hd : decode cc pc = .ok (.astore_n q, 1)) (hq : (q : Nat) = i) (hn : n = pc + 1) (hi : i < nL) (hk : m_nl L i = true) (hL2 : L.set i (.ref x) = L2) (k : Sim SL d y cc nL ret n L2 st g Q) : Sim SL d y cc nL ret pc L (.ref x :: st) g Q := by
  intro p l e R s m args below meth c H locs cells slots Z A dC dI cy ad ls g0 hC hR hW hL
  subst hn
  exact lv_astore_n hC.1 hC.2.1 hd hq hL.has hi rfl (fun ls2 h2 => k hC hR hW (m_HL.st1 hk hL2 h2))
theorem s_lstore {i : Nat} {x : Int64} (hd : decode cc pc = .ok (.lstore i, 2)) (hn : n = pc + 2) (hi : i + 1 < nL) (hk : m_nl L i = true) (hL2 : (L.set i (.long x)).set (i + 1) .null = L2) (k : Sim SL d y cc nL ret n L2 st g Q) : Sim SL d y cc nL ret pc L (.long x :: st) g Q := by
  intro p l e R s m args below meth c H locs cells slots Z A dC dI cy ad ls g0 hC hR hW hL
  subst hn
  exact lv_lstore hC.1 hC.2.1 hd hL.has hi rfl (fun ls2 h2 => k hC hR hW (m_HL.st2 hk hL2 h2))
theorem s_iinc {i : Nat} {z : Int} {x v : Int32} (hd : decode cc pc = .ok (.iinc i z, 3)) (hn : n = pc + 3) (hi : i < nL) (hk : m_nl L i = true) (hl : L[i]? = some (.int x)) (hv : x + Int32.ofInt z = v) (hL2 : L.set i (.int v) = L2) (k : Sim SL d y cc nL ret n L2 st g Q) : Sim SL d y cc nL ret pc L st g Q := by
  intro p l e R s m args below meth c H locs cells slots Z A dC dI cy ad ls g0 hC hR hW hL
  subst hn
  obtain ⟨q, hq⟩ := List.getElem?_of_mem (m_lv_mem (ad := ad).mpr ⟨_, hl, (fun h => by cases h), rfl⟩)
  exact lv_iinc hC.1 hC.2.1 hd hL.has hq hv hi rfl (fun ls2 h2 => k hC hR hW (m_HL.st1 hk hL2 h2))
end SIMROWS
