/-! ===== making the objects: worlds that grow ===== -/
def b_ao : List String := ["SaintHill$House", "SaintHill$Row", "SaintHill$Hill"]
def b_C (p : Program) (s : State) (m : MethodId) (args : Array Value) (meth : Method) (c : Code) (y : MethodName) (cc : ByteArray) (nL : Nat) (A : Nat → Prop) (dC : Nat → ClassId) (dI : Nat → Nat → Nat) (cy : Nat → ClassId) : Prop :=
  p.tables.exec = Jvm.exec ∧ c.code = cc ∧ c.maxLocals = nL ∧ (y.name = "<init>" → meth.name = "<init>") ∧ s.vm.findClass y.cls = some m.cls ∧ (∀ w ∈ m_gw, w.before args s = true) ∧ (∀ w ∈ m_nw, va_Nw w s) ∧ (∀ C ∈ b_ao, va_AO C s) ∧ (∀ q, s.heap.size ≤ q → A q) ∧ va_K (dC, dI) m_cl (m_ty cy) s
def b_W (s : State) (A : Nat → Prop) (dC : Nat → ClassId) (dI : Nat → Nat → Nat) (X : va_W) (H : Heap) (locs : List Loc) : Prop := va_P (dC, dI) m_cl X H ∧ va_D A X ∧ va_S A s.heap H locs
def b_Pc (dC : Nat → ClassId) (dI : Nat → Nat → Nat) (cy : Nat → ClassId) (h sz : Nat) (e0 : va_E) : Array Value → State → Prop :=
  va_Pc [.ref h] (fun U => U.heap.size = sz ∧ va_P (dC, dI) m_cl [(h, e0)] U.heap ∧ va_K (dC, dI) m_cl (m_ty cy) U ∧ va_D (fun _ => True) [(h, e0)] ∧ (∀ w ∈ m_nw, va_Nw w U) ∧ (∀ C ∈ b_ao, va_AO C U))
def b_Qc (dC : Nat → ClassId) (dI : Nat → Nat → Nat) (A : Nat → Prop) (Q : va_W → Prop) : Array Value → State → Outcome → State → Prop := fun _ st oc t =>
  (∃ w1, oc = .returned none ∧ Q w1 ∧ va_P (dC, dI) m_cl w1 t.heap ∧ va_D A w1) ∧ va_F A st t
theorem b_Pc_blind {dC : Nat → ClassId} {dI : Nat → Nat → Nat} {cy : Nat → ClassId} {h sz : Nat} {e0 : va_E} : FrameBlind (b_Pc dC dI cy h sz e0) := by
  intro a U f mk h
  obtain ⟨h0, h1, h2, h3, h4, h5, h6⟩ := h
  exact ⟨h0, h1, h2, va_K.moved (u := U) (U := U.calling f mk a) (Vm.Alike.refl U.vm) h3, h4, fun w hw => va_Nw.same (m_Nw_onT hw) (u := U) (U := U.calling f mk a) rfl (h5 w hw), fun C hC => va_AO.moved (u := U) (U := U.calling f mk a) (Vm.Alike.refl U.vm) (h6 C hC)⟩
abbrev b_rm (d mc ms : Nat) : Room := { frames := d, cells := mc, slots := ms, locals := 60 * d }
def b_K (l : Launch) (dC : Nat → ClassId) (dI : Nat → Nat → Nat) (cy : Nat → ClassId) (d mc ms : Nat) (y : MethodName) (cc : ByteArray) (nL h sz : Nat) (e0 : va_E) (Q : va_W → Prop) : Prop :=
  Met l y (.code y cc nL none :: m_gw) (b_rm d mc ms) (b_Pc dC dI cy h sz e0) (b_Qc dC dI (va_A [(h, e0)] sz) Q) mc ms (va_A [(h, e0)] sz)
theorem b_met {l : Launch} {dC : Nat → ClassId} {dI : Nat → Nat → Nat} {cy : Nat → ClassId} {d mc ms : Nat} {y : MethodName} {cc : ByteArray} {nL h sz : Nat} {e0 : va_E} {Q : va_W → Prop} {L : List Value} (hpl : plainName y.cls = true) (hL : m_ent [.ref h] ++ List.replicate (nL - (m_ent [.ref h]).length) .null = L) (hn : (m_ent [.ref h]).length ≤ nL)
    (body : ∀ (p : Program) (e : Env) (s : State) (m : MethodId) (args : Array Value) (below : List Frame) (meth : Method) (c : Code) (Z : State → Prop) (A : Nat → Prop) (ls : Array Slot), b_C p s m args meth c y cc nL A dC dI cy → b_W s A dC dI [(h, e0)] s.heap [] → m_HL ls nL L id →
      (∀ (X : va_W) (H : Heap) (locs : List Loc) (pc : Nat) (ls2 : Array Slot) (cells slots : Nat), cells ≤ mc → slots ≤ ms → b_W s A dC dI X H locs → Q X → decode cc pc = .ok (.return_, 1) → W p l e (b_rm d mc ms) s m args below meth c H locs cells slots Z (F0 m pc ls2 [])) →
      W p l e (b_rm d mc ms) s m args below meth c s.heap [] 0 0 Z (F0 m 0 ls [])) : b_K l dC dI cy d mc ms y cc nL h sz e0 Q := by
  refine Met.ofW (cc := cc) (maxL := nL) (ret := none) hpl rfl ?_
  intro p e s m args below meth c s₁ B hml hv
  obtain ⟨rfl, hsz, hP, hK, hD0, hN, hO⟩ := hv
  have hts := atoms_spec (ws := Cond.code y cc nL none :: m_gw) B.pre
  have hown : s.vm.findClass y.cls = some m.cls := findClass_of_methodNamed B.named
  have hin : meth.name = y.name := (name_of_methodNamed B.named B.method).1
  subst hsz
  obtain ⟨h1, h2⟩ := m_ent_HL (ad := id) hL hn
  rw [lg_entry_eq]
  refine body p e s m _ below meth c _ (va_A [(h, e0)] s.heap.size) _ ⟨B.exec, B.bytes, hml, fun q => hin.trans q, hown, fun w hw => hts w (List.mem_cons_of_mem _ hw), hN, hO, fun q h => Or.inr h, hK⟩ ⟨hP, hD0.self, va_S.rf⟩ h2 ?_
  intro X H locs pc ls2 cells slots hc hs hW hq hd
  refine W.widen hc hs ?_
  exact W.vret B.exec B.bytes B.returns (fun t ht hWd => ⟨⟨X, rfl, hq, by rw [ht]; exact hW.1, hW.2.1⟩, hW.2.2.F ht⟩) hW.2.2.2.2 hd B.notSynchronized
theorem b_nd : ∀ (l : List Nat), l.Nodup → va_nd l = true
  | [], _ => rfl
  | a :: l, h => by
    rw [List.nodup_cons] at h
    simp only [va_nd, Bool.and_eq_true, decide_eq_true_eq]
    exact ⟨h.1, b_nd l h.2⟩
section BROWS
variable {p : Program} {l : Launch} {e : Env} {R : Room} {s : State} {m : MethodId} {args : Array Value} {below : List Frame} {meth : Method} {c : Code} {H : Heap} {locs : List Loc} {cells slots : Nat} {Z : State → Prop} {A : Nat → Prop} {dC : Nat → ClassId} {dI : Nat → Nat → Nat} {cy : Nat → ClassId} {y : MethodName} {cc : ByteArray} {nL pc : Nat} {ls : Array Slot} {L st : List Value} {X : va_W}
theorem b_aload {q : Fin 4} {i x : Nat} (hC : b_C p s m args meth c y cc nL A dC dI cy) (hL : m_HL ls nL L id) (hd : decode cc pc = .ok (.aload_n q, 1)) (hi : (q : Nat) = i) (hl : L[i]? = some (.ref x)) (k : W p l e R s m args below meth c H locs cells slots Z (F0 m (pc + 1) ls (.ref x :: st))) : W p l e R s m args below meth c H locs cells slots Z (F0 m pc ls st) :=
  lv_aload_n hC.1 hC.2.1 hd hi (hL.2.2 _ _ hl (fun h => by cases h)) k
theorem b_iload {q : Fin 4} {i : Nat} {x : Int32} (hC : b_C p s m args meth c y cc nL A dC dI cy) (hL : m_HL ls nL L id) (hd : decode cc pc = .ok (.iload_n q, 1)) (hi : (q : Nat) = i) (hl : L[i]? = some (.int x)) (k : W p l e R s m args below meth c H locs cells slots Z (F0 m (pc + 1) ls (.int x :: st))) : W p l e R s m args below meth c H locs cells slots Z (F0 m pc ls st) :=
  lv_iload_n hC.1 hC.2.1 hd hi (hL.2.2 _ _ hl (fun h => by cases h)) k
theorem b_istore {q : Fin 4} {i : Nat} {x : Int32} {L2 : List Value} (hC : b_C p s m args meth c y cc nL A dC dI cy) (hL : m_HL ls nL L id) (hd : decode cc pc = .ok (.istore_n q, 1)) (hq : (q : Nat) = i) (hi : i < nL) (hk : m_nl L i = true) (hL2 : L.set i (.int x) = L2) (k : ∀ ls2, m_HL ls2 nL L2 id → W p l e R s m args below meth c H locs cells slots Z (F0 m (pc + 1) ls2 st)) : W p l e R s m args below meth c H locs cells slots Z (F0 m pc ls (.int x :: st)) :=
  lv_istore_n hC.1 hC.2.1 hd hq hL.has hi rfl (fun ls2 h2 => k ls2 (m_HL.st1 hk hL2 h2))
theorem b_astore {q : Fin 4} {i : Nat} {x : Nat} {L2 : List Value} (hC : b_C p s m args meth c y cc nL A dC dI cy) (hL : m_HL ls nL L id) (hd : decode cc pc = .ok (.astore_n q, 1)) (hq : (q : Nat) = i) (hi : i < nL) (hk : m_nl L i = true) (hL2 : L.set i (.ref x) = L2) (k : ∀ ls2, m_HL ls2 nL L2 id → W p l e R s m args below meth c H locs cells slots Z (F0 m (pc + 1) ls2 st)) : W p l e R s m args below meth c H locs cells slots Z (F0 m pc ls (.ref x :: st)) :=
  lv_astore_n hC.1 hC.2.1 hd hq hL.has hi rfl (fun ls2 h2 => k ls2 (m_HL.st1 hk hL2 h2))
theorem b_iinc {i : Nat} {z : Int} {x v : Int32} {L2 : List Value} (hC : b_C p s m args meth c y cc nL A dC dI cy) (hL : m_HL ls nL L id) (hd : decode cc pc = .ok (.iinc i z, 3)) (hi : i < nL) (hk : m_nl L i = true) (hl : L[i]? = some (.int x)) (hv : x + Int32.ofInt z = v) (hL2 : L.set i (.int v) = L2) (k : ∀ ls2, m_HL ls2 nL L2 id → W p l e R s m args below meth c H locs cells slots Z (F0 m (pc + 3) ls2 st)) : W p l e R s m args below meth c H locs cells slots Z (F0 m pc ls st) := by
  obtain ⟨q, hq⟩ := List.getElem?_of_mem (m_lv_mem (ad := id).mpr ⟨_, hl, (fun h => by cases h), rfl⟩)
  exact lv_iinc hC.1 hC.2.1 hd hL.has hq hv hi rfl (fun ls2 h2 => k ls2 (m_HL.st1 hk hL2 h2))
theorem b_obj {ix a : Nat} (hC : b_C p s m args meth c y cc nL A dC dI cy) (hL : m_HL ls nL L id) (hl : Cond.methodLink y.cls ix objectInit ∈ m_gw) (hi : Cond.instanceMethod objectInit ∈ m_gw) (ho : Cond.code objectInit ⟨#[0xb1]⟩ 1 none ∈ m_gw) (hd : decode cc pc = .ok (.invokespecial ix, 3)) (h1 : 1 ≤ R.frames) (h2 : 60 ≤ R.locals) (k : W p l e R s m args below meth c H locs cells slots Z (F0 m (pc + 3) ls [])) : W p l e R s m args below meth c H locs cells slots Z (F0 m pc ls [.ref a]) := by
  refine W.objInit hC.1 hC.2.1 hC.2.2.2.2.1 (hC.2.2.2.2.2.1 _ hl) (hC.2.2.2.2.2.1 _ hi) (hC.2.2.2.2.2.1 _ ho) rfl (by rw [hC.2.2.1]; exact hL.1) rfl hd h1 (Nat.le_trans (Nat.le_of_ble_eq_true rfl) h2) ?_
  exact k
theorem b_new {ix t : Nat} (ht : t < 10) {fs : List Value} (hC : b_C p s m args meth c y cc nL A dC dI cy) (hW : b_W s A dC dI X H locs) (hcl : Cond.classLink y.cls ix (m_cr t).1 ∈ m_gw) (hinst : Cond.instantiable (m_cr t).1 (m_nf t) ∈ m_gw) (hini : Cond.initialized (m_cr t).1 ∈ m_gw) (hfs : ∀ j, j < m_nf t → defaultValue (m_tyo t j) = vp_V fs j) (hd : decode cc pc = .ok (.new ix, 3)) (h1 : cells + 1 ≤ R.cells) (h2 : slots + m_nf t ≤ R.slots)
    (kk : ∀ (q : Nat) (H1 : Heap), b_W s A dC dI (X ++ [(q, .inr (t, fs))]) H1 locs → W p l e R s m args below meth c H1 locs (cells + 1) (slots + m_nf t) Z (F0 m (pc + 3) ls (.ref q :: st))) : W p l e R s m args below meth c H locs cells slots Z (F0 m pc ls st) := by
  obtain ⟨hc, hnf, hin, hto, hnm⟩ := m_cls ht
  have hts := hC.2.2.2.2.2.1
  rw [hnf] at hin hto
  exact va_new (ci := t) (C := (m_cr t).1) (T := (m_cr t).2.1) (N := m_nf t) hC.1 hC.2.1 hts hin (m_tyo t) hto hC.2.2.2.2.1 (hts _ hcl) (hts _ hinst) (hts _ hini) hC.2.2.2.2.2.2.2.2.2 hW.1 hW.2.1 hW.2.2 hC.2.2.2.2.2.2.2.2.1 (by rw [hc, ← hnf]) hfs h1 h2 hd (fun q H1 hP hD hS => kk q H1 ⟨hP, hD, hS⟩)
theorem b_newi (n : Nat) (hn : n < 100000) {x : Int32} (hx : x = nI n) (hC : b_C p s m args meth c y cc nL A dC dI cy) (hW : b_W s A dC dI X H locs) (hd : decode cc pc = .ok (.newarray .int, 2)) (ha : Cond.arrayClass .int ∈ m_gw) (h1 : cells + 1 ≤ R.cells) (h2 : slots + n ≤ R.slots)
    (kk : ∀ (q : Nat) (H1 : Heap), b_W s A dC dI (X ++ [(q, .inl (cy 0, n, .inl (fun _ => 0)))]) H1 locs → W p l e R s m args below meth c H1 locs (cells + 1) (slots + n) Z (F0 m (pc + 2) ls (.ref q :: st))) : W p l e R s m args below meth c H locs cells slots Z (F0 m pc ls (.int x :: st)) := by
  subst hx
  refine va_newa (atype := .int) (ty := .int) (N' := n) (a0 := (n, .inl (fun _ => 0))) hC.1 hC.2.1 (hC.2.2.2.2.2.1 _ ha) rfl hC.2.2.2.2.2.2.2.2.2 hW.1 hW.2.1 hW.2.2 hC.2.2.2.2.2.2.2.2.1 (fun _ => rfl) (nI_pos (by omega)) (nI_clamp (by omega)) (by show n * 4 ≤ _; omega) h1 h2 hd (fun q cA H1 hK hP hD hS => ?_)
  have e1 : va_RA s cA .int := (hK.2 5 (cA, .int) rfl).2
  have e2 : va_RA s (cy 0) .int := (hC.2.2.2.2.2.2.2.2.2.2 0 (cy 0, .int) rfl).2
  have e : cA = cy 0 := Option.some.inj (e1.symm.trans e2)
  subst e
  exact kk q H1 ⟨hP, hD, hS⟩
theorem b_newz (n : Nat) (hn : n < 100000) {x : Int32} (hx : x = nI n) (hC : b_C p s m args meth c y cc nL A dC dI cy) (hW : b_W s A dC dI X H locs) (hd : decode cc pc = .ok (.newarray .boolean, 2)) (ha : Cond.arrayClass .boolean ∈ m_gw) (h1 : cells + 1 ≤ R.cells) (h2 : slots + n ≤ R.slots)
    (kk : ∀ (q : Nat) (H1 : Heap), b_W s A dC dI (X ++ [(q, .inl (cy 1, n, .inl (fun _ => 0)))]) H1 locs → W p l e R s m args below meth c H1 locs (cells + 1) (slots + n) Z (F0 m (pc + 2) ls (.ref q :: st))) : W p l e R s m args below meth c H locs cells slots Z (F0 m pc ls (.int x :: st)) := by
  subst hx
  refine va_newa (atype := .boolean) (ty := .boolean) (N' := n) (a0 := (n, .inl (fun _ => 0))) hC.1 hC.2.1 (hC.2.2.2.2.2.1 _ ha) rfl hC.2.2.2.2.2.2.2.2.2 hW.1 hW.2.1 hW.2.2 hC.2.2.2.2.2.2.2.2.1 (fun _ => rfl) (nI_pos (by omega)) (nI_clamp (by omega)) (by show n * 1 ≤ _; omega) h1 h2 hd (fun q cA H1 hK hP hD hS => ?_)
  have e1 : va_RA s cA .boolean := (hK.2 5 (cA, .boolean) rfl).2
  have e2 : va_RA s (cy 1) .boolean := (hC.2.2.2.2.2.2.2.2.2.2 1 (cy 1, .boolean) rfl).2
  have e : cA = cy 1 := Option.some.inj (e1.symm.trans e2)
  subst e
  exact kk q H1 ⟨hP, hD, hS⟩
def b_q (n : Nat) (f : Nat → Option Nat) : vp_A := (n, .inr (.inr (.inr (.inr f))))
theorem b_newq {ix : Nat} (t : Nat) {C : String} (hCt : (m_ty cy)[2 + t]? = some (cy (2 + t), .object C)) (hCo : C ∈ b_ao) (n : Nat) (hn : n < 100000) {x : Int32} (hx : x = nI n) (hC : b_C p s m args meth c y cc nL A dC dI cy) (hW : b_W s A dC dI X H locs) (hcl : Cond.classLink y.cls ix C ∈ m_gw) (hd : decode cc pc = .ok (.anewarray ix, 3)) (h1 : cells + 1 ≤ R.cells) (h2 : slots + n ≤ R.slots)
    (kk : ∀ (q : Nat) (H1 : Heap), b_W s A dC dI (X ++ [(q, .inl (cy (2 + t), b_q n (fun _ => none)))]) H1 locs → W p l e R s m args below meth c H1 locs (cells + 1) (slots + n) Z (F0 m (pc + 3) ls (.ref q :: st))) : W p l e R s m args below meth c H locs cells slots Z (F0 m pc ls (.int x :: st)) := by
  subst hx
  refine va_newq (N' := n) hC.1 hC.2.1 hC.2.2.2.2.1 (hC.2.2.2.2.2.1 _ hcl) (hC.2.2.2.2.2.2.2.1 C hCo) hC.2.2.2.2.2.2.2.2.2 hW.1 hW.2.1 hW.2.2 hC.2.2.2.2.2.2.2.2.1 (nI_pos (by omega)) (nI_clamp (by omega)) (by omega) h1 h2 hd (fun q cA H1 hK hP hD hS => ?_)
  have e1 : va_RA s cA (.object C) := (hK.2 5 (cA, .object C) rfl).2
  have e2 : va_RA s (cy (2 + t)) (.object C) := (hC.2.2.2.2.2.2.2.2.2.2 (2 + t) (cy (2 + t), .object C) hCt).2
  obtain ⟨_, _, _, _, _, e1⟩ := e1
  obtain ⟨_, _, _, _, _, e2⟩ := e2
  have e : cA = cy (2 + t) := Option.some.inj (e1.symm.trans e2)
  subst e
  exact kk q H1 ⟨hP, hD, hS⟩
theorem b_putF {ix t j a v : Nat} {fs : List Value} {ty : FieldType} (q0 : Nat) (hy : y.name = "<init>") (hC : b_C p s m args meth c y cc nL A dC dI cy) (hW : b_W s A dC dI X H locs) (hf : m_FL y.cls ix t j) (hX : X[q0]? = some (a, .inr (t, fs))) (hfin : ((m_cr t).2.1 j).2.2.2 = true) (hdecl : ((m_cr t).2.1 j).1 = y.cls) (hty : parseFieldDescriptor ((m_cr t).2.1 j).2.2.1 = some ty) (hnw : narrow ty (.ref v) = .ref v) (hfit : fits ty (.ref v) = true) (hl : j < fs.length) (hlk : Cond.fieldLink y.cls ix ((m_cr t).2.1 j).1 ((m_cr t).2.1 j).2.1 ((m_cr t).2.1 j).2.2.1 ∈ m_gw) (hd : decode cc pc = .ok (.putfield ix, 3))
    (kk : ∀ (H1 : Heap) (locs1 : List Loc), b_W s A dC dI (X.set q0 (a, .inr (t, fs.set j (.ref v)))) H1 locs1 → W p l e R s m args below meth c H1 locs1 cells slots Z (F0 m (pc + 3) ls st)) : W p l e R s m args below meth c H locs cells slots Z (F0 m pc ls (.ref v :: .ref a :: st)) := by
  obtain ⟨⟨ht, hj⟩, -⟩ := hf
  obtain ⟨hc, hnf, hin, hto, hnm⟩ := m_cls ht
  exact va_putF hC.1 hC.2.1 hC.2.2.2.2.2.1 hin (m_tyo t) hto hnm hC.2.2.2.2.1 hC.2.2.2.2.2.2.2.2.2 hW.1 hW.2.1 hW.2.2 q0 hX hc j (by rw [hnf]; exact hj) (hC.2.2.2.2.2.1 _ hlk) (fun _ h => h) hfin (hC.2.2.2.1 hy) hdecl hty hnw hfit hl hd (fun H1 locs1 hP hD hS => kk H1 locs1 ⟨hP, hD, hS⟩)
theorem b_putZ {ix t j a : Nat} {v : Int32} {fs : List Value} {ty : FieldType} (q0 : Nat) (hC : b_C p s m args meth c y cc nL A dC dI cy) (hW : b_W s A dC dI X H locs) (hf : m_FL y.cls ix t j) (hX : X[q0]? = some (a, .inr (t, fs))) (hfin : ((m_cr t).2.1 j).2.2.2 = false) (hty : parseFieldDescriptor ((m_cr t).2.1 j).2.2.1 = some ty) (hnw : narrow ty (.int v) = .int v) (hfit : fits ty (.int v) = true) (hl : j < fs.length) (hlk : Cond.fieldLink y.cls ix ((m_cr t).2.1 j).1 ((m_cr t).2.1 j).2.1 ((m_cr t).2.1 j).2.2.1 ∈ m_gw) (hd : decode cc pc = .ok (.putfield ix, 3))
    (kk : ∀ (H1 : Heap) (locs1 : List Loc), b_W s A dC dI (X.set q0 (a, .inr (t, fs.set j (.int v)))) H1 locs1 → W p l e R s m args below meth c H1 locs1 cells slots Z (F0 m (pc + 3) ls st)) : W p l e R s m args below meth c H locs cells slots Z (F0 m pc ls (.int v :: .ref a :: st)) := by
  obtain ⟨⟨ht, hj⟩, -⟩ := hf
  obtain ⟨hc, hnf, hin, hto, hnm⟩ := m_cls ht
  exact va_put hC.1 hC.2.1 hC.2.2.2.2.2.1 hin (m_tyo t) hto hnm hC.2.2.2.2.1 hC.2.2.2.2.2.2.2.2.2 hW.1 hW.2.1 hW.2.2 q0 hX hc j (by rw [hnf]; exact hj) (hC.2.2.2.2.2.1 _ hlk) (fun _ h => h) hfin hty hnw hfit hl hd (fun H1 locs1 hP hD hS => kk H1 locs1 ⟨hP, hD, hS⟩)
theorem b_get {ix t j a : Nat} {v : Value} {fs : List Value} (q0 : Nat) (hC : b_C p s m args meth c y cc nL A dC dI cy) (hW : b_W s A dC dI X H locs) (hf : m_FL y.cls ix t j) (hX : X[q0]? = some (a, .inr (t, fs))) (hl : fs[j]? = some v) (hlk : Cond.fieldLink y.cls ix ((m_cr t).2.1 j).1 ((m_cr t).2.1 j).2.1 ((m_cr t).2.1 j).2.2.1 ∈ m_gw) (hd : decode cc pc = .ok (.getfield ix, 3))
    (kk : W p l e R s m args below meth c H locs cells slots Z (F0 m (pc + 3) ls (v :: st))) : W p l e R s m args below meth c H locs cells slots Z (F0 m pc ls (.ref a :: st)) := by
  obtain ⟨⟨ht, hj⟩, -⟩ := hf
  obtain ⟨hc, hnf, hin, hto, hnm⟩ := m_cls ht
  exact va_get hC.1 hC.2.1 hC.2.2.2.2.2.1 hin hC.2.2.2.2.1 hC.2.2.2.2.2.2.2.2.2 hW.1 q0 hX hc j (by rw [hnf]; exact hj) (hC.2.2.2.2.2.1 _ hlk) (fun _ h => h) hl hd kk
theorem b_iast {a z : Nat} {f : Nat → Int32} {i x : Int32} (q0 j : Nat) (hC : b_C p s m args meth c y cc nL A dC dI cy) (hW : b_W s A dC dI X H locs) (hX : X[q0]? = some (a, .inl (cy 0, z, .inl f))) (hi : i = nI j) (hj : j < z) (hz : z < 2 ^ 31) (hd : decode cc pc = .ok (.iastore, 1))
    (kk : ∀ (H1 : Heap) (locs1 : List Loc), b_W s A dC dI (X.set q0 (a, .inl (cy 0, z, .inl (upd f j x)))) H1 locs1 → W p l e R s m args below meth c H1 locs1 cells slots Z (F0 m (pc + 1) ls st)) : W p l e R s m args below meth c H locs cells slots Z (F0 m pc ls (.int x :: .int i :: .ref a :: st)) := by
  subst hi
  refine va_iast hC.1 hC.2.1 hC.2.2.2.2.2.2.2.2.2 hW.1 hW.2.1 hW.2.2 q0 0 hX rfl (vp_in_nI hj hz) hd (fun H1 locs1 hP hD hS => ?_)
  rw [nI_clamp (by omega)] at hP hD
  exact kk H1 locs1 ⟨hP, hD, hS⟩
theorem b_astq {a z v ci : Nat} {f : Nat → Option Nat} {vs : List Value} {i : Int32} (q0 t qk j : Nat) (hC : b_C p s m args meth c y cc nL A dC dI cy) (hW : b_W s A dC dI X H locs) (hX : X[q0]? = some (a, .inl (cy (2 + t), b_q z f))) (hv : X[qk]? = some (v, .inr (ci, vs))) (hci : ci < 10) (hCt : (m_ty cy)[2 + t]? = some (cy (2 + t), .object (m_cr ci).1)) (hi : i = nI j) (hj : j < z) (hz : z < 2 ^ 31) (hd : decode cc pc = .ok (.aastore, 1))
    (kk : ∀ (H1 : Heap) (locs1 : List Loc), b_W s A dC dI (X.set q0 (a, .inl (cy (2 + t), b_q z (va_up f j (some v))))) H1 locs1 → W p l e R s m args below meth c H1 locs1 cells slots Z (F0 m (pc + 1) ls st)) : W p l e R s m args below meth c H locs cells slots Z (F0 m pc ls (.ref v :: .int i :: .ref a :: st)) := by
  subst hi
  refine va_astq hC.1 hC.2.1 hC.2.2.2.2.2.2.2.2.2 hW.1 hW.2.1 hW.2.2 q0 (2 + t) qk ci hX hCt hv (m_cls hci).1 (vp_in_nI hj hz) hd (fun H1 locs1 hP hD hS => ?_)
  rw [nI_clamp (by omega)] at hP hD
  exact kk H1 locs1 ⟨hP, hD, hS⟩
/-- what a constructor's tables must say -/
def b_MO (y2 : MethodName) (cc2 : ByteArray) (nL2 : Nat) : Prop := Cond.code y2 cc2 nL2 none ∈ m_gw ∧ Cond.initialized y2.cls ∈ m_gw ∧ Cond.instanceMethod y2 ∈ m_gw ∧ y2.name = "<init>" ∧ (y2.cls ≠ "java/lang/invoke/MethodHandle" ∧ y2.cls ≠ "java/lang/invoke/VarHandle" ∧ (parseMethodDescriptor y2.desc).map (fun d => d.parameters.length) = some 0) ∧ nL2 ≤ 30
theorem b_call {ix d mc ms h : Nat} {y2 : MethodName} {cc2 : ByteArray} {nL2 : Nat} {e0 : va_E} {Q2 : va_W → Prop} (hk : ∀ sz, b_K l dC dI cy d mc ms y2 cc2 nL2 h sz e0 Q2) (hM : b_MO y2 cc2 nL2) (hl : m_ML y.cls ix y2) (hC : b_C p s m args meth c y cc nL A dC dI cy) (hL : m_HL ls nL L id) (hW : b_W s A dC dI (X ++ [(h, e0)]) H locs) (hR : d + 1 ≤ R.frames ∧ 60 * d + 60 ≤ R.locals) (hb : cells + mc ≤ R.cells ∧ slots + ms ≤ R.slots) (hst : (st.map fun v => v.category).sum ≤ 8) (hd : decode cc pc = .ok (.invokespecial ix, 3))
    (kk : ∀ (w1 : va_W) (H1 : Heap) (locs1 : List Loc), Q2 w1 → b_W s A dC dI (X ++ w1) H1 locs1 → W p l e R s m args below meth c H1 locs1 (cells + mc) (slots + ms) Z (F0 m (pc + 3) ls st)) : W p l e R s m args below meth c H locs cells slots Z (F0 m pc ls (.ref h :: st)) := by
  obtain ⟨hcd, hini, hinst, hnm, hdd, hnl⟩ := hM
  have hts := hC.2.2.2.2.2.1
  have hgood := m_good hcd
  have hroom : (b_rm d mc ms).frames + 1 ≤ R.frames ∧ 8 + (nL2 + 11) + (b_rm d mc ms).locals ≤ R.locals := ⟨hR.1, by show 8 + (nL2 + 11) + 60 * d ≤ R.locals; omega⟩
  have hCc : [X.length].map (fun i => (X ++ [(h, e0)])[i]?) = ([(h, e0)] : va_W).map some := by simp
  have hPc : va_P (dC, dI) m_cl [(h, e0)] H := fun k q hq => by
    have hk0 : k = 0 := by
      have := (List.getElem?_eq_some_iff.mp hq).1
      simp at this; exact this
    subst hk0
    refine hW.1 X.length q ?_
    rw [List.getElem?_append_right (Nat.le_refl _), Nat.sub_self]; exact hq
  have hDc : va_D (fun _ => True) [(h, e0)] := ⟨fun i j p q hp hq _ => by
    have h1 := (List.getElem?_eq_some_iff.mp hp).1
    have h2 := (List.getElem?_eq_some_iff.mp hq).1
    simp at h1 h2; omega, fun _ _ _ => trivial⟩
  have hFc := va_free (wc := [(h, e0)]) hW.2.1 hW.2.2 hC.2.2.2.2.2.2.2.2.1 [X.length] hCc
  have hpre : PreS s H (b_Pc dC dI cy h H.size e0) [.ref h] := ⟨b_Pc_blind, fun U hU hWm => ⟨rfl, by rw [hU], by rw [hU]; exact hPc, va_K.moved hWm.alike hC.2.2.2.2.2.2.2.2.2, hDc, fun w hw => m_Nw_warm hw hWm (hC.2.2.2.2.2.2.1 w hw), fun C hCo => va_AO.moved hWm.alike (hC.2.2.2.2.2.2.2.1 C hCo)⟩⟩
  have hrun : va_Run p l e R s m args below meth c H locs cells slots mc ms (F0 m pc ls (.ref h :: st)) st (b_Qc dC dI (va_A [(h, e0)] H.size) Q2 [Value.ref h].toArray) (va_A [(h, e0)] H.size) := by
    rcases hl with hl | ⟨host, hl⟩
    · have cw : CallB R s args y.cls ix y2 cc2 nL2 none (Cond.code y2 cc2 nL2 none :: m_gw) (b_rm d mc ms) mc ms 0 := callB_of 0 hts hgood rfl rfl rfl (hts _ hini) (hts _ hl) hdd hroom
      exact va_runI (As := []) (rest := st) ⟨hC.1, hC.2.1, hC.2.2.1, hC.2.2.2.2.1, hts⟩ (hk H.size) ⟨cw, hnm, hts _ hinst⟩ hpre rfl rfl hL.1 rfl (lv_room hst) hd hb
    · have cw : va_CN R s args y.cls ix y2 host cc2 nL2 none (Cond.code y2 cc2 nL2 none :: m_gw) (b_rm d mc ms) mc ms 0 := va_cnB 0 hts hgood rfl rfl rfl (hC.2.2.2.2.2.2.1 _ hl) (hts _ hini) hdd hroom
      exact va_runIN (As := []) (rest := st) ⟨hC.1, hC.2.1, hC.2.2.1, hC.2.2.2.2.1, hts⟩ (hk H.size) ⟨cw, hnm, hts _ hinst⟩ hpre rfl rfl hL.1 rfl (lv_room hst) hd hb
  intro T hT X0
  obtain ⟨v, st₀, t, T', L1, h0, X', hL1, e1, e2, ⟨⟨w1, hv, hq, hP1, hD1⟩, hz, hk1⟩, stp⟩ := hrun T hT X0
  cases hv
  rw [h0] at hz hk1
  have hS := hW.2.2
  have hCr : (List.range X.length).map (fun i => (X ++ [(h, e0)])[i]?) = X.map some := by
    apply List.ext_getElem?
    intro i
    by_cases hi : i < X.length
    · rw [List.getElem?_map, List.getElem?_map, List.getElem?_range hi, Option.map_some, List.getElem?_append_left hi, List.getElem?_eq_getElem hi]; rfl
    · simp [hi]
  have hnd : va_nd (List.range X.length) = true := b_nd _ List.nodup_range
  obtain ⟨hPj, hDj⟩ := va_join (wr := X) (w1 := w1) (H1 := T'.heap) hW.1 hW.2.1 [X.length] (List.range X.length) hCc hCr hnd (fun i hi hi2 => by simp at hi hi2; omega) (fun q h1 h2 => by rw [e1]; exact hk1 q h1 h2) hFc (by rw [e1]; exact hP1) hD1
  obtain ⟨t2, a1, b1⟩ := kk w1 T'.heap (locs ++ L1) hq ⟨hPj, hDj, ⟨Nat.le_trans hS.1 (by rw [e1]; exact hz), fun q h1 h2 => by rw [e1, hk1 q (Nat.lt_of_lt_of_le h1 hS.1) (fun z => h2 (hFc q z))]; exact hS.2.1 q h1 h2, fun q hq => by
      rcases List.mem_append.mp hq with h | h
      · exact hS.2.2 q h
      · exact hFc _ (hL1 q h)⟩⟩ T' rfl X'
  exact ⟨t2, stp t2 a1, b1⟩
end BROWS
