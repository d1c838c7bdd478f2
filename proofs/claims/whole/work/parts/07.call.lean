/-! ===== calls: a method's Sim at its entry is its contract ===== -/
def m_ent (As : List Value) : List Value := As.flatMap (fun v => if v.category = 2 then [v, .null] else [v])
def m_Pc (SL : Nat) (dC : Nat → ClassId) (dI : Nat → Nat → Nat) (cy : Nat → ClassId) (ad : Nat → Nat) (g : m_G) (sz : Nat) (As : List Value) : Array Value → State → Prop :=
  va_Pc (As.map (m_cv ad)) (fun U => U.heap.size = sz ∧ va_P (dC, dI) m_cl (m_ws cy ad g) U.heap ∧ va_K (dC, dI) m_cl (m_ty cy) U ∧ va_D (fun _ => True) (m_ws cy ad g) ∧ (∀ w ∈ m_nw, va_Nw w U) ∧ (∀ q ∈ m_sta, va_Z q.1 q.2.1 "[I" (.ref (ad q.2.2)) (va_A (m_ws cy ad g) sz) U U.heap) ∧ (∀ q ∈ m_ro SL, va_T .int (ad q.1) q.2 (fun j => .int (g q.1 j)) (va_A (m_ws cy ad g) sz) U U.heap))
def m_Qc (dC : Nat → ClassId) (dI : Nat → Nat → Nat) (cy : Nat → ClassId) (ad : Nat → Nat) (g : m_G) (A : Nat → Prop) (Q : Option Int32 → m_G → Prop) : Array Value → State → Outcome → State → Prop := fun _ st oc t =>
  (∃ (r : Option Int32) (g' : m_G), oc = .returned (r.map Value.int) ∧ Q r g' ∧ va_P (dC, dI) m_cl (m_ws cy ad g') t.heap ∧ va_D A (m_ws cy ad g') ∧ ∀ k, 93 ≤ k → g' k = g k) ∧ va_F A st t
theorem m_Nw_warm {w : Cond} (hw : w ∈ m_nw) {s U : State} (hW : s.WarmedH U.vm) (h : va_Nw w s) : va_Nw w U := by
  have hi := (List.mem_filter.mp hw).2
  cases w with
  | fieldLinkNest a i b n d h9 => exact va_Nw.warmF hW h
  | methodLinkNest a i x h9 => exact va_Nw.warmM hW h
  | _ => cases hi
theorem m_Nw_onT {w : Cond} (hw : w ∈ m_nw) : w.onTables = true := by
  have hi := (List.mem_filter.mp hw).2
  cases w with
  | fieldLinkNest a i b n d h9 => rfl
  | methodLinkNest a i x h9 => rfl
  | _ => cases hi
theorem m_Pc_blind {SL : Nat} {dC : Nat → ClassId} {dI : Nat → Nat → Nat} {cy : Nat → ClassId} {ad : Nat → Nat} {g : m_G} {sz : Nat} {As : List Value} : FrameBlind (m_Pc SL dC dI cy ad g sz As) := by
  intro a U f mk h
  obtain ⟨h0, h1, h2, h3, h4, h5, h6, h7⟩ := h
  exact ⟨h0, h1, h2, va_K.moved (u := U) (U := U.calling f mk a) (Vm.Alike.refl U.vm) h3, h4, fun w hw => va_Nw.same (m_Nw_onT hw) (u := U) (U := U.calling f mk a) rfl (h5 w hw), fun q hq => va_Z.moved (u := U) (U := U.calling f mk a) (Vm.Alike.refl U.vm) (h6 q hq), fun q hq => va_T.moved (u := U) (U := U.calling f mk a) (Vm.Alike.refl U.vm) (h7 q hq)⟩
/-- the room of d frames below -/
abbrev m_rm (d : Nat) : Room := { frames := d, cells := 0, slots := 0, locals := 60 * d }
theorem m_ent_HL {ad : Nat → Nat} {As L : List Value} {nL : Nat} (hL : m_ent As ++ List.replicate (nL - (m_ent As).length) .null = L) (hn : (m_ent As).length ≤ nL) : ∃ h : (lg_sl (As.map (m_cv ad))).length ≤ nL, m_HL ((lg_sl (As.map (m_cv ad)) ++ List.replicate (nL - (lg_sl (As.map (m_cv ad))).length) Slot.unset).toArray) nL L ad := by
  have hlen : ∀ As : List Value, (lg_sl (As.map (m_cv ad))).length = (m_ent As).length := by
    intro As
    induction As with
    | nil => rfl
    | cons v t ih =>
      simp only [List.map_cons, lg_sl, m_ent, List.flatMap_cons, List.length_append] at ih ⊢
      rw [ih, m_cv_cat]
      split <;> rfl
  refine ⟨by rw [hlen]; exact hn, ?_⟩
  have h := lv_entry (As.map (m_cv ad)) (n := nL) (by rw [hlen]; exact hn)
  refine ⟨h.1, h.2.1, ?_⟩
  have key : ∀ (As : List Value) (b i : Nat) (v : Value), (m_ent As)[i]? = some v → v ≠ .null → (b + i, m_cv ad v) ∈ lv_args b (As.map (m_cv ad)) := by
    intro As
    induction As with
    | nil => intro b i v h; simp [m_ent] at h
    | cons w t ih =>
      intro b i v hv hne
      simp only [m_ent, List.flatMap_cons] at hv
      simp only [List.map_cons, lv_args, m_cv_cat]
      by_cases hc : w.category = 2
      · rw [if_pos hc] at hv ⊢
        match i, hv with
        | 0, hv =>
          simp at hv
          subst hv
          exact List.mem_cons_self
        | 1, hv =>
          simp at hv
          exact absurd hv.symm hne
        | i + 2, hv =>
          simp at hv
          have := ih (b + 2) i v hv hne
          rw [show b + (i + 2) = b + 2 + i by omega]
          exact List.mem_cons_of_mem _ this
      · rw [if_neg hc] at hv ⊢
        match i, hv with
        | 0, hv =>
          simp at hv
          subst hv
          exact List.mem_cons_self
        | i + 1, hv =>
          simp at hv
          have := ih (b + 1) i v hv hne
          rw [show b + (i + 1) = b + 1 + i by omega]
          exact List.mem_cons_of_mem _ this
  intro i v hv hne
  subst hL
  by_cases hi : i < (m_ent As).length
  · rw [List.getElem?_append_left hi] at hv
    have := key As 0 i v hv hne
    rw [Nat.zero_add] at this
    exact h.2.2 _ this
  · rw [List.getElem?_append_right (by omega)] at hv
    have := List.mem_of_getElem? hv
    exact absurd (List.eq_of_mem_replicate this) hne
theorem m_gw_good : ∀ w ∈ m_gw, (w.onTables && w.keeps) = true ∨ ∃ ty, w = .arrayClass ty := fun w hw => good_of_word (List.mem_filter.mp hw).2
/-- what a method's tables must say -/
def m_MO (y : MethodName) (cc : ByteArray) (nL : Nat) (ret : Option FieldType) (np : Nat) (stat : Bool) : Prop :=
  plainName y.cls = true ∧ Cond.code y cc nL ret ∈ m_gw ∧ Cond.initialized y.cls ∈ m_gw ∧ (y.cls ≠ "java/lang/invoke/MethodHandle" ∧ y.cls ≠ "java/lang/invoke/VarHandle" ∧ (parseMethodDescriptor y.desc).map (fun d => d.parameters.length) = some np) ∧ (if stat = true then Cond.static y ∈ m_gw else Cond.instanceMethod y ∈ m_gw ∧ Cond.selects y.cls y y ∈ m_gw) ∧ nL ≤ 30
def m_ML (own : String) (ix : Nat) (y : MethodName) : Prop := Cond.methodLink own ix y ∈ m_gw ∨ ∃ host, Cond.methodLinkNest own ix y host ∈ m_nw
theorem m_met {SL d : Nat} {y : MethodName} {cc : ByteArray} {nL np : Nat} {ret : Option FieldType} {stat : Bool} {As L : List Value} {g : m_G} {Q : Option Int32 → m_G → Prop} (hM : m_MO y cc nL ret np stat) (hL : m_ent As ++ List.replicate (nL - (m_ent As).length) .null = L) (hn : (m_ent As).length ≤ nL) (hS : Sim SL d y cc nL ret 0 L [] g Q) (l : Launch) (dC : Nat → ClassId) (dI : Nat → Nat → Nat) (cy : Nat → ClassId) (ad : Nat → Nat) (sz : Nat) :
    Met l y (.code y cc nL ret :: m_gw) (m_rm d) (m_Pc SL dC dI cy ad g sz As) (m_Qc dC dI cy ad g (va_A (m_ws cy ad g) sz) Q) 0 0 (va_A (m_ws cy ad g) sz) := by
  refine Met.ofW (cc := cc) (maxL := nL) (ret := ret) hM.1 rfl ?_
  intro p e s m args below meth c s₁ B hml hv
  obtain ⟨rfl, hsz, hP, hK, hD0, hN, hZ, hT⟩ := hv
  have hts := atoms_spec (ws := Cond.code y cc nL ret :: m_gw) B.pre
  have hown : s.vm.findClass y.cls = some m.cls := findClass_of_methodNamed B.named
  subst hsz
  obtain ⟨h1, h2⟩ := m_ent_HL (ad := ad) hL hn
  rw [lg_entry_eq]
  refine hS (Z := MQ below (m_Qc dC dI cy ad g (va_A (m_ws cy ad g) s.heap.size) Q) _ s 0 0 (va_A (m_ws cy ad g) s.heap.size)) (A := va_A (m_ws cy ad g) s.heap.size) (dC := dC) (dI := dI) (cy := cy) (ad := ad) (g0 := g) ⟨B.exec, B.bytes, hml, B.returns, B.notSynchronized, hown, fun w hw => hts w (List.mem_cons_of_mem _ hw), hN, fun q h => Or.inr h, hK, ⟨Nat.le_refl _, Nat.le_refl _⟩, hZ, hT, Nat.le_refl _, Nat.le_refl _⟩ ?_ ⟨hP, hD0.self, va_S.rf, fun _ _ => rfl⟩ h2
  intro g' H' locs' pc' ls' hW
  refine ⟨fun r hr hq hnar hd => ?_, fun hr hq hd => ?_⟩
  · obtain ⟨ty, hty⟩ := hr
    exact W.zret (ty := ty) B.exec B.bytes (B.returns.trans hty) (hnar ty hty) (fun t ht hWd => ⟨⟨some r, g', rfl, hq, by rw [ht]; exact hW.1, hW.2.1, hW.2.2.2⟩, hW.2.2.1.F ht⟩) hW.2.2.1.2.2 hd B.notSynchronized
  · exact W.vret B.exec B.bytes (B.returns.trans hr) (fun t ht hWd => ⟨⟨none, g', rfl, hq, by rw [ht]; exact hW.1, hW.2.1, hW.2.2.2⟩, hW.2.2.1.F ht⟩) hW.2.2.1.2.2 hd B.notSynchronized
section SIMCALL
variable {SL d : Nat} {y : MethodName} {cc : ByteArray} {nL : Nat} {ret : Option FieldType} {pc n : Nat} {L L2 st : List Value} {g : m_G} {Q : Option Int32 → m_G → Prop}
/-- behind a call -/
theorem m_after {p : Program} {l : Launch} {e : Env} {R : Room} {s : State} {m : MethodId} {args : Array Value} {below : List Frame} {meth : Method} {c : Code} {H : Heap} {locs : List Loc} {cells slots : Nat} {Z : State → Prop} {A : Nat → Prop} {dC : Nat → ClassId} {dI : Nat → Nat → Nat} {cy : Nat → ClassId} {ad : Nat → Nat} {ls : Array Slot} {g0 : m_G} {st0 rest : List Value} {a : Array Value} {Q2 : Option Int32 → m_G → Prop} (hA : ∀ q, s.heap.size ≤ q → A q) (hW : m_W s A dC dI cy ad g0 g H locs) (hr : va_Run p l e R s m args below meth c H locs cells slots 0 0 (F0 m pc ls st0) rest (m_Qc dC dI cy ad g (va_A (m_ws cy ad g) H.size) Q2 a) (va_A (m_ws cy ad g) H.size))
    (kk : ∀ (r : Option Int32) (g' : m_G) (H1 : Heap) (locs1 : List Loc), Q2 r g' → m_W s A dC dI cy ad g0 g' H1 locs1 → W p l e R s m args below meth c H1 locs1 cells slots Z (F0 m (pc + 3) ls ((r.map Value.int).toList ++ rest))) : W p l e R s m args below meth c H locs cells slots Z (F0 m pc ls st0) := by
  intro T hT X
  obtain ⟨v, st₀, t, T', L, h0, X', hL, e1, e2, ⟨⟨r, g', hv, hq, hP1, hD1, hro⟩, hz, hk⟩, st⟩ := hr T hT X
  cases hv
  have hF : ∀ q, va_A (m_ws cy ad g) H.size q → A q := by
    intro q h
    rcases h with ⟨k, e, h⟩ | h
    · exact hW.2.1.2 k (q, e) h
    · exact hA q (Nat.le_trans hW.2.2.1.1 h)
  rw [h0] at hz hk
  have hS := hW.2.2.1
  obtain ⟨t2, a1, b1⟩ := kk r g' T'.heap (locs ++ L) hq ⟨by rw [e1]; exact hP1, hD1.weaken (fun _ q _ h => hF q.1 h), ⟨Nat.le_trans hS.1 (by rw [e1]; exact hz), fun q h1 h2 => by rw [e1, hk q (Nat.lt_of_lt_of_le h1 hS.1) (fun z => h2 (hF q z))]; exact hS.2.1 q h1 h2, fun q hq => by
      rcases List.mem_append.mp hq with h | h
      · exact hS.2.2 q h
      · exact hF _ (hL q h)⟩, fun k h => (hro k h).trans (hW.2.2.2 k h)⟩ T' rfl X'
  exact ⟨t2, st t2 a1, b1⟩
theorem m_pre {p : Program} {R : Room} {s : State} {m : MethodId} {args : Array Value} {meth : Method} {c : Code} {H : Heap} {locs : List Loc} {cells slots : Nat} {A : Nat → Prop} {dC : Nat → ClassId} {dI : Nat → Nat → Nat} {cy : Nat → ClassId} {ad : Nat → Nat} {g0 : m_G} {As : List Value} (hC : m_C SL d p R s m args meth c cells slots y cc nL ret A dC dI cy ad g0) (hW : m_W s A dC dI cy ad g0 g H locs) : ∀ U : State, U.heap = H → s.WarmedH U.vm → m_Pc SL dC dI cy ad g H.size As (As.map (m_cv ad)).toArray U := by
  intro U hU hWm
  have hF : ∀ q, va_A (m_ws cy ad g) H.size q → A q := by
    intro q h
    rcases h with ⟨k, e, h⟩ | h
    · exact hW.2.1.2 k (q, e) h
    · exact hC.2.2.2.2.2.2.2.2.1 q (Nat.le_trans hW.2.2.1.1 h)
  have hk : ∀ a : Nat, a < s.heap.size → ¬ A a → H[a]? = s.heap[a]? := hW.2.2.1.2.1
  refine ⟨rfl, by rw [hU], by rw [hU]; exact hW.1, va_K.moved hWm.alike hC.2.2.2.2.2.2.2.2.2.1, hW.2.1.weaken (fun _ _ _ _ => trivial), fun w hw => m_Nw_warm hw hWm (hC.2.2.2.2.2.2.2.1 w hw), fun q hq => ?_, fun q hq => ?_⟩
  · rw [hU]
    exact va_Z.moved hWm.alike ((va_Z.kept (hC.2.2.2.2.2.2.2.2.2.2.2.1 q hq) hk).narrow hF)
  · rw [hU]
    have e : g q.1 = g0 q.1 := hW.2.2.2 q.1 (by have := m_ro_ge hq; omega)
    rw [e]
    exact va_T.moved hWm.alike ((va_T.kept (hC.2.2.2.2.2.2.2.2.2.2.2.2.1 q hq) hk).narrow hF)
theorem m_catsum {ad : Nat → Nat} (h : (st.map fun v => v.category).sum ≤ 8) : ((st.map (m_cv ad)).map fun v => v.category).sum ≤ 8 := by
  rw [List.map_map, show ((fun v => Value.category v) ∘ m_cv ad) = (fun v => Value.category v) from funext (fun v => m_cv_cat ad v)]; exact h
theorem m_good {cc2 : ByteArray} {y2 : MethodName} {nL2 : Nat} {ret2 : Option FieldType} (h : Cond.code y2 cc2 nL2 ret2 ∈ m_gw) : GoodIn m_gw (Cond.code y2 cc2 nL2 ret2 :: m_gw) := fun w hw => by
  rcases List.mem_cons.mp hw with rfl | hw
  · exact ⟨h, m_gw_good _ h⟩
  · exact ⟨hw, m_gw_good _ hw⟩
/-- a call of an instance method (void or int) on the object k -/
theorem s_invv {ix k t np : Nat} {y2 : MethodName} {cc2 : ByteArray} {nL2 : Nat} {ret2 : Option FieldType} {As sa L0 : List Value} {Q2 : Option Int32 → m_G → Prop} (hd : decode cc pc = .ok (.invokevirtual ix, 3)) (hn : n = pc + 3) (hM : m_MO y2 cc2 nL2 ret2 np false) (hl : m_ML y.cls ix y2) (ho : (m_sh k).1 = t) (ht : t < 10) (hy : (m_cr t).1 = y2.cls) (hsa : sa = As.reverse ++ .ref k :: st) (hnp : As.length = np) (hL0 : m_ent (.ref k :: As) ++ List.replicate (nL2 - (m_ent (.ref k :: As)).length) .null = L0) (hle : (m_ent (.ref k :: As)).length ≤ nL2) (hst : (st.map fun v => v.category).sum ≤ 8) (hS : Sim SL d y2 cc2 nL2 ret2 0 L0 [] g Q2) (kk : ∀ r g', Q2 r g' → Sim SL (d + 1) y cc nL ret n L ((r.map Value.int).toList ++ st) g' Q) : Sim SL (d + 1) y cc nL ret pc L sa g Q := by
  intro p l e R s m args below meth c H locs cells slots Z A dC dI cy ad ls g0 hC hR hW hL
  subst hn; subst hsa
  have hmet := m_met hM hL0 hle hS l dC dI cy ad H.size
  obtain ⟨hpl, hcd, hini, hdd, hsel, hnl⟩ := hM
  rw [if_neg (by decide)] at hsel
  have hgood := m_good hcd
  obtain ⟨hkk, he⟩ := m_obj (g := g) (cy := cy) (ad := ad) ho ht
  have hrecv := va_recv hC.2.2.2.2.2.2.2.2.2.1 hW.1 (m_cls ht).1 he
  rw [hy] at hrecv
  have hroom : (m_rm d).frames + 1 ≤ R.frames ∧ 8 + (nL2 + 11) + (m_rm d).locals ≤ R.locals := by
    have := hC.2.2.2.2.2.2.2.2.2.2.1
    refine ⟨this.1, ?_⟩
    show 8 + (nL2 + 11) + 60 * d ≤ R.locals
    omega
  have hts := hC.2.2.2.2.2.2.1
  have hpre : PreV s H y2.cls (ad k) (m_Pc SL dC dI cy ad g H.size (.ref k :: As)) (As.map (m_cv ad)) := ⟨m_Pc_blind, hrecv, m_pre hC hW⟩
  have hstk : (((As.reverse ++ .ref k :: st).map (m_cv ad)) : List Value) = (As.map (m_cv ad)).reverse ++ .ref (ad k) :: st.map (m_cv ad) := by simp [m_cv]
  have hnn : (As.map (m_cv ad)).length = np := by rw [List.length_map]; exact hnp
  have hrun : va_Run p l e R s m args below meth c H locs cells slots 0 0 (F0 m pc ls ((As.reverse ++ .ref k :: st).map (m_cv ad))) (st.map (m_cv ad)) (m_Qc dC dI cy ad g (va_A (m_ws cy ad g) H.size) Q2 (Value.ref (ad k) :: As.map (m_cv ad)).toArray) (va_A (m_ws cy ad g) H.size) := by
    rcases hl with hl | ⟨host, hl⟩
    · have cw : CallW R s args y.cls y2.cls ix y2 cc2 nL2 ret2 (Cond.code y2 cc2 nL2 ret2 :: m_gw) (m_rm d) 0 0 np := ⟨callB_of np hts hgood rfl rfl rfl (hts _ hini) (hts _ hl) hdd hroom, hts _ hsel.1, hts _ hsel.2⟩
      exact va_runV (As := As.map (m_cv ad)) (rest := st.map (m_cv ad)) ⟨hC.1, hC.2.1, hC.2.2.1, hC.2.2.2.2.2.1, hts⟩ hmet cw hpre rfl hnn hL.1 hstk (lv_room (m_catsum hst)) hd ⟨hC.2.2.2.2.2.2.2.2.2.2.2.2.2.1, hC.2.2.2.2.2.2.2.2.2.2.2.2.2.2⟩
    · have cw : va_CN R s args y.cls ix y2 host cc2 nL2 ret2 (Cond.code y2 cc2 nL2 ret2 :: m_gw) (m_rm d) 0 0 np := va_cnB np hts hgood rfl rfl rfl (hC.2.2.2.2.2.2.2.1 _ hl) (hts _ hini) hdd hroom
      exact va_runVN (As := As.map (m_cv ad)) (rest := st.map (m_cv ad)) ⟨hC.1, hC.2.1, hC.2.2.1, hC.2.2.2.2.2.1, hts⟩ hmet ⟨cw, hts _ hsel.1, hts _ hsel.2⟩ hpre rfl hnn hL.1 hstk (lv_room (m_catsum hst)) hd ⟨hC.2.2.2.2.2.2.2.2.2.2.2.2.2.1, hC.2.2.2.2.2.2.2.2.2.2.2.2.2.2⟩
  refine m_after hC.2.2.2.2.2.2.2.2.1 hW hrun (fun r g' H1 locs1 hq hW1 => ?_)
  have := kk r g' hq hC hR hW1 hL
  cases r with
  | none => exact this
  | some v => exact this
theorem s_invs {ix np : Nat} {y2 : MethodName} {cc2 : ByteArray} {nL2 : Nat} {ret2 : Option FieldType} {As sa L0 : List Value} {Q2 : Option Int32 → m_G → Prop} (hd : decode cc pc = .ok (.invokestatic ix, 3)) (hn : n = pc + 3) (hM : m_MO y2 cc2 nL2 ret2 np true) (hl : m_ML y.cls ix y2) (hsa : sa = As.reverse ++ st) (hnp : As.length = np) (hL0 : m_ent As ++ List.replicate (nL2 - (m_ent As).length) .null = L0) (hle : (m_ent As).length ≤ nL2) (hst : (st.map fun v => v.category).sum ≤ 8) (hS : Sim SL d y2 cc2 nL2 ret2 0 L0 [] g Q2) (kk : ∀ r g', Q2 r g' → Sim SL (d + 1) y cc nL ret n L ((r.map Value.int).toList ++ st) g' Q) : Sim SL (d + 1) y cc nL ret pc L sa g Q := by
  intro p l e R s m args below meth c H locs cells slots Z A dC dI cy ad ls g0 hC hR hW hL
  subst hn; subst hsa
  have hmet := m_met hM hL0 hle hS l dC dI cy ad H.size
  obtain ⟨hpl, hcd, hini, hdd, hsel, hnl⟩ := hM
  rw [if_pos rfl] at hsel
  have hgood := m_good hcd
  have hroom : (m_rm d).frames + 1 ≤ R.frames ∧ 8 + (nL2 + 11) + (m_rm d).locals ≤ R.locals := by
    have := hC.2.2.2.2.2.2.2.2.2.2.1
    refine ⟨this.1, ?_⟩
    show 8 + (nL2 + 11) + 60 * d ≤ R.locals
    omega
  have hts := hC.2.2.2.2.2.2.1
  have hpre : PreS s H (m_Pc SL dC dI cy ad g H.size As) (As.map (m_cv ad)) := ⟨m_Pc_blind, m_pre hC hW⟩
  have hstk : (((As.reverse ++ st).map (m_cv ad)) : List Value) = (As.map (m_cv ad)).reverse ++ st.map (m_cv ad) := by simp
  have hnn : (As.map (m_cv ad)).length = np := by rw [List.length_map]; exact hnp
  have hrun : va_Run p l e R s m args below meth c H locs cells slots 0 0 (F0 m pc ls ((As.reverse ++ st).map (m_cv ad))) (st.map (m_cv ad)) (m_Qc dC dI cy ad g (va_A (m_ws cy ad g) H.size) Q2 (As.map (m_cv ad)).toArray) (va_A (m_ws cy ad g) H.size) := by
    rcases hl with hl | ⟨host, hl⟩
    · have cw : CallB R s args y.cls ix y2 cc2 nL2 ret2 (Cond.code y2 cc2 nL2 ret2 :: m_gw) (m_rm d) 0 0 np := callB_of np hts hgood rfl rfl rfl (hts _ hini) (hts _ hl) hdd hroom
      exact va_runS (As := As.map (m_cv ad)) (rest := st.map (m_cv ad)) ⟨hC.1, hC.2.1, hC.2.2.1, hC.2.2.2.2.2.1, hts⟩ hmet ⟨cw, hts _ hsel⟩ hpre rfl hnn hL.1 hstk (lv_room (m_catsum hst)) hd ⟨hC.2.2.2.2.2.2.2.2.2.2.2.2.2.1, hC.2.2.2.2.2.2.2.2.2.2.2.2.2.2⟩
    · have cw : va_CN R s args y.cls ix y2 host cc2 nL2 ret2 (Cond.code y2 cc2 nL2 ret2 :: m_gw) (m_rm d) 0 0 np := va_cnB np hts hgood rfl rfl rfl (hC.2.2.2.2.2.2.2.1 _ hl) (hts _ hini) hdd hroom
      exact va_runSN (As := As.map (m_cv ad)) (rest := st.map (m_cv ad)) ⟨hC.1, hC.2.1, hC.2.2.1, hC.2.2.2.2.2.1, hts⟩ hmet ⟨cw, hts _ hsel, trivial⟩ hpre rfl hnn hL.1 hstk (lv_room (m_catsum hst)) hd ⟨hC.2.2.2.2.2.2.2.2.2.2.2.2.2.1, hC.2.2.2.2.2.2.2.2.2.2.2.2.2.2⟩
  refine m_after hC.2.2.2.2.2.2.2.2.1 hW hrun (fun r g' H1 locs1 hq hW1 => ?_)
  have := kk r g' hq hC hR hW1 hL
  cases r with
  | none => exact this
  | some v => exact this
/-- fewer frames are enough -/
theorem s_less {d2 : Nat} (h : d2 ≤ d) (k : Sim SL d2 y cc nL ret pc L st g Q) : Sim SL d y cc nL ret pc L st g Q := by
  intro p l e R s m args below meth c H locs cells slots Z A dC dI cy ad ls g0 hC hR hW hL
  obtain ⟨c1, c2, c3, c4, c5, c6, c7, c8, c9, c10, c11, c12⟩ := hC
  exact k ⟨c1, c2, c3, c4, c5, c6, c7, c8, c9, c10, ⟨Nat.le_trans h c11.1, Nat.le_trans (Nat.mul_le_mul_left 60 h) c11.2⟩, c12⟩ hR hW hL
end SIMCALL
