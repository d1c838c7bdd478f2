theorem m_lays0 : ∀ w ∈ u_ws RX0 TX0 4, w ∈ lw_tbl ∧ goodWord w = true := by decide +kernel
theorem m_lays1 : ∀ w ∈ u_ws RX1 TX1 12, w ∈ lw_tbl ∧ goodWord w = true := by decide +kernel
theorem m_lays2 : ∀ w ∈ u_ws RX2 TX2 5, w ∈ lw_tbl ∧ goodWord w = true := by decide +kernel
theorem m_lays3 : ∀ w ∈ u_ws RX3 TX3 6, w ∈ lw_tbl ∧ goodWord w = true := by decide +kernel
theorem m_lays4 : ∀ w ∈ u_ws RX4 TX4 4, w ∈ lw_tbl ∧ goodWord w = true := by decide +kernel
theorem m_lays5 : ∀ w ∈ u_ws RX5 TX5 2, w ∈ lw_tbl ∧ goodWord w = true := by decide +kernel
theorem m_lays6 : ∀ w ∈ u_ws RX6 TX6 5, w ∈ lw_tbl ∧ goodWord w = true := by decide +kernel
theorem m_lays7 : ∀ w ∈ u_ws RX7 TX7 2, w ∈ lw_tbl ∧ goodWord w = true := by decide +kernel
theorem m_lays8 : ∀ w ∈ u_ws RX8 TX8 10, w ∈ lw_tbl ∧ goodWord w = true := by decide +kernel
theorem m_lays9 : ∀ w ∈ u_ws RX9 TX9 24, w ∈ lw_tbl ∧ goodWord w = true := by decide +kernel
def m_tyo (t : Nat) : Nat → FieldType := match t with
  | 0 => tyX0
  | 1 => tyX1
  | 2 => tyX2
  | 3 => tyX3
  | 4 => tyX4
  | 5 => tyX5
  | 6 => tyX6
  | 7 => tyX7
  | 8 => tyX8
  | _ => tyX9
def m_clsOK (t : Nat) : Prop := m_cl[t]? = some (m_cr t) ∧ (m_cr t).2.2 = m_nf t ∧ (∀ w ∈ u_ws (m_cr t).1 (m_cr t).2.1 (m_cr t).2.2, w ∈ m_gw) ∧ (∀ k, k < (m_cr t).2.2 → parseFieldDescriptor ((m_cr t).2.1 k).2.2.1 = some (m_tyo t k)) ∧ (∀ a, a < (m_cr t).2.2 → ∀ b, b < (m_cr t).2.2 → a ≠ b → ((m_cr t).2.1 a).2.1 ≠ ((m_cr t).2.1 b).2.1)
theorem m_cls {t : Nat} (h : t < 10) : m_clsOK t := by
  match t, h with
  | 0, _ => exact ⟨rfl, rfl, fun w hw => List.mem_filter.mpr (m_lays0 w hw), tyX0_ok, nmX0⟩
  | 1, _ => exact ⟨rfl, rfl, fun w hw => List.mem_filter.mpr (m_lays1 w hw), tyX1_ok, nmX1⟩
  | 2, _ => exact ⟨rfl, rfl, fun w hw => List.mem_filter.mpr (m_lays2 w hw), tyX2_ok, nmX2⟩
  | 3, _ => exact ⟨rfl, rfl, fun w hw => List.mem_filter.mpr (m_lays3 w hw), tyX3_ok, nmX3⟩
  | 4, _ => exact ⟨rfl, rfl, fun w hw => List.mem_filter.mpr (m_lays4 w hw), tyX4_ok, nmX4⟩
  | 5, _ => exact ⟨rfl, rfl, fun w hw => List.mem_filter.mpr (m_lays5 w hw), tyX5_ok, nmX5⟩
  | 6, _ => exact ⟨rfl, rfl, fun w hw => List.mem_filter.mpr (m_lays6 w hw), tyX6_ok, nmX6⟩
  | 7, _ => exact ⟨rfl, rfl, fun w hw => List.mem_filter.mpr (m_lays7 w hw), tyX7_ok, nmX7⟩
  | 8, _ => exact ⟨rfl, rfl, fun w hw => List.mem_filter.mpr (m_lays8 w hw), tyX8_ok, nmX8⟩
  | 9, _ => exact ⟨rfl, rfl, fun w hw => List.mem_filter.mpr (m_lays9 w hw), tyX9_ok, nmX9⟩
  | t + 10, h => exact absurd h (by omega)
/-- a field's link, told by its class and slot -/
def m_FL (own : String) (ix t j : Nat) : Prop := (t < 10 ∧ j < m_nf t) ∧ ((Cond.fieldLink own ix ((m_cr t).2.1 j).1 ((m_cr t).2.1 j).2.1 ((m_cr t).2.1 j).2.2.1 ∈ m_gw) ∨ ∃ host, Cond.fieldLinkNest own ix ((m_cr t).2.1 j).1 ((m_cr t).2.1 j).2.1 ((m_cr t).2.1 j).2.2.1 host ∈ m_nw)
theorem m_len {k t n : Nat} (h : m_sh k = (t, n)) : n < 2 ^ 31 := by
  have key : ∀ q ∈ m_shL, q.2 < 2 ^ 31 := by decide +kernel
  unfold m_sh at h
  rw [List.getD_eq_getElem?_getD] at h
  cases hk : m_shL[k]? with
  | none => rw [hk] at h; have : (0 : Nat) = n := congrArg Prod.snd h; omega
  | some q => rw [hk] at h; have h1 := key q (List.mem_of_getElem? hk); have h2 : q = (t, n) := h; rw [h2] at h1; exact h1
theorem m_ro_len {SL k n : Nat} (hS : SL < 2 ^ 31) (h : (k, n) ∈ m_ro SL) : n < 2 ^ 31 := by
  simp only [m_ro, List.mem_cons, Prod.mk.injEq, List.not_mem_nil, or_false] at h
  omega
theorem m_W.set {s : State} {A : Nat → Prop} {dC : Nat → ClassId} {dI : Nat → Nat → Nat} {cy : Nat → ClassId} {ad : Nat → Nat} {g0 g : m_G} {H H1 : Heap} {locs locs1 : List Loc} {k : Nat} {f : Nat → Int32} {e : va_E} (hW : m_W s A dC dI cy ad g0 g H locs) (hk : k < 93) (he : e = m_ce cy ad (m_ur g k f) k) (hP : va_P (dC, dI) m_cl ((m_ws cy ad g).set k (ad k, e)) H1) (hD : va_D A ((m_ws cy ad g).set k (ad k, e))) (hS : va_S A s.heap H1 locs1) : m_W s A dC dI cy ad g0 (m_ur g k f) H1 locs1 := by
  rw [m_ws_set hk he] at hP hD
  exact ⟨hP, hD, hS, fun q hq => by rw [← hW.2.2.2 q hq]; simp [m_ur, show ¬ q = k by omega]⟩
section SIMMEM
variable {SL d : Nat} {y : MethodName} {cc : ByteArray} {nL : Nat} {ret : Option FieldType} {pc n : Nat} {L L2 st : List Value} {g : m_G} {Q : Option Int32 → m_G → Prop}
theorem m_obj {cy : Nat → ClassId} {ad : Nat → Nat} {k t : Nat} (hs : (m_sh k).1 = t) (ht : t < 10) : k < 93 ∧ (m_ws cy ad g)[k]? = some (ad k, .inr (t, m_fs ad g k)) := by
  have hk : k < 93 := m_lt93 (t := t) (n := (m_sh k).2) (by rw [← hs]) (by omega)
  exact ⟨hk, by rw [m_ws_get hk, m_ce_ob hs ht]⟩
theorem s_get {k t j ix : Nat} {v : Value} (hd : decode cc pc = .ok (.getfield ix, 3)) (hn : n = pc + 3) (hf : m_FL y.cls ix t j) (hs : (m_sh k).1 = t) (hv : (if m_ir t j = true then Value.ref (m_rf k j) else Value.int (g k j)) = v) (kk : Sim SL d y cc nL ret n L (v :: st) g Q) : Sim SL d y cc nL ret pc L (.ref k :: st) g Q := by
  intro p l e R s m args below meth c H locs cells slots Z A dC dI cy ad ls g0 hC hR hW hL
  subst hn
  obtain ⟨⟨ht, hj⟩, hf⟩ := hf
  obtain ⟨hc, hnf, hin, -, -⟩ := m_cls ht
  obtain ⟨hk, he⟩ := m_obj (g := g) (cy := cy) (ad := ad) hs ht
  have hg : (m_fs ad g k)[j]? = some (m_cv ad v) := by
    rw [m_fs_get (by rw [hs]; exact hj), hs, ← hv]
    split <;> rfl
  rcases hf with hf | ⟨host, hf⟩
  · exact va_get hC.1 hC.2.1 hC.2.2.2.2.2.2.1 hin hC.2.2.2.2.2.1 hC.2.2.2.2.2.2.2.2.2.1 hW.1 k he hc j (by rw [hnf]; exact hj) (hC.2.2.2.2.2.2.1 _ hf) (fun _ h => h) hg hd (kk hC hR hW hL)
  · exact va_getN hC.1 hC.2.1 hC.2.2.2.2.2.2.1 hin hC.2.2.2.2.2.1 hC.2.2.2.2.2.2.2.2.2.1 hW.1 k he hc j (by rw [hnf]; exact hj) (va_Nw.use rfl (hC.2.2.2.2.2.2.2.1 _ hf)) (fun _ h => h) hg hd (kk hC hR hW hL)
theorem s_geti {k t j ix : Nat} (hd : decode cc pc = .ok (.getfield ix, 3)) (hn : n = pc + 3) (hf : m_FL y.cls ix t j) (hi : m_ir t j = false) (hs : (m_sh k).1 = t) (kk : Sim SL d y cc nL ret n L (.int (g k j) :: st) g Q) : Sim SL d y cc nL ret pc L (.ref k :: st) g Q :=
  s_get hd hn hf hs (by rw [hi]; rfl) kk
theorem s_getr {k k2 t j ix : Nat} (hd : decode cc pc = .ok (.getfield ix, 3)) (hn : n = pc + 3) (hf : m_FL y.cls ix t j) (hi : m_ir t j = true) (hs : (m_sh k).1 = t) (hr : m_rt t k j = k2) (kk : Sim SL d y cc nL ret n L (.ref k2 :: st) g Q) : Sim SL d y cc nL ret pc L (.ref k :: st) g Q :=
  s_get hd hn hf hs (by rw [hi, if_pos rfl, ← hr]; unfold m_rf; rw [hs]) kk
theorem s_putv {k t j ix : Nat} {v : Int32} {ty : FieldType} (hd : decode cc pc = .ok (.putfield ix, 3)) (hn : n = pc + 3) (hf : m_FL y.cls ix t j) (hi : m_ir t j = false) (hfin : ((m_cr t).2.1 j).2.2.2 = false) (hty : parseFieldDescriptor ((m_cr t).2.1 j).2.2.1 = some ty) (hnw : narrow ty (.int v) = .int v) (hfit : fits ty (.int v) = true) (hs : (m_sh k).1 = t) (kk : Sim SL d y cc nL ret n L st (m_up g k j v) Q) : Sim SL d y cc nL ret pc L (.int v :: .ref k :: st) g Q := by
  intro p l e R s m args below meth c H locs cells slots Z A dC dI cy ad ls g0 hC hR hW hL
  subst hn
  obtain ⟨⟨ht, hj⟩, hf⟩ := hf
  obtain ⟨hc, hnf, hin, hto, hnm⟩ := m_cls ht
  obtain ⟨hk, he⟩ := m_obj (g := g) (cy := cy) (ad := ad) hs ht
  have hset : (Sum.inr (t, (m_fs ad g k).set j (.int v)) : va_E) = m_ce cy ad (m_up g k j v) k := by
    rw [m_ce_ob hs ht, m_fs_set (by rw [hs]; exact hj) (by rw [hs]; exact hi)]
  rcases hf with hf | ⟨host, hf⟩
  · exact va_put hC.1 hC.2.1 hC.2.2.2.2.2.2.1 hin (m_tyo t) hto hnm hC.2.2.2.2.2.1 hC.2.2.2.2.2.2.2.2.2.1 hW.1 hW.2.1 hW.2.2.1 k he hc j (by rw [hnf]; exact hj) (hC.2.2.2.2.2.2.1 _ hf) (fun _ h => h) hfin hty hnw hfit (by rw [m_fs_len, hs]; exact hj) hd (fun H1 locs1 hP hD hS => kk hC hR (hW.set hk hset hP hD hS) hL)
  · exact va_putN hC.1 hC.2.1 hC.2.2.2.2.2.2.1 hin (m_tyo t) hto hnm hC.2.2.2.2.2.1 hC.2.2.2.2.2.2.2.2.2.1 hW.1 hW.2.1 hW.2.2.1 k he hc j (by rw [hnf]; exact hj) (va_Nw.use rfl (hC.2.2.2.2.2.2.2.1 _ hf)) (fun _ h => h) hfin hty hnw hfit (by rw [m_fs_len, hs]; exact hj) hd (fun H1 locs1 hP hD hS => kk hC hR (hW.set hk hset hP hD hS) hL)
/-- an int field's store -/
theorem s_puti {k t j ix : Nat} {v : Int32} (hd : decode cc pc = .ok (.putfield ix, 3)) (hn : n = pc + 3) (hf : m_FL y.cls ix t j) (hi : (m_ir t j || ((m_cr t).2.1 j).2.2.2) = false) (hty : ((m_cr t).2.1 j).2.2.1 = "I") (hs : (m_sh k).1 = t) (kk : Sim SL d y cc nL ret n L st (m_up g k j v) Q) : Sim SL d y cc nL ret pc L (.int v :: .ref k :: st) g Q := by
  rw [Bool.or_eq_false_iff] at hi
  exact s_putv (ty := .int) hd hn hf hi.1 hi.2 (by rw [hty]; decide +kernel) rfl rfl hs kk
theorem s_putz {k t j ix : Nat} {v : Int32} (hd : decode cc pc = .ok (.putfield ix, 3)) (hn : n = pc + 3) (hf : m_FL y.cls ix t j) (hi : (m_ir t j || ((m_cr t).2.1 j).2.2.2) = false) (hty : ((m_cr t).2.1 j).2.2.1 = "Z") (hv : v = 0 ∨ v = 1) (hs : (m_sh k).1 = t) (kk : Sim SL d y cc nL ret n L st (m_up g k j v) Q) : Sim SL d y cc nL ret pc L (.int v :: .ref k :: st) g Q := by
  rw [Bool.or_eq_false_iff] at hi
  refine s_putv (ty := .boolean) hd hn hf hi.1 hi.2 (by rw [hty]; decide +kernel) ?_ ?_ hs kk
  · rcases hv with rfl | rfl <;> decide +kernel
  · rcases hv with rfl | rfl <;> decide +kernel
theorem s_iaload {k z : Nat} {i : Int32} (j : Nat) (hd : decode cc pc = .ok (.iaload, 1)) (hn : n = pc + 1) (hs : m_sh k = (20, z)) (hi : i = nI j) (hj : j < z) (kk : Sim SL d y cc nL ret n L (.int (g k j) :: st) g Q) : Sim SL d y cc nL ret pc L (.int i :: .ref k :: st) g Q := by
  intro p l e R s m args below meth c H locs cells slots Z A dC dI cy ad ls g0 hC hR hW hL
  subst hn
  subst hi
  have hz := m_len hs
  have hk := m_lt93 hs (by omega)
  refine va_iald hC.1 hC.2.1 hC.2.2.2.2.2.2.2.2.2.1 hW.1 k 0 (by rw [m_ws_get hk, m_ce_ar hs]) rfl (vp_in_nI hj hz) hd ?_
  rw [nI_clamp (by omega)]
  exact kk hC hR hW hL
theorem s_baload {k z : Nat} {i : Int32} (j : Nat) (hd : decode cc pc = .ok (.baload, 1)) (hn : n = pc + 1) (hs : m_sh k = (21, z)) (hi : i = nI j) (hj : j < z) (kk : Sim SL d y cc nL ret n L (.int (g k j) :: st) g Q) : Sim SL d y cc nL ret pc L (.int i :: .ref k :: st) g Q := by
  intro p l e R s m args below meth c H locs cells slots Z A dC dI cy ad ls g0 hC hR hW hL
  subst hn
  subst hi
  have hz := m_len hs
  have hk := m_lt93 hs (by omega)
  refine va_zald hC.1 hC.2.1 hC.2.2.2.2.2.2.2.2.2.1 hW.1 k 1 (by rw [m_ws_get hk, m_ce_az hs]) rfl (vp_in_nI hj hz) hd ?_
  rw [nI_clamp (by omega)]
  exact kk hC hR hW hL
theorem s_iastore {k z : Nat} {i v : Int32} (j : Nat) (hd : decode cc pc = .ok (.iastore, 1)) (hn : n = pc + 1) (hs : m_sh k = (20, z)) (hi : i = nI j) (hj : j < z) (kk : Sim SL d y cc nL ret n L st (m_up g k j v) Q) : Sim SL d y cc nL ret pc L (.int v :: .int i :: .ref k :: st) g Q := by
  intro p l e R s m args below meth c H locs cells slots Z A dC dI cy ad ls g0 hC hR hW hL
  subst hn
  subst hi
  have hz := m_len hs
  have hk := m_lt93 hs (by omega)
  refine va_iast hC.1 hC.2.1 hC.2.2.2.2.2.2.2.2.2.1 hW.1 hW.2.1 hW.2.2.1 k 0 (by rw [m_ws_get hk, m_ce_ar hs]) rfl (vp_in_nI hj hz) hd ?_
  intro H1 locs1 hP hD hS
  rw [nI_clamp (by omega)] at hP hD
  refine kk hC hR (hW.set hk ?_ hP hD hS) hL
  rw [m_ce_ar hs]; simp [m_ur]
theorem s_bastore {k z : Nat} {i v : Int32} (j : Nat) (hd : decode cc pc = .ok (.bastore, 1)) (hn : n = pc + 1) (hs : m_sh k = (21, z)) (hi : i = nI j) (hj : j < z) (hv : v = 0 ∨ v = 1) (kk : Sim SL d y cc nL ret n L st (m_up g k j v) Q) : Sim SL d y cc nL ret pc L (.int v :: .int i :: .ref k :: st) g Q := by
  intro p l e R s m args below meth c H locs cells slots Z A dC dI cy ad ls g0 hC hR hW hL
  subst hn
  subst hi
  have hz := m_len hs
  have hk := m_lt93 hs (by omega)
  refine va_zast hC.1 hC.2.1 hC.2.2.2.2.2.2.2.2.2.1 hW.1 hW.2.1 hW.2.2.1 k 1 (by rw [m_ws_get hk, m_ce_az hs]) rfl (vp_in_nI hj hz) hd ?_
  intro H1 locs1 hP hD hS
  rw [nI_clamp (by omega)] at hP hD
  have hvn : vp_nar .boolean v = v := by rcases hv with rfl | rfl <;> decide +kernel
  rw [hvn] at hP hD
  refine kk hC hR (hW.set hk ?_ hP hD hS) hL
  rw [m_ce_az hs]; simp [m_ur]
theorem s_aaload {k k2 t z : Nat} {i : Int32} (j : Nat) (hd : decode cc pc = .ok (.aaload, 1)) (hn : n = pc + 1) (hs : m_sh k = (22 + t, z)) (ht : t < 3) (hi : i = nI j) (hj : j < z) (hr : m_rt (22 + t) k j = k2) (kk : Sim SL d y cc nL ret n L (.ref k2 :: st) g Q) : Sim SL d y cc nL ret pc L (.int i :: .ref k :: st) g Q := by
  intro p l e R s m args below meth c H locs cells slots Z A dC dI cy ad ls g0 hC hR hW hL
  subst hn
  subst hi
  have hz := m_len hs
  have hk := m_lt93 hs (by omega)
  have hty : ∃ C, (m_ty cy)[2 + t]? = some (cy (2 + t), .object C) := by
    match t, ht with
    | 0, _ => exact ⟨_, rfl⟩
    | 1, _ => exact ⟨_, rfl⟩
    | 2, _ => exact ⟨_, rfl⟩
    | t + 3, h => exact absurd h (by omega)
  obtain ⟨C, hty⟩ := hty
  refine va_aldq hC.1 hC.2.1 hC.2.2.2.2.2.2.2.2.2.1 hW.1 k (2 + t) (by rw [m_ws_get hk, m_ce_aq hs]) hty (vp_in_nI hj hz) hd ?_
  rw [nI_clamp (by omega)]
  have e : m_rf k j = k2 := by unfold m_rf; rw [hs]; exact hr
  rw [e]
  exact kk hC hR hW hL
theorem s_alen {k z : Nat} {v : Int32} (hd : decode cc pc = .ok (.arraylength, 1)) (hn : n = pc + 1) (hs : m_sh k = (20, z)) (hv : nI z = v) (kk : Sim SL d y cc nL ret n L (.int v :: st) g Q) : Sim SL d y cc nL ret pc L (.ref k :: st) g Q := by
  intro p l e R s m args below meth c H locs cells slots Z A dC dI cy ad ls g0 hC hR hW hL
  subst hn
  have hk := m_lt93 hs (by omega)
  exact va_alen (x := (z, .inl (g k))) hC.1 hC.2.1 hC.2.2.2.2.2.2.2.2.2.1 hW.1 k 0 (by rw [m_ws_get hk, m_ce_ar hs]) rfl hv hd (kk hC hR hW hL)
theorem s_alenq {k t z : Nat} {v : Int32} (hd : decode cc pc = .ok (.arraylength, 1)) (hn : n = pc + 1) (hs : m_sh k = (22 + t, z)) (ht : t < 3) (hv : nI z = v) (kk : Sim SL d y cc nL ret n L (.int v :: st) g Q) : Sim SL d y cc nL ret pc L (.ref k :: st) g Q := by
  intro p l e R s m args below meth c H locs cells slots Z A dC dI cy ad ls g0 hC hR hW hL
  subst hn
  have hk := m_lt93 hs (by omega)
  have hty : ∃ C, (m_ty cy)[2 + t]? = some (cy (2 + t), C) := by
    match t, ht with
    | 0, _ => exact ⟨_, rfl⟩
    | 1, _ => exact ⟨_, rfl⟩
    | 2, _ => exact ⟨_, rfl⟩
    | t + 3, h => exact absurd h (by omega)
  obtain ⟨C, hty⟩ := hty
  exact va_alen (x := (z, .inr (.inr (.inr (.inr (fun i => some (ad (m_rf k i)))))))) hC.1 hC.2.1 hC.2.2.2.2.2.2.2.2.2.1 hW.1 k (2 + t) (by rw [m_ws_get hk, m_ce_aq hs]) hty hv hd (kk hC hR hW hL)
theorem m_ro_ge {SL : Nat} {q : Nat × Nat} (h : q ∈ m_ro SL) : 200 ≤ q.1 := by
  simp only [m_ro, List.mem_cons, List.not_mem_nil, or_false] at h
  rcases h with rfl | rfl | rfl | rfl | rfl | rfl <;> simp
/-- the script and the static tables: read only -/
theorem s_tload {k z : Nat} {i : Int32} (j : Nat) (hd : decode cc pc = .ok (.iaload, 1)) (hn : n = pc + 1) (hs : (k, z) ∈ m_ro SL) (hz : z < 2 ^ 31) (hi : i = nI j) (hj : j < z) (kk : Sim SL d y cc nL ret n L (.int (g k j) :: st) g Q) : Sim SL d y cc nL ret pc L (.int i :: .ref k :: st) g Q := by
  intro p l e R s m args below meth c H locs cells slots Z A dC dI cy ad ls g0 hC hR hW hL
  subst hn
  subst hi
  have e : g k = g0 k := hW.2.2.2 k (by have := m_ro_ge hs; simp at this; omega)
  refine va_ti hC.1 hC.2.1 (hC.2.2.2.2.2.2.2.2.2.2.2.2.1 _ hs) hW.2.2.1 (vp_in_nI hj hz) rfl hd ?_
  have := kk hC hR hW hL
  rw [e] at this
  rw [nI_clamp (by omega)]
  exact this
theorem s_tlen {k z : Nat} {v : Int32} (hd : decode cc pc = .ok (.arraylength, 1)) (hn : n = pc + 1) (hs : (k, z) ∈ m_ro SL) (hv : nI z = v) (kk : Sim SL d y cc nL ret n L (.int v :: st) g Q) : Sim SL d y cc nL ret pc L (.ref k :: st) g Q := by
  intro p l e R s m args below meth c H locs cells slots Z A dC dI cy ad ls g0 hC hR hW hL
  subst hn
  exact va_tlen hC.1 hC.2.1 (hC.2.2.2.2.2.2.2.2.2.2.2.2.1 _ hs) hW.2.2.1 hv hd (kk hC hR hW hL)
theorem s_getstatic {k ix : Nat} {C nm : String} (hd : decode cc pc = .ok (.getstatic ix, 3)) (hn : n = pc + 3) (hs : (C, nm, k) ∈ m_sta) (hf : (Cond.fieldLink y.cls ix C nm "[I" ∈ m_gw) ∨ ∃ host, Cond.fieldLinkNest y.cls ix C nm "[I" host ∈ m_nw) (kk : Sim SL d y cc nL ret n L (.ref k :: st) g Q) : Sim SL d y cc nL ret pc L st g Q := by
  intro p l e R s m args below meth c H locs cells slots Z A dC dI cy ad ls g0 hC hR hW hL
  subst hn
  have hZ := hC.2.2.2.2.2.2.2.2.2.2.2.1 _ hs
  rcases hf with hf | ⟨host, hf⟩
  · exact va_gets hC.1 hC.2.1 hZ hW.2.2.1 hC.2.2.2.2.2.1 (hC.2.2.2.2.2.2.1 _ hf) (fun _ h => h) hd (kk hC hR hW hL)
  · exact va_getsN hC.1 hC.2.1 hZ hW.2.2.1 hC.2.2.2.2.2.1 (va_Nw.use rfl (hC.2.2.2.2.2.2.2.1 _ hf)) (fun _ h => h) hd (kk hC hR hW hL)
/-- System.arraycopy over int arrays -/
theorem s_copy {k0 k1 z0 z1 ix : Nat} {sp dp num : Int32} (a b c : Nat) (hd : decode cc pc = .ok (.invokestatic ix, 3)) (hn : n = pc + 3) (hlk : Cond.methodLink y.cls ix arraycopyName ∈ m_gw) (hw : (Cond.native arraycopyName ∈ m_gw ∧ Cond.static arraycopyName ∈ m_gw) ∧ Cond.initialized "java/lang/System" ∈ m_gw) (hdp : 1 ≤ d) (hs0 : m_sh k0 = (20, z0)) (hs1 : m_sh k1 = (20, z1)) (hsp : sp = nI a) (hdp2 : dp = nI b) (hnum : num = nI c) (h0 : a + c ≤ z0) (h1 : b + c ≤ z1) (hst : (st.map fun v => v.category).sum ≤ 8) (kk : Sim SL d y cc nL ret n L st (m_ur g k1 (va_cpy (g k0) (g k1) a b c)) Q) : Sim SL d y cc nL ret pc L (.int num :: .int dp :: .ref k1 :: .int sp :: .ref k0 :: st) g Q := by
  intro p l e R s m args below meth c H locs cells slots Z A dC dI cy ad ls g0 hC hR hW hL
  subst hn; subst hsp; subst hdp2; subst hnum
  have hz0 := m_len hs0
  have hz1 := m_len hs1
  have hk0 := m_lt93 hs0 (by omega)
  have hk1 := m_lt93 hs1 (by omega)
  have hcat : ((st.map (m_cv ad)).map fun v => v.category).sum ≤ 8 := by
    rw [List.map_map, show ((fun v => Value.category v) ∘ m_cv ad) = (fun v => Value.category v) from funext (fun v => m_cv_cat ad v)]; exact hst
  refine va_copyi hC.1 hC.2.1 (by rw [hC.2.2.1]; exact hL.1.symm) hC.2.2.2.2.2.1 (hC.2.2.2.2.2.2.1 _ hlk) (hC.2.2.2.2.2.2.1 _ hw.1.1) (hC.2.2.2.2.2.2.1 _ hw.1.2) (hC.2.2.2.2.2.2.1 _ hw.2) hC.2.2.2.2.2.2.2.2.2.1 hW.1 hW.2.1 hW.2.2.1 k0 k1 0 0 (by rw [m_ws_get hk0, m_ce_ar hs0]) (by rw [m_ws_get hk1, m_ce_ar hs1]) rfl rfl rfl (nI_pos (by omega)) (nI_pos (by omega)) (nI_pos (by omega)) (by rw [nI_clamp (by omega), nI_clamp (by omega)]; exact h0) (by rw [nI_clamp (by omega), nI_clamp (by omega)]; exact h1) (fun i _ => rfl) (Nat.le_trans hdp hC.2.2.2.2.2.2.2.2.2.2.1.1) ?_ hd ?_
  · have h60 := hC.2.2.2.2.2.2.2.2.2.2.1.2
    have : nativeFrameWords "java/lang/System" "arraycopy" 5 ≤ 20 := by decide +kernel
    omega
  · intro H1 locs1 hP hD hS
    rw [nI_clamp (by omega), nI_clamp (by omega), nI_clamp (by omega)] at hP hD
    refine kk hC hR (hW.set hk1 ?_ hP hD hS) hL
    rw [m_ce_ar hs1]; simp [m_ur]
end SIMMEM
