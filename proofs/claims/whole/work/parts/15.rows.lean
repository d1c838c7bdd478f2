/-! ===== the parts of the relations, kept ===== -/
section KEPT
variable {g g2 : m_G} {a : a_S} {S : List Nat}
theorem C_R.c1 (h : C_R g a) (hf : m_fr S g g2) (hS : ∀ x ∈ S, ¬ (2 ≤ x ∧ x ≤ 17)) : ∀ r, r < 8 → C_w g2 r (a_rows a r) := fun r hr => (h.1 r hr).kept (hf _ (fun q => hS _ q (by omega))) (hf _ (fun q => hS _ q (by omega)))
theorem C_R.c2 (h : C_R g a) (hf : m_fr S g g2) (hS : 18 ∉ S ∧ 19 ∉ S) : g2 18 1 = nI (a_tape a).1 ∧ (a_tape a).1 ≤ 100 ∧ ∀ i, i < (a_tape a).1 → g2 19 i = (a_tape a).2 i := by rw [hf _ hS.1, hf _ hS.2]; exact h.2.1
theorem C_R.c3 (h : C_R g a) (hf : m_fr S g g2) (hS : ∀ x ∈ S, ¬ (x = 28 ∨ 32 ≤ x ∧ x ≤ 37)) : g2 28 2 = a_b (a_hill a) ∧ TW g2 28 (a_T (a_hill a)) := by
  rw [hf 28 (fun q => hS _ q (by omega))]
  exact ⟨h.2.2.1.1, h.2.2.1.2.kept (hf 28 (fun q => hS _ q (by omega))) (fun i hi => hf _ (fun q => hS _ q (by omega)))⟩
theorem C_R.c4 (h : C_R g a) (hf : m_fr S g g2) (hS : 20 ∉ S ∧ 21 ∉ S ∧ 22 ∉ S ∧ 23 ∉ S) : g2 20 3 = nI (a_past a).length ∧ (a_past a).length ≤ 24 ∧ C_ac g2 (a_past a).length (a_T (a_hill a)) (a_past a) := by
  rw [hf _ hS.1]
  exact ⟨h.2.2.2.1.1, h.2.2.2.1.2.1, C_ac.kept (hf _ hS.2.1) (hf _ hS.2.2.1) (hf _ hS.2.2.2) _ _ _ h.2.2.2.1.2.2⟩
theorem C_R.c5 (h : C_R g a) (hf : m_fr S g g2) (hS : ∀ x ∈ S, ¬ (x = 48 ∨ 52 ≤ x ∧ x ≤ 58 ∨ 62 ≤ x ∧ x ≤ 67)) : ∀ k, k < 2 → g2 (48 + 10 * k) 2 = a_b (a_imgs a k) ∧ ∀ t, a_imgs a k = some t → TW g2 (48 + 10 * k) t := fun k hk => by
  rw [hf (48 + 10 * k) (fun q => hS _ q (by omega))]
  exact ⟨(h.2.2.2.2.1 k hk).1, fun t ht => ((h.2.2.2.2.1 k hk).2 t ht).kept (hf _ (fun q => hS _ q (by omega))) (fun i hi => hf _ (fun q => hS _ q (by omega)))⟩
theorem C_R.c6 (h : C_R g a) (hf : m_fr S g g2) (hS : 0 ∉ S) : g2 0 8 = a_fault a ∧ g2 0 9 = a_find a := by rw [hf _ hS]; exact h.2.2.2.2.2.1
theorem C_R.c7 (h : C_R g a) (hf : m_fr S g g2) (hS : 25 ∉ S ∧ 26 ∉ S) : g2 25 1 = nI (a_trace a).1 ∧ (a_trace a).1 ≤ 16 ∧ ∀ i, i < (a_trace a).1 → g2 26 i = (a_trace a).2 i := by rw [hf _ hS.1, hf _ hS.2]; exact h.2.2.2.2.2.2
theorem M_R.c1 (h : M_R g a) (hf : m_fr S g g2) (hS : 81 ∉ S ∧ 82 ∉ S ∧ 83 ∉ S) : ∀ r, r < 8 → M_w g2 r (a_rows a r) := fun r hr => (h.1 r hr).kept (by rw [hf _ hS.1]) (by rw [hf _ hS.2.1]) (fun i _ => by rw [hf _ hS.2.2])
theorem M_R.c2 (h : M_R g a) (hf : m_fr S g g2) (hS : 84 ∉ S) (e : g2 78 8 = g 78 8) : g2 78 8 = nI (a_tape a).1 ∧ (a_tape a).1 ≤ 100 ∧ ∀ i, i < (a_tape a).1 → g2 84 i = (a_tape a).2 i := by rw [e, hf _ hS]; exact h.2.1
theorem M_R.c3 (h : M_R g a) (e : g2 78 1 = g 78 1) (e9 : ∀ j, j < 39 → g2 79 j = g 79 j) : g2 78 1 = a_b (a_hill a) ∧ TM g2 0 (a_T (a_hill a)) := by
  rw [e]; exact ⟨h.2.2.1.1, h.2.2.1.2.kept (fun j hj => e9 _ (by omega))⟩
theorem M_R.c4 (h : M_R g a) (e : g2 78 2 = g 78 2) (e9 : ∀ j, 39 ≤ j → j < 975 → g2 79 j = g 79 j) : g2 78 2 = nI (a_past a).length ∧ (a_past a).length ≤ 24 ∧ M_pa g2 (a_past a) := by
  rw [e]
  refine ⟨h.2.2.2.1.1, h.2.2.2.1.2.1, ?_⟩
  have key : ∀ ps : List m_T, ps.length ≤ 24 → M_pa g ps → M_pa g2 ps := by
    intro ps
    induction ps with
    | nil => intro _ _; trivial
    | cons p ps ih =>
      intro hl hp
      have hl2 : ps.length + 1 ≤ 24 := hl
      exact ⟨hp.1.kept (fun j hj => e9 _ (by omega) (by omega)), ih (by omega) hp.2⟩
  exact key _ h.2.2.2.1.2.1 h.2.2.2.1.2.2
theorem M_R.c5 (h : M_R g a) (hf : m_fr S g g2) (hS : 80 ∉ S) (e9 : ∀ j, 975 ≤ j → j < 1053 → g2 79 j = g 79 j) : ∀ k, k < 2 → g2 80 k = a_b (a_imgs a k) ∧ ∀ t, a_imgs a k = some t → TM g2 (975 + 39 * k) t := fun k hk => by
  rw [hf _ hS]; exact ⟨(h.2.2.2.2.1 k hk).1, fun t ht => ((h.2.2.2.2.1 k hk).2 t ht).kept (fun j hj => e9 _ (by omega) (by omega))⟩
theorem M_R.c6 (h : M_R g a) (e : g2 78 9 = g 78 9) (e2 : g2 78 10 = g 78 10) : g2 78 9 = a_fault a ∧ g2 78 10 = a_find a := by rw [e, e2]; exact h.2.2.2.2.2.1
theorem M_R.c7 (h : M_R g a) (hf : m_fr S g g2) (hS : 85 ∉ S) (e : g2 78 12 = g 78 12) : g2 78 12 = nI (a_trace a).1 ∧ (a_trace a).1 ≤ 16 ∧ ∀ i, i < (a_trace a).1 → g2 85 i = (a_trace a).2 i := by rw [e, hf _ hS]; exact h.2.2.2.2.2.2
theorem C_R.find (h : C_R g a) (f : Int32) : C_R (m_up g 0 9 f) (u_find a f) := by
  have hf : m_fr [0] g (m_up g 0 9 f) := m_fr.up (by decide)
  exact ⟨h.c1 hf (by decide), h.c2 hf (by decide), h.c3 hf (by decide), h.c4 hf (by decide), h.c5 hf (by decide), ⟨by rw [m_up_k, if_neg (by decide)]; exact h.2.2.2.2.2.1.1, by rw [m_up_k, if_pos rfl]; rfl⟩, h.c7 hf (by decide)⟩
theorem M_R.find (h : M_R g a) (f : Int32) : M_R (m_up g 78 10 f) (u_find a f) := by
  have hf : m_fr [78] g (m_up g 78 10 f) := m_fr.up (by decide)
  have e : ∀ j, j ≠ 10 → (m_up g 78 10 f) 78 j = g 78 j := fun j hj => by rw [m_up_k, if_neg hj]
  have e9 : ∀ j, (m_up g 78 10 f) 79 j = g 79 j := fun j => by rw [m_up_o (by decide)]
  exact ⟨h.c1 hf (by decide), h.c2 hf (by decide) (e _ (by decide)), h.c3 (e _ (by decide)) (fun j _ => e9 j), h.c4 (e _ (by decide)) (fun j _ _ => e9 j), h.c5 hf (by decide) (fun j _ _ => e9 j), ⟨(e 9 (by decide)).trans h.2.2.2.2.2.1.1, by rw [m_up_k, if_pos rfl]; rfl⟩, h.c7 hf (by decide) (e _ (by decide))⟩
def a_set (f : Nat → a_R) (j : Nat) (x : a_R) : Nat → a_R := fun q => if q = j then x else f q
theorem C_R.row {j : Nat} {x : a_R} (h : C_R g a) (hj : j < 8) (hf : m_fr [2 + j, 10 + j] g g2) (hw : C_w g2 j x) : C_R g2 (u_rows a (a_set (a_rows a) j x)) := by
  have hs : ∀ x ∈ [2 + j, 10 + j], 2 ≤ x ∧ x ≤ 17 := by intro x hx; simp at hx; omega
  have hn : ∀ x : Nat, ¬ (2 ≤ x ∧ x ≤ 17) → x ∉ [2 + j, 10 + j] := fun x hx q => hx (hs x q)
  refine ⟨fun r hr => ?_, h.c2 hf ⟨hn _ (by decide), hn _ (by decide)⟩, h.c3 hf (fun x hx q => by have := hs x hx; omega), h.c4 hf ⟨hn _ (by decide), hn _ (by decide), hn _ (by decide), hn _ (by decide)⟩, h.c5 hf (fun x hx q => by have := hs x hx; omega), h.c6 hf (hn _ (by decide)), h.c7 hf ⟨hn _ (by decide), hn _ (by decide)⟩⟩
  show C_w g2 r (a_set (a_rows a) j x r)
  unfold a_set
  split
  · subst r; exact hw
  · exact (h.1 r hr).kept (hf _ (by simp; omega)) (hf _ (by simp; omega))
theorem M_R.row {j : Nat} {x : a_R} (h : M_R g a) (hj : j < 8) (hf : m_fr [81, 82, 83] g g2) (h1 : ∀ r, r ≠ j → g2 81 r = g 81 r ∧ g2 82 r = g 82 r ∧ ∀ i, i < 40 → g2 83 (40 * r + i) = g 83 (40 * r + i)) (hw : M_w g2 j x) : M_R g2 (u_rows a (a_set (a_rows a) j x)) := by
  have e : g2 78 = g 78 := hf 78 (by decide)
  have e9 : g2 79 = g 79 := hf 79 (by decide)
  refine ⟨fun r hr => ?_, h.c2 hf (by decide) (by rw [e]), h.c3 (by rw [e]) (fun _ _ => by rw [e9]), h.c4 (by rw [e]) (fun _ _ _ => by rw [e9]), h.c5 hf (by decide) (fun _ _ _ => by rw [e9]), h.c6 (by rw [e]) (by rw [e]), h.c7 hf (by decide) (by rw [e])⟩
  show M_w g2 r (a_set (a_rows a) j x r)
  unfold a_set
  split
  · subst r; exact hw
  · rename_i hne
    exact (h.1 r hr).kept (h1 r hne).1 (h1 r hne).2.1 (h1 r hne).2.2
end KEPT
theorem rw0 {j : Nat} (h : j < 8) : (m_sh (2 + j)).1 = 4 := by
  rcases (show j = 0 ∨ j = 1 ∨ j = 2 ∨ j = 3 ∨ j = 4 ∨ j = 5 ∨ j = 6 ∨ j = 7 by omega) with rfl | rfl | rfl | rfl | rfl | rfl | rfl | rfl <;> rfl
theorem rw8 {j : Nat} (h : j < 8) : m_sh (2 + j + 8) = (20, 40) := by
  rcases (show j = 0 ∨ j = 1 ∨ j = 2 ∨ j = 3 ∨ j = 4 ∨ j = 5 ∨ j = 6 ∨ j = 7 by omega) with rfl | rfl | rfl | rfl | rfl | rfl | rfl | rfl <;> rfl
def sp_cut (l v : Int32) : Int32 := if l = 0 then v.toInt8.toInt32 else if l = 1 then v.toInt16.toInt32 else v
/-- n items from i on lie within z -/
abbrev sp_rch (z i n : Int32) : Prop := ¬ i < 0 ∧ ¬ n < 0 ∧ ¬ z < n ∧ ¬ z - n < i
def sp_row (a : a_S) (r l n : Int32) : Int32 × a_S := if wn r 0 7 then (if wn l 0 2 then (if n ≤ 40 then (if 0 ≤ n then (n, u_find (u_rows a (a_set (a_rows a) r.toNatClampNeg (some (l, n.toNatClampNeg, fun _ => 0)))) 0) else (-1000014, u_find a 4)) else (-1000001, a)) else (-1000001, a)) else (-1000001, a)
def sp_set (a : a_S) (r i v : Int32) : Int32 × a_S := if wn r 0 7 then (match a_rows a r.toNatClampNeg with
  | none => (-1000011, u_find a 1)
  | some q => if sp_rch (nI q.2.1) i 1 then (sp_cut q.1 v, u_find (u_rows a (a_set (a_rows a) r.toNatClampNeg (some (q.1, q.2.1, upd q.2.2 i.toNatClampNeg (sp_cut q.1 v))))) 0) else (-1000012, u_find a 2)) else (-1000001, a)
def sp_drop (a : a_S) (r : Int32) : Int32 × a_S := if wn r 0 7 then (match a_rows a r.toNatClampNeg with
  | none => (-1000011, u_find a 1)
  | some q => (nI q.2.1, u_find (u_rows a (a_set (a_rows a) r.toNatClampNeg none)) 0)) else (-1000001, a)
theorem c_X8_found {SL : Nat} {d : Nat} {Q : Option Int32 → m_G → Prop} {g : m_G} (n : Int32) (hQ : Q (some (-1000010 - n)) (m_up g 0 9 n)) : Sim SL d yX8_found cX8_found 2 (some .int) 0 [.ref 0, .int n] [] g Q := by
  refine s_aload_n (n := 1) dX8_found_0 rfl rfl rfl ?_
  refine s_iload_n (n := 2) dX8_found_1 rfl rfl rfl ?_
  refine s_puti (n := 5) dX8_found_2 rfl fl_X8_303 rfl rfl rfl ?_
  refine s_ldcw (n := 8) dX8_found_5 rfl kc_X8_306 ?_
  refine s_iload_n (n := 9) dX8_found_8 rfl rfl rfl ?_
  refine s_isub (n := 10) dX8_found_9 rfl ?_
  refine s_ireturn dX8_found_10 rfl rfl ?_
  exact hQ
theorem c_X8_fine {SL : Nat} {d : Nat} {Q : Option Int32 → m_G → Prop} {g : m_G} (n : Int32) (hQ : Q (some n) (m_up g 0 9 0)) : Sim SL d yX8_fine cX8_fine 2 (some .int) 0 [.ref 0, .int n] [] g Q := by
  refine s_aload_n (n := 1) dX8_fine_0 rfl rfl rfl ?_
  refine s_iconst (v := 0) (n := 2) dX8_fine_1 rfl (by decide) ?_
  refine s_puti (n := 5) dX8_fine_2 rfl fl_X8_303 rfl rfl rfl ?_
  refine s_iload_n (n := 6) dX8_fine_5 rfl rfl rfl ?_
  refine s_ireturn dX8_fine_6 rfl rfl ?_
  exact hQ
theorem c_X9_find {SL : Nat} {d : Nat} {Q : Option Int32 → m_G → Prop} {g : m_G} (n : Int32) (hQ : Q (some (-1000010 - n)) (m_up g 78 10 n)) : Sim SL d yX9_find cX9_find 2 (some .int) 0 [.ref 78, .int n] [] g Q := by
  refine s_aload_n (n := 1) dX9_find_0 rfl rfl rfl ?_
  refine s_iload_n (n := 2) dX9_find_1 rfl rfl rfl ?_
  refine s_puti (n := 5) dX9_find_2 rfl fl_X9_53 rfl rfl rfl ?_
  refine s_ldc (n := 7) dX9_find_5 rfl kc_X9_57 ?_
  refine s_iload_n (n := 8) dX9_find_7 rfl rfl rfl ?_
  refine s_isub (n := 9) dX9_find_8 rfl ?_
  refine s_ireturn dX9_find_9 rfl rfl ?_
  exact hQ
theorem c_X9_well {SL : Nat} {d : Nat} {Q : Option Int32 → m_G → Prop} {g : m_G} (n : Int32) (hQ : Q (some n) (m_up g 78 10 0)) : Sim SL d yX9_well cX9_well 2 (some .int) 0 [.ref 78, .int n] [] g Q := by
  refine s_aload_n (n := 1) dX9_well_0 rfl rfl rfl ?_
  refine s_iconst (v := 0) (n := 2) dX9_well_1 rfl (by decide) ?_
  refine s_puti (n := 5) dX9_well_2 rfl fl_X9_53 rfl rfl rfl ?_
  refine s_iload_n (n := 6) dX9_well_5 rfl rfl rfl ?_
  refine s_ireturn dX9_well_6 rfl rfl ?_
  exact hQ
theorem c_X8_fault {SL : Nat} {d : Nat} {Q : Option Int32 → m_G → Prop} {g : m_G} (hQ : Q (some (g 0 8)) g) : Sim SL d yX8_fault cX8_fault 1 (some .int) 0 [.ref 0] [] g Q := by
  refine s_aload_n (n := 1) dX8_fault_0 rfl rfl rfl ?_
  refine s_geti (n := 4) dX8_fault_1 rfl fl_X8_118 rfl rfl ?_
  refine s_ireturn dX8_fault_4 rfl rfl ?_
  exact hQ
theorem c_X8_status {SL : Nat} {d : Nat} {Q : Option Int32 → m_G → Prop} {g : m_G} (hQ : Q (some (g 0 9)) g) : Sim SL d yX8_status cX8_status 1 (some .int) 0 [.ref 0] [] g Q := by
  refine s_aload_n (n := 1) dX8_status_0 rfl rfl rfl ?_
  refine s_geti (n := 4) dX8_status_1 rfl fl_X8_303 rfl rfl ?_
  refine s_ireturn dX8_status_4 rfl rfl ?_
  exact hQ
theorem c_X9_fault {SL : Nat} {d : Nat} {Q : Option Int32 → m_G → Prop} {g : m_G} (hQ : Q (some (g 78 9)) g) : Sim SL d yX9_fault cX9_fault 1 (some .int) 0 [.ref 78] [] g Q := by
  refine s_aload_n (n := 1) dX9_fault_0 rfl rfl rfl ?_
  refine s_geti (n := 4) dX9_fault_1 rfl fl_X9_142 rfl rfl ?_
  refine s_ireturn dX9_fault_4 rfl rfl ?_
  exact hQ
theorem c_X9_status {SL : Nat} {d : Nat} {Q : Option Int32 → m_G → Prop} {g : m_G} (hQ : Q (some (g 78 10)) g) : Sim SL d yX9_status cX9_status 1 (some .int) 0 [.ref 78] [] g Q := by
  refine s_aload_n (n := 1) dX9_status_0 rfl rfl rfl ?_
  refine s_geti (n := 4) dX9_status_1 rfl fl_X9_53 rfl rfl ?_
  refine s_ireturn dX9_status_4 rfl rfl ?_
  exact hQ
theorem lp_X4_begin {SL d : Nat} {Q : Option Int32 → m_G → Prop} {j : Nat} (hj : j < 8) (x y : Int32) : ∀ (n i : Nat) (g : m_G), i + n = 40 → (∀ q, q < i → g (2 + j + 8) q = 0) → (∀ g2, m_fr [2 + j + 8] g g2 → (∀ q, q < 40 → g2 (2 + j + 8) q = 0) → Q none g2) → Sim SL d yX4_begin cX4_begin 4 none 17 [.ref (2 + j), .int x, .int y, .int (nI i)] [] g Q := by
  intro n
  induction n with
  | zero =>
    intro i g hin r6 hQ
    have hi : i = 40 := by omega
    subst hi
    refine s_iload_n (n := 18) dX4_begin_17 rfl rfl rfl ?_
    refine s_bipush (v := 40) (n := 20) dX4_begin_18 rfl (by decide) ?_
    refine s_icmp_ge (n := 23) (t := 36) dX4_begin_20 (by decide) rfl (fun h20 => ?_) (fun h20 => ?_)
    · refine s_return dX4_begin_36 rfl ?_
      exact hQ g m_fr.rf r6
    · exact absurd (by decide) h20
  | succ n ih =>
    intro i g hin r6 hQ
    have hi : i < 40 := by omega
    refine s_iload_n (n := 18) dX4_begin_17 rfl rfl rfl ?_
    refine s_bipush (v := 40) (n := 20) dX4_begin_18 rfl (by decide) ?_
    refine s_icmp_ge (n := 23) (t := 36) dX4_begin_20 (by decide) rfl (fun h20 => ?_) (fun h20 => ?_)
    · exact absurd h20 (nI_ge hi (by decide))
    · refine s_aload_n (n := 24) dX4_begin_23 rfl rfl rfl ?_
      refine s_getr (k2 := 2 + j + 8) (n := 27) dX4_begin_24 rfl fl_X4_9 rfl (rw0 hj) rfl ?_
      refine s_iload_n (n := 28) dX4_begin_27 rfl rfl rfl ?_
      refine s_iconst (v := 0) (n := 29) dX4_begin_28 rfl (by decide) ?_
      refine s_iastore i (n := 30) dX4_begin_29 rfl (rw8 hj) rfl hi ?_
      refine s_iinc (n := 33) (v := nI (i + 1)) dX4_begin_30 rfl (by decide) rfl rfl (nI_1 i) rfl ?_
      refine s_goto (t := 17) dX4_begin_33 (by decide) ?_
      refine ih (i + 1) _ (by omega) ?_ (fun g2 hf => hQ g2 ((m_fr.up (by simp)).tr hf))
      intro q hq
      rw [m_up_k]
      split
      · rfl
      · exact r6 q (by omega)
theorem c_X4_begin {SL : Nat} {d : Nat} {Q : Option Int32 → m_G → Prop} {g : m_G} {j : Nat} (hj : j < 8) (x y : Int32) (hQ : ∀ g2, m_fr [2 + j, 10 + j] g g2 → g2 (2 + j) 1 = 0 → g2 (2 + j) 2 = x → g2 (2 + j) 3 = y → (∀ i, i < 40 → g2 (10 + j) i = 0) → Q none g2) : Sim SL d yX4_begin cX4_begin 4 none 0 [.ref (2 + j), .int x, .int y, .null] [] g Q := by
  refine s_aload_n (n := 1) dX4_begin_0 rfl rfl rfl ?_
  refine s_iconst (v := 0) (n := 2) dX4_begin_1 rfl (by decide) ?_
  refine s_putz (n := 5) dX4_begin_2 rfl fl_X4_15 rfl rfl (by decide) (rw0 hj) ?_
  refine s_aload_n (n := 6) dX4_begin_5 rfl rfl rfl ?_
  refine s_iload_n (n := 7) dX4_begin_6 rfl rfl rfl ?_
  refine s_puti (n := 10) dX4_begin_7 rfl fl_X4_19 rfl rfl (rw0 hj) ?_
  refine s_aload_n (n := 11) dX4_begin_10 rfl rfl rfl ?_
  refine s_iload_n (n := 12) dX4_begin_11 rfl rfl rfl ?_
  refine s_puti (n := 15) dX4_begin_12 rfl fl_X4_23 rfl rfl (rw0 hj) ?_
  refine s_iconst (v := 0) (n := 16) dX4_begin_15 rfl (by decide) ?_
  refine s_istore_n (n := 17) dX4_begin_16 rfl rfl (by decide) rfl rfl ?_
  refine lp_X4_begin hj x y 40 0 _ rfl (fun q hq => absurd hq (by omega)) (fun g2 hf h0 => ?_)
  have e : 2 + j + 8 = 10 + j := by omega
  rw [e] at hf h0
  have e2 : g2 (2 + j) = _ := hf (2 + j) (by simp <;> omega)
  refine hQ g2 ((((m_fr.rf.up2 (by simp)).up2 (by simp)).up2 (by simp)).tr (hf.mono (by simp))) ?_ ?_ ?_ h0
  all_goals (rw [e2]; simp [m_up_k])
theorem c_X4_reaches {SL : Nat} {d : Nat} {Q : Option Int32 → m_G → Prop} {g : m_G} {j : Nat} (hj : j < 8) (x y : Int32) (k1 : sp_rch (g (2 + j) 3) x y → Q (some 1) g) (k0 : ¬ (sp_rch (g (2 + j) 3) x y) → Q (some 0) g) : Sim SL d yX4_reaches cX4_reaches 3 (some .boolean) 0 [.ref (2 + j), .int x, .int y] [] g Q := by
  refine s_iload_n (n := 1) dX4_reaches_0 rfl rfl rfl ?_
  refine s_if_lt (n := 4) (t := 30) dX4_reaches_1 (by decide) rfl (fun h1 => ?_) (fun h1 => ?_)
  · refine s_iconst (v := 0) (n := 31) dX4_reaches_30 rfl (by decide) ?_
    refine s_ireturn dX4_reaches_31 rfl (by decide +kernel) ?_
    first | exact k1 ⟨h1, h5, h13, h23⟩ | exact k0 (fun q => q.1 h1) | exact k0 (fun q => q.2.1 h5) | exact k0 (fun q => q.2.2.1 h13) | exact k0 (fun q => q.2.2.2 h23)
  · refine s_iload_n (n := 5) dX4_reaches_4 rfl rfl rfl ?_
    refine s_if_lt (n := 8) (t := 30) dX4_reaches_5 (by decide) rfl (fun h5 => ?_) (fun h5 => ?_)
    · refine s_iconst (v := 0) (n := 31) dX4_reaches_30 rfl (by decide) ?_
      refine s_ireturn dX4_reaches_31 rfl (by decide +kernel) ?_
      first | exact k1 ⟨h1, h5, h13, h23⟩ | exact k0 (fun q => q.1 h1) | exact k0 (fun q => q.2.1 h5) | exact k0 (fun q => q.2.2.1 h13) | exact k0 (fun q => q.2.2.2 h23)
    · refine s_iload_n (n := 9) dX4_reaches_8 rfl rfl rfl ?_
      refine s_aload_n (n := 10) dX4_reaches_9 rfl rfl rfl ?_
      refine s_geti (n := 13) dX4_reaches_10 rfl fl_X4_23 rfl (rw0 hj) ?_
      refine s_icmp_gt (n := 16) (t := 30) dX4_reaches_13 (by decide) rfl (fun h13 => ?_) (fun h13 => ?_)
      · refine s_iconst (v := 0) (n := 31) dX4_reaches_30 rfl (by decide) ?_
        refine s_ireturn dX4_reaches_31 rfl (by decide +kernel) ?_
        first | exact k1 ⟨h1, h5, h13, h23⟩ | exact k0 (fun q => q.1 h1) | exact k0 (fun q => q.2.1 h5) | exact k0 (fun q => q.2.2.1 h13) | exact k0 (fun q => q.2.2.2 h23)
      · refine s_iload_n (n := 17) dX4_reaches_16 rfl rfl rfl ?_
        refine s_aload_n (n := 18) dX4_reaches_17 rfl rfl rfl ?_
        refine s_geti (n := 21) dX4_reaches_18 rfl fl_X4_23 rfl (rw0 hj) ?_
        refine s_iload_n (n := 22) dX4_reaches_21 rfl rfl rfl ?_
        refine s_isub (n := 23) dX4_reaches_22 rfl ?_
        refine s_icmp_gt (n := 26) (t := 30) dX4_reaches_23 (by decide) rfl (fun h23 => ?_) (fun h23 => ?_)
        · refine s_iconst (v := 0) (n := 31) dX4_reaches_30 rfl (by decide) ?_
          refine s_ireturn dX4_reaches_31 rfl (by decide +kernel) ?_
          first | exact k1 ⟨h1, h5, h13, h23⟩ | exact k0 (fun q => q.1 h1) | exact k0 (fun q => q.2.1 h5) | exact k0 (fun q => q.2.2.1 h13) | exact k0 (fun q => q.2.2.2 h23)
        · refine s_iconst (v := 1) (n := 27) dX4_reaches_26 rfl (by decide) ?_
          refine s_goto (t := 31) dX4_reaches_27 (by decide) ?_
          refine s_ireturn dX4_reaches_31 rfl (by decide +kernel) ?_
          first | exact k1 ⟨h1, h5, h13, h23⟩ | exact k0 (fun q => q.1 h1) | exact k0 (fun q => q.2.1 h5) | exact k0 (fun q => q.2.2.1 h13) | exact k0 (fun q => q.2.2.2 h23)
theorem c_X4_cut {SL : Nat} {d : Nat} {Q : Option Int32 → m_G → Prop} {g : m_G} {j : Nat} (hj : j < 8) (x : Int32) (hQ : Q (some (sp_cut (g (2 + j) 2) x)) g) : Sim SL d yX4_cut cX4_cut 2 (some .int) 0 [.ref (2 + j), .int x] [] g Q := by
  refine s_aload_n (n := 1) dX4_cut_0 rfl rfl rfl ?_
  refine s_geti (n := 4) dX4_cut_1 rfl fl_X4_19 rfl (rw0 hj) ?_
  refine s_if_ne (n := 7) (t := 10) dX4_cut_4 (by decide) rfl (fun h4 => ?_) (fun h4 => ?_)
  · refine s_aload_n (n := 11) dX4_cut_10 rfl rfl rfl ?_
    refine s_geti (n := 14) dX4_cut_11 rfl fl_X4_19 rfl (rw0 hj) ?_
    refine s_iconst (v := 1) (n := 15) dX4_cut_14 rfl (by decide) ?_
    refine s_icmp_ne (n := 18) (t := 23) dX4_cut_15 (by decide) rfl (fun h15 => ?_) (fun h15 => ?_)
    · refine s_iload_n (n := 24) dX4_cut_23 rfl rfl rfl ?_
      refine s_ireturn dX4_cut_24 rfl rfl ?_
      simpa only [if_neg h4, if_neg h15, sp_cut] using hQ
    · refine s_iload_n (n := 19) dX4_cut_18 rfl rfl rfl ?_
      refine s_i2s (n := 20) dX4_cut_19 rfl ?_
      refine s_goto (t := 24) dX4_cut_20 (by decide) ?_
      refine s_ireturn dX4_cut_24 rfl rfl ?_
      simpa only [if_neg h4, if_pos h15, sp_cut] using hQ
  · refine s_iload_n (n := 8) dX4_cut_7 rfl rfl rfl ?_
    refine s_i2b (n := 9) dX4_cut_8 rfl ?_
    refine s_ireturn dX4_cut_9 rfl rfl ?_
    simpa only [if_pos h4, sp_cut] using hQ
theorem c_X9_narrow {SL : Nat} {d : Nat} {Q : Option Int32 → m_G → Prop} {g : m_G} (x l : Int32) (hQ : Q (some (sp_cut l x)) g) : Sim SL d yX9_narrow cX9_narrow 2 (some .int) 0 [.int x, .int l] [] g Q := by
  refine s_iload_n (n := 1) dX9_narrow_0 rfl rfl rfl ?_
  refine s_if_ne (n := 4) (t := 9) dX9_narrow_1 (by decide) rfl (fun h1 => ?_) (fun h1 => ?_)
  · refine s_iload_n (n := 10) dX9_narrow_9 rfl rfl rfl ?_
    refine s_iconst (v := 1) (n := 11) dX9_narrow_10 rfl (by decide) ?_
    refine s_icmp_ne (n := 14) (t := 19) dX9_narrow_11 (by decide) rfl (fun h11 => ?_) (fun h11 => ?_)
    · refine s_iload_n (n := 20) dX9_narrow_19 rfl rfl rfl ?_
      refine s_ireturn dX9_narrow_20 rfl rfl ?_
      simpa only [if_neg h1, if_neg h11, sp_cut] using hQ
    · refine s_iload_n (n := 15) dX9_narrow_14 rfl rfl rfl ?_
      refine s_i2s (n := 16) dX9_narrow_15 rfl ?_
      refine s_goto (t := 20) dX9_narrow_16 (by decide) ?_
      refine s_ireturn dX9_narrow_20 rfl rfl ?_
      simpa only [if_neg h1, if_pos h11, sp_cut] using hQ
  · refine s_iload_n (n := 5) dX9_narrow_4 rfl rfl rfl ?_
    refine s_i2b (n := 6) dX9_narrow_5 rfl ?_
    refine s_goto (t := 20) dX9_narrow_6 (by decide) ?_
    refine s_ireturn dX9_narrow_20 rfl rfl ?_
    simpa only [if_pos h1, sp_cut] using hQ
theorem C_row {SL : Nat} {d : Nat} {Q : Option Int32 → m_G → Prop} {g : m_G} {a : a_S} (hA : a_OK a) (hC : C_R g a) (r l n : Int32) (hQ : E_C g a Q (sp_row a r l n)) : Sim SL (d + 3) yX8_row cX8_row 4 (some .int) 0 [.ref 0, .int r, .int l, .int n] [] g Q := by
  unfold E_C sp_row at hQ
  refine s_iload_n (n := 1) dX8_row_0 rfl rfl rfl ?_
  refine s_cs1 (n := 4) dX8_row_1 rfl mo_X8_isRow ml_X8_58 rfl (Nat.le_of_ble_eq_true rfl) (Nat.le_of_ble_eq_true rfl) (c_X8_isRow _ (fun hb1 => ?_) (fun hb1 => ?_))
  · dsimp only [m_push]
    refine s_if_eq (n := 7) (t := 22) dX8_row_4 (by decide) rfl (fun h => absurd h (by decide)) (fun _ => ?_)
    refine s_iload_n (n := 8) dX8_row_7 rfl rfl rfl ?_
    refine s_iconst (v := 0) (n := 9) dX8_row_8 rfl (by decide) ?_
    refine s_iconst (v := 2) (n := 10) dX8_row_9 rfl (by decide) ?_
    refine s_cs3 (n := 13) dX8_row_10 rfl mo_X8_within ml_X8_62 rfl (Nat.le_of_ble_eq_true rfl) (Nat.le_of_ble_eq_true rfl) (c_X8_within _ _ _ (fun hb10 => ?_) (fun hb10 => ?_))
    · dsimp only [m_push]
      refine s_if_eq (n := 16) (t := 22) dX8_row_13 (by decide) rfl (fun h => absurd h (by decide)) (fun _ => ?_)
      refine s_iload_n (n := 17) dX8_row_16 rfl rfl rfl ?_
      refine s_bipush (v := 40) (n := 19) dX8_row_17 rfl (by decide) ?_
      refine s_icmp_le (n := 22) (t := 25) dX8_row_19 (by decide) rfl (fun h19 => ?_) (fun h19 => ?_)
      · refine s_iload_n (n := 26) dX8_row_25 rfl rfl rfl ?_
        refine s_if_ge (n := 29) (t := 35) dX8_row_26 (by decide) rfl (fun h26 => ?_) (fun h26 => ?_)
        · obtain ⟨j, hj, rfl⟩ := wn_ex (n := 7) hb1 rfl
          replace hj : j < 8 := by omega
          obtain ⟨z, hz, rfl⟩ := wn_ex (x := n) (M := 40) (n := 40) ⟨Int32.not_lt.mpr h26, Int32.not_lt.mpr h19⟩ rfl
          refine s_aload_n (n := 36) dX8_row_35 rfl rfl rfl ?_
          refine s_getr (k2 := 1) (n := 39) dX8_row_36 rfl fl_X8_11 rfl rfl rfl ?_
          refine s_iload_n (n := 40) dX8_row_39 rfl rfl rfl ?_
          refine s_aaload (k2 := 2 + j) (t := 1) j (n := 41) dX8_row_40 rfl rfl (by decide) rfl hj rfl ?_
          refine s_iload_n (n := 42) dX8_row_41 rfl rfl rfl ?_
          refine s_iload_n (n := 43) dX8_row_42 rfl rfl rfl ?_
          refine s_cv2 (n := 46) dX8_row_43 rfl mo_X4_begin ml_X8_71 (rw0 hj) (by decide) rfl rfl (Nat.le_of_ble_eq_true rfl) (Nat.le_of_ble_eq_true rfl) (c_X4_begin hj _ _ (fun g2 hf v1 v2 v3 v4 => ?_))
          dsimp only [m_push]
          refine s_aload_n (n := 47) dX8_row_46 rfl rfl rfl ?_
          refine s_iload_n (n := 48) dX8_row_47 rfl rfl rfl ?_
          refine s_cv1 (n := 51) dX8_row_48 rfl mo_X8_fine ml_X8_75 rfl (by decide) rfl rfl (Nat.le_of_ble_eq_true rfl) (Nat.le_of_ble_eq_true rfl) (c_X8_fine _ ?_)
          dsimp only [m_push]
          refine s_ireturn dX8_row_51 rfl rfl ?_
          simp only [if_pos hb1, if_pos hb10, if_pos h19, if_pos h26, nI_clamp (show j < 2 ^ 31 by omega), nI_clamp (show z < 2 ^ 31 by omega)] at hQ
          refine hQ _ ((hC.row hj hf ?_).find 0) ((hf.FC (by simp; omega)).tr (fun k hk => m_up_o (by omega)))
          exact ⟨v1, v2, v3, hz, v4⟩
        · refine s_aload_n (n := 30) dX8_row_29 rfl rfl rfl ?_
          refine s_iconst (v := 4) (n := 31) dX8_row_30 rfl (by decide) ?_
          refine s_cv1 (n := 34) dX8_row_31 rfl mo_X8_found ml_X8_67 rfl (by decide) rfl rfl (Nat.le_of_ble_eq_true rfl) (Nat.le_of_ble_eq_true rfl) (c_X8_found _ ?_)
          dsimp only [m_push]
          refine s_ireturn dX8_row_34 rfl rfl ?_
          simp only [if_pos hb1, if_pos hb10, if_pos h19, if_neg h26] at hQ
          rw [show (-1000010 : Int32) - 4 = -1000014 from by decide]
          exact hQ _ (hC.find _) (fun k hk => m_up_o (by omega))
      · skip
        refine s_ldc (n := 24) dX8_row_22 rfl kc_X8_66 ?_
        refine s_ireturn dX8_row_24 rfl rfl ?_
        simp only [if_pos hb1, if_pos hb10, if_neg h19] at hQ
        exact hQ g hC F_C.rf
    · dsimp only [m_push]
      refine s_if_eq (n := 16) (t := 22) dX8_row_13 (by decide) rfl (fun _ => ?_) (fun h => absurd h (by decide))
      skip
      refine s_ldc (n := 24) dX8_row_22 rfl kc_X8_66 ?_
      refine s_ireturn dX8_row_24 rfl rfl ?_
      simp only [if_pos hb1, if_neg hb10] at hQ
      exact hQ g hC F_C.rf
  · dsimp only [m_push]
    refine s_if_eq (n := 7) (t := 22) dX8_row_4 (by decide) rfl (fun _ => ?_) (fun h => absurd h (by decide))
    skip
    refine s_ldc (n := 24) dX8_row_22 rfl kc_X8_66 ?_
    refine s_ireturn dX8_row_24 rfl rfl ?_
    simp only [if_neg hb1] at hQ
    exact hQ g hC F_C.rf
theorem C_set {SL : Nat} {d : Nat} {Q : Option Int32 → m_G → Prop} {g : m_G} {a : a_S} (hA : a_OK a) (hC : C_R g a) (r i v : Int32) (hQ : E_C g a Q (sp_set a r i v)) : Sim SL (d + 2) yX8_set cX8_set 5 (some .int) 0 [.ref 0, .int r, .int i, .int v, .null] [] g Q := by
  unfold E_C sp_set at hQ
  refine s_iload_n (n := 1) dX8_set_0 rfl rfl rfl ?_
  refine s_cs1 (n := 4) dX8_set_1 rfl mo_X8_isRow ml_X8_58 rfl (Nat.le_of_ble_eq_true rfl) (Nat.le_of_ble_eq_true rfl) (c_X8_isRow _ (fun hb1 => ?_) (fun hb1 => ?_))
  · dsimp only [m_push]
    refine s_if_ne (n := 7) (t := 10) dX8_set_4 (by decide) rfl (fun _ => ?_) (fun h => absurd h (by decide))
    obtain ⟨j, hj, rfl⟩ := wn_ex (n := 7) hb1 rfl
    replace hj : j < 8 := by omega
    have hw := hC.1 j hj
    simp only [if_pos hb1, nI_clamp (show j < 2 ^ 31 by omega)] at hQ
    generalize hx : a_rows a j = x at hQ hw
    refine s_aload_n (n := 11) dX8_set_10 rfl rfl rfl ?_
    refine s_getr (k2 := 1) (n := 14) dX8_set_11 rfl fl_X8_11 rfl rfl rfl ?_
    refine s_iload_n (n := 15) dX8_set_14 rfl rfl rfl ?_
    refine s_aaload (k2 := 2 + j) (t := 1) j (n := 16) dX8_set_15 rfl rfl (by decide) rfl hj rfl ?_
    refine s_astore (n := 18) dX8_set_16 rfl (by decide) rfl rfl ?_
    refine s_aload (n := 20) dX8_set_18 rfl rfl ?_
    refine s_geti (n := 23) dX8_set_20 rfl fl_X8_78 rfl (rw0 hj) ?_
    refine s_if_eq (n := 26) (t := 32) dX8_set_23 (by decide) rfl (fun h23 => ?_) (fun h23 => ?_)
    · refine s_aload (n := 34) dX8_set_32 rfl rfl ?_
      refine s_iload_n (n := 35) dX8_set_34 rfl rfl rfl ?_
      refine s_iconst (v := 1) (n := 36) dX8_set_35 rfl (by decide) ?_
      refine s_cv2 (n := 39) dX8_set_36 rfl mo_X4_reaches ml_X8_82 (rw0 hj) (by decide) rfl rfl (Nat.le_of_ble_eq_true rfl) (Nat.le_of_ble_eq_true rfl) (c_X4_reaches hj _ _ (fun hb36 => ?_) (fun hb36 => ?_))
      · dsimp only [m_push]
        refine s_if_ne (n := 42) (t := 48) dX8_set_39 (by decide) rfl (fun _ => ?_) (fun h => absurd h (by decide))
        obtain ⟨q, rfl⟩ : ∃ q, x = some q := by
          cases x with
          | none => exact absurd (show g (2 + j) 1 = 1 from hw) (by rw [h23]; decide)
          | some q => exact ⟨q, rfl⟩
        obtain ⟨w1, w2, w3, w4, w5⟩ := hw
        rw [w3] at hb36
        obtain ⟨ii, hii, rfl⟩ := nI_of hb36.1
        have hlt : ii < q.2.1 := by
          have h9 := hb36.2.2.2
          have h8 := hb36.2.2.1
          rw [i32_lt, nI_toInt (by omega)] at h8 h9
          rw [Int32.toInt_sub, nI_toInt (by omega)] at h9
          have := ti1
          simp only [Int.bmod_def] at h9
          omega
        refine s_aload (n := 50) dX8_set_48 rfl rfl ?_
        refine s_getr (k2 := 2 + j + 8) (n := 53) dX8_set_50 rfl fl_X8_86 rfl (rw0 hj) rfl ?_
        refine s_iload_n (n := 54) dX8_set_53 rfl rfl rfl ?_
        refine s_aload (n := 56) dX8_set_54 rfl rfl ?_
        refine s_iload_n (n := 57) dX8_set_56 rfl rfl rfl ?_
        refine s_cv1 (n := 60) dX8_set_57 rfl mo_X4_cut ml_X8_90 (rw0 hj) (by decide) rfl rfl (Nat.le_of_ble_eq_true rfl) (Nat.le_of_ble_eq_true rfl) (c_X4_cut hj _ ?_)
        dsimp only [m_push]
        refine s_iastore ii (n := 61) dX8_set_60 rfl (rw8 hj) rfl (by omega) ?_
        refine s_aload_n (n := 62) dX8_set_61 rfl rfl rfl ?_
        refine s_aload (n := 64) dX8_set_62 rfl rfl ?_
        refine s_getr (k2 := 2 + j + 8) (n := 67) dX8_set_64 rfl fl_X8_86 rfl (rw0 hj) rfl ?_
        refine s_iload_n (n := 68) dX8_set_67 rfl rfl rfl ?_
        refine s_iaload ii (n := 69) dX8_set_68 rfl (rw8 hj) rfl (by omega) ?_
        refine s_cv1 (n := 72) dX8_set_69 rfl mo_X8_fine ml_X8_75 rfl (by decide) rfl rfl (Nat.le_of_ble_eq_true rfl) (Nat.le_of_ble_eq_true rfl) (c_X8_fine _ ?_)
        dsimp only [m_push]
        refine s_ireturn dX8_set_72 rfl rfl ?_
        dsimp only at hQ
        rw [if_pos hb36, nI_clamp (show ii < 2 ^ 31 by omega)] at hQ
        rw [m_up_k, if_pos rfl, w2]
        have hf : m_fr [2 + j, 10 + j] g (m_up g (2 + j + 8) ii (sp_cut q.1 v)) := m_fr.up (by simp; omega)
        refine hQ _ ((hC.row hj hf ?_).find 0) ((hf.FC (by simp; omega)).tr (fun k hk => m_up_o (by omega)))
        have e : (2 + j) ≠ 2 + j + 8 := by omega
        refine ⟨?_, ?_, ?_, w4, ?_⟩
        · rw [m_up_o e]; exact w1
        · rw [m_up_o e]; exact w2
        · rw [m_up_o e]; exact w3
        · intro i hi
          rw [show 10 + j = 2 + j + 8 by omega, m_up_k]
          dsimp only [upd]
          split
          · rfl
          · rw [show 2 + j + 8 = 10 + j by omega]; exact w5 i hi
      · dsimp only [m_push]
        refine s_if_ne (n := 42) (t := 48) dX8_set_39 (by decide) rfl (fun h => absurd h (by decide)) (fun _ => ?_)
        refine s_aload_n (n := 43) dX8_set_42 rfl rfl rfl ?_
        refine s_iconst (v := 2) (n := 44) dX8_set_43 rfl (by decide) ?_
        refine s_cv1 (n := 47) dX8_set_44 rfl mo_X8_found ml_X8_67 rfl (by decide) rfl rfl (Nat.le_of_ble_eq_true rfl) (Nat.le_of_ble_eq_true rfl) (c_X8_found _ ?_)
        dsimp only [m_push]
        refine s_ireturn dX8_set_47 rfl rfl ?_
        cases x with
        | none => exact absurd (show g (2 + j) 1 = 1 from hw) (by rw [h23]; decide)
        | some q =>
          dsimp only at hQ
          rw [hw.2.2.1] at hb36
          rw [if_neg hb36] at hQ
          rw [show (-1000010 : Int32) - 2 = -1000012 from by decide]
          exact hQ _ (hC.find _) (fun k hk => m_up_o (by omega))
    · refine s_aload_n (n := 27) dX8_set_26 rfl rfl rfl ?_
      refine s_iconst (v := 1) (n := 28) dX8_set_27 rfl (by decide) ?_
      refine s_cv1 (n := 31) dX8_set_28 rfl mo_X8_found ml_X8_67 rfl (by decide) rfl rfl (Nat.le_of_ble_eq_true rfl) (Nat.le_of_ble_eq_true rfl) (c_X8_found _ ?_)
      dsimp only [m_push]
      refine s_ireturn dX8_set_31 rfl rfl ?_
      cases x with
      | none =>
        dsimp only at hQ
        rw [show (-1000010 : Int32) - 1 = -1000011 from by decide]
        exact hQ _ (hC.find _) (fun k hk => m_up_o (by omega))
      | some q => exact absurd hw.1 h23
  · dsimp only [m_push]
    refine s_if_ne (n := 7) (t := 10) dX8_set_4 (by decide) rfl (fun h => absurd h (by decide)) (fun _ => ?_)
    refine s_ldc (n := 9) dX8_set_7 rfl kc_X8_66 ?_
    refine s_ireturn dX8_set_9 rfl rfl ?_
    simp only [if_neg hb1] at hQ
    exact hQ g hC F_C.rf
theorem C_drop {SL : Nat} {d : Nat} {Q : Option Int32 → m_G → Prop} {g : m_G} {a : a_S} (hA : a_OK a) (hC : C_R g a) (r : Int32) (hQ : E_C g a Q (sp_drop a r)) : Sim SL (d + 2) yX8_drop cX8_drop 3 (some .int) 0 [.ref 0, .int r, .null] [] g Q := by
  unfold E_C sp_drop at hQ
  refine s_iload_n (n := 1) dX8_drop_0 rfl rfl rfl ?_
  refine s_cs1 (n := 4) dX8_drop_1 rfl mo_X8_isRow ml_X8_58 rfl (Nat.le_of_ble_eq_true rfl) (Nat.le_of_ble_eq_true rfl) (c_X8_isRow _ (fun hb1 => ?_) (fun hb1 => ?_))
  · dsimp only [m_push]
    refine s_if_ne (n := 7) (t := 10) dX8_drop_4 (by decide) rfl (fun _ => ?_) (fun h => absurd h (by decide))
    obtain ⟨j, hj, rfl⟩ := wn_ex (n := 7) hb1 rfl
    replace hj : j < 8 := by omega
    have hw := hC.1 j hj
    simp only [if_pos hb1, nI_clamp (show j < 2 ^ 31 by omega)] at hQ
    generalize hx : a_rows a j = x at hQ hw
    refine s_aload_n (n := 11) dX8_drop_10 rfl rfl rfl ?_
    refine s_getr (k2 := 1) (n := 14) dX8_drop_11 rfl fl_X8_11 rfl rfl rfl ?_
    refine s_iload_n (n := 15) dX8_drop_14 rfl rfl rfl ?_
    refine s_aaload (k2 := 2 + j) (t := 1) j (n := 16) dX8_drop_15 rfl rfl (by decide) rfl hj rfl ?_
    refine s_astore_n (n := 17) dX8_drop_16 rfl rfl (by decide) rfl rfl ?_
    refine s_aload_n (n := 18) dX8_drop_17 rfl rfl rfl ?_
    refine s_geti (n := 21) dX8_drop_18 rfl fl_X8_78 rfl (rw0 hj) ?_
    refine s_if_eq (n := 24) (t := 30) dX8_drop_21 (by decide) rfl (fun h21 => ?_) (fun h21 => ?_)
    · refine s_aload_n (n := 31) dX8_drop_30 rfl rfl rfl ?_
      refine s_iconst (v := 1) (n := 32) dX8_drop_31 rfl (by decide) ?_
      refine s_putz (n := 35) dX8_drop_32 rfl fl_X8_78 rfl rfl (by decide) (rw0 hj) ?_
      refine s_aload_n (n := 36) dX8_drop_35 rfl rfl rfl ?_
      refine s_aload_n (n := 37) dX8_drop_36 rfl rfl rfl ?_
      refine s_geti (n := 40) dX8_drop_37 rfl fl_X8_103 rfl (rw0 hj) ?_
      refine s_cv1 (n := 43) dX8_drop_40 rfl mo_X8_fine ml_X8_75 rfl (by decide) rfl rfl (Nat.le_of_ble_eq_true rfl) (Nat.le_of_ble_eq_true rfl) (c_X8_fine _ ?_)
      dsimp only [m_push]
      refine s_ireturn dX8_drop_43 rfl rfl ?_
      cases x with
      | none => exact absurd (show g (2 + j) 1 = 1 from hw) (by rw [h21]; decide)
      | some q =>
        dsimp only at hQ
        rw [m_up_k, if_neg (by decide), hw.2.2.1]
        have hf : m_fr [2 + j, 10 + j] g (m_up g (2 + j) 1 1) := m_fr.up (by simp)
        refine hQ _ ((hC.row hj hf ?_).find 0) ((hf.FC (by simp; omega)).tr (fun k hk => m_up_o (by omega)))
        show (m_up g (2 + j) 1 1) (2 + j) 1 = 1
        rw [m_up_k, if_pos rfl]
    · refine s_aload_n (n := 25) dX8_drop_24 rfl rfl rfl ?_
      refine s_iconst (v := 1) (n := 26) dX8_drop_25 rfl (by decide) ?_
      refine s_cv1 (n := 29) dX8_drop_26 rfl mo_X8_found ml_X8_67 rfl (by decide) rfl rfl (Nat.le_of_ble_eq_true rfl) (Nat.le_of_ble_eq_true rfl) (c_X8_found _ ?_)
      dsimp only [m_push]
      refine s_ireturn dX8_drop_29 rfl rfl ?_
      cases x with
      | none =>
        dsimp only at hQ
        rw [show (-1000010 : Int32) - 1 = -1000011 from by decide]
        exact hQ _ (hC.find _) (fun k hk => m_up_o (by omega))
      | some q => exact absurd hw.1 h21
  · dsimp only [m_push]
    refine s_if_ne (n := 7) (t := 10) dX8_drop_4 (by decide) rfl (fun h => absurd h (by decide)) (fun _ => ?_)
    refine s_ldc (n := 9) dX8_drop_7 rfl kc_X8_66 ?_
    refine s_ireturn dX8_drop_9 rfl rfl ?_
    simp only [if_neg hb1] at hQ
    exact hQ g hC F_C.rf
theorem ix40 {j i : Nat} : (40 : Int32) * nI j + nI i = nI (40 * j + i) := by rw [show (40 : Int32) = nI 40 from rfl, pk_mul, nI_add]
theorem lp_X9_row {SL d : Nat} {Q : Option Int32 → m_G → Prop} {j : Nat} (hj : j < 8) (x y : Int32) : ∀ (n i : Nat) (g : m_G), i + n = 40 → (∀ q, q < i → g 83 (40 * j + q) = 0) → (∀ g2, m_fr [83] g g2 → (∀ q, (q < 40 * j ∨ 40 * j + 40 ≤ q) → g2 83 q = g 83 q) → (∀ q, q < 40 → g2 83 (40 * j + q) = 0) → Sim SL d yX9_row cX9_row 5 (some .int) 81 [.ref 78, .int (nI j), .int x, .int y, .int 40] [] g2 Q) → Sim SL d yX9_row cX9_row 5 (some .int) 55 [.ref 78, .int (nI j), .int x, .int y, .int (nI i)] [] g Q := by
  intro n
  induction n with
  | zero =>
    intro i g hin r6 hQ
    have hi : i = 40 := by omega
    subst hi
    refine s_iload (n := 57) dX9_row_55 rfl rfl ?_
    refine s_bipush (v := 40) (n := 59) dX9_row_57 rfl (by decide) ?_
    refine s_icmp_ge (n := 62) (t := 81) dX9_row_59 (by decide) rfl (fun h59 => ?_) (fun h59 => ?_)
    · exact hQ g m_fr.rf (fun _ _ => rfl) r6
    · exact absurd (by decide) h59
  | succ n ih =>
    intro i g hin r6 hQ
    have hi : i < 40 := by omega
    refine s_iload (n := 57) dX9_row_55 rfl rfl ?_
    refine s_bipush (v := 40) (n := 59) dX9_row_57 rfl (by decide) ?_
    refine s_icmp_ge (n := 62) (t := 81) dX9_row_59 (by decide) rfl (fun h59 => ?_) (fun h59 => ?_)
    · exact absurd h59 (nI_ge hi (by decide))
    · refine s_aload_n (n := 63) dX9_row_62 rfl rfl rfl ?_
      refine s_getr (k2 := 83) (n := 66) dX9_row_63 rfl fl_X9_23 rfl rfl rfl ?_
      refine s_bipush (v := 40) (n := 68) dX9_row_66 rfl (by decide) ?_
      refine s_iload_n (n := 69) dX9_row_68 rfl rfl rfl ?_
      refine s_imul (n := 70) dX9_row_69 rfl ?_
      refine s_iload (n := 72) dX9_row_70 rfl rfl ?_
      refine s_iadd (n := 73) dX9_row_72 rfl ?_
      refine s_iconst (v := 0) (n := 74) dX9_row_73 rfl (by decide) ?_
      refine s_iastore (40 * j + i) (n := 75) dX9_row_74 rfl rfl ix40 (by omega) ?_
      refine s_iinc (n := 78) (v := nI (i + 1)) dX9_row_75 rfl (by decide) rfl rfl (nI_1 i) rfl ?_
      refine s_goto (t := 55) dX9_row_78 (by decide) ?_
      refine ih (i + 1) _ (by omega) ?_ (fun g2 hf hn h0 => hQ g2 ((m_fr.up (by simp)).tr hf) (fun q hq => ?_) h0)
      · intro q hq
        rw [m_up_k]
        split
        · rfl
        · exact r6 q (by omega)
      · rw [hn q hq, m_up_k, if_neg (by omega)]
theorem M_row {SL : Nat} {d : Nat} {Q : Option Int32 → m_G → Prop} {g : m_G} {a : a_S} (hA : a_OK a) (hM : M_R g a) (r l n : Int32) (hQ : E_M g a Q (sp_row a r l n)) : Sim SL (d + 3) yX9_row cX9_row 5 (some .int) 0 [.ref 78, .int r, .int l, .int n, .null] [] g Q := by
  unfold E_M sp_row at hQ
  refine s_iload_n (n := 1) dX9_row_0 rfl rfl rfl ?_
  refine s_cs1 (n := 4) dX9_row_1 rfl mo_X9_isRow ml_X9_64 rfl (Nat.le_of_ble_eq_true rfl) (Nat.le_of_ble_eq_true rfl) (c_X9_isRow _ (fun hb1 => ?_) (fun hb1 => ?_))
  · dsimp only [m_push]
    refine s_if_eq (n := 7) (t := 25) dX9_row_4 (by decide) rfl (fun h => absurd h (by decide)) (fun _ => ?_)
    refine s_iload_n (n := 8) dX9_row_7 rfl rfl rfl ?_
    refine s_i2l (n := 9) dX9_row_8 rfl ?_
    refine s_lconst (v := 0) (n := 10) dX9_row_9 rfl (by decide) ?_
    refine s_ldc2 (n := 13) dX9_row_10 rfl kc_X9_68 ?_
    refine s_cs3 (n := 16) dX9_row_13 rfl mo_X9_in ml_X9_60 rfl (Nat.le_of_ble_eq_true rfl) (Nat.le_of_ble_eq_true rfl) (c_X9_in (0) (2) rfl (by decide) (by decide) (fun hb13 => ?_) (fun hb13 => ?_))
    · dsimp only [m_push]
      refine s_if_eq (n := 19) (t := 25) dX9_row_16 (by decide) rfl (fun h => absurd h (by decide)) (fun _ => ?_)
      refine s_iload_n (n := 20) dX9_row_19 rfl rfl rfl ?_
      refine s_bipush (v := 40) (n := 22) dX9_row_20 rfl (by decide) ?_
      refine s_icmp_le (n := 25) (t := 28) dX9_row_22 (by decide) rfl (fun h22 => ?_) (fun h22 => ?_)
      · refine s_iload_n (n := 29) dX9_row_28 rfl rfl rfl ?_
        refine s_if_ge (n := 32) (t := 38) dX9_row_29 (by decide) rfl (fun h29 => ?_) (fun h29 => ?_)
        · obtain ⟨j, hj, rfl⟩ := wn_ex (n := 7) hb1 rfl
          replace hj : j < 8 := by omega
          obtain ⟨z, hz, rfl⟩ := wn_ex (x := n) (M := 40) (n := 40) ⟨Int32.not_lt.mpr h29, Int32.not_lt.mpr h22⟩ rfl
          refine s_aload_n (n := 39) dX9_row_38 rfl rfl rfl ?_
          refine s_getr (k2 := 81) (n := 42) dX9_row_39 rfl fl_X9_17 rfl rfl rfl ?_
          refine s_iload_n (n := 43) dX9_row_42 rfl rfl rfl ?_
          refine s_iload_n (n := 44) dX9_row_43 rfl rfl rfl ?_
          refine s_iastore j (n := 45) dX9_row_44 rfl rfl rfl hj ?_
          refine s_aload_n (n := 46) dX9_row_45 rfl rfl rfl ?_
          refine s_getr (k2 := 82) (n := 49) dX9_row_46 rfl fl_X9_20 rfl rfl rfl ?_
          refine s_iload_n (n := 50) dX9_row_49 rfl rfl rfl ?_
          refine s_iload_n (n := 51) dX9_row_50 rfl rfl rfl ?_
          refine s_iastore j (n := 52) dX9_row_51 rfl rfl rfl hj ?_
          refine s_iconst (v := 0) (n := 53) dX9_row_52 rfl (by decide) ?_
          refine s_istore (n := 55) dX9_row_53 rfl (by decide) rfl rfl ?_
          refine lp_X9_row hj _ _ 40 0 _ rfl (fun q hq => absurd hq (by omega)) (fun g2 hf hn h0 => ?_)
          refine s_aload_n (n := 82) dX9_row_81 rfl rfl rfl ?_
          refine s_iload_n (n := 83) dX9_row_82 rfl rfl rfl ?_
          refine s_cv1 (n := 86) dX9_row_83 rfl mo_X9_well ml_X9_75 rfl (by decide) rfl rfl (Nat.le_of_ble_eq_true rfl) (Nat.le_of_ble_eq_true rfl) (c_X9_well _ ?_)
          dsimp only [m_push]
          refine s_ireturn dX9_row_86 rfl rfl ?_
          simp only [if_pos hb1, if_pos hb13, if_pos h22, if_pos h29, nI_clamp (show j < 2 ^ 31 by omega), nI_clamp (show z < 2 ^ 31 by omega)] at hQ
          have e81 : g2 81 = upd (g 81) j l := by rw [hf 81 (by decide), m_up_o (by decide)]; simp [m_up, m_ur]
          have e82 : g2 82 = upd (g 82) j (nI z) := by rw [hf 82 (by decide)]; simp [m_up, m_ur]
          have hf2 : m_fr [81, 82, 83] g g2 := ((m_fr.rf.up2 (by simp)).up2 (by simp)).tr (hf.mono (by simp))
          refine hQ _ ((hM.row hj hf2 ?_ ?_).find 0) ((hf2.FM (by decide)).tr ((m_fr.up (S := [78]) (by simp)).FM (by decide)))
          · intro r hr
            rw [e81, e82]
            refine ⟨by simp [upd, hr], by simp [upd, hr], fun i hi => ?_⟩
            rw [hn _ (by omega), m_up_o (by decide), m_up_o (by decide)]
          · refine ⟨by rw [e82]; simp [upd], by rw [e81]; simp [upd], hz, h0⟩
        · refine s_aload_n (n := 33) dX9_row_32 rfl rfl rfl ?_
          refine s_iconst (v := 4) (n := 34) dX9_row_33 rfl (by decide) ?_
          refine s_cv1 (n := 37) dX9_row_34 rfl mo_X9_find ml_X9_71 rfl (by decide) rfl rfl (Nat.le_of_ble_eq_true rfl) (Nat.le_of_ble_eq_true rfl) (c_X9_find _ ?_)
          dsimp only [m_push]
          refine s_ireturn dX9_row_37 rfl rfl ?_
          simp only [if_pos hb1, if_pos hb13, if_pos h22, if_neg h29] at hQ
          rw [show (-1000010 : Int32) - 4 = -1000014 from by decide]
          exact hQ _ (hM.find _) ((m_fr.up (S := [78]) (by simp)).FM (by decide))
      · refine s_ldc (n := 27) dX9_row_25 rfl kc_X9_70 ?_
        refine s_ireturn dX9_row_27 rfl rfl ?_
        simp only [if_pos hb1, if_pos hb13, if_neg h22] at hQ
        exact hQ g hM F_M.rf
    · dsimp only [m_push]
      refine s_if_eq (n := 19) (t := 25) dX9_row_16 (by decide) rfl (fun _ => ?_) (fun h => absurd h (by decide))
      refine s_ldc (n := 27) dX9_row_25 rfl kc_X9_70 ?_
      refine s_ireturn dX9_row_27 rfl rfl ?_
      simp only [if_pos hb1, if_neg hb13] at hQ
      exact hQ g hM F_M.rf
  · dsimp only [m_push]
    refine s_if_eq (n := 7) (t := 25) dX9_row_4 (by decide) rfl (fun _ => ?_) (fun h => absurd h (by decide))
    refine s_ldc (n := 27) dX9_row_25 rfl kc_X9_70 ?_
    refine s_ireturn dX9_row_27 rfl rfl ?_
    simp only [if_neg hb1] at hQ
    exact hQ g hM F_M.rf
theorem sp_rch1 {z : Nat} {i : Int32} (hz : z ≤ 40) : wn i 0 (nI z - 1) ↔ sp_rch (nI z) i 1 := by
  have h1 : (nI z - 1).toInt = (z : Int) - 1 := by
    rw [Int32.toInt_sub, nI_toInt (by omega), ti1]
    simp only [Int.bmod_def]
    omega
  have h2 := nI_toInt (n := z) (by omega)
  have h3 := ti1
  have h0 := ti0
  unfold wn sp_rch
  simp only [i32_lt, h1, h2, h3, h0]
  omega
theorem M_set {SL : Nat} {d : Nat} {Q : Option Int32 → m_G → Prop} {g : m_G} {a : a_S} (hA : a_OK a) (hM : M_R g a) (r i v : Int32) (hQ : E_M g a Q (sp_set a r i v)) : Sim SL (d + 3) yX9_set cX9_set 4 (some .int) 0 [.ref 78, .int r, .int i, .int v] [] g Q := by
  unfold E_M sp_set at hQ
  refine s_iload_n (n := 1) dX9_set_0 rfl rfl rfl ?_
  refine s_cs1 (n := 4) dX9_set_1 rfl mo_X9_isRow ml_X9_64 rfl (Nat.le_of_ble_eq_true rfl) (Nat.le_of_ble_eq_true rfl) (c_X9_isRow _ (fun hb1 => ?_) (fun hb1 => ?_))
  · dsimp only [m_push]
    refine s_if_ne (n := 7) (t := 10) dX9_set_4 (by decide) rfl (fun _ => ?_) (fun h => absurd h (by decide))
    obtain ⟨j, hj, rfl⟩ := wn_ex (n := 7) hb1 rfl
    replace hj : j < 8 := by omega
    have hw := hM.1 j hj
    simp only [if_pos hb1, nI_clamp (show j < 2 ^ 31 by omega)] at hQ
    generalize hx : a_rows a j = x at hQ hw
    refine s_aload_n (n := 11) dX9_set_10 rfl rfl rfl ?_
    refine s_getr (k2 := 82) (n := 14) dX9_set_11 rfl fl_X9_20 rfl rfl rfl ?_
    refine s_iload_n (n := 15) dX9_set_14 rfl rfl rfl ?_
    refine s_iaload j (n := 16) dX9_set_15 rfl rfl rfl hj ?_
    refine s_if_ge (n := 19) (t := 25) dX9_set_16 (by decide) rfl (fun h16 => ?_) (fun h16 => ?_)
    · obtain ⟨q, rfl⟩ : ∃ q, x = some q := by
        cases x with
        | none => exact absurd h16 (by rw [show g 82 j = -1 from hw]; decide)
        | some q => exact ⟨q, rfl⟩
      obtain ⟨w1, w2, w3, w4⟩ := hw
      dsimp only at hQ
      refine s_iload_n (n := 26) dX9_set_25 rfl rfl rfl ?_
      refine s_i2l (n := 27) dX9_set_26 rfl ?_
      refine s_lconst (v := 0) (n := 28) dX9_set_27 rfl (by decide) ?_
      refine s_aload_n (n := 29) dX9_set_28 rfl rfl rfl ?_
      refine s_getr (k2 := 82) (n := 32) dX9_set_29 rfl fl_X9_20 rfl rfl rfl ?_
      refine s_iload_n (n := 33) dX9_set_32 rfl rfl rfl ?_
      refine s_iaload j (n := 34) dX9_set_33 rfl rfl rfl hj ?_
      refine s_iconst (v := 1) (n := 35) dX9_set_34 rfl (by decide) ?_
      refine s_isub (n := 36) dX9_set_35 rfl ?_
      refine s_i2l (n := 37) dX9_set_36 rfl ?_
      refine s_cs3 (n := 40) dX9_set_37 rfl mo_X9_in ml_X9_60 rfl (Nat.le_of_ble_eq_true rfl) (Nat.le_of_ble_eq_true rfl) (c_X9_in 0 _ rfl (by decide) rfl (fun hb37 => ?_) (fun hb37 => ?_))
      · dsimp only [m_push]
        refine s_if_ne (n := 43) (t := 49) dX9_set_40 (by decide) rfl (fun _ => ?_) (fun h => absurd h (by decide))
        rw [w1, sp_rch1 w3] at hb37
        obtain ⟨ii, hii, rfl⟩ := nI_of hb37.1
        have hlt : ii < q.2.1 := by
          have h9 := (sp_rch1 w3).mpr hb37
          have h8 := h9.2
          rw [i32_lt, nI_toInt (by omega), Int32.toInt_sub, nI_toInt (by omega)] at h8
          have := ti1
          simp only [Int.bmod_def] at h8
          omega
        refine s_aload_n (n := 50) dX9_set_49 rfl rfl rfl ?_
        refine s_getr (k2 := 83) (n := 53) dX9_set_50 rfl fl_X9_23 rfl rfl rfl ?_
        refine s_bipush (v := 40) (n := 55) dX9_set_53 rfl (by decide) ?_
        refine s_iload_n (n := 56) dX9_set_55 rfl rfl rfl ?_
        refine s_imul (n := 57) dX9_set_56 rfl ?_
        refine s_iload_n (n := 58) dX9_set_57 rfl rfl rfl ?_
        refine s_iadd (n := 59) dX9_set_58 rfl ?_
        refine s_iload_n (n := 60) dX9_set_59 rfl rfl rfl ?_
        refine s_aload_n (n := 61) dX9_set_60 rfl rfl rfl ?_
        refine s_getr (k2 := 81) (n := 64) dX9_set_61 rfl fl_X9_17 rfl rfl rfl ?_
        refine s_iload_n (n := 65) dX9_set_64 rfl rfl rfl ?_
        refine s_iaload j (n := 66) dX9_set_65 rfl rfl rfl hj ?_
        refine s_cs2 (n := 69) dX9_set_66 rfl mo_X9_narrow ml_X9_78 rfl (Nat.le_of_ble_eq_true rfl) (Nat.le_of_ble_eq_true rfl) (c_X9_narrow _ _ ?_)
        dsimp only [m_push]
        refine s_iastore (40 * j + ii) (n := 70) dX9_set_69 rfl rfl ix40 (by omega) ?_
        refine s_aload_n (n := 71) dX9_set_70 rfl rfl rfl ?_
        refine s_aload_n (n := 72) dX9_set_71 rfl rfl rfl ?_
        refine s_getr (k2 := 83) (n := 75) dX9_set_72 rfl fl_X9_23 rfl rfl rfl ?_
        refine s_bipush (v := 40) (n := 77) dX9_set_75 rfl (by decide) ?_
        refine s_iload_n (n := 78) dX9_set_77 rfl rfl rfl ?_
        refine s_imul (n := 79) dX9_set_78 rfl ?_
        refine s_iload_n (n := 80) dX9_set_79 rfl rfl rfl ?_
        refine s_iadd (n := 81) dX9_set_80 rfl ?_
        refine s_iaload (40 * j + ii) (n := 82) dX9_set_81 rfl rfl ix40 (by omega) ?_
        refine s_cv1 (n := 85) dX9_set_82 rfl mo_X9_well ml_X9_75 rfl (by decide) rfl rfl (Nat.le_of_ble_eq_true rfl) (Nat.le_of_ble_eq_true rfl) (c_X9_well _ ?_)
        dsimp only [m_push]
        refine s_ireturn dX9_set_85 rfl rfl ?_
        rw [if_pos hb37, nI_clamp (show ii < 2 ^ 31 by omega)] at hQ
        rw [m_up_k, if_pos rfl, w2]
        have hf : m_fr [81, 82, 83] g (m_up g 83 (40 * j + ii) (sp_cut q.1 v)) := m_fr.up (by simp)
        refine hQ _ ((hM.row hj hf ?_ ?_).find 0) ((hf.FM (by decide)).tr ((m_fr.up (S := [78]) (by simp)).FM (by decide)))
        · intro r hr
          refine ⟨by rw [m_up_o (by decide)], by rw [m_up_o (by decide)], fun i hi => ?_⟩
          rw [m_up_k, if_neg (by omega)]
        · refine ⟨by rw [m_up_o (by decide)]; exact w1, by rw [m_up_o (by decide)]; exact w2, w3, fun i hi => ?_⟩
          rw [m_up_k]
          dsimp only [upd]
          by_cases hi2 : i = ii
          · rw [if_pos (by omega), if_pos hi2]
          · rw [if_neg (by omega), if_neg hi2]; exact w4 i hi
      · dsimp only [m_push]
        refine s_if_ne (n := 43) (t := 49) dX9_set_40 (by decide) rfl (fun h => absurd h (by decide)) (fun _ => ?_)
        refine s_aload_n (n := 44) dX9_set_43 rfl rfl rfl ?_
        refine s_iconst (v := 2) (n := 45) dX9_set_44 rfl (by decide) ?_
        refine s_cv1 (n := 48) dX9_set_45 rfl mo_X9_find ml_X9_71 rfl (by decide) rfl rfl (Nat.le_of_ble_eq_true rfl) (Nat.le_of_ble_eq_true rfl) (c_X9_find _ ?_)
        dsimp only [m_push]
        refine s_ireturn dX9_set_48 rfl rfl ?_
        rw [w1, sp_rch1 w3] at hb37
        rw [if_neg hb37] at hQ
        rw [show (-1000010 : Int32) - 2 = -1000012 from by decide]
        exact hQ _ (hM.find _) ((m_fr.up (S := [78]) (by simp)).FM (by decide))
    · refine s_aload_n (n := 20) dX9_set_19 rfl rfl rfl ?_
      refine s_iconst (v := 1) (n := 21) dX9_set_20 rfl (by decide) ?_
      refine s_cv1 (n := 24) dX9_set_21 rfl mo_X9_find ml_X9_71 rfl (by decide) rfl rfl (Nat.le_of_ble_eq_true rfl) (Nat.le_of_ble_eq_true rfl) (c_X9_find _ ?_)
      dsimp only [m_push]
      refine s_ireturn dX9_set_24 rfl rfl ?_
      cases x with
      | none =>
        dsimp only at hQ
        rw [show (-1000010 : Int32) - 1 = -1000011 from by decide]
        exact hQ _ (hM.find _) ((m_fr.up (S := [78]) (by simp)).FM (by decide))
      | some q => exact absurd (by rw [hw.1]; exact nI_pos' (by have := hw.2.2.1; omega)) h16
  · dsimp only [m_push]
    refine s_if_ne (n := 7) (t := 10) dX9_set_4 (by decide) rfl (fun h => absurd h (by decide)) (fun _ => ?_)
    refine s_ldc (n := 9) dX9_set_7 rfl kc_X9_70 ?_
    refine s_ireturn dX9_set_9 rfl rfl ?_
    simp only [if_neg hb1] at hQ
    exact hQ g hM F_M.rf
theorem M_drop {SL : Nat} {d : Nat} {Q : Option Int32 → m_G → Prop} {g : m_G} {a : a_S} (hA : a_OK a) (hM : M_R g a) (r : Int32) (hQ : E_M g a Q (sp_drop a r)) : Sim SL (d + 3) yX9_drop cX9_drop 3 (some .int) 0 [.ref 78, .int r, .null] [] g Q := by
  unfold E_M sp_drop at hQ
  refine s_iload_n (n := 1) dX9_drop_0 rfl rfl rfl ?_
  refine s_cs1 (n := 4) dX9_drop_1 rfl mo_X9_isRow ml_X9_64 rfl (Nat.le_of_ble_eq_true rfl) (Nat.le_of_ble_eq_true rfl) (c_X9_isRow _ (fun hb1 => ?_) (fun hb1 => ?_))
  · dsimp only [m_push]
    refine s_if_ne (n := 7) (t := 10) dX9_drop_4 (by decide) rfl (fun _ => ?_) (fun h => absurd h (by decide))
    obtain ⟨j, hj, rfl⟩ := wn_ex (n := 7) hb1 rfl
    replace hj : j < 8 := by omega
    have hw := hM.1 j hj
    simp only [if_pos hb1, nI_clamp (show j < 2 ^ 31 by omega)] at hQ
    generalize hx : a_rows a j = x at hQ hw
    refine s_aload_n (n := 11) dX9_drop_10 rfl rfl rfl ?_
    refine s_getr (k2 := 82) (n := 14) dX9_drop_11 rfl fl_X9_20 rfl rfl rfl ?_
    refine s_iload_n (n := 15) dX9_drop_14 rfl rfl rfl ?_
    refine s_iaload j (n := 16) dX9_drop_15 rfl rfl rfl hj ?_
    refine s_if_ge (n := 19) (t := 25) dX9_drop_16 (by decide) rfl (fun h16 => ?_) (fun h16 => ?_)
    · refine s_aload_n (n := 26) dX9_drop_25 rfl rfl rfl ?_
      refine s_getr (k2 := 82) (n := 29) dX9_drop_26 rfl fl_X9_20 rfl rfl rfl ?_
      refine s_iload_n (n := 30) dX9_drop_29 rfl rfl rfl ?_
      refine s_iaload j (n := 31) dX9_drop_30 rfl rfl rfl hj ?_
      refine s_istore_n (n := 32) dX9_drop_31 rfl rfl (by decide) rfl rfl ?_
      refine s_aload_n (n := 33) dX9_drop_32 rfl rfl rfl ?_
      refine s_getr (k2 := 82) (n := 36) dX9_drop_33 rfl fl_X9_20 rfl rfl rfl ?_
      refine s_iload_n (n := 37) dX9_drop_36 rfl rfl rfl ?_
      refine s_iconst (v := -1) (n := 38) dX9_drop_37 rfl (by decide) ?_
      refine s_iastore j (n := 39) dX9_drop_38 rfl rfl rfl hj ?_
      refine s_aload_n (n := 40) dX9_drop_39 rfl rfl rfl ?_
      refine s_iload_n (n := 41) dX9_drop_40 rfl rfl rfl ?_
      refine s_cv1 (n := 44) dX9_drop_41 rfl mo_X9_well ml_X9_75 rfl (by decide) rfl rfl (Nat.le_of_ble_eq_true rfl) (Nat.le_of_ble_eq_true rfl) (c_X9_well _ ?_)
      dsimp only [m_push]
      refine s_ireturn dX9_drop_44 rfl rfl ?_
      cases x with
      | none => exact absurd h16 (by rw [show g 82 j = -1 from hw]; decide)
      | some q =>
        dsimp only at hQ
        rw [hw.1]
        have hf : m_fr [81, 82, 83] g (m_up g 82 j (-1)) := m_fr.up (by simp)
        refine hQ _ ((hM.row hj hf ?_ ?_).find 0) ((hf.FM (by decide)).tr ((m_fr.up (S := [78]) (by simp)).FM (by decide)))
        · intro r hr
          exact ⟨by rw [m_up_o (by decide)], by rw [m_up_k, if_neg hr], fun i hi => by rw [m_up_o (by decide)]⟩
        · show (m_up g 82 j (-1)) 82 j = -1
          rw [m_up_k, if_pos rfl]
    · refine s_aload_n (n := 20) dX9_drop_19 rfl rfl rfl ?_
      refine s_iconst (v := 1) (n := 21) dX9_drop_20 rfl (by decide) ?_
      refine s_cv1 (n := 24) dX9_drop_21 rfl mo_X9_find ml_X9_71 rfl (by decide) rfl rfl (Nat.le_of_ble_eq_true rfl) (Nat.le_of_ble_eq_true rfl) (c_X9_find _ ?_)
      dsimp only [m_push]
      refine s_ireturn dX9_drop_24 rfl rfl ?_
      cases x with
      | none =>
        dsimp only at hQ
        rw [show (-1000010 : Int32) - 1 = -1000011 from by decide]
        exact hQ _ (hM.find _) ((m_fr.up (S := [78]) (by simp)).FM (by decide))
      | some q => exact absurd (by rw [hw.1]; exact nI_pos' (by have := hw.2.2.1; omega)) h16
  · dsimp only [m_push]
    refine s_if_ne (n := 7) (t := 10) dX9_drop_4 (by decide) rfl (fun h => absurd h (by decide)) (fun _ => ?_)
    refine s_ldc (n := 9) dX9_drop_7 rfl kc_X9_70 ?_
    refine s_ireturn dX9_drop_9 rfl rfl ?_
    simp only [if_neg hb1] at hQ
    exact hQ g hM F_M.rf
