/-! ===== the abstract state: rows, tape, hill, pasts, images, (fault, finding), trace ===== -/
abbrev a_R : Type := Option (Int32 × Nat × (Nat → Int32))
abbrev a_S : Type := (Nat → a_R) × (Nat × (Nat → Int32)) × Option m_T × List m_T × (Nat → Option m_T) × (Int32 × Int32) × (Nat × (Nat → Int32))
def a_t0 : m_T := fun _ => 0
def a_T (h : Option m_T) : m_T := h.getD a_t0
def a_b (h : Option m_T) : Int32 := if h.isSome then 1 else 0
abbrev a_rows (a : a_S) : Nat → a_R := a.1
abbrev a_tape (a : a_S) : Nat × (Nat → Int32) := a.2.1
abbrev a_hill (a : a_S) : Option m_T := a.2.2.1
abbrev a_past (a : a_S) : List m_T := a.2.2.2.1
abbrev a_imgs (a : a_S) : Nat → Option m_T := a.2.2.2.2.1
abbrev a_fault (a : a_S) : Int32 := a.2.2.2.2.2.1.1
abbrev a_find (a : a_S) : Int32 := a.2.2.2.2.2.1.2
abbrev a_trace (a : a_S) : Nat × (Nat → Int32) := a.2.2.2.2.2.2
def u_rows (a : a_S) (x : Nat → a_R) : a_S := (x, a.2)
def u_tape (a : a_S) (x : Nat × (Nat → Int32)) : a_S := (a.1, x, a.2.2)
def u_hill (a : a_S) (x : Option m_T) (p : List m_T) : a_S := (a.1, a.2.1, x, p, a.2.2.2.2)
def u_imgs (a : a_S) (x : Nat → Option m_T) : a_S := (a.1, a.2.1, a.2.2.1, a.2.2.2.1, x, a.2.2.2.2.2)
def u_fault (a : a_S) (x : Int32) : a_S := (a.1, a.2.1, a.2.2.1, a.2.2.2.1, a.2.2.2.2.1, (x, a.2.2.2.2.2.1.2), a.2.2.2.2.2.2)
def u_find (a : a_S) (x : Int32) : a_S := (a.1, a.2.1, a.2.2.1, a.2.2.2.1, a.2.2.2.2.1, (a.2.2.2.2.2.1.1, x), a.2.2.2.2.2.2)
def u_trace (a : a_S) (x : Nat × (Nat → Int32)) : a_S := (a.1, a.2.1, a.2.2.1, a.2.2.2.1, a.2.2.2.2.1, a.2.2.2.2.2.1, x)
def a_TK (t : m_T) : Prop := wn (t 0) 2 9 ∧ wn (t 1) 0 6 ∧ wn (t 2) 0 6 ∧ wn (t 3) 0 6 ∧ wn (t 4) 1 9 ∧ wn (t 5) 0 2 ∧ wn (t 6) 1 9 ∧ wn (t 7) 0 999 ∧ ∀ i, i < 6 → ¬ t 1 ≤ nI i → kOK (t (9 + i)) ∧ wn (t (15 + i)) 1 9 ∧ wn (t (21 + i)) 0 6
def a_OK (a : a_S) : Prop := (∀ t, a_hill a = some t → a_TK t) ∧ (∀ t ∈ a_past a, a_TK t) ∧ (∀ k t, a_imgs a k = some t → a_TK t) ∧ (a_hill a = none → a_past a = []) ∧ (∀ k t, a_imgs a k = some t → a_hill a ≠ none)
/-- one row, as the class and as the reference hold it -/
def C_w (g : m_G) (r : Nat) (x : a_R) : Prop := match x with
  | none => g (2 + r) 1 = 1
  | some q => g (2 + r) 1 = 0 ∧ g (2 + r) 2 = q.1 ∧ g (2 + r) 3 = nI q.2.1 ∧ q.2.1 ≤ 40 ∧ ∀ i, i < 40 → g (10 + r) i = q.2.2 i
def M_w (g : m_G) (r : Nat) (x : a_R) : Prop := match x with
  | none => g 82 r = -1
  | some q => g 82 r = nI q.2.1 ∧ g 81 r = q.1 ∧ q.2.1 ≤ 40 ∧ ∀ i, i < 40 → g 83 (40 * r + i) = q.2.2 i
/-- what taking back an act makes of a town: its sort, its house, what it wrote down -/
def a_tkb (s h w : Int32) (t : m_T) : m_T :=
  if s = 0 then (if wn h 0 (t 1 - 1) then upd (upd t 7 (t 7 - 1)) (33 + h.toNatClampNeg) (t (33 + h.toNatClampNeg) - 1) else upd t 7 (t 7 - 1))
  else if s = 3 then upd t 4 w
  else if s = 1 ∧ wn h 0 (t 1 - 1) then upd t 8 (t 8 ^^^ (1 <<< (h &&& 31)))
  else if wn h 0 (t 1 - 1) then upd (upd t (15 + h.toNatClampNeg) (w / 10)) (21 + h.toNatClampNeg) (ire w 10) else t
def C_ac (g : m_G) : Nat → m_T → List m_T → Prop
  | 0, _, [] => True
  | n + 1, t, p :: ps => p = a_tkb (g 21 n) (g 22 n) (g 23 n) t ∧ C_ac g n p ps
  | _, _, _ => False
def M_pa (g : m_G) : List m_T → Prop
  | [] => True
  | p :: ps => TM g (39 + 39 * ps.length) p ∧ M_pa g ps
def C_R (g : m_G) (a : a_S) : Prop :=
  (∀ r, r < 8 → C_w g r (a_rows a r)) ∧
  (g 18 1 = nI (a_tape a).1 ∧ (a_tape a).1 ≤ 100 ∧ ∀ i, i < (a_tape a).1 → g 19 i = (a_tape a).2 i) ∧
  (g 28 2 = a_b (a_hill a) ∧ TW g 28 (a_T (a_hill a))) ∧
  (g 20 3 = nI (a_past a).length ∧ (a_past a).length ≤ 24 ∧ C_ac g (a_past a).length (a_T (a_hill a)) (a_past a)) ∧
  (∀ k, k < 2 → g (48 + 10 * k) 2 = a_b (a_imgs a k) ∧ ∀ t, a_imgs a k = some t → TW g (48 + 10 * k) t) ∧
  (g 0 8 = a_fault a ∧ g 0 9 = a_find a) ∧
  (g 25 1 = nI (a_trace a).1 ∧ (a_trace a).1 ≤ 16 ∧ ∀ i, i < (a_trace a).1 → g 26 i = (a_trace a).2 i)
def M_R (g : m_G) (a : a_S) : Prop :=
  (∀ r, r < 8 → M_w g r (a_rows a r)) ∧
  (g 78 8 = nI (a_tape a).1 ∧ (a_tape a).1 ≤ 100 ∧ ∀ i, i < (a_tape a).1 → g 84 i = (a_tape a).2 i) ∧
  (g 78 1 = a_b (a_hill a) ∧ TM g 0 (a_T (a_hill a))) ∧
  (g 78 2 = nI (a_past a).length ∧ (a_past a).length ≤ 24 ∧ M_pa g (a_past a)) ∧
  (∀ k, k < 2 → g 80 k = a_b (a_imgs a k) ∧ ∀ t, a_imgs a k = some t → TM g (975 + 39 * k) t) ∧
  (g 78 9 = a_fault a ∧ g 78 10 = a_find a) ∧
  (g 78 12 = nI (a_trace a).1 ∧ (a_trace a).1 ≤ 16 ∧ ∀ i, i < (a_trace a).1 → g 85 i = (a_trace a).2 i)
/-- the tables -/
def a_l6 (l : List Int32) (f : Nat → Int32) : Prop := ∀ j, j < l.length → f j = l.getD j 0
def K_S (g : m_G) : Prop := a_l6 [-1, 0, 1, 1, 0, 4] (g 201) ∧ a_l6 [2, 0, 0, 1, 0, 1] (g 202) ∧ a_l6 [9, 6, 6, 9, 2, 9] (g 203) ∧ a_l6 [10, 11, 12, 11, 13, 14] (g 204) ∧ a_l6 [20, 21, 24, 22, 23, 23] (g 205) ∧
  a_l6 [2, 0, 0, 1, 0, 1] (g 86) ∧ a_l6 [9, 6, 6, 9, 2, 9] (g 87) ∧ a_l6 [0, 2, 3, 4, 5, 6] (g 88) ∧ a_l6 [2, 3, 4, 5] (g 90) ∧ a_l6 [6, 6, 9, 2] (g 91)
/-- what the class, what the reference may change -/
def F_C (g g2 : m_G) : Prop := ∀ k, 78 ≤ k → g2 k = g k
def F_M (g g2 : m_G) : Prop := (∀ k, k < 78 → g2 k = g k) ∧ ∀ k, (k = 86 ∨ k = 87 ∨ k = 88 ∨ k = 90 ∨ k = 91 ∨ 93 ≤ k) → g2 k = g k
theorem F_C.rf {g : m_G} : F_C g g := fun _ _ => rfl
theorem F_C.tr {g g2 g3 : m_G} (h : F_C g g2) (h2 : F_C g2 g3) : F_C g g3 := fun k hk => (h2 k hk).trans (h k hk)
theorem F_M.rf {g : m_G} : F_M g g := ⟨fun _ _ => rfl, fun _ _ => rfl⟩
theorem F_M.tr {g g2 g3 : m_G} (h : F_M g g2) (h2 : F_M g2 g3) : F_M g g3 := ⟨fun k hk => (h2.1 k hk).trans (h.1 k hk), fun k hk => (h2.2 k hk).trans (h.2 k hk)⟩
theorem m_fr.FC {S : List Nat} {g g2 : m_G} (h : m_fr S g g2) (hs : ∀ a ∈ S, a < 78) : F_C g g2 := fun k hk => h k (fun q => by have := hs k q; omega)
theorem m_fr.FM {S : List Nat} {g g2 : m_G} (h : m_fr S g g2) (hs : ∀ a ∈ S, 78 ≤ a ∧ a < 93 ∧ a ≠ 86 ∧ a ≠ 87 ∧ a ≠ 88 ∧ a ≠ 90 ∧ a ≠ 91) : F_M g g2 := ⟨fun k hk => h k (fun q => by have := hs k q; omega), fun k hk => h k (fun q => by have := hs k q; omega)⟩
theorem K_S.c {g g2 : m_G} (h : K_S g) (hf : F_C g g2) : K_S g2 := by
  unfold K_S
  rw [hf 201 (by decide), hf 202 (by decide), hf 203 (by decide), hf 204 (by decide), hf 205 (by decide), hf 86 (by decide), hf 87 (by decide), hf 88 (by decide), hf 90 (by decide), hf 91 (by decide)]
  exact h
theorem K_S.m {g g2 : m_G} (h : K_S g) (hf : F_M g g2) : K_S g2 := by
  unfold K_S
  rw [hf.2 201 (by decide), hf.2 202 (by decide), hf.2 203 (by decide), hf.2 204 (by decide), hf.2 205 (by decide), hf.2 86 (by decide), hf.2 87 (by decide), hf.2 88 (by decide), hf.2 90 (by decide), hf.2 91 (by decide)]
  exact h
theorem C_w.kept {g g2 : m_G} {r : Nat} {x : a_R} (h : C_w g r x) (h1 : g2 (2 + r) = g (2 + r)) (h2 : g2 (10 + r) = g (10 + r)) : C_w g2 r x := by
  cases x with
  | none => unfold C_w at *; rw [h1]; exact h
  | some q => unfold C_w at *; rw [h1, h2]; exact h
theorem C_ac.kept {g g2 : m_G} (h1 : g2 21 = g 21) (h2 : g2 22 = g 22) (h3 : g2 23 = g 23) : ∀ (n : Nat) (t : m_T) (ps : List m_T), C_ac g n t ps → C_ac g2 n t ps
  | 0, _, [], _ => trivial
  | n + 1, t, p :: ps, h => ⟨by rw [h1, h2, h3]; exact h.1, C_ac.kept h1 h2 h3 n p ps h.2⟩
  | 0, _, _ :: _, h => h.elim
  | _ + 1, _, [], h => h.elim
theorem M_pa.kept {g g2 : m_G} (h1 : ∀ j, j < 975 → g2 79 j = g 79 j) : ∀ (ps : List m_T), ps.length ≤ 24 → M_pa g ps → M_pa g2 ps
  | [], _, _ => trivial
  | p :: ps, hl, h => ⟨fun j hj => by
      have : (p :: ps).length = ps.length + 1 := rfl
      rw [h1 _ (by omega)]; exact h.1 j hj, M_pa.kept h1 ps (by have : (p :: ps).length = ps.length + 1 := rfl; omega) h.2⟩
/-- the class's scratch: rolls, draft, trial, seer -/
def m_scr : List Nat := [24, 30, 31, 38, 39, 40, 41, 42, 43, 44, 45, 46, 47, 68, 69, 70, 71, 72, 73, 74, 75, 76, 77]
theorem C_R.fr {g g2 : m_G} {a : a_S} (h : C_R g a) (hf : m_fr m_scr g g2) : C_R g2 a := by
  have f : ∀ k, k ∉ m_scr → g2 k = g k := hf
  obtain ⟨h1, h2, h3, h4, h5, h6, h7⟩ := h
  refine ⟨fun r hr => (h1 r hr).kept (f _ (by simp [m_scr]; omega)) (f _ (by simp [m_scr]; omega)), ?_, ?_, ?_, ?_, ?_, ?_⟩
  · rw [f 18 (by decide), f 19 (by decide)]; exact h2
  · rw [f 28 (by decide)]
    exact ⟨h3.1, h3.2.kept (f 28 (by decide)) (fun i hi => f _ (by simp [m_scr]; omega))⟩
  · rw [f 20 (by decide)]
    exact ⟨h4.1, h4.2.1, C_ac.kept (f 21 (by decide)) (f 22 (by decide)) (f 23 (by decide)) _ _ _ h4.2.2⟩
  · intro k hk
    rw [f (48 + 10 * k) (by simp [m_scr]; omega)]
    exact ⟨(h5 k hk).1, fun t ht => ((h5 k hk).2 t ht).kept (f _ (by simp [m_scr]; omega)) (fun i hi => f _ (by simp [m_scr]; omega))⟩
  · rw [f 0 (by decide)]; exact h6
  · rw [f 25 (by decide), f 26 (by decide)]; exact h7
theorem C_R.fm {g g2 : m_G} {a : a_S} (h : C_R g a) (hf : F_M g g2) : C_R g2 a := by
  have f : ∀ k, k < 78 → g2 k = g k := hf.1
  obtain ⟨h1, h2, h3, h4, h5, h6, h7⟩ := h
  refine ⟨fun r hr => (h1 r hr).kept (f _ (by omega)) (f _ (by omega)), ?_, ?_, ?_, ?_, ?_, ?_⟩
  · rw [f 18 (by decide), f 19 (by decide)]; exact h2
  · rw [f 28 (by decide)]
    exact ⟨h3.1, h3.2.kept (f 28 (by decide)) (fun i hi => f _ (by omega))⟩
  · rw [f 20 (by decide)]
    exact ⟨h4.1, h4.2.1, C_ac.kept (f 21 (by decide)) (f 22 (by decide)) (f 23 (by decide)) _ _ _ h4.2.2⟩
  · intro k hk
    rw [f (48 + 10 * k) (by omega)]
    exact ⟨(h5 k hk).1, fun t ht => ((h5 k hk).2 t ht).kept (f _ (by omega)) (fun i hi => f _ (by omega))⟩
  · rw [f 0 (by decide)]; exact h6
  · rw [f 25 (by decide), f 26 (by decide)]; exact h7
/-- the reference's scratch -/
def M_sc (g g2 : m_G) : Prop := m_fr [78, 79, 89, 92] g g2 ∧ (∀ j, j ≠ 13 → j ≠ 14 → j ≠ 15 → j ≠ 20 → g2 78 j = g 78 j) ∧ ∀ j, j < 1053 → g2 79 j = g 79 j
theorem M_sc.rf {g : m_G} : M_sc g g := ⟨m_fr.rf, fun _ _ _ _ _ => rfl, fun _ _ => rfl⟩
theorem M_sc.tr {g g2 g3 : m_G} (h : M_sc g g2) (h2 : M_sc g2 g3) : M_sc g g3 := ⟨h.1.tr h2.1, fun j a b c d => (h2.2.1 j a b c d).trans (h.2.1 j a b c d), fun j hj => (h2.2.2 j hj).trans (h.2.2 j hj)⟩
theorem M_sc.FM {g g2 : m_G} (h : M_sc g g2) : F_M g g2 := h.1.FM (by decide)
theorem mfr.sc {g g2 : m_G} (h : mfr g g2) : M_sc g g2 := ⟨h.1.mono (by decide), fun j _ _ _ hj => h.2 j hj, fun j _ => by rw [h.1 79 (by decide)]⟩
theorem TM.kept {g g2 : m_G} {b : Nat} {t : m_T} (h : TM g b t) (hf : ∀ j, j < 39 → g2 79 (b + j) = g 79 (b + j)) : TM g2 b t := fun j hj => (hf j hj).trans (h j hj)
theorem M_w.kept {g g2 : m_G} {r : Nat} {x : a_R} (h : M_w g r x) (h1 : g2 81 r = g 81 r) (h2 : g2 82 r = g 82 r) (h3 : ∀ i, i < 40 → g2 83 (40 * r + i) = g 83 (40 * r + i)) : M_w g2 r x := by
  cases x with
  | none => unfold M_w at *; rw [h2]; exact h
  | some q => unfold M_w at *; rw [h1, h2]; exact ⟨h.1, h.2.1, h.2.2.1, fun i hi => (h3 i hi).trans (h.2.2.2 i hi)⟩
theorem M_R.sc {g g2 : m_G} {a : a_S} (h : M_R g a) (hs : M_sc g g2) : M_R g2 a := by
  obtain ⟨hf, e78, e79⟩ := hs
  have f : ∀ k, k ∉ [78, 79, 89, 92] → g2 k = g k := hf
  obtain ⟨h1, h2, h3, h4, h5, h6, h7⟩ := h
  refine ⟨fun r hr => (h1 r hr).kept (by rw [f 81 (by decide)]) (by rw [f 82 (by decide)]) (fun i _ => by rw [f 83 (by decide)]), ?_, ?_, ?_, ?_, ?_, ?_⟩
  · rw [e78 8 (by decide) (by decide) (by decide) (by decide), f 84 (by decide)]; exact h2
  · rw [e78 1 (by decide) (by decide) (by decide) (by decide)]
    exact ⟨h3.1, h3.2.kept (fun j hj => e79 _ (by omega))⟩
  · rw [e78 2 (by decide) (by decide) (by decide) (by decide)]
    exact ⟨h4.1, h4.2.1, M_pa.kept (fun j hj => e79 j (by omega)) _ h4.2.1 h4.2.2⟩
  · intro k hk
    rw [f 80 (by decide)]
    exact ⟨(h5 k hk).1, fun t ht => ((h5 k hk).2 t ht).kept (fun j hj => e79 _ (by omega))⟩
  · rw [e78 9 (by decide) (by decide) (by decide) (by decide), e78 10 (by decide) (by decide) (by decide) (by decide)]; exact h6
  · rw [e78 12 (by decide) (by decide) (by decide) (by decide), f 85 (by decide)]; exact h7
theorem M_R.fc {g g2 : m_G} {a : a_S} (h : M_R g a) (hf : F_C g g2) : M_R g2 a := by
  obtain ⟨h1, h2, h3, h4, h5, h6, h7⟩ := h
  have f : ∀ k, 78 ≤ k → g2 k = g k := hf
  refine ⟨fun r hr => (h1 r hr).kept (by rw [f 81 (by decide)]) (by rw [f 82 (by decide)]) (fun i _ => by rw [f 83 (by decide)]), ?_, ?_, ?_, ?_, ?_, ?_⟩
  · rw [f 78 (by decide), f 84 (by decide)]; exact h2
  · rw [f 78 (by decide)]
    exact ⟨h3.1, h3.2.kept (fun j hj => by rw [f 79 (by decide)])⟩
  · rw [f 78 (by decide)]
    exact ⟨h4.1, h4.2.1, M_pa.kept (fun j hj => by rw [f 79 (by decide)]) _ h4.2.1 h4.2.2⟩
  · intro k hk
    rw [f 80 (by decide)]
    exact ⟨(h5 k hk).1, fun t ht => ((h5 k hk).2 t ht).kept (fun j hj => by rw [f 79 (by decide)])⟩
  · rw [f 78 (by decide)]; exact h6
  · rw [f 78 (by decide), f 85 (by decide)]; exact h7
theorem wn_ex {x M : Int32} {n : Nat} (h : wn x 0 M) (hM : M.toInt = n) : ∃ j : Nat, j ≤ n ∧ x = nI j := nI_of2 hM h.1 (Int32.not_lt.mp h.2)
theorem wn_nI {j n : Nat} {M : Int32} (hM : M = nI n) (h : j ≤ n) (hn : n < 2 ^ 31) : wn (nI j) 0 M := ⟨nI_pos (by omega), by rw [hM]; exact nI_nlt h hn⟩
/-- the end of a method that answers r and leaves the state a -/
def E_C (g : m_G) (a : a_S) (Q : Option Int32 → m_G → Prop) (r : Int32 × a_S) : Prop := ∀ g2, C_R g2 r.2 → F_C g g2 → Q (some r.1) g2
def E_M (g : m_G) (a : a_S) (Q : Option Int32 → m_G → Prop) (r : Int32 × a_S) : Prop := ∀ g2, M_R g2 r.2 → F_M g g2 → Q (some r.1) g2
