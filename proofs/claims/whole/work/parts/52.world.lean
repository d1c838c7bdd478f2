/-! ===== the start: what the new objects hold, and where they lie ===== -/
def i_l (l : List Int32) (j : Nat) : Int32 := l.getD j 0
def i_g (xs : Nat → Int32) : m_G := fun k => if 2 ≤ k ∧ k ≤ 9 then upd (fun _ => 0) 1 1 else if k = 82 then (upd (upd (upd (upd (upd (upd (upd (upd (fun _ => 0) 0 (-1)) 1 (-1)) 2 (-1)) 3 (-1)) 4 (-1)) 5 (-1)) 6 (-1)) 7 (-1)) else if k = 86 then (upd (upd (upd (upd (upd (upd (fun _ => 0) 0 2) 1 0) 2 0) 3 1) 4 0) 5 1) else if k = 87 then (upd (upd (upd (upd (upd (upd (fun _ => 0) 0 9) 1 6) 2 6) 3 9) 4 2) 5 9) else if k = 88 then (upd (upd (upd (upd (upd (upd (fun _ => 0) 0 0) 1 2) 2 3) 3 4) 4 5) 5 6) else if k = 90 then (upd (upd (upd (upd (fun _ => 0) 0 2) 1 3) 2 4) 3 5) else if k = 91 then (upd (upd (upd (upd (fun _ => 0) 0 6) 1 6) 2 9) 3 2) else if k = 200 then xs else if k = 201 then i_l [-1, 0, 1, 1, 0, 4] else if k = 202 then i_l [2, 0, 0, 1, 0, 1] else if k = 203 then i_l [9, 6, 6, 9, 2, 9] else if k = 204 then i_l [10, 11, 12, 11, 13, 14] else if k = 205 then i_l [20, 21, 24, 22, 23, 23] else fun _ => 0
def i_ad (l l2 : List Nat) (k : Nat) : Nat := if k < 200 then l.getD k 0 else l2.getD (k - 200) 0
def i_pm : List Nat := [0, 1, 42, 44, 46, 48, 50, 52, 54, 56, 43, 45, 47, 49, 51, 53, 55, 57, 2, 3, 25, 26, 27, 28, 29, 40, 41, 24, 4, 5, 6, 7, 8, 9, 10, 11, 12, 13, 14, 15, 16, 17, 18, 19, 20, 21, 22, 23, 58, 59, 60, 61, 62, 63, 64, 65, 66, 67, 68, 69, 70, 71, 72, 73, 74, 75, 76, 77, 30, 31, 32, 33, 34, 35, 36, 37, 38, 39, 78, 79, 80, 81, 82, 83, 84, 85, 86, 87, 88, 89, 90, 91, 92]
theorem i_q {D : va_G} {cl : List vw_C} {a n : Nat} {cA : ClassId} {f f2 : Nat → Option Nat} {H : Heap} (h : va_at D cl (a, .inl (cA, b_q n f)) H) (hf : ∀ i, i < n → f i = f2 i) : va_at D cl (a, .inl (cA, b_q n f2)) H := by
  have e : vp_cell cA (b_q n f) = vp_cell cA (b_q n f2) := by
    show arrV cA n (fun j => va_rf (f j)) = arrV cA n (fun j => va_rf (f2 j))
    unfold arrV
    congr 1
    congr 1
    funext j
    show va_rf (f j.val) = va_rf (f2 j.val)
    rw [hf j.val j.isLt]
  show H[a]? = some (vp_cell cA (b_q n f2))
  rw [← e]
  exact h
theorem i_D {A : Nat → Prop} {ws ws' : va_W} (h : va_D A ws) (g : Nat → Nat) (hg : ∀ (k : Nat) (q : Nat × va_E), ws'[k]? = some q → ∃ q', ws[g k]? = some q' ∧ q'.1 = q.1) (hi : ∀ i j : Nat, i < ws'.length → j < ws'.length → g i = g j → i = j) : va_D A ws' := by
  refine ⟨fun i j p q hp hq e => ?_, fun k q hq => ?_⟩
  · obtain ⟨p2, hp2, ep⟩ := hg i p hp
    obtain ⟨q2, hq2, eq⟩ := hg j q hq
    have := h.1 _ _ _ _ hp2 hq2 (by rw [ep, eq, e])
    exact hi i j (List.getElem?_eq_some_iff.mp hp).1 (List.getElem?_eq_some_iff.mp hq).1 this
  · obtain ⟨q2, hq2, eq⟩ := hg k q hq
    rw [← eq]
    exact h.2 _ _ hq2
theorem i_pm_inj : ∀ i j : Nat, i < 93 → j < 93 → i_pm.getD i 0 = i_pm.getD j 0 → i = j := by
  have h : ∀ i : Fin 93, ∀ j : Fin 93, i_pm.getD i.val 0 = i_pm.getD j.val 0 → i = j := by decide +kernel
  intro i j hi hj e
  exact congrArg Fin.val (h ⟨i, hi⟩ ⟨j, hj⟩ e)
theorem i_step {P : Nat → Prop} {n : Nat} (h : ∀ k, k < n → P k) (hn : P n) : ∀ k, k < n + 1 → P k := fun k hk => by
  rcases Nat.lt_or_ge k n with q | q
  · exact h k q
  · have : k = n := by omega
    subst this; exact hn
theorem i_zero {P : Nat → Prop} : ∀ k, k < 0 → P k := fun _ h => absurd h (Nat.not_lt_zero _)
theorem i_mw {D : va_G} {cl : List vw_C} {A : Nat → Prop} {X : va_W} {H : Heap} {cy : Nat → ClassId} {ad : Nat → Nat} {g : m_G} (hD : va_D A X) (h : ∀ k, k < 93 → (∃ q', X[i_pm.getD k 0]? = some q' ∧ q'.1 = ad k) ∧ va_at D cl (ad k, m_ce cy ad g k) H) : va_P D cl (m_ws cy ad g) H ∧ va_D A (m_ws cy ad g) := by
  have hl : (m_ws cy ad g).length = 93 := by simp [m_ws]
  have hq : ∀ (k : Nat) (q : Nat × va_E), (m_ws cy ad g)[k]? = some q → k < 93 ∧ q = (ad k, m_ce cy ad g k) := fun k q hk => by
    have h1 : k < 93 := by rw [← hl]; exact (List.getElem?_eq_some_iff.mp hk).1
    rw [m_ws_get h1] at hk
    exact ⟨h1, (Option.some.inj hk).symm⟩
  refine ⟨fun k q hk => ?_, i_D hD (fun k => i_pm.getD k 0) (fun k q hk => ?_) (fun i j hi hj e => ?_)⟩
  · obtain ⟨h1, rfl⟩ := hq k q hk
    exact (h k h1).2
  · obtain ⟨h1, rfl⟩ := hq k q hk
    exact (h k h1).1
  · rw [hl] at hi hj
    exact i_pm_inj i j hi hj e
set_option maxHeartbeats 4000000 in
theorem i_world {D : va_G} {A : Nat → Prop} {H : Heap} {cy : Nat → ClassId} {h0 q1 q2 q3 q4 q5 q6 q7 q8 q9 q10 q11 q12 q13 q14 q15 q16 q17 q18 q19 q20 q21 q22 q23 q24 q25 q26 q27 q28 q29 q30 q31 q32 q33 q34 q35 q36 q37 q38 q39 q40 q41 q42 q43 q44 q45 q46 q47 q48 q49 q50 q51 q52 q53 q54 q55 q56 q57 q58 q59 q60 q61 q62 q63 q64 q65 q66 q67 q68 q69 q70 q71 q72 q73 q74 q75 q76 q77 h1 r1 r2 r3 r4 r5 r6 r7 r8 r9 r10 r11 r12 r13 r14 : Nat} (xs : Nat → Int32) (l2 : List Nat) (hP : va_P D m_cl [(h0, .inr (8, [.ref q1, .ref q2, .ref q4, .ref q14, .ref q24, .ref q25, .ref q29, .ref q40, .int 0, .int 0])), (q1, .inl (cy (2 + 1), b_q 8 (va_up (va_up (va_up (va_up (va_up (va_up (va_up (va_up (fun _ => none) 0 (some q42)) 1 (some q44)) 2 (some q46)) 3 (some q48)) 4 (some q50)) 5 (some q52)) 6 (some q54)) 7 (some q56)))), (q2, .inr (6, [.ref q3, .int 0, .int 0, .int 0, .int 0])), (q3, .inl (cy 0, 100, .inl (fun _ => 0))), (q4, .inr (1, [.ref q5, .ref q6, .int 0, .int 0, .int 0, .int 0, .int 0, .int 0, .int 0, .int 0, .int 0, .int 0])), (q5, .inl (cy (2 + 0), b_q 6 (va_up (va_up (va_up (va_up (va_up (va_up (fun _ => none) 0 (some q8)) 1 (some q9)) 2 (some q10)) 3 (some q11)) 4 (some q12)) 5 (some q13)))), (q6, .inr (3, [.ref q7, .int 0, .int 0, .int 0, .int 0, .int 0])), (q7, .inl (cy 0, 10, .inl (fun _ => 0))), (q8, .inr (2, [.int 0, .int 0, .int 0, .int 0, .int 0])), (q9, .inr (2, [.int 0, .int 0, .int 0, .int 0, .int 0])), (q10, .inr (2, [.int 0, .int 0, .int 0, .int 0, .int 0])), (q11, .inr (2, [.int 0, .int 0, .int 0, .int 0, .int 0])), (q12, .inr (2, [.int 0, .int 0, .int 0, .int 0, .int 0])), (q13, .inr (2, [.int 0, .int 0, .int 0, .int 0, .int 0])), (q14, .inr (1, [.ref q15, .ref q16, .int 0, .int 0, .int 0, .int 0, .int 0, .int 0, .int 0, .int 0, .int 0, .int 0])), (q15, .inl (cy (2 + 0), b_q 6 (va_up (va_up (va_up (va_up (va_up (va_up (fun _ => none) 0 (some q18)) 1 (some q19)) 2 (some q20)) 3 (some q21)) 4 (some q22)) 5 (some q23)))), (q16, .inr (3, [.ref q17, .int 0, .int 0, .int 0, .int 0, .int 0])), (q17, .inl (cy 0, 10, .inl (fun _ => 0))), (q18, .inr (2, [.int 0, .int 0, .int 0, .int 0, .int 0])), (q19, .inr (2, [.int 0, .int 0, .int 0, .int 0, .int 0])), (q20, .inr (2, [.int 0, .int 0, .int 0, .int 0, .int 0])), (q21, .inr (2, [.int 0, .int 0, .int 0, .int 0, .int 0])), (q22, .inr (2, [.int 0, .int 0, .int 0, .int 0, .int 0])), (q23, .inr (2, [.int 0, .int 0, .int 0, .int 0, .int 0])), (q24, .inl (cy (2 + 2), b_q 2 (va_up (va_up (fun _ => none) 0 (some q58)) 1 (some q68)))), (q25, .inr (0, [.ref q26, .ref q27, .ref q28, .int 0])), (q26, .inl (cy 0, 24, .inl (fun _ => 0))), (q27, .inl (cy 0, 24, .inl (fun _ => 0))), (q28, .inl (cy 0, 24, .inl (fun _ => 0))), (q29, .inr (5, [.ref q30, .int 0])), (q30, .inr (1, [.ref q31, .ref q32, .int 0, .int 0, .int 0, .int 0, .int 0, .int 0, .int 0, .int 0, .int 0, .int 0])), (q31, .inl (cy (2 + 0), b_q 6 (va_up (va_up (va_up (va_up (va_up (va_up (fun _ => none) 0 (some q34)) 1 (some q35)) 2 (some q36)) 3 (some q37)) 4 (some q38)) 5 (some q39)))), (q32, .inr (3, [.ref q33, .int 0, .int 0, .int 0, .int 0, .int 0])), (q33, .inl (cy 0, 10, .inl (fun _ => 0))), (q34, .inr (2, [.int 0, .int 0, .int 0, .int 0, .int 0])), (q35, .inr (2, [.int 0, .int 0, .int 0, .int 0, .int 0])), (q36, .inr (2, [.int 0, .int 0, .int 0, .int 0, .int 0])), (q37, .inr (2, [.int 0, .int 0, .int 0, .int 0, .int 0])), (q38, .inr (2, [.int 0, .int 0, .int 0, .int 0, .int 0])), (q39, .inr (2, [.int 0, .int 0, .int 0, .int 0, .int 0])), (q40, .inr (7, [.ref q41, .int 0])), (q41, .inl (cy 0, 16, .inl (fun _ => 0))), (q42, .inr (4, [.ref q43, .int 1, .int 0, .int 0])), (q43, .inl (cy 0, 40, .inl (fun _ => 0))), (q44, .inr (4, [.ref q45, .int 1, .int 0, .int 0])), (q45, .inl (cy 0, 40, .inl (fun _ => 0))), (q46, .inr (4, [.ref q47, .int 1, .int 0, .int 0])), (q47, .inl (cy 0, 40, .inl (fun _ => 0))), (q48, .inr (4, [.ref q49, .int 1, .int 0, .int 0])), (q49, .inl (cy 0, 40, .inl (fun _ => 0))), (q50, .inr (4, [.ref q51, .int 1, .int 0, .int 0])), (q51, .inl (cy 0, 40, .inl (fun _ => 0))), (q52, .inr (4, [.ref q53, .int 1, .int 0, .int 0])), (q53, .inl (cy 0, 40, .inl (fun _ => 0))), (q54, .inr (4, [.ref q55, .int 1, .int 0, .int 0])), (q55, .inl (cy 0, 40, .inl (fun _ => 0))), (q56, .inr (4, [.ref q57, .int 1, .int 0, .int 0])), (q57, .inl (cy 0, 40, .inl (fun _ => 0))), (q58, .inr (1, [.ref q59, .ref q60, .int 0, .int 0, .int 0, .int 0, .int 0, .int 0, .int 0, .int 0, .int 0, .int 0])), (q59, .inl (cy (2 + 0), b_q 6 (va_up (va_up (va_up (va_up (va_up (va_up (fun _ => none) 0 (some q62)) 1 (some q63)) 2 (some q64)) 3 (some q65)) 4 (some q66)) 5 (some q67)))), (q60, .inr (3, [.ref q61, .int 0, .int 0, .int 0, .int 0, .int 0])), (q61, .inl (cy 0, 10, .inl (fun _ => 0))), (q62, .inr (2, [.int 0, .int 0, .int 0, .int 0, .int 0])), (q63, .inr (2, [.int 0, .int 0, .int 0, .int 0, .int 0])), (q64, .inr (2, [.int 0, .int 0, .int 0, .int 0, .int 0])), (q65, .inr (2, [.int 0, .int 0, .int 0, .int 0, .int 0])), (q66, .inr (2, [.int 0, .int 0, .int 0, .int 0, .int 0])), (q67, .inr (2, [.int 0, .int 0, .int 0, .int 0, .int 0])), (q68, .inr (1, [.ref q69, .ref q70, .int 0, .int 0, .int 0, .int 0, .int 0, .int 0, .int 0, .int 0, .int 0, .int 0])), (q69, .inl (cy (2 + 0), b_q 6 (va_up (va_up (va_up (va_up (va_up (va_up (fun _ => none) 0 (some q72)) 1 (some q73)) 2 (some q74)) 3 (some q75)) 4 (some q76)) 5 (some q77)))), (q70, .inr (3, [.ref q71, .int 0, .int 0, .int 0, .int 0, .int 0])), (q71, .inl (cy 0, 10, .inl (fun _ => 0))), (q72, .inr (2, [.int 0, .int 0, .int 0, .int 0, .int 0])), (q73, .inr (2, [.int 0, .int 0, .int 0, .int 0, .int 0])), (q74, .inr (2, [.int 0, .int 0, .int 0, .int 0, .int 0])), (q75, .inr (2, [.int 0, .int 0, .int 0, .int 0, .int 0])), (q76, .inr (2, [.int 0, .int 0, .int 0, .int 0, .int 0])), (q77, .inr (2, [.int 0, .int 0, .int 0, .int 0, .int 0])), (h1, .inr (9, [.ref r1, .int 0, .int 0, .ref r2, .ref r3, .ref r4, .ref r5, .ref r6, .int 0, .int 0, .int 0, .ref r7, .int 0, .int 0, .int 0, .int 0, .ref r8, .ref r9, .ref r10, .ref r11, .int 0, .ref r12, .ref r13, .ref r14])), (r1, .inl (cy 0, 1092, .inl (fun _ => 0))), (r2, .inl (cy 1, 2, .inl (fun _ => 0))), (r3, .inl (cy 0, 8, .inl (fun _ => 0))), (r4, .inl (cy 0, 8, .inl (upd (upd (upd (upd (upd (upd (upd (upd (fun _ => 0) 0 (-1)) 1 (-1)) 2 (-1)) 3 (-1)) 4 (-1)) 5 (-1)) 6 (-1)) 7 (-1)))), (r5, .inl (cy 0, 320, .inl (fun _ => 0))), (r6, .inl (cy 0, 100, .inl (fun _ => 0))), (r7, .inl (cy 0, 16, .inl (fun _ => 0))), (r8, .inl (cy 0, 6, .inl (upd (upd (upd (upd (upd (upd (fun _ => 0) 0 2) 1 0) 2 0) 3 1) 4 0) 5 1))), (r9, .inl (cy 0, 6, .inl (upd (upd (upd (upd (upd (upd (fun _ => 0) 0 9) 1 6) 2 6) 3 9) 4 2) 5 9))), (r10, .inl (cy 0, 6, .inl (upd (upd (upd (upd (upd (upd (fun _ => 0) 0 0) 1 2) 2 3) 3 4) 4 5) 5 6))), (r11, .inl (cy 0, 10, .inl (fun _ => 0))), (r12, .inl (cy 0, 4, .inl (upd (upd (upd (upd (fun _ => 0) 0 2) 1 3) 2 4) 3 5))), (r13, .inl (cy 0, 4, .inl (upd (upd (upd (upd (fun _ => 0) 0 6) 1 6) 2 9) 3 2))), (r14, .inl (cy 0, 6, .inl (fun _ => 0)))] H) (hD : va_D A [(h0, .inr (8, [.ref q1, .ref q2, .ref q4, .ref q14, .ref q24, .ref q25, .ref q29, .ref q40, .int 0, .int 0])), (q1, .inl (cy (2 + 1), b_q 8 (va_up (va_up (va_up (va_up (va_up (va_up (va_up (va_up (fun _ => none) 0 (some q42)) 1 (some q44)) 2 (some q46)) 3 (some q48)) 4 (some q50)) 5 (some q52)) 6 (some q54)) 7 (some q56)))), (q2, .inr (6, [.ref q3, .int 0, .int 0, .int 0, .int 0])), (q3, .inl (cy 0, 100, .inl (fun _ => 0))), (q4, .inr (1, [.ref q5, .ref q6, .int 0, .int 0, .int 0, .int 0, .int 0, .int 0, .int 0, .int 0, .int 0, .int 0])), (q5, .inl (cy (2 + 0), b_q 6 (va_up (va_up (va_up (va_up (va_up (va_up (fun _ => none) 0 (some q8)) 1 (some q9)) 2 (some q10)) 3 (some q11)) 4 (some q12)) 5 (some q13)))), (q6, .inr (3, [.ref q7, .int 0, .int 0, .int 0, .int 0, .int 0])), (q7, .inl (cy 0, 10, .inl (fun _ => 0))), (q8, .inr (2, [.int 0, .int 0, .int 0, .int 0, .int 0])), (q9, .inr (2, [.int 0, .int 0, .int 0, .int 0, .int 0])), (q10, .inr (2, [.int 0, .int 0, .int 0, .int 0, .int 0])), (q11, .inr (2, [.int 0, .int 0, .int 0, .int 0, .int 0])), (q12, .inr (2, [.int 0, .int 0, .int 0, .int 0, .int 0])), (q13, .inr (2, [.int 0, .int 0, .int 0, .int 0, .int 0])), (q14, .inr (1, [.ref q15, .ref q16, .int 0, .int 0, .int 0, .int 0, .int 0, .int 0, .int 0, .int 0, .int 0, .int 0])), (q15, .inl (cy (2 + 0), b_q 6 (va_up (va_up (va_up (va_up (va_up (va_up (fun _ => none) 0 (some q18)) 1 (some q19)) 2 (some q20)) 3 (some q21)) 4 (some q22)) 5 (some q23)))), (q16, .inr (3, [.ref q17, .int 0, .int 0, .int 0, .int 0, .int 0])), (q17, .inl (cy 0, 10, .inl (fun _ => 0))), (q18, .inr (2, [.int 0, .int 0, .int 0, .int 0, .int 0])), (q19, .inr (2, [.int 0, .int 0, .int 0, .int 0, .int 0])), (q20, .inr (2, [.int 0, .int 0, .int 0, .int 0, .int 0])), (q21, .inr (2, [.int 0, .int 0, .int 0, .int 0, .int 0])), (q22, .inr (2, [.int 0, .int 0, .int 0, .int 0, .int 0])), (q23, .inr (2, [.int 0, .int 0, .int 0, .int 0, .int 0])), (q24, .inl (cy (2 + 2), b_q 2 (va_up (va_up (fun _ => none) 0 (some q58)) 1 (some q68)))), (q25, .inr (0, [.ref q26, .ref q27, .ref q28, .int 0])), (q26, .inl (cy 0, 24, .inl (fun _ => 0))), (q27, .inl (cy 0, 24, .inl (fun _ => 0))), (q28, .inl (cy 0, 24, .inl (fun _ => 0))), (q29, .inr (5, [.ref q30, .int 0])), (q30, .inr (1, [.ref q31, .ref q32, .int 0, .int 0, .int 0, .int 0, .int 0, .int 0, .int 0, .int 0, .int 0, .int 0])), (q31, .inl (cy (2 + 0), b_q 6 (va_up (va_up (va_up (va_up (va_up (va_up (fun _ => none) 0 (some q34)) 1 (some q35)) 2 (some q36)) 3 (some q37)) 4 (some q38)) 5 (some q39)))), (q32, .inr (3, [.ref q33, .int 0, .int 0, .int 0, .int 0, .int 0])), (q33, .inl (cy 0, 10, .inl (fun _ => 0))), (q34, .inr (2, [.int 0, .int 0, .int 0, .int 0, .int 0])), (q35, .inr (2, [.int 0, .int 0, .int 0, .int 0, .int 0])), (q36, .inr (2, [.int 0, .int 0, .int 0, .int 0, .int 0])), (q37, .inr (2, [.int 0, .int 0, .int 0, .int 0, .int 0])), (q38, .inr (2, [.int 0, .int 0, .int 0, .int 0, .int 0])), (q39, .inr (2, [.int 0, .int 0, .int 0, .int 0, .int 0])), (q40, .inr (7, [.ref q41, .int 0])), (q41, .inl (cy 0, 16, .inl (fun _ => 0))), (q42, .inr (4, [.ref q43, .int 1, .int 0, .int 0])), (q43, .inl (cy 0, 40, .inl (fun _ => 0))), (q44, .inr (4, [.ref q45, .int 1, .int 0, .int 0])), (q45, .inl (cy 0, 40, .inl (fun _ => 0))), (q46, .inr (4, [.ref q47, .int 1, .int 0, .int 0])), (q47, .inl (cy 0, 40, .inl (fun _ => 0))), (q48, .inr (4, [.ref q49, .int 1, .int 0, .int 0])), (q49, .inl (cy 0, 40, .inl (fun _ => 0))), (q50, .inr (4, [.ref q51, .int 1, .int 0, .int 0])), (q51, .inl (cy 0, 40, .inl (fun _ => 0))), (q52, .inr (4, [.ref q53, .int 1, .int 0, .int 0])), (q53, .inl (cy 0, 40, .inl (fun _ => 0))), (q54, .inr (4, [.ref q55, .int 1, .int 0, .int 0])), (q55, .inl (cy 0, 40, .inl (fun _ => 0))), (q56, .inr (4, [.ref q57, .int 1, .int 0, .int 0])), (q57, .inl (cy 0, 40, .inl (fun _ => 0))), (q58, .inr (1, [.ref q59, .ref q60, .int 0, .int 0, .int 0, .int 0, .int 0, .int 0, .int 0, .int 0, .int 0, .int 0])), (q59, .inl (cy (2 + 0), b_q 6 (va_up (va_up (va_up (va_up (va_up (va_up (fun _ => none) 0 (some q62)) 1 (some q63)) 2 (some q64)) 3 (some q65)) 4 (some q66)) 5 (some q67)))), (q60, .inr (3, [.ref q61, .int 0, .int 0, .int 0, .int 0, .int 0])), (q61, .inl (cy 0, 10, .inl (fun _ => 0))), (q62, .inr (2, [.int 0, .int 0, .int 0, .int 0, .int 0])), (q63, .inr (2, [.int 0, .int 0, .int 0, .int 0, .int 0])), (q64, .inr (2, [.int 0, .int 0, .int 0, .int 0, .int 0])), (q65, .inr (2, [.int 0, .int 0, .int 0, .int 0, .int 0])), (q66, .inr (2, [.int 0, .int 0, .int 0, .int 0, .int 0])), (q67, .inr (2, [.int 0, .int 0, .int 0, .int 0, .int 0])), (q68, .inr (1, [.ref q69, .ref q70, .int 0, .int 0, .int 0, .int 0, .int 0, .int 0, .int 0, .int 0, .int 0, .int 0])), (q69, .inl (cy (2 + 0), b_q 6 (va_up (va_up (va_up (va_up (va_up (va_up (fun _ => none) 0 (some q72)) 1 (some q73)) 2 (some q74)) 3 (some q75)) 4 (some q76)) 5 (some q77)))), (q70, .inr (3, [.ref q71, .int 0, .int 0, .int 0, .int 0, .int 0])), (q71, .inl (cy 0, 10, .inl (fun _ => 0))), (q72, .inr (2, [.int 0, .int 0, .int 0, .int 0, .int 0])), (q73, .inr (2, [.int 0, .int 0, .int 0, .int 0, .int 0])), (q74, .inr (2, [.int 0, .int 0, .int 0, .int 0, .int 0])), (q75, .inr (2, [.int 0, .int 0, .int 0, .int 0, .int 0])), (q76, .inr (2, [.int 0, .int 0, .int 0, .int 0, .int 0])), (q77, .inr (2, [.int 0, .int 0, .int 0, .int 0, .int 0])), (h1, .inr (9, [.ref r1, .int 0, .int 0, .ref r2, .ref r3, .ref r4, .ref r5, .ref r6, .int 0, .int 0, .int 0, .ref r7, .int 0, .int 0, .int 0, .int 0, .ref r8, .ref r9, .ref r10, .ref r11, .int 0, .ref r12, .ref r13, .ref r14])), (r1, .inl (cy 0, 1092, .inl (fun _ => 0))), (r2, .inl (cy 1, 2, .inl (fun _ => 0))), (r3, .inl (cy 0, 8, .inl (fun _ => 0))), (r4, .inl (cy 0, 8, .inl (upd (upd (upd (upd (upd (upd (upd (upd (fun _ => 0) 0 (-1)) 1 (-1)) 2 (-1)) 3 (-1)) 4 (-1)) 5 (-1)) 6 (-1)) 7 (-1)))), (r5, .inl (cy 0, 320, .inl (fun _ => 0))), (r6, .inl (cy 0, 100, .inl (fun _ => 0))), (r7, .inl (cy 0, 16, .inl (fun _ => 0))), (r8, .inl (cy 0, 6, .inl (upd (upd (upd (upd (upd (upd (fun _ => 0) 0 2) 1 0) 2 0) 3 1) 4 0) 5 1))), (r9, .inl (cy 0, 6, .inl (upd (upd (upd (upd (upd (upd (fun _ => 0) 0 9) 1 6) 2 6) 3 9) 4 2) 5 9))), (r10, .inl (cy 0, 6, .inl (upd (upd (upd (upd (upd (upd (fun _ => 0) 0 0) 1 2) 2 3) 3 4) 4 5) 5 6))), (r11, .inl (cy 0, 10, .inl (fun _ => 0))), (r12, .inl (cy 0, 4, .inl (upd (upd (upd (upd (fun _ => 0) 0 2) 1 3) 2 4) 3 5))), (r13, .inl (cy 0, 4, .inl (upd (upd (upd (upd (fun _ => 0) 0 6) 1 6) 2 9) 3 2))), (r14, .inl (cy 0, 6, .inl (fun _ => 0)))]) :
    va_P D m_cl (m_ws cy (i_ad [h0, q1, q42, q44, q46, q48, q50, q52, q54, q56, q43, q45, q47, q49, q51, q53, q55, q57, q2, q3, q25, q26, q27, q28, q29, q40, q41, q24, q4, q5, q6, q7, q8, q9, q10, q11, q12, q13, q14, q15, q16, q17, q18, q19, q20, q21, q22, q23, q58, q59, q60, q61, q62, q63, q64, q65, q66, q67, q68, q69, q70, q71, q72, q73, q74, q75, q76, q77, q30, q31, q32, q33, q34, q35, q36, q37, q38, q39, h1, r1, r2, r3, r4, r5, r6, r7, r8, r9, r10, r11, r12, r13, r14] l2) (i_g xs)) H ∧ va_D A (m_ws cy (i_ad [h0, q1, q42, q44, q46, q48, q50, q52, q54, q56, q43, q45, q47, q49, q51, q53, q55, q57, q2, q3, q25, q26, q27, q28, q29, q40, q41, q24, q4, q5, q6, q7, q8, q9, q10, q11, q12, q13, q14, q15, q16, q17, q18, q19, q20, q21, q22, q23, q58, q59, q60, q61, q62, q63, q64, q65, q66, q67, q68, q69, q70, q71, q72, q73, q74, q75, q76, q77, q30, q31, q32, q33, q34, q35, q36, q37, q38, q39, h1, r1, r2, r3, r4, r5, r6, r7, r8, r9, r10, r11, r12, r13, r14] l2) (i_g xs)) := by
  refine i_mw hD ?_
  refine i_step ?_ ⟨⟨_, rfl, rfl⟩, hP 92 _ rfl⟩
  refine i_step ?_ ⟨⟨_, rfl, rfl⟩, hP 91 _ rfl⟩
  refine i_step ?_ ⟨⟨_, rfl, rfl⟩, hP 90 _ rfl⟩
  refine i_step ?_ ⟨⟨_, rfl, rfl⟩, hP 89 _ rfl⟩
  refine i_step ?_ ⟨⟨_, rfl, rfl⟩, hP 88 _ rfl⟩
  refine i_step ?_ ⟨⟨_, rfl, rfl⟩, hP 87 _ rfl⟩
  refine i_step ?_ ⟨⟨_, rfl, rfl⟩, hP 86 _ rfl⟩
  refine i_step ?_ ⟨⟨_, rfl, rfl⟩, hP 85 _ rfl⟩
  refine i_step ?_ ⟨⟨_, rfl, rfl⟩, hP 84 _ rfl⟩
  refine i_step ?_ ⟨⟨_, rfl, rfl⟩, hP 83 _ rfl⟩
  refine i_step ?_ ⟨⟨_, rfl, rfl⟩, hP 82 _ rfl⟩
  refine i_step ?_ ⟨⟨_, rfl, rfl⟩, hP 81 _ rfl⟩
  refine i_step ?_ ⟨⟨_, rfl, rfl⟩, hP 80 _ rfl⟩
  refine i_step ?_ ⟨⟨_, rfl, rfl⟩, hP 79 _ rfl⟩
  refine i_step ?_ ⟨⟨_, rfl, rfl⟩, hP 78 _ rfl⟩
  refine i_step ?_ ⟨⟨_, rfl, rfl⟩, hP 39 _ rfl⟩
  refine i_step ?_ ⟨⟨_, rfl, rfl⟩, hP 38 _ rfl⟩
  refine i_step ?_ ⟨⟨_, rfl, rfl⟩, hP 37 _ rfl⟩
  refine i_step ?_ ⟨⟨_, rfl, rfl⟩, hP 36 _ rfl⟩
  refine i_step ?_ ⟨⟨_, rfl, rfl⟩, hP 35 _ rfl⟩
  refine i_step ?_ ⟨⟨_, rfl, rfl⟩, hP 34 _ rfl⟩
  refine i_step ?_ ⟨⟨_, rfl, rfl⟩, hP 33 _ rfl⟩
  refine i_step ?_ ⟨⟨_, rfl, rfl⟩, hP 32 _ rfl⟩
  refine i_step ?_ ⟨⟨_, rfl, rfl⟩, i_q (n := 6) (hP 31 _ rfl) (by intro i hi; rcases (show i = 0 ∨ i = 1 ∨ i = 2 ∨ i = 3 ∨ i = 4 ∨ i = 5 by omega) with rfl | rfl | rfl | rfl | rfl | rfl <;> rfl)⟩
  refine i_step ?_ ⟨⟨_, rfl, rfl⟩, hP 30 _ rfl⟩
  refine i_step ?_ ⟨⟨_, rfl, rfl⟩, hP 77 _ rfl⟩
  refine i_step ?_ ⟨⟨_, rfl, rfl⟩, hP 76 _ rfl⟩
  refine i_step ?_ ⟨⟨_, rfl, rfl⟩, hP 75 _ rfl⟩
  refine i_step ?_ ⟨⟨_, rfl, rfl⟩, hP 74 _ rfl⟩
  refine i_step ?_ ⟨⟨_, rfl, rfl⟩, hP 73 _ rfl⟩
  refine i_step ?_ ⟨⟨_, rfl, rfl⟩, hP 72 _ rfl⟩
  refine i_step ?_ ⟨⟨_, rfl, rfl⟩, hP 71 _ rfl⟩
  refine i_step ?_ ⟨⟨_, rfl, rfl⟩, hP 70 _ rfl⟩
  refine i_step ?_ ⟨⟨_, rfl, rfl⟩, i_q (n := 6) (hP 69 _ rfl) (by intro i hi; rcases (show i = 0 ∨ i = 1 ∨ i = 2 ∨ i = 3 ∨ i = 4 ∨ i = 5 by omega) with rfl | rfl | rfl | rfl | rfl | rfl <;> rfl)⟩
  refine i_step ?_ ⟨⟨_, rfl, rfl⟩, hP 68 _ rfl⟩
  refine i_step ?_ ⟨⟨_, rfl, rfl⟩, hP 67 _ rfl⟩
  refine i_step ?_ ⟨⟨_, rfl, rfl⟩, hP 66 _ rfl⟩
  refine i_step ?_ ⟨⟨_, rfl, rfl⟩, hP 65 _ rfl⟩
  refine i_step ?_ ⟨⟨_, rfl, rfl⟩, hP 64 _ rfl⟩
  refine i_step ?_ ⟨⟨_, rfl, rfl⟩, hP 63 _ rfl⟩
  refine i_step ?_ ⟨⟨_, rfl, rfl⟩, hP 62 _ rfl⟩
  refine i_step ?_ ⟨⟨_, rfl, rfl⟩, hP 61 _ rfl⟩
  refine i_step ?_ ⟨⟨_, rfl, rfl⟩, hP 60 _ rfl⟩
  refine i_step ?_ ⟨⟨_, rfl, rfl⟩, i_q (n := 6) (hP 59 _ rfl) (by intro i hi; rcases (show i = 0 ∨ i = 1 ∨ i = 2 ∨ i = 3 ∨ i = 4 ∨ i = 5 by omega) with rfl | rfl | rfl | rfl | rfl | rfl <;> rfl)⟩
  refine i_step ?_ ⟨⟨_, rfl, rfl⟩, hP 58 _ rfl⟩
  refine i_step ?_ ⟨⟨_, rfl, rfl⟩, hP 23 _ rfl⟩
  refine i_step ?_ ⟨⟨_, rfl, rfl⟩, hP 22 _ rfl⟩
  refine i_step ?_ ⟨⟨_, rfl, rfl⟩, hP 21 _ rfl⟩
  refine i_step ?_ ⟨⟨_, rfl, rfl⟩, hP 20 _ rfl⟩
  refine i_step ?_ ⟨⟨_, rfl, rfl⟩, hP 19 _ rfl⟩
  refine i_step ?_ ⟨⟨_, rfl, rfl⟩, hP 18 _ rfl⟩
  refine i_step ?_ ⟨⟨_, rfl, rfl⟩, hP 17 _ rfl⟩
  refine i_step ?_ ⟨⟨_, rfl, rfl⟩, hP 16 _ rfl⟩
  refine i_step ?_ ⟨⟨_, rfl, rfl⟩, i_q (n := 6) (hP 15 _ rfl) (by intro i hi; rcases (show i = 0 ∨ i = 1 ∨ i = 2 ∨ i = 3 ∨ i = 4 ∨ i = 5 by omega) with rfl | rfl | rfl | rfl | rfl | rfl <;> rfl)⟩
  refine i_step ?_ ⟨⟨_, rfl, rfl⟩, hP 14 _ rfl⟩
  refine i_step ?_ ⟨⟨_, rfl, rfl⟩, hP 13 _ rfl⟩
  refine i_step ?_ ⟨⟨_, rfl, rfl⟩, hP 12 _ rfl⟩
  refine i_step ?_ ⟨⟨_, rfl, rfl⟩, hP 11 _ rfl⟩
  refine i_step ?_ ⟨⟨_, rfl, rfl⟩, hP 10 _ rfl⟩
  refine i_step ?_ ⟨⟨_, rfl, rfl⟩, hP 9 _ rfl⟩
  refine i_step ?_ ⟨⟨_, rfl, rfl⟩, hP 8 _ rfl⟩
  refine i_step ?_ ⟨⟨_, rfl, rfl⟩, hP 7 _ rfl⟩
  refine i_step ?_ ⟨⟨_, rfl, rfl⟩, hP 6 _ rfl⟩
  refine i_step ?_ ⟨⟨_, rfl, rfl⟩, i_q (n := 6) (hP 5 _ rfl) (by intro i hi; rcases (show i = 0 ∨ i = 1 ∨ i = 2 ∨ i = 3 ∨ i = 4 ∨ i = 5 by omega) with rfl | rfl | rfl | rfl | rfl | rfl <;> rfl)⟩
  refine i_step ?_ ⟨⟨_, rfl, rfl⟩, hP 4 _ rfl⟩
  refine i_step ?_ ⟨⟨_, rfl, rfl⟩, i_q (n := 2) (hP 24 _ rfl) (by intro i hi; rcases (show i = 0 ∨ i = 1 by omega) with rfl | rfl <;> rfl)⟩
  refine i_step ?_ ⟨⟨_, rfl, rfl⟩, hP 41 _ rfl⟩
  refine i_step ?_ ⟨⟨_, rfl, rfl⟩, hP 40 _ rfl⟩
  refine i_step ?_ ⟨⟨_, rfl, rfl⟩, hP 29 _ rfl⟩
  refine i_step ?_ ⟨⟨_, rfl, rfl⟩, hP 28 _ rfl⟩
  refine i_step ?_ ⟨⟨_, rfl, rfl⟩, hP 27 _ rfl⟩
  refine i_step ?_ ⟨⟨_, rfl, rfl⟩, hP 26 _ rfl⟩
  refine i_step ?_ ⟨⟨_, rfl, rfl⟩, hP 25 _ rfl⟩
  refine i_step ?_ ⟨⟨_, rfl, rfl⟩, hP 3 _ rfl⟩
  refine i_step ?_ ⟨⟨_, rfl, rfl⟩, hP 2 _ rfl⟩
  refine i_step ?_ ⟨⟨_, rfl, rfl⟩, hP 57 _ rfl⟩
  refine i_step ?_ ⟨⟨_, rfl, rfl⟩, hP 55 _ rfl⟩
  refine i_step ?_ ⟨⟨_, rfl, rfl⟩, hP 53 _ rfl⟩
  refine i_step ?_ ⟨⟨_, rfl, rfl⟩, hP 51 _ rfl⟩
  refine i_step ?_ ⟨⟨_, rfl, rfl⟩, hP 49 _ rfl⟩
  refine i_step ?_ ⟨⟨_, rfl, rfl⟩, hP 47 _ rfl⟩
  refine i_step ?_ ⟨⟨_, rfl, rfl⟩, hP 45 _ rfl⟩
  refine i_step ?_ ⟨⟨_, rfl, rfl⟩, hP 43 _ rfl⟩
  refine i_step ?_ ⟨⟨_, rfl, rfl⟩, hP 56 _ rfl⟩
  refine i_step ?_ ⟨⟨_, rfl, rfl⟩, hP 54 _ rfl⟩
  refine i_step ?_ ⟨⟨_, rfl, rfl⟩, hP 52 _ rfl⟩
  refine i_step ?_ ⟨⟨_, rfl, rfl⟩, hP 50 _ rfl⟩
  refine i_step ?_ ⟨⟨_, rfl, rfl⟩, hP 48 _ rfl⟩
  refine i_step ?_ ⟨⟨_, rfl, rfl⟩, hP 46 _ rfl⟩
  refine i_step ?_ ⟨⟨_, rfl, rfl⟩, hP 44 _ rfl⟩
  refine i_step ?_ ⟨⟨_, rfl, rfl⟩, hP 42 _ rfl⟩
  refine i_step ?_ ⟨⟨_, rfl, rfl⟩, i_q (n := 8) (hP 1 _ rfl) (by intro i hi; rcases (show i = 0 ∨ i = 1 ∨ i = 2 ∨ i = 3 ∨ i = 4 ∨ i = 5 ∨ i = 6 ∨ i = 7 by omega) with rfl | rfl | rfl | rfl | rfl | rfl | rfl | rfl <;> rfl)⟩
  refine i_step ?_ ⟨⟨_, rfl, rfl⟩, hP 0 _ rfl⟩
  exact i_zero
