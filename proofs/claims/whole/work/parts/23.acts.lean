theorem TW.start {g : m_G} {k : Nat} {t : m_T} (h : TW g k t) (v : Int32) : TW (m_up g k 4 v) k (upd t 2 v) := by
  have e : ∀ j, j ≠ 2 → upd t 2 v j = t j := fun j hj => by simp [upd, hj]
  have e2 : upd t 2 v 2 = v := by simp [upd]
  refine ⟨⟨?_, ?_, ?_, ?_, ?_, ?_, ?_, ?_, ?_⟩, fun i hi hc => ?_⟩
  rotate_left 9
  · rw [m_up_o (show k + 4 + i ≠ k by omega), e (9 + i) (by omega), e (15 + i) (by omega), e (21 + i) (by omega), e (27 + i) (by omega), e (33 + i) (by omega)]
    exact h.2 i hi (by rw [e 1 (by decide)] at hc; exact hc)
  all_goals (rw [m_up_k]; first | (rw [if_pos rfl, e2]; done) | (rw [if_neg (by decide), e _ (by decide)]; simp only [h.1.1, h.1.2.1, h.1.2.2.1, h.1.2.2.2.1, h.1.2.2.2.2.1, h.1.2.2.2.2.2.1, h.1.2.2.2.2.2.2.1, h.1.2.2.2.2.2.2.2.1, h.1.2.2.2.2.2.2.2.2]))
theorem TW.drift {g : m_G} {k : Nat} {t : m_T} (h : TW g k t) (v : Int32) : TW (m_up g k 5 v) k (upd t 3 v) := by
  have e : ∀ j, j ≠ 3 → upd t 3 v j = t j := fun j hj => by simp [upd, hj]
  have e2 : upd t 3 v 3 = v := by simp [upd]
  refine ⟨⟨?_, ?_, ?_, ?_, ?_, ?_, ?_, ?_, ?_⟩, fun i hi hc => ?_⟩
  rotate_left 9
  · rw [m_up_o (show k + 4 + i ≠ k by omega), e (9 + i) (by omega), e (15 + i) (by omega), e (21 + i) (by omega), e (27 + i) (by omega), e (33 + i) (by omega)]
    exact h.2 i hi (by rw [e 1 (by decide)] at hc; exact hc)
  all_goals (rw [m_up_k]; first | (rw [if_pos rfl, e2]; done) | (rw [if_neg (by decide), e _ (by decide)]; simp only [h.1.1, h.1.2.1, h.1.2.2.1, h.1.2.2.2.1, h.1.2.2.2.2.1, h.1.2.2.2.2.2.1, h.1.2.2.2.2.2.2.1, h.1.2.2.2.2.2.2.2.1, h.1.2.2.2.2.2.2.2.2]))
theorem TW.speed {g : m_G} {k : Nat} {t : m_T} (h : TW g k t) (v : Int32) : TW (m_up g k 6 v) k (upd t 4 v) := by
  have e : ∀ j, j ≠ 4 → upd t 4 v j = t j := fun j hj => by simp [upd, hj]
  have e2 : upd t 4 v 4 = v := by simp [upd]
  refine ⟨⟨?_, ?_, ?_, ?_, ?_, ?_, ?_, ?_, ?_⟩, fun i hi hc => ?_⟩
  rotate_left 9
  · rw [m_up_o (show k + 4 + i ≠ k by omega), e (9 + i) (by omega), e (15 + i) (by omega), e (21 + i) (by omega), e (27 + i) (by omega), e (33 + i) (by omega)]
    exact h.2 i hi (by rw [e 1 (by decide)] at hc; exact hc)
  all_goals (rw [m_up_k]; first | (rw [if_pos rfl, e2]; done) | (rw [if_neg (by decide), e _ (by decide)]; simp only [h.1.1, h.1.2.1, h.1.2.2.1, h.1.2.2.2.1, h.1.2.2.2.2.1, h.1.2.2.2.2.2.1, h.1.2.2.2.2.2.2.1, h.1.2.2.2.2.2.2.2.1, h.1.2.2.2.2.2.2.2.2]))
theorem TW.tend {g : m_G} {k : Nat} {t : m_T} (h : TW g k t) (v : Int32) : TW (m_up g k 7 v) k (upd t 5 v) := by
  have e : ∀ j, j ≠ 5 → upd t 5 v j = t j := fun j hj => by simp [upd, hj]
  have e2 : upd t 5 v 5 = v := by simp [upd]
  refine ⟨⟨?_, ?_, ?_, ?_, ?_, ?_, ?_, ?_, ?_⟩, fun i hi hc => ?_⟩
  rotate_left 9
  · rw [m_up_o (show k + 4 + i ≠ k by omega), e (9 + i) (by omega), e (15 + i) (by omega), e (21 + i) (by omega), e (27 + i) (by omega), e (33 + i) (by omega)]
    exact h.2 i hi (by rw [e 1 (by decide)] at hc; exact hc)
  all_goals (rw [m_up_k]; first | (rw [if_pos rfl, e2]; done) | (rw [if_neg (by decide), e _ (by decide)]; simp only [h.1.1, h.1.2.1, h.1.2.2.1, h.1.2.2.2.1, h.1.2.2.2.2.1, h.1.2.2.2.2.2.1, h.1.2.2.2.2.2.2.1, h.1.2.2.2.2.2.2.2.1, h.1.2.2.2.2.2.2.2.2]))
theorem TW.year {g : m_G} {k : Nat} {t : m_T} (h : TW g k t) (v : Int32) : TW (m_up g k 9 v) k (upd t 7 v) := by
  have e : ∀ j, j ≠ 7 → upd t 7 v j = t j := fun j hj => by simp [upd, hj]
  have e2 : upd t 7 v 7 = v := by simp [upd]
  refine ⟨⟨?_, ?_, ?_, ?_, ?_, ?_, ?_, ?_, ?_⟩, fun i hi hc => ?_⟩
  rotate_left 9
  · rw [m_up_o (show k + 4 + i ≠ k by omega), e (9 + i) (by omega), e (15 + i) (by omega), e (21 + i) (by omega), e (27 + i) (by omega), e (33 + i) (by omega)]
    exact h.2 i hi (by rw [e 1 (by decide)] at hc; exact hc)
  all_goals (rw [m_up_k]; first | (rw [if_pos rfl, e2]; done) | (rw [if_neg (by decide), e _ (by decide)]; simp only [h.1.1, h.1.2.1, h.1.2.2.1, h.1.2.2.2.1, h.1.2.2.2.2.1, h.1.2.2.2.2.2.1, h.1.2.2.2.2.2.2.1, h.1.2.2.2.2.2.2.2.1, h.1.2.2.2.2.2.2.2.2]))
theorem TW.opn {g : m_G} {k : Nat} {t : m_T} (h : TW g k t) (v : Int32) : TW (m_up g k 11 v) k (upd t 8 v) := by
  have e : ∀ j, j ≠ 8 → upd t 8 v j = t j := fun j hj => by simp [upd, hj]
  have e2 : upd t 8 v 8 = v := by simp [upd]
  refine ⟨⟨?_, ?_, ?_, ?_, ?_, ?_, ?_, ?_, ?_⟩, fun i hi hc => ?_⟩
  rotate_left 9
  · rw [m_up_o (show k + 4 + i ≠ k by omega), e (9 + i) (by omega), e (15 + i) (by omega), e (21 + i) (by omega), e (27 + i) (by omega), e (33 + i) (by omega)]
    exact h.2 i hi (by rw [e 1 (by decide)] at hc; exact hc)
  all_goals (rw [m_up_k]; first | (rw [if_pos rfl, e2]; done) | (rw [if_neg (by decide), e _ (by decide)]; simp only [h.1.1, h.1.2.1, h.1.2.2.1, h.1.2.2.2.1, h.1.2.2.2.2.1, h.1.2.2.2.2.2.1, h.1.2.2.2.2.2.2.1, h.1.2.2.2.2.2.2.2.1, h.1.2.2.2.2.2.2.2.2]))
theorem TW.kind {g : m_G} {k : Nat} {t : m_T} (h : TW g k t) {i : Nat} (hi : i < 6) (v : Int32) : TW (m_up g (k + 4 + i) 0 v) k (upd t (9 + i) v) := by
  have e : ∀ j, j ≠ 9 + i → upd t (9 + i) v j = t j := fun j hj => by simp [upd, hj]
  have e2 : upd t (9 + i) v (9 + i) = v := by simp [upd]
  refine ⟨?_, fun q hq hc => ?_⟩
  · rw [m_up_o (show k ≠ k + 4 + i by omega), e 0 (by omega), e 1 (by omega), e 2 (by omega), e 3 (by omega), e 4 (by omega), e 5 (by omega), e 6 (by omega), e 7 (by omega), e 8 (by omega)]
    exact h.1
  · rw [e 1 (by omega)] at hc
    have hh := h.2 q hq hc
    by_cases eq : q = i
    · subst eq
      refine ⟨?_, ?_, ?_, ?_, ?_⟩
      all_goals (rw [m_up_k]; first | (rw [if_pos rfl, e2]; done) | (rw [if_neg (by decide), e _ (by omega)]; simp only [hh.1, hh.2.1, hh.2.2.1, hh.2.2.2.1, hh.2.2.2.2]))
    · rw [m_up_o (show k + 4 + q ≠ k + 4 + i by omega), e _ (by omega), e _ (by omega), e _ (by omega), e _ (by omega), e _ (by omega)]
      exact hh
theorem TW.tier {g : m_G} {k : Nat} {t : m_T} (h : TW g k t) {i : Nat} (hi : i < 6) (v : Int32) : TW (m_up g (k + 4 + i) 1 v) k (upd t (15 + i) v) := by
  have e : ∀ j, j ≠ 15 + i → upd t (15 + i) v j = t j := fun j hj => by simp [upd, hj]
  have e2 : upd t (15 + i) v (15 + i) = v := by simp [upd]
  refine ⟨?_, fun q hq hc => ?_⟩
  · rw [m_up_o (show k ≠ k + 4 + i by omega), e 0 (by omega), e 1 (by omega), e 2 (by omega), e 3 (by omega), e 4 (by omega), e 5 (by omega), e 6 (by omega), e 7 (by omega), e 8 (by omega)]
    exact h.1
  · rw [e 1 (by omega)] at hc
    have hh := h.2 q hq hc
    by_cases eq : q = i
    · subst eq
      refine ⟨?_, ?_, ?_, ?_, ?_⟩
      all_goals (rw [m_up_k]; first | (rw [if_pos rfl, e2]; done) | (rw [if_neg (by decide), e _ (by omega)]; simp only [hh.1, hh.2.1, hh.2.2.1, hh.2.2.2.1, hh.2.2.2.2]))
    · rw [m_up_o (show k + 4 + q ≠ k + 4 + i by omega), e _ (by omega), e _ (by omega), e _ (by omega), e _ (by omega), e _ (by omega)]
      exact hh
theorem TW.line {g : m_G} {k : Nat} {t : m_T} (h : TW g k t) {i : Nat} (hi : i < 6) (v : Int32) : TW (m_up g (k + 4 + i) 2 v) k (upd t (21 + i) v) := by
  have e : ∀ j, j ≠ 21 + i → upd t (21 + i) v j = t j := fun j hj => by simp [upd, hj]
  have e2 : upd t (21 + i) v (21 + i) = v := by simp [upd]
  refine ⟨?_, fun q hq hc => ?_⟩
  · rw [m_up_o (show k ≠ k + 4 + i by omega), e 0 (by omega), e 1 (by omega), e 2 (by omega), e 3 (by omega), e 4 (by omega), e 5 (by omega), e 6 (by omega), e 7 (by omega), e 8 (by omega)]
    exact h.1
  · rw [e 1 (by omega)] at hc
    have hh := h.2 q hq hc
    by_cases eq : q = i
    · subst eq
      refine ⟨?_, ?_, ?_, ?_, ?_⟩
      all_goals (rw [m_up_k]; first | (rw [if_pos rfl, e2]; done) | (rw [if_neg (by decide), e _ (by omega)]; simp only [hh.1, hh.2.1, hh.2.2.1, hh.2.2.2.1, hh.2.2.2.2]))
    · rw [m_up_o (show k + 4 + q ≠ k + 4 + i by omega), e _ (by omega), e _ (by omega), e _ (by omega), e _ (by omega), e _ (by omega)]
      exact hh
theorem TW.got {g : m_G} {k : Nat} {t : m_T} (h : TW g k t) {i : Nat} (hi : i < 6) (v : Int32) : TW (m_up g (k + 4 + i) 4 v) k (upd t (33 + i) v) := by
  have e : ∀ j, j ≠ 33 + i → upd t (33 + i) v j = t j := fun j hj => by simp [upd, hj]
  have e2 : upd t (33 + i) v (33 + i) = v := by simp [upd]
  refine ⟨?_, fun q hq hc => ?_⟩
  · rw [m_up_o (show k ≠ k + 4 + i by omega), e 0 (by omega), e 1 (by omega), e 2 (by omega), e 3 (by omega), e 4 (by omega), e 5 (by omega), e 6 (by omega), e 7 (by omega), e 8 (by omega)]
    exact h.1
  · rw [e 1 (by omega)] at hc
    have hh := h.2 q hq hc
    by_cases eq : q = i
    · subst eq
      refine ⟨?_, ?_, ?_, ?_, ?_⟩
      all_goals (rw [m_up_k]; first | (rw [if_pos rfl, e2]; done) | (rw [if_neg (by decide), e _ (by omega)]; simp only [hh.1, hh.2.1, hh.2.2.1, hh.2.2.2.1, hh.2.2.2.2]))
    · rw [m_up_o (show k + 4 + q ≠ k + 4 + i by omega), e _ (by omega), e _ (by omega), e _ (by omega), e _ (by omega), e _ (by omega)]
      exact hh
theorem a_TK.t0 {t : m_T} (h : a_TK t) : t 0 ≤ 9 := Int32.not_lt.mp h.1.2
theorem a_TK.t1 {t : m_T} (h : a_TK t) : t 1 ≤ 6 := Int32.not_lt.mp h.2.1.2
theorem a_TK.t6 {t : m_T} (h : a_TK t) : ¬ t 6 ≤ 0 := by
  have := h.2.2.2.2.2.2.1.1
  rw [i32_lt] at this; rw [i32_le]
  have e1 := ti1; have e0 := ti0
  omega
theorem a_TK.t4 {t : m_T} (h : a_TK t) : ¬ t 4 ≤ 0 := by
  have := h.2.2.2.2.1.1
  rw [i32_lt] at this; rw [i32_le]
  have e1 := ti1; have e0 := ti0
  omega
theorem a_TK.kd {t : m_T} (h : a_TK t) : tKD t := fun i hi hc => (h.2.2.2.2.2.2.2.2 i hi hc).1
theorem sTop_wn {t : m_T} {d : Int32} (h2 : wn (t 2) 0 6) (h3 : wn (t 3) 0 6) (h7 : wn (t 7) 0 999) (hd : wn d 0 60) : wn (sTop t d) 0 6 := by
  obtain ⟨a, ha, ea⟩ := wn_ex (n := 6) h2 rfl
  obtain ⟨b, hb, eb⟩ := wn_ex (n := 6) h3 rfl
  obtain ⟨y, hy, ey⟩ := wn_ex (n := 999) h7 rfl
  obtain ⟨k, hk, rfl⟩ := wn_ex (n := 60) hd rfl
  unfold sTop ire
  have hm : b * (y + k) ≤ 6 * 1059 := Nat.mul_le_mul hb (by omega)
  rw [ea, eb, ey, nI_add, pk_mul, nI_add, show (7 : Int32) = nI 7 from rfl, pk_rem (by omega) (by decide) (by decide)]
  exact wn_nI (n := 6) rfl (by omega) (by decide)
theorem a_TK.top {t : m_T} (h : a_TK t) {d : Int32} (hd : wn d 0 60) : wn (sTop t d) 0 6 := sTop_wn h.2.2.1 h.2.2.2.1 h.2.2.2.2.2.2.2.1 hd
theorem sAt_go {t : m_T} : ∀ (n i : Nat) (ln sp : Int32) (Ls : Nat → Int32) {h : Nat}, (sGo t n i ln sp Ls).1 = some h → h < 6 ∧ ¬ t 1 ≤ nI h
  | 0, i, ln, sp, Ls, h, q => by cases q
  | n + 1, i, ln, sp, Ls, h, q => by
    unfold sGo at q
    split at q
    · cases q
    · cases hs : sAt t (nI i) (sSt t i ln) with
      | none => rw [hs] at q; exact sAt_go n _ _ _ _ q
      | some z =>
        rw [hs] at q
        dsimp only at q
        split at q
        · cases q; exact sAt_lt hs
        · split at q
          · cases q; exact sAt_lt hs
          · exact sAt_go n _ _ _ _ q
theorem sRun_lt {t : m_T} {x : Int32} {h : Nat} (q : (sRun t x).1 = some h) : h < 6 ∧ ¬ t 1 ≤ nI h := sAt_go 9 1 _ _ _ q
theorem sRun6 {t : m_T} {x : Int32} : ∀ i, (sRun t x).1 = some i → i < 6 := fun i h => (sRun_lt h).1
def a_push (t : m_T) (ps : List m_T) : List m_T := (t :: ps).take 24
theorem a_push_len (t : m_T) (ps : List m_T) (h : ps.length ≤ 24) : (a_push t ps).length = if ps.length = 24 then 24 else ps.length + 1 := by
  unfold a_push
  rw [List.length_take]
  have : (t :: ps).length = ps.length + 1 := rfl
  split <;> omega
theorem a_push_lt (t : m_T) (ps : List m_T) (h : ps.length < 24) : a_push t ps = t :: ps := by
  unfold a_push
  exact List.take_of_length_le (by show ps.length + 1 ≤ 24; omega)
theorem a_push_24 (t : m_T) (ps : List m_T) : a_push t ps = t :: ps.take 23 := rfl
theorem C_ac.keptN {g g2 : m_G} : ∀ (n : Nat) (t : m_T) (ps : List m_T), (∀ i, i < n → g2 21 i = g 21 i ∧ g2 22 i = g 22 i ∧ g2 23 i = g 23 i) → C_ac g n t ps → C_ac g2 n t ps
  | 0, _, [], _, _ => trivial
  | n + 1, t, p :: ps, hk, h => ⟨by rw [(hk n (by omega)).1, (hk n (by omega)).2.1, (hk n (by omega)).2.2]; exact h.1, C_ac.keptN n p ps (fun i hi => hk i (by omega)) h.2⟩
  | 0, _, _ :: _, _, h => h.elim
  | _ + 1, _, [], _, h => h.elim
theorem C_ac.shift {g g2 : m_G} : ∀ (n : Nat) (t : m_T) (ps : List m_T), (∀ i, i < n → g2 21 i = g 21 (i + 1) ∧ g2 22 i = g 22 (i + 1) ∧ g2 23 i = g 23 (i + 1)) → C_ac g (n + 1) t ps → C_ac g2 n t (ps.take n)
  | 0, _, p :: ps, _, _ => trivial
  | n + 1, t, p :: ps, hk, h => ⟨by rw [(hk n (by omega)).1, (hk n (by omega)).2.1, (hk n (by omega)).2.2]; exact h.1, C_ac.shift n p ps (fun i hi => hk i (by omega)) h.2⟩
  | 0, _, [], _, h => h.elim
  | _ + 1, _, [], _, h => h.elim
theorem M_pa.shift {g g2 : m_G} (hk : ∀ k, k < 897 → g2 79 (39 + k) = g 79 (78 + k)) : ∀ (n : Nat) (ps : List m_T), ps.length = n + 1 → n ≤ 23 → M_pa g ps → M_pa g2 (ps.take n)
  | 0, _ :: _, _, _, _ => trivial
  | n + 1, p :: ps, hl, hn, h => by
    have hl2 : ps.length = n + 1 := by simpa using hl
    refine ⟨fun j hj => ?_, M_pa.shift hk n ps hl2 (by omega) h.2⟩
    rw [List.length_take, hl2, show min n (n + 1) = n by omega, show 39 + 39 * n + j = 39 + (39 * n + j) by omega, hk _ (by omega)]
    have := h.1 j hj
    rw [hl2] at this
    rw [show 78 + (39 * n + j) = 39 + 39 * (n + 1) + j by omega]
    exact this
  | _, [], hl, _, _ => by simp at hl
theorem c_X0_forgetOldest {SL : Nat} {d : Nat} {Q : Option Int32 → m_G → Prop} {g : m_G} (hQ : ∀ g2, m_fr [20, 21, 22, 23] g g2 → g2 20 3 = 23 → (∀ i, i < 23 → g2 21 i = g 21 (i + 1) ∧ g2 22 i = g 22 (i + 1) ∧ g2 23 i = g 23 (i + 1)) → Q none g2) : Sim SL (d + 1) yX0_forgetOldest cX0_forgetOldest 1 none 0 [.ref 20] [] g Q := by
  refine s_aload_n (n := 1) dX0_forgetOldest_0 rfl rfl rfl ?_
  refine s_bipush (v := 23) (n := 3) dX0_forgetOldest_1 rfl (by decide) ?_
  refine s_puti (n := 6) dX0_forgetOldest_3 rfl fl_X0_21 rfl rfl rfl ?_
  refine s_aload_n (n := 7) dX0_forgetOldest_6 rfl rfl rfl ?_
  refine s_getr (k2 := 21) (n := 10) dX0_forgetOldest_7 rfl fl_X0_9 rfl rfl rfl ?_
  refine s_iconst (v := 1) (n := 11) dX0_forgetOldest_10 rfl (by decide) ?_
  refine s_aload_n (n := 12) dX0_forgetOldest_11 rfl rfl rfl ?_
  refine s_getr (k2 := 21) (n := 15) dX0_forgetOldest_12 rfl fl_X0_9 rfl rfl rfl ?_
  refine s_iconst (v := 0) (n := 16) dX0_forgetOldest_15 rfl (by decide) ?_
  refine s_aload_n (n := 17) dX0_forgetOldest_16 rfl rfl rfl ?_
  refine s_geti (n := 20) dX0_forgetOldest_17 rfl fl_X0_21 rfl rfl ?_
  have e20 : (m_up g 20 3 23) 20 3 = nI 23 := by rw [m_up_k, if_pos rfl]; rfl
  refine s_copy 1 0 23 (n := 23) dX0_forgetOldest_20 rfl mlc_X0_28 m_acw (by omega) rfl rfl rfl rfl e20 (by decide) (by decide) (Nat.le_of_ble_eq_true rfl) ?_
  refine s_aload_n (n := 24) dX0_forgetOldest_23 rfl rfl rfl ?_
  refine s_getr (k2 := 22) (n := 27) dX0_forgetOldest_24 rfl fl_X0_15 rfl rfl rfl ?_
  refine s_iconst (v := 1) (n := 28) dX0_forgetOldest_27 rfl (by decide) ?_
  refine s_aload_n (n := 29) dX0_forgetOldest_28 rfl rfl rfl ?_
  refine s_getr (k2 := 22) (n := 32) dX0_forgetOldest_29 rfl fl_X0_15 rfl rfl rfl ?_
  refine s_iconst (v := 0) (n := 33) dX0_forgetOldest_32 rfl (by decide) ?_
  refine s_aload_n (n := 34) dX0_forgetOldest_33 rfl rfl rfl ?_
  refine s_geti (n := 37) dX0_forgetOldest_34 rfl fl_X0_21 rfl rfl ?_
  rw [m_ur_o (show (20 : Nat) ≠ 21 by decide)]
  refine s_copy 1 0 23 (n := 40) dX0_forgetOldest_37 rfl mlc_X0_28 m_acw (by omega) rfl rfl rfl rfl e20 (by decide) (by decide) (Nat.le_of_ble_eq_true rfl) ?_
  refine s_aload_n (n := 41) dX0_forgetOldest_40 rfl rfl rfl ?_
  refine s_getr (k2 := 23) (n := 44) dX0_forgetOldest_41 rfl fl_X0_18 rfl rfl rfl ?_
  refine s_iconst (v := 1) (n := 45) dX0_forgetOldest_44 rfl (by decide) ?_
  refine s_aload_n (n := 46) dX0_forgetOldest_45 rfl rfl rfl ?_
  refine s_getr (k2 := 23) (n := 49) dX0_forgetOldest_46 rfl fl_X0_18 rfl rfl rfl ?_
  refine s_iconst (v := 0) (n := 50) dX0_forgetOldest_49 rfl (by decide) ?_
  refine s_aload_n (n := 51) dX0_forgetOldest_50 rfl rfl rfl ?_
  refine s_geti (n := 54) dX0_forgetOldest_51 rfl fl_X0_21 rfl rfl ?_
  rw [m_ur_o (show (20 : Nat) ≠ 22 by decide), m_ur_o (show (20 : Nat) ≠ 21 by decide)]
  refine s_copy 1 0 23 (n := 57) dX0_forgetOldest_54 rfl mlc_X0_28 m_acw (by omega) rfl rfl rfl rfl e20 (by decide) (by decide) (Nat.le_of_ble_eq_true rfl) ?_
  refine s_return dX0_forgetOldest_57 rfl ?_
  refine hQ _ ((((m_fr.up (by simp)).ur2 (by simp)).ur2 (by simp)).ur2 (by simp)) ?_ (fun i hi => ⟨?_, ?_, ?_⟩)
  · rw [m_ur_o (by decide), m_ur_o (by decide), m_ur_o (by decide), m_up_k, if_pos rfl]
  · rw [m_ur_o (by decide), m_ur_o (by decide), m_ur_k, m_up_o (by decide)]
    unfold va_cpy
    rw [if_pos (by omega)]
    congr 1; omega
  · rw [m_ur_o (by decide), m_ur_k, m_ur_o (by decide), m_up_o (by decide)]
    unfold va_cpy
    rw [if_pos (by omega)]
    congr 1; omega
  · rw [m_ur_k, m_ur_o (by decide), m_ur_o (by decide), m_up_o (by decide)]
    unfold va_cpy
    rw [if_pos (by omega)]
    congr 1; omega
theorem k13_X0_keep {SL d : Nat} {Q : Option Int32 → m_G → Prop} {g : m_G} {n : Nat} (hn : n < 24) (hg : g 20 3 = nI n) (s h w : Int32) (hQ : ∀ g2, m_fr [20, 21, 22, 23] g g2 → g2 20 3 = nI (n + 1) → g2 21 n = s → g2 22 n = h → g2 23 n = w → (∀ i, i < n → g2 21 i = g 21 i ∧ g2 22 i = g 22 i ∧ g2 23 i = g 23 i) → Q none g2) : Sim SL d yX0_keep cX0_keep 4 none 13 [.ref 20, .int s, .int h, .int w] [] g Q := by
  refine s_aload_n (n := 14) dX0_keep_13 rfl rfl rfl ?_
  refine s_getr (k2 := 21) (n := 17) dX0_keep_14 rfl fl_X0_9 rfl rfl rfl ?_
  refine s_aload_n (n := 18) dX0_keep_17 rfl rfl rfl ?_
  refine s_geti (n := 21) dX0_keep_18 rfl fl_X0_21 rfl rfl ?_
  rw [hg]
  refine s_iload_n (n := 22) dX0_keep_21 rfl rfl rfl ?_
  refine s_iastore n (n := 23) dX0_keep_22 rfl rfl rfl hn ?_
  refine s_aload_n (n := 24) dX0_keep_23 rfl rfl rfl ?_
  refine s_getr (k2 := 22) (n := 27) dX0_keep_24 rfl fl_X0_15 rfl rfl rfl ?_
  refine s_aload_n (n := 28) dX0_keep_27 rfl rfl rfl ?_
  refine s_geti (n := 31) dX0_keep_28 rfl fl_X0_21 rfl rfl ?_
  rw [m_up_o (by decide), hg]
  refine s_iload_n (n := 32) dX0_keep_31 rfl rfl rfl ?_
  refine s_iastore n (n := 33) dX0_keep_32 rfl rfl rfl hn ?_
  refine s_aload_n (n := 34) dX0_keep_33 rfl rfl rfl ?_
  refine s_getr (k2 := 23) (n := 37) dX0_keep_34 rfl fl_X0_18 rfl rfl rfl ?_
  refine s_aload_n (n := 38) dX0_keep_37 rfl rfl rfl ?_
  refine s_geti (n := 41) dX0_keep_38 rfl fl_X0_21 rfl rfl ?_
  rw [m_up_o (by decide), m_up_o (by decide), hg]
  refine s_iload_n (n := 42) dX0_keep_41 rfl rfl rfl ?_
  refine s_iastore n (n := 43) dX0_keep_42 rfl rfl rfl hn ?_
  refine s_aload_n (n := 44) dX0_keep_43 rfl rfl rfl ?_
  refine s_dup (n := 45) dX0_keep_44 rfl rfl ?_
  refine s_geti (n := 48) dX0_keep_45 rfl fl_X0_21 rfl rfl ?_
  rw [m_up_o (by decide), m_up_o (by decide), m_up_o (by decide), hg]
  refine s_iconst (v := 1) (n := 49) dX0_keep_48 rfl (by decide) ?_
  refine s_iadd (n := 50) dX0_keep_49 rfl ?_
  refine s_puti (n := 53) dX0_keep_50 rfl fl_X0_21 rfl rfl rfl ?_
  refine s_return dX0_keep_53 rfl ?_
  refine hQ _ ((((m_fr.up (by simp)).up2 (by simp)).up2 (by simp)).up2 (by simp)) (by rw [m_up_k, if_pos rfl, nI_1]) ?_ ?_ ?_ (fun i hi => ⟨?_, ?_, ?_⟩)
  · rw [m_up_o (by decide), m_up_o (by decide), m_up_o (by decide), m_up_k, if_pos rfl]
  · rw [m_up_o (by decide), m_up_o (by decide), m_up_k, if_pos rfl]
  · rw [m_up_o (by decide), m_up_k, if_pos rfl]
  · rw [m_up_o (by decide), m_up_o (by decide), m_up_o (by decide), m_up_k, if_neg (by omega)]
  · rw [m_up_o (by decide), m_up_o (by decide), m_up_k, if_neg (by omega), m_up_o (by decide)]
  · rw [m_up_o (by decide), m_up_k, if_neg (by omega), m_up_o (by decide), m_up_o (by decide)]
theorem c_X0_keep {SL : Nat} {d : Nat} {Q : Option Int32 → m_G → Prop} {g : m_G} {ps : List m_T} {cur new : m_T} (hg : g 20 3 = nI ps.length) (hl : ps.length ≤ 24) (hac : C_ac g ps.length cur ps) (s h w : Int32) (hnew : cur = a_tkb s h w new) (hQ : ∀ g2, m_fr [20, 21, 22, 23] g g2 → g2 20 3 = nI (a_push cur ps).length → C_ac g2 (a_push cur ps).length new (a_push cur ps) → Q none g2) : Sim SL (d + 2) yX0_keep cX0_keep 4 none 0 [.ref 20, .int s, .int h, .int w] [] g Q := by
  refine s_aload_n (n := 1) dX0_keep_0 rfl rfl rfl ?_
  refine s_geti (n := 4) dX0_keep_1 rfl fl_X0_21 rfl rfl ?_
  rw [hg]
  refine s_bipush (v := 24) (n := 6) dX0_keep_4 rfl (by decide) ?_
  refine s_icmp_lt (n := 9) (t := 13) dX0_keep_6 (by decide) rfl (fun h6 => ?_) (fun h6 => ?_)
  · have hlt : ps.length < 24 := by
      rcases Nat.lt_or_ge ps.length 24 with q | q
      · exact q
      · exact absurd h6 (nI_nlt q (by omega))
    refine s_less (Nat.le_refl _) (k13_X0_keep hlt hg s h w (fun g2 hf v0 v1 v2 v3 v4 => ?_))
    refine hQ g2 hf ?_ ?_
    · rw [v0, a_push_lt _ _ hlt]; rfl
    · rw [a_push_lt _ _ hlt]
      exact ⟨by rw [v1, v2, v3]; exact hnew, C_ac.keptN _ _ _ v4 hac⟩
  · refine s_aload_n (n := 10) dX0_keep_9 rfl rfl rfl ?_
    refine s_cv0 (n := 13) dX0_keep_10 rfl mo_X0_forgetOldest ml_X0_25 rfl (by decide) rfl rfl (Nat.le_of_ble_eq_true rfl) (Nat.le_of_ble_eq_true rfl) (c_X0_forgetOldest (fun g1 hf1 e1 e2 => ?_))
    dsimp only [m_push]
    have hlen : ps.length = 24 := by
      rcases Nat.lt_or_ge ps.length 24 with q | q
      · exact absurd (nI_lt q (by decide)) h6
      · omega
    rw [hlen] at hac
    have hac1 := C_ac.shift 23 cur ps e2 hac
    have hlp : (a_push cur ps).length = 24 := by rw [a_push_len _ _ hl, if_pos hlen]
    refine s_less (Nat.le_refl _) (k13_X0_keep (n := 23) (by decide) e1 s h w (fun g2 hf v0 v1 v2 v3 v4 => ?_))
    refine hQ g2 (hf1.tr hf) ?_ ?_
    · rw [v0, hlp]
    · rw [hlp, a_push_24]
      exact ⟨by rw [v1, v2, v3]; exact hnew, C_ac.keptN 23 _ _ v4 hac1⟩
theorem c_X2_stand {SL : Nat} {d : Nat} {Q : Option Int32 → m_G → Prop} {g : m_G} {x : Nat} (hx : (m_sh x).1 = 2) (a b : Int32) (hQ : Q none (m_up (m_up g x 1 a) x 2 b)) : Sim SL d yX2_stand cX2_stand 3 none 0 [.ref x, .int a, .int b] [] g Q := by
  refine s_aload_n (n := 1) dX2_stand_0 rfl rfl rfl ?_
  refine s_iload_n (n := 2) dX2_stand_1 rfl rfl rfl ?_
  refine s_puti (n := 5) dX2_stand_2 rfl fl_X2_13 rfl rfl hx ?_
  refine s_aload_n (n := 6) dX2_stand_5 rfl rfl rfl ?_
  refine s_iload_n (n := 7) dX2_stand_6 rfl rfl rfl ?_
  refine s_puti (n := 10) dX2_stand_7 rfl fl_X2_16 rfl rfl hx ?_
  refine s_return dX2_stand_10 rfl ?_
  exact hQ
theorem c_X2_cell {SL : Nat} {d : Nat} {Q : Option Int32 → m_G → Prop} {g : m_G} {x : Nat} (hx : (m_sh x).1 = 2) (hQ : Q (some (10 * g x 1 + g x 2)) g) : Sim SL d yX2_cell cX2_cell 1 (some .int) 0 [.ref x] [] g Q := by
  refine s_bipush (v := 10) (n := 2) dX2_cell_0 rfl (by decide) ?_
  refine s_aload_n (n := 3) dX2_cell_2 rfl rfl rfl ?_
  refine s_geti (n := 6) dX2_cell_3 rfl fl_X2_13 rfl hx ?_
  refine s_imul (n := 7) dX2_cell_6 rfl ?_
  refine s_aload_n (n := 8) dX2_cell_7 rfl rfl rfl ?_
  refine s_geti (n := 11) dX2_cell_8 rfl fl_X2_16 rfl hx ?_
  refine s_iadd (n := 12) dX2_cell_11 rfl ?_
  refine s_ireturn dX2_cell_12 rfl rfl ?_
  exact hQ
