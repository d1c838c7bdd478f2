abbrev a_Tr : Type := Nat × (Nat → Int32)
def psh (tr : a_Tr) (b : Int32) : a_Tr := if tr.1 < 16 then (tr.1 + 1, upd tr.2 tr.1 b) else tr
def C_t (g : m_G) (tr : a_Tr) : Prop := g 25 1 = nI tr.1 ∧ tr.1 ≤ 16 ∧ ∀ i, i < tr.1 → g 26 i = tr.2 i
def M_t (g : m_G) (tr : a_Tr) : Prop := g 78 12 = nI tr.1 ∧ tr.1 ≤ 16 ∧ ∀ i, i < tr.1 → g 85 i = tr.2 i
/-- the trace alone has changed, on the reference's side -/
def m_tf (g g2 : m_G) : Prop := m_fr [78, 85] g g2 ∧ ∀ j, j ≠ 12 → g2 78 j = g 78 j
theorem m_tf.rf {g : m_G} : m_tf g g := ⟨m_fr.rf, fun _ _ => rfl⟩
theorem m_tf.tr {g g2 g3 : m_G} (h : m_tf g g2) (h2 : m_tf g2 g3) : m_tf g g3 := ⟨h.1.tr h2.1, fun j hj => (h2.2 j hj).trans (h.2 j hj)⟩
theorem TM.tf {g g2 : m_G} {b : Nat} {t : m_T} (h : TM g b t) (hf : m_tf g g2) : TM g2 b t := fun j hj => by rw [hf.1 79 (by decide)]; exact h j hj
def aV (k w ti n got : Int32) : Int32 := if w = 0 then (if k = 1 then ti + (n + got) else if k = 2 then -(ti + 2 * (n + got)) else if k = 3 then ti + (n + got - 1000) else if k = 4 then ti - 100 else 2 * (ti - 100))
  else (if k = 1 then n + got else if k = 2 then 2 * (n + got) else if k = 3 then n + got - 1000 else if k = 4 then n - (ti - 100) else n - 2 * (ti - 100))
def aL (k w : Int32) : List Int32 := if w = 0 then (if k = 1 then [11, 10, 21, 20] else if k = 2 then [12, 11, 10, 24, 21, 20] else if k = 3 then [11, 10, 22, 21, 20] else if k = 4 then [13, 10] else [14, 13, 10])
  else (if k = 1 then [21, 20] else if k = 2 then [24, 21, 20] else if k = 3 then [22, 21, 20] else if k = 4 then [23, 20, 13, 10] else [23, 20, 14, 13, 10])
def sp_ask (a : a_S) (h w : Int32) : Int32 × a_S := if wn h 0 (a_H a 1 - 1) then (if wn w 0 1 then (aV (a_H a (9 + h.toNatClampNeg)) w (a_H a (15 + h.toNatClampNeg)) h (a_H a (33 + h.toNatClampNeg)), u_trace a ((aL (a_H a (9 + h.toNatClampNeg)) w).foldl psh (0, (a_trace a).2))) else (-1000001, a)) else (-1000001, a)
theorem c_X7_leave {SL : Nat} {d : Nat} {Q : Option Int32 → m_G → Prop} {g : m_G} {tr : a_Tr} (ht : C_t g tr) (b : Int32) (hQ : ∀ g2, m_fr [25, 26] g g2 → C_t g2 (psh tr b) → Q none g2) : Sim SL d yX7_leave cX7_leave 2 none 0 [.ref 25, .int b] [] g Q := by
  refine s_aload_n (n := 1) dX7_leave_0 rfl rfl rfl ?_
  refine s_geti (n := 4) dX7_leave_1 rfl fl_X7_15 rfl rfl ?_
  rw [ht.1]
  refine s_bipush (v := 16) (n := 6) dX7_leave_4 rfl (by decide) ?_
  refine s_icmp_ge (n := 9) (t := 29) dX7_leave_6 (by decide) rfl (fun h6 => ?_) (fun h6 => ?_)
  · have hge : ¬ tr.1 < 16 := fun q => absurd h6 (nI_ge q (by decide))
    refine s_return dX7_leave_29 rfl ?_
    refine hQ g m_fr.rf ?_
    unfold psh
    rw [if_neg hge]
    exact ht
  · have hlt : tr.1 < 16 := by
      rcases Nat.lt_or_ge tr.1 16 with q | q
      · exact q
      · exact absurd (nI_le q (by have := ht.2.1; omega)) h6
    refine s_aload_n (n := 10) dX7_leave_9 rfl rfl rfl ?_
    refine s_getr (k2 := 26) (n := 13) dX7_leave_10 rfl fl_X7_9 rfl rfl rfl ?_
    refine s_aload_n (n := 14) dX7_leave_13 rfl rfl rfl ?_
    refine s_geti (n := 17) dX7_leave_14 rfl fl_X7_15 rfl rfl ?_
    rw [ht.1]
    refine s_iload_n (n := 18) dX7_leave_17 rfl rfl rfl ?_
    refine s_iastore tr.1 (n := 19) dX7_leave_18 rfl rfl rfl hlt ?_
    refine s_aload_n (n := 20) dX7_leave_19 rfl rfl rfl ?_
    refine s_dup (n := 21) dX7_leave_20 rfl rfl ?_
    refine s_geti (n := 24) dX7_leave_21 rfl fl_X7_15 rfl rfl ?_
    refine s_iconst (v := 1) (n := 25) dX7_leave_24 rfl (by decide) ?_
    refine s_iadd (n := 26) dX7_leave_25 rfl ?_
    refine s_puti (n := 29) dX7_leave_26 rfl fl_X7_15 rfl rfl rfl ?_
    refine s_return dX7_leave_29 rfl ?_
    rw [m_up_o (by decide), ht.1, nI_1]
    refine hQ _ ((m_fr.up (by simp)).up2 (by simp)) ?_
    unfold psh
    rw [if_pos hlt]
    refine ⟨by rw [m_up_k, if_pos rfl], by show tr.1 + 1 ≤ 16; omega, fun i hi => ?_⟩
    replace hi : i < tr.1 + 1 := hi
    show _ = upd tr.2 tr.1 b i
    rw [m_up_o (by decide), m_up_k]
    unfold upd
    split
    · rfl
    · exact ht.2.2 i (by omega)
theorem c_X9_begin {SL : Nat} {d : Nat} {Q : Option Int32 → m_G → Prop} {g : m_G} {tr : a_Tr} (ht : M_t g tr) (b : Int32) (hQ : ∀ g2, m_tf g g2 → M_t g2 (psh tr b) → Q none g2) : Sim SL d yX9_begin cX9_begin 2 none 0 [.ref 78, .int b] [] g Q := by
  refine s_aload_n (n := 1) dX9_begin_0 rfl rfl rfl ?_
  refine s_geti (n := 4) dX9_begin_1 rfl fl_X9_256 rfl rfl ?_
  rw [ht.1]
  refine s_bipush (v := 16) (n := 6) dX9_begin_4 rfl (by decide) ?_
  refine s_icmp_ge (n := 9) (t := 29) dX9_begin_6 (by decide) rfl (fun h6 => ?_) (fun h6 => ?_)
  · have hge : ¬ tr.1 < 16 := fun q => absurd h6 (nI_ge q (by decide))
    refine s_return dX9_begin_29 rfl ?_
    refine hQ g m_tf.rf ?_
    unfold psh
    rw [if_neg hge]
    exact ht
  · have hlt : tr.1 < 16 := by
      rcases Nat.lt_or_ge tr.1 16 with q | q
      · exact q
      · exact absurd (nI_le q (by have := ht.2.1; omega)) h6
    refine s_aload_n (n := 10) dX9_begin_9 rfl rfl rfl ?_
    refine s_getr (k2 := 85) (n := 13) dX9_begin_10 rfl fl_X9_29 rfl rfl rfl ?_
    refine s_aload_n (n := 14) dX9_begin_13 rfl rfl rfl ?_
    refine s_geti (n := 17) dX9_begin_14 rfl fl_X9_256 rfl rfl ?_
    rw [ht.1]
    refine s_iload_n (n := 18) dX9_begin_17 rfl rfl rfl ?_
    refine s_iastore tr.1 (n := 19) dX9_begin_18 rfl rfl rfl hlt ?_
    refine s_aload_n (n := 20) dX9_begin_19 rfl rfl rfl ?_
    refine s_dup (n := 21) dX9_begin_20 rfl rfl ?_
    refine s_geti (n := 24) dX9_begin_21 rfl fl_X9_256 rfl rfl ?_
    refine s_iconst (v := 1) (n := 25) dX9_begin_24 rfl (by decide) ?_
    refine s_iadd (n := 26) dX9_begin_25 rfl ?_
    refine s_puti (n := 29) dX9_begin_26 rfl fl_X9_256 rfl rfl rfl ?_
    refine s_return dX9_begin_29 rfl ?_
    rw [m_up_o (by decide), ht.1, nI_1]
    refine hQ _ (⟨(m_fr.up (by simp)).up2 (by simp), fun j hj => by rw [m_up_k, if_neg hj, m_up_o (by decide)]⟩) ?_
    unfold psh
    rw [if_pos hlt]
    refine ⟨by rw [m_up_k, if_pos rfl], by show tr.1 + 1 ≤ 16; omega, fun i hi => ?_⟩
    replace hi : i < tr.1 + 1 := hi
    show _ = upd tr.2 tr.1 b i
    rw [m_up_o (by decide), m_up_k]
    unfold upd
    split
    · rfl
    · exact ht.2.2 i (by omega)
/-- the house that is asked -/
def H_h (g : m_G) (hc : Nat) (kd ti got : Int32) : Prop := g hc 0 = kd ∧ g hc 1 = ti ∧ g hc 4 = got ∧ K_S g
theorem H_h.fr {g g2 : m_G} {hc : Nat} {kd ti got : Int32} (h : H_h g hc kd ti got) (hf : m_fr [25, 26] g g2) (hn : hc ∉ [25, 26]) : H_h g2 hc kd ti got := by
  unfold H_h
  rw [hf hc hn]
  exact ⟨h.1, h.2.1, h.2.2.1, h.2.2.2.c (hf.FC (by decide))⟩
theorem bo204 {g : m_G} (h : K_S g) {k : Nat} (hk : k < 6) : g 204 k = [10, 11, 12, 11, 13, 14].getD k 0 := h.2.2.2.1 k (by simpa using hk)
theorem bo205 {g : m_G} (h : K_S g) {k : Nat} (hk : k < 6) : g 205 k = [20, 21, 24, 22, 23, 23].getD k 0 := h.2.2.2.2.1 k (by simpa using hk)
theorem c_X7_bodyFor {SL : Nat} {d : Nat} {Q : Option Int32 → m_G → Prop} {g : m_G} {hc : Nat} (hhc : (m_sh hc).1 = 2) (hK : K_S g) (k : Nat) (hk : k < 6) (hg : g hc 0 = nI k) (w : Int32) (hQ : Q (some (if w = 0 then [10, 11, 12, 11, 13, 14].getD k 0 else [20, 21, 24, 22, 23, 23].getD k 0)) g) : Sim SL (d + 1) yX7_bodyFor cX7_bodyFor 3 (some .int) 0 [.ref hc, .int w, .null] [] g Q := by
  refine s_aload_n (n := 1) dX7_bodyFor_0 rfl rfl rfl ?_
  refine s_geti (n := 4) dX7_bodyFor_1 rfl fl_X7_27 rfl hhc ?_
  rw [hg]
  refine s_iconst (v := 0) (n := 5) dX7_bodyFor_4 rfl (by decide) ?_
  refine s_iconst (v := 5) (n := 6) dX7_bodyFor_5 rfl (by decide) ?_
  refine s_cs3 (n := 9) dX7_bodyFor_6 rfl mo_X8_within ml_X7_32 rfl (Nat.le_of_ble_eq_true rfl) (Nat.le_of_ble_eq_true rfl) (c_X8_within _ _ _ (fun hb6 => ?_) (fun hb6 => ?_))
  · dsimp only [m_push]
    refine s_if_eq (n := 12) (t := 19) dX7_bodyFor_9 (by decide) rfl (fun h => absurd h (by decide)) (fun _ => ?_)
    refine s_aload_n (n := 13) dX7_bodyFor_12 rfl rfl rfl ?_
    refine s_geti (n := 16) dX7_bodyFor_13 rfl fl_X7_27 rfl hhc ?_
    rw [hg]
    refine s_goto (t := 20) dX7_bodyFor_16 (by decide) ?_
    refine s_istore_n (n := 21) dX7_bodyFor_20 rfl rfl (by decide) rfl rfl ?_
    refine s_iload_n (n := 22) dX7_bodyFor_21 rfl rfl rfl ?_
    refine s_if_ne (n := 25) (t := 33) dX7_bodyFor_22 (by decide) rfl (fun h22 => ?_) (fun h22 => ?_)
    · refine s_getstatic (k := 205) (n := 36) dX7_bodyFor_33 rfl (List.mem_of_getElem? (i := 4) rfl) fs_X7_39 ?_
      refine s_iload_n (n := 37) dX7_bodyFor_36 rfl rfl rfl ?_
      refine s_tload k (n := 38) dX7_bodyFor_37 rfl (List.mem_of_getElem? (i := 5) rfl) (by decide) rfl hk ?_
      refine s_ireturn dX7_bodyFor_38 rfl rfl ?_
      first | (rw [if_pos h22] at hQ; rw [bo204 hK hk]; exact hQ) | (rw [if_neg h22] at hQ; rw [bo205 hK hk]; exact hQ)
    · refine s_getstatic (k := 204) (n := 28) dX7_bodyFor_25 rfl (List.mem_of_getElem? (i := 3) rfl) fs_X7_36 ?_
      refine s_iload_n (n := 29) dX7_bodyFor_28 rfl rfl rfl ?_
      refine s_tload k (n := 30) dX7_bodyFor_29 rfl (List.mem_of_getElem? (i := 4) rfl) (by decide) rfl hk ?_
      refine s_goto (t := 38) dX7_bodyFor_30 (by decide) ?_
      refine s_ireturn dX7_bodyFor_38 rfl rfl ?_
      first | (rw [if_pos h22] at hQ; rw [bo204 hK hk]; exact hQ) | (rw [if_neg h22] at hQ; rw [bo205 hK hk]; exact hQ)
  · dsimp only [m_push]
    exact absurd (wn_nI (n := 5) rfl (by omega) (by decide)) hb6
theorem gv10 {SL : Nat} {d : Nat} {Q : Option Int32 → m_G → Prop} {hc : Nat} (hhc : (m_sh hc).1 = 2) (hcn : hc ∉ [25, 26]) {kd ti got : Int32} (n : Int32)  {g : m_G} {tr : a_Tr} {x : Int32} (dp : Nat) (hx : x = nI dp) (hdp : dp ≤ 16) (hh : H_h g hc kd ti got) (ht : C_t g tr) (hQ : ∀ g2, m_fr [25, 26] g g2 → C_t g2 ([10].foldl psh tr) → Q (some (ti)) g2) : Sim SL (d + 1) yX7_give cX7_give 6 (some .int) 0 [.ref 25, .ref hc, .int n, .int 10, .int x, .null] [] g Q := by
  subst hx
  refine s_iload (n := 2) dX7_give_0 rfl rfl ?_
  refine s_bipush (v := 16) (n := 4) dX7_give_2 rfl (by decide) ?_
  refine s_icmp_le (n := 7) (t := 9) dX7_give_4 (by decide) rfl (fun h4 => ?_) (fun h4 => ?_)
  · refine s_aload_n (n := 10) dX7_give_9 rfl rfl rfl ?_
    refine s_iload_n (n := 11) dX7_give_10 rfl rfl rfl ?_
    refine s_cv1 (n := 14) dX7_give_11 rfl mo_X7_leave ml_X7_42 rfl (by decide) rfl rfl (Nat.le_of_ble_eq_true rfl) (Nat.le_of_ble_eq_true rfl) (c_X7_leave ht _ (fun g1 hf1 ht1 => ?_))
    have hh1 := hh.fr hf1 hcn
    dsimp only [m_push]
    refine s_iload (n := 16) dX7_give_14 rfl rfl ?_
    refine s_iconst (v := 1) (n := 17) dX7_give_16 rfl (by decide) ?_
    refine s_iadd (n := 18) dX7_give_17 rfl ?_
    refine s_istore (n := 20) dX7_give_18 rfl (by decide) rfl rfl ?_
    refine s_iload_n (n := 21) dX7_give_20 rfl rfl rfl ?_
    refine s_tsw_in (t := 96) dX7_give_21 (by decide) (by decide) rfl (by decide) ?_
    refine s_aload_n (n := 97) dX7_give_96 rfl rfl rfl ?_
    refine s_geti (n := 100) dX7_give_97 rfl fl_X7_46 rfl hhc ?_
    rw [hh1.2.1]
    refine s_ireturn dX7_give_100 rfl rfl ?_
    exact hQ g1 hf1 ht1
  · exact absurd (nI_le (a := dp) (b := 16) (by omega) (by decide)) h4
theorem gv20 {SL : Nat} {d : Nat} {Q : Option Int32 → m_G → Prop} {hc : Nat} (hhc : (m_sh hc).1 = 2) (hcn : hc ∉ [25, 26]) {kd ti got : Int32} (n : Int32)  {g : m_G} {tr : a_Tr} {x : Int32} (dp : Nat) (hx : x = nI dp) (hdp : dp ≤ 16) (hh : H_h g hc kd ti got) (ht : C_t g tr) (hQ : ∀ g2, m_fr [25, 26] g g2 → C_t g2 ([20].foldl psh tr) → Q (some (n)) g2) : Sim SL (d + 1) yX7_give cX7_give 6 (some .int) 0 [.ref 25, .ref hc, .int n, .int 20, .int x, .null] [] g Q := by
  subst hx
  refine s_iload (n := 2) dX7_give_0 rfl rfl ?_
  refine s_bipush (v := 16) (n := 4) dX7_give_2 rfl (by decide) ?_
  refine s_icmp_le (n := 7) (t := 9) dX7_give_4 (by decide) rfl (fun h4 => ?_) (fun h4 => ?_)
  · refine s_aload_n (n := 10) dX7_give_9 rfl rfl rfl ?_
    refine s_iload_n (n := 11) dX7_give_10 rfl rfl rfl ?_
    refine s_cv1 (n := 14) dX7_give_11 rfl mo_X7_leave ml_X7_42 rfl (by decide) rfl rfl (Nat.le_of_ble_eq_true rfl) (Nat.le_of_ble_eq_true rfl) (c_X7_leave ht _ (fun g1 hf1 ht1 => ?_))
    have hh1 := hh.fr hf1 hcn
    dsimp only [m_push]
    refine s_iload (n := 16) dX7_give_14 rfl rfl ?_
    refine s_iconst (v := 1) (n := 17) dX7_give_16 rfl (by decide) ?_
    refine s_iadd (n := 18) dX7_give_17 rfl ?_
    refine s_istore (n := 20) dX7_give_18 rfl (by decide) rfl rfl ?_
    refine s_iload_n (n := 21) dX7_give_20 rfl rfl rfl ?_
    refine s_tsw_in (t := 165) dX7_give_21 (by decide) (by decide) rfl (by decide) ?_
    refine s_iload_n (n := 166) dX7_give_165 rfl rfl rfl ?_
    refine s_ireturn dX7_give_166 rfl rfl ?_
    exact hQ g1 hf1 ht1
  · exact absurd (nI_le (a := dp) (b := 16) (by omega) (by decide)) h4
theorem gv21 {SL : Nat} {d : Nat} {Q : Option Int32 → m_G → Prop} {hc : Nat} (hhc : (m_sh hc).1 = 2) (hcn : hc ∉ [25, 26]) {kd ti got : Int32} (n : Int32)  {g : m_G} {tr : a_Tr} {x : Int32} (dp : Nat) (hx : x = nI dp) (hdp : dp ≤ 15) (hh : H_h g hc kd ti got) (ht : C_t g tr) (hQ : ∀ g2, m_fr [25, 26] g g2 → C_t g2 ([21, 20].foldl psh tr) → Q (some (n + got)) g2) : Sim SL (d + 2) yX7_give cX7_give 6 (some .int) 0 [.ref 25, .ref hc, .int n, .int 21, .int x, .null] [] g Q := by
  subst hx
  refine s_iload (n := 2) dX7_give_0 rfl rfl ?_
  refine s_bipush (v := 16) (n := 4) dX7_give_2 rfl (by decide) ?_
  refine s_icmp_le (n := 7) (t := 9) dX7_give_4 (by decide) rfl (fun h4 => ?_) (fun h4 => ?_)
  · refine s_aload_n (n := 10) dX7_give_9 rfl rfl rfl ?_
    refine s_iload_n (n := 11) dX7_give_10 rfl rfl rfl ?_
    refine s_cv1 (n := 14) dX7_give_11 rfl mo_X7_leave ml_X7_42 rfl (by decide) rfl rfl (Nat.le_of_ble_eq_true rfl) (Nat.le_of_ble_eq_true rfl) (c_X7_leave ht _ (fun g1 hf1 ht1 => ?_))
    have hh1 := hh.fr hf1 hcn
    dsimp only [m_push]
    refine s_iload (n := 16) dX7_give_14 rfl rfl ?_
    refine s_iconst (v := 1) (n := 17) dX7_give_16 rfl (by decide) ?_
    refine s_iadd (n := 18) dX7_give_17 rfl ?_
    refine s_istore (n := 20) dX7_give_18 rfl (by decide) rfl rfl ?_
    refine s_iload_n (n := 21) dX7_give_20 rfl rfl rfl ?_
    refine s_tsw_in (t := 167) dX7_give_21 (by decide) (by decide) rfl (by decide) ?_
    refine s_aload_n (n := 168) dX7_give_167 rfl rfl rfl ?_
    refine s_aload_n (n := 169) dX7_give_168 rfl rfl rfl ?_
    refine s_iload_n (n := 170) dX7_give_169 rfl rfl rfl ?_
    refine s_bipush (v := 20) (n := 172) dX7_give_170 rfl (by decide) ?_
    refine s_iload (n := 174) dX7_give_172 rfl rfl ?_
    refine s_cs5 (n := 177) dX7_give_174 rfl mo_X7_give ml_X7_23 rfl (Nat.le_of_ble_eq_true rfl) (Nat.le_of_ble_eq_true rfl) (gv20 hhc hcn n (dp + 1) (nI_1 dp) (by omega) hh1 ht1 (fun g2 hf2 ht2 => ?_))
    have hh2 := hh1.fr hf2 hcn
    dsimp only [m_push]
    refine s_aload_n (n := 178) dX7_give_177 rfl rfl rfl ?_
    refine s_geti (n := 181) dX7_give_178 rfl fl_X7_49 rfl hhc ?_
    rw [hh2.2.2.1]
    refine s_iadd (n := 182) dX7_give_181 rfl ?_
    refine s_ireturn dX7_give_182 rfl rfl ?_
    exact hQ g2 (hf1.tr hf2) ht2
  · exact absurd (nI_le (a := dp) (b := 16) (by omega) (by decide)) h4
theorem gv22 {SL : Nat} {d : Nat} {Q : Option Int32 → m_G → Prop} {hc : Nat} (hhc : (m_sh hc).1 = 2) (hcn : hc ∉ [25, 26]) {kd ti got : Int32} (n : Int32)  {g : m_G} {tr : a_Tr} {x : Int32} (dp : Nat) (hx : x = nI dp) (hdp : dp ≤ 14) (hh : H_h g hc kd ti got) (ht : C_t g tr) (hQ : ∀ g2, m_fr [25, 26] g g2 → C_t g2 ([22, 21, 20].foldl psh tr) → Q (some (n + got - 1000)) g2) : Sim SL (d + 3) yX7_give cX7_give 6 (some .int) 0 [.ref 25, .ref hc, .int n, .int 22, .int x, .null] [] g Q := by
  subst hx
  refine s_iload (n := 2) dX7_give_0 rfl rfl ?_
  refine s_bipush (v := 16) (n := 4) dX7_give_2 rfl (by decide) ?_
  refine s_icmp_le (n := 7) (t := 9) dX7_give_4 (by decide) rfl (fun h4 => ?_) (fun h4 => ?_)
  · refine s_aload_n (n := 10) dX7_give_9 rfl rfl rfl ?_
    refine s_iload_n (n := 11) dX7_give_10 rfl rfl rfl ?_
    refine s_cv1 (n := 14) dX7_give_11 rfl mo_X7_leave ml_X7_42 rfl (by decide) rfl rfl (Nat.le_of_ble_eq_true rfl) (Nat.le_of_ble_eq_true rfl) (c_X7_leave ht _ (fun g1 hf1 ht1 => ?_))
    have hh1 := hh.fr hf1 hcn
    dsimp only [m_push]
    refine s_iload (n := 16) dX7_give_14 rfl rfl ?_
    refine s_iconst (v := 1) (n := 17) dX7_give_16 rfl (by decide) ?_
    refine s_iadd (n := 18) dX7_give_17 rfl ?_
    refine s_istore (n := 20) dX7_give_18 rfl (by decide) rfl rfl ?_
    refine s_iload_n (n := 21) dX7_give_20 rfl rfl rfl ?_
    refine s_tsw_in (t := 183) dX7_give_21 (by decide) (by decide) rfl (by decide) ?_
    refine s_aload_n (n := 184) dX7_give_183 rfl rfl rfl ?_
    refine s_aload_n (n := 185) dX7_give_184 rfl rfl rfl ?_
    refine s_iload_n (n := 186) dX7_give_185 rfl rfl rfl ?_
    refine s_bipush (v := 21) (n := 188) dX7_give_186 rfl (by decide) ?_
    refine s_iload (n := 190) dX7_give_188 rfl rfl ?_
    refine s_cs5 (n := 193) dX7_give_190 rfl mo_X7_give ml_X7_23 rfl (Nat.le_of_ble_eq_true rfl) (Nat.le_of_ble_eq_true rfl) (gv21 hhc hcn n (dp + 1) (nI_1 dp) (by omega) hh1 ht1 (fun g2 hf2 ht2 => ?_))
    have hh2 := hh1.fr hf2 hcn
    dsimp only [m_push]
    refine s_sipush (v := 1000) (n := 196) dX7_give_193 rfl (by decide) ?_
    refine s_isub (n := 197) dX7_give_196 rfl ?_
    refine s_ireturn dX7_give_197 rfl rfl ?_
    exact hQ g2 (hf1.tr hf2) ht2
  · exact absurd (nI_le (a := dp) (b := 16) (by omega) (by decide)) h4
theorem gv24 {SL : Nat} {d : Nat} {Q : Option Int32 → m_G → Prop} {hc : Nat} (hhc : (m_sh hc).1 = 2) (hcn : hc ∉ [25, 26]) {kd ti got : Int32} (n : Int32)  {g : m_G} {tr : a_Tr} {x : Int32} (dp : Nat) (hx : x = nI dp) (hdp : dp ≤ 14) (hh : H_h g hc kd ti got) (ht : C_t g tr) (hQ : ∀ g2, m_fr [25, 26] g g2 → C_t g2 ([24, 21, 20].foldl psh tr) → Q (some (2 * (n + got))) g2) : Sim SL (d + 3) yX7_give cX7_give 6 (some .int) 0 [.ref 25, .ref hc, .int n, .int 24, .int x, .null] [] g Q := by
  subst hx
  refine s_iload (n := 2) dX7_give_0 rfl rfl ?_
  refine s_bipush (v := 16) (n := 4) dX7_give_2 rfl (by decide) ?_
  refine s_icmp_le (n := 7) (t := 9) dX7_give_4 (by decide) rfl (fun h4 => ?_) (fun h4 => ?_)
  · refine s_aload_n (n := 10) dX7_give_9 rfl rfl rfl ?_
    refine s_iload_n (n := 11) dX7_give_10 rfl rfl rfl ?_
    refine s_cv1 (n := 14) dX7_give_11 rfl mo_X7_leave ml_X7_42 rfl (by decide) rfl rfl (Nat.le_of_ble_eq_true rfl) (Nat.le_of_ble_eq_true rfl) (c_X7_leave ht _ (fun g1 hf1 ht1 => ?_))
    have hh1 := hh.fr hf1 hcn
    dsimp only [m_push]
    refine s_iload (n := 16) dX7_give_14 rfl rfl ?_
    refine s_iconst (v := 1) (n := 17) dX7_give_16 rfl (by decide) ?_
    refine s_iadd (n := 18) dX7_give_17 rfl ?_
    refine s_istore (n := 20) dX7_give_18 rfl (by decide) rfl rfl ?_
    refine s_iload_n (n := 21) dX7_give_20 rfl rfl rfl ?_
    refine s_tsw_in (t := 223) dX7_give_21 (by decide) (by decide) rfl (by decide) ?_
    refine s_iconst (v := 2) (n := 224) dX7_give_223 rfl (by decide) ?_
    refine s_aload_n (n := 225) dX7_give_224 rfl rfl rfl ?_
    refine s_aload_n (n := 226) dX7_give_225 rfl rfl rfl ?_
    refine s_iload_n (n := 227) dX7_give_226 rfl rfl rfl ?_
    refine s_bipush (v := 21) (n := 229) dX7_give_227 rfl (by decide) ?_
    refine s_iload (n := 231) dX7_give_229 rfl rfl ?_
    refine s_cs5 (n := 234) dX7_give_231 rfl mo_X7_give ml_X7_23 rfl (Nat.le_of_ble_eq_true rfl) (Nat.le_of_ble_eq_true rfl) (gv21 hhc hcn n (dp + 1) (nI_1 dp) (by omega) hh1 ht1 (fun g2 hf2 ht2 => ?_))
    have hh2 := hh1.fr hf2 hcn
    dsimp only [m_push]
    refine s_imul (n := 235) dX7_give_234 rfl ?_
    refine s_ireturn dX7_give_235 rfl rfl ?_
    exact hQ g2 (hf1.tr hf2) ht2
  · exact absurd (nI_le (a := dp) (b := 16) (by omega) (by decide)) h4
theorem gv13 {SL : Nat} {d : Nat} {Q : Option Int32 → m_G → Prop} {hc : Nat} (hhc : (m_sh hc).1 = 2) (hcn : hc ∉ [25, 26]) {kd ti got : Int32} (n : Int32)  {g : m_G} {tr : a_Tr} {x : Int32} (dp : Nat) (hx : x = nI dp) (hdp : dp ≤ 15) (hh : H_h g hc kd ti got) (ht : C_t g tr) (hQ : ∀ g2, m_fr [25, 26] g g2 → C_t g2 ([13, 10].foldl psh tr) → Q (some (ti - 100)) g2) : Sim SL (d + 2) yX7_give cX7_give 6 (some .int) 0 [.ref 25, .ref hc, .int n, .int 13, .int x, .null] [] g Q := by
  subst hx
  refine s_iload (n := 2) dX7_give_0 rfl rfl ?_
  refine s_bipush (v := 16) (n := 4) dX7_give_2 rfl (by decide) ?_
  refine s_icmp_le (n := 7) (t := 9) dX7_give_4 (by decide) rfl (fun h4 => ?_) (fun h4 => ?_)
  · refine s_aload_n (n := 10) dX7_give_9 rfl rfl rfl ?_
    refine s_iload_n (n := 11) dX7_give_10 rfl rfl rfl ?_
    refine s_cv1 (n := 14) dX7_give_11 rfl mo_X7_leave ml_X7_42 rfl (by decide) rfl rfl (Nat.le_of_ble_eq_true rfl) (Nat.le_of_ble_eq_true rfl) (c_X7_leave ht _ (fun g1 hf1 ht1 => ?_))
    have hh1 := hh.fr hf1 hcn
    dsimp only [m_push]
    refine s_iload (n := 16) dX7_give_14 rfl rfl ?_
    refine s_iconst (v := 1) (n := 17) dX7_give_16 rfl (by decide) ?_
    refine s_iadd (n := 18) dX7_give_17 rfl ?_
    refine s_istore (n := 20) dX7_give_18 rfl (by decide) rfl rfl ?_
    refine s_iload_n (n := 21) dX7_give_20 rfl rfl rfl ?_
    refine s_tsw_in (t := 138) dX7_give_21 (by decide) (by decide) rfl (by decide) ?_
    refine s_aload_n (n := 139) dX7_give_138 rfl rfl rfl ?_
    refine s_aload_n (n := 140) dX7_give_139 rfl rfl rfl ?_
    refine s_iload_n (n := 141) dX7_give_140 rfl rfl rfl ?_
    refine s_bipush (v := 10) (n := 143) dX7_give_141 rfl (by decide) ?_
    refine s_iload (n := 145) dX7_give_143 rfl rfl ?_
    refine s_cs5 (n := 148) dX7_give_145 rfl mo_X7_give ml_X7_23 rfl (Nat.le_of_ble_eq_true rfl) (Nat.le_of_ble_eq_true rfl) (gv10 hhc hcn n (dp + 1) (nI_1 dp) (by omega) hh1 ht1 (fun g2 hf2 ht2 => ?_))
    have hh2 := hh1.fr hf2 hcn
    dsimp only [m_push]
    refine s_bipush (v := 100) (n := 150) dX7_give_148 rfl (by decide) ?_
    refine s_isub (n := 151) dX7_give_150 rfl ?_
    refine s_ireturn dX7_give_151 rfl rfl ?_
    exact hQ g2 (hf1.tr hf2) ht2
  · exact absurd (nI_le (a := dp) (b := 16) (by omega) (by decide)) h4
theorem gv14 {SL : Nat} {d : Nat} {Q : Option Int32 → m_G → Prop} {hc : Nat} (hhc : (m_sh hc).1 = 2) (hcn : hc ∉ [25, 26]) {kd ti got : Int32} (n : Int32)  {g : m_G} {tr : a_Tr} {x : Int32} (dp : Nat) (hx : x = nI dp) (hdp : dp ≤ 14) (hh : H_h g hc kd ti got) (ht : C_t g tr) (hQ : ∀ g2, m_fr [25, 26] g g2 → C_t g2 ([14, 13, 10].foldl psh tr) → Q (some (2 * (ti - 100))) g2) : Sim SL (d + 3) yX7_give cX7_give 6 (some .int) 0 [.ref 25, .ref hc, .int n, .int 14, .int x, .null] [] g Q := by
  subst hx
  refine s_iload (n := 2) dX7_give_0 rfl rfl ?_
  refine s_bipush (v := 16) (n := 4) dX7_give_2 rfl (by decide) ?_
  refine s_icmp_le (n := 7) (t := 9) dX7_give_4 (by decide) rfl (fun h4 => ?_) (fun h4 => ?_)
  · refine s_aload_n (n := 10) dX7_give_9 rfl rfl rfl ?_
    refine s_iload_n (n := 11) dX7_give_10 rfl rfl rfl ?_
    refine s_cv1 (n := 14) dX7_give_11 rfl mo_X7_leave ml_X7_42 rfl (by decide) rfl rfl (Nat.le_of_ble_eq_true rfl) (Nat.le_of_ble_eq_true rfl) (c_X7_leave ht _ (fun g1 hf1 ht1 => ?_))
    have hh1 := hh.fr hf1 hcn
    dsimp only [m_push]
    refine s_iload (n := 16) dX7_give_14 rfl rfl ?_
    refine s_iconst (v := 1) (n := 17) dX7_give_16 rfl (by decide) ?_
    refine s_iadd (n := 18) dX7_give_17 rfl ?_
    refine s_istore (n := 20) dX7_give_18 rfl (by decide) rfl rfl ?_
    refine s_iload_n (n := 21) dX7_give_20 rfl rfl rfl ?_
    refine s_tsw_in (t := 152) dX7_give_21 (by decide) (by decide) rfl (by decide) ?_
    refine s_iconst (v := 2) (n := 153) dX7_give_152 rfl (by decide) ?_
    refine s_aload_n (n := 154) dX7_give_153 rfl rfl rfl ?_
    refine s_aload_n (n := 155) dX7_give_154 rfl rfl rfl ?_
    refine s_iload_n (n := 156) dX7_give_155 rfl rfl rfl ?_
    refine s_bipush (v := 13) (n := 158) dX7_give_156 rfl (by decide) ?_
    refine s_iload (n := 160) dX7_give_158 rfl rfl ?_
    refine s_cs5 (n := 163) dX7_give_160 rfl mo_X7_give ml_X7_23 rfl (Nat.le_of_ble_eq_true rfl) (Nat.le_of_ble_eq_true rfl) (gv13 hhc hcn n (dp + 1) (nI_1 dp) (by omega) hh1 ht1 (fun g2 hf2 ht2 => ?_))
    have hh2 := hh1.fr hf2 hcn
    dsimp only [m_push]
    refine s_imul (n := 164) dX7_give_163 rfl ?_
    refine s_ireturn dX7_give_164 rfl rfl ?_
    exact hQ g2 (hf1.tr hf2) ht2
  · exact absurd (nI_le (a := dp) (b := 16) (by omega) (by decide)) h4
theorem gv11_1 {SL : Nat} {d : Nat} {Q : Option Int32 → m_G → Prop} {hc : Nat} (hhc : (m_sh hc).1 = 2) (hcn : hc ∉ [25, 26]) {kd ti got : Int32} (n : Int32) (hkd : kd = 1) {g : m_G} {tr : a_Tr} {x : Int32} (dp : Nat) (hx : x = nI dp) (hdp : dp ≤ 13) (hh : H_h g hc kd ti got) (ht : C_t g tr) (hQ : ∀ g2, m_fr [25, 26] g g2 → C_t g2 ([11, 10, 21, 20].foldl psh tr) → Q (some (ti + (n + got))) g2) : Sim SL (d + 4) yX7_give cX7_give 6 (some .int) 0 [.ref 25, .ref hc, .int n, .int 11, .int x, .null] [] g Q := by
  subst hx
  refine s_iload (n := 2) dX7_give_0 rfl rfl ?_
  refine s_bipush (v := 16) (n := 4) dX7_give_2 rfl (by decide) ?_
  refine s_icmp_le (n := 7) (t := 9) dX7_give_4 (by decide) rfl (fun h4 => ?_) (fun h4 => ?_)
  · refine s_aload_n (n := 10) dX7_give_9 rfl rfl rfl ?_
    refine s_iload_n (n := 11) dX7_give_10 rfl rfl rfl ?_
    refine s_cv1 (n := 14) dX7_give_11 rfl mo_X7_leave ml_X7_42 rfl (by decide) rfl rfl (Nat.le_of_ble_eq_true rfl) (Nat.le_of_ble_eq_true rfl) (c_X7_leave ht _ (fun g1 hf1 ht1 => ?_))
    have hh1 := hh.fr hf1 hcn
    dsimp only [m_push]
    refine s_iload (n := 16) dX7_give_14 rfl rfl ?_
    refine s_iconst (v := 1) (n := 17) dX7_give_16 rfl (by decide) ?_
    refine s_iadd (n := 18) dX7_give_17 rfl ?_
    refine s_istore (n := 20) dX7_give_18 rfl (by decide) rfl rfl ?_
    refine s_iload_n (n := 21) dX7_give_20 rfl rfl rfl ?_
    refine s_tsw_in (t := 101) dX7_give_21 (by decide) (by decide) rfl (by decide) ?_
    refine s_aload_n (n := 102) dX7_give_101 rfl rfl rfl ?_
    refine s_aload_n (n := 103) dX7_give_102 rfl rfl rfl ?_
    refine s_iload_n (n := 104) dX7_give_103 rfl rfl rfl ?_
    refine s_bipush (v := 10) (n := 106) dX7_give_104 rfl (by decide) ?_
    refine s_iload (n := 108) dX7_give_106 rfl rfl ?_
    refine s_cs5 (n := 111) dX7_give_108 rfl mo_X7_give ml_X7_23 rfl (Nat.le_of_ble_eq_true rfl) (Nat.le_of_ble_eq_true rfl) (gv10 hhc hcn n (dp + 1) (nI_1 dp) (by omega) hh1 ht1 (fun g2 hf2 ht2 => ?_))
    have hh2 := hh1.fr hf2 hcn
    dsimp only [m_push]
    refine s_aload_n (n := 112) dX7_give_111 rfl rfl rfl ?_
    refine s_aload_n (n := 113) dX7_give_112 rfl rfl rfl ?_
    refine s_iload_n (n := 114) dX7_give_113 rfl rfl rfl ?_
    refine s_aload_n (n := 115) dX7_give_114 rfl rfl rfl ?_
    refine s_iconst (v := 1) (n := 116) dX7_give_115 rfl (by decide) ?_
    refine s_cs2 (n := 119) dX7_give_116 rfl mo_X7_bodyFor ml_X7_19 rfl (Nat.le_of_ble_eq_true rfl) (Nat.le_of_ble_eq_true rfl) (c_X7_bodyFor hhc hh2.2.2.2 1 (by decide) (by rw [hh2.1]; exact hkd) _ ?_)
    show Sim _ _ _ _ _ _ _ _ (m_push (some 21) _) _ _
    dsimp only [m_push]
    refine s_iload (n := 121) dX7_give_119 rfl rfl ?_
    refine s_cs5 (n := 124) dX7_give_121 rfl mo_X7_give ml_X7_23 rfl (Nat.le_of_ble_eq_true rfl) (Nat.le_of_ble_eq_true rfl) (gv21 hhc hcn n (dp + 1) (nI_1 dp) (by omega) hh2 ht2 (fun g3 hf3 ht3 => ?_))
    have hh3 := hh2.fr hf3 hcn
    dsimp only [m_push]
    refine s_iadd (n := 125) dX7_give_124 rfl ?_
    refine s_ireturn dX7_give_125 rfl rfl ?_
    exact hQ g3 ((hf1.tr hf2).tr hf3) ht3
  · exact absurd (nI_le (a := dp) (b := 16) (by omega) (by decide)) h4
theorem gv11_2 {SL : Nat} {d : Nat} {Q : Option Int32 → m_G → Prop} {hc : Nat} (hhc : (m_sh hc).1 = 2) (hcn : hc ∉ [25, 26]) {kd ti got : Int32} (n : Int32) (hkd : kd = 2) {g : m_G} {tr : a_Tr} {x : Int32} (dp : Nat) (hx : x = nI dp) (hdp : dp ≤ 13) (hh : H_h g hc kd ti got) (ht : C_t g tr) (hQ : ∀ g2, m_fr [25, 26] g g2 → C_t g2 ([11, 10, 24, 21, 20].foldl psh tr) → Q (some (ti + (2 * (n + got)))) g2) : Sim SL (d + 4) yX7_give cX7_give 6 (some .int) 0 [.ref 25, .ref hc, .int n, .int 11, .int x, .null] [] g Q := by
  subst hx
  refine s_iload (n := 2) dX7_give_0 rfl rfl ?_
  refine s_bipush (v := 16) (n := 4) dX7_give_2 rfl (by decide) ?_
  refine s_icmp_le (n := 7) (t := 9) dX7_give_4 (by decide) rfl (fun h4 => ?_) (fun h4 => ?_)
  · refine s_aload_n (n := 10) dX7_give_9 rfl rfl rfl ?_
    refine s_iload_n (n := 11) dX7_give_10 rfl rfl rfl ?_
    refine s_cv1 (n := 14) dX7_give_11 rfl mo_X7_leave ml_X7_42 rfl (by decide) rfl rfl (Nat.le_of_ble_eq_true rfl) (Nat.le_of_ble_eq_true rfl) (c_X7_leave ht _ (fun g1 hf1 ht1 => ?_))
    have hh1 := hh.fr hf1 hcn
    dsimp only [m_push]
    refine s_iload (n := 16) dX7_give_14 rfl rfl ?_
    refine s_iconst (v := 1) (n := 17) dX7_give_16 rfl (by decide) ?_
    refine s_iadd (n := 18) dX7_give_17 rfl ?_
    refine s_istore (n := 20) dX7_give_18 rfl (by decide) rfl rfl ?_
    refine s_iload_n (n := 21) dX7_give_20 rfl rfl rfl ?_
    refine s_tsw_in (t := 101) dX7_give_21 (by decide) (by decide) rfl (by decide) ?_
    refine s_aload_n (n := 102) dX7_give_101 rfl rfl rfl ?_
    refine s_aload_n (n := 103) dX7_give_102 rfl rfl rfl ?_
    refine s_iload_n (n := 104) dX7_give_103 rfl rfl rfl ?_
    refine s_bipush (v := 10) (n := 106) dX7_give_104 rfl (by decide) ?_
    refine s_iload (n := 108) dX7_give_106 rfl rfl ?_
    refine s_cs5 (n := 111) dX7_give_108 rfl mo_X7_give ml_X7_23 rfl (Nat.le_of_ble_eq_true rfl) (Nat.le_of_ble_eq_true rfl) (gv10 hhc hcn n (dp + 1) (nI_1 dp) (by omega) hh1 ht1 (fun g2 hf2 ht2 => ?_))
    have hh2 := hh1.fr hf2 hcn
    dsimp only [m_push]
    refine s_aload_n (n := 112) dX7_give_111 rfl rfl rfl ?_
    refine s_aload_n (n := 113) dX7_give_112 rfl rfl rfl ?_
    refine s_iload_n (n := 114) dX7_give_113 rfl rfl rfl ?_
    refine s_aload_n (n := 115) dX7_give_114 rfl rfl rfl ?_
    refine s_iconst (v := 1) (n := 116) dX7_give_115 rfl (by decide) ?_
    refine s_cs2 (n := 119) dX7_give_116 rfl mo_X7_bodyFor ml_X7_19 rfl (Nat.le_of_ble_eq_true rfl) (Nat.le_of_ble_eq_true rfl) (c_X7_bodyFor hhc hh2.2.2.2 2 (by decide) (by rw [hh2.1]; exact hkd) _ ?_)
    show Sim _ _ _ _ _ _ _ _ (m_push (some 24) _) _ _
    dsimp only [m_push]
    refine s_iload (n := 121) dX7_give_119 rfl rfl ?_
    refine s_cs5 (n := 124) dX7_give_121 rfl mo_X7_give ml_X7_23 rfl (Nat.le_of_ble_eq_true rfl) (Nat.le_of_ble_eq_true rfl) (gv24 hhc hcn n (dp + 1) (nI_1 dp) (by omega) hh2 ht2 (fun g3 hf3 ht3 => ?_))
    have hh3 := hh2.fr hf3 hcn
    dsimp only [m_push]
    refine s_iadd (n := 125) dX7_give_124 rfl ?_
    refine s_ireturn dX7_give_125 rfl rfl ?_
    exact hQ g3 ((hf1.tr hf2).tr hf3) ht3
  · exact absurd (nI_le (a := dp) (b := 16) (by omega) (by decide)) h4
theorem gv11_3 {SL : Nat} {d : Nat} {Q : Option Int32 → m_G → Prop} {hc : Nat} (hhc : (m_sh hc).1 = 2) (hcn : hc ∉ [25, 26]) {kd ti got : Int32} (n : Int32) (hkd : kd = 3) {g : m_G} {tr : a_Tr} {x : Int32} (dp : Nat) (hx : x = nI dp) (hdp : dp ≤ 13) (hh : H_h g hc kd ti got) (ht : C_t g tr) (hQ : ∀ g2, m_fr [25, 26] g g2 → C_t g2 ([11, 10, 22, 21, 20].foldl psh tr) → Q (some (ti + (n + got - 1000))) g2) : Sim SL (d + 4) yX7_give cX7_give 6 (some .int) 0 [.ref 25, .ref hc, .int n, .int 11, .int x, .null] [] g Q := by
  subst hx
  refine s_iload (n := 2) dX7_give_0 rfl rfl ?_
  refine s_bipush (v := 16) (n := 4) dX7_give_2 rfl (by decide) ?_
  refine s_icmp_le (n := 7) (t := 9) dX7_give_4 (by decide) rfl (fun h4 => ?_) (fun h4 => ?_)
  · refine s_aload_n (n := 10) dX7_give_9 rfl rfl rfl ?_
    refine s_iload_n (n := 11) dX7_give_10 rfl rfl rfl ?_
    refine s_cv1 (n := 14) dX7_give_11 rfl mo_X7_leave ml_X7_42 rfl (by decide) rfl rfl (Nat.le_of_ble_eq_true rfl) (Nat.le_of_ble_eq_true rfl) (c_X7_leave ht _ (fun g1 hf1 ht1 => ?_))
    have hh1 := hh.fr hf1 hcn
    dsimp only [m_push]
    refine s_iload (n := 16) dX7_give_14 rfl rfl ?_
    refine s_iconst (v := 1) (n := 17) dX7_give_16 rfl (by decide) ?_
    refine s_iadd (n := 18) dX7_give_17 rfl ?_
    refine s_istore (n := 20) dX7_give_18 rfl (by decide) rfl rfl ?_
    refine s_iload_n (n := 21) dX7_give_20 rfl rfl rfl ?_
    refine s_tsw_in (t := 101) dX7_give_21 (by decide) (by decide) rfl (by decide) ?_
    refine s_aload_n (n := 102) dX7_give_101 rfl rfl rfl ?_
    refine s_aload_n (n := 103) dX7_give_102 rfl rfl rfl ?_
    refine s_iload_n (n := 104) dX7_give_103 rfl rfl rfl ?_
    refine s_bipush (v := 10) (n := 106) dX7_give_104 rfl (by decide) ?_
    refine s_iload (n := 108) dX7_give_106 rfl rfl ?_
    refine s_cs5 (n := 111) dX7_give_108 rfl mo_X7_give ml_X7_23 rfl (Nat.le_of_ble_eq_true rfl) (Nat.le_of_ble_eq_true rfl) (gv10 hhc hcn n (dp + 1) (nI_1 dp) (by omega) hh1 ht1 (fun g2 hf2 ht2 => ?_))
    have hh2 := hh1.fr hf2 hcn
    dsimp only [m_push]
    refine s_aload_n (n := 112) dX7_give_111 rfl rfl rfl ?_
    refine s_aload_n (n := 113) dX7_give_112 rfl rfl rfl ?_
    refine s_iload_n (n := 114) dX7_give_113 rfl rfl rfl ?_
    refine s_aload_n (n := 115) dX7_give_114 rfl rfl rfl ?_
    refine s_iconst (v := 1) (n := 116) dX7_give_115 rfl (by decide) ?_
    refine s_cs2 (n := 119) dX7_give_116 rfl mo_X7_bodyFor ml_X7_19 rfl (Nat.le_of_ble_eq_true rfl) (Nat.le_of_ble_eq_true rfl) (c_X7_bodyFor hhc hh2.2.2.2 3 (by decide) (by rw [hh2.1]; exact hkd) _ ?_)
    show Sim _ _ _ _ _ _ _ _ (m_push (some 22) _) _ _
    dsimp only [m_push]
    refine s_iload (n := 121) dX7_give_119 rfl rfl ?_
    refine s_cs5 (n := 124) dX7_give_121 rfl mo_X7_give ml_X7_23 rfl (Nat.le_of_ble_eq_true rfl) (Nat.le_of_ble_eq_true rfl) (gv22 hhc hcn n (dp + 1) (nI_1 dp) (by omega) hh2 ht2 (fun g3 hf3 ht3 => ?_))
    have hh3 := hh2.fr hf3 hcn
    dsimp only [m_push]
    refine s_iadd (n := 125) dX7_give_124 rfl ?_
    refine s_ireturn dX7_give_125 rfl rfl ?_
    exact hQ g3 ((hf1.tr hf2).tr hf3) ht3
  · exact absurd (nI_le (a := dp) (b := 16) (by omega) (by decide)) h4
theorem gv12 {SL : Nat} {d : Nat} {Q : Option Int32 → m_G → Prop} {hc : Nat} (hhc : (m_sh hc).1 = 2) (hcn : hc ∉ [25, 26]) {kd ti got : Int32} (n : Int32) (hkd : kd = 2) {g : m_G} {tr : a_Tr} {x : Int32} (dp : Nat) (hx : x = nI dp) (hdp : dp ≤ 12) (hh : H_h g hc kd ti got) (ht : C_t g tr) (hQ : ∀ g2, m_fr [25, 26] g g2 → C_t g2 ([12, 11, 10, 24, 21, 20].foldl psh tr) → Q (some (-(ti + 2 * (n + got)))) g2) : Sim SL (d + 5) yX7_give cX7_give 6 (some .int) 0 [.ref 25, .ref hc, .int n, .int 12, .int x, .null] [] g Q := by
  subst hx
  refine s_iload (n := 2) dX7_give_0 rfl rfl ?_
  refine s_bipush (v := 16) (n := 4) dX7_give_2 rfl (by decide) ?_
  refine s_icmp_le (n := 7) (t := 9) dX7_give_4 (by decide) rfl (fun h4 => ?_) (fun h4 => ?_)
  · refine s_aload_n (n := 10) dX7_give_9 rfl rfl rfl ?_
    refine s_iload_n (n := 11) dX7_give_10 rfl rfl rfl ?_
    refine s_cv1 (n := 14) dX7_give_11 rfl mo_X7_leave ml_X7_42 rfl (by decide) rfl rfl (Nat.le_of_ble_eq_true rfl) (Nat.le_of_ble_eq_true rfl) (c_X7_leave ht _ (fun g1 hf1 ht1 => ?_))
    have hh1 := hh.fr hf1 hcn
    dsimp only [m_push]
    refine s_iload (n := 16) dX7_give_14 rfl rfl ?_
    refine s_iconst (v := 1) (n := 17) dX7_give_16 rfl (by decide) ?_
    refine s_iadd (n := 18) dX7_give_17 rfl ?_
    refine s_istore (n := 20) dX7_give_18 rfl (by decide) rfl rfl ?_
    refine s_iload_n (n := 21) dX7_give_20 rfl rfl rfl ?_
    refine s_tsw_in (t := 126) dX7_give_21 (by decide) (by decide) rfl (by decide) ?_
    refine s_aload_n (n := 127) dX7_give_126 rfl rfl rfl ?_
    refine s_aload_n (n := 128) dX7_give_127 rfl rfl rfl ?_
    refine s_iload_n (n := 129) dX7_give_128 rfl rfl rfl ?_
    refine s_bipush (v := 11) (n := 131) dX7_give_129 rfl (by decide) ?_
    refine s_iload (n := 133) dX7_give_131 rfl rfl ?_
    refine s_cs5 (n := 136) dX7_give_133 rfl mo_X7_give ml_X7_23 rfl (Nat.le_of_ble_eq_true rfl) (Nat.le_of_ble_eq_true rfl) (gv11_2 hhc hcn n hkd (dp + 1) (nI_1 dp) (by omega) hh1 ht1 (fun g2 hf2 ht2 => ?_))
    have hh2 := hh1.fr hf2 hcn
    dsimp only [m_push]
    refine s_ineg (n := 137) dX7_give_136 rfl ?_
    refine s_ireturn dX7_give_137 rfl rfl ?_
    exact hQ g2 (hf1.tr hf2) ht2
  · exact absurd (nI_le (a := dp) (b := 16) (by omega) (by decide)) h4
theorem gv23_4 {SL : Nat} {d : Nat} {Q : Option Int32 → m_G → Prop} {hc : Nat} (hhc : (m_sh hc).1 = 2) (hcn : hc ∉ [25, 26]) {kd ti got : Int32} (n : Int32) (hkd : kd = 4) {g : m_G} {tr : a_Tr} {x : Int32} (dp : Nat) (hx : x = nI dp) (hdp : dp ≤ 13) (hh : H_h g hc kd ti got) (ht : C_t g tr) (hQ : ∀ g2, m_fr [25, 26] g g2 → C_t g2 ([23, 20, 13, 10].foldl psh tr) → Q (some (n - (ti - 100))) g2) : Sim SL (d + 4) yX7_give cX7_give 6 (some .int) 0 [.ref 25, .ref hc, .int n, .int 23, .int x, .null] [] g Q := by
  subst hx
  refine s_iload (n := 2) dX7_give_0 rfl rfl ?_
  refine s_bipush (v := 16) (n := 4) dX7_give_2 rfl (by decide) ?_
  refine s_icmp_le (n := 7) (t := 9) dX7_give_4 (by decide) rfl (fun h4 => ?_) (fun h4 => ?_)
  · refine s_aload_n (n := 10) dX7_give_9 rfl rfl rfl ?_
    refine s_iload_n (n := 11) dX7_give_10 rfl rfl rfl ?_
    refine s_cv1 (n := 14) dX7_give_11 rfl mo_X7_leave ml_X7_42 rfl (by decide) rfl rfl (Nat.le_of_ble_eq_true rfl) (Nat.le_of_ble_eq_true rfl) (c_X7_leave ht _ (fun g1 hf1 ht1 => ?_))
    have hh1 := hh.fr hf1 hcn
    dsimp only [m_push]
    refine s_iload (n := 16) dX7_give_14 rfl rfl ?_
    refine s_iconst (v := 1) (n := 17) dX7_give_16 rfl (by decide) ?_
    refine s_iadd (n := 18) dX7_give_17 rfl ?_
    refine s_istore (n := 20) dX7_give_18 rfl (by decide) rfl rfl ?_
    refine s_iload_n (n := 21) dX7_give_20 rfl rfl rfl ?_
    refine s_tsw_in (t := 198) dX7_give_21 (by decide) (by decide) rfl (by decide) ?_
    refine s_aload_n (n := 199) dX7_give_198 rfl rfl rfl ?_
    refine s_aload_n (n := 200) dX7_give_199 rfl rfl rfl ?_
    refine s_iload_n (n := 201) dX7_give_200 rfl rfl rfl ?_
    refine s_bipush (v := 20) (n := 203) dX7_give_201 rfl (by decide) ?_
    refine s_iload (n := 205) dX7_give_203 rfl rfl ?_
    refine s_cs5 (n := 208) dX7_give_205 rfl mo_X7_give ml_X7_23 rfl (Nat.le_of_ble_eq_true rfl) (Nat.le_of_ble_eq_true rfl) (gv20 hhc hcn n (dp + 1) (nI_1 dp) (by omega) hh1 ht1 (fun g2 hf2 ht2 => ?_))
    have hh2 := hh1.fr hf2 hcn
    dsimp only [m_push]
    refine s_aload_n (n := 209) dX7_give_208 rfl rfl rfl ?_
    refine s_aload_n (n := 210) dX7_give_209 rfl rfl rfl ?_
    refine s_iload_n (n := 211) dX7_give_210 rfl rfl rfl ?_
    refine s_aload_n (n := 212) dX7_give_211 rfl rfl rfl ?_
    refine s_iconst (v := 0) (n := 213) dX7_give_212 rfl (by decide) ?_
    refine s_cs2 (n := 216) dX7_give_213 rfl mo_X7_bodyFor ml_X7_19 rfl (Nat.le_of_ble_eq_true rfl) (Nat.le_of_ble_eq_true rfl) (c_X7_bodyFor hhc hh2.2.2.2 4 (by decide) (by rw [hh2.1]; exact hkd) _ ?_)
    show Sim _ _ _ _ _ _ _ _ (m_push (some 13) _) _ _
    dsimp only [m_push]
    refine s_iload (n := 218) dX7_give_216 rfl rfl ?_
    refine s_cs5 (n := 221) dX7_give_218 rfl mo_X7_give ml_X7_23 rfl (Nat.le_of_ble_eq_true rfl) (Nat.le_of_ble_eq_true rfl) (gv13 hhc hcn n (dp + 1) (nI_1 dp) (by omega) hh2 ht2 (fun g3 hf3 ht3 => ?_))
    have hh3 := hh2.fr hf3 hcn
    dsimp only [m_push]
    refine s_isub (n := 222) dX7_give_221 rfl ?_
    refine s_ireturn dX7_give_222 rfl rfl ?_
    exact hQ g3 ((hf1.tr hf2).tr hf3) ht3
  · exact absurd (nI_le (a := dp) (b := 16) (by omega) (by decide)) h4
theorem gv23_5 {SL : Nat} {d : Nat} {Q : Option Int32 → m_G → Prop} {hc : Nat} (hhc : (m_sh hc).1 = 2) (hcn : hc ∉ [25, 26]) {kd ti got : Int32} (n : Int32) (hkd : kd = 5) {g : m_G} {tr : a_Tr} {x : Int32} (dp : Nat) (hx : x = nI dp) (hdp : dp ≤ 13) (hh : H_h g hc kd ti got) (ht : C_t g tr) (hQ : ∀ g2, m_fr [25, 26] g g2 → C_t g2 ([23, 20, 14, 13, 10].foldl psh tr) → Q (some (n - (2 * (ti - 100)))) g2) : Sim SL (d + 4) yX7_give cX7_give 6 (some .int) 0 [.ref 25, .ref hc, .int n, .int 23, .int x, .null] [] g Q := by
  subst hx
  refine s_iload (n := 2) dX7_give_0 rfl rfl ?_
  refine s_bipush (v := 16) (n := 4) dX7_give_2 rfl (by decide) ?_
  refine s_icmp_le (n := 7) (t := 9) dX7_give_4 (by decide) rfl (fun h4 => ?_) (fun h4 => ?_)
  · refine s_aload_n (n := 10) dX7_give_9 rfl rfl rfl ?_
    refine s_iload_n (n := 11) dX7_give_10 rfl rfl rfl ?_
    refine s_cv1 (n := 14) dX7_give_11 rfl mo_X7_leave ml_X7_42 rfl (by decide) rfl rfl (Nat.le_of_ble_eq_true rfl) (Nat.le_of_ble_eq_true rfl) (c_X7_leave ht _ (fun g1 hf1 ht1 => ?_))
    have hh1 := hh.fr hf1 hcn
    dsimp only [m_push]
    refine s_iload (n := 16) dX7_give_14 rfl rfl ?_
    refine s_iconst (v := 1) (n := 17) dX7_give_16 rfl (by decide) ?_
    refine s_iadd (n := 18) dX7_give_17 rfl ?_
    refine s_istore (n := 20) dX7_give_18 rfl (by decide) rfl rfl ?_
    refine s_iload_n (n := 21) dX7_give_20 rfl rfl rfl ?_
    refine s_tsw_in (t := 198) dX7_give_21 (by decide) (by decide) rfl (by decide) ?_
    refine s_aload_n (n := 199) dX7_give_198 rfl rfl rfl ?_
    refine s_aload_n (n := 200) dX7_give_199 rfl rfl rfl ?_
    refine s_iload_n (n := 201) dX7_give_200 rfl rfl rfl ?_
    refine s_bipush (v := 20) (n := 203) dX7_give_201 rfl (by decide) ?_
    refine s_iload (n := 205) dX7_give_203 rfl rfl ?_
    refine s_cs5 (n := 208) dX7_give_205 rfl mo_X7_give ml_X7_23 rfl (Nat.le_of_ble_eq_true rfl) (Nat.le_of_ble_eq_true rfl) (gv20 hhc hcn n (dp + 1) (nI_1 dp) (by omega) hh1 ht1 (fun g2 hf2 ht2 => ?_))
    have hh2 := hh1.fr hf2 hcn
    dsimp only [m_push]
    refine s_aload_n (n := 209) dX7_give_208 rfl rfl rfl ?_
    refine s_aload_n (n := 210) dX7_give_209 rfl rfl rfl ?_
    refine s_iload_n (n := 211) dX7_give_210 rfl rfl rfl ?_
    refine s_aload_n (n := 212) dX7_give_211 rfl rfl rfl ?_
    refine s_iconst (v := 0) (n := 213) dX7_give_212 rfl (by decide) ?_
    refine s_cs2 (n := 216) dX7_give_213 rfl mo_X7_bodyFor ml_X7_19 rfl (Nat.le_of_ble_eq_true rfl) (Nat.le_of_ble_eq_true rfl) (c_X7_bodyFor hhc hh2.2.2.2 5 (by decide) (by rw [hh2.1]; exact hkd) _ ?_)
    show Sim _ _ _ _ _ _ _ _ (m_push (some 14) _) _ _
    dsimp only [m_push]
    refine s_iload (n := 218) dX7_give_216 rfl rfl ?_
    refine s_cs5 (n := 221) dX7_give_218 rfl mo_X7_give ml_X7_23 rfl (Nat.le_of_ble_eq_true rfl) (Nat.le_of_ble_eq_true rfl) (gv14 hhc hcn n (dp + 1) (nI_1 dp) (by omega) hh2 ht2 (fun g3 hf3 ht3 => ?_))
    have hh3 := hh2.fr hf3 hcn
    dsimp only [m_push]
    refine s_isub (n := 222) dX7_give_221 rfl ?_
    refine s_ireturn dX7_give_222 rfl rfl ?_
    exact hQ g3 ((hf1.tr hf2).tr hf3) ht3
  · exact absurd (nI_le (a := dp) (b := 16) (by omega) (by decide)) h4
