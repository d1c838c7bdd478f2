/-! ===== reading a hill: length, bytes, place ===== -/
def pkB (L : Nat) (f : Nat → Int32) (i : Nat) : Int32 := if i < L then f i else -1
abbrev dgB (L : Nat) (f : Nat → Int32) (i : Nat) : Prop := wn (pkB L f i) 48 57
abbrev rdE : Type := Int32 × Nat
def nmR (L : Nat) (f : Nat → Int32) (at_ : Nat) : Option (Int32 × Nat) := if dgB L f at_ then (if dgB L f (at_ + 1) then (if dgB L f (at_ + 2) then none else some (10 * (pkB L f at_ - 48) + pkB L f (at_ + 1) - 48, 2)) else some (pkB L f at_ - 48, 1)) else none
def rdN (L : Nat) (f : Nat → Int32) (lo hi : Int32) (at_ : Nat) : Sum rdE (Int32 × Nat) := match nmR L f at_ with
  | none => .inl (1, at_)
  | some q => if wn q.1 lo hi then .inr (q.1, at_ + q.2) else .inl (2, at_)
def rdS (L : Nat) (f : Nat → Int32) (c : Int32) (at_ : Nat) : Sum rdE Nat := if pkB L f at_ = c then .inr (at_ + 1) else .inl (1, at_)
def lwL (k : Nat) : Int32 := [2, 0, 0, 1, 0, 1].getD k 0
def lwM (k : Nat) : Int32 := [9, 6, 6, 9, 2, 9].getD k 0
def lwP (k : Nat) : Nat := [0, 2, 3, 4, 5, 6].getD k 0
def rlK (L : Nat) (f : Nat → Int32) : Nat → Nat → Nat → m_T → Sum rdE (Nat × m_T)
  | 0, _, at_, t => .inr (at_, t)
  | n + 1, k, at_, t => match rdN L f (lwL k) (lwM k) at_ with
    | .inl e => .inl e
    | .inr p => match rdS L f (if k < 5 then 44 else 59) p.2 with
      | .inl e => .inl e
      | .inr a2 => rlK L f n (k + 1) a2 (upd t (lwP k) p.1)
def kOf (x : Int32) : Int32 := if x = 100 then 1 else if x = 112 then 2 else if x = 109 then 3 else if x = 119 then 4 else if x = 117 then 5 else 0
def addH (t : m_T) (kd ti li wa : Int32) : m_T := upd (upd (upd (upd (upd t (9 + a_cn t) kd) (15 + a_cn t) ti) (21 + a_cn t) li) (27 + a_cn t) wa) 1 (nI (a_cn t + 1))
def rdH (L : Nat) (f : Nat → Int32) (at_ : Nat) (t : m_T) : Sum rdE (Nat × m_T) :=
  if kOf (pkB L f at_) = 0 then .inl (1, at_) else if a_cn t = 6 then .inl (3, at_) else
  match rdN L f 1 (t 0) (at_ + 1) with
  | .inl e => .inl e
  | .inr p => match rdS L f 44 p.2 with
    | .inl e => .inl e
    | .inr a2 => match rdN L f 0 6 a2 with
      | .inl e => .inl e
      | .inr q => if sAt t p.1 q.1 = none then (match rdS L f 44 q.2 with
        | .inl e => .inl e
        | .inr a4 => match rdN L f 0 1 a4 with
          | .inl e => .inl e
          | .inr r => match rdS L f 59 r.2 with
            | .inl e => .inl e
            | .inr a6 => .inr (a6, addH t (kOf (pkB L f at_)) p.1 q.1 r.1)) else .inl (2, a2)
def rdHs (L : Nat) (f : Nat → Int32) : Nat → Nat → m_T → Sum rdE m_T
  | 0, _, _ => .inl (0, 0)
  | n + 1, at_, t => if at_ < L then (match rdH L f at_ t with
    | .inl e => .inl e
    | .inr p => rdHs L f n p.1 p.2) else .inr t
def rdW (L : Nat) (f : Nat → Int32) : Sum rdE (Nat × m_T) := match rdS L f 99 0 with
  | .inl e => .inl e
  | .inr a0 => rlK L f 6 0 a0 (fun _ => 0)
def rdAll (L : Nat) (f : Nat → Int32) : Sum rdE m_T := match rdW L f with
  | .inl e => .inl e
  | .inr p => rdHs L f 7 p.1 p.2
def opT (t : m_T) : m_T := upd t 8 (nI (2 ^ a_cn t - 1))
def sp_hill (a : a_S) : Int32 × a_S := match rdAll (a_tape a).1 (a_tape a).2 with
  | .inl e => (-1000100 - nI e.2, u_fault (u_tape a (0, (a_tape a).2)) e.1)
  | .inr t => (t 1, u_hill (u_tape a (0, (a_tape a).2)) (some (opT t)) [])
theorem pkB_lt {L : Nat} {f : Nat → Int32} {i : Nat} (h : pkB L f i ≠ -1) : i < L := by
  unfold pkB at h
  split at h
  · assumption
  · exact absurd rfl h
theorem dg_lt {L : Nat} {f : Nat → Int32} {i : Nat} (h : dgB L f i) : i < L := pkB_lt (fun e => by unfold dgB at h; rw [e] at h; exact absurd h (by decide))
theorem pkB_eq {L : Nat} {f : Nat → Int32} {i : Nat} (h : i < L) : pkB L f i = f i := if_pos h
theorem nm_le {L : Nat} {f : Nat → Int32} {i : Nat} {q : Int32 × Nat} (h : nmR L f i = some q) : i + q.2 ≤ L := by
  unfold nmR at h
  split at h
  · rename_i h0
    split at h
    · rename_i h1
      split at h
      · cases h
      · cases h; exact dg_lt h1
    · cases h; exact dg_lt h0
  · cases h
theorem rdN_r {L : Nat} {f : Nat → Int32} {lo hi : Int32} {i : Nat} {q : Int32 × Nat} (h : nmR L f i = some q) (hw : wn q.1 lo hi) : rdN L f lo hi i = .inr (q.1, i + q.2) := by
  unfold rdN; rw [h]; exact if_pos hw
theorem rdN_2 {L : Nat} {f : Nat → Int32} {lo hi : Int32} {i : Nat} {q : Int32 × Nat} (h : nmR L f i = some q) (hw : ¬ wn q.1 lo hi) : rdN L f lo hi i = .inl (2, i) := by
  unfold rdN; rw [h]; exact if_neg hw
theorem rdN_1 {L : Nat} {f : Nat → Int32} {lo hi : Int32} {i : Nat} (h : nmR L f i = none) : rdN L f lo hi i = .inl (1, i) := by
  unfold rdN; rw [h]
theorem nm_0 {L : Nat} {f : Nat → Int32} {i : Nat} (h : ¬ dgB L f i) : nmR L f i = none := if_neg h
theorem nm_1 {L : Nat} {f : Nat → Int32} {i : Nat} (h : dgB L f i) (h1 : ¬ dgB L f (i + 1)) : nmR L f i = some (pkB L f i - 48, 1) := by unfold nmR; rw [if_pos h, if_neg h1]
theorem nm_2 {L : Nat} {f : Nat → Int32} {i : Nat} (h : dgB L f i) (h1 : dgB L f (i + 1)) (h2 : ¬ dgB L f (i + 2)) : nmR L f i = some (10 * (pkB L f i - 48) + pkB L f (i + 1) - 48, 2) := by unfold nmR; rw [if_pos h, if_pos h1, if_neg h2]
theorem nm_3 {L : Nat} {f : Nat → Int32} {i : Nat} (h : dgB L f i) (h1 : dgB L f (i + 1)) (h2 : dgB L f (i + 2)) : nmR L f i = none := by unfold nmR; rw [if_pos h, if_pos h1, if_pos h2]
theorem rdS_r {L : Nat} {f : Nat → Int32} {c : Int32} {i : Nat} (h : pkB L f i = c) : rdS L f c i = .inr (i + 1) := if_pos h
theorem rdS_l {L : Nat} {f : Nat → Int32} {c : Int32} {i : Nat} (h : ¬ pkB L f i = c) : rdS L f c i = .inl (1, i) := if_neg h
/-- the tape of the class -/
def CT (g : m_G) (L : Nat) (f : Nat → Int32) (at_ : Nat) : Prop := g 18 1 = nI L ∧ g 18 2 = nI at_ ∧ L ≤ 100 ∧ at_ ≤ L ∧ ∀ i, i < L → g 19 i = f i
def CF (g : m_G) (e : rdE) : Prop := g 18 3 = e.1 ∧ g 18 4 = nI e.2
theorem CT.fr {g g2 : m_G} {L : Nat} {f : Nat → Int32} {at_ : Nat} {S : List Nat} (h : CT g L f at_) (hf : m_fr S g g2) (h1 : 18 ∉ S) (h2 : 19 ∉ S) : CT g2 L f at_ := by
  unfold CT; rw [hf 18 h1, hf 19 h2]; exact h
theorem CT.to {g : m_G} {L : Nat} {f : Nat → Int32} {at_ a2 : Nat} (h : CT g L f at_) (ha : a2 ≤ L) : CT (m_up g 18 2 (nI a2)) L f a2 := by
  refine ⟨?_, ?_, h.2.2.1, ha, fun i hi => ?_⟩
  · rw [m_up_k, if_neg (by decide)]; exact h.1
  · rw [m_up_k, if_pos rfl]
  · rw [m_up_o (by decide)]; exact h.2.2.2.2 i hi
theorem CF.mk' {g : m_G} {w : Int32} {p : Nat} : CF (m_up (m_up g 18 3 w) 18 4 (nI p)) (w, p) := by
  refine ⟨?_, ?_⟩
  · rw [m_up_k, if_neg (by decide), m_up_k, if_pos rfl]
  · rw [m_up_k, if_pos rfl]
theorem wn_L {L i : Nat} (hL : L ≤ 100) (hi : i < 1000) : wn (nI i) 0 (nI L - 1) ↔ i < L := by
  have e : (nI L - 1).toInt = (L : Int) - 1 := by
    rw [Int32.toInt_sub, nI_toInt (by omega), ti1]
    simp only [Int.bmod_def]
    omega
  refine ⟨fun h => ?_, fun h => ⟨nI_pos (by omega), ?_⟩⟩
  · have h2 := h.2
    rw [i32_lt, e, nI_toInt (by omega)] at h2
    omega
  · rw [i32_lt, e, nI_toInt (by omega)]; omega
theorem c_X6_peek {SL : Nat} {d : Nat} {Q : Option Int32 → m_G → Prop} {g : m_G} {L : Nat} {f : Nat → Int32} {at_ : Nat} (hT : CT g L f at_) (i : Nat) (hi : i < 1000) {x : Int32} (hx : x = nI i) (hQ : Q (some (pkB L f i)) g) : Sim SL (d + 1) yX6_peek cX6_peek 2 (some .int) 0 [.ref 18, .int x] [] g Q := by
  subst hx
  have hL := hT.2.2.1
  refine s_iload_n (n := 1) dX6_peek_0 rfl rfl rfl ?_
  refine s_iconst (v := 0) (n := 2) dX6_peek_1 rfl (by decide) ?_
  refine s_aload_n (n := 3) dX6_peek_2 rfl rfl rfl ?_
  refine s_geti (n := 6) dX6_peek_3 rfl fl_X6_15 rfl rfl ?_
  rw [hT.1]
  refine s_iconst (v := 1) (n := 7) dX6_peek_6 rfl (by decide) ?_
  refine s_isub (n := 8) dX6_peek_7 rfl ?_
  refine s_cs3 (n := 11) dX6_peek_8 rfl mo_X8_within ml_X6_86 rfl (Nat.le_of_ble_eq_true rfl) (Nat.le_of_ble_eq_true rfl) (c_X8_within _ _ _ (fun hb8 => ?_) (fun hb8 => ?_))
  · dsimp only [m_push]
    refine s_if_eq (n := 14) (t := 29) dX6_peek_11 (by decide) rfl (fun h => absurd h (by decide)) (fun _ => ?_)
    refine s_iload_n (n := 15) dX6_peek_14 rfl rfl rfl ?_
    refine s_bipush (v := 100) (n := 17) dX6_peek_15 rfl (by decide) ?_
    refine s_icmp_ge (n := 20) (t := 29) dX6_peek_17 (by decide) rfl (fun h17 => ?_) (fun h17 => ?_)
    · have := (wn_L hL hi).mp hb8
      exact absurd h17 (nI_ge (show i < 100 by omega) (by decide))
    · refine s_aload_n (n := 21) dX6_peek_20 rfl rfl rfl ?_
      refine s_getr (k2 := 19) (n := 24) dX6_peek_21 rfl fl_X6_9 rfl rfl rfl ?_
      refine s_iload_n (n := 25) dX6_peek_24 rfl rfl rfl ?_
      refine s_iaload i (n := 26) dX6_peek_25 rfl rfl rfl (by have := (wn_L hL hi).mp hb8; omega) ?_
      refine s_goto (t := 30) dX6_peek_26 (by decide) ?_
      refine s_ireturn dX6_peek_30 rfl rfl ?_
      first
      | (have h9 := (wn_L hL hi).mp hb8
         rw [hT.2.2.2.2 i h9]
         rw [pkB_eq h9] at hQ
         exact hQ)
      | (have h9 : pkB L f i = -1 := if_neg (fun q => hb8 ((wn_L hL hi).mpr q))
         rw [h9] at hQ
         exact hQ)
  · dsimp only [m_push]
    refine s_if_eq (n := 14) (t := 29) dX6_peek_11 (by decide) rfl (fun _ => ?_) (fun h => absurd h (by decide))
    refine s_iconst (v := -1) (n := 30) dX6_peek_29 rfl (by decide) ?_
    refine s_ireturn dX6_peek_30 rfl rfl ?_
    first
    | (have h9 := (wn_L hL hi).mp hb8
       rw [hT.2.2.2.2 i h9]
       rw [pkB_eq h9] at hQ
       exact hQ)
    | (have h9 : pkB L f i = -1 := if_neg (fun q => hb8 ((wn_L hL hi).mpr q))
       rw [h9] at hQ
       exact hQ)
theorem c_X6_fail {SL : Nat} {d : Nat} {Q : Option Int32 → m_G → Prop} {g : m_G} (w p : Int32) (hQ : Q (some 0) (m_up (m_up g 18 3 w) 18 4 p)) : Sim SL d yX6_fail cX6_fail 3 (some .boolean) 0 [.ref 18, .int w, .int p] [] g Q := by
  refine s_aload_n (n := 1) dX6_fail_0 rfl rfl rfl ?_
  refine s_iload_n (n := 2) dX6_fail_1 rfl rfl rfl ?_
  refine s_puti (n := 5) dX6_fail_2 rfl fl_X6_22 rfl rfl rfl ?_
  refine s_aload_n (n := 6) dX6_fail_5 rfl rfl rfl ?_
  refine s_iload_n (n := 7) dX6_fail_6 rfl rfl rfl ?_
  refine s_puti (n := 10) dX6_fail_7 rfl fl_X6_25 rfl rfl rfl ?_
  refine s_iconst (v := 0) (n := 11) dX6_fail_10 rfl (by decide) ?_
  refine s_ireturn dX6_fail_11 rfl (by decide +kernel) ?_
  exact hQ
theorem c_X6_kindOf {SL : Nat} {d : Nat} {Q : Option Int32 → m_G → Prop} {g : m_G} (x : Int32) (hQ : Q (some (kOf x)) g) : Sim SL d yX6_kindOf cX6_kindOf 1 (some .int) 0 [.int x] [] g Q := by
  unfold kOf at hQ
  refine s_iload_n (n := 1) dX6_kindOf_0 rfl rfl rfl ?_
  by_cases hs1_100 : x = 100
  · rw [hs1_100]
    refine s_lsw (t := 52) (off := 51) dX6_kindOf_1 (by decide) (by decide) (by decide) ?_
    refine s_iconst (v := 1) (n := 53) dX6_kindOf_52 rfl (by decide) ?_
    refine s_ireturn dX6_kindOf_53 rfl rfl ?_
    first
    | (simp only [if_pos hs1_100] at hQ; exact hQ)
    | (rw [hs1_109] at hQ; exact hQ)
    | (rw [hs1_112] at hQ; exact hQ)
    | (rw [hs1_117] at hQ; exact hQ)
    | (rw [hs1_119] at hQ; exact hQ)
    | (simp only [if_neg hs1_100, if_neg hs1_109, if_neg hs1_112, if_neg hs1_117, if_neg hs1_119] at hQ; exact hQ)
  by_cases hs1_109 : x = 109
  · rw [hs1_109]
    refine s_lsw (t := 56) (off := 55) dX6_kindOf_1 (by decide) (by decide) (by decide) ?_
    refine s_iconst (v := 3) (n := 57) dX6_kindOf_56 rfl (by decide) ?_
    refine s_ireturn dX6_kindOf_57 rfl rfl ?_
    first
    | (simp only [if_pos hs1_100] at hQ; exact hQ)
    | (rw [hs1_109] at hQ; exact hQ)
    | (rw [hs1_112] at hQ; exact hQ)
    | (rw [hs1_117] at hQ; exact hQ)
    | (rw [hs1_119] at hQ; exact hQ)
    | (simp only [if_neg hs1_100, if_neg hs1_109, if_neg hs1_112, if_neg hs1_117, if_neg hs1_119] at hQ; exact hQ)
  by_cases hs1_112 : x = 112
  · rw [hs1_112]
    refine s_lsw (t := 54) (off := 53) dX6_kindOf_1 (by decide) (by decide) (by decide) ?_
    refine s_iconst (v := 2) (n := 55) dX6_kindOf_54 rfl (by decide) ?_
    refine s_ireturn dX6_kindOf_55 rfl rfl ?_
    first
    | (simp only [if_pos hs1_100] at hQ; exact hQ)
    | (rw [hs1_109] at hQ; exact hQ)
    | (rw [hs1_112] at hQ; exact hQ)
    | (rw [hs1_117] at hQ; exact hQ)
    | (rw [hs1_119] at hQ; exact hQ)
    | (simp only [if_neg hs1_100, if_neg hs1_109, if_neg hs1_112, if_neg hs1_117, if_neg hs1_119] at hQ; exact hQ)
  by_cases hs1_117 : x = 117
  · rw [hs1_117]
    refine s_lsw (t := 60) (off := 59) dX6_kindOf_1 (by decide) (by decide) (by decide) ?_
    refine s_iconst (v := 5) (n := 61) dX6_kindOf_60 rfl (by decide) ?_
    refine s_ireturn dX6_kindOf_61 rfl rfl ?_
    first
    | (simp only [if_pos hs1_100] at hQ; exact hQ)
    | (rw [hs1_109] at hQ; exact hQ)
    | (rw [hs1_112] at hQ; exact hQ)
    | (rw [hs1_117] at hQ; exact hQ)
    | (rw [hs1_119] at hQ; exact hQ)
    | (simp only [if_neg hs1_100, if_neg hs1_109, if_neg hs1_112, if_neg hs1_117, if_neg hs1_119] at hQ; exact hQ)
  by_cases hs1_119 : x = 119
  · rw [hs1_119]
    refine s_lsw (t := 58) (off := 57) dX6_kindOf_1 (by decide) (by decide) (by decide) ?_
    refine s_iconst (v := 4) (n := 59) dX6_kindOf_58 rfl (by decide) ?_
    refine s_ireturn dX6_kindOf_59 rfl rfl ?_
    first
    | (simp only [if_pos hs1_100] at hQ; exact hQ)
    | (rw [hs1_109] at hQ; exact hQ)
    | (rw [hs1_112] at hQ; exact hQ)
    | (rw [hs1_117] at hQ; exact hQ)
    | (rw [hs1_119] at hQ; exact hQ)
    | (simp only [if_neg hs1_100, if_neg hs1_109, if_neg hs1_112, if_neg hs1_117, if_neg hs1_119] at hQ; exact hQ)
  refine s_lsw (t := 62) (off := 61) dX6_kindOf_1 (by decide) (by rw [lv_osw hs1_100 (by decide)]; rw [lv_osw hs1_109 (by decide)]; rw [lv_osw hs1_112 (by decide)]; rw [lv_osw hs1_117 (by decide)]; rw [lv_osw hs1_119 (by decide)]; rfl) (by decide) ?_
  refine s_iconst (v := 0) (n := 63) dX6_kindOf_62 rfl (by decide) ?_
  refine s_ireturn dX6_kindOf_63 rfl rfl ?_
  first
  | (simp only [if_pos hs1_100] at hQ; exact hQ)
  | (rw [hs1_109] at hQ; exact hQ)
  | (rw [hs1_112] at hQ; exact hQ)
  | (rw [hs1_117] at hQ; exact hQ)
  | (rw [hs1_119] at hQ; exact hQ)
  | (simp only [if_neg hs1_100, if_neg hs1_109, if_neg hs1_112, if_neg hs1_117, if_neg hs1_119] at hQ; exact hQ)
theorem c_X6_readSign {SL : Nat} {d : Nat} {Q : Option Int32 → m_G → Prop} {g : m_G} {L : Nat} {f : Nat → Int32} {at_ : Nat} (hT : CT g L f at_) (c : Int32) (hc : c ≠ -1) (k1 : rdS L f c at_ = .inr (at_ + 1) → ∀ g2, m_fr [18] g g2 → CT g2 L f (at_ + 1) → Q (some 1) g2) (k0 : rdS L f c at_ = .inl (1, at_) → ∀ g2, m_fr [18] g g2 → CF g2 (1, at_) → Q (some 0) g2) : Sim SL (d + 2) yX6_readSign cX6_readSign 2 (some .boolean) 0 [.ref 18, .int c] [] g Q := by
  refine s_aload_n (n := 1) dX6_readSign_0 rfl rfl rfl ?_
  refine s_aload_n (n := 2) dX6_readSign_1 rfl rfl rfl ?_
  refine s_geti (n := 5) dX6_readSign_2 rfl fl_X6_19 rfl rfl ?_
  refine s_cv1 (n := 8) dX6_readSign_5 rfl mo_X6_peek ml_X6_62 rfl (by decide) rfl rfl (Nat.le_of_ble_eq_true rfl) (Nat.le_of_ble_eq_true rfl) (c_X6_peek hT at_ (by have := hT.2.2.1; have := hT.2.2.2.1; omega) hT.2.1 ?_)
  dsimp only [m_push]
  refine s_iload_n (n := 9) dX6_readSign_8 rfl rfl rfl ?_
  refine s_icmp_eq (n := 12) (t := 22) dX6_readSign_9 (by decide) rfl (fun h9 => ?_) (fun h9 => ?_)
  · refine s_aload_n (n := 23) dX6_readSign_22 rfl rfl rfl ?_
    refine s_dup (n := 24) dX6_readSign_23 rfl rfl ?_
    refine s_geti (n := 27) dX6_readSign_24 rfl fl_X6_19 rfl rfl ?_
    refine s_iconst (v := 1) (n := 28) dX6_readSign_27 rfl (by decide) ?_
    refine s_iadd (n := 29) dX6_readSign_28 rfl ?_
    rw [hT.2.1, nI_1]
    refine s_puti (n := 32) dX6_readSign_29 rfl fl_X6_19 rfl rfl rfl ?_
    refine s_iconst (v := 1) (n := 33) dX6_readSign_32 rfl (by decide) ?_
    refine s_ireturn dX6_readSign_33 rfl (by decide +kernel) ?_
    exact k1 (rdS_r h9) _ (m_fr.up (by decide)) (hT.to (pkB_lt (by rw [h9]; exact hc)))
  · refine s_aload_n (n := 13) dX6_readSign_12 rfl rfl rfl ?_
    refine s_iconst (v := 1) (n := 14) dX6_readSign_13 rfl (by decide) ?_
    refine s_aload_n (n := 15) dX6_readSign_14 rfl rfl rfl ?_
    refine s_geti (n := 18) dX6_readSign_15 rfl fl_X6_19 rfl rfl ?_
    rw [hT.2.1]
    refine s_cv2 (n := 21) dX6_readSign_18 rfl mo_X6_fail ml_X6_69 rfl (by decide) rfl rfl (Nat.le_of_ble_eq_true rfl) (Nat.le_of_ble_eq_true rfl) (c_X6_fail _ _ ?_)
    dsimp only [m_push]
    refine s_ireturn dX6_readSign_21 rfl (by decide +kernel) ?_
    exact k0 (rdS_l h9) _ ((m_fr.up (by decide)).up2 (by decide)) CF.mk'
theorem c_X6_readNumber {SL : Nat} {d : Nat} {Q : Option Int32 → m_G → Prop} {g : m_G} {L : Nat} {f : Nat → Int32} {at_ : Nat} (hT : CT g L f at_) (lo hi : Int32) (k1 : ∀ v a2, rdN L f lo hi at_ = .inr (v, a2) → wn v lo hi → a2 ≤ L → ∀ g2, m_fr [18] g g2 → CT g2 L f a2 → Q (some v) g2) (k0 : ∀ w, rdN L f lo hi at_ = .inl (w, at_) → ∀ g2, m_fr [18] g g2 → CF g2 (w, at_) → Q (some (-1)) g2) : Sim SL (d + 2) yX6_readNumber cX6_readNumber 5 (some .int) 0 [.ref 18, .int lo, .int hi, .null, .null] [] g Q := by
  have hL := hT.2.2.1
  have hL2 := hT.2.2.2.1
  refine s_iconst (v := 0) (n := 1) dX6_readNumber_0 rfl (by decide) ?_
  refine s_istore_n (n := 2) dX6_readNumber_1 rfl rfl (by decide) rfl rfl ?_
  refine s_iconst (v := 0) (n := 3) dX6_readNumber_2 rfl (by decide) ?_
  refine s_istore (n := 5) dX6_readNumber_3 rfl (by decide) rfl rfl ?_
  refine s_iload_n (n := 6) dX6_readNumber_5 rfl rfl rfl ?_
  refine s_iconst (v := 3) (n := 7) dX6_readNumber_6 rfl (by decide) ?_
  refine s_icmp_ge (n := 10) (t := 57) dX6_readNumber_7 (by decide) rfl (fun h => absurd h (by decide)) (fun _ => ?_)
  refine s_aload_n (n := 11) dX6_readNumber_10 rfl rfl rfl ?_
  refine s_aload_n (n := 12) dX6_readNumber_11 rfl rfl rfl ?_
  refine s_geti (n := 15) dX6_readNumber_12 rfl fl_X6_19 rfl rfl ?_
  refine s_iload_n (n := 16) dX6_readNumber_15 rfl rfl rfl ?_
  refine s_iadd (n := 17) dX6_readNumber_16 rfl ?_
  refine s_cv1 (n := 20) dX6_readNumber_17 rfl mo_X6_peek ml_X6_62 rfl (by decide) rfl rfl (Nat.le_of_ble_eq_true rfl) (Nat.le_of_ble_eq_true rfl) (c_X6_peek hT (at_ + 0) (by omega) (by rw [hT.2.1, show ((0 : Int32)) = nI 0 from rfl, nI_add]) ?_)
  dsimp only [m_push]
  refine s_bipush (v := 48) (n := 22) dX6_readNumber_20 rfl (by decide) ?_
  refine s_bipush (v := 57) (n := 24) dX6_readNumber_22 rfl (by decide) ?_
  refine s_cs3 (n := 27) dX6_readNumber_24 rfl mo_X8_within ml_X6_86 rfl (Nat.le_of_ble_eq_true rfl) (Nat.le_of_ble_eq_true rfl) (c_X8_within _ _ _ (fun hb24 => ?_) (fun hb24 => ?_))
  · dsimp only [m_push]
    refine s_if_eq (n := 30) (t := 57) dX6_readNumber_27 (by decide) rfl (fun h => absurd h (by decide)) (fun _ => ?_)
    have hd0 : dgB L f (at_ + 0) := hb24
    refine s_bipush (v := 10) (n := 32) dX6_readNumber_30 rfl (by decide) ?_
    refine s_iload (n := 34) dX6_readNumber_32 rfl rfl ?_
    refine s_imul (n := 35) dX6_readNumber_34 rfl ?_
    refine s_aload_n (n := 36) dX6_readNumber_35 rfl rfl rfl ?_
    refine s_aload_n (n := 37) dX6_readNumber_36 rfl rfl rfl ?_
    refine s_geti (n := 40) dX6_readNumber_37 rfl fl_X6_19 rfl rfl ?_
    refine s_iload_n (n := 41) dX6_readNumber_40 rfl rfl rfl ?_
    refine s_iadd (n := 42) dX6_readNumber_41 rfl ?_
    refine s_cv1 (n := 45) dX6_readNumber_42 rfl mo_X6_peek ml_X6_62 rfl (by decide) rfl rfl (Nat.le_of_ble_eq_true rfl) (Nat.le_of_ble_eq_true rfl) (c_X6_peek hT (at_ + 0) (by omega) (by rw [hT.2.1, show ((0 : Int32)) = nI 0 from rfl, nI_add]) ?_)
    dsimp only [m_push]
    refine s_iadd (n := 46) dX6_readNumber_45 rfl ?_
    refine s_bipush (v := 48) (n := 48) dX6_readNumber_46 rfl (by decide) ?_
    refine s_isub (n := 49) dX6_readNumber_48 rfl ?_
    refine s_istore (n := 51) dX6_readNumber_49 rfl (by decide) rfl rfl ?_
    refine s_iinc (n := 54) (v := 1) dX6_readNumber_51 rfl (by decide) rfl rfl (by decide) rfl ?_
    refine s_goto (t := 5) dX6_readNumber_54 (by decide) ?_
    rw [show (10 : Int32) * 0 + pkB L f (at_ + 0) - 48 = pkB L f at_ - 48 by rw [Int32.mul_zero, Int32.zero_add]; rfl]
    refine s_iload_n (n := 6) dX6_readNumber_5 rfl rfl rfl ?_
    refine s_iconst (v := 3) (n := 7) dX6_readNumber_6 rfl (by decide) ?_
    refine s_icmp_ge (n := 10) (t := 57) dX6_readNumber_7 (by decide) rfl (fun h => absurd h (by decide)) (fun _ => ?_)
    refine s_aload_n (n := 11) dX6_readNumber_10 rfl rfl rfl ?_
    refine s_aload_n (n := 12) dX6_readNumber_11 rfl rfl rfl ?_
    refine s_geti (n := 15) dX6_readNumber_12 rfl fl_X6_19 rfl rfl ?_
    refine s_iload_n (n := 16) dX6_readNumber_15 rfl rfl rfl ?_
    refine s_iadd (n := 17) dX6_readNumber_16 rfl ?_
    refine s_cv1 (n := 20) dX6_readNumber_17 rfl mo_X6_peek ml_X6_62 rfl (by decide) rfl rfl (Nat.le_of_ble_eq_true rfl) (Nat.le_of_ble_eq_true rfl) (c_X6_peek hT (at_ + 1) (by omega) (by rw [hT.2.1, show ((1 : Int32)) = nI 1 from rfl, nI_add]) ?_)
    dsimp only [m_push]
    refine s_bipush (v := 48) (n := 22) dX6_readNumber_20 rfl (by decide) ?_
    refine s_bipush (v := 57) (n := 24) dX6_readNumber_22 rfl (by decide) ?_
    refine s_cs3 (n := 27) dX6_readNumber_24 rfl mo_X8_within ml_X6_86 rfl (Nat.le_of_ble_eq_true rfl) (Nat.le_of_ble_eq_true rfl) (c_X8_within _ _ _ (fun hb24 => ?_) (fun hb24 => ?_))
    · dsimp only [m_push]
      refine s_if_eq (n := 30) (t := 57) dX6_readNumber_27 (by decide) rfl (fun h => absurd h (by decide)) (fun _ => ?_)
      have hd1 : dgB L f (at_ + 1) := hb24
      refine s_bipush (v := 10) (n := 32) dX6_readNumber_30 rfl (by decide) ?_
      refine s_iload (n := 34) dX6_readNumber_32 rfl rfl ?_
      refine s_imul (n := 35) dX6_readNumber_34 rfl ?_
      refine s_aload_n (n := 36) dX6_readNumber_35 rfl rfl rfl ?_
      refine s_aload_n (n := 37) dX6_readNumber_36 rfl rfl rfl ?_
      refine s_geti (n := 40) dX6_readNumber_37 rfl fl_X6_19 rfl rfl ?_
      refine s_iload_n (n := 41) dX6_readNumber_40 rfl rfl rfl ?_
      refine s_iadd (n := 42) dX6_readNumber_41 rfl ?_
      refine s_cv1 (n := 45) dX6_readNumber_42 rfl mo_X6_peek ml_X6_62 rfl (by decide) rfl rfl (Nat.le_of_ble_eq_true rfl) (Nat.le_of_ble_eq_true rfl) (c_X6_peek hT (at_ + 1) (by omega) (by rw [hT.2.1, show ((1 : Int32)) = nI 1 from rfl, nI_add]) ?_)
      dsimp only [m_push]
      refine s_iadd (n := 46) dX6_readNumber_45 rfl ?_
      refine s_bipush (v := 48) (n := 48) dX6_readNumber_46 rfl (by decide) ?_
      refine s_isub (n := 49) dX6_readNumber_48 rfl ?_
      refine s_istore (n := 51) dX6_readNumber_49 rfl (by decide) rfl rfl ?_
      refine s_iinc (n := 54) (v := 2) dX6_readNumber_51 rfl (by decide) rfl rfl (by decide) rfl ?_
      refine s_goto (t := 5) dX6_readNumber_54 (by decide) ?_
      skip
      refine s_iload_n (n := 6) dX6_readNumber_5 rfl rfl rfl ?_
      refine s_iconst (v := 3) (n := 7) dX6_readNumber_6 rfl (by decide) ?_
      refine s_icmp_ge (n := 10) (t := 57) dX6_readNumber_7 (by decide) rfl (fun h => absurd h (by decide)) (fun _ => ?_)
      refine s_aload_n (n := 11) dX6_readNumber_10 rfl rfl rfl ?_
      refine s_aload_n (n := 12) dX6_readNumber_11 rfl rfl rfl ?_
      refine s_geti (n := 15) dX6_readNumber_12 rfl fl_X6_19 rfl rfl ?_
      refine s_iload_n (n := 16) dX6_readNumber_15 rfl rfl rfl ?_
      refine s_iadd (n := 17) dX6_readNumber_16 rfl ?_
      refine s_cv1 (n := 20) dX6_readNumber_17 rfl mo_X6_peek ml_X6_62 rfl (by decide) rfl rfl (Nat.le_of_ble_eq_true rfl) (Nat.le_of_ble_eq_true rfl) (c_X6_peek hT (at_ + 2) (by omega) (by rw [hT.2.1, show ((2 : Int32)) = nI 2 from rfl, nI_add]) ?_)
      dsimp only [m_push]
      refine s_bipush (v := 48) (n := 22) dX6_readNumber_20 rfl (by decide) ?_
      refine s_bipush (v := 57) (n := 24) dX6_readNumber_22 rfl (by decide) ?_
      refine s_cs3 (n := 27) dX6_readNumber_24 rfl mo_X8_within ml_X6_86 rfl (Nat.le_of_ble_eq_true rfl) (Nat.le_of_ble_eq_true rfl) (c_X8_within _ _ _ (fun hb24 => ?_) (fun hb24 => ?_))
      · dsimp only [m_push]
        refine s_if_eq (n := 30) (t := 57) dX6_readNumber_27 (by decide) rfl (fun h => absurd h (by decide)) (fun _ => ?_)
        have hd2 : dgB L f (at_ + 2) := hb24
        refine s_bipush (v := 10) (n := 32) dX6_readNumber_30 rfl (by decide) ?_
        refine s_iload (n := 34) dX6_readNumber_32 rfl rfl ?_
        refine s_imul (n := 35) dX6_readNumber_34 rfl ?_
        refine s_aload_n (n := 36) dX6_readNumber_35 rfl rfl rfl ?_
        refine s_aload_n (n := 37) dX6_readNumber_36 rfl rfl rfl ?_
        refine s_geti (n := 40) dX6_readNumber_37 rfl fl_X6_19 rfl rfl ?_
        refine s_iload_n (n := 41) dX6_readNumber_40 rfl rfl rfl ?_
        refine s_iadd (n := 42) dX6_readNumber_41 rfl ?_
        refine s_cv1 (n := 45) dX6_readNumber_42 rfl mo_X6_peek ml_X6_62 rfl (by decide) rfl rfl (Nat.le_of_ble_eq_true rfl) (Nat.le_of_ble_eq_true rfl) (c_X6_peek hT (at_ + 2) (by omega) (by rw [hT.2.1, show ((2 : Int32)) = nI 2 from rfl, nI_add]) ?_)
        dsimp only [m_push]
        refine s_iadd (n := 46) dX6_readNumber_45 rfl ?_
        refine s_bipush (v := 48) (n := 48) dX6_readNumber_46 rfl (by decide) ?_
        refine s_isub (n := 49) dX6_readNumber_48 rfl ?_
        refine s_istore (n := 51) dX6_readNumber_49 rfl (by decide) rfl rfl ?_
        refine s_iinc (n := 54) (v := 3) dX6_readNumber_51 rfl (by decide) rfl rfl (by decide) rfl ?_
        refine s_goto (t := 5) dX6_readNumber_54 (by decide) ?_
        refine s_iload_n (n := 6) dX6_readNumber_5 rfl rfl rfl ?_
        refine s_iconst (v := 3) (n := 7) dX6_readNumber_6 rfl (by decide) ?_
        refine s_icmp_ge (n := 10) (t := 57) dX6_readNumber_7 (by decide) rfl (fun _ => ?_) (fun h => absurd h (by decide))
        skip
        refine s_iload_n (n := 58) dX6_readNumber_57 rfl rfl rfl ?_
        refine s_iconst (v := 1) (n := 59) dX6_readNumber_58 rfl (by decide) ?_
        refine s_icmp_lt (n := 62) (t := 67) dX6_readNumber_59 (by decide) rfl (fun h => absurd h (by decide)) (fun _ => ?_)
        refine s_iload_n (n := 63) dX6_readNumber_62 rfl rfl rfl ?_
        refine s_iconst (v := 2) (n := 64) dX6_readNumber_63 rfl (by decide) ?_
        refine s_icmp_le (n := 67) (t := 79) dX6_readNumber_64 (by decide) rfl (fun h => absurd h (by decide)) (fun _ => ?_)
        refine s_aload_n (n := 68) dX6_readNumber_67 rfl rfl rfl ?_
        refine s_iconst (v := 1) (n := 69) dX6_readNumber_68 rfl (by decide) ?_
        refine s_aload_n (n := 70) dX6_readNumber_69 rfl rfl rfl ?_
        refine s_geti (n := 73) dX6_readNumber_70 rfl fl_X6_19 rfl rfl ?_
        rw [hT.2.1]
        refine s_cv2 (n := 76) dX6_readNumber_73 rfl mo_X6_fail ml_X6_69 rfl (by decide) rfl rfl (Nat.le_of_ble_eq_true rfl) (Nat.le_of_ble_eq_true rfl) (c_X6_fail _ _ ?_)
        dsimp only [m_push]
        refine s_pop (n := 77) dX6_readNumber_76 rfl rfl ?_
        refine s_iconst (v := -1) (n := 78) dX6_readNumber_77 rfl (by decide) ?_
        refine s_ireturn dX6_readNumber_78 rfl rfl ?_
        exact k0 1 (rdN_1 (nm_3 hd0 hd1 hd2)) _ ((m_fr.up (by decide)).up2 (by decide)) CF.mk'
      · dsimp only [m_push]
        refine s_if_eq (n := 30) (t := 57) dX6_readNumber_27 (by decide) rfl (fun _ => ?_) (fun h => absurd h (by decide))
        have hn2 : ¬ dgB L f (at_ + 2) := hb24
        refine s_iload_n (n := 58) dX6_readNumber_57 rfl rfl rfl ?_
        refine s_iconst (v := 1) (n := 59) dX6_readNumber_58 rfl (by decide) ?_
        refine s_icmp_lt (n := 62) (t := 67) dX6_readNumber_59 (by decide) rfl (fun h => absurd h (by decide)) (fun _ => ?_)
        refine s_iload_n (n := 63) dX6_readNumber_62 rfl rfl rfl ?_
        refine s_iconst (v := 2) (n := 64) dX6_readNumber_63 rfl (by decide) ?_
        refine s_icmp_le (n := 67) (t := 79) dX6_readNumber_64 (by decide) rfl (fun _ => ?_) (fun h => absurd h (by decide))
        refine s_iload (n := 81) dX6_readNumber_79 rfl rfl ?_
        refine s_iload_n (n := 82) dX6_readNumber_81 rfl rfl rfl ?_
        refine s_iload_n (n := 83) dX6_readNumber_82 rfl rfl rfl ?_
        refine s_cs3 (n := 86) dX6_readNumber_83 rfl mo_X8_within ml_X6_86 rfl (Nat.le_of_ble_eq_true rfl) (Nat.le_of_ble_eq_true rfl) (c_X8_within _ _ _ (fun hb83 => ?_) (fun hb83 => ?_))
        · dsimp only [m_push]
          refine s_if_ne (n := 89) (t := 101) dX6_readNumber_86 (by decide) rfl (fun _ => ?_) (fun h => absurd h (by decide))
          refine s_aload_n (n := 102) dX6_readNumber_101 rfl rfl rfl ?_
          refine s_dup (n := 103) dX6_readNumber_102 rfl rfl ?_
          refine s_geti (n := 106) dX6_readNumber_103 rfl fl_X6_19 rfl rfl ?_
          refine s_iload_n (n := 107) dX6_readNumber_106 rfl rfl rfl ?_
          refine s_iadd (n := 108) dX6_readNumber_107 rfl ?_
          rw [hT.2.1, show ((2 : Int32)) = nI 2 from rfl, nI_add]
          refine s_puti (n := 111) dX6_readNumber_108 rfl fl_X6_19 rfl rfl rfl ?_
          refine s_iload (n := 113) dX6_readNumber_111 rfl rfl ?_
          refine s_ireturn dX6_readNumber_113 rfl rfl ?_
          exact k1 _ _ (rdN_r (q := (10 * (pkB L f at_ - 48) + pkB L f (at_ + 1) - 48, 2)) (nm_2 hd0 hd1 hn2) hb83) hb83 (nm_le (q := (10 * (pkB L f at_ - 48) + pkB L f (at_ + 1) - 48, 2)) (nm_2 hd0 hd1 hn2)) _ (m_fr.up (by decide)) (hT.to (nm_le (q := (10 * (pkB L f at_ - 48) + pkB L f (at_ + 1) - 48, 2)) (nm_2 hd0 hd1 hn2)))
        · dsimp only [m_push]
          refine s_if_ne (n := 89) (t := 101) dX6_readNumber_86 (by decide) rfl (fun h => absurd h (by decide)) (fun _ => ?_)
          refine s_aload_n (n := 90) dX6_readNumber_89 rfl rfl rfl ?_
          refine s_iconst (v := 2) (n := 91) dX6_readNumber_90 rfl (by decide) ?_
          refine s_aload_n (n := 92) dX6_readNumber_91 rfl rfl rfl ?_
          refine s_geti (n := 95) dX6_readNumber_92 rfl fl_X6_19 rfl rfl ?_
          rw [hT.2.1]
          refine s_cv2 (n := 98) dX6_readNumber_95 rfl mo_X6_fail ml_X6_69 rfl (by decide) rfl rfl (Nat.le_of_ble_eq_true rfl) (Nat.le_of_ble_eq_true rfl) (c_X6_fail _ _ ?_)
          dsimp only [m_push]
          refine s_pop (n := 99) dX6_readNumber_98 rfl rfl ?_
          refine s_iconst (v := -1) (n := 100) dX6_readNumber_99 rfl (by decide) ?_
          refine s_ireturn dX6_readNumber_100 rfl rfl ?_
          exact k0 2 (rdN_2 (q := (10 * (pkB L f at_ - 48) + pkB L f (at_ + 1) - 48, 2)) (nm_2 hd0 hd1 hn2) hb83) _ ((m_fr.up (by decide)).up2 (by decide)) CF.mk'
    · dsimp only [m_push]
      refine s_if_eq (n := 30) (t := 57) dX6_readNumber_27 (by decide) rfl (fun _ => ?_) (fun h => absurd h (by decide))
      have hn1 : ¬ dgB L f (at_ + 1) := hb24
      refine s_iload_n (n := 58) dX6_readNumber_57 rfl rfl rfl ?_
      refine s_iconst (v := 1) (n := 59) dX6_readNumber_58 rfl (by decide) ?_
      refine s_icmp_lt (n := 62) (t := 67) dX6_readNumber_59 (by decide) rfl (fun h => absurd h (by decide)) (fun _ => ?_)
      refine s_iload_n (n := 63) dX6_readNumber_62 rfl rfl rfl ?_
      refine s_iconst (v := 2) (n := 64) dX6_readNumber_63 rfl (by decide) ?_
      refine s_icmp_le (n := 67) (t := 79) dX6_readNumber_64 (by decide) rfl (fun _ => ?_) (fun h => absurd h (by decide))
      refine s_iload (n := 81) dX6_readNumber_79 rfl rfl ?_
      refine s_iload_n (n := 82) dX6_readNumber_81 rfl rfl rfl ?_
      refine s_iload_n (n := 83) dX6_readNumber_82 rfl rfl rfl ?_
      refine s_cs3 (n := 86) dX6_readNumber_83 rfl mo_X8_within ml_X6_86 rfl (Nat.le_of_ble_eq_true rfl) (Nat.le_of_ble_eq_true rfl) (c_X8_within _ _ _ (fun hb83 => ?_) (fun hb83 => ?_))
      · dsimp only [m_push]
        refine s_if_ne (n := 89) (t := 101) dX6_readNumber_86 (by decide) rfl (fun _ => ?_) (fun h => absurd h (by decide))
        refine s_aload_n (n := 102) dX6_readNumber_101 rfl rfl rfl ?_
        refine s_dup (n := 103) dX6_readNumber_102 rfl rfl ?_
        refine s_geti (n := 106) dX6_readNumber_103 rfl fl_X6_19 rfl rfl ?_
        refine s_iload_n (n := 107) dX6_readNumber_106 rfl rfl rfl ?_
        refine s_iadd (n := 108) dX6_readNumber_107 rfl ?_
        rw [hT.2.1, show ((1 : Int32)) = nI 1 from rfl, nI_add]
        refine s_puti (n := 111) dX6_readNumber_108 rfl fl_X6_19 rfl rfl rfl ?_
        refine s_iload (n := 113) dX6_readNumber_111 rfl rfl ?_
        refine s_ireturn dX6_readNumber_113 rfl rfl ?_
        exact k1 _ _ (rdN_r (q := (pkB L f at_ - 48, 1)) (nm_1 hd0 hn1) hb83) hb83 (nm_le (q := (pkB L f at_ - 48, 1)) (nm_1 hd0 hn1)) _ (m_fr.up (by decide)) (hT.to (nm_le (q := (pkB L f at_ - 48, 1)) (nm_1 hd0 hn1)))
      · dsimp only [m_push]
        refine s_if_ne (n := 89) (t := 101) dX6_readNumber_86 (by decide) rfl (fun h => absurd h (by decide)) (fun _ => ?_)
        refine s_aload_n (n := 90) dX6_readNumber_89 rfl rfl rfl ?_
        refine s_iconst (v := 2) (n := 91) dX6_readNumber_90 rfl (by decide) ?_
        refine s_aload_n (n := 92) dX6_readNumber_91 rfl rfl rfl ?_
        refine s_geti (n := 95) dX6_readNumber_92 rfl fl_X6_19 rfl rfl ?_
        rw [hT.2.1]
        refine s_cv2 (n := 98) dX6_readNumber_95 rfl mo_X6_fail ml_X6_69 rfl (by decide) rfl rfl (Nat.le_of_ble_eq_true rfl) (Nat.le_of_ble_eq_true rfl) (c_X6_fail _ _ ?_)
        dsimp only [m_push]
        refine s_pop (n := 99) dX6_readNumber_98 rfl rfl ?_
        refine s_iconst (v := -1) (n := 100) dX6_readNumber_99 rfl (by decide) ?_
        refine s_ireturn dX6_readNumber_100 rfl rfl ?_
        exact k0 2 (rdN_2 (q := (pkB L f at_ - 48, 1)) (nm_1 hd0 hn1) hb83) _ ((m_fr.up (by decide)).up2 (by decide)) CF.mk'
  · dsimp only [m_push]
    refine s_if_eq (n := 30) (t := 57) dX6_readNumber_27 (by decide) rfl (fun _ => ?_) (fun h => absurd h (by decide))
    have hn0 : ¬ dgB L f (at_ + 0) := hb24
    refine s_iload_n (n := 58) dX6_readNumber_57 rfl rfl rfl ?_
    refine s_iconst (v := 1) (n := 59) dX6_readNumber_58 rfl (by decide) ?_
    refine s_icmp_lt (n := 62) (t := 67) dX6_readNumber_59 (by decide) rfl (fun _ => ?_) (fun h => absurd h (by decide))
    refine s_aload_n (n := 68) dX6_readNumber_67 rfl rfl rfl ?_
    refine s_iconst (v := 1) (n := 69) dX6_readNumber_68 rfl (by decide) ?_
    refine s_aload_n (n := 70) dX6_readNumber_69 rfl rfl rfl ?_
    refine s_geti (n := 73) dX6_readNumber_70 rfl fl_X6_19 rfl rfl ?_
    rw [hT.2.1]
    refine s_cv2 (n := 76) dX6_readNumber_73 rfl mo_X6_fail ml_X6_69 rfl (by decide) rfl rfl (Nat.le_of_ble_eq_true rfl) (Nat.le_of_ble_eq_true rfl) (c_X6_fail _ _ ?_)
    dsimp only [m_push]
    refine s_pop (n := 77) dX6_readNumber_76 rfl rfl ?_
    refine s_iconst (v := -1) (n := 78) dX6_readNumber_77 rfl (by decide) ?_
    refine s_ireturn dX6_readNumber_78 rfl rfl ?_
    exact k0 1 (rdN_1 (nm_0 hn0)) _ ((m_fr.up (by decide)).up2 (by decide)) CF.mk'
