/-- the first of n numbers from d on -/
def nxF (P : Nat → Bool) : Nat → Nat → Option Nat
  | 0, _ => none
  | n + 1, d => if P d = true then some d else nxF P n (d + 1)
def cnF (P : Nat → Bool) : Nat → Nat
  | 0 => 0
  | n + 1 => cnF P n + (if P n = true then 1 else 0)
theorem nxF_some {P : Nat → Bool} : ∀ (n d : Nat) {k : Nat}, nxF P n d = some k → d ≤ k ∧ k < d + n ∧ P k = true ∧ ∀ j, d ≤ j → j < k → P j = false
  | 0, d, k, h => by cases h
  | n + 1, d, k, h => by
    unfold nxF at h
    split at h
    · cases h; exact ⟨Nat.le_refl _, by omega, by assumption, fun j h1 h2 => by omega⟩
    · rename_i hp
      obtain ⟨h1, h2, h3, h4⟩ := nxF_some n (d + 1) h
      refine ⟨by omega, by omega, h3, fun j hj hk => ?_⟩
      by_cases e : j = d
      · subst e; simpa using hp
      · exact h4 j (by omega) hk
theorem nxF_none {P : Nat → Bool} : ∀ (n d : Nat), nxF P n d = none → ∀ j, d ≤ j → j < d + n → P j = false
  | 0, d, h, j, h1, h2 => by omega
  | n + 1, d, h, j, h1, h2 => by
    unfold nxF at h
    split at h
    · cases h
    · rename_i hp
      by_cases e : j = d
      · subst e; simpa using hp
      · exact nxF_none n (d + 1) h j (by omega) (by omega)
theorem nxF_is {P : Nat → Bool} : ∀ (n d : Nat) {k : Nat}, d ≤ k → k < d + n → P k = true → (∀ j, d ≤ j → j < k → P j = false) → nxF P n d = some k
  | 0, d, k, h1, h2, _, _ => by omega
  | n + 1, d, k, h1, h2, h3, h4 => by
    unfold nxF
    by_cases e : d = k
    · subst e; rw [if_pos h3]
    · rw [if_neg (by rw [h4 d (Nat.le_refl _) (by omega)]; decide)]
      exact nxF_is n (d + 1) (by omega) (by omega) h3 (fun j hj hk => h4 j (by omega) hk)
theorem nxF_no {P : Nat → Bool} : ∀ (n d : Nat), (∀ j, d ≤ j → j < d + n → P j = false) → nxF P n d = none
  | 0, _, _ => rfl
  | n + 1, d, h => by
    unfold nxF
    rw [if_neg (by rw [h d (Nat.le_refl _) (by omega)]; decide)]
    exact nxF_no n (d + 1) (fun j h1 h2 => h j (by omega) (by omega))
theorem nxF_per {P : Nat → Bool} (hp : ∀ j, j + 7 < 61 → P (j + 7) = P j) : nxF P 61 0 = nxF P 7 0 := by
  have key : ∀ j, j < 61 → P j = P (j % 7) := by
    intro j
    induction j using Nat.strongRecOn with
    | ind j ih =>
      intro hj
      by_cases h : j < 7
      · rw [Nat.mod_eq_of_lt h]
      · have h1 := hp (j - 7) (by omega)
        rw [show j - 7 + 7 = j by omega] at h1
        rw [h1, ih (j - 7) (by omega) (by omega)]
        congr 1; omega
  cases h7 : nxF P 7 0 with
  | none =>
    have h := nxF_none 7 0 h7
    exact nxF_no 61 0 (fun j _ hj => by rw [key j (by omega)]; exact h _ (Nat.zero_le _) (by omega))
  | some k =>
    obtain ⟨h1, h2, h3, h4⟩ := nxF_some 7 0 h7
    exact nxF_is 61 0 h1 (by omega) h3 h4
/-- the share of a place among seven in the first n -/
def shr (n d : Nat) : Nat := if d < n then (n - 1 - d) / 7 + 1 else 0
def wgF (P : Nat → Bool) (n : Nat) : Nat → Nat
  | 0 => 0
  | d + 1 => wgF P n d + (if P d = true then shr n d else 0)
theorem shr_succ (n d : Nat) (hd : d < 7) : shr (n + 1) d = shr n d + (if n % 7 = d then 1 else 0) := by
  unfold shr
  split <;> split <;> split <;> omega
theorem wgF_s (P : Nat → Bool) (n d : Nat) : wgF P n (d + 1) = wgF P n d + (if P d = true then shr n d else 0) := rfl
theorem cnF_s (P : Nat → Bool) (n : Nat) : cnF P (n + 1) = cnF P n + (if P n = true then 1 else 0) := rfl
theorem wgF_succ (P : Nat → Bool) (n : Nat) : ∀ d, d ≤ 7 → wgF P (n + 1) d = wgF P n d + (if n % 7 < d ∧ P (n % 7) = true then 1 else 0)
  | 0, _ => by simp [wgF]
  | d + 1, hd => by
    rw [wgF_s, wgF_s, wgF_succ P n d (by omega), shr_succ n d (by omega)]
    by_cases e : n % 7 = d
    · rw [e, if_neg (show ¬ (d < d ∧ P d = true) from fun q => by omega), if_pos rfl]
      by_cases hP : P d = true
      · rw [if_pos hP, if_pos hP, if_pos ⟨by omega, hP⟩]; omega
      · rw [if_neg hP, if_neg hP, if_neg (fun q => hP q.2)]
    · rw [if_neg e]
      by_cases h : n % 7 < d ∧ P (n % 7) = true
      · rw [if_pos h, if_pos (show n % 7 < d + 1 ∧ P (n % 7) = true from ⟨by omega, h.2⟩)]; simp only [Nat.add_zero]; omega
      · rw [if_neg h, if_neg (show ¬ (n % 7 < d + 1 ∧ P (n % 7) = true) from fun q => h ⟨by omega, q.2⟩), Nat.add_zero, Nat.add_zero, Nat.add_zero]
theorem wgF_cn {P : Nat → Bool} (n : Nat) (hp : ∀ j, j < n → P j = P (j % 7)) : wgF P n 7 = cnF P n := by
  induction n with
  | zero =>
    show wgF P 0 7 = 0
    have : ∀ d, wgF P 0 d = 0 := by
      intro d
      induction d with
      | zero => rfl
      | succ d ih => unfold wgF; rw [ih]; simp [shr]
    exact this 7
  | succ n ih =>
    rw [wgF_succ P n 7 (by decide), ih (fun j hj => hp j (by omega)), cnF_s, hp n (by omega)]
    have : n % 7 < 7 := Nat.mod_lt _ (by decide)
    simp [this]
theorem cnF_le (P : Nat → Bool) (n : Nat) : cnF P n ≤ n := by
  induction n with
  | zero => exact Nat.le_refl _
  | succ n ih => unfold cnF; split <;> omega
/-- it rests at the house h in d years -/
def rsB (u : m_T) (y : Int32) (h d : Nat) : Bool := decide (sR u y (nI d) = some h)
theorem rsB_per {u : m_T} {y : Int32} {h : Nat} (h2 : wn (u 2) 0 6) (h3 : wn (u 3) 0 6) (h7 : wn y 0 999) (j : Nat) (hj : j < 60000) : rsB u y h (j + 7) = rsB u y h j := by
  have e : ire (u 2 + u 3 * (y + nI (j + 7))) 7 = ire (u 2 + u 3 * (y + nI j)) 7 := by
    obtain ⟨a, ha, ea⟩ := wn_ex (n := 6) h2 rfl
    obtain ⟨b, hb, eb⟩ := wn_ex (n := 6) h3 rfl
    obtain ⟨z, hz, ez⟩ := wn_ex (n := 999) h7 rfl
    have m1 : b * (z + (j + 7)) ≤ 6 * (999 + 60007) := Nat.mul_le_mul hb (by omega)
    have m2 : b * (z + j) ≤ 6 * (999 + 60007) := Nat.mul_le_mul hb (by omega)
    unfold ire
    rw [ea, eb, ez, nI_add, nI_add, pk_mul, pk_mul, nI_add, nI_add, show (7 : Int32) = nI 7 from rfl, pk_rem (by omega) (by decide) (by decide), pk_rem (by omega) (by decide) (by decide)]
    congr 1
    rw [show a + b * (z + (j + 7)) = a + b * (z + j) + b * 7 by rw [Nat.mul_add, Nat.mul_add, Nat.mul_add]; omega]
    rw [Nat.add_mul_mod_self_right]
  unfold rsB sR
  rw [e]
theorem rsB_mod {u : m_T} {y : Int32} {h : Nat} (h2 : wn (u 2) 0 6) (h3 : wn (u 3) 0 6) (h7 : wn y 0 999) (j : Nat) (hj : j < 60000) : rsB u y h j = rsB u y h (j % 7) := by
  induction j using Nat.strongRecOn with
  | ind j ih =>
    by_cases hl : j < 7
    · rw [Nat.mod_eq_of_lt hl]
    · have h1 := rsB_per (h := h) h2 h3 h7 (j - 7) (by omega)
      rw [show j - 7 + 7 = j by omega] at h1
      rw [h1, ih (j - 7) (by omega) (by omega)]
      congr 1; omega
def sp_next (a : a_S) (h : Int32) : Int32 × a_S := if wn h 0 (a_H a 1 - 1) then (eM (nxF (rsB (a_H a) (a_H a 7) h.toNatClampNeg) 7 0), a) else (-1000001, a)
def sp_often (a : a_S) (h n : Int32) : Int32 × a_S := if wn h 0 (a_H a 1 - 1) then (if wn n 1 60 then (nI (cnF (rsB (a_H a) (a_H a 7) h.toNatClampNeg) n.toNatClampNeg), a) else (-1000001, a)) else (-1000001, a)
theorem orN_n {o : Option Nat} (h : ∀ i, o = some i → i < 100) : orN (eC o) = eM o := by
  cases o with
  | none => rfl
  | some i => unfold orN eC eM; rw [if_pos (nI_pos' (by have := h i rfl; omega))]
theorem a_OK.tk {a : a_S} {x : Int32} (hA : a_OK a) (h : wn x 0 (a_H a 1 - 1)) : a_TK (a_H a) := by
  obtain ⟨t, hh⟩ := a_hs hA h
  have : a_H a = t := by unfold a_H a_T; rw [hh]; rfl
  rw [this]; exact hA.1 t hh
theorem wn60 {d : Nat} (h : d ≤ 60) : wn (nI d) 0 60 := wn_nI (n := 60) rfl h (by decide)
theorem lp_X1_firstAt {SL d : Nat} {Q : Option Int32 → m_G → Prop} {k : Nat} (hk : m_hb k) {t : m_T} (hK : a_TK t) (h : Nat) (hh : h < 6) : ∀ (n dd : Nat) (g : m_G), dd + n = 7 → TW g k t → (∀ g2, m_fr [k + 2, k + 3] g g2 → Q (some (eC (nxF (rsB t (t 7) h) n dd))) g2) → Sim SL (d + 5) yX1_firstAt cX1_firstAt 3 (some .int) 2 [.ref k, .int (nI h), .int (nI dd)] [] g Q := by
  intro n
  induction n with
  | zero =>
    intro dd g hin hT hQ
    have hd : dd = 7 := by omega
    subst hd
    refine s_iload_n (n := 3) dX1_firstAt_2 rfl rfl rfl ?_
    refine s_bipush (v := 7) (n := 5) dX1_firstAt_3 rfl (by decide) ?_
    refine s_icmp_ge (n := 8) (t := 25) dX1_firstAt_5 (by decide) rfl (fun h5 => ?_) (fun h5 => ?_)
    · refine s_iconst (v := -1) (n := 26) dX1_firstAt_25 rfl (by decide) ?_
      refine s_ireturn dX1_firstAt_26 rfl rfl ?_
      exact hQ g m_fr.rf
    · exact absurd (by decide) h5
  | succ n ih =>
    intro dd g hin hT hQ
    have hd7 : dd < 7 := by omega
    refine s_iload_n (n := 3) dX1_firstAt_2 rfl rfl rfl ?_
    refine s_bipush (v := 7) (n := 5) dX1_firstAt_3 rfl (by decide) ?_
    refine s_icmp_ge (n := 8) (t := 25) dX1_firstAt_5 (by decide) rfl (fun h5 => ?_) (fun h5 => ?_)
    · exact absurd h5 (nI_ge hd7 (by decide))
    · refine s_aload_n (n := 9) dX1_firstAt_8 rfl rfl rfl ?_
      refine s_iload_n (n := 10) dX1_firstAt_9 rfl rfl rfl ?_
      refine s_cv1 (n := 13) dX1_firstAt_10 rfl mo_X1_restIn ml_X1_118 (hb0 hk) (by decide) rfl rfl (Nat.le_of_ble_eq_true rfl) (Nat.le_of_ble_eq_true rfl) (c_X1_restIn hk hT hK.t0 hK.t1 hK.t6 _ (hK.top (wn60 (by omega))) (fun g2 hf _ _ _ => ?_))
      dsimp only [m_push]
      refine s_iload_n (n := 14) dX1_firstAt_13 rfl rfl rfl ?_
      refine s_icmp_ne (n := 17) (t := 19) dX1_firstAt_14 (by decide) rfl (fun h14 => ?_) (fun h14 => ?_)
      · refine s_iinc (n := 22) (v := nI (dd + 1)) dX1_firstAt_19 rfl (by decide) rfl rfl (nI_1 dd) rfl ?_
        refine s_goto (t := 2) dX1_firstAt_22 (by decide) ?_
        have hp : ¬ rsB t (t 7) h dd = true := fun q => h14 ((eC_eq hh sRun6).mpr (of_decide_eq_true q))
        unfold nxF at hQ
        rw [if_neg hp] at hQ
        exact ih (dd + 1) g2 (by omega) (hT.fr hf) (fun g3 hf3 => hQ g3 (hf.tr hf3))
      · refine s_iload_n (n := 18) dX1_firstAt_17 rfl rfl rfl ?_
        refine s_ireturn dX1_firstAt_18 rfl rfl ?_
        have hp : rsB t (t 7) h dd = true := decide_eq_true ((eC_eq hh sRun6).mp h14)
        unfold nxF at hQ
        rw [if_pos hp] at hQ
        exact hQ g2 hf
theorem c_X1_firstAt {SL : Nat} {d : Nat} {Q : Option Int32 → m_G → Prop} {g : m_G} {k : Nat} (hk : m_hb k) {t : m_T} (hT : TW g k t) (hK : a_TK t) (h : Nat) (hh : h < 6) (hQ : ∀ g2, m_fr [k + 2, k + 3] g g2 → Q (some (eC (nxF (rsB t (t 7) h) 7 0))) g2) : Sim SL (d + 5) yX1_firstAt cX1_firstAt 3 (some .int) 0 [.ref k, .int (nI h), .null] [] g Q := by
  refine s_iconst (v := 0) (n := 1) dX1_firstAt_0 rfl (by decide) ?_
  refine s_istore_n (n := 2) dX1_firstAt_1 rfl rfl (by decide) rfl rfl ?_
  exact lp_X1_firstAt hk hK h hh 7 0 g rfl hT hQ
theorem wgF_stop (P : Nat → Bool) (n dd : Nat) (hn : n ≤ dd) : ∀ e, wgF P n (dd + e) = wgF P n dd
  | 0 => rfl
  | e + 1 => by
    rw [← Nat.add_assoc, wgF_s, wgF_stop P n dd hn e]
    have : shr n (dd + e) = 0 := by unfold shr; rw [if_neg (by omega)]
    rw [this]; simp
theorem lp_X1_timesAt {SL d : Nat} {Q : Option Int32 → m_G → Prop} {k : Nat} (hk : m_hb k) {t : m_T} (hK : a_TK t) (h : Nat) (hh : h < 6) (nn : Nat) (hnn : nn ≤ 60) : ∀ (n dd : Nat) (g : m_G), dd + n = 7 → TW g k t → (∀ g2, m_fr [k + 2, k + 3] g g2 → Q (some (nI (wgF (rsB t (t 7) h) nn 7))) g2) → Sim SL (d + 5) yX1_timesAt cX1_timesAt 5 (some .int) 5 [.ref k, .int (nI h), .int (nI nn), .int (nI (wgF (rsB t (t 7) h) nn dd)), .int (nI dd)] [] g Q := by
  intro n
  induction n with
  | zero =>
    intro dd g hin hT hQ
    have hd : dd = 7 := by omega
    subst hd
    refine s_iload (n := 7) dX1_timesAt_5 rfl rfl ?_
    refine s_bipush (v := 7) (n := 9) dX1_timesAt_7 rfl (by decide) ?_
    refine s_icmp_ge (n := 12) (t := 48) dX1_timesAt_9 (by decide) rfl (fun h9 => ?_) (fun h9 => ?_)
    · refine s_iload_n (n := 49) dX1_timesAt_48 rfl rfl rfl ?_
      refine s_ireturn dX1_timesAt_49 rfl rfl ?_
      exact hQ g m_fr.rf
    · exact absurd (by decide) h9
  | succ n ih =>
    intro dd g hin hT hQ
    have hd7 : dd < 7 := by omega
    refine s_iload (n := 7) dX1_timesAt_5 rfl rfl ?_
    refine s_bipush (v := 7) (n := 9) dX1_timesAt_7 rfl (by decide) ?_
    refine s_icmp_ge (n := 12) (t := 48) dX1_timesAt_9 (by decide) rfl (fun h9 => ?_) (fun h9 => ?_)
    · exact absurd h9 (nI_ge hd7 (by decide))
    · refine s_iload (n := 14) dX1_timesAt_12 rfl rfl ?_
      refine s_iload_n (n := 15) dX1_timesAt_14 rfl rfl rfl ?_
      refine s_icmp_ge (n := 18) (t := 48) dX1_timesAt_15 (by decide) rfl (fun h15 => ?_) (fun h15 => ?_)
      · refine s_iload_n (n := 49) dX1_timesAt_48 rfl rfl rfl ?_
        refine s_ireturn dX1_timesAt_49 rfl rfl ?_
        have hge : nn ≤ dd := by
          rcases Nat.lt_or_ge dd nn with q | q
          · exact absurd h15 (nI_ge q (by omega))
          · exact q
        have := wgF_stop (rsB t (t 7) h) nn dd hge (7 - dd)
        rw [show dd + (7 - dd) = 7 by omega] at this
        rw [← this]
        exact hQ g m_fr.rf
      · have hlt : dd < nn := by
          rcases Nat.lt_or_ge dd nn with q | q
          · exact q
          · exact absurd (nI_le q (by omega)) h15
        refine s_aload_n (n := 19) dX1_timesAt_18 rfl rfl rfl ?_
        refine s_iload (n := 21) dX1_timesAt_19 rfl rfl ?_
        refine s_cv1 (n := 24) dX1_timesAt_21 rfl mo_X1_restIn ml_X1_118 (hb0 hk) (by decide) rfl rfl (Nat.le_of_ble_eq_true rfl) (Nat.le_of_ble_eq_true rfl) (c_X1_restIn hk hT hK.t0 hK.t1 hK.t6 _ (hK.top (wn60 (by omega))) (fun g2 hf _ _ _ => ?_))
        dsimp only [m_push]
        refine s_iload_n (n := 25) dX1_timesAt_24 rfl rfl rfl ?_
        refine s_icmp_ne (n := 28) (t := 42) dX1_timesAt_25 (by decide) rfl (fun h25 => ?_) (fun h25 => ?_)
        · refine s_iinc (n := 45) (v := nI (dd + 1)) dX1_timesAt_42 rfl (by decide) rfl rfl (nI_1 dd) rfl ?_
          refine s_goto (t := 5) dX1_timesAt_45 (by decide) ?_
          first
          | exact ih (dd + 1) g2 (by omega) (hT.fr hf) (fun g3 hf3 => hQ g3 (hf.tr hf3))
          | (have hp : ¬ rsB t (t 7) h dd = true := fun q => h25 ((eC_eq hh sRun6).mpr (of_decide_eq_true q))
             have e : wgF (rsB t (t 7) h) nn (dd + 1) = wgF (rsB t (t 7) h) nn dd := by
               rw [wgF_s, if_neg hp]; rfl
             have := ih (dd + 1) g2 (by omega) (hT.fr hf) (fun g3 hf3 => hQ g3 (hf.tr hf3))
             rw [e] at this
             exact this)
        · refine s_iload_n (n := 29) dX1_timesAt_28 rfl rfl rfl ?_
          refine s_iload_n (n := 30) dX1_timesAt_29 rfl rfl rfl ?_
          refine s_iconst (v := 1) (n := 31) dX1_timesAt_30 rfl (by decide) ?_
          refine s_isub (n := 32) dX1_timesAt_31 rfl ?_
          refine s_iload (n := 34) dX1_timesAt_32 rfl rfl ?_
          refine s_isub (n := 35) dX1_timesAt_34 rfl ?_
          refine s_bipush (v := 7) (n := 37) dX1_timesAt_35 rfl (by decide) ?_
          refine s_idiv (n := 38) dX1_timesAt_37 rfl (by decide) ?_
          refine s_iconst (v := 1) (n := 39) dX1_timesAt_38 rfl (by decide) ?_
          refine s_iadd (n := 40) dX1_timesAt_39 rfl ?_
          refine s_iadd (n := 41) dX1_timesAt_40 rfl ?_
          have hp : rsB t (t 7) h dd = true := decide_eq_true ((eC_eq hh sRun6).mp h25)
          rw [show nI (wgF (rsB t (t 7) h) nn dd) + ((nI nn - 1 - nI dd) / 7 + 1) = nI (wgF (rsB t (t 7) h) nn (dd + 1)) by
            rw [wgF_s, if_pos hp, show shr nn dd = (nn - 1 - dd) / 7 + 1 from if_pos hlt, show (1 : Int32) = nI 1 from rfl, show (7 : Int32) = nI 7 from rfl, pk_sub (by omega), pk_sub (by omega), pk_div (by omega) (by decide) (by decide), nI_add, nI_add]]
          refine s_istore_n (n := 42) dX1_timesAt_41 rfl rfl (by decide) rfl rfl ?_
          refine s_iinc (n := 45) (v := nI (dd + 1)) dX1_timesAt_42 rfl (by decide) rfl rfl (nI_1 dd) rfl ?_
          refine s_goto (t := 5) dX1_timesAt_45 (by decide) ?_
          first
          | exact ih (dd + 1) g2 (by omega) (hT.fr hf) (fun g3 hf3 => hQ g3 (hf.tr hf3))
          | (have hp : ¬ rsB t (t 7) h dd = true := fun q => h25 ((eC_eq hh sRun6).mpr (of_decide_eq_true q))
             have e : wgF (rsB t (t 7) h) nn (dd + 1) = wgF (rsB t (t 7) h) nn dd := by
               rw [wgF_s, if_neg hp]; rfl
             have := ih (dd + 1) g2 (by omega) (hT.fr hf) (fun g3 hf3 => hQ g3 (hf.tr hf3))
             rw [e] at this
             exact this)
theorem c_X1_timesAt {SL : Nat} {d : Nat} {Q : Option Int32 → m_G → Prop} {g : m_G} {k : Nat} (hk : m_hb k) {t : m_T} (hT : TW g k t) (hK : a_TK t) (h : Nat) (hh : h < 6) (nn : Nat) (hnn : nn ≤ 60) (hQ : ∀ g2, m_fr [k + 2, k + 3] g g2 → Q (some (nI (cnF (rsB t (t 7) h) nn))) g2) : Sim SL (d + 5) yX1_timesAt cX1_timesAt 5 (some .int) 0 [.ref k, .int (nI h), .int (nI nn), .null, .null] [] g Q := by
  refine s_iconst (v := 0) (n := 1) dX1_timesAt_0 rfl (by decide) ?_
  refine s_istore_n (n := 2) dX1_timesAt_1 rfl rfl (by decide) rfl rfl ?_
  refine s_iconst (v := 0) (n := 3) dX1_timesAt_2 rfl (by decide) ?_
  refine s_istore (n := 5) dX1_timesAt_3 rfl (by decide) rfl rfl ?_
  refine lp_X1_timesAt hk hK h hh nn hnn 7 0 g rfl hT ?_
  rw [wgF_cn nn (fun j hj => rsB_mod hK.2.2.1 hK.2.2.2.1 hK.2.2.2.2.2.2.2.1 j (by omega))]
  exact hQ
theorem C_next {SL : Nat} {d : Nat} {Q : Option Int32 → m_G → Prop} {g : m_G} {a : a_S} (hA : a_OK a) (hC : C_R g a) (h : Int32) (hQ : E_C g a Q (sp_next a h)) : Sim SL (d + 6) yX8_next cX8_next 2 (some .int) 0 [.ref 0, .int h] [] g Q := by
  unfold E_C sp_next at hQ
  have hT : TW g 28 (a_H a) := hC.2.2.1.2
  refine s_aload_n (n := 1) dX8_next_0 rfl rfl rfl ?_
  refine s_iload_n (n := 2) dX8_next_1 rfl rfl rfl ?_
  refine s_cv1 (n := 5) dX8_next_2 rfl mo_X8_isHouse ml_X8_153 rfl (by decide) rfl rfl (Nat.le_of_ble_eq_true rfl) (Nat.le_of_ble_eq_true rfl) (c_X8_isHouse hT _ (fun hb2 => ?_) (fun hb2 => ?_))
  · dsimp only [m_push]
    refine s_if_ne (n := 8) (t := 11) dX8_next_5 (by decide) rfl (fun _ => ?_) (fun h => absurd h (by decide))
    obtain ⟨i, hi, rfl, hci⟩ := isH_ex hA.cnt hb2
    rw [nI_clamp (show i < 2 ^ 31 by omega)] at hQ
    refine s_aload_n (n := 12) dX8_next_11 rfl rfl rfl ?_
    refine s_getr (k2 := 28) (n := 15) dX8_next_12 rfl fl_X8_25 rfl rfl rfl ?_
    refine s_iload_n (n := 16) dX8_next_15 rfl rfl rfl ?_
    refine s_cv1 (n := 19) dX8_next_16 rfl mo_X1_firstAt ml_X8_224 rfl (by decide) rfl rfl (Nat.le_of_ble_eq_true rfl) (Nat.le_of_ble_eq_true rfl) (c_X1_firstAt hb28 hT (hA.tk hb2) i hi (fun g2 hf => ?_))
    dsimp only [m_push]
    refine s_cs1 (n := 22) dX8_next_19 rfl mo_X8_orNone ml_X8_150 rfl (Nat.le_of_ble_eq_true rfl) (Nat.le_of_ble_eq_true rfl) (c_X8_orNone _ ?_)
    dsimp only [m_push]
    rw [orN_n (fun k hk => by have := (nxF_some 7 0 hk).2.1; omega)]
    refine s_ireturn dX8_next_22 rfl rfl ?_
    rw [if_pos hb2] at hQ
    exact hQ g2 (hC.fr (hf.mono (by decide))) (hf.FC (by decide))
  · dsimp only [m_push]
    refine s_if_ne (n := 8) (t := 11) dX8_next_5 (by decide) rfl (fun h => absurd h (by decide)) (fun _ => ?_)
    refine s_ldc (n := 10) dX8_next_8 rfl kc_X8_66 ?_
    refine s_ireturn dX8_next_10 rfl rfl ?_
    simp only [if_neg hb2] at hQ
    exact hQ g hC F_C.rf
theorem C_often {SL : Nat} {d : Nat} {Q : Option Int32 → m_G → Prop} {g : m_G} {a : a_S} (hA : a_OK a) (hC : C_R g a) (h n : Int32) (hQ : E_C g a Q (sp_often a h n)) : Sim SL (d + 6) yX8_often cX8_often 3 (some .int) 0 [.ref 0, .int h, .int n] [] g Q := by
  unfold E_C sp_often at hQ
  have hT : TW g 28 (a_H a) := hC.2.2.1.2
  refine s_aload_n (n := 1) dX8_often_0 rfl rfl rfl ?_
  refine s_iload_n (n := 2) dX8_often_1 rfl rfl rfl ?_
  refine s_cv1 (n := 5) dX8_often_2 rfl mo_X8_isHouse ml_X8_153 rfl (by decide) rfl rfl (Nat.le_of_ble_eq_true rfl) (Nat.le_of_ble_eq_true rfl) (c_X8_isHouse hT _ (fun hb2 => ?_) (fun hb2 => ?_))
  · dsimp only [m_push]
    refine s_if_eq (n := 8) (t := 18) dX8_often_5 (by decide) rfl (fun h => absurd h (by decide)) (fun _ => ?_)
    refine s_iload_n (n := 9) dX8_often_8 rfl rfl rfl ?_
    refine s_iconst (v := 1) (n := 10) dX8_often_9 rfl (by decide) ?_
    refine s_bipush (v := 60) (n := 12) dX8_often_10 rfl (by decide) ?_
    refine s_cs3 (n := 15) dX8_often_12 rfl mo_X8_within ml_X8_62 rfl (Nat.le_of_ble_eq_true rfl) (Nat.le_of_ble_eq_true rfl) (c_X8_within _ _ _ (fun hb12 => ?_) (fun hb12 => ?_))
    · dsimp only [m_push]
      refine s_if_ne (n := 18) (t := 21) dX8_often_15 (by decide) rfl (fun _ => ?_) (fun h => absurd h (by decide))
      obtain ⟨i, hi, rfl, hci⟩ := isH_ex hA.cnt hb2
      rw [nI_clamp (show i < 2 ^ 31 by omega)] at hQ
      obtain ⟨nn, hnn, rfl⟩ := wn_ex (x := n) (M := 60) (n := 60) ⟨fun q => hb12.1 (by rw [i32_lt] at *; have := ti0; have := ti1; omega), hb12.2⟩ rfl
      rw [nI_clamp (show nn < 2 ^ 31 by omega)] at hQ
      refine s_aload_n (n := 22) dX8_often_21 rfl rfl rfl ?_
      refine s_getr (k2 := 28) (n := 25) dX8_often_22 rfl fl_X8_25 rfl rfl rfl ?_
      refine s_iload_n (n := 26) dX8_often_25 rfl rfl rfl ?_
      refine s_iload_n (n := 27) dX8_often_26 rfl rfl rfl ?_
      refine s_cv2 (n := 30) dX8_often_27 rfl mo_X1_timesAt ml_X8_227 rfl (by decide) rfl rfl (Nat.le_of_ble_eq_true rfl) (Nat.le_of_ble_eq_true rfl) (c_X1_timesAt hb28 hT (hA.tk hb2) i hi nn hnn (fun g2 hf => ?_))
      dsimp only [m_push]
      refine s_ireturn dX8_often_30 rfl rfl ?_
      rw [if_pos hb2, if_pos hb12] at hQ
      exact hQ g2 (hC.fr (hf.mono (by decide))) (hf.FC (by decide))
    · dsimp only [m_push]
      refine s_if_ne (n := 18) (t := 21) dX8_often_15 (by decide) rfl (fun h => absurd h (by decide)) (fun _ => ?_)
      refine s_ldc (n := 20) dX8_often_18 rfl kc_X8_66 ?_
      refine s_ireturn dX8_often_20 rfl rfl ?_
      simp only [if_pos hb2, if_neg hb12] at hQ
      exact hQ g hC F_C.rf
  · dsimp only [m_push]
    refine s_if_eq (n := 8) (t := 18) dX8_often_5 (by decide) rfl (fun _ => ?_) (fun h => absurd h (by decide))
    refine s_ldc (n := 20) dX8_often_18 rfl kc_X8_66 ?_
    refine s_ireturn dX8_often_20 rfl rfl ?_
    simp only [if_neg hb2] at hQ
    exact hQ g hC F_C.rf
theorem lp_X9_next {SL d : Nat} {Q : Option Int32 → m_G → Prop} {u : m_T} {y : Int32} (hK : a_TK u) (h : Nat) (hh : h < 6) : ∀ (n dd : Nat) (g : m_G), dd + n = 61 → g 79 7 = y → TQ g u → (∀ g2, M_sc g g2 → Q (some (eM (nxF (rsB u y h) n dd))) g2) → Sim SL (d + 5) yX9_next cX9_next 3 (some .int) 17 [.ref 78, .int (nI h), .int (nI dd)] [] g Q := by
  intro n
  induction n with
  | zero =>
    intro dd g hin hy hU hQ
    have hd : dd = 61 := by omega
    subst hd
    refine s_iload_n (n := 18) dX9_next_17 rfl rfl rfl ?_
    refine s_bipush (v := 61) (n := 20) dX9_next_18 rfl (by decide) ?_
    refine s_icmp_ge (n := 23) (t := 40) dX9_next_20 (by decide) rfl (fun h20 => ?_) (fun h20 => ?_)
    · refine s_ldc (n := 42) dX9_next_40 rfl kc_X9_128 ?_
      refine s_ireturn dX9_next_42 rfl rfl ?_
      exact hQ g M_sc.rf
    · exact absurd (by decide) h20
  | succ n ih =>
    intro dd g hin hy hU hQ
    have hd7 : dd < 61 := by omega
    refine s_iload_n (n := 18) dX9_next_17 rfl rfl rfl ?_
    refine s_bipush (v := 61) (n := 20) dX9_next_18 rfl (by decide) ?_
    refine s_icmp_ge (n := 23) (t := 40) dX9_next_20 (by decide) rfl (fun h20 => ?_) (fun h20 => ?_)
    · exact absurd h20 (nI_ge hd7 (by decide))
    · refine s_aload_n (n := 24) dX9_next_23 rfl rfl rfl ?_
      refine s_iload_n (n := 25) dX9_next_24 rfl rfl rfl ?_
      refine s_cv1 (n := 28) dX9_next_25 rfl mo_X9_restsIn ml_X9_211 rfl (by decide) rfl rfl (Nat.le_of_ble_eq_true rfl) (Nat.le_of_ble_eq_true rfl) (c_X9_restsIn hy hK.t0 hK.t1 hK.t6 hK.kd hK.t4 hU _ (fun g2 hs hU2 _ _ => ?_))
      dsimp only [m_push]
      refine s_iload_n (n := 29) dX9_next_28 rfl rfl rfl ?_
      refine s_icmp_ne (n := 32) (t := 34) dX9_next_29 (by decide) rfl (fun h29 => ?_) (fun h29 => ?_)
      · refine s_iinc (n := 37) (v := nI (dd + 1)) dX9_next_34 rfl (by decide) rfl rfl (nI_1 dd) rfl ?_
        refine s_goto (t := 17) dX9_next_37 (by decide) ?_
        have hp : ¬ rsB u y h dd = true := fun q => h29 ((eM_eq hh sR6).mpr (of_decide_eq_true q))
        unfold nxF at hQ
        rw [if_neg hp] at hQ
        exact ih (dd + 1) g2 (by omega) (by rw [hs.2.2 7 (by decide)]; exact hy) hU2 (fun g3 hf3 => hQ g3 (hs.tr hf3))
      · refine s_iload_n (n := 33) dX9_next_32 rfl rfl rfl ?_
        refine s_ireturn dX9_next_33 rfl rfl ?_
        have hp : rsB u y h dd = true := decide_eq_true ((eM_eq hh sR6).mp h29)
        unfold nxF at hQ
        rw [if_pos hp] at hQ
        exact hQ g2 hs
theorem M_next {SL : Nat} {d : Nat} {Q : Option Int32 → m_G → Prop} {g : m_G} {a : a_S} (hA : a_OK a) (hM : M_R g a) (h : Int32) (hQ : E_M g a Q (sp_next a h)) : Sim SL (d + 5) yX9_next cX9_next 3 (some .int) 0 [.ref 78, .int h, .null] [] g Q := by
  unfold E_M sp_next at hQ
  have hT : TM g 0 (a_H a) := hM.2.2.1.2
  refine s_aload_n (n := 1) dX9_next_0 rfl rfl rfl ?_
  refine s_iload_n (n := 2) dX9_next_1 rfl rfl rfl ?_
  refine s_cv1 (n := 5) dX9_next_2 rfl mo_X9_isHouse ml_X9_193 rfl (by decide) rfl rfl (Nat.le_of_ble_eq_true rfl) (Nat.le_of_ble_eq_true rfl) (c_X9_isHouse hT _ (fun hb2 => ?_) (fun hb2 => ?_))
  · dsimp only [m_push]
    refine s_if_ne (n := 8) (t := 11) dX9_next_5 (by decide) rfl (fun _ => ?_) (fun h => absurd h (by decide))
    obtain ⟨i, hi, rfl, hci⟩ := isH_ex hA.cnt hb2
    rw [nI_clamp (show i < 2 ^ 31 by omega)] at hQ
    have hK := hA.tk hb2
    refine s_aload_n (n := 12) dX9_next_11 rfl rfl rfl ?_
    refine s_cv0 (n := 15) dX9_next_12 rfl mo_X9_layTried ml_X9_208 rfl (by decide) rfl rfl (Nat.le_of_ble_eq_true rfl) (Nat.le_of_ble_eq_true rfl) (c_X9_layTried hT (fun g1 hf1 hL1 hL2 => ?_))
    have hs1 := M_sc.lay hf1 hL2
    have hy1 : g1 79 7 = a_H a 7 := by rw [hL2 7 (by decide)]; exact hT.z (by decide)
    dsimp only [m_push]
    refine s_iconst (v := 0) (n := 16) dX9_next_15 rfl (by decide) ?_
    refine s_istore_n (n := 17) dX9_next_16 rfl rfl (by decide) rfl rfl ?_
    rw [if_pos hb2, ← nxF_per (fun j hj => rsB_per hK.2.2.1 hK.2.2.2.1 hK.2.2.2.2.2.2.2.1 j (by omega))] at hQ
    exact lp_X9_next hK i hi 61 0 g1 rfl hy1 hL1.q (fun g2 hs => hQ g2 (hM.sc (hs1.tr hs)) (hs1.tr hs).FM)
  · dsimp only [m_push]
    refine s_if_ne (n := 8) (t := 11) dX9_next_5 (by decide) rfl (fun h => absurd h (by decide)) (fun _ => ?_)
    refine s_ldc (n := 10) dX9_next_8 rfl kc_X9_70 ?_
    refine s_ireturn dX9_next_10 rfl rfl ?_
    simp only [if_neg hb2] at hQ
    exact hQ g hM F_M.rf
theorem lp_X9_oftenTried {SL d : Nat} {Q : Option Int32 → m_G → Prop} {u : m_T} {y : Int32} (hK : a_TK u) (h : Nat) (hh : h < 6) (nn : Nat) (hnn : nn ≤ 60) : ∀ (n dd : Nat) (g : m_G), dd + n = nn → g 79 7 = y → TQ g u → (∀ g2, M_sc g g2 → TQ g2 u → Q (some (nI (cnF (rsB u y h) nn))) g2) → Sim SL (d + 5) yX9_oftenTried cX9_oftenTried 5 (some .int) 5 [.ref 78, .int (nI h), .int (nI nn), .int (nI (cnF (rsB u y h) dd)), .int (nI dd)] [] g Q := by
  intro n
  induction n with
  | zero =>
    intro dd g hin hy hU hQ
    have hd : dd = nn := by omega
    subst hd
    refine s_iload (n := 7) dX9_oftenTried_5 rfl rfl ?_
    refine s_iload_n (n := 8) dX9_oftenTried_7 rfl rfl rfl ?_
    refine s_icmp_ge (n := 11) (t := 35) dX9_oftenTried_8 (by decide) rfl (fun h8 => ?_) (fun h8 => ?_)
    · refine s_iload_n (n := 36) dX9_oftenTried_35 rfl rfl rfl ?_
      refine s_ireturn dX9_oftenTried_36 rfl rfl ?_
      exact hQ g M_sc.rf hU
    · exact absurd (nI_le (Nat.le_refl _) (by omega)) h8
  | succ n ih =>
    intro dd g hin hy hU hQ
    have hd7 : dd < nn := by omega
    refine s_iload (n := 7) dX9_oftenTried_5 rfl rfl ?_
    refine s_iload_n (n := 8) dX9_oftenTried_7 rfl rfl rfl ?_
    refine s_icmp_ge (n := 11) (t := 35) dX9_oftenTried_8 (by decide) rfl (fun h8 => ?_) (fun h8 => ?_)
    · exact absurd h8 (nI_ge hd7 (by omega))
    · refine s_iload_n (n := 12) dX9_oftenTried_11 rfl rfl rfl ?_
      refine s_aload_n (n := 13) dX9_oftenTried_12 rfl rfl rfl ?_
      refine s_iload (n := 15) dX9_oftenTried_13 rfl rfl ?_
      refine s_cv1 (n := 18) dX9_oftenTried_15 rfl mo_X9_restsIn ml_X9_211 rfl (by decide) rfl rfl (Nat.le_of_ble_eq_true rfl) (Nat.le_of_ble_eq_true rfl) (c_X9_restsIn hy hK.t0 hK.t1 hK.t6 hK.kd hK.t4 hU _ (fun g2 hs hU2 _ _ => ?_))
      dsimp only [m_push]
      refine s_iload_n (n := 19) dX9_oftenTried_18 rfl rfl rfl ?_
      refine s_mat_icmp_ne (n := 27) (t := 26) dX9_oftenTried_19 (by decide) dX9_oftenTried_22 dX9_oftenTried_23 (by decide) dX9_oftenTried_26 rfl (u := 0) (v := 1) (by decide) (by decide) ?_
      refine s_iadd (n := 28) dX9_oftenTried_27 rfl ?_
      rw [show nI (cnF (rsB u y h) dd) + (if eM (sR u y (nI dd)) = nI h then 1 else 0) = nI (cnF (rsB u y h) (dd + 1)) by
        rw [cnF_s]
        by_cases hq : sR u y (nI dd) = some h
        · rw [if_pos ((eM_eq hh sR6).mpr hq), if_pos (show rsB u y h dd = true from decide_eq_true hq), nI_1]
        · rw [if_neg (fun z => hq ((eM_eq hh sR6).mp z)), if_neg (show ¬ rsB u y h dd = true from fun z => hq (of_decide_eq_true z)), Int32.add_zero]; rfl]
      refine s_istore_n (n := 29) dX9_oftenTried_28 rfl rfl (by decide) rfl rfl ?_
      refine s_iinc (n := 32) (v := nI (dd + 1)) dX9_oftenTried_29 rfl (by decide) rfl rfl (nI_1 dd) rfl ?_
      refine s_goto (t := 5) dX9_oftenTried_32 (by decide) ?_
      exact ih (dd + 1) g2 (by omega) (by rw [hs.2.2 7 (by decide)]; exact hy) hU2 (fun g3 hf3 => hQ g3 (hs.tr hf3))
theorem c_X9_oftenTried {SL : Nat} {d : Nat} {Q : Option Int32 → m_G → Prop} {g : m_G} {u : m_T} {y : Int32} (hK : a_TK u) (h : Nat) (hh : h < 6) (nn : Nat) (hnn : nn ≤ 60) (hy : g 79 7 = y) (hU : TQ g u) (hQ : ∀ g2, M_sc g g2 → TQ g2 u → Q (some (nI (cnF (rsB u y h) nn))) g2) : Sim SL (d + 5) yX9_oftenTried cX9_oftenTried 5 (some .int) 0 [.ref 78, .int (nI h), .int (nI nn), .null, .null] [] g Q := by
  refine s_iconst (v := 0) (n := 1) dX9_oftenTried_0 rfl (by decide) ?_
  refine s_istore_n (n := 2) dX9_oftenTried_1 rfl rfl (by decide) rfl rfl ?_
  refine s_iconst (v := 0) (n := 3) dX9_oftenTried_2 rfl (by decide) ?_
  refine s_istore (n := 5) dX9_oftenTried_3 rfl (by decide) rfl rfl ?_
  exact lp_X9_oftenTried hK h hh nn hnn nn 0 g (by omega) hy hU hQ
theorem M_often {SL : Nat} {d : Nat} {Q : Option Int32 → m_G → Prop} {g : m_G} {a : a_S} (hA : a_OK a) (hM : M_R g a) (h n : Int32) (hQ : E_M g a Q (sp_often a h n)) : Sim SL (d + 6) yX9_often cX9_often 3 (some .int) 0 [.ref 78, .int h, .int n] [] g Q := by
  unfold E_M sp_often at hQ
  have hT : TM g 0 (a_H a) := hM.2.2.1.2
  refine s_aload_n (n := 1) dX9_often_0 rfl rfl rfl ?_
  refine s_iload_n (n := 2) dX9_often_1 rfl rfl rfl ?_
  refine s_cv1 (n := 5) dX9_often_2 rfl mo_X9_isHouse ml_X9_193 rfl (by decide) rfl rfl (Nat.le_of_ble_eq_true rfl) (Nat.le_of_ble_eq_true rfl) (c_X9_isHouse hT _ (fun hb2 => ?_) (fun hb2 => ?_))
  · dsimp only [m_push]
    refine s_if_eq (n := 8) (t := 20) dX9_often_5 (by decide) rfl (fun h => absurd h (by decide)) (fun _ => ?_)
    refine s_iload_n (n := 9) dX9_often_8 rfl rfl rfl ?_
    refine s_i2l (n := 10) dX9_often_9 rfl ?_
    refine s_lconst (v := 1) (n := 11) dX9_often_10 rfl (by decide) ?_
    refine s_ldc2 (n := 14) dX9_often_11 rfl kc_X9_203 ?_
    refine s_cs3 (n := 17) dX9_often_14 rfl mo_X9_in ml_X9_60 rfl (Nat.le_of_ble_eq_true rfl) (Nat.le_of_ble_eq_true rfl) (c_X9_in (1) (60) rfl (by decide) (by decide) (fun hb14 => ?_) (fun hb14 => ?_))
    · dsimp only [m_push]
      refine s_if_ne (n := 20) (t := 23) dX9_often_17 (by decide) rfl (fun _ => ?_) (fun h => absurd h (by decide))
      obtain ⟨i, hi, rfl, hci⟩ := isH_ex hA.cnt hb2
      rw [nI_clamp (show i < 2 ^ 31 by omega)] at hQ
      have hK := hA.tk hb2
      obtain ⟨nn, hnn, rfl⟩ := wn_ex (x := n) (M := 60) (n := 60) ⟨fun q => hb14.1 (by rw [i32_lt] at *; have := ti0; have := ti1; omega), hb14.2⟩ rfl
      rw [nI_clamp (show nn < 2 ^ 31 by omega)] at hQ
      refine s_aload_n (n := 24) dX9_often_23 rfl rfl rfl ?_
      refine s_cv0 (n := 27) dX9_often_24 rfl mo_X9_layTried ml_X9_208 rfl (by decide) rfl rfl (Nat.le_of_ble_eq_true rfl) (Nat.le_of_ble_eq_true rfl) (c_X9_layTried hT (fun g1 hf1 hL1 hL2 => ?_))
      have hs1 := M_sc.lay hf1 hL2
      have hy1 : g1 79 7 = a_H a 7 := by rw [hL2 7 (by decide)]; exact hT.z (by decide)
      dsimp only [m_push]
      refine s_aload_n (n := 28) dX9_often_27 rfl rfl rfl ?_
      refine s_iload_n (n := 29) dX9_often_28 rfl rfl rfl ?_
      refine s_iload_n (n := 30) dX9_often_29 rfl rfl rfl ?_
      refine s_cv2 (n := 33) dX9_often_30 rfl mo_X9_oftenTried ml_X9_214 rfl (by decide) rfl rfl (Nat.le_of_ble_eq_true rfl) (Nat.le_of_ble_eq_true rfl) (c_X9_oftenTried hK i hi nn hnn hy1 hL1.q (fun g2 hs _ => ?_))
      dsimp only [m_push]
      refine s_ireturn dX9_often_33 rfl rfl ?_
      rw [if_pos hb2, if_pos hb14] at hQ
      exact hQ g2 (hM.sc (hs1.tr hs)) (hs1.tr hs).FM
    · dsimp only [m_push]
      refine s_if_ne (n := 20) (t := 23) dX9_often_17 (by decide) rfl (fun h => absurd h (by decide)) (fun _ => ?_)
      refine s_ldc (n := 22) dX9_often_20 rfl kc_X9_70 ?_
      refine s_ireturn dX9_often_22 rfl rfl ?_
      simp only [if_pos hb2, if_neg hb14] at hQ
      exact hQ g hM F_M.rf
  · dsimp only [m_push]
    refine s_if_eq (n := 8) (t := 20) dX9_often_5 (by decide) rfl (fun _ => ?_) (fun h => absurd h (by decide))
    refine s_ldc (n := 22) dX9_often_20 rfl kc_X9_70 ?_
    refine s_ireturn dX9_often_22 rfl rfl ?_
    simp only [if_neg hb2] at hQ
    exact hQ g hM F_M.rf
