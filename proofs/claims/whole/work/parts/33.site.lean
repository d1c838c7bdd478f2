/-- a house elsewhere -/
def mvT (t : m_T) (h : Nat) (r l : Int32) : m_T := upd (upd t (15 + h) r) (21 + h) l
theorem mv_ne {t : m_T} {h : Nat} {r l : Int32} {j : Nat} (h1 : j ≠ 15 + h) (h2 : j ≠ 21 + h) : mvT t h r l j = t j := by
  unfold mvT; rw [upd_ne h2, upd_ne h1]
theorem mv_mv (t : m_T) (h : Nat) (p q r l : Int32) : upd (upd (mvT t h p q) (15 + h) r) (21 + h) l = mvT t h r l := by
  funext j
  unfold mvT upd
  by_cases h1 : j = 21 + h
  · rw [if_pos h1, if_pos h1]
  · rw [if_neg h1, if_neg h1]
    by_cases h2 : j = 15 + h
    · rw [if_pos h2, if_neg h1, if_pos h2]
    · rw [if_neg h2, if_neg h1, if_neg h2, if_neg h2]
theorem mv_self (t : m_T) (h : Nat) : mvT t h (t (15 + h)) (t (21 + h)) = t := by
  unfold mvT; rw [upd_self, upd_self]
theorem a_TK.mv {t : m_T} (h : a_TK t) {i : Nat} {r l : Int32} (hi : i < 6) (hr : wn r 1 9) (hl : wn l 0 6) : a_TK (mvT t i r l) := by
  obtain ⟨h0, h1, h2, h3, h4, h5, h6, h7, h8⟩ := h
  unfold a_TK
  rw [mv_ne (j := 0) (by omega) (by omega), mv_ne (j := 1) (by omega) (by omega), mv_ne (j := 2) (by omega) (by omega), mv_ne (j := 3) (by omega) (by omega), mv_ne (j := 4) (by omega) (by omega), mv_ne (j := 5) (by omega) (by omega), mv_ne (j := 6) (by omega) (by omega), mv_ne (j := 7) (by omega) (by omega)]
  refine ⟨h0, h1, h2, h3, h4, h5, h6, h7, fun q hq hc => ?_⟩
  rw [mv_ne (j := 9 + q) (by omega) (by omega)]
  obtain ⟨k1, k2, k3⟩ := h8 q hq hc
  by_cases e : q = i
  · subst e
    refine ⟨k1, ?_, ?_⟩
    · unfold mvT; rw [upd_ne (by omega), upd_eq]; exact hr
    · unfold mvT; rw [upd_eq]; exact hl
  · rw [mv_ne (j := 15 + q) (by omega) (by omega), mv_ne (j := 21 + q) (by omega) (by omega)]
    exact ⟨k1, k2, k3⟩
def stV (t : m_T) (h nn r l : Nat) : Nat := cnF (rsB (mvT t h (nI r) (nI l)) (t 7) h) nn
abbrev stO (t : m_T) (h r l : Nat) : Prop := sAt t (nI r) (nI l) = none ∨ sAt t (nI r) (nI l) = some h
abbrev stS : Type := Option (Nat × Nat × Nat)
def stB (v : Nat) (b : stS) : Bool := match b with
  | none => true
  | some q => decide (q.1 < v)
def stL (t : m_T) (h nn r : Nat) : Nat → Nat → stS → stS
  | 0, _, b => b
  | n + 1, l, b => stL t h nn r n (l + 1) (if stO t h r l ∧ stB (stV t h nn r l) b = true then some (stV t h nn r l, r, l) else b)
def stT (t : m_T) (h nn : Nat) : Nat → Nat → stS → stS
  | 0, _, b => b
  | n + 1, r, b => stT t h nn n (r + 1) (stL t h nn r 7 0 b)
def bV (b : stS) : Int32 := match b with
  | none => -1
  | some q => nI q.1
def bL (c : Int32) (b : stS) : Int32 := match b with
  | none => c
  | some q => nI (10 * q.2.1 + q.2.2)
def bT (b : stS) : Int32 := match b with
  | none => 0
  | some q => nI q.2.1
def bN (b : stS) : Int32 := match b with
  | none => 0
  | some q => nI q.2.2
abbrev stOK (b : stS) : Prop := ∀ v r l, b = some (v, r, l) → v ≤ 60 ∧ r ≤ 9 ∧ l ≤ 6
theorem stL_ok {t : m_T} {h nn r : Nat} (hr : r ≤ 9) (hn : nn ≤ 60) : ∀ (n l : Nat) (b : stS), l + n ≤ 7 → stOK b → stOK (stL t h nn r n l b)
  | 0, _, _, _, hb => hb
  | n + 1, l, b, hl, hb => by
    unfold stL
    refine stL_ok hr hn n (l + 1) _ (by omega) (fun v r2 l2 e => ?_)
    split at e
    · cases e; exact ⟨Nat.le_trans (cnF_le _ _) hn, hr, by omega⟩
    · exact hb v r2 l2 e
theorem stT_ok {t : m_T} {h nn : Nat} (hn : nn ≤ 60) : ∀ (n r : Nat) (b : stS), r + n ≤ 10 → stOK b → stOK (stT t h nn n r b)
  | 0, _, _, _, hb => hb
  | n + 1, r, b, hl, hb => by
    unfold stT
    exact stT_ok hn n (r + 1) _ (by omega) (stL_ok (by omega) hn 7 0 b (by decide) hb)
theorem stL_some {t : m_T} {h nn r : Nat} : ∀ (n l : Nat) (b : stS), b ≠ none → stL t h nn r n l b ≠ none
  | 0, _, _, hb => hb
  | n + 1, l, b, hb => by
    unfold stL
    refine stL_some n (l + 1) _ ?_
    split
    · intro q; cases q
    · exact hb
theorem stT_some {t : m_T} {h nn : Nat} : ∀ (n r : Nat) (b : stS), b ≠ none → stT t h nn n r b ≠ none
  | 0, _, _, hb => hb
  | n + 1, r, b, hb => by
    unfold stT
    exact stT_some n (r + 1) _ (stL_some 7 0 b hb)
theorem stL_none {t : m_T} {h nn r : Nat} : ∀ (n l : Nat), stL t h nn r n l none = none → ∀ j, l ≤ j → j < l + n → ¬ stO t h r j
  | 0, _, _, _, _, _ => by omega
  | n + 1, l, e, j, h1, h2 => by
    unfold stL at e
    by_cases ho : stO t h r l
    · rw [if_pos ⟨ho, rfl⟩] at e
      exact absurd e (stL_some n (l + 1) _ (fun q => by cases q))
    · rw [if_neg (fun q => ho q.1)] at e
      by_cases e2 : j = l
      · subst e2; exact ho
      · exact stL_none n (l + 1) e j (by omega) (by omega)
theorem pig : ∀ (n : Nat) (f : Nat → Nat), (∀ i, i ≤ n → f i < n) → ∃ i j, i < j ∧ j ≤ n ∧ f i = f j
  | 0, f, h => by have := h 0 (Nat.le_refl _); omega
  | n + 1, f, h => by
    by_cases hx : ∃ i, i ≤ n ∧ f i = f (n + 1)
    · obtain ⟨i, hi, e⟩ := hx
      exact ⟨i, n + 1, by omega, Nat.le_refl _, e⟩
    · have hx2 : ∀ i, i ≤ n → f i ≠ f (n + 1) := fun i hi e => hx ⟨i, hi, e⟩
      obtain ⟨i, j, h1, h2, h3⟩ := pig n (fun i => if f i = n then f (n + 1) else f i) (fun i hi => by
        have a1 := h i (by omega)
        have a2 := h (n + 1) (Nat.le_refl _)
        have a3 := hx2 i hi
        split <;> omega)
      refine ⟨i, j, h1, by omega, ?_⟩
      have a1 := hx2 i (by omega)
      have a2 := hx2 j (by omega)
      split at h3 <;> split at h3 <;> omega
theorem sAtF_at {t : m_T} {a b : Int32} : ∀ (n i : Nat) {h : Nat}, sAtF t a b n i = some h → t (21 + h) = b
  | 0, i, h, q => by cases q
  | n + 1, i, h, q => by
    unfold sAtF at q
    split at q
    · cases q
    · split at q
      · cases q; rename_i h1 h2; exact h2.2
      · exact sAtF_at n (i + 1) q
theorem stT_some1 {t : m_T} {h nn n : Nat} : stT t h nn (n + 1) 1 none ≠ none := by
  unfold stT
  refine stT_some n 2 _ (fun e => ?_)
  have hb := stL_none 7 0 e
  have hs : ∀ j, j < 7 → ∃ i, sAt t (nI 1) (nI j) = some i := fun j hj => by
    have := hb j (Nat.zero_le _) (by omega)
    cases hq : sAt t (nI 1) (nI j) with
    | none => exact absurd (Or.inl hq) this
    | some i => exact ⟨i, rfl⟩
  obtain ⟨i, j, h1, h2, h3⟩ := pig 6 (fun j => (sAt t (nI 1) (nI j)).getD 0) (fun i hi => by
    obtain ⟨q, hq⟩ := hs i (by omega)
    rw [hq]
    exact sAt6 q hq)
  obtain ⟨q, hq⟩ := hs i (by omega)
  obtain ⟨p, hp⟩ := hs j (by omega)
  rw [hq, hp] at h3
  have e3 : q = p := h3
  subst e3
  have a1 := sAtF_at 6 0 hq
  have a2 := sAtF_at 6 0 hp
  have := congrArg Int32.toInt (a1.symm.trans a2)
  rw [nI_toInt (by omega), nI_toInt (by omega)] at this
  omega
def sp_site (a : a_S) (h n w : Int32) : Int32 × a_S := (if wn h 0 (a_H a 1 - 1) then (if wn n 1 20 then (if wn w 0 2 then (match stT (a_H a) h.toNatClampNeg n.toNatClampNeg (a_H a 0).toNatClampNeg 1 none with
    | none => 0
    | some q => if w = 0 then nI q.2.1 else if w = 1 then nI q.2.2 else nI q.1) else -1000001) else -1000001) else -1000001, a)
theorem eC_neg {o : Option Nat} (ho : ∀ i, o = some i → i < 6) : eC o < 0 ↔ o = none := by
  cases o with
  | none => exact ⟨fun _ => rfl, fun _ => by decide⟩
  | some i => exact ⟨fun q => absurd q (nI_pos (by have := ho i rfl; omega)), fun q => by cases q⟩
theorem eM_none {o : Option Nat} (ho : ∀ i, o = some i → i < 6) : eM o = -1000000 ↔ o = none := by
  cases o with
  | none => exact ⟨fun _ => rfl, fun _ => rfl⟩
  | some i => exact ⟨fun q => absurd q (eM_ne (ho i rfl)), fun q => by cases q⟩
theorem TQ.tj {g : m_G} {u : m_T} (h : TQ g u) (j : Nat) (v : Int32) : TQ (m_up g 79 (1053 + j) v) (upd u j v) := fun i hi h7 => by
  rw [m_up_k]; unfold upd
  by_cases e : i = j
  · subst e; rw [if_pos rfl, if_pos rfl]
  · rw [if_neg (by omega), if_neg e]; exact h i hi h7
theorem wn19 {r : Nat} (h1 : 1 ≤ r) (h2 : r ≤ 9) : wn (nI r) 1 9 := ⟨nI_nlt (b := 1) h1 (by omega), nI_nlt (a := 9) h2 (by decide)⟩
theorem wn06 {l : Nat} (h2 : l ≤ 6) : wn (nI l) 0 6 := ⟨nI_pos (by omega), nI_nlt (a := 6) h2 (by decide)⟩
theorem bV_le {v : Nat} {b : stS} (hv : v ≤ 60) (hb : stOK b) : nI v ≤ bV b ↔ ¬ stB v b = true := by
  cases b with
  | none =>
    refine ⟨fun q => ?_, fun q => absurd rfl q⟩
    rw [show bV none = -1 from rfl, i32_le, nI_toInt (by omega)] at q
    have : (-1 : Int32).toInt = -1 := rfl
    omega
  | some q =>
    obtain ⟨v2, r, l⟩ := q
    have := hb v2 r l rfl
    show nI v ≤ nI v2 ↔ ¬ decide (v2 < v) = true
    rw [i32_le, nI_toInt (by omega), nI_toInt (by omega), decide_eq_true_eq]
    omega
theorem bV_m1 {b : stS} (hb : stOK b) : (-1 : Int32) ≤ bV b := by
  cases b with
  | none => decide
  | some q =>
    obtain ⟨v2, r, l⟩ := q
    have := hb v2 r l rfl
    show (-1 : Int32) ≤ nI v2
    rw [i32_le, nI_toInt (by omega)]
    have : (-1 : Int32).toInt = -1 := rfl
    omega
set_option maxHeartbeats 1000000 in
theorem lp_X5_bestLine {SL d : Nat} {Q : Option Int32 → m_G → Prop} {t : m_T} (hK : a_TK t) (h : Nat) (hh : h < 6) (nn : Nat) (hnn : nn ≤ 60) (c : Int32) (r : Nat) (hr1 : 1 ≤ r) (hr9 : r ≤ 9) : ∀ (n l : Nat) (g : m_G) (x7 x8 : Value) (b : stS), l + n = 7 → TW g 28 t → (∃ p q, TW g 68 (mvT t h p q)) → g 24 1 = bV b → stOK b → (∀ g2 x7 x8, m_fr m_scr g g2 → (∃ p q, TW g2 68 (mvT t h p q)) → g2 24 1 = bV (stL t h nn r n l b) → Sim SL (d + 6) yX5_bestCell cX5_bestCell 9 (some .int) 128 [.ref 24, .ref 28, .int (nI h), .int (nI nn), .int (bL c (stL t h nn r n l b)), .int (nI r), .int (nI 7), x7, x8] [] g2 Q) → Sim SL (d + 6) yX5_bestCell cX5_bestCell 9 (some .int) 39 [.ref 24, .ref 28, .int (nI h), .int (nI nn), .int (bL c b), .int (nI r), .int (nI l), x7, x8] [] g Q := by
  intro n
  induction n with
  | zero =>
    intro l g x7 x8 b hin hT hR0 hB hok hQ
    obtain ⟨p, q, hR⟩ := hR0
    have hl : l = 7 := by omega
    subst hl
    refine s_iload (n := 41) dX5_bestCell_39 rfl rfl ?_
    refine s_bipush (v := 7) (n := 43) dX5_bestCell_41 rfl (by decide) ?_
    refine s_icmp_ge (n := 46) (t := 128) dX5_bestCell_43 (by decide) rfl (fun h43 => ?_) (fun h43 => ?_)
    · exact hQ g _ _ m_fr.rf ⟨p, q, hR⟩ hB
    · exact absurd (by decide) h43
  | succ n ih =>
    intro l g x7 x8 b hin hT hR0 hB hok hQ
    obtain ⟨p, q, hR⟩ := hR0
    have hl7 : l < 7 := by omega
    unfold stL at hQ
    refine s_iload (n := 41) dX5_bestCell_39 rfl rfl ?_
    refine s_bipush (v := 7) (n := 43) dX5_bestCell_41 rfl (by decide) ?_
    refine s_icmp_ge (n := 46) (t := 128) dX5_bestCell_43 (by decide) rfl (fun h43 => ?_) (fun h43 => ?_)
    · exact absurd h43 (nI_ge hl7 (by decide))
    · refine s_aload_n (n := 47) dX5_bestCell_46 rfl rfl rfl ?_
      refine s_iload (n := 49) dX5_bestCell_47 rfl rfl ?_
      refine s_iload (n := 51) dX5_bestCell_49 rfl rfl ?_
      refine s_cv2 (n := 54) dX5_bestCell_51 rfl mo_X1_standing ml_X5_54 rfl (by decide) rfl rfl (Nat.le_of_ble_eq_true rfl) (Nat.le_of_ble_eq_true rfl) (c_X1_standing hb28 hT hK.t1 _ _ ?_)
      dsimp only [m_push]
      refine s_istore (n := 56) dX5_bestCell_54 rfl (by decide) rfl rfl ?_
      refine s_iload (n := 58) dX5_bestCell_56 rfl rfl ?_
      refine s_if_lt (n := 61) (t := 70) dX5_bestCell_58 (by decide) rfl (fun h58 => ?_) (fun h58 => ?_)
      · have hfree : stO t h r l := by
          first
          | exact Or.inl ((eC_neg sAt6).mp h58)
          | exact Or.inr ((eC_eq hh sAt6).mp h64)
        refine s_aload_n (n := 71) dX5_bestCell_70 rfl rfl rfl ?_
        refine s_getr (k2 := 68) (n := 74) dX5_bestCell_71 rfl fl_X5_12 rfl rfl rfl ?_
        refine s_getr (k2 := 69) (n := 77) dX5_bestCell_74 rfl fl_X5_39 rfl rfl rfl ?_
        refine s_iload_n (n := 78) dX5_bestCell_77 rfl rfl rfl ?_
        refine s_aaload (k2 := 72 + h) (t := 0) h (n := 79) dX5_bestCell_78 rfl rfl (by decide) rfl hh rfl ?_
        refine s_iload (n := 81) dX5_bestCell_79 rfl rfl ?_
        refine s_iload (n := 83) dX5_bestCell_81 rfl rfl ?_
        refine s_cv2 (n := 86) dX5_bestCell_83 rfl mo_X2_stand ml_X5_58 (hbh hb68 hh) (by decide) rfl rfl (Nat.le_of_ble_eq_true rfl) (Nat.le_of_ble_eq_true rfl) (c_X2_stand (hbh hb68 hh) _ _ ?_)
        have hR2 : TW (m_up (m_up g (72 + h) 1 (nI r)) (72 + h) 2 (nI l)) 68 (mvT t h (nI r) (nI l)) := by
          have := (hR.tier hh (nI r)).line hh (nI l)
          rw [mv_mv] at this
          exact this
        have hK2 := hK.mv hh (wn19 hr1 hr9) (wn06 (show l ≤ 6 by omega))
        dsimp only [m_push]
        refine s_aload_n (n := 87) dX5_bestCell_86 rfl rfl rfl ?_
        refine s_getr (k2 := 68) (n := 90) dX5_bestCell_87 rfl fl_X5_12 rfl rfl rfl ?_
        refine s_iload_n (n := 91) dX5_bestCell_90 rfl rfl rfl ?_
        refine s_iload_n (n := 92) dX5_bestCell_91 rfl rfl rfl ?_
        refine s_cv2 (n := 95) dX5_bestCell_92 rfl mo_X1_timesAt ml_X5_62 rfl (by decide) rfl rfl (Nat.le_of_ble_eq_true rfl) (Nat.le_of_ble_eq_true rfl) (c_X1_timesAt hb68 hR2 hK2 h hh nn hnn (fun g2 hf => ?_))
        rw [show mvT t h (nI r) (nI l) 7 = t 7 from mv_ne (by omega) (by omega)]
        have hR3 := hR2.fr hf
        have hfr : m_fr m_scr g g2 := ((m_fr.up (by simp [m_scr]; omega)).up2 (by simp [m_scr]; omega)).tr (hf.mono (by decide))
        have hT2 : TW g2 28 t := hT.kept (hfr 28 (by decide)) (fun i hi => hfr _ (by simp [m_scr]; omega))
        have hB2 : g2 24 1 = bV b := by rw [hf 24 (by decide), m_up_o (by omega), m_up_o (by omega)]; exact hB
        have hv60 : stV t h nn r l ≤ 60 := Nat.le_trans (cnF_le _ _) hnn
        dsimp only [m_push]
        refine s_istore (n := 97) dX5_bestCell_95 rfl (by decide) rfl rfl ?_
        refine s_iload (n := 99) dX5_bestCell_97 rfl rfl ?_
        refine s_aload_n (n := 100) dX5_bestCell_99 rfl rfl rfl ?_
        refine s_geti (n := 103) dX5_bestCell_100 rfl fl_X5_48 rfl rfl ?_
        rw [hB2]
        refine s_icmp_le (n := 106) (t := 122) dX5_bestCell_103 (by decide) rfl (fun h103 => ?_) (fun h103 => ?_)
        · refine s_iinc (n := 125) (v := nI (l + 1)) dX5_bestCell_122 rfl (by decide) rfl rfl (nI_1 l) rfl ?_
          refine s_goto (t := 39) dX5_bestCell_125 (by decide) ?_
          rw [if_neg (fun q => (bV_le hv60 hok).mp h103 q.2)] at hQ
          exact ih (l + 1) g2 _ _ b (by omega) hT2 ⟨_, _, hR3⟩ hB2 hok (fun g3 x y hf3 e3 b3 => hQ g3 x y (hfr.tr hf3) e3 b3)
        · refine s_aload_n (n := 107) dX5_bestCell_106 rfl rfl rfl ?_
          refine s_iload (n := 109) dX5_bestCell_107 rfl rfl ?_
          refine s_puti (n := 112) dX5_bestCell_109 rfl fl_X5_48 rfl rfl rfl ?_
          refine s_bipush (v := 10) (n := 114) dX5_bestCell_112 rfl (by decide) ?_
          refine s_iload (n := 116) dX5_bestCell_114 rfl rfl ?_
          refine s_imul (n := 117) dX5_bestCell_116 rfl ?_
          refine s_iload (n := 119) dX5_bestCell_117 rfl rfl ?_
          refine s_iadd (n := 120) dX5_bestCell_119 rfl ?_
          rw [show (10 : Int32) * nI r + nI l = nI (10 * r + l) by rw [show (10 : Int32) = nI 10 from rfl, pk_mul, nI_add]]
          refine s_istore (n := 122) dX5_bestCell_120 rfl (by decide) rfl rfl ?_
          refine s_iinc (n := 125) (v := nI (l + 1)) dX5_bestCell_122 rfl (by decide) rfl rfl (nI_1 l) rfl ?_
          refine s_goto (t := 39) dX5_bestCell_125 (by decide) ?_
          have hy : stB (stV t h nn r l) b = true := by
            cases hq : stB (stV t h nn r l) b with
            | true => rfl
            | false => exact absurd ((bV_le hv60 hok).mpr (by rw [hq]; decide)) h103
          rw [if_pos ⟨hfree, hy⟩] at hQ
          exact ih (l + 1) _ _ _ (some (stV t h nn r l, r, l)) (by omega) (hT2.kept (m_up_o (by decide)) (fun i _ => m_up_o (by omega))) ⟨_, _, hR3.kept (m_up_o (by decide)) (fun i _ => m_up_o (by omega))⟩ (by rw [m_up_k, if_pos rfl]; rfl) (fun v r2 l2 e => by cases e; exact ⟨hv60, hr9, by omega⟩) (fun g3 x y hf3 e3 b3 => hQ g3 x y ((hfr.up2 (by decide)).tr hf3) e3 b3)
      · refine s_iload (n := 63) dX5_bestCell_61 rfl rfl ?_
        refine s_iload_n (n := 64) dX5_bestCell_63 rfl rfl rfl ?_
        refine s_icmp_eq (n := 67) (t := 70) dX5_bestCell_64 (by decide) rfl (fun h64 => ?_) (fun h64 => ?_)
        · have hfree : stO t h r l := by
            first
            | exact Or.inl ((eC_neg sAt6).mp h58)
            | exact Or.inr ((eC_eq hh sAt6).mp h64)
          refine s_aload_n (n := 71) dX5_bestCell_70 rfl rfl rfl ?_
          refine s_getr (k2 := 68) (n := 74) dX5_bestCell_71 rfl fl_X5_12 rfl rfl rfl ?_
          refine s_getr (k2 := 69) (n := 77) dX5_bestCell_74 rfl fl_X5_39 rfl rfl rfl ?_
          refine s_iload_n (n := 78) dX5_bestCell_77 rfl rfl rfl ?_
          refine s_aaload (k2 := 72 + h) (t := 0) h (n := 79) dX5_bestCell_78 rfl rfl (by decide) rfl hh rfl ?_
          refine s_iload (n := 81) dX5_bestCell_79 rfl rfl ?_
          refine s_iload (n := 83) dX5_bestCell_81 rfl rfl ?_
          refine s_cv2 (n := 86) dX5_bestCell_83 rfl mo_X2_stand ml_X5_58 (hbh hb68 hh) (by decide) rfl rfl (Nat.le_of_ble_eq_true rfl) (Nat.le_of_ble_eq_true rfl) (c_X2_stand (hbh hb68 hh) _ _ ?_)
          have hR2 : TW (m_up (m_up g (72 + h) 1 (nI r)) (72 + h) 2 (nI l)) 68 (mvT t h (nI r) (nI l)) := by
            have := (hR.tier hh (nI r)).line hh (nI l)
            rw [mv_mv] at this
            exact this
          have hK2 := hK.mv hh (wn19 hr1 hr9) (wn06 (show l ≤ 6 by omega))
          dsimp only [m_push]
          refine s_aload_n (n := 87) dX5_bestCell_86 rfl rfl rfl ?_
          refine s_getr (k2 := 68) (n := 90) dX5_bestCell_87 rfl fl_X5_12 rfl rfl rfl ?_
          refine s_iload_n (n := 91) dX5_bestCell_90 rfl rfl rfl ?_
          refine s_iload_n (n := 92) dX5_bestCell_91 rfl rfl rfl ?_
          refine s_cv2 (n := 95) dX5_bestCell_92 rfl mo_X1_timesAt ml_X5_62 rfl (by decide) rfl rfl (Nat.le_of_ble_eq_true rfl) (Nat.le_of_ble_eq_true rfl) (c_X1_timesAt hb68 hR2 hK2 h hh nn hnn (fun g2 hf => ?_))
          rw [show mvT t h (nI r) (nI l) 7 = t 7 from mv_ne (by omega) (by omega)]
          have hR3 := hR2.fr hf
          have hfr : m_fr m_scr g g2 := ((m_fr.up (by simp [m_scr]; omega)).up2 (by simp [m_scr]; omega)).tr (hf.mono (by decide))
          have hT2 : TW g2 28 t := hT.kept (hfr 28 (by decide)) (fun i hi => hfr _ (by simp [m_scr]; omega))
          have hB2 : g2 24 1 = bV b := by rw [hf 24 (by decide), m_up_o (by omega), m_up_o (by omega)]; exact hB
          have hv60 : stV t h nn r l ≤ 60 := Nat.le_trans (cnF_le _ _) hnn
          dsimp only [m_push]
          refine s_istore (n := 97) dX5_bestCell_95 rfl (by decide) rfl rfl ?_
          refine s_iload (n := 99) dX5_bestCell_97 rfl rfl ?_
          refine s_aload_n (n := 100) dX5_bestCell_99 rfl rfl rfl ?_
          refine s_geti (n := 103) dX5_bestCell_100 rfl fl_X5_48 rfl rfl ?_
          rw [hB2]
          refine s_icmp_le (n := 106) (t := 122) dX5_bestCell_103 (by decide) rfl (fun h103 => ?_) (fun h103 => ?_)
          · refine s_iinc (n := 125) (v := nI (l + 1)) dX5_bestCell_122 rfl (by decide) rfl rfl (nI_1 l) rfl ?_
            refine s_goto (t := 39) dX5_bestCell_125 (by decide) ?_
            rw [if_neg (fun q => (bV_le hv60 hok).mp h103 q.2)] at hQ
            exact ih (l + 1) g2 _ _ b (by omega) hT2 ⟨_, _, hR3⟩ hB2 hok (fun g3 x y hf3 e3 b3 => hQ g3 x y (hfr.tr hf3) e3 b3)
          · refine s_aload_n (n := 107) dX5_bestCell_106 rfl rfl rfl ?_
            refine s_iload (n := 109) dX5_bestCell_107 rfl rfl ?_
            refine s_puti (n := 112) dX5_bestCell_109 rfl fl_X5_48 rfl rfl rfl ?_
            refine s_bipush (v := 10) (n := 114) dX5_bestCell_112 rfl (by decide) ?_
            refine s_iload (n := 116) dX5_bestCell_114 rfl rfl ?_
            refine s_imul (n := 117) dX5_bestCell_116 rfl ?_
            refine s_iload (n := 119) dX5_bestCell_117 rfl rfl ?_
            refine s_iadd (n := 120) dX5_bestCell_119 rfl ?_
            rw [show (10 : Int32) * nI r + nI l = nI (10 * r + l) by rw [show (10 : Int32) = nI 10 from rfl, pk_mul, nI_add]]
            refine s_istore (n := 122) dX5_bestCell_120 rfl (by decide) rfl rfl ?_
            refine s_iinc (n := 125) (v := nI (l + 1)) dX5_bestCell_122 rfl (by decide) rfl rfl (nI_1 l) rfl ?_
            refine s_goto (t := 39) dX5_bestCell_125 (by decide) ?_
            have hy : stB (stV t h nn r l) b = true := by
              cases hq : stB (stV t h nn r l) b with
              | true => rfl
              | false => exact absurd ((bV_le hv60 hok).mpr (by rw [hq]; decide)) h103
            rw [if_pos ⟨hfree, hy⟩] at hQ
            exact ih (l + 1) _ _ _ (some (stV t h nn r l, r, l)) (by omega) (hT2.kept (m_up_o (by decide)) (fun i _ => m_up_o (by omega))) ⟨_, _, hR3.kept (m_up_o (by decide)) (fun i _ => m_up_o (by omega))⟩ (by rw [m_up_k, if_pos rfl]; rfl) (fun v r2 l2 e => by cases e; exact ⟨hv60, hr9, by omega⟩) (fun g3 x y hf3 e3 b3 => hQ g3 x y ((hfr.up2 (by decide)).tr hf3) e3 b3)
        · refine s_goto (t := 122) dX5_bestCell_67 (by decide) ?_
          refine s_iinc (n := 125) (v := nI (l + 1)) dX5_bestCell_122 rfl (by decide) rfl rfl (nI_1 l) rfl ?_
          refine s_goto (t := 39) dX5_bestCell_125 (by decide) ?_
          have hno : ¬ stO t h r l := fun q => q.elim (fun z => h58 ((eC_neg sAt6).mpr z)) (fun z => h64 ((eC_eq hh sAt6).mpr z))
          rw [if_neg (fun q => hno q.1)] at hQ
          exact ih (l + 1) g _ _ b (by omega) hT ⟨p, q, hR⟩ hB hok hQ
theorem nI_gt {a b : Nat} (h : a < b) (hb : b < 2 ^ 31) : nI a < nI b := by rw [i32_lt, nI_toInt (by omega), nI_toInt hb]; omega
theorem lp_X5_bestCell {SL d : Nat} {Q : Option Int32 → m_G → Prop} {t : m_T} (hK : a_TK t) (h : Nat) (hh : h < 6) (nn : Nat) (hnn : nn ≤ 60) (c : Int32) (TT : Nat) (hTT : t 0 = nI TT) (hT9 : TT ≤ 9) : ∀ (n r : Nat) (g : m_G) (x6 x7 x8 : Value) (b : stS), r + n = TT + 1 → 1 ≤ r → TW g 28 t → (∃ p q, TW g 68 (mvT t h p q)) → g 24 1 = bV b → stOK b → (∀ g2, m_fr m_scr g g2 → g2 24 1 = bV (stT t h nn n r b) → Q (some (bL c (stT t h nn n r b))) g2) → Sim SL (d + 6) yX5_bestCell cX5_bestCell 9 (some .int) 27 [.ref 24, .ref 28, .int (nI h), .int (nI nn), .int (bL c b), .int (nI r), x6, x7, x8] [] g Q := by
  intro n
  induction n with
  | zero =>
    intro r g x6 x7 x8 b hin hr1 hT hR hB hok hQ
    refine s_iload (n := 29) dX5_bestCell_27 rfl rfl ?_
    refine s_aload_n (n := 30) dX5_bestCell_29 rfl rfl rfl ?_
    refine s_geti (n := 33) dX5_bestCell_30 rfl fl_X5_51 rfl rfl ?_
    rw [hT.1.1, hTT]
    refine s_icmp_gt (n := 36) (t := 134) dX5_bestCell_33 (by decide) rfl (fun h33 => ?_) (fun h33 => ?_)
    · refine s_iload (n := 136) dX5_bestCell_134 rfl rfl ?_
      refine s_ireturn dX5_bestCell_136 rfl rfl ?_
      exact hQ g m_fr.rf hB
    · exact absurd (nI_gt (show TT < r by omega) (by omega)) h33
  | succ n ih =>
    intro r g x6 x7 x8 b hin hr1 hT hR hB hok hQ
    refine s_iload (n := 29) dX5_bestCell_27 rfl rfl ?_
    refine s_aload_n (n := 30) dX5_bestCell_29 rfl rfl rfl ?_
    refine s_geti (n := 33) dX5_bestCell_30 rfl fl_X5_51 rfl rfl ?_
    rw [hT.1.1, hTT]
    refine s_icmp_gt (n := 36) (t := 134) dX5_bestCell_33 (by decide) rfl (fun h33 => ?_) (fun h33 => ?_)
    · exact absurd h33 (nI_nlt (show r ≤ TT by omega) (by omega))
    · refine s_iconst (v := 0) (n := 37) dX5_bestCell_36 rfl (by decide) ?_
      refine s_istore (n := 39) dX5_bestCell_37 rfl (by decide) rfl rfl ?_
      unfold stT at hQ
      refine lp_X5_bestLine hK h hh nn hnn c r hr1 (by omega) 7 0 g _ _ b rfl hT hR hB hok (fun g2 x7 x8 hf hp hB2 => ?_)
      refine s_iinc (n := 131) (v := nI (r + 1)) dX5_bestCell_128 rfl (by decide) rfl rfl (nI_1 r) rfl ?_
      refine s_goto (t := 27) dX5_bestCell_131 (by decide) ?_
      exact ih (r + 1) g2 _ _ _ _ (by omega) (by omega) (hT.kept (hf 28 (by decide)) (fun i hi => hf _ (by simp [m_scr]; omega))) hp hB2 (stL_ok (by omega) hnn 7 0 b (by decide) hok) (fun g3 hf3 b3 => hQ g3 (hf.tr hf3) b3)
theorem c_X5_bestCell {SL : Nat} {d : Nat} {Q : Option Int32 → m_G → Prop} {g : m_G} {t : m_T} (hT : TW g 28 t) (h2 : g 28 2 = 1) (hK : a_TK t) (h : Nat) (hh : h < 6) (nn : Nat) (hnn : nn ≤ 60) (TT : Nat) (hTT : t 0 = nI TT) (hT9 : TT ≤ 9) (hQ : ∀ c g2, m_fr m_scr g g2 → g2 24 1 = bV (stT t h nn TT 1 none) → Q (some (bL c (stT t h nn TT 1 none))) g2) : Sim SL (d + 6) yX5_bestCell cX5_bestCell 9 (some .int) 0 [.ref 24, .ref 28, .int (nI h), .int (nI nn), .null, .null, .null, .null, .null] [] g Q := by
  refine s_aload_n (n := 1) dX5_bestCell_0 rfl rfl rfl ?_
  refine s_getr (k2 := 68) (n := 4) dX5_bestCell_1 rfl fl_X5_12 rfl rfl rfl ?_
  refine s_aload_n (n := 5) dX5_bestCell_4 rfl rfl rfl ?_
  refine s_cv1 (n := 8) dX5_bestCell_5 rfl mo_X1_become ml_X5_18 rfl (by decide) rfl rfl (Nat.le_of_ble_eq_true rfl) (Nat.le_of_ble_eq_true rfl) (c_X1_become hb68 hb28 (by decide) (Or.inr h2) (fun g1 hf1 hE => ?_))
  have hfr1 : m_fr m_scr g g1 := hf1.mono (by decide)
  have hT1 := hE.TW hT
  have hT2 : TW g1 28 t := hT.kept (hfr1 28 (by decide)) (fun i hi => hfr1 _ (by simp [m_scr]; omega))
  dsimp only [m_push]
  refine s_aload_n (n := 9) dX5_bestCell_8 rfl rfl rfl ?_
  refine s_getr (k2 := 29) (n := 12) dX5_bestCell_9 rfl fl_X5_39 rfl rfl rfl ?_
  refine s_iload_n (n := 13) dX5_bestCell_12 rfl rfl rfl ?_
  refine s_aaload (k2 := 32 + h) (t := 0) h (n := 14) dX5_bestCell_13 rfl rfl (by decide) rfl hh rfl ?_
  refine s_cv0 (n := 17) dX5_bestCell_14 rfl mo_X2_cell ml_X5_43 (hbh hb28 hh) (by decide) rfl rfl (Nat.le_of_ble_eq_true rfl) (Nat.le_of_ble_eq_true rfl) (c_X2_cell (hbh hb28 hh) ?_)
  dsimp only [m_push]
  refine s_istore (n := 19) dX5_bestCell_17 rfl (by decide) rfl rfl ?_
  refine s_aload_n (n := 20) dX5_bestCell_19 rfl rfl rfl ?_
  refine s_iconst (v := -1) (n := 21) dX5_bestCell_20 rfl (by decide) ?_
  refine s_puti (n := 24) dX5_bestCell_21 rfl fl_X5_48 rfl rfl rfl ?_
  refine s_iconst (v := 1) (n := 25) dX5_bestCell_24 rfl (by decide) ?_
  refine s_istore (n := 27) dX5_bestCell_25 rfl (by decide) rfl rfl ?_
  have hfr : m_fr m_scr g (m_up g1 24 1 (-1)) := hfr1.up2 (by decide)
  exact lp_X5_bestCell hK h hh nn hnn _ TT hTT hT9 TT 1 _ _ _ _ none (by omega) (by decide) (hT2.kept (m_up_o (by decide)) (fun i _ => m_up_o (by omega))) ⟨t (15 + h), t (21 + h), by rw [mv_self]; exact hT1.kept (m_up_o (by decide)) (fun i _ => m_up_o (by omega))⟩ (by rw [m_up_k, if_pos rfl]; rfl) (fun v r l e => by cases e) (fun g3 hf3 b3 => hQ _ g3 (hfr.tr hf3) b3)
theorem wn02 {w : Int32} (h : wn w 0 2) : w = 0 ∨ w = 1 ∨ w = 2 := by
  obtain ⟨j, hj, rfl⟩ := wn_ex (n := 2) h rfl
  rcases (show j = 0 ∨ j = 1 ∨ j = 2 by omega) with rfl | rfl | rfl
  · exact Or.inl rfl
  · exact Or.inr (Or.inl rfl)
  · exact Or.inr (Or.inr rfl)
theorem C_site {SL : Nat} {d : Nat} {Q : Option Int32 → m_G → Prop} {g : m_G} {a : a_S} (hA : a_OK a) (hC : C_R g a) (h n w : Int32) (hQ : E_C g a Q (sp_site a h n w)) : Sim SL (d + 7) yX8_site cX8_site 5 (some .int) 0 [.ref 0, .int h, .int n, .int w, .null] [] g Q := by
  unfold E_C sp_site at hQ
  have hT : TW g 28 (a_H a) := hC.2.2.1.2
  refine s_aload_n (n := 1) dX8_site_0 rfl rfl rfl ?_
  refine s_iload_n (n := 2) dX8_site_1 rfl rfl rfl ?_
  refine s_cv1 (n := 5) dX8_site_2 rfl mo_X8_isHouse ml_X8_153 rfl (by decide) rfl rfl (Nat.le_of_ble_eq_true rfl) (Nat.le_of_ble_eq_true rfl) (c_X8_isHouse hT _ (fun hb2 => ?_) (fun hb2 => ?_))
  · dsimp only [m_push]
    refine s_if_eq (n := 8) (t := 27) dX8_site_5 (by decide) rfl (fun h => absurd h (by decide)) (fun _ => ?_)
    refine s_iload_n (n := 9) dX8_site_8 rfl rfl rfl ?_
    refine s_iconst (v := 1) (n := 10) dX8_site_9 rfl (by decide) ?_
    refine s_bipush (v := 20) (n := 12) dX8_site_10 rfl (by decide) ?_
    refine s_cs3 (n := 15) dX8_site_12 rfl mo_X8_within ml_X8_62 rfl (Nat.le_of_ble_eq_true rfl) (Nat.le_of_ble_eq_true rfl) (c_X8_within _ _ _ (fun hb12 => ?_) (fun hb12 => ?_))
    · dsimp only [m_push]
      refine s_if_eq (n := 18) (t := 27) dX8_site_15 (by decide) rfl (fun h => absurd h (by decide)) (fun _ => ?_)
      refine s_iload_n (n := 19) dX8_site_18 rfl rfl rfl ?_
      refine s_iconst (v := 0) (n := 20) dX8_site_19 rfl (by decide) ?_
      refine s_iconst (v := 2) (n := 21) dX8_site_20 rfl (by decide) ?_
      refine s_cs3 (n := 24) dX8_site_21 rfl mo_X8_within ml_X8_62 rfl (Nat.le_of_ble_eq_true rfl) (Nat.le_of_ble_eq_true rfl) (c_X8_within _ _ _ (fun hb21 => ?_) (fun hb21 => ?_))
      · dsimp only [m_push]
        refine s_if_ne (n := 27) (t := 30) dX8_site_24 (by decide) rfl (fun _ => ?_) (fun h => absurd h (by decide))
        obtain ⟨t, hh⟩ := a_hs hA hb2
        have hK := hA.tk hb2
        obtain ⟨TT, hT9, hTT⟩ := wn_ex (x := a_H a 0) (M := 9) (n := 9) ⟨fun q => hK.1.1 (by rw [i32_lt] at *; have := ti0; have : (2 : Int32).toInt = 2 := rfl; omega), hK.1.2⟩ rfl
        have hTp : ¬ TT = 0 := fun z => hK.1.1 (by rw [hTT, z]; decide)
        rw [hTT, nI_clamp (show TT < 2 ^ 31 by omega)] at hQ
        obtain ⟨i, hi, rfl, hci⟩ := isH_ex hA.cnt hb2
        rw [nI_clamp (show i < 2 ^ 31 by omega)] at hQ
        obtain ⟨nn, hnn, rfl⟩ := wn_ex (x := n) (M := 20) (n := 20) ⟨fun q => hb12.1 (by rw [i32_lt] at *; have := ti0; have := ti1; omega), hb12.2⟩ rfl
        rw [nI_clamp (show nn < 2 ^ 31 by omega)] at hQ
        have hsome : stT (a_H a) i nn TT 1 none ≠ none := by
          obtain ⟨m, rfl⟩ : ∃ m, TT = m + 1 := ⟨TT - 1, by omega⟩
          exact stT_some1
        have hok : stOK (stT (a_H a) i nn TT 1 none) := stT_ok (show nn ≤ 60 by omega) TT 1 none (by omega) (fun v r l e => by cases e)
        simp only [if_pos hb2, if_pos hb12, if_pos hb21] at hQ
        refine s_aload_n (n := 31) dX8_site_30 rfl rfl rfl ?_
        refine s_getr (k2 := 24) (n := 34) dX8_site_31 rfl fl_X8_46 rfl rfl rfl ?_
        refine s_aload_n (n := 35) dX8_site_34 rfl rfl rfl ?_
        refine s_getr (k2 := 28) (n := 38) dX8_site_35 rfl fl_X8_25 rfl rfl rfl ?_
        refine s_iload_n (n := 39) dX8_site_38 rfl rfl rfl ?_
        refine s_iload_n (n := 40) dX8_site_39 rfl rfl rfl ?_
        refine s_cv3 (n := 43) dX8_site_40 rfl mo_X5_bestCell ml_X8_240 rfl (by decide) rfl rfl (Nat.le_of_ble_eq_true rfl) (Nat.le_of_ble_eq_true rfl) (c_X5_bestCell hT (by rw [hC.2.2.1.1, hh]; rfl) hK i hi nn (by omega) TT hTT hT9 (fun c g2 hf hB => ?_))
        generalize stT (a_H a) i nn TT 1 none = b at hB hQ hsome hok ⊢
        cases b with
        | none => exact absurd rfl hsome
        | some q =>
          obtain ⟨v, r, l⟩ := q
          have hvl := hok v r l rfl
          dsimp only [bL, bV] at hB ⊢
          dsimp only at hQ
          dsimp only [m_push]
          refine s_istore (n := 45) dX8_site_43 rfl (by decide) rfl rfl ?_
          refine s_iload_n (n := 46) dX8_site_45 rfl rfl rfl ?_
          refine s_iconst (v := 2) (n := 47) dX8_site_46 rfl (by decide) ?_
          refine s_icmp_ne (n := 50) (t := 58) dX8_site_47 (by decide) rfl (fun h47 => ?_) (fun h47 => ?_)
          · refine s_iload_n (n := 59) dX8_site_58 rfl rfl rfl ?_
            refine s_if_ne (n := 62) (t := 70) dX8_site_59 (by decide) rfl (fun h59 => ?_) (fun h59 => ?_)
            · refine s_iload (n := 72) dX8_site_70 rfl rfl ?_
              refine s_bipush (v := 10) (n := 74) dX8_site_72 rfl (by decide) ?_
              refine s_irem (n := 75) dX8_site_74 rfl (by decide) ?_
              first
              | rw [show ire (nI (10 * r + l)) 10 = nI l by unfold ire; rw [show (10 : Int32) = nI 10 from rfl, pk_rem (by omega) (by decide) (by decide)]; congr 1; omega]
              | rw [show nI (10 * r + l) - nI (10 * r + l) / 10 * 10 = nI l by rw [show (10 : Int32) = nI 10 from rfl, pk_rem (by omega) (by decide) (by decide)]; congr 1; omega]
              | skip
              refine s_ireturn dX8_site_75 rfl rfl ?_
              rcases wn02 hb21 with rfl | rfl | rfl
              · first
                | exact hQ g2 (hC.fr hf) (hf.FC (by decide))
                | exact absurd rfl h59
                | exact absurd h47 (by decide)
              · first
                | exact hQ g2 (hC.fr hf) (hf.FC (by decide))
                | exact absurd h59 (by decide)
                | exact absurd h47 (by decide)
              · first
                | exact hQ g2 (hC.fr hf) (hf.FC (by decide))
                | exact absurd rfl h47
            · refine s_iload (n := 64) dX8_site_62 rfl rfl ?_
              refine s_bipush (v := 10) (n := 66) dX8_site_64 rfl (by decide) ?_
              refine s_idiv (n := 67) dX8_site_66 rfl (by decide) ?_
              rw [show nI (10 * r + l) / 10 = nI r by rw [show (10 : Int32) = nI 10 from rfl, pk_div (by omega) (by decide) (by decide)]; congr 1; omega]
              refine s_goto (t := 75) dX8_site_67 (by decide) ?_
              first
              | rw [show ire (nI (10 * r + l)) 10 = nI l by unfold ire; rw [show (10 : Int32) = nI 10 from rfl, pk_rem (by omega) (by decide) (by decide)]; congr 1; omega]
              | rw [show nI (10 * r + l) - nI (10 * r + l) / 10 * 10 = nI l by rw [show (10 : Int32) = nI 10 from rfl, pk_rem (by omega) (by decide) (by decide)]; congr 1; omega]
              | skip
              refine s_ireturn dX8_site_75 rfl rfl ?_
              rcases wn02 hb21 with rfl | rfl | rfl
              · first
                | exact hQ g2 (hC.fr hf) (hf.FC (by decide))
                | exact absurd rfl h59
                | exact absurd h47 (by decide)
              · first
                | exact hQ g2 (hC.fr hf) (hf.FC (by decide))
                | exact absurd h59 (by decide)
                | exact absurd h47 (by decide)
              · first
                | exact hQ g2 (hC.fr hf) (hf.FC (by decide))
                | exact absurd rfl h47
          · refine s_aload_n (n := 51) dX8_site_50 rfl rfl rfl ?_
            refine s_getr (k2 := 24) (n := 54) dX8_site_51 rfl fl_X8_46 rfl rfl rfl ?_
            refine s_geti (n := 57) dX8_site_54 rfl fl_X8_243 rfl rfl ?_
            rw [hB]
            refine s_ireturn dX8_site_57 rfl rfl ?_
            rcases wn02 hb21 with rfl | rfl | rfl
            · first
              | exact hQ g2 (hC.fr hf) (hf.FC (by decide))
              | exact absurd rfl h59
              | exact absurd h47 (by decide)
            · first
              | exact hQ g2 (hC.fr hf) (hf.FC (by decide))
              | exact absurd h59 (by decide)
              | exact absurd h47 (by decide)
            · first
              | exact hQ g2 (hC.fr hf) (hf.FC (by decide))
              | exact absurd rfl h47
      · dsimp only [m_push]
        refine s_if_ne (n := 27) (t := 30) dX8_site_24 (by decide) rfl (fun h => absurd h (by decide)) (fun _ => ?_)
        refine s_ldc (n := 29) dX8_site_27 rfl kc_X8_66 ?_
        refine s_ireturn dX8_site_29 rfl rfl ?_
        simp only [if_pos hb2, if_pos hb12, if_neg hb21] at hQ
        exact hQ g hC F_C.rf
    · dsimp only [m_push]
      refine s_if_eq (n := 18) (t := 27) dX8_site_15 (by decide) rfl (fun _ => ?_) (fun h => absurd h (by decide))
      refine s_ldc (n := 29) dX8_site_27 rfl kc_X8_66 ?_
      refine s_ireturn dX8_site_29 rfl rfl ?_
      simp only [if_pos hb2, if_neg hb12] at hQ
      exact hQ g hC F_C.rf
  · dsimp only [m_push]
    refine s_if_eq (n := 8) (t := 27) dX8_site_5 (by decide) rfl (fun _ => ?_) (fun h => absurd h (by decide))
    refine s_ldc (n := 29) dX8_site_27 rfl kc_X8_66 ?_
    refine s_ireturn dX8_site_29 rfl rfl ?_
    simp only [if_neg hb2] at hQ
    exact hQ g hC F_C.rf
set_option maxHeartbeats 1000000 in
theorem lp_X9_siteLine {SL d : Nat} {Q : Option Int32 → m_G → Prop} {t : m_T} (hK : a_TK t) (h : Nat) (hh : h < 6) (nn : Nat) (hnn : nn ≤ 60) (w : Int32) (r : Nat) (hr1 : 1 ≤ r) (hr9 : r ≤ 9) : ∀ (n l : Nat) (g : m_G) (x9 x10 : Value) (b : stS), l + n = 7 → TM g 0 t → (∃ p q, TQ g (mvT t h p q)) → stOK b → (∀ g2 x9 x10, M_sc g g2 → (∃ p q, TQ g2 (mvT t h p q)) → Sim SL (d + 6) yX9_site cX9_site 11 (some .int) 157 [.ref 78, .int (nI h), .int (nI nn), .int w, .int (bV (stL t h nn r n l b)), .int (bT (stL t h nn r n l b)), .int (bN (stL t h nn r n l b)), .int (nI r), .int (nI 7), x9, x10] [] g2 Q) → Sim SL (d + 6) yX9_site cX9_site 11 (some .int) 65 [.ref 78, .int (nI h), .int (nI nn), .int w, .int (bV b), .int (bT b), .int (bN b), .int (nI r), .int (nI l), x9, x10] [] g Q := by
  intro n
  induction n with
  | zero =>
    intro l g x9 x10 b hin hT hR0 hok hQ
    obtain ⟨p, q, hR⟩ := hR0
    have hl : l = 7 := by omega
    subst hl
    refine s_iload (n := 67) dX9_site_65 rfl rfl ?_
    refine s_bipush (v := 7) (n := 69) dX9_site_67 rfl (by decide) ?_
    refine s_icmp_ge (n := 72) (t := 157) dX9_site_69 (by decide) rfl (fun h69 => ?_) (fun h69 => ?_)
    · exact hQ g _ _ M_sc.rf ⟨p, q, hR⟩
    · exact absurd (by decide) h69
  | succ n ih =>
    intro l g x9 x10 b hin hT hR0 hok hQ
    obtain ⟨p, q, hR⟩ := hR0
    have hl7 : l < 7 := by omega
    unfold stL at hQ
    refine s_iload (n := 67) dX9_site_65 rfl rfl ?_
    refine s_bipush (v := 7) (n := 69) dX9_site_67 rfl (by decide) ?_
    refine s_icmp_ge (n := 72) (t := 157) dX9_site_69 (by decide) rfl (fun h69 => ?_) (fun h69 => ?_)
    · exact absurd h69 (nI_ge hl7 (by decide))
    · refine s_aload_n (n := 73) dX9_site_72 rfl rfl rfl ?_
      refine s_iconst (v := 0) (n := 74) dX9_site_73 rfl (by decide) ?_
      refine s_iload (n := 76) dX9_site_74 rfl rfl ?_
      refine s_iload (n := 78) dX9_site_76 rfl rfl ?_
      refine s_cv3 (n := 81) dX9_site_78 rfl mo_X9_houseAt ml_X9_124 rfl (by decide) rfl rfl (Nat.le_of_ble_eq_true rfl) (Nat.le_of_ble_eq_true rfl) (c_X9_houseAt (b := 0) (by decide) hT hK.t1 _ _ ?_)
      dsimp only [m_push]
      refine s_istore (n := 83) dX9_site_81 rfl (by decide) rfl rfl ?_
      refine s_aload_n (n := 84) dX9_site_83 rfl rfl rfl ?_
      refine s_getr (k2 := 79) (n := 87) dX9_site_84 rfl fl_X9_7 rfl rfl rfl ?_
      refine s_sipush (v := 1068) (n := 90) dX9_site_87 rfl (by decide) ?_
      refine s_iload_n (n := 91) dX9_site_90 rfl rfl rfl ?_
      refine s_iadd (n := 92) dX9_site_91 rfl ?_
      refine s_iload (n := 94) dX9_site_92 rfl rfl ?_
      refine s_iastore (1053 + (15 + h)) (n := 95) dX9_site_94 rfl rfl ((ix2m (c := 1068) rfl).trans (congrArg nI (by omega))) (by omega) ?_
      refine s_aload_n (n := 96) dX9_site_95 rfl rfl rfl ?_
      refine s_getr (k2 := 79) (n := 99) dX9_site_96 rfl fl_X9_7 rfl rfl rfl ?_
      refine s_sipush (v := 1074) (n := 102) dX9_site_99 rfl (by decide) ?_
      refine s_iload_n (n := 103) dX9_site_102 rfl rfl rfl ?_
      refine s_iadd (n := 104) dX9_site_103 rfl ?_
      refine s_iload (n := 106) dX9_site_104 rfl rfl ?_
      refine s_iastore (1053 + (21 + h)) (n := 107) dX9_site_106 rfl rfl ((ix2m (c := 1074) rfl).trans (congrArg nI (by omega))) (by omega) ?_
      have hU2 : TQ (m_up (m_up g 79 (1053 + (15 + h)) (nI r)) 79 (1053 + (21 + h)) (nI l)) (mvT t h (nI r) (nI l)) := by
        have := (hR.tj (15 + h) (nI r)).tj (21 + h) (nI l)
        rw [mv_mv] at this
        exact this
      have hK2 := hK.mv hh (wn19 hr1 hr9) (wn06 (show l ≤ 6 by omega))
      have hsU : M_sc g (m_up (m_up g 79 (1053 + (15 + h)) (nI r)) 79 (1053 + (21 + h)) (nI l)) := (M_sc.t (by omega)).tr (M_sc.t (by omega))
      have hy7 : (m_up (m_up g 79 (1053 + (15 + h)) (nI r)) 79 (1053 + (21 + h)) (nI l)) 79 7 = t 7 := by rw [hsU.2.2 7 (by decide)]; exact hT.z (by decide)
      refine s_iload (n := 109) dX9_site_107 rfl rfl ?_
      refine s_ldc (n := 111) dX9_site_109 rfl kc_X9_128 ?_
      refine s_icmp_eq (n := 114) (t := 120) dX9_site_111 (by decide) rfl (fun h111 => ?_) (fun h111 => ?_)
      · have hfree : stO t h r l := by
          first
          | exact Or.inl ((eM_none sAt6).mp h111)
          | exact Or.inr ((eM_eq hh sAt6).mp h117)
        refine s_aload_n (n := 121) dX9_site_120 rfl rfl rfl ?_
        refine s_iload_n (n := 122) dX9_site_121 rfl rfl rfl ?_
        refine s_iload_n (n := 123) dX9_site_122 rfl rfl rfl ?_
        refine s_cv2 (n := 126) dX9_site_123 rfl mo_X9_oftenTried ml_X9_214 rfl (by decide) rfl rfl (Nat.le_of_ble_eq_true rfl) (Nat.le_of_ble_eq_true rfl) (c_X9_oftenTried hK2 h hh nn hnn hy7 hU2 (fun g2 hs2 hU3 => ?_))
        have hfr := hsU.tr hs2
        have hv60 : stV t h nn r l ≤ 60 := Nat.le_trans (cnF_le _ _) hnn
        dsimp only [m_push]
        refine s_goto (t := 130) dX9_site_126 (by decide) ?_
        refine s_istore (n := 132) dX9_site_130 rfl (by decide) rfl rfl ?_
        refine s_iload (n := 134) dX9_site_132 rfl rfl ?_
        refine s_iload (n := 136) dX9_site_134 rfl rfl ?_
        refine s_icmp_le (n := 139) (t := 151) dX9_site_136 (by decide) rfl (fun h136 => ?_) (fun h136 => ?_)
        · refine s_iinc (n := 154) (v := nI (l + 1)) dX9_site_151 rfl (by decide) rfl rfl (nI_1 l) rfl ?_
          refine s_goto (t := 65) dX9_site_154 (by decide) ?_
          rw [if_neg (fun q => (bV_le hv60 hok).mp h136 q.2)] at hQ
          exact ih (l + 1) g2 _ _ b (by omega) (hfr.m0 hT) ⟨_, _, hU3⟩ hok (fun g3 x y hs3 e3 => hQ g3 x y (hfr.tr hs3) e3)
        · refine s_iload (n := 141) dX9_site_139 rfl rfl ?_
          refine s_istore (n := 143) dX9_site_141 rfl (by decide) rfl rfl ?_
          refine s_iload (n := 145) dX9_site_143 rfl rfl ?_
          refine s_istore (n := 147) dX9_site_145 rfl (by decide) rfl rfl ?_
          refine s_iload (n := 149) dX9_site_147 rfl rfl ?_
          refine s_istore (n := 151) dX9_site_149 rfl (by decide) rfl rfl ?_
          refine s_iinc (n := 154) (v := nI (l + 1)) dX9_site_151 rfl (by decide) rfl rfl (nI_1 l) rfl ?_
          refine s_goto (t := 65) dX9_site_154 (by decide) ?_
          have hy : stB (stV t h nn r l) b = true := by
            cases hq : stB (stV t h nn r l) b with
            | true => rfl
            | false => exact absurd ((bV_le hv60 hok).mpr (by rw [hq]; decide)) h136
          rw [if_pos ⟨hfree, hy⟩] at hQ
          exact ih (l + 1) g2 _ _ (some (stV t h nn r l, r, l)) (by omega) (hfr.m0 hT) ⟨_, _, hU3⟩ (fun v r2 l2 e => by cases e; exact ⟨hv60, hr9, by omega⟩) (fun g3 x y hs3 e3 => hQ g3 x y (hfr.tr hs3) e3)
      · refine s_iload (n := 116) dX9_site_114 rfl rfl ?_
        refine s_iload_n (n := 117) dX9_site_116 rfl rfl rfl ?_
        refine s_icmp_ne (n := 120) (t := 129) dX9_site_117 (by decide) rfl (fun h117 => ?_) (fun h117 => ?_)
        · refine s_iconst (v := -1) (n := 130) dX9_site_129 rfl (by decide) ?_
          refine s_istore (n := 132) dX9_site_130 rfl (by decide) rfl rfl ?_
          refine s_iload (n := 134) dX9_site_132 rfl rfl ?_
          refine s_iload (n := 136) dX9_site_134 rfl rfl ?_
          refine s_icmp_le (n := 139) (t := 151) dX9_site_136 (by decide) rfl (fun h136 => ?_) (fun h136 => ?_)
          · refine s_iinc (n := 154) (v := nI (l + 1)) dX9_site_151 rfl (by decide) rfl rfl (nI_1 l) rfl ?_
            refine s_goto (t := 65) dX9_site_154 (by decide) ?_
            have hno : ¬ stO t h r l := fun q => q.elim (fun z => h111 ((eM_none sAt6).mpr z)) (fun z => h117 ((eM_eq hh sAt6).mpr z))
            rw [if_neg (fun q => hno q.1)] at hQ
            exact ih (l + 1) _ _ _ b (by omega) (hsU.m0 hT) ⟨_, _, hU2⟩ hok (fun g3 x y hs3 e3 => hQ g3 x y (hsU.tr hs3) e3)
          · exact absurd (bV_m1 hok) h136
        · have hfree : stO t h r l := by
            first
            | exact Or.inl ((eM_none sAt6).mp h111)
            | exact Or.inr ((eM_eq hh sAt6).mp h117)
          refine s_aload_n (n := 121) dX9_site_120 rfl rfl rfl ?_
          refine s_iload_n (n := 122) dX9_site_121 rfl rfl rfl ?_
          refine s_iload_n (n := 123) dX9_site_122 rfl rfl rfl ?_
          refine s_cv2 (n := 126) dX9_site_123 rfl mo_X9_oftenTried ml_X9_214 rfl (by decide) rfl rfl (Nat.le_of_ble_eq_true rfl) (Nat.le_of_ble_eq_true rfl) (c_X9_oftenTried hK2 h hh nn hnn hy7 hU2 (fun g2 hs2 hU3 => ?_))
          have hfr := hsU.tr hs2
          have hv60 : stV t h nn r l ≤ 60 := Nat.le_trans (cnF_le _ _) hnn
          dsimp only [m_push]
          refine s_goto (t := 130) dX9_site_126 (by decide) ?_
          refine s_istore (n := 132) dX9_site_130 rfl (by decide) rfl rfl ?_
          refine s_iload (n := 134) dX9_site_132 rfl rfl ?_
          refine s_iload (n := 136) dX9_site_134 rfl rfl ?_
          refine s_icmp_le (n := 139) (t := 151) dX9_site_136 (by decide) rfl (fun h136 => ?_) (fun h136 => ?_)
          · refine s_iinc (n := 154) (v := nI (l + 1)) dX9_site_151 rfl (by decide) rfl rfl (nI_1 l) rfl ?_
            refine s_goto (t := 65) dX9_site_154 (by decide) ?_
            rw [if_neg (fun q => (bV_le hv60 hok).mp h136 q.2)] at hQ
            exact ih (l + 1) g2 _ _ b (by omega) (hfr.m0 hT) ⟨_, _, hU3⟩ hok (fun g3 x y hs3 e3 => hQ g3 x y (hfr.tr hs3) e3)
          · refine s_iload (n := 141) dX9_site_139 rfl rfl ?_
            refine s_istore (n := 143) dX9_site_141 rfl (by decide) rfl rfl ?_
            refine s_iload (n := 145) dX9_site_143 rfl rfl ?_
            refine s_istore (n := 147) dX9_site_145 rfl (by decide) rfl rfl ?_
            refine s_iload (n := 149) dX9_site_147 rfl rfl ?_
            refine s_istore (n := 151) dX9_site_149 rfl (by decide) rfl rfl ?_
            refine s_iinc (n := 154) (v := nI (l + 1)) dX9_site_151 rfl (by decide) rfl rfl (nI_1 l) rfl ?_
            refine s_goto (t := 65) dX9_site_154 (by decide) ?_
            have hy : stB (stV t h nn r l) b = true := by
              cases hq : stB (stV t h nn r l) b with
              | true => rfl
              | false => exact absurd ((bV_le hv60 hok).mpr (by rw [hq]; decide)) h136
            rw [if_pos ⟨hfree, hy⟩] at hQ
            exact ih (l + 1) g2 _ _ (some (stV t h nn r l, r, l)) (by omega) (hfr.m0 hT) ⟨_, _, hU3⟩ (fun v r2 l2 e => by cases e; exact ⟨hv60, hr9, by omega⟩) (fun g3 x y hs3 e3 => hQ g3 x y (hfr.tr hs3) e3)
theorem lp_X9_site {SL d : Nat} {Q : Option Int32 → m_G → Prop} {t : m_T} (hK : a_TK t) (h : Nat) (hh : h < 6) (nn : Nat) (hnn : nn ≤ 60) (w : Int32) (hw : wn w 0 2) (TT : Nat) (hTT : t 0 = nI TT) (hT9 : TT ≤ 9) : ∀ (n r : Nat) (g : m_G) (x8 x9 x10 : Value) (b : stS), r + n = TT + 1 → 1 ≤ r → TM g 0 t → (∃ p q, TQ g (mvT t h p q)) → stOK b → (∀ g2, M_sc g g2 → Q (some (if w = 0 then bT (stT t h nn n r b) else if w = 1 then bN (stT t h nn n r b) else bV (stT t h nn n r b))) g2) → Sim SL (d + 6) yX9_site cX9_site 11 (some .int) 51 [.ref 78, .int (nI h), .int (nI nn), .int w, .int (bV b), .int (bT b), .int (bN b), .int (nI r), x8, x9, x10] [] g Q := by
  intro n
  induction n with
  | zero =>
    intro r g x8 x9 x10 b hin hr1 hT hR hok hQ
    refine s_iload (n := 53) dX9_site_51 rfl rfl ?_
    refine s_aload_n (n := 54) dX9_site_53 rfl rfl rfl ?_
    refine s_getr (k2 := 79) (n := 57) dX9_site_54 rfl fl_X9_7 rfl rfl rfl ?_
    refine s_iconst (v := 0) (n := 58) dX9_site_57 rfl (by decide) ?_
    refine s_iaload 0 (n := 59) dX9_site_58 rfl rfl rfl (by decide) ?_
    rw [hT.z (by decide), hTT]
    refine s_icmp_gt (n := 62) (t := 163) dX9_site_59 (by decide) rfl (fun h59 => ?_) (fun h59 => ?_)
    · refine s_iload_n (n := 164) dX9_site_163 rfl rfl rfl ?_
      refine s_if_ne (n := 167) (t := 172) dX9_site_164 (by decide) rfl (fun h164 => ?_) (fun h164 => ?_)
      · refine s_iload_n (n := 173) dX9_site_172 rfl rfl rfl ?_
        refine s_iconst (v := 1) (n := 174) dX9_site_173 rfl (by decide) ?_
        refine s_icmp_ne (n := 177) (t := 182) dX9_site_174 (by decide) rfl (fun h174 => ?_) (fun h174 => ?_)
        · refine s_iload (n := 184) dX9_site_182 rfl rfl ?_
          refine s_ireturn dX9_site_184 rfl rfl ?_
          have hh9 := hQ g M_sc.rf
          rcases wn02 hw with rfl | rfl | rfl
          · first
            | exact hh9
            | exact absurd rfl h164
          · first
            | exact hh9
            | exact absurd h164 (by decide)
            | exact absurd rfl h174
          · first
            | exact hh9
            | exact absurd h164 (by decide)
            | exact absurd h174 (by decide)
        · refine s_iload (n := 179) dX9_site_177 rfl rfl ?_
          refine s_goto (t := 184) dX9_site_179 (by decide) ?_
          refine s_ireturn dX9_site_184 rfl rfl ?_
          have hh9 := hQ g M_sc.rf
          rcases wn02 hw with rfl | rfl | rfl
          · first
            | exact hh9
            | exact absurd rfl h164
          · first
            | exact hh9
            | exact absurd h164 (by decide)
            | exact absurd rfl h174
          · first
            | exact hh9
            | exact absurd h164 (by decide)
            | exact absurd h174 (by decide)
      · refine s_iload (n := 169) dX9_site_167 rfl rfl ?_
        refine s_goto (t := 184) dX9_site_169 (by decide) ?_
        refine s_ireturn dX9_site_184 rfl rfl ?_
        have hh9 := hQ g M_sc.rf
        rcases wn02 hw with rfl | rfl | rfl
        · first
          | exact hh9
          | exact absurd rfl h164
        · first
          | exact hh9
          | exact absurd h164 (by decide)
          | exact absurd rfl h174
        · first
          | exact hh9
          | exact absurd h164 (by decide)
          | exact absurd h174 (by decide)
    · exact absurd (nI_gt (show TT < r by omega) (by omega)) h59
  | succ n ih =>
    intro r g x8 x9 x10 b hin hr1 hT hR hok hQ
    refine s_iload (n := 53) dX9_site_51 rfl rfl ?_
    refine s_aload_n (n := 54) dX9_site_53 rfl rfl rfl ?_
    refine s_getr (k2 := 79) (n := 57) dX9_site_54 rfl fl_X9_7 rfl rfl rfl ?_
    refine s_iconst (v := 0) (n := 58) dX9_site_57 rfl (by decide) ?_
    refine s_iaload 0 (n := 59) dX9_site_58 rfl rfl rfl (by decide) ?_
    rw [hT.z (by decide), hTT]
    refine s_icmp_gt (n := 62) (t := 163) dX9_site_59 (by decide) rfl (fun h59 => ?_) (fun h59 => ?_)
    · exact absurd h59 (nI_nlt (show r ≤ TT by omega) (by omega))
    · refine s_iconst (v := 0) (n := 63) dX9_site_62 rfl (by decide) ?_
      refine s_istore (n := 65) dX9_site_63 rfl (by decide) rfl rfl ?_
      unfold stT at hQ
      refine lp_X9_siteLine hK h hh nn hnn w r hr1 (by omega) 7 0 g _ _ b rfl hT hR hok (fun g2 x9 x10 hs hp => ?_)
      refine s_iinc (n := 160) (v := nI (r + 1)) dX9_site_157 rfl (by decide) rfl rfl (nI_1 r) rfl ?_
      refine s_goto (t := 51) dX9_site_160 (by decide) ?_
      exact ih (r + 1) g2 _ _ _ _ (by omega) (by omega) (hs.m0 hT) hp (stL_ok (by omega) hnn 7 0 b (by decide) hok) (fun g3 hs3 => hQ g3 (hs.tr hs3))
theorem M_site {SL : Nat} {d : Nat} {Q : Option Int32 → m_G → Prop} {g : m_G} {a : a_S} (hA : a_OK a) (hM : M_R g a) (h n w : Int32) (hQ : E_M g a Q (sp_site a h n w)) : Sim SL (d + 7) yX9_site cX9_site 11 (some .int) 0 [.ref 78, .int h, .int n, .int w, .null, .null, .null, .null, .null, .null, .null] [] g Q := by
  unfold E_M sp_site at hQ
  have hT : TM g 0 (a_H a) := hM.2.2.1.2
  refine s_aload_n (n := 1) dX9_site_0 rfl rfl rfl ?_
  refine s_iload_n (n := 2) dX9_site_1 rfl rfl rfl ?_
  refine s_cv1 (n := 5) dX9_site_2 rfl mo_X9_isHouse ml_X9_193 rfl (by decide) rfl rfl (Nat.le_of_ble_eq_true rfl) (Nat.le_of_ble_eq_true rfl) (c_X9_isHouse hT _ (fun hb2 => ?_) (fun hb2 => ?_))
  · dsimp only [m_push]
    refine s_if_eq (n := 8) (t := 32) dX9_site_5 (by decide) rfl (fun h => absurd h (by decide)) (fun _ => ?_)
    refine s_iload_n (n := 9) dX9_site_8 rfl rfl rfl ?_
    refine s_i2l (n := 10) dX9_site_9 rfl ?_
    refine s_lconst (v := 1) (n := 11) dX9_site_10 rfl (by decide) ?_
    refine s_ldc2 (n := 14) dX9_site_11 rfl kc_X9_227 ?_
    refine s_cs3 (n := 17) dX9_site_14 rfl mo_X9_in ml_X9_60 rfl (Nat.le_of_ble_eq_true rfl) (Nat.le_of_ble_eq_true rfl) (c_X9_in (1) (20) rfl (by decide) (by decide) (fun hb14 => ?_) (fun hb14 => ?_))
    · dsimp only [m_push]
      refine s_if_eq (n := 20) (t := 32) dX9_site_17 (by decide) rfl (fun h => absurd h (by decide)) (fun _ => ?_)
      refine s_iload_n (n := 21) dX9_site_20 rfl rfl rfl ?_
      refine s_i2l (n := 22) dX9_site_21 rfl ?_
      refine s_lconst (v := 0) (n := 23) dX9_site_22 rfl (by decide) ?_
      refine s_ldc2 (n := 26) dX9_site_23 rfl kc_X9_68 ?_
      refine s_cs3 (n := 29) dX9_site_26 rfl mo_X9_in ml_X9_60 rfl (Nat.le_of_ble_eq_true rfl) (Nat.le_of_ble_eq_true rfl) (c_X9_in (0) (2) rfl (by decide) (by decide) (fun hb26 => ?_) (fun hb26 => ?_))
      · dsimp only [m_push]
        refine s_if_ne (n := 32) (t := 35) dX9_site_29 (by decide) rfl (fun _ => ?_) (fun h => absurd h (by decide))
        have hK := hA.tk hb2
        obtain ⟨TT, hT9, hTT⟩ := wn_ex (x := a_H a 0) (M := 9) (n := 9) ⟨fun q => hK.1.1 (by rw [i32_lt] at *; have := ti0; have : (2 : Int32).toInt = 2 := rfl; omega), hK.1.2⟩ rfl
        have hTp : ¬ TT = 0 := fun z => hK.1.1 (by rw [hTT, z]; decide)
        rw [hTT, nI_clamp (show TT < 2 ^ 31 by omega)] at hQ
        obtain ⟨i, hi, rfl, hci⟩ := isH_ex hA.cnt hb2
        rw [nI_clamp (show i < 2 ^ 31 by omega)] at hQ
        obtain ⟨nn, hnn, rfl⟩ := wn_ex (x := n) (M := 20) (n := 20) ⟨fun q => hb14.1 (by rw [i32_lt] at *; have := ti0; have := ti1; omega), hb14.2⟩ rfl
        rw [nI_clamp (show nn < 2 ^ 31 by omega)] at hQ
        have hsome : stT (a_H a) i nn TT 1 none ≠ none := by
          obtain ⟨m, rfl⟩ : ∃ m, TT = m + 1 := ⟨TT - 1, by omega⟩
          exact stT_some1
        have hok : stOK (stT (a_H a) i nn TT 1 none) := stT_ok (show nn ≤ 60 by omega) TT 1 none (by omega) (fun v r l e => by cases e)
        simp only [if_pos hb2, if_pos hb14, if_pos hb26] at hQ
        refine s_iconst (v := -1) (n := 36) dX9_site_35 rfl (by decide) ?_
        refine s_istore (n := 38) dX9_site_36 rfl (by decide) rfl rfl ?_
        refine s_iconst (v := 0) (n := 39) dX9_site_38 rfl (by decide) ?_
        refine s_istore (n := 41) dX9_site_39 rfl (by decide) rfl rfl ?_
        refine s_iconst (v := 0) (n := 42) dX9_site_41 rfl (by decide) ?_
        refine s_istore (n := 44) dX9_site_42 rfl (by decide) rfl rfl ?_
        refine s_aload_n (n := 45) dX9_site_44 rfl rfl rfl ?_
        refine s_cv0 (n := 48) dX9_site_45 rfl mo_X9_layTried ml_X9_208 rfl (by decide) rfl rfl (Nat.le_of_ble_eq_true rfl) (Nat.le_of_ble_eq_true rfl) (c_X9_layTried hT (fun g1 hf1 hL1 hL2 => ?_))
        have hs1 := M_sc.lay hf1 hL2
        dsimp only [m_push]
        refine s_iconst (v := 1) (n := 49) dX9_site_48 rfl (by decide) ?_
        refine s_istore (n := 51) dX9_site_49 rfl (by decide) rfl rfl ?_
        exact lp_X9_site hK i hi nn (by omega) w hb26 TT hTT hT9 TT 1 g1 _ _ _ none (by omega) (by decide) (hs1.m0 hT) ⟨a_H a (15 + i), a_H a (21 + i), by rw [mv_self]; exact hL1.q⟩ (fun v r l e => by cases e) (fun g3 hs3 => by
          have := hQ g3 (hM.sc (hs1.tr hs3)) (hs1.tr hs3).FM
          generalize stT (a_H a) i nn TT 1 none = b at this hsome ⊢
          cases b with
          | none => exact absurd rfl hsome
          | some q => exact this)
      · dsimp only [m_push]
        refine s_if_ne (n := 32) (t := 35) dX9_site_29 (by decide) rfl (fun h => absurd h (by decide)) (fun _ => ?_)
        refine s_ldc (n := 34) dX9_site_32 rfl kc_X9_70 ?_
        refine s_ireturn dX9_site_34 rfl rfl ?_
        simp only [if_pos hb2, if_pos hb14, if_neg hb26] at hQ
        exact hQ g hM F_M.rf
    · dsimp only [m_push]
      refine s_if_eq (n := 20) (t := 32) dX9_site_17 (by decide) rfl (fun _ => ?_) (fun h => absurd h (by decide))
      refine s_ldc (n := 34) dX9_site_32 rfl kc_X9_70 ?_
      refine s_ireturn dX9_site_34 rfl rfl ?_
      simp only [if_pos hb2, if_neg hb14] at hQ
      exact hQ g hM F_M.rf
  · dsimp only [m_push]
    refine s_if_eq (n := 8) (t := 32) dX9_site_5 (by decide) rfl (fun _ => ?_) (fun h => absurd h (by decide))
    refine s_ldc (n := 34) dX9_site_32 rfl kc_X9_70 ?_
    refine s_ireturn dX9_site_34 rfl rfl ?_
    simp only [if_neg hb2] at hQ
    exact hQ g hM F_M.rf
