/-! ===== what is foretold does not hang on the year of the tried town ===== -/
theorem sAtF_u7 (u : m_T) (v a b : Int32) : ∀ (n i : Nat), sAtF (upd u 7 v) a b n i = sAtF u a b n i
  | 0, _ => rfl
  | n + 1, i => by
    unfold sAtF
    rw [upd_ne (show (1 : Nat) ≠ 7 by decide), upd_ne (show 15 + i ≠ 7 by omega), upd_ne (show 21 + i ≠ 7 by omega), sAtF_u7 u v a b n (i + 1)]
theorem sGo_u7 (u : m_T) (v : Int32) : ∀ (n i : Nat) (ln sp : Int32) (Ls : Nat → Int32), sGo (upd u 7 v) n i ln sp Ls = sGo u n i ln sp Ls
  | 0, _, _, _, _ => rfl
  | n + 1, i, ln, sp, Ls => by
    have e1 : sSt (upd u 7 v) i ln = sSt u i ln := by unfold sSt; rw [upd_ne (by decide), upd_ne (by decide)]
    have e2 : ∀ a b, sAt (upd u 7 v) a b = sAt u a b := fun a b => sAtF_u7 u v a b 6 0
    unfold sGo
    rw [e1, e2, upd_ne (show (0 : Nat) ≠ 7 by decide)]
    cases sAt u (nI i) (sSt u i ln) with
    | none => dsimp only; rw [sGo_u7 u v n]
    | some h => dsimp only; rw [upd_ne (show 9 + h ≠ 7 by omega), upd_ne (show (8 : Nat) ≠ 7 by decide), sGo_u7 u v n]
theorem sRun_u7 (u : m_T) (v x : Int32) : sRun (upd u 7 v) x = sRun u x := by
  unfold sRun; rw [sGo_u7, upd_ne (by decide)]
def sR (u : m_T) (y d : Int32) : Option Nat := (sRun u (ire (u 2 + u 3 * (y + d)) 7)).1
theorem sRest_sR (t : m_T) (d : Int32) : sRest t d = sR t (t 7) d := rfl
theorem sR6 {u : m_T} {y d : Int32} : ∀ i, sR u y d = some i → i < 6 := sRun6
def TQ (g : m_G) (u : m_T) : Prop := ∀ j, j < 39 → j ≠ 7 → g 79 (1053 + j) = u j
theorem TM.q {g : m_G} {u : m_T} (h : TM g 1053 u) : TQ g u := fun j hj _ => h j hj
theorem TQ.tm {g : m_G} {u : m_T} (h : TQ g u) (v : Int32) : TM (m_up g 79 1060 v) 1053 (upd u 7 v) := fun j hj => by
  rw [m_up_k]; unfold upd
  by_cases e : j = 7
  · subst e; rfl
  · rw [if_neg (by omega), if_neg e]; exact h j hj e
theorem M_sc.t {g : m_G} {j : Nat} {v : Int32} (hj : 1053 ≤ j) : M_sc g (m_up g 79 j v) := ⟨m_fr.up (by decide), fun i _ _ _ _ => by rw [m_up_o (by decide)], fun i hi => by rw [m_up_k, if_neg (by omega)]⟩
theorem M_sc.lay {g g2 : m_G} (hf : m_fr [79] g g2) (h : ∀ q, q < 1053 → g2 79 q = g 79 q) : M_sc g g2 := ⟨hf.mono (by decide), fun j _ _ _ _ => by rw [hf 78 (by decide)], h⟩
theorem sGo_ls {t : m_T} : ∀ (n i : Nat) (ln sp : Int32) (Ls : Nat → Int32), wn ln 0 6 → (∀ j, j < i → wn (Ls j) 0 6) → (∀ j, i ≤ j → Ls j = -1) → i ≤ (sGo t n i ln sp Ls).2.2.1 ∧ (∀ j, j < (sGo t n i ln sp Ls).2.2.1 → wn ((sGo t n i ln sp Ls).2.1 j) 0 6) ∧ ∀ j, (sGo t n i ln sp Ls).2.2.1 ≤ j → (sGo t n i ln sp Ls).2.1 j = -1
  | 0, i, ln, sp, Ls, _, h1, h2 => ⟨Nat.le_refl _, h1, h2⟩
  | n + 1, i, ln, sp, Ls, hw, h1, h2 => by
    have hst : wn (sSt t i ln) 0 6 := by
      unfold sSt; split
      · exact clp_wn _
      · exact hw
    have hup : ∀ v, wn v 0 6 → (∀ j, j < i + 1 → wn (upd Ls i v j) 0 6) ∧ ∀ j, i + 1 ≤ j → upd Ls i v j = -1 := by
      intro v hv
      refine ⟨fun j hj => ?_, fun j hj => ?_⟩
      · by_cases e : j = i
        · subst e; rw [upd_eq]; exact hv
        · rw [upd_ne e]; exact h1 j (by omega)
      · rw [upd_ne (by omega)]; exact h2 j (by omega)
    unfold sGo
    split
    · exact ⟨Nat.le_refl _, h1, h2⟩
    · cases sAt t (nI i) (sSt t i ln) with
      | none =>
        dsimp only
        obtain ⟨q1, q2, q3⟩ := sGo_ls n (i + 1) _ sp _ hst (hup _ hst).1 (hup _ hst).2
        exact ⟨by omega, q2, q3⟩
      | some h =>
        dsimp only
        split
        · exact ⟨Nat.le_succ _, (hup _ hst).1, (hup _ hst).2⟩
        · split
          · exact ⟨Nat.le_succ _, (hup _ (clp_wn _)).1, (hup _ (clp_wn _)).2⟩
          · obtain ⟨q1, q2, q3⟩ := sGo_ls n (i + 1) _ (sp - sSlow (t (9 + h)) (bt (t 8) (nI h))) _ (clp_wn _) (hup _ (clp_wn (sSt t i ln + sTurn (t (9 + h)) (bt (t 8) (nI h)) (nI i)))).1 (hup _ (clp_wn _)).2
            exact ⟨by omega, q2, q3⟩
theorem sRun_ls {t : m_T} {x : Int32} (hw : wn x 0 6) : 1 ≤ (sRun t x).2.2.1 ∧ (∀ j, j < (sRun t x).2.2.1 → wn ((sRun t x).2.1 j) 0 6) ∧ ∀ j, (sRun t x).2.2.1 ≤ j → (sRun t x).2.1 j = -1 :=
  sGo_ls 9 1 x (t 4) _ hw (fun j hj => by rw [show j = 0 by omega]; exact hw) (fun j hj => if_neg (by omega))
theorem eC_eq {o : Option Nat} {h : Nat} (hh : h < 6) (ho : ∀ i, o = some i → i < 6) : eC o = nI h ↔ o = some h := by
  cases o with
  | none =>
    refine ⟨fun q => ?_, fun q => by cases q⟩
    have q2 : (-1 : Int32) = nI h := q
    rw [i32_eq, nI_toInt (by omega)] at q2
    have : (-1 : Int32).toInt = -1 := rfl
    omega
  | some i =>
    have hi := ho i rfl
    show nI i = nI h ↔ _
    rw [nI_eq (by omega) (by omega)]
    exact ⟨fun q => by rw [q], fun q => by cases q; rfl⟩
theorem eM_eq {o : Option Nat} {h : Nat} (hh : h < 6) (ho : ∀ i, o = some i → i < 6) : eM o = nI h ↔ o = some h := by
  cases o with
  | none => exact ⟨fun q => absurd q.symm (eM_ne hh), fun q => by cases q⟩
  | some i =>
    have hi := ho i rfl
    show nI i = nI h ↔ _
    rw [nI_eq (by omega) (by omega)]
    exact ⟨fun q => by rw [q], fun q => by cases q; rfl⟩
theorem c_X9_restsIn {SL : Nat} {d : Nat} {Q : Option Int32 → m_G → Prop} {g : m_G} {u : m_T} {y : Int32} (hy : g 79 7 = y) (hti : u 0 ≤ 9) (hc : u 1 ≤ 6) (hev : ¬ u 6 ≤ 0) (hkk : tKD u) (hsp : ¬ u 4 ≤ 0) (hU : TQ g u) (d9 : Int32) (hQ : ∀ g2, M_sc g g2 → TQ g2 u → (∀ j, j < 10 → g2 89 j = (sRun u (ire (u 2 + u 3 * (y + d9)) 7)).2.1 j) → g2 78 20 = sL (sRun u (ire (u 2 + u 3 * (y + d9)) 7)).2.2.2 → Q (some (eM (sR u y d9))) g2) : Sim SL (d + 4) yX9_restsIn cX9_restsIn 2 (some .int) 0 [.ref 78, .int d9] [] g Q := by
  refine s_aload_n (n := 1) dX9_restsIn_0 rfl rfl rfl ?_
  refine s_getr (k2 := 79) (n := 4) dX9_restsIn_1 rfl fl_X9_7 rfl rfl rfl ?_
  refine s_sipush (v := 1060) (n := 7) dX9_restsIn_4 rfl (by decide) ?_
  refine s_aload_n (n := 8) dX9_restsIn_7 rfl rfl rfl ?_
  refine s_getr (k2 := 79) (n := 11) dX9_restsIn_8 rfl fl_X9_7 rfl rfl rfl ?_
  refine s_bipush (v := 7) (n := 13) dX9_restsIn_11 rfl (by decide) ?_
  refine s_iaload 7 (n := 14) dX9_restsIn_13 rfl rfl rfl (by decide) ?_
  rw [hy]
  refine s_iload_n (n := 15) dX9_restsIn_14 rfl rfl rfl ?_
  refine s_iadd (n := 16) dX9_restsIn_15 rfl ?_
  refine s_iastore 1060 (n := 17) dX9_restsIn_16 rfl rfl rfl (by decide) ?_
  have hT := hU.tm (y + d9)
  have e0 : (upd u 7 (y + d9)) 0 = u 0 := upd_ne (by decide)
  have e1 : (upd u 7 (y + d9)) 1 = u 1 := upd_ne (by decide)
  have e4 : (upd u 7 (y + d9)) 4 = u 4 := upd_ne (by decide)
  have e6 : (upd u 7 (y + d9)) 6 = u 6 := upd_ne (by decide)
  have ek : tKD (upd u 7 (y + d9)) := fun h hh hcc => by rw [upd_ne (by omega)]; rw [e1] at hcc; exact hkk h hh hcc
  refine s_aload_n (n := 18) dX9_restsIn_17 rfl rfl rfl ?_
  refine s_sipush (v := 1053) (n := 21) dX9_restsIn_18 rfl (by decide) ?_
  refine s_cv1 (n := 24) dX9_restsIn_21 rfl mo_X9_rollsNow ml_X9_182 rfl (by decide) rfl rfl (Nat.le_of_ble_eq_true rfl) (Nat.le_of_ble_eq_true rfl) (c_X9_rollsNow (b := 1053) (by decide) rfl hT (by rw [e0]; exact hti) (by rw [e1]; exact hc) (by rw [e6]; exact hev) ek (by rw [e4]; exact hsp) (fun g2 w1 w2 w3 => ?_))
  dsimp only [m_push]
  refine s_ireturn dX9_restsIn_24 rfl rfl ?_
  have ex : sTop (upd u 7 (y + d9)) 0 = ire (u 2 + u 3 * (y + d9)) 7 := by
    unfold sTop
    rw [upd_ne (by decide), upd_ne (by decide), upd_eq, Int32.add_zero]
  rw [ex, sRun_u7] at w2 w3 ⊢
  have hT2 := hT.fr w1
  exact hQ g2 ((M_sc.t (by decide)).tr w1.sc) (fun j hj h7 => by rw [hT2 j hj, upd_ne h7]) w2 w3
def sp_rests (a : a_S) (d : Int32) : Int32 × a_S := match a_hill a with
  | none => (-1000002, a)
  | some t => if wn d 0 60 then (eM (sRest t d), a) else (-1000001, a)
def sp_line (a : a_S) (x d : Int32) : Int32 × a_S := match a_hill a with
  | none => (-1000002, a)
  | some t => if wn x 0 (t 0) then (if wn d 0 60 then (if x.toNatClampNeg < (sRun t (sTop t d)).2.2.1 then (sRun t (sTop t d)).2.1 x.toNatClampNeg else -1000000, a) else (-1000001, a)) else (-1000001, a)
def sp_left (a : a_S) (d : Int32) : Int32 × a_S := match a_hill a with
  | none => (-1000002, a)
  | some t => if wn d 0 60 then (sL (sRun t (sTop t d)).2.2.2, a) else (-1000001, a)
theorem sL_max (x : Int32) : (if 0 < x then x else 0) = sL x := by
  unfold sL
  by_cases h : x ≤ 0
  · rw [if_pos h, if_neg (Int32.not_lt.mpr h)]
  · rw [if_neg h, if_pos (Int32.not_le.mp h)]
theorem wnT {t : m_T} {x : Int32} (hK : a_TK t) (h : wn x 0 (t 0)) : ∃ i : Nat, i ≤ 9 ∧ x = nI i := by
  refine wn_ex (n := 9) (M := 9) ⟨h.1, fun q => h.2 ?_⟩ rfl
  have := hK.t0
  rw [i32_lt] at *; rw [i32_le] at this
  omega
theorem C_rests {SL : Nat} {d : Nat} {Q : Option Int32 → m_G → Prop} {g : m_G} {a : a_S} (hA : a_OK a) (hC : C_R g a) (x : Int32) (hQ : E_C g a Q (sp_rests a x)) : Sim SL (d + 5) yX8_rests cX8_rests 2 (some .int) 0 [.ref 0, .int x] [] g Q := by
  unfold E_C sp_rests at hQ
  have hT : TW g 28 (a_H a) := hC.2.2.1.2
  refine s_aload_n (n := 1) dX8_rests_0 rfl rfl rfl ?_
  refine s_getr (k2 := 28) (n := 4) dX8_rests_1 rfl fl_X8_25 rfl rfl rfl ?_
  refine s_geti (n := 7) dX8_rests_4 rfl fl_X8_135 rfl rfl ?_
  rw [hC.2.2.1.1]
  refine s_if_ne (n := 10) (t := 13) dX8_rests_7 (by decide) rfl (fun h7 => ?_) (fun h7 => ?_)
  · obtain ⟨t, hh⟩ : ∃ t, a_hill a = some t := by
      cases hh : a_hill a with
      | none => rw [hh] at h7; exact absurd rfl h7
      | some t => exact ⟨t, rfl⟩
    have hHt : a_H a = t := by unfold a_H a_T; rw [hh]; rfl
    have hK := hA.1 t hh
    rw [hHt] at hT
    rw [hh] at hQ
    dsimp only at hQ
    refine s_iload_n (n := 14) dX8_rests_13 rfl rfl rfl ?_
    refine s_iconst (v := 0) (n := 15) dX8_rests_14 rfl (by decide) ?_
    refine s_bipush (v := 60) (n := 17) dX8_rests_15 rfl (by decide) ?_
    refine s_cs3 (n := 20) dX8_rests_17 rfl mo_X8_within ml_X8_62 rfl (Nat.le_of_ble_eq_true rfl) (Nat.le_of_ble_eq_true rfl) (c_X8_within _ _ _ (fun hb17 => ?_) (fun hb17 => ?_))
    · dsimp only [m_push]
      refine s_if_eq (n := 23) (t := 37) dX8_rests_20 (by decide) rfl (fun h => absurd h (by decide)) (fun _ => ?_)
      refine s_aload_n (n := 24) dX8_rests_23 rfl rfl rfl ?_
      refine s_getr (k2 := 28) (n := 27) dX8_rests_24 rfl fl_X8_25 rfl rfl rfl ?_
      refine s_iload_n (n := 28) dX8_rests_27 rfl rfl rfl ?_
      refine s_cv1 (n := 31) dX8_rests_28 rfl mo_X1_restIn ml_X8_199 rfl (by decide) rfl rfl (Nat.le_of_ble_eq_true rfl) (Nat.le_of_ble_eq_true rfl) (c_X1_restIn hb28 hT hK.t0 hK.t1 hK.t6 _ (hK.top hb17) (fun g2 hf w1 w2 w3 => ?_))
      dsimp only [m_push]
      refine s_cs1 (n := 34) dX8_rests_31 rfl mo_X8_orNone ml_X8_150 rfl (Nat.le_of_ble_eq_true rfl) (Nat.le_of_ble_eq_true rfl) (c_X8_orNone _ ?_)
      dsimp only [m_push]
      rw [orN_e sRun6]
      refine s_goto (t := 39) dX8_rests_34 (by decide) ?_
      refine s_ireturn dX8_rests_39 rfl rfl ?_
      first
      | (rw [if_neg hb17] at hQ; exact hQ g hC F_C.rf)
      | (rw [if_pos hb17] at hQ; exact hQ g2 (hC.fr (hf.mono (by decide))) (hf.FC (by decide)))
    · dsimp only [m_push]
      refine s_if_eq (n := 23) (t := 37) dX8_rests_20 (by decide) rfl (fun _ => ?_) (fun h => absurd h (by decide))
      refine s_ldc (n := 39) dX8_rests_37 rfl kc_X8_66 ?_
      refine s_ireturn dX8_rests_39 rfl rfl ?_
      first
      | (rw [if_neg hb17] at hQ; exact hQ g hC F_C.rf)
      | (rw [if_pos hb17] at hQ; exact hQ g2 (hC.fr (hf.mono (by decide))) (hf.FC (by decide)))
  · refine s_ldc (n := 12) dX8_rests_10 rfl kc_X8_138 ?_
    refine s_ireturn dX8_rests_12 rfl rfl ?_
    cases hh : a_hill a with
    | none => rw [hh] at hQ; exact hQ g hC F_C.rf
    | some t => rw [hh] at h7; exact absurd h7 (by show ¬ (1 : Int32) = 0; decide)
theorem C_left {SL : Nat} {d : Nat} {Q : Option Int32 → m_G → Prop} {g : m_G} {a : a_S} (hA : a_OK a) (hC : C_R g a) (x : Int32) (hQ : E_C g a Q (sp_left a x)) : Sim SL (d + 5) yX8_left cX8_left 2 (some .int) 0 [.ref 0, .int x] [] g Q := by
  unfold E_C sp_left at hQ
  have hT : TW g 28 (a_H a) := hC.2.2.1.2
  refine s_aload_n (n := 1) dX8_left_0 rfl rfl rfl ?_
  refine s_getr (k2 := 28) (n := 4) dX8_left_1 rfl fl_X8_25 rfl rfl rfl ?_
  refine s_geti (n := 7) dX8_left_4 rfl fl_X8_135 rfl rfl ?_
  rw [hC.2.2.1.1]
  refine s_if_ne (n := 10) (t := 13) dX8_left_7 (by decide) rfl (fun h7 => ?_) (fun h7 => ?_)
  · obtain ⟨t, hh⟩ : ∃ t, a_hill a = some t := by
      cases hh : a_hill a with
      | none => rw [hh] at h7; exact absurd rfl h7
      | some t => exact ⟨t, rfl⟩
    have hHt : a_H a = t := by unfold a_H a_T; rw [hh]; rfl
    have hK := hA.1 t hh
    rw [hHt] at hT
    rw [hh] at hQ
    dsimp only at hQ
    refine s_iload_n (n := 14) dX8_left_13 rfl rfl rfl ?_
    refine s_iconst (v := 0) (n := 15) dX8_left_14 rfl (by decide) ?_
    refine s_bipush (v := 60) (n := 17) dX8_left_15 rfl (by decide) ?_
    refine s_cs3 (n := 20) dX8_left_17 rfl mo_X8_within ml_X8_62 rfl (Nat.le_of_ble_eq_true rfl) (Nat.le_of_ble_eq_true rfl) (c_X8_within _ _ _ (fun hb17 => ?_) (fun hb17 => ?_))
    · dsimp only [m_push]
      refine s_if_ne (n := 23) (t := 26) dX8_left_20 (by decide) rfl (fun _ => ?_) (fun h => absurd h (by decide))
      refine s_aload_n (n := 27) dX8_left_26 rfl rfl rfl ?_
      refine s_getr (k2 := 28) (n := 30) dX8_left_27 rfl fl_X8_25 rfl rfl rfl ?_
      refine s_iload_n (n := 31) dX8_left_30 rfl rfl rfl ?_
      refine s_cv1 (n := 34) dX8_left_31 rfl mo_X1_restIn ml_X8_199 rfl (by decide) rfl rfl (Nat.le_of_ble_eq_true rfl) (Nat.le_of_ble_eq_true rfl) (c_X1_restIn hb28 hT hK.t0 hK.t1 hK.t6 _ (hK.top hb17) (fun g2 hf w1 w2 w3 => ?_))
      dsimp only [m_push]
      refine s_pop (n := 35) dX8_left_34 rfl rfl ?_
      refine s_iconst (v := 0) (n := 36) dX8_left_35 rfl (by decide) ?_
      refine s_aload_n (n := 37) dX8_left_36 rfl rfl rfl ?_
      refine s_getr (k2 := 28) (n := 40) dX8_left_37 rfl fl_X8_25 rfl rfl rfl ?_
      refine s_getr (k2 := 30) (n := 43) dX8_left_40 rfl fl_X8_205 rfl rfl rfl ?_
      refine s_geti (n := 46) dX8_left_43 rfl fl_X8_218 rfl rfl ?_
      rw [show g2 30 3 = _ from w3]
      refine s_mmax (n := 49) dX8_left_46 rfl mlm_X8_219 m_maxw (Nat.le_of_ble_eq_true rfl) ?_
      rw [sL_max]
      refine s_ireturn dX8_left_49 rfl rfl ?_
      rw [if_pos hb17] at hQ
      exact hQ g2 (hC.fr (hf.mono (by decide))) (hf.FC (by decide))
    · dsimp only [m_push]
      refine s_if_ne (n := 23) (t := 26) dX8_left_20 (by decide) rfl (fun h => absurd h (by decide)) (fun _ => ?_)
      refine s_ldc (n := 25) dX8_left_23 rfl kc_X8_66 ?_
      refine s_ireturn dX8_left_25 rfl rfl ?_
      rw [if_neg hb17] at hQ
      exact hQ g hC F_C.rf
  · refine s_ldc (n := 12) dX8_left_10 rfl kc_X8_138 ?_
    refine s_ireturn dX8_left_12 rfl rfl ?_
    cases hh : a_hill a with
    | none => rw [hh] at hQ; exact hQ g hC F_C.rf
    | some t => rw [hh] at h7; exact absurd h7 (by show ¬ (1 : Int32) = 0; decide)
theorem sGo_le (t : m_T) : ∀ (n i : Nat) (ln sp : Int32) (Ls : Nat → Int32), (sGo t n i ln sp Ls).2.2.1 ≤ i + n
  | 0, i, _, _, _ => Nat.le_refl _
  | n + 1, i, ln, sp, Ls => by
    unfold sGo
    split
    · exact Nat.le_add_right _ _
    · cases sAt t (nI i) (sSt t i ln) with
      | none => dsimp only; have := sGo_le t n (i + 1) (sSt t i ln) sp (upd Ls i (sSt t i ln)); omega
      | some h =>
        dsimp only
        split
        · show i + 1 ≤ _; omega
        · split
          · show i + 1 ≤ _; omega
          · have := sGo_le t n (i + 1) (clp (sSt t i ln + sTurn (t (9 + h)) (bt (t 8) (nI h)) (nI i))) (sp - sSlow (t (9 + h)) (bt (t 8) (nI h))) (upd Ls i (clp (sSt t i ln + sTurn (t (9 + h)) (bt (t 8) (nI h)) (nI i)))); omega
theorem sRun_le (t : m_T) (x : Int32) : (sRun t x).2.2.1 ≤ 10 := sGo_le t 9 1 _ _ _
theorem C_line {SL : Nat} {d : Nat} {Q : Option Int32 → m_G → Prop} {g : m_G} {a : a_S} (hA : a_OK a) (hC : C_R g a) (x y : Int32) (hQ : E_C g a Q (sp_line a x y)) : Sim SL (d + 5) yX8_line cX8_line 3 (some .int) 0 [.ref 0, .int x, .int y] [] g Q := by
  unfold E_C sp_line at hQ
  have hT : TW g 28 (a_H a) := hC.2.2.1.2
  refine s_aload_n (n := 1) dX8_line_0 rfl rfl rfl ?_
  refine s_getr (k2 := 28) (n := 4) dX8_line_1 rfl fl_X8_25 rfl rfl rfl ?_
  refine s_geti (n := 7) dX8_line_4 rfl fl_X8_135 rfl rfl ?_
  rw [hC.2.2.1.1]
  refine s_if_ne (n := 10) (t := 13) dX8_line_7 (by decide) rfl (fun h7 => ?_) (fun h7 => ?_)
  · obtain ⟨t, hh⟩ : ∃ t, a_hill a = some t := by
      cases hh : a_hill a with
      | none => rw [hh] at h7; exact absurd rfl h7
      | some t => exact ⟨t, rfl⟩
    have hHt : a_H a = t := by unfold a_H a_T; rw [hh]; rfl
    have hK := hA.1 t hh
    rw [hHt] at hT
    rw [hh] at hQ
    dsimp only at hQ
    refine s_iload_n (n := 14) dX8_line_13 rfl rfl rfl ?_
    refine s_iconst (v := 0) (n := 15) dX8_line_14 rfl (by decide) ?_
    refine s_aload_n (n := 16) dX8_line_15 rfl rfl rfl ?_
    refine s_getr (k2 := 28) (n := 19) dX8_line_16 rfl fl_X8_25 rfl rfl rfl ?_
    refine s_geti (n := 22) dX8_line_19 rfl fl_X8_202 rfl rfl ?_
    rw [hT.1.1]
    refine s_cs3 (n := 25) dX8_line_22 rfl mo_X8_within ml_X8_62 rfl (Nat.le_of_ble_eq_true rfl) (Nat.le_of_ble_eq_true rfl) (c_X8_within _ _ _ (fun hb22 => ?_) (fun hb22 => ?_))
    · dsimp only [m_push]
      refine s_if_eq (n := 28) (t := 38) dX8_line_25 (by decide) rfl (fun h => absurd h (by decide)) (fun _ => ?_)
      refine s_iload_n (n := 29) dX8_line_28 rfl rfl rfl ?_
      refine s_iconst (v := 0) (n := 30) dX8_line_29 rfl (by decide) ?_
      refine s_bipush (v := 60) (n := 32) dX8_line_30 rfl (by decide) ?_
      refine s_cs3 (n := 35) dX8_line_32 rfl mo_X8_within ml_X8_62 rfl (Nat.le_of_ble_eq_true rfl) (Nat.le_of_ble_eq_true rfl) (c_X8_within _ _ _ (fun hb32 => ?_) (fun hb32 => ?_))
      · dsimp only [m_push]
        refine s_if_ne (n := 38) (t := 41) dX8_line_35 (by decide) rfl (fun _ => ?_) (fun h => absurd h (by decide))
        obtain ⟨i, hi, rfl⟩ := wnT hK hb22
        rw [if_pos hb22, if_pos hb32, nI_clamp (show i < 2 ^ 31 by omega)] at hQ
        obtain ⟨l1, l2, l3⟩ := sRun_ls (t := t) (hK.top hb32)
        refine s_aload_n (n := 42) dX8_line_41 rfl rfl rfl ?_
        refine s_getr (k2 := 28) (n := 45) dX8_line_42 rfl fl_X8_25 rfl rfl rfl ?_
        refine s_iload_n (n := 46) dX8_line_45 rfl rfl rfl ?_
        refine s_cv1 (n := 49) dX8_line_46 rfl mo_X1_restIn ml_X8_199 rfl (by decide) rfl rfl (Nat.le_of_ble_eq_true rfl) (Nat.le_of_ble_eq_true rfl) (c_X1_restIn hb28 hT hK.t0 hK.t1 hK.t6 _ (hK.top hb32) (fun g2 hf w1 w2 w3 => ?_))
        dsimp only [m_push]
        refine s_pop (n := 50) dX8_line_49 rfl rfl ?_
        refine s_iload_n (n := 51) dX8_line_50 rfl rfl rfl ?_
        refine s_aload_n (n := 52) dX8_line_51 rfl rfl rfl ?_
        refine s_getr (k2 := 28) (n := 55) dX8_line_52 rfl fl_X8_25 rfl rfl rfl ?_
        refine s_getr (k2 := 30) (n := 58) dX8_line_55 rfl fl_X8_205 rfl rfl rfl ?_
        refine s_geti (n := 61) dX8_line_58 rfl fl_X8_209 rfl rfl ?_
        rw [show g2 30 1 = _ from w2]
        refine s_icmp_gt (n := 64) (t := 79) dX8_line_61 (by decide) rfl (fun h61 => ?_) (fun h61 => ?_)
        · refine s_ldc (n := 81) dX8_line_79 rfl kc_X8_217 ?_
          refine s_ireturn dX8_line_81 rfl rfl ?_
          first
          | (rw [if_pos hlt] at hQ; exact hQ g2 (hC.fr (hf.mono (by decide))) (hf.FC (by decide)))
          | (have hge : ¬ i < (sRun t (sTop t y)).2.2.1 := fun q => absurd h61 (nI_nlt (show i ≤ (sRun t (sTop t y)).2.2.1 - 1 by omega) (by have := sRun_le t (sTop t y); omega)); rw [if_neg hge] at hQ; exact hQ g2 (hC.fr (hf.mono (by decide))) (hf.FC (by decide)))
        · have hlt : i < (sRun t (sTop t y)).2.2.1 := by
            rcases Nat.lt_or_ge i (sRun t (sTop t y)).2.2.1 with q | q
            · exact q
            · exact absurd (nI_lt (show (sRun t (sTop t y)).2.2.1 - 1 < i by omega) (by omega)) h61
          refine s_aload_n (n := 65) dX8_line_64 rfl rfl rfl ?_
          refine s_getr (k2 := 28) (n := 68) dX8_line_65 rfl fl_X8_25 rfl rfl rfl ?_
          refine s_getr (k2 := 30) (n := 71) dX8_line_68 rfl fl_X8_205 rfl rfl rfl ?_
          refine s_getr (k2 := 31) (n := 74) dX8_line_71 rfl fl_X8_214 rfl rfl rfl ?_
          refine s_iload_n (n := 75) dX8_line_74 rfl rfl rfl ?_
          refine s_iaload i (n := 76) dX8_line_75 rfl rfl rfl (by omega) ?_
          rw [show g2 31 i = _ from w1 i hlt]
          refine s_goto (t := 81) dX8_line_76 (by decide) ?_
          refine s_ireturn dX8_line_81 rfl rfl ?_
          first
          | (rw [if_pos hlt] at hQ; exact hQ g2 (hC.fr (hf.mono (by decide))) (hf.FC (by decide)))
          | (have hge : ¬ i < (sRun t (sTop t y)).2.2.1 := fun q => absurd h61 (nI_nlt (show i ≤ (sRun t (sTop t y)).2.2.1 - 1 by omega) (by have := sRun_le t (sTop t y); omega)); rw [if_neg hge] at hQ; exact hQ g2 (hC.fr (hf.mono (by decide))) (hf.FC (by decide)))
      · dsimp only [m_push]
        refine s_if_ne (n := 38) (t := 41) dX8_line_35 (by decide) rfl (fun h => absurd h (by decide)) (fun _ => ?_)
        refine s_ldc (n := 40) dX8_line_38 rfl kc_X8_66 ?_
        refine s_ireturn dX8_line_40 rfl rfl ?_
        first
        | (rw [if_neg hb22] at hQ; exact hQ g hC F_C.rf)
        | (rw [if_pos hb22, if_neg hb32] at hQ; exact hQ g hC F_C.rf)
    · dsimp only [m_push]
      refine s_if_eq (n := 28) (t := 38) dX8_line_25 (by decide) rfl (fun _ => ?_) (fun h => absurd h (by decide))
      refine s_ldc (n := 40) dX8_line_38 rfl kc_X8_66 ?_
      refine s_ireturn dX8_line_40 rfl rfl ?_
      first
      | (rw [if_neg hb22] at hQ; exact hQ g hC F_C.rf)
      | (rw [if_pos hb22, if_neg hb32] at hQ; exact hQ g hC F_C.rf)
  · refine s_ldc (n := 12) dX8_line_10 rfl kc_X8_138 ?_
    refine s_ireturn dX8_line_12 rfl rfl ?_
    cases hh : a_hill a with
    | none => rw [hh] at hQ; exact hQ g hC F_C.rf
    | some t => rw [hh] at h7; exact absurd h7 (by show ¬ (1 : Int32) = 0; decide)
theorem c_X9_noYears {SL : Nat} {d : Nat} {Q : Option Int32 → m_G → Prop} {g : m_G} (d9 : Int32) (h0 : g 78 1 = 0 → Q (some (-1000002)) g) (h1 : ¬ g 78 1 = 0 → wn d9 0 60 → Q (some 0) g) (h2 : ¬ g 78 1 = 0 → ¬ wn d9 0 60 → Q (some (-1000001)) g) : Sim SL (d + 1) yX9_noYears cX9_noYears 2 (some .int) 0 [.ref 78, .int d9] [] g Q := by
  refine s_aload_n (n := 1) dX9_noYears_0 rfl rfl rfl ?_
  refine s_geti (n := 4) dX9_noYears_1 rfl fl_X9_150 rfl rfl ?_
  refine s_if_ne (n := 7) (t := 12) dX9_noYears_4 (by decide) rfl (fun h4 => ?_) (fun h4 => ?_)
  · refine s_iload_n (n := 13) dX9_noYears_12 rfl rfl rfl ?_
    refine s_i2l (n := 14) dX9_noYears_13 rfl ?_
    refine s_lconst (v := 0) (n := 15) dX9_noYears_14 rfl (by decide) ?_
    refine s_ldc2 (n := 18) dX9_noYears_15 rfl kc_X9_203 ?_
    refine s_cs3 (n := 21) dX9_noYears_18 rfl mo_X9_in ml_X9_60 rfl (Nat.le_of_ble_eq_true rfl) (Nat.le_of_ble_eq_true rfl) (c_X9_in (0) (60) rfl (by decide) (by decide) (fun hb18 => ?_) (fun hb18 => ?_))
    · dsimp only [m_push]
      refine s_if_eq (n := 24) (t := 28) dX9_noYears_21 (by decide) rfl (fun h => absurd h (by decide)) (fun _ => ?_)
      refine s_iconst (v := 0) (n := 25) dX9_noYears_24 rfl (by decide) ?_
      refine s_goto (t := 30) dX9_noYears_25 (by decide) ?_
      refine s_ireturn dX9_noYears_30 rfl rfl ?_
      first | exact h1 h4 hb18 | exact h2 h4 hb18 | exact h0 h4
    · dsimp only [m_push]
      refine s_if_eq (n := 24) (t := 28) dX9_noYears_21 (by decide) rfl (fun _ => ?_) (fun h => absurd h (by decide))
      refine s_ldc (n := 30) dX9_noYears_28 rfl kc_X9_70 ?_
      refine s_ireturn dX9_noYears_30 rfl rfl ?_
      first | exact h1 h4 hb18 | exact h2 h4 hb18 | exact h0 h4
  · refine s_ldc (n := 9) dX9_noYears_7 rfl kc_X9_157 ?_
    refine s_goto (t := 30) dX9_noYears_9 (by decide) ?_
    refine s_ireturn dX9_noYears_30 rfl rfl ?_
    first | exact h1 h4 hb18 | exact h2 h4 hb18 | exact h0 h4
theorem M_rests {SL : Nat} {d : Nat} {Q : Option Int32 → m_G → Prop} {g : m_G} {a : a_S} (hA : a_OK a) (hM : M_R g a) (x : Int32) (hQ : E_M g a Q (sp_rests a x)) : Sim SL (d + 5) yX9_rests cX9_rests 3 (some .int) 0 [.ref 78, .int x, .null] [] g Q := by
  refine s_aload_n (n := 1) dX9_rests_0 rfl rfl rfl ?_
  refine s_iload_n (n := 2) dX9_rests_1 rfl rfl rfl ?_
  unfold E_M sp_rests at hQ
  have hT : TM g 0 (a_H a) := hM.2.2.1.2
  refine s_cv1 (n := 5) dX9_rests_2 rfl mo_X9_noYears ml_X9_205 rfl (by decide) rfl rfl (Nat.le_of_ble_eq_true rfl) (Nat.le_of_ble_eq_true rfl) (c_X9_noYears _ (fun q0 => ?_) (fun q0 q1 => ?_) (fun q0 q1 => ?_))
  · dsimp only [m_push]
    refine s_istore_n (n := 6) dX9_rests_5 rfl rfl (by decide) rfl rfl ?_
    refine s_iload_n (n := 7) dX9_rests_6 rfl rfl rfl ?_
    refine s_if_eq (n := 10) (t := 12) dX9_rests_7 (by decide) rfl (fun h => absurd h (by decide)) (fun _ => ?_)
    refine s_iload_n (n := 11) dX9_rests_10 rfl rfl rfl ?_
    refine s_ireturn dX9_rests_11 rfl rfl ?_
    rw [hM.2.2.1.1] at q0
    cases hh : a_hill a with
    | none => rw [hh] at hQ; exact hQ g hM F_M.rf
    | some t => rw [hh] at q0; exact absurd q0 (by show ¬ (1 : Int32) = 0; decide)
  · dsimp only [m_push]
    rw [hM.2.2.1.1] at q0
    obtain ⟨t, hh⟩ : ∃ t, a_hill a = some t := by
      cases hh : a_hill a with
      | none => rw [hh] at q0; exact absurd rfl q0
      | some t => exact ⟨t, rfl⟩
    have hHt : a_H a = t := by unfold a_H a_T; rw [hh]; rfl
    have hK := hA.1 t hh
    rw [hHt] at hT
    rw [hh] at hQ
    dsimp only at hQ
    refine s_istore_n (n := 6) dX9_rests_5 rfl rfl (by decide) rfl rfl ?_
    refine s_iload_n (n := 7) dX9_rests_6 rfl rfl rfl ?_
    refine s_if_eq (n := 10) (t := 12) dX9_rests_7 (by decide) rfl (fun _ => ?_) (fun h => absurd h (by decide))
    refine s_aload_n (n := 13) dX9_rests_12 rfl rfl rfl ?_
    refine s_cv0 (n := 16) dX9_rests_13 rfl mo_X9_layTried ml_X9_208 rfl (by decide) rfl rfl (Nat.le_of_ble_eq_true rfl) (Nat.le_of_ble_eq_true rfl) (c_X9_layTried hT (fun g1 hf1 hL1 hL2 => ?_))
    have hs1 := M_sc.lay hf1 hL2
    have hy1 : g1 79 7 = t 7 := by rw [hL2 7 (by decide)]; exact hT.z (by decide)
    dsimp only [m_push]
    refine s_aload_n (n := 17) dX9_rests_16 rfl rfl rfl ?_
    refine s_iload_n (n := 18) dX9_rests_17 rfl rfl rfl ?_
    refine s_cv1 (n := 21) dX9_rests_18 rfl mo_X9_restsIn ml_X9_211 rfl (by decide) rfl rfl (Nat.le_of_ble_eq_true rfl) (Nat.le_of_ble_eq_true rfl) (c_X9_restsIn hy1 hK.t0 hK.t1 hK.t6 hK.kd hK.t4 hL1.q _ (fun g2 hs2 hU2 w1 w2 => ?_))
    dsimp only [m_push]
    refine s_ireturn dX9_rests_21 rfl rfl ?_
    rw [if_pos q1] at hQ
    exact hQ g2 (hM.sc (hs1.tr hs2)) (hs1.tr hs2).FM
  · dsimp only [m_push]
    rw [hM.2.2.1.1] at q0
    obtain ⟨t, hh⟩ : ∃ t, a_hill a = some t := by
      cases hh : a_hill a with
      | none => rw [hh] at q0; exact absurd rfl q0
      | some t => exact ⟨t, rfl⟩
    have hHt : a_H a = t := by unfold a_H a_T; rw [hh]; rfl
    have hK := hA.1 t hh
    rw [hHt] at hT
    rw [hh] at hQ
    dsimp only at hQ
    refine s_istore_n (n := 6) dX9_rests_5 rfl rfl (by decide) rfl rfl ?_
    refine s_iload_n (n := 7) dX9_rests_6 rfl rfl rfl ?_
    refine s_if_eq (n := 10) (t := 12) dX9_rests_7 (by decide) rfl (fun h => absurd h (by decide)) (fun _ => ?_)
    refine s_iload_n (n := 11) dX9_rests_10 rfl rfl rfl ?_
    refine s_ireturn dX9_rests_11 rfl rfl ?_
    rw [if_neg q1] at hQ
    exact hQ g hM F_M.rf
theorem M_left {SL : Nat} {d : Nat} {Q : Option Int32 → m_G → Prop} {g : m_G} {a : a_S} (hA : a_OK a) (hM : M_R g a) (x : Int32) (hQ : E_M g a Q (sp_left a x)) : Sim SL (d + 5) yX9_left cX9_left 3 (some .int) 0 [.ref 78, .int x, .null] [] g Q := by
  refine s_aload_n (n := 1) dX9_left_0 rfl rfl rfl ?_
  refine s_iload_n (n := 2) dX9_left_1 rfl rfl rfl ?_
  unfold E_M sp_left at hQ
  have hT : TM g 0 (a_H a) := hM.2.2.1.2
  refine s_cv1 (n := 5) dX9_left_2 rfl mo_X9_noYears ml_X9_205 rfl (by decide) rfl rfl (Nat.le_of_ble_eq_true rfl) (Nat.le_of_ble_eq_true rfl) (c_X9_noYears _ (fun q0 => ?_) (fun q0 q1 => ?_) (fun q0 q1 => ?_))
  · dsimp only [m_push]
    refine s_istore_n (n := 6) dX9_left_5 rfl rfl (by decide) rfl rfl ?_
    refine s_iload_n (n := 7) dX9_left_6 rfl rfl rfl ?_
    refine s_if_eq (n := 10) (t := 12) dX9_left_7 (by decide) rfl (fun h => absurd h (by decide)) (fun _ => ?_)
    refine s_iload_n (n := 11) dX9_left_10 rfl rfl rfl ?_
    refine s_ireturn dX9_left_11 rfl rfl ?_
    rw [hM.2.2.1.1] at q0
    cases hh : a_hill a with
    | none => rw [hh] at hQ; exact hQ g hM F_M.rf
    | some t => rw [hh] at q0; exact absurd q0 (by show ¬ (1 : Int32) = 0; decide)
  · dsimp only [m_push]
    rw [hM.2.2.1.1] at q0
    obtain ⟨t, hh⟩ : ∃ t, a_hill a = some t := by
      cases hh : a_hill a with
      | none => rw [hh] at q0; exact absurd rfl q0
      | some t => exact ⟨t, rfl⟩
    have hHt : a_H a = t := by unfold a_H a_T; rw [hh]; rfl
    have hK := hA.1 t hh
    rw [hHt] at hT
    rw [hh] at hQ
    dsimp only at hQ
    refine s_istore_n (n := 6) dX9_left_5 rfl rfl (by decide) rfl rfl ?_
    refine s_iload_n (n := 7) dX9_left_6 rfl rfl rfl ?_
    refine s_if_eq (n := 10) (t := 12) dX9_left_7 (by decide) rfl (fun _ => ?_) (fun h => absurd h (by decide))
    refine s_aload_n (n := 13) dX9_left_12 rfl rfl rfl ?_
    refine s_cv0 (n := 16) dX9_left_13 rfl mo_X9_layTried ml_X9_208 rfl (by decide) rfl rfl (Nat.le_of_ble_eq_true rfl) (Nat.le_of_ble_eq_true rfl) (c_X9_layTried hT (fun g1 hf1 hL1 hL2 => ?_))
    have hs1 := M_sc.lay hf1 hL2
    have hy1 : g1 79 7 = t 7 := by rw [hL2 7 (by decide)]; exact hT.z (by decide)
    dsimp only [m_push]
    refine s_aload_n (n := 17) dX9_left_16 rfl rfl rfl ?_
    refine s_iload_n (n := 18) dX9_left_17 rfl rfl rfl ?_
    refine s_cv1 (n := 21) dX9_left_18 rfl mo_X9_restsIn ml_X9_211 rfl (by decide) rfl rfl (Nat.le_of_ble_eq_true rfl) (Nat.le_of_ble_eq_true rfl) (c_X9_restsIn hy1 hK.t0 hK.t1 hK.t6 hK.kd hK.t4 hL1.q _ (fun g2 hs2 hU2 w1 w2 => ?_))
    dsimp only [m_push]
    refine s_pop (n := 22) dX9_left_21 rfl rfl ?_
    refine s_aload_n (n := 23) dX9_left_22 rfl rfl rfl ?_
    refine s_geti (n := 26) dX9_left_23 rfl fl_X9_161 rfl rfl ?_
    rw [w2]
    refine s_ireturn dX9_left_26 rfl rfl ?_
    rw [if_pos q1] at hQ
    exact hQ g2 (hM.sc (hs1.tr hs2)) (hs1.tr hs2).FM
  · dsimp only [m_push]
    rw [hM.2.2.1.1] at q0
    obtain ⟨t, hh⟩ : ∃ t, a_hill a = some t := by
      cases hh : a_hill a with
      | none => rw [hh] at q0; exact absurd rfl q0
      | some t => exact ⟨t, rfl⟩
    have hHt : a_H a = t := by unfold a_H a_T; rw [hh]; rfl
    have hK := hA.1 t hh
    rw [hHt] at hT
    rw [hh] at hQ
    dsimp only at hQ
    refine s_istore_n (n := 6) dX9_left_5 rfl rfl (by decide) rfl rfl ?_
    refine s_iload_n (n := 7) dX9_left_6 rfl rfl rfl ?_
    refine s_if_eq (n := 10) (t := 12) dX9_left_7 (by decide) rfl (fun h => absurd h (by decide)) (fun _ => ?_)
    refine s_iload_n (n := 11) dX9_left_10 rfl rfl rfl ?_
    refine s_ireturn dX9_left_11 rfl rfl ?_
    rw [if_neg q1] at hQ
    exact hQ g hM F_M.rf
theorem M_line {SL : Nat} {d : Nat} {Q : Option Int32 → m_G → Prop} {g : m_G} {a : a_S} (hA : a_OK a) (hM : M_R g a) (x y : Int32) (hQ : E_M g a Q (sp_line a x y)) : Sim SL (d + 5) yX9_line cX9_line 4 (some .int) 0 [.ref 78, .int x, .int y, .null] [] g Q := by
  refine s_aload_n (n := 1) dX9_line_0 rfl rfl rfl ?_
  refine s_iload_n (n := 2) dX9_line_1 rfl rfl rfl ?_
  unfold E_M sp_line at hQ
  have hT : TM g 0 (a_H a) := hM.2.2.1.2
  refine s_cv1 (n := 5) dX9_line_2 rfl mo_X9_noYears ml_X9_205 rfl (by decide) rfl rfl (Nat.le_of_ble_eq_true rfl) (Nat.le_of_ble_eq_true rfl) (c_X9_noYears _ (fun q0 => ?_) (fun q0 q1 => ?_) (fun q0 q1 => ?_))
  · dsimp only [m_push]
    refine s_istore_n (n := 6) dX9_line_5 rfl rfl (by decide) rfl rfl ?_
    refine s_iload_n (n := 7) dX9_line_6 rfl rfl rfl ?_
    refine s_if_ne (n := 10) (t := 26) dX9_line_7 (by decide) rfl (fun _ => ?_) (fun h => absurd h (by decide))
    refine s_iload_n (n := 27) dX9_line_26 rfl rfl rfl ?_
    refine s_if_eq (n := 30) (t := 34) dX9_line_27 (by decide) rfl (fun h => absurd h (by decide)) (fun _ => ?_)
    refine s_iload_n (n := 31) dX9_line_30 rfl rfl rfl ?_
    refine s_goto (t := 36) dX9_line_31 (by decide) ?_
    refine s_ireturn dX9_line_36 rfl rfl ?_
    rw [hM.2.2.1.1] at q0
    cases hh : a_hill a with
    | none => rw [hh] at hQ; exact hQ g hM F_M.rf
    | some t => rw [hh] at q0; exact absurd q0 (by show ¬ (1 : Int32) = 0; decide)
  · dsimp only [m_push]
    rw [hM.2.2.1.1] at q0
    obtain ⟨t, hh⟩ : ∃ t, a_hill a = some t := by
      cases hh : a_hill a with
      | none => rw [hh] at q0; exact absurd rfl q0
      | some t => exact ⟨t, rfl⟩
    have hHt : a_H a = t := by unfold a_H a_T; rw [hh]; rfl
    have hK := hA.1 t hh
    rw [hHt] at hT
    rw [hh] at hQ
    dsimp only at hQ
    refine s_istore_n (n := 6) dX9_line_5 rfl rfl (by decide) rfl rfl ?_
    refine s_iload_n (n := 7) dX9_line_6 rfl rfl rfl ?_
    refine s_if_ne (n := 10) (t := 26) dX9_line_7 (by decide) rfl (fun h => absurd h (by decide)) (fun _ => ?_)
    refine s_iload_n (n := 11) dX9_line_10 rfl rfl rfl ?_
    refine s_i2l (n := 12) dX9_line_11 rfl ?_
    refine s_lconst (v := 0) (n := 13) dX9_line_12 rfl (by decide) ?_
    refine s_aload_n (n := 14) dX9_line_13 rfl rfl rfl ?_
    refine s_getr (k2 := 79) (n := 17) dX9_line_14 rfl fl_X9_7 rfl rfl rfl ?_
    refine s_iconst (v := 0) (n := 18) dX9_line_17 rfl (by decide) ?_
    refine s_iaload 0 (n := 19) dX9_line_18 rfl rfl rfl (by decide) ?_
    rw [hT.z (by decide)]
    refine s_i2l (n := 20) dX9_line_19 rfl ?_
    refine s_cs3 (n := 23) dX9_line_20 rfl mo_X9_in ml_X9_60 rfl (Nat.le_of_ble_eq_true rfl) (Nat.le_of_ble_eq_true rfl) (c_X9_in 0 _ rfl (by decide) rfl (fun hb20 => ?_) (fun hb20 => ?_))
    · dsimp only [m_push]
      refine s_if_ne (n := 26) (t := 37) dX9_line_23 (by decide) rfl (fun _ => ?_) (fun h => absurd h (by decide))
      obtain ⟨i, hi, rfl⟩ := wnT hK hb20
      rw [if_pos hb20, if_pos q1, nI_clamp (show i < 2 ^ 31 by omega)] at hQ
      obtain ⟨l1, l2, l3⟩ := sRun_ls (t := t) (hK.top q1)
      refine s_aload_n (n := 38) dX9_line_37 rfl rfl rfl ?_
      refine s_cv0 (n := 41) dX9_line_38 rfl mo_X9_layTried ml_X9_208 rfl (by decide) rfl rfl (Nat.le_of_ble_eq_true rfl) (Nat.le_of_ble_eq_true rfl) (c_X9_layTried hT (fun g1 hf1 hL1 hL2 => ?_))
      have hs1 := M_sc.lay hf1 hL2
      have hy1 : g1 79 7 = t 7 := by rw [hL2 7 (by decide)]; exact hT.z (by decide)
      dsimp only [m_push]
      refine s_aload_n (n := 42) dX9_line_41 rfl rfl rfl ?_
      refine s_iload_n (n := 43) dX9_line_42 rfl rfl rfl ?_
      refine s_cv1 (n := 46) dX9_line_43 rfl mo_X9_restsIn ml_X9_211 rfl (by decide) rfl rfl (Nat.le_of_ble_eq_true rfl) (Nat.le_of_ble_eq_true rfl) (c_X9_restsIn hy1 hK.t0 hK.t1 hK.t6 hK.kd hK.t4 hL1.q _ (fun g2 hs2 hU2 w1 w2 => ?_))
      dsimp only [m_push]
      refine s_pop (n := 47) dX9_line_46 rfl rfl ?_
      refine s_aload_n (n := 48) dX9_line_47 rfl rfl rfl ?_
      refine s_getr (k2 := 89) (n := 51) dX9_line_48 rfl fl_X9_41 rfl rfl rfl ?_
      refine s_iload_n (n := 52) dX9_line_51 rfl rfl rfl ?_
      refine s_iaload i (n := 53) dX9_line_52 rfl rfl rfl (by omega) ?_
      rw [show g2 89 i = (sRun t (sTop t y)).2.1 i from w1 i (by omega)]
      refine s_if_ge (n := 56) (t := 61) dX9_line_53 (by decide) rfl (fun h53 => ?_) (fun h53 => ?_)
      · refine s_aload_n (n := 62) dX9_line_61 rfl rfl rfl ?_
        refine s_getr (k2 := 89) (n := 65) dX9_line_62 rfl fl_X9_41 rfl rfl rfl ?_
        refine s_iload_n (n := 66) dX9_line_65 rfl rfl rfl ?_
        refine s_iaload i (n := 67) dX9_line_66 rfl rfl rfl (by omega) ?_
        first | rw [show g2 89 i = (sRun t (sTop t y)).2.1 i from w1 i (by omega)] | skip
        refine s_ireturn dX9_line_67 rfl rfl ?_
        first
        | (have hlt : i < (sRun t (sTop t y)).2.2.1 := by
             rcases Nat.lt_or_ge i (sRun t (sTop t y)).2.2.1 with q | q
             · exact q
             · rw [l3 i q] at h53; exact absurd h53 (by decide)
           rw [if_pos hlt] at hQ; exact hQ g2 (hM.sc (hs1.tr hs2)) (hs1.tr hs2).FM)
        | (have hge : ¬ i < (sRun t (sTop t y)).2.2.1 := fun q => (l2 i q).1 (Int32.not_le.mp h53)
           rw [if_neg hge] at hQ; exact hQ g2 (hM.sc (hs1.tr hs2)) (hs1.tr hs2).FM)
      · refine s_ldc (n := 58) dX9_line_56 rfl kc_X9_128 ?_
        refine s_goto (t := 67) dX9_line_58 (by decide) ?_
        first | rw [show g2 89 i = (sRun t (sTop t y)).2.1 i from w1 i (by omega)] | skip
        refine s_ireturn dX9_line_67 rfl rfl ?_
        first
        | (have hlt : i < (sRun t (sTop t y)).2.2.1 := by
             rcases Nat.lt_or_ge i (sRun t (sTop t y)).2.2.1 with q | q
             · exact q
             · rw [l3 i q] at h53; exact absurd h53 (by decide)
           rw [if_pos hlt] at hQ; exact hQ g2 (hM.sc (hs1.tr hs2)) (hs1.tr hs2).FM)
        | (have hge : ¬ i < (sRun t (sTop t y)).2.2.1 := fun q => (l2 i q).1 (Int32.not_le.mp h53)
           rw [if_neg hge] at hQ; exact hQ g2 (hM.sc (hs1.tr hs2)) (hs1.tr hs2).FM)
    · dsimp only [m_push]
      refine s_if_ne (n := 26) (t := 37) dX9_line_23 (by decide) rfl (fun h => absurd h (by decide)) (fun _ => ?_)
      refine s_iload_n (n := 27) dX9_line_26 rfl rfl rfl ?_
      refine s_if_eq (n := 30) (t := 34) dX9_line_27 (by decide) rfl (fun _ => ?_) (fun h => absurd h (by decide))
      refine s_ldc (n := 36) dX9_line_34 rfl kc_X9_70 ?_
      refine s_ireturn dX9_line_36 rfl rfl ?_
      rw [if_neg hb20] at hQ
      exact hQ g hM F_M.rf
  · dsimp only [m_push]
    rw [hM.2.2.1.1] at q0
    obtain ⟨t, hh⟩ : ∃ t, a_hill a = some t := by
      cases hh : a_hill a with
      | none => rw [hh] at q0; exact absurd rfl q0
      | some t => exact ⟨t, rfl⟩
    have hHt : a_H a = t := by unfold a_H a_T; rw [hh]; rfl
    have hK := hA.1 t hh
    rw [hHt] at hT
    rw [hh] at hQ
    dsimp only at hQ
    refine s_istore_n (n := 6) dX9_line_5 rfl rfl (by decide) rfl rfl ?_
    refine s_iload_n (n := 7) dX9_line_6 rfl rfl rfl ?_
    refine s_if_ne (n := 10) (t := 26) dX9_line_7 (by decide) rfl (fun _ => ?_) (fun h => absurd h (by decide))
    refine s_iload_n (n := 27) dX9_line_26 rfl rfl rfl ?_
    refine s_if_eq (n := 30) (t := 34) dX9_line_27 (by decide) rfl (fun h => absurd h (by decide)) (fun _ => ?_)
    refine s_iload_n (n := 31) dX9_line_30 rfl rfl rfl ?_
    refine s_goto (t := 36) dX9_line_31 (by decide) ?_
    refine s_ireturn dX9_line_36 rfl rfl ?_
    by_cases hw : wn x 0 (t 0)
    · rw [if_pos hw, if_neg q1] at hQ
      exact hQ g hM F_M.rf
    · rw [if_neg hw] at hQ
      exact hQ g hM F_M.rf
