theorem C_speed {SL : Nat} {d : Nat} {Q : Option Int32 → m_G → Prop} {g : m_G} {a : a_S} (hA : a_OK a) (hC : C_R g a) (v : Int32) (hQ : E_C g a Q (sp_speed a v)) : Sim SL (d + 3) yX8_speed cX8_speed 3 (some .int) 0 [.ref 0, .int v, .null] [] g Q := by
  unfold E_C sp_speed at hQ
  have hT : TW g 28 (a_H a) := hC.2.2.1.2
  have hac := hC.2.2.2.1.2.2
  refine s_aload_n (n := 1) dX8_speed_0 rfl rfl rfl ?_
  refine s_getr (k2 := 28) (n := 4) dX8_speed_1 rfl fl_X8_25 rfl rfl rfl ?_
  refine s_geti (n := 7) dX8_speed_4 rfl fl_X8_135 rfl rfl ?_
  rw [hC.2.2.1.1]
  refine s_if_ne (n := 10) (t := 13) dX8_speed_7 (by decide) rfl (fun h7 => ?_) (fun h7 => ?_)
  · obtain ⟨t, hh⟩ : ∃ t, a_hill a = some t := by
      cases hh : a_hill a with
      | none => rw [hh] at h7; exact absurd rfl h7
      | some t => exact ⟨t, rfl⟩
    have hHt : a_H a = t := by unfold a_H a_T; rw [hh]; rfl
    have hK := hA.1 t hh
    rw [hHt] at hT
    rw [hh] at hQ
    dsimp only at hQ
    unfold a_T at hac
    rw [hh] at hac
    refine s_iload_n (n := 14) dX8_speed_13 rfl rfl rfl ?_
    refine s_iconst (v := 1) (n := 15) dX8_speed_14 rfl (by decide) ?_
    refine s_bipush (v := 9) (n := 17) dX8_speed_15 rfl (by decide) ?_
    refine s_cs3 (n := 20) dX8_speed_17 rfl mo_X8_within ml_X8_62 rfl (Nat.le_of_ble_eq_true rfl) (Nat.le_of_ble_eq_true rfl) (c_X8_within _ _ _ (fun hb17 => ?_) (fun hb17 => ?_))
    · dsimp only [m_push]
      refine s_if_ne (n := 23) (t := 26) dX8_speed_20 (by decide) rfl (fun _ => ?_) (fun h => absurd h (by decide))
      refine s_aload_n (n := 27) dX8_speed_26 rfl rfl rfl ?_
      refine s_getr (k2 := 28) (n := 30) dX8_speed_27 rfl fl_X8_25 rfl rfl rfl ?_
      refine s_geti (n := 33) dX8_speed_30 rfl fl_X8_181 rfl rfl ?_
      rw [hT.1.2.2.2.2.1]
      refine s_istore_n (n := 34) dX8_speed_33 rfl rfl (by decide) rfl rfl ?_
      refine s_aload_n (n := 35) dX8_speed_34 rfl rfl rfl ?_
      refine s_getr (k2 := 28) (n := 38) dX8_speed_35 rfl fl_X8_25 rfl rfl rfl ?_
      refine s_iload_n (n := 39) dX8_speed_38 rfl rfl rfl ?_
      refine s_puti (n := 42) dX8_speed_39 rfl fl_X8_181 rfl rfl rfl ?_
      refine s_aload_n (n := 43) dX8_speed_42 rfl rfl rfl ?_
      refine s_getr (k2 := 20) (n := 46) dX8_speed_43 rfl fl_X8_39 rfl rfl rfl ?_
      refine s_iconst (v := 3) (n := 47) dX8_speed_46 rfl (by decide) ?_
      refine s_iconst (v := -1) (n := 48) dX8_speed_47 rfl (by decide) ?_
      refine s_iload_n (n := 49) dX8_speed_48 rfl rfl rfl ?_
      refine s_cv3 (n := 52) dX8_speed_49 rfl mo_X0_keep ml_X8_146 rfl (by decide) rfl rfl (Nat.le_of_ble_eq_true rfl) (Nat.le_of_ble_eq_true rfl) (c_X0_keep (ps := a_past a) (cur := t) (new := upd t 4 v) (by rw [m_up_o (by decide)]; exact hC.2.2.2.1.1) hC.2.2.2.1.2.1 (C_ac.kept (by rw [m_up_o (by decide)]) (by rw [m_up_o (by decide)]) (by rw [m_up_o (by decide)]) _ _ _ hac) _ _ _ tkb_speed (fun g2 hf2 v1 v2 => ?_))
      dsimp only [m_push]
      refine s_iload_n (n := 53) dX8_speed_52 rfl rfl rfl ?_
      refine s_ireturn dX8_speed_53 rfl rfl ?_
      rw [if_pos hb17] at hQ
      have e28 : g2 28 = _ := hf2 28 (by decide)
      have hT2 : TW g2 28 (upd t 4 v) := (hT.speed _).kept e28 (fun i hi => hf2 _ (by simp; omega))
      have hf : m_fr m_hcl g g2 := (m_fr.up (by decide)).tr (hf2.mono (by decide))
      exact hQ g2 (hC.act hf (by rw [e28, m_up_k, if_neg (by decide), hC.2.2.1.1, hh]; rfl) hT2 v1 (a_push_le _ _) v2) (hf.FC (by decide))
    · dsimp only [m_push]
      refine s_if_ne (n := 23) (t := 26) dX8_speed_20 (by decide) rfl (fun h => absurd h (by decide)) (fun _ => ?_)
      refine s_ldc (n := 25) dX8_speed_23 rfl kc_X8_66 ?_
      refine s_ireturn dX8_speed_25 rfl rfl ?_
      rw [if_neg hb17] at hQ
      exact hQ g hC F_C.rf
  · refine s_ldc (n := 12) dX8_speed_10 rfl kc_X8_138 ?_
    refine s_ireturn dX8_speed_12 rfl rfl ?_
    cases hh : a_hill a with
    | none => rw [hh] at hQ; exact hQ g hC F_C.rf
    | some t => rw [hh] at h7; exact absurd h7 (by show ¬ (1 : Int32) = 0; decide)
theorem M_speed {SL : Nat} {d : Nat} {Q : Option Int32 → m_G → Prop} {g : m_G} {a : a_S} (hA : a_OK a) (hM : M_R g a) (v : Int32) (hQ : E_M g a Q (sp_speed a v)) : Sim SL (d + 2) yX9_speed cX9_speed 3 (some .int) 0 [.ref 78, .int v, .null] [] g Q := by
  unfold E_M sp_speed at hQ
  have hT : TM g 0 (a_H a) := hM.2.2.1.2
  refine s_aload_n (n := 1) dX9_speed_0 rfl rfl rfl ?_
  refine s_geti (n := 4) dX9_speed_1 rfl fl_X9_150 rfl rfl ?_
  rw [hM.2.2.1.1]
  refine s_if_ne (n := 7) (t := 10) dX9_speed_4 (by decide) rfl (fun h4 => ?_) (fun h4 => ?_)
  · obtain ⟨t, hh⟩ : ∃ t, a_hill a = some t := by
      cases hh : a_hill a with
      | none => rw [hh] at h4; exact absurd rfl h4
      | some t => exact ⟨t, rfl⟩
    have hHt : a_H a = t := by unfold a_H a_T; rw [hh]; rfl
    have hK := hA.1 t hh
    rw [hHt] at hT
    rw [hh] at hQ
    dsimp only at hQ
    refine s_iload_n (n := 11) dX9_speed_10 rfl rfl rfl ?_
    refine s_i2l (n := 12) dX9_speed_11 rfl ?_
    refine s_lconst (v := 1) (n := 13) dX9_speed_12 rfl (by decide) ?_
    refine s_ldc2 (n := 16) dX9_speed_13 rfl kc_X9_201 ?_
    refine s_cs3 (n := 19) dX9_speed_16 rfl mo_X9_in ml_X9_60 rfl (Nat.le_of_ble_eq_true rfl) (Nat.le_of_ble_eq_true rfl) (c_X9_in (1) (9) rfl (by decide) (by decide) (fun hb16 => ?_) (fun hb16 => ?_))
    · dsimp only [m_push]
      refine s_if_ne (n := 22) (t := 25) dX9_speed_19 (by decide) rfl (fun _ => ?_) (fun h => absurd h (by decide))
      refine s_aload_n (n := 26) dX9_speed_25 rfl rfl rfl ?_
      refine s_cv0 (n := 29) dX9_speed_26 rfl mo_X9_keepPast ml_X9_187 rfl (by decide) rfl rfl (Nat.le_of_ble_eq_true rfl) (Nat.le_of_ble_eq_true rfl) (c_X9_keepPast hM.2.2.2.1.1 hM.2.2.2.1.2.1 hM.2.2.2.1.2.2 hT (fun g2 hf2 w1 w2 w3 w4 => ?_))
      have hT2 : TM g2 0 t := hT.kept (fun j hj => w2 _ (by omega))
      dsimp only [m_push]
      refine s_aload_n (n := 30) dX9_speed_29 rfl rfl rfl ?_
      refine s_getr (k2 := 79) (n := 33) dX9_speed_30 rfl fl_X9_7 rfl rfl rfl ?_
      refine s_iconst (v := 4) (n := 34) dX9_speed_33 rfl (by decide) ?_
      refine s_iaload 4 (n := 35) dX9_speed_34 rfl rfl rfl (by decide) ?_
      rw [hT2.z (by decide)]
      refine s_istore_n (n := 36) dX9_speed_35 rfl rfl (by decide) rfl rfl ?_
      refine s_aload_n (n := 37) dX9_speed_36 rfl rfl rfl ?_
      refine s_getr (k2 := 79) (n := 40) dX9_speed_37 rfl fl_X9_7 rfl rfl rfl ?_
      refine s_iconst (v := 4) (n := 41) dX9_speed_40 rfl (by decide) ?_
      refine s_iload_n (n := 42) dX9_speed_41 rfl rfl rfl ?_
      refine s_iastore 4 (n := 43) dX9_speed_42 rfl rfl rfl (by decide) ?_
      refine s_iload_n (n := 44) dX9_speed_43 rfl rfl rfl ?_
      refine s_ireturn dX9_speed_44 rfl rfl ?_
      rw [if_pos hb16] at hQ
      refine hQ _ (hM.act ((hf2.mono (by decide)).up2 (by decide)) (fun j hj _ => by rw [m_up_o (by decide)]; exact w1 j hj) (fun j hj _ => by rw [m_up_k, if_neg (by omega)]; exact w2 j (Or.inr hj)) ?_ (hT2.up _) (by rw [m_up_o (by decide)]; exact w3) (a_push_le _ _) (M_pa.kept2 (fun j hj _ => by rw [m_up_k, if_neg (by omega)]) _ (a_push_le _ _) w4)) ((hf2.up2 (by decide)).FM (by decide))
      rw [m_up_o (by decide), w1 1 (by decide), hM.2.2.1.1, hh]
      rfl
    · dsimp only [m_push]
      refine s_if_ne (n := 22) (t := 25) dX9_speed_19 (by decide) rfl (fun h => absurd h (by decide)) (fun _ => ?_)
      refine s_ldc (n := 24) dX9_speed_22 rfl kc_X9_70 ?_
      refine s_ireturn dX9_speed_24 rfl rfl ?_
      rw [if_neg hb16] at hQ
      exact hQ g hM F_M.rf
  · refine s_ldc (n := 9) dX9_speed_7 rfl kc_X9_157 ?_
    refine s_ireturn dX9_speed_9 rfl rfl ?_
    cases hh : a_hill a with
    | none => rw [hh] at hQ; exact hQ g hM F_M.rf
    | some t => rw [hh] at h4; exact absurd h4 (by show ¬ (1 : Int32) = 0; decide)
theorem C_undo {SL : Nat} {d : Nat} {Q : Option Int32 → m_G → Prop} {g : m_G} {a : a_S} (hA : a_OK a) (hC : C_R g a) (hQ : E_C g a Q (sp_undo a)) : Sim SL (d + 2) yX8_undo cX8_undo 1 (some .int) 0 [.ref 0] [] g Q := by
  unfold E_C sp_undo at hQ
  have hT : TW g 28 (a_H a) := hC.2.2.1.2
  have hac := hC.2.2.2.1.2.2
  refine s_aload_n (n := 1) dX8_undo_0 rfl rfl rfl ?_
  refine s_getr (k2 := 20) (n := 4) dX8_undo_1 rfl fl_X8_39 rfl rfl rfl ?_
  refine s_geti (n := 7) dX8_undo_4 rfl fl_X8_129 rfl rfl ?_
  rw [hC.2.2.2.1.1]
  refine s_iconst (v := 1) (n := 8) dX8_undo_7 rfl (by decide) ?_
  refine s_icmp_ge (n := 11) (t := 14) dX8_undo_8 (by decide) rfl (fun h8 => ?_) (fun h8 => ?_)
  · obtain ⟨p, ps, hps⟩ : ∃ p ps, a_past a = p :: ps := by
      cases hps : a_past a with
      | nil => rw [hps] at h8; exact absurd h8 (by decide)
      | cons p ps => exact ⟨p, ps, rfl⟩
    have hne : a_hill a ≠ none := fun q => by have := hA.2.2.2.1 q; rw [hps] at this; cases this
    obtain ⟨t, hh⟩ : ∃ t, a_hill a = some t := by
      cases hh : a_hill a with
      | none => exact absurd hh hne
      | some t => exact ⟨t, rfl⟩
    rw [hps] at hQ
    dsimp only at hQ
    refine s_aload_n (n := 15) dX8_undo_14 rfl rfl rfl ?_
    refine s_getr (k2 := 20) (n := 18) dX8_undo_15 rfl fl_X8_39 rfl rfl rfl ?_
    refine s_aload_n (n := 19) dX8_undo_18 rfl rfl rfl ?_
    refine s_getr (k2 := 28) (n := 22) dX8_undo_19 rfl fl_X8_25 rfl rfl rfl ?_
    refine s_cv1 (n := 25) dX8_undo_22 rfl mo_X0_takeBackLatest ml_X8_184 rfl (by decide) rfl rfl (Nat.le_of_ble_eq_true rfl) (Nat.le_of_ble_eq_true rfl) (c_X0_takeBackLatest (n := ps.length) (by have := hC.2.2.2.1.2.1; rw [hps] at this; exact this) (by rw [hC.2.2.2.1.1, hps]; rfl) hT hA.cnt (fun g2 hf e1 e2 e3 => ?_))
    dsimp only [m_push]
    refine s_aload_n (n := 26) dX8_undo_25 rfl rfl rfl ?_
    refine s_getr (k2 := 20) (n := 29) dX8_undo_26 rfl fl_X8_39 rfl rfl rfl ?_
    refine s_geti (n := 32) dX8_undo_29 rfl fl_X8_129 rfl rfl ?_
    refine s_ireturn dX8_undo_32 rfl rfl ?_
    rw [e1]
    rw [hps] at hac
    obtain ⟨hp, hac2⟩ : p = a_tkb (g 21 ps.length) (g 22 ps.length) (g 23 ps.length) (a_H a) ∧ C_ac g ps.length p ps := hac
    rw [← hp] at e3
    have hl : ps.length + 1 ≤ 24 := by have := hC.2.2.2.1.2.1; rw [hps] at this; exact this
    have hf3 : m_fr m_hcl g g2 := hf.mono (by decide)
    exact hQ g2 (hC.act hf3 (by rw [e2, hC.2.2.1.1, hh]; rfl) e3 e1 (by omega) (C_ac.kept (hf 21 (by decide)) (hf 22 (by decide)) (hf 23 (by decide)) _ _ _ hac2)) (hf3.FC (by decide))
  · refine s_ldc (n := 13) dX8_undo_11 rfl kc_X8_138 ?_
    refine s_ireturn dX8_undo_13 rfl rfl ?_
    cases hps : a_past a with
    | nil => rw [hps] at hQ; exact hQ g hC F_C.rf
    | cons p ps => rw [hps] at h8; exact absurd (by rw [show (1 : Int32) = nI 1 from rfl]; exact nI_le (by show 1 ≤ ps.length + 1; omega) (by have := hC.2.2.2.1.2.1; rw [hps] at this; show ps.length + 1 < _; have : ps.length + 1 ≤ 24 := this; omega)) h8
theorem M_undo {SL : Nat} {d : Nat} {Q : Option Int32 → m_G → Prop} {g : m_G} {a : a_S} (hA : a_OK a) (hM : M_R g a) (hQ : E_M g a Q (sp_undo a)) : Sim SL (d + 2) yX9_undo cX9_undo 1 (some .int) 0 [.ref 78] [] g Q := by
  unfold E_M sp_undo at hQ
  have hT : TM g 0 (a_H a) := hM.2.2.1.2
  refine s_aload_n (n := 1) dX9_undo_0 rfl rfl rfl ?_
  refine s_geti (n := 4) dX9_undo_1 rfl fl_X9_154 rfl rfl ?_
  rw [hM.2.2.2.1.1]
  refine s_if_ne (n := 7) (t := 10) dX9_undo_4 (by decide) rfl (fun h4 => ?_) (fun h4 => ?_)
  · obtain ⟨p, ps, hps⟩ : ∃ p ps, a_past a = p :: ps := by
      cases hps : a_past a with
      | nil => rw [hps] at h4; exact absurd rfl h4
      | cons p ps => exact ⟨p, ps, rfl⟩
    have hne : a_hill a ≠ none := fun q => by have := hA.2.2.2.1 q; rw [hps] at this; cases this
    obtain ⟨t, hh⟩ : ∃ t, a_hill a = some t := by
      cases hh : a_hill a with
      | none => exact absurd hh hne
      | some t => exact ⟨t, rfl⟩
    rw [hps] at hQ
    dsimp only at hQ
    have hl : ps.length + 1 ≤ 24 := by have := hM.2.2.2.1.2.1; rw [hps] at this; exact this
    have hp := hM.2.2.2.1.2.2
    rw [hps] at hp
    refine s_aload_n (n := 11) dX9_undo_10 rfl rfl rfl ?_
    refine s_dup (n := 12) dX9_undo_11 rfl rfl ?_
    refine s_geti (n := 15) dX9_undo_12 rfl fl_X9_154 rfl rfl ?_
    rw [hM.2.2.2.1.1, hps]
    refine s_iconst (v := 1) (n := 16) dX9_undo_15 rfl (by decide) ?_
    refine s_isub (n := 17) dX9_undo_16 rfl ?_
    rw [show nI (p :: ps).length - 1 = nI ps.length from nI_pred _]
    refine s_puti (n := 20) dX9_undo_17 rfl fl_X9_154 rfl rfl rfl ?_
    refine s_aload_n (n := 21) dX9_undo_20 rfl rfl rfl ?_
    refine s_bipush (v := 39) (n := 23) dX9_undo_21 rfl (by decide) ?_
    refine s_bipush (v := 39) (n := 25) dX9_undo_23 rfl (by decide) ?_
    refine s_aload_n (n := 26) dX9_undo_25 rfl rfl rfl ?_
    refine s_geti (n := 29) dX9_undo_26 rfl fl_X9_154 rfl rfl ?_
    rw [m_up_k, if_pos rfl]
    refine s_imul (n := 30) dX9_undo_29 rfl ?_
    refine s_iadd (n := 31) dX9_undo_30 rfl ?_
    refine s_iconst (v := 0) (n := 32) dX9_undo_31 rfl (by decide) ?_
    refine s_cv2 (n := 35) dX9_undo_32 rfl mo_X9_copyTown ml_X9_146 rfl (by decide) rfl rfl (Nat.le_of_ble_eq_true rfl) (Nat.le_of_ble_eq_true rfl) (c_X9_copyTown (39 + 39 * ps.length) 0 (by rw [show (39 : Int32) = nI 39 from rfl, pk_mul, nI_add]) rfl (by omega) (by decide) (by omega) (fun g2 hf w1 w2 => ?_))
    dsimp only [m_push]
    refine s_aload_n (n := 36) dX9_undo_35 rfl rfl rfl ?_
    refine s_geti (n := 39) dX9_undo_36 rfl fl_X9_154 rfl rfl ?_
    refine s_ireturn dX9_undo_39 rfl rfl ?_
    have e78 : g2 78 = _ := hf 78 (by decide)
    rw [e78, m_up_k, if_pos rfl]
    have e78j : ∀ j, j ≠ 2 → g2 78 j = g 78 j := fun j hj => by rw [e78, m_up_k, if_neg hj]
    have e79 : ∀ j, (j < 0 ∨ 0 + 39 ≤ j) → g2 79 j = g 79 j := fun j hj => by rw [w2 j hj, m_up_o (by decide)]
    have hf3 : m_fr [78, 79, 89] g g2 := (m_fr.up (by decide)).tr (hf.mono (by decide))
    have hf4 : m_fr [78, 79] g g2 := (m_fr.up (by decide)).tr (hf.mono (by decide))
    refine hQ g2 (hM.act hf3 (fun j hj _ => e78j j hj) (fun j hj _ => e79 j (by omega)) (by rw [e78j 1 (by decide), hM.2.2.1.1, hh]; rfl) (fun j hj => by rw [w1 j hj, m_up_o (by decide)]; exact hp.1 j hj) (by rw [e78, m_up_k, if_pos rfl]) (by omega) (M_pa.kept2 (fun j hj _ => e79 j (by omega)) _ (by omega) hp.2)) (hf4.FM (by decide))
  · refine s_ldc (n := 9) dX9_undo_7 rfl kc_X9_157 ?_
    refine s_ireturn dX9_undo_9 rfl rfl ?_
    cases hps : a_past a with
    | nil => rw [hps] at hQ; exact hQ g hM F_M.rf
    | cons p ps => rw [hps] at h4; exact absurd h4 (nI_ne0 (by show 0 < ps.length + 1; omega) (by have := hM.2.2.2.1.2.1; rw [hps] at this; have : ps.length + 1 ≤ 24 := this; show ps.length + 1 < _; omega))
def passT (t : m_T) : m_T := match (sRun t (sTop t 0)).1 with
  | none => upd t 7 (t 7 + 1)
  | some h => upd (upd t 7 (t 7 + 1)) (33 + h) (t (33 + h) + 1)
def yrs : Nat → m_T → List m_T → Option Nat → m_T × List m_T × Option Nat
  | 0, t, ps, r => (t, ps, r)
  | n + 1, t, ps, _ => yrs n (passT t) (a_push t ps) (sRest t 0)
def sp_years (a : a_S) (n : Int32) : Int32 × a_S := match a_hill a with
  | none => (-1000002, a)
  | some t => if wn n 1 24 then (if t 7 + n ≤ 999 then (eM (yrs n.toNatClampNeg t (a_past a) none).2.2, u_hill a (some (yrs n.toNatClampNeg t (a_past a) none).1) (yrs n.toNatClampNeg t (a_past a) none).2.1) else (-1000003, a)) else (-1000001, a)
theorem passT1 (t : m_T) : passT t 1 = t 1 := by
  unfold passT
  cases (sRun t (sTop t 0)).1 with
  | none => exact upd_ne (by decide)
  | some h => exact (upd_ne (by omega)).trans (upd_ne (by decide))
theorem passT7 (t : m_T) : passT t 7 = t 7 + 1 := by
  unfold passT
  cases (sRun t (sTop t 0)).1 with
  | none => exact upd_eq
  | some h => exact (upd_ne (by omega)).trans upd_eq
theorem passTo (t : m_T) {j : Nat} (h7 : j ≠ 7) (hj : j < 33) : passT t j = t j := by
  unfold passT
  cases (sRun t (sTop t 0)).1 with
  | none => exact upd_ne h7
  | some h => exact (upd_ne (by omega)).trans (upd_ne h7)
theorem a_TK.pass {t : m_T} (h : a_TK t) {y : Nat} (hy : t 7 = nI y) (hy9 : y < 999) : a_TK (passT t) := by
  obtain ⟨h0, h1, h2, h3, h4, h5, h6, h7, h8⟩ := h
  unfold a_TK
  rw [passTo t (by decide) (by decide), passTo t (j := 1) (by decide) (by decide), passTo t (j := 2) (by decide) (by decide), passTo t (j := 3) (by decide) (by decide), passTo t (j := 4) (by decide) (by decide), passTo t (j := 5) (by decide) (by decide), passTo t (j := 6) (by decide) (by decide), passT7, hy, nI_1]
  refine ⟨h0, h1, h2, h3, h4, h5, h6, wn_nI (n := 999) rfl (by omega) (by decide), fun i hi hc => ?_⟩
  rw [passTo t (by omega) (by omega), passTo t (j := 15 + i) (by omega) (by omega), passTo t (j := 21 + i) (by omega) (by omega)]
  exact h8 i hi hc
theorem add_sub1 (x : Int32) : x + 1 - 1 = x := by rw [Int32.sub_eq_add_neg, Int32.add_assoc, show (1 : Int32) + -1 = 0 from rfl, Int32.add_zero]
theorem tkb_year {t : m_T} (hc : wn (t 1) 0 6) : t = a_tkb 0 (eC (sRest t 0)) 0 (passT t) := by
  unfold a_tkb
  rw [if_pos rfl, passT1, passT7, add_sub1]
  unfold passT sRest
  cases hr : (sRun t (sTop t 0)).1 with
  | none =>
    rw [if_neg (by intro q; exact absurd (show (-1 : Int32) < 0 by decide) q.1)]
    dsimp only
    rw [upd_back]
  | some h =>
    obtain ⟨hh, hcnt⟩ := sRun_lt hr
    have hw : wn (nI h) 0 (t 1 - 1) := by
      obtain ⟨c, hc6, e⟩ := wn_ex (n := 6) hc rfl
      rw [e] at hcnt ⊢
      have hlt : h < c := by
        rcases Nat.lt_or_ge h c with q | q
        · exact q
        · exact absurd (nI_le q (by omega)) hcnt
      rw [show (1 : Int32) = nI 1 from rfl, pk_sub (by omega)]
      exact ⟨nI_pos (by omega), nI_nlt (by omega) (by omega)⟩
    rw [show eC (some h) = nI h from rfl, if_pos hw, nI_clamp (by omega)]
    dsimp only
    rw [upd_eq, add_sub1]
    funext j
    by_cases h1 : j = 33 + h
    · subst h1; rw [upd_eq]
    · rw [upd_ne h1]
      by_cases h2 : j = 7
      · subst h2; rw [upd_eq]
      · rw [upd_ne h2, upd_ne h1, upd_ne h2]
theorem wn00 : wn (0 : Int32) 0 60 := ⟨by decide, by decide⟩
theorem c_X1_passYear {SL : Nat} {d : Nat} {Q : Option Int32 → m_G → Prop} {g : m_G} {t : m_T} (hT : TW g 28 t) (hK : a_TK t) (hQ : ∀ g2, m_fr [28, 30, 31, 32, 33, 34, 35, 36, 37] g g2 → g2 28 2 = g 28 2 → TW g2 28 (passT t) → Q (some (eC (sRest t 0))) g2) : Sim SL (d + 5) yX1_passYear cX1_passYear 2 (some .int) 0 [.ref 28, .null] [] g Q := by
  refine s_aload_n (n := 1) dX1_passYear_0 rfl rfl rfl ?_
  refine s_iconst (v := 0) (n := 2) dX1_passYear_1 rfl (by decide) ?_
  refine s_cv1 (n := 5) dX1_passYear_2 rfl mo_X1_restIn ml_X1_118 rfl (by decide) rfl rfl (Nat.le_of_ble_eq_true rfl) (Nat.le_of_ble_eq_true rfl) (c_X1_restIn hb28 hT hK.t0 hK.t1 hK.t6 _ (hK.top wn00) (fun g1 hf1 _ _ _ => ?_))
  dsimp only [m_push]
  have hT1 : TW g1 28 t := hT.fr hf1
  have e28 : g1 28 = g 28 := hf1 28 (by decide)
  have fr1 : m_fr [28, 30, 31, 32, 33, 34, 35, 36, 37] g g1 := hf1.mono (by simp)
  unfold sRest passT at hQ
  cases hr : (sRun t (sTop t 0)).1 with
  | none =>
    rw [hr] at hQ
    dsimp only [eC] at hQ ⊢
    refine s_istore_n (n := 6) dX1_passYear_5 rfl rfl (by decide) rfl rfl ?_
    refine s_aload_n (n := 7) dX1_passYear_6 rfl rfl rfl ?_
    refine s_dup (n := 8) dX1_passYear_7 rfl rfl ?_
    refine s_geti (n := 11) dX1_passYear_8 rfl fl_X1_48 rfl rfl ?_
    rw [hT1.1.2.2.2.2.2.2.2.1]
    refine s_iconst (v := 1) (n := 12) dX1_passYear_11 rfl (by decide) ?_
    refine s_iadd (n := 13) dX1_passYear_12 rfl ?_
    refine s_puti (n := 16) dX1_passYear_13 rfl fl_X1_48 rfl rfl rfl ?_
    refine s_iload_n (n := 17) dX1_passYear_16 rfl rfl rfl ?_
    refine s_if_lt (n := 20) (t := 35) dX1_passYear_17 (by decide) rfl (fun _ => ?_) (fun h => absurd h (by decide))
    refine s_iload_n (n := 36) dX1_passYear_35 rfl rfl rfl ?_
    refine s_ireturn dX1_passYear_36 rfl rfl ?_
    exact hQ _ (fr1.up2 (by simp)) (by rw [m_up_k, if_neg (by decide), e28]) (hT1.year _)
  | some h =>
    obtain ⟨hh, hcnt⟩ := sRun_lt hr
    rw [hr] at hQ
    dsimp only [eC] at hQ ⊢
    refine s_istore_n (n := 6) dX1_passYear_5 rfl rfl (by decide) rfl rfl ?_
    refine s_aload_n (n := 7) dX1_passYear_6 rfl rfl rfl ?_
    refine s_dup (n := 8) dX1_passYear_7 rfl rfl ?_
    refine s_geti (n := 11) dX1_passYear_8 rfl fl_X1_48 rfl rfl ?_
    rw [hT1.1.2.2.2.2.2.2.2.1]
    refine s_iconst (v := 1) (n := 12) dX1_passYear_11 rfl (by decide) ?_
    refine s_iadd (n := 13) dX1_passYear_12 rfl ?_
    refine s_puti (n := 16) dX1_passYear_13 rfl fl_X1_48 rfl rfl rfl ?_
    refine s_iload_n (n := 17) dX1_passYear_16 rfl rfl rfl ?_
    refine s_if_lt (n := 20) (t := 35) dX1_passYear_17 (by decide) rfl (fun h17 => ?_) (fun h17 => ?_)
    · exact absurd h17 (nI_pos (by omega))
    · refine s_aload_n (n := 21) dX1_passYear_20 rfl rfl rfl ?_
      refine s_getr (k2 := 29) (n := 24) dX1_passYear_21 rfl fl_X1_11 rfl rfl rfl ?_
      refine s_iload_n (n := 25) dX1_passYear_24 rfl rfl rfl ?_
      refine s_aaload (k2 := 32 + h) (t := 0) h (n := 26) dX1_passYear_25 rfl rfl (by decide) rfl hh rfl ?_
      refine s_dup (n := 27) dX1_passYear_26 rfl rfl ?_
      refine s_geti (n := 30) dX1_passYear_27 rfl fl_X1_71 rfl (hbh hb28 hh) ?_
      rw [m_up_o (by omega), (hT1.2 h hh hcnt).2.2.2.2]
      refine s_iconst (v := 1) (n := 31) dX1_passYear_30 rfl (by decide) ?_
      refine s_iadd (n := 32) dX1_passYear_31 rfl ?_
      refine s_puti (n := 35) dX1_passYear_32 rfl fl_X1_71 rfl rfl (hbh hb28 hh) ?_
      refine s_iload_n (n := 36) dX1_passYear_35 rfl rfl rfl ?_
      refine s_ireturn dX1_passYear_36 rfl rfl ?_
      exact hQ _ ((fr1.up2 (by simp)).up2 (by rcases (show h = 0 ∨ h = 1 ∨ h = 2 ∨ h = 3 ∨ h = 4 ∨ h = 5 by omega) with rfl | rfl | rfl | rfl | rfl | rfl <;> simp)) (by rw [m_up_o (by omega), m_up_k, if_neg (by decide), e28]) ((hT1.year _).got hh _)
theorem lp_X8_years {SL d : Nat} {Q : Option Int32 → m_G → Prop} (nn : Nat) (hnn : nn ≤ 24) : ∀ (n k : Nat) (g : m_G) (t : m_T) (ps : List m_T) (r : Option Nat) {y : Nat}, k + n = nn → g 28 2 = 1 → TW g 28 t → a_TK t → t 7 = nI y → y + n ≤ 999 → g 20 3 = nI ps.length → ps.length ≤ 24 → C_ac g ps.length t ps → (∀ i, r = some i → i < 6) →
   (∀ g2, m_fr m_hcl g g2 → g2 28 2 = 1 → TW g2 28 (yrs n t ps r).1 → g2 20 3 = nI (yrs n t ps r).2.1.length → (yrs n t ps r).2.1.length ≤ 24 → C_ac g2 (yrs n t ps r).2.1.length (yrs n t ps r).1 (yrs n t ps r).2.1 → Q (some (eM (yrs n t ps r).2.2)) g2) → Sim SL (d + 6) yX8_years cX8_years 4 (some .int) 48 [.ref 0, .int (nI nn), .int (eC r), .int (nI k)] [] g Q := by
  intro n
  induction n with
  | zero =>
    intro k g t ps r y hin h2 hT hK hy hy9 h20 hl hac hr6 hQ
    have hk : k = nn := by omega
    subst hk
    refine s_iload_n (n := 49) dX8_years_48 rfl rfl rfl ?_
    refine s_iload_n (n := 50) dX8_years_49 rfl rfl rfl ?_
    refine s_icmp_ge (n := 53) (t := 77) dX8_years_50 (by decide) rfl (fun h50 => ?_) (fun h50 => ?_)
    · refine s_iload_n (n := 78) dX8_years_77 rfl rfl rfl ?_
      refine s_cs1 (n := 81) dX8_years_78 rfl mo_X8_orNone ml_X8_150 rfl (Nat.le_of_ble_eq_true rfl) (Nat.le_of_ble_eq_true rfl) (c_X8_orNone _ ?_)
      dsimp only [m_push]
      refine s_ireturn dX8_years_81 rfl rfl ?_
      rw [orN_e hr6]
      exact hQ g m_fr.rf h2 hT h20 hl hac
    · exact absurd (nI_le (Nat.le_refl _) (by omega)) h50
  | succ n ih =>
    intro k g t ps r y hin h2 hT hK hy hy9 h20 hl hac hr6 hQ
    have hk : k < nn := by omega
    refine s_iload_n (n := 49) dX8_years_48 rfl rfl rfl ?_
    refine s_iload_n (n := 50) dX8_years_49 rfl rfl rfl ?_
    refine s_icmp_ge (n := 53) (t := 77) dX8_years_50 (by decide) rfl (fun h50 => ?_) (fun h50 => ?_)
    · exact absurd h50 (nI_ge hk (by omega))
    · refine s_aload_n (n := 54) dX8_years_53 rfl rfl rfl ?_
      refine s_getr (k2 := 28) (n := 57) dX8_years_54 rfl fl_X8_25 rfl rfl rfl ?_
      refine s_cv0 (n := 60) dX8_years_57 rfl mo_X1_passYear ml_X8_142 rfl (by decide) rfl rfl (Nat.le_of_ble_eq_true rfl) (Nat.le_of_ble_eq_true rfl) (c_X1_passYear hT hK (fun g1 hf1 e1 hT1 => ?_))
      dsimp only [m_push]
      refine s_istore_n (n := 61) dX8_years_60 rfl rfl (by decide) rfl rfl ?_
      refine s_aload_n (n := 62) dX8_years_61 rfl rfl rfl ?_
      refine s_getr (k2 := 20) (n := 65) dX8_years_62 rfl fl_X8_39 rfl rfl rfl ?_
      refine s_iconst (v := 0) (n := 66) dX8_years_65 rfl (by decide) ?_
      refine s_iload_n (n := 67) dX8_years_66 rfl rfl rfl ?_
      refine s_iconst (v := 0) (n := 68) dX8_years_67 rfl (by decide) ?_
      refine s_cv3 (n := 71) dX8_years_68 rfl mo_X0_keep ml_X8_146 rfl (by decide) rfl rfl (Nat.le_of_ble_eq_true rfl) (Nat.le_of_ble_eq_true rfl) (c_X0_keep (ps := ps) (cur := t) (new := passT t) (by rw [hf1 20 (by decide)]; exact h20) hl (C_ac.kept (hf1 21 (by decide)) (hf1 22 (by decide)) (hf1 23 (by decide)) _ _ _ hac) _ _ _ (tkb_year hK.2.1) (fun g2 hf2 v1 v2 => ?_))
      dsimp only [m_push]
      refine s_iinc (n := 74) (v := nI (k + 1)) dX8_years_71 rfl (by decide) rfl rfl (nI_1 k) rfl ?_
      refine s_goto (t := 48) dX8_years_74 (by decide) ?_
      have hf3 : m_fr m_hcl g g2 := (hf1.mono (by decide)).tr (hf2.mono (by decide))
      refine ih (k + 1) g2 (passT t) (a_push t ps) (sRest t 0) (by omega) ?_ (hT1.kept (hf2 28 (by decide)) (fun i hi => hf2 _ (by simp; omega))) (hK.pass hy (by omega)) (by rw [passT7, hy, nI_1]) (by omega) v1 (a_push_le _ _) v2 sRun6 (fun g3 hf => hQ g3 (hf3.tr hf))
      rw [hf2 28 (by decide), e1]; exact h2
theorem C_years {SL : Nat} {d : Nat} {Q : Option Int32 → m_G → Prop} {g : m_G} {a : a_S} (hA : a_OK a) (hC : C_R g a) (n : Int32) (hQ : E_C g a Q (sp_years a n)) : Sim SL (d + 6) yX8_years cX8_years 4 (some .int) 0 [.ref 0, .int n, .null, .null] [] g Q := by
  unfold E_C sp_years at hQ
  have hT : TW g 28 (a_H a) := hC.2.2.1.2
  have hac := hC.2.2.2.1.2.2
  refine s_aload_n (n := 1) dX8_years_0 rfl rfl rfl ?_
  refine s_getr (k2 := 28) (n := 4) dX8_years_1 rfl fl_X8_25 rfl rfl rfl ?_
  refine s_geti (n := 7) dX8_years_4 rfl fl_X8_135 rfl rfl ?_
  rw [hC.2.2.1.1]
  refine s_if_ne (n := 10) (t := 13) dX8_years_7 (by decide) rfl (fun h7 => ?_) (fun h7 => ?_)
  · obtain ⟨t, hh⟩ : ∃ t, a_hill a = some t := by
      cases hh : a_hill a with
      | none => rw [hh] at h7; exact absurd rfl h7
      | some t => exact ⟨t, rfl⟩
    have hHt : a_H a = t := by unfold a_H a_T; rw [hh]; rfl
    have hK := hA.1 t hh
    rw [hHt] at hT
    rw [hh] at hQ
    dsimp only at hQ
    unfold a_T at hac
    rw [hh] at hac
    refine s_iload_n (n := 14) dX8_years_13 rfl rfl rfl ?_
    refine s_iconst (v := 1) (n := 15) dX8_years_14 rfl (by decide) ?_
    refine s_bipush (v := 24) (n := 17) dX8_years_15 rfl (by decide) ?_
    refine s_cs3 (n := 20) dX8_years_17 rfl mo_X8_within ml_X8_62 rfl (Nat.le_of_ble_eq_true rfl) (Nat.le_of_ble_eq_true rfl) (c_X8_within _ _ _ (fun hb17 => ?_) (fun hb17 => ?_))
    · dsimp only [m_push]
      refine s_if_ne (n := 23) (t := 26) dX8_years_20 (by decide) rfl (fun _ => ?_) (fun h => absurd h (by decide))
      refine s_aload_n (n := 27) dX8_years_26 rfl rfl rfl ?_
      refine s_getr (k2 := 28) (n := 30) dX8_years_27 rfl fl_X8_25 rfl rfl rfl ?_
      refine s_geti (n := 33) dX8_years_30 rfl fl_X8_139 rfl rfl ?_
      rw [hT.1.2.2.2.2.2.2.2.1]
      refine s_iload_n (n := 34) dX8_years_33 rfl rfl rfl ?_
      refine s_iadd (n := 35) dX8_years_34 rfl ?_
      refine s_sipush (v := 999) (n := 38) dX8_years_35 rfl (by decide) ?_
      refine s_icmp_le (n := 41) (t := 44) dX8_years_38 (by decide) rfl (fun h38 => ?_) (fun h38 => ?_)
      · refine s_iconst (v := -1) (n := 45) dX8_years_44 rfl (by decide) ?_
        refine s_istore_n (n := 46) dX8_years_45 rfl rfl (by decide) rfl rfl ?_
        refine s_iconst (v := 0) (n := 47) dX8_years_46 rfl (by decide) ?_
        refine s_istore_n (n := 48) dX8_years_47 rfl rfl (by decide) rfl rfl ?_
        obtain ⟨nn, hn24, rfl⟩ := wn_ex (x := n) (M := 24) (n := 24) ⟨fun q => hb17.1 (by rw [i32_lt] at *; have := ti0; have := ti1; omega), hb17.2⟩ rfl
        obtain ⟨y, hy9, hy⟩ := wn_ex (n := 999) hK.2.2.2.2.2.2.2.1 rfl
        have hyn : y + nn ≤ 999 := by
          have q := h38
          rw [hy, nI_add, i32_le, nI_toInt (by omega)] at q
          have : (999 : Int32).toInt = 999 := rfl
          omega
        rw [if_pos hb17, if_pos (by rw [hy, nI_add]; exact nI_le hyn (by decide)), nI_clamp (show nn < 2 ^ 31 by omega)] at hQ
        refine lp_X8_years nn hn24 nn 0 g t (a_past a) none (by omega) (by rw [hC.2.2.1.1, hh]; rfl) hT hK hy hyn hC.2.2.2.1.1 hC.2.2.2.1.2.1 hac (fun i hi => by cases hi) (fun g2 hf w1 w2 w3 w4 w5 => ?_)
        exact hQ g2 (hC.act hf w1 w2 w3 w4 w5) (hf.FC (by decide))
      · refine s_ldc (n := 43) dX8_years_41 rfl kc_X8_110 ?_
        refine s_ireturn dX8_years_43 rfl rfl ?_
        rw [if_pos hb17, if_neg h38] at hQ
        exact hQ g hC F_C.rf
    · dsimp only [m_push]
      refine s_if_ne (n := 23) (t := 26) dX8_years_20 (by decide) rfl (fun h => absurd h (by decide)) (fun _ => ?_)
      refine s_ldc (n := 25) dX8_years_23 rfl kc_X8_66 ?_
      refine s_ireturn dX8_years_25 rfl rfl ?_
      rw [if_neg hb17] at hQ
      exact hQ g hC F_C.rf
  · refine s_ldc (n := 12) dX8_years_10 rfl kc_X8_138 ?_
    refine s_ireturn dX8_years_12 rfl rfl ?_
    cases hh : a_hill a with
    | none => rw [hh] at hQ; exact hQ g hC F_C.rf
    | some t => rw [hh] at h7; exact absurd h7 (by show ¬ (1 : Int32) = 0; decide)
theorem c_X9_rollsNow {SL : Nat} {d : Nat} {Q : Option Int32 → m_G → Prop} {g : m_G} {t : m_T} {b : Nat} {x : Int32} (hb : b ≤ 1053) (hx : x = nI b) (hT : TM g b t) (hti : t 0 ≤ 9) (hc : t 1 ≤ 6) (hev : ¬ t 6 ≤ 0) (hkk : tKD t) (hsp : ¬ t 4 ≤ 0) (hQ : sGoM g Q (sRun t (sTop t 0))) : Sim SL (d + 3) yX9_rollsNow cX9_rollsNow 2 (some .int) 0 [.ref 78, .int x] [] g Q := by
  subst hx
  refine s_aload_n (n := 1) dX9_rollsNow_0 rfl rfl rfl ?_
  refine s_iload_n (n := 2) dX9_rollsNow_1 rfl rfl rfl ?_
  refine s_aload_n (n := 3) dX9_rollsNow_2 rfl rfl rfl ?_
  refine s_iload_n (n := 4) dX9_rollsNow_3 rfl rfl rfl ?_
  refine s_cv1 (n := 7) dX9_rollsNow_4 rfl mo_X9_startOf ml_X9_176 rfl (by decide) rfl rfl (Nat.le_of_ble_eq_true rfl) (Nat.le_of_ble_eq_true rfl) (c_X9_startOf hb hT ?_)
  dsimp only [m_push]
  rw [show ire (t 2 + t 3 * t 7) 7 = sTop t 0 by unfold sTop; rw [Int32.add_zero]]
  refine s_cv2 (n := 10) dX9_rollsNow_7 rfl mo_X9_goes ml_X9_179 rfl (by decide) rfl rfl (Nat.le_of_ble_eq_true rfl) (Nat.le_of_ble_eq_true rfl) (c_X9_goes hb hT hti hc hev hkk hsp _ (fun g2 w1 w2 w3 => ?_))
  dsimp only [m_push]
  refine s_ireturn dX9_rollsNow_10 rfl rfl ?_
  exact hQ g2 w1 w2 w3
theorem c_X9_pass {SL : Nat} {d : Nat} {Q : Option Int32 → m_G → Prop} {g : m_G} {t : m_T} (hT : TM g 0 t) (hK : a_TK t) (hQ : ∀ g2, m_fr [78, 79, 89] g g2 → (∀ j, j ≠ 20 → g2 78 j = g 78 j) → (∀ j, 39 ≤ j → g2 79 j = g 79 j) → TM g2 0 (passT t) → Q (some (eM (sRest t 0))) g2) : Sim SL (d + 4) yX9_pass cX9_pass 3 (some .int) 0 [.ref 78, .int 0, .null] [] g Q := by
  refine s_aload_n (n := 1) dX9_pass_0 rfl rfl rfl ?_
  refine s_iload_n (n := 2) dX9_pass_1 rfl rfl rfl ?_
  refine s_cv1 (n := 5) dX9_pass_2 rfl mo_X9_rollsNow ml_X9_182 rfl (by decide) rfl rfl (Nat.le_of_ble_eq_true rfl) (Nat.le_of_ble_eq_true rfl) (c_X9_rollsNow (b := 0) (by decide) rfl hT hK.t0 hK.t1 hK.t6 hK.kd hK.t4 (fun g1 hf1 _ _ => ?_))
  dsimp only [m_push]
  have hT1 : TM g1 0 t := hT.fr hf1
  have fr1 : m_fr [78, 79, 89] g g1 := hf1.1.mono (by simp)
  have e79 : g1 79 = g 79 := hf1.1 79 (by decide)
  unfold sRest passT at hQ
  cases hr : (sRun t (sTop t 0)).1 with
  | none =>
    rw [hr] at hQ
    dsimp only [eM] at hQ ⊢
    refine s_istore_n (n := 6) dX9_pass_5 rfl rfl (by decide) rfl rfl ?_
    refine s_iload_n (n := 7) dX9_pass_6 rfl rfl rfl ?_
    refine s_ldc (n := 9) dX9_pass_7 rfl kc_X9_128 ?_
    refine s_icmp_eq (n := 12) (t := 27) dX9_pass_9 (by decide) rfl (fun _ => ?_) (fun h => absurd h (by decide))
    refine s_aload_n (n := 28) dX9_pass_27 rfl rfl rfl ?_
    refine s_getr (k2 := 79) (n := 31) dX9_pass_28 rfl fl_X9_7 rfl rfl rfl ?_
    refine s_iload_n (n := 32) dX9_pass_31 rfl rfl rfl ?_
    refine s_bipush (v := 7) (n := 34) dX9_pass_32 rfl (by decide) ?_
    refine s_iadd (n := 35) dX9_pass_34 rfl ?_
    refine s_dup2 (n := 36) dX9_pass_35 rfl rfl rfl ?_
    refine s_iaload 7 (n := 37) dX9_pass_36 rfl rfl rfl (by decide) ?_
    rw [hT1.z (by decide)]
    refine s_iconst (v := 1) (n := 38) dX9_pass_37 rfl (by decide) ?_
    refine s_iadd (n := 39) dX9_pass_38 rfl ?_
    refine s_iastore 7 (n := 40) dX9_pass_39 rfl rfl rfl (by decide) ?_
    refine s_iload_n (n := 41) dX9_pass_40 rfl rfl rfl ?_
    refine s_ireturn dX9_pass_41 rfl rfl ?_
    exact hQ _ (fr1.up2 (by simp)) (fun j hj => by rw [m_up_o (by decide)]; exact hf1.2 j hj) (fun j hj => by rw [m_up_k, if_neg (by omega), e79]) (hT1.up _)
  | some h =>
    obtain ⟨hh, hcnt⟩ := sRun_lt hr
    rw [hr] at hQ
    dsimp only [eM] at hQ ⊢
    have hcomm : ∀ (u v : Int32), upd (upd t (33 + h) u) 7 v = upd (upd t 7 v) (33 + h) u := by
      intro u v
      funext j
      by_cases h1 : j = 7
      · subst h1; rw [upd_eq, upd_ne (by omega), upd_eq]
      · rw [upd_ne h1]
        by_cases h2 : j = 33 + h
        · subst h2; rw [upd_eq, upd_eq]
        · rw [upd_ne h2, upd_ne h2, upd_ne h1]
    refine s_istore_n (n := 6) dX9_pass_5 rfl rfl (by decide) rfl rfl ?_
    refine s_iload_n (n := 7) dX9_pass_6 rfl rfl rfl ?_
    refine s_ldc (n := 9) dX9_pass_7 rfl kc_X9_128 ?_
    refine s_icmp_eq (n := 12) (t := 27) dX9_pass_9 (by decide) rfl (fun h9 => ?_) (fun h9 => ?_)
    · exact absurd h9 (eM_ne hh)
    · refine s_aload_n (n := 13) dX9_pass_12 rfl rfl rfl ?_
      refine s_getr (k2 := 79) (n := 16) dX9_pass_13 rfl fl_X9_7 rfl rfl rfl ?_
      refine s_iload_n (n := 17) dX9_pass_16 rfl rfl rfl ?_
      refine s_bipush (v := 33) (n := 19) dX9_pass_17 rfl (by decide) ?_
      refine s_iadd (n := 20) dX9_pass_19 rfl ?_
      refine s_iload_n (n := 21) dX9_pass_20 rfl rfl rfl ?_
      refine s_iadd (n := 22) dX9_pass_21 rfl ?_
      refine s_dup2 (n := 23) dX9_pass_22 rfl rfl rfl ?_
      refine s_iaload (33 + h) (n := 24) dX9_pass_23 rfl rfl (by rw [show (0 : Int32) + 33 = nI 33 from rfl, nI_add]) (by omega) ?_
      rw [hT1.z (by omega)]
      refine s_iconst (v := 1) (n := 25) dX9_pass_24 rfl (by decide) ?_
      refine s_iadd (n := 26) dX9_pass_25 rfl ?_
      refine s_iastore (33 + h) (n := 27) dX9_pass_26 rfl rfl (by rw [show (0 : Int32) + 33 = nI 33 from rfl, nI_add]) (by omega) ?_
      refine s_aload_n (n := 28) dX9_pass_27 rfl rfl rfl ?_
      refine s_getr (k2 := 79) (n := 31) dX9_pass_28 rfl fl_X9_7 rfl rfl rfl ?_
      refine s_iload_n (n := 32) dX9_pass_31 rfl rfl rfl ?_
      refine s_bipush (v := 7) (n := 34) dX9_pass_32 rfl (by decide) ?_
      refine s_iadd (n := 35) dX9_pass_34 rfl ?_
      refine s_dup2 (n := 36) dX9_pass_35 rfl rfl rfl ?_
      refine s_iaload 7 (n := 37) dX9_pass_36 rfl rfl rfl (by decide) ?_
      rw [m_up_k, if_neg (by omega), hT1.z (by decide)]
      refine s_iconst (v := 1) (n := 38) dX9_pass_37 rfl (by decide) ?_
      refine s_iadd (n := 39) dX9_pass_38 rfl ?_
      refine s_iastore 7 (n := 40) dX9_pass_39 rfl rfl rfl (by decide) ?_
      refine s_iload_n (n := 41) dX9_pass_40 rfl rfl rfl ?_
      refine s_ireturn dX9_pass_41 rfl rfl ?_
      refine hQ _ ((fr1.up2 (by simp)).up2 (by simp)) (fun j hj => by rw [m_up_o (by decide), m_up_o (by decide)]; exact hf1.2 j hj) (fun j hj => by rw [m_up_k, if_neg (by omega), m_up_k, if_neg (by omega), e79]) ?_
      rw [← hcomm]
      exact (hT1.up _).up _
theorem lp_X9_years {SL d : Nat} {Q : Option Int32 → m_G → Prop} (nn : Nat) (hnn : nn ≤ 24) : ∀ (n k : Nat) (g : m_G) (t : m_T) (ps : List m_T) (r : Option Nat) {y : Nat}, k + n = nn → TM g 0 t → a_TK t → t 7 = nI y → y + n ≤ 999 → g 78 2 = nI ps.length → ps.length ≤ 24 → M_pa g ps →
   (∀ g2, m_fr [78, 79, 89] g g2 → (∀ j, j ≠ 2 → j ≠ 20 → g2 78 j = g 78 j) → (∀ j, 975 ≤ j → j < 1053 → g2 79 j = g 79 j) → TM g2 0 (yrs n t ps r).1 → g2 78 2 = nI (yrs n t ps r).2.1.length → (yrs n t ps r).2.1.length ≤ 24 → M_pa g2 (yrs n t ps r).2.1 → Q (some (eM (yrs n t ps r).2.2)) g2) → Sim SL (d + 5) yX9_years cX9_years 4 (some .int) 48 [.ref 78, .int (nI nn), .int (eM r), .int (nI k)] [] g Q := by
  intro n
  induction n with
  | zero =>
    intro k g t ps r y hin hT hK hy hy9 h20 hl hac hQ
    have hk : k = nn := by omega
    subst hk
    refine s_iload_n (n := 49) dX9_years_48 rfl rfl rfl ?_
    refine s_iload_n (n := 50) dX9_years_49 rfl rfl rfl ?_
    refine s_icmp_ge (n := 53) (t := 69) dX9_years_50 (by decide) rfl (fun h50 => ?_) (fun h50 => ?_)
    · refine s_iload_n (n := 70) dX9_years_69 rfl rfl rfl ?_
      refine s_ireturn dX9_years_70 rfl rfl ?_
      exact hQ g m_fr.rf (fun _ _ _ => rfl) (fun _ _ _ => rfl) hT h20 hl hac
    · exact absurd (nI_le (Nat.le_refl _) (by omega)) h50
  | succ n ih =>
    intro k g t ps r y hin hT hK hy hy9 h20 hl hac hQ
    have hk : k < nn := by omega
    refine s_iload_n (n := 49) dX9_years_48 rfl rfl rfl ?_
    refine s_iload_n (n := 50) dX9_years_49 rfl rfl rfl ?_
    refine s_icmp_ge (n := 53) (t := 69) dX9_years_50 (by decide) rfl (fun h50 => ?_) (fun h50 => ?_)
    · exact absurd h50 (nI_ge hk (by omega))
    · refine s_aload_n (n := 54) dX9_years_53 rfl rfl rfl ?_
      refine s_cv0 (n := 57) dX9_years_54 rfl mo_X9_keepPast ml_X9_187 rfl (by decide) rfl rfl (Nat.le_of_ble_eq_true rfl) (Nat.le_of_ble_eq_true rfl) (c_X9_keepPast h20 hl hac hT (fun g1 hf1 w1 w2 w3 w4 => ?_))
      have hT1 : TM g1 0 t := hT.kept (fun j hj => w2 _ (by omega))
      dsimp only [m_push]
      refine s_aload_n (n := 58) dX9_years_57 rfl rfl rfl ?_
      refine s_iconst (v := 0) (n := 59) dX9_years_58 rfl (by decide) ?_
      refine s_cv1 (n := 62) dX9_years_59 rfl mo_X9_pass ml_X9_190 rfl (by decide) rfl rfl (Nat.le_of_ble_eq_true rfl) (Nat.le_of_ble_eq_true rfl) (c_X9_pass hT1 hK (fun g2 hf2 v1 v2 v3 => ?_))
      dsimp only [m_push]
      refine s_istore_n (n := 63) dX9_years_62 rfl rfl (by decide) rfl rfl ?_
      refine s_iinc (n := 66) (v := nI (k + 1)) dX9_years_63 rfl (by decide) rfl rfl (nI_1 k) rfl ?_
      refine s_goto (t := 48) dX9_years_66 (by decide) ?_
      have hf3 : m_fr [78, 79, 89] g g2 := (hf1.mono (by decide)).tr hf2
      refine ih (k + 1) g2 (passT t) (a_push t ps) (sRest t 0) (by omega) v3 (hK.pass hy (by omega)) (by rw [passT7, hy, nI_1]) (by omega) (by rw [v1 2 (by decide)]; exact w3) (a_push_le _ _) (M_pa.kept2 (fun j hj _ => v2 j hj) _ (a_push_le _ _) w4) (fun g3 hf e e9 => hQ g3 (hf3.tr hf) (fun j hj hj2 => by rw [e j hj hj2, v1 j hj2, w1 j hj]) (fun j hj hj2 => by rw [e9 j hj hj2, v2 j (by omega), w2 j (by omega)]))
theorem M_years {SL : Nat} {d : Nat} {Q : Option Int32 → m_G → Prop} {g : m_G} {a : a_S} (hA : a_OK a) (hM : M_R g a) (n : Int32) (hQ : E_M g a Q (sp_years a n)) : Sim SL (d + 5) yX9_years cX9_years 4 (some .int) 0 [.ref 78, .int n, .null, .null] [] g Q := by
  unfold E_M sp_years at hQ
  have hT : TM g 0 (a_H a) := hM.2.2.1.2
  refine s_aload_n (n := 1) dX9_years_0 rfl rfl rfl ?_
  refine s_geti (n := 4) dX9_years_1 rfl fl_X9_150 rfl rfl ?_
  rw [hM.2.2.1.1]
  refine s_if_ne (n := 7) (t := 10) dX9_years_4 (by decide) rfl (fun h4 => ?_) (fun h4 => ?_)
  · obtain ⟨t, hh⟩ : ∃ t, a_hill a = some t := by
      cases hh : a_hill a with
      | none => rw [hh] at h4; exact absurd rfl h4
      | some t => exact ⟨t, rfl⟩
    have hHt : a_H a = t := by unfold a_H a_T; rw [hh]; rfl
    have hK := hA.1 t hh
    rw [hHt] at hT
    rw [hh] at hQ
    dsimp only at hQ
    refine s_iload_n (n := 11) dX9_years_10 rfl rfl rfl ?_
    refine s_i2l (n := 12) dX9_years_11 rfl ?_
    refine s_lconst (v := 1) (n := 13) dX9_years_12 rfl (by decide) ?_
    refine s_ldc2 (n := 16) dX9_years_13 rfl kc_X9_185 ?_
    refine s_cs3 (n := 19) dX9_years_16 rfl mo_X9_in ml_X9_60 rfl (Nat.le_of_ble_eq_true rfl) (Nat.le_of_ble_eq_true rfl) (c_X9_in (1) (24) rfl (by decide) (by decide) (fun hb16 => ?_) (fun hb16 => ?_))
    · dsimp only [m_push]
      refine s_if_ne (n := 22) (t := 25) dX9_years_19 (by decide) rfl (fun _ => ?_) (fun h => absurd h (by decide))
      refine s_aload_n (n := 26) dX9_years_25 rfl rfl rfl ?_
      refine s_getr (k2 := 79) (n := 29) dX9_years_26 rfl fl_X9_7 rfl rfl rfl ?_
      refine s_bipush (v := 7) (n := 31) dX9_years_29 rfl (by decide) ?_
      refine s_iaload 7 (n := 32) dX9_years_31 rfl rfl rfl (by decide) ?_
      rw [hT.z (by decide)]
      refine s_iload_n (n := 33) dX9_years_32 rfl rfl rfl ?_
      refine s_iadd (n := 34) dX9_years_33 rfl ?_
      refine s_sipush (v := 999) (n := 37) dX9_years_34 rfl (by decide) ?_
      refine s_icmp_le (n := 40) (t := 43) dX9_years_37 (by decide) rfl (fun h37 => ?_) (fun h37 => ?_)
      · refine s_ldc (n := 45) dX9_years_43 rfl kc_X9_128 ?_
        refine s_istore_n (n := 46) dX9_years_45 rfl rfl (by decide) rfl rfl ?_
        refine s_iconst (v := 0) (n := 47) dX9_years_46 rfl (by decide) ?_
        refine s_istore_n (n := 48) dX9_years_47 rfl rfl (by decide) rfl rfl ?_
        obtain ⟨nn, hn24, rfl⟩ := wn_ex (x := n) (M := 24) (n := 24) ⟨fun q => hb16.1 (by rw [i32_lt] at *; have := ti0; have := ti1; omega), hb16.2⟩ rfl
        obtain ⟨y, hy9, hy⟩ := wn_ex (n := 999) hK.2.2.2.2.2.2.2.1 rfl
        have hyn : y + nn ≤ 999 := by
          have q := h37
          rw [hy, nI_add, i32_le, nI_toInt (by omega)] at q
          have : (999 : Int32).toInt = 999 := rfl
          omega
        rw [if_pos hb16, if_pos (by rw [hy, nI_add]; exact nI_le hyn (by decide)), nI_clamp (show nn < 2 ^ 31 by omega)] at hQ
        refine lp_X9_years nn hn24 nn 0 g t (a_past a) none (by omega) hT hK hy hyn hM.2.2.2.1.1 hM.2.2.2.1.2.1 hM.2.2.2.1.2.2 (fun g2 hf w1 w2 w3 w4 w5 w6 => ?_)
        exact hQ g2 (hM.act hf w1 w2 (by rw [w1 1 (by decide) (by decide), hM.2.2.1.1, hh]; rfl) w3 w4 w5 w6) (hf.FM (by decide))
      · refine s_ldc (n := 42) dX9_years_40 rfl kc_X9_91 ?_
        refine s_ireturn dX9_years_42 rfl rfl ?_
        rw [if_pos hb16, if_neg h37] at hQ
        exact hQ g hM F_M.rf
    · dsimp only [m_push]
      refine s_if_ne (n := 22) (t := 25) dX9_years_19 (by decide) rfl (fun h => absurd h (by decide)) (fun _ => ?_)
      refine s_ldc (n := 24) dX9_years_22 rfl kc_X9_70 ?_
      refine s_ireturn dX9_years_24 rfl rfl ?_
      rw [if_neg hb16] at hQ
      exact hQ g hM F_M.rf
  · refine s_ldc (n := 9) dX9_years_7 rfl kc_X9_157 ?_
    refine s_ireturn dX9_years_9 rfl rfl ?_
    cases hh : a_hill a with
    | none => rw [hh] at hQ; exact hQ g hM F_M.rf
    | some t => rw [hh] at h4; exact absurd h4 (by show ¬ (1 : Int32) = 0; decide)
