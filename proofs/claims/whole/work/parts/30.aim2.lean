theorem aim_bt : ∀ i, i < 6 → ∀ p, p < 7 → (bt ((1 : Int32) <<< (nI i &&& 31)) (nI p) = 1 ↔ p = i) := by decide +kernel
theorem shun_bt : ∀ s, s < 64 → ∀ p, p < 7 → (bt (nI s ^^^ (-1)) (nI p) = 1 ↔ (p = 6 ∨ ¬ bt (nI s) (nI p) = 1)) := by decide +kernel
theorem aimG_c {i : Nat} (hi : i < 6) : ∀ o : Option Nat, (∀ q, o = some q → q < 6) → (bt ((1 : Int32) <<< (nI i &&& 31)) (match o with
    | none => 6
    | some i => nI i) = 1 ↔ aimG i o = true) := by
  intro o ho
  unfold aimG
  rw [decide_eq_true_eq]
  cases o with
  | none => rw [show ((6 : Int32)) = nI 6 from rfl, aim_bt i hi 6 (by decide)]; exact ⟨fun q => by omega, fun q => by cases q⟩
  | some q => rw [aim_bt i hi q (by have := ho q rfl; omega)]; exact ⟨fun z => by rw [z], fun z => by cases z; rfl⟩
theorem shunG_c {s : Nat} (hs : s < 64) : ∀ o : Option Nat, (∀ q, o = some q → q < 6) → (bt (nI s ^^^ (-1)) (match o with
    | none => 6
    | some i => nI i) = 1 ↔ shunG (nI s) o = true) := by
  intro o ho
  unfold shunG
  cases o with
  | none => rw [show ((6 : Int32)) = nI 6 from rfl, shun_bt s hs 6 (by decide)]; exact ⟨fun _ => rfl, fun _ => Or.inl rfl⟩
  | some q =>
    have hq := ho q rfl
    rw [shun_bt s hs q (by omega), decide_eq_true_eq]
    exact ⟨fun z => z.elim (fun e => by omega) id, Or.inr⟩
theorem C_aim {SL : Nat} {d : Nat} {Q : Option Int32 → m_G → Prop} {g : m_G} {a : a_S} (hA : a_OK a) (hC : C_R g a) (h x w : Int32) (hQ : E_C g a Q (sp_aim a h x w)) : Sim SL (d + 6) yX8_aim cX8_aim 4 (some .int) 0 [.ref 0, .int h, .int x, .int w] [] g Q := by
  unfold E_C sp_aim at hQ
  have hT : TW g 28 (a_H a) := hC.2.2.1.2
  refine s_aload_n (n := 1) dX8_aim_0 rfl rfl rfl ?_
  refine s_iload_n (n := 2) dX8_aim_1 rfl rfl rfl ?_
  refine s_cv1 (n := 5) dX8_aim_2 rfl mo_X8_isHouse ml_X8_153 rfl (by decide) rfl rfl (Nat.le_of_ble_eq_true rfl) (Nat.le_of_ble_eq_true rfl) (c_X8_isHouse hT _ (fun hb2 => ?_) (fun hb2 => ?_))
  · dsimp only [m_push]
    refine s_if_eq (n := 8) (t := 27) dX8_aim_5 (by decide) rfl (fun h => absurd h (by decide)) (fun _ => ?_)
    refine s_iload_n (n := 9) dX8_aim_8 rfl rfl rfl ?_
    refine s_iconst (v := 0) (n := 10) dX8_aim_9 rfl (by decide) ?_
    refine s_bipush (v := 60) (n := 12) dX8_aim_10 rfl (by decide) ?_
    refine s_cs3 (n := 15) dX8_aim_12 rfl mo_X8_within ml_X8_62 rfl (Nat.le_of_ble_eq_true rfl) (Nat.le_of_ble_eq_true rfl) (c_X8_within _ _ _ (fun hb12 => ?_) (fun hb12 => ?_))
    · dsimp only [m_push]
      refine s_if_eq (n := 18) (t := 27) dX8_aim_15 (by decide) rfl (fun h => absurd h (by decide)) (fun _ => ?_)
      refine s_iload_n (n := 19) dX8_aim_18 rfl rfl rfl ?_
      refine s_iconst (v := 0) (n := 20) dX8_aim_19 rfl (by decide) ?_
      refine s_iconst (v := 1) (n := 21) dX8_aim_20 rfl (by decide) ?_
      refine s_cs3 (n := 24) dX8_aim_21 rfl mo_X8_within ml_X8_62 rfl (Nat.le_of_ble_eq_true rfl) (Nat.le_of_ble_eq_true rfl) (c_X8_within _ _ _ (fun hb21 => ?_) (fun hb21 => ?_))
      · dsimp only [m_push]
        refine s_if_ne (n := 27) (t := 30) dX8_aim_24 (by decide) rfl (fun _ => ?_) (fun h => absurd h (by decide))
        have hK := hA.tk hb2
        obtain ⟨t, hh⟩ := a_hs hA hb2
        obtain ⟨i, hi, rfl, hci⟩ := isH_ex hA.cnt hb2
        rw [nI_clamp (show i < 2 ^ 31 by omega)] at hQ
        refine s_aload_n (n := 31) dX8_aim_30 rfl rfl rfl ?_
        refine s_getr (k2 := 24) (n := 34) dX8_aim_31 rfl fl_X8_46 rfl rfl rfl ?_
        refine s_aload_n (n := 35) dX8_aim_34 rfl rfl rfl ?_
        refine s_getr (k2 := 28) (n := 38) dX8_aim_35 rfl fl_X8_25 rfl rfl rfl ?_
        refine s_iload_n (n := 39) dX8_aim_38 rfl rfl rfl ?_
        refine s_iconst (v := 1) (n := 40) dX8_aim_39 rfl (by decide) ?_
        refine s_iload_n (n := 41) dX8_aim_40 rfl rfl rfl ?_
        refine s_ishl (n := 42) dX8_aim_41 rfl ?_
        refine s_cv3 (n := 45) dX8_aim_42 rfl mo_X5_fewestDoors ml_X8_230 rfl (by decide) rfl rfl (Nat.le_of_ble_eq_true rfl) (Nat.le_of_ble_eq_true rfl) (c_X5_fewestDoors hT (by rw [hC.2.2.1.1, hh]; rfl) hK hb12 (aimG_c hi) (fun g2 hf => ?_))
        dsimp only [m_push]
        refine s_iload_n (n := 46) dX8_aim_45 rfl rfl rfl ?_
        refine s_cs2 (n := 49) dX8_aim_46 rfl mo_X8_sizeOrSet ml_X8_234 rfl (Nat.le_of_ble_eq_true rfl) (Nat.le_of_ble_eq_true rfl) (c_X8_sizeOrSet _ (fwF_lt _ _ _ (by have := pow_c (a_cnE hK.2.1).2; omega) (fun q hq => by cases hq)) _ ?_)
        dsimp only [m_push]
        refine s_ireturn dX8_aim_49 rfl rfl ?_
        simp only [if_pos hb2, if_pos hb12, if_pos hb21] at hQ
        exact hQ g2 (hC.fr hf) (hf.FC (by decide))
      · dsimp only [m_push]
        refine s_if_ne (n := 27) (t := 30) dX8_aim_24 (by decide) rfl (fun h => absurd h (by decide)) (fun _ => ?_)
        refine s_ldc (n := 29) dX8_aim_27 rfl kc_X8_66 ?_
        refine s_ireturn dX8_aim_29 rfl rfl ?_
        simp only [if_pos hb2, if_pos hb12, if_neg hb21] at hQ
        exact hQ g hC F_C.rf
    · dsimp only [m_push]
      refine s_if_eq (n := 18) (t := 27) dX8_aim_15 (by decide) rfl (fun _ => ?_) (fun h => absurd h (by decide))
      refine s_ldc (n := 29) dX8_aim_27 rfl kc_X8_66 ?_
      refine s_ireturn dX8_aim_29 rfl rfl ?_
      simp only [if_pos hb2, if_neg hb12] at hQ
      exact hQ g hC F_C.rf
  · dsimp only [m_push]
    refine s_if_eq (n := 8) (t := 27) dX8_aim_5 (by decide) rfl (fun _ => ?_) (fun h => absurd h (by decide))
    refine s_ldc (n := 29) dX8_aim_27 rfl kc_X8_66 ?_
    refine s_ireturn dX8_aim_29 rfl rfl ?_
    simp only [if_neg hb2] at hQ
    exact hQ g hC F_C.rf
theorem C_shun {SL : Nat} {d : Nat} {Q : Option Int32 → m_G → Prop} {g : m_G} {a : a_S} (hA : a_OK a) (hC : C_R g a) (x y w : Int32) (hQ : E_C g a Q (sp_shun a x y w)) : Sim SL (d + 6) yX8_shun cX8_shun 4 (some .int) 0 [.ref 0, .int x, .int y, .int w] [] g Q := by
  unfold E_C sp_shun at hQ
  have hT : TW g 28 (a_H a) := hC.2.2.1.2
  refine s_aload_n (n := 1) dX8_shun_0 rfl rfl rfl ?_
  refine s_getr (k2 := 28) (n := 4) dX8_shun_1 rfl fl_X8_25 rfl rfl rfl ?_
  refine s_geti (n := 7) dX8_shun_4 rfl fl_X8_135 rfl rfl ?_
  rw [hC.2.2.1.1]
  refine s_if_ne (n := 10) (t := 13) dX8_shun_7 (by decide) rfl (fun h7 => ?_) (fun h7 => ?_)
  · obtain ⟨t, hh⟩ : ∃ t, a_hill a = some t := by
      cases hh : a_hill a with
      | none => rw [hh] at h7; exact absurd rfl h7
      | some t => exact ⟨t, rfl⟩
    have hHt : a_H a = t := by unfold a_H a_T; rw [hh]; rfl
    have hK := hA.1 t hh
    rw [hHt] at hT
    rw [hh] at hQ
    dsimp only at hQ
    refine s_iload_n (n := 14) dX8_shun_13 rfl rfl rfl ?_
    refine s_iconst (v := 0) (n := 15) dX8_shun_14 rfl (by decide) ?_
    refine s_aload_n (n := 16) dX8_shun_15 rfl rfl rfl ?_
    refine s_getr (k2 := 28) (n := 19) dX8_shun_16 rfl fl_X8_25 rfl rfl rfl ?_
    refine s_cv0 (n := 22) dX8_shun_19 rfl mo_X1_allHouses ml_X8_237 rfl (by decide) rfl rfl (Nat.le_of_ble_eq_true rfl) (Nat.le_of_ble_eq_true rfl) (c_X1_allHouses hb28 hT hK.2.1 ?_)
    dsimp only [m_push]
    refine s_cs3 (n := 25) dX8_shun_22 rfl mo_X8_within ml_X8_62 rfl (Nat.le_of_ble_eq_true rfl) (Nat.le_of_ble_eq_true rfl) (c_X8_within _ _ _ (fun hb22 => ?_) (fun hb22 => ?_))
    · dsimp only [m_push]
      refine s_if_eq (n := 28) (t := 47) dX8_shun_25 (by decide) rfl (fun h => absurd h (by decide)) (fun _ => ?_)
      refine s_iload_n (n := 29) dX8_shun_28 rfl rfl rfl ?_
      refine s_iconst (v := 0) (n := 30) dX8_shun_29 rfl (by decide) ?_
      refine s_bipush (v := 60) (n := 32) dX8_shun_30 rfl (by decide) ?_
      refine s_cs3 (n := 35) dX8_shun_32 rfl mo_X8_within ml_X8_62 rfl (Nat.le_of_ble_eq_true rfl) (Nat.le_of_ble_eq_true rfl) (c_X8_within _ _ _ (fun hb32 => ?_) (fun hb32 => ?_))
      · dsimp only [m_push]
        refine s_if_eq (n := 38) (t := 47) dX8_shun_35 (by decide) rfl (fun h => absurd h (by decide)) (fun _ => ?_)
        refine s_iload_n (n := 39) dX8_shun_38 rfl rfl rfl ?_
        refine s_iconst (v := 0) (n := 40) dX8_shun_39 rfl (by decide) ?_
        refine s_iconst (v := 1) (n := 41) dX8_shun_40 rfl (by decide) ?_
        refine s_cs3 (n := 44) dX8_shun_41 rfl mo_X8_within ml_X8_62 rfl (Nat.le_of_ble_eq_true rfl) (Nat.le_of_ble_eq_true rfl) (c_X8_within _ _ _ (fun hb41 => ?_) (fun hb41 => ?_))
        · dsimp only [m_push]
          refine s_if_ne (n := 47) (t := 50) dX8_shun_44 (by decide) rfl (fun _ => ?_) (fun h => absurd h (by decide))
          obtain ⟨s, hs, rfl⟩ := wn_ex (n := 2 ^ a_cn t - 1) hb22 (nI_toInt (by have := pow_c (a_cnE hK.2.1).2; omega))
          refine s_aload_n (n := 51) dX8_shun_50 rfl rfl rfl ?_
          refine s_getr (k2 := 24) (n := 54) dX8_shun_51 rfl fl_X8_46 rfl rfl rfl ?_
          refine s_aload_n (n := 55) dX8_shun_54 rfl rfl rfl ?_
          refine s_getr (k2 := 28) (n := 58) dX8_shun_55 rfl fl_X8_25 rfl rfl rfl ?_
          refine s_iload_n (n := 59) dX8_shun_58 rfl rfl rfl ?_
          refine s_iload_n (n := 60) dX8_shun_59 rfl rfl rfl ?_
          refine s_iconst (v := -1) (n := 61) dX8_shun_60 rfl (by decide) ?_
          refine s_ixor (n := 62) dX8_shun_61 rfl ?_
          refine s_cv3 (n := 65) dX8_shun_62 rfl mo_X5_fewestDoors ml_X8_230 rfl (by decide) rfl rfl (Nat.le_of_ble_eq_true rfl) (Nat.le_of_ble_eq_true rfl) (c_X5_fewestDoors hT (by rw [hC.2.2.1.1, hh]; rfl) hK hb32 (shunG_c (s := s) (by have := pow_c (a_cnE hK.2.1).2; omega)) (fun g2 hf => ?_))
          dsimp only [m_push]
          refine s_iload_n (n := 66) dX8_shun_65 rfl rfl rfl ?_
          refine s_cs2 (n := 69) dX8_shun_66 rfl mo_X8_sizeOrSet ml_X8_234 rfl (Nat.le_of_ble_eq_true rfl) (Nat.le_of_ble_eq_true rfl) (c_X8_sizeOrSet _ (fwF_lt _ _ _ (by have := pow_c (a_cnE hK.2.1).2; omega) (fun q hq => by cases hq)) _ ?_)
          dsimp only [m_push]
          refine s_ireturn dX8_shun_69 rfl rfl ?_
          rw [if_pos hb22, if_pos hb32, if_pos hb41] at hQ
          exact hQ g2 (hC.fr hf) (hf.FC (by decide))
        · dsimp only [m_push]
          refine s_if_ne (n := 47) (t := 50) dX8_shun_44 (by decide) rfl (fun h => absurd h (by decide)) (fun _ => ?_)
          refine s_ldc (n := 49) dX8_shun_47 rfl kc_X8_66 ?_
          refine s_ireturn dX8_shun_49 rfl rfl ?_
          first
          | (rw [if_neg hb22] at hQ; exact hQ g hC F_C.rf)
          | (rw [if_pos hb22, if_neg hb32] at hQ; exact hQ g hC F_C.rf)
          | (rw [if_pos hb22, if_pos hb32, if_neg hb41] at hQ; exact hQ g hC F_C.rf)
      · dsimp only [m_push]
        refine s_if_eq (n := 38) (t := 47) dX8_shun_35 (by decide) rfl (fun _ => ?_) (fun h => absurd h (by decide))
        refine s_ldc (n := 49) dX8_shun_47 rfl kc_X8_66 ?_
        refine s_ireturn dX8_shun_49 rfl rfl ?_
        first
        | (rw [if_neg hb22] at hQ; exact hQ g hC F_C.rf)
        | (rw [if_pos hb22, if_neg hb32] at hQ; exact hQ g hC F_C.rf)
        | (rw [if_pos hb22, if_pos hb32, if_neg hb41] at hQ; exact hQ g hC F_C.rf)
    · dsimp only [m_push]
      refine s_if_eq (n := 28) (t := 47) dX8_shun_25 (by decide) rfl (fun _ => ?_) (fun h => absurd h (by decide))
      refine s_ldc (n := 49) dX8_shun_47 rfl kc_X8_66 ?_
      refine s_ireturn dX8_shun_49 rfl rfl ?_
      first
      | (rw [if_neg hb22] at hQ; exact hQ g hC F_C.rf)
      | (rw [if_pos hb22, if_neg hb32] at hQ; exact hQ g hC F_C.rf)
      | (rw [if_pos hb22, if_pos hb32, if_neg hb41] at hQ; exact hQ g hC F_C.rf)
  · refine s_ldc (n := 12) dX8_shun_10 rfl kc_X8_138 ?_
    refine s_ireturn dX8_shun_12 rfl rfl ?_
    cases hh : a_hill a with
    | none => rw [hh] at hQ; exact hQ g hC F_C.rf
    | some t => rw [hh] at h7; exact absurd h7 (by show ¬ (1 : Int32) = 0; decide)
theorem TM.q8 {g : m_G} {t : m_T} (h : TM g 1053 t) (v : Int32) : TQ (m_up g 79 1061 v) (upd t 8 v) := fun j hj _ => by
  rw [m_up_k]; unfold upd
  by_cases e : j = 8
  · subst e; rfl
  · rw [if_neg (by omega), if_neg e]; exact h j hj
theorem a_op_kd {t : m_T} (h : tKD t) (v : Int32) : tKD (upd t 8 v) := fun i hi hc => by
  rw [upd_ne (by omega)]; exact h i hi (by rw [upd_ne (by decide)] at hc; exact hc)
theorem c_X9_restsOtherwise {SL : Nat} {d : Nat} {Q : Option Int32 → m_G → Prop} {g : m_G} {t : m_T} (hT : TM g 0 t) (hK : a_TK t) (s : Nat) (x : Int32) (hQ : ∀ g2, M_sc g g2 → Q (some (eM (sR (a_op t s) (t 7) x))) g2) : Sim SL (d + 5) yX9_restsOtherwise cX9_restsOtherwise 3 (some .int) 0 [.ref 78, .int (nI s), .int x] [] g Q := by
  refine s_aload_n (n := 1) dX9_restsOtherwise_0 rfl rfl rfl ?_
  refine s_cv0 (n := 4) dX9_restsOtherwise_1 rfl mo_X9_layTried ml_X9_208 rfl (by decide) rfl rfl (Nat.le_of_ble_eq_true rfl) (Nat.le_of_ble_eq_true rfl) (c_X9_layTried hT (fun g1 hf1 hL1 hL2 => ?_))
  have hs1 := M_sc.lay hf1 hL2
  have hy1 : g1 79 7 = t 7 := by rw [hL2 7 (by decide)]; exact hT.z (by decide)
  dsimp only [m_push]
  refine s_aload_n (n := 5) dX9_restsOtherwise_4 rfl rfl rfl ?_
  refine s_getr (k2 := 79) (n := 8) dX9_restsOtherwise_5 rfl fl_X9_7 rfl rfl rfl ?_
  refine s_sipush (v := 1061) (n := 11) dX9_restsOtherwise_8 rfl (by decide) ?_
  refine s_aload_n (n := 12) dX9_restsOtherwise_11 rfl rfl rfl ?_
  refine s_getr (k2 := 79) (n := 15) dX9_restsOtherwise_12 rfl fl_X9_7 rfl rfl rfl ?_
  refine s_bipush (v := 8) (n := 17) dX9_restsOtherwise_15 rfl (by decide) ?_
  refine s_iaload 8 (n := 18) dX9_restsOtherwise_17 rfl rfl rfl (by decide) ?_
  rw [hL2 8 (by decide), hT.z (by decide)]
  refine s_iload_n (n := 19) dX9_restsOtherwise_18 rfl rfl rfl ?_
  refine s_ixor (n := 20) dX9_restsOtherwise_19 rfl ?_
  refine s_iastore 1061 (n := 21) dX9_restsOtherwise_20 rfl rfl rfl (by decide) ?_
  refine s_aload_n (n := 22) dX9_restsOtherwise_21 rfl rfl rfl ?_
  refine s_iload_n (n := 23) dX9_restsOtherwise_22 rfl rfl rfl ?_
  refine s_cv1 (n := 26) dX9_restsOtherwise_23 rfl mo_X9_restsIn ml_X9_211 rfl (by decide) rfl rfl (Nat.le_of_ble_eq_true rfl) (Nat.le_of_ble_eq_true rfl) (c_X9_restsIn (u := a_op t s) (y := t 7) (by rw [m_up_k, if_neg (by decide)]; exact hy1) (by rw [a_op, upd_ne (by decide)]; exact hK.t0) (by rw [a_op, upd_ne (by decide)]; exact hK.t1) (by rw [a_op, upd_ne (by decide)]; exact hK.t6) (a_op_kd hK.kd _) (by rw [a_op, upd_ne (by decide)]; exact hK.t4) (hL1.q8 _) _ (fun g2 hs2 _ _ _ => ?_))
  dsimp only [m_push]
  refine s_ireturn dX9_restsOtherwise_26 rfl rfl ?_
  exact hQ g2 (hs1.tr ((M_sc.t (by decide)).tr hs2))
theorem fw_ne {q : Nat} (h : q < 64) : ¬ nI q = -1000000 := by
  rw [i32_eq, nI_toInt (by omega)]
  have : (-1000000 : Int32).toInt = -1000000 := rfl
  omega
set_option maxHeartbeats 1000000 in
theorem lp_X9_fewest {SL d : Nat} {Q : Option Int32 → m_G → Prop} {t : m_T} (hK : a_TK t) {dd th at_ : Int32} {G : Option Nat → Bool} (hG0 : 0 = at_ ↔ G none = true) (hG1 : ∀ i, i < 6 → bt th (nI i) = 1 → (1 = at_ ↔ G (some i) = true)) (hG2 : ∀ i, i < 6 → ¬ bt th (nI i) = 1 → (0 = at_ ↔ G (some i) = true)) : ∀ (n s : Nat) (g : m_G) (x6 x7 : Value) (b : Option Nat), s + n = 2 ^ a_cn t → TM g 0 t → (∀ q, b = some q → q < 64) → (∀ g2, M_sc g g2 → Q (some (eM (fwF (fwP G t dd) n s b))) g2) → Sim SL (d + 6) yX9_fewest cX9_fewest 8 (some .int) 7 [.ref 78, .int th, .int at_, .int dd, .int (eM b), .int (nI s), x6, x7] [] g Q := by
  have hc1 := hK.2.1
  have hcn := (a_cnE hc1).2
  have hpw := pow_c hcn
  intro n
  induction n with
  | zero =>
    intro s g x6 x7 b hin hT hb64 hQ
    have hs : s = 2 ^ a_cn t := by omega
    subst hs
    refine s_iload (n := 9) dX9_fewest_7 rfl rfl ?_
    refine s_iconst (v := 1) (n := 10) dX9_fewest_9 rfl (by decide) ?_
    refine s_aload_n (n := 11) dX9_fewest_10 rfl rfl rfl ?_
    refine s_getr (k2 := 79) (n := 14) dX9_fewest_11 rfl fl_X9_7 rfl rfl rfl ?_
    refine s_iconst (v := 1) (n := 15) dX9_fewest_14 rfl (by decide) ?_
    refine s_iaload 1 (n := 16) dX9_fewest_15 rfl rfl rfl (by decide) ?_
    rw [hT.z (by decide), (a_cnE hc1).1]
    refine s_ishl (n := 17) dX9_fewest_16 rfl ?_
    rw [(all_c _ (by omega)).2]
    refine s_icmp_ge (n := 20) (t := 101) dX9_fewest_17 (by decide) rfl (fun h17 => ?_) (fun h17 => ?_)
    · refine s_iload (n := 103) dX9_fewest_101 rfl rfl ?_
      refine s_ireturn dX9_fewest_103 rfl rfl ?_
      exact hQ g M_sc.rf
    · exact absurd (nI_le (Nat.le_refl _) (by omega)) h17
  | succ n ih =>
    intro s g x6 x7 b hin hT hb64 hQ
    have hs : s < 2 ^ a_cn t := by omega
    refine s_iload (n := 9) dX9_fewest_7 rfl rfl ?_
    refine s_iconst (v := 1) (n := 10) dX9_fewest_9 rfl (by decide) ?_
    refine s_aload_n (n := 11) dX9_fewest_10 rfl rfl rfl ?_
    refine s_getr (k2 := 79) (n := 14) dX9_fewest_11 rfl fl_X9_7 rfl rfl rfl ?_
    refine s_iconst (v := 1) (n := 15) dX9_fewest_14 rfl (by decide) ?_
    refine s_iaload 1 (n := 16) dX9_fewest_15 rfl rfl rfl (by decide) ?_
    rw [hT.z (by decide), (a_cnE hc1).1]
    refine s_ishl (n := 17) dX9_fewest_16 rfl ?_
    rw [(all_c _ (by omega)).2]
    refine s_icmp_ge (n := 20) (t := 101) dX9_fewest_17 (by decide) rfl (fun h17 => ?_) (fun h17 => ?_)
    · exact absurd h17 (nI_ge hs (by omega))
    · refine s_aload_n (n := 21) dX9_fewest_20 rfl rfl rfl ?_
      refine s_iload (n := 23) dX9_fewest_21 rfl rfl ?_
      refine s_iload_n (n := 24) dX9_fewest_23 rfl rfl rfl ?_
      refine s_cv2 (n := 27) dX9_fewest_24 rfl mo_X9_restsOtherwise ml_X9_217 rfl (by decide) rfl rfl (Nat.le_of_ble_eq_true rfl) (Nat.le_of_ble_eq_true rfl) (c_X9_restsOtherwise hT hK s _ (fun g2 hs2 => ?_))
      dsimp only [m_push]
      unfold fwF at hQ
      cases ho : sR (a_op t s) (t 7) dd with
      | none =>
        dsimp only [eM]
        refine s_istore (n := 29) dX9_fewest_27 rfl (by decide) rfl rfl ?_
        refine s_iload (n := 31) dX9_fewest_29 rfl rfl ?_
        refine s_ldc (n := 33) dX9_fewest_31 rfl kc_X9_128 ?_
        refine s_icmp_eq (n := 36) (t := 49) dX9_fewest_33 (by decide) rfl (fun _ => ?_) (fun h => absurd h (by decide))
        refine s_iconst (v := 0) (n := 50) dX9_fewest_49 rfl (by decide) ?_
        refine s_iload_n (n := 51) dX9_fewest_50 rfl rfl rfl ?_
        refine s_icmp_ne (n := 54) (t := 58) dX9_fewest_51 (by decide) rfl (fun h51 => ?_) (fun h51 => ?_)
        · have hp : ¬ fwP G t dd s = true := fun q => h51 (hG0.mpr (by unfold fwP at q; rw [ho] at q; exact q))
          refine s_iconst (v := 0) (n := 59) dX9_fewest_58 rfl (by decide) ?_
          refine s_istore (n := 61) dX9_fewest_59 rfl (by decide) rfl rfl ?_
          refine s_iload (n := 63) dX9_fewest_61 rfl rfl ?_
          refine s_if_eq (n := 66) (t := 91) dX9_fewest_63 (by decide) rfl (fun _ => ?_) (fun h => absurd h (by decide))
          refine s_iload (n := 93) dX9_fewest_91 rfl rfl ?_
          refine s_istore (n := 95) dX9_fewest_93 rfl (by decide) rfl rfl ?_
          refine s_iinc (n := 98) (v := nI (s + 1)) dX9_fewest_95 rfl (by decide) rfl rfl (nI_1 s) rfl ?_
          refine s_goto (t := 7) dX9_fewest_98 (by decide) ?_
          rw [if_neg (and_n1 hp)] at hQ
          exact ih (s + 1) g2 _ _ b (by omega) (hT.kept (fun j hj => hs2.2.2 _ (by omega))) hb64 (fun g3 hs3 => hQ g3 (hs2.tr hs3))
        · have hp : fwP G t dd s = true := by unfold fwP; rw [ho]; exact hG0.mp h51
          refine s_iconst (v := 1) (n := 55) dX9_fewest_54 rfl (by decide) ?_
          refine s_goto (t := 59) dX9_fewest_55 (by decide) ?_
          refine s_istore (n := 61) dX9_fewest_59 rfl (by decide) rfl rfl ?_
          cases b with
          | none =>
            dsimp only [eM]
            refine s_iload (n := 63) dX9_fewest_61 rfl rfl ?_
            refine s_if_eq (n := 66) (t := 91) dX9_fewest_63 (by decide) rfl (fun h => absurd h (by decide)) (fun _ => ?_)
            refine s_iload (n := 68) dX9_fewest_66 rfl rfl ?_
            refine s_ldc (n := 70) dX9_fewest_68 rfl kc_X9_128 ?_
            refine s_icmp_eq (n := 73) (t := 86) dX9_fewest_70 (by decide) rfl (fun _ => ?_) (fun h => absurd h (by decide))
            refine s_iload (n := 88) dX9_fewest_86 rfl rfl ?_
            refine s_goto (t := 93) dX9_fewest_88 (by decide) ?_
            refine s_istore (n := 95) dX9_fewest_93 rfl (by decide) rfl rfl ?_
            refine s_iinc (n := 98) (v := nI (s + 1)) dX9_fewest_95 rfl (by decide) rfl rfl (nI_1 s) rfl ?_
            refine s_goto (t := 7) dX9_fewest_98 (by decide) ?_
            rw [if_pos (and_y hp (show bBt s none = true from rfl))] at hQ
            exact ih (s + 1) g2 _ _ (some s) (by omega) (hT.kept (fun j hj => hs2.2.2 _ (by omega))) (fun q hq => by cases hq; omega) (fun g3 hs3 => hQ g3 (hs2.tr hs3))
          | some q =>
            have hq64 := hb64 q rfl
            dsimp only [eM]
            refine s_iload (n := 63) dX9_fewest_61 rfl rfl ?_
            refine s_if_eq (n := 66) (t := 91) dX9_fewest_63 (by decide) rfl (fun h => absurd h (by decide)) (fun _ => ?_)
            refine s_iload (n := 68) dX9_fewest_66 rfl rfl ?_
            refine s_ldc (n := 70) dX9_fewest_68 rfl kc_X9_128 ?_
            refine s_icmp_eq (n := 73) (t := 86) dX9_fewest_70 (by decide) rfl (fun h70 => ?_) (fun h70 => ?_)
            · exact absurd h70 (fw_ne hq64)
            · refine s_iload (n := 75) dX9_fewest_73 rfl rfl ?_
              refine s_cs1 (n := 78) dX9_fewest_75 rfl mo_X9_bits ml_X9_220 rfl (Nat.le_of_ble_eq_true rfl) (Nat.le_of_ble_eq_true rfl) (c_X9_bits _ ?_)
              dsimp only [m_push]
              refine s_iload (n := 80) dX9_fewest_78 rfl rfl ?_
              refine s_cs1 (n := 83) dX9_fewest_80 rfl mo_X9_bits ml_X9_220 rfl (Nat.le_of_ble_eq_true rfl) (Nat.le_of_ble_eq_true rfl) (c_X9_bits _ ?_)
              dsimp only [m_push]
              rw [biE_64 s (by omega), biE_64 q hq64]
              refine s_icmp_ge (n := 86) (t := 91) dX9_fewest_83 (by decide) rfl (fun h83 => ?_) (fun h83 => ?_)
              · refine s_iload (n := 93) dX9_fewest_91 rfl rfl ?_
                refine s_istore (n := 95) dX9_fewest_93 rfl (by decide) rfl rfl ?_
                refine s_iinc (n := 98) (v := nI (s + 1)) dX9_fewest_95 rfl (by decide) rfl rfl (nI_1 s) rfl ?_
                refine s_goto (t := 7) dX9_fewest_98 (by decide) ?_
                first
                | (have hb9 : ¬ bBt s (some q) = true := fun z => absurd h83 (nI_ge (of_decide_eq_true z) (by have := pcn_lt q hq64; omega))
                   rw [if_neg (and_n2 hb9)] at hQ
                   exact ih (s + 1) g2 _ _ (some q) (by omega) (hT.kept (fun j hj => hs2.2.2 _ (by omega))) hb64 (fun g3 hs3 => hQ g3 (hs2.tr hs3)))
                | (have hb9 : bBt s (some q) = true := decide_eq_true (by
                     rcases Nat.lt_or_ge (pcn s) (pcn q) with z | z
                     · exact z
                     · exact absurd (nI_le z (by have := pcn_lt s (by omega); omega)) h83)
                   rw [if_pos (and_y hp hb9)] at hQ
                   exact ih (s + 1) g2 _ _ (some s) (by omega) (hT.kept (fun j hj => hs2.2.2 _ (by omega))) (fun q hq => by cases hq; omega) (fun g3 hs3 => hQ g3 (hs2.tr hs3)))
              · refine s_iload (n := 88) dX9_fewest_86 rfl rfl ?_
                refine s_goto (t := 93) dX9_fewest_88 (by decide) ?_
                refine s_istore (n := 95) dX9_fewest_93 rfl (by decide) rfl rfl ?_
                refine s_iinc (n := 98) (v := nI (s + 1)) dX9_fewest_95 rfl (by decide) rfl rfl (nI_1 s) rfl ?_
                refine s_goto (t := 7) dX9_fewest_98 (by decide) ?_
                first
                | (have hb9 : ¬ bBt s (some q) = true := fun z => absurd h83 (nI_ge (of_decide_eq_true z) (by have := pcn_lt q hq64; omega))
                   rw [if_neg (and_n2 hb9)] at hQ
                   exact ih (s + 1) g2 _ _ (some q) (by omega) (hT.kept (fun j hj => hs2.2.2 _ (by omega))) hb64 (fun g3 hs3 => hQ g3 (hs2.tr hs3)))
                | (have hb9 : bBt s (some q) = true := decide_eq_true (by
                     rcases Nat.lt_or_ge (pcn s) (pcn q) with z | z
                     · exact z
                     · exact absurd (nI_le z (by have := pcn_lt s (by omega); omega)) h83)
                   rw [if_pos (and_y hp hb9)] at hQ
                   exact ih (s + 1) g2 _ _ (some s) (by omega) (hT.kept (fun j hj => hs2.2.2 _ (by omega))) (fun q hq => by cases hq; omega) (fun g3 hs3 => hQ g3 (hs2.tr hs3)))
      | some h9 =>
        have hh9 : h9 < 6 := sR6 h9 ho
        dsimp only [eM]
        refine s_istore (n := 29) dX9_fewest_27 rfl (by decide) rfl rfl ?_
        refine s_iload (n := 31) dX9_fewest_29 rfl rfl ?_
        refine s_ldc (n := 33) dX9_fewest_31 rfl kc_X9_128 ?_
        refine s_icmp_eq (n := 36) (t := 49) dX9_fewest_33 (by decide) rfl (fun h33 => ?_) (fun h33 => ?_)
        · exact absurd h33 (eM_ne hh9)
        · refine s_iload_n (n := 37) dX9_fewest_36 rfl rfl rfl ?_
          refine s_iload (n := 39) dX9_fewest_37 rfl rfl ?_
          refine s_cs2 (n := 42) dX9_fewest_39 rfl mo_X9_has ml_X9_158 rfl (Nat.le_of_ble_eq_true rfl) (Nat.le_of_ble_eq_true rfl) (c_X9_has _ _ (fun hb39 => ?_) (fun hb39 => ?_))
          · dsimp only [m_push]
            refine s_mat_if_eq (n := 50) (t := 49) dX9_fewest_42 (by decide) dX9_fewest_45 dX9_fewest_46 (by decide) dX9_fewest_49 rfl (u := 0) (v := 1) (by decide) (by decide) ?_
            refine s_iload_n (n := 51) dX9_fewest_50 rfl rfl rfl ?_
            refine s_icmp_ne (n := 54) (t := 58) dX9_fewest_51 (by decide) rfl (fun h51 => ?_) (fun h51 => ?_)
            · have hp : ¬ fwP G t dd s = true := fun q => h51 ((hG1 h9 hh9 hb39).mpr (by unfold fwP at q; rw [ho] at q; exact q))
              refine s_iconst (v := 0) (n := 59) dX9_fewest_58 rfl (by decide) ?_
              refine s_istore (n := 61) dX9_fewest_59 rfl (by decide) rfl rfl ?_
              refine s_iload (n := 63) dX9_fewest_61 rfl rfl ?_
              refine s_if_eq (n := 66) (t := 91) dX9_fewest_63 (by decide) rfl (fun _ => ?_) (fun h => absurd h (by decide))
              refine s_iload (n := 93) dX9_fewest_91 rfl rfl ?_
              refine s_istore (n := 95) dX9_fewest_93 rfl (by decide) rfl rfl ?_
              refine s_iinc (n := 98) (v := nI (s + 1)) dX9_fewest_95 rfl (by decide) rfl rfl (nI_1 s) rfl ?_
              refine s_goto (t := 7) dX9_fewest_98 (by decide) ?_
              rw [if_neg (and_n1 hp)] at hQ
              exact ih (s + 1) g2 _ _ b (by omega) (hT.kept (fun j hj => hs2.2.2 _ (by omega))) hb64 (fun g3 hs3 => hQ g3 (hs2.tr hs3))
            · have hp : fwP G t dd s = true := by unfold fwP; rw [ho]; exact (hG1 h9 hh9 hb39).mp h51
              refine s_iconst (v := 1) (n := 55) dX9_fewest_54 rfl (by decide) ?_
              refine s_goto (t := 59) dX9_fewest_55 (by decide) ?_
              refine s_istore (n := 61) dX9_fewest_59 rfl (by decide) rfl rfl ?_
              cases b with
              | none =>
                dsimp only [eM]
                refine s_iload (n := 63) dX9_fewest_61 rfl rfl ?_
                refine s_if_eq (n := 66) (t := 91) dX9_fewest_63 (by decide) rfl (fun h => absurd h (by decide)) (fun _ => ?_)
                refine s_iload (n := 68) dX9_fewest_66 rfl rfl ?_
                refine s_ldc (n := 70) dX9_fewest_68 rfl kc_X9_128 ?_
                refine s_icmp_eq (n := 73) (t := 86) dX9_fewest_70 (by decide) rfl (fun _ => ?_) (fun h => absurd h (by decide))
                refine s_iload (n := 88) dX9_fewest_86 rfl rfl ?_
                refine s_goto (t := 93) dX9_fewest_88 (by decide) ?_
                refine s_istore (n := 95) dX9_fewest_93 rfl (by decide) rfl rfl ?_
                refine s_iinc (n := 98) (v := nI (s + 1)) dX9_fewest_95 rfl (by decide) rfl rfl (nI_1 s) rfl ?_
                refine s_goto (t := 7) dX9_fewest_98 (by decide) ?_
                rw [if_pos (and_y hp (show bBt s none = true from rfl))] at hQ
                exact ih (s + 1) g2 _ _ (some s) (by omega) (hT.kept (fun j hj => hs2.2.2 _ (by omega))) (fun q hq => by cases hq; omega) (fun g3 hs3 => hQ g3 (hs2.tr hs3))
              | some q =>
                have hq64 := hb64 q rfl
                dsimp only [eM]
                refine s_iload (n := 63) dX9_fewest_61 rfl rfl ?_
                refine s_if_eq (n := 66) (t := 91) dX9_fewest_63 (by decide) rfl (fun h => absurd h (by decide)) (fun _ => ?_)
                refine s_iload (n := 68) dX9_fewest_66 rfl rfl ?_
                refine s_ldc (n := 70) dX9_fewest_68 rfl kc_X9_128 ?_
                refine s_icmp_eq (n := 73) (t := 86) dX9_fewest_70 (by decide) rfl (fun h70 => ?_) (fun h70 => ?_)
                · exact absurd h70 (fw_ne hq64)
                · refine s_iload (n := 75) dX9_fewest_73 rfl rfl ?_
                  refine s_cs1 (n := 78) dX9_fewest_75 rfl mo_X9_bits ml_X9_220 rfl (Nat.le_of_ble_eq_true rfl) (Nat.le_of_ble_eq_true rfl) (c_X9_bits _ ?_)
                  dsimp only [m_push]
                  refine s_iload (n := 80) dX9_fewest_78 rfl rfl ?_
                  refine s_cs1 (n := 83) dX9_fewest_80 rfl mo_X9_bits ml_X9_220 rfl (Nat.le_of_ble_eq_true rfl) (Nat.le_of_ble_eq_true rfl) (c_X9_bits _ ?_)
                  dsimp only [m_push]
                  rw [biE_64 s (by omega), biE_64 q hq64]
                  refine s_icmp_ge (n := 86) (t := 91) dX9_fewest_83 (by decide) rfl (fun h83 => ?_) (fun h83 => ?_)
                  · refine s_iload (n := 93) dX9_fewest_91 rfl rfl ?_
                    refine s_istore (n := 95) dX9_fewest_93 rfl (by decide) rfl rfl ?_
                    refine s_iinc (n := 98) (v := nI (s + 1)) dX9_fewest_95 rfl (by decide) rfl rfl (nI_1 s) rfl ?_
                    refine s_goto (t := 7) dX9_fewest_98 (by decide) ?_
                    first
                    | (have hb9 : ¬ bBt s (some q) = true := fun z => absurd h83 (nI_ge (of_decide_eq_true z) (by have := pcn_lt q hq64; omega))
                       rw [if_neg (and_n2 hb9)] at hQ
                       exact ih (s + 1) g2 _ _ (some q) (by omega) (hT.kept (fun j hj => hs2.2.2 _ (by omega))) hb64 (fun g3 hs3 => hQ g3 (hs2.tr hs3)))
                    | (have hb9 : bBt s (some q) = true := decide_eq_true (by
                         rcases Nat.lt_or_ge (pcn s) (pcn q) with z | z
                         · exact z
                         · exact absurd (nI_le z (by have := pcn_lt s (by omega); omega)) h83)
                       rw [if_pos (and_y hp hb9)] at hQ
                       exact ih (s + 1) g2 _ _ (some s) (by omega) (hT.kept (fun j hj => hs2.2.2 _ (by omega))) (fun q hq => by cases hq; omega) (fun g3 hs3 => hQ g3 (hs2.tr hs3)))
                  · refine s_iload (n := 88) dX9_fewest_86 rfl rfl ?_
                    refine s_goto (t := 93) dX9_fewest_88 (by decide) ?_
                    refine s_istore (n := 95) dX9_fewest_93 rfl (by decide) rfl rfl ?_
                    refine s_iinc (n := 98) (v := nI (s + 1)) dX9_fewest_95 rfl (by decide) rfl rfl (nI_1 s) rfl ?_
                    refine s_goto (t := 7) dX9_fewest_98 (by decide) ?_
                    first
                    | (have hb9 : ¬ bBt s (some q) = true := fun z => absurd h83 (nI_ge (of_decide_eq_true z) (by have := pcn_lt q hq64; omega))
                       rw [if_neg (and_n2 hb9)] at hQ
                       exact ih (s + 1) g2 _ _ (some q) (by omega) (hT.kept (fun j hj => hs2.2.2 _ (by omega))) hb64 (fun g3 hs3 => hQ g3 (hs2.tr hs3)))
                    | (have hb9 : bBt s (some q) = true := decide_eq_true (by
                         rcases Nat.lt_or_ge (pcn s) (pcn q) with z | z
                         · exact z
                         · exact absurd (nI_le z (by have := pcn_lt s (by omega); omega)) h83)
                       rw [if_pos (and_y hp hb9)] at hQ
                       exact ih (s + 1) g2 _ _ (some s) (by omega) (hT.kept (fun j hj => hs2.2.2 _ (by omega))) (fun q hq => by cases hq; omega) (fun g3 hs3 => hQ g3 (hs2.tr hs3)))
          · dsimp only [m_push]
            refine s_mat_if_eq (n := 50) (t := 49) dX9_fewest_42 (by decide) dX9_fewest_45 dX9_fewest_46 (by decide) dX9_fewest_49 rfl (u := 0) (v := 1) (by decide) (by decide) ?_
            refine s_iload_n (n := 51) dX9_fewest_50 rfl rfl rfl ?_
            refine s_icmp_ne (n := 54) (t := 58) dX9_fewest_51 (by decide) rfl (fun h51 => ?_) (fun h51 => ?_)
            · have hp : ¬ fwP G t dd s = true := fun q => h51 ((hG2 h9 hh9 hb39).mpr (by unfold fwP at q; rw [ho] at q; exact q))
              refine s_iconst (v := 0) (n := 59) dX9_fewest_58 rfl (by decide) ?_
              refine s_istore (n := 61) dX9_fewest_59 rfl (by decide) rfl rfl ?_
              refine s_iload (n := 63) dX9_fewest_61 rfl rfl ?_
              refine s_if_eq (n := 66) (t := 91) dX9_fewest_63 (by decide) rfl (fun _ => ?_) (fun h => absurd h (by decide))
              refine s_iload (n := 93) dX9_fewest_91 rfl rfl ?_
              refine s_istore (n := 95) dX9_fewest_93 rfl (by decide) rfl rfl ?_
              refine s_iinc (n := 98) (v := nI (s + 1)) dX9_fewest_95 rfl (by decide) rfl rfl (nI_1 s) rfl ?_
              refine s_goto (t := 7) dX9_fewest_98 (by decide) ?_
              rw [if_neg (and_n1 hp)] at hQ
              exact ih (s + 1) g2 _ _ b (by omega) (hT.kept (fun j hj => hs2.2.2 _ (by omega))) hb64 (fun g3 hs3 => hQ g3 (hs2.tr hs3))
            · have hp : fwP G t dd s = true := by unfold fwP; rw [ho]; exact (hG2 h9 hh9 hb39).mp h51
              refine s_iconst (v := 1) (n := 55) dX9_fewest_54 rfl (by decide) ?_
              refine s_goto (t := 59) dX9_fewest_55 (by decide) ?_
              refine s_istore (n := 61) dX9_fewest_59 rfl (by decide) rfl rfl ?_
              cases b with
              | none =>
                dsimp only [eM]
                refine s_iload (n := 63) dX9_fewest_61 rfl rfl ?_
                refine s_if_eq (n := 66) (t := 91) dX9_fewest_63 (by decide) rfl (fun h => absurd h (by decide)) (fun _ => ?_)
                refine s_iload (n := 68) dX9_fewest_66 rfl rfl ?_
                refine s_ldc (n := 70) dX9_fewest_68 rfl kc_X9_128 ?_
                refine s_icmp_eq (n := 73) (t := 86) dX9_fewest_70 (by decide) rfl (fun _ => ?_) (fun h => absurd h (by decide))
                refine s_iload (n := 88) dX9_fewest_86 rfl rfl ?_
                refine s_goto (t := 93) dX9_fewest_88 (by decide) ?_
                refine s_istore (n := 95) dX9_fewest_93 rfl (by decide) rfl rfl ?_
                refine s_iinc (n := 98) (v := nI (s + 1)) dX9_fewest_95 rfl (by decide) rfl rfl (nI_1 s) rfl ?_
                refine s_goto (t := 7) dX9_fewest_98 (by decide) ?_
                rw [if_pos (and_y hp (show bBt s none = true from rfl))] at hQ
                exact ih (s + 1) g2 _ _ (some s) (by omega) (hT.kept (fun j hj => hs2.2.2 _ (by omega))) (fun q hq => by cases hq; omega) (fun g3 hs3 => hQ g3 (hs2.tr hs3))
              | some q =>
                have hq64 := hb64 q rfl
                dsimp only [eM]
                refine s_iload (n := 63) dX9_fewest_61 rfl rfl ?_
                refine s_if_eq (n := 66) (t := 91) dX9_fewest_63 (by decide) rfl (fun h => absurd h (by decide)) (fun _ => ?_)
                refine s_iload (n := 68) dX9_fewest_66 rfl rfl ?_
                refine s_ldc (n := 70) dX9_fewest_68 rfl kc_X9_128 ?_
                refine s_icmp_eq (n := 73) (t := 86) dX9_fewest_70 (by decide) rfl (fun h70 => ?_) (fun h70 => ?_)
                · exact absurd h70 (fw_ne hq64)
                · refine s_iload (n := 75) dX9_fewest_73 rfl rfl ?_
                  refine s_cs1 (n := 78) dX9_fewest_75 rfl mo_X9_bits ml_X9_220 rfl (Nat.le_of_ble_eq_true rfl) (Nat.le_of_ble_eq_true rfl) (c_X9_bits _ ?_)
                  dsimp only [m_push]
                  refine s_iload (n := 80) dX9_fewest_78 rfl rfl ?_
                  refine s_cs1 (n := 83) dX9_fewest_80 rfl mo_X9_bits ml_X9_220 rfl (Nat.le_of_ble_eq_true rfl) (Nat.le_of_ble_eq_true rfl) (c_X9_bits _ ?_)
                  dsimp only [m_push]
                  rw [biE_64 s (by omega), biE_64 q hq64]
                  refine s_icmp_ge (n := 86) (t := 91) dX9_fewest_83 (by decide) rfl (fun h83 => ?_) (fun h83 => ?_)
                  · refine s_iload (n := 93) dX9_fewest_91 rfl rfl ?_
                    refine s_istore (n := 95) dX9_fewest_93 rfl (by decide) rfl rfl ?_
                    refine s_iinc (n := 98) (v := nI (s + 1)) dX9_fewest_95 rfl (by decide) rfl rfl (nI_1 s) rfl ?_
                    refine s_goto (t := 7) dX9_fewest_98 (by decide) ?_
                    first
                    | (have hb9 : ¬ bBt s (some q) = true := fun z => absurd h83 (nI_ge (of_decide_eq_true z) (by have := pcn_lt q hq64; omega))
                       rw [if_neg (and_n2 hb9)] at hQ
                       exact ih (s + 1) g2 _ _ (some q) (by omega) (hT.kept (fun j hj => hs2.2.2 _ (by omega))) hb64 (fun g3 hs3 => hQ g3 (hs2.tr hs3)))
                    | (have hb9 : bBt s (some q) = true := decide_eq_true (by
                         rcases Nat.lt_or_ge (pcn s) (pcn q) with z | z
                         · exact z
                         · exact absurd (nI_le z (by have := pcn_lt s (by omega); omega)) h83)
                       rw [if_pos (and_y hp hb9)] at hQ
                       exact ih (s + 1) g2 _ _ (some s) (by omega) (hT.kept (fun j hj => hs2.2.2 _ (by omega))) (fun q hq => by cases hq; omega) (fun g3 hs3 => hQ g3 (hs2.tr hs3)))
                  · refine s_iload (n := 88) dX9_fewest_86 rfl rfl ?_
                    refine s_goto (t := 93) dX9_fewest_88 (by decide) ?_
                    refine s_istore (n := 95) dX9_fewest_93 rfl (by decide) rfl rfl ?_
                    refine s_iinc (n := 98) (v := nI (s + 1)) dX9_fewest_95 rfl (by decide) rfl rfl (nI_1 s) rfl ?_
                    refine s_goto (t := 7) dX9_fewest_98 (by decide) ?_
                    first
                    | (have hb9 : ¬ bBt s (some q) = true := fun z => absurd h83 (nI_ge (of_decide_eq_true z) (by have := pcn_lt q hq64; omega))
                       rw [if_neg (and_n2 hb9)] at hQ
                       exact ih (s + 1) g2 _ _ (some q) (by omega) (hT.kept (fun j hj => hs2.2.2 _ (by omega))) hb64 (fun g3 hs3 => hQ g3 (hs2.tr hs3)))
                    | (have hb9 : bBt s (some q) = true := decide_eq_true (by
                         rcases Nat.lt_or_ge (pcn s) (pcn q) with z | z
                         · exact z
                         · exact absurd (nI_le z (by have := pcn_lt s (by omega); omega)) h83)
                       rw [if_pos (and_y hp hb9)] at hQ
                       exact ih (s + 1) g2 _ _ (some s) (by omega) (hT.kept (fun j hj => hs2.2.2 _ (by omega))) (fun q hq => by cases hq; omega) (fun g3 hs3 => hQ g3 (hs2.tr hs3)))
theorem c_X9_fewest {SL : Nat} {d : Nat} {Q : Option Int32 → m_G → Prop} {g : m_G} {t : m_T} (hT : TM g 0 t) (hK : a_TK t) {dd th at_ : Int32} {G : Option Nat → Bool} (hG0 : 0 = at_ ↔ G none = true) (hG1 : ∀ i, i < 6 → bt th (nI i) = 1 → (1 = at_ ↔ G (some i) = true)) (hG2 : ∀ i, i < 6 → ¬ bt th (nI i) = 1 → (0 = at_ ↔ G (some i) = true)) (hQ : ∀ g2, M_sc g g2 → Q (some (eM (fwF (fwP G t dd) (2 ^ a_cn t) 0 none))) g2) : Sim SL (d + 6) yX9_fewest cX9_fewest 8 (some .int) 0 [.ref 78, .int th, .int at_, .int dd, .null, .null, .null, .null] [] g Q := by
  refine s_ldc (n := 2) dX9_fewest_0 rfl kc_X9_128 ?_
  refine s_istore (n := 4) dX9_fewest_2 rfl (by decide) rfl rfl ?_
  refine s_iconst (v := 0) (n := 5) dX9_fewest_4 rfl (by decide) ?_
  refine s_istore (n := 7) dX9_fewest_5 rfl (by decide) rfl rfl ?_
  exact lp_X9_fewest hK hG0 hG1 hG2 (2 ^ a_cn t) 0 g _ _ none (by omega) hT (fun q hq => by cases hq) hQ
theorem M_aim {SL : Nat} {d : Nat} {Q : Option Int32 → m_G → Prop} {g : m_G} {a : a_S} (hA : a_OK a) (hM : M_R g a) (h x w : Int32) (hQ : E_M g a Q (sp_aim a h x w)) : Sim SL (d + 7) yX9_aim cX9_aim 5 (some .int) 0 [.ref 78, .int h, .int x, .int w, .null] [] g Q := by
  unfold E_M sp_aim at hQ
  have hT : TM g 0 (a_H a) := hM.2.2.1.2
  refine s_aload_n (n := 1) dX9_aim_0 rfl rfl rfl ?_
  refine s_iload_n (n := 2) dX9_aim_1 rfl rfl rfl ?_
  refine s_cv1 (n := 5) dX9_aim_2 rfl mo_X9_isHouse ml_X9_193 rfl (by decide) rfl rfl (Nat.le_of_ble_eq_true rfl) (Nat.le_of_ble_eq_true rfl) (c_X9_isHouse hT _ (fun hb2 => ?_) (fun hb2 => ?_))
  · dsimp only [m_push]
    refine s_if_eq (n := 8) (t := 30) dX9_aim_5 (by decide) rfl (fun h => absurd h (by decide)) (fun _ => ?_)
    refine s_iload_n (n := 9) dX9_aim_8 rfl rfl rfl ?_
    refine s_i2l (n := 10) dX9_aim_9 rfl ?_
    refine s_lconst (v := 0) (n := 11) dX9_aim_10 rfl (by decide) ?_
    refine s_ldc2 (n := 14) dX9_aim_11 rfl kc_X9_203 ?_
    refine s_cs3 (n := 17) dX9_aim_14 rfl mo_X9_in ml_X9_60 rfl (Nat.le_of_ble_eq_true rfl) (Nat.le_of_ble_eq_true rfl) (c_X9_in (0) (60) rfl (by decide) (by decide) (fun hb14 => ?_) (fun hb14 => ?_))
    · dsimp only [m_push]
      refine s_if_eq (n := 20) (t := 30) dX9_aim_17 (by decide) rfl (fun h => absurd h (by decide)) (fun _ => ?_)
      refine s_iload_n (n := 21) dX9_aim_20 rfl rfl rfl ?_
      refine s_i2l (n := 22) dX9_aim_21 rfl ?_
      refine s_lconst (v := 0) (n := 23) dX9_aim_22 rfl (by decide) ?_
      refine s_lconst (v := 1) (n := 24) dX9_aim_23 rfl (by decide) ?_
      refine s_cs3 (n := 27) dX9_aim_24 rfl mo_X9_in ml_X9_60 rfl (Nat.le_of_ble_eq_true rfl) (Nat.le_of_ble_eq_true rfl) (c_X9_in (0) (1) rfl (by decide) (by decide) (fun hb24 => ?_) (fun hb24 => ?_))
      · dsimp only [m_push]
        refine s_if_ne (n := 30) (t := 33) dX9_aim_27 (by decide) rfl (fun _ => ?_) (fun h => absurd h (by decide))
        have hK := hA.tk hb2
        obtain ⟨i, hi, rfl, hci⟩ := isH_ex hA.cnt hb2
        rw [nI_clamp (show i < 2 ^ 31 by omega), if_pos hb2, if_pos hb14, if_pos hb24] at hQ
        refine s_aload_n (n := 34) dX9_aim_33 rfl rfl rfl ?_
        refine s_iconst (v := 1) (n := 35) dX9_aim_34 rfl (by decide) ?_
        refine s_iload_n (n := 36) dX9_aim_35 rfl rfl rfl ?_
        refine s_ishl (n := 37) dX9_aim_36 rfl ?_
        refine s_iconst (v := 1) (n := 38) dX9_aim_37 rfl (by decide) ?_
        refine s_iload_n (n := 39) dX9_aim_38 rfl rfl rfl ?_
        refine s_cv3 (n := 42) dX9_aim_39 rfl mo_X9_fewest ml_X9_223 rfl (by decide) rfl rfl (Nat.le_of_ble_eq_true rfl) (Nat.le_of_ble_eq_true rfl) (c_X9_fewest hT hK (G := aimG i) ⟨fun z => absurd z (by decide), fun z => absurd (of_decide_eq_true z) (fun q => by cases q)⟩ (fun q hq hb => ⟨fun _ => decide_eq_true (by rw [(aim_bt i hi q (by omega)).mp hb]), fun _ => rfl⟩) (fun q hq hb => ⟨fun z => absurd z (by decide), fun z => absurd ((aim_bt i hi q (by omega)).mpr (by have := of_decide_eq_true z; cases this; rfl)) hb⟩) (fun g2 hs2 => ?_))
        dsimp only [m_push]
        have h64 := fwF_lt (P := fwP (aimG i) (a_H a) x) (2 ^ a_cn (a_H a)) 0 none (by have := pow_c (a_cnE hK.2.1).2; omega) (fun q hq => by cases hq)
        generalize fwF (fwP (aimG i) (a_H a) x) (2 ^ a_cn (a_H a)) 0 none = b at hQ h64 ⊢
        cases b with
        | none =>
          dsimp only [eM]
          refine s_istore (n := 44) dX9_aim_42 rfl (by decide) rfl rfl ?_
          refine s_iload (n := 46) dX9_aim_44 rfl rfl ?_
          refine s_ldc (n := 48) dX9_aim_46 rfl kc_X9_128 ?_
          refine s_icmp_eq (n := 51) (t := 56) dX9_aim_48 (by decide) rfl (fun _ => ?_) (fun h => absurd h (by decide))
          refine s_iload (n := 58) dX9_aim_56 rfl rfl ?_
          refine s_goto (t := 66) dX9_aim_58 (by decide) ?_
          refine s_ireturn dX9_aim_66 rfl rfl ?_
          exact hQ g2 (hM.sc hs2) hs2.FM
        | some q =>
          have hq64 := h64 q rfl
          dsimp only [eM]
          refine s_istore (n := 44) dX9_aim_42 rfl (by decide) rfl rfl ?_
          refine s_iload (n := 46) dX9_aim_44 rfl rfl ?_
          refine s_ldc (n := 48) dX9_aim_46 rfl kc_X9_128 ?_
          refine s_icmp_eq (n := 51) (t := 56) dX9_aim_48 (by decide) rfl (fun h48 => ?_) (fun h48 => ?_)
          · exact absurd h48 (fw_ne hq64)
          · refine s_iload_n (n := 52) dX9_aim_51 rfl rfl rfl ?_
            refine s_iconst (v := 1) (n := 53) dX9_aim_52 rfl (by decide) ?_
            refine s_icmp_ne (n := 56) (t := 61) dX9_aim_53 (by decide) rfl (fun h53 => ?_) (fun h53 => ?_)
            · refine s_iload (n := 63) dX9_aim_61 rfl rfl ?_
              refine s_cs1 (n := 66) dX9_aim_63 rfl mo_X9_bits ml_X9_220 rfl (Nat.le_of_ble_eq_true rfl) (Nat.le_of_ble_eq_true rfl) (c_X9_bits _ ?_)
              dsimp only [m_push]
              refine s_ireturn dX9_aim_66 rfl rfl ?_
              dsimp only [fwV] at hQ
              rcases wn01 hb24 with e | e
              · subst e
                first
                | (rw [biE_64 q hq64]; exact hQ g2 (hM.sc hs2) hs2.FM)
                | exact absurd rfl h53
                | exact absurd h53 (by decide)
              · subst e
                first
                | exact hQ g2 (hM.sc hs2) hs2.FM
                | exact absurd rfl h53
            · refine s_iload (n := 58) dX9_aim_56 rfl rfl ?_
              refine s_goto (t := 66) dX9_aim_58 (by decide) ?_
              refine s_ireturn dX9_aim_66 rfl rfl ?_
              dsimp only [fwV] at hQ
              rcases wn01 hb24 with e | e
              · subst e
                first
                | (rw [biE_64 q hq64]; exact hQ g2 (hM.sc hs2) hs2.FM)
                | exact absurd rfl h53
                | exact absurd h53 (by decide)
              · subst e
                first
                | exact hQ g2 (hM.sc hs2) hs2.FM
                | exact absurd rfl h53
      · dsimp only [m_push]
        refine s_if_ne (n := 30) (t := 33) dX9_aim_27 (by decide) rfl (fun h => absurd h (by decide)) (fun _ => ?_)
        refine s_ldc (n := 32) dX9_aim_30 rfl kc_X9_70 ?_
        refine s_ireturn dX9_aim_32 rfl rfl ?_
        simp only [if_pos hb2, if_pos hb14, if_neg hb24] at hQ
        exact hQ g hM F_M.rf
    · dsimp only [m_push]
      refine s_if_eq (n := 20) (t := 30) dX9_aim_17 (by decide) rfl (fun _ => ?_) (fun h => absurd h (by decide))
      refine s_ldc (n := 32) dX9_aim_30 rfl kc_X9_70 ?_
      refine s_ireturn dX9_aim_32 rfl rfl ?_
      simp only [if_pos hb2, if_neg hb14] at hQ
      exact hQ g hM F_M.rf
  · dsimp only [m_push]
    refine s_if_eq (n := 8) (t := 30) dX9_aim_5 (by decide) rfl (fun _ => ?_) (fun h => absurd h (by decide))
    refine s_ldc (n := 32) dX9_aim_30 rfl kc_X9_70 ?_
    refine s_ireturn dX9_aim_32 rfl rfl ?_
    simp only [if_neg hb2] at hQ
    exact hQ g hM F_M.rf
theorem M_shun {SL : Nat} {d : Nat} {Q : Option Int32 → m_G → Prop} {g : m_G} {a : a_S} (hA : a_OK a) (hM : M_R g a) (x y w : Int32) (hQ : E_M g a Q (sp_shun a x y w)) : Sim SL (d + 7) yX9_shun cX9_shun 5 (some .int) 0 [.ref 78, .int x, .int y, .int w, .null] [] g Q := by
  unfold E_M sp_shun at hQ
  have hT : TM g 0 (a_H a) := hM.2.2.1.2
  refine s_aload_n (n := 1) dX9_shun_0 rfl rfl rfl ?_
  refine s_geti (n := 4) dX9_shun_1 rfl fl_X9_150 rfl rfl ?_
  rw [hM.2.2.1.1]
  refine s_if_ne (n := 7) (t := 10) dX9_shun_4 (by decide) rfl (fun h4 => ?_) (fun h4 => ?_)
  · obtain ⟨t, hh⟩ : ∃ t, a_hill a = some t := by
      cases hh : a_hill a with
      | none => rw [hh] at h4; exact absurd rfl h4
      | some t => exact ⟨t, rfl⟩
    have hHt : a_H a = t := by unfold a_H a_T; rw [hh]; rfl
    have hK := hA.1 t hh
    rw [hHt] at hT
    rw [hh] at hQ
    dsimp only at hQ
    refine s_iload_n (n := 11) dX9_shun_10 rfl rfl rfl ?_
    refine s_i2l (n := 12) dX9_shun_11 rfl ?_
    refine s_lconst (v := 0) (n := 13) dX9_shun_12 rfl (by decide) ?_
    refine s_iconst (v := 1) (n := 14) dX9_shun_13 rfl (by decide) ?_
    refine s_aload_n (n := 15) dX9_shun_14 rfl rfl rfl ?_
    refine s_getr (k2 := 79) (n := 18) dX9_shun_15 rfl fl_X9_7 rfl rfl rfl ?_
    refine s_iconst (v := 1) (n := 19) dX9_shun_18 rfl (by decide) ?_
    refine s_iaload 1 (n := 20) dX9_shun_19 rfl rfl rfl (by decide) ?_
    rw [hT.z (by decide), (a_cnE hK.2.1).1]
    refine s_ishl (n := 21) dX9_shun_20 rfl ?_
    refine s_iconst (v := 1) (n := 22) dX9_shun_21 rfl (by decide) ?_
    refine s_isub (n := 23) dX9_shun_22 rfl ?_
    rw [(all_c _ (by have := (a_cnE hK.2.1).2; omega)).1]
    refine s_i2l (n := 24) dX9_shun_23 rfl ?_
    refine s_cs3 (n := 27) dX9_shun_24 rfl mo_X9_in ml_X9_60 rfl (Nat.le_of_ble_eq_true rfl) (Nat.le_of_ble_eq_true rfl) (c_X9_in 0 _ rfl (by decide) rfl (fun hb24 => ?_) (fun hb24 => ?_))
    · dsimp only [m_push]
      refine s_if_eq (n := 30) (t := 52) dX9_shun_27 (by decide) rfl (fun h => absurd h (by decide)) (fun _ => ?_)
      refine s_iload_n (n := 31) dX9_shun_30 rfl rfl rfl ?_
      refine s_i2l (n := 32) dX9_shun_31 rfl ?_
      refine s_lconst (v := 0) (n := 33) dX9_shun_32 rfl (by decide) ?_
      refine s_ldc2 (n := 36) dX9_shun_33 rfl kc_X9_203 ?_
      refine s_cs3 (n := 39) dX9_shun_36 rfl mo_X9_in ml_X9_60 rfl (Nat.le_of_ble_eq_true rfl) (Nat.le_of_ble_eq_true rfl) (c_X9_in (0) (60) rfl (by decide) (by decide) (fun hb36 => ?_) (fun hb36 => ?_))
      · dsimp only [m_push]
        refine s_if_eq (n := 42) (t := 52) dX9_shun_39 (by decide) rfl (fun h => absurd h (by decide)) (fun _ => ?_)
        refine s_iload_n (n := 43) dX9_shun_42 rfl rfl rfl ?_
        refine s_i2l (n := 44) dX9_shun_43 rfl ?_
        refine s_lconst (v := 0) (n := 45) dX9_shun_44 rfl (by decide) ?_
        refine s_lconst (v := 1) (n := 46) dX9_shun_45 rfl (by decide) ?_
        refine s_cs3 (n := 49) dX9_shun_46 rfl mo_X9_in ml_X9_60 rfl (Nat.le_of_ble_eq_true rfl) (Nat.le_of_ble_eq_true rfl) (c_X9_in (0) (1) rfl (by decide) (by decide) (fun hb46 => ?_) (fun hb46 => ?_))
        · dsimp only [m_push]
          refine s_if_ne (n := 52) (t := 55) dX9_shun_49 (by decide) rfl (fun _ => ?_) (fun h => absurd h (by decide))
          rw [if_pos hb24, if_pos hb36, if_pos hb46] at hQ
          refine s_aload_n (n := 56) dX9_shun_55 rfl rfl rfl ?_
          refine s_iload_n (n := 57) dX9_shun_56 rfl rfl rfl ?_
          refine s_iconst (v := 0) (n := 58) dX9_shun_57 rfl (by decide) ?_
          refine s_iload_n (n := 59) dX9_shun_58 rfl rfl rfl ?_
          refine s_cv3 (n := 62) dX9_shun_59 rfl mo_X9_fewest ml_X9_223 rfl (by decide) rfl rfl (Nat.le_of_ble_eq_true rfl) (Nat.le_of_ble_eq_true rfl) (c_X9_fewest hT hK (G := shunG x) ⟨fun _ => rfl, fun _ => rfl⟩ (fun q hq hb => ⟨fun z => absurd z (by decide), fun z => absurd hb (of_decide_eq_true z)⟩) (fun q hq hb => ⟨fun _ => decide_eq_true hb, fun _ => rfl⟩) (fun g2 hs2 => ?_))
          dsimp only [m_push]
          have h64 := fwF_lt (P := fwP (shunG x) t y) (2 ^ a_cn t) 0 none (by have := pow_c (a_cnE hK.2.1).2; omega) (fun q hq => by cases hq)
          generalize fwF (fwP (shunG x) t y) (2 ^ a_cn t) 0 none = b at hQ h64 ⊢
          cases b with
          | none =>
            dsimp only [eM]
            refine s_istore (n := 64) dX9_shun_62 rfl (by decide) rfl rfl ?_
            refine s_iload (n := 66) dX9_shun_64 rfl rfl ?_
            refine s_ldc (n := 68) dX9_shun_66 rfl kc_X9_128 ?_
            refine s_icmp_eq (n := 71) (t := 76) dX9_shun_68 (by decide) rfl (fun _ => ?_) (fun h => absurd h (by decide))
            refine s_iload (n := 78) dX9_shun_76 rfl rfl ?_
            refine s_goto (t := 86) dX9_shun_78 (by decide) ?_
            refine s_ireturn dX9_shun_86 rfl rfl ?_
            exact hQ g2 (hM.sc hs2) hs2.FM
          | some q =>
            have hq64 := h64 q rfl
            dsimp only [eM]
            refine s_istore (n := 64) dX9_shun_62 rfl (by decide) rfl rfl ?_
            refine s_iload (n := 66) dX9_shun_64 rfl rfl ?_
            refine s_ldc (n := 68) dX9_shun_66 rfl kc_X9_128 ?_
            refine s_icmp_eq (n := 71) (t := 76) dX9_shun_68 (by decide) rfl (fun h68 => ?_) (fun h68 => ?_)
            · exact absurd h68 (fw_ne hq64)
            · refine s_iload_n (n := 72) dX9_shun_71 rfl rfl rfl ?_
              refine s_iconst (v := 1) (n := 73) dX9_shun_72 rfl (by decide) ?_
              refine s_icmp_ne (n := 76) (t := 81) dX9_shun_73 (by decide) rfl (fun h73 => ?_) (fun h73 => ?_)
              · refine s_iload (n := 83) dX9_shun_81 rfl rfl ?_
                refine s_cs1 (n := 86) dX9_shun_83 rfl mo_X9_bits ml_X9_220 rfl (Nat.le_of_ble_eq_true rfl) (Nat.le_of_ble_eq_true rfl) (c_X9_bits _ ?_)
                dsimp only [m_push]
                refine s_ireturn dX9_shun_86 rfl rfl ?_
                dsimp only [fwV] at hQ
                rcases wn01 hb46 with e | e
                · subst e
                  first
                  | (rw [biE_64 q hq64]; exact hQ g2 (hM.sc hs2) hs2.FM)
                  | exact absurd rfl h73
                  | exact absurd h73 (by decide)
                · subst e
                  first
                  | exact hQ g2 (hM.sc hs2) hs2.FM
                  | exact absurd rfl h73
              · refine s_iload (n := 78) dX9_shun_76 rfl rfl ?_
                refine s_goto (t := 86) dX9_shun_78 (by decide) ?_
                refine s_ireturn dX9_shun_86 rfl rfl ?_
                dsimp only [fwV] at hQ
                rcases wn01 hb46 with e | e
                · subst e
                  first
                  | (rw [biE_64 q hq64]; exact hQ g2 (hM.sc hs2) hs2.FM)
                  | exact absurd rfl h73
                  | exact absurd h73 (by decide)
                · subst e
                  first
                  | exact hQ g2 (hM.sc hs2) hs2.FM
                  | exact absurd rfl h73
        · dsimp only [m_push]
          refine s_if_ne (n := 52) (t := 55) dX9_shun_49 (by decide) rfl (fun h => absurd h (by decide)) (fun _ => ?_)
          refine s_ldc (n := 54) dX9_shun_52 rfl kc_X9_70 ?_
          refine s_ireturn dX9_shun_54 rfl rfl ?_
          first
          | (rw [if_neg hb24] at hQ; exact hQ g hM F_M.rf)
          | (rw [if_pos hb24, if_neg hb36] at hQ; exact hQ g hM F_M.rf)
          | (rw [if_pos hb24, if_pos hb36, if_neg hb46] at hQ; exact hQ g hM F_M.rf)
      · dsimp only [m_push]
        refine s_if_eq (n := 42) (t := 52) dX9_shun_39 (by decide) rfl (fun _ => ?_) (fun h => absurd h (by decide))
        refine s_ldc (n := 54) dX9_shun_52 rfl kc_X9_70 ?_
        refine s_ireturn dX9_shun_54 rfl rfl ?_
        first
        | (rw [if_neg hb24] at hQ; exact hQ g hM F_M.rf)
        | (rw [if_pos hb24, if_neg hb36] at hQ; exact hQ g hM F_M.rf)
        | (rw [if_pos hb24, if_pos hb36, if_neg hb46] at hQ; exact hQ g hM F_M.rf)
    · dsimp only [m_push]
      refine s_if_eq (n := 30) (t := 52) dX9_shun_27 (by decide) rfl (fun _ => ?_) (fun h => absurd h (by decide))
      refine s_ldc (n := 54) dX9_shun_52 rfl kc_X9_70 ?_
      refine s_ireturn dX9_shun_54 rfl rfl ?_
      first
      | (rw [if_neg hb24] at hQ; exact hQ g hM F_M.rf)
      | (rw [if_pos hb24, if_neg hb36] at hQ; exact hQ g hM F_M.rf)
      | (rw [if_pos hb24, if_pos hb36, if_neg hb46] at hQ; exact hQ g hM F_M.rf)
  · refine s_ldc (n := 9) dX9_shun_7 rfl kc_X9_157 ?_
    refine s_ireturn dX9_shun_9 rfl rfl ?_
    cases hh : a_hill a with
    | none => rw [hh] at hQ; exact hQ g hM F_M.rf
    | some t => rw [hh] at h4; exact absurd h4 (by show ¬ (1 : Int32) = 0; decide)
