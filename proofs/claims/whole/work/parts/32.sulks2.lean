theorem TM.tj {g : m_G} {t : m_T} (h : TM g 1053 t) (j : Nat) (v : Int32) : TM (m_up g 79 (1053 + j) v) 1053 (upd t j v) := fun i hi => by
  rw [m_up_k]; unfold upd
  by_cases e : i = j
  · subst e; rw [if_pos rfl, if_pos rfl]
  · rw [if_neg (by omega), if_neg e]; exact h i hi
theorem TM.t8 {g : m_G} {t : m_T} {w : Int32} (h : TM g 1053 (upd t 8 w)) (v : Int32) : TM (m_up g 79 1061 v) 1053 (upd t 8 v) := by
  have := h.tj 8 v
  rw [upd_upd] at this
  exact this
theorem M_sc.m0 {g g2 : m_G} {t : m_T} (hs : M_sc g g2) (h : TM g 0 t) : TM g2 0 t := h.kept (fun j hj => hs.2.2 _ (by omega))
set_option maxHeartbeats 1000000 in
theorem lp_X9_sulksTried {SL d : Nat} {Q : Option Int32 → m_G → Prop} {t0 t : m_T} (hK : a_TK t) (ht : ∀ j, j ≠ 8 → t j = t0 j) : ∀ (n i : Nat) (g : m_G) (x : Int32) (x5 x6 : Value), i + n = 6 → TM g 0 t0 → (∃ w, TM g 1053 (upd t 8 w)) → (∀ g2, M_sc g g2 → TM g2 1053 t → Q (some (slF t n i x)) g2) → Sim SL (d + 4) yX9_sulksTried cX9_sulksTried 7 (some .int) 22 [.ref 78, .int x, .int (t 8), .int (eM (sRest t 0)), .int (nI i), x5, x6] [] g Q := by
  intro n
  induction n with
  | zero =>
    intro i g x x5 x6 hin hT0 hR0 hQ
    obtain ⟨w, hR⟩ := hR0
    have hi : i = 6 := by omega
    subst hi
    refine s_iload (n := 24) dX9_sulksTried_22 rfl rfl ?_
    refine s_aload_n (n := 25) dX9_sulksTried_24 rfl rfl rfl ?_
    refine s_getr (k2 := 79) (n := 28) dX9_sulksTried_25 rfl fl_X9_7 rfl rfl rfl ?_
    refine s_iconst (v := 1) (n := 29) dX9_sulksTried_28 rfl (by decide) ?_
    refine s_iaload 1 (n := 30) dX9_sulksTried_29 rfl rfl rfl (by decide) ?_
    rw [hT0.z (by decide), ← ht 1 (by decide)]
    refine s_icmp_ge (n := 33) (t := 127) dX9_sulksTried_30 (by decide) rfl (fun h30 => ?_) (fun h30 => ?_)
    · refine s_aload_n (n := 128) dX9_sulksTried_127 rfl rfl rfl ?_
      refine s_getr (k2 := 79) (n := 131) dX9_sulksTried_128 rfl fl_X9_7 rfl rfl rfl ?_
      refine s_sipush (v := 1061) (n := 134) dX9_sulksTried_131 rfl (by decide) ?_
      refine s_iload_n (n := 135) dX9_sulksTried_134 rfl rfl rfl ?_
      refine s_iastore 1061 (n := 136) dX9_sulksTried_135 rfl rfl rfl (by decide) ?_
      refine s_iload_n (n := 137) dX9_sulksTried_136 rfl rfl rfl ?_
      refine s_ireturn dX9_sulksTried_137 rfl rfl ?_
      refine hQ _ (M_sc.t (by decide)) ?_
      have := hR.t8 (t 8)
      rw [upd_self] at this
      exact this
    · exact absurd hK.t1 h30
  | succ n ih =>
    intro i g x x5 x6 hin hT0 hR0 hQ
    obtain ⟨w, hR⟩ := hR0
    have hi6 : i < 6 := by omega
    refine s_iload (n := 24) dX9_sulksTried_22 rfl rfl ?_
    refine s_aload_n (n := 25) dX9_sulksTried_24 rfl rfl rfl ?_
    refine s_getr (k2 := 79) (n := 28) dX9_sulksTried_25 rfl fl_X9_7 rfl rfl rfl ?_
    refine s_iconst (v := 1) (n := 29) dX9_sulksTried_28 rfl (by decide) ?_
    refine s_iaload 1 (n := 30) dX9_sulksTried_29 rfl rfl rfl (by decide) ?_
    rw [hT0.z (by decide), ← ht 1 (by decide)]
    unfold slF at hQ
    refine s_icmp_ge (n := 33) (t := 127) dX9_sulksTried_30 (by decide) rfl (fun h30 => ?_) (fun h30 => ?_)
    · refine s_aload_n (n := 128) dX9_sulksTried_127 rfl rfl rfl ?_
      refine s_getr (k2 := 79) (n := 131) dX9_sulksTried_128 rfl fl_X9_7 rfl rfl rfl ?_
      refine s_sipush (v := 1061) (n := 134) dX9_sulksTried_131 rfl (by decide) ?_
      refine s_iload_n (n := 135) dX9_sulksTried_134 rfl rfl rfl ?_
      refine s_iastore 1061 (n := 136) dX9_sulksTried_135 rfl rfl rfl (by decide) ?_
      refine s_iload_n (n := 137) dX9_sulksTried_136 rfl rfl rfl ?_
      refine s_ireturn dX9_sulksTried_137 rfl rfl ?_
      rw [if_pos h30] at hQ
      refine hQ _ (M_sc.t (by decide)) ?_
      have := hR.t8 (t 8)
      rw [upd_self] at this
      exact this
    · rw [if_neg h30] at hQ
      refine s_aload_n (n := 34) dX9_sulksTried_33 rfl rfl rfl ?_
      refine s_getr (k2 := 79) (n := 37) dX9_sulksTried_34 rfl fl_X9_7 rfl rfl rfl ?_
      refine s_sipush (v := 1061) (n := 40) dX9_sulksTried_37 rfl (by decide) ?_
      refine s_iload_n (n := 41) dX9_sulksTried_40 rfl rfl rfl ?_
      refine s_iconst (v := 1) (n := 42) dX9_sulksTried_41 rfl (by decide) ?_
      refine s_iload (n := 44) dX9_sulksTried_42 rfl rfl ?_
      refine s_ishl (n := 45) dX9_sulksTried_44 rfl ?_
      refine s_ixor (n := 46) dX9_sulksTried_45 rfl ?_
      refine s_iastore 1061 (n := 47) dX9_sulksTried_46 rfl rfl rfl (by decide) ?_
      have hR2 : TM (m_up g 79 1061 (t 8 ^^^ a_sh i)) 1053 (upd t 8 (t 8 ^^^ a_sh i)) := hR.t8 _
      have hK2 := hK.op (t 8 ^^^ a_sh i)
      refine s_aload_n (n := 48) dX9_sulksTried_47 rfl rfl rfl ?_
      refine s_sipush (v := 1053) (n := 51) dX9_sulksTried_48 rfl (by decide) ?_
      refine s_cv1 (n := 54) dX9_sulksTried_51 rfl mo_X9_rollsNow ml_X9_182 rfl (by decide) rfl rfl (Nat.le_of_ble_eq_true rfl) (Nat.le_of_ble_eq_true rfl) (c_X9_rollsNow (b := 1053) (by decide) rfl hR2 hK2.t0 hK2.t1 hK2.t6 hK2.kd hK2.t4 (fun g2 hf _ _ => ?_))
      have hT2 := hR2.fr hf
      have hs : M_sc g g2 := (M_sc.t (by decide)).tr hf.sc
      have hT02 := hs.m0 hT0
      dsimp only [m_push]
      have eA : eM (sRest t 0) = nI i ↔ sRest t 0 = some i := eM_eq hi6 sRun6
      have eB : eM (sRest (upd t 8 (t 8 ^^^ a_sh i)) 0) = nI i ↔ sRest (upd t 8 (t 8 ^^^ a_sh i)) 0 = some i := eM_eq hi6 sRun6
      have eC : eM (sRun (upd t 8 (t 8 ^^^ a_sh i)) (sTop (upd t 8 (t 8 ^^^ a_sh i)) 0)).1 = nI i ↔ sRest (upd t 8 (t 8 ^^^ a_sh i)) 0 = some i := eB
      refine s_iload (n := 56) dX9_sulksTried_54 rfl rfl ?_
      refine s_mat_icmp_ne (n := 64) (t := 63) dX9_sulksTried_56 (by decide) dX9_sulksTried_59 dX9_sulksTried_60 (by decide) dX9_sulksTried_63 rfl (u := 0) (v := 1) (by decide) (by decide) ?_
      refine s_istore (n := 66) dX9_sulksTried_64 rfl (by decide) rfl rfl ?_
      refine s_iload_n (n := 67) dX9_sulksTried_66 rfl rfl rfl ?_
      refine s_iload (n := 69) dX9_sulksTried_67 rfl rfl ?_
      refine s_mat_icmp_ne (n := 77) (t := 76) dX9_sulksTried_69 (by decide) dX9_sulksTried_72 dX9_sulksTried_73 (by decide) dX9_sulksTried_76 rfl (u := 0) (v := 1) (by decide) (by decide) ?_
      refine s_istore (n := 79) dX9_sulksTried_77 rfl (by decide) rfl rfl ?_
      refine s_iload_n (n := 80) dX9_sulksTried_79 rfl rfl rfl ?_
      refine s_iload (n := 82) dX9_sulksTried_80 rfl rfl ?_
      refine s_iload (n := 84) dX9_sulksTried_82 rfl rfl ?_
      refine s_icmp_eq (n := 87) (t := 118) dX9_sulksTried_84 (by decide) rfl (fun h84 => ?_) (fun h84 => ?_)
      · refine s_iconst (v := 0) (n := 119) dX9_sulksTried_118 rfl (by decide) ?_
        first
        | (have hp : slP t i := by
             have q1 := mt b01.mpr h84
             have q2 := b01.mp h108
             rw [eA, eC] at q1
             rw [eC] at q2
             exact ⟨fun z => q1 z.symm, q2⟩
           rw [if_pos hp] at hQ)
        | (have hp : ¬ slP t i := by
             rintro ⟨z1, z2⟩
             rw [← eA, ← eC] at z1
             rw [← eC] at z2
             first
             | exact h108 (b01.mpr z2)
             | exact z1 (b01.mp h84).symm
           rw [if_neg hp] at hQ)
        refine s_ior (n := 120) dX9_sulksTried_119 rfl ?_
        first | rw [Int32.or_zero] | skip
        refine s_istore_n (n := 121) dX9_sulksTried_120 rfl rfl (by decide) rfl rfl ?_
        refine s_iinc (n := 124) (v := nI (i + 1)) dX9_sulksTried_121 rfl (by decide) rfl rfl (nI_1 i) rfl ?_
        refine s_goto (t := 22) dX9_sulksTried_124 (by decide) ?_
        exact ih (i + 1) g2 _ _ _ (by omega) hT02 ⟨_, hT2⟩ (fun g3 hf3 => hQ g3 (hs.tr hf3))
      · refine s_iload (n := 89) dX9_sulksTried_87 rfl rfl ?_
        refine s_aload_n (n := 90) dX9_sulksTried_89 rfl rfl rfl ?_
        refine s_getr (k2 := 79) (n := 93) dX9_sulksTried_90 rfl fl_X9_7 rfl rfl rfl ?_
        refine s_bipush (v := 27) (n := 95) dX9_sulksTried_93 rfl (by decide) ?_
        refine s_iload (n := 97) dX9_sulksTried_95 rfl rfl ?_
        refine s_iadd (n := 98) dX9_sulksTried_97 rfl ?_
        refine s_iaload (27 + i) (n := 99) dX9_sulksTried_98 rfl rfl (ix2m rfl) (by omega) ?_
        rw [hT02.z (by omega), ← ht (27 + i) (by omega)]
        refine s_iconst (v := 1) (n := 100) dX9_sulksTried_99 rfl (by decide) ?_
        refine s_mat_icmp_ne (n := 108) (t := 107) dX9_sulksTried_100 (by decide) dX9_sulksTried_103 dX9_sulksTried_104 (by decide) dX9_sulksTried_107 rfl (u := 0) (v := 1) (by decide) (by decide) ?_
        refine s_icmp_ne (n := 111) (t := 118) dX9_sulksTried_108 (by decide) rfl (fun h108 => ?_) (fun h108 => ?_)
        · refine s_iconst (v := 0) (n := 119) dX9_sulksTried_118 rfl (by decide) ?_
          first
          | (have hp : slP t i := by
               have q1 := mt b01.mpr h84
               have q2 := b01.mp h108
               rw [eA, eC] at q1
               rw [eC] at q2
               exact ⟨fun z => q1 z.symm, q2⟩
             rw [if_pos hp] at hQ)
          | (have hp : ¬ slP t i := by
               rintro ⟨z1, z2⟩
               rw [← eA, ← eC] at z1
               rw [← eC] at z2
               first
               | exact h108 (b01.mpr z2)
               | exact z1 (b01.mp h84).symm
             rw [if_neg hp] at hQ)
          refine s_ior (n := 120) dX9_sulksTried_119 rfl ?_
          first | rw [Int32.or_zero] | skip
          refine s_istore_n (n := 121) dX9_sulksTried_120 rfl rfl (by decide) rfl rfl ?_
          refine s_iinc (n := 124) (v := nI (i + 1)) dX9_sulksTried_121 rfl (by decide) rfl rfl (nI_1 i) rfl ?_
          refine s_goto (t := 22) dX9_sulksTried_124 (by decide) ?_
          exact ih (i + 1) g2 _ _ _ (by omega) hT02 ⟨_, hT2⟩ (fun g3 hf3 => hQ g3 (hs.tr hf3))
        · refine s_iconst (v := 1) (n := 112) dX9_sulksTried_111 rfl (by decide) ?_
          refine s_iload (n := 114) dX9_sulksTried_112 rfl rfl ?_
          refine s_ishl (n := 115) dX9_sulksTried_114 rfl ?_
          refine s_goto (t := 119) dX9_sulksTried_115 (by decide) ?_
          first
          | (have hp : slP t i := by
               have q1 := mt b01.mpr h84
               have q2 := b01.mp h108
               rw [eA, eC] at q1
               rw [eC] at q2
               exact ⟨fun z => q1 z.symm, q2⟩
             rw [if_pos hp] at hQ)
          | (have hp : ¬ slP t i := by
               rintro ⟨z1, z2⟩
               rw [← eA, ← eC] at z1
               rw [← eC] at z2
               first
               | exact h108 (b01.mpr z2)
               | exact z1 (b01.mp h84).symm
             rw [if_neg hp] at hQ)
          refine s_ior (n := 120) dX9_sulksTried_119 rfl ?_
          first | rw [Int32.or_zero] | skip
          refine s_istore_n (n := 121) dX9_sulksTried_120 rfl rfl (by decide) rfl rfl ?_
          refine s_iinc (n := 124) (v := nI (i + 1)) dX9_sulksTried_121 rfl (by decide) rfl rfl (nI_1 i) rfl ?_
          refine s_goto (t := 22) dX9_sulksTried_124 (by decide) ?_
          exact ih (i + 1) g2 _ _ _ (by omega) hT02 ⟨_, hT2⟩ (fun g3 hf3 => hQ g3 (hs.tr hf3))
theorem c_X9_sulksTried {SL : Nat} {d : Nat} {Q : Option Int32 → m_G → Prop} {g : m_G} {t0 t : m_T} (hT0 : TM g 0 t0) (hR : TM g 1053 t) (hK : a_TK t) (ht : ∀ j, j ≠ 8 → t j = t0 j) (hQ : ∀ g2, M_sc g g2 → TM g2 1053 t → Q (some (slF t 6 0 0)) g2) : Sim SL (d + 4) yX9_sulksTried cX9_sulksTried 7 (some .int) 0 [.ref 78, .null, .null, .null, .null, .null, .null] [] g Q := by
  refine s_iconst (v := 0) (n := 1) dX9_sulksTried_0 rfl (by decide) ?_
  refine s_istore_n (n := 2) dX9_sulksTried_1 rfl rfl (by decide) rfl rfl ?_
  refine s_aload_n (n := 3) dX9_sulksTried_2 rfl rfl rfl ?_
  refine s_getr (k2 := 79) (n := 6) dX9_sulksTried_3 rfl fl_X9_7 rfl rfl rfl ?_
  refine s_sipush (v := 1061) (n := 9) dX9_sulksTried_6 rfl (by decide) ?_
  refine s_iaload 1061 (n := 10) dX9_sulksTried_9 rfl rfl rfl (by decide) ?_
  rw [show g 79 1061 = t 8 from hR 8 (by decide)]
  refine s_istore_n (n := 11) dX9_sulksTried_10 rfl rfl (by decide) rfl rfl ?_
  refine s_aload_n (n := 12) dX9_sulksTried_11 rfl rfl rfl ?_
  refine s_sipush (v := 1053) (n := 15) dX9_sulksTried_12 rfl (by decide) ?_
  refine s_cv1 (n := 18) dX9_sulksTried_15 rfl mo_X9_rollsNow ml_X9_182 rfl (by decide) rfl rfl (Nat.le_of_ble_eq_true rfl) (Nat.le_of_ble_eq_true rfl) (c_X9_rollsNow (b := 1053) (by decide) rfl hR hK.t0 hK.t1 hK.t6 hK.kd hK.t4 (fun g2 hf _ _ => ?_))
  dsimp only [m_push]
  refine s_istore_n (n := 19) dX9_sulksTried_18 rfl rfl (by decide) rfl rfl ?_
  refine s_iconst (v := 0) (n := 20) dX9_sulksTried_19 rfl (by decide) ?_
  refine s_istore (n := 22) dX9_sulksTried_20 rfl (by decide) rfl rfl ?_
  exact lp_X9_sulksTried hK ht 6 0 g2 0 _ _ rfl (hf.sc.m0 hT0) ⟨t 8, by rw [upd_self]; exact hR.fr hf⟩ (fun g3 hf3 => hQ g3 (hf.sc.tr hf3))
theorem M_sulks {SL : Nat} {d : Nat} {Q : Option Int32 → m_G → Prop} {g : m_G} {a : a_S} (hA : a_OK a) (hM : M_R g a) (hQ : E_M g a Q (sp_sulks a)) : Sim SL (d + 5) yX9_sulks cX9_sulks 1 (some .int) 0 [.ref 78] [] g Q := by
  unfold E_M sp_sulks at hQ
  have hT : TM g 0 (a_H a) := hM.2.2.1.2
  refine s_aload_n (n := 1) dX9_sulks_0 rfl rfl rfl ?_
  refine s_geti (n := 4) dX9_sulks_1 rfl fl_X9_150 rfl rfl ?_
  rw [hM.2.2.1.1]
  refine s_if_ne (n := 7) (t := 10) dX9_sulks_4 (by decide) rfl (fun h4 => ?_) (fun h4 => ?_)
  · obtain ⟨t, hh⟩ : ∃ t, a_hill a = some t := by
      cases hh : a_hill a with
      | none => rw [hh] at h4; exact absurd rfl h4
      | some t => exact ⟨t, rfl⟩
    have hHt : a_H a = t := by unfold a_H a_T; rw [hh]; rfl
    have hK := hA.1 t hh
    rw [hHt] at hT
    rw [hh] at hQ
    dsimp only at hQ
    refine s_aload_n (n := 11) dX9_sulks_10 rfl rfl rfl ?_
    refine s_cv0 (n := 14) dX9_sulks_11 rfl mo_X9_layTried ml_X9_208 rfl (by decide) rfl rfl (Nat.le_of_ble_eq_true rfl) (Nat.le_of_ble_eq_true rfl) (c_X9_layTried hT (fun g1 hf1 hL1 hL2 => ?_))
    have hs1 := M_sc.lay hf1 hL2
    dsimp only [m_push]
    refine s_aload_n (n := 15) dX9_sulks_14 rfl rfl rfl ?_
    refine s_cv0 (n := 18) dX9_sulks_15 rfl mo_X9_sulksTried ml_X9_229 rfl (by decide) rfl rfl (Nat.le_of_ble_eq_true rfl) (Nat.le_of_ble_eq_true rfl) (c_X9_sulksTried (hs1.m0 hT) hL1 hK (fun _ _ => rfl) (fun g2 hs2 _ => ?_))
    dsimp only [m_push]
    refine s_ireturn dX9_sulks_18 rfl rfl ?_
    exact hQ g2 (hM.sc (hs1.tr hs2)) (hs1.tr hs2).FM
  · refine s_ldc (n := 9) dX9_sulks_7 rfl kc_X9_157 ?_
    refine s_ireturn dX9_sulks_9 rfl rfl ?_
    cases hh : a_hill a with
    | none => rw [hh] at hQ; exact hQ g hM F_M.rf
    | some t => rw [hh] at h4; exact absurd h4 (by show ¬ (1 : Int32) = 0; decide)
theorem lp_X9_peace {SL d : Nat} {Q : Option Int32 → m_G → Prop} {t0 : m_T} (w : Int32) : ∀ (n k : Nat) (g : m_G) (t : m_T) (x3 : Value), k + n = 41 → TM g 0 t0 → TM g 1053 t → a_TK t → (∀ j, j ≠ 8 → t j = t0 j) → (∀ g2, pcF n k t = none → M_sc g g2 → Q (some (-1000000)) g2) → (∀ q u g2, pcF n k t = some (q, u) → M_sc g g2 → TM g2 1053 u → Q (some (if w = 0 then nI q else u 8)) g2) → Sim SL (d + 5) yX9_peace cX9_peace 4 (some .int) 29 [.ref 78, .int w, .int (nI k), x3] [] g Q := by
  intro n
  induction n with
  | zero =>
    intro k g t x3 hin hT0 hT hK ht hQn hQs
    have hk : k = 41 := by omega
    subst hk
    refine s_iload_n (n := 30) dX9_peace_29 rfl rfl rfl ?_
    refine s_bipush (v := 41) (n := 32) dX9_peace_30 rfl (by decide) ?_
    refine s_icmp_ge (n := 35) (t := 82) dX9_peace_32 (by decide) rfl (fun h32 => ?_) (fun h32 => ?_)
    · refine s_ldc (n := 84) dX9_peace_82 rfl kc_X9_128 ?_
      refine s_ireturn dX9_peace_84 rfl rfl ?_
      exact hQn g rfl M_sc.rf
    · exact absurd (by decide) h32
  | succ n ih =>
    intro k g t x3 hin hT0 hT hK ht hQn hQs
    have hk : k < 41 := by omega
    refine s_iload_n (n := 30) dX9_peace_29 rfl rfl rfl ?_
    refine s_bipush (v := 41) (n := 32) dX9_peace_30 rfl (by decide) ?_
    refine s_icmp_ge (n := 35) (t := 82) dX9_peace_32 (by decide) rfl (fun h32 => ?_) (fun h32 => ?_)
    · exact absurd h32 (nI_ge (show k < 41 by omega) (by decide))
    · refine s_aload_n (n := 36) dX9_peace_35 rfl rfl rfl ?_
      refine s_cv0 (n := 39) dX9_peace_36 rfl mo_X9_sulksTried ml_X9_229 rfl (by decide) rfl rfl (Nat.le_of_ble_eq_true rfl) (Nat.le_of_ble_eq_true rfl) (c_X9_sulksTried hT0 hT hK ht (fun g2 hs hT2 => ?_))
      dsimp only [m_push]
      refine s_istore_n (n := 40) dX9_peace_39 rfl rfl (by decide) rfl rfl ?_
      refine s_iload_n (n := 41) dX9_peace_40 rfl rfl rfl ?_
      refine s_if_ne (n := 44) (t := 61) dX9_peace_41 (by decide) rfl (fun h41 => ?_) (fun h41 => ?_)
      · unfold pcF at hQn hQs
        rw [if_neg h41] at hQn hQs
        refine s_aload_n (n := 62) dX9_peace_61 rfl rfl rfl ?_
        refine s_getr (k2 := 79) (n := 65) dX9_peace_62 rfl fl_X9_7 rfl rfl rfl ?_
        refine s_sipush (v := 1061) (n := 68) dX9_peace_65 rfl (by decide) ?_
        refine s_dup2 (n := 69) dX9_peace_68 rfl rfl rfl ?_
        refine s_iaload 1061 (n := 70) dX9_peace_69 rfl rfl rfl (by decide) ?_
        rw [show g2 79 1061 = t 8 from hT2 8 (by decide)]
        refine s_iload_n (n := 71) dX9_peace_70 rfl rfl rfl ?_
        refine s_iload_n (n := 72) dX9_peace_71 rfl rfl rfl ?_
        refine s_ineg (n := 73) dX9_peace_72 rfl ?_
        refine s_iand (n := 74) dX9_peace_73 rfl ?_
        refine s_ixor (n := 75) dX9_peace_74 rfl ?_
        refine s_iastore 1061 (n := 76) dX9_peace_75 rfl rfl rfl (by decide) ?_
        refine s_iinc (n := 79) (v := nI (k + 1)) dX9_peace_76 rfl (by decide) rfl rfl (nI_1 k) rfl ?_
        refine s_goto (t := 29) dX9_peace_79 (by decide) ?_
        have hfr : M_sc g (m_up g2 79 1061 (t 8 ^^^ (slF t 6 0 0 &&& -slF t 6 0 0))) := hs.tr (M_sc.t (by decide))
        exact ih (k + 1) _ _ _ (by omega) (hfr.m0 hT0) (hT2.tj 8 _) (hK.op _) (fun j hj => by rw [upd_ne hj]; exact ht j hj) (fun g3 e hf3 => hQn g3 e (hfr.tr hf3)) (fun q u g3 e hf3 hT3 => hQs q u g3 e (hfr.tr hf3) hT3)
      · refine s_iload_n (n := 45) dX9_peace_44 rfl rfl rfl ?_
        refine s_if_ne (n := 48) (t := 52) dX9_peace_45 (by decide) rfl (fun h45 => ?_) (fun h45 => ?_)
        · refine s_aload_n (n := 53) dX9_peace_52 rfl rfl rfl ?_
          refine s_getr (k2 := 79) (n := 56) dX9_peace_53 rfl fl_X9_7 rfl rfl rfl ?_
          refine s_sipush (v := 1061) (n := 59) dX9_peace_56 rfl (by decide) ?_
          refine s_iaload 1061 (n := 60) dX9_peace_59 rfl rfl rfl (by decide) ?_
          first
          | rw [show g2 79 1061 = t 8 from hT2 8 (by decide)]
          | skip
          refine s_ireturn dX9_peace_60 rfl rfl ?_
          unfold pcF at hQs
          rw [if_pos h41] at hQs
          have := hQs _ _ g2 rfl hs hT2
          first
          | (rw [if_pos h45] at this; exact this)
          | (rw [if_neg h45] at this; exact this)
        · refine s_iload_n (n := 49) dX9_peace_48 rfl rfl rfl ?_
          refine s_goto (t := 60) dX9_peace_49 (by decide) ?_
          first
          | rw [show g2 79 1061 = t 8 from hT2 8 (by decide)]
          | skip
          refine s_ireturn dX9_peace_60 rfl rfl ?_
          unfold pcF at hQs
          rw [if_pos h41] at hQs
          have := hQs _ _ g2 rfl hs hT2
          first
          | (rw [if_pos h45] at this; exact this)
          | (rw [if_neg h45] at this; exact this)
theorem M_peace {SL : Nat} {d : Nat} {Q : Option Int32 → m_G → Prop} {g : m_G} {a : a_S} (hA : a_OK a) (hM : M_R g a) (w : Int32) (hQ : E_M g a Q (sp_peace a w)) : Sim SL (d + 6) yX9_peace cX9_peace 4 (some .int) 0 [.ref 78, .int w, .null, .null] [] g Q := by
  unfold E_M sp_peace at hQ
  have hT : TM g 0 (a_H a) := hM.2.2.1.2
  refine s_aload_n (n := 1) dX9_peace_0 rfl rfl rfl ?_
  refine s_geti (n := 4) dX9_peace_1 rfl fl_X9_150 rfl rfl ?_
  rw [hM.2.2.1.1]
  refine s_if_ne (n := 7) (t := 10) dX9_peace_4 (by decide) rfl (fun h4 => ?_) (fun h4 => ?_)
  · obtain ⟨t, hh⟩ : ∃ t, a_hill a = some t := by
      cases hh : a_hill a with
      | none => rw [hh] at h4; exact absurd rfl h4
      | some t => exact ⟨t, rfl⟩
    have hHt : a_H a = t := by unfold a_H a_T; rw [hh]; rfl
    have hK := hA.1 t hh
    rw [hHt] at hT
    rw [hh] at hQ
    dsimp only at hQ
    refine s_iload_n (n := 11) dX9_peace_10 rfl rfl rfl ?_
    refine s_i2l (n := 12) dX9_peace_11 rfl ?_
    refine s_lconst (v := 0) (n := 13) dX9_peace_12 rfl (by decide) ?_
    refine s_lconst (v := 1) (n := 14) dX9_peace_13 rfl (by decide) ?_
    refine s_cs3 (n := 17) dX9_peace_14 rfl mo_X9_in ml_X9_60 rfl (Nat.le_of_ble_eq_true rfl) (Nat.le_of_ble_eq_true rfl) (c_X9_in (0) (1) rfl (by decide) (by decide) (fun hb14 => ?_) (fun hb14 => ?_))
    · dsimp only [m_push]
      refine s_if_ne (n := 20) (t := 23) dX9_peace_17 (by decide) rfl (fun _ => ?_) (fun h => absurd h (by decide))
      rw [if_pos hb14] at hQ
      refine s_aload_n (n := 24) dX9_peace_23 rfl rfl rfl ?_
      refine s_cv0 (n := 27) dX9_peace_24 rfl mo_X9_layTried ml_X9_208 rfl (by decide) rfl rfl (Nat.le_of_ble_eq_true rfl) (Nat.le_of_ble_eq_true rfl) (c_X9_layTried hT (fun g1 hf1 hL1 hL2 => ?_))
      have hs1 := M_sc.lay hf1 hL2
      dsimp only [m_push]
      refine s_iconst (v := 0) (n := 28) dX9_peace_27 rfl (by decide) ?_
      refine s_istore_n (n := 29) dX9_peace_28 rfl rfl (by decide) rfl rfl ?_
      exact lp_X9_peace w 41 0 g1 t _ rfl (hs1.m0 hT) hL1 hK (fun _ _ => rfl) (fun g3 e hf3 => by rw [e] at hQ; exact hQ g3 (hM.sc (hs1.tr hf3)) (hs1.tr hf3).FM) (fun q u g3 e hf3 hT3 => by rw [e] at hQ; exact hQ g3 (hM.sc (hs1.tr hf3)) (hs1.tr hf3).FM)
    · dsimp only [m_push]
      refine s_if_ne (n := 20) (t := 23) dX9_peace_17 (by decide) rfl (fun h => absurd h (by decide)) (fun _ => ?_)
      refine s_ldc (n := 22) dX9_peace_20 rfl kc_X9_70 ?_
      refine s_ireturn dX9_peace_22 rfl rfl ?_
      rw [if_neg hb14] at hQ
      exact hQ g hM F_M.rf
  · refine s_ldc (n := 9) dX9_peace_7 rfl kc_X9_157 ?_
    refine s_ireturn dX9_peace_9 rfl rfl ?_
    cases hh : a_hill a with
    | none => rw [hh] at hQ; exact hQ g hM F_M.rf
    | some t => rw [hh] at h4; exact absurd h4 (by show ¬ (1 : Int32) = 0; decide)
