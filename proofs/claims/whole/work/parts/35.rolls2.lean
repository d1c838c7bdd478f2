theorem lp_X9_isSo {SL d : Nat} {Q : Option Int32 → m_G → Prop} {u : m_T} {y : Int32} (hK : a_TK u) {j : Nat} (hj : j < 8) {f : Nat → Int32} {ii nn : Nat} (hin : ii + nn ≤ 40) : ∀ (n k : Nat) (g : m_G) (x5 : Value), k + n = nn → g 79 7 = y → TQ g u → (∀ i, i < 40 → g 83 (40 * j + i) = f i) → (ftB u y f ii n k = true → ∀ g2, M_sc g g2 → Q (some 1) g2) → (ftB u y f ii n k = false → ∀ g2, M_sc g g2 → Q (some 0) g2) → Sim SL (d + 5) yX9_isSo cX9_isSo 6 (some .boolean) 3 [.ref 78, .int (nI j), .int (nI ii), .int (nI nn), .int (nI k), x5] [] g Q := by
  intro n
  induction n with
  | zero =>
    intro k g x5 hkn hy hU hF hQ1 hQ0
    have hk : k = nn := by omega
    subst hk
    refine s_iload (n := 5) dX9_isSo_3 rfl rfl ?_
    refine s_iload_n (n := 6) dX9_isSo_5 rfl rfl rfl ?_
    refine s_icmp_ge (n := 9) (t := 55) dX9_isSo_6 (by decide) rfl (fun h6 => ?_) (fun h6 => ?_)
    · refine s_iconst (v := 1) (n := 56) dX9_isSo_55 rfl (by decide) ?_
      refine s_ireturn dX9_isSo_56 rfl (by decide +kernel) ?_
      exact hQ1 rfl g M_sc.rf
    · exact absurd (nI_le (Nat.le_refl _) (by omega)) h6
  | succ n ih =>
    intro k g x5 hkn hy hU hF hQ1 hQ0
    have hk : k < nn := by omega
    refine s_iload (n := 5) dX9_isSo_3 rfl rfl ?_
    refine s_iload_n (n := 6) dX9_isSo_5 rfl rfl rfl ?_
    refine s_icmp_ge (n := 9) (t := 55) dX9_isSo_6 (by decide) rfl (fun h6 => ?_) (fun h6 => ?_)
    · exact absurd h6 (nI_ge hk (by omega))
    · refine s_aload_n (n := 10) dX9_isSo_9 rfl rfl rfl ?_
      refine s_iload (n := 12) dX9_isSo_10 rfl rfl ?_
      refine s_cv1 (n := 15) dX9_isSo_12 rfl mo_X9_restsIn ml_X9_211 rfl (by decide) rfl rfl (Nat.le_of_ble_eq_true rfl) (Nat.le_of_ble_eq_true rfl) (c_X9_restsIn hy hK.t0 hK.t1 hK.t6 hK.kd hK.t4 hU _ (fun g2 hs hU2 _ _ => ?_))
      have e9 : g2 83 (40 * j + ii + k) = f (ii + k) := by rw [hs.1 83 (by decide), Nat.add_assoc]; exact hF _ (by omega)
      dsimp only [m_push]
      refine s_istore (n := 17) dX9_isSo_15 rfl (by decide) rfl rfl ?_
      refine s_iload (n := 19) dX9_isSo_17 rfl rfl ?_
      refine s_ldc (n := 21) dX9_isSo_19 rfl kc_X9_128 ?_
      refine s_icmp_ne (n := 24) (t := 28) dX9_isSo_21 (by decide) rfl (fun h21 => ?_) (fun h21 => ?_)
      · refine s_iload (n := 30) dX9_isSo_28 rfl rfl ?_
        first
        | rw [← eCM2 h21]
        | rw [show (-1 : Int32) = eC (sR u y (nI k)) from (eCM1 sR6 h21).symm]
        refine s_aload_n (n := 31) dX9_isSo_30 rfl rfl rfl ?_
        refine s_getr (k2 := 83) (n := 34) dX9_isSo_31 rfl fl_X9_23 rfl rfl rfl ?_
        refine s_bipush (v := 40) (n := 36) dX9_isSo_34 rfl (by decide) ?_
        refine s_iload_n (n := 37) dX9_isSo_36 rfl rfl rfl ?_
        refine s_imul (n := 38) dX9_isSo_37 rfl ?_
        refine s_iload_n (n := 39) dX9_isSo_38 rfl rfl rfl ?_
        refine s_iadd (n := 40) dX9_isSo_39 rfl ?_
        refine s_iload (n := 42) dX9_isSo_40 rfl rfl ?_
        refine s_iadd (n := 43) dX9_isSo_42 rfl ?_
        refine s_iaload (40 * j + ii + k) (n := 44) dX9_isSo_43 rfl rfl ixc (by omega) ?_
        rw [e9]
        refine s_icmp_eq (n := 47) (t := 49) dX9_isSo_44 (by decide) rfl (fun h44 => ?_) (fun h44 => ?_)
        · refine s_iinc (n := 52) (v := nI (k + 1)) dX9_isSo_49 rfl (by decide) rfl rfl (nI_1 k) rfl ?_
          refine s_goto (t := 3) dX9_isSo_52 (by decide) ?_
          have e : ftB u y f ii (n + 1) k = ftB u y f ii n (k + 1) := by
            conv => lhs; unfold ftB
            exact if_pos h44
          rw [e] at hQ0 hQ1
          exact ih (k + 1) g2 _ (by omega) (by rw [hs.2.2 7 (by decide)]; exact hy) hU2 (fun i hi => by rw [hs.1 83 (by decide)]; exact hF i hi) (fun z g3 hf3 => hQ1 z g3 (hs.tr hf3)) (fun z g3 hf3 => hQ0 z g3 (hs.tr hf3))
        · refine s_iconst (v := 0) (n := 48) dX9_isSo_47 rfl (by decide) ?_
          refine s_ireturn dX9_isSo_48 rfl (by decide +kernel) ?_
          refine hQ0 ?_ g2 hs
          unfold ftB
          exact if_neg h44
      · refine s_iconst (v := -1) (n := 25) dX9_isSo_24 rfl (by decide) ?_
        refine s_goto (t := 30) dX9_isSo_25 (by decide) ?_
        first
        | rw [← eCM2 h21]
        | rw [show (-1 : Int32) = eC (sR u y (nI k)) from (eCM1 sR6 h21).symm]
        refine s_aload_n (n := 31) dX9_isSo_30 rfl rfl rfl ?_
        refine s_getr (k2 := 83) (n := 34) dX9_isSo_31 rfl fl_X9_23 rfl rfl rfl ?_
        refine s_bipush (v := 40) (n := 36) dX9_isSo_34 rfl (by decide) ?_
        refine s_iload_n (n := 37) dX9_isSo_36 rfl rfl rfl ?_
        refine s_imul (n := 38) dX9_isSo_37 rfl ?_
        refine s_iload_n (n := 39) dX9_isSo_38 rfl rfl rfl ?_
        refine s_iadd (n := 40) dX9_isSo_39 rfl ?_
        refine s_iload (n := 42) dX9_isSo_40 rfl rfl ?_
        refine s_iadd (n := 43) dX9_isSo_42 rfl ?_
        refine s_iaload (40 * j + ii + k) (n := 44) dX9_isSo_43 rfl rfl ixc (by omega) ?_
        rw [e9]
        refine s_icmp_eq (n := 47) (t := 49) dX9_isSo_44 (by decide) rfl (fun h44 => ?_) (fun h44 => ?_)
        · refine s_iinc (n := 52) (v := nI (k + 1)) dX9_isSo_49 rfl (by decide) rfl rfl (nI_1 k) rfl ?_
          refine s_goto (t := 3) dX9_isSo_52 (by decide) ?_
          have e : ftB u y f ii (n + 1) k = ftB u y f ii n (k + 1) := by
            conv => lhs; unfold ftB
            exact if_pos h44
          rw [e] at hQ0 hQ1
          exact ih (k + 1) g2 _ (by omega) (by rw [hs.2.2 7 (by decide)]; exact hy) hU2 (fun i hi => by rw [hs.1 83 (by decide)]; exact hF i hi) (fun z g3 hf3 => hQ1 z g3 (hs.tr hf3)) (fun z g3 hf3 => hQ0 z g3 (hs.tr hf3))
        · refine s_iconst (v := 0) (n := 48) dX9_isSo_47 rfl (by decide) ?_
          refine s_ireturn dX9_isSo_48 rfl (by decide +kernel) ?_
          refine hQ0 ?_ g2 hs
          unfold ftB
          exact if_neg h44
theorem c_X9_isSo {SL : Nat} {d : Nat} {Q : Option Int32 → m_G → Prop} {g : m_G} {u : m_T} {y : Int32} (hK : a_TK u) (hy : g 79 7 = y) (hU : TQ g u) {j : Nat} (hj : j < 8) {f : Nat → Int32} (hF : ∀ i, i < 40 → g 83 (40 * j + i) = f i) {ii nn : Nat} (hin : ii + nn ≤ 40) (k1 : ftB u y f ii nn 0 = true → ∀ g2, M_sc g g2 → Q (some 1) g2) (k0 : ftB u y f ii nn 0 = false → ∀ g2, M_sc g g2 → Q (some 0) g2) : Sim SL (d + 5) yX9_isSo cX9_isSo 6 (some .boolean) 0 [.ref 78, .int (nI j), .int (nI ii), .int (nI nn), .null, .null] [] g Q := by
  refine s_iconst (v := 0) (n := 1) dX9_isSo_0 rfl (by decide) ?_
  refine s_istore (n := 3) dX9_isSo_1 rfl (by decide) rfl rfl ?_
  exact lp_X9_isSo hK hj hin nn 0 g _ (by omega) hy hU hF k1 k0
theorem c_X9_noItems {SL : Nat} {d : Nat} {Q : Option Int32 → m_G → Prop} {g : m_G} {j : Nat} (hj : j < 8) {x : a_R} (hw : M_w g j x) (i n : Int32) (k0 : x = none → Q (some (-1000011)) (m_up g 78 10 1)) (k1 : ∀ q, x = some q → sp_rch (nI q.2.1) i n → Q (some 0) g) (k2 : ∀ q, x = some q → ¬ sp_rch (nI q.2.1) i n → Q (some (-1000012)) (m_up g 78 10 2)) : Sim SL (d + 1) yX9_noItems cX9_noItems 4 (some .int) 0 [.ref 78, .int (nI j), .int i, .int n] [] g Q := by
  refine s_aload_n (n := 1) dX9_noItems_0 rfl rfl rfl ?_
  refine s_getr (k2 := 82) (n := 4) dX9_noItems_1 rfl fl_X9_20 rfl rfl rfl ?_
  refine s_iload_n (n := 5) dX9_noItems_4 rfl rfl rfl ?_
  refine s_iaload j (n := 6) dX9_noItems_5 rfl rfl rfl hj ?_
  refine s_if_ge (n := 9) (t := 17) dX9_noItems_6 (by decide) rfl (fun h6 => ?_) (fun h6 => ?_)
  · obtain ⟨q, rfl⟩ : ∃ q, x = some q := by
      cases x with
      | none => exact absurd h6 (by rw [show g 82 j = -1 from hw]; decide)
      | some p => exact ⟨p, rfl⟩
    refine s_aload_n (n := 18) dX9_noItems_17 rfl rfl rfl ?_
    refine s_iload_n (n := 19) dX9_noItems_18 rfl rfl rfl ?_
    refine s_iload_n (n := 20) dX9_noItems_19 rfl rfl rfl ?_
    refine s_iload_n (n := 21) dX9_noItems_20 rfl rfl rfl ?_
    refine s_cv3 (n := 24) dX9_noItems_21 rfl mo_X9_isSpan ml_X9_82 rfl (by decide) rfl rfl (Nat.le_of_ble_eq_true rfl) (Nat.le_of_ble_eq_true rfl) (c_X9_isSpan hj hw.1 hw.2.2.1 _ _ (fun hb21 => ?_) (fun hb21 => ?_))
    · dsimp only [m_push]
      refine s_if_eq (n := 27) (t := 31) dX9_noItems_24 (by decide) rfl (fun h => absurd h (by decide)) (fun _ => ?_)
      refine s_iconst (v := 0) (n := 28) dX9_noItems_27 rfl (by decide) ?_
      refine s_goto (t := 36) dX9_noItems_28 (by decide) ?_
      refine s_ireturn dX9_noItems_36 rfl rfl ?_
      first
      | exact k1 q rfl hb21
      | (rw [show (-1000010 : Int32) - 2 = -1000012 from by decide]; exact k2 q rfl hb21)
      | (cases x with
         | none => rw [show (-1000010 : Int32) - 1 = -1000011 from by decide]; exact k0 rfl
         | some q => exact absurd (by rw [hw.1]; exact nI_pos' (by have := hw.2.2.1; omega)) h6)
    · dsimp only [m_push]
      refine s_if_eq (n := 27) (t := 31) dX9_noItems_24 (by decide) rfl (fun _ => ?_) (fun h => absurd h (by decide))
      refine s_aload_n (n := 32) dX9_noItems_31 rfl rfl rfl ?_
      refine s_iconst (v := 2) (n := 33) dX9_noItems_32 rfl (by decide) ?_
      refine s_cv1 (n := 36) dX9_noItems_33 rfl mo_X9_find ml_X9_71 rfl (by decide) rfl rfl (Nat.le_of_ble_eq_true rfl) (Nat.le_of_ble_eq_true rfl) (c_X9_find _ ?_)
      dsimp only [m_push]
      refine s_ireturn dX9_noItems_36 rfl rfl ?_
      first
      | exact k1 q rfl hb21
      | (rw [show (-1000010 : Int32) - 2 = -1000012 from by decide]; exact k2 q rfl hb21)
      | (cases x with
         | none => rw [show (-1000010 : Int32) - 1 = -1000011 from by decide]; exact k0 rfl
         | some q => exact absurd (by rw [hw.1]; exact nI_pos' (by have := hw.2.2.1; omega)) h6)
  · refine s_aload_n (n := 10) dX9_noItems_9 rfl rfl rfl ?_
    refine s_iconst (v := 1) (n := 11) dX9_noItems_10 rfl (by decide) ?_
    refine s_cv1 (n := 14) dX9_noItems_11 rfl mo_X9_find ml_X9_71 rfl (by decide) rfl rfl (Nat.le_of_ble_eq_true rfl) (Nat.le_of_ble_eq_true rfl) (c_X9_find _ ?_)
    dsimp only [m_push]
    refine s_goto (t := 36) dX9_noItems_14 (by decide) ?_
    refine s_ireturn dX9_noItems_36 rfl rfl ?_
    first
    | exact k1 q rfl hb21
    | (rw [show (-1000010 : Int32) - 2 = -1000012 from by decide]; exact k2 q rfl hb21)
    | (cases x with
       | none => rw [show (-1000010 : Int32) - 1 = -1000011 from by decide]; exact k0 rfl
       | some q => exact absurd (by rw [hw.1]; exact nI_pos' (by have := hw.2.2.1; omega)) h6)
theorem lp_X9_rolls {SL d : Nat} {Q : Option Int32 → m_G → Prop} {t : m_T} (hK : a_TK t) {w : Nat} (hw : w < 4) {j : Nat} (hj : j < 8) {f : Nat → Int32} {ii nn : Nat} (hin : ii + nn ≤ 40) : ∀ (n v : Nat) (g : m_G) (x : Int32), v + n = lwHi w + 1 → lwLo w ≤ v → TM g 0 t → g 91 w = nI (lwHi w) → g 90 w = nI (2 + w) → (∀ i, i < 40 → g 83 (40 * j + i) = f i) → (∀ g2, M_sc g g2 → Q (some (orF (fun v => ftB (upd t (2 + w) (nI v)) (t 7) f ii nn 0) n v x)) (m_up g2 78 10 0)) → Sim SL (d + 6) yX9_rolls cX9_rolls 8 (some .int) 78 [.ref 78, .int (nI j), .int (nI ii), .int (nI nn), .int (nI w), .int 0, .int x, .int (nI v)] [] g Q := by
  have hb := lw_b hw
  intro n
  induction n with
  | zero =>
    intro v g x hvn hlv hT hMo hPl hF hQ
    refine s_iload (n := 80) dX9_rolls_78 rfl rfl ?_
    refine s_aload_n (n := 81) dX9_rolls_80 rfl rfl rfl ?_
    refine s_getr (k2 := 91) (n := 84) dX9_rolls_81 rfl fl_X9_47 rfl rfl rfl ?_
    refine s_iload (n := 86) dX9_rolls_84 rfl rfl ?_
    refine s_iaload w (n := 87) dX9_rolls_86 rfl rfl rfl hw ?_
    rw [hMo]
    refine s_icmp_gt (n := 90) (t := 141) dX9_rolls_87 (by decide) rfl (fun h87 => ?_) (fun h87 => ?_)
    · refine s_aload_n (n := 142) dX9_rolls_141 rfl rfl rfl ?_
      refine s_iload (n := 144) dX9_rolls_142 rfl rfl ?_
      refine s_cv1 (n := 147) dX9_rolls_144 rfl mo_X9_well ml_X9_75 rfl (by decide) rfl rfl (Nat.le_of_ble_eq_true rfl) (Nat.le_of_ble_eq_true rfl) (c_X9_well _ ?_)
      dsimp only [m_push]
      refine s_ireturn dX9_rolls_147 rfl rfl ?_
      exact hQ g M_sc.rf
    · exact absurd (nI_gt (show lwHi w < v by omega) (by omega)) h87
  | succ n ih =>
    intro v g x hvn hlv hT hMo hPl hF hQ
    refine s_iload (n := 80) dX9_rolls_78 rfl rfl ?_
    refine s_aload_n (n := 81) dX9_rolls_80 rfl rfl rfl ?_
    refine s_getr (k2 := 91) (n := 84) dX9_rolls_81 rfl fl_X9_47 rfl rfl rfl ?_
    refine s_iload (n := 86) dX9_rolls_84 rfl rfl ?_
    refine s_iaload w (n := 87) dX9_rolls_86 rfl rfl rfl hw ?_
    rw [hMo]
    refine s_icmp_gt (n := 90) (t := 141) dX9_rolls_87 (by decide) rfl (fun h87 => ?_) (fun h87 => ?_)
    · exact absurd h87 (nI_nlt (show v ≤ lwHi w by omega) (by omega))
    · refine s_aload_n (n := 91) dX9_rolls_90 rfl rfl rfl ?_
      refine s_cv0 (n := 94) dX9_rolls_91 rfl mo_X9_layTried ml_X9_208 rfl (by decide) rfl rfl (Nat.le_of_ble_eq_true rfl) (Nat.le_of_ble_eq_true rfl) (c_X9_layTried hT (fun g1 hf1 hL1 hL2 => ?_))
      have hs1 := M_sc.lay hf1 hL2
      dsimp only [m_push]
      refine s_aload_n (n := 95) dX9_rolls_94 rfl rfl rfl ?_
      refine s_getr (k2 := 79) (n := 98) dX9_rolls_95 rfl fl_X9_7 rfl rfl rfl ?_
      refine s_sipush (v := 1053) (n := 101) dX9_rolls_98 rfl (by decide) ?_
      refine s_aload_n (n := 102) dX9_rolls_101 rfl rfl rfl ?_
      refine s_getr (k2 := 90) (n := 105) dX9_rolls_102 rfl fl_X9_44 rfl rfl rfl ?_
      refine s_iload (n := 107) dX9_rolls_105 rfl rfl ?_
      refine s_iaload w (n := 108) dX9_rolls_107 rfl rfl rfl hw ?_
      rw [show g1 90 w = nI (2 + w) by rw [hf1 90 (by decide)]; exact hPl]
      refine s_iadd (n := 109) dX9_rolls_108 rfl ?_
      refine s_iload (n := 111) dX9_rolls_109 rfl rfl ?_
      refine s_iastore (1053 + (2 + w)) (n := 112) dX9_rolls_111 rfl rfl (ix2m rfl) (by omega) ?_
      have hU2 : TQ (m_up g1 79 (1053 + (2 + w)) (nI v)) (upd t (2 + w) (nI v)) := hL1.q.tj _ _
      have hK2 := hK.lw hw hlv (show v ≤ lwHi w by omega)
      unfold orF at hQ
      refine s_iload (n := 114) dX9_rolls_112 rfl rfl ?_
      refine s_aload_n (n := 115) dX9_rolls_114 rfl rfl rfl ?_
      refine s_iload_n (n := 116) dX9_rolls_115 rfl rfl rfl ?_
      refine s_iload_n (n := 117) dX9_rolls_116 rfl rfl rfl ?_
      refine s_iload_n (n := 118) dX9_rolls_117 rfl rfl rfl ?_
      refine s_cv3 (n := 121) dX9_rolls_118 rfl mo_X9_isSo ml_X9_240 rfl (by decide) rfl rfl (Nat.le_of_ble_eq_true rfl) (Nat.le_of_ble_eq_true rfl) (c_X9_isSo hK2 (y := t 7) (by rw [m_up_k, if_neg (by omega), hL2 7 (by decide)]; exact hT.z (by decide)) hU2 hj (f := f) (fun i hi => by rw [m_up_o (by decide), hf1 83 (by decide)]; exact hF i hi) hin (fun hb118 => ?_) (fun hb118 => ?_))
      · dsimp only [m_push]
        intro g2 hs
        have hfr : M_sc g g2 := (hs1.tr (M_sc.t (by omega))).tr hs
        refine s_if_eq (n := 124) (t := 131) dX9_rolls_121 (by decide) rfl (fun h => absurd h (by decide)) (fun _ => ?_)
        refine s_iconst (v := 1) (n := 125) dX9_rolls_124 rfl (by decide) ?_
        refine s_iload (n := 127) dX9_rolls_125 rfl rfl ?_
        refine s_ishl (n := 128) dX9_rolls_127 rfl ?_
        refine s_goto (t := 132) dX9_rolls_128 (by decide) ?_
        refine s_ior (n := 133) dX9_rolls_132 rfl ?_
        refine s_istore (n := 135) dX9_rolls_133 rfl (by decide) rfl rfl ?_
        refine s_iinc (n := 138) (v := nI (v + 1)) dX9_rolls_135 rfl (by decide) rfl rfl (nI_1 v) rfl ?_
        refine s_goto (t := 78) dX9_rolls_138 (by decide) ?_
        rw [if_pos hb118] at hQ
        exact ih (v + 1) g2 _ (by omega) (by omega) (hfr.m0 hT) (by rw [hfr.1 91 (by decide)]; exact hMo) (by rw [hfr.1 90 (by decide)]; exact hPl) (fun i hi => by rw [hfr.1 83 (by decide)]; exact hF i hi) (fun g3 hf3 => hQ g3 (hfr.tr hf3))
      · dsimp only [m_push]
        intro g2 hs
        have hfr : M_sc g g2 := (hs1.tr (M_sc.t (by omega))).tr hs
        refine s_if_eq (n := 124) (t := 131) dX9_rolls_121 (by decide) rfl (fun _ => ?_) (fun h => absurd h (by decide))
        refine s_iconst (v := 0) (n := 132) dX9_rolls_131 rfl (by decide) ?_
        refine s_ior (n := 133) dX9_rolls_132 rfl ?_
        rw [Int32.or_zero]
        refine s_istore (n := 135) dX9_rolls_133 rfl (by decide) rfl rfl ?_
        refine s_iinc (n := 138) (v := nI (v + 1)) dX9_rolls_135 rfl (by decide) rfl rfl (nI_1 v) rfl ?_
        refine s_goto (t := 78) dX9_rolls_138 (by decide) ?_
        rw [if_neg (by rw [hb118]; decide)] at hQ
        exact ih (v + 1) g2 _ (by omega) (by omega) (hfr.m0 hT) (by rw [hfr.1 91 (by decide)]; exact hMo) (by rw [hfr.1 90 (by decide)]; exact hPl) (fun i hi => by rw [hfr.1 83 (by decide)]; exact hF i hi) (fun g3 hf3 => hQ g3 (hfr.tr hf3))
theorem M_rolls {SL : Nat} {d : Nat} {Q : Option Int32 → m_G → Prop} {g : m_G} {a : a_S} (hA : a_OK a) (hM : M_R g a) (hKS : K_S g) (r i n w : Int32) (hQ : E_M g a Q (sp_rolls a r i n w)) : Sim SL (d + 7) yX9_rolls cX9_rolls 8 (some .int) 0 [.ref 78, .int r, .int i, .int n, .int w, .null, .null, .null] [] g Q := by
  unfold E_M sp_rolls at hQ
  have hT : TM g 0 (a_H a) := hM.2.2.1.2
  refine s_aload_n (n := 1) dX9_rolls_0 rfl rfl rfl ?_
  refine s_geti (n := 4) dX9_rolls_1 rfl fl_X9_150 rfl rfl ?_
  rw [hM.2.2.1.1]
  refine s_if_ne (n := 7) (t := 10) dX9_rolls_4 (by decide) rfl (fun h4 => ?_) (fun h4 => ?_)
  · obtain ⟨t, hh⟩ : ∃ t, a_hill a = some t := by
      cases hh : a_hill a with
      | none => rw [hh] at h4; exact absurd rfl h4
      | some t => exact ⟨t, rfl⟩
    have hHt : a_H a = t := by unfold a_H a_T; rw [hh]; rfl
    have hK := hA.1 t hh
    rw [hHt] at hT
    rw [hh] at hQ
    dsimp only at hQ
    refine s_iload_n (n := 11) dX9_rolls_10 rfl rfl rfl ?_
    refine s_cs1 (n := 14) dX9_rolls_11 rfl mo_X9_isRow ml_X9_64 rfl (Nat.le_of_ble_eq_true rfl) (Nat.le_of_ble_eq_true rfl) (c_X9_isRow _ (fun hb11 => ?_) (fun hb11 => ?_))
    · dsimp only [m_push]
      refine s_if_eq (n := 17) (t := 42) dX9_rolls_14 (by decide) rfl (fun h => absurd h (by decide)) (fun _ => ?_)
      refine s_iload_n (n := 18) dX9_rolls_17 rfl rfl rfl ?_
      refine s_i2l (n := 19) dX9_rolls_18 rfl ?_
      refine s_lconst (v := 1) (n := 20) dX9_rolls_19 rfl (by decide) ?_
      refine s_ldc2 (n := 23) dX9_rolls_20 rfl kc_X9_233 ?_
      refine s_cs3 (n := 26) dX9_rolls_23 rfl mo_X9_in ml_X9_60 rfl (Nat.le_of_ble_eq_true rfl) (Nat.le_of_ble_eq_true rfl) (c_X9_in (1) (16) rfl (by decide) (by decide) (fun hb23 => ?_) (fun hb23 => ?_))
      · dsimp only [m_push]
        refine s_if_eq (n := 29) (t := 42) dX9_rolls_26 (by decide) rfl (fun h => absurd h (by decide)) (fun _ => ?_)
        refine s_iload (n := 31) dX9_rolls_29 rfl rfl ?_
        refine s_i2l (n := 32) dX9_rolls_31 rfl ?_
        refine s_lconst (v := 0) (n := 33) dX9_rolls_32 rfl (by decide) ?_
        refine s_ldc2 (n := 36) dX9_rolls_33 rfl kc_X9_235 ?_
        refine s_cs3 (n := 39) dX9_rolls_36 rfl mo_X9_in ml_X9_60 rfl (Nat.le_of_ble_eq_true rfl) (Nat.le_of_ble_eq_true rfl) (c_X9_in (0) (3) rfl (by decide) (by decide) (fun hb36 => ?_) (fun hb36 => ?_))
        · dsimp only [m_push]
          refine s_if_ne (n := 42) (t := 45) dX9_rolls_39 (by decide) rfl (fun _ => ?_) (fun h => absurd h (by decide))
          obtain ⟨j, hj, rfl⟩ := wn_ex (n := 7) hb11 rfl
          replace hj : j < 8 := by omega
          have hw9 := hM.1 j hj
          simp only [if_pos hb11, if_pos hb23, if_pos hb36, nI_clamp (show j < 2 ^ 31 by omega)] at hQ
          generalize hx : a_rows a j = x at hQ hw9
          refine s_aload_n (n := 46) dX9_rolls_45 rfl rfl rfl ?_
          refine s_iload_n (n := 47) dX9_rolls_46 rfl rfl rfl ?_
          refine s_iload_n (n := 48) dX9_rolls_47 rfl rfl rfl ?_
          refine s_iload_n (n := 49) dX9_rolls_48 rfl rfl rfl ?_
          refine s_cv3 (n := 52) dX9_rolls_49 rfl mo_X9_noItems ml_X9_237 rfl (by decide) rfl rfl (Nat.le_of_ble_eq_true rfl) (Nat.le_of_ble_eq_true rfl) (c_X9_noItems hj hw9 _ _ ?_ ?_ ?_)
          · intro hx0
            rw [hx0] at hQ
            dsimp only [m_push]
            refine s_istore (n := 54) dX9_rolls_52 rfl (by decide) rfl rfl ?_
            refine s_iload (n := 56) dX9_rolls_54 rfl rfl ?_
            refine s_if_eq (n := 59) (t := 62) dX9_rolls_56 (by decide) rfl (fun h => absurd h (by decide)) (fun _ => ?_)
            refine s_iload (n := 61) dX9_rolls_59 rfl rfl ?_
            refine s_ireturn dX9_rolls_61 rfl rfl ?_
            exact hQ _ (hM.find _) ((m_fr.up (S := [78]) (by simp)).FM (by decide))
          · intro q hx0 hr
            rw [hx0] at hQ hw9
            obtain ⟨w1, w2, w3, w4⟩ := hw9
            obtain ⟨ii, nn, rfl, rfl, hin⟩ := rchN w3 hr
            dsimp only at hQ
            rw [if_pos hr, nI_clamp (show ii < 2 ^ 31 by omega), nI_clamp (show nn < 2 ^ 31 by omega)] at hQ
            dsimp only [m_push]
            obtain ⟨ww, hw4, rfl⟩ := wn03 hb36
            rw [nI_clamp (show ww < 2 ^ 31 by omega)] at hQ
            have hlo := K_S.lo hKS hw4
            have hb := lw_b hw4
            refine s_istore (n := 54) dX9_rolls_52 rfl (by decide) rfl rfl ?_
            refine s_iload (n := 56) dX9_rolls_54 rfl rfl ?_
            refine s_if_eq (n := 59) (t := 62) dX9_rolls_56 (by decide) rfl (fun _ => ?_) (fun h => absurd h (by decide))
            refine s_iconst (v := 0) (n := 63) dX9_rolls_62 rfl (by decide) ?_
            refine s_istore (n := 65) dX9_rolls_63 rfl (by decide) rfl rfl ?_
            refine s_iload (n := 67) dX9_rolls_65 rfl rfl ?_
            refine s_iconst (v := 2) (n := 68) dX9_rolls_67 rfl (by decide) ?_
            refine s_mat_icmp_ne (n := 76) (t := 75) dX9_rolls_68 (by decide) dX9_rolls_71 dX9_rolls_72 (by decide) dX9_rolls_75 rfl (u := 0) (v := 1) (by decide) (by decide) ?_
            refine s_istore (n := 78) dX9_rolls_76 rfl (by decide) rfl rfl ?_
            rw [show (if nI ww = 2 then (1 : Int32) else 0) = nI (lwLo ww) by rcases (show ww = 0 ∨ ww = 1 ∨ ww = 2 ∨ ww = 3 by omega) with rfl | rfl | rfl | rfl <;> decide]
            exact lp_X9_rolls hK hw4 hj (f := q.2.2) (by omega) (lwHi ww + 1 - lwLo ww) (lwLo ww) g 0 (by omega) (Nat.le_refl _) hT hlo.2.2.1 hlo.2.2.2 w4 (fun g3 hf3 => hQ _ ((hM.sc hf3).find 0) (hf3.FM.tr ((m_fr.up (S := [78]) (by simp)).FM (by decide))))
          · intro q hx0 hr
            rw [hx0] at hQ
            dsimp only at hQ
            rw [if_neg hr] at hQ
            dsimp only [m_push]
            refine s_istore (n := 54) dX9_rolls_52 rfl (by decide) rfl rfl ?_
            refine s_iload (n := 56) dX9_rolls_54 rfl rfl ?_
            refine s_if_eq (n := 59) (t := 62) dX9_rolls_56 (by decide) rfl (fun h => absurd h (by decide)) (fun _ => ?_)
            refine s_iload (n := 61) dX9_rolls_59 rfl rfl ?_
            refine s_ireturn dX9_rolls_61 rfl rfl ?_
            exact hQ _ (hM.find _) ((m_fr.up (S := [78]) (by simp)).FM (by decide))
        · dsimp only [m_push]
          refine s_if_ne (n := 42) (t := 45) dX9_rolls_39 (by decide) rfl (fun h => absurd h (by decide)) (fun _ => ?_)
          refine s_ldc (n := 44) dX9_rolls_42 rfl kc_X9_70 ?_
          refine s_ireturn dX9_rolls_44 rfl rfl ?_
          first
          | (rw [if_neg hb11] at hQ; exact hQ g hM F_M.rf)
          | (rw [if_pos hb11, if_neg hb23] at hQ; exact hQ g hM F_M.rf)
          | (rw [if_pos hb11, if_pos hb23, if_neg hb36] at hQ; exact hQ g hM F_M.rf)
      · dsimp only [m_push]
        refine s_if_eq (n := 29) (t := 42) dX9_rolls_26 (by decide) rfl (fun _ => ?_) (fun h => absurd h (by decide))
        refine s_ldc (n := 44) dX9_rolls_42 rfl kc_X9_70 ?_
        refine s_ireturn dX9_rolls_44 rfl rfl ?_
        first
        | (rw [if_neg hb11] at hQ; exact hQ g hM F_M.rf)
        | (rw [if_pos hb11, if_neg hb23] at hQ; exact hQ g hM F_M.rf)
        | (rw [if_pos hb11, if_pos hb23, if_neg hb36] at hQ; exact hQ g hM F_M.rf)
    · dsimp only [m_push]
      refine s_if_eq (n := 17) (t := 42) dX9_rolls_14 (by decide) rfl (fun _ => ?_) (fun h => absurd h (by decide))
      refine s_ldc (n := 44) dX9_rolls_42 rfl kc_X9_70 ?_
      refine s_ireturn dX9_rolls_44 rfl rfl ?_
      first
      | (rw [if_neg hb11] at hQ; exact hQ g hM F_M.rf)
      | (rw [if_pos hb11, if_neg hb23] at hQ; exact hQ g hM F_M.rf)
      | (rw [if_pos hb11, if_pos hb23, if_neg hb36] at hQ; exact hQ g hM F_M.rf)
  · refine s_ldc (n := 9) dX9_rolls_7 rfl kc_X9_157 ?_
    refine s_ireturn dX9_rolls_9 rfl rfl ?_
    cases hh : a_hill a with
    | none => rw [hh] at hQ; exact hQ g hM F_M.rf
    | some t => rw [hh] at h4; exact absurd h4 (by show ¬ (1 : Int32) = 0; decide)
theorem lp_X9_sorts {SL d : Nat} {Q : Option Int32 → m_G → Prop} {t : m_T} (hK : a_TK t) {h : Nat} (hh : h < 6) {j : Nat} (hj : j < 8) {f : Nat → Int32} {ii nn : Nat} (hin : ii + nn ≤ 40) : ∀ (n v : Nat) (g : m_G) (x : Int32), v + n = 6 → 1 ≤ v → TM g 0 t → (∀ i, i < 40 → g 83 (40 * j + i) = f i) → (∀ g2, M_sc g g2 → Q (some (orF (fun v => ftB (upd t (9 + h) (nI v)) (t 7) f ii nn 0) n v x)) (m_up g2 78 10 0)) → Sim SL (d + 6) yX9_sorts cX9_sorts 8 (some .int) 55 [.ref 78, .int (nI h), .int (nI j), .int (nI ii), .int (nI nn), .int 0, .int x, .int (nI v)] [] g Q := by
  intro n
  induction n with
  | zero =>
    intro v g x hvn h1v hT hF hQ
    have hv : v = 6 := by omega
    subst hv
    refine s_iload (n := 57) dX9_sorts_55 rfl rfl ?_
    refine s_bipush (v := 6) (n := 59) dX9_sorts_57 rfl (by decide) ?_
    refine s_icmp_ge (n := 62) (t := 108) dX9_sorts_59 (by decide) rfl (fun h59 => ?_) (fun h59 => ?_)
    · refine s_aload_n (n := 109) dX9_sorts_108 rfl rfl rfl ?_
      refine s_iload (n := 111) dX9_sorts_109 rfl rfl ?_
      refine s_cv1 (n := 114) dX9_sorts_111 rfl mo_X9_well ml_X9_75 rfl (by decide) rfl rfl (Nat.le_of_ble_eq_true rfl) (Nat.le_of_ble_eq_true rfl) (c_X9_well _ ?_)
      dsimp only [m_push]
      refine s_ireturn dX9_sorts_114 rfl rfl ?_
      exact hQ g M_sc.rf
    · exact absurd (by decide) h59
  | succ n ih =>
    intro v g x hvn h1v hT hF hQ
    refine s_iload (n := 57) dX9_sorts_55 rfl rfl ?_
    refine s_bipush (v := 6) (n := 59) dX9_sorts_57 rfl (by decide) ?_
    refine s_icmp_ge (n := 62) (t := 108) dX9_sorts_59 (by decide) rfl (fun h59 => ?_) (fun h59 => ?_)
    · exact absurd h59 (nI_ge (show v < 6 by omega) (by decide))
    · refine s_aload_n (n := 63) dX9_sorts_62 rfl rfl rfl ?_
      refine s_cv0 (n := 66) dX9_sorts_63 rfl mo_X9_layTried ml_X9_208 rfl (by decide) rfl rfl (Nat.le_of_ble_eq_true rfl) (Nat.le_of_ble_eq_true rfl) (c_X9_layTried hT (fun g1 hf1 hL1 hL2 => ?_))
      have hs1 := M_sc.lay hf1 hL2
      dsimp only [m_push]
      refine s_aload_n (n := 67) dX9_sorts_66 rfl rfl rfl ?_
      refine s_getr (k2 := 79) (n := 70) dX9_sorts_67 rfl fl_X9_7 rfl rfl rfl ?_
      refine s_sipush (v := 1062) (n := 73) dX9_sorts_70 rfl (by decide) ?_
      refine s_iload_n (n := 74) dX9_sorts_73 rfl rfl rfl ?_
      refine s_iadd (n := 75) dX9_sorts_74 rfl ?_
      refine s_iload (n := 77) dX9_sorts_75 rfl rfl ?_
      refine s_iastore (1053 + (9 + h)) (n := 78) dX9_sorts_77 rfl rfl ((ix2m (c := 1062) rfl).trans (congrArg nI (by omega))) (by omega) ?_
      have hU2 : TQ (m_up g1 79 (1053 + (9 + h)) (nI v)) (upd t (9 + h) (nI v)) := hL1.q.tj _ _
      have hK2 := hK.kn hh h1v (show v ≤ 5 by omega)
      unfold orF at hQ
      refine s_iload (n := 80) dX9_sorts_78 rfl rfl ?_
      refine s_aload_n (n := 81) dX9_sorts_80 rfl rfl rfl ?_
      refine s_iload_n (n := 82) dX9_sorts_81 rfl rfl rfl ?_
      refine s_iload_n (n := 83) dX9_sorts_82 rfl rfl rfl ?_
      refine s_iload (n := 85) dX9_sorts_83 rfl rfl ?_
      refine s_cv3 (n := 88) dX9_sorts_85 rfl mo_X9_isSo ml_X9_240 rfl (by decide) rfl rfl (Nat.le_of_ble_eq_true rfl) (Nat.le_of_ble_eq_true rfl) (c_X9_isSo hK2 (y := t 7) (by rw [m_up_k, if_neg (by omega), hL2 7 (by decide)]; exact hT.z (by decide)) hU2 hj (f := f) (fun i hi => by rw [m_up_o (by decide), hf1 83 (by decide)]; exact hF i hi) hin (fun hb85 => ?_) (fun hb85 => ?_))
      · dsimp only [m_push]
        intro g2 hs
        have hfr : M_sc g g2 := (hs1.tr (M_sc.t (by omega))).tr hs
        refine s_if_eq (n := 91) (t := 98) dX9_sorts_88 (by decide) rfl (fun h => absurd h (by decide)) (fun _ => ?_)
        refine s_iconst (v := 1) (n := 92) dX9_sorts_91 rfl (by decide) ?_
        refine s_iload (n := 94) dX9_sorts_92 rfl rfl ?_
        refine s_ishl (n := 95) dX9_sorts_94 rfl ?_
        refine s_goto (t := 99) dX9_sorts_95 (by decide) ?_
        refine s_ior (n := 100) dX9_sorts_99 rfl ?_
        refine s_istore (n := 102) dX9_sorts_100 rfl (by decide) rfl rfl ?_
        refine s_iinc (n := 105) (v := nI (v + 1)) dX9_sorts_102 rfl (by decide) rfl rfl (nI_1 v) rfl ?_
        refine s_goto (t := 55) dX9_sorts_105 (by decide) ?_
        rw [if_pos hb85] at hQ
        exact ih (v + 1) g2 _ (by omega) (by omega) (hfr.m0 hT) (fun i hi => by rw [hfr.1 83 (by decide)]; exact hF i hi) (fun g3 hf3 => hQ g3 (hfr.tr hf3))
      · dsimp only [m_push]
        intro g2 hs
        have hfr : M_sc g g2 := (hs1.tr (M_sc.t (by omega))).tr hs
        refine s_if_eq (n := 91) (t := 98) dX9_sorts_88 (by decide) rfl (fun _ => ?_) (fun h => absurd h (by decide))
        refine s_iconst (v := 0) (n := 99) dX9_sorts_98 rfl (by decide) ?_
        refine s_ior (n := 100) dX9_sorts_99 rfl ?_
        rw [Int32.or_zero]
        refine s_istore (n := 102) dX9_sorts_100 rfl (by decide) rfl rfl ?_
        refine s_iinc (n := 105) (v := nI (v + 1)) dX9_sorts_102 rfl (by decide) rfl rfl (nI_1 v) rfl ?_
        refine s_goto (t := 55) dX9_sorts_105 (by decide) ?_
        rw [if_neg (by rw [hb85]; decide)] at hQ
        exact ih (v + 1) g2 _ (by omega) (by omega) (hfr.m0 hT) (fun i hi => by rw [hfr.1 83 (by decide)]; exact hF i hi) (fun g3 hf3 => hQ g3 (hfr.tr hf3))
theorem M_sorts {SL : Nat} {d : Nat} {Q : Option Int32 → m_G → Prop} {g : m_G} {a : a_S} (hA : a_OK a) (hM : M_R g a) (h r i n : Int32) (hQ : E_M g a Q (sp_sorts a h r i n)) : Sim SL (d + 7) yX9_sorts cX9_sorts 8 (some .int) 0 [.ref 78, .int h, .int r, .int i, .int n, .null, .null, .null] [] g Q := by
  unfold E_M sp_sorts at hQ
  have hT : TM g 0 (a_H a) := hM.2.2.1.2
  refine s_aload_n (n := 1) dX9_sorts_0 rfl rfl rfl ?_
  refine s_iload_n (n := 2) dX9_sorts_1 rfl rfl rfl ?_
  refine s_cv1 (n := 5) dX9_sorts_2 rfl mo_X9_isHouse ml_X9_193 rfl (by decide) rfl rfl (Nat.le_of_ble_eq_true rfl) (Nat.le_of_ble_eq_true rfl) (c_X9_isHouse hT _ (fun hb2 => ?_) (fun hb2 => ?_))
  · dsimp only [m_push]
    refine s_if_eq (n := 8) (t := 28) dX9_sorts_5 (by decide) rfl (fun h => absurd h (by decide)) (fun _ => ?_)
    refine s_iload_n (n := 9) dX9_sorts_8 rfl rfl rfl ?_
    refine s_cs1 (n := 12) dX9_sorts_9 rfl mo_X9_isRow ml_X9_64 rfl (Nat.le_of_ble_eq_true rfl) (Nat.le_of_ble_eq_true rfl) (c_X9_isRow _ (fun hb9 => ?_) (fun hb9 => ?_))
    · dsimp only [m_push]
      refine s_if_eq (n := 15) (t := 28) dX9_sorts_12 (by decide) rfl (fun h => absurd h (by decide)) (fun _ => ?_)
      refine s_iload (n := 17) dX9_sorts_15 rfl rfl ?_
      refine s_i2l (n := 18) dX9_sorts_17 rfl ?_
      refine s_lconst (v := 1) (n := 19) dX9_sorts_18 rfl (by decide) ?_
      refine s_ldc2 (n := 22) dX9_sorts_19 rfl kc_X9_233 ?_
      refine s_cs3 (n := 25) dX9_sorts_22 rfl mo_X9_in ml_X9_60 rfl (Nat.le_of_ble_eq_true rfl) (Nat.le_of_ble_eq_true rfl) (c_X9_in (1) (16) rfl (by decide) (by decide) (fun hb22 => ?_) (fun hb22 => ?_))
      · dsimp only [m_push]
        refine s_if_ne (n := 28) (t := 31) dX9_sorts_25 (by decide) rfl (fun _ => ?_) (fun h => absurd h (by decide))
        have hK := hA.tk hb2
        obtain ⟨ih, hih, rfl, hcih⟩ := isH_ex hA.cnt hb2
        obtain ⟨j, hj, rfl⟩ := wn_ex (n := 7) hb9 rfl
        replace hj : j < 8 := by omega
        have hw9 := hM.1 j hj
        simp only [if_pos hb2, if_pos hb9, if_pos hb22, nI_clamp (show j < 2 ^ 31 by omega)] at hQ
        generalize hx : a_rows a j = x at hQ hw9
        rw [nI_clamp (show ih < 2 ^ 31 by omega)] at hQ
        refine s_aload_n (n := 32) dX9_sorts_31 rfl rfl rfl ?_
        refine s_iload_n (n := 33) dX9_sorts_32 rfl rfl rfl ?_
        refine s_iload_n (n := 34) dX9_sorts_33 rfl rfl rfl ?_
        refine s_iload (n := 36) dX9_sorts_34 rfl rfl ?_
        refine s_cv3 (n := 39) dX9_sorts_36 rfl mo_X9_noItems ml_X9_237 rfl (by decide) rfl rfl (Nat.le_of_ble_eq_true rfl) (Nat.le_of_ble_eq_true rfl) (c_X9_noItems hj hw9 _ _ ?_ ?_ ?_)
        · intro hx0
          rw [hx0] at hQ
          dsimp only [m_push]
          refine s_istore (n := 41) dX9_sorts_39 rfl (by decide) rfl rfl ?_
          refine s_iload (n := 43) dX9_sorts_41 rfl rfl ?_
          refine s_if_eq (n := 46) (t := 49) dX9_sorts_43 (by decide) rfl (fun h => absurd h (by decide)) (fun _ => ?_)
          refine s_iload (n := 48) dX9_sorts_46 rfl rfl ?_
          refine s_ireturn dX9_sorts_48 rfl rfl ?_
          exact hQ _ (hM.find _) ((m_fr.up (S := [78]) (by simp)).FM (by decide))
        · intro q hx0 hr
          rw [hx0] at hQ hw9
          obtain ⟨w1, w2, w3, w4⟩ := hw9
          obtain ⟨ii, nn, rfl, rfl, hin⟩ := rchN w3 hr
          dsimp only at hQ
          rw [if_pos hr, nI_clamp (show ii < 2 ^ 31 by omega), nI_clamp (show nn < 2 ^ 31 by omega)] at hQ
          dsimp only [m_push]
          refine s_istore (n := 41) dX9_sorts_39 rfl (by decide) rfl rfl ?_
          refine s_iload (n := 43) dX9_sorts_41 rfl rfl ?_
          refine s_if_eq (n := 46) (t := 49) dX9_sorts_43 (by decide) rfl (fun _ => ?_) (fun h => absurd h (by decide))
          refine s_iconst (v := 0) (n := 50) dX9_sorts_49 rfl (by decide) ?_
          refine s_istore (n := 52) dX9_sorts_50 rfl (by decide) rfl rfl ?_
          refine s_iconst (v := 1) (n := 53) dX9_sorts_52 rfl (by decide) ?_
          refine s_istore (n := 55) dX9_sorts_53 rfl (by decide) rfl rfl ?_
          exact lp_X9_sorts hK hih hj (f := q.2.2) (by omega) 5 1 g 0 (by omega) (Nat.le_refl _) hT w4 (fun g3 hf3 => hQ _ ((hM.sc hf3).find 0) (hf3.FM.tr ((m_fr.up (S := [78]) (by simp)).FM (by decide))))
        · intro q hx0 hr
          rw [hx0] at hQ
          dsimp only at hQ
          rw [if_neg hr] at hQ
          dsimp only [m_push]
          refine s_istore (n := 41) dX9_sorts_39 rfl (by decide) rfl rfl ?_
          refine s_iload (n := 43) dX9_sorts_41 rfl rfl ?_
          refine s_if_eq (n := 46) (t := 49) dX9_sorts_43 (by decide) rfl (fun h => absurd h (by decide)) (fun _ => ?_)
          refine s_iload (n := 48) dX9_sorts_46 rfl rfl ?_
          refine s_ireturn dX9_sorts_48 rfl rfl ?_
          exact hQ _ (hM.find _) ((m_fr.up (S := [78]) (by simp)).FM (by decide))
      · dsimp only [m_push]
        refine s_if_ne (n := 28) (t := 31) dX9_sorts_25 (by decide) rfl (fun h => absurd h (by decide)) (fun _ => ?_)
        refine s_ldc (n := 30) dX9_sorts_28 rfl kc_X9_70 ?_
        refine s_ireturn dX9_sorts_30 rfl rfl ?_
        simp only [if_pos hb2, if_pos hb9, if_neg hb22] at hQ
        exact hQ g hM F_M.rf
    · dsimp only [m_push]
      refine s_if_eq (n := 15) (t := 28) dX9_sorts_12 (by decide) rfl (fun _ => ?_) (fun h => absurd h (by decide))
      refine s_ldc (n := 30) dX9_sorts_28 rfl kc_X9_70 ?_
      refine s_ireturn dX9_sorts_30 rfl rfl ?_
      simp only [if_pos hb2, if_neg hb9] at hQ
      exact hQ g hM F_M.rf
  · dsimp only [m_push]
    refine s_if_eq (n := 8) (t := 28) dX9_sorts_5 (by decide) rfl (fun _ => ?_) (fun h => absurd h (by decide))
    refine s_ldc (n := 30) dX9_sorts_28 rfl kc_X9_70 ?_
    refine s_ireturn dX9_sorts_30 rfl rfl ?_
    simp only [if_neg hb2] at hQ
    exact hQ g hM F_M.rf
