theorem wn_t10 {i : Nat} (hi : i < 10) : wn (nI i) 0 9 := by
  rcases (show i = 0 ∨ i = 1 ∨ i = 2 ∨ i = 3 ∨ i = 4 ∨ i = 5 ∨ i = 6 ∨ i = 7 ∨ i = 8 ∨ i = 9 by omega) with rfl | rfl | rfl | rfl | rfl | rfl | rfl | rfl | rfl | rfl <;> exact ⟨by decide, by decide⟩
theorem c_X3_reach {SL : Nat} {d : Nat} {Q : Option Int32 → m_G → Prop} {g : m_G} {r : Nat} (hr : (m_sh r).1 = 3) (hl : m_sh (r + 1) = (20, 10)) {a : Int32} (i : Nat) (hi : i < 10) (ha : a = nI i) (hQ : Q none (m_up (m_up g r 1 (nI i)) (r + 1) i (g r 2))) : Sim SL (d + 1) yX3_reach cX3_reach 2 none 0 [.ref r, .int a] [] g Q := by
  subst ha
  refine s_iload_n (n := 1) dX3_reach_0 rfl rfl rfl ?_
  refine s_iconst (v := 0) (n := 2) dX3_reach_1 rfl (by decide) ?_
  refine s_bipush (v := 9) (n := 4) dX3_reach_2 rfl (by decide) ?_
  refine s_cs3 (n := 7) dX3_reach_4 rfl mo_X8_within ml_X3_33 rfl (Nat.le_of_ble_eq_true rfl) (Nat.le_of_ble_eq_true rfl) (c_X8_within _ _ _ (fun hb4 => ?_) (fun hb4 => ?_))
  · dsimp only [m_push]
    refine s_if_ne (n := 10) (t := 11) dX3_reach_7 (by decide) rfl (fun _ => ?_) (fun h => absurd h (by decide))
    refine s_aload_n (n := 12) dX3_reach_11 rfl rfl rfl ?_
    refine s_iload_n (n := 13) dX3_reach_12 rfl rfl rfl ?_
    refine s_puti (n := 16) dX3_reach_13 rfl fl_X3_37 rfl rfl hr ?_
    refine s_aload_n (n := 17) dX3_reach_16 rfl rfl rfl ?_
    refine s_getr (k2 := r + 1) (n := 20) dX3_reach_17 rfl fl_X3_9 rfl hr rfl ?_
    refine s_iload_n (n := 21) dX3_reach_20 rfl rfl rfl ?_
    refine s_aload_n (n := 22) dX3_reach_21 rfl rfl rfl ?_
    refine s_geti (n := 25) dX3_reach_22 rfl fl_X3_15 rfl hr ?_
    refine s_iastore i (n := 26) dX3_reach_25 rfl hl rfl hi ?_
    refine s_return dX3_reach_26 rfl ?_
    rw [m_up_k, if_neg (by decide)]
    exact hQ
  · dsimp only [m_push]
    exact absurd (wn_t10 hi) hb4
theorem c_X3_restAt {SL : Nat} {d : Nat} {Q : Option Int32 → m_G → Prop} {g : m_G} {r : Nat} (hr : (m_sh r).1 = 3) (a : Int32) (hQ : Q none (m_up (m_up g r 4 a) r 5 1)) : Sim SL d yX3_restAt cX3_restAt 2 none 0 [.ref r, .int a] [] g Q := by
  refine s_aload_n (n := 1) dX3_restAt_0 rfl rfl rfl ?_
  refine s_iload_n (n := 2) dX3_restAt_1 rfl rfl rfl ?_
  refine s_puti (n := 5) dX3_restAt_2 rfl fl_X3_22 rfl rfl hr ?_
  refine s_aload_n (n := 6) dX3_restAt_5 rfl rfl rfl ?_
  refine s_iconst (v := 1) (n := 7) dX3_restAt_6 rfl (by decide) ?_
  refine s_putz (n := 10) dX3_restAt_7 rfl fl_X3_25 rfl rfl (by decide) hr ?_
  refine s_return dX3_restAt_10 rfl ?_
  exact hQ
theorem c_X3_turn {SL : Nat} {d : Nat} {Q : Option Int32 → m_G → Prop} {g : m_G} {r : Nat} (hr : (m_sh r).1 = 3) (a : Int32) (hQ : Q none (m_up g r 2 (clp (g r 2 + a)))) : Sim SL (d + 1) yX3_turn cX3_turn 2 none 0 [.ref r, .int a] [] g Q := by
  refine s_aload_n (n := 1) dX3_turn_0 rfl rfl rfl ?_
  refine s_iconst (v := 0) (n := 2) dX3_turn_1 rfl (by decide) ?_
  refine s_bipush (v := 6) (n := 4) dX3_turn_2 rfl (by decide) ?_
  refine s_aload_n (n := 5) dX3_turn_4 rfl rfl rfl ?_
  refine s_geti (n := 8) dX3_turn_5 rfl fl_X3_15 rfl hr ?_
  refine s_iload_n (n := 9) dX3_turn_8 rfl rfl rfl ?_
  refine s_iadd (n := 10) dX3_turn_9 rfl ?_
  refine s_mmin (n := 13) dX3_turn_10 rfl mlm_X3_40 m_minw (Nat.le_of_ble_eq_true rfl) ?_
  refine s_mmax (n := 16) dX3_turn_13 rfl mlm_X3_46 m_maxw (Nat.le_of_ble_eq_true rfl) ?_
  refine s_puti (n := 19) dX3_turn_16 rfl fl_X3_15 rfl rfl hr ?_
  refine s_return dX3_turn_19 rfl ?_
  rw [clp_eq]
  exact hQ
theorem c_X3_begin {SL : Nat} {d : Nat} {Q : Option Int32 → m_G → Prop} {g : m_G} {r : Nat} (hr : (m_sh r).1 = 3) (hl : m_sh (r + 1) = (20, 10)) (a b : Int32) (hQ : ∀ g2, m_fr [r, r + 1] g g2 → g2 r 1 = 0 → g2 r 2 = a → g2 r 3 = b → g2 r 4 = -1 → g2 r 5 = 0 → g2 (r + 1) 0 = a → Q none g2) : Sim SL (d + 2) yX3_begin cX3_begin 3 none 0 [.ref r, .int a, .int b] [] g Q := by
  refine s_aload_n (n := 1) dX3_begin_0 rfl rfl rfl ?_
  refine s_iload_n (n := 2) dX3_begin_1 rfl rfl rfl ?_
  refine s_puti (n := 5) dX3_begin_2 rfl fl_X3_15 rfl rfl hr ?_
  refine s_aload_n (n := 6) dX3_begin_5 rfl rfl rfl ?_
  refine s_iload_n (n := 7) dX3_begin_6 rfl rfl rfl ?_
  refine s_puti (n := 10) dX3_begin_7 rfl fl_X3_19 rfl rfl hr ?_
  refine s_aload_n (n := 11) dX3_begin_10 rfl rfl rfl ?_
  refine s_iconst (v := -1) (n := 12) dX3_begin_11 rfl (by decide) ?_
  refine s_puti (n := 15) dX3_begin_12 rfl fl_X3_22 rfl rfl hr ?_
  refine s_aload_n (n := 16) dX3_begin_15 rfl rfl rfl ?_
  refine s_iconst (v := 0) (n := 17) dX3_begin_16 rfl (by decide) ?_
  refine s_putz (n := 20) dX3_begin_17 rfl fl_X3_25 rfl rfl (by decide) hr ?_
  refine s_aload_n (n := 21) dX3_begin_20 rfl rfl rfl ?_
  refine s_iconst (v := 0) (n := 22) dX3_begin_21 rfl (by decide) ?_
  refine s_cv1 (n := 25) dX3_begin_22 rfl mo_X3_reach ml_X3_29 hr (by decide) rfl rfl (Nat.le_of_ble_eq_true rfl) (Nat.le_of_ble_eq_true rfl) (c_X3_reach hr hl 0 (by decide) rfl ?_)
  dsimp only [m_push]
  refine s_return dX3_begin_25 rfl ?_
  have e : r ≠ r + 1 := by omega
  have e2 : r + 1 ≠ r := by omega
  refine hQ _ (((((m_fr.rf.up2 (by simp)).up2 (by simp)).up2 (by simp)).up2 (by simp)).up2 (by simp) |>.up2 (by simp)) ?_ ?_ ?_ ?_ ?_ ?_
  all_goals simp [m_up_k, m_up_o e, m_up_o e2]
  all_goals rfl
theorem c_X1_openness {SL : Nat} {d : Nat} {Q : Option Int32 → m_G → Prop} {g : m_G} {k : Nat} (hk : m_hb k) (a : Int32) (hQ : Q (some (bt (g k 11) a)) g) : Sim SL d yX1_openness cX1_openness 2 (some .int) 0 [.ref k, .int a] [] g Q := by
  refine s_aload_n (n := 1) dX1_openness_0 rfl rfl rfl ?_
  refine s_geti (n := 4) dX1_openness_1 rfl fl_X1_54 rfl (hb0 hk) ?_
  refine s_iload_n (n := 5) dX1_openness_4 rfl rfl rfl ?_
  refine s_ishr (n := 6) dX1_openness_5 rfl ?_
  refine s_iconst (v := 1) (n := 7) dX1_openness_6 rfl (by decide) ?_
  refine s_iand (n := 8) dX1_openness_7 rfl ?_
  refine s_ireturn dX1_openness_8 rfl rfl ?_
  exact hQ
theorem c_X1_topLine {SL : Nat} {d : Nat} {Q : Option Int32 → m_G → Prop} {g : m_G} {k : Nat} (hk : m_hb k) (a : Int32) (hQ : Q (some (ire (g k 4 + g k 5 * (g k 9 + a)) 7)) g) : Sim SL d yX1_topLine cX1_topLine 2 (some .int) 0 [.ref k, .int a] [] g Q := by
  refine s_aload_n (n := 1) dX1_topLine_0 rfl rfl rfl ?_
  refine s_geti (n := 4) dX1_topLine_1 rfl fl_X1_33 rfl (hb0 hk) ?_
  refine s_aload_n (n := 5) dX1_topLine_4 rfl rfl rfl ?_
  refine s_geti (n := 8) dX1_topLine_5 rfl fl_X1_36 rfl (hb0 hk) ?_
  refine s_aload_n (n := 9) dX1_topLine_8 rfl rfl rfl ?_
  refine s_geti (n := 12) dX1_topLine_9 rfl fl_X1_48 rfl (hb0 hk) ?_
  refine s_iload_n (n := 13) dX1_topLine_12 rfl rfl rfl ?_
  refine s_iadd (n := 14) dX1_topLine_13 rfl ?_
  refine s_imul (n := 15) dX1_topLine_14 rfl ?_
  refine s_iadd (n := 16) dX1_topLine_15 rfl ?_
  refine s_bipush (v := 7) (n := 18) dX1_topLine_16 rfl (by decide) ?_
  refine s_irem (n := 19) dX1_topLine_18 rfl (by decide) ?_
  refine s_ireturn dX1_topLine_19 rfl rfl ?_
  exact hQ
theorem lp_X1_standing {SL d : Nat} {Q : Option Int32 → m_G → Prop} {g : m_G} {k : Nat} (hk : m_hb k) {t : m_T} (hT : TW g k t) (hc : t 1 ≤ 6) (a b : Int32) : ∀ (n i : Nat), i + n = 6 → Q (some (eC (sAtF t a b n i))) g → Sim SL d yX1_standing cX1_standing 4 (some .int) 2 [.ref k, .int a, .int b, .int (nI i)] [] g Q := by
  intro n
  induction n with
  | zero =>
    intro i hin hQ
    have hi : i = 6 := by omega
    subst hi
    refine s_iload_n (n := 3) dX1_standing_2 rfl rfl rfl ?_
    refine s_aload_n (n := 4) dX1_standing_3 rfl rfl rfl ?_
    refine s_geti (n := 7) dX1_standing_4 rfl fl_X1_51 rfl (hb0 hk) ?_
    refine s_icmp_ge (n := 10) (t := 44) dX1_standing_7 (by decide) rfl (fun h7 => ?_) (fun h7 => ?_)
    · refine s_iconst (v := -1) (n := 45) dX1_standing_44 rfl (by decide) ?_
      refine s_ireturn dX1_standing_45 rfl rfl ?_
      exact hQ
    · exact absurd (by rw [hT.1.2.1]; exact hc) h7
  | succ n ih =>
    intro i hin hQ
    have hi6 : i < 6 := by omega
    refine s_iload_n (n := 3) dX1_standing_2 rfl rfl rfl ?_
    refine s_aload_n (n := 4) dX1_standing_3 rfl rfl rfl ?_
    refine s_geti (n := 7) dX1_standing_4 rfl fl_X1_51 rfl (hb0 hk) ?_
    refine s_icmp_ge (n := 10) (t := 44) dX1_standing_7 (by decide) rfl (fun h7 => ?_) (fun h7 => ?_)
    · have hc1 : t 1 ≤ nI i := by rw [← hT.1.2.1]; exact h7
      refine s_iconst (v := -1) (n := 45) dX1_standing_44 rfl (by decide) ?_
      refine s_ireturn dX1_standing_45 rfl rfl ?_
      unfold sAtF at hQ
      rw [if_pos hc1] at hQ
      exact hQ
    · have hc1 : ¬ t 1 ≤ nI i := by rw [← hT.1.2.1]; exact h7
      have hh := hT.2 i hi6 hc1
      unfold sAtF at hQ
      rw [if_neg hc1] at hQ
      refine s_aload_n (n := 11) dX1_standing_10 rfl rfl rfl ?_
      refine s_getr (k2 := k + 1) (n := 14) dX1_standing_11 rfl fl_X1_11 rfl (hb0 hk) rfl ?_
      refine s_iload_n (n := 15) dX1_standing_14 rfl rfl rfl ?_
      refine s_aaload (k2 := k + 4 + i) (t := 0) i (n := 16) dX1_standing_15 rfl (hb1 hk) (by decide) rfl hi6 rfl ?_
      refine s_geti (n := 19) dX1_standing_16 rfl fl_X1_74 rfl (hbh hk hi6) ?_
      refine s_iload_n (n := 20) dX1_standing_19 rfl rfl rfl ?_
      refine s_icmp_ne (n := 23) (t := 38) dX1_standing_20 (by decide) rfl (fun h20 => ?_) (fun h20 => ?_)
      · refine s_iinc (n := 41) (v := nI (i + 1)) dX1_standing_38 rfl (by decide) rfl rfl (nI_1 i) rfl ?_
        refine s_goto (t := 2) dX1_standing_41 (by decide) ?_
        refine ih (i + 1) (by omega) ?_
        rw [if_neg] at hQ
        · exact hQ
        · rintro ⟨q1, q2⟩
          first | exact h20 (by rw [hh.2.1]; exact q1) | exact h33 (by rw [hh.2.2.1]; exact q2)
      · refine s_aload_n (n := 24) dX1_standing_23 rfl rfl rfl ?_
        refine s_getr (k2 := k + 1) (n := 27) dX1_standing_24 rfl fl_X1_11 rfl (hb0 hk) rfl ?_
        refine s_iload_n (n := 28) dX1_standing_27 rfl rfl rfl ?_
        refine s_aaload (k2 := k + 4 + i) (t := 0) i (n := 29) dX1_standing_28 rfl (hb1 hk) (by decide) rfl hi6 rfl ?_
        refine s_geti (n := 32) dX1_standing_29 rfl fl_X1_77 rfl (hbh hk hi6) ?_
        refine s_iload_n (n := 33) dX1_standing_32 rfl rfl rfl ?_
        refine s_icmp_ne (n := 36) (t := 38) dX1_standing_33 (by decide) rfl (fun h33 => ?_) (fun h33 => ?_)
        · refine s_iinc (n := 41) (v := nI (i + 1)) dX1_standing_38 rfl (by decide) rfl rfl (nI_1 i) rfl ?_
          refine s_goto (t := 2) dX1_standing_41 (by decide) ?_
          refine ih (i + 1) (by omega) ?_
          rw [if_neg] at hQ
          · exact hQ
          · rintro ⟨q1, q2⟩
            first | exact h20 (by rw [hh.2.1]; exact q1) | exact h33 (by rw [hh.2.2.1]; exact q2)
        · refine s_iload_n (n := 37) dX1_standing_36 rfl rfl rfl ?_
          refine s_ireturn dX1_standing_37 rfl rfl ?_
          rw [if_pos ⟨by rw [← hh.2.1]; exact h20, by rw [← hh.2.2.1]; exact h33⟩] at hQ
          exact hQ
theorem c_X1_standing {SL : Nat} {d : Nat} {Q : Option Int32 → m_G → Prop} {g : m_G} {k : Nat} (hk : m_hb k) {t : m_T} (hT : TW g k t) (hc : t 1 ≤ 6) (a b : Int32) (hQ : Q (some (eC (sAt t a b))) g) : Sim SL d yX1_standing cX1_standing 4 (some .int) 0 [.ref k, .int a, .int b, .null] [] g Q := by
  refine s_iconst (v := 0) (n := 1) dX1_standing_0 rfl (by decide) ?_
  refine s_istore_n (n := 2) dX1_standing_1 rfl rfl (by decide) rfl rfl ?_
  exact lp_X1_standing hk hT hc a b 6 0 rfl hQ
theorem c_X1_meet {SL : Nat} {d : Nat} {Q : Option Int32 → m_G → Prop} {g : m_G} {k : Nat} (hk : m_hb k) {a : Int32} (h : Nat) (hh : h < 6) (ha : a = nI h) (ti : Int32) (hwn : wn (g (k + 2) 2) 0 6)
    (hQ : ∀ g2, m_fr [k + 2] g g2 → g2 (k + 2) 1 = g (k + 2) 1 →
      (sHold (g (k + 4 + h) 0) (bt (g k 11) (nI h)) → g2 (k + 2) 2 = g (k + 2) 2 ∧ g2 (k + 2) 3 = g (k + 2) 3 ∧ g2 (k + 2) 4 = nI h ∧ g2 (k + 2) 5 = 1) →
      (¬ sHold (g (k + 4 + h) 0) (bt (g k 11) (nI h)) → g2 (k + 2) 2 = clp (g (k + 2) 2 + sTurn (g (k + 4 + h) 0) (bt (g k 11) (nI h)) ti) ∧ g2 (k + 2) 3 = g (k + 2) 3 - sSlow (g (k + 4 + h) 0) (bt (g k 11) (nI h)) ∧ (if g (k + 2) 3 - sSlow (g (k + 4 + h) 0) (bt (g k 11) (nI h)) ≤ 0 then g2 (k + 2) 4 = nI h ∧ g2 (k + 2) 5 = 1 else g2 (k + 2) 4 = g (k + 2) 4 ∧ g2 (k + 2) 5 = g (k + 2) 5)) → Q none g2) : Sim SL (d + 2) yX1_meet cX1_meet 5 none 0 [.ref k, .int a, .int ti, .null, .null] [] g Q := by
  subst ha
  refine s_aload_n (n := 1) dX1_meet_0 rfl rfl rfl ?_
  refine s_getr (k2 := k + 1) (n := 4) dX1_meet_1 rfl fl_X1_11 rfl (hb0 hk) rfl ?_
  refine s_iload_n (n := 5) dX1_meet_4 rfl rfl rfl ?_
  refine s_aaload (k2 := k + 4 + h) (t := 0) h (n := 6) dX1_meet_5 rfl (hb1 hk) (by decide) rfl hh rfl ?_
  refine s_geti (n := 9) dX1_meet_6 rfl fl_X1_61 rfl (hbh hk hh) ?_
  refine s_istore_n (n := 10) dX1_meet_9 rfl rfl (by decide) rfl rfl ?_
  refine s_aload_n (n := 11) dX1_meet_10 rfl rfl rfl ?_
  refine s_iload_n (n := 12) dX1_meet_11 rfl rfl rfl ?_
  refine s_cv1 (n := 15) dX1_meet_12 rfl mo_X1_openness ml_X1_111 (hb0 hk) (by decide) rfl rfl (Nat.le_of_ble_eq_true rfl) (Nat.le_of_ble_eq_true rfl) (c_X1_openness hk _ ?_)
  dsimp only [m_push]
  refine s_if_ne (n := 18) (t := 22) dX1_meet_15 (by decide) rfl (fun h15 => ?_) (fun h15 => ?_)
  · refine s_iconst (v := 0) (n := 23) dX1_meet_22 rfl (by decide) ?_
    refine s_istore (n := 25) dX1_meet_23 rfl (by decide) rfl rfl ?_
    refine s_iload_n (n := 26) dX1_meet_25 rfl rfl rfl ?_
    refine s_iconst (v := 4) (n := 27) dX1_meet_26 rfl (by decide) ?_
    refine s_icmp_eq (n := 30) (t := 35) dX1_meet_27 (by decide) rfl (fun h27 => ?_) (fun h27 => ?_)
    · refine s_aload_n (n := 36) dX1_meet_35 rfl rfl rfl ?_
      refine s_getr (k2 := k + 2) (n := 39) dX1_meet_36 rfl fl_X1_20 rfl (hb0 hk) rfl ?_
      refine s_dup (n := 40) dX1_meet_39 rfl rfl ?_
      refine s_geti (n := 43) dX1_meet_40 rfl fl_X1_114 rfl (hb2 hk) ?_
      refine s_iconst (v := 1) (n := 44) dX1_meet_43 rfl (by decide) ?_
      refine s_isub (n := 45) dX1_meet_44 rfl ?_
      refine s_puti (n := 48) dX1_meet_45 rfl fl_X1_114 rfl rfl (hb2 hk) ?_
      refine s_aload_n (n := 49) dX1_meet_48 rfl rfl rfl ?_
      refine s_getr (k2 := k + 2) (n := 52) dX1_meet_49 rfl fl_X1_20 rfl (hb0 hk) rfl ?_
      refine s_iload_n (n := 53) dX1_meet_52 rfl rfl rfl ?_
      refine s_iconst (v := 4) (n := 54) dX1_meet_53 rfl (by decide) ?_
      refine s_icmp_ne (n := 57) (t := 61) dX1_meet_54 (by decide) rfl (fun h54 => ?_) (fun h54 => ?_)
      · refine s_iconst (v := 1) (n := 62) dX1_meet_61 rfl (by decide) ?_
        refine s_cv1 (n := 65) dX1_meet_62 rfl mo_X3_turn ml_X1_93 (hb2 hk) (by decide) rfl rfl (Nat.le_of_ble_eq_true rfl) (Nat.le_of_ble_eq_true rfl) (c_X3_turn (hb2 hk) _ ?_)
        dsimp only [m_push]
        refine s_goto (t := 146) dX1_meet_65 (by decide) ?_
        refine s_aload_n (n := 147) dX1_meet_146 rfl rfl rfl ?_
        refine s_getr (k2 := k + 2) (n := 150) dX1_meet_147 rfl fl_X1_20 rfl (hb0 hk) rfl ?_
        refine s_geti (n := 153) dX1_meet_150 rfl fl_X1_114 rfl (hb2 hk) ?_
        refine s_if_gt (n := 156) (t := 164) dX1_meet_153 (by decide) rfl (fun h153 => ?_) (fun h153 => ?_)
        · refine s_return dX1_meet_164 rfl ?_
          have hcl : clp (g (k + 2) 2) = g (k + 2) 2 := clp_id hwn
          clear hwn
          have e1 : k + 2 ≠ k := by omega
          have e2 : ∀ q, k + 4 + q ≠ k + 2 := by intro q; omega
          have e3 : k ≠ k + 2 := by omega
          refine hQ _ ?_ ?_ ?_ ?_
          · intro z hz
            have hz : z ≠ k + 2 := by simpa using hz
            simp [m_up_o hz]
          · simp [m_up_k]
          · intro hH
            simp_all [m_up_k, sHold]
          · intro hH
            simp_all [m_up_k, sHold, sTurn, sSlow, ire]
            try (first | exact rfl | (refine ⟨rfl, ?_⟩; intro q; exact absurd q (Int32.not_le.mpr h153)) | (intro q; exact absurd q (Int32.not_le.mpr h153)))
        · refine s_aload_n (n := 157) dX1_meet_156 rfl rfl rfl ?_
          refine s_getr (k2 := k + 2) (n := 160) dX1_meet_157 rfl fl_X1_20 rfl (hb0 hk) rfl ?_
          refine s_iload_n (n := 161) dX1_meet_160 rfl rfl rfl ?_
          refine s_cv1 (n := 164) dX1_meet_161 rfl mo_X3_restAt ml_X1_115 (hb2 hk) (by decide) rfl rfl (Nat.le_of_ble_eq_true rfl) (Nat.le_of_ble_eq_true rfl) (c_X3_restAt (hb2 hk) _ ?_)
          dsimp only [m_push]
          refine s_return dX1_meet_164 rfl ?_
          have hcl : clp (g (k + 2) 2) = g (k + 2) 2 := clp_id hwn
          clear hwn
          have e1 : k + 2 ≠ k := by omega
          have e2 : ∀ q, k + 4 + q ≠ k + 2 := by intro q; omega
          have e3 : k ≠ k + 2 := by omega
          refine hQ _ ?_ ?_ ?_ ?_
          · intro z hz
            have hz : z ≠ k + 2 := by simpa using hz
            simp [m_up_o hz]
          · simp [m_up_k]
          · intro hH
            simp_all [m_up_k, sHold]
          · intro hH
            simp_all [m_up_k, sHold, sTurn, sSlow, ire]
            try (first | exact rfl | (refine ⟨rfl, ?_⟩; intro q; exact absurd q (Int32.not_le.mpr h153)) | (intro q; exact absurd q (Int32.not_le.mpr h153)))
      · refine s_iconst (v := -1) (n := 58) dX1_meet_57 rfl (by decide) ?_
        refine s_goto (t := 62) dX1_meet_58 (by decide) ?_
        refine s_cv1 (n := 65) dX1_meet_62 rfl mo_X3_turn ml_X1_93 (hb2 hk) (by decide) rfl rfl (Nat.le_of_ble_eq_true rfl) (Nat.le_of_ble_eq_true rfl) (c_X3_turn (hb2 hk) _ ?_)
        dsimp only [m_push]
        refine s_goto (t := 146) dX1_meet_65 (by decide) ?_
        refine s_aload_n (n := 147) dX1_meet_146 rfl rfl rfl ?_
        refine s_getr (k2 := k + 2) (n := 150) dX1_meet_147 rfl fl_X1_20 rfl (hb0 hk) rfl ?_
        refine s_geti (n := 153) dX1_meet_150 rfl fl_X1_114 rfl (hb2 hk) ?_
        refine s_if_gt (n := 156) (t := 164) dX1_meet_153 (by decide) rfl (fun h153 => ?_) (fun h153 => ?_)
        · refine s_return dX1_meet_164 rfl ?_
          have hcl : clp (g (k + 2) 2) = g (k + 2) 2 := clp_id hwn
          clear hwn
          have e1 : k + 2 ≠ k := by omega
          have e2 : ∀ q, k + 4 + q ≠ k + 2 := by intro q; omega
          have e3 : k ≠ k + 2 := by omega
          refine hQ _ ?_ ?_ ?_ ?_
          · intro z hz
            have hz : z ≠ k + 2 := by simpa using hz
            simp [m_up_o hz]
          · simp [m_up_k]
          · intro hH
            simp_all [m_up_k, sHold]
          · intro hH
            simp_all [m_up_k, sHold, sTurn, sSlow, ire]
            try (first | exact rfl | (refine ⟨rfl, ?_⟩; intro q; exact absurd q (Int32.not_le.mpr h153)) | (intro q; exact absurd q (Int32.not_le.mpr h153)))
        · refine s_aload_n (n := 157) dX1_meet_156 rfl rfl rfl ?_
          refine s_getr (k2 := k + 2) (n := 160) dX1_meet_157 rfl fl_X1_20 rfl (hb0 hk) rfl ?_
          refine s_iload_n (n := 161) dX1_meet_160 rfl rfl rfl ?_
          refine s_cv1 (n := 164) dX1_meet_161 rfl mo_X3_restAt ml_X1_115 (hb2 hk) (by decide) rfl rfl (Nat.le_of_ble_eq_true rfl) (Nat.le_of_ble_eq_true rfl) (c_X3_restAt (hb2 hk) _ ?_)
          dsimp only [m_push]
          refine s_return dX1_meet_164 rfl ?_
          have hcl : clp (g (k + 2) 2) = g (k + 2) 2 := clp_id hwn
          clear hwn
          have e1 : k + 2 ≠ k := by omega
          have e2 : ∀ q, k + 4 + q ≠ k + 2 := by intro q; omega
          have e3 : k ≠ k + 2 := by omega
          refine hQ _ ?_ ?_ ?_ ?_
          · intro z hz
            have hz : z ≠ k + 2 := by simpa using hz
            simp [m_up_o hz]
          · simp [m_up_k]
          · intro hH
            simp_all [m_up_k, sHold]
          · intro hH
            simp_all [m_up_k, sHold, sTurn, sSlow, ire]
            try (first | exact rfl | (refine ⟨rfl, ?_⟩; intro q; exact absurd q (Int32.not_le.mpr h153)) | (intro q; exact absurd q (Int32.not_le.mpr h153)))
    · refine s_iload_n (n := 31) dX1_meet_30 rfl rfl rfl ?_
      refine s_iconst (v := 5) (n := 32) dX1_meet_31 rfl (by decide) ?_
      refine s_icmp_ne (n := 35) (t := 68) dX1_meet_32 (by decide) rfl (fun h32 => ?_) (fun h32 => ?_)
      · refine s_iload_n (n := 69) dX1_meet_68 rfl rfl rfl ?_
        refine s_iconst (v := 3) (n := 70) dX1_meet_69 rfl (by decide) ?_
        refine s_icmp_eq (n := 73) (t := 83) dX1_meet_70 (by decide) rfl (fun h70 => ?_) (fun h70 => ?_)
        · refine s_aload_n (n := 84) dX1_meet_83 rfl rfl rfl ?_
          refine s_getr (k2 := k + 2) (n := 87) dX1_meet_84 rfl fl_X1_20 rfl (hb0 hk) rfl ?_
          refine s_iload_n (n := 88) dX1_meet_87 rfl rfl rfl ?_
          refine s_cv1 (n := 91) dX1_meet_88 rfl mo_X3_restAt ml_X1_115 (hb2 hk) (by decide) rfl rfl (Nat.le_of_ble_eq_true rfl) (Nat.le_of_ble_eq_true rfl) (c_X3_restAt (hb2 hk) _ ?_)
          dsimp only [m_push]
          refine s_goto (t := 146) dX1_meet_91 (by decide) ?_
          refine s_aload_n (n := 147) dX1_meet_146 rfl rfl rfl ?_
          refine s_getr (k2 := k + 2) (n := 150) dX1_meet_147 rfl fl_X1_20 rfl (hb0 hk) rfl ?_
          refine s_geti (n := 153) dX1_meet_150 rfl fl_X1_114 rfl (hb2 hk) ?_
          refine s_if_gt (n := 156) (t := 164) dX1_meet_153 (by decide) rfl (fun h153 => ?_) (fun h153 => ?_)
          · refine s_return dX1_meet_164 rfl ?_
            have hcl : clp (g (k + 2) 2) = g (k + 2) 2 := clp_id hwn
            clear hwn
            have e1 : k + 2 ≠ k := by omega
            have e2 : ∀ q, k + 4 + q ≠ k + 2 := by intro q; omega
            have e3 : k ≠ k + 2 := by omega
            refine hQ _ ?_ ?_ ?_ ?_
            · intro z hz
              have hz : z ≠ k + 2 := by simpa using hz
              simp [m_up_o hz]
            · simp [m_up_k]
            · intro hH
              simp_all [m_up_k, sHold]
            · intro hH
              simp_all [m_up_k, sHold, sTurn, sSlow, ire]
              try (first | exact rfl | (refine ⟨rfl, ?_⟩; intro q; exact absurd q (Int32.not_le.mpr h153)) | (intro q; exact absurd q (Int32.not_le.mpr h153)))
          · refine s_aload_n (n := 157) dX1_meet_156 rfl rfl rfl ?_
            refine s_getr (k2 := k + 2) (n := 160) dX1_meet_157 rfl fl_X1_20 rfl (hb0 hk) rfl ?_
            refine s_iload_n (n := 161) dX1_meet_160 rfl rfl rfl ?_
            refine s_cv1 (n := 164) dX1_meet_161 rfl mo_X3_restAt ml_X1_115 (hb2 hk) (by decide) rfl rfl (Nat.le_of_ble_eq_true rfl) (Nat.le_of_ble_eq_true rfl) (c_X3_restAt (hb2 hk) _ ?_)
            dsimp only [m_push]
            refine s_return dX1_meet_164 rfl ?_
            have hcl : clp (g (k + 2) 2) = g (k + 2) 2 := clp_id hwn
            clear hwn
            have e1 : k + 2 ≠ k := by omega
            have e2 : ∀ q, k + 4 + q ≠ k + 2 := by intro q; omega
            have e3 : k ≠ k + 2 := by omega
            refine hQ _ ?_ ?_ ?_ ?_
            · intro z hz
              have hz : z ≠ k + 2 := by simpa using hz
              simp [m_up_o hz]
            · simp [m_up_k]
            · intro hH
              simp_all [m_up_k, sHold]
            · intro hH
              simp_all [m_up_k, sHold, sTurn, sSlow, ire]
              try (first | exact rfl | (refine ⟨rfl, ?_⟩; intro q; exact absurd q (Int32.not_le.mpr h153)) | (intro q; exact absurd q (Int32.not_le.mpr h153)))
        · refine s_iload_n (n := 74) dX1_meet_73 rfl rfl rfl ?_
          refine s_iconst (v := 1) (n := 75) dX1_meet_74 rfl (by decide) ?_
          refine s_icmp_ne (n := 78) (t := 94) dX1_meet_75 (by decide) rfl (fun h75 => ?_) (fun h75 => ?_)
          · refine s_iload (n := 96) dX1_meet_94 rfl rfl ?_
            refine s_if_eq (n := 99) (t := 133) dX1_meet_96 (by decide) rfl (fun _ => ?_) (fun h => absurd h (by decide))
            refine s_aload_n (n := 134) dX1_meet_133 rfl rfl rfl ?_
            refine s_getr (k2 := k + 2) (n := 137) dX1_meet_134 rfl fl_X1_20 rfl (hb0 hk) rfl ?_
            refine s_dup (n := 138) dX1_meet_137 rfl rfl ?_
            refine s_geti (n := 141) dX1_meet_138 rfl fl_X1_114 rfl (hb2 hk) ?_
            refine s_iconst (v := 1) (n := 142) dX1_meet_141 rfl (by decide) ?_
            refine s_isub (n := 143) dX1_meet_142 rfl ?_
            refine s_puti (n := 146) dX1_meet_143 rfl fl_X1_114 rfl rfl (hb2 hk) ?_
            refine s_aload_n (n := 147) dX1_meet_146 rfl rfl rfl ?_
            refine s_getr (k2 := k + 2) (n := 150) dX1_meet_147 rfl fl_X1_20 rfl (hb0 hk) rfl ?_
            refine s_geti (n := 153) dX1_meet_150 rfl fl_X1_114 rfl (hb2 hk) ?_
            refine s_if_gt (n := 156) (t := 164) dX1_meet_153 (by decide) rfl (fun h153 => ?_) (fun h153 => ?_)
            · refine s_return dX1_meet_164 rfl ?_
              have hcl : clp (g (k + 2) 2) = g (k + 2) 2 := clp_id hwn
              clear hwn
              have e1 : k + 2 ≠ k := by omega
              have e2 : ∀ q, k + 4 + q ≠ k + 2 := by intro q; omega
              have e3 : k ≠ k + 2 := by omega
              refine hQ _ ?_ ?_ ?_ ?_
              · intro z hz
                have hz : z ≠ k + 2 := by simpa using hz
                simp [m_up_o hz]
              · simp [m_up_k]
              · intro hH
                simp_all [m_up_k, sHold]
              · intro hH
                simp_all [m_up_k, sHold, sTurn, sSlow, ire]
                try (first | exact rfl | (refine ⟨rfl, ?_⟩; intro q; exact absurd q (Int32.not_le.mpr h153)) | (intro q; exact absurd q (Int32.not_le.mpr h153)))
            · refine s_aload_n (n := 157) dX1_meet_156 rfl rfl rfl ?_
              refine s_getr (k2 := k + 2) (n := 160) dX1_meet_157 rfl fl_X1_20 rfl (hb0 hk) rfl ?_
              refine s_iload_n (n := 161) dX1_meet_160 rfl rfl rfl ?_
              refine s_cv1 (n := 164) dX1_meet_161 rfl mo_X3_restAt ml_X1_115 (hb2 hk) (by decide) rfl rfl (Nat.le_of_ble_eq_true rfl) (Nat.le_of_ble_eq_true rfl) (c_X3_restAt (hb2 hk) _ ?_)
              dsimp only [m_push]
              refine s_return dX1_meet_164 rfl ?_
              have hcl : clp (g (k + 2) 2) = g (k + 2) 2 := clp_id hwn
              clear hwn
              have e1 : k + 2 ≠ k := by omega
              have e2 : ∀ q, k + 4 + q ≠ k + 2 := by intro q; omega
              have e3 : k ≠ k + 2 := by omega
              refine hQ _ ?_ ?_ ?_ ?_
              · intro z hz
                have hz : z ≠ k + 2 := by simpa using hz
                simp [m_up_o hz]
              · simp [m_up_k]
              · intro hH
                simp_all [m_up_k, sHold]
              · intro hH
                simp_all [m_up_k, sHold, sTurn, sSlow, ire]
                try (first | exact rfl | (refine ⟨rfl, ?_⟩; intro q; exact absurd q (Int32.not_le.mpr h153)) | (intro q; exact absurd q (Int32.not_le.mpr h153)))
          · refine s_iload (n := 80) dX1_meet_78 rfl rfl ?_
            refine s_if_ne (n := 83) (t := 94) dX1_meet_80 (by decide) rfl (fun h => absurd h (by decide)) (fun _ => ?_)
            refine s_aload_n (n := 84) dX1_meet_83 rfl rfl rfl ?_
            refine s_getr (k2 := k + 2) (n := 87) dX1_meet_84 rfl fl_X1_20 rfl (hb0 hk) rfl ?_
            refine s_iload_n (n := 88) dX1_meet_87 rfl rfl rfl ?_
            refine s_cv1 (n := 91) dX1_meet_88 rfl mo_X3_restAt ml_X1_115 (hb2 hk) (by decide) rfl rfl (Nat.le_of_ble_eq_true rfl) (Nat.le_of_ble_eq_true rfl) (c_X3_restAt (hb2 hk) _ ?_)
            dsimp only [m_push]
            refine s_goto (t := 146) dX1_meet_91 (by decide) ?_
            refine s_aload_n (n := 147) dX1_meet_146 rfl rfl rfl ?_
            refine s_getr (k2 := k + 2) (n := 150) dX1_meet_147 rfl fl_X1_20 rfl (hb0 hk) rfl ?_
            refine s_geti (n := 153) dX1_meet_150 rfl fl_X1_114 rfl (hb2 hk) ?_
            refine s_if_gt (n := 156) (t := 164) dX1_meet_153 (by decide) rfl (fun h153 => ?_) (fun h153 => ?_)
            · refine s_return dX1_meet_164 rfl ?_
              have hcl : clp (g (k + 2) 2) = g (k + 2) 2 := clp_id hwn
              clear hwn
              have e1 : k + 2 ≠ k := by omega
              have e2 : ∀ q, k + 4 + q ≠ k + 2 := by intro q; omega
              have e3 : k ≠ k + 2 := by omega
              refine hQ _ ?_ ?_ ?_ ?_
              · intro z hz
                have hz : z ≠ k + 2 := by simpa using hz
                simp [m_up_o hz]
              · simp [m_up_k]
              · intro hH
                simp_all [m_up_k, sHold]
              · intro hH
                simp_all [m_up_k, sHold, sTurn, sSlow, ire]
                try (first | exact rfl | (refine ⟨rfl, ?_⟩; intro q; exact absurd q (Int32.not_le.mpr h153)) | (intro q; exact absurd q (Int32.not_le.mpr h153)))
            · refine s_aload_n (n := 157) dX1_meet_156 rfl rfl rfl ?_
              refine s_getr (k2 := k + 2) (n := 160) dX1_meet_157 rfl fl_X1_20 rfl (hb0 hk) rfl ?_
              refine s_iload_n (n := 161) dX1_meet_160 rfl rfl rfl ?_
              refine s_cv1 (n := 164) dX1_meet_161 rfl mo_X3_restAt ml_X1_115 (hb2 hk) (by decide) rfl rfl (Nat.le_of_ble_eq_true rfl) (Nat.le_of_ble_eq_true rfl) (c_X3_restAt (hb2 hk) _ ?_)
              dsimp only [m_push]
              refine s_return dX1_meet_164 rfl ?_
              have hcl : clp (g (k + 2) 2) = g (k + 2) 2 := clp_id hwn
              clear hwn
              have e1 : k + 2 ≠ k := by omega
              have e2 : ∀ q, k + 4 + q ≠ k + 2 := by intro q; omega
              have e3 : k ≠ k + 2 := by omega
              refine hQ _ ?_ ?_ ?_ ?_
              · intro z hz
                have hz : z ≠ k + 2 := by simpa using hz
                simp [m_up_o hz]
              · simp [m_up_k]
              · intro hH
                simp_all [m_up_k, sHold]
              · intro hH
                simp_all [m_up_k, sHold, sTurn, sSlow, ire]
                try (first | exact rfl | (refine ⟨rfl, ?_⟩; intro q; exact absurd q (Int32.not_le.mpr h153)) | (intro q; exact absurd q (Int32.not_le.mpr h153)))
      · refine s_aload_n (n := 36) dX1_meet_35 rfl rfl rfl ?_
        refine s_getr (k2 := k + 2) (n := 39) dX1_meet_36 rfl fl_X1_20 rfl (hb0 hk) rfl ?_
        refine s_dup (n := 40) dX1_meet_39 rfl rfl ?_
        refine s_geti (n := 43) dX1_meet_40 rfl fl_X1_114 rfl (hb2 hk) ?_
        refine s_iconst (v := 1) (n := 44) dX1_meet_43 rfl (by decide) ?_
        refine s_isub (n := 45) dX1_meet_44 rfl ?_
        refine s_puti (n := 48) dX1_meet_45 rfl fl_X1_114 rfl rfl (hb2 hk) ?_
        refine s_aload_n (n := 49) dX1_meet_48 rfl rfl rfl ?_
        refine s_getr (k2 := k + 2) (n := 52) dX1_meet_49 rfl fl_X1_20 rfl (hb0 hk) rfl ?_
        refine s_iload_n (n := 53) dX1_meet_52 rfl rfl rfl ?_
        refine s_iconst (v := 4) (n := 54) dX1_meet_53 rfl (by decide) ?_
        refine s_icmp_ne (n := 57) (t := 61) dX1_meet_54 (by decide) rfl (fun h54 => ?_) (fun h54 => ?_)
        · refine s_iconst (v := 1) (n := 62) dX1_meet_61 rfl (by decide) ?_
          refine s_cv1 (n := 65) dX1_meet_62 rfl mo_X3_turn ml_X1_93 (hb2 hk) (by decide) rfl rfl (Nat.le_of_ble_eq_true rfl) (Nat.le_of_ble_eq_true rfl) (c_X3_turn (hb2 hk) _ ?_)
          dsimp only [m_push]
          refine s_goto (t := 146) dX1_meet_65 (by decide) ?_
          refine s_aload_n (n := 147) dX1_meet_146 rfl rfl rfl ?_
          refine s_getr (k2 := k + 2) (n := 150) dX1_meet_147 rfl fl_X1_20 rfl (hb0 hk) rfl ?_
          refine s_geti (n := 153) dX1_meet_150 rfl fl_X1_114 rfl (hb2 hk) ?_
          refine s_if_gt (n := 156) (t := 164) dX1_meet_153 (by decide) rfl (fun h153 => ?_) (fun h153 => ?_)
          · refine s_return dX1_meet_164 rfl ?_
            have hcl : clp (g (k + 2) 2) = g (k + 2) 2 := clp_id hwn
            clear hwn
            have e1 : k + 2 ≠ k := by omega
            have e2 : ∀ q, k + 4 + q ≠ k + 2 := by intro q; omega
            have e3 : k ≠ k + 2 := by omega
            refine hQ _ ?_ ?_ ?_ ?_
            · intro z hz
              have hz : z ≠ k + 2 := by simpa using hz
              simp [m_up_o hz]
            · simp [m_up_k]
            · intro hH
              simp_all [m_up_k, sHold]
            · intro hH
              simp_all [m_up_k, sHold, sTurn, sSlow, ire]
              try (first | exact rfl | (refine ⟨rfl, ?_⟩; intro q; exact absurd q (Int32.not_le.mpr h153)) | (intro q; exact absurd q (Int32.not_le.mpr h153)))
          · refine s_aload_n (n := 157) dX1_meet_156 rfl rfl rfl ?_
            refine s_getr (k2 := k + 2) (n := 160) dX1_meet_157 rfl fl_X1_20 rfl (hb0 hk) rfl ?_
            refine s_iload_n (n := 161) dX1_meet_160 rfl rfl rfl ?_
            refine s_cv1 (n := 164) dX1_meet_161 rfl mo_X3_restAt ml_X1_115 (hb2 hk) (by decide) rfl rfl (Nat.le_of_ble_eq_true rfl) (Nat.le_of_ble_eq_true rfl) (c_X3_restAt (hb2 hk) _ ?_)
            dsimp only [m_push]
            refine s_return dX1_meet_164 rfl ?_
            have hcl : clp (g (k + 2) 2) = g (k + 2) 2 := clp_id hwn
            clear hwn
            have e1 : k + 2 ≠ k := by omega
            have e2 : ∀ q, k + 4 + q ≠ k + 2 := by intro q; omega
            have e3 : k ≠ k + 2 := by omega
            refine hQ _ ?_ ?_ ?_ ?_
            · intro z hz
              have hz : z ≠ k + 2 := by simpa using hz
              simp [m_up_o hz]
            · simp [m_up_k]
            · intro hH
              simp_all [m_up_k, sHold]
            · intro hH
              simp_all [m_up_k, sHold, sTurn, sSlow, ire]
              try (first | exact rfl | (refine ⟨rfl, ?_⟩; intro q; exact absurd q (Int32.not_le.mpr h153)) | (intro q; exact absurd q (Int32.not_le.mpr h153)))
        · refine s_iconst (v := -1) (n := 58) dX1_meet_57 rfl (by decide) ?_
          refine s_goto (t := 62) dX1_meet_58 (by decide) ?_
          refine s_cv1 (n := 65) dX1_meet_62 rfl mo_X3_turn ml_X1_93 (hb2 hk) (by decide) rfl rfl (Nat.le_of_ble_eq_true rfl) (Nat.le_of_ble_eq_true rfl) (c_X3_turn (hb2 hk) _ ?_)
          dsimp only [m_push]
          refine s_goto (t := 146) dX1_meet_65 (by decide) ?_
          refine s_aload_n (n := 147) dX1_meet_146 rfl rfl rfl ?_
          refine s_getr (k2 := k + 2) (n := 150) dX1_meet_147 rfl fl_X1_20 rfl (hb0 hk) rfl ?_
          refine s_geti (n := 153) dX1_meet_150 rfl fl_X1_114 rfl (hb2 hk) ?_
          refine s_if_gt (n := 156) (t := 164) dX1_meet_153 (by decide) rfl (fun h153 => ?_) (fun h153 => ?_)
          · refine s_return dX1_meet_164 rfl ?_
            have hcl : clp (g (k + 2) 2) = g (k + 2) 2 := clp_id hwn
            clear hwn
            have e1 : k + 2 ≠ k := by omega
            have e2 : ∀ q, k + 4 + q ≠ k + 2 := by intro q; omega
            have e3 : k ≠ k + 2 := by omega
            refine hQ _ ?_ ?_ ?_ ?_
            · intro z hz
              have hz : z ≠ k + 2 := by simpa using hz
              simp [m_up_o hz]
            · simp [m_up_k]
            · intro hH
              simp_all [m_up_k, sHold]
            · intro hH
              simp_all [m_up_k, sHold, sTurn, sSlow, ire]
              try (first | exact rfl | (refine ⟨rfl, ?_⟩; intro q; exact absurd q (Int32.not_le.mpr h153)) | (intro q; exact absurd q (Int32.not_le.mpr h153)))
          · refine s_aload_n (n := 157) dX1_meet_156 rfl rfl rfl ?_
            refine s_getr (k2 := k + 2) (n := 160) dX1_meet_157 rfl fl_X1_20 rfl (hb0 hk) rfl ?_
            refine s_iload_n (n := 161) dX1_meet_160 rfl rfl rfl ?_
            refine s_cv1 (n := 164) dX1_meet_161 rfl mo_X3_restAt ml_X1_115 (hb2 hk) (by decide) rfl rfl (Nat.le_of_ble_eq_true rfl) (Nat.le_of_ble_eq_true rfl) (c_X3_restAt (hb2 hk) _ ?_)
            dsimp only [m_push]
            refine s_return dX1_meet_164 rfl ?_
            have hcl : clp (g (k + 2) 2) = g (k + 2) 2 := clp_id hwn
            clear hwn
            have e1 : k + 2 ≠ k := by omega
            have e2 : ∀ q, k + 4 + q ≠ k + 2 := by intro q; omega
            have e3 : k ≠ k + 2 := by omega
            refine hQ _ ?_ ?_ ?_ ?_
            · intro z hz
              have hz : z ≠ k + 2 := by simpa using hz
              simp [m_up_o hz]
            · simp [m_up_k]
            · intro hH
              simp_all [m_up_k, sHold]
            · intro hH
              simp_all [m_up_k, sHold, sTurn, sSlow, ire]
              try (first | exact rfl | (refine ⟨rfl, ?_⟩; intro q; exact absurd q (Int32.not_le.mpr h153)) | (intro q; exact absurd q (Int32.not_le.mpr h153)))
  · refine s_iconst (v := 1) (n := 19) dX1_meet_18 rfl (by decide) ?_
    refine s_goto (t := 23) dX1_meet_19 (by decide) ?_
    refine s_istore (n := 25) dX1_meet_23 rfl (by decide) rfl rfl ?_
    refine s_iload_n (n := 26) dX1_meet_25 rfl rfl rfl ?_
    refine s_iconst (v := 4) (n := 27) dX1_meet_26 rfl (by decide) ?_
    refine s_icmp_eq (n := 30) (t := 35) dX1_meet_27 (by decide) rfl (fun h27 => ?_) (fun h27 => ?_)
    · refine s_aload_n (n := 36) dX1_meet_35 rfl rfl rfl ?_
      refine s_getr (k2 := k + 2) (n := 39) dX1_meet_36 rfl fl_X1_20 rfl (hb0 hk) rfl ?_
      refine s_dup (n := 40) dX1_meet_39 rfl rfl ?_
      refine s_geti (n := 43) dX1_meet_40 rfl fl_X1_114 rfl (hb2 hk) ?_
      refine s_iconst (v := 1) (n := 44) dX1_meet_43 rfl (by decide) ?_
      refine s_isub (n := 45) dX1_meet_44 rfl ?_
      refine s_puti (n := 48) dX1_meet_45 rfl fl_X1_114 rfl rfl (hb2 hk) ?_
      refine s_aload_n (n := 49) dX1_meet_48 rfl rfl rfl ?_
      refine s_getr (k2 := k + 2) (n := 52) dX1_meet_49 rfl fl_X1_20 rfl (hb0 hk) rfl ?_
      refine s_iload_n (n := 53) dX1_meet_52 rfl rfl rfl ?_
      refine s_iconst (v := 4) (n := 54) dX1_meet_53 rfl (by decide) ?_
      refine s_icmp_ne (n := 57) (t := 61) dX1_meet_54 (by decide) rfl (fun h54 => ?_) (fun h54 => ?_)
      · refine s_iconst (v := 1) (n := 62) dX1_meet_61 rfl (by decide) ?_
        refine s_cv1 (n := 65) dX1_meet_62 rfl mo_X3_turn ml_X1_93 (hb2 hk) (by decide) rfl rfl (Nat.le_of_ble_eq_true rfl) (Nat.le_of_ble_eq_true rfl) (c_X3_turn (hb2 hk) _ ?_)
        dsimp only [m_push]
        refine s_goto (t := 146) dX1_meet_65 (by decide) ?_
        refine s_aload_n (n := 147) dX1_meet_146 rfl rfl rfl ?_
        refine s_getr (k2 := k + 2) (n := 150) dX1_meet_147 rfl fl_X1_20 rfl (hb0 hk) rfl ?_
        refine s_geti (n := 153) dX1_meet_150 rfl fl_X1_114 rfl (hb2 hk) ?_
        refine s_if_gt (n := 156) (t := 164) dX1_meet_153 (by decide) rfl (fun h153 => ?_) (fun h153 => ?_)
        · refine s_return dX1_meet_164 rfl ?_
          have hcl : clp (g (k + 2) 2) = g (k + 2) 2 := clp_id hwn
          clear hwn
          have e1 : k + 2 ≠ k := by omega
          have e2 : ∀ q, k + 4 + q ≠ k + 2 := by intro q; omega
          have e3 : k ≠ k + 2 := by omega
          refine hQ _ ?_ ?_ ?_ ?_
          · intro z hz
            have hz : z ≠ k + 2 := by simpa using hz
            simp [m_up_o hz]
          · simp [m_up_k]
          · intro hH
            simp_all [m_up_k, sHold]
          · intro hH
            simp_all [m_up_k, sHold, sTurn, sSlow, ire]
            try (first | exact rfl | (refine ⟨rfl, ?_⟩; intro q; exact absurd q (Int32.not_le.mpr h153)) | (intro q; exact absurd q (Int32.not_le.mpr h153)))
        · refine s_aload_n (n := 157) dX1_meet_156 rfl rfl rfl ?_
          refine s_getr (k2 := k + 2) (n := 160) dX1_meet_157 rfl fl_X1_20 rfl (hb0 hk) rfl ?_
          refine s_iload_n (n := 161) dX1_meet_160 rfl rfl rfl ?_
          refine s_cv1 (n := 164) dX1_meet_161 rfl mo_X3_restAt ml_X1_115 (hb2 hk) (by decide) rfl rfl (Nat.le_of_ble_eq_true rfl) (Nat.le_of_ble_eq_true rfl) (c_X3_restAt (hb2 hk) _ ?_)
          dsimp only [m_push]
          refine s_return dX1_meet_164 rfl ?_
          have hcl : clp (g (k + 2) 2) = g (k + 2) 2 := clp_id hwn
          clear hwn
          have e1 : k + 2 ≠ k := by omega
          have e2 : ∀ q, k + 4 + q ≠ k + 2 := by intro q; omega
          have e3 : k ≠ k + 2 := by omega
          refine hQ _ ?_ ?_ ?_ ?_
          · intro z hz
            have hz : z ≠ k + 2 := by simpa using hz
            simp [m_up_o hz]
          · simp [m_up_k]
          · intro hH
            simp_all [m_up_k, sHold]
          · intro hH
            simp_all [m_up_k, sHold, sTurn, sSlow, ire]
            try (first | exact rfl | (refine ⟨rfl, ?_⟩; intro q; exact absurd q (Int32.not_le.mpr h153)) | (intro q; exact absurd q (Int32.not_le.mpr h153)))
      · refine s_iconst (v := -1) (n := 58) dX1_meet_57 rfl (by decide) ?_
        refine s_goto (t := 62) dX1_meet_58 (by decide) ?_
        refine s_cv1 (n := 65) dX1_meet_62 rfl mo_X3_turn ml_X1_93 (hb2 hk) (by decide) rfl rfl (Nat.le_of_ble_eq_true rfl) (Nat.le_of_ble_eq_true rfl) (c_X3_turn (hb2 hk) _ ?_)
        dsimp only [m_push]
        refine s_goto (t := 146) dX1_meet_65 (by decide) ?_
        refine s_aload_n (n := 147) dX1_meet_146 rfl rfl rfl ?_
        refine s_getr (k2 := k + 2) (n := 150) dX1_meet_147 rfl fl_X1_20 rfl (hb0 hk) rfl ?_
        refine s_geti (n := 153) dX1_meet_150 rfl fl_X1_114 rfl (hb2 hk) ?_
        refine s_if_gt (n := 156) (t := 164) dX1_meet_153 (by decide) rfl (fun h153 => ?_) (fun h153 => ?_)
        · refine s_return dX1_meet_164 rfl ?_
          have hcl : clp (g (k + 2) 2) = g (k + 2) 2 := clp_id hwn
          clear hwn
          have e1 : k + 2 ≠ k := by omega
          have e2 : ∀ q, k + 4 + q ≠ k + 2 := by intro q; omega
          have e3 : k ≠ k + 2 := by omega
          refine hQ _ ?_ ?_ ?_ ?_
          · intro z hz
            have hz : z ≠ k + 2 := by simpa using hz
            simp [m_up_o hz]
          · simp [m_up_k]
          · intro hH
            simp_all [m_up_k, sHold]
          · intro hH
            simp_all [m_up_k, sHold, sTurn, sSlow, ire]
            try (first | exact rfl | (refine ⟨rfl, ?_⟩; intro q; exact absurd q (Int32.not_le.mpr h153)) | (intro q; exact absurd q (Int32.not_le.mpr h153)))
        · refine s_aload_n (n := 157) dX1_meet_156 rfl rfl rfl ?_
          refine s_getr (k2 := k + 2) (n := 160) dX1_meet_157 rfl fl_X1_20 rfl (hb0 hk) rfl ?_
          refine s_iload_n (n := 161) dX1_meet_160 rfl rfl rfl ?_
          refine s_cv1 (n := 164) dX1_meet_161 rfl mo_X3_restAt ml_X1_115 (hb2 hk) (by decide) rfl rfl (Nat.le_of_ble_eq_true rfl) (Nat.le_of_ble_eq_true rfl) (c_X3_restAt (hb2 hk) _ ?_)
          dsimp only [m_push]
          refine s_return dX1_meet_164 rfl ?_
          have hcl : clp (g (k + 2) 2) = g (k + 2) 2 := clp_id hwn
          clear hwn
          have e1 : k + 2 ≠ k := by omega
          have e2 : ∀ q, k + 4 + q ≠ k + 2 := by intro q; omega
          have e3 : k ≠ k + 2 := by omega
          refine hQ _ ?_ ?_ ?_ ?_
          · intro z hz
            have hz : z ≠ k + 2 := by simpa using hz
            simp [m_up_o hz]
          · simp [m_up_k]
          · intro hH
            simp_all [m_up_k, sHold]
          · intro hH
            simp_all [m_up_k, sHold, sTurn, sSlow, ire]
            try (first | exact rfl | (refine ⟨rfl, ?_⟩; intro q; exact absurd q (Int32.not_le.mpr h153)) | (intro q; exact absurd q (Int32.not_le.mpr h153)))
    · refine s_iload_n (n := 31) dX1_meet_30 rfl rfl rfl ?_
      refine s_iconst (v := 5) (n := 32) dX1_meet_31 rfl (by decide) ?_
      refine s_icmp_ne (n := 35) (t := 68) dX1_meet_32 (by decide) rfl (fun h32 => ?_) (fun h32 => ?_)
      · refine s_iload_n (n := 69) dX1_meet_68 rfl rfl rfl ?_
        refine s_iconst (v := 3) (n := 70) dX1_meet_69 rfl (by decide) ?_
        refine s_icmp_eq (n := 73) (t := 83) dX1_meet_70 (by decide) rfl (fun h70 => ?_) (fun h70 => ?_)
        · refine s_aload_n (n := 84) dX1_meet_83 rfl rfl rfl ?_
          refine s_getr (k2 := k + 2) (n := 87) dX1_meet_84 rfl fl_X1_20 rfl (hb0 hk) rfl ?_
          refine s_iload_n (n := 88) dX1_meet_87 rfl rfl rfl ?_
          refine s_cv1 (n := 91) dX1_meet_88 rfl mo_X3_restAt ml_X1_115 (hb2 hk) (by decide) rfl rfl (Nat.le_of_ble_eq_true rfl) (Nat.le_of_ble_eq_true rfl) (c_X3_restAt (hb2 hk) _ ?_)
          dsimp only [m_push]
          refine s_goto (t := 146) dX1_meet_91 (by decide) ?_
          refine s_aload_n (n := 147) dX1_meet_146 rfl rfl rfl ?_
          refine s_getr (k2 := k + 2) (n := 150) dX1_meet_147 rfl fl_X1_20 rfl (hb0 hk) rfl ?_
          refine s_geti (n := 153) dX1_meet_150 rfl fl_X1_114 rfl (hb2 hk) ?_
          refine s_if_gt (n := 156) (t := 164) dX1_meet_153 (by decide) rfl (fun h153 => ?_) (fun h153 => ?_)
          · refine s_return dX1_meet_164 rfl ?_
            have hcl : clp (g (k + 2) 2) = g (k + 2) 2 := clp_id hwn
            clear hwn
            have e1 : k + 2 ≠ k := by omega
            have e2 : ∀ q, k + 4 + q ≠ k + 2 := by intro q; omega
            have e3 : k ≠ k + 2 := by omega
            refine hQ _ ?_ ?_ ?_ ?_
            · intro z hz
              have hz : z ≠ k + 2 := by simpa using hz
              simp [m_up_o hz]
            · simp [m_up_k]
            · intro hH
              simp_all [m_up_k, sHold]
            · intro hH
              simp_all [m_up_k, sHold, sTurn, sSlow, ire]
              try (first | exact rfl | (refine ⟨rfl, ?_⟩; intro q; exact absurd q (Int32.not_le.mpr h153)) | (intro q; exact absurd q (Int32.not_le.mpr h153)))
          · refine s_aload_n (n := 157) dX1_meet_156 rfl rfl rfl ?_
            refine s_getr (k2 := k + 2) (n := 160) dX1_meet_157 rfl fl_X1_20 rfl (hb0 hk) rfl ?_
            refine s_iload_n (n := 161) dX1_meet_160 rfl rfl rfl ?_
            refine s_cv1 (n := 164) dX1_meet_161 rfl mo_X3_restAt ml_X1_115 (hb2 hk) (by decide) rfl rfl (Nat.le_of_ble_eq_true rfl) (Nat.le_of_ble_eq_true rfl) (c_X3_restAt (hb2 hk) _ ?_)
            dsimp only [m_push]
            refine s_return dX1_meet_164 rfl ?_
            have hcl : clp (g (k + 2) 2) = g (k + 2) 2 := clp_id hwn
            clear hwn
            have e1 : k + 2 ≠ k := by omega
            have e2 : ∀ q, k + 4 + q ≠ k + 2 := by intro q; omega
            have e3 : k ≠ k + 2 := by omega
            refine hQ _ ?_ ?_ ?_ ?_
            · intro z hz
              have hz : z ≠ k + 2 := by simpa using hz
              simp [m_up_o hz]
            · simp [m_up_k]
            · intro hH
              simp_all [m_up_k, sHold]
            · intro hH
              simp_all [m_up_k, sHold, sTurn, sSlow, ire]
              try (first | exact rfl | (refine ⟨rfl, ?_⟩; intro q; exact absurd q (Int32.not_le.mpr h153)) | (intro q; exact absurd q (Int32.not_le.mpr h153)))
        · refine s_iload_n (n := 74) dX1_meet_73 rfl rfl rfl ?_
          refine s_iconst (v := 1) (n := 75) dX1_meet_74 rfl (by decide) ?_
          refine s_icmp_ne (n := 78) (t := 94) dX1_meet_75 (by decide) rfl (fun h75 => ?_) (fun h75 => ?_)
          · refine s_iload (n := 96) dX1_meet_94 rfl rfl ?_
            refine s_if_eq (n := 99) (t := 133) dX1_meet_96 (by decide) rfl (fun h => absurd h (by decide)) (fun _ => ?_)
            refine s_aload_n (n := 100) dX1_meet_99 rfl rfl rfl ?_
            refine s_getr (k2 := k + 2) (n := 103) dX1_meet_100 rfl fl_X1_20 rfl (hb0 hk) rfl ?_
            refine s_dup (n := 104) dX1_meet_103 rfl rfl ?_
            refine s_geti (n := 107) dX1_meet_104 rfl fl_X1_114 rfl (hb2 hk) ?_
            refine s_iconst (v := 2) (n := 108) dX1_meet_107 rfl (by decide) ?_
            refine s_isub (n := 109) dX1_meet_108 rfl ?_
            refine s_puti (n := 112) dX1_meet_109 rfl fl_X1_114 rfl rfl (hb2 hk) ?_
            refine s_aload_n (n := 113) dX1_meet_112 rfl rfl rfl ?_
            refine s_getr (k2 := k + 2) (n := 116) dX1_meet_113 rfl fl_X1_20 rfl (hb0 hk) rfl ?_
            refine s_iload_n (n := 117) dX1_meet_116 rfl rfl rfl ?_
            refine s_iconst (v := 2) (n := 118) dX1_meet_117 rfl (by decide) ?_
            refine s_irem (n := 119) dX1_meet_118 rfl (by decide) ?_
            refine s_mat_if_ne (n := 127) (t := 126) dX1_meet_119 (by decide) dX1_meet_122 dX1_meet_123 (by decide) dX1_meet_126 rfl (u := -1) (v := 1) (by decide) (by decide) ?_
            refine s_cv1 (n := 130) dX1_meet_127 rfl mo_X3_turn ml_X1_93 (hb2 hk) (by decide) rfl rfl (Nat.le_of_ble_eq_true rfl) (Nat.le_of_ble_eq_true rfl) (c_X3_turn (hb2 hk) _ ?_)
            dsimp only [m_push]
            refine s_goto (t := 146) dX1_meet_130 (by decide) ?_
            refine s_aload_n (n := 147) dX1_meet_146 rfl rfl rfl ?_
            refine s_getr (k2 := k + 2) (n := 150) dX1_meet_147 rfl fl_X1_20 rfl (hb0 hk) rfl ?_
            refine s_geti (n := 153) dX1_meet_150 rfl fl_X1_114 rfl (hb2 hk) ?_
            refine s_if_gt (n := 156) (t := 164) dX1_meet_153 (by decide) rfl (fun h153 => ?_) (fun h153 => ?_)
            · refine s_return dX1_meet_164 rfl ?_
              have hcl : clp (g (k + 2) 2) = g (k + 2) 2 := clp_id hwn
              clear hwn
              have e1 : k + 2 ≠ k := by omega
              have e2 : ∀ q, k + 4 + q ≠ k + 2 := by intro q; omega
              have e3 : k ≠ k + 2 := by omega
              refine hQ _ ?_ ?_ ?_ ?_
              · intro z hz
                have hz : z ≠ k + 2 := by simpa using hz
                simp [m_up_o hz]
              · simp [m_up_k]
              · intro hH
                simp_all [m_up_k, sHold]
              · intro hH
                simp_all [m_up_k, sHold, sTurn, sSlow, ire]
                try (first | exact rfl | (refine ⟨rfl, ?_⟩; intro q; exact absurd q (Int32.not_le.mpr h153)) | (intro q; exact absurd q (Int32.not_le.mpr h153)))
            · refine s_aload_n (n := 157) dX1_meet_156 rfl rfl rfl ?_
              refine s_getr (k2 := k + 2) (n := 160) dX1_meet_157 rfl fl_X1_20 rfl (hb0 hk) rfl ?_
              refine s_iload_n (n := 161) dX1_meet_160 rfl rfl rfl ?_
              refine s_cv1 (n := 164) dX1_meet_161 rfl mo_X3_restAt ml_X1_115 (hb2 hk) (by decide) rfl rfl (Nat.le_of_ble_eq_true rfl) (Nat.le_of_ble_eq_true rfl) (c_X3_restAt (hb2 hk) _ ?_)
              dsimp only [m_push]
              refine s_return dX1_meet_164 rfl ?_
              have hcl : clp (g (k + 2) 2) = g (k + 2) 2 := clp_id hwn
              clear hwn
              have e1 : k + 2 ≠ k := by omega
              have e2 : ∀ q, k + 4 + q ≠ k + 2 := by intro q; omega
              have e3 : k ≠ k + 2 := by omega
              refine hQ _ ?_ ?_ ?_ ?_
              · intro z hz
                have hz : z ≠ k + 2 := by simpa using hz
                simp [m_up_o hz]
              · simp [m_up_k]
              · intro hH
                simp_all [m_up_k, sHold]
              · intro hH
                simp_all [m_up_k, sHold, sTurn, sSlow, ire]
                try (first | exact rfl | (refine ⟨rfl, ?_⟩; intro q; exact absurd q (Int32.not_le.mpr h153)) | (intro q; exact absurd q (Int32.not_le.mpr h153)))
          · refine s_iload (n := 80) dX1_meet_78 rfl rfl ?_
            refine s_if_ne (n := 83) (t := 94) dX1_meet_80 (by decide) rfl (fun _ => ?_) (fun h => absurd h (by decide))
            refine s_iload (n := 96) dX1_meet_94 rfl rfl ?_
            refine s_if_eq (n := 99) (t := 133) dX1_meet_96 (by decide) rfl (fun h => absurd h (by decide)) (fun _ => ?_)
            refine s_aload_n (n := 100) dX1_meet_99 rfl rfl rfl ?_
            refine s_getr (k2 := k + 2) (n := 103) dX1_meet_100 rfl fl_X1_20 rfl (hb0 hk) rfl ?_
            refine s_dup (n := 104) dX1_meet_103 rfl rfl ?_
            refine s_geti (n := 107) dX1_meet_104 rfl fl_X1_114 rfl (hb2 hk) ?_
            refine s_iconst (v := 2) (n := 108) dX1_meet_107 rfl (by decide) ?_
            refine s_isub (n := 109) dX1_meet_108 rfl ?_
            refine s_puti (n := 112) dX1_meet_109 rfl fl_X1_114 rfl rfl (hb2 hk) ?_
            refine s_aload_n (n := 113) dX1_meet_112 rfl rfl rfl ?_
            refine s_getr (k2 := k + 2) (n := 116) dX1_meet_113 rfl fl_X1_20 rfl (hb0 hk) rfl ?_
            refine s_iload_n (n := 117) dX1_meet_116 rfl rfl rfl ?_
            refine s_iconst (v := 2) (n := 118) dX1_meet_117 rfl (by decide) ?_
            refine s_irem (n := 119) dX1_meet_118 rfl (by decide) ?_
            refine s_mat_if_ne (n := 127) (t := 126) dX1_meet_119 (by decide) dX1_meet_122 dX1_meet_123 (by decide) dX1_meet_126 rfl (u := -1) (v := 1) (by decide) (by decide) ?_
            refine s_cv1 (n := 130) dX1_meet_127 rfl mo_X3_turn ml_X1_93 (hb2 hk) (by decide) rfl rfl (Nat.le_of_ble_eq_true rfl) (Nat.le_of_ble_eq_true rfl) (c_X3_turn (hb2 hk) _ ?_)
            dsimp only [m_push]
            refine s_goto (t := 146) dX1_meet_130 (by decide) ?_
            refine s_aload_n (n := 147) dX1_meet_146 rfl rfl rfl ?_
            refine s_getr (k2 := k + 2) (n := 150) dX1_meet_147 rfl fl_X1_20 rfl (hb0 hk) rfl ?_
            refine s_geti (n := 153) dX1_meet_150 rfl fl_X1_114 rfl (hb2 hk) ?_
            refine s_if_gt (n := 156) (t := 164) dX1_meet_153 (by decide) rfl (fun h153 => ?_) (fun h153 => ?_)
            · refine s_return dX1_meet_164 rfl ?_
              have hcl : clp (g (k + 2) 2) = g (k + 2) 2 := clp_id hwn
              clear hwn
              have e1 : k + 2 ≠ k := by omega
              have e2 : ∀ q, k + 4 + q ≠ k + 2 := by intro q; omega
              have e3 : k ≠ k + 2 := by omega
              refine hQ _ ?_ ?_ ?_ ?_
              · intro z hz
                have hz : z ≠ k + 2 := by simpa using hz
                simp [m_up_o hz]
              · simp [m_up_k]
              · intro hH
                simp_all [m_up_k, sHold]
              · intro hH
                simp_all [m_up_k, sHold, sTurn, sSlow, ire]
                try (first | exact rfl | (refine ⟨rfl, ?_⟩; intro q; exact absurd q (Int32.not_le.mpr h153)) | (intro q; exact absurd q (Int32.not_le.mpr h153)))
            · refine s_aload_n (n := 157) dX1_meet_156 rfl rfl rfl ?_
              refine s_getr (k2 := k + 2) (n := 160) dX1_meet_157 rfl fl_X1_20 rfl (hb0 hk) rfl ?_
              refine s_iload_n (n := 161) dX1_meet_160 rfl rfl rfl ?_
              refine s_cv1 (n := 164) dX1_meet_161 rfl mo_X3_restAt ml_X1_115 (hb2 hk) (by decide) rfl rfl (Nat.le_of_ble_eq_true rfl) (Nat.le_of_ble_eq_true rfl) (c_X3_restAt (hb2 hk) _ ?_)
              dsimp only [m_push]
              refine s_return dX1_meet_164 rfl ?_
              have hcl : clp (g (k + 2) 2) = g (k + 2) 2 := clp_id hwn
              clear hwn
              have e1 : k + 2 ≠ k := by omega
              have e2 : ∀ q, k + 4 + q ≠ k + 2 := by intro q; omega
              have e3 : k ≠ k + 2 := by omega
              refine hQ _ ?_ ?_ ?_ ?_
              · intro z hz
                have hz : z ≠ k + 2 := by simpa using hz
                simp [m_up_o hz]
              · simp [m_up_k]
              · intro hH
                simp_all [m_up_k, sHold]
              · intro hH
                simp_all [m_up_k, sHold, sTurn, sSlow, ire]
                try (first | exact rfl | (refine ⟨rfl, ?_⟩; intro q; exact absurd q (Int32.not_le.mpr h153)) | (intro q; exact absurd q (Int32.not_le.mpr h153)))
      · refine s_aload_n (n := 36) dX1_meet_35 rfl rfl rfl ?_
        refine s_getr (k2 := k + 2) (n := 39) dX1_meet_36 rfl fl_X1_20 rfl (hb0 hk) rfl ?_
        refine s_dup (n := 40) dX1_meet_39 rfl rfl ?_
        refine s_geti (n := 43) dX1_meet_40 rfl fl_X1_114 rfl (hb2 hk) ?_
        refine s_iconst (v := 1) (n := 44) dX1_meet_43 rfl (by decide) ?_
        refine s_isub (n := 45) dX1_meet_44 rfl ?_
        refine s_puti (n := 48) dX1_meet_45 rfl fl_X1_114 rfl rfl (hb2 hk) ?_
        refine s_aload_n (n := 49) dX1_meet_48 rfl rfl rfl ?_
        refine s_getr (k2 := k + 2) (n := 52) dX1_meet_49 rfl fl_X1_20 rfl (hb0 hk) rfl ?_
        refine s_iload_n (n := 53) dX1_meet_52 rfl rfl rfl ?_
        refine s_iconst (v := 4) (n := 54) dX1_meet_53 rfl (by decide) ?_
        refine s_icmp_ne (n := 57) (t := 61) dX1_meet_54 (by decide) rfl (fun h54 => ?_) (fun h54 => ?_)
        · refine s_iconst (v := 1) (n := 62) dX1_meet_61 rfl (by decide) ?_
          refine s_cv1 (n := 65) dX1_meet_62 rfl mo_X3_turn ml_X1_93 (hb2 hk) (by decide) rfl rfl (Nat.le_of_ble_eq_true rfl) (Nat.le_of_ble_eq_true rfl) (c_X3_turn (hb2 hk) _ ?_)
          dsimp only [m_push]
          refine s_goto (t := 146) dX1_meet_65 (by decide) ?_
          refine s_aload_n (n := 147) dX1_meet_146 rfl rfl rfl ?_
          refine s_getr (k2 := k + 2) (n := 150) dX1_meet_147 rfl fl_X1_20 rfl (hb0 hk) rfl ?_
          refine s_geti (n := 153) dX1_meet_150 rfl fl_X1_114 rfl (hb2 hk) ?_
          refine s_if_gt (n := 156) (t := 164) dX1_meet_153 (by decide) rfl (fun h153 => ?_) (fun h153 => ?_)
          · refine s_return dX1_meet_164 rfl ?_
            have hcl : clp (g (k + 2) 2) = g (k + 2) 2 := clp_id hwn
            clear hwn
            have e1 : k + 2 ≠ k := by omega
            have e2 : ∀ q, k + 4 + q ≠ k + 2 := by intro q; omega
            have e3 : k ≠ k + 2 := by omega
            refine hQ _ ?_ ?_ ?_ ?_
            · intro z hz
              have hz : z ≠ k + 2 := by simpa using hz
              simp [m_up_o hz]
            · simp [m_up_k]
            · intro hH
              simp_all [m_up_k, sHold]
            · intro hH
              simp_all [m_up_k, sHold, sTurn, sSlow, ire]
              try (first | exact rfl | (refine ⟨rfl, ?_⟩; intro q; exact absurd q (Int32.not_le.mpr h153)) | (intro q; exact absurd q (Int32.not_le.mpr h153)))
          · refine s_aload_n (n := 157) dX1_meet_156 rfl rfl rfl ?_
            refine s_getr (k2 := k + 2) (n := 160) dX1_meet_157 rfl fl_X1_20 rfl (hb0 hk) rfl ?_
            refine s_iload_n (n := 161) dX1_meet_160 rfl rfl rfl ?_
            refine s_cv1 (n := 164) dX1_meet_161 rfl mo_X3_restAt ml_X1_115 (hb2 hk) (by decide) rfl rfl (Nat.le_of_ble_eq_true rfl) (Nat.le_of_ble_eq_true rfl) (c_X3_restAt (hb2 hk) _ ?_)
            dsimp only [m_push]
            refine s_return dX1_meet_164 rfl ?_
            have hcl : clp (g (k + 2) 2) = g (k + 2) 2 := clp_id hwn
            clear hwn
            have e1 : k + 2 ≠ k := by omega
            have e2 : ∀ q, k + 4 + q ≠ k + 2 := by intro q; omega
            have e3 : k ≠ k + 2 := by omega
            refine hQ _ ?_ ?_ ?_ ?_
            · intro z hz
              have hz : z ≠ k + 2 := by simpa using hz
              simp [m_up_o hz]
            · simp [m_up_k]
            · intro hH
              simp_all [m_up_k, sHold]
            · intro hH
              simp_all [m_up_k, sHold, sTurn, sSlow, ire]
              try (first | exact rfl | (refine ⟨rfl, ?_⟩; intro q; exact absurd q (Int32.not_le.mpr h153)) | (intro q; exact absurd q (Int32.not_le.mpr h153)))
        · refine s_iconst (v := -1) (n := 58) dX1_meet_57 rfl (by decide) ?_
          refine s_goto (t := 62) dX1_meet_58 (by decide) ?_
          refine s_cv1 (n := 65) dX1_meet_62 rfl mo_X3_turn ml_X1_93 (hb2 hk) (by decide) rfl rfl (Nat.le_of_ble_eq_true rfl) (Nat.le_of_ble_eq_true rfl) (c_X3_turn (hb2 hk) _ ?_)
          dsimp only [m_push]
          refine s_goto (t := 146) dX1_meet_65 (by decide) ?_
          refine s_aload_n (n := 147) dX1_meet_146 rfl rfl rfl ?_
          refine s_getr (k2 := k + 2) (n := 150) dX1_meet_147 rfl fl_X1_20 rfl (hb0 hk) rfl ?_
          refine s_geti (n := 153) dX1_meet_150 rfl fl_X1_114 rfl (hb2 hk) ?_
          refine s_if_gt (n := 156) (t := 164) dX1_meet_153 (by decide) rfl (fun h153 => ?_) (fun h153 => ?_)
          · refine s_return dX1_meet_164 rfl ?_
            have hcl : clp (g (k + 2) 2) = g (k + 2) 2 := clp_id hwn
            clear hwn
            have e1 : k + 2 ≠ k := by omega
            have e2 : ∀ q, k + 4 + q ≠ k + 2 := by intro q; omega
            have e3 : k ≠ k + 2 := by omega
            refine hQ _ ?_ ?_ ?_ ?_
            · intro z hz
              have hz : z ≠ k + 2 := by simpa using hz
              simp [m_up_o hz]
            · simp [m_up_k]
            · intro hH
              simp_all [m_up_k, sHold]
            · intro hH
              simp_all [m_up_k, sHold, sTurn, sSlow, ire]
              try (first | exact rfl | (refine ⟨rfl, ?_⟩; intro q; exact absurd q (Int32.not_le.mpr h153)) | (intro q; exact absurd q (Int32.not_le.mpr h153)))
          · refine s_aload_n (n := 157) dX1_meet_156 rfl rfl rfl ?_
            refine s_getr (k2 := k + 2) (n := 160) dX1_meet_157 rfl fl_X1_20 rfl (hb0 hk) rfl ?_
            refine s_iload_n (n := 161) dX1_meet_160 rfl rfl rfl ?_
            refine s_cv1 (n := 164) dX1_meet_161 rfl mo_X3_restAt ml_X1_115 (hb2 hk) (by decide) rfl rfl (Nat.le_of_ble_eq_true rfl) (Nat.le_of_ble_eq_true rfl) (c_X3_restAt (hb2 hk) _ ?_)
            dsimp only [m_push]
            refine s_return dX1_meet_164 rfl ?_
            have hcl : clp (g (k + 2) 2) = g (k + 2) 2 := clp_id hwn
            clear hwn
            have e1 : k + 2 ≠ k := by omega
            have e2 : ∀ q, k + 4 + q ≠ k + 2 := by intro q; omega
            have e3 : k ≠ k + 2 := by omega
            refine hQ _ ?_ ?_ ?_ ?_
            · intro z hz
              have hz : z ≠ k + 2 := by simpa using hz
              simp [m_up_o hz]
            · simp [m_up_k]
            · intro hH
              simp_all [m_up_k, sHold]
            · intro hH
              simp_all [m_up_k, sHold, sTurn, sSlow, ire]
              try (first | exact rfl | (refine ⟨rfl, ?_⟩; intro q; exact absurd q (Int32.not_le.mpr h153)) | (intro q; exact absurd q (Int32.not_le.mpr h153)))
