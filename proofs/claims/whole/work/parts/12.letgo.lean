theorem e14_X1_letGo {SL d : Nat} {Q : Option Int32 → m_G → Prop} {g : m_G} {k : Nat} (hk : m_hb k) {x1 x3 : Value} {a : Int32} (h5 : g (k + 2) 5 = 1) (hQ : Q (some (g (k + 2) 4)) g) : Sim SL d yX1_letGo cX1_letGo 4 (some .int) 14 [.ref k, x1, .int a, x3] [] g Q := by
  refine s_iload_n (n := 15) dX1_letGo_14 rfl rfl rfl ?_
  refine s_aload_n (n := 16) dX1_letGo_15 rfl rfl rfl ?_
  refine s_geti (n := 19) dX1_letGo_16 rfl fl_X1_29 rfl (hb0 hk) ?_
  refine s_icmp_gt (n := 22) (t := 98) dX1_letGo_19 (by decide) rfl (fun h19 => ?_) (fun h19 => ?_)
  · refine s_aload_n (n := 99) dX1_letGo_98 rfl rfl rfl ?_
    refine s_getr (k2 := k + 2) (n := 102) dX1_letGo_99 rfl fl_X1_20 rfl (hb0 hk) rfl ?_
    refine s_geti (n := 105) dX1_letGo_102 rfl fl_X1_108 rfl (hb2 hk) ?_
    refine s_ireturn dX1_letGo_105 rfl rfl ?_
    simpa only [if_pos h19] using hQ
  · refine s_aload_n (n := 23) dX1_letGo_22 rfl rfl rfl ?_
    refine s_getr (k2 := k + 2) (n := 26) dX1_letGo_23 rfl fl_X1_20 rfl (hb0 hk) rfl ?_
    refine s_geti (n := 29) dX1_letGo_26 rfl fl_X1_90 rfl (hb2 hk) ?_
    refine s_if_ne (n := 32) (t := 98) dX1_letGo_29 (by decide) rfl (fun h29 => ?_) (fun h29 => ?_)
    · refine s_aload_n (n := 99) dX1_letGo_98 rfl rfl rfl ?_
      refine s_getr (k2 := k + 2) (n := 102) dX1_letGo_99 rfl fl_X1_20 rfl (hb0 hk) rfl ?_
      refine s_geti (n := 105) dX1_letGo_102 rfl fl_X1_108 rfl (hb2 hk) ?_
      refine s_ireturn dX1_letGo_105 rfl rfl ?_
      simpa only [if_neg h19, if_neg h29] using hQ
    · rw [h5] at h29
      exact absurd h29 (by decide)
def sGoPost (g : m_G) (k : Nat) (Q : Option Int32 → m_G → Prop) (r : Option Nat × (Nat → Int32) × Nat × Int32) : Prop := ∀ g2, m_fr [k + 2, k + 3] g g2 → (∀ j, j < r.2.2.1 → g2 (k + 3) j = r.2.1 j) → g2 (k + 2) 1 = nI (r.2.2.1 - 1) → g2 (k + 2) 3 = r.2.2.2 → Q (some (eC r.1)) g2
theorem sGoPost.tr {g g1 : m_G} {k : Nat} {Q : Option Int32 → m_G → Prop} {r : Option Nat × (Nat → Int32) × Nat × Int32} (h : sGoPost g k Q r) (hf : m_fr [k + 2, k + 3] g g1) : sGoPost g1 k Q r := fun g2 h2 => h g2 (hf.tr h2)
theorem TW.fr {g g2 : m_G} {k : Nat} {t : m_T} (h : TW g k t) (hf : m_fr [k + 2, k + 3] g g2) : TW g2 k t := h.kept (hf k (by simp)) (fun i _ => hf _ (by simp; omega))
theorem m_fr2 {g : m_G} {k a b : Nat} {v w : Int32} : m_fr [k + 2, k + 3] g (m_up (m_up g (k + 2) a v) (k + 3) b w) := (m_fr.up (by simp)).up2 (by simp)
theorem nI9 {i : Nat} {x : Int32} (h : ¬ x < nI i) (hx : x ≤ 9) (hi : i ≤ 10) : i ≤ 9 := by
  rcases Nat.lt_or_ge i 10 with q | q
  · omega
  · have : i = 10 := by omega
    subst this
    rw [i32_lt] at h; rw [i32_le] at hx
    have e1 : (nI 10).toInt = 10 := rfl
    have e2 : (9 : Int32).toInt = 9 := rfl
    omega
theorem lp_X1_letGo {SL d : Nat} {Q : Option Int32 → m_G → Prop} {k : Nat} (hk : m_hb k) {t : m_T} (hti : t 0 ≤ 9) (hc : t 1 ≤ 6) (hev : ¬ t 6 ≤ 0) : ∀ (n i : Nat) (g : m_G) (x1 : Int32) (x3 : Value) (ln sp : Int32) (Ls : Nat → Int32), i + n = 10 → 1 ≤ i → TW g k t → wn ln 0 6 → g (k + 2) 1 = nI (i - 1) → g (k + 2) 2 = ln → g (k + 2) 3 = sp → g (k + 2) 4 = -1 → g (k + 2) 5 = 0 → (∀ j, j < i → g (k + 3) j = Ls j) → sGoPost g k Q (sGo t n i ln sp Ls) → Sim SL (d + 3) yX1_letGo cX1_letGo 4 (some .int) 14 [.ref k, .int x1, .int (nI i), x3] [] g Q := by
  intro n
  induction n with
  | zero =>
    intro i g x1 x3 ln sp Ls hin hi1 hT hwn r1 r2 r3 r4 r5 r6 hQ
    have hi : i = 10 := by omega
    subst hi
    refine s_iload_n (n := 15) dX1_letGo_14 rfl rfl rfl ?_
    refine s_aload_n (n := 16) dX1_letGo_15 rfl rfl rfl ?_
    refine s_geti (n := 19) dX1_letGo_16 rfl fl_X1_29 rfl (hb0 hk) ?_
    refine s_icmp_gt (n := 22) (t := 98) dX1_letGo_19 (by decide) rfl (fun h19 => ?_) (fun h19 => ?_)
    · refine s_aload_n (n := 99) dX1_letGo_98 rfl rfl rfl ?_
      refine s_getr (k2 := k + 2) (n := 102) dX1_letGo_99 rfl fl_X1_20 rfl (hb0 hk) rfl ?_
      refine s_geti (n := 105) dX1_letGo_102 rfl fl_X1_108 rfl (hb2 hk) ?_
      refine s_ireturn dX1_letGo_105 rfl rfl ?_
      rw [r4]
      exact hQ g m_fr.rf r6 r1 r3
    · rw [hT.1.1] at h19
      exact absurd (nI9 h19 hti (by omega)) (by omega)
  | succ n ih =>
    intro i g x1 x3 ln sp Ls hin hi1 hT hwn r1 r2 r3 r4 r5 r6 hQ
    have b61 : ∀ g1 : m_G, m_fr [k + 2, k + 3] g g1 → ¬ t 0 < nI i → wn (sSt t i ln) 0 6 → g1 (k + 2) 1 = nI (i - 1) → g1 (k + 2) 2 = sSt t i ln → g1 (k + 2) 3 = sp → g1 (k + 2) 4 = -1 → g1 (k + 2) 5 = 0 → (∀ j, j < i → g1 (k + 3) j = Ls j) → Sim SL (d + 3) yX1_letGo cX1_letGo 4 (some .int) 61 [.ref k, .int x1, .int (nI i), x3] [] g1 Q := by
      intro g1 hf hlt hwn q1 q2 q3 q4 q5 q6
      have hT1 := hT.fr hf
      have hi9 : i ≤ 9 := nI9 hlt hti (by omega)
      have hne : k + 3 ≠ k + 2 := by omega
      have hne2 : k + 2 ≠ k + 3 := by omega
      refine s_aload_n (n := 62) dX1_letGo_61 rfl rfl rfl ?_
      refine s_iload_n (n := 63) dX1_letGo_62 rfl rfl rfl ?_
      refine s_aload_n (n := 64) dX1_letGo_63 rfl rfl rfl ?_
      refine s_getr (k2 := k + 2) (n := 67) dX1_letGo_64 rfl fl_X1_20 rfl (hb0 hk) rfl ?_
      refine s_geti (n := 70) dX1_letGo_67 rfl fl_X1_97 rfl (hb2 hk) ?_
      rw [q2]
      refine s_cv2 (n := 73) dX1_letGo_70 rfl mo_X1_standing ml_X1_98 (hb0 hk) (by decide) rfl rfl (Nat.le_of_ble_eq_true rfl) (Nat.le_of_ble_eq_true rfl) (c_X1_standing hk hT1 hc _ _ ?_)
      dsimp only [m_push]
      unfold sGo at hQ
      rw [if_neg hlt] at hQ
      cases hs : sAt t (nI i) (sSt t i ln) with
      | none =>
        rw [hs] at hQ
        dsimp only [eC] at hQ ⊢
        refine s_istore_n (n := 74) dX1_letGo_73 rfl rfl (by decide) rfl rfl ?_
        refine s_iload_n (n := 75) dX1_letGo_74 rfl rfl rfl ?_
        refine s_if_lt (n := 78) (t := 84) dX1_letGo_75 (by decide) rfl (fun _ => ?_) (fun h => absurd h (by decide))
        refine s_aload_n (n := 85) dX1_letGo_84 rfl rfl rfl ?_
        refine s_getr (k2 := k + 2) (n := 88) dX1_letGo_85 rfl fl_X1_20 rfl (hb0 hk) rfl ?_
        refine s_iload_n (n := 89) dX1_letGo_88 rfl rfl rfl ?_
        refine s_cv1 (n := 92) dX1_letGo_89 rfl mo_X3_reach ml_X1_105 (hb2 hk) (by decide) rfl rfl (Nat.le_of_ble_eq_true rfl) (Nat.le_of_ble_eq_true rfl) (c_X3_reach (hb2 hk) (hb3 hk) i (by omega) rfl ?_)
        dsimp only [m_push]
        refine s_iinc (n := 95) (v := nI (i + 1)) dX1_letGo_92 rfl (by decide) rfl rfl (nI_1 i) rfl ?_
        refine s_goto (t := 14) dX1_letGo_95 (by decide) ?_
        refine ih (i + 1) _ x1 _ (sSt t i ln) sp (upd Ls i (sSt t i ln)) (by omega) (by omega) (hT1.fr m_fr2) hwn ?_ ?_ ?_ ?_ ?_ ?_ (hQ.tr (hf.tr m_fr2))
        · rw [m_up_o hne2, m_up_k, if_pos rfl]; rfl
        · rw [m_up_o hne2, m_up_k, if_neg (by decide)]; exact q2
        · rw [m_up_o hne2, m_up_k, if_neg (by decide)]; exact q3
        · rw [m_up_o hne2, m_up_k, if_neg (by decide)]; exact q4
        · rw [m_up_o hne2, m_up_k, if_neg (by decide)]; exact q5
        · intro j hj
          rw [m_up_k]
          unfold upd
          split
          · exact q2
          · rw [m_up_o hne]; exact q6 j (by omega)
      | some h =>
        obtain ⟨hh, hcnt⟩ := sAt_lt hs
        have hho := hT1.2 h hh hcnt
        rw [hs] at hQ
        dsimp only [eC] at hQ ⊢
        refine s_istore_n (n := 74) dX1_letGo_73 rfl rfl (by decide) rfl rfl ?_
        refine s_iload_n (n := 75) dX1_letGo_74 rfl rfl rfl ?_
        refine s_if_lt (n := 78) (t := 84) dX1_letGo_75 (by decide) rfl (fun h75 => ?_) (fun h75 => ?_)
        · exact absurd h75 (nI_pos (by omega))
        · refine s_aload_n (n := 79) dX1_letGo_78 rfl rfl rfl ?_
          refine s_iload_n (n := 80) dX1_letGo_79 rfl rfl rfl ?_
          refine s_iload_n (n := 81) dX1_letGo_80 rfl rfl rfl ?_
          refine s_cv2 (n := 84) dX1_letGo_81 rfl mo_X1_meet ml_X1_102 (hb0 hk) (by decide) rfl rfl (Nat.le_of_ble_eq_true rfl) (Nat.le_of_ble_eq_true rfl) (c_X1_meet hk h hh rfl (nI i) (by rw [q2]; exact hwn) (fun g2 hf2 v1 vh vn => ?_))
          rw [hho.1, hT1.1.2.2.2.2.2.2.2.2, q2, q3] at vh vn
          have hf3 : m_fr [k + 2, k + 3] g g2 := hf.tr (hf2.mono (by simp))
          have hl3 : g2 (k + 3) = g1 (k + 3) := hf2 _ (by simp)
          dsimp only [m_push]
          refine s_aload_n (n := 85) dX1_letGo_84 rfl rfl rfl ?_
          refine s_getr (k2 := k + 2) (n := 88) dX1_letGo_85 rfl fl_X1_20 rfl (hb0 hk) rfl ?_
          refine s_iload_n (n := 89) dX1_letGo_88 rfl rfl rfl ?_
          refine s_cv1 (n := 92) dX1_letGo_89 rfl mo_X3_reach ml_X1_105 (hb2 hk) (by decide) rfl rfl (Nat.le_of_ble_eq_true rfl) (Nat.le_of_ble_eq_true rfl) (c_X3_reach (hb2 hk) (hb3 hk) i (by omega) rfl ?_)
          dsimp only [m_push]
          refine s_iinc (n := 95) (v := nI (i + 1)) dX1_letGo_92 rfl (by decide) rfl rfl (nI_1 i) rfl ?_
          refine s_goto (t := 14) dX1_letGo_95 (by decide) ?_
          by_cases hH : sHold (t (9 + h)) (bt (t 8) (nI h))
          · rw [if_pos hH] at hQ
            obtain ⟨w2, w3, w4, w5⟩ := vh hH
            refine e14_X1_letGo hk (by rw [m_up_o hne2, m_up_k, if_neg (by decide)]; exact w5) ?_
            rw [m_up_o hne2, m_up_k, if_neg (by decide), w4]
            refine hQ _ (hf3.tr m_fr2) ?_ ?_ ?_
            · intro j hj
              dsimp only at hj
              rw [m_up_k]
              dsimp only [upd]
              split
              · exact w2
              · rw [m_up_o hne, hl3]; exact q6 j (by omega)
            · rw [m_up_o hne2, m_up_k, if_pos rfl]; rfl
            · rw [m_up_o hne2, m_up_k, if_neg (by decide)]; exact w3
          · rw [if_neg hH] at hQ
            obtain ⟨w2, w3, w45⟩ := vn hH
            by_cases hz : sp - sSlow (t (9 + h)) (bt (t 8) (nI h)) ≤ 0
            · rw [if_pos hz] at hQ w45
              obtain ⟨w4, w5⟩ := w45
              refine e14_X1_letGo hk (by rw [m_up_o hne2, m_up_k, if_neg (by decide)]; exact w5) ?_
              rw [m_up_o hne2, m_up_k, if_neg (by decide), w4]
              refine hQ _ (hf3.tr m_fr2) ?_ ?_ ?_
              · intro j hj
                dsimp only at hj
                rw [m_up_k]
                dsimp only [upd]
                split
                · exact w2
                · rw [m_up_o hne, hl3]; exact q6 j (by omega)
              · rw [m_up_o hne2, m_up_k, if_pos rfl]; rfl
              · rw [m_up_o hne2, m_up_k, if_neg (by decide)]; exact w3
            · rw [if_neg hz] at hQ w45
              obtain ⟨w4, w5⟩ := w45
              refine ih (i + 1) _ x1 _ _ _ _ (by omega) (by omega) ((hT.fr hf3).fr m_fr2) (clp_wn _) ?_ ?_ ?_ ?_ ?_ ?_ (hQ.tr (hf3.tr m_fr2))
              · rw [m_up_o hne2, m_up_k, if_pos rfl]; rfl
              · rw [m_up_o hne2, m_up_k, if_neg (by decide)]; exact w2
              · rw [m_up_o hne2, m_up_k, if_neg (by decide)]; exact w3
              · rw [m_up_o hne2, m_up_k, if_neg (by decide), w4]; exact q4
              · rw [m_up_o hne2, m_up_k, if_neg (by decide), w5]; exact q5
              · intro j hj
                rw [m_up_k]
                dsimp only [upd]
                split
                · exact w2
                · rw [m_up_o hne, hl3]; exact q6 j (by omega)
    refine s_iload_n (n := 15) dX1_letGo_14 rfl rfl rfl ?_
    refine s_aload_n (n := 16) dX1_letGo_15 rfl rfl rfl ?_
    refine s_geti (n := 19) dX1_letGo_16 rfl fl_X1_29 rfl (hb0 hk) ?_
    refine s_icmp_gt (n := 22) (t := 98) dX1_letGo_19 (by decide) rfl (fun h19 => ?_) (fun h19 => ?_)
    · refine s_aload_n (n := 99) dX1_letGo_98 rfl rfl rfl ?_
      refine s_getr (k2 := k + 2) (n := 102) dX1_letGo_99 rfl fl_X1_20 rfl (hb0 hk) rfl ?_
      refine s_geti (n := 105) dX1_letGo_102 rfl fl_X1_108 rfl (hb2 hk) ?_
      refine s_ireturn dX1_letGo_105 rfl rfl ?_
      rw [r4]
      unfold sGo at hQ
      rw [if_pos (by rw [← hT.1.1]; exact h19)] at hQ
      exact hQ g m_fr.rf r6 r1 r3
    · have hlt : ¬ t 0 < nI i := by rw [← hT.1.1]; exact h19
      refine s_aload_n (n := 23) dX1_letGo_22 rfl rfl rfl ?_
      refine s_getr (k2 := k + 2) (n := 26) dX1_letGo_23 rfl fl_X1_20 rfl (hb0 hk) rfl ?_
      refine s_geti (n := 29) dX1_letGo_26 rfl fl_X1_90 rfl (hb2 hk) ?_
      refine s_if_ne (n := 32) (t := 98) dX1_letGo_29 (by decide) rfl (fun h29 => ?_) (fun h29 => ?_)
      · rw [r5] at h29
        exact absurd rfl h29
      · refine s_aload_n (n := 33) dX1_letGo_32 rfl rfl rfl ?_
        refine s_geti (n := 36) dX1_letGo_33 rfl fl_X1_45 rfl (hb0 hk) ?_
        refine s_if_le (n := 39) (t := 61) dX1_letGo_36 (by decide) rfl (fun h36 => ?_) (fun h36 => ?_)
        · rw [hT.1.2.2.2.2.2.2.1] at h36
          exact absurd h36 hev
        · refine s_iload_n (n := 40) dX1_letGo_39 rfl rfl rfl ?_
          refine s_aload_n (n := 41) dX1_letGo_40 rfl rfl rfl ?_
          refine s_geti (n := 44) dX1_letGo_41 rfl fl_X1_45 rfl (hb0 hk) ?_
          refine s_irem (n := 45) dX1_letGo_44 rfl (fun q => h36 (by rw [q]; decide)) ?_
          refine s_if_ne (n := 48) (t := 61) dX1_letGo_45 (by decide) rfl (fun h45 => ?_) (fun h45 => ?_)
          · have e6 : g k 8 = t 6 := hT.1.2.2.2.2.2.2.1
            have e5 : g k 7 = t 5 := hT.1.2.2.2.2.2.1
            have hne : k + 3 ≠ k + 2 := by omega
            first
              | (have hst : sSt t i ln = ln := by
                   unfold sSt
                   rw [if_neg]
                   rw [← e6]; exact h45
                 exact b61 g m_fr.rf hlt (by rw [hst]; exact hwn) r1 (by rw [hst]; exact r2) r3 r4 r5 r6)
              | (have hst : sSt t i ln = clp (ln + (t 5 - 1)) := by
                   unfold sSt
                   rw [if_pos]
                   rw [← e6]; exact h45
                 refine b61 _ (m_fr.up (by simp)) hlt (by rw [hst]; exact clp_wn _) ?_ ?_ ?_ ?_ ?_ ?_
                 · rw [m_up_k, if_neg (by decide)]; exact r1
                 · rw [m_up_k, if_pos rfl, hst, r2, e5]
                 · rw [m_up_k, if_neg (by decide)]; exact r3
                 · rw [m_up_k, if_neg (by decide)]; exact r4
                 · rw [m_up_k, if_neg (by decide)]; exact r5
                 · intro j hj; rw [m_up_o hne]; exact r6 j hj)
          · refine s_aload_n (n := 49) dX1_letGo_48 rfl rfl rfl ?_
            refine s_getr (k2 := k + 2) (n := 52) dX1_letGo_49 rfl fl_X1_20 rfl (hb0 hk) rfl ?_
            refine s_aload_n (n := 53) dX1_letGo_52 rfl rfl rfl ?_
            refine s_geti (n := 56) dX1_letGo_53 rfl fl_X1_42 rfl (hb0 hk) ?_
            refine s_iconst (v := 1) (n := 57) dX1_letGo_56 rfl (by decide) ?_
            refine s_isub (n := 58) dX1_letGo_57 rfl ?_
            refine s_cv1 (n := 61) dX1_letGo_58 rfl mo_X3_turn ml_X1_93 (hb2 hk) (by decide) rfl rfl (Nat.le_of_ble_eq_true rfl) (Nat.le_of_ble_eq_true rfl) (c_X3_turn (hb2 hk) _ ?_)
            dsimp only [m_push]
            have e6 : g k 8 = t 6 := hT.1.2.2.2.2.2.2.1
            have e5 : g k 7 = t 5 := hT.1.2.2.2.2.2.1
            have hne : k + 3 ≠ k + 2 := by omega
            first
              | (have hst : sSt t i ln = ln := by
                   unfold sSt
                   rw [if_neg]
                   rw [← e6]; exact h45
                 exact b61 g m_fr.rf hlt (by rw [hst]; exact hwn) r1 (by rw [hst]; exact r2) r3 r4 r5 r6)
              | (have hst : sSt t i ln = clp (ln + (t 5 - 1)) := by
                   unfold sSt
                   rw [if_pos]
                   rw [← e6]; exact h45
                 refine b61 _ (m_fr.up (by simp)) hlt (by rw [hst]; exact clp_wn _) ?_ ?_ ?_ ?_ ?_ ?_
                 · rw [m_up_k, if_neg (by decide)]; exact r1
                 · rw [m_up_k, if_pos rfl, hst, r2, e5]
                 · rw [m_up_k, if_neg (by decide)]; exact r3
                 · rw [m_up_k, if_neg (by decide)]; exact r4
                 · rw [m_up_k, if_neg (by decide)]; exact r5
                 · intro j hj; rw [m_up_o hne]; exact r6 j hj)
theorem c_X1_letGo {SL : Nat} {d : Nat} {Q : Option Int32 → m_G → Prop} {g : m_G} {k : Nat} (hk : m_hb k) {t : m_T} (hT : TW g k t) (hti : t 0 ≤ 9) (hc : t 1 ≤ 6) (hev : ¬ t 6 ≤ 0) (a : Int32) (ha : wn a 0 6) (hQ : sGoPost g k Q (sGo t 9 1 a (t 4) (fun j => if j = 0 then a else -1))) : Sim SL (d + 3) yX1_letGo cX1_letGo 4 (some .int) 0 [.ref k, .int a, .null, .null] [] g Q := by
  refine s_aload_n (n := 1) dX1_letGo_0 rfl rfl rfl ?_
  refine s_getr (k2 := k + 2) (n := 4) dX1_letGo_1 rfl fl_X1_20 rfl (hb0 hk) rfl ?_
  refine s_iload_n (n := 5) dX1_letGo_4 rfl rfl rfl ?_
  refine s_aload_n (n := 6) dX1_letGo_5 rfl rfl rfl ?_
  refine s_geti (n := 9) dX1_letGo_6 rfl fl_X1_39 rfl (hb0 hk) ?_
  refine s_cv2 (n := 12) dX1_letGo_9 rfl mo_X3_begin ml_X1_87 (hb2 hk) (by decide) rfl rfl (Nat.le_of_ble_eq_true rfl) (Nat.le_of_ble_eq_true rfl) (c_X3_begin (hb2 hk) (hb3 hk) _ _ (fun g2 hf v1 v2 v3 v4 v5 v6 => ?_))
  dsimp only [m_push]
  refine s_iconst (v := 1) (n := 13) dX1_letGo_12 rfl (by decide) ?_
  refine s_istore_n (n := 14) dX1_letGo_13 rfl rfl (by decide) rfl rfl ?_
  have hf2 : m_fr [k + 2, k + 3] g g2 := hf
  exact lp_X1_letGo hk hti hc hev 9 1 g2 _ _ a (t 4) _ rfl (by decide) (hT.fr hf2) ha v1 v2 (v3.trans hT.1.2.2.2.2.1) v4 v5 (fun j hj => by rw [show j = 0 by omega]; exact v6) (hQ.tr hf2)
def sTop (t : m_T) (d : Int32) : Int32 := ire (t 2 + t 3 * (t 7 + d)) 7
def sRun (t : m_T) (a : Int32) : Option Nat × (Nat → Int32) × Nat × Int32 := sGo t 9 1 a (t 4) (fun j => if j = 0 then a else -1)
/-- the house at which it rests d years from now -/
def sRest (t : m_T) (d : Int32) : Option Nat := (sRun t (sTop t d)).1
theorem c_X1_restIn {SL : Nat} {d : Nat} {Q : Option Int32 → m_G → Prop} {g : m_G} {k : Nat} (hk : m_hb k) {t : m_T} (hT : TW g k t) (hti : t 0 ≤ 9) (hc : t 1 ≤ 6) (hev : ¬ t 6 ≤ 0) (a : Int32) (ha : wn (sTop t a) 0 6) (hQ : sGoPost g k Q (sRun t (sTop t a))) : Sim SL (d + 4) yX1_restIn cX1_restIn 2 (some .int) 0 [.ref k, .int a] [] g Q := by
  refine s_aload_n (n := 1) dX1_restIn_0 rfl rfl rfl ?_
  refine s_aload_n (n := 2) dX1_restIn_1 rfl rfl rfl ?_
  refine s_iload_n (n := 3) dX1_restIn_2 rfl rfl rfl ?_
  refine s_cv1 (n := 6) dX1_restIn_3 rfl mo_X1_topLine ml_X1_80 (hb0 hk) (by decide) rfl rfl (Nat.le_of_ble_eq_true rfl) (Nat.le_of_ble_eq_true rfl) (c_X1_topLine hk _ ?_)
  dsimp only [m_push]
  rw [hT.1.2.2.1, hT.1.2.2.2.1, hT.1.2.2.2.2.2.2.2.1]
  have hK : sGoPost g k (fun r g2 => Sim SL (d + 3 + 1) yX1_restIn cX1_restIn 2 (some .int) 9 [.ref k, .int a] (m_push r []) g2 Q) (sRun t (sTop t a)) := by
    intro g2 w1 w2 w3 w4
    refine s_ireturn dX1_restIn_9 rfl rfl ?_
    exact hQ g2 w1 w2 w3 w4
  exact s_cv1 (n := 9) dX1_restIn_6 rfl mo_X1_letGo ml_X1_84 (hb0 hk) (by decide) rfl rfl (Nat.le_of_ble_eq_true rfl) (Nat.le_of_ble_eq_true rfl) (c_X1_letGo hk hT hti hc hev _ ha hK)
  
