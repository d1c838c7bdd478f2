theorem M_copy {SL : Nat} {d : Nat} {Q : Option Int32 → m_G → Prop} {g : m_G} {a : a_S} (hA : a_OK a) (hM : M_R g a) (x i y j n : Int32) (hQ : E_M g a Q (sp_copy a x i y j n)) : Sim SL (d + 3) yX9_copy cX9_copy 9 (some .int) 0 [.ref 78, .int x, .int i, .int y, .int j, .int n, .null, .null, .null] [] g Q := by
  unfold E_M sp_copy at hQ
  refine s_iload_n (n := 1) dX9_copy_0 rfl rfl rfl ?_
  refine s_cs1 (n := 4) dX9_copy_1 rfl mo_X9_isRow ml_X9_64 rfl (Nat.le_of_ble_eq_true rfl) (Nat.le_of_ble_eq_true rfl) (c_X9_isRow _ (fun hb1 => ?_) (fun hb1 => ?_))
  · dsimp only [m_push]
    refine s_if_eq (n := 7) (t := 14) dX9_copy_4 (by decide) rfl (fun h => absurd h (by decide)) (fun _ => ?_)
    refine s_iload_n (n := 8) dX9_copy_7 rfl rfl rfl ?_
    refine s_cs1 (n := 11) dX9_copy_8 rfl mo_X9_isRow ml_X9_64 rfl (Nat.le_of_ble_eq_true rfl) (Nat.le_of_ble_eq_true rfl) (c_X9_isRow _ (fun hb8 => ?_) (fun hb8 => ?_))
    · dsimp only [m_push]
      refine s_if_ne (n := 14) (t := 17) dX9_copy_11 (by decide) rfl (fun _ => ?_) (fun h => absurd h (by decide))
      obtain ⟨jx, hjx, rfl⟩ := wn_ex (n := 7) hb1 rfl
      replace hjx : jx < 8 := by omega
      obtain ⟨jy, hjy, rfl⟩ := wn_ex (n := 7) hb8 rfl
      replace hjy : jy < 8 := by omega
      have hw := hM.1 jx hjx
      have hv := hM.1 jy hjy
      simp only [if_pos hb1, if_pos hb8, nI_clamp (show jx < 2 ^ 31 by omega), nI_clamp (show jy < 2 ^ 31 by omega)] at hQ
      generalize hx : a_rows a jx = x at hQ hw
      generalize hy : a_rows a jy = y at hQ hv
      refine s_aload_n (n := 18) dX9_copy_17 rfl rfl rfl ?_
      refine s_getr (k2 := 82) (n := 21) dX9_copy_18 rfl fl_X9_20 rfl rfl rfl ?_
      refine s_iload_n (n := 22) dX9_copy_21 rfl rfl rfl ?_
      refine s_iaload jx (n := 23) dX9_copy_22 rfl rfl rfl hjx ?_
      refine s_if_lt (n := 26) (t := 35) dX9_copy_23 (by decide) rfl (fun h23 => ?_) (fun h23 => ?_)
      · refine s_aload_n (n := 36) dX9_copy_35 rfl rfl rfl ?_
        refine s_iconst (v := 1) (n := 37) dX9_copy_36 rfl (by decide) ?_
        refine s_cv1 (n := 40) dX9_copy_37 rfl mo_X9_find ml_X9_71 rfl (by decide) rfl rfl (Nat.le_of_ble_eq_true rfl) (Nat.le_of_ble_eq_true rfl) (c_X9_find _ ?_)
        dsimp only [m_push]
        refine s_ireturn dX9_copy_40 rfl rfl ?_
        first
        | (cases x with
           | none =>
             dsimp only at hQ
             rw [show (-1000010 : Int32) - 1 = -1000011 from by decide]
             exact hQ _ (hM.find _) ((m_fr.up (S := [78]) (by simp)).FM (by decide))
           | some q => exact absurd h23 (by rw [hw.1]; exact nI_pos (by have := hw.2.2.1; omega)))
        | (cases y with
           | none =>
             cases x <;> (dsimp only at hQ; rw [show (-1000010 : Int32) - 1 = -1000011 from by decide]; exact hQ _ (hM.find _) ((m_fr.up (S := [78]) (by simp)).FM (by decide)))
           | some q => exact absurd (by rw [hv.1]; exact nI_pos' (by have := hv.2.2.1; omega)) h32)
      · refine s_aload_n (n := 27) dX9_copy_26 rfl rfl rfl ?_
        refine s_getr (k2 := 82) (n := 30) dX9_copy_27 rfl fl_X9_20 rfl rfl rfl ?_
        refine s_iload_n (n := 31) dX9_copy_30 rfl rfl rfl ?_
        refine s_iaload jy (n := 32) dX9_copy_31 rfl rfl rfl hjy ?_
        refine s_if_ge (n := 35) (t := 41) dX9_copy_32 (by decide) rfl (fun h32 => ?_) (fun h32 => ?_)
        · obtain ⟨p, rfl⟩ : ∃ p, x = some p := by
            cases x with
            | none => exact absurd (by rw [show g 82 jx = -1 from hw]; decide) h23
            | some p => exact ⟨p, rfl⟩
          obtain ⟨q, rfl⟩ : ∃ q, y = some q := by
            cases y with
            | none => exact absurd h32 (by rw [show g 82 jy = -1 from hv]; decide)
            | some p => exact ⟨p, rfl⟩
          obtain ⟨w1, w2, w3, w4⟩ := hw
          obtain ⟨v1, v2, v3, v4⟩ := hv
          dsimp only at hQ
          rw [← w2, ← v2] at hQ
          refine s_aload_n (n := 42) dX9_copy_41 rfl rfl rfl ?_
          refine s_getr (k2 := 81) (n := 45) dX9_copy_42 rfl fl_X9_17 rfl rfl rfl ?_
          refine s_iload_n (n := 46) dX9_copy_45 rfl rfl rfl ?_
          refine s_iaload jx (n := 47) dX9_copy_46 rfl rfl rfl hjx ?_
          refine s_aload_n (n := 48) dX9_copy_47 rfl rfl rfl ?_
          refine s_getr (k2 := 81) (n := 51) dX9_copy_48 rfl fl_X9_17 rfl rfl rfl ?_
          refine s_iload_n (n := 52) dX9_copy_51 rfl rfl rfl ?_
          refine s_iaload jy (n := 53) dX9_copy_52 rfl rfl rfl hjy ?_
          refine s_icmp_eq (n := 56) (t := 62) dX9_copy_53 (by decide) rfl (fun h53 => ?_) (fun h53 => ?_)
          · refine s_aload_n (n := 63) dX9_copy_62 rfl rfl rfl ?_
            refine s_iload_n (n := 64) dX9_copy_63 rfl rfl rfl ?_
            refine s_iload_n (n := 65) dX9_copy_64 rfl rfl rfl ?_
            refine s_iload (n := 67) dX9_copy_65 rfl rfl ?_
            refine s_cv3 (n := 70) dX9_copy_67 rfl mo_X9_isSpan ml_X9_82 rfl (by decide) rfl rfl (Nat.le_of_ble_eq_true rfl) (Nat.le_of_ble_eq_true rfl) (c_X9_isSpan hjx w1 w3 _ _ (fun hb67 => ?_) (fun hb67 => ?_))
            · dsimp only [m_push]
              refine s_if_eq (n := 73) (t := 85) dX9_copy_70 (by decide) rfl (fun h => absurd h (by decide)) (fun _ => ?_)
              refine s_aload_n (n := 74) dX9_copy_73 rfl rfl rfl ?_
              refine s_iload_n (n := 75) dX9_copy_74 rfl rfl rfl ?_
              refine s_iload (n := 77) dX9_copy_75 rfl rfl ?_
              refine s_iload (n := 79) dX9_copy_77 rfl rfl ?_
              refine s_cv3 (n := 82) dX9_copy_79 rfl mo_X9_isSpan ml_X9_82 rfl (by decide) rfl rfl (Nat.le_of_ble_eq_true rfl) (Nat.le_of_ble_eq_true rfl) (c_X9_isSpan hjy v1 v3 _ _ (fun hb79 => ?_) (fun hb79 => ?_))
              · dsimp only [m_push]
                refine s_if_ne (n := 85) (t := 91) dX9_copy_82 (by decide) rfl (fun _ => ?_) (fun h => absurd h (by decide))
                obtain ⟨ii, nn, rfl, rfl, hin⟩ := rchN w3 hb67
                obtain ⟨jj, nn2, rfl, hnn2, hjn⟩ := rchN v3 hb79
                rw [nI_eq (by omega) (by omega)] at hnn2
                subst hnn2
                clear hx hy
                refine s_iload_n (n := 92) dX9_copy_91 rfl rfl rfl ?_
                refine s_iload (n := 94) dX9_copy_92 rfl rfl ?_
                refine s_icmp_ge (n := 97) (t := 101) dX9_copy_94 (by decide) rfl (fun h94 => ?_) (fun h94 => ?_)
                · have hlt : ¬ ii < jj := fun q => absurd h94 (nI_ge q (by omega))
                  refine s_iconst (v := 0) (n := 102) dX9_copy_101 rfl (by decide) ?_
                  refine s_istore (n := 104) dX9_copy_102 rfl (by decide) rfl rfl ?_
                  refine s_iconst (v := 0) (n := 105) dX9_copy_104 rfl (by decide) ?_
                  refine s_istore (n := 107) dX9_copy_105 rfl (by decide) rfl rfl ?_
                  refine lp_X9_copy (bk := 0) g hjx hjy (by omega) (by omega) (Or.inl rfl) (fun _ at_ c h1 h2 => by omega) (fun q => absurd q (by decide)) nn 0 g .null (by omega) ?_ ?_ (fun g2 hf s6 s7 x8 => ?_)
                  · intro q hq; exact absurd (cp0.mp hq) (by omega)
                  · intro q hq; rfl
                  · have hcp : ∀ q, q < nn → cp_in 0 nn nn q := fun q hq => cp0.mpr (by omega)
                    refine s_aload_n (n := 169) dX9_copy_168 rfl rfl rfl ?_
                    refine s_iload (n := 171) dX9_copy_169 rfl rfl ?_
                    refine s_cv1 (n := 174) dX9_copy_171 rfl mo_X9_well ml_X9_75 rfl (by decide) rfl rfl (Nat.le_of_ble_eq_true rfl) (Nat.le_of_ble_eq_true rfl) (c_X9_well _ ?_)
                    dsimp only [m_push]
                    refine s_ireturn dX9_copy_174 rfl rfl ?_
                    rw [if_pos h53, if_pos hb67, if_pos hb79, nI_clamp (show ii < 2 ^ 31 by omega), nI_clamp (show jj < 2 ^ 31 by omega), nI_clamp (show nn < 2 ^ 31 by omega)] at hQ
                    have hf2 : m_fr [81, 82, 83] g g2 := hf.mono (by simp)
                    have e81 : g2 81 = g 81 := hf 81 (by decide)
                    have e82 : g2 82 = g 82 := hf 82 (by decide)
                    refine hQ _ ((hM.row hjy hf2 ?_ ?_).find 0) ((hf2.FM (by decide)).tr ((m_fr.up (S := [78]) (by simp)).FM (by decide)))
                    · intro r hr
                      refine ⟨by rw [e81], by rw [e82], fun i hi => ?_⟩
                      exact s7 _ (fun c hc1 hc2 => by omega)
                    · refine ⟨by rw [e82]; exact v1, by rw [e81], v3, fun i hi => ?_⟩
                      dsimp only [va_cpy]
                      split
                      · rename_i hin2
                        have := s6 (i - jj) (hcp _ (by omega))
                        rw [show 40 * jy + jj + (i - jj) = 40 * jy + i by omega] at this
                        rw [this, ← w4 _ (by omega), Nat.add_assoc]
                      · rw [s7 _ (fun c hc1 hc2 => by omega)]
                        exact v4 i hi
                · have hlt : ii < jj := by
                    rcases Nat.lt_or_ge ii jj with q | q
                    · exact q
                    · exact absurd (nI_le q (by omega)) h94
                  refine s_iconst (v := 1) (n := 98) dX9_copy_97 rfl (by decide) ?_
                  refine s_goto (t := 102) dX9_copy_98 (by decide) ?_
                  refine s_istore (n := 104) dX9_copy_102 rfl (by decide) rfl rfl ?_
                  refine s_iconst (v := 0) (n := 105) dX9_copy_104 rfl (by decide) ?_
                  refine s_istore (n := 107) dX9_copy_105 rfl (by decide) rfl rfl ?_
                  refine lp_X9_copy (bk := 1) g hjx hjy (by omega) (by omega) (Or.inr rfl) (fun q => absurd q (by decide)) (fun _ at_ c h1 h2 => by omega) nn 0 g .null (by omega) ?_ ?_ (fun g2 hf s6 s7 x8 => ?_)
                  · intro q hq; exact absurd (cp1.mp hq) (by omega)
                  · intro q hq; rfl
                  · have hcp : ∀ q, q < nn → cp_in 1 nn nn q := fun q hq => cp1.mpr (by omega)
                    refine s_aload_n (n := 169) dX9_copy_168 rfl rfl rfl ?_
                    refine s_iload (n := 171) dX9_copy_169 rfl rfl ?_
                    refine s_cv1 (n := 174) dX9_copy_171 rfl mo_X9_well ml_X9_75 rfl (by decide) rfl rfl (Nat.le_of_ble_eq_true rfl) (Nat.le_of_ble_eq_true rfl) (c_X9_well _ ?_)
                    dsimp only [m_push]
                    refine s_ireturn dX9_copy_174 rfl rfl ?_
                    rw [if_pos h53, if_pos hb67, if_pos hb79, nI_clamp (show ii < 2 ^ 31 by omega), nI_clamp (show jj < 2 ^ 31 by omega), nI_clamp (show nn < 2 ^ 31 by omega)] at hQ
                    have hf2 : m_fr [81, 82, 83] g g2 := hf.mono (by simp)
                    have e81 : g2 81 = g 81 := hf 81 (by decide)
                    have e82 : g2 82 = g 82 := hf 82 (by decide)
                    refine hQ _ ((hM.row hjy hf2 ?_ ?_).find 0) ((hf2.FM (by decide)).tr ((m_fr.up (S := [78]) (by simp)).FM (by decide)))
                    · intro r hr
                      refine ⟨by rw [e81], by rw [e82], fun i hi => ?_⟩
                      exact s7 _ (fun c hc1 hc2 => by omega)
                    · refine ⟨by rw [e82]; exact v1, by rw [e81], v3, fun i hi => ?_⟩
                      dsimp only [va_cpy]
                      split
                      · rename_i hin2
                        have := s6 (i - jj) (hcp _ (by omega))
                        rw [show 40 * jy + jj + (i - jj) = 40 * jy + i by omega] at this
                        rw [this, ← w4 _ (by omega), Nat.add_assoc]
                      · rw [s7 _ (fun c hc1 hc2 => by omega)]
                        exact v4 i hi
              · dsimp only [m_push]
                refine s_if_ne (n := 85) (t := 91) dX9_copy_82 (by decide) rfl (fun h => absurd h (by decide)) (fun _ => ?_)
                refine s_aload_n (n := 86) dX9_copy_85 rfl rfl rfl ?_
                refine s_iconst (v := 2) (n := 87) dX9_copy_86 rfl (by decide) ?_
                refine s_cv1 (n := 90) dX9_copy_87 rfl mo_X9_find ml_X9_71 rfl (by decide) rfl rfl (Nat.le_of_ble_eq_true rfl) (Nat.le_of_ble_eq_true rfl) (c_X9_find _ ?_)
                dsimp only [m_push]
                refine s_ireturn dX9_copy_90 rfl rfl ?_
                rw [if_pos h53] at hQ
                first
                | (rw [if_neg hb67] at hQ; rw [show (-1000010 : Int32) - 2 = -1000012 from by decide]; exact hQ _ (hM.find _) ((m_fr.up (S := [78]) (by simp)).FM (by decide)))
                | (rw [if_pos hb67, if_neg hb79] at hQ; rw [show (-1000010 : Int32) - 2 = -1000012 from by decide]; exact hQ _ (hM.find _) ((m_fr.up (S := [78]) (by simp)).FM (by decide)))
            · dsimp only [m_push]
              refine s_if_eq (n := 73) (t := 85) dX9_copy_70 (by decide) rfl (fun _ => ?_) (fun h => absurd h (by decide))
              refine s_aload_n (n := 86) dX9_copy_85 rfl rfl rfl ?_
              refine s_iconst (v := 2) (n := 87) dX9_copy_86 rfl (by decide) ?_
              refine s_cv1 (n := 90) dX9_copy_87 rfl mo_X9_find ml_X9_71 rfl (by decide) rfl rfl (Nat.le_of_ble_eq_true rfl) (Nat.le_of_ble_eq_true rfl) (c_X9_find _ ?_)
              dsimp only [m_push]
              refine s_ireturn dX9_copy_90 rfl rfl ?_
              rw [if_pos h53] at hQ
              first
              | (rw [if_neg hb67] at hQ; rw [show (-1000010 : Int32) - 2 = -1000012 from by decide]; exact hQ _ (hM.find _) ((m_fr.up (S := [78]) (by simp)).FM (by decide)))
              | (rw [if_pos hb67, if_neg hb79] at hQ; rw [show (-1000010 : Int32) - 2 = -1000012 from by decide]; exact hQ _ (hM.find _) ((m_fr.up (S := [78]) (by simp)).FM (by decide)))
          · refine s_aload_n (n := 57) dX9_copy_56 rfl rfl rfl ?_
            refine s_iconst (v := 5) (n := 58) dX9_copy_57 rfl (by decide) ?_
            refine s_cv1 (n := 61) dX9_copy_58 rfl mo_X9_find ml_X9_71 rfl (by decide) rfl rfl (Nat.le_of_ble_eq_true rfl) (Nat.le_of_ble_eq_true rfl) (c_X9_find _ ?_)
            dsimp only [m_push]
            refine s_ireturn dX9_copy_61 rfl rfl ?_
            rw [if_neg h53] at hQ
            rw [show (-1000010 : Int32) - 5 = -1000015 from by decide]
            exact hQ _ (hM.find _) ((m_fr.up (S := [78]) (by simp)).FM (by decide))
        · refine s_aload_n (n := 36) dX9_copy_35 rfl rfl rfl ?_
          refine s_iconst (v := 1) (n := 37) dX9_copy_36 rfl (by decide) ?_
          refine s_cv1 (n := 40) dX9_copy_37 rfl mo_X9_find ml_X9_71 rfl (by decide) rfl rfl (Nat.le_of_ble_eq_true rfl) (Nat.le_of_ble_eq_true rfl) (c_X9_find _ ?_)
          dsimp only [m_push]
          refine s_ireturn dX9_copy_40 rfl rfl ?_
          first
          | (cases x with
             | none =>
               dsimp only at hQ
               rw [show (-1000010 : Int32) - 1 = -1000011 from by decide]
               exact hQ _ (hM.find _) ((m_fr.up (S := [78]) (by simp)).FM (by decide))
             | some q => exact absurd h23 (by rw [hw.1]; exact nI_pos (by have := hw.2.2.1; omega)))
          | (cases y with
             | none =>
               cases x <;> (dsimp only at hQ; rw [show (-1000010 : Int32) - 1 = -1000011 from by decide]; exact hQ _ (hM.find _) ((m_fr.up (S := [78]) (by simp)).FM (by decide)))
             | some q => exact absurd (by rw [hv.1]; exact nI_pos' (by have := hv.2.2.1; omega)) h32)
    · dsimp only [m_push]
      refine s_if_ne (n := 14) (t := 17) dX9_copy_11 (by decide) rfl (fun h => absurd h (by decide)) (fun _ => ?_)
      refine s_ldc (n := 16) dX9_copy_14 rfl kc_X9_70 ?_
      refine s_ireturn dX9_copy_16 rfl rfl ?_
      simp only [if_pos hb1, if_neg hb8] at hQ
      exact hQ g hM F_M.rf
  · dsimp only [m_push]
    refine s_if_eq (n := 7) (t := 14) dX9_copy_4 (by decide) rfl (fun _ => ?_) (fun h => absurd h (by decide))
    refine s_ldc (n := 16) dX9_copy_14 rfl kc_X9_70 ?_
    refine s_ireturn dX9_copy_16 rfl rfl ?_
    simp only [if_neg hb1] at hQ
    exact hQ g hM F_M.rf
def sp_feed (a : a_S) (x : Int32) : Int32 × a_S := if wn x 0 255 then (if (a_tape a).1 = 100 then (-1000003, a) else (nI ((a_tape a).1 + 1), u_tape a ((a_tape a).1 + 1, upd (a_tape a).2 (a_tape a).1 x))) else (-1000001, a)
theorem c_X6_append {SL : Nat} {d : Nat} {Q : Option Int32 → m_G → Prop} {g : m_G} {n : Nat} (hn : g 18 1 = nI n) (hn1 : n ≤ 100) (x : Int32) (k0 : n = 100 → Q (some 0) g) (k1 : n < 100 → Q (some 1) (m_up (m_up g 19 n x) 18 1 (nI (n + 1)))) : Sim SL d yX6_append cX6_append 2 (some .boolean) 0 [.ref 18, .int x] [] g Q := by
  refine s_aload_n (n := 1) dX6_append_0 rfl rfl rfl ?_
  refine s_geti (n := 4) dX6_append_1 rfl fl_X6_15 rfl rfl ?_
  rw [hn]
  refine s_bipush (v := 100) (n := 6) dX6_append_4 rfl (by decide) ?_
  refine s_icmp_lt (n := 9) (t := 11) dX6_append_6 (by decide) rfl (fun h6 => ?_) (fun h6 => ?_)
  · have hlt : n < 100 := by
      rcases Nat.lt_or_ge n 100 with q | q
      · exact q
      · exact absurd h6 (nI_nlt q (by omega))
    refine s_aload_n (n := 12) dX6_append_11 rfl rfl rfl ?_
    refine s_getr (k2 := 19) (n := 15) dX6_append_12 rfl fl_X6_9 rfl rfl rfl ?_
    refine s_aload_n (n := 16) dX6_append_15 rfl rfl rfl ?_
    refine s_geti (n := 19) dX6_append_16 rfl fl_X6_15 rfl rfl ?_
    rw [hn]
    refine s_iload_n (n := 20) dX6_append_19 rfl rfl rfl ?_
    refine s_iastore n (n := 21) dX6_append_20 rfl rfl rfl (by omega) ?_
    refine s_aload_n (n := 22) dX6_append_21 rfl rfl rfl ?_
    refine s_dup (n := 23) dX6_append_22 rfl rfl ?_
    refine s_geti (n := 26) dX6_append_23 rfl fl_X6_15 rfl rfl ?_
    refine s_iconst (v := 1) (n := 27) dX6_append_26 rfl (by decide) ?_
    refine s_iadd (n := 28) dX6_append_27 rfl ?_
    refine s_puti (n := 31) dX6_append_28 rfl fl_X6_15 rfl rfl rfl ?_
    refine s_iconst (v := 1) (n := 32) dX6_append_31 rfl (by decide) ?_
    refine s_ireturn dX6_append_32 rfl (by decide +kernel) ?_
    rw [m_up_o (by decide), hn, nI_1]
    exact k1 hlt
  · refine s_iconst (v := 0) (n := 10) dX6_append_9 rfl (by decide) ?_
    refine s_ireturn dX6_append_10 rfl (by decide +kernel) ?_
    refine k0 ?_
    rcases Nat.lt_or_ge n 100 with q | q
    · exact absurd (nI_lt q (by decide)) h6
    · omega
theorem C_feed {SL : Nat} {d : Nat} {Q : Option Int32 → m_G → Prop} {g : m_G} {a : a_S} (hA : a_OK a) (hC : C_R g a) (x : Int32) (hQ : E_C g a Q (sp_feed a x)) : Sim SL (d + 1) yX8_feed cX8_feed 2 (some .int) 0 [.ref 0, .int x] [] g Q := by
  unfold E_C sp_feed at hQ
  refine s_iload_n (n := 1) dX8_feed_0 rfl rfl rfl ?_
  refine s_iconst (v := 0) (n := 2) dX8_feed_1 rfl (by decide) ?_
  refine s_sipush (v := 255) (n := 5) dX8_feed_2 rfl (by decide) ?_
  refine s_cs3 (n := 8) dX8_feed_5 rfl mo_X8_within ml_X8_62 rfl (Nat.le_of_ble_eq_true rfl) (Nat.le_of_ble_eq_true rfl) (c_X8_within _ _ _ (fun hb5 => ?_) (fun hb5 => ?_))
  · dsimp only [m_push]
    refine s_if_ne (n := 11) (t := 14) dX8_feed_8 (by decide) rfl (fun _ => ?_) (fun h => absurd h (by decide))
    refine s_aload_n (n := 15) dX8_feed_14 rfl rfl rfl ?_
    refine s_getr (k2 := 18) (n := 18) dX8_feed_15 rfl fl_X8_18 rfl rfl rfl ?_
    refine s_iload_n (n := 19) dX8_feed_18 rfl rfl rfl ?_
    refine s_cv1 (n := 22) dX8_feed_19 rfl mo_X6_append ml_X8_106 rfl (by decide) rfl rfl (Nat.le_of_ble_eq_true rfl) (Nat.le_of_ble_eq_true rfl) (c_X6_append hC.2.1.1 hC.2.1.2.1 _ (fun hn => ?_) (fun hn => ?_))
    · dsimp only [m_push]
      refine s_if_eq (n := 25) (t := 35) dX8_feed_22 (by decide) rfl (fun _ => ?_) (fun h => absurd h (by decide))
      refine s_ldc (n := 37) dX8_feed_35 rfl kc_X8_110 ?_
      refine s_ireturn dX8_feed_37 rfl rfl ?_
      simp only [if_pos hb5, if_pos hn] at hQ
      exact hQ g hC F_C.rf
    · dsimp only [m_push]
      refine s_if_eq (n := 25) (t := 35) dX8_feed_22 (by decide) rfl (fun h => absurd h (by decide)) (fun _ => ?_)
      refine s_aload_n (n := 26) dX8_feed_25 rfl rfl rfl ?_
      refine s_getr (k2 := 18) (n := 29) dX8_feed_26 rfl fl_X8_18 rfl rfl rfl ?_
      refine s_geti (n := 32) dX8_feed_29 rfl fl_X8_109 rfl rfl ?_
      refine s_goto (t := 37) dX8_feed_32 (by decide) ?_
      refine s_ireturn dX8_feed_37 rfl rfl ?_
      simp only [if_pos hb5, if_neg (show ¬ (a_tape a).1 = 100 by omega)] at hQ
      rw [m_up_k, if_pos rfl]
      have hf : m_fr [18, 19] g (m_up (m_up g 19 (a_tape a).1 x) 18 1 (nI ((a_tape a).1 + 1))) := (m_fr.up (by simp)).up2 (by simp)
      refine hQ _ ⟨hC.c1 hf (by decide), ⟨?_, ?_, ?_⟩, hC.c3 hf (by decide), hC.c4 hf (by decide), hC.c5 hf (by decide), hC.c6 hf (by decide), hC.c7 hf (by decide)⟩ (hf.FC (by decide))
      · rw [m_up_k, if_pos rfl]; rfl
      · show (a_tape a).1 + 1 ≤ 100
        omega
      · intro i hi
        replace hi : i < (a_tape a).1 + 1 := hi
        show _ = upd (a_tape a).2 (a_tape a).1 x i
        rw [m_up_o (by decide), m_up_k]
        unfold upd
        split
        · rfl
        · exact hC.2.1.2.2 i (by omega)
  · dsimp only [m_push]
    refine s_if_ne (n := 11) (t := 14) dX8_feed_8 (by decide) rfl (fun h => absurd h (by decide)) (fun _ => ?_)
    refine s_ldc (n := 13) dX8_feed_11 rfl kc_X8_66 ?_
    refine s_ireturn dX8_feed_13 rfl rfl ?_
    simp only [if_neg hb5] at hQ
    exact hQ g hC F_C.rf
theorem M_feed {SL : Nat} {d : Nat} {Q : Option Int32 → m_G → Prop} {g : m_G} {a : a_S} (hA : a_OK a) (hM : M_R g a) (x : Int32) (hQ : E_M g a Q (sp_feed a x)) : Sim SL (d + 1) yX9_feed cX9_feed 2 (some .int) 0 [.ref 78, .int x] [] g Q := by
  unfold E_M sp_feed at hQ
  refine s_iload_n (n := 1) dX9_feed_0 rfl rfl rfl ?_
  refine s_i2l (n := 2) dX9_feed_1 rfl ?_
  refine s_lconst (v := 0) (n := 3) dX9_feed_2 rfl (by decide) ?_
  refine s_ldc2 (n := 6) dX9_feed_3 rfl kc_X9_86 ?_
  refine s_cs3 (n := 9) dX9_feed_6 rfl mo_X9_in ml_X9_60 rfl (Nat.le_of_ble_eq_true rfl) (Nat.le_of_ble_eq_true rfl) (c_X9_in (0) (255) rfl (by decide) (by decide) (fun hb6 => ?_) (fun hb6 => ?_))
  · dsimp only [m_push]
    refine s_if_ne (n := 12) (t := 15) dX9_feed_9 (by decide) rfl (fun _ => ?_) (fun h => absurd h (by decide))
    refine s_aload_n (n := 16) dX9_feed_15 rfl rfl rfl ?_
    refine s_geti (n := 19) dX9_feed_16 rfl fl_X9_88 rfl rfl ?_
    rw [hM.2.1.1]
    refine s_bipush (v := 100) (n := 21) dX9_feed_19 rfl (by decide) ?_
    refine s_icmp_ne (n := 24) (t := 27) dX9_feed_21 (by decide) rfl (fun h21 => ?_) (fun h21 => ?_)
    · have hn : ¬ (a_tape a).1 = 100 := fun q => h21 (by rw [q]; rfl)
      have hn2 := hM.2.1.2.1
      refine s_aload_n (n := 28) dX9_feed_27 rfl rfl rfl ?_
      refine s_getr (k2 := 84) (n := 31) dX9_feed_28 rfl fl_X9_26 rfl rfl rfl ?_
      refine s_aload_n (n := 32) dX9_feed_31 rfl rfl rfl ?_
      refine s_geti (n := 35) dX9_feed_32 rfl fl_X9_88 rfl rfl ?_
      rw [hM.2.1.1]
      refine s_iload_n (n := 36) dX9_feed_35 rfl rfl rfl ?_
      refine s_iastore (a_tape a).1 (n := 37) dX9_feed_36 rfl rfl rfl (by omega) ?_
      refine s_aload_n (n := 38) dX9_feed_37 rfl rfl rfl ?_
      refine s_dup (n := 39) dX9_feed_38 rfl rfl ?_
      refine s_geti (n := 42) dX9_feed_39 rfl fl_X9_88 rfl rfl ?_
      refine s_iconst (v := 1) (n := 43) dX9_feed_42 rfl (by decide) ?_
      refine s_iadd (n := 44) dX9_feed_43 rfl ?_
      refine s_puti (n := 47) dX9_feed_44 rfl fl_X9_88 rfl rfl rfl ?_
      refine s_aload_n (n := 48) dX9_feed_47 rfl rfl rfl ?_
      refine s_geti (n := 51) dX9_feed_48 rfl fl_X9_88 rfl rfl ?_
      refine s_ireturn dX9_feed_51 rfl rfl ?_
      simp only [if_pos hb6, if_neg hn] at hQ
      rw [m_up_k, if_pos rfl, m_up_o (by decide), hM.2.1.1, nI_1]
      have hf : m_fr [78, 84] g (m_up (m_up g 84 (a_tape a).1 x) 78 8 (nI ((a_tape a).1 + 1))) := (m_fr.up (by simp)).up2 (by simp)
      have e : ∀ j, j ≠ 8 → (m_up (m_up g 84 (a_tape a).1 x) 78 8 (nI ((a_tape a).1 + 1))) 78 j = g 78 j := fun j hj => by rw [m_up_k, if_neg hj, m_up_o (by decide)]
      have e9 := hf 79 (by decide)
      refine hQ _ ⟨hM.c1 hf (by decide), ⟨?_, ?_, ?_⟩, hM.c3 (e _ (by decide)) (fun _ _ => by rw [e9]), hM.c4 (e _ (by decide)) (fun _ _ _ => by rw [e9]), hM.c5 hf (by decide) (fun _ _ _ => by rw [e9]), hM.c6 (e _ (by decide)) (e _ (by decide)), hM.c7 hf (by decide) (e _ (by decide))⟩ (hf.FM (by decide))
      · rw [m_up_k, if_pos rfl]; rfl
      · show (a_tape a).1 + 1 ≤ 100
        omega
      · intro i hi
        replace hi : i < (a_tape a).1 + 1 := hi
        show _ = upd (a_tape a).2 (a_tape a).1 x i
        rw [m_up_o (by decide), m_up_k]
        unfold upd
        split
        · rfl
        · exact hM.2.1.2.2 i (by omega)
    · refine s_ldc (n := 26) dX9_feed_24 rfl kc_X9_91 ?_
      refine s_ireturn dX9_feed_26 rfl rfl ?_
      have hn : (a_tape a).1 = 100 := by
        have := hM.2.1.2.1
        exact (nI_eq (by omega) (by decide)).mp h21
      simp only [if_pos hb6, if_pos hn] at hQ
      exact hQ g hM F_M.rf
  · dsimp only [m_push]
    refine s_if_ne (n := 12) (t := 15) dX9_feed_9 (by decide) rfl (fun h => absurd h (by decide)) (fun _ => ?_)
    refine s_ldc (n := 14) dX9_feed_12 rfl kc_X9_70 ?_
    refine s_ireturn dX9_feed_14 rfl rfl ?_
    simp only [if_neg hb6] at hQ
    exact hQ g hM F_M.rf
def sp_fault (a : a_S) : Int32 × a_S := (a_fault a, a)
def sp_status (a : a_S) : Int32 × a_S := (a_find a, a)
theorem C_fault {SL d : Nat} {Q : Option Int32 → m_G → Prop} {g : m_G} {a : a_S} (hA : a_OK a) (hC : C_R g a) (hQ : E_C g a Q (sp_fault a)) : Sim SL d yX8_fault cX8_fault 1 (some .int) 0 [.ref 0] [] g Q := c_X8_fault (by rw [hC.2.2.2.2.2.1.1]; exact hQ g hC F_C.rf)
theorem M_fault {SL d : Nat} {Q : Option Int32 → m_G → Prop} {g : m_G} {a : a_S} (hA : a_OK a) (hM : M_R g a) (hQ : E_M g a Q (sp_fault a)) : Sim SL d yX9_fault cX9_fault 1 (some .int) 0 [.ref 78] [] g Q := c_X9_fault (by rw [hM.2.2.2.2.2.1.1]; exact hQ g hM F_M.rf)
theorem C_status {SL d : Nat} {Q : Option Int32 → m_G → Prop} {g : m_G} {a : a_S} (hA : a_OK a) (hC : C_R g a) (hQ : E_C g a Q (sp_status a)) : Sim SL d yX8_status cX8_status 1 (some .int) 0 [.ref 0] [] g Q := c_X8_status (by rw [hC.2.2.2.2.2.1.2]; exact hQ g hC F_C.rf)
theorem M_status {SL d : Nat} {Q : Option Int32 → m_G → Prop} {g : m_G} {a : a_S} (hA : a_OK a) (hM : M_R g a) (hQ : E_M g a Q (sp_status a)) : Sim SL d yX9_status cX9_status 1 (some .int) 0 [.ref 78] [] g Q := c_X9_status (by rw [hM.2.2.2.2.2.1.2]; exact hQ g hM F_M.rf)
