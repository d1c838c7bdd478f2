theorem rchN {z : Nat} {i n : Int32} (hz : z ≤ 40) (h : sp_rch (nI z) i n) : ∃ ii nn : Nat, i = nI ii ∧ n = nI nn ∧ ii + nn ≤ z := by
  obtain ⟨ii, hii, rfl⟩ := nI_of h.1
  obtain ⟨nn, hnn, rfl⟩ := nI_of h.2.1
  refine ⟨ii, nn, rfl, rfl, ?_⟩
  have h3 := h.2.2.1
  have h4 := h.2.2.2
  rw [i32_lt, nI_toInt (by omega), nI_toInt (by omega)] at h3
  rw [i32_lt, nI_toInt (by omega), pk_sub (by omega), nI_toInt (by omega)] at h4
  omega
theorem rchL {z : Nat} {i n : Int32} (hz : z ≤ 40) (hi : ¬ i < 0) (hn : ¬ n < 0) : ((nI z).toInt64 < i.toInt64 + n.toInt64) ↔ ¬ sp_rch (nI z) i n := by
  obtain ⟨ii, hii, rfl⟩ := nI_of hi
  obtain ⟨nn, hnn, rfl⟩ := nI_of hn
  have e : ((nI ii).toInt64 + (nI nn).toInt64).toInt = (ii : Int) + nn := by
    rw [Int64.toInt_add, Int32.toInt_toInt64, Int32.toInt_toInt64, nI_toInt hii, nI_toInt hnn]
    simp only [Int.bmod_def]
    omega
  rw [Int64.lt_iff_toInt_lt, e, Int32.toInt_toInt64, nI_toInt (by omega)]
  constructor
  · intro h q
    obtain ⟨i2, n2, e1, e2, h3⟩ := rchN hz q
    rw [nI_eq hii (by omega)] at e1
    rw [nI_eq hnn (by omega)] at e2
    omega
  · intro h
    refine Classical.byContradiction fun q => h ⟨hi, hn, ?_, ?_⟩
    · rw [i32_lt, nI_toInt (by omega), nI_toInt hnn]; omega
    · rw [i32_lt, nI_toInt hii, pk_sub (by omega), nI_toInt (by omega)]; omega
def sp_copy (a : a_S) (x i y j n : Int32) : Int32 × a_S := if wn x 0 7 then (if wn y 0 7 then (match a_rows a x.toNatClampNeg, a_rows a y.toNatClampNeg with
  | some p, some q => if p.1 = q.1 then (if sp_rch (nI p.2.1) i n then (if sp_rch (nI q.2.1) j n then (n, u_find (u_rows a (a_set (a_rows a) y.toNatClampNeg (some (q.1, q.2.1, va_cpy p.2.2 q.2.2 i.toNatClampNeg j.toNatClampNeg n.toNatClampNeg)))) 0) else (-1000012, u_find a 2)) else (-1000012, u_find a 2)) else (-1000015, u_find a 5)
  | _, _ => (-1000011, u_find a 1)) else (-1000001, a)) else (-1000001, a)
theorem C_copy {SL : Nat} {d : Nat} {Q : Option Int32 → m_G → Prop} {g : m_G} {a : a_S} (hA : a_OK a) (hC : C_R g a) (x i y j n : Int32) (hQ : E_C g a Q (sp_copy a x i y j n)) : Sim SL (d + 2) yX8_copy cX8_copy 8 (some .int) 0 [.ref 0, .int x, .int i, .int y, .int j, .int n, .null, .null] [] g Q := by
  unfold E_C sp_copy at hQ
  refine s_iload_n (n := 1) dX8_copy_0 rfl rfl rfl ?_
  refine s_cs1 (n := 4) dX8_copy_1 rfl mo_X8_isRow ml_X8_58 rfl (Nat.le_of_ble_eq_true rfl) (Nat.le_of_ble_eq_true rfl) (c_X8_isRow _ (fun hb1 => ?_) (fun hb1 => ?_))
  · dsimp only [m_push]
    refine s_if_eq (n := 7) (t := 14) dX8_copy_4 (by decide) rfl (fun h => absurd h (by decide)) (fun _ => ?_)
    refine s_iload_n (n := 8) dX8_copy_7 rfl rfl rfl ?_
    refine s_cs1 (n := 11) dX8_copy_8 rfl mo_X8_isRow ml_X8_58 rfl (Nat.le_of_ble_eq_true rfl) (Nat.le_of_ble_eq_true rfl) (c_X8_isRow _ (fun hb8 => ?_) (fun hb8 => ?_))
    · dsimp only [m_push]
      refine s_if_ne (n := 14) (t := 17) dX8_copy_11 (by decide) rfl (fun _ => ?_) (fun h => absurd h (by decide))
      obtain ⟨jx, hjx, rfl⟩ := wn_ex (n := 7) hb1 rfl
      replace hjx : jx < 8 := by omega
      obtain ⟨jy, hjy, rfl⟩ := wn_ex (n := 7) hb8 rfl
      replace hjy : jy < 8 := by omega
      have hw := hC.1 jx hjx
      have hv := hC.1 jy hjy
      simp only [if_pos hb1, if_pos hb8, nI_clamp (show jx < 2 ^ 31 by omega), nI_clamp (show jy < 2 ^ 31 by omega)] at hQ
      generalize hx : a_rows a jx = x at hQ hw
      generalize hy : a_rows a jy = y at hQ hv
      refine s_aload_n (n := 18) dX8_copy_17 rfl rfl rfl ?_
      refine s_getr (k2 := 1) (n := 21) dX8_copy_18 rfl fl_X8_11 rfl rfl rfl ?_
      refine s_iload_n (n := 22) dX8_copy_21 rfl rfl rfl ?_
      refine s_aaload (k2 := 2 + jx) (t := 1) jx (n := 23) dX8_copy_22 rfl rfl (by decide) rfl hjx rfl ?_
      refine s_astore (n := 25) dX8_copy_23 rfl (by decide) rfl rfl ?_
      refine s_aload_n (n := 26) dX8_copy_25 rfl rfl rfl ?_
      refine s_getr (k2 := 1) (n := 29) dX8_copy_26 rfl fl_X8_11 rfl rfl rfl ?_
      refine s_iload_n (n := 30) dX8_copy_29 rfl rfl rfl ?_
      refine s_aaload (k2 := 2 + jy) (t := 1) jy (n := 31) dX8_copy_30 rfl rfl (by decide) rfl hjy rfl ?_
      refine s_astore (n := 33) dX8_copy_31 rfl (by decide) rfl rfl ?_
      refine s_aload (n := 35) dX8_copy_33 rfl rfl ?_
      refine s_geti (n := 38) dX8_copy_35 rfl fl_X8_78 rfl (rw0 hjx) ?_
      refine s_if_ne (n := 41) (t := 49) dX8_copy_38 (by decide) rfl (fun h38 => ?_) (fun h38 => ?_)
      · refine s_aload_n (n := 50) dX8_copy_49 rfl rfl rfl ?_
        refine s_iconst (v := 1) (n := 51) dX8_copy_50 rfl (by decide) ?_
        refine s_cv1 (n := 54) dX8_copy_51 rfl mo_X8_found ml_X8_67 rfl (by decide) rfl rfl (Nat.le_of_ble_eq_true rfl) (Nat.le_of_ble_eq_true rfl) (c_X8_found _ ?_)
        dsimp only [m_push]
        refine s_ireturn dX8_copy_54 rfl rfl ?_
        first
        | (cases x with
           | none =>
             dsimp only at hQ
             rw [show (-1000010 : Int32) - 1 = -1000011 from by decide]
             exact hQ _ (hC.find _) (fun k hk => m_up_o (by omega))
           | some q => exact absurd hw.1 h38)
        | (cases y with
           | none =>
             cases x <;> (dsimp only at hQ; rw [show (-1000010 : Int32) - 1 = -1000011 from by decide]; exact hQ _ (hC.find _) (fun k hk => m_up_o (by omega)))
           | some q => exact absurd hv.1 h46)
      · refine s_aload (n := 43) dX8_copy_41 rfl rfl ?_
        refine s_geti (n := 46) dX8_copy_43 rfl fl_X8_78 rfl (rw0 hjy) ?_
        refine s_if_eq (n := 49) (t := 55) dX8_copy_46 (by decide) rfl (fun h46 => ?_) (fun h46 => ?_)
        · obtain ⟨p, rfl⟩ : ∃ p, x = some p := by
            cases x with
            | none => exact absurd (show g (2 + jx) 1 = 1 from hw) (by rw [h38]; decide)
            | some p => exact ⟨p, rfl⟩
          obtain ⟨q, rfl⟩ : ∃ q, y = some q := by
            cases y with
            | none => exact absurd (show g (2 + jy) 1 = 1 from hv) (by rw [h46]; decide)
            | some p => exact ⟨p, rfl⟩
          obtain ⟨w1, w2, w3, w4, w5⟩ := hw
          obtain ⟨v1, v2, v3, v4, v5⟩ := hv
          dsimp only at hQ
          rw [← w2, ← v2, ← w3, ← v3] at hQ
          refine s_aload (n := 57) dX8_copy_55 rfl rfl ?_
          refine s_geti (n := 60) dX8_copy_57 rfl fl_X8_93 rfl (rw0 hjx) ?_
          refine s_aload (n := 62) dX8_copy_60 rfl rfl ?_
          refine s_geti (n := 65) dX8_copy_62 rfl fl_X8_93 rfl (rw0 hjy) ?_
          refine s_icmp_eq (n := 68) (t := 74) dX8_copy_65 (by decide) rfl (fun h65 => ?_) (fun h65 => ?_)
          · refine s_aload (n := 76) dX8_copy_74 rfl rfl ?_
            refine s_iload_n (n := 77) dX8_copy_76 rfl rfl rfl ?_
            refine s_iload (n := 79) dX8_copy_77 rfl rfl ?_
            refine s_cv2 (n := 82) dX8_copy_79 rfl mo_X4_reaches ml_X8_82 (rw0 hjx) (by decide) rfl rfl (Nat.le_of_ble_eq_true rfl) (Nat.le_of_ble_eq_true rfl) (c_X4_reaches hjx _ _ (fun hb79 => ?_) (fun hb79 => ?_))
            · dsimp only [m_push]
              refine s_if_eq (n := 85) (t := 97) dX8_copy_82 (by decide) rfl (fun h => absurd h (by decide)) (fun _ => ?_)
              refine s_aload (n := 87) dX8_copy_85 rfl rfl ?_
              refine s_iload (n := 89) dX8_copy_87 rfl rfl ?_
              refine s_iload (n := 91) dX8_copy_89 rfl rfl ?_
              refine s_cv2 (n := 94) dX8_copy_91 rfl mo_X4_reaches ml_X8_82 (rw0 hjy) (by decide) rfl rfl (Nat.le_of_ble_eq_true rfl) (Nat.le_of_ble_eq_true rfl) (c_X4_reaches hjy _ _ (fun hb91 => ?_) (fun hb91 => ?_))
              · dsimp only [m_push]
                refine s_if_ne (n := 97) (t := 103) dX8_copy_94 (by decide) rfl (fun _ => ?_) (fun h => absurd h (by decide))
                have hr1 := hb79
                have hr2 := hb91
                rw [w3] at hr1
                rw [v3] at hr2
                obtain ⟨ii, nn, rfl, rfl, hin⟩ := rchN w4 hr1
                obtain ⟨jj, nn2, rfl, hnn2, hjn⟩ := rchN v4 hr2
                rw [nI_eq (by omega) (by omega)] at hnn2
                subst hnn2
                refine s_aload (n := 105) dX8_copy_103 rfl rfl ?_
                refine s_getr (k2 := 2 + jx + 8) (n := 108) dX8_copy_105 rfl fl_X8_86 rfl (rw0 hjx) rfl ?_
                refine s_iload_n (n := 109) dX8_copy_108 rfl rfl rfl ?_
                refine s_aload (n := 111) dX8_copy_109 rfl rfl ?_
                refine s_getr (k2 := 2 + jy + 8) (n := 114) dX8_copy_111 rfl fl_X8_86 rfl (rw0 hjy) rfl ?_
                refine s_iload (n := 116) dX8_copy_114 rfl rfl ?_
                refine s_iload (n := 118) dX8_copy_116 rfl rfl ?_
                refine s_copy ii jj nn (n := 121) dX8_copy_118 rfl mlc_X8_97 m_acw (by omega) (rw8 hjx) (rw8 hjy) rfl rfl rfl (by omega) (by omega) (Nat.le_of_ble_eq_true rfl) ?_
                refine s_aload_n (n := 122) dX8_copy_121 rfl rfl rfl ?_
                refine s_iload (n := 124) dX8_copy_122 rfl rfl ?_
                refine s_cv1 (n := 127) dX8_copy_124 rfl mo_X8_fine ml_X8_75 rfl (by decide) rfl rfl (Nat.le_of_ble_eq_true rfl) (Nat.le_of_ble_eq_true rfl) (c_X8_fine _ ?_)
                dsimp only [m_push]
                refine s_ireturn dX8_copy_127 rfl rfl ?_
                rw [if_pos h65, if_pos hb79, if_pos hb91, nI_clamp (show ii < 2 ^ 31 by omega), nI_clamp (show jj < 2 ^ 31 by omega), nI_clamp (show nn < 2 ^ 31 by omega)] at hQ
                have hf : m_fr [2 + jy, 10 + jy] g (m_ur g (2 + jy + 8) (va_cpy (g (2 + jx + 8)) (g (2 + jy + 8)) ii jj nn)) := m_fr.rf.ur2 (by simp; omega)
                refine hQ _ ((hC.row hjy hf ?_).find 0) ((hf.FC (by simp; omega)).tr (fun k hk => m_up_o (by omega)))
                have e : (2 + jy) ≠ 2 + jy + 8 := by omega
                refine ⟨?_, ?_, ?_, v4, ?_⟩
                · rw [m_ur_o e]; exact v1
                · rw [m_ur_o e]
                · rw [m_ur_o e]; exact v3
                · intro i hi
                  rw [show 10 + jy = 2 + jy + 8 by omega, m_ur_k]
                  dsimp only [va_cpy]
                  split
                  · rw [show 2 + jx + 8 = 10 + jx by omega]; exact w5 _ (by omega)
                  · rw [show 2 + jy + 8 = 10 + jy by omega]; exact v5 i hi
              · dsimp only [m_push]
                refine s_if_ne (n := 97) (t := 103) dX8_copy_94 (by decide) rfl (fun h => absurd h (by decide)) (fun _ => ?_)
                refine s_aload_n (n := 98) dX8_copy_97 rfl rfl rfl ?_
                refine s_iconst (v := 2) (n := 99) dX8_copy_98 rfl (by decide) ?_
                refine s_cv1 (n := 102) dX8_copy_99 rfl mo_X8_found ml_X8_67 rfl (by decide) rfl rfl (Nat.le_of_ble_eq_true rfl) (Nat.le_of_ble_eq_true rfl) (c_X8_found _ ?_)
                dsimp only [m_push]
                refine s_ireturn dX8_copy_102 rfl rfl ?_
                rw [if_pos h65] at hQ
                first
                | (rw [if_neg hb79] at hQ; rw [show (-1000010 : Int32) - 2 = -1000012 from by decide]; exact hQ _ (hC.find _) (fun k hk => m_up_o (by omega)))
                | (rw [if_pos hb79, if_neg hb91] at hQ; rw [show (-1000010 : Int32) - 2 = -1000012 from by decide]; exact hQ _ (hC.find _) (fun k hk => m_up_o (by omega)))
            · dsimp only [m_push]
              refine s_if_eq (n := 85) (t := 97) dX8_copy_82 (by decide) rfl (fun _ => ?_) (fun h => absurd h (by decide))
              refine s_aload_n (n := 98) dX8_copy_97 rfl rfl rfl ?_
              refine s_iconst (v := 2) (n := 99) dX8_copy_98 rfl (by decide) ?_
              refine s_cv1 (n := 102) dX8_copy_99 rfl mo_X8_found ml_X8_67 rfl (by decide) rfl rfl (Nat.le_of_ble_eq_true rfl) (Nat.le_of_ble_eq_true rfl) (c_X8_found _ ?_)
              dsimp only [m_push]
              refine s_ireturn dX8_copy_102 rfl rfl ?_
              rw [if_pos h65] at hQ
              first
              | (rw [if_neg hb79] at hQ; rw [show (-1000010 : Int32) - 2 = -1000012 from by decide]; exact hQ _ (hC.find _) (fun k hk => m_up_o (by omega)))
              | (rw [if_pos hb79, if_neg hb91] at hQ; rw [show (-1000010 : Int32) - 2 = -1000012 from by decide]; exact hQ _ (hC.find _) (fun k hk => m_up_o (by omega)))
          · refine s_aload_n (n := 69) dX8_copy_68 rfl rfl rfl ?_
            refine s_iconst (v := 5) (n := 70) dX8_copy_69 rfl (by decide) ?_
            refine s_cv1 (n := 73) dX8_copy_70 rfl mo_X8_found ml_X8_67 rfl (by decide) rfl rfl (Nat.le_of_ble_eq_true rfl) (Nat.le_of_ble_eq_true rfl) (c_X8_found _ ?_)
            dsimp only [m_push]
            refine s_ireturn dX8_copy_73 rfl rfl ?_
            rw [if_neg h65] at hQ
            rw [show (-1000010 : Int32) - 5 = -1000015 from by decide]
            exact hQ _ (hC.find _) (fun k hk => m_up_o (by omega))
        · refine s_aload_n (n := 50) dX8_copy_49 rfl rfl rfl ?_
          refine s_iconst (v := 1) (n := 51) dX8_copy_50 rfl (by decide) ?_
          refine s_cv1 (n := 54) dX8_copy_51 rfl mo_X8_found ml_X8_67 rfl (by decide) rfl rfl (Nat.le_of_ble_eq_true rfl) (Nat.le_of_ble_eq_true rfl) (c_X8_found _ ?_)
          dsimp only [m_push]
          refine s_ireturn dX8_copy_54 rfl rfl ?_
          first
          | (cases x with
             | none =>
               dsimp only at hQ
               rw [show (-1000010 : Int32) - 1 = -1000011 from by decide]
               exact hQ _ (hC.find _) (fun k hk => m_up_o (by omega))
             | some q => exact absurd hw.1 h38)
          | (cases y with
             | none =>
               cases x <;> (dsimp only at hQ; rw [show (-1000010 : Int32) - 1 = -1000011 from by decide]; exact hQ _ (hC.find _) (fun k hk => m_up_o (by omega)))
             | some q => exact absurd hv.1 h46)
    · dsimp only [m_push]
      refine s_if_ne (n := 14) (t := 17) dX8_copy_11 (by decide) rfl (fun h => absurd h (by decide)) (fun _ => ?_)
      refine s_ldc (n := 16) dX8_copy_14 rfl kc_X8_66 ?_
      refine s_ireturn dX8_copy_16 rfl rfl ?_
      simp only [if_pos hb1, if_neg hb8] at hQ
      exact hQ g hC F_C.rf
  · dsimp only [m_push]
    refine s_if_eq (n := 7) (t := 14) dX8_copy_4 (by decide) rfl (fun _ => ?_) (fun h => absurd h (by decide))
    refine s_ldc (n := 16) dX8_copy_14 rfl kc_X8_66 ?_
    refine s_ireturn dX8_copy_16 rfl rfl ?_
    simp only [if_neg hb1] at hQ
    exact hQ g hC F_C.rf
theorem c_X9_isSpan {SL : Nat} {d : Nat} {Q : Option Int32 → m_G → Prop} {g : m_G} {j z : Nat} (hj : j < 8) (hz : g 82 j = nI z) (hz4 : z ≤ 40) (i n : Int32) (k1 : sp_rch (nI z) i n → Q (some 1) g) (k0 : ¬ (sp_rch (nI z) i n) → Q (some 0) g) : Sim SL d yX9_isSpan cX9_isSpan 4 (some .boolean) 0 [.ref 78, .int (nI j), .int i, .int n] [] g Q := by
  refine s_iload_n (n := 1) dX9_isSpan_0 rfl rfl rfl ?_
  refine s_if_lt (n := 4) (t := 28) dX9_isSpan_1 (by decide) rfl (fun h1 => ?_) (fun h1 => ?_)
  · refine s_iconst (v := 0) (n := 29) dX9_isSpan_28 rfl (by decide) ?_
    refine s_ireturn dX9_isSpan_29 rfl (by decide +kernel) ?_
    first | exact k0 ((rchL hz4 h1 h5).mp ((lg_cmp_gt _ _).mp h21)) | exact k1 (Classical.byContradiction fun q => h21 ((lg_cmp_gt _ _).mpr ((rchL hz4 h1 h5).mpr q))) | exact k0 (fun q => q.1 h1) | exact k0 (fun q => q.2.1 h5)
  · refine s_iload_n (n := 5) dX9_isSpan_4 rfl rfl rfl ?_
    refine s_if_lt (n := 8) (t := 28) dX9_isSpan_5 (by decide) rfl (fun h5 => ?_) (fun h5 => ?_)
    · refine s_iconst (v := 0) (n := 29) dX9_isSpan_28 rfl (by decide) ?_
      refine s_ireturn dX9_isSpan_29 rfl (by decide +kernel) ?_
      first | exact k0 ((rchL hz4 h1 h5).mp ((lg_cmp_gt _ _).mp h21)) | exact k1 (Classical.byContradiction fun q => h21 ((lg_cmp_gt _ _).mpr ((rchL hz4 h1 h5).mpr q))) | exact k0 (fun q => q.1 h1) | exact k0 (fun q => q.2.1 h5)
    · refine s_iload_n (n := 9) dX9_isSpan_8 rfl rfl rfl ?_
      refine s_i2l (n := 10) dX9_isSpan_9 rfl ?_
      refine s_iload_n (n := 11) dX9_isSpan_10 rfl rfl rfl ?_
      refine s_i2l (n := 12) dX9_isSpan_11 rfl ?_
      refine s_ladd (n := 13) dX9_isSpan_12 rfl ?_
      refine s_aload_n (n := 14) dX9_isSpan_13 rfl rfl rfl ?_
      refine s_getr (k2 := 82) (n := 17) dX9_isSpan_14 rfl fl_X9_20 rfl rfl rfl ?_
      refine s_iload_n (n := 18) dX9_isSpan_17 rfl rfl rfl ?_
      refine s_iaload j (n := 19) dX9_isSpan_18 rfl rfl rfl hj ?_
      rw [hz]
      refine s_i2l (n := 20) dX9_isSpan_19 rfl ?_
      refine s_lcmp (n := 21) dX9_isSpan_20 rfl ?_
      refine s_if_gt (n := 24) (t := 28) dX9_isSpan_21 (by decide) rfl (fun h21 => ?_) (fun h21 => ?_)
      · refine s_iconst (v := 0) (n := 29) dX9_isSpan_28 rfl (by decide) ?_
        refine s_ireturn dX9_isSpan_29 rfl (by decide +kernel) ?_
        first | exact k0 ((rchL hz4 h1 h5).mp ((lg_cmp_gt _ _).mp h21)) | exact k1 (Classical.byContradiction fun q => h21 ((lg_cmp_gt _ _).mpr ((rchL hz4 h1 h5).mpr q))) | exact k0 (fun q => q.1 h1) | exact k0 (fun q => q.2.1 h5)
      · refine s_iconst (v := 1) (n := 25) dX9_isSpan_24 rfl (by decide) ?_
        refine s_goto (t := 29) dX9_isSpan_25 (by decide) ?_
        refine s_ireturn dX9_isSpan_29 rfl (by decide +kernel) ?_
        first | exact k0 ((rchL hz4 h1 h5).mp ((lg_cmp_gt _ _).mp h21)) | exact k1 (Classical.byContradiction fun q => h21 ((lg_cmp_gt _ _).mpr ((rchL hz4 h1 h5).mpr q))) | exact k0 (fun q => q.1 h1) | exact k0 (fun q => q.2.1 h5)
theorem ixc {j i q : Nat} : (40 : Int32) * nI j + nI i + nI q = nI (40 * j + i + q) := by rw [ix40, nI_add]
/-- which items are copied behind k turns: the last k, or the first -/
def cp_in (bk k nn q : Nat) : Prop := if bk = 1 then nn - k ≤ q ∧ q < nn else q < k
theorem cp0 {k nn q : Nat} : cp_in 0 k nn q ↔ q < k := by unfold cp_in; simp
theorem cp1 {k nn q : Nat} : cp_in 1 k nn q ↔ nn - k ≤ q ∧ q < nn := by unfold cp_in; simp
theorem lp_X9_copy {SL d : Nat} {Q : Option Int32 → m_G → Prop} {jx jy ii jj nn bk : Nat} (g0 : m_G) (hjx : jx < 8) (hjy : jy < 8) (hii : ii + nn ≤ 40) (hjj : jj + nn ≤ 40) (hb01 : bk = 0 ∨ bk = 1) (hov0 : bk = 0 → ∀ at_ c, c < at_ → at_ < nn → 40 * jx + ii + at_ ≠ 40 * jy + jj + c) (hov1 : bk = 1 → ∀ at_ c, at_ < c → c < nn → 40 * jx + ii + at_ ≠ 40 * jy + jj + c) : ∀ (n k : Nat) (g : m_G) (x8 : Value), k + n = nn → (∀ q, cp_in bk k nn q → g 83 (40 * jy + jj + q) = g0 83 (40 * jx + ii + q)) → (∀ q, (∀ c, cp_in bk k nn c → c < nn → q ≠ 40 * jy + jj + c) → g 83 q = g0 83 q) →
   (∀ g2, m_fr [83] g g2 → (∀ q, cp_in bk nn nn q → g2 83 (40 * jy + jj + q) = g0 83 (40 * jx + ii + q)) → (∀ q, (∀ c, cp_in bk nn nn c → c < nn → q ≠ 40 * jy + jj + c) → g2 83 q = g0 83 q) → ∀ x8, Sim SL d yX9_copy cX9_copy 9 (some .int) 168 [.ref 78, .int (nI jx), .int (nI ii), .int (nI jy), .int (nI jj), .int (nI nn), .int (nI bk), .int (nI nn), x8] [] g2 Q) → Sim SL d yX9_copy cX9_copy 9 (some .int) 107 [.ref 78, .int (nI jx), .int (nI ii), .int (nI jy), .int (nI jj), .int (nI nn), .int (nI bk), .int (nI k), x8] [] g Q := by
  intro n
  induction n with
  | zero =>
    intro k g x8 hin r6 r7 hQ
    have hk : k = nn := by omega
    subst hk
    refine s_iload (n := 109) dX9_copy_107 rfl rfl ?_
    refine s_iload (n := 111) dX9_copy_109 rfl rfl ?_
    refine s_icmp_ge (n := 114) (t := 168) dX9_copy_111 (by decide) rfl (fun h111 => ?_) (fun h111 => ?_)
    · exact hQ g m_fr.rf r6 r7 _
    · exact absurd (nI_le (Nat.le_refl k) (by omega)) h111
  | succ n ih =>
    intro k g x8 hin r6 r7 hQ
    have hk : k < nn := by omega
    refine s_iload (n := 109) dX9_copy_107 rfl rfl ?_
    refine s_iload (n := 111) dX9_copy_109 rfl rfl ?_
    refine s_icmp_ge (n := 114) (t := 168) dX9_copy_111 (by decide) rfl (fun h111 => ?_) (fun h111 => ?_)
    · exact absurd h111 (nI_ge hk (by omega))
    · refine s_iload (n := 116) dX9_copy_114 rfl rfl ?_
      refine s_if_eq (n := 119) (t := 129) dX9_copy_116 (by decide) rfl (fun h116 => ?_) (fun h116 => ?_)
      · obtain rfl : bk = 0 := by
          rcases hb01 with q | q
          · exact q
          · subst q; exact absurd h116 (by decide)
        refine s_iload (n := 131) dX9_copy_129 rfl rfl ?_
        refine s_istore (n := 133) dX9_copy_131 rfl (by decide) rfl rfl ?_
        refine s_aload_n (n := 134) dX9_copy_133 rfl rfl rfl ?_
        refine s_getr (k2 := 83) (n := 137) dX9_copy_134 rfl fl_X9_23 rfl rfl rfl ?_
        refine s_bipush (v := 40) (n := 139) dX9_copy_137 rfl (by decide) ?_
        refine s_iload_n (n := 140) dX9_copy_139 rfl rfl rfl ?_
        refine s_imul (n := 141) dX9_copy_140 rfl ?_
        refine s_iload (n := 143) dX9_copy_141 rfl rfl ?_
        refine s_iadd (n := 144) dX9_copy_143 rfl ?_
        refine s_iload (n := 146) dX9_copy_144 rfl rfl ?_
        refine s_iadd (n := 147) dX9_copy_146 rfl ?_
        refine s_aload_n (n := 148) dX9_copy_147 rfl rfl rfl ?_
        refine s_getr (k2 := 83) (n := 151) dX9_copy_148 rfl fl_X9_23 rfl rfl rfl ?_
        refine s_bipush (v := 40) (n := 153) dX9_copy_151 rfl (by decide) ?_
        refine s_iload_n (n := 154) dX9_copy_153 rfl rfl rfl ?_
        refine s_imul (n := 155) dX9_copy_154 rfl ?_
        refine s_iload_n (n := 156) dX9_copy_155 rfl rfl rfl ?_
        refine s_iadd (n := 157) dX9_copy_156 rfl ?_
        refine s_iload (n := 159) dX9_copy_157 rfl rfl ?_
        refine s_iadd (n := 160) dX9_copy_159 rfl ?_
        refine s_iaload (40 * jx + ii + k) (n := 161) dX9_copy_160 rfl rfl ixc (by omega) ?_
        refine s_iastore (40 * jy + jj + k) (n := 162) dX9_copy_161 rfl rfl ixc (by omega) ?_
        refine s_iinc (n := 165) (v := nI (k + 1)) dX9_copy_162 rfl (by decide) rfl rfl (nI_1 k) rfl ?_
        refine s_goto (t := 107) dX9_copy_165 (by decide) ?_
        refine ih (k + 1) _ _ (by omega) ?_ ?_ (fun g2 hf => hQ g2 ((m_fr.up (by simp)).tr hf))
        · intro q hq
          have hq2 := cp0.mp hq
          rw [m_up_k]
          by_cases e : q = k
          · subst e
            rw [if_pos rfl]
            exact r7 _ (fun c hc1 hc2 => hov0 rfl _ c (by have := cp0.mp hc1; omega) (by have := cp0.mp hc1; omega))
          · rw [if_neg (by omega)]
            exact r6 q (cp0.mpr (by omega))
        · intro q hq
          rw [m_up_k, if_neg (hq k (cp0.mpr (by omega)) (by omega))]
          exact r7 q (fun c hc1 hc2 => hq c (cp0.mpr (by have := cp0.mp hc1; omega)) hc2)
      · obtain rfl : bk = 1 := by
          rcases hb01 with q | q
          · subst q; exact absurd rfl h116
          · exact q
        refine s_iload (n := 121) dX9_copy_119 rfl rfl ?_
        refine s_iconst (v := 1) (n := 122) dX9_copy_121 rfl (by decide) ?_
        refine s_isub (n := 123) dX9_copy_122 rfl ?_
        refine s_iload (n := 125) dX9_copy_123 rfl rfl ?_
        refine s_isub (n := 126) dX9_copy_125 rfl ?_
        refine s_goto (t := 131) dX9_copy_126 (by decide) ?_
        rw [show nI nn - 1 - nI k = nI (nn - 1 - k) by rw [show (1 : Int32) = nI 1 from rfl, pk_sub (by omega), pk_sub (by omega)]]
        refine s_istore (n := 133) dX9_copy_131 rfl (by decide) rfl rfl ?_
        refine s_aload_n (n := 134) dX9_copy_133 rfl rfl rfl ?_
        refine s_getr (k2 := 83) (n := 137) dX9_copy_134 rfl fl_X9_23 rfl rfl rfl ?_
        refine s_bipush (v := 40) (n := 139) dX9_copy_137 rfl (by decide) ?_
        refine s_iload_n (n := 140) dX9_copy_139 rfl rfl rfl ?_
        refine s_imul (n := 141) dX9_copy_140 rfl ?_
        refine s_iload (n := 143) dX9_copy_141 rfl rfl ?_
        refine s_iadd (n := 144) dX9_copy_143 rfl ?_
        refine s_iload (n := 146) dX9_copy_144 rfl rfl ?_
        refine s_iadd (n := 147) dX9_copy_146 rfl ?_
        refine s_aload_n (n := 148) dX9_copy_147 rfl rfl rfl ?_
        refine s_getr (k2 := 83) (n := 151) dX9_copy_148 rfl fl_X9_23 rfl rfl rfl ?_
        refine s_bipush (v := 40) (n := 153) dX9_copy_151 rfl (by decide) ?_
        refine s_iload_n (n := 154) dX9_copy_153 rfl rfl rfl ?_
        refine s_imul (n := 155) dX9_copy_154 rfl ?_
        refine s_iload_n (n := 156) dX9_copy_155 rfl rfl rfl ?_
        refine s_iadd (n := 157) dX9_copy_156 rfl ?_
        refine s_iload (n := 159) dX9_copy_157 rfl rfl ?_
        refine s_iadd (n := 160) dX9_copy_159 rfl ?_
        refine s_iaload (40 * jx + ii + (nn - 1 - k)) (n := 161) dX9_copy_160 rfl rfl ixc (by omega) ?_
        refine s_iastore (40 * jy + jj + (nn - 1 - k)) (n := 162) dX9_copy_161 rfl rfl ixc (by omega) ?_
        refine s_iinc (n := 165) (v := nI (k + 1)) dX9_copy_162 rfl (by decide) rfl rfl (nI_1 k) rfl ?_
        refine s_goto (t := 107) dX9_copy_165 (by decide) ?_
        refine ih (k + 1) _ _ (by omega) ?_ ?_ (fun g2 hf => hQ g2 ((m_fr.up (by simp)).tr hf))
        · intro q hq
          have hq2 := cp1.mp hq
          rw [m_up_k]
          by_cases e : q = (nn - 1 - k)
          · subst e
            rw [if_pos rfl]
            exact r7 _ (fun c hc1 hc2 => hov1 rfl _ c (by have := cp1.mp hc1; omega) (by have := cp1.mp hc1; omega))
          · rw [if_neg (by omega)]
            exact r6 q (cp1.mpr (by omega))
        · intro q hq
          rw [m_up_k, if_neg (hq (nn - 1 - k) (cp1.mpr (by omega)) (by omega))]
          exact r7 q (fun c hc1 hc2 => hq c (cp1.mpr (by have := cp1.mp hc1; omega)) hc2)
