theorem c_X0_takeBackLatest {SL : Nat} {d : Nat} {Q : Option Int32 → m_G → Prop} {g : m_G} {t : m_T} {n : Nat} (hn : n < 24) (hg : g 20 3 = nI (n + 1)) (hT : TW g 28 t) (hc : wn (t 1) 0 6) (hQ : ∀ g2, m_fr [20, 28, 32, 33, 34, 35, 36, 37] g g2 → g2 20 3 = nI n → g2 28 2 = g 28 2 → TW g2 28 (a_tkb (g 21 n) (g 22 n) (g 23 n) t) → Q none g2) : Sim SL (d + 1) yX0_takeBackLatest cX0_takeBackLatest 4 none 0 [.ref 20, .ref 28, .null, .null] [] g Q := by
  refine s_aload_n (n := 1) dX0_takeBackLatest_0 rfl rfl rfl ?_
  refine s_geti (n := 4) dX0_takeBackLatest_1 rfl fl_X0_21 rfl rfl ?_
  rw [hg]
  refine s_iconst (v := 1) (n := 5) dX0_takeBackLatest_4 rfl (by decide) ?_
  refine s_icmp_ge (n := 8) (t := 9) dX0_takeBackLatest_5 (by decide) rfl (fun h5 => ?_) (fun h5 => ?_)
  · refine s_aload_n (n := 10) dX0_takeBackLatest_9 rfl rfl rfl ?_
    refine s_dup (n := 11) dX0_takeBackLatest_10 rfl rfl ?_
    refine s_geti (n := 14) dX0_takeBackLatest_11 rfl fl_X0_21 rfl rfl ?_
    rw [hg]
    refine s_iconst (v := 1) (n := 15) dX0_takeBackLatest_14 rfl (by decide) ?_
    refine s_isub (n := 16) dX0_takeBackLatest_15 rfl ?_
    rw [nI_pred]
    refine s_puti (n := 19) dX0_takeBackLatest_16 rfl fl_X0_21 rfl rfl rfl ?_
    have fr1 : m_fr [20, 28, 32, 33, 34, 35, 36, 37] g (m_up g 20 3 (nI n)) := m_fr.up (by simp)
    have f20 : (m_up g 20 3 (nI n)) 20 3 = nI n := by rw [m_up_k, if_pos rfl]
    have f28 : (m_up g 20 3 (nI n)) 28 = g 28 := m_up_o (by decide)
    have hT1 : TW (m_up g 20 3 (nI n)) 28 t := hT.kept f28 (fun i hi => m_up_o (by omega))
    rw [← show (m_up g 20 3 (nI n)) 21 = g 21 from m_up_o (by decide), ← show (m_up g 20 3 (nI n)) 22 = g 22 from m_up_o (by decide), ← show (m_up g 20 3 (nI n)) 23 = g 23 from m_up_o (by decide), ← f28] at hQ
    generalize m_up g 20 3 (nI n) = g1 at *
    refine s_aload_n (n := 20) dX0_takeBackLatest_19 rfl rfl rfl ?_
    refine s_getr (k2 := 22) (n := 23) dX0_takeBackLatest_20 rfl fl_X0_15 rfl rfl rfl ?_
    refine s_aload_n (n := 24) dX0_takeBackLatest_23 rfl rfl rfl ?_
    refine s_geti (n := 27) dX0_takeBackLatest_24 rfl fl_X0_21 rfl rfl ?_
    rw [f20]
    refine s_iaload n (n := 28) dX0_takeBackLatest_27 rfl rfl rfl hn ?_
    refine s_istore_n (n := 29) dX0_takeBackLatest_28 rfl rfl (by decide) rfl rfl ?_
    refine s_iload_n (n := 30) dX0_takeBackLatest_29 rfl rfl rfl ?_
    refine s_iconst (v := 0) (n := 31) dX0_takeBackLatest_30 rfl (by decide) ?_
    refine s_aload_n (n := 32) dX0_takeBackLatest_31 rfl rfl rfl ?_
    refine s_geti (n := 35) dX0_takeBackLatest_32 rfl fl_X0_34 rfl rfl ?_
    rw [hT1.1.2.1]
    refine s_iconst (v := 1) (n := 36) dX0_takeBackLatest_35 rfl (by decide) ?_
    refine s_isub (n := 37) dX0_takeBackLatest_36 rfl ?_
    refine s_cs3 (n := 40) dX0_takeBackLatest_37 rfl mo_X8_within ml_X0_39 rfl (Nat.le_of_ble_eq_true rfl) (Nat.le_of_ble_eq_true rfl) (c_X8_within _ _ _ (fun hb37 => ?_) (fun hb37 => ?_))
    · dsimp only [m_push]
      refine s_istore_n (n := 41) dX0_takeBackLatest_40 rfl rfl (by decide) rfl rfl ?_
      refine s_aload_n (n := 42) dX0_takeBackLatest_41 rfl rfl rfl ?_
      refine s_getr (k2 := 21) (n := 45) dX0_takeBackLatest_42 rfl fl_X0_9 rfl rfl rfl ?_
      refine s_aload_n (n := 46) dX0_takeBackLatest_45 rfl rfl rfl ?_
      refine s_geti (n := 49) dX0_takeBackLatest_46 rfl fl_X0_21 rfl rfl ?_
      rw [f20]
      refine s_iaload n (n := 50) dX0_takeBackLatest_49 rfl rfl rfl hn ?_
      refine s_if_ne (n := 53) (t := 85) dX0_takeBackLatest_50 (by decide) rfl (fun h50 => ?_) (fun h50 => ?_)
      · refine s_aload_n (n := 86) dX0_takeBackLatest_85 rfl rfl rfl ?_
        refine s_getr (k2 := 21) (n := 89) dX0_takeBackLatest_86 rfl fl_X0_9 rfl rfl rfl ?_
        refine s_aload_n (n := 90) dX0_takeBackLatest_89 rfl rfl rfl ?_
        refine s_geti (n := 93) dX0_takeBackLatest_90 rfl fl_X0_21 rfl rfl ?_
        rw [f20]
        refine s_iaload n (n := 94) dX0_takeBackLatest_93 rfl rfl rfl hn ?_
        refine s_iconst (v := 3) (n := 95) dX0_takeBackLatest_94 rfl (by decide) ?_
        refine s_icmp_ne (n := 98) (t := 114) dX0_takeBackLatest_95 (by decide) rfl (fun h95 => ?_) (fun h95 => ?_)
        · refine s_aload_n (n := 115) dX0_takeBackLatest_114 rfl rfl rfl ?_
          refine s_getr (k2 := 21) (n := 118) dX0_takeBackLatest_115 rfl fl_X0_9 rfl rfl rfl ?_
          refine s_aload_n (n := 119) dX0_takeBackLatest_118 rfl rfl rfl ?_
          refine s_geti (n := 122) dX0_takeBackLatest_119 rfl fl_X0_21 rfl rfl ?_
          rw [f20]
          refine s_iaload n (n := 123) dX0_takeBackLatest_122 rfl rfl rfl hn ?_
          refine s_iconst (v := 1) (n := 124) dX0_takeBackLatest_123 rfl (by decide) ?_
          refine s_icmp_ne (n := 127) (t := 146) dX0_takeBackLatest_124 (by decide) rfl (fun h124 => ?_) (fun h124 => ?_)
          · refine s_iload_n (n := 147) dX0_takeBackLatest_146 rfl rfl rfl ?_
            refine s_if_eq (n := 150) (t := 183) dX0_takeBackLatest_147 (by decide) rfl (fun h => absurd h (by decide)) (fun _ => ?_)
            obtain ⟨i, hi, hie, hci⟩ := isH_ex hc hb37
            rw [hie]
            refine s_aload_n (n := 151) dX0_takeBackLatest_150 rfl rfl rfl ?_
            refine s_getr (k2 := 29) (n := 154) dX0_takeBackLatest_151 rfl fl_X0_46 rfl rfl rfl ?_
            refine s_iload_n (n := 155) dX0_takeBackLatest_154 rfl rfl rfl ?_
            refine s_aaload (k2 := 32 + i) (t := 0) i (n := 156) dX0_takeBackLatest_155 rfl rfl (by decide) rfl hi rfl ?_
            refine s_aload_n (n := 157) dX0_takeBackLatest_156 rfl rfl rfl ?_
            refine s_getr (k2 := 23) (n := 160) dX0_takeBackLatest_157 rfl fl_X0_18 rfl rfl rfl ?_
            refine s_aload_n (n := 161) dX0_takeBackLatest_160 rfl rfl rfl ?_
            refine s_geti (n := 164) dX0_takeBackLatest_161 rfl fl_X0_21 rfl rfl ?_
            rw [f20]
            refine s_iaload n (n := 165) dX0_takeBackLatest_164 rfl rfl rfl hn ?_
            refine s_bipush (v := 10) (n := 167) dX0_takeBackLatest_165 rfl (by decide) ?_
            refine s_idiv (n := 168) dX0_takeBackLatest_167 rfl (by decide) ?_
            refine s_aload_n (n := 169) dX0_takeBackLatest_168 rfl rfl rfl ?_
            refine s_getr (k2 := 23) (n := 172) dX0_takeBackLatest_169 rfl fl_X0_18 rfl rfl rfl ?_
            refine s_aload_n (n := 173) dX0_takeBackLatest_172 rfl rfl rfl ?_
            refine s_geti (n := 176) dX0_takeBackLatest_173 rfl fl_X0_21 rfl rfl ?_
            rw [f20]
            refine s_iaload n (n := 177) dX0_takeBackLatest_176 rfl rfl rfl hn ?_
            refine s_bipush (v := 10) (n := 179) dX0_takeBackLatest_177 rfl (by decide) ?_
            refine s_irem (n := 180) dX0_takeBackLatest_179 rfl (by decide) ?_
            refine s_cv2 (n := 183) dX0_takeBackLatest_180 rfl mo_X2_stand ml_X0_60 (hbh hb28 hi) (by decide) rfl rfl (Nat.le_of_ble_eq_true rfl) (Nat.le_of_ble_eq_true rfl) (c_X2_stand (hbh hb28 hi) _ _ ?_)
            dsimp only [m_push]
            refine s_return dX0_takeBackLatest_183 rfl ?_
            first
              | (unfold a_tkb at hQ
                 rw [if_pos h50, if_pos hb37, hie, nI_clamp (show i < 2 ^ 31 by omega)] at hQ
                 refine hQ _ ((fr1.up2 (by simp)).up2 (by rcases (show i = 0 ∨ i = 1 ∨ i = 2 ∨ i = 3 ∨ i = 4 ∨ i = 5 by omega) with rfl | rfl | rfl | rfl | rfl | rfl <;> simp)) ?_ ?_ ((hT1.year _).got hi _)
                 · rw [m_up_o (by omega), m_up_o (by decide)]; exact f20
                 · rw [m_up_o (by omega), m_up_k, if_neg (by decide)])
              | (unfold a_tkb at hQ
                 rw [if_pos h50, if_neg hb37] at hQ
                 exact hQ _ (fr1.up2 (by simp)) (by rw [m_up_o (by decide)]; exact f20) (by rw [m_up_k, if_neg (by decide)]) (hT1.year _))
              | (unfold a_tkb at hQ
                 rw [if_neg h50, if_pos h95] at hQ
                 exact hQ _ (fr1.up2 (by simp)) (by rw [m_up_o (by decide)]; exact f20) (by rw [m_up_k, if_neg (by decide)]) (hT1.speed _))
              | (unfold a_tkb at hQ
                 rw [if_neg h50, if_neg h95, if_pos ⟨h124, hb37⟩] at hQ
                 exact hQ _ (fr1.up2 (by simp)) (by rw [m_up_o (by decide)]; exact f20) (by rw [m_up_k, if_neg (by decide)]) (hT1.opn _))
              | (unfold a_tkb at hQ
                 rw [if_neg h50, if_neg h95, if_neg (fun q => h124 q.1), if_pos hb37, hie, nI_clamp (show i < 2 ^ 31 by omega)] at hQ
                 refine hQ _ ((fr1.up2 (by rcases (show i = 0 ∨ i = 1 ∨ i = 2 ∨ i = 3 ∨ i = 4 ∨ i = 5 by omega) with rfl | rfl | rfl | rfl | rfl | rfl <;> simp)).up2 (by rcases (show i = 0 ∨ i = 1 ∨ i = 2 ∨ i = 3 ∨ i = 4 ∨ i = 5 by omega) with rfl | rfl | rfl | rfl | rfl | rfl <;> simp)) ?_ ?_ ((hT1.tier hi _).line hi _)
                 · rw [m_up_o (by omega), m_up_o (by omega)]; exact f20
                 · rw [m_up_o (by omega), m_up_o (by omega)])
              | (unfold a_tkb at hQ
                 rw [if_neg h50, if_neg h95, if_neg (fun q => hb37 q.2), if_neg hb37] at hQ
                 exact hQ _ fr1 f20 rfl hT1)
          · refine s_iload_n (n := 128) dX0_takeBackLatest_127 rfl rfl rfl ?_
            refine s_if_eq (n := 131) (t := 146) dX0_takeBackLatest_128 (by decide) rfl (fun h => absurd h (by decide)) (fun _ => ?_)
            refine s_aload_n (n := 132) dX0_takeBackLatest_131 rfl rfl rfl ?_
            refine s_dup (n := 133) dX0_takeBackLatest_132 rfl rfl ?_
            refine s_geti (n := 136) dX0_takeBackLatest_133 rfl fl_X0_57 rfl rfl ?_
            rw [hT1.1.2.2.2.2.2.2.2.2]
            refine s_iconst (v := 1) (n := 137) dX0_takeBackLatest_136 rfl (by decide) ?_
            refine s_iload_n (n := 138) dX0_takeBackLatest_137 rfl rfl rfl ?_
            refine s_ishl (n := 139) dX0_takeBackLatest_138 rfl ?_
            refine s_ixor (n := 140) dX0_takeBackLatest_139 rfl ?_
            refine s_puti (n := 143) dX0_takeBackLatest_140 rfl fl_X0_57 rfl rfl rfl ?_
            refine s_goto (t := 183) dX0_takeBackLatest_143 (by decide) ?_
            refine s_return dX0_takeBackLatest_183 rfl ?_
            first
              | (unfold a_tkb at hQ
                 rw [if_pos h50, if_pos hb37, hie, nI_clamp (show i < 2 ^ 31 by omega)] at hQ
                 refine hQ _ ((fr1.up2 (by simp)).up2 (by rcases (show i = 0 ∨ i = 1 ∨ i = 2 ∨ i = 3 ∨ i = 4 ∨ i = 5 by omega) with rfl | rfl | rfl | rfl | rfl | rfl <;> simp)) ?_ ?_ ((hT1.year _).got hi _)
                 · rw [m_up_o (by omega), m_up_o (by decide)]; exact f20
                 · rw [m_up_o (by omega), m_up_k, if_neg (by decide)])
              | (unfold a_tkb at hQ
                 rw [if_pos h50, if_neg hb37] at hQ
                 exact hQ _ (fr1.up2 (by simp)) (by rw [m_up_o (by decide)]; exact f20) (by rw [m_up_k, if_neg (by decide)]) (hT1.year _))
              | (unfold a_tkb at hQ
                 rw [if_neg h50, if_pos h95] at hQ
                 exact hQ _ (fr1.up2 (by simp)) (by rw [m_up_o (by decide)]; exact f20) (by rw [m_up_k, if_neg (by decide)]) (hT1.speed _))
              | (unfold a_tkb at hQ
                 rw [if_neg h50, if_neg h95, if_pos ⟨h124, hb37⟩] at hQ
                 exact hQ _ (fr1.up2 (by simp)) (by rw [m_up_o (by decide)]; exact f20) (by rw [m_up_k, if_neg (by decide)]) (hT1.opn _))
              | (unfold a_tkb at hQ
                 rw [if_neg h50, if_neg h95, if_neg (fun q => h124 q.1), if_pos hb37, hie, nI_clamp (show i < 2 ^ 31 by omega)] at hQ
                 refine hQ _ ((fr1.up2 (by rcases (show i = 0 ∨ i = 1 ∨ i = 2 ∨ i = 3 ∨ i = 4 ∨ i = 5 by omega) with rfl | rfl | rfl | rfl | rfl | rfl <;> simp)).up2 (by rcases (show i = 0 ∨ i = 1 ∨ i = 2 ∨ i = 3 ∨ i = 4 ∨ i = 5 by omega) with rfl | rfl | rfl | rfl | rfl | rfl <;> simp)) ?_ ?_ ((hT1.tier hi _).line hi _)
                 · rw [m_up_o (by omega), m_up_o (by omega)]; exact f20
                 · rw [m_up_o (by omega), m_up_o (by omega)])
              | (unfold a_tkb at hQ
                 rw [if_neg h50, if_neg h95, if_neg (fun q => hb37 q.2), if_neg hb37] at hQ
                 exact hQ _ fr1 f20 rfl hT1)
        · refine s_aload_n (n := 99) dX0_takeBackLatest_98 rfl rfl rfl ?_
          refine s_aload_n (n := 100) dX0_takeBackLatest_99 rfl rfl rfl ?_
          refine s_getr (k2 := 23) (n := 103) dX0_takeBackLatest_100 rfl fl_X0_18 rfl rfl rfl ?_
          refine s_aload_n (n := 104) dX0_takeBackLatest_103 rfl rfl rfl ?_
          refine s_geti (n := 107) dX0_takeBackLatest_104 rfl fl_X0_21 rfl rfl ?_
          rw [f20]
          refine s_iaload n (n := 108) dX0_takeBackLatest_107 rfl rfl rfl hn ?_
          refine s_puti (n := 111) dX0_takeBackLatest_108 rfl fl_X0_54 rfl rfl rfl ?_
          refine s_goto (t := 183) dX0_takeBackLatest_111 (by decide) ?_
          refine s_return dX0_takeBackLatest_183 rfl ?_
          first
            | (unfold a_tkb at hQ
               rw [if_pos h50, if_pos hb37, hie, nI_clamp (show i < 2 ^ 31 by omega)] at hQ
               refine hQ _ ((fr1.up2 (by simp)).up2 (by rcases (show i = 0 ∨ i = 1 ∨ i = 2 ∨ i = 3 ∨ i = 4 ∨ i = 5 by omega) with rfl | rfl | rfl | rfl | rfl | rfl <;> simp)) ?_ ?_ ((hT1.year _).got hi _)
               · rw [m_up_o (by omega), m_up_o (by decide)]; exact f20
               · rw [m_up_o (by omega), m_up_k, if_neg (by decide)])
            | (unfold a_tkb at hQ
               rw [if_pos h50, if_neg hb37] at hQ
               exact hQ _ (fr1.up2 (by simp)) (by rw [m_up_o (by decide)]; exact f20) (by rw [m_up_k, if_neg (by decide)]) (hT1.year _))
            | (unfold a_tkb at hQ
               rw [if_neg h50, if_pos h95] at hQ
               exact hQ _ (fr1.up2 (by simp)) (by rw [m_up_o (by decide)]; exact f20) (by rw [m_up_k, if_neg (by decide)]) (hT1.speed _))
            | (unfold a_tkb at hQ
               rw [if_neg h50, if_neg h95, if_pos ⟨h124, hb37⟩] at hQ
               exact hQ _ (fr1.up2 (by simp)) (by rw [m_up_o (by decide)]; exact f20) (by rw [m_up_k, if_neg (by decide)]) (hT1.opn _))
            | (unfold a_tkb at hQ
               rw [if_neg h50, if_neg h95, if_neg (fun q => h124 q.1), if_pos hb37, hie, nI_clamp (show i < 2 ^ 31 by omega)] at hQ
               refine hQ _ ((fr1.up2 (by rcases (show i = 0 ∨ i = 1 ∨ i = 2 ∨ i = 3 ∨ i = 4 ∨ i = 5 by omega) with rfl | rfl | rfl | rfl | rfl | rfl <;> simp)).up2 (by rcases (show i = 0 ∨ i = 1 ∨ i = 2 ∨ i = 3 ∨ i = 4 ∨ i = 5 by omega) with rfl | rfl | rfl | rfl | rfl | rfl <;> simp)) ?_ ?_ ((hT1.tier hi _).line hi _)
               · rw [m_up_o (by omega), m_up_o (by omega)]; exact f20
               · rw [m_up_o (by omega), m_up_o (by omega)])
            | (unfold a_tkb at hQ
               rw [if_neg h50, if_neg h95, if_neg (fun q => hb37 q.2), if_neg hb37] at hQ
               exact hQ _ fr1 f20 rfl hT1)
      · refine s_aload_n (n := 54) dX0_takeBackLatest_53 rfl rfl rfl ?_
        refine s_dup (n := 55) dX0_takeBackLatest_54 rfl rfl ?_
        refine s_geti (n := 58) dX0_takeBackLatest_55 rfl fl_X0_43 rfl rfl ?_
        rw [hT1.1.2.2.2.2.2.2.2.1]
        refine s_iconst (v := 1) (n := 59) dX0_takeBackLatest_58 rfl (by decide) ?_
        refine s_isub (n := 60) dX0_takeBackLatest_59 rfl ?_
        refine s_puti (n := 63) dX0_takeBackLatest_60 rfl fl_X0_43 rfl rfl rfl ?_
        refine s_iload_n (n := 64) dX0_takeBackLatest_63 rfl rfl rfl ?_
        refine s_if_eq (n := 67) (t := 183) dX0_takeBackLatest_64 (by decide) rfl (fun h => absurd h (by decide)) (fun _ => ?_)
        obtain ⟨i, hi, hie, hci⟩ := isH_ex hc hb37
        rw [hie]
        refine s_aload_n (n := 68) dX0_takeBackLatest_67 rfl rfl rfl ?_
        refine s_getr (k2 := 29) (n := 71) dX0_takeBackLatest_68 rfl fl_X0_46 rfl rfl rfl ?_
        refine s_iload_n (n := 72) dX0_takeBackLatest_71 rfl rfl rfl ?_
        refine s_aaload (k2 := 32 + i) (t := 0) i (n := 73) dX0_takeBackLatest_72 rfl rfl (by decide) rfl hi rfl ?_
        refine s_dup (n := 74) dX0_takeBackLatest_73 rfl rfl ?_
        refine s_geti (n := 77) dX0_takeBackLatest_74 rfl fl_X0_49 rfl (hbh hb28 hi) ?_
        rw [m_up_o (show 32 + i ≠ 28 by omega), (hT1.2 i hi hci).2.2.2.2]
        refine s_iconst (v := 1) (n := 78) dX0_takeBackLatest_77 rfl (by decide) ?_
        refine s_isub (n := 79) dX0_takeBackLatest_78 rfl ?_
        refine s_puti (n := 82) dX0_takeBackLatest_79 rfl fl_X0_49 rfl rfl (hbh hb28 hi) ?_
        refine s_goto (t := 183) dX0_takeBackLatest_82 (by decide) ?_
        refine s_return dX0_takeBackLatest_183 rfl ?_
        first
          | (unfold a_tkb at hQ
             rw [if_pos h50, if_pos hb37, hie, nI_clamp (show i < 2 ^ 31 by omega)] at hQ
             refine hQ _ ((fr1.up2 (by simp)).up2 (by rcases (show i = 0 ∨ i = 1 ∨ i = 2 ∨ i = 3 ∨ i = 4 ∨ i = 5 by omega) with rfl | rfl | rfl | rfl | rfl | rfl <;> simp)) ?_ ?_ ((hT1.year _).got hi _)
             · rw [m_up_o (by omega), m_up_o (by decide)]; exact f20
             · rw [m_up_o (by omega), m_up_k, if_neg (by decide)])
          | (unfold a_tkb at hQ
             rw [if_pos h50, if_neg hb37] at hQ
             exact hQ _ (fr1.up2 (by simp)) (by rw [m_up_o (by decide)]; exact f20) (by rw [m_up_k, if_neg (by decide)]) (hT1.year _))
          | (unfold a_tkb at hQ
             rw [if_neg h50, if_pos h95] at hQ
             exact hQ _ (fr1.up2 (by simp)) (by rw [m_up_o (by decide)]; exact f20) (by rw [m_up_k, if_neg (by decide)]) (hT1.speed _))
          | (unfold a_tkb at hQ
             rw [if_neg h50, if_neg h95, if_pos ⟨h124, hb37⟩] at hQ
             exact hQ _ (fr1.up2 (by simp)) (by rw [m_up_o (by decide)]; exact f20) (by rw [m_up_k, if_neg (by decide)]) (hT1.opn _))
          | (unfold a_tkb at hQ
             rw [if_neg h50, if_neg h95, if_neg (fun q => h124 q.1), if_pos hb37, hie, nI_clamp (show i < 2 ^ 31 by omega)] at hQ
             refine hQ _ ((fr1.up2 (by rcases (show i = 0 ∨ i = 1 ∨ i = 2 ∨ i = 3 ∨ i = 4 ∨ i = 5 by omega) with rfl | rfl | rfl | rfl | rfl | rfl <;> simp)).up2 (by rcases (show i = 0 ∨ i = 1 ∨ i = 2 ∨ i = 3 ∨ i = 4 ∨ i = 5 by omega) with rfl | rfl | rfl | rfl | rfl | rfl <;> simp)) ?_ ?_ ((hT1.tier hi _).line hi _)
             · rw [m_up_o (by omega), m_up_o (by omega)]; exact f20
             · rw [m_up_o (by omega), m_up_o (by omega)])
          | (unfold a_tkb at hQ
             rw [if_neg h50, if_neg h95, if_neg (fun q => hb37 q.2), if_neg hb37] at hQ
             exact hQ _ fr1 f20 rfl hT1)
    · dsimp only [m_push]
      refine s_istore_n (n := 41) dX0_takeBackLatest_40 rfl rfl (by decide) rfl rfl ?_
      refine s_aload_n (n := 42) dX0_takeBackLatest_41 rfl rfl rfl ?_
      refine s_getr (k2 := 21) (n := 45) dX0_takeBackLatest_42 rfl fl_X0_9 rfl rfl rfl ?_
      refine s_aload_n (n := 46) dX0_takeBackLatest_45 rfl rfl rfl ?_
      refine s_geti (n := 49) dX0_takeBackLatest_46 rfl fl_X0_21 rfl rfl ?_
      rw [f20]
      refine s_iaload n (n := 50) dX0_takeBackLatest_49 rfl rfl rfl hn ?_
      refine s_if_ne (n := 53) (t := 85) dX0_takeBackLatest_50 (by decide) rfl (fun h50 => ?_) (fun h50 => ?_)
      · refine s_aload_n (n := 86) dX0_takeBackLatest_85 rfl rfl rfl ?_
        refine s_getr (k2 := 21) (n := 89) dX0_takeBackLatest_86 rfl fl_X0_9 rfl rfl rfl ?_
        refine s_aload_n (n := 90) dX0_takeBackLatest_89 rfl rfl rfl ?_
        refine s_geti (n := 93) dX0_takeBackLatest_90 rfl fl_X0_21 rfl rfl ?_
        rw [f20]
        refine s_iaload n (n := 94) dX0_takeBackLatest_93 rfl rfl rfl hn ?_
        refine s_iconst (v := 3) (n := 95) dX0_takeBackLatest_94 rfl (by decide) ?_
        refine s_icmp_ne (n := 98) (t := 114) dX0_takeBackLatest_95 (by decide) rfl (fun h95 => ?_) (fun h95 => ?_)
        · refine s_aload_n (n := 115) dX0_takeBackLatest_114 rfl rfl rfl ?_
          refine s_getr (k2 := 21) (n := 118) dX0_takeBackLatest_115 rfl fl_X0_9 rfl rfl rfl ?_
          refine s_aload_n (n := 119) dX0_takeBackLatest_118 rfl rfl rfl ?_
          refine s_geti (n := 122) dX0_takeBackLatest_119 rfl fl_X0_21 rfl rfl ?_
          rw [f20]
          refine s_iaload n (n := 123) dX0_takeBackLatest_122 rfl rfl rfl hn ?_
          refine s_iconst (v := 1) (n := 124) dX0_takeBackLatest_123 rfl (by decide) ?_
          refine s_icmp_ne (n := 127) (t := 146) dX0_takeBackLatest_124 (by decide) rfl (fun h124 => ?_) (fun h124 => ?_)
          · refine s_iload_n (n := 147) dX0_takeBackLatest_146 rfl rfl rfl ?_
            refine s_if_eq (n := 150) (t := 183) dX0_takeBackLatest_147 (by decide) rfl (fun _ => ?_) (fun h => absurd h (by decide))
            refine s_return dX0_takeBackLatest_183 rfl ?_
            first
              | (unfold a_tkb at hQ
                 rw [if_pos h50, if_pos hb37, hie, nI_clamp (show i < 2 ^ 31 by omega)] at hQ
                 refine hQ _ ((fr1.up2 (by simp)).up2 (by rcases (show i = 0 ∨ i = 1 ∨ i = 2 ∨ i = 3 ∨ i = 4 ∨ i = 5 by omega) with rfl | rfl | rfl | rfl | rfl | rfl <;> simp)) ?_ ?_ ((hT1.year _).got hi _)
                 · rw [m_up_o (by omega), m_up_o (by decide)]; exact f20
                 · rw [m_up_o (by omega), m_up_k, if_neg (by decide)])
              | (unfold a_tkb at hQ
                 rw [if_pos h50, if_neg hb37] at hQ
                 exact hQ _ (fr1.up2 (by simp)) (by rw [m_up_o (by decide)]; exact f20) (by rw [m_up_k, if_neg (by decide)]) (hT1.year _))
              | (unfold a_tkb at hQ
                 rw [if_neg h50, if_pos h95] at hQ
                 exact hQ _ (fr1.up2 (by simp)) (by rw [m_up_o (by decide)]; exact f20) (by rw [m_up_k, if_neg (by decide)]) (hT1.speed _))
              | (unfold a_tkb at hQ
                 rw [if_neg h50, if_neg h95, if_pos ⟨h124, hb37⟩] at hQ
                 exact hQ _ (fr1.up2 (by simp)) (by rw [m_up_o (by decide)]; exact f20) (by rw [m_up_k, if_neg (by decide)]) (hT1.opn _))
              | (unfold a_tkb at hQ
                 rw [if_neg h50, if_neg h95, if_neg (fun q => h124 q.1), if_pos hb37, hie, nI_clamp (show i < 2 ^ 31 by omega)] at hQ
                 refine hQ _ ((fr1.up2 (by rcases (show i = 0 ∨ i = 1 ∨ i = 2 ∨ i = 3 ∨ i = 4 ∨ i = 5 by omega) with rfl | rfl | rfl | rfl | rfl | rfl <;> simp)).up2 (by rcases (show i = 0 ∨ i = 1 ∨ i = 2 ∨ i = 3 ∨ i = 4 ∨ i = 5 by omega) with rfl | rfl | rfl | rfl | rfl | rfl <;> simp)) ?_ ?_ ((hT1.tier hi _).line hi _)
                 · rw [m_up_o (by omega), m_up_o (by omega)]; exact f20
                 · rw [m_up_o (by omega), m_up_o (by omega)])
              | (unfold a_tkb at hQ
                 rw [if_neg h50, if_neg h95, if_neg (fun q => hb37 q.2), if_neg hb37] at hQ
                 exact hQ _ fr1 f20 rfl hT1)
          · refine s_iload_n (n := 128) dX0_takeBackLatest_127 rfl rfl rfl ?_
            refine s_if_eq (n := 131) (t := 146) dX0_takeBackLatest_128 (by decide) rfl (fun _ => ?_) (fun h => absurd h (by decide))
            refine s_iload_n (n := 147) dX0_takeBackLatest_146 rfl rfl rfl ?_
            refine s_if_eq (n := 150) (t := 183) dX0_takeBackLatest_147 (by decide) rfl (fun _ => ?_) (fun h => absurd h (by decide))
            refine s_return dX0_takeBackLatest_183 rfl ?_
            first
              | (unfold a_tkb at hQ
                 rw [if_pos h50, if_pos hb37, hie, nI_clamp (show i < 2 ^ 31 by omega)] at hQ
                 refine hQ _ ((fr1.up2 (by simp)).up2 (by rcases (show i = 0 ∨ i = 1 ∨ i = 2 ∨ i = 3 ∨ i = 4 ∨ i = 5 by omega) with rfl | rfl | rfl | rfl | rfl | rfl <;> simp)) ?_ ?_ ((hT1.year _).got hi _)
                 · rw [m_up_o (by omega), m_up_o (by decide)]; exact f20
                 · rw [m_up_o (by omega), m_up_k, if_neg (by decide)])
              | (unfold a_tkb at hQ
                 rw [if_pos h50, if_neg hb37] at hQ
                 exact hQ _ (fr1.up2 (by simp)) (by rw [m_up_o (by decide)]; exact f20) (by rw [m_up_k, if_neg (by decide)]) (hT1.year _))
              | (unfold a_tkb at hQ
                 rw [if_neg h50, if_pos h95] at hQ
                 exact hQ _ (fr1.up2 (by simp)) (by rw [m_up_o (by decide)]; exact f20) (by rw [m_up_k, if_neg (by decide)]) (hT1.speed _))
              | (unfold a_tkb at hQ
                 rw [if_neg h50, if_neg h95, if_pos ⟨h124, hb37⟩] at hQ
                 exact hQ _ (fr1.up2 (by simp)) (by rw [m_up_o (by decide)]; exact f20) (by rw [m_up_k, if_neg (by decide)]) (hT1.opn _))
              | (unfold a_tkb at hQ
                 rw [if_neg h50, if_neg h95, if_neg (fun q => h124 q.1), if_pos hb37, hie, nI_clamp (show i < 2 ^ 31 by omega)] at hQ
                 refine hQ _ ((fr1.up2 (by rcases (show i = 0 ∨ i = 1 ∨ i = 2 ∨ i = 3 ∨ i = 4 ∨ i = 5 by omega) with rfl | rfl | rfl | rfl | rfl | rfl <;> simp)).up2 (by rcases (show i = 0 ∨ i = 1 ∨ i = 2 ∨ i = 3 ∨ i = 4 ∨ i = 5 by omega) with rfl | rfl | rfl | rfl | rfl | rfl <;> simp)) ?_ ?_ ((hT1.tier hi _).line hi _)
                 · rw [m_up_o (by omega), m_up_o (by omega)]; exact f20
                 · rw [m_up_o (by omega), m_up_o (by omega)])
              | (unfold a_tkb at hQ
                 rw [if_neg h50, if_neg h95, if_neg (fun q => hb37 q.2), if_neg hb37] at hQ
                 exact hQ _ fr1 f20 rfl hT1)
        · refine s_aload_n (n := 99) dX0_takeBackLatest_98 rfl rfl rfl ?_
          refine s_aload_n (n := 100) dX0_takeBackLatest_99 rfl rfl rfl ?_
          refine s_getr (k2 := 23) (n := 103) dX0_takeBackLatest_100 rfl fl_X0_18 rfl rfl rfl ?_
          refine s_aload_n (n := 104) dX0_takeBackLatest_103 rfl rfl rfl ?_
          refine s_geti (n := 107) dX0_takeBackLatest_104 rfl fl_X0_21 rfl rfl ?_
          rw [f20]
          refine s_iaload n (n := 108) dX0_takeBackLatest_107 rfl rfl rfl hn ?_
          refine s_puti (n := 111) dX0_takeBackLatest_108 rfl fl_X0_54 rfl rfl rfl ?_
          refine s_goto (t := 183) dX0_takeBackLatest_111 (by decide) ?_
          refine s_return dX0_takeBackLatest_183 rfl ?_
          first
            | (unfold a_tkb at hQ
               rw [if_pos h50, if_pos hb37, hie, nI_clamp (show i < 2 ^ 31 by omega)] at hQ
               refine hQ _ ((fr1.up2 (by simp)).up2 (by rcases (show i = 0 ∨ i = 1 ∨ i = 2 ∨ i = 3 ∨ i = 4 ∨ i = 5 by omega) with rfl | rfl | rfl | rfl | rfl | rfl <;> simp)) ?_ ?_ ((hT1.year _).got hi _)
               · rw [m_up_o (by omega), m_up_o (by decide)]; exact f20
               · rw [m_up_o (by omega), m_up_k, if_neg (by decide)])
            | (unfold a_tkb at hQ
               rw [if_pos h50, if_neg hb37] at hQ
               exact hQ _ (fr1.up2 (by simp)) (by rw [m_up_o (by decide)]; exact f20) (by rw [m_up_k, if_neg (by decide)]) (hT1.year _))
            | (unfold a_tkb at hQ
               rw [if_neg h50, if_pos h95] at hQ
               exact hQ _ (fr1.up2 (by simp)) (by rw [m_up_o (by decide)]; exact f20) (by rw [m_up_k, if_neg (by decide)]) (hT1.speed _))
            | (unfold a_tkb at hQ
               rw [if_neg h50, if_neg h95, if_pos ⟨h124, hb37⟩] at hQ
               exact hQ _ (fr1.up2 (by simp)) (by rw [m_up_o (by decide)]; exact f20) (by rw [m_up_k, if_neg (by decide)]) (hT1.opn _))
            | (unfold a_tkb at hQ
               rw [if_neg h50, if_neg h95, if_neg (fun q => h124 q.1), if_pos hb37, hie, nI_clamp (show i < 2 ^ 31 by omega)] at hQ
               refine hQ _ ((fr1.up2 (by rcases (show i = 0 ∨ i = 1 ∨ i = 2 ∨ i = 3 ∨ i = 4 ∨ i = 5 by omega) with rfl | rfl | rfl | rfl | rfl | rfl <;> simp)).up2 (by rcases (show i = 0 ∨ i = 1 ∨ i = 2 ∨ i = 3 ∨ i = 4 ∨ i = 5 by omega) with rfl | rfl | rfl | rfl | rfl | rfl <;> simp)) ?_ ?_ ((hT1.tier hi _).line hi _)
               · rw [m_up_o (by omega), m_up_o (by omega)]; exact f20
               · rw [m_up_o (by omega), m_up_o (by omega)])
            | (unfold a_tkb at hQ
               rw [if_neg h50, if_neg h95, if_neg (fun q => hb37 q.2), if_neg hb37] at hQ
               exact hQ _ fr1 f20 rfl hT1)
      · refine s_aload_n (n := 54) dX0_takeBackLatest_53 rfl rfl rfl ?_
        refine s_dup (n := 55) dX0_takeBackLatest_54 rfl rfl ?_
        refine s_geti (n := 58) dX0_takeBackLatest_55 rfl fl_X0_43 rfl rfl ?_
        rw [hT1.1.2.2.2.2.2.2.2.1]
        refine s_iconst (v := 1) (n := 59) dX0_takeBackLatest_58 rfl (by decide) ?_
        refine s_isub (n := 60) dX0_takeBackLatest_59 rfl ?_
        refine s_puti (n := 63) dX0_takeBackLatest_60 rfl fl_X0_43 rfl rfl rfl ?_
        refine s_iload_n (n := 64) dX0_takeBackLatest_63 rfl rfl rfl ?_
        refine s_if_eq (n := 67) (t := 183) dX0_takeBackLatest_64 (by decide) rfl (fun _ => ?_) (fun h => absurd h (by decide))
        refine s_return dX0_takeBackLatest_183 rfl ?_
        first
          | (unfold a_tkb at hQ
             rw [if_pos h50, if_pos hb37, hie, nI_clamp (show i < 2 ^ 31 by omega)] at hQ
             refine hQ _ ((fr1.up2 (by simp)).up2 (by rcases (show i = 0 ∨ i = 1 ∨ i = 2 ∨ i = 3 ∨ i = 4 ∨ i = 5 by omega) with rfl | rfl | rfl | rfl | rfl | rfl <;> simp)) ?_ ?_ ((hT1.year _).got hi _)
             · rw [m_up_o (by omega), m_up_o (by decide)]; exact f20
             · rw [m_up_o (by omega), m_up_k, if_neg (by decide)])
          | (unfold a_tkb at hQ
             rw [if_pos h50, if_neg hb37] at hQ
             exact hQ _ (fr1.up2 (by simp)) (by rw [m_up_o (by decide)]; exact f20) (by rw [m_up_k, if_neg (by decide)]) (hT1.year _))
          | (unfold a_tkb at hQ
             rw [if_neg h50, if_pos h95] at hQ
             exact hQ _ (fr1.up2 (by simp)) (by rw [m_up_o (by decide)]; exact f20) (by rw [m_up_k, if_neg (by decide)]) (hT1.speed _))
          | (unfold a_tkb at hQ
             rw [if_neg h50, if_neg h95, if_pos ⟨h124, hb37⟩] at hQ
             exact hQ _ (fr1.up2 (by simp)) (by rw [m_up_o (by decide)]; exact f20) (by rw [m_up_k, if_neg (by decide)]) (hT1.opn _))
          | (unfold a_tkb at hQ
             rw [if_neg h50, if_neg h95, if_neg (fun q => h124 q.1), if_pos hb37, hie, nI_clamp (show i < 2 ^ 31 by omega)] at hQ
             refine hQ _ ((fr1.up2 (by rcases (show i = 0 ∨ i = 1 ∨ i = 2 ∨ i = 3 ∨ i = 4 ∨ i = 5 by omega) with rfl | rfl | rfl | rfl | rfl | rfl <;> simp)).up2 (by rcases (show i = 0 ∨ i = 1 ∨ i = 2 ∨ i = 3 ∨ i = 4 ∨ i = 5 by omega) with rfl | rfl | rfl | rfl | rfl | rfl <;> simp)) ?_ ?_ ((hT1.tier hi _).line hi _)
             · rw [m_up_o (by omega), m_up_o (by omega)]; exact f20
             · rw [m_up_o (by omega), m_up_o (by omega)])
          | (unfold a_tkb at hQ
             rw [if_neg h50, if_neg h95, if_neg (fun q => hb37 q.2), if_neg hb37] at hQ
             exact hQ _ fr1 f20 rfl hT1)
  · exact absurd (by rw [show (1 : Int32) = nI 1 from rfl]; exact nI_le (by omega) (by omega)) h5
theorem lp_X9_keepPast {SL d : Nat} {Q : Option Int32 → m_G → Prop} (g0 : m_G) : ∀ (n i : Nat) (g : m_G), i + n = 897 → g 78 2 = 24 → (∀ q, q < i → g 79 (39 + q) = g0 79 (78 + q)) → (∀ q, (q < 39 ∨ 39 + i ≤ q) → g 79 q = g0 79 q) → (∀ g2, m_fr [79] g g2 → (∀ q, q < 897 → g2 79 (39 + q) = g0 79 (78 + q)) → (∀ q, (q < 39 ∨ 39 + 897 ≤ q) → g2 79 q = g0 79 q) → Sim SL d yX9_keepPast cX9_keepPast 2 none 42 [.ref 78, .int 897] [] g2 Q) → Sim SL d yX9_keepPast cX9_keepPast 2 none 2 [.ref 78, .int (nI i)] [] g Q := by
  intro n
  induction n with
  | zero =>
    intro i g hin h24 r6 r7 hQ
    have hi : i = 897 := by omega
    subst hi
    refine s_iload_n (n := 3) dX9_keepPast_2 rfl rfl rfl ?_
    refine s_sipush (v := 897) (n := 6) dX9_keepPast_3 rfl (by decide) ?_
    refine s_icmp_ge (n := 9) (t := 42) dX9_keepPast_6 (by decide) rfl (fun h6 => ?_) (fun h6 => ?_)
    · exact hQ g m_fr.rf r6 r7
    · exact absurd (by decide) h6
  | succ n ih =>
    intro i g hin h24 r6 r7 hQ
    have hi : i < 897 := by omega
    refine s_iload_n (n := 3) dX9_keepPast_2 rfl rfl rfl ?_
    refine s_sipush (v := 897) (n := 6) dX9_keepPast_3 rfl (by decide) ?_
    refine s_icmp_ge (n := 9) (t := 42) dX9_keepPast_6 (by decide) rfl (fun h6 => ?_) (fun h6 => ?_)
    · exact absurd h6 (nI_ge hi (by decide))
    · refine s_aload_n (n := 10) dX9_keepPast_9 rfl rfl rfl ?_
      refine s_geti (n := 13) dX9_keepPast_10 rfl fl_X9_154 rfl rfl ?_
      rw [h24]
      refine s_bipush (v := 24) (n := 15) dX9_keepPast_13 rfl (by decide) ?_
      refine s_icmp_ne (n := 18) (t := 42) dX9_keepPast_15 (by decide) rfl (fun h15 => ?_) (fun h15 => ?_)
      · exact absurd rfl h15
      · refine s_aload_n (n := 19) dX9_keepPast_18 rfl rfl rfl ?_
        refine s_getr (k2 := 79) (n := 22) dX9_keepPast_19 rfl fl_X9_7 rfl rfl rfl ?_
        refine s_bipush (v := 39) (n := 24) dX9_keepPast_22 rfl (by decide) ?_
        refine s_iload_n (n := 25) dX9_keepPast_24 rfl rfl rfl ?_
        refine s_iadd (n := 26) dX9_keepPast_25 rfl ?_
        refine s_aload_n (n := 27) dX9_keepPast_26 rfl rfl rfl ?_
        refine s_getr (k2 := 79) (n := 30) dX9_keepPast_27 rfl fl_X9_7 rfl rfl rfl ?_
        refine s_bipush (v := 78) (n := 32) dX9_keepPast_30 rfl (by decide) ?_
        refine s_iload_n (n := 33) dX9_keepPast_32 rfl rfl rfl ?_
        refine s_iadd (n := 34) dX9_keepPast_33 rfl ?_
        refine s_iaload (78 + i) (n := 35) dX9_keepPast_34 rfl rfl (ix2m rfl) (by omega) ?_
        refine s_iastore (39 + i) (n := 36) dX9_keepPast_35 rfl rfl (ix2m rfl) (by omega) ?_
        refine s_iinc (n := 39) (v := nI (i + 1)) dX9_keepPast_36 rfl (by decide) rfl rfl (nI_1 i) rfl ?_
        refine s_goto (t := 2) dX9_keepPast_39 (by decide) ?_
        refine ih (i + 1) _ (by omega) (by rw [m_up_o (by decide)]; exact h24) ?_ ?_ (fun g2 hf => hQ g2 ((m_fr.up (by simp)).tr hf))
        · intro q hq
          rw [m_up_k]
          by_cases e : q = i
          · subst e; rw [if_pos rfl]; exact r7 _ (Or.inr (by omega))
          · rw [if_neg (by omega)]; exact r6 q (by omega)
        · intro q hq
          rw [m_up_k, if_neg (by omega)]
          exact r7 q (by omega)
theorem k42_X9_keepPast {SL d : Nat} {Q : Option Int32 → m_G → Prop} {g : m_G} {x : Int32} {m : Nat} (hm24 : m < 24) (hm : g 78 2 - (if g 78 2 = 24 then 1 else 0) = nI m) (hQ : ∀ g2, m_fr [78, 79] g g2 → (∀ j, j ≠ 2 → g2 78 j = g 78 j) → g2 78 2 = nI (m + 1) → (∀ j, j < 39 → g2 79 (39 + 39 * m + j) = g 79 (0 + j)) → (∀ q, (q < 39 + 39 * m ∨ 39 + 39 * m + 39 ≤ q) → g2 79 q = g 79 q) → Q none g2) : Sim SL (d + 1) yX9_keepPast cX9_keepPast 2 none 42 [.ref 78, .int x] [] g Q := by
  refine s_aload_n (n := 43) dX9_keepPast_42 rfl rfl rfl ?_
  refine s_dup (n := 44) dX9_keepPast_43 rfl rfl ?_
  refine s_geti (n := 47) dX9_keepPast_44 rfl fl_X9_154 rfl rfl ?_
  refine s_aload_n (n := 48) dX9_keepPast_47 rfl rfl rfl ?_
  refine s_geti (n := 51) dX9_keepPast_48 rfl fl_X9_154 rfl rfl ?_
  refine s_bipush (v := 24) (n := 53) dX9_keepPast_51 rfl (by decide) ?_
  refine s_mat_icmp_ne (n := 61) (t := 60) dX9_keepPast_53 (by decide) dX9_keepPast_56 dX9_keepPast_57 (by decide) dX9_keepPast_60 rfl (u := 0) (v := 1) (by decide) (by decide) ?_
  refine s_isub (n := 62) dX9_keepPast_61 rfl ?_
  rw [hm]
  refine s_puti (n := 65) dX9_keepPast_62 rfl fl_X9_154 rfl rfl rfl ?_
  refine s_aload_n (n := 66) dX9_keepPast_65 rfl rfl rfl ?_
  refine s_iconst (v := 0) (n := 67) dX9_keepPast_66 rfl (by decide) ?_
  refine s_bipush (v := 39) (n := 69) dX9_keepPast_67 rfl (by decide) ?_
  refine s_bipush (v := 39) (n := 71) dX9_keepPast_69 rfl (by decide) ?_
  refine s_aload_n (n := 72) dX9_keepPast_71 rfl rfl rfl ?_
  refine s_geti (n := 75) dX9_keepPast_72 rfl fl_X9_154 rfl rfl ?_
  rw [m_up_k, if_pos rfl]
  refine s_imul (n := 76) dX9_keepPast_75 rfl ?_
  refine s_iadd (n := 77) dX9_keepPast_76 rfl ?_
  refine s_cv2 (n := 80) dX9_keepPast_77 rfl mo_X9_copyTown ml_X9_146 rfl (by decide) rfl rfl (Nat.le_of_ble_eq_true rfl) (Nat.le_of_ble_eq_true rfl) (c_X9_copyTown 0 (39 + 39 * m) rfl (by rw [show (39 : Int32) = nI 39 from rfl, pk_mul, nI_add]) (by decide) (by omega) (by omega) (fun g2 hf w1 w2 => ?_))
  dsimp only [m_push]
  refine s_aload_n (n := 81) dX9_keepPast_80 rfl rfl rfl ?_
  refine s_dup (n := 82) dX9_keepPast_81 rfl rfl ?_
  refine s_geti (n := 85) dX9_keepPast_82 rfl fl_X9_154 rfl rfl ?_
  rw [hf 78 (by decide), m_up_k, if_pos rfl]
  refine s_iconst (v := 1) (n := 86) dX9_keepPast_85 rfl (by decide) ?_
  refine s_iadd (n := 87) dX9_keepPast_86 rfl ?_
  refine s_puti (n := 90) dX9_keepPast_87 rfl fl_X9_154 rfl rfl rfl ?_
  refine s_return dX9_keepPast_90 rfl ?_
  refine hQ _ (((m_fr.up (by simp)).tr (hf.mono (by simp))).up2 (by simp)) (fun j hj => ?_) ?_ ?_ ?_
  · rw [m_up_k, if_neg hj, hf 78 (by decide), m_up_k, if_neg hj]
  · rw [m_up_k, if_pos rfl, nI_1]
  · intro j hj
    rw [m_up_o (by decide), w1 j hj, m_up_o (by decide)]
  · intro q hq
    rw [m_up_o (by decide), w2 q hq, m_up_o (by decide)]
theorem c_X9_keepPast {SL : Nat} {d : Nat} {Q : Option Int32 → m_G → Prop} {g : m_G} {t : m_T} {ps : List m_T} (hg : g 78 2 = nI ps.length) (hl : ps.length ≤ 24) (hp : M_pa g ps) (hT : TM g 0 t) (hQ : ∀ g2, m_fr [78, 79] g g2 → (∀ j, j ≠ 2 → g2 78 j = g 78 j) → (∀ j, (j < 39 ∨ 975 ≤ j) → g2 79 j = g 79 j) → g2 78 2 = nI (a_push t ps).length → M_pa g2 (a_push t ps) → Q none g2) : Sim SL (d + 1) yX9_keepPast cX9_keepPast 2 none 0 [.ref 78, .null] [] g Q := by
  refine s_iconst (v := 0) (n := 1) dX9_keepPast_0 rfl (by decide) ?_
  refine s_istore_n (n := 2) dX9_keepPast_1 rfl rfl (by decide) rfl rfl ?_
  by_cases hlen : ps.length = 24
  · have h24 : g 78 2 = 24 := by rw [hg, hlen]; rfl
    refine lp_X9_keepPast g 897 0 g rfl h24 (fun q hq => absurd hq (by omega)) (fun _ _ => rfl) (fun g1 hf1 s1 s2 => ?_)
    have e78 : g1 78 = g 78 := hf1 78 (by decide)
    refine k42_X9_keepPast (m := 23) (by decide) (by rw [e78, h24]; decide) (fun g2 hf v1 v2 v3 v4 => ?_)
    have hlp : (a_push t ps).length = 24 := by rw [a_push_len _ _ hl, if_pos hlen]
    refine hQ g2 ((hf1.mono (by simp)).tr hf) (fun j hj => by rw [v1 j hj, e78]) (fun j hj => by rw [v4 j (by omega)]; exact s2 j (by omega)) (by rw [v2, hlp]) ?_
    have hsh : M_pa g1 (ps.take 23) := M_pa.shift s1 23 ps hlen (by decide) hp
    have hl23 : (ps.take 23).length = 23 := by rw [List.length_take, hlen]; rfl
    rw [a_push_24]
    refine ⟨fun j hj => ?_, ?_⟩
    · rw [hl23, v3 j hj, s2 _ (by omega)]
      exact hT j hj
    · have key : ∀ qs : List m_T, qs.length ≤ 23 → M_pa g1 qs → M_pa g2 qs := by
        intro qs
        induction qs with
        | nil => intro _ _; trivial
        | cons p qs ih =>
          intro hl2 h2
          have hl3 : qs.length + 1 ≤ 23 := hl2
          exact ⟨h2.1.kept (fun j hj => v4 _ (by omega)), ih (by omega) h2.2⟩
      exact key _ (by omega) hsh
  · have hlt : ps.length < 24 := by omega
    have hne : ¬ g 78 2 = 24 := fun q => hlen ((nI_eq (by omega) (by decide)).mp (hg.symm.trans q))
    refine s_iload_n (n := 3) dX9_keepPast_2 rfl rfl rfl ?_
    refine s_sipush (v := 897) (n := 6) dX9_keepPast_3 rfl (by decide) ?_
    refine s_icmp_ge (n := 9) (t := 42) dX9_keepPast_6 (by decide) rfl (fun h => absurd h (by decide)) (fun _ => ?_)
    refine s_aload_n (n := 10) dX9_keepPast_9 rfl rfl rfl ?_
    refine s_geti (n := 13) dX9_keepPast_10 rfl fl_X9_154 rfl rfl ?_
    refine s_bipush (v := 24) (n := 15) dX9_keepPast_13 rfl (by decide) ?_
    refine s_icmp_ne (n := 18) (t := 42) dX9_keepPast_15 (by decide) rfl (fun h15 => ?_) (fun h15 => ?_)
    · refine k42_X9_keepPast (m := ps.length) hlt (by rw [if_neg hne, hg]; exact Int32.sub_zero _) (fun g2 hf v1 v2 v3 v4 => ?_)
      refine hQ g2 hf v1 (fun j hj => v4 j (by omega)) (by rw [v2, a_push_lt _ _ hlt]; rfl) ?_
      rw [a_push_lt _ _ hlt]
      refine ⟨fun j hj => by rw [v3 j hj]; exact hT j hj, ?_⟩
      have key : ∀ qs : List m_T, qs.length ≤ ps.length → M_pa g qs → M_pa g2 qs := by
        intro qs
        induction qs with
        | nil => intro _ _; trivial
        | cons p qs ih =>
          intro hl2 h2
          have hl3 : qs.length + 1 ≤ ps.length := hl2
          exact ⟨h2.1.kept (fun j hj => v4 _ (by omega)), ih (by omega) h2.2⟩
      exact key _ (Nat.le_refl _) hp
    · exact absurd h15 hne
