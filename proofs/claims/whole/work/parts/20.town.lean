theorem c_X2_become {SL : Nat} {d : Nat} {Q : Option Int32 → m_G → Prop} {g : m_G} {x o : Nat} (hx : (m_sh x).1 = 2) (ho : (m_sh o).1 = 2) (hne : o ≠ x) (hQ : ∀ g2, m_fr [x] g g2 → (∀ j, j < 5 → g2 x j = g o j) → Q none g2) : Sim SL d yX2_become cX2_become 2 none 0 [.ref x, .ref o] [] g Q := by
  refine s_aload_n (n := 1) dX2_become_0 rfl rfl rfl ?_
  refine s_aload_n (n := 2) dX2_become_1 rfl rfl rfl ?_
  refine s_geti (n := 5) dX2_become_2 rfl fl_X2_7 rfl ho ?_
  refine s_puti (n := 8) dX2_become_5 rfl fl_X2_7 rfl rfl hx ?_
  refine s_aload_n (n := 9) dX2_become_8 rfl rfl rfl ?_
  refine s_aload_n (n := 10) dX2_become_9 rfl rfl rfl ?_
  refine s_geti (n := 13) dX2_become_10 rfl fl_X2_13 rfl ho ?_
  refine s_puti (n := 16) dX2_become_13 rfl fl_X2_13 rfl rfl hx ?_
  refine s_aload_n (n := 17) dX2_become_16 rfl rfl rfl ?_
  refine s_aload_n (n := 18) dX2_become_17 rfl rfl rfl ?_
  refine s_geti (n := 21) dX2_become_18 rfl fl_X2_16 rfl ho ?_
  refine s_puti (n := 24) dX2_become_21 rfl fl_X2_16 rfl rfl hx ?_
  refine s_aload_n (n := 25) dX2_become_24 rfl rfl rfl ?_
  refine s_aload_n (n := 26) dX2_become_25 rfl rfl rfl ?_
  refine s_geti (n := 29) dX2_become_26 rfl fl_X2_19 rfl ho ?_
  refine s_puti (n := 32) dX2_become_29 rfl fl_X2_19 rfl rfl hx ?_
  refine s_aload_n (n := 33) dX2_become_32 rfl rfl rfl ?_
  refine s_aload_n (n := 34) dX2_become_33 rfl rfl rfl ?_
  refine s_geti (n := 37) dX2_become_34 rfl fl_X2_22 rfl ho ?_
  refine s_puti (n := 40) dX2_become_37 rfl fl_X2_22 rfl rfl hx ?_
  refine s_return dX2_become_40 rfl ?_
  refine hQ _ (((((m_fr.up (by simp)).up2 (by simp)).up2 (by simp)).up2 (by simp)).up2 (by simp)) ?_
  intro j hj
  simp only [m_up_o hne]
  rcases (show j = 0 ∨ j = 1 ∨ j = 2 ∨ j = 3 ∨ j = 4 by omega) with rfl | rfl | rfl | rfl | rfl <;> simp [m_up_k]
def m_hs (k : Nat) : List Nat := [k, k + 4, k + 5, k + 6, k + 7, k + 8, k + 9]
theorem m_hs_h {k i : Nat} (hi : i < 6) : k + 4 + i ∈ m_hs k := by
  rcases (show i = 0 ∨ i = 1 ∨ i = 2 ∨ i = 3 ∨ i = 4 ∨ i = 5 by omega) with rfl | rfl | rfl | rfl | rfl | rfl <;> simp [m_hs]
theorem m_hb_ne {k o : Nat} (hk : m_hb k) (ho : m_hb o) (hne : o ≠ k) : k + 10 ≤ o ∨ o + 10 ≤ k := by
  unfold m_hb at *; omega
/-- the cells of one hill hold those of another -/
def H_eq (g2 : m_G) (k : Nat) (g : m_G) (o : Nat) : Prop := (∀ j, 2 ≤ j → j < 12 → g2 k j = g o j) ∧ ∀ i, i < 6 → ∀ j, j < 5 → g2 (k + 4 + i) j = g (o + 4 + i) j
theorem H_eq.TW {g2 g : m_G} {k o : Nat} {t : m_T} (h : H_eq g2 k g o) (hT : TW g o t) : TW g2 k t := by
  obtain ⟨h1, h2⟩ := h
  refine ⟨⟨?_, ?_, ?_, ?_, ?_, ?_, ?_, ?_, ?_⟩, fun i hi hc => ⟨?_, ?_, ?_, ?_, ?_⟩⟩
  · rw [h1 3 (by decide) (by decide)]; exact hT.1.1
  · rw [h1 10 (by decide) (by decide)]; exact hT.1.2.1
  · rw [h1 4 (by decide) (by decide)]; exact hT.1.2.2.1
  · rw [h1 5 (by decide) (by decide)]; exact hT.1.2.2.2.1
  · rw [h1 6 (by decide) (by decide)]; exact hT.1.2.2.2.2.1
  · rw [h1 7 (by decide) (by decide)]; exact hT.1.2.2.2.2.2.1
  · rw [h1 8 (by decide) (by decide)]; exact hT.1.2.2.2.2.2.2.1
  · rw [h1 9 (by decide) (by decide)]; exact hT.1.2.2.2.2.2.2.2.1
  · rw [h1 11 (by decide) (by decide)]; exact hT.1.2.2.2.2.2.2.2.2
  · rw [h2 i hi 0 (by decide)]; exact (hT.2 i hi hc).1
  · rw [h2 i hi 1 (by decide)]; exact (hT.2 i hi hc).2.1
  · rw [h2 i hi 2 (by decide)]; exact (hT.2 i hi hc).2.2.1
  · rw [h2 i hi 3 (by decide)]; exact (hT.2 i hi hc).2.2.2.1
  · rw [h2 i hi 4 (by decide)]; exact (hT.2 i hi hc).2.2.2.2
theorem lp_X1_become {SL d : Nat} {Q : Option Int32 → m_G → Prop} {k o : Nat} (hk : m_hb k) (ho : m_hb o) (hko : k + 10 ≤ o ∨ o + 10 ≤ k) : ∀ (n i : Nat) (g : m_G), i + n = 6 → (∀ q, q < i → ∀ j, j < 5 → g (k + 4 + q) j = g (o + 4 + q) j) → (∀ g2, m_fr (m_hs k) g g2 → (∀ q, q < 6 → ∀ j, j < 5 → g2 (k + 4 + q) j = g (o + 4 + q) j) → g2 k = g k → Q none g2) → Sim SL (d + 1) yX1_become cX1_become 3 none 82 [.ref k, .ref o, .int (nI i)] [] g Q := by
  intro n
  induction n with
  | zero =>
    intro i g hin r6 hQ
    have hi : i = 6 := by omega
    subst hi
    refine s_iload_n (n := 83) dX1_become_82 rfl rfl rfl ?_
    refine s_bipush (v := 6) (n := 85) dX1_become_83 rfl (by decide) ?_
    refine s_icmp_ge (n := 88) (t := 109) dX1_become_85 (by decide) rfl (fun h85 => ?_) (fun h85 => ?_)
    · refine s_return dX1_become_109 rfl ?_
      exact hQ g m_fr.rf r6 rfl
    · exact absurd (by decide) h85
  | succ n ih =>
    intro i g hin r6 hQ
    have hi : i < 6 := by omega
    refine s_iload_n (n := 83) dX1_become_82 rfl rfl rfl ?_
    refine s_bipush (v := 6) (n := 85) dX1_become_83 rfl (by decide) ?_
    refine s_icmp_ge (n := 88) (t := 109) dX1_become_85 (by decide) rfl (fun h85 => ?_) (fun h85 => ?_)
    · exact absurd h85 (nI_ge hi (by decide))
    · refine s_aload_n (n := 89) dX1_become_88 rfl rfl rfl ?_
      refine s_getr (k2 := k + 1) (n := 92) dX1_become_89 rfl fl_X1_11 rfl (hb0 hk) rfl ?_
      refine s_iload_n (n := 93) dX1_become_92 rfl rfl rfl ?_
      refine s_aaload (k2 := k + 4 + i) (t := 0) i (n := 94) dX1_become_93 rfl (hb1 hk) (by decide) rfl hi rfl ?_
      refine s_aload_n (n := 95) dX1_become_94 rfl rfl rfl ?_
      refine s_getr (k2 := o + 1) (n := 98) dX1_become_95 rfl fl_X1_11 rfl (hb0 ho) rfl ?_
      refine s_iload_n (n := 99) dX1_become_98 rfl rfl rfl ?_
      refine s_aaload (k2 := o + 4 + i) (t := 0) i (n := 100) dX1_become_99 rfl (hb1 ho) (by decide) rfl hi rfl ?_
      refine s_cv1 (n := 103) dX1_become_100 rfl mo_X2_become ml_X1_57 (hbh hk hi) (by decide) rfl rfl (Nat.le_of_ble_eq_true rfl) (Nat.le_of_ble_eq_true rfl) (c_X2_become (hbh hk hi) (hbh ho hi) (by omega) (fun g2 hf hv => ?_))
      dsimp only [m_push]
      refine s_iinc (n := 106) (v := nI (i + 1)) dX1_become_103 rfl (by decide) rfl rfl (nI_1 i) rfl ?_
      refine s_goto (t := 82) dX1_become_106 (by decide) ?_
      refine ih (i + 1) g2 (by omega) ?_ (fun g3 hf3 h3 hk3 => hQ g3 ((hf.mono (by intro z hz; simp at hz; rw [hz]; exact m_hs_h hi)).tr hf3) ?_ (hk3.trans (hf k (by simp; omega))))
      · intro q hq j hj
        by_cases e : q = i
        · subst e
          rw [hv j hj, hf (o + 4 + q) (by simp; omega)]
        · rw [hf (k + 4 + q) (by simp; omega), hf (o + 4 + q) (by simp; omega)]
          exact r6 q (by omega) j hj
      · intro q hq j hj
        rw [h3 q hq j hj, hf (o + 4 + q) (by simp; omega)]
theorem c_X1_become {SL : Nat} {d : Nat} {Q : Option Int32 → m_G → Prop} {g : m_G} {k o : Nat} (hk : m_hb k) (ho : m_hb o) (hne : o ≠ k) (hbz : g o 2 = 0 ∨ g o 2 = 1) (hQ : ∀ g2, m_fr (m_hs k) g g2 → H_eq g2 k g o → Q none g2) : Sim SL (d + 1) yX1_become cX1_become 3 none 0 [.ref k, .ref o, .null] [] g Q := by
  refine s_aload_n (n := 1) dX1_become_0 rfl rfl rfl ?_
  refine s_aload_n (n := 2) dX1_become_1 rfl rfl rfl ?_
  refine s_geti (n := 5) dX1_become_2 rfl fl_X1_25 rfl (hb0 ho) ?_
  refine s_putz (n := 8) dX1_become_5 rfl fl_X1_25 rfl rfl hbz (hb0 hk) ?_
  refine s_aload_n (n := 9) dX1_become_8 rfl rfl rfl ?_
  refine s_aload_n (n := 10) dX1_become_9 rfl rfl rfl ?_
  refine s_geti (n := 13) dX1_become_10 rfl fl_X1_29 rfl (hb0 ho) ?_
  refine s_puti (n := 16) dX1_become_13 rfl fl_X1_29 rfl rfl (hb0 hk) ?_
  refine s_aload_n (n := 17) dX1_become_16 rfl rfl rfl ?_
  refine s_aload_n (n := 18) dX1_become_17 rfl rfl rfl ?_
  refine s_geti (n := 21) dX1_become_18 rfl fl_X1_33 rfl (hb0 ho) ?_
  refine s_puti (n := 24) dX1_become_21 rfl fl_X1_33 rfl rfl (hb0 hk) ?_
  refine s_aload_n (n := 25) dX1_become_24 rfl rfl rfl ?_
  refine s_aload_n (n := 26) dX1_become_25 rfl rfl rfl ?_
  refine s_geti (n := 29) dX1_become_26 rfl fl_X1_36 rfl (hb0 ho) ?_
  refine s_puti (n := 32) dX1_become_29 rfl fl_X1_36 rfl rfl (hb0 hk) ?_
  refine s_aload_n (n := 33) dX1_become_32 rfl rfl rfl ?_
  refine s_aload_n (n := 34) dX1_become_33 rfl rfl rfl ?_
  refine s_geti (n := 37) dX1_become_34 rfl fl_X1_39 rfl (hb0 ho) ?_
  refine s_puti (n := 40) dX1_become_37 rfl fl_X1_39 rfl rfl (hb0 hk) ?_
  refine s_aload_n (n := 41) dX1_become_40 rfl rfl rfl ?_
  refine s_aload_n (n := 42) dX1_become_41 rfl rfl rfl ?_
  refine s_geti (n := 45) dX1_become_42 rfl fl_X1_42 rfl (hb0 ho) ?_
  refine s_puti (n := 48) dX1_become_45 rfl fl_X1_42 rfl rfl (hb0 hk) ?_
  refine s_aload_n (n := 49) dX1_become_48 rfl rfl rfl ?_
  refine s_aload_n (n := 50) dX1_become_49 rfl rfl rfl ?_
  refine s_geti (n := 53) dX1_become_50 rfl fl_X1_45 rfl (hb0 ho) ?_
  refine s_puti (n := 56) dX1_become_53 rfl fl_X1_45 rfl rfl (hb0 hk) ?_
  refine s_aload_n (n := 57) dX1_become_56 rfl rfl rfl ?_
  refine s_aload_n (n := 58) dX1_become_57 rfl rfl rfl ?_
  refine s_geti (n := 61) dX1_become_58 rfl fl_X1_48 rfl (hb0 ho) ?_
  refine s_puti (n := 64) dX1_become_61 rfl fl_X1_48 rfl rfl (hb0 hk) ?_
  refine s_aload_n (n := 65) dX1_become_64 rfl rfl rfl ?_
  refine s_aload_n (n := 66) dX1_become_65 rfl rfl rfl ?_
  refine s_geti (n := 69) dX1_become_66 rfl fl_X1_51 rfl (hb0 ho) ?_
  refine s_puti (n := 72) dX1_become_69 rfl fl_X1_51 rfl rfl (hb0 hk) ?_
  refine s_aload_n (n := 73) dX1_become_72 rfl rfl rfl ?_
  refine s_aload_n (n := 74) dX1_become_73 rfl rfl rfl ?_
  refine s_geti (n := 77) dX1_become_74 rfl fl_X1_54 rfl (hb0 ho) ?_
  refine s_puti (n := 80) dX1_become_77 rfl fl_X1_54 rfl rfl (hb0 hk) ?_
  refine s_iconst (v := 0) (n := 81) dX1_become_80 rfl (by decide) ?_
  refine s_istore_n (n := 82) dX1_become_81 rfl rfl (by decide) rfl rfl ?_
  have hko := m_hb_ne hk ho hne
  refine lp_X1_become hk ho hko 6 0 _ rfl (fun q hq => absurd hq (by omega)) (fun g2 hf h3 hk3 => ?_)
  simp only [m_up_o hne] at hk3 h3
  refine hQ g2 (m_fr.tr ?_ hf) ⟨?_, ?_⟩
  · refine ((((((((((m_fr.up ?_).up2 ?_).up2 ?_).up2 ?_).up2 ?_).up2 ?_).up2 ?_).up2 ?_).up2 ?_).up2 ?_) <;> simp [m_hs]
  · intro j hj1 hj2
    rw [hk3]
    rcases (show j = 2 ∨ j = 3 ∨ j = 4 ∨ j = 5 ∨ j = 6 ∨ j = 7 ∨ j = 8 ∨ j = 9 ∨ j = 10 ∨ j = 11 by omega) with rfl | rfl | rfl | rfl | rfl | rfl | rfl | rfl | rfl | rfl <;> simp [m_up_k]
  · intro i hi j hj
    rw [h3 i hi j hj]
    simp only [m_up_o (show o + 4 + i ≠ k by omega)]
theorem lp_X9_copyTown {SL d : Nat} {Q : Option Int32 → m_G → Prop} {x y : Nat} (hx : x ≤ 1053) (hy : y ≤ 1053) (hxy : x + 39 ≤ y ∨ y + 39 ≤ x) : ∀ (n i : Nat) (g : m_G), i + n = 39 → (∀ q, q < i → g 79 (y + q) = g 79 (x + q)) → (∀ g2, m_fr [79] g g2 → (∀ q, q < 39 → g2 79 (y + q) = g 79 (x + q)) → (∀ q, (q < y ∨ y + 39 ≤ q) → g2 79 q = g 79 q) → Q none g2) → Sim SL d yX9_copyTown cX9_copyTown 4 none 2 [.ref 78, .int (nI x), .int (nI y), .int (nI i)] [] g Q := by
  intro n
  induction n with
  | zero =>
    intro i g hin r6 hQ
    have hi : i = 39 := by omega
    subst hi
    refine s_iload_n (n := 3) dX9_copyTown_2 rfl rfl rfl ?_
    refine s_bipush (v := 39) (n := 5) dX9_copyTown_3 rfl (by decide) ?_
    refine s_icmp_ge (n := 8) (t := 30) dX9_copyTown_5 (by decide) rfl (fun h5 => ?_) (fun h5 => ?_)
    · refine s_return dX9_copyTown_30 rfl ?_
      exact hQ g m_fr.rf r6 (fun _ _ => rfl)
    · exact absurd (by decide) h5
  | succ n ih =>
    intro i g hin r6 hQ
    have hi : i < 39 := by omega
    refine s_iload_n (n := 3) dX9_copyTown_2 rfl rfl rfl ?_
    refine s_bipush (v := 39) (n := 5) dX9_copyTown_3 rfl (by decide) ?_
    refine s_icmp_ge (n := 8) (t := 30) dX9_copyTown_5 (by decide) rfl (fun h5 => ?_) (fun h5 => ?_)
    · exact absurd h5 (nI_ge hi (by decide))
    · refine s_aload_n (n := 9) dX9_copyTown_8 rfl rfl rfl ?_
      refine s_getr (k2 := 79) (n := 12) dX9_copyTown_9 rfl fl_X9_7 rfl rfl rfl ?_
      refine s_iload_n (n := 13) dX9_copyTown_12 rfl rfl rfl ?_
      refine s_iload_n (n := 14) dX9_copyTown_13 rfl rfl rfl ?_
      refine s_iadd (n := 15) dX9_copyTown_14 rfl ?_
      refine s_aload_n (n := 16) dX9_copyTown_15 rfl rfl rfl ?_
      refine s_getr (k2 := 79) (n := 19) dX9_copyTown_16 rfl fl_X9_7 rfl rfl rfl ?_
      refine s_iload_n (n := 20) dX9_copyTown_19 rfl rfl rfl ?_
      refine s_iload_n (n := 21) dX9_copyTown_20 rfl rfl rfl ?_
      refine s_iadd (n := 22) dX9_copyTown_21 rfl ?_
      refine s_iaload (x + i) (n := 23) dX9_copyTown_22 rfl rfl (nI_add _ _) (by omega) ?_
      refine s_iastore (y + i) (n := 24) dX9_copyTown_23 rfl rfl (nI_add _ _) (by omega) ?_
      refine s_iinc (n := 27) (v := nI (i + 1)) dX9_copyTown_24 rfl (by decide) rfl rfl (nI_1 i) rfl ?_
      refine s_goto (t := 2) dX9_copyTown_27 (by decide) ?_
      refine ih (i + 1) _ (by omega) ?_ (fun g2 hf h3 hn => hQ g2 ((m_fr.up (by simp)).tr hf) ?_ ?_)
      · intro q hq
        rw [m_up_k, m_up_k, if_neg (show ¬ x + q = y + i by omega)]
        by_cases e : q = i
        · subst e; rw [if_pos rfl]
        · rw [if_neg (by omega)]; exact r6 q (by omega)
      · intro q hq
        rw [h3 q hq, m_up_k, if_neg (by omega)]
      · intro q hq
        rw [hn q hq, m_up_k, if_neg (by omega)]
theorem c_X9_copyTown {SL : Nat} {d : Nat} {Q : Option Int32 → m_G → Prop} {g : m_G} (x y : Nat) {x2 y2 : Int32} (hx2 : x2 = nI x) (hy2 : y2 = nI y) (hx : x ≤ 1053) (hy : y ≤ 1053) (hxy : x + 39 ≤ y ∨ y + 39 ≤ x) (hQ : ∀ g2, m_fr [79] g g2 → (∀ q, q < 39 → g2 79 (y + q) = g 79 (x + q)) → (∀ q, (q < y ∨ y + 39 ≤ q) → g2 79 q = g 79 q) → Q none g2) : Sim SL d yX9_copyTown cX9_copyTown 4 none 0 [.ref 78, .int x2, .int y2, .null] [] g Q := by
  subst hx2 hy2
  refine s_iconst (v := 0) (n := 1) dX9_copyTown_0 rfl (by decide) ?_
  refine s_istore_n (n := 2) dX9_copyTown_1 rfl rfl (by decide) rfl rfl ?_
  exact lp_X9_copyTown hx hy hxy 39 0 g rfl (fun q hq => absurd hq (by omega)) hQ
theorem c_X9_layTried {SL : Nat} {d : Nat} {Q : Option Int32 → m_G → Prop} {g : m_G} {t : m_T} (hT : TM g 0 t) (hQ : ∀ g2, m_fr [79] g g2 → TM g2 1053 t → (∀ q, q < 1053 → g2 79 q = g 79 q) → Q none g2) : Sim SL (d + 1) yX9_layTried cX9_layTried 1 none 0 [.ref 78] [] g Q := by
  refine s_aload_n (n := 1) dX9_layTried_0 rfl rfl rfl ?_
  refine s_iconst (v := 0) (n := 2) dX9_layTried_1 rfl (by decide) ?_
  refine s_sipush (v := 1053) (n := 5) dX9_layTried_2 rfl (by decide) ?_
  refine s_cv2 (n := 8) dX9_layTried_5 rfl mo_X9_copyTown ml_X9_146 rfl (by decide) rfl rfl (Nat.le_of_ble_eq_true rfl) (Nat.le_of_ble_eq_true rfl) (c_X9_copyTown 0 1053 rfl rfl (by decide) (by decide) (by decide) (fun g2 hf h1 h2 => ?_))
  dsimp only [m_push]
  refine s_return dX9_layTried_8 rfl ?_
  exact hQ g2 hf (fun j hj => by rw [h1 j hj]; exact hT j hj) (fun q hq => h2 q (Or.inl hq))
def sp_image (a : a_S) (k : Int32) : Int32 × a_S := if wn k 0 1 then (match a_hill a with
  | none => (-1000002, a)
  | some t => (1, u_imgs a (fun q => if q = k.toNatClampNeg then some t else a_imgs a q))) else (-1000001, a)
def sp_restore (a : a_S) (k : Int32) : Int32 × a_S := if wn k 0 1 then (match a_imgs a k.toNatClampNeg with
  | none => (-1000002, a)
  | some t => (1, u_hill a (some t) [])) else (-1000001, a)
theorem hbi {i : Nat} (h : i < 2) : m_hb (48 + 10 * i) := by unfold m_hb; omega
theorem a_b01 (h : Option m_T) : a_b h = 0 ∨ a_b h = 1 := by cases h <;> simp [a_b]
theorem C_R.img {g g2 : m_G} {a : a_S} {i : Nat} {t : m_T} (h : C_R g a) (hi : i < 2) (hf : m_fr (m_hs (48 + 10 * i)) g g2) (h2 : g2 (48 + 10 * i) 2 = 1) (hT : TW g2 (48 + 10 * i) t) : C_R g2 (u_imgs a (fun q => if q = i then some t else a_imgs a q)) := by
  have hs : ∀ x ∈ m_hs (48 + 10 * i), 48 ≤ x ∧ x ≤ 67 := by intro x hx; simp [m_hs] at hx; omega
  have hn : ∀ x : Nat, ¬ (48 ≤ x ∧ x ≤ 67) → x ∉ m_hs (48 + 10 * i) := fun x hx q => hx (hs x q)
  refine ⟨h.c1 hf (fun x hx q => by have := hs x hx; omega), h.c2 hf ⟨hn _ (by decide), hn _ (by decide)⟩, h.c3 hf (fun x hx q => by have := hs x hx; omega), h.c4 hf ⟨hn _ (by decide), hn _ (by decide), hn _ (by decide), hn _ (by decide)⟩, fun k hk => ?_, h.c6 hf (hn _ (by decide)), h.c7 hf ⟨hn _ (by decide), hn _ (by decide)⟩⟩
  show g2 (48 + 10 * k) 2 = a_b (if k = i then some t else a_imgs a k) ∧ ∀ t', (if k = i then some t else a_imgs a k) = some t' → TW g2 (48 + 10 * k) t'
  by_cases e : k = i
  · subst e
    rw [if_pos rfl]
    exact ⟨h2, fun t' ht => by cases ht; exact hT⟩
  · rw [if_neg e]
    have e1 : g2 (48 + 10 * k) = g (48 + 10 * k) := hf _ (by simp [m_hs]; omega)
    rw [e1]
    exact ⟨(h.2.2.2.2.1 k hk).1, fun t' ht => ((h.2.2.2.2.1 k hk).2 t' ht).kept e1 (fun j hj => hf _ (by simp [m_hs]; omega))⟩
theorem C_R.hill0 {g g2 : m_G} {a : a_S} {t : m_T} (h : C_R g a) (hf : m_fr (20 :: m_hs 28) g g2) (hk : g2 20 3 = 0) (h2 : g2 28 2 = 1) (hT : TW g2 28 t) : C_R g2 (u_hill a (some t) []) :=
  ⟨h.c1 hf (by decide), h.c2 hf (by decide), ⟨h2, hT⟩, ⟨hk, Nat.zero_le _, trivial⟩, h.c5 hf (by decide), h.c6 hf (by decide), h.c7 hf (by decide)⟩
theorem C_image {SL : Nat} {d : Nat} {Q : Option Int32 → m_G → Prop} {g : m_G} {a : a_S} (hA : a_OK a) (hC : C_R g a) (k : Int32) (hQ : E_C g a Q (sp_image a k)) : Sim SL (d + 2) yX8_image cX8_image 2 (some .int) 0 [.ref 0, .int k] [] g Q := by
  unfold E_C sp_image at hQ
  have hT : TW g 28 (a_H a) := hC.2.2.1.2
  refine s_iload_n (n := 1) dX8_image_0 rfl rfl rfl ?_
  refine s_iconst (v := 0) (n := 2) dX8_image_1 rfl (by decide) ?_
  refine s_iconst (v := 1) (n := 3) dX8_image_2 rfl (by decide) ?_
  refine s_cs3 (n := 6) dX8_image_3 rfl mo_X8_within ml_X8_62 rfl (Nat.le_of_ble_eq_true rfl) (Nat.le_of_ble_eq_true rfl) (c_X8_within _ _ _ (fun hb3 => ?_) (fun hb3 => ?_))
  · dsimp only [m_push]
    refine s_if_ne (n := 9) (t := 12) dX8_image_6 (by decide) rfl (fun _ => ?_) (fun h => absurd h (by decide))
    obtain ⟨i, hi, rfl⟩ := wn_ex (n := 1) hb3 rfl
    replace hi : i < 2 := by omega
    simp only [if_pos hb3, nI_clamp (show i < 2 ^ 31 by omega)] at hQ
    refine s_aload_n (n := 13) dX8_image_12 rfl rfl rfl ?_
    refine s_getr (k2 := 28) (n := 16) dX8_image_13 rfl fl_X8_25 rfl rfl rfl ?_
    refine s_geti (n := 19) dX8_image_16 rfl fl_X8_135 rfl rfl ?_
    rw [hC.2.2.1.1]
    refine s_if_ne (n := 22) (t := 25) dX8_image_19 (by decide) rfl (fun h19 => ?_) (fun h19 => ?_)
    · refine s_aload_n (n := 26) dX8_image_25 rfl rfl rfl ?_
      refine s_getr (k2 := 27) (n := 29) dX8_image_26 rfl fl_X8_32 rfl rfl rfl ?_
      refine s_iload_n (n := 30) dX8_image_29 rfl rfl rfl ?_
      refine s_aaload (k2 := 48 + 10 * i) (t := 2) i (n := 31) dX8_image_30 rfl rfl (by decide) rfl hi rfl ?_
      refine s_aload_n (n := 32) dX8_image_31 rfl rfl rfl ?_
      refine s_getr (k2 := 28) (n := 35) dX8_image_32 rfl fl_X8_25 rfl rfl rfl ?_
      refine s_cv1 (n := 38) dX8_image_35 rfl mo_X1_become ml_X8_125 (hb0 (hbi hi)) (by decide) rfl rfl (Nat.le_of_ble_eq_true rfl) (Nat.le_of_ble_eq_true rfl) (c_X1_become (hbi hi) hb28 (by omega) (by rw [hC.2.2.1.1]; exact a_b01 _) (fun g2 hf hE => ?_))
      dsimp only [m_push]
      refine s_iconst (v := 1) (n := 39) dX8_image_38 rfl (by decide) ?_
      refine s_ireturn dX8_image_39 rfl rfl ?_
      cases hh : a_hill a with
      | none => rw [hh] at h19; exact absurd rfl h19
      | some t =>
        rw [hh] at hQ
        dsimp only at hQ
        have hT' := hE.TW hT
        unfold a_H at hT'
        rw [hh] at hT'
        refine hQ g2 (hC.img hi hf ?_ hT') (hf.FC (by intro x hx; simp [m_hs] at hx; omega))
        rw [hE.1 2 (by decide) (by decide), hC.2.2.1.1, hh]
        rfl
    · refine s_ldc (n := 24) dX8_image_22 rfl kc_X8_138 ?_
      refine s_ireturn dX8_image_24 rfl rfl ?_
      cases hh : a_hill a with
      | none => rw [hh] at hQ; exact hQ g hC F_C.rf
      | some t => rw [hh] at h19; exact absurd h19 (by show ¬ (1 : Int32) = 0; decide)
  · dsimp only [m_push]
    refine s_if_ne (n := 9) (t := 12) dX8_image_6 (by decide) rfl (fun h => absurd h (by decide)) (fun _ => ?_)
    refine s_ldc (n := 11) dX8_image_9 rfl kc_X8_66 ?_
    refine s_ireturn dX8_image_11 rfl rfl ?_
    simp only [if_neg hb3] at hQ
    exact hQ g hC F_C.rf
theorem C_restore {SL : Nat} {d : Nat} {Q : Option Int32 → m_G → Prop} {g : m_G} {a : a_S} (hA : a_OK a) (hC : C_R g a) (k : Int32) (hQ : E_C g a Q (sp_restore a k)) : Sim SL (d + 2) yX8_restore cX8_restore 2 (some .int) 0 [.ref 0, .int k] [] g Q := by
  unfold E_C sp_restore at hQ
  have hT : TW g 28 (a_H a) := hC.2.2.1.2
  refine s_iload_n (n := 1) dX8_restore_0 rfl rfl rfl ?_
  refine s_iconst (v := 0) (n := 2) dX8_restore_1 rfl (by decide) ?_
  refine s_iconst (v := 1) (n := 3) dX8_restore_2 rfl (by decide) ?_
  refine s_cs3 (n := 6) dX8_restore_3 rfl mo_X8_within ml_X8_62 rfl (Nat.le_of_ble_eq_true rfl) (Nat.le_of_ble_eq_true rfl) (c_X8_within _ _ _ (fun hb3 => ?_) (fun hb3 => ?_))
  · dsimp only [m_push]
    refine s_if_ne (n := 9) (t := 12) dX8_restore_6 (by decide) rfl (fun _ => ?_) (fun h => absurd h (by decide))
    obtain ⟨i, hi, rfl⟩ := wn_ex (n := 1) hb3 rfl
    replace hi : i < 2 := by omega
    simp only [if_pos hb3, nI_clamp (show i < 2 ^ 31 by omega)] at hQ
    refine s_aload_n (n := 13) dX8_restore_12 rfl rfl rfl ?_
    refine s_getr (k2 := 27) (n := 16) dX8_restore_13 rfl fl_X8_32 rfl rfl rfl ?_
    refine s_iload_n (n := 17) dX8_restore_16 rfl rfl rfl ?_
    refine s_aaload (k2 := 48 + 10 * i) (t := 2) i (n := 18) dX8_restore_17 rfl rfl (by decide) rfl hi rfl ?_
    refine s_geti (n := 21) dX8_restore_18 rfl fl_X8_135 rfl (hb0 (hbi hi)) ?_
    rw [(hC.2.2.2.2.1 i hi).1]
    refine s_if_ne (n := 24) (t := 27) dX8_restore_21 (by decide) rfl (fun h21 => ?_) (fun h21 => ?_)
    · refine s_aload_n (n := 28) dX8_restore_27 rfl rfl rfl ?_
      refine s_getr (k2 := 28) (n := 31) dX8_restore_28 rfl fl_X8_25 rfl rfl rfl ?_
      refine s_aload_n (n := 32) dX8_restore_31 rfl rfl rfl ?_
      refine s_getr (k2 := 27) (n := 35) dX8_restore_32 rfl fl_X8_32 rfl rfl rfl ?_
      refine s_iload_n (n := 36) dX8_restore_35 rfl rfl rfl ?_
      refine s_aaload (k2 := 48 + 10 * i) (t := 2) i (n := 37) dX8_restore_36 rfl rfl (by decide) rfl hi rfl ?_
      refine s_cv1 (n := 40) dX8_restore_37 rfl mo_X1_become ml_X8_125 rfl (by decide) rfl rfl (Nat.le_of_ble_eq_true rfl) (Nat.le_of_ble_eq_true rfl) (c_X1_become hb28 (hbi hi) (by omega) (by rw [(hC.2.2.2.2.1 i hi).1]; exact a_b01 _) (fun g2 hf hE => ?_))
      dsimp only [m_push]
      refine s_aload_n (n := 41) dX8_restore_40 rfl rfl rfl ?_
      refine s_getr (k2 := 20) (n := 44) dX8_restore_41 rfl fl_X8_39 rfl rfl rfl ?_
      refine s_iconst (v := 0) (n := 45) dX8_restore_44 rfl (by decide) ?_
      refine s_puti (n := 48) dX8_restore_45 rfl fl_X8_129 rfl rfl rfl ?_
      refine s_iconst (v := 1) (n := 49) dX8_restore_48 rfl (by decide) ?_
      refine s_ireturn dX8_restore_49 rfl rfl ?_
      cases hh : a_imgs a i with
      | none => rw [hh] at h21; exact absurd rfl h21
      | some t =>
        rw [hh] at hQ
        dsimp only at hQ
        have hT' := hE.TW ((hC.2.2.2.2.1 i hi).2 t hh)
        have hf2 : m_fr (20 :: m_hs 28) g (m_up g2 20 3 0) := (hf.mono (by simp [m_hs])).up2 (by simp)
        refine hQ _ (hC.hill0 hf2 (by rw [m_up_k, if_pos rfl]) ?_ (hT'.kept (m_up_o (by decide)) (fun j hj => m_up_o (by omega)))) (hf2.FC (by decide))
        rw [m_up_o (by decide), hE.1 2 (by decide) (by decide), (hC.2.2.2.2.1 i hi).1, hh]
        rfl
    · refine s_ldc (n := 26) dX8_restore_24 rfl kc_X8_138 ?_
      refine s_ireturn dX8_restore_26 rfl rfl ?_
      cases hh : a_imgs a i with
      | none => rw [hh] at hQ; exact hQ g hC F_C.rf
      | some t => rw [hh] at h21; exact absurd h21 (by show ¬ (1 : Int32) = 0; decide)
  · dsimp only [m_push]
    refine s_if_ne (n := 9) (t := 12) dX8_restore_6 (by decide) rfl (fun h => absurd h (by decide)) (fun _ => ?_)
    refine s_ldc (n := 11) dX8_restore_9 rfl kc_X8_66 ?_
    refine s_ireturn dX8_restore_11 rfl rfl ?_
    simp only [if_neg hb3] at hQ
    exact hQ g hC F_C.rf
theorem ix39 {i : Nat} : (975 : Int32) + 39 * nI i = nI (975 + 39 * i) := by rw [show (975 : Int32) = nI 975 from rfl, show (39 : Int32) = nI 39 from rfl, pk_mul, nI_add]
theorem M_R.hill0 {g g2 : m_G} {a : a_S} {t : m_T} (h : M_R g a) (hf : m_fr [78, 79] g g2) (e : ∀ j, j ≠ 1 → j ≠ 2 → j ≠ 13 → j ≠ 14 → j ≠ 15 → j ≠ 20 → g2 78 j = g 78 j) (e9 : ∀ j, 39 ≤ j → j < 1053 → g2 79 j = g 79 j) (h1 : g2 78 1 = 1) (h2 : g2 78 2 = 0) (hT : TM g2 0 t) : M_R g2 (u_hill a (some t) []) :=
  ⟨h.c1 hf (by decide), h.c2 hf (by decide) (e _ (by decide) (by decide) (by decide) (by decide) (by decide) (by decide)), ⟨h1, hT⟩, ⟨h2, Nat.zero_le _, trivial⟩, h.c5 hf (by decide) (fun j hj hj2 => e9 j (by omega) hj2), h.c6 (e _ (by decide) (by decide) (by decide) (by decide) (by decide) (by decide)) (e _ (by decide) (by decide) (by decide) (by decide) (by decide) (by decide)), h.c7 hf (by decide) (e _ (by decide) (by decide) (by decide) (by decide) (by decide) (by decide))⟩
theorem M_image {SL : Nat} {d : Nat} {Q : Option Int32 → m_G → Prop} {g : m_G} {a : a_S} (hA : a_OK a) (hM : M_R g a) (k : Int32) (hQ : E_M g a Q (sp_image a k)) : Sim SL (d + 2) yX9_image cX9_image 2 (some .int) 0 [.ref 78, .int k] [] g Q := by
  unfold E_M sp_image at hQ
  have hT : TM g 0 (a_H a) := hM.2.2.1.2
  refine s_iload_n (n := 1) dX9_image_0 rfl rfl rfl ?_
  refine s_i2l (n := 2) dX9_image_1 rfl ?_
  refine s_lconst (v := 0) (n := 3) dX9_image_2 rfl (by decide) ?_
  refine s_lconst (v := 1) (n := 4) dX9_image_3 rfl (by decide) ?_
  refine s_cs3 (n := 7) dX9_image_4 rfl mo_X9_in ml_X9_60 rfl (Nat.le_of_ble_eq_true rfl) (Nat.le_of_ble_eq_true rfl) (c_X9_in (0) (1) rfl (by decide) (by decide) (fun hb4 => ?_) (fun hb4 => ?_))
  · dsimp only [m_push]
    refine s_if_ne (n := 10) (t := 13) dX9_image_7 (by decide) rfl (fun _ => ?_) (fun h => absurd h (by decide))
    obtain ⟨i, hi, rfl⟩ := wn_ex (n := 1) hb4 rfl
    replace hi : i < 2 := by omega
    simp only [if_pos hb4, nI_clamp (show i < 2 ^ 31 by omega)] at hQ
    refine s_aload_n (n := 14) dX9_image_13 rfl rfl rfl ?_
    refine s_geti (n := 17) dX9_image_14 rfl fl_X9_150 rfl rfl ?_
    rw [hM.2.2.1.1]
    refine s_if_ne (n := 20) (t := 23) dX9_image_17 (by decide) rfl (fun h17 => ?_) (fun h17 => ?_)
    · refine s_aload_n (n := 24) dX9_image_23 rfl rfl rfl ?_
      refine s_iconst (v := 0) (n := 25) dX9_image_24 rfl (by decide) ?_
      refine s_sipush (v := 975) (n := 28) dX9_image_25 rfl (by decide) ?_
      refine s_bipush (v := 39) (n := 30) dX9_image_28 rfl (by decide) ?_
      refine s_iload_n (n := 31) dX9_image_30 rfl rfl rfl ?_
      refine s_imul (n := 32) dX9_image_31 rfl ?_
      refine s_iadd (n := 33) dX9_image_32 rfl ?_
      refine s_cv2 (n := 36) dX9_image_33 rfl mo_X9_copyTown ml_X9_146 rfl (by decide) rfl rfl (Nat.le_of_ble_eq_true rfl) (Nat.le_of_ble_eq_true rfl) (c_X9_copyTown 0 (975 + 39 * i) rfl ix39 (by decide) (by omega) (by omega) (fun g2 hf w1 w2 => ?_))
      dsimp only [m_push]
      refine s_aload_n (n := 37) dX9_image_36 rfl rfl rfl ?_
      refine s_getr (k2 := 80) (n := 40) dX9_image_37 rfl fl_X9_13 rfl rfl rfl ?_
      refine s_iload_n (n := 41) dX9_image_40 rfl rfl rfl ?_
      refine s_iconst (v := 1) (n := 42) dX9_image_41 rfl (by decide) ?_
      refine s_bastore i (n := 43) dX9_image_42 rfl rfl rfl hi (by decide) ?_
      refine s_iconst (v := 1) (n := 44) dX9_image_43 rfl (by decide) ?_
      refine s_ireturn dX9_image_44 rfl rfl ?_
      cases hh : a_hill a with
      | none => rw [hh] at h17; exact absurd rfl h17
      | some t =>
        rw [hh] at hQ
        dsimp only at hQ
        have hf2 : m_fr [79, 80] g (m_up g2 80 i 1) := (hf.mono (by simp)).up2 (by simp)
        have e8 : (m_up g2 80 i 1) 78 = g 78 := hf2 78 (by decide)
        have e9 : (m_up g2 80 i 1) 79 = g2 79 := m_up_o (by decide)
        have hlow : ∀ j, j < 975 → (m_up g2 80 i 1) 79 j = g 79 j := fun j hj => by rw [e9]; exact w2 j (by omega)
        refine hQ _ ⟨hM.c1 hf2 (by decide), hM.c2 hf2 (by decide) (by rw [e8]), hM.c3 (by rw [e8]) (fun j hj => hlow j (by omega)), hM.c4 (by rw [e8]) (fun j _ hj => hlow j hj), fun q hq => ?_, hM.c6 (by rw [e8]) (by rw [e8]), hM.c7 hf2 (by decide) (by rw [e8])⟩ (hf2.FM (by decide))
        show (m_up g2 80 i 1) 80 q = a_b (if q = i then some t else a_imgs a q) ∧ ∀ t', (if q = i then some t else a_imgs a q) = some t' → TM (m_up g2 80 i 1) (975 + 39 * q) t'
        by_cases e : q = i
        · subst e
          rw [if_pos rfl, m_up_k, if_pos rfl]
          refine ⟨rfl, fun t' ht => ?_⟩
          cases ht
          intro j hj
          rw [e9, w1 j hj]
          have := hT j hj
          unfold a_H at this
          rw [hh] at this
          exact this
        · rw [if_neg e, m_up_k, if_neg e, hf 80 (by decide)]
          refine ⟨(hM.2.2.2.2.1 q hq).1, fun t' ht => ((hM.2.2.2.2.1 q hq).2 t' ht).kept (fun j hj => ?_)⟩
          rw [e9, w2 _ (by omega)]
    · refine s_ldc (n := 22) dX9_image_20 rfl kc_X9_157 ?_
      refine s_ireturn dX9_image_22 rfl rfl ?_
      cases hh : a_hill a with
      | none => rw [hh] at hQ; exact hQ g hM F_M.rf
      | some t => rw [hh] at h17; exact absurd h17 (by show ¬ (1 : Int32) = 0; decide)
  · dsimp only [m_push]
    refine s_if_ne (n := 10) (t := 13) dX9_image_7 (by decide) rfl (fun h => absurd h (by decide)) (fun _ => ?_)
    refine s_ldc (n := 12) dX9_image_10 rfl kc_X9_70 ?_
    refine s_ireturn dX9_image_12 rfl rfl ?_
    simp only [if_neg hb4] at hQ
    exact hQ g hM F_M.rf
theorem M_restore {SL : Nat} {d : Nat} {Q : Option Int32 → m_G → Prop} {g : m_G} {a : a_S} (hA : a_OK a) (hM : M_R g a) (k : Int32) (hQ : E_M g a Q (sp_restore a k)) : Sim SL (d + 2) yX9_restore cX9_restore 2 (some .int) 0 [.ref 78, .int k] [] g Q := by
  unfold E_M sp_restore at hQ
  have hT : TM g 0 (a_H a) := hM.2.2.1.2
  refine s_iload_n (n := 1) dX9_restore_0 rfl rfl rfl ?_
  refine s_i2l (n := 2) dX9_restore_1 rfl ?_
  refine s_lconst (v := 0) (n := 3) dX9_restore_2 rfl (by decide) ?_
  refine s_lconst (v := 1) (n := 4) dX9_restore_3 rfl (by decide) ?_
  refine s_cs3 (n := 7) dX9_restore_4 rfl mo_X9_in ml_X9_60 rfl (Nat.le_of_ble_eq_true rfl) (Nat.le_of_ble_eq_true rfl) (c_X9_in (0) (1) rfl (by decide) (by decide) (fun hb4 => ?_) (fun hb4 => ?_))
  · dsimp only [m_push]
    refine s_if_ne (n := 10) (t := 13) dX9_restore_7 (by decide) rfl (fun _ => ?_) (fun h => absurd h (by decide))
    obtain ⟨i, hi, rfl⟩ := wn_ex (n := 1) hb4 rfl
    replace hi : i < 2 := by omega
    simp only [if_pos hb4, nI_clamp (show i < 2 ^ 31 by omega)] at hQ
    refine s_aload_n (n := 14) dX9_restore_13 rfl rfl rfl ?_
    refine s_getr (k2 := 80) (n := 17) dX9_restore_14 rfl fl_X9_13 rfl rfl rfl ?_
    refine s_iload_n (n := 18) dX9_restore_17 rfl rfl rfl ?_
    refine s_baload i (n := 19) dX9_restore_18 rfl rfl rfl hi ?_
    rw [(hM.2.2.2.2.1 i hi).1]
    refine s_if_ne (n := 22) (t := 25) dX9_restore_19 (by decide) rfl (fun h19 => ?_) (fun h19 => ?_)
    · refine s_aload_n (n := 26) dX9_restore_25 rfl rfl rfl ?_
      refine s_sipush (v := 975) (n := 29) dX9_restore_26 rfl (by decide) ?_
      refine s_bipush (v := 39) (n := 31) dX9_restore_29 rfl (by decide) ?_
      refine s_iload_n (n := 32) dX9_restore_31 rfl rfl rfl ?_
      refine s_imul (n := 33) dX9_restore_32 rfl ?_
      refine s_iadd (n := 34) dX9_restore_33 rfl ?_
      refine s_iconst (v := 0) (n := 35) dX9_restore_34 rfl (by decide) ?_
      refine s_cv2 (n := 38) dX9_restore_35 rfl mo_X9_copyTown ml_X9_146 rfl (by decide) rfl rfl (Nat.le_of_ble_eq_true rfl) (Nat.le_of_ble_eq_true rfl) (c_X9_copyTown (975 + 39 * i) 0 ix39 rfl (by omega) (by decide) (by omega) (fun g2 hf w1 w2 => ?_))
      dsimp only [m_push]
      refine s_aload_n (n := 39) dX9_restore_38 rfl rfl rfl ?_
      refine s_iconst (v := 0) (n := 40) dX9_restore_39 rfl (by decide) ?_
      refine s_puti (n := 43) dX9_restore_40 rfl fl_X9_154 rfl rfl rfl ?_
      refine s_iconst (v := 1) (n := 44) dX9_restore_43 rfl (by decide) ?_
      refine s_ireturn dX9_restore_44 rfl rfl ?_
      cases hh : a_imgs a i with
      | none => rw [hh] at h19; exact absurd rfl h19
      | some t =>
        rw [hh] at hQ
        dsimp only at hQ
        have hti := (hM.2.2.2.2.1 i hi).2 t hh
        have e9 : (m_up g2 78 2 0) 79 = g2 79 := m_up_o (by decide)
        have hf2 : m_fr [78, 79] g (m_up g2 78 2 0) := (hf.mono (by simp)).up2 (by simp)
        have h78 : ∀ j, j ≠ 2 → (m_up g2 78 2 0) 78 j = g 78 j := fun j hj => by rw [m_up_k, if_neg hj, hf 78 (by decide)]
        refine hQ _ (hM.hill0 hf2 (fun j _ hj _ _ _ _ => h78 j hj) (fun j hj hj2 => by rw [e9]; exact w2 j (Or.inr (by omega))) ?_ (by rw [m_up_k, if_pos rfl]) (fun j hj => by rw [e9, w1 j hj]; exact hti j hj)) (hf2.FM (by decide))
        rw [h78 1 (by decide), hM.2.2.1.1]
        cases hz : a_hill a with
        | none => exact absurd hz (hA.2.2.2.2 i t hh)
        | some t2 => rfl
    · refine s_ldc (n := 24) dX9_restore_22 rfl kc_X9_157 ?_
      refine s_ireturn dX9_restore_24 rfl rfl ?_
      cases hh : a_imgs a i with
      | none => rw [hh] at hQ; exact hQ g hM F_M.rf
      | some t => rw [hh] at h19; exact absurd h19 (by show ¬ (1 : Int32) = 0; decide)
  · dsimp only [m_push]
    refine s_if_ne (n := 10) (t := 13) dX9_restore_7 (by decide) rfl (fun h => absurd h (by decide)) (fun _ => ?_)
    refine s_ldc (n := 12) dX9_restore_10 rfl kc_X9_70 ?_
    refine s_ireturn dX9_restore_12 rfl rfl ?_
    simp only [if_neg hb4] at hQ
    exact hQ g hM F_M.rf
