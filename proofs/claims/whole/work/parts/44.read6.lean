theorem c_X9_isSort {SL : Nat} {d : Nat} {Q : Option Int32 → m_G → Prop} {g : m_G} {L : Nat} {f : Nat → Int32} {at_ : Nat} (hT : MT g L f at_) (k1 : at_ < L ∧ ¬ kOf (pkB L f at_) = 0 → Q (some 1) g) (k0 : ¬ (at_ < L ∧ ¬ kOf (pkB L f at_) = 0) → Q (some 0) g) : Sim SL (d + 1) yX9_isSort cX9_isSort 1 (some .boolean) 0 [.ref 78] [] g Q := by
  refine s_aload_n (n := 1) dX9_isSort_0 rfl rfl rfl ?_
  refine s_geti (n := 4) dX9_isSort_1 rfl fl_X9_92 rfl rfl ?_
  refine s_aload_n (n := 5) dX9_isSort_4 rfl rfl rfl ?_
  refine s_geti (n := 8) dX9_isSort_5 rfl fl_X9_88 rfl rfl ?_
  refine s_icmp_ge (n := 11) (t := 30) dX9_isSort_8 (by decide) rfl (fun h8 => ?_) (fun h8 => ?_)
  · refine s_iconst (v := 0) (n := 31) dX9_isSort_30 rfl (by decide) ?_
    refine s_ireturn dX9_isSort_31 rfl (by decide +kernel) ?_
    first
    | exact k1 ⟨hlt, fun z => h23 (kOf_le.mpr z)⟩
    | exact k0 (fun q => q.2 (kOf_le.mp h23))
    | exact k0 (fun q => absurd h8 (by rw [hT.1, hT.2.1]; exact nI_ge q.1 (by have := hT.2.2.1; omega)))
  · have hlt : at_ < L := by
      have := hT.2.2.1
      have := hT.2.2.2.1
      rcases Nat.lt_or_ge at_ L with z | z
      · exact z
      · exact absurd (by rw [hT.1, hT.2.1]; exact nI_le z (by omega)) h8
    have := hT.2.2.1
    refine s_aload_n (n := 12) dX9_isSort_11 rfl rfl rfl ?_
    refine s_getr (k2 := 84) (n := 15) dX9_isSort_12 rfl fl_X9_26 rfl rfl rfl ?_
    refine s_aload_n (n := 16) dX9_isSort_15 rfl rfl rfl ?_
    refine s_geti (n := 19) dX9_isSort_16 rfl fl_X9_92 rfl rfl ?_
    refine s_iaload at_ (n := 20) dX9_isSort_19 rfl rfl hT.2.1 (by omega) ?_
    rw [hT.2.2.2.2 at_ hlt, ← pkB_eq (f := f) hlt]
    refine s_cs1 (n := 23) dX9_isSort_20 rfl mo_X9_kindOfLetter ml_X9_121 rfl (Nat.le_of_ble_eq_true rfl) (Nat.le_of_ble_eq_true rfl) (c_X9_kindOfLetter _ ?_)
    dsimp only [m_push]
    refine s_if_le (n := 26) (t := 30) dX9_isSort_23 (by decide) rfl (fun h23 => ?_) (fun h23 => ?_)
    · refine s_iconst (v := 0) (n := 31) dX9_isSort_30 rfl (by decide) ?_
      refine s_ireturn dX9_isSort_31 rfl (by decide +kernel) ?_
      first
      | exact k1 ⟨hlt, fun z => h23 (kOf_le.mpr z)⟩
      | exact k0 (fun q => q.2 (kOf_le.mp h23))
      | exact k0 (fun q => absurd h8 (by rw [hT.1, hT.2.1]; exact nI_ge q.1 (by have := hT.2.2.1; omega)))
    · refine s_iconst (v := 1) (n := 27) dX9_isSort_26 rfl (by decide) ?_
      refine s_goto (t := 31) dX9_isSort_27 (by decide) ?_
      refine s_ireturn dX9_isSort_31 rfl (by decide +kernel) ?_
      first
      | exact k1 ⟨hlt, fun z => h23 (kOf_le.mpr z)⟩
      | exact k0 (fun q => q.2 (kOf_le.mp h23))
      | exact k0 (fun q => absurd h8 (by rw [hT.1, hT.2.1]; exact nI_ge q.1 (by have := hT.2.2.1; omega)))
theorem lp_X9_reads0 {SL d : Nat} {Q : Option Int32 → m_G → Prop} : ∀ (n i : Nat) (g : m_G), i + n = 39 → (∀ j, j < i → g 79 (1053 + j) = 0) → (∀ g2, M_rd g g2 → (∀ j, j < 39 → g2 79 (1053 + j) = 0) → Sim SL (d + 4) yX9_reads cX9_reads 2 (some .boolean) 25 [.ref 78, .int (nI 39)] [] g2 Q) → Sim SL (d + 4) yX9_reads cX9_reads 2 (some .boolean) 2 [.ref 78, .int (nI i)] [] g Q := by
  intro n
  induction n with
  | zero =>
    intro i g hin hZ hQ
    have hi : i = 39 := by omega
    subst hi
    refine s_iload_n (n := 3) dX9_reads_2 rfl rfl rfl ?_
    refine s_bipush (v := 39) (n := 5) dX9_reads_3 rfl (by decide) ?_
    refine s_icmp_ge (n := 8) (t := 25) dX9_reads_5 (by decide) rfl (fun h5 => ?_) (fun h5 => ?_)
    · exact hQ g M_rd.rf hZ
    · exact absurd (by decide) h5
  | succ n ih =>
    intro i g hin hZ hQ
    have hi : i < 39 := by omega
    refine s_iload_n (n := 3) dX9_reads_2 rfl rfl rfl ?_
    refine s_bipush (v := 39) (n := 5) dX9_reads_3 rfl (by decide) ?_
    refine s_icmp_ge (n := 8) (t := 25) dX9_reads_5 (by decide) rfl (fun h5 => ?_) (fun h5 => ?_)
    · exact absurd h5 (nI_ge hi (by decide))
    · refine s_aload_n (n := 9) dX9_reads_8 rfl rfl rfl ?_
      refine s_getr (k2 := 79) (n := 12) dX9_reads_9 rfl fl_X9_7 rfl rfl rfl ?_
      refine s_sipush (v := 1053) (n := 15) dX9_reads_12 rfl (by decide) ?_
      refine s_iload_n (n := 16) dX9_reads_15 rfl rfl rfl ?_
      refine s_iadd (n := 17) dX9_reads_16 rfl ?_
      refine s_iconst (v := 0) (n := 18) dX9_reads_17 rfl (by decide) ?_
      refine s_iastore (1053 + i) (n := 19) dX9_reads_18 rfl rfl (ix2m rfl) (by omega) ?_
      refine s_iinc (n := 22) (v := nI (i + 1)) dX9_reads_19 rfl (by decide) rfl rfl (nI_1 i) rfl ?_
      refine s_goto (t := 2) dX9_reads_22 (by decide) ?_
      refine ih (i + 1) _ (by omega) (fun j hj => ?_) (fun g2 hf hz => hQ g2 ((M_rd.t (by omega)).tr hf) hz)
      rw [m_up_k]
      by_cases e : j = i
      · subst e; rw [if_pos rfl]
      · rw [if_neg (by omega)]; exact hZ j (by omega)
theorem lp_X9_readsF {SL d : Nat} {Q : Option Int32 → m_G → Prop} {g : m_G} (hQ : Q (some 0) g) : Sim SL (d + 4) yX9_reads cX9_reads 2 (some .boolean) 35 [.ref 78, .int 0] [] g Q := by
  refine s_iload_n (n := 36) dX9_reads_35 rfl rfl rfl ?_
  refine s_if_eq (n := 39) (t := 54) dX9_reads_36 (by decide) rfl (fun _ => ?_) (fun h => absurd h (by decide))
  refine s_iload_n (n := 55) dX9_reads_54 rfl rfl rfl ?_
  refine s_if_eq (n := 58) (t := 81) dX9_reads_55 (by decide) rfl (fun _ => ?_) (fun h => absurd h (by decide))
  refine s_iconst (v := 0) (n := 82) dX9_reads_81 rfl (by decide) ?_
  refine s_ireturn dX9_reads_82 rfl (by decide +kernel) ?_
  exact hQ
set_option maxHeartbeats 1000000 in
theorem lp_X9_reads {SL d : Nat} {Q : Option Int32 → m_G → Prop} {L : Nat} {f : Nat → Int32} : ∀ (n : Nat) (g : m_G) (at_ : Nat) (t : m_T), a_cn t + n = 7 → MT g L f at_ → TM g 1053 t → rOK t → (∀ t2, rdHs L f n at_ t = .inr t2 → ∀ g2, M_rd g g2 → TM g2 1053 t2 → Q (some 1) g2) → (∀ e, rdHs L f n at_ t = .inl e → ∀ g2, M_rd g g2 → MF g2 e → Q (some 0) g2) → Sim SL (d + 4) yX9_reads cX9_reads 2 (some .boolean) 35 [.ref 78, .int 1] [] g Q := by
  intro n
  induction n with
  | zero =>
    intro g at_ t hcn hT hU hO k1 k0
    have := (a_cnE hO.1.2.1).2
    omega
  | succ n ih =>
    intro g at_ t hcn hT hU hO k1 k0
    have := (a_cnE hO.1.2.1).2
    refine s_iload_n (n := 36) dX9_reads_35 rfl rfl rfl ?_
    refine s_if_eq (n := 39) (t := 54) dX9_reads_36 (by decide) rfl (fun h => absurd h (by decide)) (fun _ => ?_)
    refine s_aload_n (n := 40) dX9_reads_39 rfl rfl rfl ?_
    refine s_cv0 (n := 43) dX9_reads_40 rfl mo_X9_isSort ml_X9_133 rfl (by decide) rfl rfl (Nat.le_of_ble_eq_true rfl) (Nat.le_of_ble_eq_true rfl) (c_X9_isSort hT (fun hb40 => ?_) (fun hb40 => ?_))
    · dsimp only [m_push]
      refine s_if_eq (n := 46) (t := 54) dX9_reads_43 (by decide) rfl (fun h => absurd h (by decide)) (fun _ => ?_)
      refine s_aload_n (n := 47) dX9_reads_46 rfl rfl rfl ?_
      refine s_cv0 (n := 50) dX9_reads_47 rfl mo_X9_readsHouse ml_X9_136 rfl (by decide) rfl rfl (Nat.le_of_ble_eq_true rfl) (Nat.le_of_ble_eq_true rfl) (c_X9_readsHouse hT hb40.1 hb40.2 hU hO (fun p hp g3 hf3 hT3 hU3 => ?_) (fun e he g3 hf3 hE3 => ?_))
      · dsimp only [m_push]
        refine s_istore_n (n := 51) dX9_reads_50 rfl rfl (by decide) rfl rfl ?_
        refine s_goto (t := 35) dX9_reads_51 (by decide) ?_
        obtain ⟨hO2, hc2, hc6⟩ := rdH_ok hp hO
        have e : rdHs L f (n + 1) at_ t = rdHs L f n p.1 p.2 := by
          conv => lhs; unfold rdHs
          rw [if_pos hb40.1, hp]
        rw [e] at k1 k0
        exact ih g3 p.1 p.2 (by omega) hT3 hU3 hO2 (fun t2 h2 g4 hf4 => k1 t2 h2 g4 (hf3.tr hf4)) (fun e2 h2 g4 hf4 => k0 e2 h2 g4 (hf3.tr hf4))
      · dsimp only [m_push]
        refine s_istore_n (n := 51) dX9_reads_50 rfl rfl (by decide) rfl rfl ?_
        refine s_goto (t := 35) dX9_reads_51 (by decide) ?_
        have e2 : rdHs L f (n + 1) at_ t = .inl e := by
          unfold rdHs
          rw [if_pos hb40.1, he]
        exact lp_X9_readsF (k0 e e2 _ hf3 hE3)
    · dsimp only [m_push]
      refine s_if_eq (n := 46) (t := 54) dX9_reads_43 (by decide) rfl (fun _ => ?_) (fun h => absurd h (by decide))
      refine s_iload_n (n := 55) dX9_reads_54 rfl rfl rfl ?_
      refine s_if_eq (n := 58) (t := 81) dX9_reads_55 (by decide) rfl (fun h => absurd h (by decide)) (fun _ => ?_)
      refine s_aload_n (n := 59) dX9_reads_58 rfl rfl rfl ?_
      refine s_geti (n := 62) dX9_reads_59 rfl fl_X9_92 rfl rfl ?_
      rw [hT.2.1]
      refine s_aload_n (n := 63) dX9_reads_62 rfl rfl rfl ?_
      refine s_geti (n := 66) dX9_reads_63 rfl fl_X9_88 rfl rfl ?_
      rw [hT.1]
      refine s_icmp_eq (n := 69) (t := 77) dX9_reads_66 (by decide) rfl (fun h66 => ?_) (fun h66 => ?_)
      · refine s_iconst (v := 1) (n := 78) dX9_reads_77 rfl (by decide) ?_
        refine s_goto (t := 82) dX9_reads_78 (by decide) ?_
        refine s_ireturn dX9_reads_82 rfl (by decide +kernel) ?_
        first
        | (have hge : ¬ at_ < L := by
             have := congrArg Int32.toInt h66
             have := hT.2.2.1
             have := hT.2.2.2.1
             rw [nI_toInt (by omega), nI_toInt (by omega)] at *
             omega
           exact k1 t (by unfold rdHs; rw [if_neg hge]) _ M_rd.rf hU)
        | (have hlt : at_ < L := by
             have := hT.2.2.2.1
             rcases Nat.lt_or_ge at_ L with z | z
             · exact z
             · exact absurd (congrArg nI (show at_ = L by omega)) h66
           have hk0 : kOf (pkB L f at_) = 0 := Classical.byContradiction fun z => hb40 ⟨hlt, z⟩
           exact k0 (1, at_) (by unfold rdHs; rw [if_pos hlt]; unfold rdH; rw [if_pos hk0]) _ (mR.up (by omega)).rd (MF.mk' hT))
      · refine s_aload_n (n := 70) dX9_reads_69 rfl rfl rfl ?_
        refine s_iconst (v := 1) (n := 71) dX9_reads_70 rfl (by decide) ?_
        refine s_cv1 (n := 74) dX9_reads_71 rfl mo_X9_refuse ml_X9_105 rfl (by decide) rfl rfl (Nat.le_of_ble_eq_true rfl) (Nat.le_of_ble_eq_true rfl) (c_X9_refuse _ ?_)
        dsimp only [m_push]
        refine s_if_eq (n := 77) (t := 81) dX9_reads_74 (by decide) rfl (fun h74 => ?_) (fun h74 => ?_)
        · refine s_iconst (v := 0) (n := 82) dX9_reads_81 rfl (by decide) ?_
          refine s_ireturn dX9_reads_82 rfl (by decide +kernel) ?_
          first
          | (have hge : ¬ at_ < L := by
               have := congrArg Int32.toInt h66
               have := hT.2.2.1
               have := hT.2.2.2.1
               rw [nI_toInt (by omega), nI_toInt (by omega)] at *
               omega
             exact k1 t (by unfold rdHs; rw [if_neg hge]) _ M_rd.rf hU)
          | (have hlt : at_ < L := by
               have := hT.2.2.2.1
               rcases Nat.lt_or_ge at_ L with z | z
               · exact z
               · exact absurd (congrArg nI (show at_ = L by omega)) h66
             have hk0 : kOf (pkB L f at_) = 0 := Classical.byContradiction fun z => hb40 ⟨hlt, z⟩
             exact k0 (1, at_) (by unfold rdHs; rw [if_pos hlt]; unfold rdH; rw [if_pos hk0]) _ (mR.up (by omega)).rd (MF.mk' hT))
        · exact absurd rfl h74
theorem c_X9_reads {SL : Nat} {d : Nat} {Q : Option Int32 → m_G → Prop} {g : m_G} {L : Nat} {f : Nat → Int32} (h1 : g 78 8 = nI L) (hL : L ≤ 100) (hb : ∀ i, i < L → g 84 i = f i) (hKS : K_S g) (k1 : ∀ t, rdAll L f = .inr t → ∀ g2, M_rd g g2 → TM g2 1053 t → Q (some 1) g2) (k0 : ∀ e, rdAll L f = .inl e → ∀ g2, M_rd g g2 → MF g2 e → Q (some 0) g2) : Sim SL (d + 4) yX9_reads cX9_reads 2 (some .boolean) 0 [.ref 78, .null] [] g Q := by
  refine s_iconst (v := 0) (n := 1) dX9_reads_0 rfl (by decide) ?_
  refine s_istore_n (n := 2) dX9_reads_1 rfl rfl (by decide) rfl rfl ?_
  refine lp_X9_reads0 39 0 g rfl (fun j hj => by omega) (fun g1 hz1 hz2 => ?_)
  refine s_aload_n (n := 26) dX9_reads_25 rfl rfl rfl ?_
  refine s_iconst (v := 0) (n := 27) dX9_reads_26 rfl (by decide) ?_
  refine s_puti (n := 30) dX9_reads_27 rfl fl_X9_92 rfl rfl rfl ?_
  have hfr2 : M_rd g (m_up g1 78 13 0) := hz1.tr (mR.up (by omega)).rd
  have hT2 : MT (m_up g1 78 13 0) L f 0 := by
    refine ⟨?_, ?_, hL, Nat.zero_le _, fun i hi => ?_⟩
    · rw [hfr2.2.1 8 (by decide) (by decide) (by decide)]; exact h1
    · rw [m_up_k, if_pos rfl]; rfl
    · rw [hfr2.1 84 (by decide)]; exact hb i hi
  have hU2 : TM (m_up g1 78 13 0) 1053 (fun _ => 0) := fun j hj => by rw [m_up_o (by decide)]; exact hz2 j hj
  refine s_aload_n (n := 31) dX9_reads_30 rfl rfl rfl ?_
  refine s_cv0 (n := 34) dX9_reads_31 rfl mo_X9_readsLaw ml_X9_129 rfl (by decide) rfl rfl (Nat.le_of_ble_eq_true rfl) (Nat.le_of_ble_eq_true rfl) (c_X9_readsLaw hT2 hU2 (hKS.m hfr2.FM) (fun p hp g3 hf3 hT3 hU3 => ?_) (fun e he g3 hf3 hE3 => ?_))
  · dsimp only [m_push]
    refine s_istore_n (n := 35) dX9_reads_34 rfl rfl (by decide) rfl rfl ?_
    obtain ⟨hO, hc0⟩ := rdW_ok hp
    refine lp_X9_reads 7 g3 p.1 p.2 (by omega) hT3 hU3 hO (fun t2 h2 g4 hf4 => k1 t2 ?_ g4 (hfr2.tr (hf3.tr hf4))) (fun e2 h2 g4 hf4 => k0 e2 ?_ g4 (hfr2.tr (hf3.tr hf4)))
    · unfold rdAll; rw [hp]; exact h2
    · unfold rdAll; rw [hp]; exact h2
  · dsimp only [m_push]
    refine s_istore_n (n := 35) dX9_reads_34 rfl rfl (by decide) rfl rfl ?_
    refine lp_X9_readsF (k0 e ?_ _ (hfr2.tr hf3) hE3)
    unfold rdAll; rw [he]
theorem M_R.tape0 {g g2 : m_G} {a : a_S} (h : M_R g a) (hf : m_fr [78, 79] g g2) (h8 : g2 78 8 = 0) (e : ∀ j, j ≠ 8 → j ≠ 13 → j ≠ 14 → j ≠ 15 → g2 78 j = g 78 j) (e9 : ∀ j, j < 1053 → g2 79 j = g 79 j) : M_R g2 (u_tape a (0, (a_tape a).2)) :=
  ⟨h.c1 hf (by decide), ⟨h8, Nat.zero_le _, fun i hi => absurd hi (Nat.not_lt_zero i)⟩, h.c3 (e 1 (by decide) (by decide) (by decide) (by decide)) (fun j hj => e9 j (by omega)), h.c4 (e 2 (by decide) (by decide) (by decide) (by decide)) (fun j _ hj => e9 j (by omega)), h.c5 hf (by decide) (fun j _ hj => e9 j hj), h.c6 (e 9 (by decide) (by decide) (by decide) (by decide)) (e 10 (by decide) (by decide) (by decide) (by decide)), h.c7 hf (by decide) (e 12 (by decide) (by decide) (by decide) (by decide))⟩
theorem M_hill {SL : Nat} {d : Nat} {Q : Option Int32 → m_G → Prop} {g : m_G} {a : a_S} (hA : a_OK a) (hM : M_R g a) (hKS : K_S g) (hQ : E_M g a Q (sp_hill a)) : Sim SL (d + 5) yX9_hill cX9_hill 2 (some .int) 0 [.ref 78, .null] [] g Q := by
  unfold E_M sp_hill at hQ
  refine s_aload_n (n := 1) dX9_hill_0 rfl rfl rfl ?_
  refine s_cv0 (n := 4) dX9_hill_1 rfl mo_X9_reads ml_X9_139 rfl (by decide) rfl rfl (Nat.le_of_ble_eq_true rfl) (Nat.le_of_ble_eq_true rfl) (c_X9_reads hM.2.1.1 hM.2.1.2.1 hM.2.1.2.2 hKS (fun t ht g2 hf2 hU2 => ?_) (fun e he g2 hf2 hE2 => ?_))
  · dsimp only [m_push]
    refine s_istore_n (n := 5) dX9_hill_4 rfl rfl (by decide) rfl rfl ?_
    have hQ2 := hQ
    rw [ht] at hQ2
    dsimp only at hQ2
    have hM1 : M_R (m_up g2 78 8 0) (u_tape a (0, (a_tape a).2)) := hM.tape0 (hf2.1.up2 (by decide)) (by rw [m_up_k, if_pos rfl]) (fun j a b c d => by rw [m_up_k, if_neg a]; exact hf2.2.1 j b c d) (fun j hj => by rw [m_up_o (by decide)]; exact hf2.2.2 j hj)
    have hFa : F_M g (m_up g2 78 8 0) := (hf2.1.up2 (by decide)).FM (by decide)
    have hO := rdAll_ok ht
    have hcn := a_cnE hO.1.2.1
    have hU3 : TM (m_up g2 78 8 0) 1053 t := hU2.kept (fun j _ => by rw [m_up_o (by decide)])
    refine s_aload_n (n := 6) dX9_hill_5 rfl rfl rfl ?_
    refine s_iconst (v := 0) (n := 7) dX9_hill_6 rfl (by decide) ?_
    refine s_puti (n := 10) dX9_hill_7 rfl fl_X9_88 rfl rfl rfl ?_
    refine s_iload_n (n := 11) dX9_hill_10 rfl rfl rfl ?_
    refine s_if_ne (n := 14) (t := 30) dX9_hill_11 (by decide) rfl (fun _ => ?_) (fun h => absurd h (by decide))
    refine s_aload_n (n := 31) dX9_hill_30 rfl rfl rfl ?_
    refine s_getr (k2 := 79) (n := 34) dX9_hill_31 rfl fl_X9_7 rfl rfl rfl ?_
    refine s_sipush (v := 1061) (n := 37) dX9_hill_34 rfl (by decide) ?_
    refine s_iconst (v := 1) (n := 38) dX9_hill_37 rfl (by decide) ?_
    refine s_aload_n (n := 39) dX9_hill_38 rfl rfl rfl ?_
    refine s_getr (k2 := 79) (n := 42) dX9_hill_39 rfl fl_X9_7 rfl rfl rfl ?_
    refine s_sipush (v := 1054) (n := 45) dX9_hill_42 rfl (by decide) ?_
    refine s_iaload 1054 (n := 46) dX9_hill_45 rfl rfl rfl (by decide) ?_
    rw [show (m_up g2 78 8 0) 79 1054 = nI (a_cn t) from (hU3 1 (by decide)).trans hcn.1]
    refine s_ishl (n := 47) dX9_hill_46 rfl ?_
    refine s_iconst (v := 1) (n := 48) dX9_hill_47 rfl (by decide) ?_
    refine s_isub (n := 49) dX9_hill_48 rfl ?_
    rw [(all_c (a_cn t) (by omega)).1]
    refine s_iastore 1061 (n := 50) dX9_hill_49 rfl rfl rfl (by decide) ?_
    have hU4 : TM (m_up (m_up g2 78 8 0) 79 1061 (nI (2 ^ a_cn t - 1))) 1053 (opT t) := hU3.tj 8 _
    refine s_aload_n (n := 51) dX9_hill_50 rfl rfl rfl ?_
    refine s_sipush (v := 1053) (n := 54) dX9_hill_51 rfl (by decide) ?_
    refine s_iconst (v := 0) (n := 55) dX9_hill_54 rfl (by decide) ?_
    refine s_cv2 (n := 58) dX9_hill_55 rfl mo_X9_copyTown ml_X9_146 rfl (by decide) rfl rfl (Nat.le_of_ble_eq_true rfl) (Nat.le_of_ble_eq_true rfl) (c_X9_copyTown 1053 0 rfl rfl (by decide) (by decide) (by decide) (fun g3 hf3 w1 w2 => ?_))
    have hU5 : TM g3 0 (opT t) := fun j hj => (w1 j hj).trans (hU4 j hj)
    dsimp only [m_push]
    refine s_aload_n (n := 59) dX9_hill_58 rfl rfl rfl ?_
    refine s_iconst (v := 1) (n := 60) dX9_hill_59 rfl (by decide) ?_
    refine s_putz (n := 63) dX9_hill_60 rfl fl_X9_150 rfl rfl (by decide) rfl ?_
    refine s_aload_n (n := 64) dX9_hill_63 rfl rfl rfl ?_
    refine s_iconst (v := 0) (n := 65) dX9_hill_64 rfl (by decide) ?_
    refine s_puti (n := 68) dX9_hill_65 rfl fl_X9_154 rfl rfl rfl ?_
    refine s_aload_n (n := 69) dX9_hill_68 rfl rfl rfl ?_
    refine s_getr (k2 := 79) (n := 72) dX9_hill_69 rfl fl_X9_7 rfl rfl rfl ?_
    refine s_iconst (v := 1) (n := 73) dX9_hill_72 rfl (by decide) ?_
    refine s_iaload 1 (n := 74) dX9_hill_73 rfl rfl rfl (by decide) ?_
    refine s_ireturn dX9_hill_74 rfl rfl ?_
    have hfr : m_fr [78, 79] (m_up g2 78 8 0) (m_up (m_up g3 78 1 1) 78 2 0) := (((m_fr.up (k := 79) (by decide)).tr (hf3.mono (by decide))).up2 (by decide)).up2 (by decide)
    have hM2 := hM1.hill0 hfr (fun j a b _ _ _ _ => by rw [m_up_k, if_neg b, m_up_k, if_neg a, hf3 78 (by decide), m_up_o (by decide)]) (fun j a b => by
      rw [m_up_o (by decide), m_up_o (by decide), w2 j (Or.inr (by omega)), m_up_k, if_neg (by omega)]) (by rw [m_up_k, if_neg (by decide), m_up_k, if_pos rfl]) (by rw [m_up_k, if_pos rfl]) (hU5.kept (fun j _ => by rw [m_up_o (by decide), m_up_o (by decide)]))
    rw [show (m_up (m_up g3 78 1 1) 78 2 0) 79 1 = t 1 by rw [m_up_o (by decide), m_up_o (by decide)]; exact (hU5.z (by decide)).trans (opT_ne (by decide))]
    exact hQ2 _ hM2 (hFa.tr (hfr.FM (by decide)))
  · dsimp only [m_push]
    refine s_istore_n (n := 5) dX9_hill_4 rfl rfl (by decide) rfl rfl ?_
    refine s_aload_n (n := 6) dX9_hill_5 rfl rfl rfl ?_
    refine s_iconst (v := 0) (n := 7) dX9_hill_6 rfl (by decide) ?_
    refine s_puti (n := 10) dX9_hill_7 rfl fl_X9_88 rfl rfl rfl ?_
    refine s_iload_n (n := 11) dX9_hill_10 rfl rfl rfl ?_
    refine s_if_ne (n := 14) (t := 30) dX9_hill_11 (by decide) rfl (fun h => absurd h (by decide)) (fun _ => ?_)
    refine s_aload_n (n := 15) dX9_hill_14 rfl rfl rfl ?_
    refine s_aload_n (n := 16) dX9_hill_15 rfl rfl rfl ?_
    refine s_geti (n := 19) dX9_hill_16 rfl fl_X9_99 rfl rfl ?_
    refine s_puti (n := 22) dX9_hill_19 rfl fl_X9_142 rfl rfl rfl ?_
    refine s_ldc (n := 24) dX9_hill_22 rfl kc_X9_145 ?_
    refine s_aload_n (n := 25) dX9_hill_24 rfl rfl rfl ?_
    refine s_geti (n := 28) dX9_hill_25 rfl fl_X9_92 rfl rfl ?_
    refine s_isub (n := 29) dX9_hill_28 rfl ?_
    refine s_ireturn dX9_hill_29 rfl rfl ?_
    have hQ2 := hQ
    rw [he] at hQ2
    dsimp only at hQ2
    have hM1 : M_R (m_up g2 78 8 0) (u_tape a (0, (a_tape a).2)) := hM.tape0 (hf2.1.up2 (by decide)) (by rw [m_up_k, if_pos rfl]) (fun j a b c d => by rw [m_up_k, if_neg a]; exact hf2.2.1 j b c d) (fun j hj => by rw [m_up_o (by decide)]; exact hf2.2.2 j hj)
    have hFa : F_M g (m_up g2 78 8 0) := (hf2.1.up2 (by decide)).FM (by decide)
    have e1 : (m_up g2 78 8 0) 78 14 = e.1 := by rw [m_up_k, if_neg (by decide)]; exact hE2.1
    have e2 : (m_up (m_up g2 78 8 0) 78 9 ((m_up g2 78 8 0) 78 14)) 78 13 = nI e.2 := by rw [m_up_k, if_neg (by decide), m_up_k, if_neg (by decide)]; exact hE2.2
    rw [e2, e1]
    have hf : m_fr [78] (m_up g2 78 8 0) (m_up (m_up g2 78 8 0) 78 9 e.1) := m_fr.up (by decide)
    have ee : ∀ j, j ≠ 9 → (m_up (m_up g2 78 8 0) 78 9 e.1) 78 j = (m_up g2 78 8 0) 78 j := fun j hj => by rw [m_up_k, if_neg hj]
    have e9 : ∀ j, (m_up (m_up g2 78 8 0) 78 9 e.1) 79 j = (m_up g2 78 8 0) 79 j := fun j => by rw [m_up_o (by decide)]
    exact hQ2 _ ⟨hM1.c1 hf (by decide), hM1.c2 hf (by decide) (ee _ (by decide)), hM1.c3 (ee _ (by decide)) (fun j _ => e9 j), hM1.c4 (ee _ (by decide)) (fun j _ _ => e9 j), hM1.c5 hf (by decide) (fun j _ _ => e9 j), ⟨by rw [m_up_k, if_pos rfl]; rfl, (ee 10 (by decide)).trans hM1.2.2.2.2.2.1.2⟩, hM1.c7 hf (by decide) (ee _ (by decide))⟩ (hFa.tr (hf.FM (by decide)))
