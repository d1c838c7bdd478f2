theorem a_TK.op {t : m_T} (h : a_TK t) (v : Int32) : a_TK (upd t 8 v) := by
  obtain ⟨h0, h1, h2, h3, h4, h5, h6, h7, h8⟩ := h
  unfold a_TK
  rw [upd_ne (show (0 : Nat) ≠ 8 by decide), upd_ne (show (1 : Nat) ≠ 8 by decide), upd_ne (show (2 : Nat) ≠ 8 by decide), upd_ne (show (3 : Nat) ≠ 8 by decide), upd_ne (show (4 : Nat) ≠ 8 by decide), upd_ne (show (5 : Nat) ≠ 8 by decide), upd_ne (show (6 : Nat) ≠ 8 by decide), upd_ne (show (7 : Nat) ≠ 8 by decide)]
  refine ⟨h0, h1, h2, h3, h4, h5, h6, h7, fun i hi hc => ?_⟩
  rw [upd_ne (by omega), upd_ne (by omega), upd_ne (by omega)]
  exact h8 i hi hc
def a_sh (i : Nat) : Int32 := (1 : Int32) <<< (nI i &&& 31)
abbrev slP (t : m_T) (i : Nat) : Prop := ¬ (sRest t 0 = some i ↔ sRest (upd t 8 (t 8 ^^^ a_sh i)) 0 = some i) ∧ (sRest (upd t 8 (t 8 ^^^ a_sh i)) 0 = some i ↔ t (27 + i) = 1)
def slF (t : m_T) : Nat → Nat → Int32 → Int32
  | 0, _, x => x
  | n + 1, i, x => if t 1 ≤ nI i then x else slF t n (i + 1) (if slP t i then x ||| a_sh i else x)
def pcF : Nat → Nat → m_T → Option (Nat × m_T)
  | 0, _, _ => none
  | n + 1, k, t => if slF t 6 0 0 = 0 then some (k, t) else pcF n (k + 1) (upd t 8 (t 8 ^^^ (slF t 6 0 0 &&& (-slF t 6 0 0))))
def sp_sulks (a : a_S) : Int32 × a_S := match a_hill a with
  | none => (-1000002, a)
  | some t => (slF t 6 0 0, a)
def sp_peace (a : a_S) (w : Int32) : Int32 × a_S := match a_hill a with
  | none => (-1000002, a)
  | some t => if wn w 0 1 then (match pcF 41 0 t with
    | none => -1000000
    | some q => if w = 0 then nI q.1 else q.2 8, a) else (-1000001, a)
theorem b01 {A B : Prop} [Decidable A] [Decidable B] : ((if A then (1 : Int32) else 0) = (if B then 1 else 0)) ↔ (A ↔ B) := by
  by_cases hA : A <;> by_cases hB : B <;> simp [hA, hB]
set_option maxHeartbeats 1000000 in
theorem lp_X5_sulkers {SL d : Nat} {Q : Option Int32 → m_G → Prop} {t : m_T} (hK : a_TK t) : ∀ (n i : Nat) (g : m_G) (x : Int32) (x5 x6 x7 : Value), i + n = 6 → (∃ w, TW g 68 (upd t 8 w)) → (∀ g2, m_fr m_scr g g2 → TW g2 68 t → Q (some (slF t n i x)) g2) → Sim SL (d + 5) yX5_sulkers cX5_sulkers 8 (some .int) 22 [.ref 24, .int (t 8), .int (eC (sRest t 0)), .int x, .int (nI i), x5, x6, x7] [] g Q := by
  intro n
  induction n with
  | zero =>
    intro i g x x5 x6 x7 hin hR0 hQ
    obtain ⟨w, hR⟩ := hR0
    have hi : i = 6 := by omega
    subst hi
    refine s_iload (n := 24) dX5_sulkers_22 rfl rfl ?_
    refine s_aload_n (n := 25) dX5_sulkers_24 rfl rfl rfl ?_
    refine s_getr (k2 := 68) (n := 28) dX5_sulkers_25 rfl fl_X5_12 rfl rfl rfl ?_
    refine s_geti (n := 31) dX5_sulkers_28 rfl fl_X5_68 rfl rfl ?_
    rw [hR.1.2.1, upd_ne (show (1 : Nat) ≠ 8 by decide)]
    refine s_icmp_ge (n := 34) (t := 131) dX5_sulkers_31 (by decide) rfl (fun h31 => ?_) (fun h31 => ?_)
    · refine s_aload_n (n := 132) dX5_sulkers_131 rfl rfl rfl ?_
      refine s_getr (k2 := 68) (n := 135) dX5_sulkers_132 rfl fl_X5_12 rfl rfl rfl ?_
      refine s_iload_n (n := 136) dX5_sulkers_135 rfl rfl rfl ?_
      refine s_puti (n := 139) dX5_sulkers_136 rfl fl_X5_32 rfl rfl rfl ?_
      refine s_iload_n (n := 140) dX5_sulkers_139 rfl rfl rfl ?_
      refine s_ireturn dX5_sulkers_140 rfl rfl ?_
      refine hQ _ (m_fr.up (by decide)) ?_
      have := hR.opn (t 8)
      rw [upd_upd, upd_self] at this
      exact this
    · exact absurd hK.t1 h31
  | succ n ih =>
    intro i g x x5 x6 x7 hin hR0 hQ
    obtain ⟨w, hR⟩ := hR0
    have hi6 : i < 6 := by omega
    refine s_iload (n := 24) dX5_sulkers_22 rfl rfl ?_
    refine s_aload_n (n := 25) dX5_sulkers_24 rfl rfl rfl ?_
    refine s_getr (k2 := 68) (n := 28) dX5_sulkers_25 rfl fl_X5_12 rfl rfl rfl ?_
    refine s_geti (n := 31) dX5_sulkers_28 rfl fl_X5_68 rfl rfl ?_
    rw [hR.1.2.1, upd_ne (show (1 : Nat) ≠ 8 by decide)]
    unfold slF at hQ
    refine s_icmp_ge (n := 34) (t := 131) dX5_sulkers_31 (by decide) rfl (fun h31 => ?_) (fun h31 => ?_)
    · refine s_aload_n (n := 132) dX5_sulkers_131 rfl rfl rfl ?_
      refine s_getr (k2 := 68) (n := 135) dX5_sulkers_132 rfl fl_X5_12 rfl rfl rfl ?_
      refine s_iload_n (n := 136) dX5_sulkers_135 rfl rfl rfl ?_
      refine s_puti (n := 139) dX5_sulkers_136 rfl fl_X5_32 rfl rfl rfl ?_
      refine s_iload_n (n := 140) dX5_sulkers_139 rfl rfl rfl ?_
      refine s_ireturn dX5_sulkers_140 rfl rfl ?_
      rw [if_pos h31] at hQ
      refine hQ _ (m_fr.up (by decide)) ?_
      have := hR.opn (t 8)
      rw [upd_upd, upd_self] at this
      exact this
    · rw [if_neg h31] at hQ
      refine s_aload_n (n := 35) dX5_sulkers_34 rfl rfl rfl ?_
      refine s_getr (k2 := 68) (n := 38) dX5_sulkers_35 rfl fl_X5_12 rfl rfl rfl ?_
      refine s_iload_n (n := 39) dX5_sulkers_38 rfl rfl rfl ?_
      refine s_iconst (v := 1) (n := 40) dX5_sulkers_39 rfl (by decide) ?_
      refine s_iload (n := 42) dX5_sulkers_40 rfl rfl ?_
      refine s_ishl (n := 43) dX5_sulkers_42 rfl ?_
      refine s_ixor (n := 44) dX5_sulkers_43 rfl ?_
      refine s_puti (n := 47) dX5_sulkers_44 rfl fl_X5_32 rfl rfl rfl ?_
      refine s_iload_n (n := 48) dX5_sulkers_47 rfl rfl rfl ?_
      refine s_iload (n := 50) dX5_sulkers_48 rfl rfl ?_
      refine s_mat_icmp_ne (n := 58) (t := 57) dX5_sulkers_50 (by decide) dX5_sulkers_53 dX5_sulkers_54 (by decide) dX5_sulkers_57 rfl (u := 0) (v := 1) (by decide) (by decide) ?_
      refine s_istore (n := 60) dX5_sulkers_58 rfl (by decide) rfl rfl ?_
      have hR2 : TW (m_up g 68 11 (t 8 ^^^ a_sh i)) 68 (upd t 8 (t 8 ^^^ a_sh i)) := by
        have := hR.opn (t 8 ^^^ a_sh i)
        rw [upd_upd] at this
        exact this
      have hK2 := hK.op (t 8 ^^^ a_sh i)
      refine s_aload_n (n := 61) dX5_sulkers_60 rfl rfl rfl ?_
      refine s_getr (k2 := 68) (n := 64) dX5_sulkers_61 rfl fl_X5_12 rfl rfl rfl ?_
      refine s_iconst (v := 0) (n := 65) dX5_sulkers_64 rfl (by decide) ?_
      refine s_cv1 (n := 68) dX5_sulkers_65 rfl mo_X1_restIn ml_X5_36 rfl (by decide) rfl rfl (Nat.le_of_ble_eq_true rfl) (Nat.le_of_ble_eq_true rfl) (c_X1_restIn hb68 hR2 hK2.t0 hK2.t1 hK2.t6 _ (hK2.top wn00) (fun g2 hf _ _ _ => ?_))
      dsimp only [m_push]
      refine s_iload (n := 70) dX5_sulkers_68 rfl rfl ?_
      refine s_mat_icmp_ne (n := 78) (t := 77) dX5_sulkers_70 (by decide) dX5_sulkers_73 dX5_sulkers_74 (by decide) dX5_sulkers_77 rfl (u := 0) (v := 1) (by decide) (by decide) ?_
      refine s_istore (n := 80) dX5_sulkers_78 rfl (by decide) rfl rfl ?_
      refine s_aload_n (n := 81) dX5_sulkers_80 rfl rfl rfl ?_
      refine s_getr (k2 := 68) (n := 84) dX5_sulkers_81 rfl fl_X5_12 rfl rfl rfl ?_
      refine s_getr (k2 := 69) (n := 87) dX5_sulkers_84 rfl fl_X5_39 rfl rfl rfl ?_
      refine s_iload (n := 89) dX5_sulkers_87 rfl rfl ?_
      refine s_aaload (k2 := 72 + i) (t := 0) i (n := 90) dX5_sulkers_89 rfl rfl (by decide) rfl hi6 rfl ?_
      refine s_geti (n := 93) dX5_sulkers_90 rfl fl_X5_71 rfl (hbh hb68 hi6) ?_
      have hT2 := hR2.fr hf
      rw [show g2 (72 + i) 3 = t (27 + i) by rw [(hT2.2 i hi6 (by rw [upd_ne (by decide)]; exact h31)).2.2.2.1, upd_ne (by omega)]]
      refine s_iconst (v := 1) (n := 94) dX5_sulkers_93 rfl (by decide) ?_
      refine s_mat_icmp_ne (n := 102) (t := 101) dX5_sulkers_94 (by decide) dX5_sulkers_97 dX5_sulkers_98 (by decide) dX5_sulkers_101 rfl (u := 0) (v := 1) (by decide) (by decide) ?_
      refine s_istore (n := 104) dX5_sulkers_102 rfl (by decide) rfl rfl ?_
      have hfr : m_fr m_scr g g2 := (m_fr.up (by decide)).tr (hf.mono (by decide))
      have eA : eC (sRest t 0) = nI i ↔ sRest t 0 = some i := eC_eq hi6 sRun6
      have eB : eC (sRest (upd t 8 (t 8 ^^^ a_sh i)) 0) = nI i ↔ sRest (upd t 8 (t 8 ^^^ a_sh i)) 0 = some i := eC_eq hi6 sRun6
      refine s_iload (n := 106) dX5_sulkers_104 rfl rfl ?_
      refine s_iload (n := 108) dX5_sulkers_106 rfl rfl ?_
      refine s_icmp_eq (n := 111) (t := 125) dX5_sulkers_108 (by decide) rfl (fun h108 => ?_) (fun h108 => ?_)
      · refine s_iinc (n := 128) (v := nI (i + 1)) dX5_sulkers_125 rfl (by decide) rfl rfl (nI_1 i) rfl ?_
        refine s_goto (t := 22) dX5_sulkers_128 (by decide) ?_
        first
        | (have hp : slP t i := by
             have q1 := mt b01.mpr h108
             have q2 := b01.mp h115
             rw [eA] at q1
             rw [show eC (sRun (upd t 8 (t 8 ^^^ a_sh i)) (sTop (upd t 8 (t 8 ^^^ a_sh i)) 0)).1 = nI i ↔ sRest (upd t 8 (t 8 ^^^ a_sh i)) 0 = some i from eB] at q1 q2
             exact ⟨q1, q2⟩
           rw [if_pos hp] at hQ
           exact ih (i + 1) g2 _ _ _ _ (by omega) ⟨_, hT2⟩ (fun g3 hf3 => hQ g3 (hfr.tr hf3)))
        | (have hp : ¬ slP t i := by
             rintro ⟨z1, z2⟩
             rw [← eA, ← eB] at z1
             rw [← eB] at z2
             first
             | exact h115 (b01.mpr z2)
             | exact z1 (b01.mp h108)
           rw [if_neg hp] at hQ
           exact ih (i + 1) g2 _ _ _ _ (by omega) ⟨_, hT2⟩ (fun g3 hf3 => hQ g3 (hfr.tr hf3)))
      · refine s_iload (n := 113) dX5_sulkers_111 rfl rfl ?_
        refine s_iload (n := 115) dX5_sulkers_113 rfl rfl ?_
        refine s_icmp_ne (n := 118) (t := 125) dX5_sulkers_115 (by decide) rfl (fun h115 => ?_) (fun h115 => ?_)
        · refine s_iinc (n := 128) (v := nI (i + 1)) dX5_sulkers_125 rfl (by decide) rfl rfl (nI_1 i) rfl ?_
          refine s_goto (t := 22) dX5_sulkers_128 (by decide) ?_
          first
          | (have hp : slP t i := by
               have q1 := mt b01.mpr h108
               have q2 := b01.mp h115
               rw [eA] at q1
               rw [show eC (sRun (upd t 8 (t 8 ^^^ a_sh i)) (sTop (upd t 8 (t 8 ^^^ a_sh i)) 0)).1 = nI i ↔ sRest (upd t 8 (t 8 ^^^ a_sh i)) 0 = some i from eB] at q1 q2
               exact ⟨q1, q2⟩
             rw [if_pos hp] at hQ
             exact ih (i + 1) g2 _ _ _ _ (by omega) ⟨_, hT2⟩ (fun g3 hf3 => hQ g3 (hfr.tr hf3)))
          | (have hp : ¬ slP t i := by
               rintro ⟨z1, z2⟩
               rw [← eA, ← eB] at z1
               rw [← eB] at z2
               first
               | exact h115 (b01.mpr z2)
               | exact z1 (b01.mp h108)
             rw [if_neg hp] at hQ
             exact ih (i + 1) g2 _ _ _ _ (by omega) ⟨_, hT2⟩ (fun g3 hf3 => hQ g3 (hfr.tr hf3)))
        · refine s_iload_n (n := 119) dX5_sulkers_118 rfl rfl rfl ?_
          refine s_iconst (v := 1) (n := 120) dX5_sulkers_119 rfl (by decide) ?_
          refine s_iload (n := 122) dX5_sulkers_120 rfl rfl ?_
          refine s_ishl (n := 123) dX5_sulkers_122 rfl ?_
          refine s_ior (n := 124) dX5_sulkers_123 rfl ?_
          refine s_istore_n (n := 125) dX5_sulkers_124 rfl rfl (by decide) rfl rfl ?_
          refine s_iinc (n := 128) (v := nI (i + 1)) dX5_sulkers_125 rfl (by decide) rfl rfl (nI_1 i) rfl ?_
          refine s_goto (t := 22) dX5_sulkers_128 (by decide) ?_
          first
          | (have hp : slP t i := by
               have q1 := mt b01.mpr h108
               have q2 := b01.mp h115
               rw [eA] at q1
               rw [show eC (sRun (upd t 8 (t 8 ^^^ a_sh i)) (sTop (upd t 8 (t 8 ^^^ a_sh i)) 0)).1 = nI i ↔ sRest (upd t 8 (t 8 ^^^ a_sh i)) 0 = some i from eB] at q1 q2
               exact ⟨q1, q2⟩
             rw [if_pos hp] at hQ
             exact ih (i + 1) g2 _ _ _ _ (by omega) ⟨_, hT2⟩ (fun g3 hf3 => hQ g3 (hfr.tr hf3)))
          | (have hp : ¬ slP t i := by
               rintro ⟨z1, z2⟩
               rw [← eA, ← eB] at z1
               rw [← eB] at z2
               first
               | exact h115 (b01.mpr z2)
               | exact z1 (b01.mp h108)
             rw [if_neg hp] at hQ
             exact ih (i + 1) g2 _ _ _ _ (by omega) ⟨_, hT2⟩ (fun g3 hf3 => hQ g3 (hfr.tr hf3)))
theorem c_X5_sulkers {SL : Nat} {d : Nat} {Q : Option Int32 → m_G → Prop} {g : m_G} {t : m_T} (hT : TW g 68 t) (hK : a_TK t) (hQ : ∀ g2, m_fr m_scr g g2 → TW g2 68 t → Q (some (slF t 6 0 0)) g2) : Sim SL (d + 5) yX5_sulkers cX5_sulkers 8 (some .int) 0 [.ref 24, .null, .null, .null, .null, .null, .null, .null] [] g Q := by
  refine s_aload_n (n := 1) dX5_sulkers_0 rfl rfl rfl ?_
  refine s_getr (k2 := 68) (n := 4) dX5_sulkers_1 rfl fl_X5_12 rfl rfl rfl ?_
  refine s_geti (n := 7) dX5_sulkers_4 rfl fl_X5_32 rfl rfl ?_
  rw [hT.1.2.2.2.2.2.2.2.2]
  refine s_istore_n (n := 8) dX5_sulkers_7 rfl rfl (by decide) rfl rfl ?_
  refine s_aload_n (n := 9) dX5_sulkers_8 rfl rfl rfl ?_
  refine s_getr (k2 := 68) (n := 12) dX5_sulkers_9 rfl fl_X5_12 rfl rfl rfl ?_
  refine s_iconst (v := 0) (n := 13) dX5_sulkers_12 rfl (by decide) ?_
  refine s_cv1 (n := 16) dX5_sulkers_13 rfl mo_X1_restIn ml_X5_36 rfl (by decide) rfl rfl (Nat.le_of_ble_eq_true rfl) (Nat.le_of_ble_eq_true rfl) (c_X1_restIn hb68 hT hK.t0 hK.t1 hK.t6 _ (hK.top wn00) (fun g2 hf _ _ _ => ?_))
  dsimp only [m_push]
  refine s_istore_n (n := 17) dX5_sulkers_16 rfl rfl (by decide) rfl rfl ?_
  refine s_iconst (v := 0) (n := 18) dX5_sulkers_17 rfl (by decide) ?_
  refine s_istore_n (n := 19) dX5_sulkers_18 rfl rfl (by decide) rfl rfl ?_
  refine s_iconst (v := 0) (n := 20) dX5_sulkers_19 rfl (by decide) ?_
  refine s_istore (n := 22) dX5_sulkers_20 rfl (by decide) rfl rfl ?_
  have hfr : m_fr m_scr g g2 := hf.mono (by decide)
  exact lp_X5_sulkers hK 6 0 g2 0 _ _ _ rfl ⟨t 8, by rw [upd_self]; exact hT.fr hf⟩ (fun g3 hf3 => hQ g3 (hfr.tr hf3))
theorem c_X5_sulkersNow {SL : Nat} {d : Nat} {Q : Option Int32 → m_G → Prop} {g : m_G} {t : m_T} (hT : TW g 28 t) (h2 : g 28 2 = 1) (hK : a_TK t) (hQ : ∀ g2, m_fr m_scr g g2 → Q (some (slF t 6 0 0)) g2) : Sim SL (d + 6) yX5_sulkersNow cX5_sulkersNow 2 (some .int) 0 [.ref 24, .ref 28] [] g Q := by
  refine s_aload_n (n := 1) dX5_sulkersNow_0 rfl rfl rfl ?_
  refine s_getr (k2 := 68) (n := 4) dX5_sulkersNow_1 rfl fl_X5_12 rfl rfl rfl ?_
  refine s_aload_n (n := 5) dX5_sulkersNow_4 rfl rfl rfl ?_
  refine s_cv1 (n := 8) dX5_sulkersNow_5 rfl mo_X1_become ml_X5_18 rfl (by decide) rfl rfl (Nat.le_of_ble_eq_true rfl) (Nat.le_of_ble_eq_true rfl) (c_X1_become hb68 hb28 (by decide) (Or.inr h2) (fun g1 hf1 hE => ?_))
  have hfr1 : m_fr m_scr g g1 := hf1.mono (by decide)
  have hT1 := hE.TW hT
  dsimp only [m_push]
  refine s_aload_n (n := 9) dX5_sulkersNow_8 rfl rfl rfl ?_
  refine s_cv0 (n := 12) dX5_sulkersNow_9 rfl mo_X5_sulkers ml_X5_65 rfl (by decide) rfl rfl (Nat.le_of_ble_eq_true rfl) (Nat.le_of_ble_eq_true rfl) (c_X5_sulkers hT1 hK (fun g2 hf _ => ?_))
  dsimp only [m_push]
  refine s_ireturn dX5_sulkersNow_12 rfl rfl ?_
  exact hQ g2 (hfr1.tr hf)
theorem C_sulks {SL : Nat} {d : Nat} {Q : Option Int32 → m_G → Prop} {g : m_G} {a : a_S} (hA : a_OK a) (hC : C_R g a) (hQ : E_C g a Q (sp_sulks a)) : Sim SL (d + 7) yX8_sulks cX8_sulks 1 (some .int) 0 [.ref 0] [] g Q := by
  unfold E_C sp_sulks at hQ
  have hT : TW g 28 (a_H a) := hC.2.2.1.2
  refine s_aload_n (n := 1) dX8_sulks_0 rfl rfl rfl ?_
  refine s_getr (k2 := 28) (n := 4) dX8_sulks_1 rfl fl_X8_25 rfl rfl rfl ?_
  refine s_geti (n := 7) dX8_sulks_4 rfl fl_X8_135 rfl rfl ?_
  rw [hC.2.2.1.1]
  refine s_if_eq (n := 10) (t := 24) dX8_sulks_7 (by decide) rfl (fun h7 => ?_) (fun h7 => ?_)
  · refine s_ldc (n := 26) dX8_sulks_24 rfl kc_X8_138 ?_
    refine s_ireturn dX8_sulks_26 rfl rfl ?_
    first
    | exact hQ g2 (hC.fr hf) (hf.FC (by decide))
    | (cases hh : a_hill a with
       | none => rw [hh] at hQ; exact hQ g hC F_C.rf
       | some t => rw [hh] at h7; exact absurd h7 (by show ¬ (1 : Int32) = 0; decide))
  · obtain ⟨t, hh⟩ : ∃ t, a_hill a = some t := by
      cases hh : a_hill a with
      | none => rw [hh] at h7; exact absurd rfl h7
      | some t => exact ⟨t, rfl⟩
    have hHt : a_H a = t := by unfold a_H a_T; rw [hh]; rfl
    have hK := hA.1 t hh
    rw [hHt] at hT
    rw [hh] at hQ
    dsimp only at hQ
    refine s_aload_n (n := 11) dX8_sulks_10 rfl rfl rfl ?_
    refine s_getr (k2 := 24) (n := 14) dX8_sulks_11 rfl fl_X8_46 rfl rfl rfl ?_
    refine s_aload_n (n := 15) dX8_sulks_14 rfl rfl rfl ?_
    refine s_getr (k2 := 28) (n := 18) dX8_sulks_15 rfl fl_X8_25 rfl rfl rfl ?_
    refine s_cv1 (n := 21) dX8_sulks_18 rfl mo_X5_sulkersNow ml_X8_246 rfl (by decide) rfl rfl (Nat.le_of_ble_eq_true rfl) (Nat.le_of_ble_eq_true rfl) (c_X5_sulkersNow hT (by rw [hC.2.2.1.1, hh]; rfl) hK (fun g2 hf => ?_))
    dsimp only [m_push]
    refine s_goto (t := 26) dX8_sulks_21 (by decide) ?_
    refine s_ireturn dX8_sulks_26 rfl rfl ?_
    first
    | exact hQ g2 (hC.fr hf) (hf.FC (by decide))
    | (cases hh : a_hill a with
       | none => rw [hh] at hQ; exact hQ g hC F_C.rf
       | some t => rw [hh] at h7; exact absurd h7 (by show ¬ (1 : Int32) = 0; decide))
theorem c_lowestOneBit {SL : Nat} {d : Nat} {Q : Option Int32 → m_G → Prop} {g : m_G} (x : Int32) (hQ : Q (some (x &&& -x)) g) : Sim SL d yJ6_lowestOneBit_0f7a4 cJ6_lowestOneBit_0f7a4 1 (some .int) 0 [.int x] [] g Q := by
  refine s_iload_n (n := 1) dJ6_lowestOneBit_0f7a4_0 rfl rfl rfl ?_
  refine s_iload_n (n := 2) dJ6_lowestOneBit_0f7a4_1 rfl rfl rfl ?_
  refine s_ineg (n := 3) dJ6_lowestOneBit_0f7a4_2 rfl ?_
  refine s_iand (n := 4) dJ6_lowestOneBit_0f7a4_3 rfl ?_
  refine s_ireturn dJ6_lowestOneBit_0f7a4_4 rfl rfl ?_
  exact hQ
theorem lp_X5_turnsToPeace {SL d : Nat} {Q : Option Int32 → m_G → Prop} : ∀ (n k : Nat) (g : m_G) (t : m_T) (x3 : Value), k + n = 41 → TW g 68 t → a_TK t → (∀ g2, pcF n k t = none → m_fr m_scr g g2 → Q (some (-1)) g2) → (∀ q u g2, pcF n k t = some (q, u) → m_fr m_scr g g2 → TW g2 68 u → Q (some (nI q)) g2) → Sim SL (d + 6) yX5_turnsToPeace cX5_turnsToPeace 4 (some .int) 10 [.ref 24, .ref 28, .int (nI k), x3] [] g Q := by
  intro n
  induction n with
  | zero =>
    intro k g t x3 hin hT hK hQn hQs
    have hk : k = 41 := by omega
    subst hk
    refine s_iload_n (n := 11) dX5_turnsToPeace_10 rfl rfl rfl ?_
    refine s_bipush (v := 40) (n := 13) dX5_turnsToPeace_11 rfl (by decide) ?_
    refine s_icmp_gt (n := 16) (t := 49) dX5_turnsToPeace_13 (by decide) rfl (fun h13 => ?_) (fun h13 => ?_)
    · refine s_iconst (v := -1) (n := 50) dX5_turnsToPeace_49 rfl (by decide) ?_
      refine s_ireturn dX5_turnsToPeace_50 rfl rfl ?_
      exact hQn g rfl m_fr.rf
    · exact absurd (by decide) h13
  | succ n ih =>
    intro k g t x3 hin hT hK hQn hQs
    have hk : k < 41 := by omega
    refine s_iload_n (n := 11) dX5_turnsToPeace_10 rfl rfl rfl ?_
    refine s_bipush (v := 40) (n := 13) dX5_turnsToPeace_11 rfl (by decide) ?_
    refine s_icmp_gt (n := 16) (t := 49) dX5_turnsToPeace_13 (by decide) rfl (fun h13 => ?_) (fun h13 => ?_)
    · exact absurd h13 (nI_nlt (show k ≤ 40 by omega) (by decide))
    · refine s_aload_n (n := 17) dX5_turnsToPeace_16 rfl rfl rfl ?_
      refine s_cv0 (n := 20) dX5_turnsToPeace_17 rfl mo_X5_sulkers ml_X5_65 rfl (by decide) rfl rfl (Nat.le_of_ble_eq_true rfl) (Nat.le_of_ble_eq_true rfl) (c_X5_sulkers hT hK (fun g2 hf hT2 => ?_))
      dsimp only [m_push]
      refine s_istore_n (n := 21) dX5_turnsToPeace_20 rfl rfl (by decide) rfl rfl ?_
      refine s_iload_n (n := 22) dX5_turnsToPeace_21 rfl rfl rfl ?_
      refine s_if_ne (n := 25) (t := 27) dX5_turnsToPeace_22 (by decide) rfl (fun h22 => ?_) (fun h22 => ?_)
      · unfold pcF at hQn hQs
        rw [if_neg h22] at hQn hQs
        refine s_aload_n (n := 28) dX5_turnsToPeace_27 rfl rfl rfl ?_
        refine s_getr (k2 := 68) (n := 31) dX5_turnsToPeace_28 rfl fl_X5_12 rfl rfl rfl ?_
        refine s_dup (n := 32) dX5_turnsToPeace_31 rfl rfl ?_
        refine s_geti (n := 35) dX5_turnsToPeace_32 rfl fl_X5_32 rfl rfl ?_
        rw [hT2.1.2.2.2.2.2.2.2.2]
        refine s_iload_n (n := 36) dX5_turnsToPeace_35 rfl rfl rfl ?_
        refine s_cs1 (n := 39) dX5_turnsToPeace_36 rfl mo_J6_lowestOneBit_0f7a4 ml_X5_74 rfl (Nat.le_of_ble_eq_true rfl) (Nat.le_of_ble_eq_true rfl) (c_lowestOneBit _ ?_)
        dsimp only [m_push]
        refine s_ixor (n := 40) dX5_turnsToPeace_39 rfl ?_
        refine s_puti (n := 43) dX5_turnsToPeace_40 rfl fl_X5_32 rfl rfl rfl ?_
        refine s_iinc (n := 46) (v := nI (k + 1)) dX5_turnsToPeace_43 rfl (by decide) rfl rfl (nI_1 k) rfl ?_
        refine s_goto (t := 10) dX5_turnsToPeace_46 (by decide) ?_
        have hfr : m_fr m_scr g (m_up g2 68 11 (t 8 ^^^ (slF t 6 0 0 &&& -slF t 6 0 0))) := hf.up2 (by decide)
        exact ih (k + 1) _ _ _ (by omega) (hT2.opn _) (hK.op _) (fun g3 e hf3 => hQn g3 e (hfr.tr hf3)) (fun q u g3 e hf3 hT3 => hQs q u g3 e (hfr.tr hf3) hT3)
      · refine s_iload_n (n := 26) dX5_turnsToPeace_25 rfl rfl rfl ?_
        refine s_ireturn dX5_turnsToPeace_26 rfl rfl ?_
        unfold pcF at hQs
        rw [if_pos h22] at hQs
        exact hQs _ _ g2 rfl hf hT2
theorem c_X5_turnsToPeace {SL : Nat} {d : Nat} {Q : Option Int32 → m_G → Prop} {g : m_G} {t : m_T} (hT : TW g 28 t) (h2 : g 28 2 = 1) (hK : a_TK t) (hQn : ∀ g2, pcF 41 0 t = none → m_fr m_scr g g2 → Q (some (-1)) g2) (hQs : ∀ q u g2, pcF 41 0 t = some (q, u) → m_fr m_scr g g2 → TW g2 68 u → Q (some (nI q)) g2) : Sim SL (d + 6) yX5_turnsToPeace cX5_turnsToPeace 4 (some .int) 0 [.ref 24, .ref 28, .null, .null] [] g Q := by
  refine s_aload_n (n := 1) dX5_turnsToPeace_0 rfl rfl rfl ?_
  refine s_getr (k2 := 68) (n := 4) dX5_turnsToPeace_1 rfl fl_X5_12 rfl rfl rfl ?_
  refine s_aload_n (n := 5) dX5_turnsToPeace_4 rfl rfl rfl ?_
  refine s_cv1 (n := 8) dX5_turnsToPeace_5 rfl mo_X1_become ml_X5_18 rfl (by decide) rfl rfl (Nat.le_of_ble_eq_true rfl) (Nat.le_of_ble_eq_true rfl) (c_X1_become hb68 hb28 (by decide) (Or.inr h2) (fun g1 hf1 hE => ?_))
  have hfr1 : m_fr m_scr g g1 := hf1.mono (by decide)
  have hT1 := hE.TW hT
  dsimp only [m_push]
  refine s_iconst (v := 0) (n := 9) dX5_turnsToPeace_8 rfl (by decide) ?_
  refine s_istore_n (n := 10) dX5_turnsToPeace_9 rfl rfl (by decide) rfl rfl ?_
  exact lp_X5_turnsToPeace 41 0 g1 t _ rfl hT1 hK (fun g3 e hf3 => hQn g3 e (hfr1.tr hf3)) (fun q u g3 e hf3 hT3 => hQs q u g3 e (hfr1.tr hf3) hT3)
theorem pcF_lt : ∀ (n k : Nat) (t : m_T) {q : Nat} {u : m_T}, pcF n k t = some (q, u) → q < k + n
  | 0, _, _, _, _, h => by cases h
  | n + 1, k, t, q, u, h => by
    unfold pcF at h
    split at h
    · cases h; omega
    · have := pcF_lt n (k + 1) _ h
      omega
theorem C_peace {SL : Nat} {d : Nat} {Q : Option Int32 → m_G → Prop} {g : m_G} {a : a_S} (hA : a_OK a) (hC : C_R g a) (w : Int32) (hQ : E_C g a Q (sp_peace a w)) : Sim SL (d + 7) yX8_peace cX8_peace 3 (some .int) 0 [.ref 0, .int w, .null] [] g Q := by
  unfold E_C sp_peace at hQ
  have hT : TW g 28 (a_H a) := hC.2.2.1.2
  refine s_aload_n (n := 1) dX8_peace_0 rfl rfl rfl ?_
  refine s_getr (k2 := 28) (n := 4) dX8_peace_1 rfl fl_X8_25 rfl rfl rfl ?_
  refine s_geti (n := 7) dX8_peace_4 rfl fl_X8_135 rfl rfl ?_
  rw [hC.2.2.1.1]
  refine s_if_ne (n := 10) (t := 13) dX8_peace_7 (by decide) rfl (fun h7 => ?_) (fun h7 => ?_)
  · obtain ⟨t, hh⟩ : ∃ t, a_hill a = some t := by
      cases hh : a_hill a with
      | none => rw [hh] at h7; exact absurd rfl h7
      | some t => exact ⟨t, rfl⟩
    have hHt : a_H a = t := by unfold a_H a_T; rw [hh]; rfl
    have hK := hA.1 t hh
    rw [hHt] at hT
    rw [hh] at hQ
    dsimp only at hQ
    refine s_iload_n (n := 14) dX8_peace_13 rfl rfl rfl ?_
    refine s_iconst (v := 0) (n := 15) dX8_peace_14 rfl (by decide) ?_
    refine s_iconst (v := 1) (n := 16) dX8_peace_15 rfl (by decide) ?_
    refine s_cs3 (n := 19) dX8_peace_16 rfl mo_X8_within ml_X8_62 rfl (Nat.le_of_ble_eq_true rfl) (Nat.le_of_ble_eq_true rfl) (c_X8_within _ _ _ (fun hb16 => ?_) (fun hb16 => ?_))
    · dsimp only [m_push]
      refine s_if_ne (n := 22) (t := 25) dX8_peace_19 (by decide) rfl (fun _ => ?_) (fun h => absurd h (by decide))
      rw [if_pos hb16] at hQ
      refine s_aload_n (n := 26) dX8_peace_25 rfl rfl rfl ?_
      refine s_getr (k2 := 24) (n := 29) dX8_peace_26 rfl fl_X8_46 rfl rfl rfl ?_
      refine s_aload_n (n := 30) dX8_peace_29 rfl rfl rfl ?_
      refine s_getr (k2 := 28) (n := 33) dX8_peace_30 rfl fl_X8_25 rfl rfl rfl ?_
      refine s_cv1 (n := 36) dX8_peace_33 rfl mo_X5_turnsToPeace ml_X8_250 rfl (by decide) rfl rfl (Nat.le_of_ble_eq_true rfl) (Nat.le_of_ble_eq_true rfl) (c_X5_turnsToPeace hT (by rw [hC.2.2.1.1, hh]; rfl) hK (fun g2 e hf => ?_) (fun q u g2 e hf hT2 => ?_))
      · dsimp only [m_push]
        rw [e] at hQ
        refine s_istore_n (n := 37) dX8_peace_36 rfl rfl (by decide) rfl rfl ?_
        refine s_iload_n (n := 38) dX8_peace_37 rfl rfl rfl ?_
        refine s_if_ge (n := 41) (t := 44) dX8_peace_38 (by decide) rfl (fun h => absurd h (by decide)) (fun _ => ?_)
        refine s_ldc (n := 43) dX8_peace_41 rfl kc_X8_217 ?_
        refine s_ireturn dX8_peace_43 rfl rfl ?_
        exact hQ g2 (hC.fr hf) (hf.FC (by decide))
      · dsimp only [m_push]
        have hq := pcF_lt 41 0 t e
        rw [e] at hQ
        dsimp only at hQ
        refine s_istore_n (n := 37) dX8_peace_36 rfl rfl (by decide) rfl rfl ?_
        refine s_iload_n (n := 38) dX8_peace_37 rfl rfl rfl ?_
        refine s_if_ge (n := 41) (t := 44) dX8_peace_38 (by decide) rfl (fun h38 => ?_) (fun h38 => ?_)
        · refine s_iload_n (n := 45) dX8_peace_44 rfl rfl rfl ?_
          refine s_if_ne (n := 48) (t := 52) dX8_peace_45 (by decide) rfl (fun h45 => ?_) (fun h45 => ?_)
          · refine s_aload_n (n := 53) dX8_peace_52 rfl rfl rfl ?_
            refine s_getr (k2 := 24) (n := 56) dX8_peace_53 rfl fl_X8_46 rfl rfl rfl ?_
            refine s_getr (k2 := 68) (n := 59) dX8_peace_56 rfl fl_X8_253 rfl rfl rfl ?_
            refine s_geti (n := 62) dX8_peace_59 rfl fl_X8_159 rfl rfl ?_
            first | rw [hT2.1.2.2.2.2.2.2.2.2] | skip
            refine s_ireturn dX8_peace_62 rfl rfl ?_
            first
            | (rw [if_pos h45] at hQ; exact hQ g2 (hC.fr hf) (hf.FC (by decide)))
            | (rw [if_neg h45] at hQ; exact hQ g2 (hC.fr hf) (hf.FC (by decide)))
          · refine s_iload_n (n := 49) dX8_peace_48 rfl rfl rfl ?_
            refine s_goto (t := 62) dX8_peace_49 (by decide) ?_
            first | rw [hT2.1.2.2.2.2.2.2.2.2] | skip
            refine s_ireturn dX8_peace_62 rfl rfl ?_
            first
            | (rw [if_pos h45] at hQ; exact hQ g2 (hC.fr hf) (hf.FC (by decide)))
            | (rw [if_neg h45] at hQ; exact hQ g2 (hC.fr hf) (hf.FC (by decide)))
        · exact absurd (nI_pos' (by omega)) h38
    · dsimp only [m_push]
      refine s_if_ne (n := 22) (t := 25) dX8_peace_19 (by decide) rfl (fun h => absurd h (by decide)) (fun _ => ?_)
      refine s_ldc (n := 24) dX8_peace_22 rfl kc_X8_66 ?_
      refine s_ireturn dX8_peace_24 rfl rfl ?_
      rw [if_neg hb16] at hQ
      exact hQ g hC F_C.rf
  · refine s_ldc (n := 12) dX8_peace_10 rfl kc_X8_138 ?_
    refine s_ireturn dX8_peace_12 rfl rfl ?_
    cases hh : a_hill a with
    | none => rw [hh] at hQ; exact hQ g hC F_C.rf
    | some t => rw [hh] at h7; exact absurd h7 (by show ¬ (1 : Int32) = 0; decide)
