/-- the hill's town, or none -/
abbrev a_H (a : a_S) : m_T := a_T (a_hill a)
theorem a_OK.cnt {a : a_S} (h : a_OK a) : wn (a_H a 1) 0 6 := by
  unfold a_H a_T
  cases hh : a_hill a with
  | none => exact ⟨by decide, by decide⟩
  | some t => exact (h.1 t hh).2.1
theorem a_OK.cle {a : a_S} (h : a_OK a) : a_H a 1 ≤ 6 := Int32.not_lt.mp h.cnt.2
theorem isH_ex {t : m_T} {x : Int32} (hc : wn (t 1) 0 6) (h : wn x 0 (t 1 - 1)) : ∃ i : Nat, i < 6 ∧ x = nI i ∧ ¬ t 1 ≤ nI i := by
  obtain ⟨c, hc6, e⟩ := wn_ex (n := 6) hc rfl
  obtain ⟨i, hi, rfl⟩ := nI_of h.1
  rw [e] at h ⊢
  have h2 := h.2
  rw [i32_lt, nI_toInt hi, Int32.toInt_sub, nI_toInt (by omega), ti1] at h2
  simp only [Int.bmod_def] at h2
  refine ⟨i, by omega, rfl, ?_⟩
  rw [i32_le, nI_toInt (by omega), nI_toInt hi]
  omega
def sp_house (a : a_S) (h w : Int32) : Int32 × a_S := (if wn h 0 (a_H a 1 - 1) then (if w = 0 then a_H a (15 + h.toNatClampNeg) else if w = 1 then a_H a (21 + h.toNatClampNeg) else if w = 2 then a_H a (27 + h.toNatClampNeg) else if w = 3 then bt (a_H a 8) h else if w = 4 then a_H a (33 + h.toNatClampNeg) else -1000001) else -1000001, a)
abbrev sp_cell (t : m_T) (x y : Int32) : Prop := wn x 1 (t 0) ∧ wn y 0 6
def sp_at (a : a_S) (x y : Int32) : Int32 × a_S := (if sp_cell (a_H a) x y then eM (sAt (a_H a) x y) else -1000001, a)
def sp_kind (a : a_S) (h : Int32) : Int32 × a_S := (if wn h 0 (a_H a 1 - 1) then a_H a (9 + h.toNatClampNeg) else -1000001, a)
def sp_trace (a : a_S) (i : Int32) : Int32 × a_S := (if wn i 0 (nI (a_trace a).1 - 1) then (a_trace a).2 i.toNatClampNeg else -1000000, a)
def orN (x : Int32) : Int32 := if 0 ≤ x then x else -1000000
theorem orN_e {o : Option Nat} (h : ∀ i, o = some i → i < 6) : orN (eC o) = eM o := by
  cases o with
  | none => rfl
  | some i => unfold orN eC eM; rw [if_pos (nI_pos' (by have := h i rfl; omega))]
theorem sAt6 {t : m_T} {x y : Int32} : ∀ i, sAt t x y = some i → i < 6 := fun i h => (sAt_lt h).1
theorem c_X8_orNone {SL : Nat} {d : Nat} {Q : Option Int32 → m_G → Prop} {g : m_G} (x : Int32) (hQ : Q (some (orN x)) g) : Sim SL d yX8_orNone cX8_orNone 1 (some .int) 0 [.int x] [] g Q := by
  refine s_iload_n (n := 1) dX8_orNone_0 rfl rfl rfl ?_
  refine s_if_ge (n := 4) (t := 9) dX8_orNone_1 (by decide) rfl (fun h1 => ?_) (fun h1 => ?_)
  · refine s_iload_n (n := 10) dX8_orNone_9 rfl rfl rfl ?_
    refine s_ireturn dX8_orNone_10 rfl rfl ?_
    simpa only [if_pos h1, orN] using hQ
  · refine s_ldc (n := 6) dX8_orNone_4 rfl kc_X8_217 ?_
    refine s_goto (t := 10) dX8_orNone_6 (by decide) ?_
    refine s_ireturn dX8_orNone_10 rfl rfl ?_
    simpa only [if_neg h1, orN] using hQ
theorem c_X8_isHouse {SL : Nat} {d : Nat} {Q : Option Int32 → m_G → Prop} {g : m_G} {t : m_T} (hT : TW g 28 t) (h : Int32) (k1 : wn h 0 (t 1 - 1) → Q (some 1) g) (k0 : ¬ (wn h 0 (t 1 - 1)) → Q (some 0) g) : Sim SL (d + 1) yX8_isHouse cX8_isHouse 2 (some .boolean) 0 [.ref 0, .int h] [] g Q := by
  refine s_iload_n (n := 1) dX8_isHouse_0 rfl rfl rfl ?_
  refine s_iconst (v := 0) (n := 2) dX8_isHouse_1 rfl (by decide) ?_
  refine s_aload_n (n := 3) dX8_isHouse_2 rfl rfl rfl ?_
  refine s_getr (k2 := 28) (n := 6) dX8_isHouse_3 rfl fl_X8_25 rfl rfl rfl ?_
  refine s_geti (n := 9) dX8_isHouse_6 rfl fl_X8_132 rfl rfl ?_
  rw [hT.1.2.1]
  refine s_iconst (v := 1) (n := 10) dX8_isHouse_9 rfl (by decide) ?_
  refine s_isub (n := 11) dX8_isHouse_10 rfl ?_
  refine s_cs3 (n := 14) dX8_isHouse_11 rfl mo_X8_within ml_X8_62 rfl (Nat.le_of_ble_eq_true rfl) (Nat.le_of_ble_eq_true rfl) (c_X8_within _ _ _ (fun hb11 => ?_) (fun hb11 => ?_))
  · dsimp only [m_push]
    refine s_ireturn dX8_isHouse_14 rfl (by decide +kernel) ?_
    first | exact k1 hb11 | exact k0 hb11
  · dsimp only [m_push]
    refine s_ireturn dX8_isHouse_14 rfl (by decide +kernel) ?_
    first | exact k1 hb11 | exact k0 hb11
theorem c_X9_isHouse {SL : Nat} {d : Nat} {Q : Option Int32 → m_G → Prop} {g : m_G} {t : m_T} (hT : TM g 0 t) (h : Int32) (k1 : wn h 0 (t 1 - 1) → Q (some 1) g) (k0 : ¬ (wn h 0 (t 1 - 1)) → Q (some 0) g) : Sim SL (d + 1) yX9_isHouse cX9_isHouse 2 (some .boolean) 0 [.ref 78, .int h] [] g Q := by
  refine s_iload_n (n := 1) dX9_isHouse_0 rfl rfl rfl ?_
  refine s_i2l (n := 2) dX9_isHouse_1 rfl ?_
  refine s_lconst (v := 0) (n := 3) dX9_isHouse_2 rfl (by decide) ?_
  refine s_aload_n (n := 4) dX9_isHouse_3 rfl rfl rfl ?_
  refine s_getr (k2 := 79) (n := 7) dX9_isHouse_4 rfl fl_X9_7 rfl rfl rfl ?_
  refine s_iconst (v := 1) (n := 8) dX9_isHouse_7 rfl (by decide) ?_
  refine s_iaload 1 (n := 9) dX9_isHouse_8 rfl rfl rfl (by decide) ?_
  rw [show g 79 1 = t 1 from hT 1 (by decide)]
  refine s_iconst (v := 1) (n := 10) dX9_isHouse_9 rfl (by decide) ?_
  refine s_isub (n := 11) dX9_isHouse_10 rfl ?_
  refine s_i2l (n := 12) dX9_isHouse_11 rfl ?_
  refine s_cs3 (n := 15) dX9_isHouse_12 rfl mo_X9_in ml_X9_60 rfl (Nat.le_of_ble_eq_true rfl) (Nat.le_of_ble_eq_true rfl) (c_X9_in 0 _ rfl (by decide) rfl (fun hb12 => ?_) (fun hb12 => ?_))
  · dsimp only [m_push]
    refine s_ireturn dX9_isHouse_15 rfl (by decide +kernel) ?_
    first | exact k1 hb12 | exact k0 hb12
  · dsimp only [m_push]
    refine s_ireturn dX9_isHouse_15 rfl (by decide +kernel) ?_
    first | exact k1 hb12 | exact k0 hb12
theorem c_X8_isCell {SL : Nat} {d : Nat} {Q : Option Int32 → m_G → Prop} {g : m_G} {t : m_T} (hT : TW g 28 t) (x y : Int32) (k1 : sp_cell t x y → Q (some 1) g) (k0 : ¬ (sp_cell t x y) → Q (some 0) g) : Sim SL (d + 1) yX8_isCell cX8_isCell 3 (some .boolean) 0 [.ref 0, .int x, .int y] [] g Q := by
  refine s_iload_n (n := 1) dX8_isCell_0 rfl rfl rfl ?_
  refine s_iconst (v := 1) (n := 2) dX8_isCell_1 rfl (by decide) ?_
  refine s_aload_n (n := 3) dX8_isCell_2 rfl rfl rfl ?_
  refine s_getr (k2 := 28) (n := 6) dX8_isCell_3 rfl fl_X8_25 rfl rfl rfl ?_
  refine s_geti (n := 9) dX8_isCell_6 rfl fl_X8_202 rfl rfl ?_
  rw [hT.1.1]
  refine s_cs3 (n := 12) dX8_isCell_9 rfl mo_X8_within ml_X8_62 rfl (Nat.le_of_ble_eq_true rfl) (Nat.le_of_ble_eq_true rfl) (c_X8_within _ _ _ (fun hb9 => ?_) (fun hb9 => ?_))
  · dsimp only [m_push]
    refine s_if_eq (n := 15) (t := 29) dX8_isCell_12 (by decide) rfl (fun h => absurd h (by decide)) (fun _ => ?_)
    refine s_iload_n (n := 16) dX8_isCell_15 rfl rfl rfl ?_
    refine s_iconst (v := 0) (n := 17) dX8_isCell_16 rfl (by decide) ?_
    refine s_bipush (v := 6) (n := 19) dX8_isCell_17 rfl (by decide) ?_
    refine s_cs3 (n := 22) dX8_isCell_19 rfl mo_X8_within ml_X8_62 rfl (Nat.le_of_ble_eq_true rfl) (Nat.le_of_ble_eq_true rfl) (c_X8_within _ _ _ (fun hb19 => ?_) (fun hb19 => ?_))
    · dsimp only [m_push]
      refine s_if_eq (n := 25) (t := 29) dX8_isCell_22 (by decide) rfl (fun h => absurd h (by decide)) (fun _ => ?_)
      refine s_iconst (v := 1) (n := 26) dX8_isCell_25 rfl (by decide) ?_
      refine s_goto (t := 30) dX8_isCell_26 (by decide) ?_
      refine s_ireturn dX8_isCell_30 rfl (by decide +kernel) ?_
      first | exact k1 ⟨hb9, hb19⟩ | exact k0 (fun q => hb19 q.2) | exact k0 (fun q => hb9 q.1)
    · dsimp only [m_push]
      refine s_if_eq (n := 25) (t := 29) dX8_isCell_22 (by decide) rfl (fun _ => ?_) (fun h => absurd h (by decide))
      refine s_iconst (v := 0) (n := 30) dX8_isCell_29 rfl (by decide) ?_
      refine s_ireturn dX8_isCell_30 rfl (by decide +kernel) ?_
      first | exact k1 ⟨hb9, hb19⟩ | exact k0 (fun q => hb19 q.2) | exact k0 (fun q => hb9 q.1)
  · dsimp only [m_push]
    refine s_if_eq (n := 15) (t := 29) dX8_isCell_12 (by decide) rfl (fun _ => ?_) (fun h => absurd h (by decide))
    refine s_iconst (v := 0) (n := 30) dX8_isCell_29 rfl (by decide) ?_
    refine s_ireturn dX8_isCell_30 rfl (by decide +kernel) ?_
    first | exact k1 ⟨hb9, hb19⟩ | exact k0 (fun q => hb19 q.2) | exact k0 (fun q => hb9 q.1)
theorem c_X9_isPlace {SL : Nat} {d : Nat} {Q : Option Int32 → m_G → Prop} {g : m_G} {t : m_T} (hT : TM g 0 t) (x y : Int32) (k1 : sp_cell t x y → Q (some 1) g) (k0 : ¬ (sp_cell t x y) → Q (some 0) g) : Sim SL (d + 1) yX9_isPlace cX9_isPlace 3 (some .boolean) 0 [.ref 78, .int x, .int y] [] g Q := by
  refine s_iload_n (n := 1) dX9_isPlace_0 rfl rfl rfl ?_
  refine s_i2l (n := 2) dX9_isPlace_1 rfl ?_
  refine s_lconst (v := 1) (n := 3) dX9_isPlace_2 rfl (by decide) ?_
  refine s_aload_n (n := 4) dX9_isPlace_3 rfl rfl rfl ?_
  refine s_getr (k2 := 79) (n := 7) dX9_isPlace_4 rfl fl_X9_7 rfl rfl rfl ?_
  refine s_iconst (v := 0) (n := 8) dX9_isPlace_7 rfl (by decide) ?_
  refine s_iaload 0 (n := 9) dX9_isPlace_8 rfl rfl rfl (by decide) ?_
  rw [show g 79 0 = t 0 from hT 0 (by decide)]
  refine s_i2l (n := 10) dX9_isPlace_9 rfl ?_
  refine s_cs3 (n := 13) dX9_isPlace_10 rfl mo_X9_in ml_X9_60 rfl (Nat.le_of_ble_eq_true rfl) (Nat.le_of_ble_eq_true rfl) (c_X9_in 1 _ rfl (by decide) rfl (fun hb10 => ?_) (fun hb10 => ?_))
  · dsimp only [m_push]
    refine s_if_eq (n := 16) (t := 32) dX9_isPlace_13 (by decide) rfl (fun h => absurd h (by decide)) (fun _ => ?_)
    refine s_iload_n (n := 17) dX9_isPlace_16 rfl rfl rfl ?_
    refine s_i2l (n := 18) dX9_isPlace_17 rfl ?_
    refine s_lconst (v := 0) (n := 19) dX9_isPlace_18 rfl (by decide) ?_
    refine s_ldc2 (n := 22) dX9_isPlace_19 rfl kc_X9_196 ?_
    refine s_cs3 (n := 25) dX9_isPlace_22 rfl mo_X9_in ml_X9_60 rfl (Nat.le_of_ble_eq_true rfl) (Nat.le_of_ble_eq_true rfl) (c_X9_in (0) (6) rfl (by decide) (by decide) (fun hb22 => ?_) (fun hb22 => ?_))
    · dsimp only [m_push]
      refine s_if_eq (n := 28) (t := 32) dX9_isPlace_25 (by decide) rfl (fun h => absurd h (by decide)) (fun _ => ?_)
      refine s_iconst (v := 1) (n := 29) dX9_isPlace_28 rfl (by decide) ?_
      refine s_goto (t := 33) dX9_isPlace_29 (by decide) ?_
      refine s_ireturn dX9_isPlace_33 rfl (by decide +kernel) ?_
      first | exact k1 ⟨hb10, hb22⟩ | exact k0 (fun q => hb22 q.2) | exact k0 (fun q => hb10 q.1)
    · dsimp only [m_push]
      refine s_if_eq (n := 28) (t := 32) dX9_isPlace_25 (by decide) rfl (fun _ => ?_) (fun h => absurd h (by decide))
      refine s_iconst (v := 0) (n := 33) dX9_isPlace_32 rfl (by decide) ?_
      refine s_ireturn dX9_isPlace_33 rfl (by decide +kernel) ?_
      first | exact k1 ⟨hb10, hb22⟩ | exact k0 (fun q => hb22 q.2) | exact k0 (fun q => hb10 q.1)
  · dsimp only [m_push]
    refine s_if_eq (n := 16) (t := 32) dX9_isPlace_13 (by decide) rfl (fun _ => ?_) (fun h => absurd h (by decide))
    refine s_iconst (v := 0) (n := 33) dX9_isPlace_32 rfl (by decide) ?_
    refine s_ireturn dX9_isPlace_33 rfl (by decide +kernel) ?_
    first | exact k1 ⟨hb10, hb22⟩ | exact k0 (fun q => hb22 q.2) | exact k0 (fun q => hb10 q.1)
theorem C_house {SL : Nat} {d : Nat} {Q : Option Int32 → m_G → Prop} {g : m_G} {a : a_S} (hA : a_OK a) (hC : C_R g a) (h w : Int32) (hQ : E_C g a Q (sp_house a h w)) : Sim SL (d + 2) yX8_house cX8_house 4 (some .int) 0 [.ref 0, .int h, .int w, .null] [] g Q := by
  unfold E_C sp_house at hQ
  have hT : TW g 28 (a_H a) := hC.2.2.1.2
  refine s_aload_n (n := 1) dX8_house_0 rfl rfl rfl ?_
  refine s_iload_n (n := 2) dX8_house_1 rfl rfl rfl ?_
  refine s_cv1 (n := 5) dX8_house_2 rfl mo_X8_isHouse ml_X8_153 rfl (by decide) rfl rfl (Nat.le_of_ble_eq_true rfl) (Nat.le_of_ble_eq_true rfl) (c_X8_isHouse hT _ (fun hb2 => ?_) (fun hb2 => ?_))
  · dsimp only [m_push]
    refine s_if_ne (n := 8) (t := 11) dX8_house_5 (by decide) rfl (fun _ => ?_) (fun h => absurd h (by decide))
    obtain ⟨i, hi, rfl, hci⟩ := isH_ex hA.cnt hb2
    have hh := hT.2 i hi hci
    rw [nI_clamp (show i < 2 ^ 31 by omega)] at hQ
    refine s_aload_n (n := 12) dX8_house_11 rfl rfl rfl ?_
    refine s_getr (k2 := 28) (n := 15) dX8_house_12 rfl fl_X8_25 rfl rfl rfl ?_
    refine s_getr (k2 := 29) (n := 18) dX8_house_15 rfl fl_X8_169 rfl rfl rfl ?_
    refine s_iload_n (n := 19) dX8_house_18 rfl rfl rfl ?_
    refine s_aaload (k2 := 32 + i) (t := 0) i (n := 20) dX8_house_19 rfl rfl (by decide) rfl hi rfl ?_
    refine s_astore_n (n := 21) dX8_house_20 rfl rfl (by decide) rfl rfl ?_
    refine s_iload_n (n := 22) dX8_house_21 rfl rfl rfl ?_
    by_cases hs22_0 : w = 0
    · rw [hs22_0]
      refine s_tsw_in (t := 56) dX8_house_22 (by decide) (by decide) rfl (by decide) ?_
      refine s_aload_n (n := 57) dX8_house_56 rfl rfl rfl ?_
      refine s_geti (n := 60) dX8_house_57 rfl fl_X8_187 rfl (hbh hb28 hi) ?_
      refine s_ireturn dX8_house_60 rfl rfl ?_
      simp only [if_pos hb2, if_pos hs22_0] at hQ
      rw [hh.2.1]
      exact hQ g hC F_C.rf
    by_cases hs22_1 : w = 1
    · rw [hs22_1]
      refine s_tsw_in (t := 61) dX8_house_22 (by decide) (by decide) rfl (by decide) ?_
      refine s_aload_n (n := 62) dX8_house_61 rfl rfl rfl ?_
      refine s_geti (n := 65) dX8_house_62 rfl fl_X8_190 rfl (hbh hb28 hi) ?_
      refine s_ireturn dX8_house_65 rfl rfl ?_
      simp only [if_pos hb2, if_pos hs22_1, if_neg hs22_0] at hQ
      rw [hh.2.2.1]
      exact hQ g hC F_C.rf
    by_cases hs22_2 : w = 2
    · rw [hs22_2]
      refine s_tsw_in (t := 66) dX8_house_22 (by decide) (by decide) rfl (by decide) ?_
      refine s_aload_n (n := 67) dX8_house_66 rfl rfl rfl ?_
      refine s_geti (n := 70) dX8_house_67 rfl fl_X8_193 rfl (hbh hb28 hi) ?_
      refine s_ireturn dX8_house_70 rfl rfl ?_
      simp only [if_pos hb2, if_pos hs22_2, if_neg hs22_0, if_neg hs22_1] at hQ
      rw [hh.2.2.2.1]
      exact hQ g hC F_C.rf
    by_cases hs22_3 : w = 3
    · rw [hs22_3]
      refine s_tsw_in (t := 71) dX8_house_22 (by decide) (by decide) rfl (by decide) ?_
      refine s_aload_n (n := 72) dX8_house_71 rfl rfl rfl ?_
      refine s_getr (k2 := 28) (n := 75) dX8_house_72 rfl fl_X8_25 rfl rfl rfl ?_
      refine s_iload_n (n := 76) dX8_house_75 rfl rfl rfl ?_
      refine s_cv1 (n := 79) dX8_house_76 rfl mo_X1_openness ml_X8_156 rfl (by decide) rfl rfl (Nat.le_of_ble_eq_true rfl) (Nat.le_of_ble_eq_true rfl) (c_X1_openness hb28 _ ?_)
      dsimp only [m_push]
      refine s_ireturn dX8_house_79 rfl rfl ?_
      simp only [if_pos hb2, if_pos hs22_3, if_neg hs22_0, if_neg hs22_1, if_neg hs22_2] at hQ
      rw [hT.1.2.2.2.2.2.2.2.2]
      exact hQ g hC F_C.rf
    by_cases hs22_4 : w = 4
    · rw [hs22_4]
      refine s_tsw_in (t := 80) dX8_house_22 (by decide) (by decide) rfl (by decide) ?_
      refine s_aload_n (n := 81) dX8_house_80 rfl rfl rfl ?_
      refine s_geti (n := 84) dX8_house_81 rfl fl_X8_196 rfl (hbh hb28 hi) ?_
      refine s_ireturn dX8_house_84 rfl rfl ?_
      simp only [if_pos hb2, if_pos hs22_4, if_neg hs22_0, if_neg hs22_1, if_neg hs22_2, if_neg hs22_3] at hQ
      rw [hh.2.2.2.2]
      exact hQ g hC F_C.rf
    refine s_tsw_out (t := 85) dX8_house_22 (by have q : ∀ z : Int32, w ≠ z → ¬ (w).toInt = z.toInt := (fun z h e => h (Int32.toInt_inj.mp e)); have q0 : ¬ (w).toInt = 0 := q 0 hs22_0; have q1 : ¬ (w).toInt = 1 := q 1 hs22_1; have q2 : ¬ (w).toInt = 2 := q 2 hs22_2; have q3 : ¬ (w).toInt = 3 := q 3 hs22_3; have q4 : ¬ (w).toInt = 4 := q 4 hs22_4; omega) (by decide) ?_
    refine s_ldc (n := 87) dX8_house_85 rfl kc_X8_66 ?_
    refine s_ireturn dX8_house_87 rfl rfl ?_
    simp only [if_pos hb2, if_neg hs22_0, if_neg hs22_1, if_neg hs22_2, if_neg hs22_3, if_neg hs22_4] at hQ
    exact hQ g hC F_C.rf
  · dsimp only [m_push]
    refine s_if_ne (n := 8) (t := 11) dX8_house_5 (by decide) rfl (fun h => absurd h (by decide)) (fun _ => ?_)
    refine s_ldc (n := 10) dX8_house_8 rfl kc_X8_66 ?_
    refine s_ireturn dX8_house_10 rfl rfl ?_
    simp only [if_neg hb2] at hQ
    exact hQ g hC F_C.rf
theorem ix2m {c i : Nat} {x : Int32} (h : x = nI c) : x + nI i = nI (c + i) := by rw [h, nI_add]
theorem TM.z {g : m_G} {t : m_T} (h : TM g 0 t) {j : Nat} (hj : j < 39) : g 79 j = t j := by have := h j hj; rwa [Nat.zero_add] at this
theorem M_house {SL : Nat} {d : Nat} {Q : Option Int32 → m_G → Prop} {g : m_G} {a : a_S} (hA : a_OK a) (hM : M_R g a) (h w : Int32) (hQ : E_M g a Q (sp_house a h w)) : Sim SL (d + 2) yX9_house cX9_house 3 (some .int) 0 [.ref 78, .int h, .int w] [] g Q := by
  unfold E_M sp_house at hQ
  have hT : TM g 0 (a_H a) := hM.2.2.1.2
  refine s_aload_n (n := 1) dX9_house_0 rfl rfl rfl ?_
  refine s_iload_n (n := 2) dX9_house_1 rfl rfl rfl ?_
  refine s_cv1 (n := 5) dX9_house_2 rfl mo_X9_isHouse ml_X9_193 rfl (by decide) rfl rfl (Nat.le_of_ble_eq_true rfl) (Nat.le_of_ble_eq_true rfl) (c_X9_isHouse hT _ (fun hb2 => ?_) (fun hb2 => ?_))
  · dsimp only [m_push]
    refine s_if_ne (n := 8) (t := 11) dX9_house_5 (by decide) rfl (fun _ => ?_) (fun h => absurd h (by decide))
    obtain ⟨i, hi, rfl, hci⟩ := isH_ex hA.cnt hb2
    rw [nI_clamp (show i < 2 ^ 31 by omega)] at hQ
    refine s_iload_n (n := 12) dX9_house_11 rfl rfl rfl ?_
    by_cases hs12_0 : w = 0
    · rw [hs12_0]
      refine s_tsw_in (t := 48) dX9_house_12 (by decide) (by decide) rfl (by decide) ?_
      refine s_aload_n (n := 49) dX9_house_48 rfl rfl rfl ?_
      refine s_getr (k2 := 79) (n := 52) dX9_house_49 rfl fl_X9_7 rfl rfl rfl ?_
      refine s_bipush (v := 15) (n := 54) dX9_house_52 rfl (by decide) ?_
      refine s_iload_n (n := 55) dX9_house_54 rfl rfl rfl ?_
      refine s_iadd (n := 56) dX9_house_55 rfl ?_
      refine s_iaload (15 + i) (n := 57) dX9_house_56 rfl rfl (ix2m rfl) (by omega) ?_
      rw [hT.z (by omega)]
      refine s_ireturn dX9_house_57 rfl rfl ?_
      simp only [if_pos hb2, if_pos hs12_0] at hQ
      exact hQ g hM F_M.rf
    by_cases hs12_1 : w = 1
    · rw [hs12_1]
      refine s_tsw_in (t := 58) dX9_house_12 (by decide) (by decide) rfl (by decide) ?_
      refine s_aload_n (n := 59) dX9_house_58 rfl rfl rfl ?_
      refine s_getr (k2 := 79) (n := 62) dX9_house_59 rfl fl_X9_7 rfl rfl rfl ?_
      refine s_bipush (v := 21) (n := 64) dX9_house_62 rfl (by decide) ?_
      refine s_iload_n (n := 65) dX9_house_64 rfl rfl rfl ?_
      refine s_iadd (n := 66) dX9_house_65 rfl ?_
      refine s_iaload (21 + i) (n := 67) dX9_house_66 rfl rfl (ix2m rfl) (by omega) ?_
      rw [hT.z (by omega)]
      refine s_ireturn dX9_house_67 rfl rfl ?_
      simp only [if_pos hb2, if_pos hs12_1, if_neg hs12_0] at hQ
      exact hQ g hM F_M.rf
    by_cases hs12_2 : w = 2
    · rw [hs12_2]
      refine s_tsw_in (t := 68) dX9_house_12 (by decide) (by decide) rfl (by decide) ?_
      refine s_aload_n (n := 69) dX9_house_68 rfl rfl rfl ?_
      refine s_getr (k2 := 79) (n := 72) dX9_house_69 rfl fl_X9_7 rfl rfl rfl ?_
      refine s_bipush (v := 27) (n := 74) dX9_house_72 rfl (by decide) ?_
      refine s_iload_n (n := 75) dX9_house_74 rfl rfl rfl ?_
      refine s_iadd (n := 76) dX9_house_75 rfl ?_
      refine s_iaload (27 + i) (n := 77) dX9_house_76 rfl rfl (ix2m rfl) (by omega) ?_
      rw [hT.z (by omega)]
      refine s_ireturn dX9_house_77 rfl rfl ?_
      simp only [if_pos hb2, if_pos hs12_2, if_neg hs12_0, if_neg hs12_1] at hQ
      exact hQ g hM F_M.rf
    by_cases hs12_3 : w = 3
    · rw [hs12_3]
      refine s_tsw_in (t := 78) dX9_house_12 (by decide) (by decide) rfl (by decide) ?_
      refine s_aload_n (n := 79) dX9_house_78 rfl rfl rfl ?_
      refine s_getr (k2 := 79) (n := 82) dX9_house_79 rfl fl_X9_7 rfl rfl rfl ?_
      refine s_bipush (v := 8) (n := 84) dX9_house_82 rfl (by decide) ?_
      refine s_iaload 8 (n := 85) dX9_house_84 rfl rfl rfl (by decide) ?_
      rw [hT.z (by decide)]
      refine s_iload_n (n := 86) dX9_house_85 rfl rfl rfl ?_
      refine s_ishr (n := 87) dX9_house_86 rfl ?_
      refine s_iconst (v := 1) (n := 88) dX9_house_87 rfl (by decide) ?_
      refine s_iand (n := 89) dX9_house_88 rfl ?_
      refine s_ireturn dX9_house_89 rfl rfl ?_
      simp only [if_pos hb2, if_pos hs12_3, if_neg hs12_0, if_neg hs12_1, if_neg hs12_2] at hQ
      exact hQ g hM F_M.rf
    by_cases hs12_4 : w = 4
    · rw [hs12_4]
      refine s_tsw_in (t := 90) dX9_house_12 (by decide) (by decide) rfl (by decide) ?_
      refine s_aload_n (n := 91) dX9_house_90 rfl rfl rfl ?_
      refine s_getr (k2 := 79) (n := 94) dX9_house_91 rfl fl_X9_7 rfl rfl rfl ?_
      refine s_bipush (v := 33) (n := 96) dX9_house_94 rfl (by decide) ?_
      refine s_iload_n (n := 97) dX9_house_96 rfl rfl rfl ?_
      refine s_iadd (n := 98) dX9_house_97 rfl ?_
      refine s_iaload (33 + i) (n := 99) dX9_house_98 rfl rfl (ix2m rfl) (by omega) ?_
      rw [hT.z (by omega)]
      refine s_ireturn dX9_house_99 rfl rfl ?_
      simp only [if_pos hb2, if_pos hs12_4, if_neg hs12_0, if_neg hs12_1, if_neg hs12_2, if_neg hs12_3] at hQ
      exact hQ g hM F_M.rf
    refine s_tsw_out (t := 100) dX9_house_12 (by have q : ∀ z : Int32, w ≠ z → ¬ (w).toInt = z.toInt := (fun z h e => h (Int32.toInt_inj.mp e)); have q0 : ¬ (w).toInt = 0 := q 0 hs12_0; have q1 : ¬ (w).toInt = 1 := q 1 hs12_1; have q2 : ¬ (w).toInt = 2 := q 2 hs12_2; have q3 : ¬ (w).toInt = 3 := q 3 hs12_3; have q4 : ¬ (w).toInt = 4 := q 4 hs12_4; omega) (by decide) ?_
    refine s_ldc (n := 102) dX9_house_100 rfl kc_X9_70 ?_
    refine s_ireturn dX9_house_102 rfl rfl ?_
    simp only [if_pos hb2, if_neg hs12_0, if_neg hs12_1, if_neg hs12_2, if_neg hs12_3, if_neg hs12_4] at hQ
    exact hQ g hM F_M.rf
  · dsimp only [m_push]
    refine s_if_ne (n := 8) (t := 11) dX9_house_5 (by decide) rfl (fun h => absurd h (by decide)) (fun _ => ?_)
    refine s_ldc (n := 10) dX9_house_8 rfl kc_X9_70 ?_
    refine s_ireturn dX9_house_10 rfl rfl ?_
    simp only [if_neg hb2] at hQ
    exact hQ g hM F_M.rf
theorem C_at {SL : Nat} {d : Nat} {Q : Option Int32 → m_G → Prop} {g : m_G} {a : a_S} (hA : a_OK a) (hC : C_R g a) (x y : Int32) (hQ : E_C g a Q (sp_at a x y)) : Sim SL (d + 2) yX8_at cX8_at 3 (some .int) 0 [.ref 0, .int x, .int y] [] g Q := by
  unfold E_C sp_at at hQ
  have hT : TW g 28 (a_H a) := hC.2.2.1.2
  refine s_aload_n (n := 1) dX8_at_0 rfl rfl rfl ?_
  refine s_iload_n (n := 2) dX8_at_1 rfl rfl rfl ?_
  refine s_iload_n (n := 3) dX8_at_2 rfl rfl rfl ?_
  refine s_cv2 (n := 6) dX8_at_3 rfl mo_X8_isCell ml_X8_162 rfl (by decide) rfl rfl (Nat.le_of_ble_eq_true rfl) (Nat.le_of_ble_eq_true rfl) (c_X8_isCell hT _ _ (fun hb3 => ?_) (fun hb3 => ?_))
  · dsimp only [m_push]
    refine s_if_eq (n := 9) (t := 24) dX8_at_6 (by decide) rfl (fun h => absurd h (by decide)) (fun _ => ?_)
    refine s_aload_n (n := 10) dX8_at_9 rfl rfl rfl ?_
    refine s_getr (k2 := 28) (n := 13) dX8_at_10 rfl fl_X8_25 rfl rfl rfl ?_
    refine s_iload_n (n := 14) dX8_at_13 rfl rfl rfl ?_
    refine s_iload_n (n := 15) dX8_at_14 rfl rfl rfl ?_
    refine s_cv2 (n := 18) dX8_at_15 rfl mo_X1_standing ml_X8_165 rfl (by decide) rfl rfl (Nat.le_of_ble_eq_true rfl) (Nat.le_of_ble_eq_true rfl) (c_X1_standing hb28 hT hA.cle _ _ ?_)
    dsimp only [m_push]
    refine s_cs1 (n := 21) dX8_at_18 rfl mo_X8_orNone ml_X8_150 rfl (Nat.le_of_ble_eq_true rfl) (Nat.le_of_ble_eq_true rfl) (c_X8_orNone _ ?_)
    dsimp only [m_push]
    rw [orN_e sAt6]
    refine s_goto (t := 26) dX8_at_21 (by decide) ?_
    refine s_ireturn dX8_at_26 rfl rfl ?_
    simp only [if_pos hb3] at hQ
    exact hQ g hC F_C.rf
  · dsimp only [m_push]
    refine s_if_eq (n := 9) (t := 24) dX8_at_6 (by decide) rfl (fun _ => ?_) (fun h => absurd h (by decide))
    refine s_ldc (n := 26) dX8_at_24 rfl kc_X8_66 ?_
    refine s_ireturn dX8_at_26 rfl rfl ?_
    simp only [if_neg hb3] at hQ
    exact hQ g hC F_C.rf
theorem M_at {SL : Nat} {d : Nat} {Q : Option Int32 → m_G → Prop} {g : m_G} {a : a_S} (hA : a_OK a) (hM : M_R g a) (x y : Int32) (hQ : E_M g a Q (sp_at a x y)) : Sim SL (d + 2) yX9_at cX9_at 3 (some .int) 0 [.ref 78, .int x, .int y] [] g Q := by
  unfold E_M sp_at at hQ
  have hT : TM g 0 (a_H a) := hM.2.2.1.2
  refine s_aload_n (n := 1) dX9_at_0 rfl rfl rfl ?_
  refine s_iload_n (n := 2) dX9_at_1 rfl rfl rfl ?_
  refine s_iload_n (n := 3) dX9_at_2 rfl rfl rfl ?_
  refine s_cv2 (n := 6) dX9_at_3 rfl mo_X9_isPlace ml_X9_198 rfl (by decide) rfl rfl (Nat.le_of_ble_eq_true rfl) (Nat.le_of_ble_eq_true rfl) (c_X9_isPlace hT _ _ (fun hb3 => ?_) (fun hb3 => ?_))
  · dsimp only [m_push]
    refine s_if_eq (n := 9) (t := 19) dX9_at_6 (by decide) rfl (fun h => absurd h (by decide)) (fun _ => ?_)
    refine s_aload_n (n := 10) dX9_at_9 rfl rfl rfl ?_
    refine s_iconst (v := 0) (n := 11) dX9_at_10 rfl (by decide) ?_
    refine s_iload_n (n := 12) dX9_at_11 rfl rfl rfl ?_
    refine s_iload_n (n := 13) dX9_at_12 rfl rfl rfl ?_
    refine s_cv3 (n := 16) dX9_at_13 rfl mo_X9_houseAt ml_X9_124 rfl (by decide) rfl rfl (Nat.le_of_ble_eq_true rfl) (Nat.le_of_ble_eq_true rfl) (c_X9_houseAt (b := 0) (by decide) hT hA.cle _ _ ?_)
    dsimp only [m_push]
    refine s_goto (t := 21) dX9_at_16 (by decide) ?_
    refine s_ireturn dX9_at_21 rfl rfl ?_
    simp only [if_pos hb3] at hQ
    exact hQ g hM F_M.rf
  · dsimp only [m_push]
    refine s_if_eq (n := 9) (t := 19) dX9_at_6 (by decide) rfl (fun _ => ?_) (fun h => absurd h (by decide))
    refine s_ldc (n := 21) dX9_at_19 rfl kc_X9_70 ?_
    refine s_ireturn dX9_at_21 rfl rfl ?_
    simp only [if_neg hb3] at hQ
    exact hQ g hM F_M.rf
theorem C_kind {SL : Nat} {d : Nat} {Q : Option Int32 → m_G → Prop} {g : m_G} {a : a_S} (hA : a_OK a) (hC : C_R g a) (h : Int32) (hQ : E_C g a Q (sp_kind a h)) : Sim SL (d + 2) yX8_kind cX8_kind 2 (some .int) 0 [.ref 0, .int h] [] g Q := by
  unfold E_C sp_kind at hQ
  have hT : TW g 28 (a_H a) := hC.2.2.1.2
  refine s_aload_n (n := 1) dX8_kind_0 rfl rfl rfl ?_
  refine s_iload_n (n := 2) dX8_kind_1 rfl rfl rfl ?_
  refine s_cv1 (n := 5) dX8_kind_2 rfl mo_X8_isHouse ml_X8_153 rfl (by decide) rfl rfl (Nat.le_of_ble_eq_true rfl) (Nat.le_of_ble_eq_true rfl) (c_X8_isHouse hT _ (fun hb2 => ?_) (fun hb2 => ?_))
  · dsimp only [m_push]
    refine s_if_eq (n := 8) (t := 23) dX8_kind_5 (by decide) rfl (fun h => absurd h (by decide)) (fun _ => ?_)
    obtain ⟨i, hi, rfl, hci⟩ := isH_ex hA.cnt hb2
    have hh := hT.2 i hi hci
    rw [nI_clamp (show i < 2 ^ 31 by omega)] at hQ
    refine s_aload_n (n := 9) dX8_kind_8 rfl rfl rfl ?_
    refine s_getr (k2 := 28) (n := 12) dX8_kind_9 rfl fl_X8_25 rfl rfl rfl ?_
    refine s_getr (k2 := 29) (n := 15) dX8_kind_12 rfl fl_X8_169 rfl rfl rfl ?_
    refine s_iload_n (n := 16) dX8_kind_15 rfl rfl rfl ?_
    refine s_aaload (k2 := 32 + i) (t := 0) i (n := 17) dX8_kind_16 rfl rfl (by decide) rfl hi rfl ?_
    refine s_geti (n := 20) dX8_kind_17 rfl fl_X8_283 rfl (hbh hb28 hi) ?_
    rw [hh.1]
    refine s_goto (t := 25) dX8_kind_20 (by decide) ?_
    refine s_ireturn dX8_kind_25 rfl rfl ?_
    simp only [if_pos hb2] at hQ
    exact hQ g hC F_C.rf
  · dsimp only [m_push]
    refine s_if_eq (n := 8) (t := 23) dX8_kind_5 (by decide) rfl (fun _ => ?_) (fun h => absurd h (by decide))
    refine s_ldc (n := 25) dX8_kind_23 rfl kc_X8_66 ?_
    refine s_ireturn dX8_kind_25 rfl rfl ?_
    simp only [if_neg hb2] at hQ
    exact hQ g hC F_C.rf
theorem M_kind {SL : Nat} {d : Nat} {Q : Option Int32 → m_G → Prop} {g : m_G} {a : a_S} (hA : a_OK a) (hM : M_R g a) (h : Int32) (hQ : E_M g a Q (sp_kind a h)) : Sim SL (d + 2) yX9_kind cX9_kind 2 (some .int) 0 [.ref 78, .int h] [] g Q := by
  unfold E_M sp_kind at hQ
  have hT : TM g 0 (a_H a) := hM.2.2.1.2
  refine s_aload_n (n := 1) dX9_kind_0 rfl rfl rfl ?_
  refine s_iload_n (n := 2) dX9_kind_1 rfl rfl rfl ?_
  refine s_cv1 (n := 5) dX9_kind_2 rfl mo_X9_isHouse ml_X9_193 rfl (by decide) rfl rfl (Nat.le_of_ble_eq_true rfl) (Nat.le_of_ble_eq_true rfl) (c_X9_isHouse hT _ (fun hb2 => ?_) (fun hb2 => ?_))
  · dsimp only [m_push]
    refine s_if_eq (n := 8) (t := 20) dX9_kind_5 (by decide) rfl (fun h => absurd h (by decide)) (fun _ => ?_)
    obtain ⟨i, hi, rfl, hci⟩ := isH_ex hA.cnt hb2
    rw [nI_clamp (show i < 2 ^ 31 by omega)] at hQ
    refine s_aload_n (n := 9) dX9_kind_8 rfl rfl rfl ?_
    refine s_getr (k2 := 79) (n := 12) dX9_kind_9 rfl fl_X9_7 rfl rfl rfl ?_
    refine s_bipush (v := 9) (n := 14) dX9_kind_12 rfl (by decide) ?_
    refine s_iload_n (n := 15) dX9_kind_14 rfl rfl rfl ?_
    refine s_iadd (n := 16) dX9_kind_15 rfl ?_
    refine s_iaload (9 + i) (n := 17) dX9_kind_16 rfl rfl (ix2m rfl) (by omega) ?_
    rw [hT.z (by omega)]
    refine s_goto (t := 22) dX9_kind_17 (by decide) ?_
    refine s_ireturn dX9_kind_22 rfl rfl ?_
    simp only [if_pos hb2] at hQ
    exact hQ g hM F_M.rf
  · dsimp only [m_push]
    refine s_if_eq (n := 8) (t := 20) dX9_kind_5 (by decide) rfl (fun _ => ?_) (fun h => absurd h (by decide))
    refine s_ldc (n := 22) dX9_kind_20 rfl kc_X9_70 ?_
    refine s_ireturn dX9_kind_22 rfl rfl ?_
    simp only [if_neg hb2] at hQ
    exact hQ g hM F_M.rf
theorem trN {n : Nat} {x : Int32} (hn : n ≤ 16) (h : wn x 0 (nI n - 1)) : ∃ i : Nat, i < n ∧ x = nI i := by
  obtain ⟨i, hi, rfl⟩ := nI_of h.1
  have h2 := h.2
  rw [i32_lt, nI_toInt hi, Int32.toInt_sub, nI_toInt (by omega), ti1] at h2
  simp only [Int.bmod_def] at h2
  exact ⟨i, by omega, rfl⟩
theorem C_trace {SL : Nat} {d : Nat} {Q : Option Int32 → m_G → Prop} {g : m_G} {a : a_S} (hA : a_OK a) (hC : C_R g a) (x : Int32) (hQ : E_C g a Q (sp_trace a x)) : Sim SL (d + 2) yX8_trace cX8_trace 2 (some .int) 0 [.ref 0, .int x] [] g Q := by
  unfold E_C sp_trace at hQ
  have hR := hC.2.2.2.2.2.2
  refine s_iload_n (n := 1) dX8_trace_0 rfl rfl rfl ?_
  refine s_iconst (v := 0) (n := 2) dX8_trace_1 rfl (by decide) ?_
  refine s_aload_n (n := 3) dX8_trace_2 rfl rfl rfl ?_
  refine s_getr (k2 := 25) (n := 6) dX8_trace_3 rfl fl_X8_53 rfl rfl rfl ?_
  refine s_geti (n := 9) dX8_trace_6 rfl fl_X8_289 rfl rfl ?_
  rw [hR.1]
  refine s_iconst (v := 1) (n := 10) dX8_trace_9 rfl (by decide) ?_
  refine s_isub (n := 11) dX8_trace_10 rfl ?_
  refine s_cs3 (n := 14) dX8_trace_11 rfl mo_X8_within ml_X8_62 rfl (Nat.le_of_ble_eq_true rfl) (Nat.le_of_ble_eq_true rfl) (c_X8_within _ _ _ (fun hb11 => ?_) (fun hb11 => ?_))
  · dsimp only [m_push]
    refine s_if_eq (n := 17) (t := 29) dX8_trace_14 (by decide) rfl (fun h => absurd h (by decide)) (fun _ => ?_)
    obtain ⟨i, hi, rfl⟩ := trN hR.2.1 hb11
    rw [nI_clamp (show i < 2 ^ 31 by have := hR.2.1; omega)] at hQ
    refine s_aload_n (n := 18) dX8_trace_17 rfl rfl rfl ?_
    refine s_getr (k2 := 25) (n := 21) dX8_trace_18 rfl fl_X8_53 rfl rfl rfl ?_
    refine s_getr (k2 := 26) (n := 24) dX8_trace_21 rfl fl_X8_294 rfl rfl rfl ?_
    refine s_iload_n (n := 25) dX8_trace_24 rfl rfl rfl ?_
    refine s_iaload i (n := 26) dX8_trace_25 rfl rfl rfl (by have := hR.2.1; omega) ?_
    rw [hR.2.2 i hi]
    refine s_goto (t := 31) dX8_trace_26 (by decide) ?_
    refine s_ireturn dX8_trace_31 rfl rfl ?_
    simp only [if_pos hb11] at hQ
    exact hQ g hC F_C.rf
  · dsimp only [m_push]
    refine s_if_eq (n := 17) (t := 29) dX8_trace_14 (by decide) rfl (fun _ => ?_) (fun h => absurd h (by decide))
    refine s_ldc (n := 31) dX8_trace_29 rfl kc_X8_217 ?_
    refine s_ireturn dX8_trace_31 rfl rfl ?_
    simp only [if_neg hb11] at hQ
    exact hQ g hC F_C.rf
theorem M_trace {SL : Nat} {d : Nat} {Q : Option Int32 → m_G → Prop} {g : m_G} {a : a_S} (hA : a_OK a) (hM : M_R g a) (x : Int32) (hQ : E_M g a Q (sp_trace a x)) : Sim SL (d + 2) yX9_trace cX9_trace 2 (some .int) 0 [.ref 78, .int x] [] g Q := by
  unfold E_M sp_trace at hQ
  have hR := hM.2.2.2.2.2.2
  refine s_iload_n (n := 1) dX9_trace_0 rfl rfl rfl ?_
  refine s_i2l (n := 2) dX9_trace_1 rfl ?_
  refine s_lconst (v := 0) (n := 3) dX9_trace_2 rfl (by decide) ?_
  refine s_aload_n (n := 4) dX9_trace_3 rfl rfl rfl ?_
  refine s_geti (n := 7) dX9_trace_4 rfl fl_X9_256 rfl rfl ?_
  rw [hR.1]
  refine s_iconst (v := 1) (n := 8) dX9_trace_7 rfl (by decide) ?_
  refine s_isub (n := 9) dX9_trace_8 rfl ?_
  refine s_i2l (n := 10) dX9_trace_9 rfl ?_
  refine s_cs3 (n := 13) dX9_trace_10 rfl mo_X9_in ml_X9_60 rfl (Nat.le_of_ble_eq_true rfl) (Nat.le_of_ble_eq_true rfl) (c_X9_in 0 _ rfl (by decide) rfl (fun hb10 => ?_) (fun hb10 => ?_))
  · dsimp only [m_push]
    refine s_if_eq (n := 16) (t := 25) dX9_trace_13 (by decide) rfl (fun h => absurd h (by decide)) (fun _ => ?_)
    obtain ⟨i, hi, rfl⟩ := trN hR.2.1 hb10
    rw [nI_clamp (show i < 2 ^ 31 by have := hR.2.1; omega)] at hQ
    refine s_aload_n (n := 17) dX9_trace_16 rfl rfl rfl ?_
    refine s_getr (k2 := 85) (n := 20) dX9_trace_17 rfl fl_X9_29 rfl rfl rfl ?_
    refine s_iload_n (n := 21) dX9_trace_20 rfl rfl rfl ?_
    refine s_iaload i (n := 22) dX9_trace_21 rfl rfl rfl (by have := hR.2.1; omega) ?_
    rw [hR.2.2 i hi]
    refine s_goto (t := 27) dX9_trace_22 (by decide) ?_
    refine s_ireturn dX9_trace_27 rfl rfl ?_
    simp only [if_pos hb10] at hQ
    exact hQ g hM F_M.rf
  · dsimp only [m_push]
    refine s_if_eq (n := 16) (t := 25) dX9_trace_13 (by decide) rfl (fun _ => ?_) (fun h => absurd h (by decide))
    refine s_ldc (n := 27) dX9_trace_25 rfl kc_X9_128 ?_
    refine s_ireturn dX9_trace_27 rfl rfl ?_
    simp only [if_neg hb10] at hQ
    exact hQ g hM F_M.rf
