theorem ix2 {b c : Nat} {x : Int32} (h : x = nI c) : nI b + x = nI (b + c) := by rw [h, nI_add]
theorem ix3 {b c h : Nat} {x : Int32} (hx : x = nI c) : nI b + x + nI h = nI (b + c + h) := by rw [hx, nI_add, nI_add]
def TM (g : m_G) (b : Nat) (t : m_T) : Prop := ∀ j, j < 39 → g 79 (b + j) = t j
def kOK (x : Int32) : Prop := x = 1 ∨ x = 2 ∨ x = 3 ∨ x = 4 ∨ x = 5
def tKD (t : m_T) : Prop := ∀ h, h < 6 → ¬ t 1 ≤ nI h → kOK (t (9 + h))
theorem clpL1 {a : Int32} (h : ¬ 0 ≤ a) : clp a = 0 := by unfold clp; rw [if_pos (Int32.not_le.mp h)]
theorem clpL2 {a : Int32} (h : 0 ≤ a) (h2 : ¬ a ≤ 6) : clp a = 6 := by unfold clp; rw [if_neg (Int32.not_lt.mpr h), if_pos (Int32.not_le.mp h2)]
theorem clpL3 {a : Int32} (h : 0 ≤ a) (h2 : a ≤ 6) : clp a = a := by unfold clp; rw [if_neg (Int32.not_lt.mpr h), if_neg (Int32.not_lt.mpr h2)]
theorem c_X9_has {SL : Nat} {d : Nat} {Q : Option Int32 → m_G → Prop} {g : m_G} (a b : Int32) (k1 : bt a b = 1 → Q (some 1) g) (k0 : ¬ (bt a b = 1) → Q (some 0) g) : Sim SL d yX9_has cX9_has 2 (some .boolean) 0 [.int a, .int b] [] g Q := by
  refine s_iload_n (n := 1) dX9_has_0 rfl rfl rfl ?_
  refine s_iload_n (n := 2) dX9_has_1 rfl rfl rfl ?_
  refine s_ishr (n := 3) dX9_has_2 rfl ?_
  refine s_iconst (v := 1) (n := 4) dX9_has_3 rfl (by decide) ?_
  refine s_iand (n := 5) dX9_has_4 rfl ?_
  refine s_iconst (v := 1) (n := 6) dX9_has_5 rfl (by decide) ?_
  refine s_icmp_ne (n := 9) (t := 13) dX9_has_6 (by decide) rfl (fun h6 => ?_) (fun h6 => ?_)
  · refine s_iconst (v := 0) (n := 14) dX9_has_13 rfl (by decide) ?_
    refine s_ireturn dX9_has_14 rfl (by decide +kernel) ?_
    first | exact k1 h6 | exact k0 h6
  · refine s_iconst (v := 1) (n := 10) dX9_has_9 rfl (by decide) ?_
    refine s_goto (t := 14) dX9_has_10 (by decide) ?_
    refine s_ireturn dX9_has_14 rfl (by decide +kernel) ?_
    first | exact k1 h6 | exact k0 h6
theorem c_X9_kept {SL : Nat} {d : Nat} {Q : Option Int32 → m_G → Prop} {g : m_G} (a : Int32) (hQ : Q (some (clp a)) g) : Sim SL d yX9_kept cX9_kept 1 (some .int) 0 [.int a] [] g Q := by
  refine s_iload_n (n := 1) dX9_kept_0 rfl rfl rfl ?_
  refine s_if_ge (n := 4) (t := 8) dX9_kept_1 (by decide) rfl (fun h1 => ?_) (fun h1 => ?_)
  · refine s_iload_n (n := 9) dX9_kept_8 rfl rfl rfl ?_
    refine s_bipush (v := 6) (n := 11) dX9_kept_9 rfl (by decide) ?_
    refine s_icmp_le (n := 14) (t := 19) dX9_kept_11 (by decide) rfl (fun h11 => ?_) (fun h11 => ?_)
    · refine s_iload_n (n := 20) dX9_kept_19 rfl rfl rfl ?_
      refine s_ireturn dX9_kept_20 rfl rfl ?_
      first | (rw [clpL1 h1] at hQ; exact hQ) | (rw [clpL2 h1 h11] at hQ; exact hQ) | (rw [clpL3 h1 h11] at hQ; exact hQ)
    · refine s_bipush (v := 6) (n := 16) dX9_kept_14 rfl (by decide) ?_
      refine s_goto (t := 20) dX9_kept_16 (by decide) ?_
      refine s_ireturn dX9_kept_20 rfl rfl ?_
      first | (rw [clpL1 h1] at hQ; exact hQ) | (rw [clpL2 h1 h11] at hQ; exact hQ) | (rw [clpL3 h1 h11] at hQ; exact hQ)
  · refine s_iconst (v := 0) (n := 5) dX9_kept_4 rfl (by decide) ?_
    refine s_goto (t := 20) dX9_kept_5 (by decide) ?_
    refine s_ireturn dX9_kept_20 rfl rfl ?_
    first | (rw [clpL1 h1] at hQ; exact hQ) | (rw [clpL2 h1 h11] at hQ; exact hQ) | (rw [clpL3 h1 h11] at hQ; exact hQ)
abbrev mHold (kd ob : Int32) : Prop := kd = 3 ∨ (kd = 1 ∧ ob = 1)
def mSlow (kd ob : Int32) : Int32 := if kd = 1 ∨ (kd = 2 ∧ ob ≠ 1) then 2 else 1
def mTurn (kd ob ti : Int32) : Int32 := if kd = 4 then -1 else if kd = 5 then 1 else if kd = 2 ∧ ob = 1 then 0 else if ire ti 2 = 0 then 1 else -1
theorem mHold_iff {kd s h : Int32} : mHold kd (bt s h) ↔ sHold kd (bt s h) := by
  rcases bt_01 s h with e | e <;> rw [e] <;> simp [mHold, sHold]
theorem mSlow_eq {kd s h : Int32} (hk : kOK kd) (hn : ¬ sHold kd (bt s h)) : mSlow kd (bt s h) = sSlow kd (bt s h) := by
  rcases bt_01 s h with e | e <;> rw [e] at hn ⊢ <;> rcases hk with rfl | rfl | rfl | rfl | rfl <;> revert hn <;> decide
theorem mTurn_eq {kd s h ti : Int32} (hk : kOK kd) (hn : ¬ sHold kd (bt s h)) : mTurn kd (bt s h) ti = sTurn kd (bt s h) ti := by
  rcases bt_01 s h with e | e <;> rw [e] at hn ⊢ <;> rcases hk with rfl | rfl | rfl | rfl | rfl <;> simp_all [mTurn, sTurn]
theorem c_X9_holdsIt {SL : Nat} {d : Nat} {Q : Option Int32 → m_G → Prop} {g : m_G} {t : m_T} {b : Nat} (hb : b ≤ 1053) (hT : TM g b t) (h : Nat) (hh : h < 6) (k1 : mHold (t (9 + h)) (bt (t 8) (nI h)) → Q (some 1) g) (k0 : ¬ (mHold (t (9 + h)) (bt (t 8) (nI h))) → Q (some 0) g) : Sim SL (d + 1) yX9_holdsIt cX9_holdsIt 4 (some .boolean) 0 [.ref 78, .int (nI b), .int (nI h), .null] [] g Q := by
  refine s_aload_n (n := 1) dX9_holdsIt_0 rfl rfl rfl ?_
  refine s_getr (k2 := 79) (n := 4) dX9_holdsIt_1 rfl fl_X9_7 rfl rfl rfl ?_
  refine s_iload_n (n := 5) dX9_holdsIt_4 rfl rfl rfl ?_
  refine s_bipush (v := 9) (n := 7) dX9_holdsIt_5 rfl (by decide) ?_
  refine s_iadd (n := 8) dX9_holdsIt_7 rfl ?_
  refine s_iload_n (n := 9) dX9_holdsIt_8 rfl rfl rfl ?_
  refine s_iadd (n := 10) dX9_holdsIt_9 rfl ?_
  refine s_iaload (b + 9 + h) (n := 11) dX9_holdsIt_10 rfl rfl (ix3 rfl) (by omega) ?_
  rw [show b + 9 + h = b + (9 + h) by omega, hT (9 + h) (by omega)]
  refine s_istore_n (n := 12) dX9_holdsIt_11 rfl rfl (by decide) rfl rfl ?_
  refine s_iload_n (n := 13) dX9_holdsIt_12 rfl rfl rfl ?_
  refine s_iconst (v := 3) (n := 14) dX9_holdsIt_13 rfl (by decide) ?_
  refine s_icmp_eq (n := 17) (t := 38) dX9_holdsIt_14 (by decide) rfl (fun h14 => ?_) (fun h14 => ?_)
  · refine s_iconst (v := 1) (n := 39) dX9_holdsIt_38 rfl (by decide) ?_
    refine s_goto (t := 43) dX9_holdsIt_39 (by decide) ?_
    refine s_ireturn dX9_holdsIt_43 rfl (by decide +kernel) ?_
    first | exact k1 (Or.inl h14) | exact k1 (Or.inr ⟨h19, hb32⟩) | exact k0 (fun q => q.elim h14 (fun q => h19 q.1)) | exact k0 (fun q => q.elim h14 (fun q => hb32 q.2))
  · refine s_iload_n (n := 18) dX9_holdsIt_17 rfl rfl rfl ?_
    refine s_iconst (v := 1) (n := 19) dX9_holdsIt_18 rfl (by decide) ?_
    refine s_icmp_ne (n := 22) (t := 42) dX9_holdsIt_19 (by decide) rfl (fun h19 => ?_) (fun h19 => ?_)
    · refine s_iconst (v := 0) (n := 43) dX9_holdsIt_42 rfl (by decide) ?_
      refine s_ireturn dX9_holdsIt_43 rfl (by decide +kernel) ?_
      first | exact k1 (Or.inl h14) | exact k1 (Or.inr ⟨h19, hb32⟩) | exact k0 (fun q => q.elim h14 (fun q => h19 q.1)) | exact k0 (fun q => q.elim h14 (fun q => hb32 q.2))
    · refine s_aload_n (n := 23) dX9_holdsIt_22 rfl rfl rfl ?_
      refine s_getr (k2 := 79) (n := 26) dX9_holdsIt_23 rfl fl_X9_7 rfl rfl rfl ?_
      refine s_iload_n (n := 27) dX9_holdsIt_26 rfl rfl rfl ?_
      refine s_bipush (v := 8) (n := 29) dX9_holdsIt_27 rfl (by decide) ?_
      refine s_iadd (n := 30) dX9_holdsIt_29 rfl ?_
      refine s_iaload (b + 8) (n := 31) dX9_holdsIt_30 rfl rfl (ix2 rfl) (by omega) ?_
      rw [hT 8 (by decide)]
      refine s_iload_n (n := 32) dX9_holdsIt_31 rfl rfl rfl ?_
      refine s_cs2 (n := 35) dX9_holdsIt_32 rfl mo_X9_has ml_X9_158 rfl (Nat.le_of_ble_eq_true rfl) (Nat.le_of_ble_eq_true rfl) (c_X9_has _ _ (fun hb32 => ?_) (fun hb32 => ?_))
      · dsimp only [m_push]
        refine s_if_eq (n := 38) (t := 42) dX9_holdsIt_35 (by decide) rfl (fun h => absurd h (by decide)) (fun _ => ?_)
        refine s_iconst (v := 1) (n := 39) dX9_holdsIt_38 rfl (by decide) ?_
        refine s_goto (t := 43) dX9_holdsIt_39 (by decide) ?_
        refine s_ireturn dX9_holdsIt_43 rfl (by decide +kernel) ?_
        first | exact k1 (Or.inl h14) | exact k1 (Or.inr ⟨h19, hb32⟩) | exact k0 (fun q => q.elim h14 (fun q => h19 q.1)) | exact k0 (fun q => q.elim h14 (fun q => hb32 q.2))
      · dsimp only [m_push]
        refine s_if_eq (n := 38) (t := 42) dX9_holdsIt_35 (by decide) rfl (fun _ => ?_) (fun h => absurd h (by decide))
        refine s_iconst (v := 0) (n := 43) dX9_holdsIt_42 rfl (by decide) ?_
        refine s_ireturn dX9_holdsIt_43 rfl (by decide +kernel) ?_
        first | exact k1 (Or.inl h14) | exact k1 (Or.inr ⟨h19, hb32⟩) | exact k0 (fun q => q.elim h14 (fun q => h19 q.1)) | exact k0 (fun q => q.elim h14 (fun q => hb32 q.2))
theorem c_X9_slows {SL : Nat} {d : Nat} {Q : Option Int32 → m_G → Prop} {g : m_G} {t : m_T} {b : Nat} (hb : b ≤ 1053) (hT : TM g b t) (h : Nat) (hh : h < 6) (hQ : Q (some (mSlow (t (9 + h)) (bt (t 8) (nI h)))) g) : Sim SL (d + 1) yX9_slows cX9_slows 4 (some .int) 0 [.ref 78, .int (nI b), .int (nI h), .null] [] g Q := by
  refine s_aload_n (n := 1) dX9_slows_0 rfl rfl rfl ?_
  refine s_getr (k2 := 79) (n := 4) dX9_slows_1 rfl fl_X9_7 rfl rfl rfl ?_
  refine s_iload_n (n := 5) dX9_slows_4 rfl rfl rfl ?_
  refine s_bipush (v := 9) (n := 7) dX9_slows_5 rfl (by decide) ?_
  refine s_iadd (n := 8) dX9_slows_7 rfl ?_
  refine s_iload_n (n := 9) dX9_slows_8 rfl rfl rfl ?_
  refine s_iadd (n := 10) dX9_slows_9 rfl ?_
  refine s_iaload (b + 9 + h) (n := 11) dX9_slows_10 rfl rfl (ix3 rfl) (by omega) ?_
  rw [show b + 9 + h = b + (9 + h) by omega, hT (9 + h) (by omega)]
  refine s_istore_n (n := 12) dX9_slows_11 rfl rfl (by decide) rfl rfl ?_
  refine s_iload_n (n := 13) dX9_slows_12 rfl rfl rfl ?_
  refine s_iconst (v := 1) (n := 14) dX9_slows_13 rfl (by decide) ?_
  refine s_icmp_eq (n := 17) (t := 38) dX9_slows_14 (by decide) rfl (fun h14 => ?_) (fun h14 => ?_)
  · refine s_iconst (v := 2) (n := 39) dX9_slows_38 rfl (by decide) ?_
    refine s_goto (t := 43) dX9_slows_39 (by decide) ?_
    refine s_ireturn dX9_slows_43 rfl rfl ?_
    simpa [mSlow, *] using hQ
  · refine s_iload_n (n := 18) dX9_slows_17 rfl rfl rfl ?_
    refine s_iconst (v := 2) (n := 19) dX9_slows_18 rfl (by decide) ?_
    refine s_icmp_ne (n := 22) (t := 42) dX9_slows_19 (by decide) rfl (fun h19 => ?_) (fun h19 => ?_)
    · refine s_iconst (v := 1) (n := 43) dX9_slows_42 rfl (by decide) ?_
      refine s_ireturn dX9_slows_43 rfl rfl ?_
      simpa [mSlow, *] using hQ
    · refine s_aload_n (n := 23) dX9_slows_22 rfl rfl rfl ?_
      refine s_getr (k2 := 79) (n := 26) dX9_slows_23 rfl fl_X9_7 rfl rfl rfl ?_
      refine s_iload_n (n := 27) dX9_slows_26 rfl rfl rfl ?_
      refine s_bipush (v := 8) (n := 29) dX9_slows_27 rfl (by decide) ?_
      refine s_iadd (n := 30) dX9_slows_29 rfl ?_
      refine s_iaload (b + 8) (n := 31) dX9_slows_30 rfl rfl (ix2 rfl) (by omega) ?_
      rw [hT 8 (by decide)]
      refine s_iload_n (n := 32) dX9_slows_31 rfl rfl rfl ?_
      refine s_cs2 (n := 35) dX9_slows_32 rfl mo_X9_has ml_X9_158 rfl (Nat.le_of_ble_eq_true rfl) (Nat.le_of_ble_eq_true rfl) (c_X9_has _ _ (fun hb32 => ?_) (fun hb32 => ?_))
      · dsimp only [m_push]
        refine s_if_ne (n := 38) (t := 42) dX9_slows_35 (by decide) rfl (fun _ => ?_) (fun h => absurd h (by decide))
        refine s_iconst (v := 1) (n := 43) dX9_slows_42 rfl (by decide) ?_
        refine s_ireturn dX9_slows_43 rfl rfl ?_
        simpa [mSlow, *] using hQ
      · dsimp only [m_push]
        refine s_if_ne (n := 38) (t := 42) dX9_slows_35 (by decide) rfl (fun h => absurd h (by decide)) (fun _ => ?_)
        refine s_iconst (v := 2) (n := 39) dX9_slows_38 rfl (by decide) ?_
        refine s_goto (t := 43) dX9_slows_39 (by decide) ?_
        refine s_ireturn dX9_slows_43 rfl rfl ?_
        simpa [mSlow, *] using hQ
theorem c_X9_turns {SL : Nat} {d : Nat} {Q : Option Int32 → m_G → Prop} {g : m_G} {t : m_T} {b : Nat} (hb : b ≤ 1053) (hT : TM g b t) (h : Nat) (hh : h < 6) (ti : Int32) (hQ : Q (some (mTurn (t (9 + h)) (bt (t 8) (nI h)) ti)) g) : Sim SL (d + 1) yX9_turns cX9_turns 6 (some .int) 0 [.ref 78, .int (nI b), .int (nI h), .int ti, .null, .null] [] g Q := by
  refine s_aload_n (n := 1) dX9_turns_0 rfl rfl rfl ?_
  refine s_getr (k2 := 79) (n := 4) dX9_turns_1 rfl fl_X9_7 rfl rfl rfl ?_
  refine s_iload_n (n := 5) dX9_turns_4 rfl rfl rfl ?_
  refine s_bipush (v := 9) (n := 7) dX9_turns_5 rfl (by decide) ?_
  refine s_iadd (n := 8) dX9_turns_7 rfl ?_
  refine s_iload_n (n := 9) dX9_turns_8 rfl rfl rfl ?_
  refine s_iadd (n := 10) dX9_turns_9 rfl ?_
  refine s_iaload (b + 9 + h) (n := 11) dX9_turns_10 rfl rfl (ix3 rfl) (by omega) ?_
  rw [show b + 9 + h = b + (9 + h) by omega, hT (9 + h) (by omega)]
  refine s_istore (n := 13) dX9_turns_11 rfl (by decide) rfl rfl ?_
  refine s_iload (n := 15) dX9_turns_13 rfl rfl ?_
  refine s_iconst (v := 4) (n := 16) dX9_turns_15 rfl (by decide) ?_
  refine s_icmp_eq (n := 19) (t := 25) dX9_turns_16 (by decide) rfl (fun h16 => ?_) (fun h16 => ?_)
  · refine s_iload (n := 27) dX9_turns_25 rfl rfl ?_
    refine s_iconst (v := 4) (n := 28) dX9_turns_27 rfl (by decide) ?_
    refine s_icmp_ne (n := 31) (t := 35) dX9_turns_28 (by decide) rfl (fun h28 => ?_) (fun h28 => ?_)
    · refine s_iconst (v := 1) (n := 36) dX9_turns_35 rfl (by decide) ?_
      refine s_ireturn dX9_turns_36 rfl rfl ?_
      first
        | contradiction
        | (simp only [mTurn] at hQ
           simpa only [if_pos h16, if_neg h28, if_neg (show ¬ (t (9 + h) = 2 ∧ bt (t 8) (nI h) = 1) from fun q => h40 q.1), ire] using hQ)
        | (simp only [mTurn] at hQ
           simpa only [if_pos h16, if_neg h28, if_neg (show ¬ (t (9 + h) = 2 ∧ bt (t 8) (nI h) = 1) from fun q => hb53 q.2), ire] using hQ)
        | (simp only [mTurn] at hQ
           simpa only [if_pos h16, if_neg h28, if_pos (show (t (9 + h) = 2 ∧ bt (t 8) (nI h) = 1) from ⟨h40, hb53⟩), ire] using hQ)
        | (simp_all [mTurn]; first | done | (rw [if_pos (show ire ti 2 = 0 from h78)] at hQ; exact hQ) | (rw [if_neg (show ¬ ire ti 2 = 0 from h78)] at hQ; exact hQ))
    · refine s_iconst (v := -1) (n := 32) dX9_turns_31 rfl (by decide) ?_
      refine s_goto (t := 36) dX9_turns_32 (by decide) ?_
      refine s_ireturn dX9_turns_36 rfl rfl ?_
      first
        | contradiction
        | (simp only [mTurn] at hQ
           simpa only [if_pos h16, if_pos h28, if_neg (show ¬ (t (9 + h) = 2 ∧ bt (t 8) (nI h) = 1) from fun q => h40 q.1), ire] using hQ)
        | (simp only [mTurn] at hQ
           simpa only [if_pos h16, if_pos h28, if_neg (show ¬ (t (9 + h) = 2 ∧ bt (t 8) (nI h) = 1) from fun q => hb53 q.2), ire] using hQ)
        | (simp only [mTurn] at hQ
           simpa only [if_pos h16, if_pos h28, if_pos (show (t (9 + h) = 2 ∧ bt (t 8) (nI h) = 1) from ⟨h40, hb53⟩), ire] using hQ)
        | (simp_all [mTurn]; first | done | (rw [if_pos (show ire ti 2 = 0 from h78)] at hQ; exact hQ) | (rw [if_neg (show ¬ ire ti 2 = 0 from h78)] at hQ; exact hQ))
  · refine s_iload (n := 21) dX9_turns_19 rfl rfl ?_
    refine s_iconst (v := 5) (n := 22) dX9_turns_21 rfl (by decide) ?_
    refine s_icmp_ne (n := 25) (t := 37) dX9_turns_22 (by decide) rfl (fun h22 => ?_) (fun h22 => ?_)
    · refine s_iload (n := 39) dX9_turns_37 rfl rfl ?_
      refine s_iconst (v := 2) (n := 40) dX9_turns_39 rfl (by decide) ?_
      refine s_icmp_ne (n := 43) (t := 63) dX9_turns_40 (by decide) rfl (fun h40 => ?_) (fun h40 => ?_)
      · refine s_iconst (v := 0) (n := 64) dX9_turns_63 rfl (by decide) ?_
        refine s_istore (n := 66) dX9_turns_64 rfl (by decide) rfl rfl ?_
        refine s_iload (n := 68) dX9_turns_66 rfl rfl ?_
        refine s_if_eq (n := 71) (t := 75) dX9_turns_68 (by decide) rfl (fun _ => ?_) (fun h => absurd h (by decide))
        refine s_iload_n (n := 76) dX9_turns_75 rfl rfl rfl ?_
        refine s_iconst (v := 2) (n := 77) dX9_turns_76 rfl (by decide) ?_
        refine s_irem (n := 78) dX9_turns_77 rfl (by decide) ?_
        refine s_if_ne (n := 81) (t := 85) dX9_turns_78 (by decide) rfl (fun h78 => ?_) (fun h78 => ?_)
        · refine s_iconst (v := -1) (n := 86) dX9_turns_85 rfl (by decide) ?_
          refine s_ireturn dX9_turns_86 rfl rfl ?_
          first
            | contradiction
            | (simp only [mTurn] at hQ
               simpa only [if_neg h16, if_neg h22, if_neg h40, if_neg h78, if_neg (show ¬ (t (9 + h) = 2 ∧ bt (t 8) (nI h) = 1) from fun q => h40 q.1), ire] using hQ)
            | (simp only [mTurn] at hQ
               simpa only [if_neg h16, if_neg h22, if_neg h40, if_neg h78, if_neg (show ¬ (t (9 + h) = 2 ∧ bt (t 8) (nI h) = 1) from fun q => hb53 q.2), ire] using hQ)
            | (simp only [mTurn] at hQ
               simpa only [if_neg h16, if_neg h22, if_neg h40, if_neg h78, if_pos (show (t (9 + h) = 2 ∧ bt (t 8) (nI h) = 1) from ⟨h40, hb53⟩), ire] using hQ)
            | (simp_all [mTurn]; first | done | (rw [if_pos (show ire ti 2 = 0 from h78)] at hQ; exact hQ) | (rw [if_neg (show ¬ ire ti 2 = 0 from h78)] at hQ; exact hQ))
        · refine s_iconst (v := 1) (n := 82) dX9_turns_81 rfl (by decide) ?_
          refine s_goto (t := 86) dX9_turns_82 (by decide) ?_
          refine s_ireturn dX9_turns_86 rfl rfl ?_
          first
            | contradiction
            | (simp only [mTurn] at hQ
               simpa only [if_neg h16, if_neg h22, if_neg h40, if_pos h78, if_neg (show ¬ (t (9 + h) = 2 ∧ bt (t 8) (nI h) = 1) from fun q => h40 q.1), ire] using hQ)
            | (simp only [mTurn] at hQ
               simpa only [if_neg h16, if_neg h22, if_neg h40, if_pos h78, if_neg (show ¬ (t (9 + h) = 2 ∧ bt (t 8) (nI h) = 1) from fun q => hb53 q.2), ire] using hQ)
            | (simp only [mTurn] at hQ
               simpa only [if_neg h16, if_neg h22, if_neg h40, if_pos h78, if_pos (show (t (9 + h) = 2 ∧ bt (t 8) (nI h) = 1) from ⟨h40, hb53⟩), ire] using hQ)
            | (simp_all [mTurn]; first | done | (rw [if_pos (show ire ti 2 = 0 from h78)] at hQ; exact hQ) | (rw [if_neg (show ¬ ire ti 2 = 0 from h78)] at hQ; exact hQ))
      · refine s_aload_n (n := 44) dX9_turns_43 rfl rfl rfl ?_
        refine s_getr (k2 := 79) (n := 47) dX9_turns_44 rfl fl_X9_7 rfl rfl rfl ?_
        refine s_iload_n (n := 48) dX9_turns_47 rfl rfl rfl ?_
        refine s_bipush (v := 8) (n := 50) dX9_turns_48 rfl (by decide) ?_
        refine s_iadd (n := 51) dX9_turns_50 rfl ?_
        refine s_iaload (b + 8) (n := 52) dX9_turns_51 rfl rfl (ix2 rfl) (by omega) ?_
        rw [hT 8 (by decide)]
        refine s_iload_n (n := 53) dX9_turns_52 rfl rfl rfl ?_
        refine s_cs2 (n := 56) dX9_turns_53 rfl mo_X9_has ml_X9_158 rfl (Nat.le_of_ble_eq_true rfl) (Nat.le_of_ble_eq_true rfl) (c_X9_has _ _ (fun hb53 => ?_) (fun hb53 => ?_))
        · dsimp only [m_push]
          refine s_mat_if_eq (n := 64) (t := 63) dX9_turns_56 (by decide) dX9_turns_59 dX9_turns_60 (by decide) dX9_turns_63 rfl (u := 0) (v := 1) (by decide) (by decide) ?_
          refine s_istore (n := 66) dX9_turns_64 rfl (by decide) rfl rfl ?_
          refine s_iload (n := 68) dX9_turns_66 rfl rfl ?_
          refine s_if_eq (n := 71) (t := 75) dX9_turns_68 (by decide) rfl (fun h68 => ?_) (fun h68 => ?_)
          · refine s_iload_n (n := 76) dX9_turns_75 rfl rfl rfl ?_
            refine s_iconst (v := 2) (n := 77) dX9_turns_76 rfl (by decide) ?_
            refine s_irem (n := 78) dX9_turns_77 rfl (by decide) ?_
            refine s_if_ne (n := 81) (t := 85) dX9_turns_78 (by decide) rfl (fun h78 => ?_) (fun h78 => ?_)
            · refine s_iconst (v := -1) (n := 86) dX9_turns_85 rfl (by decide) ?_
              refine s_ireturn dX9_turns_86 rfl rfl ?_
              first
                | contradiction
                | (simp only [mTurn] at hQ
                   simpa only [if_neg h16, if_neg h22, if_pos h40, if_pos hb53, if_pos h68, if_neg h78, if_neg (show ¬ (t (9 + h) = 2 ∧ bt (t 8) (nI h) = 1) from fun q => h40 q.1), ire] using hQ)
                | (simp only [mTurn] at hQ
                   simpa only [if_neg h16, if_neg h22, if_pos h40, if_pos hb53, if_pos h68, if_neg h78, if_neg (show ¬ (t (9 + h) = 2 ∧ bt (t 8) (nI h) = 1) from fun q => hb53 q.2), ire] using hQ)
                | (simp only [mTurn] at hQ
                   simpa only [if_neg h16, if_neg h22, if_pos h40, if_pos hb53, if_pos h68, if_neg h78, if_pos (show (t (9 + h) = 2 ∧ bt (t 8) (nI h) = 1) from ⟨h40, hb53⟩), ire] using hQ)
                | (simp_all [mTurn]; first | done | (rw [if_pos (show ire ti 2 = 0 from h78)] at hQ; exact hQ) | (rw [if_neg (show ¬ ire ti 2 = 0 from h78)] at hQ; exact hQ))
            · refine s_iconst (v := 1) (n := 82) dX9_turns_81 rfl (by decide) ?_
              refine s_goto (t := 86) dX9_turns_82 (by decide) ?_
              refine s_ireturn dX9_turns_86 rfl rfl ?_
              first
                | contradiction
                | (simp only [mTurn] at hQ
                   simpa only [if_neg h16, if_neg h22, if_pos h40, if_pos hb53, if_pos h68, if_pos h78, if_neg (show ¬ (t (9 + h) = 2 ∧ bt (t 8) (nI h) = 1) from fun q => h40 q.1), ire] using hQ)
                | (simp only [mTurn] at hQ
                   simpa only [if_neg h16, if_neg h22, if_pos h40, if_pos hb53, if_pos h68, if_pos h78, if_neg (show ¬ (t (9 + h) = 2 ∧ bt (t 8) (nI h) = 1) from fun q => hb53 q.2), ire] using hQ)
                | (simp only [mTurn] at hQ
                   simpa only [if_neg h16, if_neg h22, if_pos h40, if_pos hb53, if_pos h68, if_pos h78, if_pos (show (t (9 + h) = 2 ∧ bt (t 8) (nI h) = 1) from ⟨h40, hb53⟩), ire] using hQ)
                | (simp_all [mTurn]; first | done | (rw [if_pos (show ire ti 2 = 0 from h78)] at hQ; exact hQ) | (rw [if_neg (show ¬ ire ti 2 = 0 from h78)] at hQ; exact hQ))
          · refine s_iconst (v := 0) (n := 72) dX9_turns_71 rfl (by decide) ?_
            refine s_goto (t := 86) dX9_turns_72 (by decide) ?_
            refine s_ireturn dX9_turns_86 rfl rfl ?_
            first
              | contradiction
              | (simp only [mTurn] at hQ
                 simpa only [if_neg h16, if_neg h22, if_pos h40, if_pos hb53, if_neg h68, if_neg (show ¬ (t (9 + h) = 2 ∧ bt (t 8) (nI h) = 1) from fun q => h40 q.1), ire] using hQ)
              | (simp only [mTurn] at hQ
                 simpa only [if_neg h16, if_neg h22, if_pos h40, if_pos hb53, if_neg h68, if_neg (show ¬ (t (9 + h) = 2 ∧ bt (t 8) (nI h) = 1) from fun q => hb53 q.2), ire] using hQ)
              | (simp only [mTurn] at hQ
                 simpa only [if_neg h16, if_neg h22, if_pos h40, if_pos hb53, if_neg h68, if_pos (show (t (9 + h) = 2 ∧ bt (t 8) (nI h) = 1) from ⟨h40, hb53⟩), ire] using hQ)
              | (simp_all [mTurn]; first | done | (rw [if_pos (show ire ti 2 = 0 from h78)] at hQ; exact hQ) | (rw [if_neg (show ¬ ire ti 2 = 0 from h78)] at hQ; exact hQ))
        · dsimp only [m_push]
          refine s_mat_if_eq (n := 64) (t := 63) dX9_turns_56 (by decide) dX9_turns_59 dX9_turns_60 (by decide) dX9_turns_63 rfl (u := 0) (v := 1) (by decide) (by decide) ?_
          refine s_istore (n := 66) dX9_turns_64 rfl (by decide) rfl rfl ?_
          refine s_iload (n := 68) dX9_turns_66 rfl rfl ?_
          refine s_if_eq (n := 71) (t := 75) dX9_turns_68 (by decide) rfl (fun h68 => ?_) (fun h68 => ?_)
          · refine s_iload_n (n := 76) dX9_turns_75 rfl rfl rfl ?_
            refine s_iconst (v := 2) (n := 77) dX9_turns_76 rfl (by decide) ?_
            refine s_irem (n := 78) dX9_turns_77 rfl (by decide) ?_
            refine s_if_ne (n := 81) (t := 85) dX9_turns_78 (by decide) rfl (fun h78 => ?_) (fun h78 => ?_)
            · refine s_iconst (v := -1) (n := 86) dX9_turns_85 rfl (by decide) ?_
              refine s_ireturn dX9_turns_86 rfl rfl ?_
              first
                | contradiction
                | (simp only [mTurn] at hQ
                   simpa only [if_neg h16, if_neg h22, if_pos h40, if_neg hb53, if_pos h68, if_neg h78, if_neg (show ¬ (t (9 + h) = 2 ∧ bt (t 8) (nI h) = 1) from fun q => h40 q.1), ire] using hQ)
                | (simp only [mTurn] at hQ
                   simpa only [if_neg h16, if_neg h22, if_pos h40, if_neg hb53, if_pos h68, if_neg h78, if_neg (show ¬ (t (9 + h) = 2 ∧ bt (t 8) (nI h) = 1) from fun q => hb53 q.2), ire] using hQ)
                | (simp only [mTurn] at hQ
                   simpa only [if_neg h16, if_neg h22, if_pos h40, if_neg hb53, if_pos h68, if_neg h78, if_pos (show (t (9 + h) = 2 ∧ bt (t 8) (nI h) = 1) from ⟨h40, hb53⟩), ire] using hQ)
                | (simp_all [mTurn]; first | done | (rw [if_pos (show ire ti 2 = 0 from h78)] at hQ; exact hQ) | (rw [if_neg (show ¬ ire ti 2 = 0 from h78)] at hQ; exact hQ))
            · refine s_iconst (v := 1) (n := 82) dX9_turns_81 rfl (by decide) ?_
              refine s_goto (t := 86) dX9_turns_82 (by decide) ?_
              refine s_ireturn dX9_turns_86 rfl rfl ?_
              first
                | contradiction
                | (simp only [mTurn] at hQ
                   simpa only [if_neg h16, if_neg h22, if_pos h40, if_neg hb53, if_pos h68, if_pos h78, if_neg (show ¬ (t (9 + h) = 2 ∧ bt (t 8) (nI h) = 1) from fun q => h40 q.1), ire] using hQ)
                | (simp only [mTurn] at hQ
                   simpa only [if_neg h16, if_neg h22, if_pos h40, if_neg hb53, if_pos h68, if_pos h78, if_neg (show ¬ (t (9 + h) = 2 ∧ bt (t 8) (nI h) = 1) from fun q => hb53 q.2), ire] using hQ)
                | (simp only [mTurn] at hQ
                   simpa only [if_neg h16, if_neg h22, if_pos h40, if_neg hb53, if_pos h68, if_pos h78, if_pos (show (t (9 + h) = 2 ∧ bt (t 8) (nI h) = 1) from ⟨h40, hb53⟩), ire] using hQ)
                | (simp_all [mTurn]; first | done | (rw [if_pos (show ire ti 2 = 0 from h78)] at hQ; exact hQ) | (rw [if_neg (show ¬ ire ti 2 = 0 from h78)] at hQ; exact hQ))
          · refine s_iconst (v := 0) (n := 72) dX9_turns_71 rfl (by decide) ?_
            refine s_goto (t := 86) dX9_turns_72 (by decide) ?_
            refine s_ireturn dX9_turns_86 rfl rfl ?_
            first
              | contradiction
              | (simp only [mTurn] at hQ
                 simpa only [if_neg h16, if_neg h22, if_pos h40, if_neg hb53, if_neg h68, if_neg (show ¬ (t (9 + h) = 2 ∧ bt (t 8) (nI h) = 1) from fun q => h40 q.1), ire] using hQ)
              | (simp only [mTurn] at hQ
                 simpa only [if_neg h16, if_neg h22, if_pos h40, if_neg hb53, if_neg h68, if_neg (show ¬ (t (9 + h) = 2 ∧ bt (t 8) (nI h) = 1) from fun q => hb53 q.2), ire] using hQ)
              | (simp only [mTurn] at hQ
                 simpa only [if_neg h16, if_neg h22, if_pos h40, if_neg hb53, if_neg h68, if_pos (show (t (9 + h) = 2 ∧ bt (t 8) (nI h) = 1) from ⟨h40, hb53⟩), ire] using hQ)
              | (simp_all [mTurn]; first | done | (rw [if_pos (show ire ti 2 = 0 from h78)] at hQ; exact hQ) | (rw [if_neg (show ¬ ire ti 2 = 0 from h78)] at hQ; exact hQ))
    · refine s_iload (n := 27) dX9_turns_25 rfl rfl ?_
      refine s_iconst (v := 4) (n := 28) dX9_turns_27 rfl (by decide) ?_
      refine s_icmp_ne (n := 31) (t := 35) dX9_turns_28 (by decide) rfl (fun h28 => ?_) (fun h28 => ?_)
      · refine s_iconst (v := 1) (n := 36) dX9_turns_35 rfl (by decide) ?_
        refine s_ireturn dX9_turns_36 rfl rfl ?_
        first
          | contradiction
          | (simp only [mTurn] at hQ
             simpa only [if_neg h16, if_pos h22, if_neg h28, if_neg (show ¬ (t (9 + h) = 2 ∧ bt (t 8) (nI h) = 1) from fun q => h40 q.1), ire] using hQ)
          | (simp only [mTurn] at hQ
             simpa only [if_neg h16, if_pos h22, if_neg h28, if_neg (show ¬ (t (9 + h) = 2 ∧ bt (t 8) (nI h) = 1) from fun q => hb53 q.2), ire] using hQ)
          | (simp only [mTurn] at hQ
             simpa only [if_neg h16, if_pos h22, if_neg h28, if_pos (show (t (9 + h) = 2 ∧ bt (t 8) (nI h) = 1) from ⟨h40, hb53⟩), ire] using hQ)
          | (simp_all [mTurn]; first | done | (rw [if_pos (show ire ti 2 = 0 from h78)] at hQ; exact hQ) | (rw [if_neg (show ¬ ire ti 2 = 0 from h78)] at hQ; exact hQ))
      · refine s_iconst (v := -1) (n := 32) dX9_turns_31 rfl (by decide) ?_
        refine s_goto (t := 36) dX9_turns_32 (by decide) ?_
        refine s_ireturn dX9_turns_36 rfl rfl ?_
        first
          | contradiction
          | (simp only [mTurn] at hQ
             simpa only [if_neg h16, if_pos h22, if_pos h28, if_neg (show ¬ (t (9 + h) = 2 ∧ bt (t 8) (nI h) = 1) from fun q => h40 q.1), ire] using hQ)
          | (simp only [mTurn] at hQ
             simpa only [if_neg h16, if_pos h22, if_pos h28, if_neg (show ¬ (t (9 + h) = 2 ∧ bt (t 8) (nI h) = 1) from fun q => hb53 q.2), ire] using hQ)
          | (simp only [mTurn] at hQ
             simpa only [if_neg h16, if_pos h22, if_pos h28, if_pos (show (t (9 + h) = 2 ∧ bt (t 8) (nI h) = 1) from ⟨h40, hb53⟩), ire] using hQ)
          | (simp_all [mTurn]; first | done | (rw [if_pos (show ire ti 2 = 0 from h78)] at hQ; exact hQ) | (rw [if_neg (show ¬ ire ti 2 = 0 from h78)] at hQ; exact hQ))
theorem lp_X9_houseAt {SL d : Nat} {Q : Option Int32 → m_G → Prop} {g : m_G} {t : m_T} {b : Nat} (hb : b ≤ 1053) (hT : TM g b t) (hc : t 1 ≤ 6) (x y : Int32) : ∀ (n i : Nat), i + n = 6 → Q (some (eM (sAtF t x y n i))) g → Sim SL d yX9_houseAt cX9_houseAt 5 (some .int) 3 [.ref 78, .int (nI b), .int x, .int y, .int (nI i)] [] g Q := by
  intro n
  induction n with
  | zero =>
    intro i hin hQ
    have hi : i = 6 := by omega
    subst hi
    refine s_iload (n := 5) dX9_houseAt_3 rfl rfl ?_
    refine s_aload_n (n := 6) dX9_houseAt_5 rfl rfl rfl ?_
    refine s_getr (k2 := 79) (n := 9) dX9_houseAt_6 rfl fl_X9_7 rfl rfl rfl ?_
    refine s_iload_n (n := 10) dX9_houseAt_9 rfl rfl rfl ?_
    refine s_iconst (v := 1) (n := 11) dX9_houseAt_10 rfl (by decide) ?_
    refine s_iadd (n := 12) dX9_houseAt_11 rfl ?_
    refine s_iaload (b + 1) (n := 13) dX9_houseAt_12 rfl rfl (ix2 rfl) (by omega) ?_
    rw [hT 1 (by decide)]
    refine s_icmp_ge (n := 16) (t := 57) dX9_houseAt_13 (by decide) rfl (fun h13 => ?_) (fun h13 => ?_)
    · refine s_ldc (n := 59) dX9_houseAt_57 rfl kc_X9_128 ?_
      refine s_ireturn dX9_houseAt_59 rfl rfl ?_
      exact hQ
    · exact absurd hc h13
  | succ n ih =>
    intro i hin hQ
    have hi6 : i < 6 := by omega
    refine s_iload (n := 5) dX9_houseAt_3 rfl rfl ?_
    refine s_aload_n (n := 6) dX9_houseAt_5 rfl rfl rfl ?_
    refine s_getr (k2 := 79) (n := 9) dX9_houseAt_6 rfl fl_X9_7 rfl rfl rfl ?_
    refine s_iload_n (n := 10) dX9_houseAt_9 rfl rfl rfl ?_
    refine s_iconst (v := 1) (n := 11) dX9_houseAt_10 rfl (by decide) ?_
    refine s_iadd (n := 12) dX9_houseAt_11 rfl ?_
    refine s_iaload (b + 1) (n := 13) dX9_houseAt_12 rfl rfl (ix2 rfl) (by omega) ?_
    rw [hT 1 (by decide)]
    unfold sAtF at hQ
    refine s_icmp_ge (n := 16) (t := 57) dX9_houseAt_13 (by decide) rfl (fun h13 => ?_) (fun h13 => ?_)
    · refine s_ldc (n := 59) dX9_houseAt_57 rfl kc_X9_128 ?_
      refine s_ireturn dX9_houseAt_59 rfl rfl ?_
      rw [if_pos h13] at hQ
      exact hQ
    · rw [if_neg h13] at hQ
      refine s_aload_n (n := 17) dX9_houseAt_16 rfl rfl rfl ?_
      refine s_getr (k2 := 79) (n := 20) dX9_houseAt_17 rfl fl_X9_7 rfl rfl rfl ?_
      refine s_iload_n (n := 21) dX9_houseAt_20 rfl rfl rfl ?_
      refine s_bipush (v := 15) (n := 23) dX9_houseAt_21 rfl (by decide) ?_
      refine s_iadd (n := 24) dX9_houseAt_23 rfl ?_
      refine s_iload (n := 26) dX9_houseAt_24 rfl rfl ?_
      refine s_iadd (n := 27) dX9_houseAt_26 rfl ?_
      refine s_iaload (b + 15 + i) (n := 28) dX9_houseAt_27 rfl rfl (ix3 rfl) (by omega) ?_
      rw [show b + 15 + i = b + (15 + i) by omega, hT (15 + i) (by omega)]
      refine s_iload_n (n := 29) dX9_houseAt_28 rfl rfl rfl ?_
      refine s_icmp_ne (n := 32) (t := 51) dX9_houseAt_29 (by decide) rfl (fun h29 => ?_) (fun h29 => ?_)
      · refine s_iinc (n := 54) (v := nI (i + 1)) dX9_houseAt_51 rfl (by decide) rfl rfl (nI_1 i) rfl ?_
        refine s_goto (t := 3) dX9_houseAt_54 (by decide) ?_
        refine ih (i + 1) (by omega) ?_
        rw [if_neg] at hQ
        · exact hQ
        · rintro ⟨q1, q2⟩
          first | exact h29 q1 | exact h45 q2
      · refine s_aload_n (n := 33) dX9_houseAt_32 rfl rfl rfl ?_
        refine s_getr (k2 := 79) (n := 36) dX9_houseAt_33 rfl fl_X9_7 rfl rfl rfl ?_
        refine s_iload_n (n := 37) dX9_houseAt_36 rfl rfl rfl ?_
        refine s_bipush (v := 21) (n := 39) dX9_houseAt_37 rfl (by decide) ?_
        refine s_iadd (n := 40) dX9_houseAt_39 rfl ?_
        refine s_iload (n := 42) dX9_houseAt_40 rfl rfl ?_
        refine s_iadd (n := 43) dX9_houseAt_42 rfl ?_
        refine s_iaload (b + 21 + i) (n := 44) dX9_houseAt_43 rfl rfl (ix3 rfl) (by omega) ?_
        rw [show b + 21 + i = b + (21 + i) by omega, hT (21 + i) (by omega)]
        refine s_iload_n (n := 45) dX9_houseAt_44 rfl rfl rfl ?_
        refine s_icmp_ne (n := 48) (t := 51) dX9_houseAt_45 (by decide) rfl (fun h45 => ?_) (fun h45 => ?_)
        · refine s_iinc (n := 54) (v := nI (i + 1)) dX9_houseAt_51 rfl (by decide) rfl rfl (nI_1 i) rfl ?_
          refine s_goto (t := 3) dX9_houseAt_54 (by decide) ?_
          refine ih (i + 1) (by omega) ?_
          rw [if_neg] at hQ
          · exact hQ
          · rintro ⟨q1, q2⟩
            first | exact h29 q1 | exact h45 q2
        · refine s_iload (n := 50) dX9_houseAt_48 rfl rfl ?_
          refine s_ireturn dX9_houseAt_50 rfl rfl ?_
          rw [if_pos ⟨h29, h45⟩] at hQ
          exact hQ
theorem c_X9_houseAt {SL : Nat} {d : Nat} {Q : Option Int32 → m_G → Prop} {g : m_G} {t : m_T} {b : Nat} (hb : b ≤ 1053) (hT : TM g b t) (hc : t 1 ≤ 6) (x y : Int32) (hQ : Q (some (eM (sAt t x y))) g) : Sim SL d yX9_houseAt cX9_houseAt 5 (some .int) 0 [.ref 78, .int (nI b), .int x, .int y, .null] [] g Q := by
  refine s_iconst (v := 0) (n := 1) dX9_houseAt_0 rfl (by decide) ?_
  refine s_istore (n := 3) dX9_houseAt_1 rfl (by decide) rfl rfl ?_
  exact lp_X9_houseAt hb hT hc x y 6 0 rfl hQ
theorem c_X9_startOf {SL : Nat} {d : Nat} {Q : Option Int32 → m_G → Prop} {g : m_G} {t : m_T} {b : Nat} (hb : b ≤ 1053) (hT : TM g b t) (hQ : Q (some (ire (t 2 + t 3 * t 7) 7)) g) : Sim SL d yX9_startOf cX9_startOf 2 (some .int) 0 [.ref 78, .int (nI b)] [] g Q := by
  refine s_aload_n (n := 1) dX9_startOf_0 rfl rfl rfl ?_
  refine s_getr (k2 := 79) (n := 4) dX9_startOf_1 rfl fl_X9_7 rfl rfl rfl ?_
  refine s_iload_n (n := 5) dX9_startOf_4 rfl rfl rfl ?_
  refine s_iconst (v := 2) (n := 6) dX9_startOf_5 rfl (by decide) ?_
  refine s_iadd (n := 7) dX9_startOf_6 rfl ?_
  refine s_iaload (b + 2) (n := 8) dX9_startOf_7 rfl rfl (ix2 rfl) (by omega) ?_
  rw [hT 2 (by decide)]
  refine s_aload_n (n := 9) dX9_startOf_8 rfl rfl rfl ?_
  refine s_getr (k2 := 79) (n := 12) dX9_startOf_9 rfl fl_X9_7 rfl rfl rfl ?_
  refine s_iload_n (n := 13) dX9_startOf_12 rfl rfl rfl ?_
  refine s_iconst (v := 3) (n := 14) dX9_startOf_13 rfl (by decide) ?_
  refine s_iadd (n := 15) dX9_startOf_14 rfl ?_
  refine s_iaload (b + 3) (n := 16) dX9_startOf_15 rfl rfl (ix2 rfl) (by omega) ?_
  rw [hT 3 (by decide)]
  refine s_aload_n (n := 17) dX9_startOf_16 rfl rfl rfl ?_
  refine s_getr (k2 := 79) (n := 20) dX9_startOf_17 rfl fl_X9_7 rfl rfl rfl ?_
  refine s_iload_n (n := 21) dX9_startOf_20 rfl rfl rfl ?_
  refine s_bipush (v := 7) (n := 23) dX9_startOf_21 rfl (by decide) ?_
  refine s_iadd (n := 24) dX9_startOf_23 rfl ?_
  refine s_iaload (b + 7) (n := 25) dX9_startOf_24 rfl rfl (ix2 rfl) (by omega) ?_
  rw [hT 7 (by decide)]
  refine s_imul (n := 26) dX9_startOf_25 rfl ?_
  refine s_iadd (n := 27) dX9_startOf_26 rfl ?_
  refine s_bipush (v := 7) (n := 29) dX9_startOf_27 rfl (by decide) ?_
  refine s_irem (n := 30) dX9_startOf_29 rfl (by decide) ?_
  refine s_ireturn dX9_startOf_30 rfl rfl ?_
  exact hQ
def mfr (g g2 : m_G) : Prop := m_fr [78, 89] g g2 ∧ ∀ j, j ≠ 20 → g2 78 j = g 78 j
theorem mfr.rf {g : m_G} : mfr g g := ⟨m_fr.rf, fun _ _ => rfl⟩
theorem mfr.tr {g g2 g3 : m_G} (h : mfr g g2) (h2 : mfr g2 g3) : mfr g g3 := ⟨h.1.tr h2.1, fun j hj => (h2.2 j hj).trans (h.2 j hj)⟩
theorem mfr.l {g : m_G} {j : Nat} {v : Int32} : mfr g (m_up g 89 j v) := ⟨m_fr.up (by decide), fun i _ => by rw [m_up_o (by decide)]⟩
theorem mfr.s {g : m_G} {v : Int32} : mfr g (m_up g 78 20 v) := ⟨m_fr.up (by decide), fun i hi => by rw [m_up_k, if_neg hi]⟩
theorem TM.fr {g g2 : m_G} {b : Nat} {t : m_T} (h : TM g b t) (hf : mfr g g2) : TM g2 b t := fun j hj => by rw [hf.1 79 (by decide)]; exact h j hj
def sL (x : Int32) : Int32 := if x ≤ 0 then 0 else x
def sGoM (g : m_G) (Q : Option Int32 → m_G → Prop) (r : Option Nat × (Nat → Int32) × Nat × Int32) : Prop := ∀ g2, mfr g g2 → (∀ j, j < 10 → g2 89 j = r.2.1 j) → g2 78 20 = sL r.2.2.2 → Q (some (eM r.1)) g2
theorem sGoM.tr {g g1 : m_G} {Q : Option Int32 → m_G → Prop} {r : Option Nat × (Nat → Int32) × Nat × Int32} (h : sGoM g Q r) (hf : mfr g g1) : sGoM g1 Q r := fun g2 h2 => h g2 (hf.tr h2)
theorem eM_ne {h : Nat} (hh : h < 6) : ¬ nI h = -1000000 := by
  rw [i32_eq, nI_toInt (by omega)]
  have : (-1000000 : Int32).toInt = -1000000 := rfl
  omega
theorem lp_X9_goes {SL d : Nat} {Q : Option Int32 → m_G → Prop} {t : m_T} {b : Nat} (hb : b ≤ 1053) (hti : t 0 ≤ 9) (hc : t 1 ≤ 6) (hev : ¬ t 6 ≤ 0) (hkk : tKD t) : ∀ (n i : Nat) (g : m_G) (x2 : Int32) (x5 : Value) (ln sp : Int32) (Ls : Nat → Int32), i + n = 10 → 1 ≤ i → TM g b t → ¬ sp ≤ 0 → g 78 20 = sp → (∀ j, j < 10 → g 89 j = Ls j) → sGoM g Q (sGo t n i ln sp Ls) → Sim SL (d + 2) yX9_goes cX9_goes 6 (some .int) 45 [.ref 78, .int (nI b), .int x2, .int ln, .int (nI i), x5] [] g Q := by
  intro n
  induction n with
  | zero =>
    intro i g x2 x5 ln sp Ls hin hi1 hT hsp r3 r6 hQ
    have hi : i = 10 := by omega
    subst hi
    refine s_iload (n := 47) dX9_goes_45 rfl rfl ?_
    refine s_aload_n (n := 48) dX9_goes_47 rfl rfl rfl ?_
    refine s_getr (k2 := 79) (n := 51) dX9_goes_48 rfl fl_X9_7 rfl rfl rfl ?_
    refine s_iload_n (n := 52) dX9_goes_51 rfl rfl rfl ?_
    refine s_iconst (v := 0) (n := 53) dX9_goes_52 rfl (by decide) ?_
    refine s_iadd (n := 54) dX9_goes_53 rfl ?_
    refine s_iaload (b + 0) (n := 55) dX9_goes_54 rfl rfl (ix2 rfl) (by omega) ?_
    rw [hT 0 (by decide)]
    refine s_icmp_gt (n := 58) (t := 192) dX9_goes_55 (by decide) rfl (fun h55 => ?_) (fun h55 => ?_)
    · refine s_ldc (n := 194) dX9_goes_192 rfl kc_X9_128 ?_
      refine s_ireturn dX9_goes_194 rfl rfl ?_
      exact hQ g mfr.rf r6 (by rw [r3]; unfold sL; exact (if_neg hsp).symm)
    · exact absurd (nI9 h55 hti (by omega)) (by omega)
  | succ n ih =>
    intro i g x2 x5 ln sp Ls hin hi1 hT hsp r3 r6 hQ
    have b92 : ¬ t 0 < nI i → ∀ v : Int32, v = sSt t i ln → Sim SL (d + 2) yX9_goes cX9_goes 6 (some .int) 92 [.ref 78, .int (nI b), .int x2, .int ln, .int (nI i), x5] [.int v] g Q := by
      intro hlt v hv
      subst hv
      have hi9 : i ≤ 9 := nI9 hlt hti (by omega)
      refine s_istore_n (n := 93) dX9_goes_92 rfl rfl (by decide) rfl rfl ?_
      refine s_aload_n (n := 94) dX9_goes_93 rfl rfl rfl ?_
      refine s_getr (k2 := 89) (n := 97) dX9_goes_94 rfl fl_X9_41 rfl rfl rfl ?_
      refine s_iload (n := 99) dX9_goes_97 rfl rfl ?_
      refine s_iload_n (n := 100) dX9_goes_99 rfl rfl rfl ?_
      refine s_iastore i (n := 101) dX9_goes_100 rfl rfl rfl (by omega) ?_
      refine s_aload_n (n := 102) dX9_goes_101 rfl rfl rfl ?_
      refine s_iload_n (n := 103) dX9_goes_102 rfl rfl rfl ?_
      refine s_iload (n := 105) dX9_goes_103 rfl rfl ?_
      refine s_iload_n (n := 106) dX9_goes_105 rfl rfl rfl ?_
      have hT1 : TM (m_up g 89 i (sSt t i ln)) b t := hT.fr mfr.l
      refine s_cv3 (n := 109) dX9_goes_106 rfl mo_X9_houseAt ml_X9_124 rfl (by decide) rfl rfl (Nat.le_of_ble_eq_true rfl) (Nat.le_of_ble_eq_true rfl) (c_X9_houseAt hb hT1 hc _ _ ?_)
      dsimp only [m_push]
      unfold sGo at hQ
      rw [if_neg hlt] at hQ
      have hls : ∀ j, j < 10 → (m_up g 89 i (sSt t i ln)) 89 j = upd Ls i (sSt t i ln) j := by
        intro j hj
        rw [m_up_k]; unfold upd
        split
        · rfl
        · exact r6 j hj
      have hs3 : (m_up g 89 i (sSt t i ln)) 78 20 = sp := by rw [m_up_o (by decide)]; exact r3
      cases hs : sAt t (nI i) (sSt t i ln) with
      | none =>
        rw [hs] at hQ
        dsimp only [eM] at hQ ⊢
        refine s_istore (n := 111) dX9_goes_109 rfl (by decide) rfl rfl ?_
        refine s_iload (n := 113) dX9_goes_111 rfl rfl ?_
        refine s_ldc (n := 115) dX9_goes_113 rfl kc_X9_128 ?_
        refine s_icmp_eq (n := 118) (t := 186) dX9_goes_115 (by decide) rfl (fun _ => ?_) (fun h => absurd h (by decide))
        refine s_iinc (n := 189) (v := nI (i + 1)) dX9_goes_186 rfl (by decide) rfl rfl (nI_1 i) rfl ?_
        refine s_goto (t := 45) dX9_goes_189 (by decide) ?_
        exact ih (i + 1) _ x2 _ _ sp _ (by omega) (by omega) hT1 hsp hs3 hls (hQ.tr mfr.l)
      | some h =>
        obtain ⟨hh, hcnt⟩ := sAt_lt hs
        have hkd := hkk h hh hcnt
        rw [hs] at hQ
        dsimp only [eM] at hQ ⊢
        refine s_istore (n := 111) dX9_goes_109 rfl (by decide) rfl rfl ?_
        refine s_iload (n := 113) dX9_goes_111 rfl rfl ?_
        refine s_ldc (n := 115) dX9_goes_113 rfl kc_X9_128 ?_
        refine s_icmp_eq (n := 118) (t := 186) dX9_goes_115 (by decide) rfl (fun h115 => ?_) (fun h115 => ?_)
        · exact absurd h115 (eM_ne hh)
        · refine s_aload_n (n := 119) dX9_goes_118 rfl rfl rfl ?_
          refine s_iload_n (n := 120) dX9_goes_119 rfl rfl rfl ?_
          refine s_iload (n := 122) dX9_goes_120 rfl rfl ?_
          refine s_cv2 (n := 125) dX9_goes_122 rfl mo_X9_holdsIt ml_X9_167 rfl (by decide) rfl rfl (Nat.le_of_ble_eq_true rfl) (Nat.le_of_ble_eq_true rfl) (c_X9_holdsIt hb hT1 h hh (fun hb122 => ?_) (fun hb122 => ?_))
          · dsimp only [m_push]
            refine s_if_eq (n := 128) (t := 131) dX9_goes_125 (by decide) rfl (fun h => absurd h (by decide)) (fun _ => ?_)
            refine s_iload (n := 130) dX9_goes_128 rfl rfl ?_
            refine s_ireturn dX9_goes_130 rfl rfl ?_
            rw [if_pos (mHold_iff.mp hb122)] at hQ
            exact hQ _ mfr.l hls (by rw [hs3]; unfold sL; exact (if_neg hsp).symm)
          · dsimp only [m_push]
            refine s_if_eq (n := 128) (t := 131) dX9_goes_125 (by decide) rfl (fun _ => ?_) (fun h => absurd h (by decide))
            have hH : ¬ sHold (t (9 + h)) (bt (t 8) (nI h)) := fun q => hb122 (mHold_iff.mpr q)
            rw [if_neg hH] at hQ
            refine s_aload_n (n := 132) dX9_goes_131 rfl rfl rfl ?_
            refine s_dup (n := 133) dX9_goes_132 rfl rfl ?_
            refine s_geti (n := 136) dX9_goes_133 rfl fl_X9_161 rfl rfl ?_
            refine s_aload_n (n := 137) dX9_goes_136 rfl rfl rfl ?_
            refine s_iload_n (n := 138) dX9_goes_137 rfl rfl rfl ?_
            refine s_iload (n := 140) dX9_goes_138 rfl rfl ?_
            refine s_cv2 (n := 143) dX9_goes_140 rfl mo_X9_slows ml_X9_170 rfl (by decide) rfl rfl (Nat.le_of_ble_eq_true rfl) (Nat.le_of_ble_eq_true rfl) (c_X9_slows hb hT1 h hh ?_)
            dsimp only [m_push]
            rw [mSlow_eq hkd hH, hs3]
            refine s_isub (n := 144) dX9_goes_143 rfl ?_
            refine s_puti (n := 147) dX9_goes_144 rfl fl_X9_161 rfl rfl rfl ?_
            refine s_iload_n (n := 148) dX9_goes_147 rfl rfl rfl ?_
            refine s_aload_n (n := 149) dX9_goes_148 rfl rfl rfl ?_
            refine s_iload_n (n := 150) dX9_goes_149 rfl rfl rfl ?_
            refine s_iload (n := 152) dX9_goes_150 rfl rfl ?_
            refine s_iload (n := 154) dX9_goes_152 rfl rfl ?_
            refine s_cv3 (n := 157) dX9_goes_154 rfl mo_X9_turns ml_X9_173 rfl (by decide) rfl rfl (Nat.le_of_ble_eq_true rfl) (Nat.le_of_ble_eq_true rfl) (c_X9_turns hb (hT1.fr mfr.s) h hh _ ?_)
            dsimp only [m_push]
            rw [mTurn_eq hkd hH]
            refine s_iadd (n := 158) dX9_goes_157 rfl ?_
            refine s_cs1 (n := 161) dX9_goes_158 rfl mo_X9_kept ml_X9_164 rfl (Nat.le_of_ble_eq_true rfl) (Nat.le_of_ble_eq_true rfl) (c_X9_kept _ ?_)
            dsimp only [m_push]
            refine s_istore_n (n := 162) dX9_goes_161 rfl rfl (by decide) rfl rfl ?_
            refine s_aload_n (n := 163) dX9_goes_162 rfl rfl rfl ?_
            refine s_getr (k2 := 89) (n := 166) dX9_goes_163 rfl fl_X9_41 rfl rfl rfl ?_
            refine s_iload (n := 168) dX9_goes_166 rfl rfl ?_
            refine s_iload_n (n := 169) dX9_goes_168 rfl rfl rfl ?_
            refine s_iastore i (n := 170) dX9_goes_169 rfl rfl rfl (by omega) ?_
            refine s_aload_n (n := 171) dX9_goes_170 rfl rfl rfl ?_
            refine s_geti (n := 174) dX9_goes_171 rfl fl_X9_161 rfl rfl ?_
            rw [m_up_o (show (78 : Nat) ≠ 89 by decide), m_up_k, if_pos rfl]
            refine s_iconst (v := 1) (n := 175) dX9_goes_174 rfl (by decide) ?_
            refine s_icmp_ge (n := 178) (t := 186) dX9_goes_175 (by decide) rfl (fun h175 => ?_) (fun h175 => ?_)
            · refine s_iinc (n := 189) (v := nI (i + 1)) dX9_goes_186 rfl (by decide) rfl rfl (nI_1 i) rfl ?_
              refine s_goto (t := 45) dX9_goes_189 (by decide) ?_
              have hz : ¬ sp - sSlow (t (9 + h)) (bt (t 8) (nI h)) ≤ 0 := by rw [i32_le] at h175 ⊢; have := ti0; have := ti1; omega
              rw [if_neg hz] at hQ
              refine ih (i + 1) _ x2 _ _ _ _ (by omega) (by omega) (hT1.fr (mfr.s.tr mfr.l)) hz ?_ ?_ (hQ.tr (mfr.l.tr (mfr.s.tr mfr.l)))
              · rw [m_up_o (by decide), m_up_k, if_pos rfl]
              · intro j hj
                rw [m_up_k]
                dsimp only [upd]
                split
                · rfl
                · rw [m_up_o (by decide), hls j hj]
                  unfold upd
                  rw [if_neg (by assumption)]
            · have hz : sp - sSlow (t (9 + h)) (bt (t 8) (nI h)) ≤ 0 := by rw [i32_le] at h175 ⊢; have := ti0; have := ti1; omega
              rw [if_pos hz] at hQ
              refine s_aload_n (n := 179) dX9_goes_178 rfl rfl rfl ?_
              refine s_iconst (v := 0) (n := 180) dX9_goes_179 rfl (by decide) ?_
              refine s_puti (n := 183) dX9_goes_180 rfl fl_X9_161 rfl rfl rfl ?_
              refine s_iload (n := 185) dX9_goes_183 rfl rfl ?_
              refine s_ireturn dX9_goes_185 rfl rfl ?_
              refine hQ _ (mfr.l.tr (mfr.s.tr (mfr.l.tr mfr.s))) ?_ ?_
              · intro j hj
                rw [m_up_o (by decide), m_up_k]
                dsimp only [upd]
                split
                · rfl
                · rw [m_up_o (by decide), hls j hj]
                  unfold upd
                  rw [if_neg (by assumption)]
              · rw [m_up_k, if_pos rfl]
                dsimp only [sL]
                rw [if_pos hz]
    refine s_iload (n := 47) dX9_goes_45 rfl rfl ?_
    refine s_aload_n (n := 48) dX9_goes_47 rfl rfl rfl ?_
    refine s_getr (k2 := 79) (n := 51) dX9_goes_48 rfl fl_X9_7 rfl rfl rfl ?_
    refine s_iload_n (n := 52) dX9_goes_51 rfl rfl rfl ?_
    refine s_iconst (v := 0) (n := 53) dX9_goes_52 rfl (by decide) ?_
    refine s_iadd (n := 54) dX9_goes_53 rfl ?_
    refine s_iaload (b + 0) (n := 55) dX9_goes_54 rfl rfl (ix2 rfl) (by omega) ?_
    rw [hT 0 (by decide)]
    refine s_icmp_gt (n := 58) (t := 192) dX9_goes_55 (by decide) rfl (fun h55 => ?_) (fun h55 => ?_)
    · refine s_ldc (n := 194) dX9_goes_192 rfl kc_X9_128 ?_
      refine s_ireturn dX9_goes_194 rfl rfl ?_
      unfold sGo at hQ
      rw [if_pos h55] at hQ
      exact hQ g mfr.rf r6 (by rw [r3]; unfold sL; exact (if_neg hsp).symm)
    · refine s_iload (n := 60) dX9_goes_58 rfl rfl ?_
      refine s_aload_n (n := 61) dX9_goes_60 rfl rfl rfl ?_
      refine s_getr (k2 := 79) (n := 64) dX9_goes_61 rfl fl_X9_7 rfl rfl rfl ?_
      refine s_iload_n (n := 65) dX9_goes_64 rfl rfl rfl ?_
      refine s_bipush (v := 6) (n := 67) dX9_goes_65 rfl (by decide) ?_
      refine s_iadd (n := 68) dX9_goes_67 rfl ?_
      refine s_iaload (b + 6) (n := 69) dX9_goes_68 rfl rfl (ix2 rfl) (by omega) ?_
      rw [hT 6 (by decide)]
      refine s_irem (n := 70) dX9_goes_69 rfl (fun q => hev (by rw [q]; decide)) ?_
      refine s_if_ne (n := 73) (t := 91) dX9_goes_70 (by decide) rfl (fun h70 => ?_) (fun h70 => ?_)
      · refine s_iload_n (n := 92) dX9_goes_91 rfl rfl rfl ?_
        first
          | exact b92 h55 _ (by unfold sSt; rw [if_neg (show ¬ ire (nI i) (t 6) = 0 from h70)])
          | exact b92 h55 _ (by unfold sSt; rw [if_pos (show ire (nI i) (t 6) = 0 from h70), Int32.sub_eq_add_neg, Int32.sub_eq_add_neg, Int32.add_assoc])
      · refine s_iload_n (n := 74) dX9_goes_73 rfl rfl rfl ?_
        refine s_aload_n (n := 75) dX9_goes_74 rfl rfl rfl ?_
        refine s_getr (k2 := 79) (n := 78) dX9_goes_75 rfl fl_X9_7 rfl rfl rfl ?_
        refine s_iload_n (n := 79) dX9_goes_78 rfl rfl rfl ?_
        refine s_iconst (v := 5) (n := 80) dX9_goes_79 rfl (by decide) ?_
        refine s_iadd (n := 81) dX9_goes_80 rfl ?_
        refine s_iaload (b + 5) (n := 82) dX9_goes_81 rfl rfl (ix2 rfl) (by omega) ?_
        rw [hT 5 (by decide)]
        refine s_iadd (n := 83) dX9_goes_82 rfl ?_
        refine s_iconst (v := 1) (n := 84) dX9_goes_83 rfl (by decide) ?_
        refine s_isub (n := 85) dX9_goes_84 rfl ?_
        refine s_cs1 (n := 88) dX9_goes_85 rfl mo_X9_kept ml_X9_164 rfl (Nat.le_of_ble_eq_true rfl) (Nat.le_of_ble_eq_true rfl) (c_X9_kept _ ?_)
        dsimp only [m_push]
        refine s_goto (t := 92) dX9_goes_88 (by decide) ?_
        first
          | exact b92 h55 _ (by unfold sSt; rw [if_neg (show ¬ ire (nI i) (t 6) = 0 from h70)])
          | exact b92 h55 _ (by unfold sSt; rw [if_pos (show ire (nI i) (t 6) = 0 from h70), Int32.sub_eq_add_neg, Int32.sub_eq_add_neg, Int32.add_assoc])
theorem c_X9_goes2 {SL d : Nat} {Q : Option Int32 → m_G → Prop} {t : m_T} {b : Nat} (hb : b ≤ 1053) (hti : t 0 ≤ 9) (hc : t 1 ≤ 6) (hev : ¬ t 6 ≤ 0) (hkk : tKD t) (hsp : ¬ t 4 ≤ 0) (a : Int32) : ∀ (n i : Nat) (g : m_G), i + n = 10 → TM g b t → (∀ j, j < i → g 89 j = -1) → sGoM g Q (sRun t a) → Sim SL (d + 2) yX9_goes cX9_goes 6 (some .int) 2 [.ref 78, .int (nI b), .int a, .int (nI i), .null, .null] [] g Q := by
  intro n
  induction n with
  | zero =>
    intro i g hin hT r6 hQ
    have hi : i = 10 := by omega
    subst hi
    refine s_iload_n (n := 3) dX9_goes_2 rfl rfl rfl ?_
    refine s_bipush (v := 10) (n := 5) dX9_goes_3 rfl (by decide) ?_
    refine s_icmp_ge (n := 8) (t := 21) dX9_goes_5 (by decide) rfl (fun h5 => ?_) (fun h5 => ?_)
    · refine s_iload_n (n := 22) dX9_goes_21 rfl rfl rfl ?_
      refine s_istore_n (n := 23) dX9_goes_22 rfl rfl (by decide) rfl rfl ?_
      refine s_aload_n (n := 24) dX9_goes_23 rfl rfl rfl ?_
      refine s_aload_n (n := 25) dX9_goes_24 rfl rfl rfl ?_
      refine s_getr (k2 := 79) (n := 28) dX9_goes_25 rfl fl_X9_7 rfl rfl rfl ?_
      refine s_iload_n (n := 29) dX9_goes_28 rfl rfl rfl ?_
      refine s_iconst (v := 4) (n := 30) dX9_goes_29 rfl (by decide) ?_
      refine s_iadd (n := 31) dX9_goes_30 rfl ?_
      refine s_iaload (b + 4) (n := 32) dX9_goes_31 rfl rfl (ix2 rfl) (by omega) ?_
      rw [hT 4 (by decide)]
      refine s_puti (n := 35) dX9_goes_32 rfl fl_X9_161 rfl rfl rfl ?_
      refine s_aload_n (n := 36) dX9_goes_35 rfl rfl rfl ?_
      refine s_getr (k2 := 89) (n := 39) dX9_goes_36 rfl fl_X9_41 rfl rfl rfl ?_
      refine s_iconst (v := 0) (n := 40) dX9_goes_39 rfl (by decide) ?_
      refine s_iload_n (n := 41) dX9_goes_40 rfl rfl rfl ?_
      refine s_iastore 0 (n := 42) dX9_goes_41 rfl rfl rfl (by decide) ?_
      refine s_iconst (v := 1) (n := 43) dX9_goes_42 rfl (by decide) ?_
      refine s_istore (n := 45) dX9_goes_43 rfl (by decide) rfl rfl ?_
      refine lp_X9_goes hb hti hc hev hkk 9 1 _ a _ a (t 4) (fun j => if j = 0 then a else -1) rfl (by decide) (hT.fr (mfr.s.tr mfr.l)) hsp ?_ ?_ (fun g2 hf => hQ g2 ((mfr.s.tr mfr.l).tr hf))
      · rw [m_up_o (by decide), m_up_k, if_pos rfl]
      · intro j hj
        rw [m_up_k]
        split
        · rfl
        · rw [m_up_o (by decide)]; exact r6 j hj
    · exact absurd (by decide) h5
  | succ n ih =>
    intro i g hin hT r6 hQ
    have hi : i < 10 := by omega
    refine s_iload_n (n := 3) dX9_goes_2 rfl rfl rfl ?_
    refine s_bipush (v := 10) (n := 5) dX9_goes_3 rfl (by decide) ?_
    refine s_icmp_ge (n := 8) (t := 21) dX9_goes_5 (by decide) rfl (fun h5 => ?_) (fun h5 => ?_)
    · exact absurd h5 (nI_ge hi (by decide))
    · refine s_aload_n (n := 9) dX9_goes_8 rfl rfl rfl ?_
      refine s_getr (k2 := 89) (n := 12) dX9_goes_9 rfl fl_X9_41 rfl rfl rfl ?_
      refine s_iload_n (n := 13) dX9_goes_12 rfl rfl rfl ?_
      refine s_iconst (v := -1) (n := 14) dX9_goes_13 rfl (by decide) ?_
      refine s_iastore i (n := 15) dX9_goes_14 rfl rfl rfl (by omega) ?_
      refine s_iinc (n := 18) (v := nI (i + 1)) dX9_goes_15 rfl (by decide) rfl rfl (nI_1 i) rfl ?_
      refine s_goto (t := 2) dX9_goes_18 (by decide) ?_
      refine ih (i + 1) (m_up g 89 i (-1)) (by omega) (hT.fr mfr.l) ?_ (fun g2 hf => hQ g2 (mfr.l.tr hf))
      intro j hj
      rw [m_up_k]
      split
      · rfl
      · exact r6 j (by omega)
theorem c_X9_goes {SL : Nat} {d : Nat} {Q : Option Int32 → m_G → Prop} {g : m_G} {t : m_T} {b : Nat} (hb : b ≤ 1053) (hT : TM g b t) (hti : t 0 ≤ 9) (hc : t 1 ≤ 6) (hev : ¬ t 6 ≤ 0) (hkk : tKD t) (hsp : ¬ t 4 ≤ 0) (a : Int32) (hQ : sGoM g Q (sRun t a)) : Sim SL (d + 2) yX9_goes cX9_goes 6 (some .int) 0 [.ref 78, .int (nI b), .int a, .null, .null, .null] [] g Q := by
  refine s_iconst (v := 0) (n := 1) dX9_goes_0 rfl (by decide) ?_
  refine s_istore_n (n := 2) dX9_goes_1 rfl rfl (by decide) rfl rfl ?_
  exact c_X9_goes2 hb hti hc hev hkk hsp a 10 0 g rfl hT (fun j hj => absurd hj (by omega)) hQ
