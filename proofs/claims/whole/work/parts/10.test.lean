/-- a number lies between two others -/
def wn (a b c : Int32) : Prop := ¬ a < b ∧ ¬ c < a
theorem wn_i1 {a b c : Int32} (h : a < b) : ¬ wn a b c := fun q => q.1 h
theorem wn_i2 {a b c : Int32} (h : c < a) : ¬ wn a b c := fun q => q.2 h
theorem Int64_lt_of {a b : Int32} : a.toInt64 < b.toInt64 ↔ a < b := by
  rw [Int64.lt_iff_toInt_lt, Int32.lt_iff_toInt_lt, Int32.toInt_toInt64, Int32.toInt_toInt64]
theorem c_X8_within {SL : Nat} {d : Nat} {Q : Option Int32 → m_G → Prop} {g : m_G} (a b c : Int32) (k1 : wn a b c → Q (some 1) g) (k0 : ¬ (wn a b c) → Q (some 0) g) : Sim SL d yX8_within cX8_within 3 (some .boolean) 0 [.int a, .int b, .int c] [] g Q := by
  refine s_iload_n (n := 1) dX8_within_0 rfl rfl rfl ?_
  refine s_iload_n (n := 2) dX8_within_1 rfl rfl rfl ?_
  refine s_icmp_lt (n := 5) (t := 14) dX8_within_2 (by decide) rfl (fun h2 => ?_) (fun h2 => ?_)
  · refine s_iconst (v := 0) (n := 15) dX8_within_14 rfl (by decide) ?_
    refine s_ireturn dX8_within_15 rfl (by decide +kernel) ?_
    first | exact k1 ⟨h2, h7⟩ | exact k0 (wn_i2 h7) | exact k0 (wn_i1 h2)
  · refine s_iload_n (n := 6) dX8_within_5 rfl rfl rfl ?_
    refine s_iload_n (n := 7) dX8_within_6 rfl rfl rfl ?_
    refine s_icmp_gt (n := 10) (t := 14) dX8_within_7 (by decide) rfl (fun h7 => ?_) (fun h7 => ?_)
    · refine s_iconst (v := 0) (n := 15) dX8_within_14 rfl (by decide) ?_
      refine s_ireturn dX8_within_15 rfl (by decide +kernel) ?_
      first | exact k1 ⟨h2, h7⟩ | exact k0 (wn_i2 h7) | exact k0 (wn_i1 h2)
    · refine s_iconst (v := 1) (n := 11) dX8_within_10 rfl (by decide) ?_
      refine s_goto (t := 15) dX8_within_11 (by decide) ?_
      refine s_ireturn dX8_within_15 rfl (by decide +kernel) ?_
      first | exact k1 ⟨h2, h7⟩ | exact k0 (wn_i2 h7) | exact k0 (wn_i1 h2)
theorem c_X9_in {SL : Nat} {d : Nat} {Q : Option Int32 → m_G → Prop} {g : m_G} {a b c : Int64} {x : Int32} (lo hi : Int32) (ha : a = x.toInt64) (hb : b = lo.toInt64) (hc : c = hi.toInt64) (k1 : wn x lo hi → Q (some 1) g) (k0 : ¬ (wn x lo hi) → Q (some 0) g) : Sim SL d yX9_in cX9_in 6 (some .boolean) 0 [.long a, .null, .long b, .null, .long c, .null] [] g Q := by
  refine s_lload_n (n := 1) dX9_in_0 rfl rfl rfl ?_
  refine s_lload_n (n := 2) dX9_in_1 rfl rfl rfl ?_
  refine s_lcmp (n := 3) dX9_in_2 rfl ?_
  refine s_if_lt (n := 6) (t := 17) dX9_in_3 (by decide) rfl (fun h3 => ?_) (fun h3 => ?_)
  · refine s_iconst (v := 0) (n := 18) dX9_in_17 rfl (by decide) ?_
    refine s_ireturn dX9_in_18 rfl (by decide +kernel) ?_
    subst ha hb hc
    first | exact k1 ⟨fun q => h3 ((lg_cmp_lt _ _).mpr (Int64_lt_of.mpr q)), fun q => h10 ((lg_cmp_gt _ _).mpr (Int64_lt_of.mpr q))⟩ | exact k0 (fun q => q.2 (Int64_lt_of.mp ((lg_cmp_gt _ _).mp h10))) | exact k0 (fun q => q.1 (Int64_lt_of.mp ((lg_cmp_lt _ _).mp h3)))
  · refine s_lload_n (n := 7) dX9_in_6 rfl rfl rfl ?_
    refine s_lload (n := 9) dX9_in_7 rfl rfl ?_
    refine s_lcmp (n := 10) dX9_in_9 rfl ?_
    refine s_if_gt (n := 13) (t := 17) dX9_in_10 (by decide) rfl (fun h10 => ?_) (fun h10 => ?_)
    · refine s_iconst (v := 0) (n := 18) dX9_in_17 rfl (by decide) ?_
      refine s_ireturn dX9_in_18 rfl (by decide +kernel) ?_
      subst ha hb hc
      first | exact k1 ⟨fun q => h3 ((lg_cmp_lt _ _).mpr (Int64_lt_of.mpr q)), fun q => h10 ((lg_cmp_gt _ _).mpr (Int64_lt_of.mpr q))⟩ | exact k0 (fun q => q.2 (Int64_lt_of.mp ((lg_cmp_gt _ _).mp h10))) | exact k0 (fun q => q.1 (Int64_lt_of.mp ((lg_cmp_lt _ _).mp h3)))
    · refine s_iconst (v := 1) (n := 14) dX9_in_13 rfl (by decide) ?_
      refine s_goto (t := 18) dX9_in_14 (by decide) ?_
      refine s_ireturn dX9_in_18 rfl (by decide +kernel) ?_
      subst ha hb hc
      first | exact k1 ⟨fun q => h3 ((lg_cmp_lt _ _).mpr (Int64_lt_of.mpr q)), fun q => h10 ((lg_cmp_gt _ _).mpr (Int64_lt_of.mpr q))⟩ | exact k0 (fun q => q.2 (Int64_lt_of.mp ((lg_cmp_gt _ _).mp h10))) | exact k0 (fun q => q.1 (Int64_lt_of.mp ((lg_cmp_lt _ _).mp h3)))
theorem c_X8_isRow {SL : Nat} {d : Nat} {Q : Option Int32 → m_G → Prop} {g : m_G} (a : Int32) (k1 : wn a 0 7 → Q (some 1) g) (k0 : ¬ (wn a 0 7) → Q (some 0) g) : Sim SL (d + 1) yX8_isRow cX8_isRow 1 (some .boolean) 0 [.int a] [] g Q := by
  refine s_iload_n (n := 1) dX8_isRow_0 rfl rfl rfl ?_
  refine s_iconst (v := 0) (n := 2) dX8_isRow_1 rfl (by decide) ?_
  refine s_bipush (v := 7) (n := 4) dX8_isRow_2 rfl (by decide) ?_
  refine s_cs3 (n := 7) dX8_isRow_4 rfl mo_X8_within ml_X8_62 rfl (Nat.le_of_ble_eq_true rfl) (Nat.le_of_ble_eq_true rfl) (c_X8_within _ _ _ (fun hb4 => ?_) (fun hb4 => ?_))
  · dsimp only [m_push]
    refine s_ireturn dX8_isRow_7 rfl (by decide +kernel) ?_
    first | exact k1 hb4 | exact k0 hb4
  · dsimp only [m_push]
    refine s_ireturn dX8_isRow_7 rfl (by decide +kernel) ?_
    first | exact k1 hb4 | exact k0 hb4
theorem c_X9_isRow {SL : Nat} {d : Nat} {Q : Option Int32 → m_G → Prop} {g : m_G} (a : Int32) (k1 : wn a 0 7 → Q (some 1) g) (k0 : ¬ (wn a 0 7) → Q (some 0) g) : Sim SL (d + 1) yX9_isRow cX9_isRow 1 (some .boolean) 0 [.int a] [] g Q := by
  refine s_iload_n (n := 1) dX9_isRow_0 rfl rfl rfl ?_
  refine s_i2l (n := 2) dX9_isRow_1 rfl ?_
  refine s_lconst (v := 0) (n := 3) dX9_isRow_2 rfl (by decide) ?_
  refine s_ldc2 (n := 6) dX9_isRow_3 rfl kc_X9_58 ?_
  refine s_cs3 (n := 9) dX9_isRow_6 rfl mo_X9_in ml_X9_60 rfl (Nat.le_of_ble_eq_true rfl) (Nat.le_of_ble_eq_true rfl) (c_X9_in (0) (7) rfl (by decide) (by decide) (fun hb6 => ?_) (fun hb6 => ?_))
  · dsimp only [m_push]
    refine s_ireturn dX9_isRow_9 rfl (by decide +kernel) ?_
    first | exact k1 hb6 | exact k0 hb6
  · dsimp only [m_push]
    refine s_ireturn dX9_isRow_9 rfl (by decide +kernel) ?_
    first | exact k1 hb6 | exact k0 hb6
