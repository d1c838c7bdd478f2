abbrev isOfP (own w : Int32) : Prop := w = 0 ∨ w = own ∨ (w = 1 ∧ (own = 2 ∨ own = 3)) ∨ (w = 4 ∧ own = 5)
theorem isOfN {own w : Int32} (h0 : ¬ w = 0) (h1 : ¬ w = own) (h2 : ¬ (w = 1 ∧ (own = 2 ∨ own = 3))) (h3 : ¬ (w = 4 ∧ own = 5)) : ¬ isOfP own w := fun q => q.elim h0 (fun q => q.elim h1 (fun q => q.elim h2 h3))
def sp_as (a : a_S) (h k : Int32) : Int32 × a_S := if wn h 0 (a_H a 1 - 1) then (if wn k 0 5 then (if isOfP (a_H a (9 + h.toNatClampNeg)) k then (h, u_find a 0) else (-1000013, u_find a 3)) else (-1000001, a)) else (-1000001, a)
theorem st_X8_isOfKind {SL d : Nat} {Q : Option Int32 → m_G → Prop} {g : m_G} {own w : Int32} (kd i : Nat) (hkd : kd < 6) (hi : i < 6) (k1 : nI kd = w → Q (some 1) g) (k2 : ¬ nI kd = w → Sim SL (d + 1) yX8_isOfKind cX8_isOfKind 4 (some .boolean) 4 [.int own, .int w, .int (g 201 kd), .int (nI (i + 1))] [] g Q) : Sim SL (d + 1) yX8_isOfKind cX8_isOfKind 4 (some .boolean) 4 [.int own, .int w, .int (nI kd), .int (nI i)] [] g Q := by
  refine s_iload_n (n := 5) dX8_isOfKind_4 rfl rfl rfl ?_
  refine s_getstatic (k := 201) (n := 8) dX8_isOfKind_5 rfl (List.mem_of_getElem? (i := 0) rfl) fs_X8_312 ?_
  refine s_tlen (n := 9) dX8_isOfKind_8 rfl (List.mem_of_getElem? (i := 1) rfl) rfl ?_
  refine s_icmp_ge (n := 12) (t := 40) dX8_isOfKind_9 (by decide) rfl (fun h9 => ?_) (fun h9 => ?_)
  · exact absurd h9 (nI_ge hi (by decide))
  · refine s_iload_n (n := 13) dX8_isOfKind_12 rfl rfl rfl ?_
    refine s_iconst (v := 0) (n := 14) dX8_isOfKind_13 rfl (by decide) ?_
    refine s_iconst (v := 5) (n := 15) dX8_isOfKind_14 rfl (by decide) ?_
    refine s_cs3 (n := 18) dX8_isOfKind_15 rfl mo_X8_within ml_X8_62 rfl (Nat.le_of_ble_eq_true rfl) (Nat.le_of_ble_eq_true rfl) (c_X8_within _ _ _ (fun hb15 => ?_) (fun hb15 => ?_))
    · dsimp only [m_push]
      refine s_if_eq (n := 21) (t := 40) dX8_isOfKind_18 (by decide) rfl (fun h => absurd h (by decide)) (fun _ => ?_)
      refine s_iload_n (n := 22) dX8_isOfKind_21 rfl rfl rfl ?_
      refine s_iload_n (n := 23) dX8_isOfKind_22 rfl rfl rfl ?_
      refine s_icmp_ne (n := 26) (t := 28) dX8_isOfKind_23 (by decide) rfl (fun h23 => ?_) (fun h23 => ?_)
      · refine s_getstatic (k := 201) (n := 31) dX8_isOfKind_28 rfl (List.mem_of_getElem? (i := 0) rfl) fs_X8_312 ?_
        refine s_iload_n (n := 32) dX8_isOfKind_31 rfl rfl rfl ?_
        refine s_tload kd (n := 33) dX8_isOfKind_32 rfl (List.mem_of_getElem? (i := 1) rfl) (by decide) rfl hkd ?_
        refine s_istore_n (n := 34) dX8_isOfKind_33 rfl rfl (by decide) rfl rfl ?_
        refine s_iinc (n := 37) (v := nI (i + 1)) dX8_isOfKind_34 rfl (by decide) rfl rfl (nI_1 i) rfl ?_
        refine s_goto (t := 4) dX8_isOfKind_37 (by decide) ?_
        exact k2 h23
      · refine s_iconst (v := 1) (n := 27) dX8_isOfKind_26 rfl (by decide) ?_
        refine s_ireturn dX8_isOfKind_27 rfl (by decide +kernel) ?_
        exact k1 h23
    · dsimp only [m_push]
      exact absurd (wn_nI (n := 5) rfl (by omega) (by decide)) hb15
theorem en_X8_isOfKind {SL d : Nat} {Q : Option Int32 → m_G → Prop} {g : m_G} {own w x : Int32} (hQ : Q (some 0) g) : Sim SL (d + 1) yX8_isOfKind cX8_isOfKind 4 (some .boolean) 4 [.int own, .int w, .int (-1), .int x] [] g Q := by
  refine s_iload_n (n := 5) dX8_isOfKind_4 rfl rfl rfl ?_
  refine s_getstatic (k := 201) (n := 8) dX8_isOfKind_5 rfl (List.mem_of_getElem? (i := 0) rfl) fs_X8_312 ?_
  refine s_tlen (n := 9) dX8_isOfKind_8 rfl (List.mem_of_getElem? (i := 1) rfl) rfl ?_
  refine s_icmp_ge (n := 12) (t := 40) dX8_isOfKind_9 (by decide) rfl (fun h9 => ?_) (fun h9 => ?_)
  · refine s_iconst (v := 0) (n := 41) dX8_isOfKind_40 rfl (by decide) ?_
    refine s_ireturn dX8_isOfKind_41 rfl (by decide +kernel) ?_
    exact hQ
  · refine s_iload_n (n := 13) dX8_isOfKind_12 rfl rfl rfl ?_
    refine s_iconst (v := 0) (n := 14) dX8_isOfKind_13 rfl (by decide) ?_
    refine s_iconst (v := 5) (n := 15) dX8_isOfKind_14 rfl (by decide) ?_
    refine s_cs3 (n := 18) dX8_isOfKind_15 rfl mo_X8_within ml_X8_62 rfl (Nat.le_of_ble_eq_true rfl) (Nat.le_of_ble_eq_true rfl) (c_X8_within _ _ _ (fun hb15 => ?_) (fun hb15 => ?_))
    · dsimp only [m_push]
      exact absurd hb15 (by decide)
    · dsimp only [m_push]
      refine s_if_eq (n := 21) (t := 40) dX8_isOfKind_18 (by decide) rfl (fun _ => ?_) (fun h => absurd h (by decide))
      refine s_iconst (v := 0) (n := 41) dX8_isOfKind_40 rfl (by decide) ?_
      refine s_ireturn dX8_isOfKind_41 rfl (by decide +kernel) ?_
      exact hQ
theorem c_X8_isOfKind {SL : Nat} {d : Nat} {Q : Option Int32 → m_G → Prop} {g : m_G} (hK : K_S g) (own w : Int32) (ho : kOK own) (k1 : isOfP own w → Q (some 1) g) (k0 : ¬ (isOfP own w) → Q (some 0) g) : Sim SL (d + 1) yX8_isOfKind cX8_isOfKind 4 (some .boolean) 0 [.int own, .int w, .null, .null] [] g Q := by
  refine s_iload_n (n := 1) dX8_isOfKind_0 rfl rfl rfl ?_
  refine s_istore_n (n := 2) dX8_isOfKind_1 rfl rfl (by decide) rfl rfl ?_
  refine s_iconst (v := 0) (n := 3) dX8_isOfKind_2 rfl (by decide) ?_
  refine s_istore_n (n := 4) dX8_isOfKind_3 rfl rfl (by decide) rfl rfl ?_
  have e0 : g 201 0 = -1 := hK.1 0 (by decide)
  have e1 : g 201 1 = 0 := hK.1 1 (by decide)
  have e2 : g 201 2 = 1 := hK.1 2 (by decide)
  have e3 : g 201 3 = 1 := hK.1 3 (by decide)
  have e4 : g 201 4 = 0 := hK.1 4 (by decide)
  have e5 : g 201 5 = 4 := hK.1 5 (by decide)
  have F0 : ∀ i, i < 6 → (¬ w = 0 → Q (some 0) g) → Sim SL (d + 1) yX8_isOfKind cX8_isOfKind 4 (some .boolean) 4 [.int own, .int w, .int 0, .int (nI i)] [] g Q := fun i hi hq => st_X8_isOfKind 0 i (by decide) hi (fun h => k1 (Or.inl h.symm)) (fun h => by rw [e0]; exact en_X8_isOfKind (hq (fun q => h q.symm)))
  have F1 : ∀ i, i < 5 → (w = 1 → Q (some 1) g) → (¬ w = 0 → ¬ w = 1 → Q (some 0) g) → Sim SL (d + 1) yX8_isOfKind cX8_isOfKind 4 (some .boolean) 4 [.int own, .int w, .int 1, .int (nI i)] [] g Q := fun i hi hq1 hq => st_X8_isOfKind 1 i (by decide) (by omega) (fun h => hq1 h.symm) (fun h => by rw [e1]; exact F0 (i + 1) (by omega) (fun q => hq q (fun z => h z.symm)))
  have F4 : ∀ i, i < 5 → (w = 4 → Q (some 1) g) → (¬ w = 0 → ¬ w = 4 → Q (some 0) g) → Sim SL (d + 1) yX8_isOfKind cX8_isOfKind 4 (some .boolean) 4 [.int own, .int w, .int 4, .int (nI i)] [] g Q := fun i hi hq1 hq => st_X8_isOfKind 4 i (by decide) (by omega) (fun h => hq1 h.symm) (fun h => by rw [e4]; exact F0 (i + 1) (by omega) (fun q => hq q (fun z => h z.symm)))
  rcases ho with rfl | rfl | rfl | rfl | rfl
  · exact F1 0 (by decide) (fun h => k1 (Or.inr (Or.inl h))) (fun h1 h2 => k0 (by simp_all [isOfP]))
  · exact st_X8_isOfKind 2 0 (by decide) (by decide) (fun h => k1 (Or.inr (Or.inl h.symm))) (fun h => by
      rw [e2]
      exact F1 1 (by decide) (fun h => k1 (Or.inr (Or.inr (Or.inl ⟨h, Or.inl rfl⟩)))) (fun h1 h2 => k0 (isOfN h1 (fun q => h q.symm) (fun q => h2 q.1) (fun q => absurd q.2 (by decide)))))
  · exact st_X8_isOfKind 3 0 (by decide) (by decide) (fun h => k1 (Or.inr (Or.inl h.symm))) (fun h => by
      rw [e3]
      exact F1 1 (by decide) (fun h => k1 (Or.inr (Or.inr (Or.inl ⟨h, Or.inr rfl⟩)))) (fun h1 h2 => k0 (isOfN h1 (fun q => h q.symm) (fun q => h2 q.1) (fun q => absurd q.2 (by decide)))))
  · exact F4 0 (by decide) (fun h => k1 (Or.inr (Or.inl h))) (fun h1 h2 => k0 (by simp_all [isOfP]))
  · exact st_X8_isOfKind 5 0 (by decide) (by decide) (fun h => k1 (Or.inr (Or.inl h.symm))) (fun h => by
      rw [e5]
      exact F4 1 (by decide) (fun h => k1 (Or.inr (Or.inr (Or.inr ⟨h, rfl⟩)))) (fun h1 h2 => k0 (isOfN h1 (fun q => h q.symm) (fun q => absurd q.2 (by decide)) (fun q => h2 q.1))))
theorem c_X9_isOf {SL : Nat} {d : Nat} {Q : Option Int32 → m_G → Prop} {g : m_G} {t : m_T} (hT : TM g 0 t) (i : Nat) (hi : i < 6) (w : Int32) (k1 : isOfP (t (9 + i)) w → Q (some 1) g) (k0 : ¬ (isOfP (t (9 + i)) w) → Q (some 0) g) : Sim SL d yX9_isOf cX9_isOf 4 (some .boolean) 0 [.ref 78, .int (nI i), .int w, .null] [] g Q := by
  refine s_aload_n (n := 1) dX9_isOf_0 rfl rfl rfl ?_
  refine s_getr (k2 := 79) (n := 4) dX9_isOf_1 rfl fl_X9_7 rfl rfl rfl ?_
  refine s_bipush (v := 9) (n := 6) dX9_isOf_4 rfl (by decide) ?_
  refine s_iload_n (n := 7) dX9_isOf_6 rfl rfl rfl ?_
  refine s_iadd (n := 8) dX9_isOf_7 rfl ?_
  refine s_iaload (9 + i) (n := 9) dX9_isOf_8 rfl rfl (ix2m rfl) (by omega) ?_
  rw [hT.z (by omega)]
  generalize t (9 + i) = own at k1 k0 ⊢
  refine s_istore_n (n := 10) dX9_isOf_9 rfl rfl (by decide) rfl rfl ?_
  refine s_iload_n (n := 11) dX9_isOf_10 rfl rfl rfl ?_
  refine s_if_eq (n := 14) (t := 44) dX9_isOf_11 (by decide) rfl (fun h11 => ?_) (fun h11 => ?_)
  · refine s_iconst (v := 1) (n := 45) dX9_isOf_44 rfl (by decide) ?_
    refine s_goto (t := 49) dX9_isOf_45 (by decide) ?_
    refine s_ireturn dX9_isOf_49 rfl (by decide +kernel) ?_
    first | exact k1 (Or.inl h11) | exact k1 (Or.inr (Or.inl h16)) | exact k1 (Or.inr (Or.inr (Or.inl ⟨h21, Or.inl h26⟩))) | exact k1 (Or.inr (Or.inr (Or.inl ⟨h21, Or.inr h31⟩))) | exact k1 (Or.inr (Or.inr (Or.inr ⟨h36, h41⟩))) | exact k0 (isOfN h11 h16 (fun q => h21 q.1) (fun q => h36 q.1)) | exact k0 (isOfN h11 h16 (fun q => h21 q.1) (fun q => h41 q.2)) | exact k0 (isOfN h11 h16 (fun q => q.2.elim h26 h31) (fun q => h36 q.1)) | exact k0 (isOfN h11 h16 (fun q => q.2.elim h26 h31) (fun q => h41 q.2))
  · refine s_iload_n (n := 15) dX9_isOf_14 rfl rfl rfl ?_
    refine s_iload_n (n := 16) dX9_isOf_15 rfl rfl rfl ?_
    refine s_icmp_eq (n := 19) (t := 44) dX9_isOf_16 (by decide) rfl (fun h16 => ?_) (fun h16 => ?_)
    · refine s_iconst (v := 1) (n := 45) dX9_isOf_44 rfl (by decide) ?_
      refine s_goto (t := 49) dX9_isOf_45 (by decide) ?_
      refine s_ireturn dX9_isOf_49 rfl (by decide +kernel) ?_
      first | exact k1 (Or.inl h11) | exact k1 (Or.inr (Or.inl h16)) | exact k1 (Or.inr (Or.inr (Or.inl ⟨h21, Or.inl h26⟩))) | exact k1 (Or.inr (Or.inr (Or.inl ⟨h21, Or.inr h31⟩))) | exact k1 (Or.inr (Or.inr (Or.inr ⟨h36, h41⟩))) | exact k0 (isOfN h11 h16 (fun q => h21 q.1) (fun q => h36 q.1)) | exact k0 (isOfN h11 h16 (fun q => h21 q.1) (fun q => h41 q.2)) | exact k0 (isOfN h11 h16 (fun q => q.2.elim h26 h31) (fun q => h36 q.1)) | exact k0 (isOfN h11 h16 (fun q => q.2.elim h26 h31) (fun q => h41 q.2))
    · refine s_iload_n (n := 20) dX9_isOf_19 rfl rfl rfl ?_
      refine s_iconst (v := 1) (n := 21) dX9_isOf_20 rfl (by decide) ?_
      refine s_icmp_ne (n := 24) (t := 34) dX9_isOf_21 (by decide) rfl (fun h21 => ?_) (fun h21 => ?_)
      · refine s_iload_n (n := 35) dX9_isOf_34 rfl rfl rfl ?_
        refine s_iconst (v := 4) (n := 36) dX9_isOf_35 rfl (by decide) ?_
        refine s_icmp_ne (n := 39) (t := 48) dX9_isOf_36 (by decide) rfl (fun h36 => ?_) (fun h36 => ?_)
        · refine s_iconst (v := 0) (n := 49) dX9_isOf_48 rfl (by decide) ?_
          refine s_ireturn dX9_isOf_49 rfl (by decide +kernel) ?_
          first | exact k1 (Or.inl h11) | exact k1 (Or.inr (Or.inl h16)) | exact k1 (Or.inr (Or.inr (Or.inl ⟨h21, Or.inl h26⟩))) | exact k1 (Or.inr (Or.inr (Or.inl ⟨h21, Or.inr h31⟩))) | exact k1 (Or.inr (Or.inr (Or.inr ⟨h36, h41⟩))) | exact k0 (isOfN h11 h16 (fun q => h21 q.1) (fun q => h36 q.1)) | exact k0 (isOfN h11 h16 (fun q => h21 q.1) (fun q => h41 q.2)) | exact k0 (isOfN h11 h16 (fun q => q.2.elim h26 h31) (fun q => h36 q.1)) | exact k0 (isOfN h11 h16 (fun q => q.2.elim h26 h31) (fun q => h41 q.2))
        · refine s_iload_n (n := 40) dX9_isOf_39 rfl rfl rfl ?_
          refine s_iconst (v := 5) (n := 41) dX9_isOf_40 rfl (by decide) ?_
          refine s_icmp_ne (n := 44) (t := 48) dX9_isOf_41 (by decide) rfl (fun h41 => ?_) (fun h41 => ?_)
          · refine s_iconst (v := 0) (n := 49) dX9_isOf_48 rfl (by decide) ?_
            refine s_ireturn dX9_isOf_49 rfl (by decide +kernel) ?_
            first | exact k1 (Or.inl h11) | exact k1 (Or.inr (Or.inl h16)) | exact k1 (Or.inr (Or.inr (Or.inl ⟨h21, Or.inl h26⟩))) | exact k1 (Or.inr (Or.inr (Or.inl ⟨h21, Or.inr h31⟩))) | exact k1 (Or.inr (Or.inr (Or.inr ⟨h36, h41⟩))) | exact k0 (isOfN h11 h16 (fun q => h21 q.1) (fun q => h36 q.1)) | exact k0 (isOfN h11 h16 (fun q => h21 q.1) (fun q => h41 q.2)) | exact k0 (isOfN h11 h16 (fun q => q.2.elim h26 h31) (fun q => h36 q.1)) | exact k0 (isOfN h11 h16 (fun q => q.2.elim h26 h31) (fun q => h41 q.2))
          · refine s_iconst (v := 1) (n := 45) dX9_isOf_44 rfl (by decide) ?_
            refine s_goto (t := 49) dX9_isOf_45 (by decide) ?_
            refine s_ireturn dX9_isOf_49 rfl (by decide +kernel) ?_
            first | exact k1 (Or.inl h11) | exact k1 (Or.inr (Or.inl h16)) | exact k1 (Or.inr (Or.inr (Or.inl ⟨h21, Or.inl h26⟩))) | exact k1 (Or.inr (Or.inr (Or.inl ⟨h21, Or.inr h31⟩))) | exact k1 (Or.inr (Or.inr (Or.inr ⟨h36, h41⟩))) | exact k0 (isOfN h11 h16 (fun q => h21 q.1) (fun q => h36 q.1)) | exact k0 (isOfN h11 h16 (fun q => h21 q.1) (fun q => h41 q.2)) | exact k0 (isOfN h11 h16 (fun q => q.2.elim h26 h31) (fun q => h36 q.1)) | exact k0 (isOfN h11 h16 (fun q => q.2.elim h26 h31) (fun q => h41 q.2))
      · refine s_iload_n (n := 25) dX9_isOf_24 rfl rfl rfl ?_
        refine s_iconst (v := 2) (n := 26) dX9_isOf_25 rfl (by decide) ?_
        refine s_icmp_eq (n := 29) (t := 44) dX9_isOf_26 (by decide) rfl (fun h26 => ?_) (fun h26 => ?_)
        · refine s_iconst (v := 1) (n := 45) dX9_isOf_44 rfl (by decide) ?_
          refine s_goto (t := 49) dX9_isOf_45 (by decide) ?_
          refine s_ireturn dX9_isOf_49 rfl (by decide +kernel) ?_
          first | exact k1 (Or.inl h11) | exact k1 (Or.inr (Or.inl h16)) | exact k1 (Or.inr (Or.inr (Or.inl ⟨h21, Or.inl h26⟩))) | exact k1 (Or.inr (Or.inr (Or.inl ⟨h21, Or.inr h31⟩))) | exact k1 (Or.inr (Or.inr (Or.inr ⟨h36, h41⟩))) | exact k0 (isOfN h11 h16 (fun q => h21 q.1) (fun q => h36 q.1)) | exact k0 (isOfN h11 h16 (fun q => h21 q.1) (fun q => h41 q.2)) | exact k0 (isOfN h11 h16 (fun q => q.2.elim h26 h31) (fun q => h36 q.1)) | exact k0 (isOfN h11 h16 (fun q => q.2.elim h26 h31) (fun q => h41 q.2))
        · refine s_iload_n (n := 30) dX9_isOf_29 rfl rfl rfl ?_
          refine s_iconst (v := 3) (n := 31) dX9_isOf_30 rfl (by decide) ?_
          refine s_icmp_eq (n := 34) (t := 44) dX9_isOf_31 (by decide) rfl (fun h31 => ?_) (fun h31 => ?_)
          · refine s_iconst (v := 1) (n := 45) dX9_isOf_44 rfl (by decide) ?_
            refine s_goto (t := 49) dX9_isOf_45 (by decide) ?_
            refine s_ireturn dX9_isOf_49 rfl (by decide +kernel) ?_
            first | exact k1 (Or.inl h11) | exact k1 (Or.inr (Or.inl h16)) | exact k1 (Or.inr (Or.inr (Or.inl ⟨h21, Or.inl h26⟩))) | exact k1 (Or.inr (Or.inr (Or.inl ⟨h21, Or.inr h31⟩))) | exact k1 (Or.inr (Or.inr (Or.inr ⟨h36, h41⟩))) | exact k0 (isOfN h11 h16 (fun q => h21 q.1) (fun q => h36 q.1)) | exact k0 (isOfN h11 h16 (fun q => h21 q.1) (fun q => h41 q.2)) | exact k0 (isOfN h11 h16 (fun q => q.2.elim h26 h31) (fun q => h36 q.1)) | exact k0 (isOfN h11 h16 (fun q => q.2.elim h26 h31) (fun q => h41 q.2))
          · refine s_iload_n (n := 35) dX9_isOf_34 rfl rfl rfl ?_
            refine s_iconst (v := 4) (n := 36) dX9_isOf_35 rfl (by decide) ?_
            refine s_icmp_ne (n := 39) (t := 48) dX9_isOf_36 (by decide) rfl (fun h36 => ?_) (fun h36 => ?_)
            · refine s_iconst (v := 0) (n := 49) dX9_isOf_48 rfl (by decide) ?_
              refine s_ireturn dX9_isOf_49 rfl (by decide +kernel) ?_
              first | exact k1 (Or.inl h11) | exact k1 (Or.inr (Or.inl h16)) | exact k1 (Or.inr (Or.inr (Or.inl ⟨h21, Or.inl h26⟩))) | exact k1 (Or.inr (Or.inr (Or.inl ⟨h21, Or.inr h31⟩))) | exact k1 (Or.inr (Or.inr (Or.inr ⟨h36, h41⟩))) | exact k0 (isOfN h11 h16 (fun q => h21 q.1) (fun q => h36 q.1)) | exact k0 (isOfN h11 h16 (fun q => h21 q.1) (fun q => h41 q.2)) | exact k0 (isOfN h11 h16 (fun q => q.2.elim h26 h31) (fun q => h36 q.1)) | exact k0 (isOfN h11 h16 (fun q => q.2.elim h26 h31) (fun q => h41 q.2))
            · refine s_iload_n (n := 40) dX9_isOf_39 rfl rfl rfl ?_
              refine s_iconst (v := 5) (n := 41) dX9_isOf_40 rfl (by decide) ?_
              refine s_icmp_ne (n := 44) (t := 48) dX9_isOf_41 (by decide) rfl (fun h41 => ?_) (fun h41 => ?_)
              · refine s_iconst (v := 0) (n := 49) dX9_isOf_48 rfl (by decide) ?_
                refine s_ireturn dX9_isOf_49 rfl (by decide +kernel) ?_
                first | exact k1 (Or.inl h11) | exact k1 (Or.inr (Or.inl h16)) | exact k1 (Or.inr (Or.inr (Or.inl ⟨h21, Or.inl h26⟩))) | exact k1 (Or.inr (Or.inr (Or.inl ⟨h21, Or.inr h31⟩))) | exact k1 (Or.inr (Or.inr (Or.inr ⟨h36, h41⟩))) | exact k0 (isOfN h11 h16 (fun q => h21 q.1) (fun q => h36 q.1)) | exact k0 (isOfN h11 h16 (fun q => h21 q.1) (fun q => h41 q.2)) | exact k0 (isOfN h11 h16 (fun q => q.2.elim h26 h31) (fun q => h36 q.1)) | exact k0 (isOfN h11 h16 (fun q => q.2.elim h26 h31) (fun q => h41 q.2))
              · refine s_iconst (v := 1) (n := 45) dX9_isOf_44 rfl (by decide) ?_
                refine s_goto (t := 49) dX9_isOf_45 (by decide) ?_
                refine s_ireturn dX9_isOf_49 rfl (by decide +kernel) ?_
                first | exact k1 (Or.inl h11) | exact k1 (Or.inr (Or.inl h16)) | exact k1 (Or.inr (Or.inr (Or.inl ⟨h21, Or.inl h26⟩))) | exact k1 (Or.inr (Or.inr (Or.inl ⟨h21, Or.inr h31⟩))) | exact k1 (Or.inr (Or.inr (Or.inr ⟨h36, h41⟩))) | exact k0 (isOfN h11 h16 (fun q => h21 q.1) (fun q => h36 q.1)) | exact k0 (isOfN h11 h16 (fun q => h21 q.1) (fun q => h41 q.2)) | exact k0 (isOfN h11 h16 (fun q => q.2.elim h26 h31) (fun q => h36 q.1)) | exact k0 (isOfN h11 h16 (fun q => q.2.elim h26 h31) (fun q => h41 q.2))
theorem a_OK.kd {a : a_S} (h : a_OK a) {i : Nat} (hi : i < 6) (hc : ¬ a_H a 1 ≤ nI i) : kOK (a_H a (9 + i)) := by
  unfold a_H a_T at *
  cases hh : a_hill a with
  | none => rw [hh] at hc; exact absurd (nI_pos' (by omega)) hc
  | some t => rw [hh] at hc; exact ((h.1 t hh).2.2.2.2.2.2.2.2 i hi hc).1
theorem C_as {SL : Nat} {d : Nat} {Q : Option Int32 → m_G → Prop} {g : m_G} {a : a_S} (hA : a_OK a) (hC : C_R g a) (hK : K_S g) (h k : Int32) (hQ : E_C g a Q (sp_as a h k)) : Sim SL (d + 2) yX8_as cX8_as 3 (some .int) 0 [.ref 0, .int h, .int k] [] g Q := by
  unfold E_C sp_as at hQ
  have hT : TW g 28 (a_H a) := hC.2.2.1.2
  refine s_aload_n (n := 1) dX8_as_0 rfl rfl rfl ?_
  refine s_iload_n (n := 2) dX8_as_1 rfl rfl rfl ?_
  refine s_cv1 (n := 5) dX8_as_2 rfl mo_X8_isHouse ml_X8_153 rfl (by decide) rfl rfl (Nat.le_of_ble_eq_true rfl) (Nat.le_of_ble_eq_true rfl) (c_X8_isHouse hT _ (fun hb2 => ?_) (fun hb2 => ?_))
  · dsimp only [m_push]
    refine s_if_eq (n := 8) (t := 17) dX8_as_5 (by decide) rfl (fun h => absurd h (by decide)) (fun _ => ?_)
    refine s_iload_n (n := 9) dX8_as_8 rfl rfl rfl ?_
    refine s_iconst (v := 0) (n := 10) dX8_as_9 rfl (by decide) ?_
    refine s_iconst (v := 5) (n := 11) dX8_as_10 rfl (by decide) ?_
    refine s_cs3 (n := 14) dX8_as_11 rfl mo_X8_within ml_X8_62 rfl (Nat.le_of_ble_eq_true rfl) (Nat.le_of_ble_eq_true rfl) (c_X8_within _ _ _ (fun hb11 => ?_) (fun hb11 => ?_))
    · dsimp only [m_push]
      refine s_if_ne (n := 17) (t := 20) dX8_as_14 (by decide) rfl (fun _ => ?_) (fun h => absurd h (by decide))
      obtain ⟨i, hi, rfl, hci⟩ := isH_ex hA.cnt hb2
      have hh := hT.2 i hi hci
      rw [nI_clamp (show i < 2 ^ 31 by omega)] at hQ
      refine s_aload_n (n := 21) dX8_as_20 rfl rfl rfl ?_
      refine s_getr (k2 := 28) (n := 24) dX8_as_21 rfl fl_X8_25 rfl rfl rfl ?_
      refine s_getr (k2 := 29) (n := 27) dX8_as_24 rfl fl_X8_169 rfl rfl rfl ?_
      refine s_iload_n (n := 28) dX8_as_27 rfl rfl rfl ?_
      refine s_aaload (k2 := 32 + i) (t := 0) i (n := 29) dX8_as_28 rfl rfl (by decide) rfl hi rfl ?_
      refine s_geti (n := 32) dX8_as_29 rfl fl_X8_283 rfl (hbh hb28 hi) ?_
      rw [hh.1]
      refine s_iload_n (n := 33) dX8_as_32 rfl rfl rfl ?_
      refine s_cs2 (n := 36) dX8_as_33 rfl mo_X8_isOfKind ml_X8_286 rfl (Nat.le_of_ble_eq_true rfl) (Nat.le_of_ble_eq_true rfl) (c_X8_isOfKind hK _ _ (hA.kd hi hci) (fun hb33 => ?_) (fun hb33 => ?_))
      · dsimp only [m_push]
        refine s_if_eq (n := 39) (t := 47) dX8_as_36 (by decide) rfl (fun h => absurd h (by decide)) (fun _ => ?_)
        refine s_aload_n (n := 40) dX8_as_39 rfl rfl rfl ?_
        refine s_iload_n (n := 41) dX8_as_40 rfl rfl rfl ?_
        refine s_cv1 (n := 44) dX8_as_41 rfl mo_X8_fine ml_X8_75 rfl (by decide) rfl rfl (Nat.le_of_ble_eq_true rfl) (Nat.le_of_ble_eq_true rfl) (c_X8_fine _ ?_)
        dsimp only [m_push]
        refine s_goto (t := 52) dX8_as_44 (by decide) ?_
        refine s_ireturn dX8_as_52 rfl rfl ?_
        simp only [if_pos hb2, if_pos hb11, if_pos hb33] at hQ
        first | exact hQ _ (hC.find 0) (fun k hk => m_up_o (by omega)) | (rw [show (-1000010 : Int32) - 3 = -1000013 from by decide]; exact hQ _ (hC.find _) (fun k hk => m_up_o (by omega)))
      · dsimp only [m_push]
        refine s_if_eq (n := 39) (t := 47) dX8_as_36 (by decide) rfl (fun _ => ?_) (fun h => absurd h (by decide))
        refine s_aload_n (n := 48) dX8_as_47 rfl rfl rfl ?_
        refine s_iconst (v := 3) (n := 49) dX8_as_48 rfl (by decide) ?_
        refine s_cv1 (n := 52) dX8_as_49 rfl mo_X8_found ml_X8_67 rfl (by decide) rfl rfl (Nat.le_of_ble_eq_true rfl) (Nat.le_of_ble_eq_true rfl) (c_X8_found _ ?_)
        dsimp only [m_push]
        refine s_ireturn dX8_as_52 rfl rfl ?_
        simp only [if_pos hb2, if_pos hb11, if_neg hb33] at hQ
        first | exact hQ _ (hC.find 0) (fun k hk => m_up_o (by omega)) | (rw [show (-1000010 : Int32) - 3 = -1000013 from by decide]; exact hQ _ (hC.find _) (fun k hk => m_up_o (by omega)))
    · dsimp only [m_push]
      refine s_if_ne (n := 17) (t := 20) dX8_as_14 (by decide) rfl (fun h => absurd h (by decide)) (fun _ => ?_)
      refine s_ldc (n := 19) dX8_as_17 rfl kc_X8_66 ?_
      refine s_ireturn dX8_as_19 rfl rfl ?_
      simp only [if_pos hb2, if_neg hb11] at hQ
      exact hQ g hC F_C.rf
  · dsimp only [m_push]
    refine s_if_eq (n := 8) (t := 17) dX8_as_5 (by decide) rfl (fun _ => ?_) (fun h => absurd h (by decide))
    refine s_ldc (n := 19) dX8_as_17 rfl kc_X8_66 ?_
    refine s_ireturn dX8_as_19 rfl rfl ?_
    simp only [if_neg hb2] at hQ
    exact hQ g hC F_C.rf
theorem M_as {SL : Nat} {d : Nat} {Q : Option Int32 → m_G → Prop} {g : m_G} {a : a_S} (hA : a_OK a) (hM : M_R g a) (h k : Int32) (hQ : E_M g a Q (sp_as a h k)) : Sim SL (d + 2) yX9_as cX9_as 3 (some .int) 0 [.ref 78, .int h, .int k] [] g Q := by
  unfold E_M sp_as at hQ
  have hT : TM g 0 (a_H a) := hM.2.2.1.2
  refine s_aload_n (n := 1) dX9_as_0 rfl rfl rfl ?_
  refine s_iload_n (n := 2) dX9_as_1 rfl rfl rfl ?_
  refine s_cv1 (n := 5) dX9_as_2 rfl mo_X9_isHouse ml_X9_193 rfl (by decide) rfl rfl (Nat.le_of_ble_eq_true rfl) (Nat.le_of_ble_eq_true rfl) (c_X9_isHouse hT _ (fun hb2 => ?_) (fun hb2 => ?_))
  · dsimp only [m_push]
    refine s_if_eq (n := 8) (t := 20) dX9_as_5 (by decide) rfl (fun h => absurd h (by decide)) (fun _ => ?_)
    refine s_iload_n (n := 9) dX9_as_8 rfl rfl rfl ?_
    refine s_i2l (n := 10) dX9_as_9 rfl ?_
    refine s_lconst (v := 0) (n := 11) dX9_as_10 rfl (by decide) ?_
    refine s_ldc2 (n := 14) dX9_as_11 rfl kc_X9_251 ?_
    refine s_cs3 (n := 17) dX9_as_14 rfl mo_X9_in ml_X9_60 rfl (Nat.le_of_ble_eq_true rfl) (Nat.le_of_ble_eq_true rfl) (c_X9_in (0) (5) rfl (by decide) (by decide) (fun hb14 => ?_) (fun hb14 => ?_))
    · dsimp only [m_push]
      refine s_if_ne (n := 20) (t := 23) dX9_as_17 (by decide) rfl (fun _ => ?_) (fun h => absurd h (by decide))
      obtain ⟨i, hi, rfl, hci⟩ := isH_ex hA.cnt hb2
      rw [nI_clamp (show i < 2 ^ 31 by omega)] at hQ
      refine s_aload_n (n := 24) dX9_as_23 rfl rfl rfl ?_
      refine s_iload_n (n := 25) dX9_as_24 rfl rfl rfl ?_
      refine s_iload_n (n := 26) dX9_as_25 rfl rfl rfl ?_
      refine s_cv2 (n := 29) dX9_as_26 rfl mo_X9_isOf ml_X9_253 rfl (by decide) rfl rfl (Nat.le_of_ble_eq_true rfl) (Nat.le_of_ble_eq_true rfl) (c_X9_isOf hT i hi _ (fun hb26 => ?_) (fun hb26 => ?_))
      · dsimp only [m_push]
        refine s_if_eq (n := 32) (t := 40) dX9_as_29 (by decide) rfl (fun h => absurd h (by decide)) (fun _ => ?_)
        refine s_aload_n (n := 33) dX9_as_32 rfl rfl rfl ?_
        refine s_iload_n (n := 34) dX9_as_33 rfl rfl rfl ?_
        refine s_cv1 (n := 37) dX9_as_34 rfl mo_X9_well ml_X9_75 rfl (by decide) rfl rfl (Nat.le_of_ble_eq_true rfl) (Nat.le_of_ble_eq_true rfl) (c_X9_well _ ?_)
        dsimp only [m_push]
        refine s_goto (t := 45) dX9_as_37 (by decide) ?_
        refine s_ireturn dX9_as_45 rfl rfl ?_
        simp only [if_pos hb2, if_pos hb14, if_pos hb26] at hQ
        first | exact hQ _ (hM.find 0) ((m_fr.up (S := [78]) (by simp)).FM (by decide)) | (rw [show (-1000010 : Int32) - 3 = -1000013 from by decide]; exact hQ _ (hM.find _) ((m_fr.up (S := [78]) (by simp)).FM (by decide)))
      · dsimp only [m_push]
        refine s_if_eq (n := 32) (t := 40) dX9_as_29 (by decide) rfl (fun _ => ?_) (fun h => absurd h (by decide))
        refine s_aload_n (n := 41) dX9_as_40 rfl rfl rfl ?_
        refine s_iconst (v := 3) (n := 42) dX9_as_41 rfl (by decide) ?_
        refine s_cv1 (n := 45) dX9_as_42 rfl mo_X9_find ml_X9_71 rfl (by decide) rfl rfl (Nat.le_of_ble_eq_true rfl) (Nat.le_of_ble_eq_true rfl) (c_X9_find _ ?_)
        dsimp only [m_push]
        refine s_ireturn dX9_as_45 rfl rfl ?_
        simp only [if_pos hb2, if_pos hb14, if_neg hb26] at hQ
        first | exact hQ _ (hM.find 0) ((m_fr.up (S := [78]) (by simp)).FM (by decide)) | (rw [show (-1000010 : Int32) - 3 = -1000013 from by decide]; exact hQ _ (hM.find _) ((m_fr.up (S := [78]) (by simp)).FM (by decide)))
    · dsimp only [m_push]
      refine s_if_ne (n := 20) (t := 23) dX9_as_17 (by decide) rfl (fun h => absurd h (by decide)) (fun _ => ?_)
      refine s_ldc (n := 22) dX9_as_20 rfl kc_X9_70 ?_
      refine s_ireturn dX9_as_22 rfl rfl ?_
      simp only [if_pos hb2, if_neg hb14] at hQ
      exact hQ g hM F_M.rf
  · dsimp only [m_push]
    refine s_if_eq (n := 8) (t := 20) dX9_as_5 (by decide) rfl (fun _ => ?_) (fun h => absurd h (by decide))
    refine s_ldc (n := 22) dX9_as_20 rfl kc_X9_70 ?_
    refine s_ireturn dX9_as_22 rfl rfl ?_
    simp only [if_neg hb2] at hQ
    exact hQ g hM F_M.rf
def rcF (f : Nat → a_R) : Nat → Int32
  | 0 => 0
  | n + 1 => rcF f n + (if (f n).isSome then 1 else 0)
def goF (t : m_T) : Nat → Nat → Int32 → Int32
  | 0, _, x => x
  | n + 1, i, x => if t 1 ≤ nI i then x else goF t n (i + 1) (x + t (33 + i))
def sp_count (a : a_S) (w : Int32) : Int32 × a_S := (if w = 0 then rcF (a_rows a) 8 else if w = 1 then a_H a 0 else if w = 2 then a_H a 1 else if w = 3 then a_H a 7 else if w = 4 then a_H a 8 else if w = 5 then ire (a_H a 2 + a_H a 3 * a_H a 7) 7 else if w = 6 then nI (a_past a).length else if w = 7 then nI (a_tape a).1 else if w = 8 then a_H a 4 else if w = 9 then goF (a_H a) 6 0 0 else -1000001, a)
theorem lp_X8_rowsThere {SL d : Nat} {Q : Option Int32 → m_G → Prop} {g : m_G} {f : Nat → a_R} (hC : ∀ r, r < 8 → C_w g r (f r)) : ∀ (n i : Nat) (x5 : Value), i + n = 8 → Q (some (rcF f 8)) g → Sim SL d yX8_rowsThere cX8_rowsThere 6 (some .int) 13 [.ref 0, .int (rcF f i), .ref 1, .int 8, .int (nI i), x5] [] g Q := by
  intro n
  induction n with
  | zero =>
    intro i x5 hin hQ
    have hi : i = 8 := by omega
    subst hi
    refine s_iload (n := 15) dX8_rowsThere_13 rfl rfl ?_
    refine s_iload_n (n := 16) dX8_rowsThere_15 rfl rfl rfl ?_
    refine s_icmp_ge (n := 19) (t := 42) dX8_rowsThere_16 (by decide) rfl (fun h16 => ?_) (fun h16 => ?_)
    · refine s_iload_n (n := 43) dX8_rowsThere_42 rfl rfl rfl ?_
      refine s_ireturn dX8_rowsThere_43 rfl rfl ?_
      exact hQ
    · exact absurd (by decide) h16
  | succ n ih =>
    intro i x5 hin hQ
    have hi : i < 8 := by omega
    refine s_iload (n := 15) dX8_rowsThere_13 rfl rfl ?_
    refine s_iload_n (n := 16) dX8_rowsThere_15 rfl rfl rfl ?_
    refine s_icmp_ge (n := 19) (t := 42) dX8_rowsThere_16 (by decide) rfl (fun h16 => ?_) (fun h16 => ?_)
    · exact absurd h16 (nI_ge hi (by decide))
    · refine s_aload_n (n := 20) dX8_rowsThere_19 rfl rfl rfl ?_
      refine s_iload (n := 22) dX8_rowsThere_20 rfl rfl ?_
      refine s_aaload (k2 := 2 + i) (t := 1) i (n := 23) dX8_rowsThere_22 rfl rfl (by decide) rfl hi rfl ?_
      refine s_astore (n := 25) dX8_rowsThere_23 rfl (by decide) rfl rfl ?_
      refine s_aload (n := 27) dX8_rowsThere_25 rfl rfl ?_
      refine s_geti (n := 30) dX8_rowsThere_27 rfl fl_X8_78 rfl (rw0 hi) ?_
      refine s_if_ne (n := 33) (t := 36) dX8_rowsThere_30 (by decide) rfl (fun h30 => ?_) (fun h30 => ?_)
      · refine s_iinc (n := 39) (v := nI (i + 1)) dX8_rowsThere_36 rfl (by decide) rfl rfl (nI_1 i) rfl ?_
        refine s_goto (t := 13) dX8_rowsThere_39 (by decide) ?_
        first
        | exact ih (i + 1) _ (by omega) hQ
        | (have hs0 : rcF f (i + 1) = rcF f i := by
             show rcF f i + _ = _
             have := hC i hi
             cases hfi : f i with
             | none => simp
             | some q => rw [hfi] at this; exact absurd this.1 h30
           have := ih (i + 1) (.ref (2 + i)) (by omega) hQ
           rw [hs0] at this
           exact this)
      · have hs1 : (if (f i).isSome then (1 : Int32) else 0) = 1 := by
          have := hC i hi
          cases hfi : f i with
          | none => rw [hfi] at this; exact absurd (show g (2 + i) 1 = 1 from this) (by rw [h30]; decide)
          | some q => rfl
        refine s_iinc (n := 36) (v := rcF f (i + 1)) dX8_rowsThere_33 rfl (by decide) rfl rfl (by show _ = rcF f i + _; rw [hs1]; rfl) rfl ?_
        refine s_iinc (n := 39) (v := nI (i + 1)) dX8_rowsThere_36 rfl (by decide) rfl rfl (nI_1 i) rfl ?_
        refine s_goto (t := 13) dX8_rowsThere_39 (by decide) ?_
        first
        | exact ih (i + 1) _ (by omega) hQ
        | (have hs0 : rcF f (i + 1) = rcF f i := by
             show rcF f i + _ = _
             have := hC i hi
             cases hfi : f i with
             | none => simp
             | some q => rw [hfi] at this; exact absurd this.1 h30
           have := ih (i + 1) (.ref (2 + i)) (by omega) hQ
           rw [hs0] at this
           exact this)
theorem c_X8_rowsThere {SL : Nat} {d : Nat} {Q : Option Int32 → m_G → Prop} {g : m_G} {f : Nat → a_R} (hC : ∀ r, r < 8 → C_w g r (f r)) (hQ : Q (some (rcF f 8)) g) : Sim SL d yX8_rowsThere cX8_rowsThere 6 (some .int) 0 [.ref 0, .null, .null, .null, .null, .null] [] g Q := by
  refine s_iconst (v := 0) (n := 1) dX8_rowsThere_0 rfl (by decide) ?_
  refine s_istore_n (n := 2) dX8_rowsThere_1 rfl rfl (by decide) rfl rfl ?_
  refine s_aload_n (n := 3) dX8_rowsThere_2 rfl rfl rfl ?_
  refine s_getr (k2 := 1) (n := 6) dX8_rowsThere_3 rfl fl_X8_11 rfl rfl rfl ?_
  refine s_astore_n (n := 7) dX8_rowsThere_6 rfl rfl (by decide) rfl rfl ?_
  refine s_aload_n (n := 8) dX8_rowsThere_7 rfl rfl rfl ?_
  refine s_alenq (t := 1) (n := 9) dX8_rowsThere_8 rfl rfl (by decide) rfl ?_
  refine s_istore_n (n := 10) dX8_rowsThere_9 rfl rfl (by decide) rfl rfl ?_
  refine s_iconst (v := 0) (n := 11) dX8_rowsThere_10 rfl (by decide) ?_
  refine s_istore (n := 13) dX8_rowsThere_11 rfl (by decide) rfl rfl ?_
  exact lp_X8_rowsThere hC 8 0 _ rfl hQ
theorem lp_X1_allGot {SL d : Nat} {Q : Option Int32 → m_G → Prop} {g : m_G} {k : Nat} (hk : m_hb k) {t : m_T} (hT : TW g k t) (hc : t 1 ≤ 6) : ∀ (n i : Nat) (x : Int32), i + n = 6 → Q (some (goF t n i x)) g → Sim SL d yX1_allGot cX1_allGot 3 (some .int) 4 [.ref k, .int x, .int (nI i)] [] g Q := by
  intro n
  induction n with
  | zero =>
    intro i x hin hQ
    have hi : i = 6 := by omega
    subst hi
    refine s_iload_n (n := 5) dX1_allGot_4 rfl rfl rfl ?_
    refine s_aload_n (n := 6) dX1_allGot_5 rfl rfl rfl ?_
    refine s_geti (n := 9) dX1_allGot_6 rfl fl_X1_51 rfl (hb0 hk) ?_
    rw [hT.1.2.1]
    refine s_icmp_ge (n := 12) (t := 30) dX1_allGot_9 (by decide) rfl (fun h9 => ?_) (fun h9 => ?_)
    · refine s_iload_n (n := 31) dX1_allGot_30 rfl rfl rfl ?_
      refine s_ireturn dX1_allGot_31 rfl rfl ?_
      exact hQ
    · exact absurd hc h9
  | succ n ih =>
    intro i x hin hQ
    have hi6 : i < 6 := by omega
    refine s_iload_n (n := 5) dX1_allGot_4 rfl rfl rfl ?_
    refine s_aload_n (n := 6) dX1_allGot_5 rfl rfl rfl ?_
    refine s_geti (n := 9) dX1_allGot_6 rfl fl_X1_51 rfl (hb0 hk) ?_
    rw [hT.1.2.1]
    unfold goF at hQ
    refine s_icmp_ge (n := 12) (t := 30) dX1_allGot_9 (by decide) rfl (fun h9 => ?_) (fun h9 => ?_)
    · refine s_iload_n (n := 31) dX1_allGot_30 rfl rfl rfl ?_
      refine s_ireturn dX1_allGot_31 rfl rfl ?_
      rw [if_pos h9] at hQ
      exact hQ
    · refine s_iload_n (n := 13) dX1_allGot_12 rfl rfl rfl ?_
      refine s_aload_n (n := 14) dX1_allGot_13 rfl rfl rfl ?_
      refine s_getr (k2 := k + 1) (n := 17) dX1_allGot_14 rfl fl_X1_11 rfl (hb0 hk) rfl ?_
      refine s_iload_n (n := 18) dX1_allGot_17 rfl rfl rfl ?_
      refine s_aaload (k2 := k + 4 + i) (t := 0) i (n := 19) dX1_allGot_18 rfl (hb1 hk) (by decide) rfl hi6 rfl ?_
      refine s_geti (n := 22) dX1_allGot_19 rfl fl_X1_71 rfl (hbh hk hi6) ?_
      rw [(hT.2 i hi6 h9).2.2.2.2]
      refine s_iadd (n := 23) dX1_allGot_22 rfl ?_
      refine s_istore_n (n := 24) dX1_allGot_23 rfl rfl (by decide) rfl rfl ?_
      refine s_iinc (n := 27) (v := nI (i + 1)) dX1_allGot_24 rfl (by decide) rfl rfl (nI_1 i) rfl ?_
      refine s_goto (t := 4) dX1_allGot_27 (by decide) ?_
      rw [if_neg h9] at hQ
      exact ih (i + 1) _ (by omega) hQ
theorem c_X1_allGot {SL : Nat} {d : Nat} {Q : Option Int32 → m_G → Prop} {g : m_G} {k : Nat} (hk : m_hb k) {t : m_T} (hT : TW g k t) (hc : t 1 ≤ 6) (hQ : Q (some (goF t 6 0 0)) g) : Sim SL d yX1_allGot cX1_allGot 3 (some .int) 0 [.ref k, .null, .null] [] g Q := by
  refine s_iconst (v := 0) (n := 1) dX1_allGot_0 rfl (by decide) ?_
  refine s_istore_n (n := 2) dX1_allGot_1 rfl rfl (by decide) rfl rfl ?_
  refine s_iconst (v := 0) (n := 3) dX1_allGot_2 rfl (by decide) ?_
  refine s_istore_n (n := 4) dX1_allGot_3 rfl rfl (by decide) rfl rfl ?_
  exact lp_X1_allGot hk hT hc 6 0 0 rfl hQ
theorem lp_X9_gotByAll {SL d : Nat} {Q : Option Int32 → m_G → Prop} {g : m_G} {t : m_T} (hT : TM g 0 t) (hc : t 1 ≤ 6) : ∀ (n i : Nat) (x : Int32), i + n = 6 → Q (some (goF t n i x)) g → Sim SL d yX9_gotByAll cX9_gotByAll 3 (some .int) 4 [.ref 78, .int x, .int (nI i)] [] g Q := by
  intro n
  induction n with
  | zero =>
    intro i x hin hQ
    have hi : i = 6 := by omega
    subst hi
    refine s_iload_n (n := 5) dX9_gotByAll_4 rfl rfl rfl ?_
    refine s_aload_n (n := 6) dX9_gotByAll_5 rfl rfl rfl ?_
    refine s_getr (k2 := 79) (n := 9) dX9_gotByAll_6 rfl fl_X9_7 rfl rfl rfl ?_
    refine s_iconst (v := 1) (n := 10) dX9_gotByAll_9 rfl (by decide) ?_
    refine s_iaload 1 (n := 11) dX9_gotByAll_10 rfl rfl rfl (by decide) ?_
    rw [hT.z (by decide)]
    refine s_icmp_ge (n := 14) (t := 32) dX9_gotByAll_11 (by decide) rfl (fun h11 => ?_) (fun h11 => ?_)
    · refine s_iload_n (n := 33) dX9_gotByAll_32 rfl rfl rfl ?_
      refine s_ireturn dX9_gotByAll_33 rfl rfl ?_
      exact hQ
    · exact absurd hc h11
  | succ n ih =>
    intro i x hin hQ
    have hi6 : i < 6 := by omega
    refine s_iload_n (n := 5) dX9_gotByAll_4 rfl rfl rfl ?_
    refine s_aload_n (n := 6) dX9_gotByAll_5 rfl rfl rfl ?_
    refine s_getr (k2 := 79) (n := 9) dX9_gotByAll_6 rfl fl_X9_7 rfl rfl rfl ?_
    refine s_iconst (v := 1) (n := 10) dX9_gotByAll_9 rfl (by decide) ?_
    refine s_iaload 1 (n := 11) dX9_gotByAll_10 rfl rfl rfl (by decide) ?_
    rw [hT.z (by decide)]
    unfold goF at hQ
    refine s_icmp_ge (n := 14) (t := 32) dX9_gotByAll_11 (by decide) rfl (fun h11 => ?_) (fun h11 => ?_)
    · refine s_iload_n (n := 33) dX9_gotByAll_32 rfl rfl rfl ?_
      refine s_ireturn dX9_gotByAll_33 rfl rfl ?_
      rw [if_pos h11] at hQ
      exact hQ
    · refine s_iload_n (n := 15) dX9_gotByAll_14 rfl rfl rfl ?_
      refine s_aload_n (n := 16) dX9_gotByAll_15 rfl rfl rfl ?_
      refine s_getr (k2 := 79) (n := 19) dX9_gotByAll_16 rfl fl_X9_7 rfl rfl rfl ?_
      refine s_bipush (v := 33) (n := 21) dX9_gotByAll_19 rfl (by decide) ?_
      refine s_iload_n (n := 22) dX9_gotByAll_21 rfl rfl rfl ?_
      refine s_iadd (n := 23) dX9_gotByAll_22 rfl ?_
      refine s_iaload (33 + i) (n := 24) dX9_gotByAll_23 rfl rfl (ix2m rfl) (by omega) ?_
      rw [hT.z (by omega)]
      refine s_iadd (n := 25) dX9_gotByAll_24 rfl ?_
      refine s_istore_n (n := 26) dX9_gotByAll_25 rfl rfl (by decide) rfl rfl ?_
      refine s_iinc (n := 29) (v := nI (i + 1)) dX9_gotByAll_26 rfl (by decide) rfl rfl (nI_1 i) rfl ?_
      refine s_goto (t := 4) dX9_gotByAll_29 (by decide) ?_
      rw [if_neg h11] at hQ
      exact ih (i + 1) _ (by omega) hQ
theorem c_X9_gotByAll {SL : Nat} {d : Nat} {Q : Option Int32 → m_G → Prop} {g : m_G} {t : m_T} (hT : TM g 0 t) (hc : t 1 ≤ 6) (hQ : Q (some (goF t 6 0 0)) g) : Sim SL d yX9_gotByAll cX9_gotByAll 3 (some .int) 0 [.ref 78, .null, .null] [] g Q := by
  refine s_iconst (v := 0) (n := 1) dX9_gotByAll_0 rfl (by decide) ?_
  refine s_istore_n (n := 2) dX9_gotByAll_1 rfl rfl (by decide) rfl rfl ?_
  refine s_iconst (v := 0) (n := 3) dX9_gotByAll_2 rfl (by decide) ?_
  refine s_istore_n (n := 4) dX9_gotByAll_3 rfl rfl (by decide) rfl rfl ?_
  exact lp_X9_gotByAll hT hc 6 0 0 rfl hQ
theorem C_count {SL : Nat} {d : Nat} {Q : Option Int32 → m_G → Prop} {g : m_G} {a : a_S} (hA : a_OK a) (hC : C_R g a) (w : Int32) (hQ : E_C g a Q (sp_count a w)) : Sim SL (d + 2) yX8_count cX8_count 2 (some .int) 0 [.ref 0, .int w] [] g Q := by
  unfold E_C sp_count at hQ
  have hT : TW g 28 (a_H a) := hC.2.2.1.2
  refine s_iload_n (n := 1) dX8_count_0 rfl rfl rfl ?_
  by_cases hs1_0 : w = 0
  · rw [hs1_0]
    refine s_tsw_in (t := 56) dX8_count_1 (by decide) (by decide) rfl (by decide) ?_
    refine s_aload_n (n := 57) dX8_count_56 rfl rfl rfl ?_
    refine s_cv0 (n := 60) dX8_count_57 rfl mo_X8_rowsThere ml_X8_297 rfl (by decide) rfl rfl (Nat.le_of_ble_eq_true rfl) (Nat.le_of_ble_eq_true rfl) (c_X8_rowsThere hC.1 ?_)
    dsimp only [m_push]
    refine s_ireturn dX8_count_60 rfl rfl ?_
    simp only [if_pos hs1_0] at hQ
    exact hQ g hC F_C.rf
  by_cases hs1_1 : w = 1
  · rw [hs1_1]
    refine s_tsw_in (t := 61) dX8_count_1 (by decide) (by decide) rfl (by decide) ?_
    refine s_aload_n (n := 62) dX8_count_61 rfl rfl rfl ?_
    refine s_getr (k2 := 28) (n := 65) dX8_count_62 rfl fl_X8_25 rfl rfl rfl ?_
    refine s_geti (n := 68) dX8_count_65 rfl fl_X8_202 rfl rfl ?_
    rw [hT.1.1]
    refine s_ireturn dX8_count_68 rfl rfl ?_
    simp only [if_pos hs1_1, if_neg hs1_0] at hQ
    exact hQ g hC F_C.rf
  by_cases hs1_2 : w = 2
  · rw [hs1_2]
    refine s_tsw_in (t := 69) dX8_count_1 (by decide) (by decide) rfl (by decide) ?_
    refine s_aload_n (n := 70) dX8_count_69 rfl rfl rfl ?_
    refine s_getr (k2 := 28) (n := 73) dX8_count_70 rfl fl_X8_25 rfl rfl rfl ?_
    refine s_geti (n := 76) dX8_count_73 rfl fl_X8_132 rfl rfl ?_
    rw [hT.1.2.1]
    refine s_ireturn dX8_count_76 rfl rfl ?_
    simp only [if_pos hs1_2, if_neg hs1_0, if_neg hs1_1] at hQ
    exact hQ g hC F_C.rf
  by_cases hs1_3 : w = 3
  · rw [hs1_3]
    refine s_tsw_in (t := 77) dX8_count_1 (by decide) (by decide) rfl (by decide) ?_
    refine s_aload_n (n := 78) dX8_count_77 rfl rfl rfl ?_
    refine s_getr (k2 := 28) (n := 81) dX8_count_78 rfl fl_X8_25 rfl rfl rfl ?_
    refine s_geti (n := 84) dX8_count_81 rfl fl_X8_139 rfl rfl ?_
    rw [hT.1.2.2.2.2.2.2.2.1]
    refine s_ireturn dX8_count_84 rfl rfl ?_
    simp only [if_pos hs1_3, if_neg hs1_0, if_neg hs1_1, if_neg hs1_2] at hQ
    exact hQ g hC F_C.rf
  by_cases hs1_4 : w = 4
  · rw [hs1_4]
    refine s_tsw_in (t := 85) dX8_count_1 (by decide) (by decide) rfl (by decide) ?_
    refine s_aload_n (n := 86) dX8_count_85 rfl rfl rfl ?_
    refine s_getr (k2 := 28) (n := 89) dX8_count_86 rfl fl_X8_25 rfl rfl rfl ?_
    refine s_geti (n := 92) dX8_count_89 rfl fl_X8_159 rfl rfl ?_
    rw [hT.1.2.2.2.2.2.2.2.2]
    refine s_ireturn dX8_count_92 rfl rfl ?_
    simp only [if_pos hs1_4, if_neg hs1_0, if_neg hs1_1, if_neg hs1_2, if_neg hs1_3] at hQ
    exact hQ g hC F_C.rf
  by_cases hs1_5 : w = 5
  · rw [hs1_5]
    refine s_tsw_in (t := 93) dX8_count_1 (by decide) (by decide) rfl (by decide) ?_
    refine s_aload_n (n := 94) dX8_count_93 rfl rfl rfl ?_
    refine s_getr (k2 := 28) (n := 97) dX8_count_94 rfl fl_X8_25 rfl rfl rfl ?_
    refine s_iconst (v := 0) (n := 98) dX8_count_97 rfl (by decide) ?_
    refine s_cv1 (n := 101) dX8_count_98 rfl mo_X1_topLine ml_X8_300 rfl (by decide) rfl rfl (Nat.le_of_ble_eq_true rfl) (Nat.le_of_ble_eq_true rfl) (c_X1_topLine hb28 _ ?_)
    dsimp only [m_push]
    rw [hT.1.2.2.1, hT.1.2.2.2.1, hT.1.2.2.2.2.2.2.2.1, Int32.add_zero]
    refine s_ireturn dX8_count_101 rfl rfl ?_
    simp only [if_pos hs1_5, if_neg hs1_0, if_neg hs1_1, if_neg hs1_2, if_neg hs1_3, if_neg hs1_4] at hQ
    exact hQ g hC F_C.rf
  by_cases hs1_6 : w = 6
  · rw [hs1_6]
    refine s_tsw_in (t := 102) dX8_count_1 (by decide) (by decide) rfl (by decide) ?_
    refine s_aload_n (n := 103) dX8_count_102 rfl rfl rfl ?_
    refine s_getr (k2 := 20) (n := 106) dX8_count_103 rfl fl_X8_39 rfl rfl rfl ?_
    refine s_geti (n := 109) dX8_count_106 rfl fl_X8_129 rfl rfl ?_
    rw [hC.2.2.2.1.1]
    refine s_ireturn dX8_count_109 rfl rfl ?_
    simp only [if_pos hs1_6, if_neg hs1_0, if_neg hs1_1, if_neg hs1_2, if_neg hs1_3, if_neg hs1_4, if_neg hs1_5] at hQ
    exact hQ g hC F_C.rf
  by_cases hs1_7 : w = 7
  · rw [hs1_7]
    refine s_tsw_in (t := 110) dX8_count_1 (by decide) (by decide) rfl (by decide) ?_
    refine s_aload_n (n := 111) dX8_count_110 rfl rfl rfl ?_
    refine s_getr (k2 := 18) (n := 114) dX8_count_111 rfl fl_X8_18 rfl rfl rfl ?_
    refine s_geti (n := 117) dX8_count_114 rfl fl_X8_109 rfl rfl ?_
    rw [hC.2.1.1]
    refine s_ireturn dX8_count_117 rfl rfl ?_
    simp only [if_pos hs1_7, if_neg hs1_0, if_neg hs1_1, if_neg hs1_2, if_neg hs1_3, if_neg hs1_4, if_neg hs1_5, if_neg hs1_6] at hQ
    exact hQ g hC F_C.rf
  by_cases hs1_8 : w = 8
  · rw [hs1_8]
    refine s_tsw_in (t := 118) dX8_count_1 (by decide) (by decide) rfl (by decide) ?_
    refine s_aload_n (n := 119) dX8_count_118 rfl rfl rfl ?_
    refine s_getr (k2 := 28) (n := 122) dX8_count_119 rfl fl_X8_25 rfl rfl rfl ?_
    refine s_geti (n := 125) dX8_count_122 rfl fl_X8_181 rfl rfl ?_
    rw [hT.1.2.2.2.2.1]
    refine s_ireturn dX8_count_125 rfl rfl ?_
    simp only [if_pos hs1_8, if_neg hs1_0, if_neg hs1_1, if_neg hs1_2, if_neg hs1_3, if_neg hs1_4, if_neg hs1_5, if_neg hs1_6, if_neg hs1_7] at hQ
    exact hQ g hC F_C.rf
  by_cases hs1_9 : w = 9
  · rw [hs1_9]
    refine s_tsw_in (t := 126) dX8_count_1 (by decide) (by decide) rfl (by decide) ?_
    refine s_aload_n (n := 127) dX8_count_126 rfl rfl rfl ?_
    refine s_getr (k2 := 28) (n := 130) dX8_count_127 rfl fl_X8_25 rfl rfl rfl ?_
    refine s_cv0 (n := 133) dX8_count_130 rfl mo_X1_allGot ml_X8_277 rfl (by decide) rfl rfl (Nat.le_of_ble_eq_true rfl) (Nat.le_of_ble_eq_true rfl) (c_X1_allGot hb28 hT hA.cle ?_)
    dsimp only [m_push]
    refine s_ireturn dX8_count_133 rfl rfl ?_
    simp only [if_pos hs1_9, if_neg hs1_0, if_neg hs1_1, if_neg hs1_2, if_neg hs1_3, if_neg hs1_4, if_neg hs1_5, if_neg hs1_6, if_neg hs1_7, if_neg hs1_8] at hQ
    exact hQ g hC F_C.rf
  refine s_tsw_out (t := 134) dX8_count_1 (by have q : ∀ z : Int32, w ≠ z → ¬ (w).toInt = z.toInt := (fun z h e => h (Int32.toInt_inj.mp e)); have q0 : ¬ (w).toInt = 0 := q 0 hs1_0; have q1 : ¬ (w).toInt = 1 := q 1 hs1_1; have q2 : ¬ (w).toInt = 2 := q 2 hs1_2; have q3 : ¬ (w).toInt = 3 := q 3 hs1_3; have q4 : ¬ (w).toInt = 4 := q 4 hs1_4; have q5 : ¬ (w).toInt = 5 := q 5 hs1_5; have q6 : ¬ (w).toInt = 6 := q 6 hs1_6; have q7 : ¬ (w).toInt = 7 := q 7 hs1_7; have q8 : ¬ (w).toInt = 8 := q 8 hs1_8; have q9 : ¬ (w).toInt = 9 := q 9 hs1_9; omega) (by decide) ?_
  refine s_ldc (n := 136) dX8_count_134 rfl kc_X8_66 ?_
  refine s_ireturn dX8_count_136 rfl rfl ?_
  simp only [if_neg hs1_0, if_neg hs1_1, if_neg hs1_2, if_neg hs1_3, if_neg hs1_4, if_neg hs1_5, if_neg hs1_6, if_neg hs1_7, if_neg hs1_8, if_neg hs1_9] at hQ
  exact hQ g hC F_C.rf
theorem lp_X9_count {SL d : Nat} {Q : Option Int32 → m_G → Prop} {g : m_G} {f : Nat → a_R} {w : Int32} (hM : ∀ r, r < 8 → M_w g r (f r)) : ∀ (n i : Nat), i + n = 8 → Q (some (rcF f 8)) g → Sim SL d yX9_count cX9_count 4 (some .int) 58 [.ref 78, .int w, .int (rcF f i), .int (nI i)] [] g Q := by
  intro n
  induction n with
  | zero =>
    intro i hin hQ
    have hi : i = 8 := by omega
    subst hi
    refine s_iload_n (n := 59) dX9_count_58 rfl rfl rfl ?_
    refine s_bipush (v := 8) (n := 61) dX9_count_59 rfl (by decide) ?_
    refine s_icmp_ge (n := 64) (t := 87) dX9_count_61 (by decide) rfl (fun h61 => ?_) (fun h61 => ?_)
    · refine s_iload_n (n := 88) dX9_count_87 rfl rfl rfl ?_
      refine s_ireturn dX9_count_88 rfl rfl ?_
      exact hQ
    · exact absurd (by decide) h61
  | succ n ih =>
    intro i hin hQ
    have hi : i < 8 := by omega
    refine s_iload_n (n := 59) dX9_count_58 rfl rfl rfl ?_
    refine s_bipush (v := 8) (n := 61) dX9_count_59 rfl (by decide) ?_
    refine s_icmp_ge (n := 64) (t := 87) dX9_count_61 (by decide) rfl (fun h61 => ?_) (fun h61 => ?_)
    · exact absurd h61 (nI_ge hi (by decide))
    · refine s_iload_n (n := 65) dX9_count_64 rfl rfl rfl ?_
      refine s_aload_n (n := 66) dX9_count_65 rfl rfl rfl ?_
      refine s_getr (k2 := 82) (n := 69) dX9_count_66 rfl fl_X9_20 rfl rfl rfl ?_
      refine s_iload_n (n := 70) dX9_count_69 rfl rfl rfl ?_
      refine s_iaload i (n := 71) dX9_count_70 rfl rfl rfl hi ?_
      refine s_mat_if_ge (n := 79) (t := 78) dX9_count_71 (by decide) dX9_count_74 dX9_count_75 (by decide) dX9_count_78 rfl (u := 1) (v := 0) (by decide) (by decide) ?_
      refine s_iadd (n := 80) dX9_count_79 rfl ?_
      have hs : (if 0 ≤ g 82 i then (1 : Int32) else 0) = (if (f i).isSome then 1 else 0) := by
        have := hM i hi
        cases hfi : f i with
        | none => rw [hfi] at this; rw [show g 82 i = -1 from this]; decide
        | some q => rw [hfi] at this; rw [this.1, if_pos (nI_pos' (by have := this.2.2.1; omega))]; rfl
      rw [hs]
      refine s_istore_n (n := 81) dX9_count_80 rfl rfl (by decide) rfl rfl ?_
      refine s_iinc (n := 84) (v := nI (i + 1)) dX9_count_81 rfl (by decide) rfl rfl (nI_1 i) rfl ?_
      refine s_goto (t := 58) dX9_count_84 (by decide) ?_
      exact ih (i + 1) (by omega) hQ
theorem M_count {SL : Nat} {d : Nat} {Q : Option Int32 → m_G → Prop} {g : m_G} {a : a_S} (hA : a_OK a) (hM : M_R g a) (w : Int32) (hQ : E_M g a Q (sp_count a w)) : Sim SL (d + 2) yX9_count cX9_count 4 (some .int) 0 [.ref 78, .int w, .null, .null] [] g Q := by
  unfold E_M sp_count at hQ
  have hT : TM g 0 (a_H a) := hM.2.2.1.2
  refine s_iconst (v := 0) (n := 1) dX9_count_0 rfl (by decide) ?_
  refine s_istore_n (n := 2) dX9_count_1 rfl rfl (by decide) rfl rfl ?_
  refine s_iload_n (n := 3) dX9_count_2 rfl rfl rfl ?_
  by_cases hs3_0 : w = 0
  · rw [hs3_0]
    refine s_tsw_in (t := 56) dX9_count_3 (by decide) (by decide) rfl (by decide) ?_
    refine s_iconst (v := 0) (n := 57) dX9_count_56 rfl (by decide) ?_
    refine s_istore_n (n := 58) dX9_count_57 rfl rfl (by decide) rfl rfl ?_
    simp only [if_pos hs3_0] at hQ
    exact lp_X9_count hM.1 8 0 rfl (hQ g hM F_M.rf)
  by_cases hs3_1 : w = 1
  · rw [hs3_1]
    refine s_tsw_in (t := 89) dX9_count_3 (by decide) (by decide) rfl (by decide) ?_
    refine s_aload_n (n := 90) dX9_count_89 rfl rfl rfl ?_
    refine s_getr (k2 := 79) (n := 93) dX9_count_90 rfl fl_X9_7 rfl rfl rfl ?_
    refine s_iconst (v := 0) (n := 94) dX9_count_93 rfl (by decide) ?_
    refine s_iaload 0 (n := 95) dX9_count_94 rfl rfl rfl (by decide) ?_
    rw [hT.z (by decide)]
    refine s_ireturn dX9_count_95 rfl rfl ?_
    simp only [if_pos hs3_1, if_neg hs3_0] at hQ
    exact hQ g hM F_M.rf
  by_cases hs3_2 : w = 2
  · rw [hs3_2]
    refine s_tsw_in (t := 96) dX9_count_3 (by decide) (by decide) rfl (by decide) ?_
    refine s_aload_n (n := 97) dX9_count_96 rfl rfl rfl ?_
    refine s_getr (k2 := 79) (n := 100) dX9_count_97 rfl fl_X9_7 rfl rfl rfl ?_
    refine s_iconst (v := 1) (n := 101) dX9_count_100 rfl (by decide) ?_
    refine s_iaload 1 (n := 102) dX9_count_101 rfl rfl rfl (by decide) ?_
    rw [hT.z (by decide)]
    refine s_ireturn dX9_count_102 rfl rfl ?_
    simp only [if_pos hs3_2, if_neg hs3_0, if_neg hs3_1] at hQ
    exact hQ g hM F_M.rf
  by_cases hs3_3 : w = 3
  · rw [hs3_3]
    refine s_tsw_in (t := 103) dX9_count_3 (by decide) (by decide) rfl (by decide) ?_
    refine s_aload_n (n := 104) dX9_count_103 rfl rfl rfl ?_
    refine s_getr (k2 := 79) (n := 107) dX9_count_104 rfl fl_X9_7 rfl rfl rfl ?_
    refine s_bipush (v := 7) (n := 109) dX9_count_107 rfl (by decide) ?_
    refine s_iaload 7 (n := 110) dX9_count_109 rfl rfl rfl (by decide) ?_
    rw [hT.z (by decide)]
    refine s_ireturn dX9_count_110 rfl rfl ?_
    simp only [if_pos hs3_3, if_neg hs3_0, if_neg hs3_1, if_neg hs3_2] at hQ
    exact hQ g hM F_M.rf
  by_cases hs3_4 : w = 4
  · rw [hs3_4]
    refine s_tsw_in (t := 111) dX9_count_3 (by decide) (by decide) rfl (by decide) ?_
    refine s_aload_n (n := 112) dX9_count_111 rfl rfl rfl ?_
    refine s_getr (k2 := 79) (n := 115) dX9_count_112 rfl fl_X9_7 rfl rfl rfl ?_
    refine s_bipush (v := 8) (n := 117) dX9_count_115 rfl (by decide) ?_
    refine s_iaload 8 (n := 118) dX9_count_117 rfl rfl rfl (by decide) ?_
    rw [hT.z (by decide)]
    refine s_ireturn dX9_count_118 rfl rfl ?_
    simp only [if_pos hs3_4, if_neg hs3_0, if_neg hs3_1, if_neg hs3_2, if_neg hs3_3] at hQ
    exact hQ g hM F_M.rf
  by_cases hs3_5 : w = 5
  · rw [hs3_5]
    refine s_tsw_in (t := 119) dX9_count_3 (by decide) (by decide) rfl (by decide) ?_
    refine s_aload_n (n := 120) dX9_count_119 rfl rfl rfl ?_
    refine s_iconst (v := 0) (n := 121) dX9_count_120 rfl (by decide) ?_
    refine s_cv1 (n := 124) dX9_count_121 rfl mo_X9_startOf ml_X9_176 rfl (by decide) rfl rfl (Nat.le_of_ble_eq_true rfl) (Nat.le_of_ble_eq_true rfl) (c_X9_startOf (b := 0) (by decide) hT ?_)
    dsimp only [m_push]
    refine s_ireturn dX9_count_124 rfl rfl ?_
    simp only [if_pos hs3_5, if_neg hs3_0, if_neg hs3_1, if_neg hs3_2, if_neg hs3_3, if_neg hs3_4] at hQ
    exact hQ g hM F_M.rf
  by_cases hs3_6 : w = 6
  · rw [hs3_6]
    refine s_tsw_in (t := 125) dX9_count_3 (by decide) (by decide) rfl (by decide) ?_
    refine s_aload_n (n := 126) dX9_count_125 rfl rfl rfl ?_
    refine s_geti (n := 129) dX9_count_126 rfl fl_X9_154 rfl rfl ?_
    rw [hM.2.2.2.1.1]
    refine s_ireturn dX9_count_129 rfl rfl ?_
    simp only [if_pos hs3_6, if_neg hs3_0, if_neg hs3_1, if_neg hs3_2, if_neg hs3_3, if_neg hs3_4, if_neg hs3_5] at hQ
    exact hQ g hM F_M.rf
  by_cases hs3_7 : w = 7
  · rw [hs3_7]
    refine s_tsw_in (t := 130) dX9_count_3 (by decide) (by decide) rfl (by decide) ?_
    refine s_aload_n (n := 131) dX9_count_130 rfl rfl rfl ?_
    refine s_geti (n := 134) dX9_count_131 rfl fl_X9_88 rfl rfl ?_
    rw [hM.2.1.1]
    refine s_ireturn dX9_count_134 rfl rfl ?_
    simp only [if_pos hs3_7, if_neg hs3_0, if_neg hs3_1, if_neg hs3_2, if_neg hs3_3, if_neg hs3_4, if_neg hs3_5, if_neg hs3_6] at hQ
    exact hQ g hM F_M.rf
  by_cases hs3_8 : w = 8
  · rw [hs3_8]
    refine s_tsw_in (t := 135) dX9_count_3 (by decide) (by decide) rfl (by decide) ?_
    refine s_aload_n (n := 136) dX9_count_135 rfl rfl rfl ?_
    refine s_getr (k2 := 79) (n := 139) dX9_count_136 rfl fl_X9_7 rfl rfl rfl ?_
    refine s_iconst (v := 4) (n := 140) dX9_count_139 rfl (by decide) ?_
    refine s_iaload 4 (n := 141) dX9_count_140 rfl rfl rfl (by decide) ?_
    rw [hT.z (by decide)]
    refine s_ireturn dX9_count_141 rfl rfl ?_
    simp only [if_pos hs3_8, if_neg hs3_0, if_neg hs3_1, if_neg hs3_2, if_neg hs3_3, if_neg hs3_4, if_neg hs3_5, if_neg hs3_6, if_neg hs3_7] at hQ
    exact hQ g hM F_M.rf
  by_cases hs3_9 : w = 9
  · rw [hs3_9]
    refine s_tsw_in (t := 142) dX9_count_3 (by decide) (by decide) rfl (by decide) ?_
    refine s_aload_n (n := 143) dX9_count_142 rfl rfl rfl ?_
    refine s_cv0 (n := 146) dX9_count_143 rfl mo_X9_gotByAll ml_X9_287 rfl (by decide) rfl rfl (Nat.le_of_ble_eq_true rfl) (Nat.le_of_ble_eq_true rfl) (c_X9_gotByAll hT hA.cle ?_)
    dsimp only [m_push]
    refine s_ireturn dX9_count_146 rfl rfl ?_
    simp only [if_pos hs3_9, if_neg hs3_0, if_neg hs3_1, if_neg hs3_2, if_neg hs3_3, if_neg hs3_4, if_neg hs3_5, if_neg hs3_6, if_neg hs3_7, if_neg hs3_8] at hQ
    exact hQ g hM F_M.rf
  refine s_tsw_out (t := 147) dX9_count_3 (by have q : ∀ z : Int32, w ≠ z → ¬ (w).toInt = z.toInt := (fun z h e => h (Int32.toInt_inj.mp e)); have q0 : ¬ (w).toInt = 0 := q 0 hs3_0; have q1 : ¬ (w).toInt = 1 := q 1 hs3_1; have q2 : ¬ (w).toInt = 2 := q 2 hs3_2; have q3 : ¬ (w).toInt = 3 := q 3 hs3_3; have q4 : ¬ (w).toInt = 4 := q 4 hs3_4; have q5 : ¬ (w).toInt = 5 := q 5 hs3_5; have q6 : ¬ (w).toInt = 6 := q 6 hs3_6; have q7 : ¬ (w).toInt = 7 := q 7 hs3_7; have q8 : ¬ (w).toInt = 8 := q 8 hs3_8; have q9 : ¬ (w).toInt = 9 := q 9 hs3_9; omega) (by decide) ?_
  refine s_ldc (n := 149) dX9_count_147 rfl kc_X9_70 ?_
  refine s_ireturn dX9_count_149 rfl rfl ?_
  simp only [if_neg hs3_0, if_neg hs3_1, if_neg hs3_2, if_neg hs3_3, if_neg hs3_4, if_neg hs3_5, if_neg hs3_6, if_neg hs3_7, if_neg hs3_8, if_neg hs3_9] at hQ
  exact hQ g hM F_M.rf
