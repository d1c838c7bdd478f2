/-- the tape of the reference -/
def MT (g : m_G) (L : Nat) (f : Nat → Int32) (at_ : Nat) : Prop := g 78 8 = nI L ∧ g 78 13 = nI at_ ∧ L ≤ 100 ∧ at_ ≤ L ∧ ∀ i, i < L → g 84 i = f i
def MF (g : m_G) (e : rdE) : Prop := g 78 14 = e.1 ∧ g 78 13 = nI e.2
def M_rd (g g2 : m_G) : Prop := m_fr [78, 79] g g2 ∧ (∀ j, j ≠ 13 → j ≠ 14 → j ≠ 15 → g2 78 j = g 78 j) ∧ ∀ j, j < 1053 → g2 79 j = g 79 j
def mR (g g2 : m_G) : Prop := m_fr [78] g g2 ∧ ∀ j, j ≠ 13 → j ≠ 14 → j ≠ 15 → g2 78 j = g 78 j
theorem mR.tr {g g2 g3 : m_G} (h : mR g g2) (h2 : mR g2 g3) : mR g g3 := ⟨h.1.tr h2.1, fun j a b c => (h2.2 j a b c).trans (h.2 j a b c)⟩
theorem mR.up {g : m_G} {j : Nat} {v : Int32} (hj : j = 13 ∨ j = 14 ∨ j = 15) : mR g (m_up g 78 j v) := ⟨m_fr.up (by decide), fun i a b c => by rw [m_up_k, if_neg (by omega)]⟩
theorem mR.rd {g g2 : m_G} (h : mR g g2) : M_rd g g2 := ⟨h.1.mono (by decide), h.2, fun j _ => by rw [h.1 79 (by decide)]⟩
theorem M_rd.rf {g : m_G} : M_rd g g := ⟨m_fr.rf, fun _ _ _ _ => rfl, fun _ _ => rfl⟩
theorem M_rd.tr {g g2 g3 : m_G} (h : M_rd g g2) (h2 : M_rd g2 g3) : M_rd g g3 := ⟨h.1.tr h2.1, fun j a b c => (h2.2.1 j a b c).trans (h.2.1 j a b c), fun j hj => (h2.2.2 j hj).trans (h.2.2 j hj)⟩
theorem M_rd.t {g : m_G} {j : Nat} {v : Int32} (hj : 1053 ≤ j) : M_rd g (m_up g 79 j v) := ⟨m_fr.up (by decide), fun i _ _ _ => by rw [m_up_o (by decide)], fun i hi => by rw [m_up_k, if_neg (by omega)]⟩
theorem M_rd.FM {g g2 : m_G} (h : M_rd g g2) : F_M g g2 := h.1.FM (by decide)
theorem MT.r {g g2 : m_G} {L : Nat} {f : Nat → Int32} {at_ : Nat} (h : MT g L f at_) (h1 : g2 78 8 = g 78 8) (h2 : g2 78 13 = g 78 13) (h3 : g2 84 = g 84) : MT g2 L f at_ := by
  unfold MT; rw [h1, h2, h3]; exact h
theorem MT.to {g : m_G} {L : Nat} {f : Nat → Int32} {at_ a2 : Nat} (h : MT g L f at_) (ha : a2 ≤ L) : MT (m_up g 78 13 (nI a2)) L f a2 := by
  refine ⟨?_, ?_, h.2.2.1, ha, fun i hi => ?_⟩
  · rw [m_up_k, if_neg (by decide)]; exact h.1
  · rw [m_up_k, if_pos rfl]
  · rw [m_up_o (by decide)]; exact h.2.2.2.2 i hi
theorem MT.n15 {g : m_G} {L : Nat} {f : Nat → Int32} {at_ : Nat} (h : MT g L f at_) (v : Int32) : MT (m_up g 78 15 v) L f at_ := h.r (by rw [m_up_k, if_neg (by decide)]) (by rw [m_up_k, if_neg (by decide)]) (m_up_o (by decide))
theorem MT.t {g : m_G} {L : Nat} {f : Nat → Int32} {at_ j : Nat} {v : Int32} (h : MT g L f at_) : MT (m_up g 79 j v) L f at_ := h.r (by rw [m_up_o (by decide)]) (by rw [m_up_o (by decide)]) (m_up_o (by decide))
theorem MF.mk' {g : m_G} {L : Nat} {f : Nat → Int32} {at_ : Nat} {w : Int32} (h : MT g L f at_) : MF (m_up g 78 14 w) (w, at_) := ⟨by rw [m_up_k, if_pos rfl], by rw [m_up_k, if_neg (by decide)]; exact h.2.1⟩
theorem TM.mR {g g2 : m_G} {b : Nat} {t : m_T} (h : TM g b t) (hf : mR g g2) : TM g2 b t := h.kept (fun j _ => by rw [hf.1 79 (by decide)])
theorem K_S.pl {g : m_G} (h : K_S g) {k : Nat} (hk : k < 6) : g 86 k = lwL k ∧ g 87 k = lwM k ∧ g 88 k = nI (lwP k) := by
  obtain ⟨_, _, _, _, _, h6, h7, h8, _, _⟩ := h
  refine ⟨h6 k (by simpa using hk), h7 k (by simpa using hk), ?_⟩
  rw [h8 k (by simpa using hk)]
  rcases (show k = 0 ∨ k = 1 ∨ k = 2 ∨ k = 3 ∨ k = 4 ∨ k = 5 by omega) with rfl | rfl | rfl | rfl | rfl | rfl <;> rfl
theorem sAtF_k (t : m_T) (v a b : Int32) {c : Nat} (hc : c < 6) : ∀ (n i : Nat), sAtF (upd t (9 + c) v) a b n i = sAtF t a b n i
  | 0, _ => rfl
  | n + 1, i => by
    unfold sAtF
    rw [upd_ne (show (1 : Nat) ≠ 9 + c by omega), upd_ne (show 15 + i ≠ 9 + c by omega), upd_ne (show 21 + i ≠ 9 + c by omega), sAtF_k t v a b hc n (i + 1)]
theorem kOf_le {x : Int32} : kOf x ≤ 0 ↔ kOf x = 0 := by
  unfold kOf
  repeat' split
  all_goals decide
theorem c_X9_kindOfLetter {SL : Nat} {d : Nat} {Q : Option Int32 → m_G → Prop} {g : m_G} (x : Int32) (hQ : Q (some (kOf x)) g) : Sim SL d yX9_kindOfLetter cX9_kindOfLetter 1 (some .int) 0 [.int x] [] g Q := by
  unfold kOf at hQ
  refine s_iload_n (n := 1) dX9_kindOfLetter_0 rfl rfl rfl ?_
  refine s_bipush (v := 100) (n := 3) dX9_kindOfLetter_1 rfl (by decide) ?_
  refine s_icmp_ne (n := 6) (t := 10) dX9_kindOfLetter_3 (by decide) rfl (fun h3 => ?_) (fun h3 => ?_)
  · refine s_iload_n (n := 11) dX9_kindOfLetter_10 rfl rfl rfl ?_
    refine s_bipush (v := 112) (n := 13) dX9_kindOfLetter_11 rfl (by decide) ?_
    refine s_icmp_ne (n := 16) (t := 20) dX9_kindOfLetter_13 (by decide) rfl (fun h13 => ?_) (fun h13 => ?_)
    · refine s_iload_n (n := 21) dX9_kindOfLetter_20 rfl rfl rfl ?_
      refine s_bipush (v := 109) (n := 23) dX9_kindOfLetter_21 rfl (by decide) ?_
      refine s_icmp_ne (n := 26) (t := 30) dX9_kindOfLetter_23 (by decide) rfl (fun h23 => ?_) (fun h23 => ?_)
      · refine s_iload_n (n := 31) dX9_kindOfLetter_30 rfl rfl rfl ?_
        refine s_bipush (v := 119) (n := 33) dX9_kindOfLetter_31 rfl (by decide) ?_
        refine s_icmp_ne (n := 36) (t := 40) dX9_kindOfLetter_33 (by decide) rfl (fun h33 => ?_) (fun h33 => ?_)
        · refine s_iload_n (n := 41) dX9_kindOfLetter_40 rfl rfl rfl ?_
          refine s_bipush (v := 117) (n := 43) dX9_kindOfLetter_41 rfl (by decide) ?_
          refine s_icmp_ne (n := 46) (t := 50) dX9_kindOfLetter_43 (by decide) rfl (fun h43 => ?_) (fun h43 => ?_)
          · refine s_iconst (v := 0) (n := 51) dX9_kindOfLetter_50 rfl (by decide) ?_
            refine s_ireturn dX9_kindOfLetter_51 rfl rfl ?_
            simp only [if_neg h3, if_neg h13, if_neg h23, if_neg h33, if_neg h43] at hQ
            exact hQ
          · refine s_iconst (v := 5) (n := 47) dX9_kindOfLetter_46 rfl (by decide) ?_
            refine s_goto (t := 51) dX9_kindOfLetter_47 (by decide) ?_
            refine s_ireturn dX9_kindOfLetter_51 rfl rfl ?_
            simp only [if_neg h3, if_neg h13, if_neg h23, if_neg h33, if_pos h43] at hQ
            exact hQ
        · refine s_iconst (v := 4) (n := 37) dX9_kindOfLetter_36 rfl (by decide) ?_
          refine s_goto (t := 51) dX9_kindOfLetter_37 (by decide) ?_
          refine s_ireturn dX9_kindOfLetter_51 rfl rfl ?_
          simp only [if_neg h3, if_neg h13, if_neg h23, if_pos h33] at hQ
          exact hQ
      · refine s_iconst (v := 3) (n := 27) dX9_kindOfLetter_26 rfl (by decide) ?_
        refine s_goto (t := 51) dX9_kindOfLetter_27 (by decide) ?_
        refine s_ireturn dX9_kindOfLetter_51 rfl rfl ?_
        simp only [if_neg h3, if_neg h13, if_pos h23] at hQ
        exact hQ
    · refine s_iconst (v := 2) (n := 17) dX9_kindOfLetter_16 rfl (by decide) ?_
      refine s_goto (t := 51) dX9_kindOfLetter_17 (by decide) ?_
      refine s_ireturn dX9_kindOfLetter_51 rfl rfl ?_
      simp only [if_neg h3, if_pos h13] at hQ
      exact hQ
  · refine s_iconst (v := 1) (n := 7) dX9_kindOfLetter_6 rfl (by decide) ?_
    refine s_goto (t := 51) dX9_kindOfLetter_7 (by decide) ?_
    refine s_ireturn dX9_kindOfLetter_51 rfl rfl ?_
    simp only [if_pos h3] at hQ
    exact hQ
theorem c_X9_isLetter {SL : Nat} {d : Nat} {Q : Option Int32 → m_G → Prop} {g : m_G} {L : Nat} {f : Nat → Int32} {at_ : Nat} (hT : MT g L f at_) (c : Int32) (hc : c ≠ -1) (k1 : pkB L f at_ = c → Q (some 1) g) (k0 : ¬ (pkB L f at_ = c) → Q (some 0) g) : Sim SL d yX9_isLetter cX9_isLetter 2 (some .boolean) 0 [.ref 78, .int c] [] g Q := by
  refine s_aload_n (n := 1) dX9_isLetter_0 rfl rfl rfl ?_
  refine s_geti (n := 4) dX9_isLetter_1 rfl fl_X9_92 rfl rfl ?_
  refine s_aload_n (n := 5) dX9_isLetter_4 rfl rfl rfl ?_
  refine s_geti (n := 8) dX9_isLetter_5 rfl fl_X9_88 rfl rfl ?_
  refine s_icmp_ge (n := 11) (t := 28) dX9_isLetter_8 (by decide) rfl (fun h8 => ?_) (fun h8 => ?_)
  · refine s_iconst (v := 0) (n := 29) dX9_isLetter_28 rfl (by decide) ?_
    refine s_ireturn dX9_isLetter_29 rfl (by decide +kernel) ?_
    first
    | exact k1 h21
    | exact k0 h21
    | (have hge : ¬ at_ < L := fun q => absurd h8 (by rw [hT.1, hT.2.1]; exact nI_ge q (by have := hT.2.2.1; omega))
       exact k0 (fun q => hge (pkB_lt (by rw [q]; exact hc))))
  · have hlt : at_ < L := by
      have := hT.2.2.1
      have := hT.2.2.2.1
      rcases Nat.lt_or_ge at_ L with z | z
      · exact z
      · exact absurd (by rw [hT.1, hT.2.1]; exact nI_le z (by omega)) h8
    have := hT.2.2.1
    refine s_aload_n (n := 12) dX9_isLetter_11 rfl rfl rfl ?_
    refine s_getr (k2 := 84) (n := 15) dX9_isLetter_12 rfl fl_X9_26 rfl rfl rfl ?_
    refine s_aload_n (n := 16) dX9_isLetter_15 rfl rfl rfl ?_
    refine s_geti (n := 19) dX9_isLetter_16 rfl fl_X9_92 rfl rfl ?_
    refine s_iaload at_ (n := 20) dX9_isLetter_19 rfl rfl hT.2.1 (by omega) ?_
    rw [hT.2.2.2.2 at_ hlt, ← pkB_eq (f := f) hlt]
    refine s_iload_n (n := 21) dX9_isLetter_20 rfl rfl rfl ?_
    refine s_icmp_ne (n := 24) (t := 28) dX9_isLetter_21 (by decide) rfl (fun h21 => ?_) (fun h21 => ?_)
    · refine s_iconst (v := 0) (n := 29) dX9_isLetter_28 rfl (by decide) ?_
      refine s_ireturn dX9_isLetter_29 rfl (by decide +kernel) ?_
      first
      | exact k1 h21
      | exact k0 h21
      | (have hge : ¬ at_ < L := fun q => absurd h8 (by rw [hT.1, hT.2.1]; exact nI_ge q (by have := hT.2.2.1; omega))
         exact k0 (fun q => hge (pkB_lt (by rw [q]; exact hc))))
    · refine s_iconst (v := 1) (n := 25) dX9_isLetter_24 rfl (by decide) ?_
      refine s_goto (t := 29) dX9_isLetter_25 (by decide) ?_
      refine s_ireturn dX9_isLetter_29 rfl (by decide +kernel) ?_
      first
      | exact k1 h21
      | exact k0 h21
      | (have hge : ¬ at_ < L := fun q => absurd h8 (by rw [hT.1, hT.2.1]; exact nI_ge q (by have := hT.2.2.1; omega))
         exact k0 (fun q => hge (pkB_lt (by rw [q]; exact hc))))
theorem c_X9_isFigure {SL : Nat} {d : Nat} {Q : Option Int32 → m_G → Prop} {g : m_G} {L : Nat} {f : Nat → Int32} {at_ : Nat} (hT : MT g L f at_) (i : Nat) (hi : i < 1000) {x : Int32} (hx : x = nI i) (k1 : dgB L f i → Q (some 1) g) (k0 : ¬ (dgB L f i) → Q (some 0) g) : Sim SL (d + 1) yX9_isFigure cX9_isFigure 2 (some .boolean) 0 [.ref 78, .int x] [] g Q := by
  subst hx
  refine s_iload_n (n := 1) dX9_isFigure_0 rfl rfl rfl ?_
  refine s_aload_n (n := 2) dX9_isFigure_1 rfl rfl rfl ?_
  refine s_geti (n := 5) dX9_isFigure_2 rfl fl_X9_88 rfl rfl ?_
  rw [hT.1]
  refine s_icmp_ge (n := 8) (t := 31) dX9_isFigure_5 (by decide) rfl (fun h5 => ?_) (fun h5 => ?_)
  · refine s_iconst (v := 0) (n := 32) dX9_isFigure_31 rfl (by decide) ?_
    refine s_ireturn dX9_isFigure_32 rfl (by decide +kernel) ?_
    first
    | exact k1 hb21
    | exact k0 hb21
    | exact k0 (fun q => absurd h5 (nI_ge (dg_lt q) (by have := hT.2.2.1; omega)))
  · have hlt : i < L := by
      rcases Nat.lt_or_ge i L with z | z
      · exact z
      · exact absurd (nI_le z (by omega)) h5
    have := hT.2.2.1
    refine s_aload_n (n := 9) dX9_isFigure_8 rfl rfl rfl ?_
    refine s_getr (k2 := 84) (n := 12) dX9_isFigure_9 rfl fl_X9_26 rfl rfl rfl ?_
    refine s_iload_n (n := 13) dX9_isFigure_12 rfl rfl rfl ?_
    refine s_iaload i (n := 14) dX9_isFigure_13 rfl rfl rfl (by omega) ?_
    rw [hT.2.2.2.2 i hlt, ← pkB_eq (f := f) hlt]
    refine s_i2l (n := 15) dX9_isFigure_14 rfl ?_
    refine s_ldc2 (n := 18) dX9_isFigure_15 rfl kc_X9_95 ?_
    refine s_ldc2 (n := 21) dX9_isFigure_18 rfl kc_X9_97 ?_
    refine s_cs3 (n := 24) dX9_isFigure_21 rfl mo_X9_in ml_X9_60 rfl (Nat.le_of_ble_eq_true rfl) (Nat.le_of_ble_eq_true rfl) (c_X9_in (48) (57) rfl (by decide) (by decide) (fun hb21 => ?_) (fun hb21 => ?_))
    · dsimp only [m_push]
      refine s_if_eq (n := 27) (t := 31) dX9_isFigure_24 (by decide) rfl (fun h => absurd h (by decide)) (fun _ => ?_)
      refine s_iconst (v := 1) (n := 28) dX9_isFigure_27 rfl (by decide) ?_
      refine s_goto (t := 32) dX9_isFigure_28 (by decide) ?_
      refine s_ireturn dX9_isFigure_32 rfl (by decide +kernel) ?_
      first
      | exact k1 hb21
      | exact k0 hb21
      | exact k0 (fun q => absurd h5 (nI_ge (dg_lt q) (by have := hT.2.2.1; omega)))
    · dsimp only [m_push]
      refine s_if_eq (n := 27) (t := 31) dX9_isFigure_24 (by decide) rfl (fun _ => ?_) (fun h => absurd h (by decide))
      refine s_iconst (v := 0) (n := 32) dX9_isFigure_31 rfl (by decide) ?_
      refine s_ireturn dX9_isFigure_32 rfl (by decide +kernel) ?_
      first
      | exact k1 hb21
      | exact k0 hb21
      | exact k0 (fun q => absurd h5 (nI_ge (dg_lt q) (by have := hT.2.2.1; omega)))
theorem c_X9_refuse {SL : Nat} {d : Nat} {Q : Option Int32 → m_G → Prop} {g : m_G} (w : Int32) (hQ : Q (some 0) (m_up g 78 14 w)) : Sim SL d yX9_refuse cX9_refuse 2 (some .boolean) 0 [.ref 78, .int w] [] g Q := by
  refine s_aload_n (n := 1) dX9_refuse_0 rfl rfl rfl ?_
  refine s_iload_n (n := 2) dX9_refuse_1 rfl rfl rfl ?_
  refine s_puti (n := 5) dX9_refuse_2 rfl fl_X9_99 rfl rfl rfl ?_
  refine s_iconst (v := 0) (n := 6) dX9_refuse_5 rfl (by decide) ?_
  refine s_ireturn dX9_refuse_6 rfl (by decide +kernel) ?_
  exact hQ
theorem c_X9_sign {SL : Nat} {d : Nat} {Q : Option Int32 → m_G → Prop} {g : m_G} {L : Nat} {f : Nat → Int32} {at_ : Nat} (hT : MT g L f at_) (c : Int32) (hc : c ≠ -1) (k1 : rdS L f c at_ = .inr (at_ + 1) → ∀ g2, mR g g2 → MT g2 L f (at_ + 1) → Q (some 1) g2) (k0 : rdS L f c at_ = .inl (1, at_) → ∀ g2, mR g g2 → MF g2 (1, at_) → Q (some 0) g2) : Sim SL (d + 2) yX9_sign cX9_sign 2 (some .boolean) 0 [.ref 78, .int c] [] g Q := by
  refine s_aload_n (n := 1) dX9_sign_0 rfl rfl rfl ?_
  refine s_iload_n (n := 2) dX9_sign_1 rfl rfl rfl ?_
  refine s_cv1 (n := 5) dX9_sign_2 rfl mo_X9_isLetter ml_X9_102 rfl (by decide) rfl rfl (Nat.le_of_ble_eq_true rfl) (Nat.le_of_ble_eq_true rfl) (c_X9_isLetter hT c hc (fun hb2 => ?_) (fun hb2 => ?_))
  · dsimp only [m_push]
    refine s_if_ne (n := 8) (t := 14) dX9_sign_5 (by decide) rfl (fun _ => ?_) (fun h => absurd h (by decide))
    refine s_aload_n (n := 15) dX9_sign_14 rfl rfl rfl ?_
    refine s_dup (n := 16) dX9_sign_15 rfl rfl ?_
    refine s_geti (n := 19) dX9_sign_16 rfl fl_X9_92 rfl rfl ?_
    refine s_iconst (v := 1) (n := 20) dX9_sign_19 rfl (by decide) ?_
    refine s_iadd (n := 21) dX9_sign_20 rfl ?_
    rw [hT.2.1, nI_1]
    refine s_puti (n := 24) dX9_sign_21 rfl fl_X9_92 rfl rfl rfl ?_
    refine s_iconst (v := 1) (n := 25) dX9_sign_24 rfl (by decide) ?_
    refine s_ireturn dX9_sign_25 rfl (by decide +kernel) ?_
    exact k1 (rdS_r hb2) _ (mR.up (by omega)) (hT.to (pkB_lt (by rw [hb2]; exact hc)))
  · dsimp only [m_push]
    refine s_if_ne (n := 8) (t := 14) dX9_sign_5 (by decide) rfl (fun h => absurd h (by decide)) (fun _ => ?_)
    refine s_aload_n (n := 9) dX9_sign_8 rfl rfl rfl ?_
    refine s_iconst (v := 1) (n := 10) dX9_sign_9 rfl (by decide) ?_
    refine s_cv1 (n := 13) dX9_sign_10 rfl mo_X9_refuse ml_X9_105 rfl (by decide) rfl rfl (Nat.le_of_ble_eq_true rfl) (Nat.le_of_ble_eq_true rfl) (c_X9_refuse _ ?_)
    dsimp only [m_push]
    refine s_ireturn dX9_sign_13 rfl (by decide +kernel) ?_
    exact k0 (rdS_l hb2) _ (mR.up (by omega)) (MF.mk' hT)
theorem c_X9_readsNumber {SL : Nat} {d : Nat} {Q : Option Int32 → m_G → Prop} {g : m_G} {L : Nat} {f : Nat → Int32} {at_ : Nat} (hT : MT g L f at_) (lo hi : Int32) (k1 : ∀ v a2, rdN L f lo hi at_ = .inr (v, a2) → wn v lo hi → a2 ≤ L → ∀ g2, mR g g2 → MT g2 L f a2 → g2 78 15 = v → Q (some 1) g2) (k0 : ∀ w, rdN L f lo hi at_ = .inl (w, at_) → ∀ g2, mR g g2 → MF g2 (w, at_) → Q (some 0) g2) : Sim SL (d + 2) yX9_readsNumber cX9_readsNumber 4 (some .boolean) 0 [.ref 78, .int lo, .int hi, .null] [] g Q := by
  have hL := hT.2.2.1
  have hL2 := hT.2.2.2.1
  refine s_aload_n (n := 1) dX9_readsNumber_0 rfl rfl rfl ?_
  refine s_aload_n (n := 2) dX9_readsNumber_1 rfl rfl rfl ?_
  refine s_geti (n := 5) dX9_readsNumber_2 rfl fl_X9_92 rfl rfl ?_
  refine s_cv1 (n := 8) dX9_readsNumber_5 rfl mo_X9_isFigure ml_X9_108 rfl (by decide) rfl rfl (Nat.le_of_ble_eq_true rfl) (Nat.le_of_ble_eq_true rfl) (c_X9_isFigure hT at_ (by omega) hT.2.1 (fun hb5 => ?_) (fun hb5 => ?_))
  · dsimp only [m_push]
    refine s_if_eq (n := 11) (t := 37) dX9_readsNumber_8 (by decide) rfl (fun h => absurd h (by decide)) (fun _ => ?_)
    refine s_aload_n (n := 12) dX9_readsNumber_11 rfl rfl rfl ?_
    refine s_aload_n (n := 13) dX9_readsNumber_12 rfl rfl rfl ?_
    refine s_geti (n := 16) dX9_readsNumber_13 rfl fl_X9_92 rfl rfl ?_
    refine s_iconst (v := 1) (n := 17) dX9_readsNumber_16 rfl (by decide) ?_
    refine s_iadd (n := 18) dX9_readsNumber_17 rfl ?_
    refine s_cv1 (n := 21) dX9_readsNumber_18 rfl mo_X9_isFigure ml_X9_108 rfl (by decide) rfl rfl (Nat.le_of_ble_eq_true rfl) (Nat.le_of_ble_eq_true rfl) (c_X9_isFigure hT (at_ + 1) (by omega) (by rw [hT.2.1, show ((1 : Int32)) = nI 1 from rfl, nI_add]) (fun hb18 => ?_) (fun hb18 => ?_))
    · dsimp only [m_push]
      refine s_if_eq (n := 24) (t := 43) dX9_readsNumber_21 (by decide) rfl (fun h => absurd h (by decide)) (fun _ => ?_)
      refine s_aload_n (n := 25) dX9_readsNumber_24 rfl rfl rfl ?_
      refine s_aload_n (n := 26) dX9_readsNumber_25 rfl rfl rfl ?_
      refine s_geti (n := 29) dX9_readsNumber_26 rfl fl_X9_92 rfl rfl ?_
      refine s_iconst (v := 2) (n := 30) dX9_readsNumber_29 rfl (by decide) ?_
      refine s_iadd (n := 31) dX9_readsNumber_30 rfl ?_
      refine s_cv1 (n := 34) dX9_readsNumber_31 rfl mo_X9_isFigure ml_X9_108 rfl (by decide) rfl rfl (Nat.le_of_ble_eq_true rfl) (Nat.le_of_ble_eq_true rfl) (c_X9_isFigure hT (at_ + 2) (by omega) (by rw [hT.2.1, show ((2 : Int32)) = nI 2 from rfl, nI_add]) (fun hb31 => ?_) (fun hb31 => ?_))
      · dsimp only [m_push]
        refine s_if_eq (n := 37) (t := 43) dX9_readsNumber_34 (by decide) rfl (fun h => absurd h (by decide)) (fun _ => ?_)
        refine s_aload_n (n := 38) dX9_readsNumber_37 rfl rfl rfl ?_
        refine s_iconst (v := 1) (n := 39) dX9_readsNumber_38 rfl (by decide) ?_
        refine s_cv1 (n := 42) dX9_readsNumber_39 rfl mo_X9_refuse ml_X9_105 rfl (by decide) rfl rfl (Nat.le_of_ble_eq_true rfl) (Nat.le_of_ble_eq_true rfl) (c_X9_refuse _ ?_)
        dsimp only [m_push]
        refine s_ireturn dX9_readsNumber_42 rfl (by decide +kernel) ?_
        first
        | exact k0 1 (rdN_1 (nm_0 hb5)) _ (mR.up (by omega)) (MF.mk' hT)
        | exact k0 1 (rdN_1 (nm_3 hb5 hb18 hb31)) _ (mR.up (by omega)) (MF.mk' hT)
      · dsimp only [m_push]
        refine s_if_eq (n := 37) (t := 43) dX9_readsNumber_34 (by decide) rfl (fun _ => ?_) (fun h => absurd h (by decide))
        have hlt := dg_lt hb5
        refine s_aload_n (n := 44) dX9_readsNumber_43 rfl rfl rfl ?_
        refine s_aload_n (n := 45) dX9_readsNumber_44 rfl rfl rfl ?_
        refine s_getr (k2 := 84) (n := 48) dX9_readsNumber_45 rfl fl_X9_26 rfl rfl rfl ?_
        refine s_aload_n (n := 49) dX9_readsNumber_48 rfl rfl rfl ?_
        refine s_geti (n := 52) dX9_readsNumber_49 rfl fl_X9_92 rfl rfl ?_
        refine s_iaload at_ (n := 53) dX9_readsNumber_52 rfl rfl hT.2.1 (by omega) ?_
        rw [hT.2.2.2.2 at_ hlt, ← pkB_eq (f := f) hlt]
        refine s_bipush (v := 48) (n := 55) dX9_readsNumber_53 rfl (by decide) ?_
        refine s_isub (n := 56) dX9_readsNumber_55 rfl ?_
        refine s_puti (n := 59) dX9_readsNumber_56 rfl fl_X9_111 rfl rfl rfl ?_
        have hT1 := hT.n15 (pkB L f at_ - 48)
        refine s_aload_n (n := 60) dX9_readsNumber_59 rfl rfl rfl ?_
        refine s_aload_n (n := 61) dX9_readsNumber_60 rfl rfl rfl ?_
        refine s_geti (n := 64) dX9_readsNumber_61 rfl fl_X9_92 rfl rfl ?_
        refine s_iconst (v := 1) (n := 65) dX9_readsNumber_64 rfl (by decide) ?_
        refine s_iadd (n := 66) dX9_readsNumber_65 rfl ?_
        refine s_cv1 (n := 69) dX9_readsNumber_66 rfl mo_X9_isFigure ml_X9_108 rfl (by decide) rfl rfl (Nat.le_of_ble_eq_true rfl) (Nat.le_of_ble_eq_true rfl) (c_X9_isFigure hT1 (at_ + 1) (by omega) (by rw [hT1.2.1, show ((1 : Int32)) = nI 1 from rfl, nI_add]) (fun hb66 => ?_) (fun hb66 => ?_))
        · dsimp only [m_push]
          refine s_if_eq (n := 72) (t := 76) dX9_readsNumber_69 (by decide) rfl (fun h => absurd h (by decide)) (fun _ => ?_)
          refine s_iconst (v := 2) (n := 73) dX9_readsNumber_72 rfl (by decide) ?_
          refine s_goto (t := 77) dX9_readsNumber_73 (by decide) ?_
          refine s_istore_n (n := 78) dX9_readsNumber_77 rfl rfl (by decide) rfl rfl ?_
          refine s_aload_n (n := 79) dX9_readsNumber_78 rfl rfl rfl ?_
          refine s_iload_n (n := 80) dX9_readsNumber_79 rfl rfl rfl ?_
          refine s_iconst (v := 2) (n := 81) dX9_readsNumber_80 rfl (by decide) ?_
          refine s_icmp_ne (n := 84) (t := 109) dX9_readsNumber_81 (by decide) rfl (fun h => absurd h (by decide)) (fun _ => ?_)
          refine s_bipush (v := 10) (n := 86) dX9_readsNumber_84 rfl (by decide) ?_
          refine s_aload_n (n := 87) dX9_readsNumber_86 rfl rfl rfl ?_
          skip
          refine s_geti (n := 90) dX9_readsNumber_87 rfl fl_X9_111 rfl rfl ?_
          rw [m_up_k, if_pos rfl]
          refine s_imul (n := 91) dX9_readsNumber_90 rfl ?_
          refine s_aload_n (n := 92) dX9_readsNumber_91 rfl rfl rfl ?_
          refine s_getr (k2 := 84) (n := 95) dX9_readsNumber_92 rfl fl_X9_26 rfl rfl rfl ?_
          refine s_aload_n (n := 96) dX9_readsNumber_95 rfl rfl rfl ?_
          refine s_geti (n := 99) dX9_readsNumber_96 rfl fl_X9_92 rfl rfl ?_
          refine s_iconst (v := 1) (n := 100) dX9_readsNumber_99 rfl (by decide) ?_
          refine s_iadd (n := 101) dX9_readsNumber_100 rfl ?_
          refine s_iaload (at_ + 1) (n := 102) dX9_readsNumber_101 rfl rfl (by rw [hT1.2.1, nI_1]) (by have := dg_lt hb66; omega) ?_
          rw [hT1.2.2.2.2 (at_ + 1) (dg_lt hb66), ← pkB_eq (f := f) (dg_lt hb66)]
          refine s_iadd (n := 103) dX9_readsNumber_102 rfl ?_
          refine s_bipush (v := 48) (n := 105) dX9_readsNumber_103 rfl (by decide) ?_
          refine s_isub (n := 106) dX9_readsNumber_105 rfl ?_
          refine s_goto (t := 113) dX9_readsNumber_106 (by decide) ?_
          refine s_puti (n := 116) dX9_readsNumber_113 rfl fl_X9_111 rfl rfl rfl ?_
          have hT2 := hT1.n15 (10 * (pkB L f at_ - 48) + pkB L f (at_ + 1) - 48)
          refine s_aload_n (n := 117) dX9_readsNumber_116 rfl rfl rfl ?_
          refine s_geti (n := 120) dX9_readsNumber_117 rfl fl_X9_111 rfl rfl ?_
          rw [show (m_up (m_up g 78 15 (pkB L f at_ - 48)) 78 15 (10 * (pkB L f at_ - 48) + pkB L f (at_ + 1) - 48)) 78 15 = (10 * (pkB L f at_ - 48) + pkB L f (at_ + 1) - 48) by rw [m_up_k, if_pos rfl]]
          refine s_i2l (n := 121) dX9_readsNumber_120 rfl ?_
          refine s_iload_n (n := 122) dX9_readsNumber_121 rfl rfl rfl ?_
          refine s_i2l (n := 123) dX9_readsNumber_122 rfl ?_
          refine s_iload_n (n := 124) dX9_readsNumber_123 rfl rfl rfl ?_
          refine s_i2l (n := 125) dX9_readsNumber_124 rfl ?_
          refine s_cs3 (n := 128) dX9_readsNumber_125 rfl mo_X9_in ml_X9_60 rfl (Nat.le_of_ble_eq_true rfl) (Nat.le_of_ble_eq_true rfl) (c_X9_in lo hi rfl rfl rfl (fun hb125 => ?_) (fun hb125 => ?_))
          · dsimp only [m_push]
            refine s_if_ne (n := 131) (t := 137) dX9_readsNumber_128 (by decide) rfl (fun _ => ?_) (fun h => absurd h (by decide))
            refine s_aload_n (n := 138) dX9_readsNumber_137 rfl rfl rfl ?_
            refine s_dup (n := 139) dX9_readsNumber_138 rfl rfl ?_
            refine s_geti (n := 142) dX9_readsNumber_139 rfl fl_X9_92 rfl rfl ?_
            refine s_iload_n (n := 143) dX9_readsNumber_142 rfl rfl rfl ?_
            refine s_iadd (n := 144) dX9_readsNumber_143 rfl ?_
            rw [hT2.2.1, show ((2 : Int32)) = nI 2 from rfl, nI_add]
            refine s_puti (n := 147) dX9_readsNumber_144 rfl fl_X9_92 rfl rfl rfl ?_
            refine s_iconst (v := 1) (n := 148) dX9_readsNumber_147 rfl (by decide) ?_
            refine s_ireturn dX9_readsNumber_148 rfl (by decide +kernel) ?_
            exact k1 _ _ (rdN_r (q := (10 * (pkB L f at_ - 48) + pkB L f (at_ + 1) - 48, 2)) (nm_2 hb5 hb18 hb31) hb125) hb125 (nm_le (q := (10 * (pkB L f at_ - 48) + pkB L f (at_ + 1) - 48, 2)) (nm_2 hb5 hb18 hb31)) _ (((mR.up (by omega)).tr (mR.up (by omega))).tr (mR.up (by omega))) (hT2.to (nm_le (q := (10 * (pkB L f at_ - 48) + pkB L f (at_ + 1) - 48, 2)) (nm_2 hb5 hb18 hb31))) (by rw [m_up_k, if_neg (by decide), m_up_k, if_pos rfl])
          · dsimp only [m_push]
            refine s_if_ne (n := 131) (t := 137) dX9_readsNumber_128 (by decide) rfl (fun h => absurd h (by decide)) (fun _ => ?_)
            refine s_aload_n (n := 132) dX9_readsNumber_131 rfl rfl rfl ?_
            refine s_iconst (v := 2) (n := 133) dX9_readsNumber_132 rfl (by decide) ?_
            refine s_cv1 (n := 136) dX9_readsNumber_133 rfl mo_X9_refuse ml_X9_105 rfl (by decide) rfl rfl (Nat.le_of_ble_eq_true rfl) (Nat.le_of_ble_eq_true rfl) (c_X9_refuse _ ?_)
            dsimp only [m_push]
            refine s_ireturn dX9_readsNumber_136 rfl (by decide +kernel) ?_
            exact k0 2 (rdN_2 (q := (10 * (pkB L f at_ - 48) + pkB L f (at_ + 1) - 48, 2)) (nm_2 hb5 hb18 hb31) hb125) _ (((mR.up (by omega)).tr (mR.up (by omega))).tr (mR.up (by omega))) (MF.mk' hT2)
        · dsimp only [m_push]
          exact absurd hb18 hb66
    · dsimp only [m_push]
      refine s_if_eq (n := 24) (t := 43) dX9_readsNumber_21 (by decide) rfl (fun _ => ?_) (fun h => absurd h (by decide))
      have hlt := dg_lt hb5
      refine s_aload_n (n := 44) dX9_readsNumber_43 rfl rfl rfl ?_
      refine s_aload_n (n := 45) dX9_readsNumber_44 rfl rfl rfl ?_
      refine s_getr (k2 := 84) (n := 48) dX9_readsNumber_45 rfl fl_X9_26 rfl rfl rfl ?_
      refine s_aload_n (n := 49) dX9_readsNumber_48 rfl rfl rfl ?_
      refine s_geti (n := 52) dX9_readsNumber_49 rfl fl_X9_92 rfl rfl ?_
      refine s_iaload at_ (n := 53) dX9_readsNumber_52 rfl rfl hT.2.1 (by omega) ?_
      rw [hT.2.2.2.2 at_ hlt, ← pkB_eq (f := f) hlt]
      refine s_bipush (v := 48) (n := 55) dX9_readsNumber_53 rfl (by decide) ?_
      refine s_isub (n := 56) dX9_readsNumber_55 rfl ?_
      refine s_puti (n := 59) dX9_readsNumber_56 rfl fl_X9_111 rfl rfl rfl ?_
      have hT1 := hT.n15 (pkB L f at_ - 48)
      refine s_aload_n (n := 60) dX9_readsNumber_59 rfl rfl rfl ?_
      refine s_aload_n (n := 61) dX9_readsNumber_60 rfl rfl rfl ?_
      refine s_geti (n := 64) dX9_readsNumber_61 rfl fl_X9_92 rfl rfl ?_
      refine s_iconst (v := 1) (n := 65) dX9_readsNumber_64 rfl (by decide) ?_
      refine s_iadd (n := 66) dX9_readsNumber_65 rfl ?_
      refine s_cv1 (n := 69) dX9_readsNumber_66 rfl mo_X9_isFigure ml_X9_108 rfl (by decide) rfl rfl (Nat.le_of_ble_eq_true rfl) (Nat.le_of_ble_eq_true rfl) (c_X9_isFigure hT1 (at_ + 1) (by omega) (by rw [hT1.2.1, show ((1 : Int32)) = nI 1 from rfl, nI_add]) (fun hb66 => ?_) (fun hb66 => ?_))
      · dsimp only [m_push]
        exact absurd hb66 hb18
      · dsimp only [m_push]
        refine s_if_eq (n := 72) (t := 76) dX9_readsNumber_69 (by decide) rfl (fun _ => ?_) (fun h => absurd h (by decide))
        refine s_iconst (v := 1) (n := 77) dX9_readsNumber_76 rfl (by decide) ?_
        refine s_istore_n (n := 78) dX9_readsNumber_77 rfl rfl (by decide) rfl rfl ?_
        refine s_aload_n (n := 79) dX9_readsNumber_78 rfl rfl rfl ?_
        refine s_iload_n (n := 80) dX9_readsNumber_79 rfl rfl rfl ?_
        refine s_iconst (v := 2) (n := 81) dX9_readsNumber_80 rfl (by decide) ?_
        refine s_icmp_ne (n := 84) (t := 109) dX9_readsNumber_81 (by decide) rfl (fun _ => ?_) (fun h => absurd h (by decide))
        refine s_aload_n (n := 110) dX9_readsNumber_109 rfl rfl rfl ?_
        refine s_geti (n := 113) dX9_readsNumber_110 rfl fl_X9_111 rfl rfl ?_
        refine s_puti (n := 116) dX9_readsNumber_113 rfl fl_X9_111 rfl rfl rfl ?_
        have hT2 := hT1.n15 (pkB L f at_ - 48)
        rw [show (m_up g 78 15 (pkB L f at_ - 48)) 78 15 = pkB L f at_ - 48 by rw [m_up_k, if_pos rfl]]
        refine s_aload_n (n := 117) dX9_readsNumber_116 rfl rfl rfl ?_
        refine s_geti (n := 120) dX9_readsNumber_117 rfl fl_X9_111 rfl rfl ?_
        rw [show (m_up (m_up g 78 15 (pkB L f at_ - 48)) 78 15 (pkB L f at_ - 48)) 78 15 = (pkB L f at_ - 48) by rw [m_up_k, if_pos rfl]]
        refine s_i2l (n := 121) dX9_readsNumber_120 rfl ?_
        refine s_iload_n (n := 122) dX9_readsNumber_121 rfl rfl rfl ?_
        refine s_i2l (n := 123) dX9_readsNumber_122 rfl ?_
        refine s_iload_n (n := 124) dX9_readsNumber_123 rfl rfl rfl ?_
        refine s_i2l (n := 125) dX9_readsNumber_124 rfl ?_
        refine s_cs3 (n := 128) dX9_readsNumber_125 rfl mo_X9_in ml_X9_60 rfl (Nat.le_of_ble_eq_true rfl) (Nat.le_of_ble_eq_true rfl) (c_X9_in lo hi rfl rfl rfl (fun hb125 => ?_) (fun hb125 => ?_))
        · dsimp only [m_push]
          refine s_if_ne (n := 131) (t := 137) dX9_readsNumber_128 (by decide) rfl (fun _ => ?_) (fun h => absurd h (by decide))
          refine s_aload_n (n := 138) dX9_readsNumber_137 rfl rfl rfl ?_
          refine s_dup (n := 139) dX9_readsNumber_138 rfl rfl ?_
          refine s_geti (n := 142) dX9_readsNumber_139 rfl fl_X9_92 rfl rfl ?_
          refine s_iload_n (n := 143) dX9_readsNumber_142 rfl rfl rfl ?_
          refine s_iadd (n := 144) dX9_readsNumber_143 rfl ?_
          rw [hT2.2.1, show ((1 : Int32)) = nI 1 from rfl, nI_add]
          refine s_puti (n := 147) dX9_readsNumber_144 rfl fl_X9_92 rfl rfl rfl ?_
          refine s_iconst (v := 1) (n := 148) dX9_readsNumber_147 rfl (by decide) ?_
          refine s_ireturn dX9_readsNumber_148 rfl (by decide +kernel) ?_
          exact k1 _ _ (rdN_r (q := (pkB L f at_ - 48, 1)) (nm_1 hb5 hb66) hb125) hb125 (nm_le (q := (pkB L f at_ - 48, 1)) (nm_1 hb5 hb66)) _ (((mR.up (by omega)).tr (mR.up (by omega))).tr (mR.up (by omega))) (hT2.to (nm_le (q := (pkB L f at_ - 48, 1)) (nm_1 hb5 hb66))) (by rw [m_up_k, if_neg (by decide), m_up_k, if_pos rfl])
        · dsimp only [m_push]
          refine s_if_ne (n := 131) (t := 137) dX9_readsNumber_128 (by decide) rfl (fun h => absurd h (by decide)) (fun _ => ?_)
          refine s_aload_n (n := 132) dX9_readsNumber_131 rfl rfl rfl ?_
          refine s_iconst (v := 2) (n := 133) dX9_readsNumber_132 rfl (by decide) ?_
          refine s_cv1 (n := 136) dX9_readsNumber_133 rfl mo_X9_refuse ml_X9_105 rfl (by decide) rfl rfl (Nat.le_of_ble_eq_true rfl) (Nat.le_of_ble_eq_true rfl) (c_X9_refuse _ ?_)
          dsimp only [m_push]
          refine s_ireturn dX9_readsNumber_136 rfl (by decide +kernel) ?_
          exact k0 2 (rdN_2 (q := (pkB L f at_ - 48, 1)) (nm_1 hb5 hb66) hb125) _ (((mR.up (by omega)).tr (mR.up (by omega))).tr (mR.up (by omega))) (MF.mk' hT2)
  · dsimp only [m_push]
    refine s_if_eq (n := 11) (t := 37) dX9_readsNumber_8 (by decide) rfl (fun _ => ?_) (fun h => absurd h (by decide))
    refine s_aload_n (n := 38) dX9_readsNumber_37 rfl rfl rfl ?_
    refine s_iconst (v := 1) (n := 39) dX9_readsNumber_38 rfl (by decide) ?_
    refine s_cv1 (n := 42) dX9_readsNumber_39 rfl mo_X9_refuse ml_X9_105 rfl (by decide) rfl rfl (Nat.le_of_ble_eq_true rfl) (Nat.le_of_ble_eq_true rfl) (c_X9_refuse _ ?_)
    dsimp only [m_push]
    refine s_ireturn dX9_readsNumber_42 rfl (by decide +kernel) ?_
    first
    | exact k0 1 (rdN_1 (nm_0 hb5)) _ (mR.up (by omega)) (MF.mk' hT)
    | exact k0 1 (rdN_1 (nm_3 hb5 hb18 hb31)) _ (mR.up (by omega)) (MF.mk' hT)
