/-- what a town is while it is read -/
def rOK (t : m_T) : Prop := a_TK t ∧ t 7 = 0 ∧ t 8 = 0 ∧ ∀ q, 33 ≤ q → t q = 0
theorem lwP_i : ∀ k, k < 6 → ∀ j, j < 6 → lwP j = lwP k → j = k := by decide
theorem lwP_b : ∀ k, k < 6 → lwP k < 7 ∧ lwP k ≠ 1 := by decide
theorem lwL_p : ∀ k, k < 6 → ¬ lwL k < 0 := by decide
theorem rdN_wn {L : Nat} {f : Nat → Int32} {lo hi : Int32} {i : Nat} {p : Int32 × Nat} (h : rdN L f lo hi i = .inr p) : wn p.1 lo hi ∧ p.2 ≤ L := by
  unfold rdN at h
  cases hn : nmR L f i with
  | none => rw [hn] at h; cases h
  | some q =>
    rw [hn] at h
    dsimp only at h
    split at h
    · rename_i hw
      cases h
      exact ⟨hw, nm_le hn⟩
    · cases h
theorem rlK_ok {L : Nat} {f : Nat → Int32} : ∀ (n k at_ : Nat) (t : m_T) {p : Nat × m_T}, k + n = 6 → rlK L f n k at_ t = .inr p → (∀ j, j < k → wn (t (lwP j)) (lwL j) (lwM j)) → (∀ q, q = 1 ∨ 7 ≤ q → t q = 0) → (∀ j, j < 6 → wn (p.2 (lwP j)) (lwL j) (lwM j)) ∧ ∀ q, q = 1 ∨ 7 ≤ q → p.2 q = 0
  | 0, k, at_, t, p, hk, h, h1, h2 => by
    unfold rlK at h
    cases h
    exact ⟨fun j hj => h1 j (by omega), h2⟩
  | n + 1, k, at_, t, p, hk, h, h1, h2 => by
    unfold rlK at h
    cases hn : rdN L f (lwL k) (lwM k) at_ with
    | inl e => rw [hn] at h; cases h
    | inr q =>
      rw [hn] at h
      dsimp only at h
      cases hs : rdS L f (if k < 5 then 44 else 59) q.2 with
      | inl e => rw [hs] at h; cases h
      | inr a2 =>
        rw [hs] at h
        refine rlK_ok n (k + 1) a2 _ (by omega) h (fun j hj => ?_) (fun x hx => ?_)
        · by_cases e : j = k
          · subst e; rw [upd_eq]; exact (rdN_wn hn).1
          · rw [upd_ne (fun z => e (lwP_i k (by omega) j (by omega) z))]; exact h1 j (by omega)
        · have := lwP_b k (by omega)
          rw [upd_ne (by omega)]; exact h2 x hx
theorem rdW_ok {L : Nat} {f : Nat → Int32} {p : Nat × m_T} (h : rdW L f = .inr p) : rOK p.2 ∧ a_cn p.2 = 0 := by
  unfold rdW at h
  cases hs : rdS L f 99 0 with
  | inl e => rw [hs] at h; cases h
  | inr a0 =>
    rw [hs] at h
    obtain ⟨h1, h2⟩ := rlK_ok 6 0 a0 _ rfl h (fun j hj => by omega) (fun _ _ => rfl)
    have e1 : p.2 1 = 0 := h2 1 (Or.inl rfl)
    refine ⟨⟨⟨h1 0 (by decide), by rw [e1]; exact ⟨by decide, by decide⟩, h1 1 (by decide), h1 2 (by decide), h1 3 (by decide), h1 4 (by decide), h1 5 (by decide), by rw [h2 7 (Or.inr (by decide))]; exact ⟨by decide, by decide⟩, fun i hi hc => ?_⟩, h2 7 (Or.inr (by decide)), h2 8 (Or.inr (by decide)), fun q hq => h2 q (Or.inr (by omega))⟩, ?_⟩
    · rw [e1] at hc; exact absurd (nI_pos' (by omega)) hc
    · unfold a_cn; rw [e1]; rfl
theorem kOf_ok {x : Int32} (h : ¬ kOf x = 0) : kOK (kOf x) := by
  unfold kOf kOK at *
  repeat' split
  all_goals first | decide | (simp_all)
theorem wn_up {x T : Int32} (h : wn x 1 T) (hT : wn T 2 9) : wn x 1 9 := ⟨h.1, fun q => by
  have a := h.2; have b := hT.2
  rw [i32_lt] at *; omega⟩
theorem addH_at {t : m_T} {kd ti li wa : Int32} {j : Nat} (h1 : j ≠ 1) (h9 : j ≠ 9 + a_cn t) (h15 : j ≠ 15 + a_cn t) (h21 : j ≠ 21 + a_cn t) (h27 : j ≠ 27 + a_cn t) : addH t kd ti li wa j = t j := by
  unfold addH; rw [upd_ne h1, upd_ne h27, upd_ne h21, upd_ne h15, upd_ne h9]
theorem addH_1 {t : m_T} {kd ti li wa : Int32} : addH t kd ti li wa 1 = nI (a_cn t + 1) := by unfold addH; rw [upd_eq]
theorem addH_k {t : m_T} {kd ti li wa : Int32} : addH t kd ti li wa (9 + a_cn t) = kd ∧ addH t kd ti li wa (15 + a_cn t) = ti ∧ addH t kd ti li wa (21 + a_cn t) = li ∧ addH t kd ti li wa (27 + a_cn t) = wa := by
  unfold addH
  refine ⟨?_, ?_, ?_, ?_⟩
  · rw [upd_ne (by omega), upd_ne (by omega), upd_ne (by omega), upd_ne (by omega), upd_eq]
  · rw [upd_ne (by omega), upd_ne (by omega), upd_ne (by omega), upd_eq]
  · rw [upd_ne (by omega), upd_ne (by omega), upd_eq]
  · rw [upd_ne (by omega), upd_eq]
theorem addH_cn {t : m_T} {kd ti li wa : Int32} (hc : a_cn t < 6) : a_cn (addH t kd ti li wa) = a_cn t + 1 := by
  show (addH t kd ti li wa 1).toNatClampNeg = _
  rw [addH_1, nI_clamp (by omega)]
theorem addH_ok {t : m_T} {kd ti li wa : Int32} (h : rOK t) (hc : a_cn t < 6) (hk : kOK kd) (ht : wn ti 1 9) (hl : wn li 0 6) : rOK (addH t kd ti li wa) := by
  obtain ⟨hK, h7, h8, hq⟩ := h
  have e1 := (a_cnE hK.2.1).1
  have e : ∀ j, j ≠ 1 → j < 9 → addH t kd ti li wa j = t j := fun j a b => addH_at a (by omega) (by omega) (by omega) (by omega)
  refine ⟨?_, by rw [e 7 (by decide) (by decide)]; exact h7, by rw [e 8 (by decide) (by decide)]; exact h8, fun q hq2 => by rw [addH_at (by omega) (by omega) (by omega) (by omega) (by omega)]; exact hq q hq2⟩
  unfold a_TK
  rw [e 0 (by decide) (by decide), e 2 (by decide) (by decide), e 3 (by decide) (by decide), e 4 (by decide) (by decide), e 5 (by decide) (by decide), e 6 (by decide) (by decide), e 7 (by decide) (by decide), addH_1]
  refine ⟨hK.1, wn_nI (n := 6) rfl (by omega) (by decide), hK.2.2.1, hK.2.2.2.1, hK.2.2.2.2.1, hK.2.2.2.2.2.1, hK.2.2.2.2.2.2.1, hK.2.2.2.2.2.2.2.1, fun i hi hci => ?_⟩
  have hile : i ≤ a_cn t := by
    rcases Nat.lt_or_ge (a_cn t) i with z | z
    · exact absurd (nI_le (show a_cn t + 1 ≤ i by omega) (by omega)) hci
    · exact z
  by_cases ei : i = a_cn t
  · subst ei
    obtain ⟨a1, a2, a3, _⟩ := addH_k (t := t) (kd := kd) (ti := ti) (li := li) (wa := wa)
    rw [a1, a2, a3]; exact ⟨hk, ht, hl⟩
  · rw [addH_at (by omega) (by omega) (by omega) (by omega) (by omega), addH_at (by omega) (by omega) (by omega) (by omega) (by omega), addH_at (by omega) (by omega) (by omega) (by omega) (by omega)]
    exact hK.2.2.2.2.2.2.2.2 i hi (by rw [e1]; exact nI_ge (by omega) (by omega))
theorem rdH_ok {L : Nat} {f : Nat → Int32} {at_ : Nat} {t : m_T} {p : Nat × m_T} (h : rdH L f at_ t = .inr p) (hO : rOK t) : rOK p.2 ∧ a_cn p.2 = a_cn t + 1 ∧ a_cn t < 6 := by
  have hcn := (a_cnE hO.1.2.1).2
  unfold rdH at h
  by_cases hk : kOf (pkB L f at_) = 0
  · rw [if_pos hk] at h; cases h
  rw [if_neg hk] at h
  by_cases h6 : a_cn t = 6
  · rw [if_pos h6] at h; cases h
  rw [if_neg h6] at h
  cases h1 : rdN L f 1 (t 0) (at_ + 1) with
  | inl e => rw [h1] at h; cases h
  | inr p1 =>
  rw [h1] at h; dsimp only at h
  cases h2 : rdS L f 44 p1.2 with
  | inl e => rw [h2] at h; cases h
  | inr a2 =>
  rw [h2] at h; dsimp only at h
  cases h3 : rdN L f 0 6 a2 with
  | inl e => rw [h3] at h; cases h
  | inr q =>
  rw [h3] at h; dsimp only at h
  by_cases hs : sAt t p1.1 q.1 = none
  · rw [if_pos hs] at h
    cases h4 : rdS L f 44 q.2 with
    | inl e => rw [h4] at h; cases h
    | inr a4 =>
    rw [h4] at h; dsimp only at h
    cases h5 : rdN L f 0 1 a4 with
    | inl e => rw [h5] at h; cases h
    | inr r =>
    rw [h5] at h; dsimp only at h
    cases h7 : rdS L f 59 r.2 with
    | inl e => rw [h7] at h; cases h
    | inr a6 =>
    rw [h7] at h
    cases h
    exact ⟨addH_ok hO (by omega) (kOf_ok hk) (wn_up (rdN_wn h1).1 hO.1.1) (rdN_wn h3).1, addH_cn (by omega), by omega⟩
  · rw [if_neg hs] at h; cases h
theorem rdHs_ok {L : Nat} {f : Nat → Int32} : ∀ (n at_ : Nat) (t t2 : m_T), rdHs L f n at_ t = .inr t2 → rOK t → rOK t2
  | 0, _, _, _, h, _ => by cases h
  | n + 1, at_, t, t2, h, hO => by
    unfold rdHs at h
    split at h
    · cases hh : rdH L f at_ t with
      | inl e => rw [hh] at h; cases h
      | inr p => rw [hh] at h; exact rdHs_ok n p.1 p.2 t2 h (rdH_ok hh hO).1
    · cases h; exact hO
theorem rdAll_ok {L : Nat} {f : Nat → Int32} {t : m_T} (h : rdAll L f = .inr t) : rOK t := by
  unfold rdAll at h
  cases hw : rdW L f with
  | inl e => rw [hw] at h; cases h
  | inr p => rw [hw] at h; exact rdHs_ok 7 p.1 p.2 t h (rdW_ok hw).1
theorem opT_ne {t : m_T} {j : Nat} (h : j ≠ 8) : opT t j = t j := upd_ne h
theorem sAtF_8 (t : m_T) (v a b : Int32) : ∀ (n i : Nat), sAtF (upd t 8 v) a b n i = sAtF t a b n i
  | 0, _ => rfl
  | n + 1, i => by
    unfold sAtF
    rw [upd_ne (show (1 : Nat) ≠ 8 by decide), upd_ne (show 15 + i ≠ 8 by omega), upd_ne (show 21 + i ≠ 8 by omega), sAtF_8 t v a b n (i + 1)]
theorem sAt_8 (t : m_T) (a b : Int32) : sAt (opT t) a b = sAt t a b := sAtF_8 t _ a b 6 0
theorem op_or : ∀ c, c < 6 → (nI (2 ^ c - 1) ||| ((1 : Int32) <<< (nI c &&& 31))) = nI (2 ^ (c + 1) - 1) := by decide +kernel
def rdFr : List Nat := [18, 38, 42, 43, 44, 45, 46, 47]
theorem c_X1_clear {SL : Nat} {d : Nat} {Q : Option Int32 → m_G → Prop} {g : m_G} (hQ : ∀ g2, m_fr [38] g g2 → g2 38 9 = 0 → g2 38 10 = 0 → g2 38 11 = 0 → Q none g2) : Sim SL d yX1_clear cX1_clear 1 none 0 [.ref 38] [] g Q := by
  refine s_aload_n (n := 1) dX1_clear_0 rfl rfl rfl ?_
  refine s_iconst (v := 0) (n := 2) dX1_clear_1 rfl (by decide) ?_
  refine s_putz (n := 5) dX1_clear_2 rfl fl_X1_25 rfl rfl (by decide) rfl ?_
  refine s_aload_n (n := 6) dX1_clear_5 rfl rfl rfl ?_
  refine s_iconst (v := 0) (n := 7) dX1_clear_6 rfl (by decide) ?_
  refine s_puti (n := 10) dX1_clear_7 rfl fl_X1_48 rfl rfl rfl ?_
  refine s_aload_n (n := 11) dX1_clear_10 rfl rfl rfl ?_
  refine s_iconst (v := 0) (n := 12) dX1_clear_11 rfl (by decide) ?_
  refine s_puti (n := 15) dX1_clear_12 rfl fl_X1_51 rfl rfl rfl ?_
  refine s_aload_n (n := 16) dX1_clear_15 rfl rfl rfl ?_
  refine s_iconst (v := 0) (n := 17) dX1_clear_16 rfl (by decide) ?_
  refine s_puti (n := 20) dX1_clear_17 rfl fl_X1_54 rfl rfl rfl ?_
  refine s_return dX1_clear_20 rfl ?_
  refine hQ _ (((((m_fr.up (by decide)).up2 (by decide)).up2 (by decide)).up2 (by decide))) ?_ ?_ ?_ <;> simp [m_up_k]
theorem c_X1_addHouse {SL : Nat} {d : Nat} {Q : Option Int32 → m_G → Prop} {g : m_G} {t : m_T} (hR : TW g 38 (opT t)) (hO : rOK t) {c : Nat} (hc : a_cn t = c) (hc6 : c < 6) (kd ti li wa : Int32) (hQ : ∀ g2, m_fr rdFr g g2 → g2 18 = g 18 → TW g2 38 (opT (addH t kd ti li wa)) → Q none g2) : Sim SL (d + 1) yX1_addHouse cX1_addHouse 6 none 0 [.ref 38, .int kd, .int ti, .int li, .int wa, .null] [] g Q := by
  have e1 := (a_cnE hO.1.2.1).1
  rw [hc] at e1
  have eg : g 38 10 = nI c := by rw [hR.1.2.1, opT_ne (by decide)]; exact e1
  have eo : g 38 11 = nI (2 ^ c - 1) := by rw [hR.1.2.2.2.2.2.2.2.2]; unfold opT; rw [upd_eq, hc]
  refine s_aload_n (n := 1) dX1_addHouse_0 rfl rfl rfl ?_
  refine s_geti (n := 4) dX1_addHouse_1 rfl fl_X1_51 rfl rfl ?_
  rw [eg]
  refine s_bipush (v := 6) (n := 6) dX1_addHouse_4 rfl (by decide) ?_
  refine s_icmp_lt (n := 9) (t := 10) dX1_addHouse_6 (by decide) rfl (fun h6 => ?_) (fun h6 => ?_)
  · refine s_aload_n (n := 11) dX1_addHouse_10 rfl rfl rfl ?_
    refine s_getr (k2 := 39) (n := 14) dX1_addHouse_11 rfl fl_X1_11 rfl rfl rfl ?_
    refine s_aload_n (n := 15) dX1_addHouse_14 rfl rfl rfl ?_
    refine s_geti (n := 18) dX1_addHouse_15 rfl fl_X1_51 rfl rfl ?_
    rw [eg]
    refine s_aaload (k2 := 42 + c) (t := 0) c (n := 19) dX1_addHouse_18 rfl rfl (by decide) rfl hc6 rfl ?_
    refine s_astore (n := 21) dX1_addHouse_19 rfl (by decide) rfl rfl ?_
    refine s_aload (n := 23) dX1_addHouse_21 rfl rfl ?_
    refine s_iload_n (n := 24) dX1_addHouse_23 rfl rfl rfl ?_
    refine s_puti (n := 27) dX1_addHouse_24 rfl fl_X1_61 rfl rfl (hbh hb38 hc6) ?_
    refine s_aload (n := 29) dX1_addHouse_27 rfl rfl ?_
    refine s_iload_n (n := 30) dX1_addHouse_29 rfl rfl rfl ?_
    refine s_iload_n (n := 31) dX1_addHouse_30 rfl rfl rfl ?_
    refine s_cv2 (n := 34) dX1_addHouse_31 rfl mo_X2_stand ml_X1_64 (hbh hb38 hc6) (by decide) rfl rfl (Nat.le_of_ble_eq_true rfl) (Nat.le_of_ble_eq_true rfl) (c_X2_stand (hbh hb38 hc6) _ _ ?_)
    dsimp only [m_push]
    refine s_aload (n := 36) dX1_addHouse_34 rfl rfl ?_
    refine s_iload (n := 38) dX1_addHouse_36 rfl rfl ?_
    refine s_puti (n := 41) dX1_addHouse_38 rfl fl_X1_68 rfl rfl (hbh hb38 hc6) ?_
    refine s_aload (n := 43) dX1_addHouse_41 rfl rfl ?_
    refine s_iconst (v := 0) (n := 44) dX1_addHouse_43 rfl (by decide) ?_
    refine s_puti (n := 47) dX1_addHouse_44 rfl fl_X1_71 rfl rfl (hbh hb38 hc6) ?_
    refine s_aload_n (n := 48) dX1_addHouse_47 rfl rfl rfl ?_
    refine s_dup (n := 49) dX1_addHouse_48 rfl rfl ?_
    refine s_geti (n := 52) dX1_addHouse_49 rfl fl_X1_54 rfl rfl ?_
    refine s_iconst (v := 1) (n := 53) dX1_addHouse_52 rfl (by decide) ?_
    refine s_aload_n (n := 54) dX1_addHouse_53 rfl rfl rfl ?_
    refine s_geti (n := 57) dX1_addHouse_54 rfl fl_X1_51 rfl rfl ?_
    refine s_ishl (n := 58) dX1_addHouse_57 rfl ?_
    refine s_ior (n := 59) dX1_addHouse_58 rfl ?_
    refine s_puti (n := 62) dX1_addHouse_59 rfl fl_X1_54 rfl rfl rfl ?_
    refine s_aload_n (n := 63) dX1_addHouse_62 rfl rfl rfl ?_
    refine s_dup (n := 64) dX1_addHouse_63 rfl rfl ?_
    refine s_geti (n := 67) dX1_addHouse_64 rfl fl_X1_51 rfl rfl ?_
    refine s_iconst (v := 1) (n := 68) dX1_addHouse_67 rfl (by decide) ?_
    refine s_iadd (n := 69) dX1_addHouse_68 rfl ?_
    refine s_puti (n := 72) dX1_addHouse_69 rfl fl_X1_51 rfl rfl rfl ?_
    refine s_return dX1_addHouse_72 rfl ?_
    have n38 : (38 : Nat) ≠ 42 + c := by omega
    have n18 : (18 : Nat) ≠ 42 + c := by omega
    refine hQ _ ?_ ?_ ?_
    · refine m_fr.up2 (m_fr.up2 (m_fr.up2 (m_fr.up2 (m_fr.up2 (m_fr.up2 (m_fr.up ?_) ?_) ?_) ?_) ?_) ?_) ?_ <;> simp [rdFr] <;> omega
    · simp [m_up_o n18, m_up_o (show (18 : Nat) ≠ 38 by decide)]
    · have hcn := addH_cn (kd := kd) (ti := ti) (li := li) (wa := wa) (hc.symm ▸ hc6)
      rw [hc] at hcn
      have eA : ∀ j, j ≠ 8 → opT (addH t kd ti li wa) j = addH t kd ti li wa j := fun j hj => opT_ne hj
      have eB : ∀ j, j ≠ 1 → j < 8 → opT (addH t kd ti li wa) j = t j := fun j h1 h2 => by rw [eA j (by omega)]; exact addH_at h1 (by omega) (by omega) (by omega) (by omega)
      have e8 : opT (addH t kd ti li wa) 8 = nI (2 ^ (c + 1) - 1) := by unfold opT; rw [upd_eq, hcn]
      have e11 : opT (addH t kd ti li wa) 1 = nI (c + 1) := by rw [eA 1 (by decide), addH_1, hc]
      obtain ⟨r0, r1, r2, r3, r4, r5, r6, r7, r8⟩ := hR.1
      refine ⟨?_, fun i hi hci => ?_⟩
      · rw [eB 0 (by decide) (by decide), eB 2 (by decide) (by decide), eB 3 (by decide) (by decide), eB 4 (by decide) (by decide), eB 5 (by decide) (by decide), eB 6 (by decide) (by decide), eB 7 (by decide) (by decide), e8, e11]
        rw [opT_ne (by decide)] at r0 r2 r3 r4 r5 r6 r7
        simp only [m_up_k, m_up_o n38, eg, eo]
        refine ⟨r0, ?_, r2, r3, r4, r5, r6, r7, ?_⟩
        · rw [if_pos trivial, if_neg (by decide), nI_1]
        · rw [if_neg (by decide), if_pos trivial]; exact op_or c hc6
      · rw [e11] at hci
        have hile : i ≤ c := by
          rcases Nat.lt_or_ge c i with z | z
          · exact absurd (nI_le (show c + 1 ≤ i by omega) (by omega)) hci
          · exact z
        rw [show 38 + 4 + i = 42 + i by omega]
        have n42 : 42 + i ≠ 38 := by omega
        rw [eA _ (by omega), eA _ (by omega), eA _ (by omega), eA _ (by omega), eA _ (by omega)]
        simp only [m_up_o n42]
        by_cases ei : i = c
        · subst ei
          obtain ⟨a1, a2, a3, a4⟩ := addH_k (t := t) (kd := kd) (ti := ti) (li := li) (wa := wa)
          rw [hc] at a1 a2 a3 a4
          rw [a1, a2, a3, a4, addH_at (by omega) (by omega) (by omega) (by omega) (by omega), hO.2.2.2 _ (by omega)]
          simp [m_up_k]
        · simp only [m_up_o (show 42 + i ≠ 42 + c by omega)]
          rw [addH_at (by omega) (by omega) (by omega) (by omega) (by omega), addH_at (by omega) (by omega) (by omega) (by omega) (by omega), addH_at (by omega) (by omega) (by omega) (by omega) (by omega), addH_at (by omega) (by omega) (by omega) (by omega) (by omega), addH_at (by omega) (by omega) (by omega) (by omega) (by omega)]
          have := hR.2 i hi (by rw [opT_ne (by decide), e1]; exact nI_ge (by omega) (by omega))
          rw [opT_ne (by omega), opT_ne (by omega), opT_ne (by omega), opT_ne (by omega), opT_ne (by omega)] at this
          exact this
  · exact absurd (nI_gt hc6 (by decide)) h6
