/-- it rests so year by year -/
def ftB (u : m_T) (y : Int32) (f : Nat → Int32) (ii : Nat) : Nat → Nat → Bool
  | 0, _ => true
  | n + 1, k => if eC (sR u y (nI k)) = f (ii + k) then ftB u y f ii n (k + 1) else false
def orF (P : Nat → Bool) : Nat → Nat → Int32 → Int32
  | 0, _, x => x
  | n + 1, v, x => orF P n (v + 1) (if P v = true then x ||| a_sh v else x)
def lwLo (w : Nat) : Nat := if w = 2 then 1 else 0
def lwHi (w : Nat) : Nat := if w = 2 then 9 else if w = 3 then 2 else 6
def rlS (t : m_T) (f : Nat → Int32) (ii nn w : Nat) : Int32 := orF (fun v => ftB (upd t (2 + w) (nI v)) (t 7) f ii nn 0) (lwHi w + 1 - lwLo w) (lwLo w) 0
def srS (t : m_T) (f : Nat → Int32) (h ii nn : Nat) : Int32 := orF (fun v => ftB (upd t (9 + h) (nI v)) (t 7) f ii nn 0) 5 1 0
def sp_rolls (a : a_S) (r i n w : Int32) : Int32 × a_S := match a_hill a with
  | none => (-1000002, a)
  | some t => if wn r 0 7 then (if wn n 1 16 then (if wn w 0 3 then (match a_rows a r.toNatClampNeg with
    | none => (-1000011, u_find a 1)
    | some q => if sp_rch (nI q.2.1) i n then (rlS t q.2.2 i.toNatClampNeg n.toNatClampNeg w.toNatClampNeg, u_find a 0) else (-1000012, u_find a 2)) else (-1000001, a)) else (-1000001, a)) else (-1000001, a)
def sp_sorts (a : a_S) (h r i n : Int32) : Int32 × a_S := if wn h 0 (a_H a 1 - 1) then (if wn r 0 7 then (if wn n 1 16 then (match a_rows a r.toNatClampNeg with
    | none => (-1000011, u_find a 1)
    | some q => if sp_rch (nI q.2.1) i n then (srS (a_H a) q.2.2 h.toNatClampNeg i.toNatClampNeg n.toNatClampNeg, u_find a 0) else (-1000012, u_find a 2)) else (-1000001, a)) else (-1000001, a)) else (-1000001, a)
theorem upd_b {t : m_T} {k : Nat} (v w : Int32) : upd (upd t k v) k w = upd t k w := upd_upd t k v w
theorem a_TK.lw {t : m_T} (h : a_TK t) {w v : Nat} (hw : w < 4) (h1 : lwLo w ≤ v) (h2 : v ≤ lwHi w) : a_TK (upd t (2 + w) (nI v)) := by
  obtain ⟨h0, h1', h2', h3, h4, h5, h6, h7, h8⟩ := h
  have e : ∀ j, j ≠ 2 + w → upd t (2 + w) (nI v) j = t j := fun j hj => upd_ne hj
  unfold a_TK
  rw [e 0 (by omega), e 1 (by omega), e 6 (by omega), e 7 (by omega)]
  have hl : ∀ i, i < 6 → ¬ t 1 ≤ nI i → kOK (upd t (2 + w) (nI v) (9 + i)) ∧ wn (upd t (2 + w) (nI v) (15 + i)) 1 9 ∧ wn (upd t (2 + w) (nI v) (21 + i)) 0 6 := fun i hi hc => by
    rw [e _ (by omega), e _ (by omega), e _ (by omega)]; exact h8 i hi hc
  rcases (show w = 0 ∨ w = 1 ∨ w = 2 ∨ w = 3 by omega) with rfl | rfl | rfl | rfl
  · rw [e 3 (by omega), e 4 (by omega), e 5 (by omega)]
    exact ⟨h0, h1', by show wn (upd t 2 _ 2) 0 6; rw [upd_eq]; exact wn06 h2, h3, h4, h5, h6, h7, hl⟩
  · rw [e 2 (by omega), e 4 (by omega), e 5 (by omega)]
    exact ⟨h0, h1', h2', by show wn (upd t 3 _ 3) 0 6; rw [upd_eq]; exact wn06 h2, h4, h5, h6, h7, hl⟩
  · rw [e 2 (by omega), e 3 (by omega), e 5 (by omega)]
    exact ⟨h0, h1', h2', h3, by show wn (upd t 4 _ 4) 1 9; rw [upd_eq]; exact wn19 h1 h2, h5, h6, h7, hl⟩
  · rw [e 2 (by omega), e 3 (by omega), e 4 (by omega)]
    exact ⟨h0, h1', h2', h3, h4, by show wn (upd t 5 _ 5) 0 2; rw [upd_eq]; exact wn_nI (n := 2) rfl h2 (by decide), h6, h7, hl⟩
theorem a_TK.kn {t : m_T} (h : a_TK t) {i v : Nat} (hi : i < 6) (h1 : 1 ≤ v) (h2 : v ≤ 5) : a_TK (upd t (9 + i) (nI v)) := by
  obtain ⟨h0, h1', h2', h3, h4, h5, h6, h7, h8⟩ := h
  have e : ∀ j, j ≠ 9 + i → upd t (9 + i) (nI v) j = t j := fun j hj => upd_ne hj
  unfold a_TK
  rw [e 0 (by omega), e 1 (by omega), e 2 (by omega), e 3 (by omega), e 4 (by omega), e 5 (by omega), e 6 (by omega), e 7 (by omega)]
  refine ⟨h0, h1', h2', h3, h4, h5, h6, h7, fun q hq hc => ?_⟩
  rw [e (15 + q) (by omega), e (21 + q) (by omega)]
  refine ⟨?_, (h8 q hq hc).2⟩
  by_cases z : q = i
  · subst z
    rw [upd_eq]
    rcases (show v = 1 ∨ v = 2 ∨ v = 3 ∨ v = 4 ∨ v = 5 by omega) with rfl | rfl | rfl | rfl | rfl
    · exact Or.inl rfl
    · exact Or.inr (Or.inl rfl)
    · exact Or.inr (Or.inr (Or.inl rfl))
    · exact Or.inr (Or.inr (Or.inr (Or.inl rfl)))
    · exact Or.inr (Or.inr (Or.inr (Or.inr rfl)))
  · rw [e (9 + q) (by omega)]; exact (h8 q hq hc).1
theorem TW.lw {g : m_G} {k : Nat} {t : m_T} (h : TW g k t) {w : Nat} (hw : w < 4) (v : Int32) : TW (m_up g k (3 + (1 + w)) v) k (upd t (2 + w) v) := by
  rcases (show w = 0 ∨ w = 1 ∨ w = 2 ∨ w = 3 by omega) with rfl | rfl | rfl | rfl
  · exact h.start v
  · exact h.drift v
  · exact h.speed v
  · exact h.tend v
theorem K_S.lo {g : m_G} (h : K_S g) {w : Nat} (hw : w < 4) : g 202 (1 + w) = nI (lwLo w) ∧ g 203 (1 + w) = nI (lwHi w) ∧ g 91 w = nI (lwHi w) ∧ g 90 w = nI (2 + w) := by
  obtain ⟨_, h2, h3, _, _, _, _, _, h9, h10⟩ := h
  rw [h2 (1 + w) (by simp; omega), h3 (1 + w) (by simp; omega), h9 w (by simpa using hw), h10 w (by simpa using hw)]
  rcases (show w = 0 ∨ w = 1 ∨ w = 2 ∨ w = 3 by omega) with rfl | rfl | rfl | rfl <;> exact ⟨rfl, rfl, rfl, rfl⟩
theorem lw_b {w : Nat} (hw : w < 4) : lwLo w ≤ 1 ∧ lwHi w ≤ 9 ∧ 2 ≤ lwHi w := by
  unfold lwLo lwHi
  refine ⟨?_, ?_, ?_⟩ <;> repeat' split
  all_goals omega
theorem eCM1 {o : Option Nat} (ho : ∀ i, o = some i → i < 6) (h : eM o = -1000000) : eC o = -1 := by
  rw [(eM_none ho).mp h]; rfl
theorem eCM2 {o : Option Nat} (h : ¬ eM o = -1000000) : eC o = eM o := by
  cases o with
  | none => exact absurd rfl h
  | some i => rfl
theorem wn03 {w : Int32} (h : wn w 0 3) : ∃ j : Nat, j < 4 ∧ w = nI j := by
  obtain ⟨j, hj, e⟩ := wn_ex (n := 3) h rfl
  exact ⟨j, by omega, e⟩
theorem c_X1_putLaw {SL : Nat} {d : Nat} {Q : Option Int32 → m_G → Prop} {g : m_G} {k : Nat} (hk : m_hb k) (p : Nat) (hp : p < 6) (v : Int32) (hQ : Q none (m_up g k (3 + p) v)) : Sim SL d yX1_putLaw cX1_putLaw 3 none 0 [.ref k, .int (nI p), .int v] [] g Q := by
  rcases (show p = 0 ∨ p = 1 ∨ p = 2 ∨ p = 3 ∨ p = 4 ∨ p = 5 by omega) with rfl | rfl | rfl | rfl | rfl | rfl
  · refine s_iload_n (n := 1) dX1_putLaw_0 rfl rfl rfl ?_
    refine s_tsw_in (t := 36) dX1_putLaw_1 (by decide) (by decide) rfl (by decide) ?_
    refine s_aload_n (n := 37) dX1_putLaw_36 rfl rfl rfl ?_
    refine s_iload_n (n := 38) dX1_putLaw_37 rfl rfl rfl ?_
    refine s_puti (n := 41) dX1_putLaw_38 rfl fl_X1_29 rfl rfl (hb0 hk) ?_
    refine s_goto (t := 81) dX1_putLaw_41 (by decide) ?_
    refine s_return dX1_putLaw_81 rfl ?_
    exact hQ
  · refine s_iload_n (n := 1) dX1_putLaw_0 rfl rfl rfl ?_
    refine s_tsw_in (t := 44) dX1_putLaw_1 (by decide) (by decide) rfl (by decide) ?_
    refine s_aload_n (n := 45) dX1_putLaw_44 rfl rfl rfl ?_
    refine s_iload_n (n := 46) dX1_putLaw_45 rfl rfl rfl ?_
    refine s_puti (n := 49) dX1_putLaw_46 rfl fl_X1_33 rfl rfl (hb0 hk) ?_
    refine s_goto (t := 81) dX1_putLaw_49 (by decide) ?_
    refine s_return dX1_putLaw_81 rfl ?_
    exact hQ
  · refine s_iload_n (n := 1) dX1_putLaw_0 rfl rfl rfl ?_
    refine s_tsw_in (t := 52) dX1_putLaw_1 (by decide) (by decide) rfl (by decide) ?_
    refine s_aload_n (n := 53) dX1_putLaw_52 rfl rfl rfl ?_
    refine s_iload_n (n := 54) dX1_putLaw_53 rfl rfl rfl ?_
    refine s_puti (n := 57) dX1_putLaw_54 rfl fl_X1_36 rfl rfl (hb0 hk) ?_
    refine s_goto (t := 81) dX1_putLaw_57 (by decide) ?_
    refine s_return dX1_putLaw_81 rfl ?_
    exact hQ
  · refine s_iload_n (n := 1) dX1_putLaw_0 rfl rfl rfl ?_
    refine s_tsw_in (t := 60) dX1_putLaw_1 (by decide) (by decide) rfl (by decide) ?_
    refine s_aload_n (n := 61) dX1_putLaw_60 rfl rfl rfl ?_
    refine s_iload_n (n := 62) dX1_putLaw_61 rfl rfl rfl ?_
    refine s_puti (n := 65) dX1_putLaw_62 rfl fl_X1_39 rfl rfl (hb0 hk) ?_
    refine s_goto (t := 81) dX1_putLaw_65 (by decide) ?_
    refine s_return dX1_putLaw_81 rfl ?_
    exact hQ
  · refine s_iload_n (n := 1) dX1_putLaw_0 rfl rfl rfl ?_
    refine s_tsw_in (t := 68) dX1_putLaw_1 (by decide) (by decide) rfl (by decide) ?_
    refine s_aload_n (n := 69) dX1_putLaw_68 rfl rfl rfl ?_
    refine s_iload_n (n := 70) dX1_putLaw_69 rfl rfl rfl ?_
    refine s_puti (n := 73) dX1_putLaw_70 rfl fl_X1_42 rfl rfl (hb0 hk) ?_
    refine s_goto (t := 81) dX1_putLaw_73 (by decide) ?_
    refine s_return dX1_putLaw_81 rfl ?_
    exact hQ
  · refine s_iload_n (n := 1) dX1_putLaw_0 rfl rfl rfl ?_
    refine s_tsw_out (t := 76) dX1_putLaw_1 (by decide) (by decide) ?_
    refine s_aload_n (n := 77) dX1_putLaw_76 rfl rfl rfl ?_
    refine s_iload_n (n := 78) dX1_putLaw_77 rfl rfl rfl ?_
    refine s_puti (n := 81) dX1_putLaw_78 rfl fl_X1_45 rfl rfl (hb0 hk) ?_
    refine s_return dX1_putLaw_81 rfl ?_
    exact hQ
theorem lp_X5_fits {SL d : Nat} {Q : Option Int32 → m_G → Prop} {u : m_T} (hK : a_TK u) {j : Nat} (hj : j < 8) {f : Nat → Int32} {ii nn : Nat} (hin : ii + nn ≤ 40) : ∀ (n k : Nat) (g : m_G), k + n = nn → TW g 68 u → (∀ i, i < 40 → g (10 + j) i = f i) → (ftB u (u 7) f ii n k = true → ∀ g2, m_fr [70, 71] g g2 → Q (some 1) g2) → (ftB u (u 7) f ii n k = false → ∀ g2, m_fr [70, 71] g g2 → Q (some 0) g2) → Sim SL (d + 5) yX5_fits cX5_fits 5 (some .boolean) 3 [.ref 24, .ref (2 + j), .int (nI ii), .int (nI nn), .int (nI k)] [] g Q := by
  intro n
  induction n with
  | zero =>
    intro k g hkn hR hF hQ1 hQ0
    have hk : k = nn := by omega
    subst hk
    refine s_iload (n := 5) dX5_fits_3 rfl rfl ?_
    refine s_iload_n (n := 6) dX5_fits_5 rfl rfl rfl ?_
    refine s_icmp_ge (n := 9) (t := 38) dX5_fits_6 (by decide) rfl (fun h6 => ?_) (fun h6 => ?_)
    · refine s_iconst (v := 1) (n := 39) dX5_fits_38 rfl (by decide) ?_
      refine s_ireturn dX5_fits_39 rfl (by decide +kernel) ?_
      exact hQ1 rfl g m_fr.rf
    · exact absurd (nI_le (Nat.le_refl _) (by omega)) h6
  | succ n ih =>
    intro k g hkn hR hF hQ1 hQ0
    have hk : k < nn := by omega
    refine s_iload (n := 5) dX5_fits_3 rfl rfl ?_
    refine s_iload_n (n := 6) dX5_fits_5 rfl rfl rfl ?_
    refine s_icmp_ge (n := 9) (t := 38) dX5_fits_6 (by decide) rfl (fun h6 => ?_) (fun h6 => ?_)
    · exact absurd h6 (nI_ge hk (by omega))
    · refine s_aload_n (n := 10) dX5_fits_9 rfl rfl rfl ?_
      refine s_getr (k2 := 68) (n := 13) dX5_fits_10 rfl fl_X5_12 rfl rfl rfl ?_
      refine s_iload (n := 15) dX5_fits_13 rfl rfl ?_
      refine s_cv1 (n := 18) dX5_fits_15 rfl mo_X1_restIn ml_X5_36 rfl (by decide) rfl rfl (Nat.le_of_ble_eq_true rfl) (Nat.le_of_ble_eq_true rfl) (c_X1_restIn hb68 hR hK.t0 hK.t1 hK.t6 _ (hK.top (wn60 (by omega))) (fun g2 hf _ _ _ => ?_))
      have e9 : g2 (2 + j + 8) (ii + k) = f (ii + k) := by rw [hf _ (by simp; omega), show 2 + j + 8 = 10 + j by omega]; exact hF _ (by omega)
      dsimp only [m_push]
      refine s_aload_n (n := 19) dX5_fits_18 rfl rfl rfl ?_
      refine s_getr (k2 := 2 + j + 8) (n := 22) dX5_fits_19 rfl fl_X5_98 rfl (rw0 hj) rfl ?_
      refine s_iload_n (n := 23) dX5_fits_22 rfl rfl rfl ?_
      refine s_iload (n := 25) dX5_fits_23 rfl rfl ?_
      refine s_iadd (n := 26) dX5_fits_25 rfl ?_
      refine s_iaload (ii + k) (n := 27) dX5_fits_26 rfl (rw8 hj) (by rw [nI_add]) (by omega) ?_
      rw [e9]
      refine s_icmp_eq (n := 30) (t := 32) dX5_fits_27 (by decide) rfl (fun h27 => ?_) (fun h27 => ?_)
      · refine s_iinc (n := 35) (v := nI (k + 1)) dX5_fits_32 rfl (by decide) rfl rfl (nI_1 k) rfl ?_
        refine s_goto (t := 3) dX5_fits_35 (by decide) ?_
        have e : ftB u (u 7) f ii (n + 1) k = ftB u (u 7) f ii n (k + 1) := by
          conv => lhs; unfold ftB
          exact if_pos h27
        rw [e] at hQ0 hQ1
        exact ih (k + 1) g2 (by omega) (hR.fr hf) (fun i hi => by rw [hf _ (by simp; omega)]; exact hF i hi) (fun z g3 hf3 => hQ1 z g3 (hf.tr hf3)) (fun z g3 hf3 => hQ0 z g3 (hf.tr hf3))
      · refine s_iconst (v := 0) (n := 31) dX5_fits_30 rfl (by decide) ?_
        refine s_ireturn dX5_fits_31 rfl (by decide +kernel) ?_
        refine hQ0 ?_ g2 hf
        unfold ftB
        exact if_neg h27
theorem c_X5_fits {SL : Nat} {d : Nat} {Q : Option Int32 → m_G → Prop} {g : m_G} {u : m_T} (hR : TW g 68 u) (hK : a_TK u) {y : Int32} (hy : u 7 = y) {j : Nat} (hj : j < 8) {f : Nat → Int32} (hF : ∀ i, i < 40 → g (10 + j) i = f i) {ii nn : Nat} (hin : ii + nn ≤ 40) (k1 : ftB u y f ii nn 0 = true → ∀ g2, m_fr [70, 71] g g2 → Q (some 1) g2) (k0 : ftB u y f ii nn 0 = false → ∀ g2, m_fr [70, 71] g g2 → Q (some 0) g2) : Sim SL (d + 5) yX5_fits cX5_fits 5 (some .boolean) 0 [.ref 24, .ref (2 + j), .int (nI ii), .int (nI nn), .null] [] g Q := by
  refine s_iconst (v := 0) (n := 1) dX5_fits_0 rfl (by decide) ?_
  refine s_istore (n := 3) dX5_fits_1 rfl (by decide) rfl rfl ?_
  subst hy
  exact lp_X5_fits hK hj hin nn 0 g (by omega) hR hF k1 k0
theorem lp_X5_lawsThatFit {SL d : Nat} {Q : Option Int32 → m_G → Prop} {t : m_T} (hK : a_TK t) {w : Nat} (hw : w < 4) {j : Nat} (hj : j < 8) {f : Nat → Int32} {ii nn : Nat} (hin : ii + nn ≤ 40) : ∀ (n v : Nat) (g : m_G) (x : Int32), v + n = lwHi w + 1 → lwLo w ≤ v → g 203 (1 + w) = nI (lwHi w) → (∀ i, i < 40 → g (10 + j) i = f i) → (∃ v0, TW g 68 (upd t (2 + w) v0)) → (∀ g2, m_fr m_scr g g2 → Q (some (orF (fun v => ftB (upd t (2 + w) (nI v)) (t 7) f ii nn 0) n v x)) g2) → Sim SL (d + 6) yX5_lawsThatFit cX5_lawsThatFit 9 (some .int) 42 [.ref 24, .ref 28, .int (nI w), .ref (2 + j), .int (nI ii), .int (nI nn), .int x, .int (nI (1 + w)), .int (nI v)] [] g Q := by
  have hb := lw_b hw
  intro n
  induction n with
  | zero =>
    intro v g x hvn hlv hMo hF hR0 hQ
    refine s_iload (n := 44) dX5_lawsThatFit_42 rfl rfl ?_
    refine s_getstatic (k := 203) (n := 47) dX5_lawsThatFit_44 rfl (List.mem_of_getElem? (i := 2) rfl) fs_X5_85 ?_
    refine s_iload (n := 49) dX5_lawsThatFit_47 rfl rfl ?_
    refine s_tload (1 + w) (n := 50) dX5_lawsThatFit_49 rfl (List.mem_of_getElem? (i := 3) rfl) (by decide) rfl (by omega) ?_
    rw [hMo]
    refine s_icmp_gt (n := 53) (t := 91) dX5_lawsThatFit_50 (by decide) rfl (fun h50 => ?_) (fun h50 => ?_)
    · refine s_iload (n := 93) dX5_lawsThatFit_91 rfl rfl ?_
      refine s_ireturn dX5_lawsThatFit_93 rfl rfl ?_
      exact hQ g m_fr.rf
    · exact absurd (nI_gt (show lwHi w < v by omega) (by omega)) h50
  | succ n ih =>
    intro v g x hvn hlv hMo hF hR0 hQ
    obtain ⟨v0, hR⟩ := hR0
    refine s_iload (n := 44) dX5_lawsThatFit_42 rfl rfl ?_
    refine s_getstatic (k := 203) (n := 47) dX5_lawsThatFit_44 rfl (List.mem_of_getElem? (i := 2) rfl) fs_X5_85 ?_
    refine s_iload (n := 49) dX5_lawsThatFit_47 rfl rfl ?_
    refine s_tload (1 + w) (n := 50) dX5_lawsThatFit_49 rfl (List.mem_of_getElem? (i := 3) rfl) (by decide) rfl (by omega) ?_
    rw [hMo]
    refine s_icmp_gt (n := 53) (t := 91) dX5_lawsThatFit_50 (by decide) rfl (fun h50 => ?_) (fun h50 => ?_)
    · exact absurd h50 (nI_nlt (show v ≤ lwHi w by omega) (by omega))
    · refine s_aload_n (n := 54) dX5_lawsThatFit_53 rfl rfl rfl ?_
      refine s_getr (k2 := 68) (n := 57) dX5_lawsThatFit_54 rfl fl_X5_12 rfl rfl rfl ?_
      refine s_iload (n := 59) dX5_lawsThatFit_57 rfl rfl ?_
      refine s_iload (n := 61) dX5_lawsThatFit_59 rfl rfl ?_
      refine s_cv2 (n := 64) dX5_lawsThatFit_61 rfl mo_X1_putLaw ml_X5_88 rfl (by decide) rfl rfl (Nat.le_of_ble_eq_true rfl) (Nat.le_of_ble_eq_true rfl) (c_X1_putLaw hb68 (1 + w) (by omega) _ ?_)
      have hR2 : TW (m_up g 68 (3 + (1 + w)) (nI v)) 68 (upd t (2 + w) (nI v)) := by
        have := hR.lw hw (nI v)
        rw [upd_upd] at this
        exact this
      have hK2 := hK.lw hw hlv (show v ≤ lwHi w by omega)
      unfold orF at hQ
      dsimp only [m_push]
      refine s_aload_n (n := 65) dX5_lawsThatFit_64 rfl rfl rfl ?_
      refine s_aload_n (n := 66) dX5_lawsThatFit_65 rfl rfl rfl ?_
      refine s_iload (n := 68) dX5_lawsThatFit_66 rfl rfl ?_
      refine s_iload (n := 70) dX5_lawsThatFit_68 rfl rfl ?_
      refine s_cv3 (n := 73) dX5_lawsThatFit_70 rfl mo_X5_fits ml_X5_91 rfl (by decide) rfl rfl (Nat.le_of_ble_eq_true rfl) (Nat.le_of_ble_eq_true rfl) (c_X5_fits hR2 hK2 (y := t 7) (upd_ne (by omega)) hj (f := f) (fun i hi => by rw [m_up_o (by omega)]; exact hF i hi) hin (fun hb70 => ?_) (fun hb70 => ?_))
      · dsimp only [m_push]
        intro g2 hf
        have hfr : m_fr m_scr g g2 := (m_fr.up (by decide)).tr (hf.mono (by decide))
        refine s_if_eq (n := 76) (t := 85) dX5_lawsThatFit_73 (by decide) rfl (fun h => absurd h (by decide)) (fun _ => ?_)
        refine s_iload (n := 78) dX5_lawsThatFit_76 rfl rfl ?_
        refine s_iconst (v := 1) (n := 79) dX5_lawsThatFit_78 rfl (by decide) ?_
        refine s_iload (n := 81) dX5_lawsThatFit_79 rfl rfl ?_
        refine s_ishl (n := 82) dX5_lawsThatFit_81 rfl ?_
        refine s_ior (n := 83) dX5_lawsThatFit_82 rfl ?_
        refine s_istore (n := 85) dX5_lawsThatFit_83 rfl (by decide) rfl rfl ?_
        refine s_iinc (n := 88) (v := nI (v + 1)) dX5_lawsThatFit_85 rfl (by decide) rfl rfl (nI_1 v) rfl ?_
        refine s_goto (t := 42) dX5_lawsThatFit_88 (by decide) ?_
        rw [if_pos hb70] at hQ
        exact ih (v + 1) g2 _ (by omega) (by omega) (by rw [hfr 203 (by decide)]; exact hMo) (fun i hi => by rw [hfr _ (by simp [m_scr]; omega)]; exact hF i hi) ⟨_, hR2.fr hf⟩ (fun g3 hf3 => hQ g3 (hfr.tr hf3))
      · dsimp only [m_push]
        intro g2 hf
        have hfr : m_fr m_scr g g2 := (m_fr.up (by decide)).tr (hf.mono (by decide))
        refine s_if_eq (n := 76) (t := 85) dX5_lawsThatFit_73 (by decide) rfl (fun _ => ?_) (fun h => absurd h (by decide))
        refine s_iinc (n := 88) (v := nI (v + 1)) dX5_lawsThatFit_85 rfl (by decide) rfl rfl (nI_1 v) rfl ?_
        refine s_goto (t := 42) dX5_lawsThatFit_88 (by decide) ?_
        rw [if_neg (by rw [hb70]; decide)] at hQ
        exact ih (v + 1) g2 _ (by omega) (by omega) (by rw [hfr 203 (by decide)]; exact hMo) (fun i hi => by rw [hfr _ (by simp [m_scr]; omega)]; exact hF i hi) ⟨_, hR2.fr hf⟩ (fun g3 hf3 => hQ g3 (hfr.tr hf3))
theorem c_X5_lawsThatFit {SL : Nat} {d : Nat} {Q : Option Int32 → m_G → Prop} {g : m_G} (hKS : K_S g) {t : m_T} (hT : TW g 28 t) (h2 : g 28 2 = 1) (hK : a_TK t) {w : Nat} (hw : w < 4) {j : Nat} (hj : j < 8) {f : Nat → Int32} (hF : ∀ i, i < 40 → g (10 + j) i = f i) {ii nn : Nat} (hin : ii + nn ≤ 40) (hQ : ∀ g2, m_fr m_scr g g2 → Q (some (rlS t f ii nn w)) g2) : Sim SL (d + 6) yX5_lawsThatFit cX5_lawsThatFit 9 (some .int) 0 [.ref 24, .ref 28, .int (nI w), .ref (2 + j), .int (nI ii), .int (nI nn), .null, .null, .null] [] g Q := by
  refine s_aload_n (n := 1) dX5_lawsThatFit_0 rfl rfl rfl ?_
  refine s_getr (k2 := 68) (n := 4) dX5_lawsThatFit_1 rfl fl_X5_12 rfl rfl rfl ?_
  refine s_aload_n (n := 5) dX5_lawsThatFit_4 rfl rfl rfl ?_
  refine s_cv1 (n := 8) dX5_lawsThatFit_5 rfl mo_X1_become ml_X5_18 rfl (by decide) rfl rfl (Nat.le_of_ble_eq_true rfl) (Nat.le_of_ble_eq_true rfl) (c_X1_become hb68 hb28 (by decide) (Or.inr h2) (fun g1 hf1 hE => ?_))
  have hfr1 : m_fr m_scr g g1 := hf1.mono (by decide)
  have hT1 := hE.TW hT
  dsimp only [m_push]
  refine s_iconst (v := 0) (n := 9) dX5_lawsThatFit_8 rfl (by decide) ?_
  refine s_istore (n := 11) dX5_lawsThatFit_9 rfl (by decide) rfl rfl ?_
  refine s_iconst (v := 1) (n := 12) dX5_lawsThatFit_11 rfl (by decide) ?_
  refine s_iload_n (n := 13) dX5_lawsThatFit_12 rfl rfl rfl ?_
  refine s_iadd (n := 14) dX5_lawsThatFit_13 rfl ?_
  rw [show (1 : Int32) + nI w = nI (1 + w) by rw [show (1 : Int32) = nI 1 from rfl, nI_add]]
  refine s_istore (n := 16) dX5_lawsThatFit_14 rfl (by decide) rfl rfl ?_
  refine s_iload (n := 18) dX5_lawsThatFit_16 rfl rfl ?_
  refine s_iconst (v := 0) (n := 19) dX5_lawsThatFit_18 rfl (by decide) ?_
  refine s_getstatic (k := 202) (n := 22) dX5_lawsThatFit_19 rfl (List.mem_of_getElem? (i := 1) rfl) fs_X5_77 ?_
  refine s_tlen (n := 23) dX5_lawsThatFit_22 rfl (List.mem_of_getElem? (i := 2) rfl) rfl ?_
  refine s_iconst (v := 1) (n := 24) dX5_lawsThatFit_23 rfl (by decide) ?_
  refine s_isub (n := 25) dX5_lawsThatFit_24 rfl ?_
  refine s_cs3 (n := 28) dX5_lawsThatFit_25 rfl mo_X8_within ml_X5_81 rfl (Nat.le_of_ble_eq_true rfl) (Nat.le_of_ble_eq_true rfl) (c_X8_within _ _ _ (fun hb25 => ?_) (fun hb25 => ?_))
  · dsimp only [m_push]
    refine s_if_ne (n := 31) (t := 34) dX5_lawsThatFit_28 (by decide) rfl (fun _ => ?_) (fun h => absurd h (by decide))
    refine s_getstatic (k := 202) (n := 37) dX5_lawsThatFit_34 rfl (List.mem_of_getElem? (i := 1) rfl) fs_X5_77 ?_
    refine s_iload (n := 39) dX5_lawsThatFit_37 rfl rfl ?_
    refine s_tload (1 + w) (n := 40) dX5_lawsThatFit_39 rfl (List.mem_of_getElem? (i := 2) rfl) (by decide) rfl (by omega) ?_
    have hlo := K_S.lo (hKS.c (hfr1.FC (by decide))) hw
    rw [hlo.1]
    refine s_istore (n := 42) dX5_lawsThatFit_40 rfl (by decide) rfl rfl ?_
    have hb := lw_b hw
    exact lp_X5_lawsThatFit hK hw hj hin (lwHi w + 1 - lwLo w) (lwLo w) g1 0 (by omega) (Nat.le_refl _) hlo.2.1 (fun i hi => by rw [hfr1 _ (by simp [m_scr]; omega)]; exact hF i hi) ⟨t (2 + w), by rw [upd_self]; exact hT1⟩ (fun g3 hf3 => hQ g3 (hfr1.tr hf3))
  · dsimp only [m_push]
    exact absurd (wn_nI (n := 5) (M := 6 - 1) rfl (by omega) (by decide)) hb25
theorem lp_X5_kindsThatFit {SL d : Nat} {Q : Option Int32 → m_G → Prop} {t : m_T} (hK : a_TK t) {h : Nat} (hh : h < 6) {j : Nat} (hj : j < 8) {f : Nat → Int32} {ii nn : Nat} (hin : ii + nn ≤ 40) : ∀ (n v : Nat) (g : m_G) (x : Int32), v + n = 6 → 1 ≤ v → (∀ i, i < 40 → g (10 + j) i = f i) → (∃ v0, TW g 68 (upd t (9 + h) v0)) → (∀ g2, m_fr m_scr g g2 → Q (some (orF (fun v => ftB (upd t (9 + h) (nI v)) (t 7) f ii nn 0) n v x)) g2) → Sim SL (d + 6) yX5_kindsThatFit cX5_kindsThatFit 8 (some .int) 14 [.ref 24, .ref 28, .int (nI h), .ref (2 + j), .int (nI ii), .int (nI nn), .int x, .int (nI v)] [] g Q := by
  intro n
  induction n with
  | zero =>
    intro v g x hvn h1v hF hR0 hQ
    have hv : v = 6 := by omega
    subst hv
    refine s_iload (n := 16) dX5_kindsThatFit_14 rfl rfl ?_
    refine s_iconst (v := 5) (n := 17) dX5_kindsThatFit_16 rfl (by decide) ?_
    refine s_icmp_gt (n := 20) (t := 61) dX5_kindsThatFit_17 (by decide) rfl (fun h17 => ?_) (fun h17 => ?_)
    · refine s_iload (n := 63) dX5_kindsThatFit_61 rfl rfl ?_
      refine s_ireturn dX5_kindsThatFit_63 rfl rfl ?_
      exact hQ g m_fr.rf
    · exact absurd (by decide) h17
  | succ n ih =>
    intro v g x hvn h1v hF hR0 hQ
    obtain ⟨v0, hR⟩ := hR0
    refine s_iload (n := 16) dX5_kindsThatFit_14 rfl rfl ?_
    refine s_iconst (v := 5) (n := 17) dX5_kindsThatFit_16 rfl (by decide) ?_
    refine s_icmp_gt (n := 20) (t := 61) dX5_kindsThatFit_17 (by decide) rfl (fun h17 => ?_) (fun h17 => ?_)
    · exact absurd h17 (nI_nlt (show v ≤ 5 by omega) (by decide))
    · refine s_aload_n (n := 21) dX5_kindsThatFit_20 rfl rfl rfl ?_
      refine s_getr (k2 := 68) (n := 24) dX5_kindsThatFit_21 rfl fl_X5_12 rfl rfl rfl ?_
      refine s_getr (k2 := 69) (n := 27) dX5_kindsThatFit_24 rfl fl_X5_39 rfl rfl rfl ?_
      refine s_iload_n (n := 28) dX5_kindsThatFit_27 rfl rfl rfl ?_
      refine s_aaload (k2 := 72 + h) (t := 0) h (n := 29) dX5_kindsThatFit_28 rfl rfl (by decide) rfl hh rfl ?_
      refine s_iload (n := 31) dX5_kindsThatFit_29 rfl rfl ?_
      refine s_puti (n := 34) dX5_kindsThatFit_31 rfl fl_X5_95 rfl rfl (hbh hb68 hh) ?_
      have hR2 : TW (m_up g (72 + h) 0 (nI v)) 68 (upd t (9 + h) (nI v)) := by
        have := hR.kind hh (nI v)
        rw [upd_upd] at this
        exact this
      have hK2 := hK.kn hh h1v (show v ≤ 5 by omega)
      unfold orF at hQ
      refine s_aload_n (n := 35) dX5_kindsThatFit_34 rfl rfl rfl ?_
      refine s_aload_n (n := 36) dX5_kindsThatFit_35 rfl rfl rfl ?_
      refine s_iload (n := 38) dX5_kindsThatFit_36 rfl rfl ?_
      refine s_iload (n := 40) dX5_kindsThatFit_38 rfl rfl ?_
      refine s_cv3 (n := 43) dX5_kindsThatFit_40 rfl mo_X5_fits ml_X5_91 rfl (by decide) rfl rfl (Nat.le_of_ble_eq_true rfl) (Nat.le_of_ble_eq_true rfl) (c_X5_fits hR2 hK2 (y := t 7) (upd_ne (by omega)) hj (f := f) (fun i hi => by rw [m_up_o (by omega)]; exact hF i hi) hin (fun hb40 => ?_) (fun hb40 => ?_))
      · dsimp only [m_push]
        intro g2 hf
        have hfr : m_fr m_scr g g2 := (m_fr.up (by simp [m_scr]; omega)).tr (hf.mono (by decide))
        refine s_if_eq (n := 46) (t := 55) dX5_kindsThatFit_43 (by decide) rfl (fun h => absurd h (by decide)) (fun _ => ?_)
        refine s_iload (n := 48) dX5_kindsThatFit_46 rfl rfl ?_
        refine s_iconst (v := 1) (n := 49) dX5_kindsThatFit_48 rfl (by decide) ?_
        refine s_iload (n := 51) dX5_kindsThatFit_49 rfl rfl ?_
        refine s_ishl (n := 52) dX5_kindsThatFit_51 rfl ?_
        refine s_ior (n := 53) dX5_kindsThatFit_52 rfl ?_
        refine s_istore (n := 55) dX5_kindsThatFit_53 rfl (by decide) rfl rfl ?_
        refine s_iinc (n := 58) (v := nI (v + 1)) dX5_kindsThatFit_55 rfl (by decide) rfl rfl (nI_1 v) rfl ?_
        refine s_goto (t := 14) dX5_kindsThatFit_58 (by decide) ?_
        rw [if_pos hb40] at hQ
        exact ih (v + 1) g2 _ (by omega) (by omega) (fun i hi => by rw [hfr _ (by simp [m_scr]; omega)]; exact hF i hi) ⟨_, hR2.fr hf⟩ (fun g3 hf3 => hQ g3 (hfr.tr hf3))
      · dsimp only [m_push]
        intro g2 hf
        have hfr : m_fr m_scr g g2 := (m_fr.up (by simp [m_scr]; omega)).tr (hf.mono (by decide))
        refine s_if_eq (n := 46) (t := 55) dX5_kindsThatFit_43 (by decide) rfl (fun _ => ?_) (fun h => absurd h (by decide))
        refine s_iinc (n := 58) (v := nI (v + 1)) dX5_kindsThatFit_55 rfl (by decide) rfl rfl (nI_1 v) rfl ?_
        refine s_goto (t := 14) dX5_kindsThatFit_58 (by decide) ?_
        rw [if_neg (by rw [hb40]; decide)] at hQ
        exact ih (v + 1) g2 _ (by omega) (by omega) (fun i hi => by rw [hfr _ (by simp [m_scr]; omega)]; exact hF i hi) ⟨_, hR2.fr hf⟩ (fun g3 hf3 => hQ g3 (hfr.tr hf3))
theorem c_X5_kindsThatFit {SL : Nat} {d : Nat} {Q : Option Int32 → m_G → Prop} {g : m_G} {t : m_T} (hT : TW g 28 t) (h2 : g 28 2 = 1) (hK : a_TK t) {h : Nat} (hh : h < 6) {j : Nat} (hj : j < 8) {f : Nat → Int32} (hF : ∀ i, i < 40 → g (10 + j) i = f i) {ii nn : Nat} (hin : ii + nn ≤ 40) (hQ : ∀ g2, m_fr m_scr g g2 → Q (some (srS t f h ii nn)) g2) : Sim SL (d + 6) yX5_kindsThatFit cX5_kindsThatFit 8 (some .int) 0 [.ref 24, .ref 28, .int (nI h), .ref (2 + j), .int (nI ii), .int (nI nn), .null, .null] [] g Q := by
  refine s_aload_n (n := 1) dX5_kindsThatFit_0 rfl rfl rfl ?_
  refine s_getr (k2 := 68) (n := 4) dX5_kindsThatFit_1 rfl fl_X5_12 rfl rfl rfl ?_
  refine s_aload_n (n := 5) dX5_kindsThatFit_4 rfl rfl rfl ?_
  refine s_cv1 (n := 8) dX5_kindsThatFit_5 rfl mo_X1_become ml_X5_18 rfl (by decide) rfl rfl (Nat.le_of_ble_eq_true rfl) (Nat.le_of_ble_eq_true rfl) (c_X1_become hb68 hb28 (by decide) (Or.inr h2) (fun g1 hf1 hE => ?_))
  have hfr1 : m_fr m_scr g g1 := hf1.mono (by decide)
  have hT1 := hE.TW hT
  dsimp only [m_push]
  refine s_iconst (v := 0) (n := 9) dX5_kindsThatFit_8 rfl (by decide) ?_
  refine s_istore (n := 11) dX5_kindsThatFit_9 rfl (by decide) rfl rfl ?_
  refine s_iconst (v := 1) (n := 12) dX5_kindsThatFit_11 rfl (by decide) ?_
  refine s_istore (n := 14) dX5_kindsThatFit_12 rfl (by decide) rfl rfl ?_
  exact lp_X5_kindsThatFit hK hh hj hin 5 1 g1 0 (by omega) (Nat.le_refl _) (fun i hi => by rw [hfr1 _ (by simp [m_scr]; omega)]; exact hF i hi) ⟨t (9 + h), by rw [upd_self]; exact hT1⟩ (fun g3 hf3 => hQ g3 (hfr1.tr hf3))
theorem C_rolls {SL : Nat} {d : Nat} {Q : Option Int32 → m_G → Prop} {g : m_G} {a : a_S} (hA : a_OK a) (hC : C_R g a) (hKS : K_S g) (r i n w : Int32) (hQ : E_C g a Q (sp_rolls a r i n w)) : Sim SL (d + 7) yX8_rolls cX8_rolls 6 (some .int) 0 [.ref 0, .int r, .int i, .int n, .int w, .null] [] g Q := by
  unfold E_C sp_rolls at hQ
  have hT : TW g 28 (a_H a) := hC.2.2.1.2
  refine s_aload_n (n := 1) dX8_rolls_0 rfl rfl rfl ?_
  refine s_getr (k2 := 28) (n := 4) dX8_rolls_1 rfl fl_X8_25 rfl rfl rfl ?_
  refine s_geti (n := 7) dX8_rolls_4 rfl fl_X8_135 rfl rfl ?_
  rw [hC.2.2.1.1]
  refine s_if_ne (n := 10) (t := 13) dX8_rolls_7 (by decide) rfl (fun h7 => ?_) (fun h7 => ?_)
  · obtain ⟨t, hh⟩ : ∃ t, a_hill a = some t := by
      cases hh : a_hill a with
      | none => rw [hh] at h7; exact absurd rfl h7
      | some t => exact ⟨t, rfl⟩
    have hHt : a_H a = t := by unfold a_H a_T; rw [hh]; rfl
    have hK := hA.1 t hh
    rw [hHt] at hT
    rw [hh] at hQ
    dsimp only at hQ
    refine s_iload_n (n := 14) dX8_rolls_13 rfl rfl rfl ?_
    refine s_cs1 (n := 17) dX8_rolls_14 rfl mo_X8_isRow ml_X8_58 rfl (Nat.le_of_ble_eq_true rfl) (Nat.le_of_ble_eq_true rfl) (c_X8_isRow _ (fun hb14 => ?_) (fun hb14 => ?_))
    · dsimp only [m_push]
      refine s_if_eq (n := 20) (t := 40) dX8_rolls_17 (by decide) rfl (fun h => absurd h (by decide)) (fun _ => ?_)
      refine s_iload_n (n := 21) dX8_rolls_20 rfl rfl rfl ?_
      refine s_iconst (v := 1) (n := 22) dX8_rolls_21 rfl (by decide) ?_
      refine s_bipush (v := 16) (n := 24) dX8_rolls_22 rfl (by decide) ?_
      refine s_cs3 (n := 27) dX8_rolls_24 rfl mo_X8_within ml_X8_62 rfl (Nat.le_of_ble_eq_true rfl) (Nat.le_of_ble_eq_true rfl) (c_X8_within _ _ _ (fun hb24 => ?_) (fun hb24 => ?_))
      · dsimp only [m_push]
        refine s_if_eq (n := 30) (t := 40) dX8_rolls_27 (by decide) rfl (fun h => absurd h (by decide)) (fun _ => ?_)
        refine s_iload (n := 32) dX8_rolls_30 rfl rfl ?_
        refine s_iconst (v := 0) (n := 33) dX8_rolls_32 rfl (by decide) ?_
        refine s_iconst (v := 3) (n := 34) dX8_rolls_33 rfl (by decide) ?_
        refine s_cs3 (n := 37) dX8_rolls_34 rfl mo_X8_within ml_X8_62 rfl (Nat.le_of_ble_eq_true rfl) (Nat.le_of_ble_eq_true rfl) (c_X8_within _ _ _ (fun hb34 => ?_) (fun hb34 => ?_))
        · dsimp only [m_push]
          refine s_if_ne (n := 40) (t := 43) dX8_rolls_37 (by decide) rfl (fun _ => ?_) (fun h => absurd h (by decide))
          obtain ⟨j, hj, rfl⟩ := wn_ex (n := 7) hb14 rfl
          replace hj : j < 8 := by omega
          have hw9 := hC.1 j hj
          simp only [if_pos hb14, if_pos hb24, if_pos hb34, nI_clamp (show j < 2 ^ 31 by omega)] at hQ
          generalize hx : a_rows a j = x at hQ hw9
          refine s_aload_n (n := 44) dX8_rolls_43 rfl rfl rfl ?_
          refine s_getr (k2 := 1) (n := 47) dX8_rolls_44 rfl fl_X8_11 rfl rfl rfl ?_
          refine s_iload_n (n := 48) dX8_rolls_47 rfl rfl rfl ?_
          refine s_aaload (k2 := 2 + j) (t := 1) j (n := 49) dX8_rolls_48 rfl rfl (by decide) rfl hj rfl ?_
          refine s_astore (n := 51) dX8_rolls_49 rfl (by decide) rfl rfl ?_
          refine s_aload (n := 53) dX8_rolls_51 rfl rfl ?_
          refine s_geti (n := 56) dX8_rolls_53 rfl fl_X8_78 rfl (rw0 hj) ?_
          refine s_if_eq (n := 59) (t := 65) dX8_rolls_56 (by decide) rfl (fun h56 => ?_) (fun h56 => ?_)
          · refine s_aload (n := 67) dX8_rolls_65 rfl rfl ?_
            refine s_iload_n (n := 68) dX8_rolls_67 rfl rfl rfl ?_
            refine s_iload_n (n := 69) dX8_rolls_68 rfl rfl rfl ?_
            refine s_cv2 (n := 72) dX8_rolls_69 rfl mo_X4_reaches ml_X8_82 (rw0 hj) (by decide) rfl rfl (Nat.le_of_ble_eq_true rfl) (Nat.le_of_ble_eq_true rfl) (c_X4_reaches hj _ _ (fun hb69 => ?_) (fun hb69 => ?_))
            · dsimp only [m_push]
              refine s_if_ne (n := 75) (t := 81) dX8_rolls_72 (by decide) rfl (fun _ => ?_) (fun h => absurd h (by decide))
              obtain ⟨q, rfl⟩ : ∃ q, x = some q := by
                cases x with
                | none => exact absurd (show g (2 + j) 1 = 1 from hw9) (by rw [h56]; decide)
                | some q => exact ⟨q, rfl⟩
              obtain ⟨w1, w2, w3, w4, w5⟩ := hw9
              dsimp only at hQ
              rw [w3] at hb69
              obtain ⟨ii, nn, rfl, rfl, hin⟩ := rchN w4 hb69
              rw [if_pos hb69, nI_clamp (show ii < 2 ^ 31 by omega), nI_clamp (show nn < 2 ^ 31 by omega)] at hQ
              obtain ⟨ww, hw4, rfl⟩ := wn03 hb34
              rw [nI_clamp (show ww < 2 ^ 31 by omega)] at hQ
              refine s_aload_n (n := 82) dX8_rolls_81 rfl rfl rfl ?_
              refine s_aload_n (n := 83) dX8_rolls_82 rfl rfl rfl ?_
              refine s_getr (k2 := 24) (n := 86) dX8_rolls_83 rfl fl_X8_46 rfl rfl rfl ?_
              refine s_aload_n (n := 87) dX8_rolls_86 rfl rfl rfl ?_
              refine s_getr (k2 := 28) (n := 90) dX8_rolls_87 rfl fl_X8_25 rfl rfl rfl ?_
              refine s_iload (n := 92) dX8_rolls_90 rfl rfl ?_
              refine s_aload (n := 94) dX8_rolls_92 rfl rfl ?_
              refine s_iload_n (n := 95) dX8_rolls_94 rfl rfl rfl ?_
              refine s_iload_n (n := 96) dX8_rolls_95 rfl rfl rfl ?_
              refine s_cv5 (n := 99) dX8_rolls_96 rfl mo_X5_lawsThatFit ml_X8_256 rfl (by decide) rfl rfl (Nat.le_of_ble_eq_true rfl) (Nat.le_of_ble_eq_true rfl) (c_X5_lawsThatFit hKS hT (by rw [hC.2.2.1.1, hh]; rfl) hK hw4 hj (f := q.2.2) (fun i hi => w5 i hi) (by omega) (fun g2 hf => ?_))
              dsimp only [m_push]
              refine s_cv1 (n := 102) dX8_rolls_99 rfl mo_X8_fine ml_X8_75 rfl (by decide) rfl rfl (Nat.le_of_ble_eq_true rfl) (Nat.le_of_ble_eq_true rfl) (c_X8_fine _ ?_)
              dsimp only [m_push]
              refine s_ireturn dX8_rolls_102 rfl rfl ?_
              exact hQ _ ((hC.fr hf).find 0) ((hf.FC (by decide)).tr (fun k hk => m_up_o (by omega)))
            · dsimp only [m_push]
              refine s_if_ne (n := 75) (t := 81) dX8_rolls_72 (by decide) rfl (fun h => absurd h (by decide)) (fun _ => ?_)
              refine s_aload_n (n := 76) dX8_rolls_75 rfl rfl rfl ?_
              refine s_iconst (v := 2) (n := 77) dX8_rolls_76 rfl (by decide) ?_
              refine s_cv1 (n := 80) dX8_rolls_77 rfl mo_X8_found ml_X8_67 rfl (by decide) rfl rfl (Nat.le_of_ble_eq_true rfl) (Nat.le_of_ble_eq_true rfl) (c_X8_found _ ?_)
              dsimp only [m_push]
              refine s_ireturn dX8_rolls_80 rfl rfl ?_
              cases x with
              | none => exact absurd (show g (2 + j) 1 = 1 from hw9) (by rw [h56]; decide)
              | some q =>
                dsimp only at hQ
                rw [hw9.2.2.1] at hb69
                rw [if_neg hb69] at hQ
                rw [show (-1000010 : Int32) - 2 = -1000012 from by decide]
                exact hQ _ (hC.find _) (fun k hk => m_up_o (by omega))
          · refine s_aload_n (n := 60) dX8_rolls_59 rfl rfl rfl ?_
            refine s_iconst (v := 1) (n := 61) dX8_rolls_60 rfl (by decide) ?_
            refine s_cv1 (n := 64) dX8_rolls_61 rfl mo_X8_found ml_X8_67 rfl (by decide) rfl rfl (Nat.le_of_ble_eq_true rfl) (Nat.le_of_ble_eq_true rfl) (c_X8_found _ ?_)
            dsimp only [m_push]
            refine s_ireturn dX8_rolls_64 rfl rfl ?_
            cases x with
            | none =>
              dsimp only at hQ
              rw [show (-1000010 : Int32) - 1 = -1000011 from by decide]
              exact hQ _ (hC.find _) (fun k hk => m_up_o (by omega))
            | some q => exact absurd hw9.1 h56
        · dsimp only [m_push]
          refine s_if_ne (n := 40) (t := 43) dX8_rolls_37 (by decide) rfl (fun h => absurd h (by decide)) (fun _ => ?_)
          refine s_ldc (n := 42) dX8_rolls_40 rfl kc_X8_66 ?_
          refine s_ireturn dX8_rolls_42 rfl rfl ?_
          first
          | (rw [if_neg hb14] at hQ; exact hQ g hC F_C.rf)
          | (rw [if_pos hb14, if_neg hb24] at hQ; exact hQ g hC F_C.rf)
          | (rw [if_pos hb14, if_pos hb24, if_neg hb34] at hQ; exact hQ g hC F_C.rf)
      · dsimp only [m_push]
        refine s_if_eq (n := 30) (t := 40) dX8_rolls_27 (by decide) rfl (fun _ => ?_) (fun h => absurd h (by decide))
        refine s_ldc (n := 42) dX8_rolls_40 rfl kc_X8_66 ?_
        refine s_ireturn dX8_rolls_42 rfl rfl ?_
        first
        | (rw [if_neg hb14] at hQ; exact hQ g hC F_C.rf)
        | (rw [if_pos hb14, if_neg hb24] at hQ; exact hQ g hC F_C.rf)
        | (rw [if_pos hb14, if_pos hb24, if_neg hb34] at hQ; exact hQ g hC F_C.rf)
    · dsimp only [m_push]
      refine s_if_eq (n := 20) (t := 40) dX8_rolls_17 (by decide) rfl (fun _ => ?_) (fun h => absurd h (by decide))
      refine s_ldc (n := 42) dX8_rolls_40 rfl kc_X8_66 ?_
      refine s_ireturn dX8_rolls_42 rfl rfl ?_
      first
      | (rw [if_neg hb14] at hQ; exact hQ g hC F_C.rf)
      | (rw [if_pos hb14, if_neg hb24] at hQ; exact hQ g hC F_C.rf)
      | (rw [if_pos hb14, if_pos hb24, if_neg hb34] at hQ; exact hQ g hC F_C.rf)
  · refine s_ldc (n := 12) dX8_rolls_10 rfl kc_X8_138 ?_
    refine s_ireturn dX8_rolls_12 rfl rfl ?_
    cases hh : a_hill a with
    | none => rw [hh] at hQ; exact hQ g hC F_C.rf
    | some t => rw [hh] at h7; exact absurd h7 (by show ¬ (1 : Int32) = 0; decide)
theorem C_sorts {SL : Nat} {d : Nat} {Q : Option Int32 → m_G → Prop} {g : m_G} {a : a_S} (hA : a_OK a) (hC : C_R g a) (h r i n : Int32) (hQ : E_C g a Q (sp_sorts a h r i n)) : Sim SL (d + 7) yX8_sorts cX8_sorts 6 (some .int) 0 [.ref 0, .int h, .int r, .int i, .int n, .null] [] g Q := by
  unfold E_C sp_sorts at hQ
  have hT : TW g 28 (a_H a) := hC.2.2.1.2
  refine s_aload_n (n := 1) dX8_sorts_0 rfl rfl rfl ?_
  refine s_iload_n (n := 2) dX8_sorts_1 rfl rfl rfl ?_
  refine s_cv1 (n := 5) dX8_sorts_2 rfl mo_X8_isHouse ml_X8_153 rfl (by decide) rfl rfl (Nat.le_of_ble_eq_true rfl) (Nat.le_of_ble_eq_true rfl) (c_X8_isHouse hT _ (fun hb2 => ?_) (fun hb2 => ?_))
  · dsimp only [m_push]
    refine s_if_eq (n := 8) (t := 26) dX8_sorts_5 (by decide) rfl (fun h => absurd h (by decide)) (fun _ => ?_)
    refine s_iload_n (n := 9) dX8_sorts_8 rfl rfl rfl ?_
    refine s_cs1 (n := 12) dX8_sorts_9 rfl mo_X8_isRow ml_X8_58 rfl (Nat.le_of_ble_eq_true rfl) (Nat.le_of_ble_eq_true rfl) (c_X8_isRow _ (fun hb9 => ?_) (fun hb9 => ?_))
    · dsimp only [m_push]
      refine s_if_eq (n := 15) (t := 26) dX8_sorts_12 (by decide) rfl (fun h => absurd h (by decide)) (fun _ => ?_)
      refine s_iload (n := 17) dX8_sorts_15 rfl rfl ?_
      refine s_iconst (v := 1) (n := 18) dX8_sorts_17 rfl (by decide) ?_
      refine s_bipush (v := 16) (n := 20) dX8_sorts_18 rfl (by decide) ?_
      refine s_cs3 (n := 23) dX8_sorts_20 rfl mo_X8_within ml_X8_62 rfl (Nat.le_of_ble_eq_true rfl) (Nat.le_of_ble_eq_true rfl) (c_X8_within _ _ _ (fun hb20 => ?_) (fun hb20 => ?_))
      · dsimp only [m_push]
        refine s_if_ne (n := 26) (t := 29) dX8_sorts_23 (by decide) rfl (fun _ => ?_) (fun h => absurd h (by decide))
        have hK := hA.tk hb2
        obtain ⟨t, hh⟩ := a_hs hA hb2
        obtain ⟨j, hj, rfl⟩ := wn_ex (n := 7) hb9 rfl
        replace hj : j < 8 := by omega
        have hw9 := hC.1 j hj
        simp only [if_pos hb2, if_pos hb9, if_pos hb20, nI_clamp (show j < 2 ^ 31 by omega)] at hQ
        generalize hx : a_rows a j = x at hQ hw9
        refine s_aload_n (n := 30) dX8_sorts_29 rfl rfl rfl ?_
        refine s_getr (k2 := 1) (n := 33) dX8_sorts_30 rfl fl_X8_11 rfl rfl rfl ?_
        refine s_iload_n (n := 34) dX8_sorts_33 rfl rfl rfl ?_
        refine s_aaload (k2 := 2 + j) (t := 1) j (n := 35) dX8_sorts_34 rfl rfl (by decide) rfl hj rfl ?_
        refine s_astore (n := 37) dX8_sorts_35 rfl (by decide) rfl rfl ?_
        refine s_aload (n := 39) dX8_sorts_37 rfl rfl ?_
        refine s_geti (n := 42) dX8_sorts_39 rfl fl_X8_78 rfl (rw0 hj) ?_
        refine s_if_eq (n := 45) (t := 51) dX8_sorts_42 (by decide) rfl (fun h42 => ?_) (fun h42 => ?_)
        · refine s_aload (n := 53) dX8_sorts_51 rfl rfl ?_
          refine s_iload_n (n := 54) dX8_sorts_53 rfl rfl rfl ?_
          refine s_iload (n := 56) dX8_sorts_54 rfl rfl ?_
          refine s_cv2 (n := 59) dX8_sorts_56 rfl mo_X4_reaches ml_X8_82 (rw0 hj) (by decide) rfl rfl (Nat.le_of_ble_eq_true rfl) (Nat.le_of_ble_eq_true rfl) (c_X4_reaches hj _ _ (fun hb56 => ?_) (fun hb56 => ?_))
          · dsimp only [m_push]
            refine s_if_ne (n := 62) (t := 68) dX8_sorts_59 (by decide) rfl (fun _ => ?_) (fun h => absurd h (by decide))
            obtain ⟨q, rfl⟩ : ∃ q, x = some q := by
              cases x with
              | none => exact absurd (show g (2 + j) 1 = 1 from hw9) (by rw [h42]; decide)
              | some q => exact ⟨q, rfl⟩
            obtain ⟨w1, w2, w3, w4, w5⟩ := hw9
            dsimp only at hQ
            rw [w3] at hb56
            obtain ⟨ii, nn, rfl, rfl, hin⟩ := rchN w4 hb56
            rw [if_pos hb56, nI_clamp (show ii < 2 ^ 31 by omega), nI_clamp (show nn < 2 ^ 31 by omega)] at hQ
            obtain ⟨ih, hih, rfl, hcih⟩ := isH_ex hA.cnt hb2
            rw [nI_clamp (show ih < 2 ^ 31 by omega)] at hQ
            refine s_aload_n (n := 69) dX8_sorts_68 rfl rfl rfl ?_
            refine s_aload_n (n := 70) dX8_sorts_69 rfl rfl rfl ?_
            refine s_getr (k2 := 24) (n := 73) dX8_sorts_70 rfl fl_X8_46 rfl rfl rfl ?_
            refine s_aload_n (n := 74) dX8_sorts_73 rfl rfl rfl ?_
            refine s_getr (k2 := 28) (n := 77) dX8_sorts_74 rfl fl_X8_25 rfl rfl rfl ?_
            refine s_iload_n (n := 78) dX8_sorts_77 rfl rfl rfl ?_
            refine s_aload (n := 80) dX8_sorts_78 rfl rfl ?_
            refine s_iload_n (n := 81) dX8_sorts_80 rfl rfl rfl ?_
            refine s_iload (n := 83) dX8_sorts_81 rfl rfl ?_
            refine s_cv5 (n := 86) dX8_sorts_83 rfl mo_X5_kindsThatFit ml_X8_260 rfl (by decide) rfl rfl (Nat.le_of_ble_eq_true rfl) (Nat.le_of_ble_eq_true rfl) (c_X5_kindsThatFit hT (by rw [hC.2.2.1.1, hh]; rfl) hK hih hj (f := q.2.2) (fun i hi => w5 i hi) (by omega) (fun g2 hf => ?_))
            dsimp only [m_push]
            refine s_cv1 (n := 89) dX8_sorts_86 rfl mo_X8_fine ml_X8_75 rfl (by decide) rfl rfl (Nat.le_of_ble_eq_true rfl) (Nat.le_of_ble_eq_true rfl) (c_X8_fine _ ?_)
            dsimp only [m_push]
            refine s_ireturn dX8_sorts_89 rfl rfl ?_
            exact hQ _ ((hC.fr hf).find 0) ((hf.FC (by decide)).tr (fun k hk => m_up_o (by omega)))
          · dsimp only [m_push]
            refine s_if_ne (n := 62) (t := 68) dX8_sorts_59 (by decide) rfl (fun h => absurd h (by decide)) (fun _ => ?_)
            refine s_aload_n (n := 63) dX8_sorts_62 rfl rfl rfl ?_
            refine s_iconst (v := 2) (n := 64) dX8_sorts_63 rfl (by decide) ?_
            refine s_cv1 (n := 67) dX8_sorts_64 rfl mo_X8_found ml_X8_67 rfl (by decide) rfl rfl (Nat.le_of_ble_eq_true rfl) (Nat.le_of_ble_eq_true rfl) (c_X8_found _ ?_)
            dsimp only [m_push]
            refine s_ireturn dX8_sorts_67 rfl rfl ?_
            cases x with
            | none => exact absurd (show g (2 + j) 1 = 1 from hw9) (by rw [h42]; decide)
            | some q =>
              dsimp only at hQ
              rw [hw9.2.2.1] at hb56
              rw [if_neg hb56] at hQ
              rw [show (-1000010 : Int32) - 2 = -1000012 from by decide]
              exact hQ _ (hC.find _) (fun k hk => m_up_o (by omega))
        · refine s_aload_n (n := 46) dX8_sorts_45 rfl rfl rfl ?_
          refine s_iconst (v := 1) (n := 47) dX8_sorts_46 rfl (by decide) ?_
          refine s_cv1 (n := 50) dX8_sorts_47 rfl mo_X8_found ml_X8_67 rfl (by decide) rfl rfl (Nat.le_of_ble_eq_true rfl) (Nat.le_of_ble_eq_true rfl) (c_X8_found _ ?_)
          dsimp only [m_push]
          refine s_ireturn dX8_sorts_50 rfl rfl ?_
          cases x with
          | none =>
            dsimp only at hQ
            rw [show (-1000010 : Int32) - 1 = -1000011 from by decide]
            exact hQ _ (hC.find _) (fun k hk => m_up_o (by omega))
          | some q => exact absurd hw9.1 h42
      · dsimp only [m_push]
        refine s_if_ne (n := 26) (t := 29) dX8_sorts_23 (by decide) rfl (fun h => absurd h (by decide)) (fun _ => ?_)
        refine s_ldc (n := 28) dX8_sorts_26 rfl kc_X8_66 ?_
        refine s_ireturn dX8_sorts_28 rfl rfl ?_
        simp only [if_pos hb2, if_pos hb9, if_neg hb20] at hQ
        exact hQ g hC F_C.rf
    · dsimp only [m_push]
      refine s_if_eq (n := 15) (t := 26) dX8_sorts_12 (by decide) rfl (fun _ => ?_) (fun h => absurd h (by decide))
      refine s_ldc (n := 28) dX8_sorts_26 rfl kc_X8_66 ?_
      refine s_ireturn dX8_sorts_28 rfl rfl ?_
      simp only [if_pos hb2, if_neg hb9] at hQ
      exact hQ g hC F_C.rf
  · dsimp only [m_push]
    refine s_if_eq (n := 8) (t := 26) dX8_sorts_5 (by decide) rfl (fun _ => ?_) (fun h => absurd h (by decide))
    refine s_ldc (n := 28) dX8_sorts_26 rfl kc_X8_66 ?_
    refine s_ireturn dX8_sorts_28 rfl rfl ?_
    simp only [if_neg hb2] at hQ
    exact hQ g hC F_C.rf
