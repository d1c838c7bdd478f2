theorem sAtF_cg {u v : m_T} (a b : Int32) (h : ∀ j, j < 33 → j ≠ 7 → u j = v j) : ∀ (n i : Nat), i + n ≤ 6 → sAtF u a b n i = sAtF v a b n i
  | 0, _, _ => rfl
  | n + 1, i, hi => by
    unfold sAtF
    rw [h 1 (by decide) (by decide), h (15 + i) (by omega) (by omega), h (21 + i) (by omega) (by omega), sAtF_cg a b h n (i + 1) (by omega)]
theorem sGo_cg {u v : m_T} (h : ∀ j, j < 33 → j ≠ 7 → u j = v j) : ∀ (n i : Nat) (ln sp : Int32) (Ls : Nat → Int32), sGo u n i ln sp Ls = sGo v n i ln sp Ls
  | 0, _, _, _, _ => rfl
  | n + 1, i, ln, sp, Ls => by
    have e1 : sSt u i ln = sSt v i ln := by unfold sSt; rw [h 6 (by decide) (by decide), h 5 (by decide) (by decide)]
    have e2 : ∀ a b, sAt u a b = sAt v a b := fun a b => sAtF_cg a b h 6 0 (by decide)
    unfold sGo
    rw [e1, e2, h 0 (by decide) (by decide)]
    cases ho : sAt v (nI i) (sSt v i ln) with
    | none => dsimp only; rw [sGo_cg h n]
    | some q =>
      have hq := sAt6 q ho
      dsimp only; rw [h (9 + q) (by omega) (by omega), h 8 (by decide) (by decide), sGo_cg h n]
theorem sRun_cg {u v : m_T} (h : ∀ j, j < 33 → j ≠ 7 → u j = v j) (x : Int32) : sRun u x = sRun v x := by
  unfold sRun; rw [sGo_cg h, h 4 (by decide) (by decide)]
theorem a_TK.cg {t u : m_T} (hK : a_TK t) (h : ∀ j, j < 27 → j ≠ 8 → u j = t j) : a_TK u := by
  unfold a_TK
  rw [h 0 (by decide) (by decide), h 1 (by decide) (by decide), h 2 (by decide) (by decide), h 3 (by decide) (by decide), h 4 (by decide) (by decide), h 5 (by decide) (by decide), h 6 (by decide) (by decide), h 7 (by decide) (by decide)]
  refine ⟨hK.1, hK.2.1, hK.2.2.1, hK.2.2.2.1, hK.2.2.2.2.1, hK.2.2.2.2.2.1, hK.2.2.2.2.2.2.1, hK.2.2.2.2.2.2.2.1, fun i hi hc => ?_⟩
  rw [h (9 + i) (by omega) (by omega), h (15 + i) (by omega) (by omega), h (21 + i) (by omega) (by omega)]
  exact hK.2.2.2.2.2.2.2.2 i hi hc
/-- a town with other doors and other tallies -/
def dwT (t : m_T) (o : Int32) (f : Nat → Nat) : m_T := fun j => if j = 8 then o else if 33 ≤ j ∧ j < 39 then nI (f (j - 33)) else t j
theorem dwT_ne {t : m_T} {o : Int32} {f : Nat → Nat} {j : Nat} (h1 : j ≠ 8) (h2 : j < 33) : dwT t o f j = t j := by
  unfold dwT; rw [if_neg h1, if_neg (by omega)]
theorem dwT_g {t : m_T} {o : Int32} {f : Nat → Nat} {i : Nat} (h : i < 6) : dwT t o f (33 + i) = nI (f i) := by
  unfold dwT; rw [if_neg (by omega), if_pos (by omega), show 33 + i - 33 = i by omega]
theorem dwT_8 {t : m_T} {o : Int32} {f : Nat → Nat} : dwT t o f 8 = o := rfl
theorem dwT_op (t : m_T) (o v : Int32) (f : Nat → Nat) : upd (dwT t o f) 8 v = dwT t v f := by
  funext j
  unfold upd dwT
  by_cases h : j = 8
  · rw [if_pos h, if_pos h]
  · rw [if_neg h, if_neg h, if_neg h]
def dwN (x : Nat) : Nat := x * 16807 % 2147483647
def dwO (t : m_T) (o : Int32) (x : Nat) : Int32 := if 0 < a_cn t ∧ x % 3 = 0 then o ^^^ a_sh (x % a_cn t) else o
def dwR (t : m_T) (o : Int32) (x : Nat) : Option Nat := (sRun (upd t 8 o) (nI (x % 7))).1
def dwU (r : Option Nat) (f : Nat → Nat) : Nat → Nat := match r with
  | none => f
  | some h => fun q => if q = h then f q + 1 else f q
def dwF (t : m_T) : Nat → Nat → Int32 → (Nat → Nat) → (Nat → Nat)
  | 0, _, _, f => f
  | n + 1, x, o, f => dwF t n (dwN x) (dwO t o (dwN x)) (dwU (dwR t (dwO t o (dwN x)) (dwN x)) f)
def mfF (f : Nat → Nat) : Nat → Nat → Nat × Option Nat → Nat × Option Nat
  | 0, _, b => b
  | n + 1, i, b => mfF f n (i + 1) (if b.1 < f i then (f i, some i) else b)
def sp_drawn (a : a_S) (n s w : Int32) : Int32 × a_S := match a_hill a with
  | none => (-1000002, a)
  | some t => if wn n 0 60 then (if wn s 1 999999 then (if wn w 0 1 then ((if w = 0 then goF (dwT t 0 (dwF t n.toNatClampNeg s.toNatClampNeg (t 8) (fun _ => 0))) 6 0 0 else eM (mfF (dwF t n.toNatClampNeg s.toNatClampNeg (t 8) (fun _ => 0)) 6 0 (0, none)).2), a) else (-1000001, a)) else (-1000001, a)) else (-1000001, a)
theorem dwN_lt (x : Nat) : dwN x < 2147483647 := Nat.mod_lt _ (by decide)
theorem dwT_got (t : m_T) (o : Int32) (f : Nat → Nat) {h : Nat} (hh : h < 6) : upd (dwT t o f) (33 + h) (nI (f h + 1)) = dwT t o (dwU (some h) f) := by
  funext j
  unfold upd dwT dwU
  dsimp only
  by_cases e : j = 33 + h
  · subst e
    rw [if_pos rfl, if_neg (by omega), if_pos (by omega), show 33 + h - 33 = h by omega, if_pos rfl]
  · rw [if_neg e]
    by_cases e8 : j = 8
    · rw [if_pos e8, if_pos e8]
    · rw [if_neg e8, if_neg e8]
      by_cases e3 : 33 ≤ j ∧ j < 39
      · rw [if_pos e3, if_pos e3, if_neg (by omega)]
      · rw [if_neg e3, if_neg e3]
theorem sRun_dw (t : m_T) (o : Int32) (f : Nat → Nat) (x : Int32) : sRun (dwT t o f) x = sRun (upd t 8 o) x := sRun_cg (fun j hj _ => by
  by_cases e : j = 8
  · subst e; rw [upd_eq]; rfl
  · rw [dwT_ne e hj, upd_ne e]) x
theorem dwF_le {t : m_T} : ∀ (n x : Nat) (o : Int32) (f : Nat → Nat) (b : Nat), (∀ i, f i ≤ b) → ∀ i, dwF t n x o f i ≤ b + n
  | 0, _, _, f, b, h, i => h i
  | n + 1, x, o, f, b, h, i => by
    unfold dwF
    have := dwF_le (t := t) n (dwN x) (dwO t o (dwN x)) (dwU (dwR t (dwO t o (dwN x)) (dwN x)) f) (b + 1) (fun i => by
      unfold dwU
      cases dwR t (dwO t o (dwN x)) (dwN x) with
      | none => have := h i; dsimp only; omega
      | some q => have := h i; dsimp only; split <;> omega) i
    omega
theorem dwU_z {t : m_T} {o : Int32} {x : Nat} {f : Nat → Nat} (h : ∀ i, i < 6 → t 1 ≤ nI i → f i = 0) : ∀ i, i < 6 → t 1 ≤ nI i → dwU (dwR t o x) f i = 0 := fun i hi hc => by
  unfold dwU
  cases hr : dwR t o x with
  | none => exact h i hi hc
  | some q =>
    have := (sRun_lt hr).2
    rw [upd_ne (by decide)] at this
    dsimp only
    rw [if_neg (fun e => by subst e; exact this hc)]
    exact h i hi hc
theorem dwF_z {t : m_T} : ∀ (n x : Nat) (o : Int32) (f : Nat → Nat), (∀ i, i < 6 → t 1 ≤ nI i → f i = 0) → ∀ i, i < 6 → t 1 ≤ nI i → dwF t n x o f i = 0
  | 0, _, _, f, h => h
  | n + 1, x, o, f, h => by
    unfold dwF
    exact dwF_z n _ _ _ (dwU_z h)
theorem goF_o {t : m_T} {o p : Int32} {f : Nat → Nat} : ∀ (n i : Nat) (x : Int32), i + n ≤ 6 → goF (dwT t o f) n i x = goF (dwT t p f) n i x
  | 0, _, _, _ => rfl
  | n + 1, i, x, h => by
    unfold goF
    rw [dwT_ne (j := 1) (o := o) (by decide) (by decide), dwT_ne (j := 1) (o := p) (by decide) (by decide), dwT_g (o := o) (by omega), dwT_g (o := p) (by omega), goF_o n (i + 1) _ (by omega)]
theorem goF_1 {t : m_T} : ∀ (n i : Nat) (x : Int32), goF t n i (x + 1) = goF t n i x + 1
  | 0, _, _ => rfl
  | n + 1, i, x => by
    unfold goF
    split
    · rfl
    · rw [← goF_1 n (i + 1), Int32.add_assoc, Int32.add_comm 1, Int32.add_assoc]
theorem goF_up {t : m_T} {o : Int32} {f : Nat → Nat} {h : Nat} (hc : ¬ t 1 ≤ nI h) : ∀ (n i : Nat) (x : Int32), i + n ≤ 6 → (i ≤ h → h < i + n → goF (dwT t o (dwU (some h) f)) n i x = goF (dwT t o f) n i x + 1) ∧ (h < i → goF (dwT t o (dwU (some h) f)) n i x = goF (dwT t o f) n i x)
  | 0, _, _, _ => ⟨fun _ _ => by omega, fun _ => rfl⟩
  | n + 1, i, x, hn => by
    have ih := fun x => goF_up (o := o) (f := f) hc n (i + 1) x (by omega)
    unfold goF
    rw [dwT_ne (j := 1) (f := dwU (some h) f) (by decide) (by decide), dwT_ne (j := 1) (f := f) (by decide) (by decide), dwT_g (f := dwU (some h) f) (by omega), dwT_g (f := f) (by omega)]
    refine ⟨fun h1 h2 => ?_, fun h1 => ?_⟩
    · have hci : ¬ t 1 ≤ nI i := fun q => hc (Int32.le_trans q (nI_le h1 (by omega)))
      rw [if_neg hci, if_neg hci]
      by_cases e : h = i
      · subst e
        rw [((ih _).2 (by omega)), show dwU (some h) f h = f h + 1 from if_pos rfl, ← nI_1, ← Int32.add_assoc, goF_1]
      · rw [((ih _).1 (by omega) (by omega)), show dwU (some h) f i = f i from if_neg (fun q => e q.symm)]
    · split
      · rfl
      · rw [((ih _).2 (by omega)), show dwU (some h) f i = f i from if_neg (by omega)]
theorem mfF_z {f : Nat → Nat} : ∀ (n i : Nat) (b : Nat × Option Nat), (∀ j, i ≤ j → j < i + n → f j = 0) → mfF f n i b = b
  | 0, _, _, _ => rfl
  | n + 1, i, b, h => by
    unfold mfF
    rw [h i (Nat.le_refl _) (by omega), if_neg (by omega)]
    exact mfF_z n (i + 1) b (fun j h1 h2 => h j (by omega) (by omega))
theorem mfF_6 {f : Nat → Nat} : ∀ (n i : Nat) (b : Nat × Option Nat), i + n ≤ 6 → (∀ q, b.2 = some q → q < 6) → ∀ q, (mfF f n i b).2 = some q → q < 6
  | 0, _, _, _, hb => hb
  | n + 1, i, b, h, hb => by
    unfold mfF
    refine mfF_6 n (i + 1) _ (by omega) (fun q hq => ?_)
    split at hq
    · cases hq; omega
    · exact hb q hq
theorem dw_x {x : Nat} (hx : x < 2147483647) : lN x * 16807 - lN x * 16807 / 2147483647 * 2147483647 = lN (dwN x) := by
  rw [show (16807 : Int64) = lN 16807 from rfl, show (2147483647 : Int64) = lN 2147483647 from rfl, lN_mul, pk_lRem (by omega) (by decide) (by decide)]
  rfl
theorem dw_3 {x : Nat} (hx : x < 2147483647) : lN x - lN x / 3 * 3 = lN (x % 3) := by
  rw [show (3 : Int64) = lN 3 from rfl, pk_lRem (by omega) (by decide) (by decide)]
theorem dw_7 {x : Nat} (hx : x < 2147483647) : (lN x - lN x / 7 * 7).toInt32 = nI (x % 7) := by
  rw [show (7 : Int64) = lN 7 from rfl, pk_lRem (by omega) (by decide) (by decide), lN_i]
theorem dw_c {x c : Nat} (hx : x < 2147483647) (h0 : 0 < c) (hc : c ≤ 6) : (lN x - lN x / (nI c).toInt64 * (nI c).toInt64).toInt32 = nI (x % c) := by
  rw [nI_l (by omega), pk_lRem (by omega) h0 (by omega), lN_i]
theorem dw_nz {c : Nat} (h0 : 0 < c) (hc : c ≤ 6) : ¬ (nI c).toInt64 = 0 := by
  rw [nI_l (by omega), show (0 : Int64) = lN 0 from rfl, pk_lEQ (by omega) (by decide)]; omega
theorem dw_eq {x : Nat} : lg_cmp (lN (x % 3)) 0 = 0 ↔ x % 3 = 0 := by
  have h3 : x % 3 < 3 := Nat.mod_lt _ (by decide)
  rcases (show x % 3 = 0 ∨ x % 3 = 1 ∨ x % 3 = 2 by omega) with e | e | e <;> rw [e] <;> decide +kernel
theorem dw_le {c : Nat} (hc : c ≤ 6) : nI c ≤ 0 ↔ ¬ 0 < c := by
  rw [i32_le, nI_toInt (by omega), ti0]; omega
theorem TW.cg {g : m_G} {k : Nat} {t u : m_T} (h : TW g k t) (h0 : ∀ j, j < 9 → u j = t j) (h1 : ∀ i, i < 6 → ¬ t 1 ≤ nI i → u (9 + i) = t (9 + i) ∧ u (15 + i) = t (15 + i) ∧ u (21 + i) = t (21 + i) ∧ u (27 + i) = t (27 + i) ∧ u (33 + i) = t (33 + i)) : TW g k u := by
  unfold TW
  rw [h0 0 (by decide), h0 1 (by decide), h0 2 (by decide), h0 3 (by decide), h0 4 (by decide), h0 5 (by decide), h0 6 (by decide), h0 7 (by decide), h0 8 (by decide)]
  refine ⟨h.1, fun i hi hc => ?_⟩
  obtain ⟨a1, a2, a3, a4, a5⟩ := h1 i hi hc
  rw [a1, a2, a3, a4, a5]
  exact h.2 i hi hc
def dwZ (t : m_T) (i : Nat) : m_T := fun j => if 33 ≤ j ∧ j < 33 + i then 0 else t j
theorem dwZ_s (t : m_T) (i : Nat) : upd (dwZ t i) (33 + i) 0 = dwZ t (i + 1) := by
  funext j
  unfold upd dwZ
  by_cases e : j = 33 + i
  · rw [if_pos e, if_pos (by omega)]
  · rw [if_neg e]
    by_cases e2 : 33 ≤ j ∧ j < 33 + i
    · rw [if_pos e2, if_pos (by omega)]
    · rw [if_neg e2, if_neg (by omega)]
theorem dwZ_lo {t : m_T} {i j : Nat} (h : j < 33) : dwZ t i j = t j := by unfold dwZ; rw [if_neg (by omega)]
theorem dwK {t : m_T} (hK : a_TK t) (o : Int32) (f : Nat → Nat) : a_TK (dwT t o f) := hK.cg (fun j hj h8 => dwT_ne h8 (by omega))
theorem lp_X1_forgetGot {SL d : Nat} {Q : Option Int32 → m_G → Prop} {k : Nat} (hk : m_hb k) {t : m_T} (hc6 : t 1 ≤ 6) : ∀ (n i : Nat) (g : m_G), i + n = 6 → TW g k (dwZ t i) → (∀ g2, m_fr [k + 4, k + 5, k + 6, k + 7, k + 8, k + 9] g g2 → TW g2 k (dwT t (t 8) (fun _ => 0)) → Q none g2) → Sim SL d yX1_forgetGot cX1_forgetGot 2 none 2 [.ref k, .int (nI i)] [] g Q := by
  intro n
  induction n with
  | zero =>
    intro i g hin hT hQ
    have hi : i = 6 := by omega
    subst hi
    refine s_iload_n (n := 3) dX1_forgetGot_2 rfl rfl rfl ?_
    refine s_aload_n (n := 4) dX1_forgetGot_3 rfl rfl rfl ?_
    refine s_geti (n := 7) dX1_forgetGot_4 rfl fl_X1_51 rfl (hb0 hk) ?_
    rw [hT.1.2.1, dwZ_lo (by decide)]
    refine s_icmp_ge (n := 10) (t := 26) dX1_forgetGot_7 (by decide) rfl (fun h7 => ?_) (fun h7 => ?_)
    · refine s_return dX1_forgetGot_26 rfl ?_
      refine hQ g m_fr.rf (hT.cg (fun j hj => ?_) (fun q hq hc => ?_))
      · by_cases e : j = 8
        · subst e; rfl
        · rw [dwT_ne e (by omega), dwZ_lo (by omega)]
      · rw [dwZ_lo (by decide)] at hc
        have hqi : q < 6 := by
          rcases Nat.lt_or_ge q 6 with z | z
          · exact z
          · exact absurd (Int32.le_trans hc6 (nI_le z (by omega))) hc
        refine ⟨?_, ?_, ?_, ?_, ?_⟩
        · rw [dwT_ne (by omega) (by omega), dwZ_lo (by omega)]
        · rw [dwT_ne (by omega) (by omega), dwZ_lo (by omega)]
        · rw [dwT_ne (by omega) (by omega), dwZ_lo (by omega)]
        · rw [dwT_ne (by omega) (by omega), dwZ_lo (by omega)]
        · rw [dwT_g hq]; unfold dwZ; rw [if_pos (by omega)]; rfl
    · exact absurd hc6 h7
  | succ n ih =>
    intro i g hin hT hQ
    have hi : i < 6 := by omega
    refine s_iload_n (n := 3) dX1_forgetGot_2 rfl rfl rfl ?_
    refine s_aload_n (n := 4) dX1_forgetGot_3 rfl rfl rfl ?_
    refine s_geti (n := 7) dX1_forgetGot_4 rfl fl_X1_51 rfl (hb0 hk) ?_
    rw [hT.1.2.1, dwZ_lo (by decide)]
    refine s_icmp_ge (n := 10) (t := 26) dX1_forgetGot_7 (by decide) rfl (fun h7 => ?_) (fun h7 => ?_)
    · refine s_return dX1_forgetGot_26 rfl ?_
      refine hQ g m_fr.rf (hT.cg (fun j hj => ?_) (fun q hq hc => ?_))
      · by_cases e : j = 8
        · subst e; rfl
        · rw [dwT_ne e (by omega), dwZ_lo (by omega)]
      · rw [dwZ_lo (by decide)] at hc
        have hqi : q < i := by
          rcases Nat.lt_or_ge q i with z | z
          · exact z
          · exact absurd (Int32.le_trans h7 (nI_le z (by omega))) hc
        refine ⟨?_, ?_, ?_, ?_, ?_⟩
        · rw [dwT_ne (by omega) (by omega), dwZ_lo (by omega)]
        · rw [dwT_ne (by omega) (by omega), dwZ_lo (by omega)]
        · rw [dwT_ne (by omega) (by omega), dwZ_lo (by omega)]
        · rw [dwT_ne (by omega) (by omega), dwZ_lo (by omega)]
        · rw [dwT_g hq]; unfold dwZ; rw [if_pos (by omega)]; rfl
    · refine s_aload_n (n := 11) dX1_forgetGot_10 rfl rfl rfl ?_
      refine s_getr (k2 := k + 1) (n := 14) dX1_forgetGot_11 rfl fl_X1_11 rfl (hb0 hk) rfl ?_
      refine s_iload_n (n := 15) dX1_forgetGot_14 rfl rfl rfl ?_
      refine s_aaload (k2 := k + 4 + i) (t := 0) i (n := 16) dX1_forgetGot_15 rfl (hb1 hk) (by decide) rfl hi rfl ?_
      refine s_iconst (v := 0) (n := 17) dX1_forgetGot_16 rfl (by decide) ?_
      refine s_puti (n := 20) dX1_forgetGot_17 rfl fl_X1_71 rfl rfl (hbh hk hi) ?_
      refine s_iinc (n := 23) (v := nI (i + 1)) dX1_forgetGot_20 rfl (by decide) rfl rfl (nI_1 i) rfl ?_
      refine s_goto (t := 2) dX1_forgetGot_23 (by decide) ?_
      have hT2 := hT.got hi 0
      rw [dwZ_s] at hT2
      exact ih (i + 1) _ (by omega) hT2 (fun g2 hf hz => hQ g2 ((m_fr.up (by simp; omega)).tr hf) hz)
theorem c_X1_forgetGot {SL : Nat} {d : Nat} {Q : Option Int32 → m_G → Prop} {g : m_G} {k : Nat} (hk : m_hb k) {t : m_T} (hT : TW g k t) (hc6 : t 1 ≤ 6) (hQ : ∀ g2, m_fr [k + 4, k + 5, k + 6, k + 7, k + 8, k + 9] g g2 → TW g2 k (dwT t (t 8) (fun _ => 0)) → Q none g2) : Sim SL d yX1_forgetGot cX1_forgetGot 2 none 0 [.ref k, .null] [] g Q := by
  refine s_iconst (v := 0) (n := 1) dX1_forgetGot_0 rfl (by decide) ?_
  refine s_istore_n (n := 2) dX1_forgetGot_1 rfl rfl (by decide) rfl rfl ?_
  exact lp_X1_forgetGot hk hc6 6 0 g rfl (by rw [show dwZ t 0 = t by funext j; unfold dwZ; rw [if_neg (by omega)]]; exact hT) hQ
theorem lp_X1_mostFavoured {SL d : Nat} {Q : Option Int32 → m_G → Prop} {g : m_G} {k : Nat} (hk : m_hb k) {t : m_T} {o : Int32} {f : Nat → Nat} (hT : TW g k (dwT t o f)) (hc6 : t 1 ≤ 6) (hz : ∀ i, i < 6 → t 1 ≤ nI i → f i = 0) (hfb : ∀ i, f i ≤ 60) : ∀ (n i : Nat) (b : Nat × Option Nat), i + n = 6 → b.1 ≤ 60 → Q (some (eC (mfF f n i b).2)) g → Sim SL d yX1_mostFavoured cX1_mostFavoured 4 (some .int) 6 [.ref k, .int (nI b.1), .int (eC b.2), .int (nI i)] [] g Q := by
  intro n
  induction n with
  | zero =>
    intro i b hin hb6 hQ
    have hi : i = 6 := by omega
    subst hi
    refine s_iload_n (n := 7) dX1_mostFavoured_6 rfl rfl rfl ?_
    refine s_aload_n (n := 8) dX1_mostFavoured_7 rfl rfl rfl ?_
    refine s_geti (n := 11) dX1_mostFavoured_8 rfl fl_X1_51 rfl (hb0 hk) ?_
    rw [hT.1.2.1, dwT_ne (by decide) (by decide)]
    refine s_icmp_ge (n := 14) (t := 45) dX1_mostFavoured_11 (by decide) rfl (fun h11 => ?_) (fun h11 => ?_)
    · refine s_iload_n (n := 46) dX1_mostFavoured_45 rfl rfl rfl ?_
      refine s_ireturn dX1_mostFavoured_46 rfl rfl ?_
      exact hQ
    · exact absurd hc6 h11
  | succ n ih =>
    intro i b hin hb6 hQ
    have hi : i < 6 := by omega
    refine s_iload_n (n := 7) dX1_mostFavoured_6 rfl rfl rfl ?_
    refine s_aload_n (n := 8) dX1_mostFavoured_7 rfl rfl rfl ?_
    refine s_geti (n := 11) dX1_mostFavoured_8 rfl fl_X1_51 rfl (hb0 hk) ?_
    rw [hT.1.2.1, dwT_ne (by decide) (by decide)]
    refine s_icmp_ge (n := 14) (t := 45) dX1_mostFavoured_11 (by decide) rfl (fun h11 => ?_) (fun h11 => ?_)
    · refine s_iload_n (n := 46) dX1_mostFavoured_45 rfl rfl rfl ?_
      refine s_ireturn dX1_mostFavoured_46 rfl rfl ?_
      rw [mfF_z (n + 1) i b (fun j h1 h2 => hz j (by omega) (Int32.le_trans h11 (nI_le h1 (by omega))))] at hQ
      exact hQ
    · have hgi := (hT.2 i hi (by rw [dwT_ne (by decide) (by decide)]; exact h11)).2.2.2.2
      rw [dwT_g hi] at hgi
      refine s_aload_n (n := 15) dX1_mostFavoured_14 rfl rfl rfl ?_
      refine s_getr (k2 := k + 1) (n := 18) dX1_mostFavoured_15 rfl fl_X1_11 rfl (hb0 hk) rfl ?_
      refine s_iload_n (n := 19) dX1_mostFavoured_18 rfl rfl rfl ?_
      refine s_aaload (k2 := k + 4 + i) (t := 0) i (n := 20) dX1_mostFavoured_19 rfl (hb1 hk) (by decide) rfl hi rfl ?_
      refine s_geti (n := 23) dX1_mostFavoured_20 rfl fl_X1_71 rfl (hbh hk hi) ?_
      rw [hgi]
      refine s_iload_n (n := 24) dX1_mostFavoured_23 rfl rfl rfl ?_
      refine s_icmp_le (n := 27) (t := 39) dX1_mostFavoured_24 (by decide) rfl (fun h24 => ?_) (fun h24 => ?_)
      · refine s_iinc (n := 42) (v := nI (i + 1)) dX1_mostFavoured_39 rfl (by decide) rfl rfl (nI_1 i) rfl ?_
        refine s_goto (t := 6) dX1_mostFavoured_42 (by decide) ?_
        unfold mfF at hQ
        first
        | (rw [if_neg (fun z => absurd h24 (nI_ge z (by have := hfb i; omega)))] at hQ
           exact ih (i + 1) b (by omega) hb6 hQ)
        | (rw [if_pos (by
             rcases Nat.lt_or_ge b.1 (f i) with z | z
             · exact z
             · exact absurd (nI_le z (by omega)) h24)] at hQ
           exact ih (i + 1) (f i, some i) (by omega) (by have := hfb i; dsimp only; omega) hQ)
      · refine s_aload_n (n := 28) dX1_mostFavoured_27 rfl rfl rfl ?_
        refine s_getr (k2 := k + 1) (n := 31) dX1_mostFavoured_28 rfl fl_X1_11 rfl (hb0 hk) rfl ?_
        refine s_iload_n (n := 32) dX1_mostFavoured_31 rfl rfl rfl ?_
        refine s_aaload (k2 := k + 4 + i) (t := 0) i (n := 33) dX1_mostFavoured_32 rfl (hb1 hk) (by decide) rfl hi rfl ?_
        refine s_geti (n := 36) dX1_mostFavoured_33 rfl fl_X1_71 rfl (hbh hk hi) ?_
        rw [hgi]
        refine s_istore_n (n := 37) dX1_mostFavoured_36 rfl rfl (by decide) rfl rfl ?_
        refine s_iload_n (n := 38) dX1_mostFavoured_37 rfl rfl rfl ?_
        refine s_istore_n (n := 39) dX1_mostFavoured_38 rfl rfl (by decide) rfl rfl ?_
        refine s_iinc (n := 42) (v := nI (i + 1)) dX1_mostFavoured_39 rfl (by decide) rfl rfl (nI_1 i) rfl ?_
        refine s_goto (t := 6) dX1_mostFavoured_42 (by decide) ?_
        unfold mfF at hQ
        first
        | (rw [if_neg (fun z => absurd h24 (nI_ge z (by have := hfb i; omega)))] at hQ
           exact ih (i + 1) b (by omega) hb6 hQ)
        | (rw [if_pos (by
             rcases Nat.lt_or_ge b.1 (f i) with z | z
             · exact z
             · exact absurd (nI_le z (by omega)) h24)] at hQ
           exact ih (i + 1) (f i, some i) (by omega) (by have := hfb i; dsimp only; omega) hQ)
theorem c_X1_mostFavoured {SL : Nat} {d : Nat} {Q : Option Int32 → m_G → Prop} {g : m_G} {k : Nat} (hk : m_hb k) {t : m_T} {o : Int32} {f : Nat → Nat} (hT : TW g k (dwT t o f)) (hc6 : t 1 ≤ 6) (hz : ∀ i, i < 6 → t 1 ≤ nI i → f i = 0) (hfb : ∀ i, f i ≤ 60) (hQ : Q (some (eC (mfF f 6 0 (0, none)).2)) g) : Sim SL d yX1_mostFavoured cX1_mostFavoured 4 (some .int) 0 [.ref k, .null, .null, .null] [] g Q := by
  refine s_iconst (v := 0) (n := 1) dX1_mostFavoured_0 rfl (by decide) ?_
  refine s_istore_n (n := 2) dX1_mostFavoured_1 rfl rfl (by decide) rfl rfl ?_
  refine s_iconst (v := -1) (n := 3) dX1_mostFavoured_2 rfl (by decide) ?_
  refine s_istore_n (n := 4) dX1_mostFavoured_3 rfl rfl (by decide) rfl rfl ?_
  refine s_iconst (v := 0) (n := 5) dX1_mostFavoured_4 rfl (by decide) ?_
  refine s_istore_n (n := 6) dX1_mostFavoured_5 rfl rfl (by decide) rfl rfl ?_
  exact lp_X1_mostFavoured hk hT hc6 hz hfb 6 0 (0, none) rfl (by decide) hQ
set_option maxHeartbeats 1000000 in
theorem lp_X5_drawCentury {SL d : Nat} {Q : Option Int32 → m_G → Prop} {t : m_T} (hK : a_TK t) {nn : Nat} (hnn : nn ≤ 60) (sd : Int32) : ∀ (n k : Nat) (g : m_G) (x7 : Value) (x : Nat) (o : Int32) (f : Nat → Nat), k + n = nn → x < 2147483647 → TW g 68 (dwT t o f) → (∀ g2, m_fr m_scr g g2 → (∃ p, TW g2 68 (dwT t p (dwF t n x o f))) → Q none g2) → Sim SL (d + 4) yX5_drawCentury cX5_drawCentury 8 none 22 [.ref 24, .ref 28, .int (nI nn), .int sd, .long (lN x), .null, .int (nI k), x7] [] g Q := by
  have hcn := (a_cnE hK.2.1).2
  intro n
  induction n with
  | zero =>
    intro k g x7 x o f hkn hx hR hQ
    have hk : k = nn := by omega
    subst hk
    refine s_iload (n := 24) dX5_drawCentury_22 rfl rfl ?_
    refine s_iload_n (n := 25) dX5_drawCentury_24 rfl rfl rfl ?_
    refine s_icmp_ge (n := 28) (t := 133) dX5_drawCentury_25 (by decide) rfl (fun h25 => ?_) (fun h25 => ?_)
    · refine s_return dX5_drawCentury_133 rfl ?_
      exact hQ g m_fr.rf ⟨o, hR⟩
    · exact absurd (nI_le (Nat.le_refl _) (by omega)) h25
  | succ n ih =>
    intro k g x7 x o f hkn hx hR hQ
    have hk : k < nn := by omega
    have hx2 := dwN_lt x
    unfold dwF at hQ
    have mid : ∀ g1, m_fr m_scr g g1 → TW g1 68 (dwT t (dwO t o (dwN x)) f) → Sim SL (d + 4) yX5_drawCentury cX5_drawCentury 8 none 87 [.ref 24, .ref 28, .int (nI nn), .int sd, .long (lN (dwN x)), .null, .int (nI k), x7] [] g1 Q := by
      intro g1 hfr1 hR1
      have hK2 := dwK hK (dwO t o (dwN x)) f
      refine s_aload_n (n := 88) dX5_drawCentury_87 rfl rfl rfl ?_
      refine s_getr (k2 := 68) (n := 91) dX5_drawCentury_88 rfl fl_X5_12 rfl rfl rfl ?_
      refine s_lload (n := 93) dX5_drawCentury_91 rfl rfl ?_
      refine s_ldc2 (n := 96) dX5_drawCentury_93 rfl kc_X5_115 ?_
      refine s_lrem (n := 97) dX5_drawCentury_96 rfl (by decide) ?_
      refine s_l2i (n := 98) dX5_drawCentury_97 rfl ?_
      rw [dw_7 hx2]
      refine s_cv1 (n := 101) dX5_drawCentury_98 rfl mo_X1_letGo ml_X5_117 rfl (by decide) rfl rfl (Nat.le_of_ble_eq_true rfl) (Nat.le_of_ble_eq_true rfl) (c_X1_letGo hb68 hR1 hK2.t0 hK2.t1 hK2.t6 _ (wn06 (show dwN x % 7 ≤ 6 by have : dwN x % 7 < 7 := Nat.mod_lt _ (by decide); omega)) (show sGoPost _ _ _ (sRun (dwT t (dwO t o (dwN x)) f) (nI (dwN x % 7))) from (fun g2 hf _ _ _ => ?_)))
      have hfr2 : m_fr m_scr g g2 := hfr1.tr (hf.mono (by decide))
      have hR2 := hR1.fr hf
      rw [sRun_dw]
      dsimp only [m_push]
      rcases ho : (sRun (upd t 8 (dwO t o (dwN x))) (nI (dwN x % 7))).1 with _ | h9
      · dsimp only [eC]
        have hd : dwR t (dwO t o (dwN x)) (dwN x) = none := ho
        have hfr3 := hfr2
        have hR3 := hR2
        rw [hd] at hQ
        refine s_istore (n := 103) dX5_drawCentury_101 rfl (by decide) rfl rfl ?_
        refine s_iload (n := 105) dX5_drawCentury_103 rfl rfl ?_
        refine s_if_lt (n := 108) (t := 127) dX5_drawCentury_105 (by decide) rfl (fun _ => ?_) (fun h => absurd h (by decide))
        refine s_iinc (n := 130) (v := nI (k + 1)) dX5_drawCentury_127 rfl (by decide) rfl rfl (nI_1 k) rfl ?_
        refine s_goto (t := 22) dX5_drawCentury_130 (by decide) ?_
        first
        | exact ih (k + 1) g2 _ (dwN x) (dwO t o (dwN x)) f (by omega) hx2 hR3 (fun g4 hf4 e => hQ g4 (hfr3.tr hf4) e)
        | (have hR3 := hR2.got hh9 (nI (f h9 + 1))
           rw [dwT_got t _ f hh9] at hR3
           have hfr3 : m_fr m_scr g (m_up g2 (72 + h9) 4 (nI (f h9 + 1))) := hfr2.up2 (by simp [m_scr]; omega)
           exact ih (k + 1) _ _ (dwN x) (dwO t o (dwN x)) (dwU (some h9) f) (by omega) hx2 hR3 (fun g4 hf4 e => hQ g4 (hfr3.tr hf4) e))
      · dsimp only [eC]
        have hd : dwR t (dwO t o (dwN x)) (dwN x) = some h9 := ho
        obtain ⟨hh9, hc9⟩ := sRun_lt ho
        rw [upd_ne (by decide)] at hc9
        rw [hd] at hQ
        refine s_istore (n := 103) dX5_drawCentury_101 rfl (by decide) rfl rfl ?_
        refine s_iload (n := 105) dX5_drawCentury_103 rfl rfl ?_
        refine s_if_lt (n := 108) (t := 127) dX5_drawCentury_105 (by decide) rfl (fun h105 => ?_) (fun h105 => ?_)
        · exact absurd h105 (nI_pos (by omega))
        · refine s_aload_n (n := 109) dX5_drawCentury_108 rfl rfl rfl ?_
          refine s_getr (k2 := 68) (n := 112) dX5_drawCentury_109 rfl fl_X5_12 rfl rfl rfl ?_
          refine s_getr (k2 := 69) (n := 115) dX5_drawCentury_112 rfl fl_X5_39 rfl rfl rfl ?_
          refine s_iload (n := 117) dX5_drawCentury_115 rfl rfl ?_
          refine s_aaload (k2 := 72 + h9) (t := 0) h9 (n := 118) dX5_drawCentury_117 rfl rfl (by decide) rfl hh9 rfl ?_
          refine s_dup (n := 119) dX5_drawCentury_118 rfl rfl ?_
          refine s_geti (n := 122) dX5_drawCentury_119 rfl fl_X5_120 rfl (hbh hb68 hh9) ?_
          refine s_iconst (v := 1) (n := 123) dX5_drawCentury_122 rfl (by decide) ?_
          have hg9 := (hR2.2 h9 hh9 (by rw [dwT_ne (by decide) (by decide)]; exact hc9)).2.2.2.2
          rw [dwT_g hh9] at hg9
          refine s_iadd (n := 124) dX5_drawCentury_123 rfl ?_
          rw [show g2 (72 + h9) 4 = nI (f h9) from hg9, nI_1]
          refine s_puti (n := 127) dX5_drawCentury_124 rfl fl_X5_120 rfl rfl (hbh hb68 hh9) ?_
          refine s_iinc (n := 130) (v := nI (k + 1)) dX5_drawCentury_127 rfl (by decide) rfl rfl (nI_1 k) rfl ?_
          refine s_goto (t := 22) dX5_drawCentury_130 (by decide) ?_
          first
          | exact ih (k + 1) g2 _ (dwN x) (dwO t o (dwN x)) f (by omega) hx2 hR3 (fun g4 hf4 e => hQ g4 (hfr3.tr hf4) e)
          | (have hR3 := hR2.got hh9 (nI (f h9 + 1))
             rw [dwT_got t _ f hh9] at hR3
             have hfr3 : m_fr m_scr g (m_up g2 (72 + h9) 4 (nI (f h9 + 1))) := hfr2.up2 (by simp [m_scr]; omega)
             exact ih (k + 1) _ _ (dwN x) (dwO t o (dwN x)) (dwU (some h9) f) (by omega) hx2 hR3 (fun g4 hf4 e => hQ g4 (hfr3.tr hf4) e))
    refine s_iload (n := 24) dX5_drawCentury_22 rfl rfl ?_
    refine s_iload_n (n := 25) dX5_drawCentury_24 rfl rfl rfl ?_
    refine s_icmp_ge (n := 28) (t := 133) dX5_drawCentury_25 (by decide) rfl (fun h25 => ?_) (fun h25 => ?_)
    · exact absurd h25 (nI_ge hk (by omega))
    · refine s_lload (n := 30) dX5_drawCentury_28 rfl rfl ?_
      refine s_ldc2 (n := 33) dX5_drawCentury_30 rfl kc_X5_109 ?_
      refine s_lmul (n := 34) dX5_drawCentury_33 rfl ?_
      refine s_ldc2 (n := 37) dX5_drawCentury_34 rfl kc_X5_111 ?_
      refine s_lrem (n := 38) dX5_drawCentury_37 rfl (by decide) ?_
      rw [dw_x hx]
      refine s_lstore (n := 40) dX5_drawCentury_38 rfl (by decide) rfl rfl ?_
      refine s_aload_n (n := 41) dX5_drawCentury_40 rfl rfl rfl ?_
      refine s_getr (k2 := 68) (n := 44) dX5_drawCentury_41 rfl fl_X5_12 rfl rfl rfl ?_
      refine s_geti (n := 47) dX5_drawCentury_44 rfl fl_X5_68 rfl rfl ?_
      rw [hR.1.2.1, dwT_ne (by decide) (by decide), (a_cnE hK.2.1).1]
      refine s_if_le (n := 50) (t := 87) dX5_drawCentury_47 (by decide) rfl (fun h47 => ?_) (fun h47 => ?_)
      · first
        | (have e : dwO t o (dwN x) = o := if_neg (fun q => (dw_le hcn).mp h47 q.1)
           exact mid g m_fr.rf (by rw [e]; exact hR))
        | (have e : dwO t o (dwN x) = o := if_neg (fun q => h58 (dw_eq.mpr q.2))
           exact mid g m_fr.rf (by rw [e]; exact hR))
        | (have e : dwO t o (dwN x) = o ^^^ a_sh (dwN x % a_cn t) := if_pos ⟨hcp, hm3⟩
           refine mid _ (m_fr.up (by decide)) ?_
           have hR1 := hR.opn (o ^^^ a_sh (dwN x % a_cn t))
           rw [dwT_op] at hR1
           rw [e]
           exact hR1)
      · refine s_lload (n := 52) dX5_drawCentury_50 rfl rfl ?_
        refine s_ldc2 (n := 55) dX5_drawCentury_52 rfl kc_X5_113 ?_
        refine s_lrem (n := 56) dX5_drawCentury_55 rfl (by decide) ?_
        rw [dw_3 hx2]
        refine s_lconst (v := 0) (n := 57) dX5_drawCentury_56 rfl (by decide) ?_
        refine s_lcmp (n := 58) dX5_drawCentury_57 rfl ?_
        refine s_if_ne (n := 61) (t := 87) dX5_drawCentury_58 (by decide) rfl (fun h58 => ?_) (fun h58 => ?_)
        · first
          | (have e : dwO t o (dwN x) = o := if_neg (fun q => (dw_le hcn).mp h47 q.1)
             exact mid g m_fr.rf (by rw [e]; exact hR))
          | (have e : dwO t o (dwN x) = o := if_neg (fun q => h58 (dw_eq.mpr q.2))
             exact mid g m_fr.rf (by rw [e]; exact hR))
          | (have e : dwO t o (dwN x) = o ^^^ a_sh (dwN x % a_cn t) := if_pos ⟨hcp, hm3⟩
             refine mid _ (m_fr.up (by decide)) ?_
             have hR1 := hR.opn (o ^^^ a_sh (dwN x % a_cn t))
             rw [dwT_op] at hR1
             rw [e]
             exact hR1)
        · have hcp : 0 < a_cn t := Classical.byContradiction fun z => h47 ((dw_le hcn).mpr z)
          have hm3 : dwN x % 3 = 0 := dw_eq.mp h58
          refine s_aload_n (n := 62) dX5_drawCentury_61 rfl rfl rfl ?_
          refine s_getr (k2 := 68) (n := 65) dX5_drawCentury_62 rfl fl_X5_12 rfl rfl rfl ?_
          refine s_dup (n := 66) dX5_drawCentury_65 rfl rfl ?_
          refine s_geti (n := 69) dX5_drawCentury_66 rfl fl_X5_32 rfl rfl ?_
          rw [hR.1.2.2.2.2.2.2.2.2, dwT_8]
          refine s_iconst (v := 1) (n := 70) dX5_drawCentury_69 rfl (by decide) ?_
          skip
          refine s_lload (n := 72) dX5_drawCentury_70 rfl rfl ?_
          refine s_aload_n (n := 73) dX5_drawCentury_72 rfl rfl rfl ?_
          refine s_getr (k2 := 68) (n := 76) dX5_drawCentury_73 rfl fl_X5_12 rfl rfl rfl ?_
          refine s_geti (n := 79) dX5_drawCentury_76 rfl fl_X5_68 rfl rfl ?_
          rw [hR.1.2.1, dwT_ne (by decide) (by decide), (a_cnE hK.2.1).1]
          refine s_i2l (n := 80) dX5_drawCentury_79 rfl ?_
          refine s_lrem (n := 81) dX5_drawCentury_80 rfl (dw_nz hcp hcn) ?_
          refine s_l2i (n := 82) dX5_drawCentury_81 rfl ?_
          rw [dw_c hx2 hcp hcn]
          refine s_ishl (n := 83) dX5_drawCentury_82 rfl ?_
          refine s_ixor (n := 84) dX5_drawCentury_83 rfl ?_
          refine s_puti (n := 87) dX5_drawCentury_84 rfl fl_X5_32 rfl rfl rfl ?_
          first
          | (have e : dwO t o (dwN x) = o := if_neg (fun q => (dw_le hcn).mp h47 q.1)
             exact mid g m_fr.rf (by rw [e]; exact hR))
          | (have e : dwO t o (dwN x) = o := if_neg (fun q => h58 (dw_eq.mpr q.2))
             exact mid g m_fr.rf (by rw [e]; exact hR))
          | (have e : dwO t o (dwN x) = o ^^^ a_sh (dwN x % a_cn t) := if_pos ⟨hcp, hm3⟩
             refine mid _ (m_fr.up (by decide)) ?_
             have hR1 := hR.opn (o ^^^ a_sh (dwN x % a_cn t))
             rw [dwT_op] at hR1
             rw [e]
             exact hR1)
theorem c_X5_drawCentury {SL : Nat} {d : Nat} {Q : Option Int32 → m_G → Prop} {g : m_G} {t : m_T} (hT : TW g 28 t) (h2 : g 28 2 = 1) (hK : a_TK t) {nn ss : Nat} (hnn : nn ≤ 60) (hss : ss < 1000000) (hQ : ∀ g2, m_fr m_scr g g2 → (∃ p, TW g2 68 (dwT t p (dwF t nn ss (t 8) (fun _ => 0)))) → Q none g2) : Sim SL (d + 4) yX5_drawCentury cX5_drawCentury 8 none 0 [.ref 24, .ref 28, .int (nI nn), .int (nI ss), .null, .null, .null, .null] [] g Q := by
  refine s_aload_n (n := 1) dX5_drawCentury_0 rfl rfl rfl ?_
  refine s_getr (k2 := 68) (n := 4) dX5_drawCentury_1 rfl fl_X5_12 rfl rfl rfl ?_
  refine s_aload_n (n := 5) dX5_drawCentury_4 rfl rfl rfl ?_
  refine s_cv1 (n := 8) dX5_drawCentury_5 rfl mo_X1_become ml_X5_18 rfl (by decide) rfl rfl (Nat.le_of_ble_eq_true rfl) (Nat.le_of_ble_eq_true rfl) (c_X1_become hb68 hb28 (by decide) (Or.inr h2) (fun g1 hf1 hE => ?_))
  have hfr1 : m_fr m_scr g g1 := hf1.mono (by decide)
  have hT1 := hE.TW hT
  dsimp only [m_push]
  refine s_aload_n (n := 9) dX5_drawCentury_8 rfl rfl rfl ?_
  refine s_getr (k2 := 68) (n := 12) dX5_drawCentury_9 rfl fl_X5_12 rfl rfl rfl ?_
  refine s_cv0 (n := 15) dX5_drawCentury_12 rfl mo_X1_forgetGot ml_X5_106 rfl (by decide) rfl rfl (Nat.le_of_ble_eq_true rfl) (Nat.le_of_ble_eq_true rfl) (c_X1_forgetGot hb68 hT1 hK.t1 (fun g2 hf2 hZ => ?_))
  dsimp only [m_push]
  refine s_iload_n (n := 16) dX5_drawCentury_15 rfl rfl rfl ?_
  refine s_i2l (n := 17) dX5_drawCentury_16 rfl ?_
  rw [nI_l (by omega)]
  refine s_lstore (n := 19) dX5_drawCentury_17 rfl (by decide) rfl rfl ?_
  refine s_iconst (v := 0) (n := 20) dX5_drawCentury_19 rfl (by decide) ?_
  refine s_istore (n := 22) dX5_drawCentury_20 rfl (by decide) rfl rfl ?_
  have hfr2 : m_fr m_scr g g2 := hfr1.tr (hf2.mono (by decide))
  exact lp_X5_drawCentury hK hnn _ nn 0 g2 _ ss (t 8) (fun _ => 0) (by omega) (by omega) hZ (fun g3 hf3 e => hQ g3 (hfr2.tr hf3) e)
theorem C_drawn {SL : Nat} {d : Nat} {Q : Option Int32 → m_G → Prop} {g : m_G} {a : a_S} (hA : a_OK a) (hC : C_R g a) (n s w : Int32) (hQ : E_C g a Q (sp_drawn a n s w)) : Sim SL (d + 5) yX8_drawn cX8_drawn 4 (some .int) 0 [.ref 0, .int n, .int s, .int w] [] g Q := by
  unfold E_C sp_drawn at hQ
  have hT : TW g 28 (a_H a) := hC.2.2.1.2
  refine s_aload_n (n := 1) dX8_drawn_0 rfl rfl rfl ?_
  refine s_getr (k2 := 28) (n := 4) dX8_drawn_1 rfl fl_X8_25 rfl rfl rfl ?_
  refine s_geti (n := 7) dX8_drawn_4 rfl fl_X8_135 rfl rfl ?_
  rw [hC.2.2.1.1]
  refine s_if_ne (n := 10) (t := 13) dX8_drawn_7 (by decide) rfl (fun h7 => ?_) (fun h7 => ?_)
  · obtain ⟨t, hh⟩ : ∃ t, a_hill a = some t := by
      cases hh : a_hill a with
      | none => rw [hh] at h7; exact absurd rfl h7
      | some t => exact ⟨t, rfl⟩
    have hHt : a_H a = t := by unfold a_H a_T; rw [hh]; rfl
    have hK := hA.1 t hh
    rw [hHt] at hT
    rw [hh] at hQ
    dsimp only at hQ
    refine s_iload_n (n := 14) dX8_drawn_13 rfl rfl rfl ?_
    refine s_iconst (v := 0) (n := 15) dX8_drawn_14 rfl (by decide) ?_
    refine s_bipush (v := 60) (n := 17) dX8_drawn_15 rfl (by decide) ?_
    refine s_cs3 (n := 20) dX8_drawn_17 rfl mo_X8_within ml_X8_62 rfl (Nat.le_of_ble_eq_true rfl) (Nat.le_of_ble_eq_true rfl) (c_X8_within _ _ _ (fun hb17 => ?_) (fun hb17 => ?_))
    · dsimp only [m_push]
      refine s_if_eq (n := 23) (t := 43) dX8_drawn_20 (by decide) rfl (fun h => absurd h (by decide)) (fun _ => ?_)
      refine s_iload_n (n := 24) dX8_drawn_23 rfl rfl rfl ?_
      refine s_iconst (v := 1) (n := 25) dX8_drawn_24 rfl (by decide) ?_
      refine s_ldcw (n := 28) dX8_drawn_25 rfl kc_X8_272 ?_
      refine s_cs3 (n := 31) dX8_drawn_28 rfl mo_X8_within ml_X8_62 rfl (Nat.le_of_ble_eq_true rfl) (Nat.le_of_ble_eq_true rfl) (c_X8_within _ _ _ (fun hb28 => ?_) (fun hb28 => ?_))
      · dsimp only [m_push]
        refine s_if_eq (n := 34) (t := 43) dX8_drawn_31 (by decide) rfl (fun h => absurd h (by decide)) (fun _ => ?_)
        refine s_iload_n (n := 35) dX8_drawn_34 rfl rfl rfl ?_
        refine s_iconst (v := 0) (n := 36) dX8_drawn_35 rfl (by decide) ?_
        refine s_iconst (v := 1) (n := 37) dX8_drawn_36 rfl (by decide) ?_
        refine s_cs3 (n := 40) dX8_drawn_37 rfl mo_X8_within ml_X8_62 rfl (Nat.le_of_ble_eq_true rfl) (Nat.le_of_ble_eq_true rfl) (c_X8_within _ _ _ (fun hb37 => ?_) (fun hb37 => ?_))
        · dsimp only [m_push]
          refine s_if_ne (n := 43) (t := 46) dX8_drawn_40 (by decide) rfl (fun _ => ?_) (fun h => absurd h (by decide))
          obtain ⟨nn, hnn, rfl⟩ := wn_ex (x := n) (n := 60) hb17 rfl
          obtain ⟨ss, hss, rfl⟩ := wn_ex (x := s) (M := 999999) (n := 999999) ⟨fun q => hb28.1 (by rw [i32_lt] at *; have := ti0; have := ti1; omega), hb28.2⟩ rfl
          rw [nI_clamp (show nn < 2 ^ 31 by omega), nI_clamp (show ss < 2 ^ 31 by omega)] at hQ
          have hfb : ∀ i, dwF t nn ss (t 8) (fun _ => 0) i ≤ 60 := fun i => Nat.le_trans (dwF_le nn ss (t 8) (fun _ => 0) 0 (fun _ => Nat.le_refl _) i) (by omega)
          have hz := dwF_z (t := t) nn ss (t 8) (fun _ => 0) (fun _ _ _ => rfl)
          rw [if_pos hb17, if_pos hb28, if_pos hb37] at hQ
          dsimp only at hQ
          refine s_aload_n (n := 47) dX8_drawn_46 rfl rfl rfl ?_
          refine s_getr (k2 := 24) (n := 50) dX8_drawn_47 rfl fl_X8_46 rfl rfl rfl ?_
          refine s_aload_n (n := 51) dX8_drawn_50 rfl rfl rfl ?_
          refine s_getr (k2 := 28) (n := 54) dX8_drawn_51 rfl fl_X8_25 rfl rfl rfl ?_
          refine s_iload_n (n := 55) dX8_drawn_54 rfl rfl rfl ?_
          refine s_iload_n (n := 56) dX8_drawn_55 rfl rfl rfl ?_
          refine s_cv3 (n := 59) dX8_drawn_56 rfl mo_X5_drawCentury ml_X8_273 rfl (by decide) rfl rfl (Nat.le_of_ble_eq_true rfl) (Nat.le_of_ble_eq_true rfl) (c_X5_drawCentury hT (by rw [hC.2.2.1.1, hh]; rfl) hK hnn (by omega) (fun g2 hf hp => ?_))
          obtain ⟨p, hR⟩ := hp
          dsimp only [m_push]
          refine s_iload_n (n := 60) dX8_drawn_59 rfl rfl rfl ?_
          refine s_if_ne (n := 63) (t := 76) dX8_drawn_60 (by decide) rfl (fun h60 => ?_) (fun h60 => ?_)
          · refine s_aload_n (n := 77) dX8_drawn_76 rfl rfl rfl ?_
            refine s_getr (k2 := 24) (n := 80) dX8_drawn_77 rfl fl_X8_46 rfl rfl rfl ?_
            refine s_getr (k2 := 68) (n := 83) dX8_drawn_80 rfl fl_X8_253 rfl rfl rfl ?_
            refine s_cv0 (n := 86) dX8_drawn_83 rfl mo_X1_mostFavoured ml_X8_280 rfl (by decide) rfl rfl (Nat.le_of_ble_eq_true rfl) (Nat.le_of_ble_eq_true rfl) (c_X1_mostFavoured hb68 hR hK.t1 hz hfb ?_)
            dsimp only [m_push]
            refine s_cs1 (n := 89) dX8_drawn_86 rfl mo_X8_orNone ml_X8_150 rfl (Nat.le_of_ble_eq_true rfl) (Nat.le_of_ble_eq_true rfl) (c_X8_orNone _ ?_)
            dsimp only [m_push]
            refine s_ireturn dX8_drawn_89 rfl rfl ?_
            first
            | (rw [if_pos h60] at hQ; rw [goF_o 6 0 0 (by decide) (p := 0)]; exact hQ g2 (hC.fr hf) (hf.FC (by decide)))
            | (rw [if_neg h60] at hQ; rw [orN_e (mfF_6 6 0 (0, none) (by decide) (fun q hq => by cases hq))]; exact hQ g2 (hC.fr hf) (hf.FC (by decide)))
          · refine s_aload_n (n := 64) dX8_drawn_63 rfl rfl rfl ?_
            refine s_getr (k2 := 24) (n := 67) dX8_drawn_64 rfl fl_X8_46 rfl rfl rfl ?_
            refine s_getr (k2 := 68) (n := 70) dX8_drawn_67 rfl fl_X8_253 rfl rfl rfl ?_
            refine s_cv0 (n := 73) dX8_drawn_70 rfl mo_X1_allGot ml_X8_277 rfl (by decide) rfl rfl (Nat.le_of_ble_eq_true rfl) (Nat.le_of_ble_eq_true rfl) (c_X1_allGot hb68 hR (by rw [dwT_ne (by decide) (by decide)]; exact hK.t1) ?_)
            dsimp only [m_push]
            refine s_goto (t := 89) dX8_drawn_73 (by decide) ?_
            refine s_ireturn dX8_drawn_89 rfl rfl ?_
            first
            | (rw [if_pos h60] at hQ; rw [goF_o 6 0 0 (by decide) (p := 0)]; exact hQ g2 (hC.fr hf) (hf.FC (by decide)))
            | (rw [if_neg h60] at hQ; rw [orN_e (mfF_6 6 0 (0, none) (by decide) (fun q hq => by cases hq))]; exact hQ g2 (hC.fr hf) (hf.FC (by decide)))
        · dsimp only [m_push]
          refine s_if_ne (n := 43) (t := 46) dX8_drawn_40 (by decide) rfl (fun h => absurd h (by decide)) (fun _ => ?_)
          refine s_ldc (n := 45) dX8_drawn_43 rfl kc_X8_66 ?_
          refine s_ireturn dX8_drawn_45 rfl rfl ?_
          first
          | (rw [if_neg hb17] at hQ; exact hQ g hC F_C.rf)
          | (rw [if_pos hb17, if_neg hb28] at hQ; exact hQ g hC F_C.rf)
          | (rw [if_pos hb17, if_pos hb28, if_neg hb37] at hQ; exact hQ g hC F_C.rf)
      · dsimp only [m_push]
        refine s_if_eq (n := 34) (t := 43) dX8_drawn_31 (by decide) rfl (fun _ => ?_) (fun h => absurd h (by decide))
        refine s_ldc (n := 45) dX8_drawn_43 rfl kc_X8_66 ?_
        refine s_ireturn dX8_drawn_45 rfl rfl ?_
        first
        | (rw [if_neg hb17] at hQ; exact hQ g hC F_C.rf)
        | (rw [if_pos hb17, if_neg hb28] at hQ; exact hQ g hC F_C.rf)
        | (rw [if_pos hb17, if_pos hb28, if_neg hb37] at hQ; exact hQ g hC F_C.rf)
    · dsimp only [m_push]
      refine s_if_eq (n := 23) (t := 43) dX8_drawn_20 (by decide) rfl (fun _ => ?_) (fun h => absurd h (by decide))
      refine s_ldc (n := 45) dX8_drawn_43 rfl kc_X8_66 ?_
      refine s_ireturn dX8_drawn_45 rfl rfl ?_
      first
      | (rw [if_neg hb17] at hQ; exact hQ g hC F_C.rf)
      | (rw [if_pos hb17, if_neg hb28] at hQ; exact hQ g hC F_C.rf)
      | (rw [if_pos hb17, if_pos hb28, if_neg hb37] at hQ; exact hQ g hC F_C.rf)
  · refine s_ldc (n := 12) dX8_drawn_10 rfl kc_X8_138 ?_
    refine s_ireturn dX8_drawn_12 rfl rfl ?_
    cases hh : a_hill a with
    | none => rw [hh] at hQ; exact hQ g hC F_C.rf
    | some t => rw [hh] at h7; exact absurd h7 (by show ¬ (1 : Int32) = 0; decide)
