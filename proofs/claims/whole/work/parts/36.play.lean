def wyF (c n s : Nat) : Nat := c ^ pcn s * (10 - c) ^ (n - pcn s)
def prN (c s : Nat) : Nat → Nat
  | 0 => 1
  | k + 1 => prN c s k * (if s / 2 ^ k % 2 = 1 then c else 10 - c)
def plF (P : Nat → Bool) (W : Nat → Nat) : Nat → Nat → Nat → Nat
  | 0, _, x => x
  | m + 1, s, x => plF P W m (s + 1) (if P s = true then x + W s else x)
theorem pcn_n : ∀ n, n < 7 → ∀ s, s < 2 ^ n → pcn s ≤ n := by decide +kernel
theorem prN_w : ∀ c, c < 11 → ∀ n, n < 7 → ∀ s, s < 2 ^ n → prN c s n = wyF c n s := by decide +kernel
theorem plF_10 : ∀ c, c < 11 → ∀ n, n < 7 → plF (fun _ => true) (wyF c n) (2 ^ n) 0 0 = 10 ^ n := by decide +kernel
theorem p10_b : ∀ n, n < 7 → 1 ≤ 10 ^ n ∧ 10 ^ n ≤ 1000000 := by decide +kernel
theorem bt_n : ∀ s, s < 64 → ∀ k, k < 6 → (bt (nI s) (nI k) = 1 ↔ s / 2 ^ k % 2 = 1) := by decide +kernel
theorem plF_mono {P : Nat → Bool} {W : Nat → Nat} : ∀ (m s x y : Nat), x ≤ y → plF P W m s x ≤ plF (fun _ => true) W m s y
  | 0, _, x, y, h => h
  | m + 1, s, x, y, h => by
    unfold plF
    refine plF_mono m (s + 1) _ _ ?_
    rw [if_pos rfl]
    split <;> omega
def plA (t : m_T) (h c : Nat) : Nat := plF (fun s => decide (sRest (a_op t s) 0 = some h)) (wyF c (a_cn t)) (2 ^ a_cn t) 0 0
theorem plA_le {t : m_T} {h c : Nat} (hc : c ≤ 10) (hn : a_cn t ≤ 6) : plA t h c ≤ 10 ^ a_cn t := by
  rw [← plF_10 c (by omega) (a_cn t) (by omega)]
  exact plF_mono _ _ _ _ (Nat.le_refl _)
/-- Euclid's steps come to their end -/
def euD : Nat → Nat → Nat → Prop
  | 0, _, y => y = 0
  | f + 1, x, y => y = 0 ∨ euD f y (x % y)
theorem euD_b : ∀ (k x y : Nat), y < 2 ^ k → euD (2 * k) x y
  | 0, x, y, h => by show y = 0; simp at h; exact h
  | k + 1, x, y, h => by
    show y = 0 ∨ (x % y = 0 ∨ euD (2 * k) (x % y) (y % (x % y)))
    by_cases h0 : y = 0
    · exact Or.inl h0
    · refine Or.inr ?_
      by_cases h1 : x % y = 0
      · exact Or.inl h1
      · refine Or.inr (euD_b k _ _ ?_)
        have a1 : x % y < y := Nat.mod_lt _ (by omega)
        generalize x % y = r at h1 a1 ⊢
        have a2 : y % r < r := Nat.mod_lt _ (by omega)
        have a3 := Nat.div_add_mod y r
        have a4 : 1 ≤ y / r := (Nat.le_div_iff_mul_le (by omega)).mpr (by omega)
        have a5 : r * 1 ≤ r * (y / r) := Nat.mul_le_mul_left _ a4
        rw [Nat.pow_succ] at h
        omega
theorem gcd_st (x y : Nat) : Nat.gcd y (x % y) = Nat.gcd x y := by
  rw [Nat.gcd_comm y, ← Nat.gcd_rec, Nat.gcd_comm]
def sp_play (a : a_S) (h c w : Int32) : Int32 × a_S := (if wn h 0 (a_H a 1 - 1) then (if wn c 0 10 then (if wn w 0 1 then nI ((if w = 0 then plA (a_H a) h.toNatClampNeg c.toNatClampNeg else 10 ^ a_cn (a_H a)) / Nat.gcd (plA (a_H a) h.toNatClampNeg c.toNatClampNeg) (10 ^ a_cn (a_H a))) else -1000001) else -1000001) else -1000001, a)
theorem sR_op (t : m_T) (s : Nat) (d : Int32) : sR (a_op t s) (t 7) d = sRest (a_op t s) d := by
  have e : t 7 = a_op t s 7 := by unfold a_op; rw [upd_ne (by decide)]
  rw [e]; rfl
theorem lp_X8_power {SL d : Nat} {Q : Option Int32 → m_G → Prop} {g : m_G} {c e : Nat} (he : e < 100) (hQ : Q (some (nI (c ^ e))) g) : ∀ (n k : Nat), k + n = e → Sim SL d yX8_power cX8_power 4 (some .int) 4 [.int (nI c), .int (nI e), .int (nI (c ^ k)), .int (nI k)] [] g Q := by
  intro n
  induction n with
  | zero =>
    intro k hkn
    have hk : k = e := by omega
    subst hk
    refine s_iload_n (n := 5) dX8_power_4 rfl rfl rfl ?_
    refine s_iload_n (n := 6) dX8_power_5 rfl rfl rfl ?_
    refine s_icmp_ge (n := 9) (t := 19) dX8_power_6 (by decide) rfl (fun h6 => ?_) (fun h6 => ?_)
    · refine s_iload_n (n := 20) dX8_power_19 rfl rfl rfl ?_
      refine s_ireturn dX8_power_20 rfl rfl ?_
      exact hQ
    · exact absurd (nI_le (Nat.le_refl _) (by omega)) h6
  | succ n ih =>
    intro k hkn
    refine s_iload_n (n := 5) dX8_power_4 rfl rfl rfl ?_
    refine s_iload_n (n := 6) dX8_power_5 rfl rfl rfl ?_
    refine s_icmp_ge (n := 9) (t := 19) dX8_power_6 (by decide) rfl (fun h6 => ?_) (fun h6 => ?_)
    · exact absurd h6 (nI_ge (show k < e by omega) (by omega))
    · refine s_iload_n (n := 10) dX8_power_9 rfl rfl rfl ?_
      refine s_iload_n (n := 11) dX8_power_10 rfl rfl rfl ?_
      refine s_imul (n := 12) dX8_power_11 rfl ?_
      rw [pk_mul, ← Nat.pow_succ]
      refine s_istore_n (n := 13) dX8_power_12 rfl rfl (by decide) rfl rfl ?_
      refine s_iinc (n := 16) (v := nI (k + 1)) dX8_power_13 rfl (by decide) rfl rfl (nI_1 k) rfl ?_
      refine s_goto (t := 4) dX8_power_16 (by decide) ?_
      exact ih (k + 1) (by omega)
theorem c_X8_power {SL : Nat} {d : Nat} {Q : Option Int32 → m_G → Prop} {g : m_G} {x y : Int32} (c e : Nat) (hx : x = nI c) (hy : y = nI e) (he : e < 100) (hQ : Q (some (nI (c ^ e))) g) : Sim SL d yX8_power cX8_power 4 (some .int) 0 [.int x, .int y, .null, .null] [] g Q := by
  subst hx hy
  refine s_iconst (v := 1) (n := 1) dX8_power_0 rfl (by decide) ?_
  refine s_istore_n (n := 2) dX8_power_1 rfl rfl (by decide) rfl rfl ?_
  refine s_iconst (v := 0) (n := 3) dX8_power_2 rfl (by decide) ?_
  refine s_istore_n (n := 4) dX8_power_3 rfl rfl (by decide) rfl rfl ?_
  exact lp_X8_power he hQ e 0 (by omega)
theorem lp_X8_commonDivisor {SL d : Nat} {Q : Option Int32 → m_G → Prop} {g : m_G} {a b : Int32} : ∀ (f x y s : Nat) (x5 : Value), s + f ≤ 64 → euD f x y → x < 2 ^ 31 → y < 2 ^ 31 → Q (some (nI (Nat.gcd x y))) g → Sim SL d yX8_commonDivisor cX8_commonDivisor 6 (some .int) 7 [.int a, .int b, .int (nI x), .int (nI y), .int (nI s), x5] [] g Q := by
  intro f
  induction f with
  | zero =>
    intro x y s x5 hs hE hx hy hQ
    have hy0 : y = 0 := hE
    subst hy0
    rw [Nat.gcd_zero_right] at hQ
    refine s_iload (n := 9) dX8_commonDivisor_7 rfl rfl ?_
    refine s_bipush (v := 64) (n := 11) dX8_commonDivisor_9 rfl (by decide) ?_
    refine s_icmp_ge (n := 14) (t := 34) dX8_commonDivisor_11 (by decide) rfl (fun h11 => ?_) (fun h11 => ?_)
    · refine s_iload_n (n := 35) dX8_commonDivisor_34 rfl rfl rfl ?_
      refine s_ireturn dX8_commonDivisor_35 rfl rfl ?_
      exact hQ
    · refine s_iload_n (n := 15) dX8_commonDivisor_14 rfl rfl rfl ?_
      refine s_if_eq (n := 18) (t := 34) dX8_commonDivisor_15 (by decide) rfl (fun h15 => ?_) (fun h15 => ?_)
      · refine s_iload_n (n := 35) dX8_commonDivisor_34 rfl rfl rfl ?_
        refine s_ireturn dX8_commonDivisor_35 rfl rfl ?_
        exact hQ
      · exact absurd rfl h15
  | succ f ih =>
    intro x y s x5 hs hE hx hy hQ
    refine s_iload (n := 9) dX8_commonDivisor_7 rfl rfl ?_
    refine s_bipush (v := 64) (n := 11) dX8_commonDivisor_9 rfl (by decide) ?_
    refine s_icmp_ge (n := 14) (t := 34) dX8_commonDivisor_11 (by decide) rfl (fun h11 => ?_) (fun h11 => ?_)
    · exact absurd h11 (nI_ge (show s < 64 by omega) (by decide))
    · refine s_iload_n (n := 15) dX8_commonDivisor_14 rfl rfl rfl ?_
      refine s_if_eq (n := 18) (t := 34) dX8_commonDivisor_15 (by decide) rfl (fun h15 => ?_) (fun h15 => ?_)
      · refine s_iload_n (n := 35) dX8_commonDivisor_34 rfl rfl rfl ?_
        refine s_ireturn dX8_commonDivisor_35 rfl rfl ?_
        have hy0 : y = 0 := by
          have := congrArg Int32.toInt h15
          rw [nI_toInt (by omega)] at this
          have := ti0
          omega
        subst hy0
        rw [Nat.gcd_zero_right] at hQ
        exact hQ
      · have hy1 : ¬ y = 0 := fun z => h15 (by rw [z]; rfl)
        have hrem : nI x - nI x / nI y * nI y = nI (x % y) := pk_rem hx (by omega) hy
        refine s_iload_n (n := 19) dX8_commonDivisor_18 rfl rfl rfl ?_
        refine s_iload_n (n := 20) dX8_commonDivisor_19 rfl rfl rfl ?_
        refine s_irem (n := 21) dX8_commonDivisor_20 rfl h15 ?_
        rw [hrem]
        refine s_istore (n := 23) dX8_commonDivisor_21 rfl (by decide) rfl rfl ?_
        refine s_iload_n (n := 24) dX8_commonDivisor_23 rfl rfl rfl ?_
        refine s_istore_n (n := 25) dX8_commonDivisor_24 rfl rfl (by decide) rfl rfl ?_
        refine s_iload (n := 27) dX8_commonDivisor_25 rfl rfl ?_
        refine s_istore_n (n := 28) dX8_commonDivisor_27 rfl rfl (by decide) rfl rfl ?_
        refine s_iinc (n := 31) (v := nI (s + 1)) dX8_commonDivisor_28 rfl (by decide) rfl rfl (nI_1 s) rfl ?_
        refine s_goto (t := 7) dX8_commonDivisor_31 (by decide) ?_
        rw [← gcd_st x y] at hQ
        exact ih y (x % y) (s + 1) _ (by omega) (hE.resolve_left hy1) hy (Nat.lt_trans (Nat.mod_lt _ (by omega)) hy) hQ
theorem c_X8_commonDivisor {SL : Nat} {d : Nat} {Q : Option Int32 → m_G → Prop} {g : m_G} (x y : Nat) (hx : x < 2 ^ 31) (hy : y < 2 ^ 30) (hQ : Q (some (nI (Nat.gcd x y))) g) : Sim SL d yX8_commonDivisor cX8_commonDivisor 6 (some .int) 0 [.int (nI x), .int (nI y), .null, .null, .null, .null] [] g Q := by
  refine s_iload_n (n := 1) dX8_commonDivisor_0 rfl rfl rfl ?_
  refine s_istore_n (n := 2) dX8_commonDivisor_1 rfl rfl (by decide) rfl rfl ?_
  refine s_iload_n (n := 3) dX8_commonDivisor_2 rfl rfl rfl ?_
  refine s_istore_n (n := 4) dX8_commonDivisor_3 rfl rfl (by decide) rfl rfl ?_
  refine s_iconst (v := 0) (n := 5) dX8_commonDivisor_4 rfl (by decide) ?_
  refine s_istore (n := 7) dX8_commonDivisor_5 rfl (by decide) rfl rfl ?_
  exact lp_X8_commonDivisor 60 x y 0 _ (by decide) (euD_b 30 x y hy) hx (by omega) hQ
set_option maxHeartbeats 1000000 in
theorem lp_X5_playedWays {SL d : Nat} {Q : Option Int32 → m_G → Prop} {t : m_T} (hK : a_TK t) {h c : Nat} (hh : h < 6) (hc10 : c ≤ 10) : ∀ (m s : Nat) (g : m_G) (x6 : Value) (x : Nat), s + m = 2 ^ a_cn t → TW g 28 t → (∃ w, TW g 68 (upd t 8 w)) → (∀ g2, m_fr m_scr g g2 → Q (some (nI (plF (fun s => decide (sRest (a_op t s) 0 = some h)) (wyF c (a_cn t)) m s x))) g2) → Sim SL (d + 5) yX5_playedWays cX5_playedWays 7 (some .int) 14 [.ref 24, .ref 28, .int (nI h), .int (nI c), .int (nI x), .int (nI s), x6] [] g Q := by
  have hc1 := hK.2.1
  have hcn := (a_cnE hc1).2
  have hpw := pow_c hcn
  intro m
  induction m with
  | zero =>
    intro s g x6 x hin hT hR0 hQ
    refine s_iload (n := 16) dX5_playedWays_14 rfl rfl ?_
    refine s_aload_n (n := 17) dX5_playedWays_16 rfl rfl rfl ?_
    refine s_cv0 (n := 20) dX5_playedWays_17 rfl mo_X1_allHouses ml_X5_22 rfl (by decide) rfl rfl (Nat.le_of_ble_eq_true rfl) (Nat.le_of_ble_eq_true rfl) (c_X1_allHouses hb28 hT hc1 ?_)
    dsimp only [m_push]
    refine s_icmp_gt (n := 23) (t := 88) dX5_playedWays_20 (by decide) rfl (fun h20 => ?_) (fun h20 => ?_)
    · refine s_iload (n := 90) dX5_playedWays_88 rfl rfl ?_
      refine s_ireturn dX5_playedWays_90 rfl rfl ?_
      exact hQ g m_fr.rf
    · exact absurd (nI_gt (by omega) (by omega)) h20
  | succ m ih =>
    intro s g x6 x hin hT hR0 hQ
    obtain ⟨w, hR⟩ := hR0
    have hs : s < 2 ^ a_cn t := by omega
    unfold plF at hQ
    refine s_iload (n := 16) dX5_playedWays_14 rfl rfl ?_
    refine s_aload_n (n := 17) dX5_playedWays_16 rfl rfl rfl ?_
    refine s_cv0 (n := 20) dX5_playedWays_17 rfl mo_X1_allHouses ml_X5_22 rfl (by decide) rfl rfl (Nat.le_of_ble_eq_true rfl) (Nat.le_of_ble_eq_true rfl) (c_X1_allHouses hb28 hT hc1 ?_)
    dsimp only [m_push]
    refine s_icmp_gt (n := 23) (t := 88) dX5_playedWays_20 (by decide) rfl (fun h20 => ?_) (fun h20 => ?_)
    · exact absurd h20 (nI_nlt (by omega) (by omega))
    · refine s_aload_n (n := 24) dX5_playedWays_23 rfl rfl rfl ?_
      refine s_getr (k2 := 68) (n := 27) dX5_playedWays_24 rfl fl_X5_12 rfl rfl rfl ?_
      refine s_aload_n (n := 28) dX5_playedWays_27 rfl rfl rfl ?_
      refine s_geti (n := 31) dX5_playedWays_28 rfl fl_X5_32 rfl rfl ?_
      rw [hT.1.2.2.2.2.2.2.2.2]
      refine s_iload (n := 33) dX5_playedWays_31 rfl rfl ?_
      refine s_ixor (n := 34) dX5_playedWays_33 rfl ?_
      refine s_puti (n := 37) dX5_playedWays_34 rfl fl_X5_32 rfl rfl rfl ?_
      have hR2 : TW (m_up g 68 11 (t 8 ^^^ nI s)) 68 (a_op t s) := by
        have := hR.opn (t 8 ^^^ nI s)
        rw [upd_upd] at this
        exact this
      have hK2 : a_TK (a_op t s) := hK.op _
      refine s_aload_n (n := 38) dX5_playedWays_37 rfl rfl rfl ?_
      refine s_getr (k2 := 68) (n := 41) dX5_playedWays_38 rfl fl_X5_12 rfl rfl rfl ?_
      refine s_iconst (v := 0) (n := 42) dX5_playedWays_41 rfl (by decide) ?_
      refine s_cv1 (n := 45) dX5_playedWays_42 rfl mo_X1_restIn ml_X5_36 rfl (by decide) rfl rfl (Nat.le_of_ble_eq_true rfl) (Nat.le_of_ble_eq_true rfl) (c_X1_restIn hb68 hR2 hK2.t0 hK2.t1 hK2.t6 _ (hK2.top wn00) (fun g2 hf _ _ _ => ?_))
      have hfr : m_fr m_scr g g2 := (m_fr.up (by decide)).tr (hf.mono (by decide))
      have hT2 : TW g2 28 t := hT.kept (hfr 28 (by decide)) (fun i hi => hfr _ (by simp [m_scr]; omega))
      dsimp only [m_push]
      refine s_iload_n (n := 46) dX5_playedWays_45 rfl rfl rfl ?_
      refine s_icmp_ne (n := 49) (t := 82) dX5_playedWays_46 (by decide) rfl (fun h46 => ?_) (fun h46 => ?_)
      · refine s_iinc (n := 85) (v := nI (s + 1)) dX5_playedWays_82 rfl (by decide) rfl rfl (nI_1 s) rfl ?_
        refine s_goto (t := 14) dX5_playedWays_85 (by decide) ?_
        have hp : ¬ decide (sRest (a_op t s) 0 = some h) = true := fun q => h46 ((eC_eq hh sRun6).mpr (of_decide_eq_true q))
        rw [if_neg hp] at hQ
        exact ih (s + 1) g2 _ x (by omega) hT2 ⟨_, hR2.fr hf⟩ (fun g3 hf3 => hQ g3 (hfr.tr hf3))
      · refine s_iload (n := 51) dX5_playedWays_49 rfl rfl ?_
        refine s_cs1 (n := 54) dX5_playedWays_51 rfl mo_J6_bitCount_0f7a4 ml_X5_26 rfl (Nat.le_of_ble_eq_true rfl) (Nat.le_of_ble_eq_true rfl) (c_bitCount _ ?_)
        dsimp only [m_push]
        have hpn := pcn_n (a_cn t) (by omega) s hs
        rw [bcE_64 s (by omega)]
        refine s_istore (n := 56) dX5_playedWays_54 rfl (by decide) rfl rfl ?_
        refine s_iload (n := 58) dX5_playedWays_56 rfl rfl ?_
        refine s_iload_n (n := 59) dX5_playedWays_58 rfl rfl rfl ?_
        refine s_iload (n := 61) dX5_playedWays_59 rfl rfl ?_
        refine s_cs2 (n := 64) dX5_playedWays_61 rfl mo_X8_power ml_X5_103 rfl (Nat.le_of_ble_eq_true rfl) (Nat.le_of_ble_eq_true rfl) (c_X8_power c (pcn s) rfl rfl (by omega) ?_)
        dsimp only [m_push]
        refine s_bipush (v := 10) (n := 66) dX5_playedWays_64 rfl (by decide) ?_
        refine s_iload_n (n := 67) dX5_playedWays_66 rfl rfl rfl ?_
        refine s_isub (n := 68) dX5_playedWays_67 rfl ?_
        refine s_aload_n (n := 69) dX5_playedWays_68 rfl rfl rfl ?_
        refine s_geti (n := 72) dX5_playedWays_69 rfl fl_X5_68 rfl rfl ?_
        rw [hT2.1.2.1, (a_cnE hc1).1]
        refine s_iload (n := 74) dX5_playedWays_72 rfl rfl ?_
        refine s_isub (n := 75) dX5_playedWays_74 rfl ?_
        refine s_cs2 (n := 78) dX5_playedWays_75 rfl mo_X8_power ml_X5_103 rfl (Nat.le_of_ble_eq_true rfl) (Nat.le_of_ble_eq_true rfl) (c_X8_power (10 - c) (a_cn t - pcn s) (by rw [show (10 : Int32) = nI 10 from rfl, pk_sub hc10]) (by rw [pk_sub (by omega)]) (by omega) ?_)
        dsimp only [m_push]
        refine s_imul (n := 79) dX5_playedWays_78 rfl ?_
        refine s_iadd (n := 80) dX5_playedWays_79 rfl ?_
        rw [pk_mul, nI_add, show x + c ^ pcn s * (10 - c) ^ (a_cn t - pcn s) = x + wyF c (a_cn t) s from rfl]
        refine s_istore (n := 82) dX5_playedWays_80 rfl (by decide) rfl rfl ?_
        refine s_iinc (n := 85) (v := nI (s + 1)) dX5_playedWays_82 rfl (by decide) rfl rfl (nI_1 s) rfl ?_
        refine s_goto (t := 14) dX5_playedWays_85 (by decide) ?_
        have hp : decide (sRest (a_op t s) 0 = some h) = true := decide_eq_true ((eC_eq hh sRun6).mp h46)
        rw [if_pos hp] at hQ
        exact ih (s + 1) g2 _ (x + wyF c (a_cn t) s) (by omega) hT2 ⟨_, hR2.fr hf⟩ (fun g3 hf3 => hQ g3 (hfr.tr hf3))
theorem c_X5_playedWays {SL : Nat} {d : Nat} {Q : Option Int32 → m_G → Prop} {g : m_G} {t : m_T} (hT : TW g 28 t) (h2 : g 28 2 = 1) (hK : a_TK t) {h c : Nat} (hh : h < 6) (hc10 : c ≤ 10) (hQ : ∀ g2, m_fr m_scr g g2 → Q (some (nI (plA t h c))) g2) : Sim SL (d + 5) yX5_playedWays cX5_playedWays 7 (some .int) 0 [.ref 24, .ref 28, .int (nI h), .int (nI c), .null, .null, .null] [] g Q := by
  refine s_aload_n (n := 1) dX5_playedWays_0 rfl rfl rfl ?_
  refine s_getr (k2 := 68) (n := 4) dX5_playedWays_1 rfl fl_X5_12 rfl rfl rfl ?_
  refine s_aload_n (n := 5) dX5_playedWays_4 rfl rfl rfl ?_
  refine s_cv1 (n := 8) dX5_playedWays_5 rfl mo_X1_become ml_X5_18 rfl (by decide) rfl rfl (Nat.le_of_ble_eq_true rfl) (Nat.le_of_ble_eq_true rfl) (c_X1_become hb68 hb28 (by decide) (Or.inr h2) (fun g1 hf1 hE => ?_))
  have hfr1 : m_fr m_scr g g1 := hf1.mono (by decide)
  have hT1 := hE.TW hT
  dsimp only [m_push]
  refine s_iconst (v := 0) (n := 9) dX5_playedWays_8 rfl (by decide) ?_
  refine s_istore (n := 11) dX5_playedWays_9 rfl (by decide) rfl rfl ?_
  refine s_iconst (v := 0) (n := 12) dX5_playedWays_11 rfl (by decide) ?_
  refine s_istore (n := 14) dX5_playedWays_12 rfl (by decide) rfl rfl ?_
  exact lp_X5_playedWays hK hh hc10 (2 ^ a_cn t) 0 g1 _ 0 (by omega) (hT.kept (hfr1 28 (by decide)) (fun i hi => hfr1 _ (by simp [m_scr]; omega))) ⟨t 8, by rw [upd_self]; exact hT1⟩ (fun g3 hf3 => hQ g3 (hfr1.tr hf3))
theorem C_play {SL : Nat} {d : Nat} {Q : Option Int32 → m_G → Prop} {g : m_G} {a : a_S} (hA : a_OK a) (hC : C_R g a) (h c w : Int32) (hQ : E_C g a Q (sp_play a h c w)) : Sim SL (d + 6) yX8_play cX8_play 7 (some .int) 0 [.ref 0, .int h, .int c, .int w, .null, .null, .null] [] g Q := by
  unfold E_C sp_play at hQ
  have hT : TW g 28 (a_H a) := hC.2.2.1.2
  refine s_aload_n (n := 1) dX8_play_0 rfl rfl rfl ?_
  refine s_iload_n (n := 2) dX8_play_1 rfl rfl rfl ?_
  refine s_cv1 (n := 5) dX8_play_2 rfl mo_X8_isHouse ml_X8_153 rfl (by decide) rfl rfl (Nat.le_of_ble_eq_true rfl) (Nat.le_of_ble_eq_true rfl) (c_X8_isHouse hT _ (fun hb2 => ?_) (fun hb2 => ?_))
  · dsimp only [m_push]
    refine s_if_eq (n := 8) (t := 27) dX8_play_5 (by decide) rfl (fun h => absurd h (by decide)) (fun _ => ?_)
    refine s_iload_n (n := 9) dX8_play_8 rfl rfl rfl ?_
    refine s_iconst (v := 0) (n := 10) dX8_play_9 rfl (by decide) ?_
    refine s_bipush (v := 10) (n := 12) dX8_play_10 rfl (by decide) ?_
    refine s_cs3 (n := 15) dX8_play_12 rfl mo_X8_within ml_X8_62 rfl (Nat.le_of_ble_eq_true rfl) (Nat.le_of_ble_eq_true rfl) (c_X8_within _ _ _ (fun hb12 => ?_) (fun hb12 => ?_))
    · dsimp only [m_push]
      refine s_if_eq (n := 18) (t := 27) dX8_play_15 (by decide) rfl (fun h => absurd h (by decide)) (fun _ => ?_)
      refine s_iload_n (n := 19) dX8_play_18 rfl rfl rfl ?_
      refine s_iconst (v := 0) (n := 20) dX8_play_19 rfl (by decide) ?_
      refine s_iconst (v := 1) (n := 21) dX8_play_20 rfl (by decide) ?_
      refine s_cs3 (n := 24) dX8_play_21 rfl mo_X8_within ml_X8_62 rfl (Nat.le_of_ble_eq_true rfl) (Nat.le_of_ble_eq_true rfl) (c_X8_within _ _ _ (fun hb21 => ?_) (fun hb21 => ?_))
      · dsimp only [m_push]
        refine s_if_ne (n := 27) (t := 30) dX8_play_24 (by decide) rfl (fun _ => ?_) (fun h => absurd h (by decide))
        have hK := hA.tk hb2
        obtain ⟨t, hh⟩ := a_hs hA hb2
        obtain ⟨i, hi, rfl, hci⟩ := isH_ex hA.cnt hb2
        rw [nI_clamp (show i < 2 ^ 31 by omega)] at hQ
        obtain ⟨cc, hcc, rfl⟩ := wn_ex (x := c) (n := 10) hb12 rfl
        rw [nI_clamp (show cc < 2 ^ 31 by omega)] at hQ
        have hn6 := (a_cnE hK.2.1).2
        have hab : plA (a_H a) i cc ≤ 10 ^ a_cn (a_H a) := plA_le hcc hn6
        have h10 := p10_b (a_cn (a_H a)) (by omega)
        have hgp : 1 ≤ Nat.gcd (plA (a_H a) i cc) (10 ^ a_cn (a_H a)) := Nat.gcd_pos_of_pos_right _ (by omega)
        have hgl : Nat.gcd (plA (a_H a) i cc) (10 ^ a_cn (a_H a)) ≤ 10 ^ a_cn (a_H a) := Nat.gcd_le_right _ (by omega)
        rw [if_pos hb2, if_pos hb12, if_pos hb21] at hQ
        refine s_aload_n (n := 31) dX8_play_30 rfl rfl rfl ?_
        refine s_getr (k2 := 24) (n := 34) dX8_play_31 rfl fl_X8_46 rfl rfl rfl ?_
        refine s_aload_n (n := 35) dX8_play_34 rfl rfl rfl ?_
        refine s_getr (k2 := 28) (n := 38) dX8_play_35 rfl fl_X8_25 rfl rfl rfl ?_
        refine s_iload_n (n := 39) dX8_play_38 rfl rfl rfl ?_
        refine s_iload_n (n := 40) dX8_play_39 rfl rfl rfl ?_
        refine s_cv3 (n := 43) dX8_play_40 rfl mo_X5_playedWays ml_X8_263 rfl (by decide) rfl rfl (Nat.le_of_ble_eq_true rfl) (Nat.le_of_ble_eq_true rfl) (c_X5_playedWays hT (by rw [hC.2.2.1.1, hh]; rfl) hK hi hcc (fun g2 hf => ?_))
        have hT2 : TW g2 28 (a_H a) := hT.kept (hf 28 (by decide)) (fun i hi => hf _ (by simp [m_scr]; omega))
        dsimp only [m_push]
        refine s_istore (n := 45) dX8_play_43 rfl (by decide) rfl rfl ?_
        refine s_bipush (v := 10) (n := 47) dX8_play_45 rfl (by decide) ?_
        refine s_aload_n (n := 48) dX8_play_47 rfl rfl rfl ?_
        refine s_getr (k2 := 28) (n := 51) dX8_play_48 rfl fl_X8_25 rfl rfl rfl ?_
        refine s_geti (n := 54) dX8_play_51 rfl fl_X8_132 rfl rfl ?_
        refine s_cs2 (n := 57) dX8_play_54 rfl mo_X8_power ml_X8_266 rfl (Nat.le_of_ble_eq_true rfl) (Nat.le_of_ble_eq_true rfl) (c_X8_power 10 (a_cn (a_H a)) rfl (by rw [hT2.1.2.1, (a_cnE hK.2.1).1]) (by omega) ?_)
        dsimp only [m_push]
        refine s_istore (n := 59) dX8_play_57 rfl (by decide) rfl rfl ?_
        refine s_iconst (v := 1) (n := 60) dX8_play_59 rfl (by decide) ?_
        refine s_iload (n := 62) dX8_play_60 rfl rfl ?_
        refine s_iload (n := 64) dX8_play_62 rfl rfl ?_
        refine s_cs2 (n := 67) dX8_play_64 rfl mo_X8_commonDivisor ml_X8_269 rfl (Nat.le_of_ble_eq_true rfl) (Nat.le_of_ble_eq_true rfl) (c_X8_commonDivisor (plA (a_H a) i cc) (10 ^ a_cn (a_H a)) (by omega) (by omega) ?_)
        dsimp only [m_push]
        refine s_mmax (n := 70) dX8_play_67 rfl mlm_X8_219 m_maxw (Nat.le_of_ble_eq_true rfl) ?_
        rw [show (if (1 : Int32) < nI (Nat.gcd (plA (a_H a) i cc) (10 ^ a_cn (a_H a))) then nI (Nat.gcd (plA (a_H a) i cc) (10 ^ a_cn (a_H a))) else 1) = nI (Nat.gcd (plA (a_H a) i cc) (10 ^ a_cn (a_H a))) by
          split
          · rfl
          · rename_i h9
            rw [show (1 : Int32) = nI 1 from rfl, i32_lt, nI_toInt (by decide), nI_toInt (by omega)] at h9
            rw [show (1 : Int32) = nI 1 from rfl]
            congr 1; omega]
        refine s_istore (n := 72) dX8_play_70 rfl (by decide) rfl rfl ?_
        refine s_iload_n (n := 73) dX8_play_72 rfl rfl rfl ?_
        refine s_if_ne (n := 76) (t := 81) dX8_play_73 (by decide) rfl (fun h73 => ?_) (fun h73 => ?_)
        · refine s_iload (n := 83) dX8_play_81 rfl rfl ?_
          refine s_iload (n := 85) dX8_play_83 rfl rfl ?_
          refine s_idiv (n := 86) dX8_play_85 rfl (fun z => by have := congrArg Int32.toInt z; rw [nI_toInt (by omega)] at this; have := ti0; omega) ?_
          rw [pk_div (by omega) (by omega) (by omega)]
          refine s_ireturn dX8_play_86 rfl rfl ?_
          first
          | (rw [if_pos h73] at hQ; exact hQ g2 (hC.fr hf) (hf.FC (by decide)))
          | (rw [if_neg h73] at hQ; exact hQ g2 (hC.fr hf) (hf.FC (by decide)))
        · refine s_iload (n := 78) dX8_play_76 rfl rfl ?_
          refine s_goto (t := 83) dX8_play_78 (by decide) ?_
          refine s_iload (n := 85) dX8_play_83 rfl rfl ?_
          refine s_idiv (n := 86) dX8_play_85 rfl (fun z => by have := congrArg Int32.toInt z; rw [nI_toInt (by omega)] at this; have := ti0; omega) ?_
          rw [pk_div (by omega) (by omega) (by omega)]
          refine s_ireturn dX8_play_86 rfl rfl ?_
          first
          | (rw [if_pos h73] at hQ; exact hQ g2 (hC.fr hf) (hf.FC (by decide)))
          | (rw [if_neg h73] at hQ; exact hQ g2 (hC.fr hf) (hf.FC (by decide)))
      · dsimp only [m_push]
        refine s_if_ne (n := 27) (t := 30) dX8_play_24 (by decide) rfl (fun h => absurd h (by decide)) (fun _ => ?_)
        refine s_ldc (n := 29) dX8_play_27 rfl kc_X8_66 ?_
        refine s_ireturn dX8_play_29 rfl rfl ?_
        simp only [if_pos hb2, if_pos hb12, if_neg hb21] at hQ
        exact hQ g hC F_C.rf
    · dsimp only [m_push]
      refine s_if_eq (n := 18) (t := 27) dX8_play_15 (by decide) rfl (fun _ => ?_) (fun h => absurd h (by decide))
      refine s_ldc (n := 29) dX8_play_27 rfl kc_X8_66 ?_
      refine s_ireturn dX8_play_29 rfl rfl ?_
      simp only [if_pos hb2, if_neg hb12] at hQ
      exact hQ g hC F_C.rf
  · dsimp only [m_push]
    refine s_if_eq (n := 8) (t := 27) dX8_play_5 (by decide) rfl (fun _ => ?_) (fun h => absurd h (by decide))
    refine s_ldc (n := 29) dX8_play_27 rfl kc_X8_66 ?_
    refine s_ireturn dX8_play_29 rfl rfl ?_
    simp only [if_neg hb2] at hQ
    exact hQ g hC F_C.rf
theorem lp_X9_playIn {SL d : Nat} {Q : Option Int32 → m_G → Prop} {t : m_T} (hK : a_TK t) {h c s x z : Nat} {w : Int32} (hc10 : c ≤ 10) (hs : s < 2 ^ a_cn t) {g : m_G} (hT : TM g 0 t) (hQ : Sim SL (d + 6) yX9_play cX9_play 9 (some .int) 101 [.ref 78, .int (nI h), .int (nI c), .int w, .int (nI x), .int (nI z), .int (nI s), .int (nI (prN c s (a_cn t))), .int (nI (a_cn t))] [] g Q) : ∀ (n k : Nat), k + n = a_cn t → Sim SL (d + 6) yX9_play cX9_play 9 (some .int) 61 [.ref 78, .int (nI h), .int (nI c), .int w, .int (nI x), .int (nI z), .int (nI s), .int (nI (prN c s k)), .int (nI k)] [] g Q := by
  have hc1 := hK.2.1
  have hcn := (a_cnE hc1).2
  have hpw := pow_c hcn
  intro n
  induction n with
  | zero =>
    intro k hkn
    have hk : k = a_cn t := by omega
    subst hk
    refine s_iload (n := 63) dX9_play_61 rfl rfl ?_
    refine s_aload_n (n := 64) dX9_play_63 rfl rfl rfl ?_
    refine s_getr (k2 := 79) (n := 67) dX9_play_64 rfl fl_X9_7 rfl rfl rfl ?_
    refine s_iconst (v := 1) (n := 68) dX9_play_67 rfl (by decide) ?_
    refine s_iaload 1 (n := 69) dX9_play_68 rfl rfl rfl (by decide) ?_
    rw [hT.z (by decide), (a_cnE hc1).1]
    refine s_icmp_ge (n := 72) (t := 101) dX9_play_69 (by decide) rfl (fun h69 => ?_) (fun h69 => ?_)
    · exact hQ
    · exact absurd (nI_le (Nat.le_refl _) (by omega)) h69
  | succ n ih =>
    intro k hkn
    have hk : k < a_cn t := by omega
    refine s_iload (n := 63) dX9_play_61 rfl rfl ?_
    refine s_aload_n (n := 64) dX9_play_63 rfl rfl rfl ?_
    refine s_getr (k2 := 79) (n := 67) dX9_play_64 rfl fl_X9_7 rfl rfl rfl ?_
    refine s_iconst (v := 1) (n := 68) dX9_play_67 rfl (by decide) ?_
    refine s_iaload 1 (n := 69) dX9_play_68 rfl rfl rfl (by decide) ?_
    rw [hT.z (by decide), (a_cnE hc1).1]
    refine s_icmp_ge (n := 72) (t := 101) dX9_play_69 (by decide) rfl (fun h69 => ?_) (fun h69 => ?_)
    · exact absurd h69 (nI_ge hk (by omega))
    · refine s_iload (n := 74) dX9_play_72 rfl rfl ?_
      refine s_iload (n := 76) dX9_play_74 rfl rfl ?_
      refine s_iload (n := 78) dX9_play_76 rfl rfl ?_
      refine s_cs2 (n := 81) dX9_play_78 rfl mo_X9_has ml_X9_158 rfl (Nat.le_of_ble_eq_true rfl) (Nat.le_of_ble_eq_true rfl) (c_X9_has _ _ (fun hb78 => ?_) (fun hb78 => ?_))
      · dsimp only [m_push]
        refine s_if_eq (n := 84) (t := 88) dX9_play_81 (by decide) rfl (fun h => absurd h (by decide)) (fun _ => ?_)
        refine s_iload_n (n := 85) dX9_play_84 rfl rfl rfl ?_
        refine s_goto (t := 92) dX9_play_85 (by decide) ?_
        first
        | rw [show (10 : Int32) - nI c = nI (10 - c) by rw [show (10 : Int32) = nI 10 from rfl, pk_sub hc10]]
        | skip
        refine s_imul (n := 93) dX9_play_92 rfl ?_
        first
        | rw [pk_mul, show prN c s k * c = prN c s (k + 1) by rw [prN, if_pos ((bt_n s (by omega) k (by omega)).mp hb78)]]
        | rw [pk_mul, show prN c s k * (10 - c) = prN c s (k + 1) by rw [prN, if_neg (fun q => hb78 ((bt_n s (by omega) k (by omega)).mpr q))]]
        refine s_istore (n := 95) dX9_play_93 rfl (by decide) rfl rfl ?_
        refine s_iinc (n := 98) (v := nI (k + 1)) dX9_play_95 rfl (by decide) rfl rfl (nI_1 k) rfl ?_
        refine s_goto (t := 61) dX9_play_98 (by decide) ?_
        exact ih (k + 1) (by omega)
      · dsimp only [m_push]
        refine s_if_eq (n := 84) (t := 88) dX9_play_81 (by decide) rfl (fun _ => ?_) (fun h => absurd h (by decide))
        refine s_bipush (v := 10) (n := 90) dX9_play_88 rfl (by decide) ?_
        refine s_iload_n (n := 91) dX9_play_90 rfl rfl rfl ?_
        refine s_isub (n := 92) dX9_play_91 rfl ?_
        first
        | rw [show (10 : Int32) - nI c = nI (10 - c) by rw [show (10 : Int32) = nI 10 from rfl, pk_sub hc10]]
        | skip
        refine s_imul (n := 93) dX9_play_92 rfl ?_
        first
        | rw [pk_mul, show prN c s k * c = prN c s (k + 1) by rw [prN, if_pos ((bt_n s (by omega) k (by omega)).mp hb78)]]
        | rw [pk_mul, show prN c s k * (10 - c) = prN c s (k + 1) by rw [prN, if_neg (fun q => hb78 ((bt_n s (by omega) k (by omega)).mpr q))]]
        refine s_istore (n := 95) dX9_play_93 rfl (by decide) rfl rfl ?_
        refine s_iinc (n := 98) (v := nI (k + 1)) dX9_play_95 rfl (by decide) rfl rfl (nI_1 k) rfl ?_
        refine s_goto (t := 61) dX9_play_98 (by decide) ?_
        exact ih (k + 1) (by omega)
theorem lp_X9_playOut {SL d : Nat} {Q : Option Int32 → m_G → Prop} {t : m_T} (hK : a_TK t) {h c : Nat} {w : Int32} (hh : h < 6) (hc10 : c ≤ 10) : ∀ (m s : Nat) (g : m_G) (x7 x8 : Value) (x z : Nat), s + m = 2 ^ a_cn t → TM g 0 t → (∀ g2 s9 x7 x8, M_sc g g2 → Sim SL (d + 6) yX9_play cX9_play 9 (some .int) 136 [.ref 78, .int (nI h), .int (nI c), .int w, .int (nI (plF (fun s => decide (sRest (a_op t s) 0 = some h)) (wyF c (a_cn t)) m s x)), .int (nI (plF (fun _ => true) (wyF c (a_cn t)) m s z)), .int s9, x7, x8] [] g2 Q) → Sim SL (d + 6) yX9_play cX9_play 9 (some .int) 42 [.ref 78, .int (nI h), .int (nI c), .int w, .int (nI x), .int (nI z), .int (nI s), x7, x8] [] g Q := by
  have hc1 := hK.2.1
  have hcn := (a_cnE hc1).2
  have hpw := pow_c hcn
  intro m
  induction m with
  | zero =>
    intro s g x7 x8 x z hin hT hQ
    refine s_iload (n := 44) dX9_play_42 rfl rfl ?_
    refine s_iconst (v := 1) (n := 45) dX9_play_44 rfl (by decide) ?_
    refine s_aload_n (n := 46) dX9_play_45 rfl rfl rfl ?_
    refine s_getr (k2 := 79) (n := 49) dX9_play_46 rfl fl_X9_7 rfl rfl rfl ?_
    refine s_iconst (v := 1) (n := 50) dX9_play_49 rfl (by decide) ?_
    refine s_iaload 1 (n := 51) dX9_play_50 rfl rfl rfl (by decide) ?_
    rw [hT.z (by decide), (a_cnE hc1).1]
    refine s_ishl (n := 52) dX9_play_51 rfl ?_
    rw [(all_c _ (by omega)).2]
    refine s_icmp_ge (n := 55) (t := 136) dX9_play_52 (by decide) rfl (fun h52 => ?_) (fun h52 => ?_)
    · exact hQ g _ _ _ M_sc.rf
    · exact absurd (nI_le (show 2 ^ a_cn t ≤ s by omega) (by omega)) h52
  | succ m ih =>
    intro s g x7 x8 x z hin hT hQ
    have hs : s < 2 ^ a_cn t := by omega
    refine s_iload (n := 44) dX9_play_42 rfl rfl ?_
    refine s_iconst (v := 1) (n := 45) dX9_play_44 rfl (by decide) ?_
    refine s_aload_n (n := 46) dX9_play_45 rfl rfl rfl ?_
    refine s_getr (k2 := 79) (n := 49) dX9_play_46 rfl fl_X9_7 rfl rfl rfl ?_
    refine s_iconst (v := 1) (n := 50) dX9_play_49 rfl (by decide) ?_
    refine s_iaload 1 (n := 51) dX9_play_50 rfl rfl rfl (by decide) ?_
    rw [hT.z (by decide), (a_cnE hc1).1]
    refine s_ishl (n := 52) dX9_play_51 rfl ?_
    rw [(all_c _ (by omega)).2]
    refine s_icmp_ge (n := 55) (t := 136) dX9_play_52 (by decide) rfl (fun h52 => ?_) (fun h52 => ?_)
    · exact absurd h52 (nI_ge hs (by omega))
    · refine s_iconst (v := 1) (n := 56) dX9_play_55 rfl (by decide) ?_
      refine s_istore (n := 58) dX9_play_56 rfl (by decide) rfl rfl ?_
      refine s_iconst (v := 0) (n := 59) dX9_play_58 rfl (by decide) ?_
      refine s_istore (n := 61) dX9_play_59 rfl (by decide) rfl rfl ?_
      unfold plF at hQ
      refine lp_X9_playIn hK hc10 hs hT ?_ (a_cn t) 0 (by omega)
      rw [prN_w c (by omega) (a_cn t) (by omega) s hs]
      refine s_iload (n := 103) dX9_play_101 rfl rfl ?_
      refine s_aload_n (n := 104) dX9_play_103 rfl rfl rfl ?_
      refine s_iload (n := 106) dX9_play_104 rfl rfl ?_
      refine s_iconst (v := 0) (n := 107) dX9_play_106 rfl (by decide) ?_
      refine s_cv2 (n := 110) dX9_play_107 rfl mo_X9_restsOtherwise ml_X9_217 rfl (by decide) rfl rfl (Nat.le_of_ble_eq_true rfl) (Nat.le_of_ble_eq_true rfl) (c_X9_restsOtherwise hT hK s _ (fun g2 hs2 => ?_))
      rw [sR_op]
      dsimp only [m_push]
      refine s_iload_n (n := 111) dX9_play_110 rfl rfl rfl ?_
      refine s_icmp_ne (n := 114) (t := 119) dX9_play_111 (by decide) rfl (fun h111 => ?_) (fun h111 => ?_)
      · refine s_iconst (v := 0) (n := 120) dX9_play_119 rfl (by decide) ?_
        refine s_iadd (n := 121) dX9_play_120 rfl ?_
        rw [show nI x + 0 = nI x by rw [show (0 : Int32) = nI 0 from rfl, nI_add, Nat.add_zero]]
        refine s_istore (n := 123) dX9_play_121 rfl (by decide) rfl rfl ?_
        refine s_iload (n := 125) dX9_play_123 rfl rfl ?_
        refine s_iload (n := 127) dX9_play_125 rfl rfl ?_
        refine s_iadd (n := 128) dX9_play_127 rfl ?_
        rw [nI_add]
        refine s_istore (n := 130) dX9_play_128 rfl (by decide) rfl rfl ?_
        refine s_iinc (n := 133) (v := nI (s + 1)) dX9_play_130 rfl (by decide) rfl rfl (nI_1 s) rfl ?_
        refine s_goto (t := 42) dX9_play_133 (by decide) ?_
        rw [if_neg (show ¬ decide (sRest (a_op t s) 0 = some h) = true from fun q => h111 ((eM_eq hh sRun6).mpr (of_decide_eq_true q)))] at hQ
        exact ih (s + 1) g2 _ _ x _ (by omega) (hs2.m0 hT) (fun g3 s9 y7 y8 hs3 => hQ g3 s9 y7 y8 (hs2.tr hs3))
      · refine s_iload (n := 116) dX9_play_114 rfl rfl ?_
        refine s_goto (t := 120) dX9_play_116 (by decide) ?_
        refine s_iadd (n := 121) dX9_play_120 rfl ?_
        rw [show nI x + nI (wyF c (a_cn t) s) = nI (x + wyF c (a_cn t) s) by rw [nI_add]]
        refine s_istore (n := 123) dX9_play_121 rfl (by decide) rfl rfl ?_
        refine s_iload (n := 125) dX9_play_123 rfl rfl ?_
        refine s_iload (n := 127) dX9_play_125 rfl rfl ?_
        refine s_iadd (n := 128) dX9_play_127 rfl ?_
        rw [nI_add]
        refine s_istore (n := 130) dX9_play_128 rfl (by decide) rfl rfl ?_
        refine s_iinc (n := 133) (v := nI (s + 1)) dX9_play_130 rfl (by decide) rfl rfl (nI_1 s) rfl ?_
        refine s_goto (t := 42) dX9_play_133 (by decide) ?_
        rw [if_pos (show decide (sRest (a_op t s) 0 = some h) = true from decide_eq_true ((eM_eq hh sRun6).mp h111))] at hQ
        exact ih (s + 1) g2 _ _ (x + wyF c (a_cn t) s) _ (by omega) (hs2.m0 hT) (fun g3 s9 y7 y8 hs3 => hQ g3 s9 y7 y8 (hs2.tr hs3))
theorem lp_X9_playEnd {SL d : Nat} {Q : Option Int32 → m_G → Prop} {g : m_G} {hI cI w : Int32} {ab be : Nat} (hab : ab < 2 ^ 31) (hbe : be < 2 ^ 31) : ∀ (x : Nat) (x8 : Value), 1 ≤ x → x < 2 ^ 31 → Q (some (nI ((if w = 0 then ab else be) / x))) g → Sim SL (d + 6) yX9_play cX9_play 9 (some .int) 144 [.ref 78, .int hI, .int cI, .int w, .int (nI ab), .int (nI be), .int (nI x), .int (nI 0), x8] [] g Q := by
    intro x x8 hx1 hx hQ
    have hnz : ¬ nI x = 0 := fun z => by have := congrArg Int32.toInt z; rw [nI_toInt (by omega)] at this; have := ti0; omega
    have hdv : ∀ q, q < 2 ^ 31 → nI q / nI x = nI (q / x) := fun q hq => pk_div hq (by omega) hx
    refine s_iload (n := 146) dX9_play_144 rfl rfl ?_
    refine s_if_eq (n := 149) (t := 167) dX9_play_146 (by decide) rfl (fun h146 => ?_) (fun h146 => ?_)
    · refine s_iload_n (n := 168) dX9_play_167 rfl rfl rfl ?_
      refine s_if_ne (n := 171) (t := 179) dX9_play_168 (by decide) rfl (fun h168 => ?_) (fun h168 => ?_)
      · refine s_iload (n := 181) dX9_play_179 rfl rfl ?_
        refine s_iload (n := 183) dX9_play_181 rfl rfl ?_
        refine s_idiv (n := 184) dX9_play_183 rfl hnz ?_
        first
        | rw [hdv be hbe]
        | skip
        refine s_ireturn dX9_play_184 rfl rfl ?_
        first
        | (rw [if_pos h168] at hQ; exact hQ)
        | (rw [if_neg h168] at hQ; exact hQ)
      · refine s_iload (n := 173) dX9_play_171 rfl rfl ?_
        refine s_iload (n := 175) dX9_play_173 rfl rfl ?_
        refine s_idiv (n := 176) dX9_play_175 rfl hnz ?_
        rw [hdv ab hab]
        refine s_goto (t := 184) dX9_play_176 (by decide) ?_
        first
        | rw [hdv be hbe]
        | skip
        refine s_ireturn dX9_play_184 rfl rfl ?_
        first
        | (rw [if_pos h168] at hQ; exact hQ)
        | (rw [if_neg h168] at hQ; exact hQ)
    · exact absurd rfl h146
theorem lp_X9_playGcd {SL d : Nat} {Q : Option Int32 → m_G → Prop} {g : m_G} {hI cI w : Int32} {ab be : Nat} (hab : ab < 2 ^ 31) (hbe : be < 2 ^ 31) : ∀ (f x y : Nat) (x8 : Value), euD f x y → 1 ≤ x ∨ 1 ≤ y → x < 2 ^ 31 → y < 2 ^ 31 → Q (some (nI ((if w = 0 then ab else be) / Nat.gcd x y))) g → Sim SL (d + 6) yX9_play cX9_play 9 (some .int) 144 [.ref 78, .int hI, .int cI, .int w, .int (nI ab), .int (nI be), .int (nI x), .int (nI y), x8] [] g Q := by
  have ih0 : ∀ (x : Nat) (x8 : Value), 1 ≤ x → x < 2 ^ 31 → Q (some (nI ((if w = 0 then ab else be) / x))) g → Sim SL (d + 6) yX9_play cX9_play 9 (some .int) 144 [.ref 78, .int hI, .int cI, .int w, .int (nI ab), .int (nI be), .int (nI x), .int (nI 0), x8] [] g Q := lp_X9_playEnd hab hbe
  intro f
  induction f with
  | zero =>
    intro x y x8 hE h1 hx hy hQ
    have hy0 : y = 0 := hE
    subst hy0
    rw [Nat.gcd_zero_right] at hQ
    exact ih0 x _ (by omega) hx hQ
  | succ f ih =>
    intro x y x8 hE h1 hx hy hQ
    by_cases hy1 : y = 0
    · subst hy1
      rw [Nat.gcd_zero_right] at hQ
      exact ih0 x _ (by omega) hx hQ
    refine s_iload (n := 146) dX9_play_144 rfl rfl ?_
    refine s_if_eq (n := 149) (t := 167) dX9_play_146 (by decide) rfl (fun h146 => ?_) (fun h146 => ?_)
    · exact absurd h146 (fun z => by have := congrArg Int32.toInt z; rw [nI_toInt (by omega)] at this; have := ti0; omega)
    · have hrem : nI x - nI x / nI y * nI y = nI (x % y) := pk_rem hx (by omega) hy
      refine s_iload (n := 151) dX9_play_149 rfl rfl ?_
      refine s_iload (n := 153) dX9_play_151 rfl rfl ?_
      refine s_irem (n := 154) dX9_play_153 rfl h146 ?_
      rw [hrem]
      refine s_istore (n := 156) dX9_play_154 rfl (by decide) rfl rfl ?_
      refine s_iload (n := 158) dX9_play_156 rfl rfl ?_
      refine s_istore (n := 160) dX9_play_158 rfl (by decide) rfl rfl ?_
      refine s_iload (n := 162) dX9_play_160 rfl rfl ?_
      refine s_istore (n := 164) dX9_play_162 rfl (by decide) rfl rfl ?_
      refine s_goto (t := 144) dX9_play_164 (by decide) ?_
      rw [← gcd_st x y] at hQ
      exact ih y (x % y) _ (hE.resolve_left hy1) (by omega) hy (Nat.lt_trans (Nat.mod_lt _ (by omega)) hy) hQ
theorem M_play {SL : Nat} {d : Nat} {Q : Option Int32 → m_G → Prop} {g : m_G} {a : a_S} (hA : a_OK a) (hM : M_R g a) (h c w : Int32) (hQ : E_M g a Q (sp_play a h c w)) : Sim SL (d + 6) yX9_play cX9_play 9 (some .int) 0 [.ref 78, .int h, .int c, .int w, .null, .null, .null, .null, .null] [] g Q := by
  unfold E_M sp_play at hQ
  have hT : TM g 0 (a_H a) := hM.2.2.1.2
  refine s_aload_n (n := 1) dX9_play_0 rfl rfl rfl ?_
  refine s_iload_n (n := 2) dX9_play_1 rfl rfl rfl ?_
  refine s_cv1 (n := 5) dX9_play_2 rfl mo_X9_isHouse ml_X9_193 rfl (by decide) rfl rfl (Nat.le_of_ble_eq_true rfl) (Nat.le_of_ble_eq_true rfl) (c_X9_isHouse hT _ (fun hb2 => ?_) (fun hb2 => ?_))
  · dsimp only [m_push]
    refine s_if_eq (n := 8) (t := 30) dX9_play_5 (by decide) rfl (fun h => absurd h (by decide)) (fun _ => ?_)
    refine s_iload_n (n := 9) dX9_play_8 rfl rfl rfl ?_
    refine s_i2l (n := 10) dX9_play_9 rfl ?_
    refine s_lconst (v := 0) (n := 11) dX9_play_10 rfl (by decide) ?_
    refine s_ldc2 (n := 14) dX9_play_11 rfl kc_X9_243 ?_
    refine s_cs3 (n := 17) dX9_play_14 rfl mo_X9_in ml_X9_60 rfl (Nat.le_of_ble_eq_true rfl) (Nat.le_of_ble_eq_true rfl) (c_X9_in (0) (10) rfl (by decide) (by decide) (fun hb14 => ?_) (fun hb14 => ?_))
    · dsimp only [m_push]
      refine s_if_eq (n := 20) (t := 30) dX9_play_17 (by decide) rfl (fun h => absurd h (by decide)) (fun _ => ?_)
      refine s_iload_n (n := 21) dX9_play_20 rfl rfl rfl ?_
      refine s_i2l (n := 22) dX9_play_21 rfl ?_
      refine s_lconst (v := 0) (n := 23) dX9_play_22 rfl (by decide) ?_
      refine s_lconst (v := 1) (n := 24) dX9_play_23 rfl (by decide) ?_
      refine s_cs3 (n := 27) dX9_play_24 rfl mo_X9_in ml_X9_60 rfl (Nat.le_of_ble_eq_true rfl) (Nat.le_of_ble_eq_true rfl) (c_X9_in (0) (1) rfl (by decide) (by decide) (fun hb24 => ?_) (fun hb24 => ?_))
      · dsimp only [m_push]
        refine s_if_ne (n := 30) (t := 33) dX9_play_27 (by decide) rfl (fun _ => ?_) (fun h => absurd h (by decide))
        have hK := hA.tk hb2
        obtain ⟨i, hi, rfl, hci⟩ := isH_ex hA.cnt hb2
        rw [nI_clamp (show i < 2 ^ 31 by omega)] at hQ
        obtain ⟨cc, hcc, rfl⟩ := wn_ex (x := c) (n := 10) hb14 rfl
        rw [nI_clamp (show cc < 2 ^ 31 by omega)] at hQ
        have hn6 := (a_cnE hK.2.1).2
        have hab : plA (a_H a) i cc ≤ 10 ^ a_cn (a_H a) := plA_le hcc hn6
        have h10 := p10_b (a_cn (a_H a)) (by omega)
        have hgp : 1 ≤ Nat.gcd (plA (a_H a) i cc) (10 ^ a_cn (a_H a)) := Nat.gcd_pos_of_pos_right _ (by omega)
        have hgl : Nat.gcd (plA (a_H a) i cc) (10 ^ a_cn (a_H a)) ≤ 10 ^ a_cn (a_H a) := Nat.gcd_le_right _ (by omega)
        rw [if_pos hb2, if_pos hb14, if_pos hb24] at hQ
        refine s_iconst (v := 0) (n := 34) dX9_play_33 rfl (by decide) ?_
        refine s_istore (n := 36) dX9_play_34 rfl (by decide) rfl rfl ?_
        refine s_iconst (v := 0) (n := 37) dX9_play_36 rfl (by decide) ?_
        refine s_istore (n := 39) dX9_play_37 rfl (by decide) rfl rfl ?_
        refine s_iconst (v := 0) (n := 40) dX9_play_39 rfl (by decide) ?_
        refine s_istore (n := 42) dX9_play_40 rfl (by decide) rfl rfl ?_
        refine lp_X9_playOut hK hi hcc (2 ^ a_cn (a_H a)) 0 g _ _ 0 0 (by omega) hT (fun g2 s9 x7 x8 hs2 => ?_)
        refine s_iload (n := 138) dX9_play_136 rfl rfl ?_
        refine s_istore (n := 140) dX9_play_138 rfl (by decide) rfl rfl ?_
        refine s_iload (n := 142) dX9_play_140 rfl rfl ?_
        refine s_istore (n := 144) dX9_play_142 rfl (by decide) rfl rfl ?_
        have hQ2 := hQ g2 (hM.sc hs2) hs2.FM
        rw [show plF (fun _ => true) (wyF cc (a_cn (a_H a))) (2 ^ a_cn (a_H a)) 0 0 = 10 ^ a_cn (a_H a) from plF_10 cc (by omega) _ (by omega), show plF (fun s => decide (sRest (a_op (a_H a) s) 0 = some i)) (wyF cc (a_cn (a_H a))) (2 ^ a_cn (a_H a)) 0 0 = plA (a_H a) i cc from rfl]
        exact lp_X9_playGcd (by omega) (by omega) 60 _ _ _ (euD_b 30 _ _ (by omega)) (Or.inr (by omega)) (by omega) (by omega) hQ2
      · dsimp only [m_push]
        refine s_if_ne (n := 30) (t := 33) dX9_play_27 (by decide) rfl (fun h => absurd h (by decide)) (fun _ => ?_)
        refine s_ldc (n := 32) dX9_play_30 rfl kc_X9_70 ?_
        refine s_ireturn dX9_play_32 rfl rfl ?_
        simp only [if_pos hb2, if_pos hb14, if_neg hb24] at hQ
        exact hQ g hM F_M.rf
    · dsimp only [m_push]
      refine s_if_eq (n := 20) (t := 30) dX9_play_17 (by decide) rfl (fun _ => ?_) (fun h => absurd h (by decide))
      refine s_ldc (n := 32) dX9_play_30 rfl kc_X9_70 ?_
      refine s_ireturn dX9_play_32 rfl rfl ?_
      simp only [if_pos hb2, if_neg hb14] at hQ
      exact hQ g hM F_M.rf
  · dsimp only [m_push]
    refine s_if_eq (n := 8) (t := 30) dX9_play_5 (by decide) rfl (fun _ => ?_) (fun h => absurd h (by decide))
    refine s_ldc (n := 32) dX9_play_30 rfl kc_X9_70 ?_
    refine s_ireturn dX9_play_32 rfl rfl ?_
    simp only [if_neg hb2] at hQ
    exact hQ g hM F_M.rf
