def pcn (s : Nat) : Nat := s % 2 + s / 2 % 2 + s / 4 % 2 + s / 8 % 2 + s / 16 % 2 + s / 32 % 2
def bcE0 (x : Int32) : Int32 := x - ((x.toUInt32 >>> ((1 : Int32).toUInt32 &&& Int32.toUInt32 31)).toInt32 &&& 1431655765)
def bcE1 (x : Int32) : Int32 := (x &&& 858993459) + ((x.toUInt32 >>> ((2 : Int32).toUInt32 &&& Int32.toUInt32 31)).toInt32 &&& 858993459)
def bcE2 (x : Int32) : Int32 := (x + (x.toUInt32 >>> ((4 : Int32).toUInt32 &&& Int32.toUInt32 31)).toInt32) &&& 252645135
def bcE3 (x : Int32) : Int32 := x + (x.toUInt32 >>> ((8 : Int32).toUInt32 &&& Int32.toUInt32 31)).toInt32
def bcE4 (x : Int32) : Int32 := x + (x.toUInt32 >>> ((16 : Int32).toUInt32 &&& Int32.toUInt32 31)).toInt32
def bcE (x : Int32) : Int32 := bcE4 (bcE3 (bcE2 (bcE1 (bcE0 x)))) &&& 63
theorem bcE_64 : ∀ s, s < 64 → bcE (nI s) = nI (pcn s) := by decide +kernel
def biE (x : Int32) : Int32 := 0 + ((x >>> ((0 : Int32) &&& 31)) &&& 1) + ((x >>> ((1 : Int32) &&& 31)) &&& 1) + ((x >>> ((2 : Int32) &&& 31)) &&& 1) + ((x >>> ((3 : Int32) &&& 31)) &&& 1) + ((x >>> ((4 : Int32) &&& 31)) &&& 1) + ((x >>> ((5 : Int32) &&& 31)) &&& 1)
theorem biE_64 : ∀ s, s < 64 → biE (nI s) = nI (pcn s) := by decide +kernel
theorem pcn_lt : ∀ s, s < 64 → pcn s ≤ 6 := by decide +kernel
theorem all_c : ∀ c, c < 7 → ((1 : Int32) <<< (nI c &&& 31)) - 1 = nI (2 ^ c - 1) ∧ ((1 : Int32) <<< (nI c &&& 31)) = nI (2 ^ c) := by decide +kernel
theorem pow_c {c : Nat} (h : c ≤ 6) : 1 ≤ 2 ^ c ∧ 2 ^ c ≤ 64 := by
  rcases (show c = 0 ∨ c = 1 ∨ c = 2 ∨ c = 3 ∨ c = 4 ∨ c = 5 ∨ c = 6 by omega) with rfl | rfl | rfl | rfl | rfl | rfl | rfl <;> decide
def bBt (s : Nat) (b : Option Nat) : Bool := match b with
  | none => true
  | some q => decide (pcn s < pcn q)
def fwF (P : Nat → Bool) : Nat → Nat → Option Nat → Option Nat
  | 0, _, b => b
  | n + 1, s, b => fwF P n (s + 1) (if (P s && bBt s b) = true then some s else b)
theorem and_n1 {a b : Bool} (h : ¬ a = true) : ¬ (a && b) = true := by simp_all
theorem and_n2 {a b : Bool} (h : ¬ b = true) : ¬ (a && b) = true := by simp_all
theorem and_y {a b : Bool} (h : a = true) (h2 : b = true) : (a && b) = true := by simp_all
def a_op (t : m_T) (s : Nat) : m_T := upd t 8 (t 8 ^^^ nI s)
def a_cn (t : m_T) : Nat := (t 1).toNatClampNeg
theorem a_cnE {t : m_T} (h : wn (t 1) 0 6) : t 1 = nI (a_cn t) ∧ a_cn t ≤ 6 := by
  obtain ⟨c, hc, e⟩ := wn_ex (n := 6) h rfl
  unfold a_cn
  rw [e, nI_clamp (by omega)]
  exact ⟨rfl, hc⟩
theorem upd_upd (t : m_T) (k : Nat) (v w : Int32) : upd (upd t k v) k w = upd t k w := by
  funext j; simp only [upd]; split <;> rfl
/-- which sets are good -/
def fwP (G : Option Nat → Bool) (t : m_T) (d : Int32) (s : Nat) : Bool := G (sR (a_op t s) (t 7) d)
def fwV (b : Option Nat) (w : Int32) : Int32 := match b with
  | none => -1000000
  | some q => if w = 0 then nI (pcn q) else nI q
theorem fwF_lt {P : Nat → Bool} : ∀ (n s : Nat) (b : Option Nat), s + n ≤ 64 → (∀ q, b = some q → q < 64) → ∀ q, fwF P n s b = some q → q < 64
  | 0, _, b, _, hb, q, h => hb q h
  | n + 1, s, b, hs, hb, q, h => by
    unfold fwF at h
    refine fwF_lt n (s + 1) _ (by omega) (fun q hq => ?_) q h
    split at hq
    · cases hq; omega
    · exact hb q hq
def aimG (h : Nat) (o : Option Nat) : Bool := decide (o = some h)
def shunG (x : Int32) (o : Option Nat) : Bool := match o with
  | none => true
  | some i => decide (¬ bt x (nI i) = 1)
def sp_aim (a : a_S) (h d w : Int32) : Int32 × a_S := (if wn h 0 (a_H a 1 - 1) then (if wn d 0 60 then (if wn w 0 1 then fwV (fwF (fwP (aimG h.toNatClampNeg) (a_H a) d) (2 ^ a_cn (a_H a)) 0 none) w else -1000001) else -1000001) else -1000001, a)
def sp_shun (a : a_S) (x d w : Int32) : Int32 × a_S := match a_hill a with
  | none => (-1000002, a)
  | some t => (if wn x 0 (nI (2 ^ a_cn t - 1)) then (if wn d 0 60 then (if wn w 0 1 then fwV (fwF (fwP (shunG x) t d) (2 ^ a_cn t) 0 none) w else -1000001) else -1000001) else -1000001, a)
theorem c_bitCount {SL : Nat} {d : Nat} {Q : Option Int32 → m_G → Prop} {g : m_G} (x : Int32) (hQ : Q (some (bcE x)) g) : Sim SL d yJ6_bitCount_0f7a4 cJ6_bitCount_0f7a4 1 (some .int) 0 [.int x] [] g Q := by
  refine s_iload_n (n := 1) dJ6_bitCount_0f7a4_0 rfl rfl rfl ?_
  refine s_iload_n (n := 2) dJ6_bitCount_0f7a4_1 rfl rfl rfl ?_
  refine s_iconst (v := 1) (n := 3) dJ6_bitCount_0f7a4_2 rfl (by decide) ?_
  refine s_iushr (n := 4) dJ6_bitCount_0f7a4_3 rfl rfl ?_
  refine s_ldcw (n := 7) dJ6_bitCount_0f7a4_4 rfl kc_J6_265 ?_
  refine s_iand (n := 8) dJ6_bitCount_0f7a4_7 rfl ?_
  refine s_isub (n := 9) dJ6_bitCount_0f7a4_8 rfl ?_
  refine s_istore_n (n := 10) dJ6_bitCount_0f7a4_9 rfl rfl (by decide) rfl rfl ?_
  refine s_iload_n (n := 11) dJ6_bitCount_0f7a4_10 rfl rfl rfl ?_
  refine s_ldcw (n := 14) dJ6_bitCount_0f7a4_11 rfl kc_J6_266 ?_
  refine s_iand (n := 15) dJ6_bitCount_0f7a4_14 rfl ?_
  refine s_iload_n (n := 16) dJ6_bitCount_0f7a4_15 rfl rfl rfl ?_
  refine s_iconst (v := 2) (n := 17) dJ6_bitCount_0f7a4_16 rfl (by decide) ?_
  refine s_iushr (n := 18) dJ6_bitCount_0f7a4_17 rfl rfl ?_
  refine s_ldcw (n := 21) dJ6_bitCount_0f7a4_18 rfl kc_J6_266 ?_
  refine s_iand (n := 22) dJ6_bitCount_0f7a4_21 rfl ?_
  refine s_iadd (n := 23) dJ6_bitCount_0f7a4_22 rfl ?_
  refine s_istore_n (n := 24) dJ6_bitCount_0f7a4_23 rfl rfl (by decide) rfl rfl ?_
  refine s_iload_n (n := 25) dJ6_bitCount_0f7a4_24 rfl rfl rfl ?_
  refine s_iload_n (n := 26) dJ6_bitCount_0f7a4_25 rfl rfl rfl ?_
  refine s_iconst (v := 4) (n := 27) dJ6_bitCount_0f7a4_26 rfl (by decide) ?_
  refine s_iushr (n := 28) dJ6_bitCount_0f7a4_27 rfl rfl ?_
  refine s_iadd (n := 29) dJ6_bitCount_0f7a4_28 rfl ?_
  refine s_ldcw (n := 32) dJ6_bitCount_0f7a4_29 rfl kc_J6_267 ?_
  refine s_iand (n := 33) dJ6_bitCount_0f7a4_32 rfl ?_
  refine s_istore_n (n := 34) dJ6_bitCount_0f7a4_33 rfl rfl (by decide) rfl rfl ?_
  refine s_iload_n (n := 35) dJ6_bitCount_0f7a4_34 rfl rfl rfl ?_
  refine s_iload_n (n := 36) dJ6_bitCount_0f7a4_35 rfl rfl rfl ?_
  refine s_bipush (v := 8) (n := 38) dJ6_bitCount_0f7a4_36 rfl (by decide) ?_
  refine s_iushr (n := 39) dJ6_bitCount_0f7a4_38 rfl rfl ?_
  refine s_iadd (n := 40) dJ6_bitCount_0f7a4_39 rfl ?_
  refine s_istore_n (n := 41) dJ6_bitCount_0f7a4_40 rfl rfl (by decide) rfl rfl ?_
  refine s_iload_n (n := 42) dJ6_bitCount_0f7a4_41 rfl rfl rfl ?_
  refine s_iload_n (n := 43) dJ6_bitCount_0f7a4_42 rfl rfl rfl ?_
  refine s_bipush (v := 16) (n := 45) dJ6_bitCount_0f7a4_43 rfl (by decide) ?_
  refine s_iushr (n := 46) dJ6_bitCount_0f7a4_45 rfl rfl ?_
  refine s_iadd (n := 47) dJ6_bitCount_0f7a4_46 rfl ?_
  refine s_istore_n (n := 48) dJ6_bitCount_0f7a4_47 rfl rfl (by decide) rfl rfl ?_
  refine s_iload_n (n := 49) dJ6_bitCount_0f7a4_48 rfl rfl rfl ?_
  refine s_bipush (v := 63) (n := 51) dJ6_bitCount_0f7a4_49 rfl (by decide) ?_
  refine s_iand (n := 52) dJ6_bitCount_0f7a4_51 rfl ?_
  refine s_ireturn dJ6_bitCount_0f7a4_52 rfl rfl ?_
  exact hQ
theorem c_X9_bits {SL : Nat} {d : Nat} {Q : Option Int32 → m_G → Prop} {g : m_G} (x : Int32) (hQ : Q (some (biE x)) g) : Sim SL d yX9_bits cX9_bits 3 (some .int) 0 [.int x, .null, .null] [] g Q := by
  refine s_iconst (v := 0) (n := 1) dX9_bits_0 rfl (by decide) ?_
  refine s_istore_n (n := 2) dX9_bits_1 rfl rfl (by decide) rfl rfl ?_
  refine s_iconst (v := 0) (n := 3) dX9_bits_2 rfl (by decide) ?_
  refine s_istore_n (n := 4) dX9_bits_3 rfl rfl (by decide) rfl rfl ?_
  refine s_iload_n (n := 5) dX9_bits_4 rfl rfl rfl ?_
  refine s_bipush (v := 6) (n := 7) dX9_bits_5 rfl (by decide) ?_
  refine s_icmp_ge (n := 10) (t := 24) dX9_bits_7 (by decide) rfl (fun h => absurd h (by decide)) (fun _ => ?_)
  refine s_iload_n (n := 11) dX9_bits_10 rfl rfl rfl ?_
  refine s_iload_n (n := 12) dX9_bits_11 rfl rfl rfl ?_
  refine s_iload_n (n := 13) dX9_bits_12 rfl rfl rfl ?_
  refine s_ishr (n := 14) dX9_bits_13 rfl ?_
  refine s_iconst (v := 1) (n := 15) dX9_bits_14 rfl (by decide) ?_
  refine s_iand (n := 16) dX9_bits_15 rfl ?_
  refine s_iadd (n := 17) dX9_bits_16 rfl ?_
  refine s_istore_n (n := 18) dX9_bits_17 rfl rfl (by decide) rfl rfl ?_
  refine s_iinc (n := 21) (v := 1) dX9_bits_18 rfl (by decide) rfl rfl (by decide) rfl ?_
  refine s_goto (t := 4) dX9_bits_21 (by decide) ?_
  refine s_iload_n (n := 5) dX9_bits_4 rfl rfl rfl ?_
  refine s_bipush (v := 6) (n := 7) dX9_bits_5 rfl (by decide) ?_
  refine s_icmp_ge (n := 10) (t := 24) dX9_bits_7 (by decide) rfl (fun h => absurd h (by decide)) (fun _ => ?_)
  refine s_iload_n (n := 11) dX9_bits_10 rfl rfl rfl ?_
  refine s_iload_n (n := 12) dX9_bits_11 rfl rfl rfl ?_
  refine s_iload_n (n := 13) dX9_bits_12 rfl rfl rfl ?_
  refine s_ishr (n := 14) dX9_bits_13 rfl ?_
  refine s_iconst (v := 1) (n := 15) dX9_bits_14 rfl (by decide) ?_
  refine s_iand (n := 16) dX9_bits_15 rfl ?_
  refine s_iadd (n := 17) dX9_bits_16 rfl ?_
  refine s_istore_n (n := 18) dX9_bits_17 rfl rfl (by decide) rfl rfl ?_
  refine s_iinc (n := 21) (v := 2) dX9_bits_18 rfl (by decide) rfl rfl (by decide) rfl ?_
  refine s_goto (t := 4) dX9_bits_21 (by decide) ?_
  refine s_iload_n (n := 5) dX9_bits_4 rfl rfl rfl ?_
  refine s_bipush (v := 6) (n := 7) dX9_bits_5 rfl (by decide) ?_
  refine s_icmp_ge (n := 10) (t := 24) dX9_bits_7 (by decide) rfl (fun h => absurd h (by decide)) (fun _ => ?_)
  refine s_iload_n (n := 11) dX9_bits_10 rfl rfl rfl ?_
  refine s_iload_n (n := 12) dX9_bits_11 rfl rfl rfl ?_
  refine s_iload_n (n := 13) dX9_bits_12 rfl rfl rfl ?_
  refine s_ishr (n := 14) dX9_bits_13 rfl ?_
  refine s_iconst (v := 1) (n := 15) dX9_bits_14 rfl (by decide) ?_
  refine s_iand (n := 16) dX9_bits_15 rfl ?_
  refine s_iadd (n := 17) dX9_bits_16 rfl ?_
  refine s_istore_n (n := 18) dX9_bits_17 rfl rfl (by decide) rfl rfl ?_
  refine s_iinc (n := 21) (v := 3) dX9_bits_18 rfl (by decide) rfl rfl (by decide) rfl ?_
  refine s_goto (t := 4) dX9_bits_21 (by decide) ?_
  refine s_iload_n (n := 5) dX9_bits_4 rfl rfl rfl ?_
  refine s_bipush (v := 6) (n := 7) dX9_bits_5 rfl (by decide) ?_
  refine s_icmp_ge (n := 10) (t := 24) dX9_bits_7 (by decide) rfl (fun h => absurd h (by decide)) (fun _ => ?_)
  refine s_iload_n (n := 11) dX9_bits_10 rfl rfl rfl ?_
  refine s_iload_n (n := 12) dX9_bits_11 rfl rfl rfl ?_
  refine s_iload_n (n := 13) dX9_bits_12 rfl rfl rfl ?_
  refine s_ishr (n := 14) dX9_bits_13 rfl ?_
  refine s_iconst (v := 1) (n := 15) dX9_bits_14 rfl (by decide) ?_
  refine s_iand (n := 16) dX9_bits_15 rfl ?_
  refine s_iadd (n := 17) dX9_bits_16 rfl ?_
  refine s_istore_n (n := 18) dX9_bits_17 rfl rfl (by decide) rfl rfl ?_
  refine s_iinc (n := 21) (v := 4) dX9_bits_18 rfl (by decide) rfl rfl (by decide) rfl ?_
  refine s_goto (t := 4) dX9_bits_21 (by decide) ?_
  refine s_iload_n (n := 5) dX9_bits_4 rfl rfl rfl ?_
  refine s_bipush (v := 6) (n := 7) dX9_bits_5 rfl (by decide) ?_
  refine s_icmp_ge (n := 10) (t := 24) dX9_bits_7 (by decide) rfl (fun h => absurd h (by decide)) (fun _ => ?_)
  refine s_iload_n (n := 11) dX9_bits_10 rfl rfl rfl ?_
  refine s_iload_n (n := 12) dX9_bits_11 rfl rfl rfl ?_
  refine s_iload_n (n := 13) dX9_bits_12 rfl rfl rfl ?_
  refine s_ishr (n := 14) dX9_bits_13 rfl ?_
  refine s_iconst (v := 1) (n := 15) dX9_bits_14 rfl (by decide) ?_
  refine s_iand (n := 16) dX9_bits_15 rfl ?_
  refine s_iadd (n := 17) dX9_bits_16 rfl ?_
  refine s_istore_n (n := 18) dX9_bits_17 rfl rfl (by decide) rfl rfl ?_
  refine s_iinc (n := 21) (v := 5) dX9_bits_18 rfl (by decide) rfl rfl (by decide) rfl ?_
  refine s_goto (t := 4) dX9_bits_21 (by decide) ?_
  refine s_iload_n (n := 5) dX9_bits_4 rfl rfl rfl ?_
  refine s_bipush (v := 6) (n := 7) dX9_bits_5 rfl (by decide) ?_
  refine s_icmp_ge (n := 10) (t := 24) dX9_bits_7 (by decide) rfl (fun h => absurd h (by decide)) (fun _ => ?_)
  refine s_iload_n (n := 11) dX9_bits_10 rfl rfl rfl ?_
  refine s_iload_n (n := 12) dX9_bits_11 rfl rfl rfl ?_
  refine s_iload_n (n := 13) dX9_bits_12 rfl rfl rfl ?_
  refine s_ishr (n := 14) dX9_bits_13 rfl ?_
  refine s_iconst (v := 1) (n := 15) dX9_bits_14 rfl (by decide) ?_
  refine s_iand (n := 16) dX9_bits_15 rfl ?_
  refine s_iadd (n := 17) dX9_bits_16 rfl ?_
  refine s_istore_n (n := 18) dX9_bits_17 rfl rfl (by decide) rfl rfl ?_
  refine s_iinc (n := 21) (v := 6) dX9_bits_18 rfl (by decide) rfl rfl (by decide) rfl ?_
  refine s_goto (t := 4) dX9_bits_21 (by decide) ?_
  refine s_iload_n (n := 5) dX9_bits_4 rfl rfl rfl ?_
  refine s_bipush (v := 6) (n := 7) dX9_bits_5 rfl (by decide) ?_
  refine s_icmp_ge (n := 10) (t := 24) dX9_bits_7 (by decide) rfl (fun _ => ?_) (fun h => absurd h (by decide))
  refine s_iload_n (n := 25) dX9_bits_24 rfl rfl rfl ?_
  refine s_ireturn dX9_bits_25 rfl rfl ?_
  exact hQ
theorem c_X1_allHouses {SL : Nat} {d : Nat} {Q : Option Int32 → m_G → Prop} {g : m_G} {k : Nat} (hk : m_hb k) {t : m_T} (hT : TW g k t) (hc : wn (t 1) 0 6) (hQ : Q (some (nI (2 ^ a_cn t - 1))) g) : Sim SL d yX1_allHouses cX1_allHouses 1 (some .int) 0 [.ref k] [] g Q := by
  refine s_iconst (v := 1) (n := 1) dX1_allHouses_0 rfl (by decide) ?_
  refine s_aload_n (n := 2) dX1_allHouses_1 rfl rfl rfl ?_
  refine s_geti (n := 5) dX1_allHouses_2 rfl fl_X1_51 rfl (hb0 hk) ?_
  rw [hT.1.2.1, (a_cnE hc).1]
  refine s_ishl (n := 6) dX1_allHouses_5 rfl ?_
  refine s_iconst (v := 1) (n := 7) dX1_allHouses_6 rfl (by decide) ?_
  refine s_isub (n := 8) dX1_allHouses_7 rfl ?_
  refine s_ireturn dX1_allHouses_8 rfl rfl ?_
  rw [(all_c _ (by have := (a_cnE hc).2; omega)).1]
  exact hQ
theorem c_X8_sizeOrSet {SL : Nat} {d : Nat} {Q : Option Int32 → m_G → Prop} {g : m_G} (b : Option Nat) (hb : ∀ q, b = some q → q < 64) (w : Int32) (hQ : Q (some (fwV b w)) g) : Sim SL (d + 1) yX8_sizeOrSet cX8_sizeOrSet 2 (some .int) 0 [.int (eC b), .int w] [] g Q := by
  refine s_iload_n (n := 1) dX8_sizeOrSet_0 rfl rfl rfl ?_
  refine s_if_ge (n := 4) (t := 7) dX8_sizeOrSet_1 (by decide) rfl (fun h1 => ?_) (fun h1 => ?_)
  · obtain ⟨q, rfl⟩ : ∃ q, b = some q := by
      cases b with
      | none => exact absurd h1 (by decide)
      | some q => exact ⟨q, rfl⟩
    have hq := hb q rfl
    dsimp only [fwV] at hQ
    refine s_iload_n (n := 8) dX8_sizeOrSet_7 rfl rfl rfl ?_
    refine s_if_ne (n := 11) (t := 18) dX8_sizeOrSet_8 (by decide) rfl (fun h8 => ?_) (fun h8 => ?_)
    · refine s_iload_n (n := 19) dX8_sizeOrSet_18 rfl rfl rfl ?_
      refine s_ireturn dX8_sizeOrSet_19 rfl rfl ?_
      first
      | (rw [if_pos h8] at hQ; rw [show eC (some q) = nI q from rfl, bcE_64 q hq]; exact hQ)
      | (rw [if_neg h8] at hQ; exact hQ)
    · refine s_iload_n (n := 12) dX8_sizeOrSet_11 rfl rfl rfl ?_
      refine s_cs1 (n := 15) dX8_sizeOrSet_12 rfl mo_J6_bitCount_0f7a4 ml_X8_307 rfl (Nat.le_of_ble_eq_true rfl) (Nat.le_of_ble_eq_true rfl) (c_bitCount _ ?_)
      dsimp only [m_push]
      refine s_goto (t := 19) dX8_sizeOrSet_15 (by decide) ?_
      refine s_ireturn dX8_sizeOrSet_19 rfl rfl ?_
      first
      | (rw [if_pos h8] at hQ; rw [show eC (some q) = nI q from rfl, bcE_64 q hq]; exact hQ)
      | (rw [if_neg h8] at hQ; exact hQ)
  · cases b with
    | none =>
      refine s_ldc (n := 6) dX8_sizeOrSet_4 rfl kc_X8_217 ?_
      refine s_ireturn dX8_sizeOrSet_6 rfl rfl ?_
      exact hQ
    | some q => exact absurd (nI_pos' (by have := hb q rfl; omega)) h1
theorem upd_self (t : m_T) (k : Nat) : upd t k (t k) = t := by
  funext j
  simp only [upd]
  split
  · subst j; rfl
  · rfl
set_option maxHeartbeats 1000000 in
theorem lp_X5_fewestDoors {SL d : Nat} {Q : Option Int32 → m_G → Prop} {t : m_T} (hK : a_TK t) {dd mk : Int32} (hdd : wn dd 0 60) {G : Option Nat → Bool} (hG : ∀ o, (∀ i, o = some i → i < 6) → (bt mk (match o with
    | none => 6
    | some i => nI i) = 1 ↔ G o = true)) : ∀ (n s : Nat) (g : m_G) (x6 x7 : Value) (b : Option Nat), s + n = 2 ^ a_cn t → TW g 28 t → (∃ w, TW g 68 (upd t 8 w)) → (∀ q, b = some q → q < 64) → (∀ g2, m_fr m_scr g g2 → Q (some (eC (fwF (fwP G t dd) n s b))) g2) → Sim SL (d + 5) yX5_fewestDoors cX5_fewestDoors 8 (some .int) 14 [.ref 24, .ref 28, .int dd, .int mk, .int (eC b), .int (nI s), x6, x7] [] g Q := by
  have hc1 := hK.2.1
  have hcn := (a_cnE hc1).2
  have hpw := pow_c hcn
  intro n
  induction n with
  | zero =>
    intro s g x6 x7 b hin hT hR hb64 hQ
    have hs : s = 2 ^ a_cn t := by omega
    subst hs
    refine s_iload (n := 16) dX5_fewestDoors_14 rfl rfl ?_
    refine s_aload_n (n := 17) dX5_fewestDoors_16 rfl rfl rfl ?_
    refine s_cv0 (n := 20) dX5_fewestDoors_17 rfl mo_X1_allHouses ml_X5_22 rfl (by decide) rfl rfl (Nat.le_of_ble_eq_true rfl) (Nat.le_of_ble_eq_true rfl) (c_X1_allHouses hb28 hT hc1 ?_)
    dsimp only [m_push]
    refine s_icmp_gt (n := 23) (t := 102) dX5_fewestDoors_20 (by decide) rfl (fun h20 => ?_) (fun h20 => ?_)
    · refine s_iload (n := 104) dX5_fewestDoors_102 rfl rfl ?_
      refine s_ireturn dX5_fewestDoors_104 rfl rfl ?_
      exact hQ g m_fr.rf
    · exact absurd (nI_lt (show 2 ^ a_cn t - 1 < 2 ^ a_cn t by omega) (by omega)) h20
  | succ n ih =>
    intro s g x6 x7 b hin hT hR0 hb64 hQ
    obtain ⟨w, hR⟩ := hR0
    have hs : s < 2 ^ a_cn t := by omega
    refine s_iload (n := 16) dX5_fewestDoors_14 rfl rfl ?_
    refine s_aload_n (n := 17) dX5_fewestDoors_16 rfl rfl rfl ?_
    refine s_cv0 (n := 20) dX5_fewestDoors_17 rfl mo_X1_allHouses ml_X5_22 rfl (by decide) rfl rfl (Nat.le_of_ble_eq_true rfl) (Nat.le_of_ble_eq_true rfl) (c_X1_allHouses hb28 hT hc1 ?_)
    dsimp only [m_push]
    refine s_icmp_gt (n := 23) (t := 102) dX5_fewestDoors_20 (by decide) rfl (fun h20 => ?_) (fun h20 => ?_)
    · exact absurd h20 (nI_nlt (show s ≤ 2 ^ a_cn t - 1 by omega) (by omega))
    · unfold fwF at hQ
      cases b with
      | none =>
        have hbits : bBt s none = true := rfl
        dsimp only [eC]
        refine s_iload (n := 25) dX5_fewestDoors_23 rfl rfl ?_
        refine s_if_lt (n := 28) (t := 44) dX5_fewestDoors_25 (by decide) rfl (fun _ => ?_) (fun h => absurd h (by decide))
        refine s_aload_n (n := 45) dX5_fewestDoors_44 rfl rfl rfl ?_
        refine s_getr (k2 := 68) (n := 48) dX5_fewestDoors_45 rfl fl_X5_12 rfl rfl rfl ?_
        refine s_aload_n (n := 49) dX5_fewestDoors_48 rfl rfl rfl ?_
        refine s_geti (n := 52) dX5_fewestDoors_49 rfl fl_X5_32 rfl rfl ?_
        rw [hT.1.2.2.2.2.2.2.2.2]
        refine s_iload (n := 54) dX5_fewestDoors_52 rfl rfl ?_
        refine s_ixor (n := 55) dX5_fewestDoors_54 rfl ?_
        refine s_puti (n := 58) dX5_fewestDoors_55 rfl fl_X5_32 rfl rfl rfl ?_
        have hTr : TW (m_up g 68 11 (t 8 ^^^ nI s)) 68 (a_op t s) := by
          have := hR.opn (t 8 ^^^ nI s)
          rw [upd_upd] at this
          exact this
        have htop : wn (sTop (a_op t s) dd) 0 6 := by
          have e : sTop (a_op t s) dd = sTop t dd := by unfold sTop a_op; rw [upd_ne (by decide), upd_ne (by decide), upd_ne (by decide)]
          rw [e]; exact hK.top hdd
        refine s_aload_n (n := 59) dX5_fewestDoors_58 rfl rfl rfl ?_
        refine s_getr (k2 := 68) (n := 62) dX5_fewestDoors_59 rfl fl_X5_12 rfl rfl rfl ?_
        refine s_iload_n (n := 63) dX5_fewestDoors_62 rfl rfl rfl ?_
        refine s_cv1 (n := 66) dX5_fewestDoors_63 rfl mo_X1_restIn ml_X5_36 rfl (by decide) rfl rfl (Nat.le_of_ble_eq_true rfl) (Nat.le_of_ble_eq_true rfl) (c_X1_restIn hb68 hTr (by rw [a_op, upd_ne (by decide)]; exact hK.t0) (by rw [a_op, upd_ne (by decide)]; exact hK.t1) (by rw [a_op, upd_ne (by decide)]; exact hK.t6) _ htop (fun g2 hf _ _ _ => ?_))
        dsimp only [m_push]
        have hfr : m_fr m_scr g g2 := (m_fr.up (by decide)).tr (hf.mono (by decide))
        have hsr : (sRun (a_op t s) (sTop (a_op t s) dd)).1 = sR (a_op t s) (t 7) dd := by
          show sR (a_op t s) ((a_op t s) 7) dd = _
          rw [show (a_op t s) 7 = t 7 from upd_ne (by decide)]
        rw [hsr]
        have hGo := hG (sR (a_op t s) (t 7) dd) sR6
        have hcont := fun b2 x6 x7 => ih (s + 1) g2 x6 x7 b2 (by omega)
        cases ho : sR (a_op t s) (t 7) dd with
        | none =>
          rw [ho] at hGo
          dsimp only [eC]
          refine s_istore (n := 68) dX5_fewestDoors_66 rfl (by decide) rfl rfl ?_
          refine s_iload (n := 70) dX5_fewestDoors_68 rfl rfl ?_
          refine s_if_ge (n := 73) (t := 78) dX5_fewestDoors_70 (by decide) rfl (fun h => absurd h (by decide)) (fun _ => ?_)
          refine s_bipush (v := 6) (n := 75) dX5_fewestDoors_73 rfl (by decide) ?_
          refine s_goto (t := 80) dX5_fewestDoors_75 (by decide) ?_
          refine s_istore (n := 82) dX5_fewestDoors_80 rfl (by decide) rfl rfl ?_
          refine s_iload_n (n := 83) dX5_fewestDoors_82 rfl rfl rfl ?_
          refine s_iload (n := 85) dX5_fewestDoors_83 rfl rfl ?_
          refine s_ishr (n := 86) dX5_fewestDoors_85 rfl ?_
          refine s_iconst (v := 1) (n := 87) dX5_fewestDoors_86 rfl (by decide) ?_
          refine s_iand (n := 88) dX5_fewestDoors_87 rfl ?_
          refine s_iconst (v := 1) (n := 89) dX5_fewestDoors_88 rfl (by decide) ?_
          refine s_icmp_ne (n := 92) (t := 96) dX5_fewestDoors_89 (by decide) rfl (fun h89 => ?_) (fun h89 => ?_)
          · refine s_iinc (n := 99) (v := nI (s + 1)) dX5_fewestDoors_96 rfl (by decide) rfl rfl (nI_1 s) rfl ?_
            refine s_goto (t := 14) dX5_fewestDoors_99 (by decide) ?_
            have hp : ¬ fwP G t dd s = true := fun q => h89 (hGo.mpr (by unfold fwP at q; rw [ho] at q; exact q))
            rw [if_neg (and_n1 hp)] at hQ
            exact hcont _ _ _ (hT.kept (hfr 28 (by decide)) (fun i hi => hfr _ (by simp [m_scr]; omega))) ⟨_, hTr.fr hf⟩ (fun q hq => hb64 q hq) (fun g3 hf3 => hQ g3 (hfr.tr hf3))
          · refine s_iload (n := 94) dX5_fewestDoors_92 rfl rfl ?_
            refine s_istore (n := 96) dX5_fewestDoors_94 rfl (by decide) rfl rfl ?_
            refine s_iinc (n := 99) (v := nI (s + 1)) dX5_fewestDoors_96 rfl (by decide) rfl rfl (nI_1 s) rfl ?_
            refine s_goto (t := 14) dX5_fewestDoors_99 (by decide) ?_
            have hp : fwP G t dd s = true := by unfold fwP; rw [ho]; exact hGo.mp h89
            rw [if_pos (and_y hp hbits)] at hQ
            exact hcont (some s) _ _ (hT.kept (hfr 28 (by decide)) (fun i hi => hfr _ (by simp [m_scr]; omega))) ⟨_, hTr.fr hf⟩ (fun q hq => by cases hq; omega) (fun g3 hf3 => hQ g3 (hfr.tr hf3))
        | some h9 =>
          rw [ho] at hGo
          have hh9 : h9 < 6 := sR6 h9 ho
          dsimp only [eC]
          refine s_istore (n := 68) dX5_fewestDoors_66 rfl (by decide) rfl rfl ?_
          refine s_iload (n := 70) dX5_fewestDoors_68 rfl rfl ?_
          refine s_if_ge (n := 73) (t := 78) dX5_fewestDoors_70 (by decide) rfl (fun h70 => ?_) (fun h70 => ?_)
          · refine s_iload (n := 80) dX5_fewestDoors_78 rfl rfl ?_
            refine s_istore (n := 82) dX5_fewestDoors_80 rfl (by decide) rfl rfl ?_
            refine s_iload_n (n := 83) dX5_fewestDoors_82 rfl rfl rfl ?_
            refine s_iload (n := 85) dX5_fewestDoors_83 rfl rfl ?_
            refine s_ishr (n := 86) dX5_fewestDoors_85 rfl ?_
            refine s_iconst (v := 1) (n := 87) dX5_fewestDoors_86 rfl (by decide) ?_
            refine s_iand (n := 88) dX5_fewestDoors_87 rfl ?_
            refine s_iconst (v := 1) (n := 89) dX5_fewestDoors_88 rfl (by decide) ?_
            refine s_icmp_ne (n := 92) (t := 96) dX5_fewestDoors_89 (by decide) rfl (fun h89 => ?_) (fun h89 => ?_)
            · refine s_iinc (n := 99) (v := nI (s + 1)) dX5_fewestDoors_96 rfl (by decide) rfl rfl (nI_1 s) rfl ?_
              refine s_goto (t := 14) dX5_fewestDoors_99 (by decide) ?_
              have hp : ¬ fwP G t dd s = true := fun q => h89 (hGo.mpr (by unfold fwP at q; rw [ho] at q; exact q))
              rw [if_neg (and_n1 hp)] at hQ
              exact hcont _ _ _ (hT.kept (hfr 28 (by decide)) (fun i hi => hfr _ (by simp [m_scr]; omega))) ⟨_, hTr.fr hf⟩ (fun q hq => hb64 q hq) (fun g3 hf3 => hQ g3 (hfr.tr hf3))
            · refine s_iload (n := 94) dX5_fewestDoors_92 rfl rfl ?_
              refine s_istore (n := 96) dX5_fewestDoors_94 rfl (by decide) rfl rfl ?_
              refine s_iinc (n := 99) (v := nI (s + 1)) dX5_fewestDoors_96 rfl (by decide) rfl rfl (nI_1 s) rfl ?_
              refine s_goto (t := 14) dX5_fewestDoors_99 (by decide) ?_
              have hp : fwP G t dd s = true := by unfold fwP; rw [ho]; exact hGo.mp h89
              rw [if_pos (and_y hp hbits)] at hQ
              exact hcont (some s) _ _ (hT.kept (hfr 28 (by decide)) (fun i hi => hfr _ (by simp [m_scr]; omega))) ⟨_, hTr.fr hf⟩ (fun q hq => by cases hq; omega) (fun g3 hf3 => hQ g3 (hfr.tr hf3))
          · exact absurd (nI_pos' (by omega)) h70
      | some q =>
        have hq64 := hb64 q rfl
        dsimp only [eC]
        refine s_iload (n := 25) dX5_fewestDoors_23 rfl rfl ?_
        refine s_if_lt (n := 28) (t := 44) dX5_fewestDoors_25 (by decide) rfl (fun h25 => ?_) (fun h25 => ?_)
        · exact absurd h25 (nI_pos (by omega))
        · refine s_iload (n := 30) dX5_fewestDoors_28 rfl rfl ?_
          refine s_cs1 (n := 33) dX5_fewestDoors_30 rfl mo_J6_bitCount_0f7a4 ml_X5_26 rfl (Nat.le_of_ble_eq_true rfl) (Nat.le_of_ble_eq_true rfl) (c_bitCount _ ?_)
          dsimp only [m_push]
          refine s_iload (n := 35) dX5_fewestDoors_33 rfl rfl ?_
          refine s_cs1 (n := 38) dX5_fewestDoors_35 rfl mo_J6_bitCount_0f7a4 ml_X5_26 rfl (Nat.le_of_ble_eq_true rfl) (Nat.le_of_ble_eq_true rfl) (c_bitCount _ ?_)
          dsimp only [m_push]
          rw [bcE_64 s (by omega), bcE_64 q hq64]
          refine s_icmp_lt (n := 41) (t := 44) dX5_fewestDoors_38 (by decide) rfl (fun h38 => ?_) (fun h38 => ?_)
          · have hbits : bBt s (some q) = true := by
              refine decide_eq_true ?_
              rcases Nat.lt_or_ge (pcn s) (pcn q) with z | z
              · exact z
              · exact absurd h38 (nI_nlt z (by have := pcn_lt s (by omega); omega))
            refine s_aload_n (n := 45) dX5_fewestDoors_44 rfl rfl rfl ?_
            refine s_getr (k2 := 68) (n := 48) dX5_fewestDoors_45 rfl fl_X5_12 rfl rfl rfl ?_
            refine s_aload_n (n := 49) dX5_fewestDoors_48 rfl rfl rfl ?_
            refine s_geti (n := 52) dX5_fewestDoors_49 rfl fl_X5_32 rfl rfl ?_
            rw [hT.1.2.2.2.2.2.2.2.2]
            refine s_iload (n := 54) dX5_fewestDoors_52 rfl rfl ?_
            refine s_ixor (n := 55) dX5_fewestDoors_54 rfl ?_
            refine s_puti (n := 58) dX5_fewestDoors_55 rfl fl_X5_32 rfl rfl rfl ?_
            have hTr : TW (m_up g 68 11 (t 8 ^^^ nI s)) 68 (a_op t s) := by
              have := hR.opn (t 8 ^^^ nI s)
              rw [upd_upd] at this
              exact this
            have htop : wn (sTop (a_op t s) dd) 0 6 := by
              have e : sTop (a_op t s) dd = sTop t dd := by unfold sTop a_op; rw [upd_ne (by decide), upd_ne (by decide), upd_ne (by decide)]
              rw [e]; exact hK.top hdd
            refine s_aload_n (n := 59) dX5_fewestDoors_58 rfl rfl rfl ?_
            refine s_getr (k2 := 68) (n := 62) dX5_fewestDoors_59 rfl fl_X5_12 rfl rfl rfl ?_
            refine s_iload_n (n := 63) dX5_fewestDoors_62 rfl rfl rfl ?_
            refine s_cv1 (n := 66) dX5_fewestDoors_63 rfl mo_X1_restIn ml_X5_36 rfl (by decide) rfl rfl (Nat.le_of_ble_eq_true rfl) (Nat.le_of_ble_eq_true rfl) (c_X1_restIn hb68 hTr (by rw [a_op, upd_ne (by decide)]; exact hK.t0) (by rw [a_op, upd_ne (by decide)]; exact hK.t1) (by rw [a_op, upd_ne (by decide)]; exact hK.t6) _ htop (fun g2 hf _ _ _ => ?_))
            dsimp only [m_push]
            have hfr : m_fr m_scr g g2 := (m_fr.up (by decide)).tr (hf.mono (by decide))
            have hsr : (sRun (a_op t s) (sTop (a_op t s) dd)).1 = sR (a_op t s) (t 7) dd := by
              show sR (a_op t s) ((a_op t s) 7) dd = _
              rw [show (a_op t s) 7 = t 7 from upd_ne (by decide)]
            rw [hsr]
            have hGo := hG (sR (a_op t s) (t 7) dd) sR6
            have hcont := fun b2 x6 x7 => ih (s + 1) g2 x6 x7 b2 (by omega)
            cases ho : sR (a_op t s) (t 7) dd with
            | none =>
              rw [ho] at hGo
              dsimp only [eC]
              refine s_istore (n := 68) dX5_fewestDoors_66 rfl (by decide) rfl rfl ?_
              refine s_iload (n := 70) dX5_fewestDoors_68 rfl rfl ?_
              refine s_if_ge (n := 73) (t := 78) dX5_fewestDoors_70 (by decide) rfl (fun h => absurd h (by decide)) (fun _ => ?_)
              refine s_bipush (v := 6) (n := 75) dX5_fewestDoors_73 rfl (by decide) ?_
              refine s_goto (t := 80) dX5_fewestDoors_75 (by decide) ?_
              refine s_istore (n := 82) dX5_fewestDoors_80 rfl (by decide) rfl rfl ?_
              refine s_iload_n (n := 83) dX5_fewestDoors_82 rfl rfl rfl ?_
              refine s_iload (n := 85) dX5_fewestDoors_83 rfl rfl ?_
              refine s_ishr (n := 86) dX5_fewestDoors_85 rfl ?_
              refine s_iconst (v := 1) (n := 87) dX5_fewestDoors_86 rfl (by decide) ?_
              refine s_iand (n := 88) dX5_fewestDoors_87 rfl ?_
              refine s_iconst (v := 1) (n := 89) dX5_fewestDoors_88 rfl (by decide) ?_
              refine s_icmp_ne (n := 92) (t := 96) dX5_fewestDoors_89 (by decide) rfl (fun h89 => ?_) (fun h89 => ?_)
              · refine s_iinc (n := 99) (v := nI (s + 1)) dX5_fewestDoors_96 rfl (by decide) rfl rfl (nI_1 s) rfl ?_
                refine s_goto (t := 14) dX5_fewestDoors_99 (by decide) ?_
                have hp : ¬ fwP G t dd s = true := fun q => h89 (hGo.mpr (by unfold fwP at q; rw [ho] at q; exact q))
                rw [if_neg (and_n1 hp)] at hQ
                exact hcont _ _ _ (hT.kept (hfr 28 (by decide)) (fun i hi => hfr _ (by simp [m_scr]; omega))) ⟨_, hTr.fr hf⟩ (fun q hq => hb64 q hq) (fun g3 hf3 => hQ g3 (hfr.tr hf3))
              · refine s_iload (n := 94) dX5_fewestDoors_92 rfl rfl ?_
                refine s_istore (n := 96) dX5_fewestDoors_94 rfl (by decide) rfl rfl ?_
                refine s_iinc (n := 99) (v := nI (s + 1)) dX5_fewestDoors_96 rfl (by decide) rfl rfl (nI_1 s) rfl ?_
                refine s_goto (t := 14) dX5_fewestDoors_99 (by decide) ?_
                have hp : fwP G t dd s = true := by unfold fwP; rw [ho]; exact hGo.mp h89
                rw [if_pos (and_y hp hbits)] at hQ
                exact hcont (some s) _ _ (hT.kept (hfr 28 (by decide)) (fun i hi => hfr _ (by simp [m_scr]; omega))) ⟨_, hTr.fr hf⟩ (fun q hq => by cases hq; omega) (fun g3 hf3 => hQ g3 (hfr.tr hf3))
            | some h9 =>
              rw [ho] at hGo
              have hh9 : h9 < 6 := sR6 h9 ho
              dsimp only [eC]
              refine s_istore (n := 68) dX5_fewestDoors_66 rfl (by decide) rfl rfl ?_
              refine s_iload (n := 70) dX5_fewestDoors_68 rfl rfl ?_
              refine s_if_ge (n := 73) (t := 78) dX5_fewestDoors_70 (by decide) rfl (fun h70 => ?_) (fun h70 => ?_)
              · refine s_iload (n := 80) dX5_fewestDoors_78 rfl rfl ?_
                refine s_istore (n := 82) dX5_fewestDoors_80 rfl (by decide) rfl rfl ?_
                refine s_iload_n (n := 83) dX5_fewestDoors_82 rfl rfl rfl ?_
                refine s_iload (n := 85) dX5_fewestDoors_83 rfl rfl ?_
                refine s_ishr (n := 86) dX5_fewestDoors_85 rfl ?_
                refine s_iconst (v := 1) (n := 87) dX5_fewestDoors_86 rfl (by decide) ?_
                refine s_iand (n := 88) dX5_fewestDoors_87 rfl ?_
                refine s_iconst (v := 1) (n := 89) dX5_fewestDoors_88 rfl (by decide) ?_
                refine s_icmp_ne (n := 92) (t := 96) dX5_fewestDoors_89 (by decide) rfl (fun h89 => ?_) (fun h89 => ?_)
                · refine s_iinc (n := 99) (v := nI (s + 1)) dX5_fewestDoors_96 rfl (by decide) rfl rfl (nI_1 s) rfl ?_
                  refine s_goto (t := 14) dX5_fewestDoors_99 (by decide) ?_
                  have hp : ¬ fwP G t dd s = true := fun q => h89 (hGo.mpr (by unfold fwP at q; rw [ho] at q; exact q))
                  rw [if_neg (and_n1 hp)] at hQ
                  exact hcont _ _ _ (hT.kept (hfr 28 (by decide)) (fun i hi => hfr _ (by simp [m_scr]; omega))) ⟨_, hTr.fr hf⟩ (fun q hq => hb64 q hq) (fun g3 hf3 => hQ g3 (hfr.tr hf3))
                · refine s_iload (n := 94) dX5_fewestDoors_92 rfl rfl ?_
                  refine s_istore (n := 96) dX5_fewestDoors_94 rfl (by decide) rfl rfl ?_
                  refine s_iinc (n := 99) (v := nI (s + 1)) dX5_fewestDoors_96 rfl (by decide) rfl rfl (nI_1 s) rfl ?_
                  refine s_goto (t := 14) dX5_fewestDoors_99 (by decide) ?_
                  have hp : fwP G t dd s = true := by unfold fwP; rw [ho]; exact hGo.mp h89
                  rw [if_pos (and_y hp hbits)] at hQ
                  exact hcont (some s) _ _ (hT.kept (hfr 28 (by decide)) (fun i hi => hfr _ (by simp [m_scr]; omega))) ⟨_, hTr.fr hf⟩ (fun q hq => by cases hq; omega) (fun g3 hf3 => hQ g3 (hfr.tr hf3))
              · exact absurd (nI_pos' (by omega)) h70
          · have hnb : ¬ bBt s (some q) = true := fun z => h38 (nI_lt (of_decide_eq_true z) (by have := pcn_lt q hq64; omega))
            refine s_goto (t := 96) dX5_fewestDoors_41 (by decide) ?_
            refine s_iinc (n := 99) (v := nI (s + 1)) dX5_fewestDoors_96 rfl (by decide) rfl rfl (nI_1 s) rfl ?_
            refine s_goto (t := 14) dX5_fewestDoors_99 (by decide) ?_
            rw [if_neg (and_n2 hnb)] at hQ
            exact ih (s + 1) g _ _ (some q) (by omega) hT ⟨w, hR⟩ hb64 hQ
theorem c_X5_fewestDoors {SL : Nat} {d : Nat} {Q : Option Int32 → m_G → Prop} {g : m_G} {t : m_T} (hT : TW g 28 t) (h2 : g 28 2 = 1) (hK : a_TK t) {dd mk : Int32} (hdd : wn dd 0 60) {G : Option Nat → Bool} (hG : ∀ o, (∀ i, o = some i → i < 6) → (bt mk (match o with
    | none => 6
    | some i => nI i) = 1 ↔ G o = true)) (hQ : ∀ g2, m_fr m_scr g g2 → Q (some (eC (fwF (fwP G t dd) (2 ^ a_cn t) 0 none))) g2) : Sim SL (d + 5) yX5_fewestDoors cX5_fewestDoors 8 (some .int) 0 [.ref 24, .ref 28, .int dd, .int mk, .null, .null, .null, .null] [] g Q := by
  refine s_aload_n (n := 1) dX5_fewestDoors_0 rfl rfl rfl ?_
  refine s_getr (k2 := 68) (n := 4) dX5_fewestDoors_1 rfl fl_X5_12 rfl rfl rfl ?_
  refine s_aload_n (n := 5) dX5_fewestDoors_4 rfl rfl rfl ?_
  refine s_cv1 (n := 8) dX5_fewestDoors_5 rfl mo_X1_become ml_X5_18 rfl (by decide) rfl rfl (Nat.le_of_ble_eq_true rfl) (Nat.le_of_ble_eq_true rfl) (c_X1_become hb68 hb28 (by decide) (Or.inr h2) (fun g1 hf1 hE => ?_))
  dsimp only [m_push]
  refine s_iconst (v := -1) (n := 9) dX5_fewestDoors_8 rfl (by decide) ?_
  refine s_istore (n := 11) dX5_fewestDoors_9 rfl (by decide) rfl rfl ?_
  refine s_iconst (v := 0) (n := 12) dX5_fewestDoors_11 rfl (by decide) ?_
  refine s_istore (n := 14) dX5_fewestDoors_12 rfl (by decide) rfl rfl ?_
  have hfr : m_fr m_scr g g1 := hf1.mono (by decide)
  refine lp_X5_fewestDoors hK hdd hG (2 ^ a_cn t) 0 g1 _ _ none (by omega) (hT.kept (hfr 28 (by decide)) (fun i hi => hfr _ (by simp [m_scr]; omega))) ⟨t 8, ?_⟩ (fun q hq => by cases hq) (fun g2 hf => hQ g2 (hfr.tr hf))
  have e : upd t 8 (t 8) = t := upd_self t 8
  rw [e]
  exact hE.TW hT
