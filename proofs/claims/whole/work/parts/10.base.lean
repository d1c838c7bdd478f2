/-- a number lies between two others -/
abbrev wn (a b c : Int32) : Prop := ¬ a < b ∧ ¬ c < a
theorem wn_i1 {a b c : Int32} (h : a < b) : ¬ wn a b c := fun q => q.1 h
theorem wn_i2 {a b c : Int32} (h : c < a) : ¬ wn a b c := fun q => q.2 h
theorem Int64_lt_of {a b : Int32} : a.toInt64 < b.toInt64 ↔ a < b := by
  rw [Int64.lt_iff_toInt_lt, Int32.lt_iff_toInt_lt, Int32.toInt_toInt64, Int32.toInt_toInt64]
theorem c_X8_within {SL : Nat} {d : Nat} {Q : Option Int32 → m_G → Prop} {g : m_G} (a b c : Int32) (k1 : wn a b c → Q (some 1) g) (k0 : ¬ (wn a b c) → Q (some 0) g) : Sim SL d yX8_within cX8_within 3 (some .boolean) 0 [.int a, .int b, .int c] [] g Q := by
  refine s_iload_n (n := 1) dX8_within_0 rfl rfl rfl ?_
  refine s_iload_n (n := 2) dX8_within_1 rfl rfl rfl ?_
  refine s_icmp_lt (n := 5) (t := 14) dX8_within_2 (by decide) rfl (fun h2 => ?_) (fun h2 => ?_)
  · refine s_iconst (v := 0) (n := 15) dX8_within_14 rfl (by decide) ?_
    refine s_ireturn dX8_within_15 rfl (by decide +kernel) ?_
    first | exact k1 ⟨h2, h7⟩ | exact k0 (wn_i2 h7) | exact k0 (wn_i1 h2)
  · refine s_iload_n (n := 6) dX8_within_5 rfl rfl rfl ?_
    refine s_iload_n (n := 7) dX8_within_6 rfl rfl rfl ?_
    refine s_icmp_gt (n := 10) (t := 14) dX8_within_7 (by decide) rfl (fun h7 => ?_) (fun h7 => ?_)
    · refine s_iconst (v := 0) (n := 15) dX8_within_14 rfl (by decide) ?_
      refine s_ireturn dX8_within_15 rfl (by decide +kernel) ?_
      first | exact k1 ⟨h2, h7⟩ | exact k0 (wn_i2 h7) | exact k0 (wn_i1 h2)
    · refine s_iconst (v := 1) (n := 11) dX8_within_10 rfl (by decide) ?_
      refine s_goto (t := 15) dX8_within_11 (by decide) ?_
      refine s_ireturn dX8_within_15 rfl (by decide +kernel) ?_
      first | exact k1 ⟨h2, h7⟩ | exact k0 (wn_i2 h7) | exact k0 (wn_i1 h2)
theorem c_X9_in {SL : Nat} {d : Nat} {Q : Option Int32 → m_G → Prop} {g : m_G} {a b c : Int64} {x : Int32} (lo hi : Int32) (ha : a = x.toInt64) (hb : b = lo.toInt64) (hc : c = hi.toInt64) (k1 : wn x lo hi → Q (some 1) g) (k0 : ¬ (wn x lo hi) → Q (some 0) g) : Sim SL d yX9_in cX9_in 6 (some .boolean) 0 [.long a, .null, .long b, .null, .long c, .null] [] g Q := by
  refine s_lload_n (n := 1) dX9_in_0 rfl rfl rfl ?_
  refine s_lload_n (n := 2) dX9_in_1 rfl rfl rfl ?_
  refine s_lcmp (n := 3) dX9_in_2 rfl ?_
  refine s_if_lt (n := 6) (t := 17) dX9_in_3 (by decide) rfl (fun h3 => ?_) (fun h3 => ?_)
  · refine s_iconst (v := 0) (n := 18) dX9_in_17 rfl (by decide) ?_
    refine s_ireturn dX9_in_18 rfl (by decide +kernel) ?_
    subst ha hb hc
    first | exact k1 ⟨fun q => h3 ((lg_cmp_lt _ _).mpr (Int64_lt_of.mpr q)), fun q => h10 ((lg_cmp_gt _ _).mpr (Int64_lt_of.mpr q))⟩ | exact k0 (fun q => q.2 (Int64_lt_of.mp ((lg_cmp_gt _ _).mp h10))) | exact k0 (fun q => q.1 (Int64_lt_of.mp ((lg_cmp_lt _ _).mp h3)))
  · refine s_lload_n (n := 7) dX9_in_6 rfl rfl rfl ?_
    refine s_lload (n := 9) dX9_in_7 rfl rfl ?_
    refine s_lcmp (n := 10) dX9_in_9 rfl ?_
    refine s_if_gt (n := 13) (t := 17) dX9_in_10 (by decide) rfl (fun h10 => ?_) (fun h10 => ?_)
    · refine s_iconst (v := 0) (n := 18) dX9_in_17 rfl (by decide) ?_
      refine s_ireturn dX9_in_18 rfl (by decide +kernel) ?_
      subst ha hb hc
      first | exact k1 ⟨fun q => h3 ((lg_cmp_lt _ _).mpr (Int64_lt_of.mpr q)), fun q => h10 ((lg_cmp_gt _ _).mpr (Int64_lt_of.mpr q))⟩ | exact k0 (fun q => q.2 (Int64_lt_of.mp ((lg_cmp_gt _ _).mp h10))) | exact k0 (fun q => q.1 (Int64_lt_of.mp ((lg_cmp_lt _ _).mp h3)))
    · refine s_iconst (v := 1) (n := 14) dX9_in_13 rfl (by decide) ?_
      refine s_goto (t := 18) dX9_in_14 (by decide) ?_
      refine s_ireturn dX9_in_18 rfl (by decide +kernel) ?_
      subst ha hb hc
      first | exact k1 ⟨fun q => h3 ((lg_cmp_lt _ _).mpr (Int64_lt_of.mpr q)), fun q => h10 ((lg_cmp_gt _ _).mpr (Int64_lt_of.mpr q))⟩ | exact k0 (fun q => q.2 (Int64_lt_of.mp ((lg_cmp_gt _ _).mp h10))) | exact k0 (fun q => q.1 (Int64_lt_of.mp ((lg_cmp_lt _ _).mp h3)))
theorem c_X8_isRow {SL : Nat} {d : Nat} {Q : Option Int32 → m_G → Prop} {g : m_G} (a : Int32) (k1 : wn a 0 7 → Q (some 1) g) (k0 : ¬ (wn a 0 7) → Q (some 0) g) : Sim SL (d + 1) yX8_isRow cX8_isRow 1 (some .boolean) 0 [.int a] [] g Q := by
  refine s_iload_n (n := 1) dX8_isRow_0 rfl rfl rfl ?_
  refine s_iconst (v := 0) (n := 2) dX8_isRow_1 rfl (by decide) ?_
  refine s_bipush (v := 7) (n := 4) dX8_isRow_2 rfl (by decide) ?_
  refine s_cs3 (n := 7) dX8_isRow_4 rfl mo_X8_within ml_X8_62 rfl (Nat.le_of_ble_eq_true rfl) (Nat.le_of_ble_eq_true rfl) (c_X8_within _ _ _ (fun hb4 => ?_) (fun hb4 => ?_))
  · dsimp only [m_push]
    refine s_ireturn dX8_isRow_7 rfl (by decide +kernel) ?_
    first | exact k1 hb4 | exact k0 hb4
  · dsimp only [m_push]
    refine s_ireturn dX8_isRow_7 rfl (by decide +kernel) ?_
    first | exact k1 hb4 | exact k0 hb4
theorem c_X9_isRow {SL : Nat} {d : Nat} {Q : Option Int32 → m_G → Prop} {g : m_G} (a : Int32) (k1 : wn a 0 7 → Q (some 1) g) (k0 : ¬ (wn a 0 7) → Q (some 0) g) : Sim SL (d + 1) yX9_isRow cX9_isRow 1 (some .boolean) 0 [.int a] [] g Q := by
  refine s_iload_n (n := 1) dX9_isRow_0 rfl rfl rfl ?_
  refine s_i2l (n := 2) dX9_isRow_1 rfl ?_
  refine s_lconst (v := 0) (n := 3) dX9_isRow_2 rfl (by decide) ?_
  refine s_ldc2 (n := 6) dX9_isRow_3 rfl kc_X9_58 ?_
  refine s_cs3 (n := 9) dX9_isRow_6 rfl mo_X9_in ml_X9_60 rfl (Nat.le_of_ble_eq_true rfl) (Nat.le_of_ble_eq_true rfl) (c_X9_in (0) (7) rfl (by decide) (by decide) (fun hb6 => ?_) (fun hb6 => ?_))
  · dsimp only [m_push]
    refine s_ireturn dX9_isRow_9 rfl (by decide +kernel) ?_
    first | exact k1 hb6 | exact k0 hb6
  · dsimp only [m_push]
    refine s_ireturn dX9_isRow_9 rfl (by decide +kernel) ?_
    first | exact k1 hb6 | exact k0 hb6
/-! ===== words of the memory ===== -/
theorem m_up_k (g : m_G) (k j : Nat) (v : Int32) (i : Nat) : m_up g k j v k i = if i = j then v else g k i := by simp [m_up, m_ur, upd]
theorem m_up_o {g : m_G} {k j : Nat} {v : Int32} {a : Nat} (h : a ≠ k) : m_up g k j v a = g a := by simp [m_up, m_ur, h]
theorem m_ur_k (g : m_G) (k : Nat) (f : Nat → Int32) : m_ur g k f k = f := by simp [m_ur]
theorem m_ur_o {g : m_G} {k : Nat} {f : Nat → Int32} {a : Nat} (h : a ≠ k) : m_ur g k f a = g a := by simp [m_ur, h]
/-- nothing but the cells of a list has changed -/
def m_fr (S : List Nat) (g g2 : m_G) : Prop := ∀ a, a ∉ S → g2 a = g a
theorem m_fr.rf {S : List Nat} {g : m_G} : m_fr S g g := fun _ _ => rfl
theorem m_fr.tr {S : List Nat} {g g2 g3 : m_G} (h : m_fr S g g2) (h2 : m_fr S g2 g3) : m_fr S g g3 := fun a ha => (h2 a ha).trans (h a ha)
theorem m_fr.mono {S S2 : List Nat} {g g2 : m_G} (h : m_fr S g g2) (hs : ∀ a ∈ S, a ∈ S2) : m_fr S2 g g2 := fun a ha => h a (fun q => ha (hs a q))
theorem m_fr.up {S : List Nat} {g : m_G} {k j : Nat} {v : Int32} (h : k ∈ S) : m_fr S g (m_up g k j v) := fun a ha => m_up_o (fun q => ha (by rw [q]; exact h))
theorem m_fr.up2 {S : List Nat} {g g2 : m_G} {k j : Nat} {v : Int32} (h0 : m_fr S g g2) (h : k ∈ S) : m_fr S g (m_up g2 k j v) := h0.tr (m_fr.up h)
theorem m_fr.ur2 {S : List Nat} {g g2 : m_G} {k : Nat} {f : Nat → Int32} (h0 : m_fr S g g2) (h : k ∈ S) : m_fr S g (m_ur g2 k f) := h0.tr (fun a ha => m_ur_o (fun q => ha (by rw [q]; exact h)))
/-! ===== a hill's cells ===== -/
def m_hb (k : Nat) : Prop := k = 28 ∨ k = 38 ∨ k = 48 ∨ k = 58 ∨ k = 68
theorem hb0 {k : Nat} (h : m_hb k) : (m_sh k).1 = 1 := by rcases h with rfl | rfl | rfl | rfl | rfl <;> rfl
theorem hb1 {k : Nat} (h : m_hb k) : m_sh (k + 1) = (22, 6) := by rcases h with rfl | rfl | rfl | rfl | rfl <;> rfl
theorem hb2 {k : Nat} (h : m_hb k) : (m_sh (k + 2)).1 = 3 := by rcases h with rfl | rfl | rfl | rfl | rfl <;> rfl
theorem hb3 {k : Nat} (h : m_hb k) : m_sh (k + 3) = (20, 10) := by rcases h with rfl | rfl | rfl | rfl | rfl <;> rfl
theorem hbh {k : Nat} (h : m_hb k) {i : Nat} (hi : i < 6) : (m_sh (k + 4 + i)).1 = 2 := by
  rcases (show i = 0 ∨ i = 1 ∨ i = 2 ∨ i = 3 ∨ i = 4 ∨ i = 5 by omega) with rfl | rfl | rfl | rfl | rfl | rfl <;> rcases h with rfl | rfl | rfl | rfl | rfl <;> rfl
theorem hb28 : m_hb 28 := Or.inl rfl
theorem hb38 : m_hb 38 := Or.inr (Or.inl rfl)
theorem hb48 : m_hb 48 := Or.inr (Or.inr (Or.inl rfl))
theorem hb58 : m_hb 58 := Or.inr (Or.inr (Or.inr (Or.inl rfl)))
theorem hb68 : m_hb 68 := Or.inr (Or.inr (Or.inr (Or.inr rfl)))
/-! ===== numbers ===== -/
def ire (a b : Int32) : Int32 := a - a / b * b
def clp (x : Int32) : Int32 := if x < 0 then 0 else if 6 < x then 6 else x
def bt (s h : Int32) : Int32 := (s >>> (h &&& 31)) &&& 1
theorem i32_lt {a b : Int32} : a < b ↔ a.toInt < b.toInt := Int32.lt_iff_toInt_lt
theorem i32_le {a b : Int32} : a ≤ b ↔ a.toInt ≤ b.toInt := Int32.le_iff_toInt_le
theorem i32_eq {a b : Int32} : a = b ↔ a.toInt = b.toInt := Int32.toInt_inj.symm
theorem ti0 : (0 : Int32).toInt = 0 := rfl
theorem ti1 : (1 : Int32).toInt = 1 := rfl
theorem ti6 : (6 : Int32).toInt = 6 := rfl
theorem clp_eq (x : Int32) : (if 0 < (if x < 6 then x else 6) then (if x < 6 then x else 6) else 0) = clp x := by
  unfold clp
  have h0 := ti0
  have h6 := ti6
  (repeat' split) <;> rw [i32_eq] <;> (try simp only [i32_lt] at *) <;> omega
theorem clp_wn (x : Int32) : wn (clp x) 0 6 := by
  unfold clp wn
  have h0 := ti0
  have h6 := ti6
  split
  · simp only [i32_lt]; omega
  · split
    · simp only [i32_lt]; omega
    · simp only [i32_lt] at *; omega
theorem clp_id {x : Int32} (h : wn x 0 6) : clp x = x := by
  unfold clp
  rw [if_neg h.1, if_neg h.2]
theorem bt_01 (s h : Int32) : bt s h = 0 ∨ bt s h = 1 := by
  unfold bt
  generalize s >>> (h &&& 31) = x
  have e : x &&& 1 = nI (x.toBitVec.toNat % 2 ^ 1) := pk_and x 1 (by decide)
  rw [e]
  rcases (show x.toBitVec.toNat % 2 ^ 1 = 0 ∨ x.toBitVec.toNat % 2 ^ 1 = 1 by omega) with h | h <;> rw [h]
  · exact Or.inl rfl
  · exact Or.inr rfl
/-! ===== towns: 39 numbers, as the reference lays them ===== -/
abbrev m_T : Type := Nat → Int32
def sAtF (t : m_T) (a b : Int32) : Nat → Nat → Option Nat
  | 0, _ => none
  | n + 1, i => if t 1 ≤ nI i then none else if t (15 + i) = a ∧ t (21 + i) = b then some i else sAtF t a b n (i + 1)
def sAt (t : m_T) (a b : Int32) : Option Nat := sAtF t a b 6 0
def eC (o : Option Nat) : Int32 := match o with
  | none => -1
  | some i => nI i
def eM (o : Option Nat) : Int32 := match o with
  | none => -1000000
  | some i => nI i
abbrev sHold (kd ob : Int32) : Prop := kd = 3 ∨ (kd = 1 ∧ ob ≠ 0)
def sSlow (kd ob : Int32) : Int32 := if kd = 4 ∨ kd = 5 then 1 else if ob = 0 then 2 else 1
def sTurn (kd ob ti : Int32) : Int32 := if kd = 4 then -1 else if kd = 5 then 1 else if ob = 0 then (if ire ti 2 = 0 then 1 else -1) else 0
def sSt (t : m_T) (i : Nat) (ln : Int32) : Int32 := if ire (nI i) (t 6) = 0 then clp (ln + (t 5 - 1)) else ln
def sGo (t : m_T) : Nat → Nat → Int32 → Int32 → (Nat → Int32) → Option Nat × (Nat → Int32) × Nat × Int32
  | 0, i, _, sp, Ls => (none, Ls, i, sp)
  | n + 1, i, ln, sp, Ls => if t 0 < nI i then (none, Ls, i, sp) else
    match sAt t (nI i) (sSt t i ln) with
    | none => sGo t n (i + 1) (sSt t i ln) sp (upd Ls i (sSt t i ln))
    | some h => if sHold (t (9 + h)) (bt (t 8) (nI h)) then (some h, upd Ls i (sSt t i ln), i + 1, sp)
      else if sp - sSlow (t (9 + h)) (bt (t 8) (nI h)) ≤ 0 then (some h, upd Ls i (clp (sSt t i ln + sTurn (t (9 + h)) (bt (t 8) (nI h)) (nI i))), i + 1, sp - sSlow (t (9 + h)) (bt (t 8) (nI h)))
      else sGo t n (i + 1) (clp (sSt t i ln + sTurn (t (9 + h)) (bt (t 8) (nI h)) (nI i))) (sp - sSlow (t (9 + h)) (bt (t 8) (nI h))) (upd Ls i (clp (sSt t i ln + sTurn (t (9 + h)) (bt (t 8) (nI h)) (nI i))))
theorem sAtF_lt {t : m_T} {a b : Int32} : ∀ (n i : Nat) {h : Nat}, sAtF t a b n i = some h → h < i + n ∧ ¬ t 1 ≤ nI h ∧ i ≤ h
  | 0, i, h, q => by cases q
  | n + 1, i, h, q => by
    unfold sAtF at q
    split at q
    · cases q
    · split at q
      · cases q; rename_i h1 h2; exact ⟨by omega, h1, Nat.le_refl _⟩
      · obtain ⟨h1, h2, h3⟩ := sAtF_lt n (i + 1) q
        exact ⟨by omega, h2, by omega⟩
theorem sAt_lt {t : m_T} {a b : Int32} {h : Nat} (q : sAt t a b = some h) : h < 6 ∧ ¬ t 1 ≤ nI h := ⟨by have := (sAtF_lt 6 0 q).1; omega, (sAtF_lt 6 0 q).2.1⟩
/-- a hill's cells hold a town -/
def TW (g : m_G) (k : Nat) (t : m_T) : Prop := (g k 3 = t 0 ∧ g k 10 = t 1 ∧ g k 4 = t 2 ∧ g k 5 = t 3 ∧ g k 6 = t 4 ∧ g k 7 = t 5 ∧ g k 8 = t 6 ∧ g k 9 = t 7 ∧ g k 11 = t 8) ∧ ∀ i, i < 6 → ¬ t 1 ≤ nI i → g (k + 4 + i) 0 = t (9 + i) ∧ g (k + 4 + i) 1 = t (15 + i) ∧ g (k + 4 + i) 2 = t (21 + i) ∧ g (k + 4 + i) 3 = t (27 + i) ∧ g (k + 4 + i) 4 = t (33 + i)
theorem TW.kept {g g2 : m_G} {k : Nat} {t : m_T} (h : TW g k t) (h0 : g2 k = g k) (h1 : ∀ i, i < 6 → g2 (k + 4 + i) = g (k + 4 + i)) : TW g2 k t := by
  unfold TW
  rw [h0]
  exact ⟨h.1, fun i hi hc => by rw [h1 i hi]; exact h.2 i hi hc⟩
