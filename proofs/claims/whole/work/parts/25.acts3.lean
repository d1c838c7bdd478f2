theorem upd_back (t : m_T) (k : Nat) (v : Int32) : upd (upd t k v) k (t k) = t := by
  funext j; simp only [upd]; split
  · subst j; rfl
  · rfl
theorem upd_ne {t : m_T} {k j : Nat} {v : Int32} (h : j ≠ k) : upd t k v j = t j := by simp [upd, h]
theorem upd_eq {t : m_T} {k : Nat} {v : Int32} : upd t k v k = v := by simp [upd]
theorem xor_back (a b : Int32) : a ^^^ b ^^^ b = a := by rw [Int32.xor_assoc, Int32.xor_self, Int32.xor_zero]
def m_hcl : List Nat := [20, 21, 22, 23, 28, 30, 31, 32, 33, 34, 35, 36, 37]
theorem C_R.act {g g2 : m_G} {a : a_S} {t : m_T} {ps : List m_T} (h : C_R g a) (hf : m_fr m_hcl g g2) (ht : g2 28 2 = 1) (hT : TW g2 28 t) (hg : g2 20 3 = nI ps.length) (hl : ps.length ≤ 24) (hac : C_ac g2 ps.length t ps) : C_R g2 (u_hill a (some t) ps) :=
  ⟨h.c1 hf (by decide), h.c2 hf (by decide), ⟨ht, hT⟩, ⟨hg, hl, hac⟩, h.c5 hf (by decide), h.c6 hf (by decide), h.c7 hf (by decide)⟩
theorem M_R.act {g g2 : m_G} {a : a_S} {t : m_T} {ps : List m_T} (h : M_R g a) (hf : m_fr [78, 79, 89] g g2) (e : ∀ j, j ≠ 2 → j ≠ 20 → g2 78 j = g 78 j) (e9 : ∀ j, 975 ≤ j → j < 1053 → g2 79 j = g 79 j) (h1 : g2 78 1 = 1) (hT : TM g2 0 t) (hg : g2 78 2 = nI ps.length) (hl : ps.length ≤ 24) (hp : M_pa g2 ps) : M_R g2 (u_hill a (some t) ps) :=
  ⟨h.c1 hf (by decide), h.c2 hf (by decide) (e _ (by decide) (by decide)), ⟨h1, hT⟩, ⟨hg, hl, hp⟩, h.c5 hf (by decide) e9, h.c6 (e _ (by decide) (by decide)) (e _ (by decide) (by decide)), h.c7 hf (by decide) (e _ (by decide) (by decide))⟩
theorem M_pa.kept2 {g g2 : m_G} (h1 : ∀ j, 39 ≤ j → j < 975 → g2 79 j = g 79 j) : ∀ (ps : List m_T), ps.length ≤ 24 → M_pa g ps → M_pa g2 ps
  | [], _, _ => trivial
  | p :: ps, hl, h => ⟨h.1.kept (fun j hj => h1 _ (by omega) (by have : (p :: ps).length = ps.length + 1 := rfl; omega)), M_pa.kept2 h1 ps (by have : (p :: ps).length = ps.length + 1 := rfl; omega) h.2⟩
theorem a_push_le (t : m_T) (ps : List m_T) : (a_push t ps).length ≤ 24 := by unfold a_push; rw [List.length_take]; omega
theorem TM.up {g : m_G} {t : m_T} {j : Nat} (h : TM g 0 t) (v : Int32) : TM (m_up g 79 j v) 0 (upd t j v) := fun i hi => by
  rw [Nat.zero_add, m_up_k]; unfold upd
  split
  · rfl
  · exact h.z hi
def a_act (a : a_S) (t t2 : m_T) : a_S := u_hill a (some t2) (a_push t (a_past a))
def sp_door (a : a_S) (h o : Int32) : Int32 × a_S := if wn h 0 (a_H a 1 - 1) then (if wn o 0 1 then (if bt (a_H a 8) h = o then (-1000002, a) else (a_H a 8 ^^^ (1 <<< (h &&& 31)), a_act a (a_H a) (upd (a_H a) 8 (a_H a 8 ^^^ (1 <<< (h &&& 31)))))) else (-1000001, a)) else (-1000001, a)
def sp_build (a : a_S) (h x y : Int32) : Int32 × a_S := if wn h 0 (a_H a 1 - 1) then (if sp_cell (a_H a) x y then (match sAt (a_H a) x y with
  | some _ => (-1000002, a)
  | none => (10 * a_H a (15 + h.toNatClampNeg) + a_H a (21 + h.toNatClampNeg), a_act a (a_H a) (upd (upd (a_H a) (15 + h.toNatClampNeg) x) (21 + h.toNatClampNeg) y))) else (-1000001, a)) else (-1000001, a)
def sp_speed (a : a_S) (v : Int32) : Int32 × a_S := match a_hill a with
  | none => (-1000002, a)
  | some t => if wn v 1 9 then (t 4, a_act a t (upd t 4 v)) else (-1000001, a)
def sp_undo (a : a_S) : Int32 × a_S := match a_past a with
  | [] => (-1000002, a)
  | p :: ps => (nI ps.length, u_hill a (some p) ps)
theorem a_hs {a : a_S} {x : Int32} (hA : a_OK a) (h : wn x 0 (a_H a 1 - 1)) : ∃ t, a_hill a = some t := by
  obtain ⟨i, hi, rfl, hc⟩ := isH_ex hA.cnt h
  cases hh : a_hill a with
  | none => exact absurd (by unfold a_H a_T; rw [hh]; exact nI_pos' (by omega)) hc
  | some t => exact ⟨t, rfl⟩
theorem tkb_door {t : m_T} {x v : Int32} (h : wn x 0 (t 1 - 1)) (hv : v = t 8 ^^^ (1 <<< (x &&& 31))) : t = a_tkb 1 x 0 (upd t 8 v) := by
  unfold a_tkb
  rw [if_neg (by decide), if_neg (by decide), if_pos ⟨rfl, by rw [upd_ne (by decide)]; exact h⟩, upd_eq, hv, xor_back, upd_back]
theorem tkb_speed {t : m_T} {v : Int32} : t = a_tkb 3 (-1) (t 4) (upd t 4 v) := by
  unfold a_tkb
  rw [if_neg (by decide), if_pos rfl, upd_back]
theorem cell_dec {x y : Int32} (hx : wn x 1 9) (hy : wn y 0 6) : (10 * x + y) / 10 = x ∧ ire (10 * x + y) 10 = y := by
  obtain ⟨i, hi, rfl⟩ := wn_ex (n := 9) ⟨fun q => hx.1 (by rw [i32_lt] at *; have := ti0; have := ti1; omega), hx.2⟩ rfl
  obtain ⟨j, hj, rfl⟩ := wn_ex (n := 6) hy rfl
  unfold ire
  rw [show (10 : Int32) = nI 10 from rfl, pk_mul, nI_add, pk_rem (by omega) (by decide) (by decide), pk_div (by omega) (by decide) (by decide)]
  constructor
  · congr 1; omega
  · congr 1; omega
theorem tkb_build {t : m_T} {x y : Int32} {i : Nat} (hi : i < 6) (h : wn (nI i) 0 (t 1 - 1)) (hx : wn (t (15 + i)) 1 9) (hy : wn (t (21 + i)) 0 6) : t = a_tkb 2 (nI i) (10 * t (15 + i) + t (21 + i)) (upd (upd t (15 + i) x) (21 + i) y) := by
  have e1 : (upd (upd t (15 + i) x) (21 + i) y) 1 = t 1 := by rw [upd_ne (by omega), upd_ne (by omega)]
  unfold a_tkb
  rw [if_neg (by decide), if_neg (by decide), if_neg (fun q => absurd q.1 (by decide)), if_pos (by rw [e1]; exact h), nI_clamp (by omega), (cell_dec hx hy).1, (cell_dec hx hy).2]
  funext j
  by_cases h1 : j = 21 + i
  · subst h1; rw [upd_eq]
  · rw [upd_ne h1]
    by_cases h2 : j = 15 + i
    · subst h2; rw [upd_eq]
    · rw [upd_ne h2, upd_ne h1, upd_ne h2]
theorem C_door {SL : Nat} {d : Nat} {Q : Option Int32 → m_G → Prop} {g : m_G} {a : a_S} (hA : a_OK a) (hC : C_R g a) (h o : Int32) (hQ : E_C g a Q (sp_door a h o)) : Sim SL (d + 3) yX8_door cX8_door 3 (some .int) 0 [.ref 0, .int h, .int o] [] g Q := by
  unfold E_C sp_door at hQ
  have hT : TW g 28 (a_H a) := hC.2.2.1.2
  have hac := hC.2.2.2.1.2.2
  refine s_aload_n (n := 1) dX8_door_0 rfl rfl rfl ?_
  refine s_iload_n (n := 2) dX8_door_1 rfl rfl rfl ?_
  refine s_cv1 (n := 5) dX8_door_2 rfl mo_X8_isHouse ml_X8_153 rfl (by decide) rfl rfl (Nat.le_of_ble_eq_true rfl) (Nat.le_of_ble_eq_true rfl) (c_X8_isHouse hT _ (fun hb2 => ?_) (fun hb2 => ?_))
  · dsimp only [m_push]
    refine s_if_eq (n := 8) (t := 17) dX8_door_5 (by decide) rfl (fun h => absurd h (by decide)) (fun _ => ?_)
    refine s_iload_n (n := 9) dX8_door_8 rfl rfl rfl ?_
    refine s_iconst (v := 0) (n := 10) dX8_door_9 rfl (by decide) ?_
    refine s_iconst (v := 1) (n := 11) dX8_door_10 rfl (by decide) ?_
    refine s_cs3 (n := 14) dX8_door_11 rfl mo_X8_within ml_X8_62 rfl (Nat.le_of_ble_eq_true rfl) (Nat.le_of_ble_eq_true rfl) (c_X8_within _ _ _ (fun hb11 => ?_) (fun hb11 => ?_))
    · dsimp only [m_push]
      refine s_if_ne (n := 17) (t := 20) dX8_door_14 (by decide) rfl (fun _ => ?_) (fun h => absurd h (by decide))
      refine s_aload_n (n := 21) dX8_door_20 rfl rfl rfl ?_
      refine s_getr (k2 := 28) (n := 24) dX8_door_21 rfl fl_X8_25 rfl rfl rfl ?_
      refine s_iload_n (n := 25) dX8_door_24 rfl rfl rfl ?_
      refine s_cv1 (n := 28) dX8_door_25 rfl mo_X1_openness ml_X8_156 rfl (by decide) rfl rfl (Nat.le_of_ble_eq_true rfl) (Nat.le_of_ble_eq_true rfl) (c_X1_openness hb28 _ ?_)
      dsimp only [m_push]
      rw [hT.1.2.2.2.2.2.2.2.2]
      refine s_iload_n (n := 29) dX8_door_28 rfl rfl rfl ?_
      refine s_icmp_ne (n := 32) (t := 35) dX8_door_29 (by decide) rfl (fun h29 => ?_) (fun h29 => ?_)
      · obtain ⟨t, hh⟩ := a_hs hA hb2
        refine s_aload_n (n := 36) dX8_door_35 rfl rfl rfl ?_
        refine s_getr (k2 := 28) (n := 39) dX8_door_36 rfl fl_X8_25 rfl rfl rfl ?_
        refine s_dup (n := 40) dX8_door_39 rfl rfl ?_
        refine s_geti (n := 43) dX8_door_40 rfl fl_X8_159 rfl rfl ?_
        rw [hT.1.2.2.2.2.2.2.2.2]
        refine s_iconst (v := 1) (n := 44) dX8_door_43 rfl (by decide) ?_
        refine s_iload_n (n := 45) dX8_door_44 rfl rfl rfl ?_
        refine s_ishl (n := 46) dX8_door_45 rfl ?_
        refine s_ixor (n := 47) dX8_door_46 rfl ?_
        refine s_puti (n := 50) dX8_door_47 rfl fl_X8_159 rfl rfl rfl ?_
        refine s_aload_n (n := 51) dX8_door_50 rfl rfl rfl ?_
        refine s_getr (k2 := 20) (n := 54) dX8_door_51 rfl fl_X8_39 rfl rfl rfl ?_
        refine s_iconst (v := 1) (n := 55) dX8_door_54 rfl (by decide) ?_
        refine s_iload_n (n := 56) dX8_door_55 rfl rfl rfl ?_
        refine s_iconst (v := 0) (n := 57) dX8_door_56 rfl (by decide) ?_
        refine s_cv3 (n := 60) dX8_door_57 rfl mo_X0_keep ml_X8_146 rfl (by decide) rfl rfl (Nat.le_of_ble_eq_true rfl) (Nat.le_of_ble_eq_true rfl) (c_X0_keep (ps := a_past a) (cur := a_H a) (new := upd (a_H a) 8 (a_H a 8 ^^^ (1 <<< (h &&& 31)))) (by rw [m_up_o (by decide)]; exact hC.2.2.2.1.1) hC.2.2.2.1.2.1 (C_ac.kept (by rw [m_up_o (by decide)]) (by rw [m_up_o (by decide)]) (by rw [m_up_o (by decide)]) _ _ _ hac) _ _ _ (tkb_door hb2 rfl) (fun g2 hf2 v1 v2 => ?_))
        dsimp only [m_push]
        refine s_aload_n (n := 61) dX8_door_60 rfl rfl rfl ?_
        refine s_getr (k2 := 28) (n := 64) dX8_door_61 rfl fl_X8_25 rfl rfl rfl ?_
        refine s_geti (n := 67) dX8_door_64 rfl fl_X8_159 rfl rfl ?_
        refine s_ireturn dX8_door_67 rfl rfl ?_
        simp only [if_pos hb2, if_pos hb11, if_neg h29] at hQ
        have e28 : g2 28 = _ := hf2 28 (by decide)
        rw [e28, m_up_k, if_pos rfl]
        have hT2 : TW g2 28 (upd (a_H a) 8 (a_H a 8 ^^^ (1 <<< (h &&& 31)))) := (hT.opn _).kept e28 (fun i hi => hf2 _ (by simp; omega))
        have hf : m_fr m_hcl g g2 := (m_fr.up (by decide)).tr (hf2.mono (by decide))
        exact hQ g2 (hC.act hf (by rw [e28, m_up_k, if_neg (by decide), hC.2.2.1.1, hh]; rfl) hT2 v1 (a_push_le _ _) v2) (hf.FC (by decide))
      · refine s_ldc (n := 34) dX8_door_32 rfl kc_X8_138 ?_
        refine s_ireturn dX8_door_34 rfl rfl ?_
        simp only [if_pos hb2, if_pos hb11, if_pos h29] at hQ
        exact hQ g hC F_C.rf
    · dsimp only [m_push]
      refine s_if_ne (n := 17) (t := 20) dX8_door_14 (by decide) rfl (fun h => absurd h (by decide)) (fun _ => ?_)
      refine s_ldc (n := 19) dX8_door_17 rfl kc_X8_66 ?_
      refine s_ireturn dX8_door_19 rfl rfl ?_
      simp only [if_pos hb2, if_neg hb11] at hQ
      exact hQ g hC F_C.rf
  · dsimp only [m_push]
    refine s_if_eq (n := 8) (t := 17) dX8_door_5 (by decide) rfl (fun _ => ?_) (fun h => absurd h (by decide))
    refine s_ldc (n := 19) dX8_door_17 rfl kc_X8_66 ?_
    refine s_ireturn dX8_door_19 rfl rfl ?_
    simp only [if_neg hb2] at hQ
    exact hQ g hC F_C.rf
theorem M_door {SL : Nat} {d : Nat} {Q : Option Int32 → m_G → Prop} {g : m_G} {a : a_S} (hA : a_OK a) (hM : M_R g a) (h o : Int32) (hQ : E_M g a Q (sp_door a h o)) : Sim SL (d + 2) yX9_door cX9_door 3 (some .int) 0 [.ref 78, .int h, .int o] [] g Q := by
  unfold E_M sp_door at hQ
  have hT : TM g 0 (a_H a) := hM.2.2.1.2
  refine s_aload_n (n := 1) dX9_door_0 rfl rfl rfl ?_
  refine s_iload_n (n := 2) dX9_door_1 rfl rfl rfl ?_
  refine s_cv1 (n := 5) dX9_door_2 rfl mo_X9_isHouse ml_X9_193 rfl (by decide) rfl rfl (Nat.le_of_ble_eq_true rfl) (Nat.le_of_ble_eq_true rfl) (c_X9_isHouse hT _ (fun hb2 => ?_) (fun hb2 => ?_))
  · dsimp only [m_push]
    refine s_if_eq (n := 8) (t := 18) dX9_door_5 (by decide) rfl (fun h => absurd h (by decide)) (fun _ => ?_)
    refine s_iload_n (n := 9) dX9_door_8 rfl rfl rfl ?_
    refine s_i2l (n := 10) dX9_door_9 rfl ?_
    refine s_lconst (v := 0) (n := 11) dX9_door_10 rfl (by decide) ?_
    refine s_lconst (v := 1) (n := 12) dX9_door_11 rfl (by decide) ?_
    refine s_cs3 (n := 15) dX9_door_12 rfl mo_X9_in ml_X9_60 rfl (Nat.le_of_ble_eq_true rfl) (Nat.le_of_ble_eq_true rfl) (c_X9_in (0) (1) rfl (by decide) (by decide) (fun hb12 => ?_) (fun hb12 => ?_))
    · dsimp only [m_push]
      refine s_if_ne (n := 18) (t := 21) dX9_door_15 (by decide) rfl (fun _ => ?_) (fun h => absurd h (by decide))
      refine s_aload_n (n := 22) dX9_door_21 rfl rfl rfl ?_
      refine s_getr (k2 := 79) (n := 25) dX9_door_22 rfl fl_X9_7 rfl rfl rfl ?_
      refine s_bipush (v := 8) (n := 27) dX9_door_25 rfl (by decide) ?_
      refine s_iaload 8 (n := 28) dX9_door_27 rfl rfl rfl (by decide) ?_
      rw [hT.z (by decide)]
      refine s_iload_n (n := 29) dX9_door_28 rfl rfl rfl ?_
      refine s_cs2 (n := 32) dX9_door_29 rfl mo_X9_has ml_X9_158 rfl (Nat.le_of_ble_eq_true rfl) (Nat.le_of_ble_eq_true rfl) (c_X9_has _ _ (fun hb29 => ?_) (fun hb29 => ?_))
      · dsimp only [m_push]
        refine s_iload_n (n := 33) dX9_door_32 rfl rfl rfl ?_
        refine s_iconst (v := 1) (n := 34) dX9_door_33 rfl (by decide) ?_
        refine s_icmp_ne (n := 37) (t := 41) dX9_door_34 (by decide) rfl (fun h34 => ?_) (fun h34 => ?_)
        · refine s_iconst (v := 0) (n := 42) dX9_door_41 rfl (by decide) ?_
          refine s_icmp_ne (n := 45) (t := 48) dX9_door_42 (by decide) rfl (fun _ => ?_) (fun h => absurd h (by decide))
          obtain ⟨t, hh⟩ := a_hs hA hb2
          refine s_aload_n (n := 49) dX9_door_48 rfl rfl rfl ?_
          refine s_cv0 (n := 52) dX9_door_49 rfl mo_X9_keepPast ml_X9_187 rfl (by decide) rfl rfl (Nat.le_of_ble_eq_true rfl) (Nat.le_of_ble_eq_true rfl) (c_X9_keepPast hM.2.2.2.1.1 hM.2.2.2.1.2.1 hM.2.2.2.1.2.2 hT (fun g2 hf2 w1 w2 w3 w4 => ?_))
          have hT2 : TM g2 0 (a_H a) := hT.kept (fun j hj => w2 _ (by omega))
          dsimp only [m_push]
          refine s_aload_n (n := 53) dX9_door_52 rfl rfl rfl ?_
          refine s_getr (k2 := 79) (n := 56) dX9_door_53 rfl fl_X9_7 rfl rfl rfl ?_
          refine s_bipush (v := 8) (n := 58) dX9_door_56 rfl (by decide) ?_
          refine s_dup2 (n := 59) dX9_door_58 rfl rfl rfl ?_
          refine s_iaload 8 (n := 60) dX9_door_59 rfl rfl rfl (by decide) ?_
          rw [hT2.z (by decide)]
          refine s_iconst (v := 1) (n := 61) dX9_door_60 rfl (by decide) ?_
          refine s_iload_n (n := 62) dX9_door_61 rfl rfl rfl ?_
          refine s_ishl (n := 63) dX9_door_62 rfl ?_
          refine s_ixor (n := 64) dX9_door_63 rfl ?_
          refine s_iastore 8 (n := 65) dX9_door_64 rfl rfl rfl (by decide) ?_
          refine s_aload_n (n := 66) dX9_door_65 rfl rfl rfl ?_
          refine s_getr (k2 := 79) (n := 69) dX9_door_66 rfl fl_X9_7 rfl rfl rfl ?_
          refine s_bipush (v := 8) (n := 71) dX9_door_69 rfl (by decide) ?_
          refine s_iaload 8 (n := 72) dX9_door_71 rfl rfl rfl (by decide) ?_
          rw [m_up_k, if_pos rfl]
          refine s_ireturn dX9_door_72 rfl rfl ?_
          have hbo : ¬ bt (a_H a 8) h = o := by
            intro q
            first
            | (rw [hb29] at q; exact h34 q.symm)
            | (rw [h34] at q; exact hb29 q)
          simp only [if_pos hb2, if_pos hb12, if_neg hbo] at hQ
          refine hQ _ (hM.act ((hf2.mono (by decide)).up2 (by decide)) (fun j hj _ => by rw [m_up_o (by decide)]; exact w1 j hj) (fun j hj _ => by rw [m_up_k, if_neg (by omega)]; exact w2 j (Or.inr hj)) ?_ (hT2.up _) (by rw [m_up_o (by decide)]; exact w3) (a_push_le _ _) (M_pa.kept2 (fun j hj _ => by rw [m_up_k, if_neg (by omega)]) _ (a_push_le _ _) w4)) ((hf2.up2 (by decide)).FM (by decide))
          rw [m_up_o (by decide), w1 1 (by decide), hM.2.2.1.1, hh]
          rfl
        · refine s_iconst (v := 1) (n := 38) dX9_door_37 rfl (by decide) ?_
          refine s_goto (t := 42) dX9_door_38 (by decide) ?_
          refine s_icmp_ne (n := 45) (t := 48) dX9_door_42 (by decide) rfl (fun h => absurd h (by decide)) (fun _ => ?_)
          refine s_ldc (n := 47) dX9_door_45 rfl kc_X9_157 ?_
          refine s_ireturn dX9_door_47 rfl rfl ?_
          have hbo : bt (a_H a 8) h = o := by
            first
            | (rw [hb29, h34]; done)
            | (rcases bt_01 (a_H a 8) h with q | q
               · rw [q]; exact ((wn01 hb12).resolve_right h34).symm
               · exact absurd q hb29)
          simp only [if_pos hb2, if_pos hb12, if_pos hbo] at hQ
          exact hQ g hM F_M.rf
      · dsimp only [m_push]
        refine s_iload_n (n := 33) dX9_door_32 rfl rfl rfl ?_
        refine s_iconst (v := 1) (n := 34) dX9_door_33 rfl (by decide) ?_
        refine s_icmp_ne (n := 37) (t := 41) dX9_door_34 (by decide) rfl (fun h34 => ?_) (fun h34 => ?_)
        · refine s_iconst (v := 0) (n := 42) dX9_door_41 rfl (by decide) ?_
          refine s_icmp_ne (n := 45) (t := 48) dX9_door_42 (by decide) rfl (fun h => absurd h (by decide)) (fun _ => ?_)
          refine s_ldc (n := 47) dX9_door_45 rfl kc_X9_157 ?_
          refine s_ireturn dX9_door_47 rfl rfl ?_
          have hbo : bt (a_H a 8) h = o := by
            first
            | (rw [hb29, h34]; done)
            | (rcases bt_01 (a_H a 8) h with q | q
               · rw [q]; exact ((wn01 hb12).resolve_right h34).symm
               · exact absurd q hb29)
          simp only [if_pos hb2, if_pos hb12, if_pos hbo] at hQ
          exact hQ g hM F_M.rf
        · refine s_iconst (v := 1) (n := 38) dX9_door_37 rfl (by decide) ?_
          refine s_goto (t := 42) dX9_door_38 (by decide) ?_
          refine s_icmp_ne (n := 45) (t := 48) dX9_door_42 (by decide) rfl (fun _ => ?_) (fun h => absurd h (by decide))
          obtain ⟨t, hh⟩ := a_hs hA hb2
          refine s_aload_n (n := 49) dX9_door_48 rfl rfl rfl ?_
          refine s_cv0 (n := 52) dX9_door_49 rfl mo_X9_keepPast ml_X9_187 rfl (by decide) rfl rfl (Nat.le_of_ble_eq_true rfl) (Nat.le_of_ble_eq_true rfl) (c_X9_keepPast hM.2.2.2.1.1 hM.2.2.2.1.2.1 hM.2.2.2.1.2.2 hT (fun g2 hf2 w1 w2 w3 w4 => ?_))
          have hT2 : TM g2 0 (a_H a) := hT.kept (fun j hj => w2 _ (by omega))
          dsimp only [m_push]
          refine s_aload_n (n := 53) dX9_door_52 rfl rfl rfl ?_
          refine s_getr (k2 := 79) (n := 56) dX9_door_53 rfl fl_X9_7 rfl rfl rfl ?_
          refine s_bipush (v := 8) (n := 58) dX9_door_56 rfl (by decide) ?_
          refine s_dup2 (n := 59) dX9_door_58 rfl rfl rfl ?_
          refine s_iaload 8 (n := 60) dX9_door_59 rfl rfl rfl (by decide) ?_
          rw [hT2.z (by decide)]
          refine s_iconst (v := 1) (n := 61) dX9_door_60 rfl (by decide) ?_
          refine s_iload_n (n := 62) dX9_door_61 rfl rfl rfl ?_
          refine s_ishl (n := 63) dX9_door_62 rfl ?_
          refine s_ixor (n := 64) dX9_door_63 rfl ?_
          refine s_iastore 8 (n := 65) dX9_door_64 rfl rfl rfl (by decide) ?_
          refine s_aload_n (n := 66) dX9_door_65 rfl rfl rfl ?_
          refine s_getr (k2 := 79) (n := 69) dX9_door_66 rfl fl_X9_7 rfl rfl rfl ?_
          refine s_bipush (v := 8) (n := 71) dX9_door_69 rfl (by decide) ?_
          refine s_iaload 8 (n := 72) dX9_door_71 rfl rfl rfl (by decide) ?_
          rw [m_up_k, if_pos rfl]
          refine s_ireturn dX9_door_72 rfl rfl ?_
          have hbo : ¬ bt (a_H a 8) h = o := by
            intro q
            first
            | (rw [hb29] at q; exact h34 q.symm)
            | (rw [h34] at q; exact hb29 q)
          simp only [if_pos hb2, if_pos hb12, if_neg hbo] at hQ
          refine hQ _ (hM.act ((hf2.mono (by decide)).up2 (by decide)) (fun j hj _ => by rw [m_up_o (by decide)]; exact w1 j hj) (fun j hj _ => by rw [m_up_k, if_neg (by omega)]; exact w2 j (Or.inr hj)) ?_ (hT2.up _) (by rw [m_up_o (by decide)]; exact w3) (a_push_le _ _) (M_pa.kept2 (fun j hj _ => by rw [m_up_k, if_neg (by omega)]) _ (a_push_le _ _) w4)) ((hf2.up2 (by decide)).FM (by decide))
          rw [m_up_o (by decide), w1 1 (by decide), hM.2.2.1.1, hh]
          rfl
    · dsimp only [m_push]
      refine s_if_ne (n := 18) (t := 21) dX9_door_15 (by decide) rfl (fun h => absurd h (by decide)) (fun _ => ?_)
      refine s_ldc (n := 20) dX9_door_18 rfl kc_X9_70 ?_
      refine s_ireturn dX9_door_20 rfl rfl ?_
      simp only [if_pos hb2, if_neg hb12] at hQ
      exact hQ g hM F_M.rf
  · dsimp only [m_push]
    refine s_if_eq (n := 8) (t := 18) dX9_door_5 (by decide) rfl (fun _ => ?_) (fun h => absurd h (by decide))
    refine s_ldc (n := 20) dX9_door_18 rfl kc_X9_70 ?_
    refine s_ireturn dX9_door_20 rfl rfl ?_
    simp only [if_neg hb2] at hQ
    exact hQ g hM F_M.rf
theorem C_build {SL : Nat} {d : Nat} {Q : Option Int32 → m_G → Prop} {g : m_G} {a : a_S} (hA : a_OK a) (hC : C_R g a) (h x y : Int32) (hQ : E_C g a Q (sp_build a h x y)) : Sim SL (d + 3) yX8_build cX8_build 5 (some .int) 0 [.ref 0, .int h, .int x, .int y, .null] [] g Q := by
  unfold E_C sp_build at hQ
  have hT : TW g 28 (a_H a) := hC.2.2.1.2
  have hac := hC.2.2.2.1.2.2
  refine s_aload_n (n := 1) dX8_build_0 rfl rfl rfl ?_
  refine s_iload_n (n := 2) dX8_build_1 rfl rfl rfl ?_
  refine s_cv1 (n := 5) dX8_build_2 rfl mo_X8_isHouse ml_X8_153 rfl (by decide) rfl rfl (Nat.le_of_ble_eq_true rfl) (Nat.le_of_ble_eq_true rfl) (c_X8_isHouse hT _ (fun hb2 => ?_) (fun hb2 => ?_))
  · dsimp only [m_push]
    refine s_if_eq (n := 8) (t := 17) dX8_build_5 (by decide) rfl (fun h => absurd h (by decide)) (fun _ => ?_)
    refine s_aload_n (n := 9) dX8_build_8 rfl rfl rfl ?_
    refine s_iload_n (n := 10) dX8_build_9 rfl rfl rfl ?_
    refine s_iload_n (n := 11) dX8_build_10 rfl rfl rfl ?_
    refine s_cv2 (n := 14) dX8_build_11 rfl mo_X8_isCell ml_X8_162 rfl (by decide) rfl rfl (Nat.le_of_ble_eq_true rfl) (Nat.le_of_ble_eq_true rfl) (c_X8_isCell hT _ _ (fun hb11 => ?_) (fun hb11 => ?_))
    · dsimp only [m_push]
      refine s_if_ne (n := 17) (t := 20) dX8_build_14 (by decide) rfl (fun _ => ?_) (fun h => absurd h (by decide))
      refine s_aload_n (n := 21) dX8_build_20 rfl rfl rfl ?_
      refine s_getr (k2 := 28) (n := 24) dX8_build_21 rfl fl_X8_25 rfl rfl rfl ?_
      refine s_iload_n (n := 25) dX8_build_24 rfl rfl rfl ?_
      refine s_iload_n (n := 26) dX8_build_25 rfl rfl rfl ?_
      refine s_cv2 (n := 29) dX8_build_26 rfl mo_X1_standing ml_X8_165 rfl (by decide) rfl rfl (Nat.le_of_ble_eq_true rfl) (Nat.le_of_ble_eq_true rfl) (c_X1_standing hb28 hT hA.cle _ _ ?_)
      dsimp only [m_push]
      refine s_if_lt (n := 32) (t := 35) dX8_build_29 (by decide) rfl (fun h29 => ?_) (fun h29 => ?_)
      · obtain ⟨t, hh⟩ := a_hs hA hb2
        obtain ⟨i, hi, rfl, hci⟩ := isH_ex hA.cnt hb2
        have hhv := hT.2 i hi hci
        have htk : _ := (hA.1 t hh).2.2.2.2.2.2.2.2 i hi (by unfold a_H a_T at hci; rw [hh] at hci; exact hci)
        have hHt : a_H a = t := by unfold a_H a_T; rw [hh]; rfl
        rw [← hHt] at htk
        rw [nI_clamp (show i < 2 ^ 31 by omega)] at hQ
        refine s_aload_n (n := 36) dX8_build_35 rfl rfl rfl ?_
        refine s_getr (k2 := 28) (n := 39) dX8_build_36 rfl fl_X8_25 rfl rfl rfl ?_
        refine s_getr (k2 := 29) (n := 42) dX8_build_39 rfl fl_X8_169 rfl rfl rfl ?_
        refine s_iload_n (n := 43) dX8_build_42 rfl rfl rfl ?_
        refine s_aaload (k2 := 32 + i) (t := 0) i (n := 44) dX8_build_43 rfl rfl (by decide) rfl hi rfl ?_
        refine s_cv0 (n := 47) dX8_build_44 rfl mo_X2_cell ml_X8_173 (hbh hb28 hi) (by decide) rfl rfl (Nat.le_of_ble_eq_true rfl) (Nat.le_of_ble_eq_true rfl) (c_X2_cell (hbh hb28 hi) ?_)
        dsimp only [m_push]
        rw [hhv.2.1, hhv.2.2.1]
        refine s_istore (n := 49) dX8_build_47 rfl (by decide) rfl rfl ?_
        refine s_aload_n (n := 50) dX8_build_49 rfl rfl rfl ?_
        refine s_getr (k2 := 28) (n := 53) dX8_build_50 rfl fl_X8_25 rfl rfl rfl ?_
        refine s_getr (k2 := 29) (n := 56) dX8_build_53 rfl fl_X8_169 rfl rfl rfl ?_
        refine s_iload_n (n := 57) dX8_build_56 rfl rfl rfl ?_
        refine s_aaload (k2 := 32 + i) (t := 0) i (n := 58) dX8_build_57 rfl rfl (by decide) rfl hi rfl ?_
        refine s_iload_n (n := 59) dX8_build_58 rfl rfl rfl ?_
        refine s_iload_n (n := 60) dX8_build_59 rfl rfl rfl ?_
        refine s_cv2 (n := 63) dX8_build_60 rfl mo_X2_stand ml_X8_178 (hbh hb28 hi) (by decide) rfl rfl (Nat.le_of_ble_eq_true rfl) (Nat.le_of_ble_eq_true rfl) (c_X2_stand (hbh hb28 hi) _ _ ?_)
        dsimp only [m_push]
        refine s_aload_n (n := 64) dX8_build_63 rfl rfl rfl ?_
        refine s_getr (k2 := 20) (n := 67) dX8_build_64 rfl fl_X8_39 rfl rfl rfl ?_
        refine s_iconst (v := 2) (n := 68) dX8_build_67 rfl (by decide) ?_
        refine s_iload_n (n := 69) dX8_build_68 rfl rfl rfl ?_
        refine s_iload (n := 71) dX8_build_69 rfl rfl ?_
        refine s_cv3 (n := 74) dX8_build_71 rfl mo_X0_keep ml_X8_146 rfl (by decide) rfl rfl (Nat.le_of_ble_eq_true rfl) (Nat.le_of_ble_eq_true rfl) (c_X0_keep (ps := a_past a) (cur := a_H a) (new := upd (upd (a_H a) (15 + i) x) (21 + i) y) (by rw [m_up_o (by omega), m_up_o (by omega)]; exact hC.2.2.2.1.1) hC.2.2.2.1.2.1 (C_ac.kept (by rw [m_up_o (by omega), m_up_o (by omega)]) (by rw [m_up_o (by omega), m_up_o (by omega)]) (by rw [m_up_o (by omega), m_up_o (by omega)]) _ _ _ hac) _ _ _ (tkb_build hi hb2 htk.2.1 htk.2.2) (fun g2 hf2 v1 v2 => ?_))
        dsimp only [m_push]
        refine s_iload (n := 76) dX8_build_74 rfl rfl ?_
        refine s_ireturn dX8_build_76 rfl rfl ?_
        simp only [if_pos hb2, if_pos hb11] at hQ
        have hs : sAt (a_H a) x y = none := by
          cases hs : sAt (a_H a) x y with
          | none => rfl
          | some q => rw [hs] at h29; exact absurd h29 (nI_pos (by have := (sAt_lt hs).1; omega))
        rw [hs] at hQ
        dsimp only at hQ
        have e28 : g2 28 = _ := hf2 28 (by decide)
        rw [m_up_o (by omega), m_up_o (by omega)] at e28
        have hT2 : TW g2 28 (upd (upd (a_H a) (15 + i) x) (21 + i) y) := ((hT.tier hi _).line hi _).kept (by rw [e28, m_up_o (by omega), m_up_o (by omega)]) (fun q hq => hf2 _ (by simp; omega))
        have hf : m_fr m_hcl g g2 := ((m_fr.up (by rcases (show i = 0 ∨ i = 1 ∨ i = 2 ∨ i = 3 ∨ i = 4 ∨ i = 5 by omega) with rfl | rfl | rfl | rfl | rfl | rfl <;> decide)).up2 (by rcases (show i = 0 ∨ i = 1 ∨ i = 2 ∨ i = 3 ∨ i = 4 ∨ i = 5 by omega) with rfl | rfl | rfl | rfl | rfl | rfl <;> decide)).tr (hf2.mono (by decide))
        exact hQ g2 (hC.act hf (by rw [e28, hC.2.2.1.1, hh]; rfl) hT2 v1 (a_push_le _ _) v2) (hf.FC (by decide))
      · refine s_ldc (n := 34) dX8_build_32 rfl kc_X8_138 ?_
        refine s_ireturn dX8_build_34 rfl rfl ?_
        simp only [if_pos hb2, if_pos hb11] at hQ
        cases hs : sAt (a_H a) x y with
        | none => rw [hs] at h29; exact absurd (by decide) h29
        | some q => rw [hs] at hQ; exact hQ g hC F_C.rf
    · dsimp only [m_push]
      refine s_if_ne (n := 17) (t := 20) dX8_build_14 (by decide) rfl (fun h => absurd h (by decide)) (fun _ => ?_)
      refine s_ldc (n := 19) dX8_build_17 rfl kc_X8_66 ?_
      refine s_ireturn dX8_build_19 rfl rfl ?_
      simp only [if_pos hb2, if_neg hb11] at hQ
      exact hQ g hC F_C.rf
  · dsimp only [m_push]
    refine s_if_eq (n := 8) (t := 17) dX8_build_5 (by decide) rfl (fun _ => ?_) (fun h => absurd h (by decide))
    refine s_ldc (n := 19) dX8_build_17 rfl kc_X8_66 ?_
    refine s_ireturn dX8_build_19 rfl rfl ?_
    simp only [if_neg hb2] at hQ
    exact hQ g hC F_C.rf
theorem M_build {SL : Nat} {d : Nat} {Q : Option Int32 → m_G → Prop} {g : m_G} {a : a_S} (hA : a_OK a) (hM : M_R g a) (h x y : Int32) (hQ : E_M g a Q (sp_build a h x y)) : Sim SL (d + 2) yX9_build cX9_build 5 (some .int) 0 [.ref 78, .int h, .int x, .int y, .null] [] g Q := by
  unfold E_M sp_build at hQ
  have hT : TM g 0 (a_H a) := hM.2.2.1.2
  refine s_aload_n (n := 1) dX9_build_0 rfl rfl rfl ?_
  refine s_iload_n (n := 2) dX9_build_1 rfl rfl rfl ?_
  refine s_cv1 (n := 5) dX9_build_2 rfl mo_X9_isHouse ml_X9_193 rfl (by decide) rfl rfl (Nat.le_of_ble_eq_true rfl) (Nat.le_of_ble_eq_true rfl) (c_X9_isHouse hT _ (fun hb2 => ?_) (fun hb2 => ?_))
  · dsimp only [m_push]
    refine s_if_eq (n := 8) (t := 17) dX9_build_5 (by decide) rfl (fun h => absurd h (by decide)) (fun _ => ?_)
    refine s_aload_n (n := 9) dX9_build_8 rfl rfl rfl ?_
    refine s_iload_n (n := 10) dX9_build_9 rfl rfl rfl ?_
    refine s_iload_n (n := 11) dX9_build_10 rfl rfl rfl ?_
    refine s_cv2 (n := 14) dX9_build_11 rfl mo_X9_isPlace ml_X9_198 rfl (by decide) rfl rfl (Nat.le_of_ble_eq_true rfl) (Nat.le_of_ble_eq_true rfl) (c_X9_isPlace hT _ _ (fun hb11 => ?_) (fun hb11 => ?_))
    · dsimp only [m_push]
      refine s_if_ne (n := 17) (t := 20) dX9_build_14 (by decide) rfl (fun _ => ?_) (fun h => absurd h (by decide))
      refine s_aload_n (n := 21) dX9_build_20 rfl rfl rfl ?_
      refine s_iconst (v := 0) (n := 22) dX9_build_21 rfl (by decide) ?_
      refine s_iload_n (n := 23) dX9_build_22 rfl rfl rfl ?_
      refine s_iload_n (n := 24) dX9_build_23 rfl rfl rfl ?_
      refine s_cv3 (n := 27) dX9_build_24 rfl mo_X9_houseAt ml_X9_124 rfl (by decide) rfl rfl (Nat.le_of_ble_eq_true rfl) (Nat.le_of_ble_eq_true rfl) (c_X9_houseAt (b := 0) (by decide) hT hA.cle _ _ ?_)
      dsimp only [m_push]
      refine s_ldc (n := 29) dX9_build_27 rfl kc_X9_128 ?_
      refine s_icmp_eq (n := 32) (t := 35) dX9_build_29 (by decide) rfl (fun h29 => ?_) (fun h29 => ?_)
      · obtain ⟨t, hh⟩ := a_hs hA hb2
        obtain ⟨i, hi, rfl, hci⟩ := isH_ex hA.cnt hb2
        rw [nI_clamp (show i < 2 ^ 31 by omega)] at hQ
        refine s_aload_n (n := 36) dX9_build_35 rfl rfl rfl ?_
        refine s_cv0 (n := 39) dX9_build_36 rfl mo_X9_keepPast ml_X9_187 rfl (by decide) rfl rfl (Nat.le_of_ble_eq_true rfl) (Nat.le_of_ble_eq_true rfl) (c_X9_keepPast hM.2.2.2.1.1 hM.2.2.2.1.2.1 hM.2.2.2.1.2.2 hT (fun g2 hf2 w1 w2 w3 w4 => ?_))
        have hT2 : TM g2 0 (a_H a) := hT.kept (fun j hj => w2 _ (by omega))
        dsimp only [m_push]
        refine s_bipush (v := 10) (n := 41) dX9_build_39 rfl (by decide) ?_
        refine s_aload_n (n := 42) dX9_build_41 rfl rfl rfl ?_
        refine s_getr (k2 := 79) (n := 45) dX9_build_42 rfl fl_X9_7 rfl rfl rfl ?_
        refine s_bipush (v := 15) (n := 47) dX9_build_45 rfl (by decide) ?_
        refine s_iload_n (n := 48) dX9_build_47 rfl rfl rfl ?_
        refine s_iadd (n := 49) dX9_build_48 rfl ?_
        refine s_iaload (15 + i) (n := 50) dX9_build_49 rfl rfl (ix2m rfl) (by omega) ?_
        rw [hT2.z (by omega)]
        refine s_imul (n := 51) dX9_build_50 rfl ?_
        refine s_aload_n (n := 52) dX9_build_51 rfl rfl rfl ?_
        refine s_getr (k2 := 79) (n := 55) dX9_build_52 rfl fl_X9_7 rfl rfl rfl ?_
        refine s_bipush (v := 21) (n := 57) dX9_build_55 rfl (by decide) ?_
        refine s_iload_n (n := 58) dX9_build_57 rfl rfl rfl ?_
        refine s_iadd (n := 59) dX9_build_58 rfl ?_
        refine s_iaload (21 + i) (n := 60) dX9_build_59 rfl rfl (ix2m rfl) (by omega) ?_
        rw [hT2.z (by omega)]
        refine s_iadd (n := 61) dX9_build_60 rfl ?_
        refine s_istore (n := 63) dX9_build_61 rfl (by decide) rfl rfl ?_
        refine s_aload_n (n := 64) dX9_build_63 rfl rfl rfl ?_
        refine s_getr (k2 := 79) (n := 67) dX9_build_64 rfl fl_X9_7 rfl rfl rfl ?_
        refine s_bipush (v := 15) (n := 69) dX9_build_67 rfl (by decide) ?_
        refine s_iload_n (n := 70) dX9_build_69 rfl rfl rfl ?_
        refine s_iadd (n := 71) dX9_build_70 rfl ?_
        refine s_iload_n (n := 72) dX9_build_71 rfl rfl rfl ?_
        refine s_iastore (15 + i) (n := 73) dX9_build_72 rfl rfl (ix2m rfl) (by omega) ?_
        refine s_aload_n (n := 74) dX9_build_73 rfl rfl rfl ?_
        refine s_getr (k2 := 79) (n := 77) dX9_build_74 rfl fl_X9_7 rfl rfl rfl ?_
        refine s_bipush (v := 21) (n := 79) dX9_build_77 rfl (by decide) ?_
        refine s_iload_n (n := 80) dX9_build_79 rfl rfl rfl ?_
        refine s_iadd (n := 81) dX9_build_80 rfl ?_
        refine s_iload_n (n := 82) dX9_build_81 rfl rfl rfl ?_
        refine s_iastore (21 + i) (n := 83) dX9_build_82 rfl rfl (ix2m rfl) (by omega) ?_
        refine s_iload (n := 85) dX9_build_83 rfl rfl ?_
        refine s_ireturn dX9_build_85 rfl rfl ?_
        simp only [if_pos hb2, if_pos hb11] at hQ
        have hs : sAt (a_H a) x y = none := by
          cases hs : sAt (a_H a) x y with
          | none => rfl
          | some q => rw [hs] at h29; exact absurd h29 (eM_ne (sAt_lt hs).1)
        rw [hs] at hQ
        dsimp only at hQ
        refine hQ _ (hM.act (((hf2.mono (by decide)).up2 (by decide)).up2 (by decide)) (fun j hj _ => by rw [m_up_o (by decide), m_up_o (by decide)]; exact w1 j hj) (fun j hj _ => by rw [m_up_k, if_neg (by omega), m_up_k, if_neg (by omega)]; exact w2 j (Or.inr hj)) ?_ ((hT2.up _).up _) (by rw [m_up_o (by decide), m_up_o (by decide)]; exact w3) (a_push_le _ _) (M_pa.kept2 (fun j hj _ => by rw [m_up_k, if_neg (by omega), m_up_k, if_neg (by omega)]) _ (a_push_le _ _) w4)) (((hf2.up2 (by decide)).up2 (by decide)).FM (by decide))
        rw [m_up_o (by decide), m_up_o (by decide), w1 1 (by decide), hM.2.2.1.1, hh]
        rfl
      · refine s_ldc (n := 34) dX9_build_32 rfl kc_X9_157 ?_
        refine s_ireturn dX9_build_34 rfl rfl ?_
        simp only [if_pos hb2, if_pos hb11] at hQ
        cases hs : sAt (a_H a) x y with
        | none => rw [hs] at h29; exact absurd rfl h29
        | some q => rw [hs] at hQ; exact hQ g hM F_M.rf
    · dsimp only [m_push]
      refine s_if_ne (n := 17) (t := 20) dX9_build_14 (by decide) rfl (fun h => absurd h (by decide)) (fun _ => ?_)
      refine s_ldc (n := 19) dX9_build_17 rfl kc_X9_70 ?_
      refine s_ireturn dX9_build_19 rfl rfl ?_
      simp only [if_pos hb2, if_neg hb11] at hQ
      exact hQ g hM F_M.rf
  · dsimp only [m_push]
    refine s_if_eq (n := 8) (t := 17) dX9_build_5 (by decide) rfl (fun _ => ?_) (fun h => absurd h (by decide))
    refine s_ldc (n := 19) dX9_build_17 rfl kc_X9_70 ?_
    refine s_ireturn dX9_build_19 rfl rfl ?_
    simp only [if_neg hb2] at hQ
    exact hQ g hM F_M.rf
