theorem lp_X6_readLaw0 {SL d : Nat} {Q : Option Int32 → m_G → Prop} {g : m_G} {k : Nat} {x4 : Value} (hQ : Q (some 0) g) : Sim SL (d + 3) yX6_readLaw cX6_readLaw 5 (some .boolean) 9 [.ref 18, .ref 38, .int 0, .int (nI k), x4] [] g Q := by
  refine s_iload_n (n := 10) dX6_readLaw_9 rfl rfl rfl ?_
  refine s_getstatic (k := 202) (n := 13) dX6_readLaw_10 rfl (List.mem_of_getElem? (i := 1) rfl) fs_X6_48 ?_
  refine s_tlen (n := 14) dX6_readLaw_13 rfl (List.mem_of_getElem? (i := 2) rfl) rfl ?_
  refine s_icmp_ge (n := 17) (t := 85) dX6_readLaw_14 (by decide) rfl (fun h14 => ?_) (fun h14 => ?_)
  · refine s_iload_n (n := 86) dX6_readLaw_85 rfl rfl rfl ?_
    refine s_ireturn dX6_readLaw_86 rfl (by decide +kernel) ?_
    exact hQ
  · refine s_iload_n (n := 18) dX6_readLaw_17 rfl rfl rfl ?_
    refine s_if_eq (n := 21) (t := 85) dX6_readLaw_18 (by decide) rfl (fun _ => ?_) (fun h => absurd h (by decide))
    refine s_iload_n (n := 86) dX6_readLaw_85 rfl rfl rfl ?_
    refine s_ireturn dX6_readLaw_86 rfl (by decide +kernel) ?_
    exact hQ
set_option maxHeartbeats 1000000 in
theorem lp_X6_readLaw {SL d : Nat} {Q : Option Int32 → m_G → Prop} {L : Nat} {f : Nat → Int32} : ∀ (n k : Nat) (g : m_G) (x4 : Value) (at_ : Nat) (t : m_T), k + n = 6 → CT g L f at_ → (∀ j, j < k → g 38 (3 + j) = t (lwP j)) → K_S g → (∀ p, rlK L f n k at_ t = .inr p → ∀ g2, m_fr [18, 38] g g2 → (∀ j, j = 2 ∨ 9 ≤ j → g2 38 j = g 38 j) → CT g2 L f p.1 → (∀ j, j < 6 → g2 38 (3 + j) = p.2 (lwP j)) → Q (some 1) g2) → (∀ e, rlK L f n k at_ t = .inl e → ∀ g2, m_fr [18, 38] g g2 → CF g2 e → Q (some 0) g2) → Sim SL (d + 3) yX6_readLaw cX6_readLaw 5 (some .boolean) 9 [.ref 18, .ref 38, .int 1, .int (nI k), x4] [] g Q := by
  intro n
  induction n with
  | zero =>
    intro k g x4 at_ t hkn hT hW hKS k1 k0
    have hk : k = 6 := by omega
    subst hk
    refine s_iload_n (n := 10) dX6_readLaw_9 rfl rfl rfl ?_
    refine s_getstatic (k := 202) (n := 13) dX6_readLaw_10 rfl (List.mem_of_getElem? (i := 1) rfl) fs_X6_48 ?_
    refine s_tlen (n := 14) dX6_readLaw_13 rfl (List.mem_of_getElem? (i := 2) rfl) rfl ?_
    refine s_icmp_ge (n := 17) (t := 85) dX6_readLaw_14 (by decide) rfl (fun h14 => ?_) (fun h14 => ?_)
    · refine s_iload_n (n := 86) dX6_readLaw_85 rfl rfl rfl ?_
      refine s_ireturn dX6_readLaw_86 rfl (by decide +kernel) ?_
      exact k1 _ rfl g m_fr.rf (fun _ _ => rfl) hT hW
    · exact absurd (by decide) h14
  | succ n ih =>
    intro k g x4 at_ t hkn hT hW hKS k1 k0
    have hk6 : k < 6 := by omega
    refine s_iload_n (n := 10) dX6_readLaw_9 rfl rfl rfl ?_
    refine s_getstatic (k := 202) (n := 13) dX6_readLaw_10 rfl (List.mem_of_getElem? (i := 1) rfl) fs_X6_48 ?_
    refine s_tlen (n := 14) dX6_readLaw_13 rfl (List.mem_of_getElem? (i := 2) rfl) rfl ?_
    refine s_icmp_ge (n := 17) (t := 85) dX6_readLaw_14 (by decide) rfl (fun h14 => ?_) (fun h14 => ?_)
    · exact absurd h14 (nI_ge hk6 (by decide))
    · refine s_iload_n (n := 18) dX6_readLaw_17 rfl rfl rfl ?_
      refine s_if_eq (n := 21) (t := 85) dX6_readLaw_18 (by decide) rfl (fun h => absurd h (by decide)) (fun _ => ?_)
      refine s_aload_n (n := 22) dX6_readLaw_21 rfl rfl rfl ?_
      refine s_getstatic (k := 202) (n := 25) dX6_readLaw_22 rfl (List.mem_of_getElem? (i := 1) rfl) fs_X6_48 ?_
      refine s_iload_n (n := 26) dX6_readLaw_25 rfl rfl rfl ?_
      refine s_tload k (n := 27) dX6_readLaw_26 rfl (List.mem_of_getElem? (i := 2) rfl) (by decide) rfl hk6 ?_
      rw [show g 202 k = lwL k from hKS.2.1 k (by simpa using hk6)]
      refine s_getstatic (k := 203) (n := 30) dX6_readLaw_27 rfl (List.mem_of_getElem? (i := 2) rfl) fs_X6_51 ?_
      refine s_iload_n (n := 31) dX6_readLaw_30 rfl rfl rfl ?_
      refine s_tload k (n := 32) dX6_readLaw_31 rfl (List.mem_of_getElem? (i := 3) rfl) (by decide) rfl hk6 ?_
      rw [show g 203 k = lwM k from hKS.2.2.1 k (by simpa using hk6)]
      refine s_cv2 (n := 35) dX6_readLaw_32 rfl mo_X6_readNumber ml_X6_54 rfl (by decide) rfl rfl (Nat.le_of_ble_eq_true rfl) (Nat.le_of_ble_eq_true rfl) (c_X6_readNumber hT _ _ (fun v a2 hr hw ha g2 hf hT2 => ?_) (fun w hr g2 hf hE => ?_))
      · dsimp only [m_push]
        refine s_istore (n := 37) dX6_readLaw_35 rfl (by decide) rfl rfl ?_
        refine s_aload_n (n := 38) dX6_readLaw_37 rfl rfl rfl ?_
        refine s_iload_n (n := 39) dX6_readLaw_38 rfl rfl rfl ?_
        refine s_iload (n := 41) dX6_readLaw_39 rfl rfl ?_
        refine s_cv2 (n := 44) dX6_readLaw_41 rfl mo_X1_putLaw ml_X6_58 rfl (by decide) rfl rfl (Nat.le_of_ble_eq_true rfl) (Nat.le_of_ble_eq_true rfl) (c_X1_putLaw hb38 k hk6 _ ?_)
        have hT3 : CT (m_up g2 38 (3 + k) v) L f a2 := hT2.fr (m_fr.up (S := [38]) (by decide)) (by decide) (by decide)
        dsimp only [m_push]
        refine s_iload (n := 46) dX6_readLaw_44 rfl rfl ?_
        refine s_if_lt (n := 49) (t := 77) dX6_readLaw_46 (by decide) rfl (fun h46 => ?_) (fun h46 => ?_)
        · exact absurd h46 (fun q => hw.1 (by have h0 := lwL_p k hk6; rw [i32_lt] at *; have := ti0; omega))
        · refine s_aload_n (n := 50) dX6_readLaw_49 rfl rfl rfl ?_
          refine s_iload_n (n := 51) dX6_readLaw_50 rfl rfl rfl ?_
          refine s_getstatic (k := 202) (n := 54) dX6_readLaw_51 rfl (List.mem_of_getElem? (i := 1) rfl) fs_X6_48 ?_
          refine s_tlen (n := 55) dX6_readLaw_54 rfl (List.mem_of_getElem? (i := 2) rfl) rfl ?_
          refine s_iconst (v := 1) (n := 56) dX6_readLaw_55 rfl (by decide) ?_
          refine s_isub (n := 57) dX6_readLaw_56 rfl ?_
          refine s_icmp_ge (n := 60) (t := 65) dX6_readLaw_57 (by decide) rfl (fun h57 => ?_) (fun h57 => ?_)
          · have hk5 : ¬ k < 5 := fun q => absurd h57 (by rw [show (nI 6 - 1 : Int32) = nI 5 from rfl]; exact nI_ge q (by decide))
            refine s_bipush (v := 59) (n := 67) dX6_readLaw_65 rfl (by decide) ?_
            refine s_cv1 (n := 70) dX6_readLaw_67 rfl mo_X6_readSign ml_X6_44 rfl (by decide) rfl rfl (Nat.le_of_ble_eq_true rfl) (Nat.le_of_ble_eq_true rfl) (c_X6_readSign hT3 59 (by decide) (fun hb67 => ?_) (fun hb67 => ?_))
            · dsimp only [m_push]
              intro g3 hf3 hT3
              refine s_if_eq (n := 73) (t := 77) dX6_readLaw_70 (by decide) rfl (fun h => absurd h (by decide)) (fun _ => ?_)
              refine s_iconst (v := 1) (n := 74) dX6_readLaw_73 rfl (by decide) ?_
              refine s_goto (t := 78) dX6_readLaw_74 (by decide) ?_
              refine s_istore_n (n := 79) dX6_readLaw_78 rfl rfl (by decide) rfl rfl ?_
              refine s_iinc (n := 82) (v := nI (k + 1)) dX6_readLaw_79 rfl (by decide) rfl rfl (nI_1 k) rfl ?_
              refine s_goto (t := 9) dX6_readLaw_82 (by decide) ?_
              have e : rlK L f (n + 1) k at_ t = rlK L f n (k + 1) (a2 + 1) (upd t (lwP k) v) := by
                conv => lhs; unfold rlK
                rw [hr]
                dsimp only
                rw [if_neg hk5, hb67]
              rw [e] at k1 k0
              have hg38 : g3 38 = m_up g2 38 (3 + k) v 38 := hf3 38 (by decide)
              have hfr : m_fr [18, 38] g g3 := ((hf.mono (by decide)).up2 (by decide)).tr (hf3.mono (by decide))
              have hk38 : ∀ j, j = 2 ∨ 9 ≤ j → g3 38 j = g 38 j := fun j hj => by rw [hg38, m_up_k, if_neg (by omega), hf 38 (by decide)]
              refine ih (k + 1) g3 _ (a2 + 1) _ (by omega) hT3 (fun j hj => ?_) (hKS.c (hfr.FC (by decide))) (fun p hp g4 hf4 hk4 hT4 hW4 => k1 p hp g4 (hfr.tr hf4) (fun j hj => (hk4 j hj).trans (hk38 j hj)) hT4 hW4) (fun e2 he g4 hf4 hE4 => k0 e2 he g4 (hfr.tr hf4) hE4)
              rw [hg38, m_up_k]
              by_cases ej : j = k
              · subst ej; rw [if_pos rfl, upd_eq]
              · rw [if_neg (by omega), hf 38 (by decide), upd_ne (fun z => ej (lwP_i k hk6 j (by omega) z))]
                exact hW j (by omega)
            · dsimp only [m_push]
              intro g3 hf3 hE3
              refine s_if_eq (n := 73) (t := 77) dX6_readLaw_70 (by decide) rfl (fun _ => ?_) (fun h => absurd h (by decide))
              refine s_iconst (v := 0) (n := 78) dX6_readLaw_77 rfl (by decide) ?_
              refine s_istore_n (n := 79) dX6_readLaw_78 rfl rfl (by decide) rfl rfl ?_
              refine s_iinc (n := 82) (v := nI (k + 1)) dX6_readLaw_79 rfl (by decide) rfl rfl (nI_1 k) rfl ?_
              refine s_goto (t := 9) dX6_readLaw_82 (by decide) ?_
              refine lp_X6_readLaw0 (k0 (1, a2) ?_ _ (((hf.mono (by decide)).up2 (by decide)).tr (hf3.mono (by decide))) hE3)
              unfold rlK
              rw [hr]
              dsimp only
              rw [if_neg hk5, hb67]
          · have hk5 : k < 5 := by
              rcases Nat.lt_or_ge k 5 with z | z
              · exact z
              · exact absurd (by rw [show (nI 6 - 1 : Int32) = nI 5 from rfl]; exact nI_le z (by omega)) h57
            refine s_bipush (v := 44) (n := 62) dX6_readLaw_60 rfl (by decide) ?_
            refine s_goto (t := 67) dX6_readLaw_62 (by decide) ?_
            refine s_cv1 (n := 70) dX6_readLaw_67 rfl mo_X6_readSign ml_X6_44 rfl (by decide) rfl rfl (Nat.le_of_ble_eq_true rfl) (Nat.le_of_ble_eq_true rfl) (c_X6_readSign hT3 44 (by decide) (fun hb67 => ?_) (fun hb67 => ?_))
            · dsimp only [m_push]
              intro g3 hf3 hT3
              refine s_if_eq (n := 73) (t := 77) dX6_readLaw_70 (by decide) rfl (fun h => absurd h (by decide)) (fun _ => ?_)
              refine s_iconst (v := 1) (n := 74) dX6_readLaw_73 rfl (by decide) ?_
              refine s_goto (t := 78) dX6_readLaw_74 (by decide) ?_
              refine s_istore_n (n := 79) dX6_readLaw_78 rfl rfl (by decide) rfl rfl ?_
              refine s_iinc (n := 82) (v := nI (k + 1)) dX6_readLaw_79 rfl (by decide) rfl rfl (nI_1 k) rfl ?_
              refine s_goto (t := 9) dX6_readLaw_82 (by decide) ?_
              have e : rlK L f (n + 1) k at_ t = rlK L f n (k + 1) (a2 + 1) (upd t (lwP k) v) := by
                conv => lhs; unfold rlK
                rw [hr]
                dsimp only
                rw [if_pos hk5, hb67]
              rw [e] at k1 k0
              have hg38 : g3 38 = m_up g2 38 (3 + k) v 38 := hf3 38 (by decide)
              have hfr : m_fr [18, 38] g g3 := ((hf.mono (by decide)).up2 (by decide)).tr (hf3.mono (by decide))
              have hk38 : ∀ j, j = 2 ∨ 9 ≤ j → g3 38 j = g 38 j := fun j hj => by rw [hg38, m_up_k, if_neg (by omega), hf 38 (by decide)]
              refine ih (k + 1) g3 _ (a2 + 1) _ (by omega) hT3 (fun j hj => ?_) (hKS.c (hfr.FC (by decide))) (fun p hp g4 hf4 hk4 hT4 hW4 => k1 p hp g4 (hfr.tr hf4) (fun j hj => (hk4 j hj).trans (hk38 j hj)) hT4 hW4) (fun e2 he g4 hf4 hE4 => k0 e2 he g4 (hfr.tr hf4) hE4)
              rw [hg38, m_up_k]
              by_cases ej : j = k
              · subst ej; rw [if_pos rfl, upd_eq]
              · rw [if_neg (by omega), hf 38 (by decide), upd_ne (fun z => ej (lwP_i k hk6 j (by omega) z))]
                exact hW j (by omega)
            · dsimp only [m_push]
              intro g3 hf3 hE3
              refine s_if_eq (n := 73) (t := 77) dX6_readLaw_70 (by decide) rfl (fun _ => ?_) (fun h => absurd h (by decide))
              refine s_iconst (v := 0) (n := 78) dX6_readLaw_77 rfl (by decide) ?_
              refine s_istore_n (n := 79) dX6_readLaw_78 rfl rfl (by decide) rfl rfl ?_
              refine s_iinc (n := 82) (v := nI (k + 1)) dX6_readLaw_79 rfl (by decide) rfl rfl (nI_1 k) rfl ?_
              refine s_goto (t := 9) dX6_readLaw_82 (by decide) ?_
              refine lp_X6_readLaw0 (k0 (1, a2) ?_ _ (((hf.mono (by decide)).up2 (by decide)).tr (hf3.mono (by decide))) hE3)
              unfold rlK
              rw [hr]
              dsimp only
              rw [if_pos hk5, hb67]
      · dsimp only [m_push]
        refine s_istore (n := 37) dX6_readLaw_35 rfl (by decide) rfl rfl ?_
        refine s_aload_n (n := 38) dX6_readLaw_37 rfl rfl rfl ?_
        refine s_iload_n (n := 39) dX6_readLaw_38 rfl rfl rfl ?_
        refine s_iload (n := 41) dX6_readLaw_39 rfl rfl ?_
        refine s_cv2 (n := 44) dX6_readLaw_41 rfl mo_X1_putLaw ml_X6_58 rfl (by decide) rfl rfl (Nat.le_of_ble_eq_true rfl) (Nat.le_of_ble_eq_true rfl) (c_X1_putLaw hb38 k hk6 _ ?_)
        dsimp only [m_push]
        refine s_iload (n := 46) dX6_readLaw_44 rfl rfl ?_
        refine s_if_lt (n := 49) (t := 77) dX6_readLaw_46 (by decide) rfl (fun _ => ?_) (fun h => absurd h (by decide))
        refine s_iconst (v := 0) (n := 78) dX6_readLaw_77 rfl (by decide) ?_
        refine s_istore_n (n := 79) dX6_readLaw_78 rfl rfl (by decide) rfl rfl ?_
        refine s_iinc (n := 82) (v := nI (k + 1)) dX6_readLaw_79 rfl (by decide) rfl rfl (nI_1 k) rfl ?_
        refine s_goto (t := 9) dX6_readLaw_82 (by decide) ?_
        refine lp_X6_readLaw0 (k0 (w, at_) ?_ _ ((hf.mono (by decide)).up2 (by decide)) ?_)
        · unfold rlK; rw [hr]
        · unfold CF; rw [m_up_o (by decide)]; exact hE
theorem c_X6_readLaw {SL : Nat} {d : Nat} {Q : Option Int32 → m_G → Prop} {g : m_G} {L : Nat} {f : Nat → Int32} (hT : CT g L f 0) (hKS : K_S g) (k1 : ∀ p, rdW L f = .inr p → ∀ g2, m_fr [18, 38] g g2 → (∀ j, j = 2 ∨ 9 ≤ j → g2 38 j = g 38 j) → CT g2 L f p.1 → (∀ j, j < 6 → g2 38 (3 + j) = p.2 (lwP j)) → Q (some 1) g2) (k0 : ∀ e, rdW L f = .inl e → ∀ g2, m_fr [18, 38] g g2 → CF g2 e → Q (some 0) g2) : Sim SL (d + 3) yX6_readLaw cX6_readLaw 5 (some .boolean) 0 [.ref 18, .ref 38, .null, .null, .null] [] g Q := by
  refine s_aload_n (n := 1) dX6_readLaw_0 rfl rfl rfl ?_
  refine s_bipush (v := 99) (n := 3) dX6_readLaw_1 rfl (by decide) ?_
  refine s_cv1 (n := 6) dX6_readLaw_3 rfl mo_X6_readSign ml_X6_44 rfl (by decide) rfl rfl (Nat.le_of_ble_eq_true rfl) (Nat.le_of_ble_eq_true rfl) (c_X6_readSign hT 99 (by decide) (fun hb3 => ?_) (fun hb3 => ?_))
  · dsimp only [m_push]
    intro g2 hf hT2
    refine s_istore_n (n := 7) dX6_readLaw_6 rfl rfl (by decide) rfl rfl ?_
    refine s_iconst (v := 0) (n := 8) dX6_readLaw_7 rfl (by decide) ?_
    refine s_istore_n (n := 9) dX6_readLaw_8 rfl rfl (by decide) rfl rfl ?_
    refine lp_X6_readLaw 6 0 g2 _ 1 (fun _ => 0) rfl hT2 (fun j hj => by omega) (hKS.c (hf.FC (by decide))) (fun p hp g3 hf3 hk3 hT3 hW3 => k1 p ?_ g3 ((hf.mono (by decide)).tr hf3) (fun j hj => by rw [hk3 j hj, hf 38 (by decide)]) hT3 hW3) (fun e he g3 hf3 hE3 => k0 e ?_ g3 ((hf.mono (by decide)).tr hf3) hE3)
    · unfold rdW; rw [hb3]; exact hp
    · unfold rdW; rw [hb3]; exact he
  · dsimp only [m_push]
    intro g2 hf hE
    refine s_istore_n (n := 7) dX6_readLaw_6 rfl rfl (by decide) rfl rfl ?_
    refine s_iconst (v := 0) (n := 8) dX6_readLaw_7 rfl (by decide) ?_
    refine s_istore_n (n := 9) dX6_readLaw_8 rfl rfl (by decide) rfl rfl ?_
    refine lp_X6_readLaw0 (k := 0) (k0 (1, 0) ?_ g2 (hf.mono (by decide)) hE)
    unfold rdW; rw [hb3]
set_option maxHeartbeats 2000000 in
theorem c_X6_readHouse {SL : Nat} {d : Nat} {Q : Option Int32 → m_G → Prop} {g : m_G} {L : Nat} {f : Nat → Int32} {at_ : Nat} {t : m_T} (hT : CT g L f at_) (hlt : at_ < L) (hR : TW g 38 (opT t)) (hO : rOK t) (k1 : ∀ p, rdH L f at_ t = .inr p → ∀ g2, m_fr rdFr g g2 → CT g2 L f p.1 → TW g2 38 (opT p.2) → Q (some 1) g2) (k0 : ∀ e, rdH L f at_ t = .inl e → ∀ g2, m_fr rdFr g g2 → CF g2 e → Q (some 0) g2) : Sim SL (d + 3) yX6_readHouse cX6_readHouse 7 (some .boolean) 0 [.ref 18, .ref 38, .null, .null, .null, .null, .null] [] g Q := by
  have hcn := a_cnE hO.1.2.1
  refine s_aload_n (n := 1) dX6_readHouse_0 rfl rfl rfl ?_
  refine s_aload_n (n := 2) dX6_readHouse_1 rfl rfl rfl ?_
  refine s_geti (n := 5) dX6_readHouse_2 rfl fl_X6_19 rfl rfl ?_
  refine s_cv1 (n := 8) dX6_readHouse_5 rfl mo_X6_peek ml_X6_62 rfl (by decide) rfl rfl (Nat.le_of_ble_eq_true rfl) (Nat.le_of_ble_eq_true rfl) (c_X6_peek hT at_ (by have := hT.2.2.1; omega) hT.2.1 ?_)
  dsimp only [m_push]
  refine s_cs1 (n := 11) dX6_readHouse_8 rfl mo_X6_kindOf ml_X6_66 rfl (Nat.le_of_ble_eq_true rfl) (Nat.le_of_ble_eq_true rfl) (c_X6_kindOf _ ?_)
  dsimp only [m_push]
  refine s_istore_n (n := 12) dX6_readHouse_11 rfl rfl (by decide) rfl rfl ?_
  refine s_iload_n (n := 13) dX6_readHouse_12 rfl rfl rfl ?_
  refine s_if_ne (n := 16) (t := 26) dX6_readHouse_13 (by decide) rfl (fun h13 => ?_) (fun h13 => ?_)
  · refine s_aload_n (n := 27) dX6_readHouse_26 rfl rfl rfl ?_
    refine s_geti (n := 30) dX6_readHouse_27 rfl fl_X6_73 rfl rfl ?_
    rw [hR.1.2.1, opT_ne (by decide), hcn.1]
    refine s_bipush (v := 6) (n := 32) dX6_readHouse_30 rfl (by decide) ?_
    refine s_icmp_lt (n := 35) (t := 45) dX6_readHouse_32 (by decide) rfl (fun h32 => ?_) (fun h32 => ?_)
    · have hc6b : a_cn t < 6 := by
        rcases Nat.lt_or_ge (a_cn t) 6 with z | z
        · exact z
        · exact absurd h32 (nI_nlt z (by omega))
      have hc6 : ¬ a_cn t = 6 := by omega
      have hk0 := h13
      refine s_aload_n (n := 46) dX6_readHouse_45 rfl rfl rfl ?_
      refine s_dup (n := 47) dX6_readHouse_46 rfl rfl ?_
      refine s_geti (n := 50) dX6_readHouse_47 rfl fl_X6_19 rfl rfl ?_
      refine s_iconst (v := 1) (n := 51) dX6_readHouse_50 rfl (by decide) ?_
      refine s_iadd (n := 52) dX6_readHouse_51 rfl ?_
      rw [hT.2.1, nI_1]
      refine s_puti (n := 55) dX6_readHouse_52 rfl fl_X6_19 rfl rfl rfl ?_
      have hF0 : m_fr rdFr g (m_up g 18 2 (nI (at_ + 1))) := m_fr.up (by decide)
      have hT0 := hT.to (show at_ + 1 ≤ L by omega)
      refine s_aload_n (n := 56) dX6_readHouse_55 rfl rfl rfl ?_
      refine s_iconst (v := 1) (n := 57) dX6_readHouse_56 rfl (by decide) ?_
      refine s_aload_n (n := 58) dX6_readHouse_57 rfl rfl rfl ?_
      refine s_geti (n := 61) dX6_readHouse_58 rfl fl_X6_76 rfl rfl ?_
      rw [show (m_up g 18 2 (nI (at_ + 1))) 38 3 = t 0 by rw [m_up_o (by decide), hR.1.1, opT_ne (by decide)]]
      refine s_cv2 (n := 64) dX6_readHouse_61 rfl mo_X6_readNumber ml_X6_54 rfl (by decide) rfl rfl (Nat.le_of_ble_eq_true rfl) (Nat.le_of_ble_eq_true rfl) (c_X6_readNumber hT0 1 (t 0) (fun v1 a1 e1 hw1 ha1 g1 hf1 hT1 => ?_) (fun w1 e1 g1 hf1 hE1 => ?_))
      · dsimp only [m_push]
        refine s_istore_n (n := 65) dX6_readHouse_64 rfl rfl (by decide) rfl rfl ?_
        refine s_iload_n (n := 66) dX6_readHouse_65 rfl rfl rfl ?_
        refine s_if_lt (n := 69) (t := 78) dX6_readHouse_66 (by decide) rfl (fun h66 => ?_) (fun h66 => ?_)
        · exact absurd h66 (fun q => hw1.1 (by rw [i32_lt] at *; have := ti0; have := ti1; omega))
        · refine s_aload_n (n := 70) dX6_readHouse_69 rfl rfl rfl ?_
          refine s_bipush (v := 44) (n := 72) dX6_readHouse_70 rfl (by decide) ?_
          refine s_cv1 (n := 75) dX6_readHouse_72 rfl mo_X6_readSign ml_X6_44 rfl (by decide) rfl rfl (Nat.le_of_ble_eq_true rfl) (Nat.le_of_ble_eq_true rfl) (c_X6_readSign hT1 44 (by decide) (fun e2 g2 hf2 hT2 => ?_) (fun e2 g2 hf2 hE2 => ?_))
          · dsimp only [m_push]
            refine s_if_ne (n := 78) (t := 80) dX6_readHouse_75 (by decide) rfl (fun _ => ?_) (fun h => absurd h (by decide))
            refine s_aload_n (n := 81) dX6_readHouse_80 rfl rfl rfl ?_
            refine s_geti (n := 84) dX6_readHouse_81 rfl fl_X6_19 rfl rfl ?_
            rw [hT2.2.1]
            refine s_istore (n := 86) dX6_readHouse_84 rfl (by decide) rfl rfl ?_
            refine s_aload_n (n := 87) dX6_readHouse_86 rfl rfl rfl ?_
            refine s_iconst (v := 0) (n := 88) dX6_readHouse_87 rfl (by decide) ?_
            refine s_bipush (v := 6) (n := 90) dX6_readHouse_88 rfl (by decide) ?_
            refine s_cv2 (n := 93) dX6_readHouse_90 rfl mo_X6_readNumber ml_X6_54 rfl (by decide) rfl rfl (Nat.le_of_ble_eq_true rfl) (Nat.le_of_ble_eq_true rfl) (c_X6_readNumber hT2 0 6 (fun v3 a3 e3 hw3 ha3 g3 hf3 hT3 => ?_) (fun w3 e3 g3 hf3 hE3 => ?_))
            · dsimp only [m_push]
              have e338 : g3 38 = g 38 := by rw [hf3 38 (by decide), hf2 38 (by decide), hf1 38 (by decide), m_up_o (by decide)]
              have e342 : ∀ i, i < 6 → g3 (42 + i) = g (42 + i) := fun i hi => by rw [hf3 _ (by simp; omega), hf2 _ (by simp; omega), hf1 _ (by simp; omega), m_up_o (by omega)]
              refine s_istore (n := 95) dX6_readHouse_93 rfl (by decide) rfl rfl ?_
              refine s_iload (n := 97) dX6_readHouse_95 rfl rfl ?_
              refine s_if_ge (n := 100) (t := 102) dX6_readHouse_97 (by decide) rfl (fun h97 => ?_) (fun h97 => ?_)
              · refine s_aload_n (n := 103) dX6_readHouse_102 rfl rfl rfl ?_
                refine s_iload_n (n := 104) dX6_readHouse_103 rfl rfl rfl ?_
                refine s_iload (n := 106) dX6_readHouse_104 rfl rfl ?_
                refine s_cv2 (n := 109) dX6_readHouse_106 rfl mo_X1_standing ml_X6_79 rfl (by decide) rfl rfl (Nat.le_of_ble_eq_true rfl) (Nat.le_of_ble_eq_true rfl) (c_X1_standing hb38 (t := opT t) (hR.kept e338 (fun i hi => by rw [show 38 + 4 + i = 42 + i by omega]; exact e342 i hi)) (by rw [opT_ne (by decide)]; exact hO.1.t1) _ _ ?_)
                rw [sAt_8]
                dsimp only [m_push]
                refine s_if_lt (n := 112) (t := 120) dX6_readHouse_109 (by decide) rfl (fun h109 => ?_) (fun h109 => ?_)
                · have hs : sAt t v1 v3 = none := (eC_neg sAt6).mp h109
                  refine s_aload_n (n := 121) dX6_readHouse_120 rfl rfl rfl ?_
                  refine s_bipush (v := 44) (n := 123) dX6_readHouse_121 rfl (by decide) ?_
                  refine s_cv1 (n := 126) dX6_readHouse_123 rfl mo_X6_readSign ml_X6_44 rfl (by decide) rfl rfl (Nat.le_of_ble_eq_true rfl) (Nat.le_of_ble_eq_true rfl) (c_X6_readSign hT3 44 (by decide) (fun e4 g4 hf4 hT4 => ?_) (fun e4 g4 hf4 hE4 => ?_))
                  · dsimp only [m_push]
                    refine s_if_ne (n := 129) (t := 131) dX6_readHouse_126 (by decide) rfl (fun _ => ?_) (fun h => absurd h (by decide))
                    refine s_aload_n (n := 132) dX6_readHouse_131 rfl rfl rfl ?_
                    refine s_iconst (v := 0) (n := 133) dX6_readHouse_132 rfl (by decide) ?_
                    refine s_iconst (v := 1) (n := 134) dX6_readHouse_133 rfl (by decide) ?_
                    refine s_cv2 (n := 137) dX6_readHouse_134 rfl mo_X6_readNumber ml_X6_54 rfl (by decide) rfl rfl (Nat.le_of_ble_eq_true rfl) (Nat.le_of_ble_eq_true rfl) (c_X6_readNumber hT4 0 1 (fun v5 a5 e5 hw5 ha5 g5 hf5 hT5 => ?_) (fun w5 e5 g5 hf5 hE5 => ?_))
                    · dsimp only [m_push]
                      refine s_istore (n := 139) dX6_readHouse_137 rfl (by decide) rfl rfl ?_
                      refine s_iload (n := 141) dX6_readHouse_139 rfl rfl ?_
                      refine s_if_lt (n := 144) (t := 153) dX6_readHouse_141 (by decide) rfl (fun h141 => ?_) (fun h141 => ?_)
                      · exact absurd h141 hw5.1
                      · refine s_aload_n (n := 145) dX6_readHouse_144 rfl rfl rfl ?_
                        refine s_bipush (v := 59) (n := 147) dX6_readHouse_145 rfl (by decide) ?_
                        refine s_cv1 (n := 150) dX6_readHouse_147 rfl mo_X6_readSign ml_X6_44 rfl (by decide) rfl rfl (Nat.le_of_ble_eq_true rfl) (Nat.le_of_ble_eq_true rfl) (c_X6_readSign hT5 59 (by decide) (fun e6 g6 hf6 hT6 => ?_) (fun e6 g6 hf6 hE6 => ?_))
                        · dsimp only [m_push]
                          have e638 : g6 38 = g 38 := by rw [hf6 38 (by decide), hf5 38 (by decide), hf4 38 (by decide), hf3 38 (by decide), hf2 38 (by decide), hf1 38 (by decide), m_up_o (by decide)]
                          have e642 : ∀ i, i < 6 → g6 (42 + i) = g (42 + i) := fun i hi => by rw [hf6 _ (by simp; omega), hf5 _ (by simp; omega), hf4 _ (by simp; omega), hf3 _ (by simp; omega), hf2 _ (by simp; omega), hf1 _ (by simp; omega), m_up_o (by omega)]
                          refine s_if_ne (n := 153) (t := 155) dX6_readHouse_150 (by decide) rfl (fun _ => ?_) (fun h => absurd h (by decide))
                          refine s_aload_n (n := 156) dX6_readHouse_155 rfl rfl rfl ?_
                          refine s_iload_n (n := 157) dX6_readHouse_156 rfl rfl rfl ?_
                          refine s_iload_n (n := 158) dX6_readHouse_157 rfl rfl rfl ?_
                          refine s_iload (n := 160) dX6_readHouse_158 rfl rfl ?_
                          refine s_iload (n := 162) dX6_readHouse_160 rfl rfl ?_
                          refine s_cv4 (n := 165) dX6_readHouse_162 rfl mo_X1_addHouse ml_X6_82 rfl (by decide) rfl rfl (Nat.le_of_ble_eq_true rfl) (Nat.le_of_ble_eq_true rfl) (c_X1_addHouse (hR.kept e638 (fun i hi => by rw [show 38 + 4 + i = 42 + i by omega]; exact e642 i hi)) hO rfl hc6b _ _ _ _ (fun g7 hf7 h718 hR7 => ?_))
                          dsimp only [m_push]
                          refine s_iconst (v := 1) (n := 166) dX6_readHouse_165 rfl (by decide) ?_
                          refine s_ireturn dX6_readHouse_166 rfl (by decide +kernel) ?_
                          exact k1 (a5 + 1, addH t (kOf (pkB L f at_)) v1 v3 v5) (by unfold rdH; rw [if_neg hk0, if_neg hc6]; rw [e1]; dsimp only; rw [e2]; dsimp only; rw [e3]; dsimp only; rw [if_pos hs]; rw [e4]; dsimp only; rw [e5]; dsimp only; rw [e6]) g7 (((((((hF0.tr (hf1.mono (by decide))).tr (hf2.mono (by decide))).tr (hf3.mono (by decide))).tr (hf4.mono (by decide))).tr (hf5.mono (by decide))).tr (hf6.mono (by decide))).tr hf7) (by unfold CT; rw [h718, hf7 19 (by decide)]; exact hT6) hR7
                        · dsimp only [m_push]
                          refine s_if_ne (n := 153) (t := 155) dX6_readHouse_150 (by decide) rfl (fun h => absurd h (by decide)) (fun _ => ?_)
                          refine s_iconst (v := 0) (n := 154) dX6_readHouse_153 rfl (by decide) ?_
                          refine s_ireturn dX6_readHouse_154 rfl (by decide +kernel) ?_
                          exact k0 _ (by unfold rdH; rw [if_neg hk0, if_neg hc6]; rw [e1]; dsimp only; rw [e2]; dsimp only; rw [e3]; dsimp only; rw [if_pos hs]; rw [e4]; dsimp only; rw [e5]; dsimp only; rw [e6]) g6 ((((((hF0.tr (hf1.mono (by decide))).tr (hf2.mono (by decide))).tr (hf3.mono (by decide))).tr (hf4.mono (by decide))).tr (hf5.mono (by decide))).tr (hf6.mono (by decide))) hE6
                    · dsimp only [m_push]
                      refine s_istore (n := 139) dX6_readHouse_137 rfl (by decide) rfl rfl ?_
                      refine s_iload (n := 141) dX6_readHouse_139 rfl rfl ?_
                      refine s_if_lt (n := 144) (t := 153) dX6_readHouse_141 (by decide) rfl (fun _ => ?_) (fun h => absurd h (by decide))
                      refine s_iconst (v := 0) (n := 154) dX6_readHouse_153 rfl (by decide) ?_
                      refine s_ireturn dX6_readHouse_154 rfl (by decide +kernel) ?_
                      exact k0 _ (by unfold rdH; rw [if_neg hk0, if_neg hc6]; rw [e1]; dsimp only; rw [e2]; dsimp only; rw [e3]; dsimp only; rw [if_pos hs]; rw [e4]; dsimp only; rw [e5]) g5 (((((hF0.tr (hf1.mono (by decide))).tr (hf2.mono (by decide))).tr (hf3.mono (by decide))).tr (hf4.mono (by decide))).tr (hf5.mono (by decide))) hE5
                  · dsimp only [m_push]
                    refine s_if_ne (n := 129) (t := 131) dX6_readHouse_126 (by decide) rfl (fun h => absurd h (by decide)) (fun _ => ?_)
                    refine s_iconst (v := 0) (n := 130) dX6_readHouse_129 rfl (by decide) ?_
                    refine s_ireturn dX6_readHouse_130 rfl (by decide +kernel) ?_
                    exact k0 _ (by unfold rdH; rw [if_neg hk0, if_neg hc6]; rw [e1]; dsimp only; rw [e2]; dsimp only; rw [e3]; dsimp only; rw [if_pos hs]; rw [e4]) g4 ((((hF0.tr (hf1.mono (by decide))).tr (hf2.mono (by decide))).tr (hf3.mono (by decide))).tr (hf4.mono (by decide))) hE4
                · have hs : ¬ sAt t v1 v3 = none := fun q => h109 ((eC_neg sAt6).mpr q)
                  refine s_aload_n (n := 113) dX6_readHouse_112 rfl rfl rfl ?_
                  refine s_iconst (v := 2) (n := 114) dX6_readHouse_113 rfl (by decide) ?_
                  refine s_iload (n := 116) dX6_readHouse_114 rfl rfl ?_
                  refine s_cv2 (n := 119) dX6_readHouse_116 rfl mo_X6_fail ml_X6_69 rfl (by decide) rfl rfl (Nat.le_of_ble_eq_true rfl) (Nat.le_of_ble_eq_true rfl) (c_X6_fail _ _ ?_)
                  dsimp only [m_push]
                  refine s_ireturn dX6_readHouse_119 rfl (by decide +kernel) ?_
                  exact k0 (2, _) (by unfold rdH; rw [if_neg hk0, if_neg hc6]; rw [e1]; dsimp only; rw [e2]; dsimp only; rw [e3]; dsimp only; rw [if_neg hs]) _ (((((hF0.tr (hf1.mono (by decide))).tr (hf2.mono (by decide))).tr (hf3.mono (by decide))).up2 (by decide)).up2 (by decide)) CF.mk'
              · exact absurd (Int32.not_lt.mp hw3.1) h97
            · dsimp only [m_push]
              refine s_istore (n := 95) dX6_readHouse_93 rfl (by decide) rfl rfl ?_
              refine s_iload (n := 97) dX6_readHouse_95 rfl rfl ?_
              refine s_if_ge (n := 100) (t := 102) dX6_readHouse_97 (by decide) rfl (fun h => absurd h (by decide)) (fun _ => ?_)
              refine s_iconst (v := 0) (n := 101) dX6_readHouse_100 rfl (by decide) ?_
              refine s_ireturn dX6_readHouse_101 rfl (by decide +kernel) ?_
              exact k0 _ (by unfold rdH; rw [if_neg hk0, if_neg hc6]; rw [e1]; dsimp only; rw [e2]; dsimp only; rw [e3]) g3 (((hF0.tr (hf1.mono (by decide))).tr (hf2.mono (by decide))).tr (hf3.mono (by decide))) hE3
          · dsimp only [m_push]
            refine s_if_ne (n := 78) (t := 80) dX6_readHouse_75 (by decide) rfl (fun h => absurd h (by decide)) (fun _ => ?_)
            refine s_iconst (v := 0) (n := 79) dX6_readHouse_78 rfl (by decide) ?_
            refine s_ireturn dX6_readHouse_79 rfl (by decide +kernel) ?_
            exact k0 _ (by unfold rdH; rw [if_neg hk0, if_neg hc6]; rw [e1]; dsimp only; rw [e2]) g2 ((hF0.tr (hf1.mono (by decide))).tr (hf2.mono (by decide))) hE2
      · dsimp only [m_push]
        refine s_istore_n (n := 65) dX6_readHouse_64 rfl rfl (by decide) rfl rfl ?_
        refine s_iload_n (n := 66) dX6_readHouse_65 rfl rfl rfl ?_
        refine s_if_lt (n := 69) (t := 78) dX6_readHouse_66 (by decide) rfl (fun _ => ?_) (fun h => absurd h (by decide))
        refine s_iconst (v := 0) (n := 79) dX6_readHouse_78 rfl (by decide) ?_
        refine s_ireturn dX6_readHouse_79 rfl (by decide +kernel) ?_
        exact k0 _ (by unfold rdH; rw [if_neg hk0, if_neg hc6]; rw [e1]) g1 (hF0.tr (hf1.mono (by decide))) hE1
    · refine s_aload_n (n := 36) dX6_readHouse_35 rfl rfl rfl ?_
      refine s_iconst (v := 3) (n := 37) dX6_readHouse_36 rfl (by decide) ?_
      refine s_aload_n (n := 38) dX6_readHouse_37 rfl rfl rfl ?_
      refine s_geti (n := 41) dX6_readHouse_38 rfl fl_X6_19 rfl rfl ?_
      rw [hT.2.1]
      refine s_cv2 (n := 44) dX6_readHouse_41 rfl mo_X6_fail ml_X6_69 rfl (by decide) rfl rfl (Nat.le_of_ble_eq_true rfl) (Nat.le_of_ble_eq_true rfl) (c_X6_fail _ _ ?_)
      dsimp only [m_push]
      refine s_ireturn dX6_readHouse_44 rfl (by decide +kernel) ?_
      have hc6 : a_cn t = 6 := by
        rcases Nat.lt_or_ge (a_cn t) 6 with z | z
        · exact absurd (nI_gt z (by decide)) h32
        · omega
      exact k0 (3, at_) (by unfold rdH; rw [if_neg h13, if_pos hc6]) _ ((m_fr.up (by decide)).up2 (by decide)) CF.mk'
  · refine s_aload_n (n := 17) dX6_readHouse_16 rfl rfl rfl ?_
    refine s_iconst (v := 1) (n := 18) dX6_readHouse_17 rfl (by decide) ?_
    refine s_aload_n (n := 19) dX6_readHouse_18 rfl rfl rfl ?_
    refine s_geti (n := 22) dX6_readHouse_19 rfl fl_X6_19 rfl rfl ?_
    rw [hT.2.1]
    refine s_cv2 (n := 25) dX6_readHouse_22 rfl mo_X6_fail ml_X6_69 rfl (by decide) rfl rfl (Nat.le_of_ble_eq_true rfl) (Nat.le_of_ble_eq_true rfl) (c_X6_fail _ _ ?_)
    dsimp only [m_push]
    refine s_ireturn dX6_readHouse_25 rfl (by decide +kernel) ?_
    exact k0 (1, at_) (by unfold rdH; rw [if_pos h13]) _ ((m_fr.up (by decide)).up2 (by decide)) CF.mk'
theorem lp_X6_readInto0 {SL d : Nat} {Q : Option Int32 → m_G → Prop} {g : m_G} {x : Int32} (hQ : Q (some 0) (m_up g 38 2 0)) : Sim SL (d + 4) yX6_readInto cX6_readInto 4 (some .boolean) 27 [.ref 18, .ref 38, .int 0, .int x] [] g Q := by
  refine s_iload_n (n := 28) dX6_readInto_27 rfl rfl rfl ?_
  refine s_bipush (v := 100) (n := 30) dX6_readInto_28 rfl (by decide) ?_
  refine s_icmp_ge (n := 33) (t := 60) dX6_readInto_30 (by decide) rfl (fun h30 => ?_) (fun h30 => ?_)
  · refine s_aload_n (n := 61) dX6_readInto_60 rfl rfl rfl ?_
    refine s_iload_n (n := 62) dX6_readInto_61 rfl rfl rfl ?_
    refine s_putz (n := 65) dX6_readInto_62 rfl fl_X6_40 rfl rfl (by decide) rfl ?_
    refine s_iload_n (n := 66) dX6_readInto_65 rfl rfl rfl ?_
    refine s_ireturn dX6_readInto_66 rfl (by decide +kernel) ?_
    exact hQ
  · refine s_iload_n (n := 34) dX6_readInto_33 rfl rfl rfl ?_
    refine s_if_eq (n := 37) (t := 60) dX6_readInto_34 (by decide) rfl (fun _ => ?_) (fun h => absurd h (by decide))
    refine s_aload_n (n := 61) dX6_readInto_60 rfl rfl rfl ?_
    refine s_iload_n (n := 62) dX6_readInto_61 rfl rfl rfl ?_
    refine s_putz (n := 65) dX6_readInto_62 rfl fl_X6_40 rfl rfl (by decide) rfl ?_
    refine s_iload_n (n := 66) dX6_readInto_65 rfl rfl rfl ?_
    refine s_ireturn dX6_readInto_66 rfl (by decide +kernel) ?_
    exact hQ
set_option maxHeartbeats 1000000 in
theorem lp_X6_readInto {SL d : Nat} {Q : Option Int32 → m_G → Prop} {L : Nat} {f : Nat → Int32} : ∀ (n k : Nat) (g : m_G) (at_ : Nat) (t : m_T), a_cn t + n = 7 → k = a_cn t → CT g L f at_ → TW g 38 (opT t) → rOK t → (∀ t2, rdHs L f n at_ t = .inr t2 → ∀ g2, m_fr rdFr g g2 → TW g2 38 (opT t2) → g2 38 2 = 1 → Q (some 1) g2) → (∀ e, rdHs L f n at_ t = .inl e → ∀ g2, m_fr rdFr g g2 → CF g2 e → Q (some 0) g2) → Sim SL (d + 4) yX6_readInto cX6_readInto 4 (some .boolean) 27 [.ref 18, .ref 38, .int 1, .int (nI k)] [] g Q := by
  intro n
  induction n with
  | zero =>
    intro k g at_ t hcn hk hT hR hO k1 k0
    have := (a_cnE hO.1.2.1).2
    omega
  | succ n ih =>
    intro k g at_ t hcn hk hT hR hO k1 k0
    have := (a_cnE hO.1.2.1).2
    refine s_iload_n (n := 28) dX6_readInto_27 rfl rfl rfl ?_
    refine s_bipush (v := 100) (n := 30) dX6_readInto_28 rfl (by decide) ?_
    refine s_icmp_ge (n := 33) (t := 60) dX6_readInto_30 (by decide) rfl (fun h30 => ?_) (fun h30 => ?_)
    · exact absurd h30 (nI_ge (show k < 100 by omega) (by decide))
    · refine s_iload_n (n := 34) dX6_readInto_33 rfl rfl rfl ?_
      refine s_if_eq (n := 37) (t := 60) dX6_readInto_34 (by decide) rfl (fun h => absurd h (by decide)) (fun _ => ?_)
      refine s_aload_n (n := 38) dX6_readInto_37 rfl rfl rfl ?_
      refine s_geti (n := 41) dX6_readInto_38 rfl fl_X6_19 rfl rfl ?_
      rw [hT.2.1]
      refine s_aload_n (n := 42) dX6_readInto_41 rfl rfl rfl ?_
      refine s_geti (n := 45) dX6_readInto_42 rfl fl_X6_15 rfl rfl ?_
      rw [hT.1]
      refine s_icmp_ge (n := 48) (t := 60) dX6_readInto_45 (by decide) rfl (fun h45 => ?_) (fun h45 => ?_)
      · have hge : ¬ at_ < L := by
          have := hT.2.2.1
          exact fun q => absurd h45 (nI_ge q (by omega))
        refine s_aload_n (n := 61) dX6_readInto_60 rfl rfl rfl ?_
        refine s_iload_n (n := 62) dX6_readInto_61 rfl rfl rfl ?_
        refine s_putz (n := 65) dX6_readInto_62 rfl fl_X6_40 rfl rfl (by decide) rfl ?_
        refine s_iload_n (n := 66) dX6_readInto_65 rfl rfl rfl ?_
        refine s_ireturn dX6_readInto_66 rfl (by decide +kernel) ?_
        exact k1 t (by unfold rdHs; rw [if_neg hge]) _ (m_fr.up (by decide)) (by
          obtain ⟨q0, q1⟩ := hR
          refine ⟨?_, fun i hi hc => ?_⟩
          · exact q0
          · rw [m_up_o (by omega)]; exact q1 i hi hc) (by rw [m_up_k, if_pos rfl])
      · have hlt : at_ < L := by
          have := hT.2.2.2.1
          have := hT.2.2.1
          rcases Nat.lt_or_ge at_ L with z | z
          · exact z
          · exact absurd (nI_le z (by omega)) h45
        refine s_aload_n (n := 49) dX6_readInto_48 rfl rfl rfl ?_
        refine s_aload_n (n := 50) dX6_readInto_49 rfl rfl rfl ?_
        refine s_cv1 (n := 53) dX6_readInto_50 rfl mo_X6_readHouse ml_X6_37 rfl (by decide) rfl rfl (Nat.le_of_ble_eq_true rfl) (Nat.le_of_ble_eq_true rfl) (c_X6_readHouse hT hlt hR hO (fun p hp g3 hf3 hT3 hR3 => ?_) (fun e he g3 hf3 hE3 => ?_))
        · dsimp only [m_push]
          refine s_istore_n (n := 54) dX6_readInto_53 rfl rfl (by decide) rfl rfl ?_
          refine s_iinc (n := 57) (v := nI (k + 1)) dX6_readInto_54 rfl (by decide) rfl rfl (nI_1 k) rfl ?_
          refine s_goto (t := 27) dX6_readInto_57 (by decide) ?_
          obtain ⟨hO2, hc2, hc6⟩ := rdH_ok hp hO
          have e : rdHs L f (n + 1) at_ t = rdHs L f n p.1 p.2 := by
            conv => lhs; unfold rdHs
            rw [if_pos hlt, hp]
          rw [e] at k1 k0
          exact ih (k + 1) g3 p.1 p.2 (by omega) (by omega) hT3 hR3 hO2 (fun t2 h2 g4 hf4 => k1 t2 h2 g4 (hf3.tr hf4)) (fun e2 h2 g4 hf4 => k0 e2 h2 g4 (hf3.tr hf4))
        · dsimp only [m_push]
          refine s_istore_n (n := 54) dX6_readInto_53 rfl rfl (by decide) rfl rfl ?_
          refine s_iinc (n := 57) (v := nI (k + 1)) dX6_readInto_54 rfl (by decide) rfl rfl (nI_1 k) rfl ?_
          refine s_goto (t := 27) dX6_readInto_57 (by decide) ?_
          have e2 : rdHs L f (n + 1) at_ t = .inl e := by
            unfold rdHs
            rw [if_pos hlt, he]
          exact lp_X6_readInto0 (k0 e e2 _ (hf3.up2 (by decide)) (by unfold CF; rw [m_up_o (by decide)]; exact hE3))
theorem c_X6_readInto {SL : Nat} {d : Nat} {Q : Option Int32 → m_G → Prop} {g : m_G} {L : Nat} {f : Nat → Int32} (h1 : g 18 1 = nI L) (hL : L ≤ 100) (hb : ∀ i, i < L → g 19 i = f i) (hKS : K_S g) (k1 : ∀ t, rdAll L f = .inr t → ∀ g2, m_fr rdFr g g2 → TW g2 38 (opT t) → g2 38 2 = 1 → Q (some 1) g2) (k0 : ∀ e, rdAll L f = .inl e → ∀ g2, m_fr rdFr g g2 → CF g2 e → Q (some 0) g2) : Sim SL (d + 4) yX6_readInto cX6_readInto 4 (some .boolean) 0 [.ref 18, .ref 38, .null, .null] [] g Q := by
  refine s_aload_n (n := 1) dX6_readInto_0 rfl rfl rfl ?_
  refine s_iconst (v := 0) (n := 2) dX6_readInto_1 rfl (by decide) ?_
  refine s_puti (n := 5) dX6_readInto_2 rfl fl_X6_19 rfl rfl rfl ?_
  refine s_aload_n (n := 6) dX6_readInto_5 rfl rfl rfl ?_
  refine s_iconst (v := 0) (n := 7) dX6_readInto_6 rfl (by decide) ?_
  refine s_puti (n := 10) dX6_readInto_7 rfl fl_X6_22 rfl rfl rfl ?_
  refine s_aload_n (n := 11) dX6_readInto_10 rfl rfl rfl ?_
  refine s_iconst (v := 0) (n := 12) dX6_readInto_11 rfl (by decide) ?_
  refine s_puti (n := 15) dX6_readInto_12 rfl fl_X6_25 rfl rfl rfl ?_
  refine s_aload_n (n := 16) dX6_readInto_15 rfl rfl rfl ?_
  refine s_cv0 (n := 19) dX6_readInto_16 rfl mo_X1_clear ml_X6_28 rfl (by decide) rfl rfl (Nat.le_of_ble_eq_true rfl) (Nat.le_of_ble_eq_true rfl) (c_X1_clear (fun g2 hf2 q9 q10 q11 => ?_))
  have hfr2 : m_fr rdFr g g2 := (((m_fr.up (by decide)).up2 (by decide)).up2 (by decide)).tr (hf2.mono (by decide))
  have hT2 : CT g2 L f 0 := by
    refine ⟨?_, ?_, hL, Nat.zero_le _, fun i hi => ?_⟩
    · rw [hf2 18 (by decide)]; simp only [m_up_k]; exact h1
    · rw [hf2 18 (by decide)]; simp only [m_up_k]; rfl
    · rw [hfr2 19 (by decide)]; exact hb i hi
  dsimp only [m_push]
  refine s_aload_n (n := 20) dX6_readInto_19 rfl rfl rfl ?_
  refine s_aload_n (n := 21) dX6_readInto_20 rfl rfl rfl ?_
  refine s_cv1 (n := 24) dX6_readInto_21 rfl mo_X6_readLaw ml_X6_33 rfl (by decide) rfl rfl (Nat.le_of_ble_eq_true rfl) (Nat.le_of_ble_eq_true rfl) (c_X6_readLaw hT2 (hKS.c (hfr2.FC (by decide))) (fun p hp g3 hf3 hk3 hT3 hW3 => ?_) (fun e he g3 hf3 hE3 => ?_))
  · dsimp only [m_push]
    refine s_istore_n (n := 25) dX6_readInto_24 rfl rfl (by decide) rfl rfl ?_
    refine s_iconst (v := 0) (n := 26) dX6_readInto_25 rfl (by decide) ?_
    refine s_istore_n (n := 27) dX6_readInto_26 rfl rfl (by decide) rfl rfl ?_
    obtain ⟨hO, hc0⟩ := rdW_ok hp
    have e10 : p.2 1 = 0 := by have := (a_cnE hO.1.2.1).1; rw [hc0] at this; exact this
    have hR3 : TW g3 38 (opT p.2) := by
      refine ⟨⟨?_, ?_, ?_, ?_, ?_, ?_, ?_, ?_, ?_⟩, fun i hi hc => ?_⟩
      · rw [opT_ne (by decide)]; exact hW3 0 (by decide)
      · rw [opT_ne (by decide), e10, hk3 10 (Or.inr (by decide))]; exact q10
      · rw [opT_ne (by decide)]; exact hW3 1 (by decide)
      · rw [opT_ne (by decide)]; exact hW3 2 (by decide)
      · rw [opT_ne (by decide)]; exact hW3 3 (by decide)
      · rw [opT_ne (by decide)]; exact hW3 4 (by decide)
      · rw [opT_ne (by decide)]; exact hW3 5 (by decide)
      · rw [opT_ne (by decide), hO.2.1, hk3 9 (Or.inr (by decide))]; exact q9
      · unfold opT; rw [upd_eq, hc0, hk3 11 (Or.inr (by decide))]; exact q11
      · rw [opT_ne (by decide), e10] at hc; exact absurd (nI_pos' (by omega)) hc
    have hfr3 : m_fr rdFr g g3 := hfr2.tr (hf3.mono (by decide))
    refine lp_X6_readInto 7 0 g3 p.1 p.2 (by omega) hc0.symm hT3 hR3 hO (fun t2 h2 g4 hf4 => k1 t2 ?_ g4 (hfr3.tr hf4)) (fun e2 h2 g4 hf4 => k0 e2 ?_ g4 (hfr3.tr hf4))
    · unfold rdAll; rw [hp]; exact h2
    · unfold rdAll; rw [hp]; exact h2
  · dsimp only [m_push]
    refine s_istore_n (n := 25) dX6_readInto_24 rfl rfl (by decide) rfl rfl ?_
    refine s_iconst (v := 0) (n := 26) dX6_readInto_25 rfl (by decide) ?_
    refine s_istore_n (n := 27) dX6_readInto_26 rfl rfl (by decide) rfl rfl ?_
    have hfr3 : m_fr rdFr g g3 := hfr2.tr (hf3.mono (by decide))
    refine lp_X6_readInto0 (k0 e ?_ _ (hfr3.up2 (by decide)) (by unfold CF; rw [m_up_o (by decide)]; exact hE3))
    unfold rdAll; rw [he]
theorem C_R.tape0 {g g2 : m_G} {a : a_S} (h : C_R g a) (hf : m_fr (0 :: 20 :: rdFr ++ m_hs 28) g g2) (h1 : g2 18 1 = 0) (h3 : g2 28 2 = a_b (a_hill a) ∧ TW g2 28 (a_T (a_hill a))) (h4 : g2 20 3 = g 20 3) (h6 : g2 0 8 = a_fault a ∧ g2 0 9 = a_find a) : C_R g2 (u_tape a (0, (a_tape a).2)) :=
  ⟨h.c1 hf (by decide), ⟨h1, Nat.zero_le _, fun i hi => absurd hi (Nat.not_lt_zero i)⟩, h3, ⟨h4.trans h.2.2.2.1.1, h.2.2.2.1.2.1, C_ac.kept (hf _ (by decide)) (hf _ (by decide)) (hf _ (by decide)) _ _ _ h.2.2.2.1.2.2⟩, h.c5 hf (by decide), h6, h.c7 hf (by decide)⟩
theorem C_hill {SL : Nat} {d : Nat} {Q : Option Int32 → m_G → Prop} {g : m_G} {a : a_S} (hA : a_OK a) (hC : C_R g a) (hKS : K_S g) (hQ : E_C g a Q (sp_hill a)) : Sim SL (d + 5) yX8_hill cX8_hill 2 (some .int) 0 [.ref 0, .null] [] g Q := by
  unfold E_C sp_hill at hQ
  refine s_aload_n (n := 1) dX8_hill_0 rfl rfl rfl ?_
  refine s_getr (k2 := 18) (n := 4) dX8_hill_1 rfl fl_X8_18 rfl rfl rfl ?_
  refine s_aload_n (n := 5) dX8_hill_4 rfl rfl rfl ?_
  refine s_getr (k2 := 38) (n := 8) dX8_hill_5 rfl fl_X8_29 rfl rfl rfl ?_
  refine s_cv1 (n := 11) dX8_hill_8 rfl mo_X6_readInto ml_X8_111 rfl (by decide) rfl rfl (Nat.le_of_ble_eq_true rfl) (Nat.le_of_ble_eq_true rfl) (c_X6_readInto hC.2.1.1 hC.2.1.2.1 hC.2.1.2.2 hKS (fun t ht g2 hf2 hR2 h2 => ?_) (fun e he g2 hf2 hE2 => ?_))
  · dsimp only [m_push]
    refine s_istore_n (n := 12) dX8_hill_11 rfl rfl (by decide) rfl rfl ?_
    refine s_aload_n (n := 13) dX8_hill_12 rfl rfl rfl ?_
    refine s_getr (k2 := 18) (n := 16) dX8_hill_13 rfl fl_X8_18 rfl rfl rfl ?_
    refine s_iconst (v := 0) (n := 17) dX8_hill_16 rfl (by decide) ?_
    refine s_puti (n := 20) dX8_hill_17 rfl fl_X8_109 rfl rfl rfl ?_
    refine s_iload_n (n := 21) dX8_hill_20 rfl rfl rfl ?_
    refine s_if_ne (n := 24) (t := 46) dX8_hill_21 (by decide) rfl (fun _ => ?_) (fun h => absurd h (by decide))
    refine s_aload_n (n := 47) dX8_hill_46 rfl rfl rfl ?_
    refine s_getr (k2 := 28) (n := 50) dX8_hill_47 rfl fl_X8_25 rfl rfl rfl ?_
    refine s_aload_n (n := 51) dX8_hill_50 rfl rfl rfl ?_
    refine s_getr (k2 := 38) (n := 54) dX8_hill_51 rfl fl_X8_29 rfl rfl rfl ?_
    refine s_cv1 (n := 57) dX8_hill_54 rfl mo_X1_become ml_X8_125 rfl (by decide) rfl rfl (Nat.le_of_ble_eq_true rfl) (Nat.le_of_ble_eq_true rfl) (c_X1_become hb28 hb38 (by decide) (Or.inr (by rw [m_up_o (by decide)]; exact h2)) (fun g3 hf3 hE3 => ?_))
    dsimp only [m_push]
    refine s_aload_n (n := 58) dX8_hill_57 rfl rfl rfl ?_
    refine s_getr (k2 := 20) (n := 61) dX8_hill_58 rfl fl_X8_39 rfl rfl rfl ?_
    refine s_iconst (v := 0) (n := 62) dX8_hill_61 rfl (by decide) ?_
    refine s_puti (n := 65) dX8_hill_62 rfl fl_X8_129 rfl rfl rfl ?_
    refine s_aload_n (n := 66) dX8_hill_65 rfl rfl rfl ?_
    refine s_getr (k2 := 28) (n := 69) dX8_hill_66 rfl fl_X8_25 rfl rfl rfl ?_
    refine s_geti (n := 72) dX8_hill_69 rfl fl_X8_132 rfl rfl ?_
    refine s_ireturn dX8_hill_72 rfl rfl ?_
    have hR2' : TW (m_up g2 18 1 0) 38 (opT t) := hR2.kept (m_up_o (by decide)) (fun i hi => m_up_o (by omega))
    have hT3 : TW g3 28 (opT t) := hE3.TW hR2'
    have h328 : g3 28 2 = 1 := by rw [hE3.1 2 (by decide) (by decide), m_up_o (by decide)]; exact h2
    have hQ2 := hQ
    rw [ht] at hQ2
    dsimp only at hQ2
    have hC1 : C_R (m_up g2 18 1 0) (u_tape a (0, (a_tape a).2)) := hC.tape0 ((hf2.mono (by decide)).up2 (by decide)) (by rw [m_up_k, if_pos rfl]) (by
      rw [m_up_o (by decide)]
      have := hC.c3 hf2 (by decide)
      exact ⟨this.1, this.2.kept (m_up_o (by decide)) (fun i hi => m_up_o (by omega))⟩) (by rw [m_up_o (by decide), hf2 20 (by decide)]) (by rw [m_up_o (by decide), hf2 0 (by decide)]; exact hC.2.2.2.2.2.1)
    have hfA : m_fr (20 :: m_hs 28) (m_up g2 18 1 0) (m_up g3 20 3 0) := (hf3.mono (by decide)).up2 (by decide)
    have hC2 := hC1.hill0 hfA (by rw [m_up_k, if_pos rfl]) (by rw [m_up_o (by decide)]; exact h328) (hT3.kept (m_up_o (by decide)) (fun i hi => m_up_o (by omega)))
    rw [show (m_up g3 20 3 0) 28 10 = t 1 by rw [m_up_o (by decide), hT3.1.2.1, opT_ne (by decide)]]
    exact hQ2 _ hC2 ((((hf2.FC (by decide)).tr (fun k hk => m_up_o (by omega))).tr (hfA.FC (by decide))))
  · dsimp only [m_push]
    refine s_istore_n (n := 12) dX8_hill_11 rfl rfl (by decide) rfl rfl ?_
    refine s_aload_n (n := 13) dX8_hill_12 rfl rfl rfl ?_
    refine s_getr (k2 := 18) (n := 16) dX8_hill_13 rfl fl_X8_18 rfl rfl rfl ?_
    refine s_iconst (v := 0) (n := 17) dX8_hill_16 rfl (by decide) ?_
    refine s_puti (n := 20) dX8_hill_17 rfl fl_X8_109 rfl rfl rfl ?_
    refine s_iload_n (n := 21) dX8_hill_20 rfl rfl rfl ?_
    refine s_if_ne (n := 24) (t := 46) dX8_hill_21 (by decide) rfl (fun h => absurd h (by decide)) (fun _ => ?_)
    refine s_aload_n (n := 25) dX8_hill_24 rfl rfl rfl ?_
    refine s_aload_n (n := 26) dX8_hill_25 rfl rfl rfl ?_
    refine s_getr (k2 := 18) (n := 29) dX8_hill_26 rfl fl_X8_18 rfl rfl rfl ?_
    refine s_geti (n := 32) dX8_hill_29 rfl fl_X8_115 rfl rfl ?_
    refine s_puti (n := 35) dX8_hill_32 rfl fl_X8_118 rfl rfl rfl ?_
    refine s_ldc (n := 37) dX8_hill_35 rfl kc_X8_121 ?_
    refine s_aload_n (n := 38) dX8_hill_37 rfl rfl rfl ?_
    refine s_getr (k2 := 18) (n := 41) dX8_hill_38 rfl fl_X8_18 rfl rfl rfl ?_
    refine s_geti (n := 44) dX8_hill_41 rfl fl_X8_122 rfl rfl ?_
    refine s_isub (n := 45) dX8_hill_44 rfl ?_
    refine s_ireturn dX8_hill_45 rfl rfl ?_
    have hQ2 := hQ
    rw [he] at hQ2
    dsimp only at hQ2
    have e1 : (m_up g2 18 1 0) 18 3 = e.1 := by rw [m_up_k, if_neg (by decide)]; exact hE2.1
    have e2 : (m_up (m_up g2 18 1 0) 0 8 ((m_up g2 18 1 0) 18 3)) 18 4 = nI e.2 := by rw [m_up_o (by decide), m_up_k, if_neg (by decide)]; exact hE2.2
    rw [e2, e1]
    have hC1 : C_R (m_up (m_up g2 18 1 0) 0 8 e.1) (u_fault (u_tape a (0, (a_tape a).2)) e.1) := by
      have hC0 : C_R (m_up g2 18 1 0) (u_tape a (0, (a_tape a).2)) := hC.tape0 ((hf2.mono (by decide)).up2 (by decide)) (by rw [m_up_k, if_pos rfl]) (by
        rw [m_up_o (by decide)]
        have := hC.c3 hf2 (by decide)
        exact ⟨this.1, this.2.kept (m_up_o (by decide)) (fun i hi => m_up_o (by omega))⟩) (by rw [m_up_o (by decide), hf2 20 (by decide)]) (by rw [m_up_o (by decide), hf2 0 (by decide)]; exact hC.2.2.2.2.2.1)
      have hf : m_fr [0] (m_up g2 18 1 0) (m_up (m_up g2 18 1 0) 0 8 e.1) := m_fr.up (by decide)
      exact ⟨hC0.c1 hf (by decide), hC0.c2 hf (by decide), hC0.c3 hf (by decide), hC0.c4 hf (by decide), hC0.c5 hf (by decide), ⟨by rw [m_up_k, if_pos rfl]; rfl, by rw [m_up_k, if_neg (by decide)]; exact hC0.2.2.2.2.2.1.2⟩, hC0.c7 hf (by decide)⟩
    exact hQ2 _ hC1 (((hf2.FC (by decide)).tr (fun k hk => m_up_o (by omega))).tr (fun k hk => m_up_o (by omega)))
