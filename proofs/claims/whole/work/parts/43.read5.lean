theorem M_rd.mt {g g2 : m_G} {L : Nat} {f : Nat → Int32} {at_ : Nat} (h : MT g L f at_) (hf : m_fr [79] g g2) : MT g2 L f at_ := by
  unfold MT; rw [hf 78 (by decide), hf 84 (by decide)]; exact h
theorem MF.t {g : m_G} {e : rdE} {j : Nat} {v : Int32} (h : MF g e) : MF (m_up g 79 j v) e := by
  unfold MF; rw [m_up_o (by decide)]; exact h
set_option maxHeartbeats 1000000 in
theorem lp_X9_readsLaw {SL d : Nat} {Q : Option Int32 → m_G → Prop} {L : Nat} {f : Nat → Int32} : ∀ (n k : Nat) (g : m_G) (at_ : Nat) (t : m_T), k + n = 6 → 0 < n → MT g L f at_ → TM g 1053 t → K_S g → (∀ p, rlK L f n k at_ t = .inr p → ∀ g2, M_rd g g2 → MT g2 L f p.1 → TM g2 1053 p.2 → Q (some 1) g2) → (∀ e, rlK L f n k at_ t = .inl e → ∀ g2, M_rd g g2 → MF g2 e → Q (some 0) g2) → Sim SL (d + 3) yX9_readsLaw cX9_readsLaw 2 (some .boolean) 32 [.ref 78, .int (nI k)] [] g Q := by
  intro n
  induction n with
  | zero =>
    intro k g at_ t hkn hn
    omega
  | succ n ih =>
    intro k g at_ t hkn hn hT hU hKS k1 k0
    have hk6 : k < 6 := by omega
    have hpl := hKS.pl hk6
    refine s_aload_n (n := 33) dX9_readsLaw_32 rfl rfl rfl ?_
    skip
    refine s_aload_n (n := 34) dX9_readsLaw_33 rfl rfl rfl ?_
    refine s_getr (k2 := 86) (n := 37) dX9_readsLaw_34 rfl fl_X9_32 rfl rfl rfl ?_
    refine s_iload_n (n := 38) dX9_readsLaw_37 rfl rfl rfl ?_
    refine s_iaload k (n := 39) dX9_readsLaw_38 rfl rfl rfl hk6 ?_
    rw [hpl.1]
    refine s_aload_n (n := 40) dX9_readsLaw_39 rfl rfl rfl ?_
    refine s_getr (k2 := 87) (n := 43) dX9_readsLaw_40 rfl fl_X9_35 rfl rfl rfl ?_
    refine s_iload_n (n := 44) dX9_readsLaw_43 rfl rfl rfl ?_
    refine s_iaload k (n := 45) dX9_readsLaw_44 rfl rfl rfl hk6 ?_
    rw [hpl.2.1]
    refine s_cv2 (n := 48) dX9_readsLaw_45 rfl mo_X9_readsNumber ml_X9_117 rfl (by decide) rfl rfl (Nat.le_of_ble_eq_true rfl) (Nat.le_of_ble_eq_true rfl) (c_X9_readsNumber hT _ _ (fun v1 a1 e1 hw1 ha1 g1 hf1 hT1 hv1 => ?_) (fun w1 e1 g1 hf1 hE1 => ?_))
    · dsimp only [m_push]
      refine s_if_ne (n := 51) (t := 53) dX9_readsLaw_48 (by decide) rfl (fun _ => ?_) (fun h => absurd h (by decide))
      refine s_aload_n (n := 54) dX9_readsLaw_53 rfl rfl rfl ?_
      refine s_getr (k2 := 79) (n := 57) dX9_readsLaw_54 rfl fl_X9_7 rfl rfl rfl ?_
      refine s_sipush (v := 1053) (n := 60) dX9_readsLaw_57 rfl (by decide) ?_
      refine s_aload_n (n := 61) dX9_readsLaw_60 rfl rfl rfl ?_
      refine s_getr (k2 := 88) (n := 64) dX9_readsLaw_61 rfl fl_X9_38 rfl rfl rfl ?_
      refine s_iload_n (n := 65) dX9_readsLaw_64 rfl rfl rfl ?_
      refine s_iaload k (n := 66) dX9_readsLaw_65 rfl rfl rfl hk6 ?_
      rw [show g1 88 k = nI (lwP k) by rw [hf1.1 88 (by decide)]; exact hpl.2.2]
      refine s_iadd (n := 67) dX9_readsLaw_66 rfl ?_
      refine s_aload_n (n := 68) dX9_readsLaw_67 rfl rfl rfl ?_
      refine s_geti (n := 71) dX9_readsLaw_68 rfl fl_X9_111 rfl rfl ?_
      rw [hv1]
      refine s_iastore (1053 + lwP k) (n := 72) dX9_readsLaw_71 rfl rfl (ix2m rfl) (by have := lwP_b k hk6; omega) ?_
      have hU2 : TM (m_up g1 79 (1053 + lwP k) v1) 1053 (upd t (lwP k) v1) := (hU.mR hf1).tj _ _
      have hT1b : MT (m_up g1 79 (1053 + lwP k) v1) L f a1 := hT1.t
      refine s_iinc (n := 75) (v := nI (k + 1)) dX9_readsLaw_72 rfl (by decide) rfl rfl (nI_1 k) rfl ?_
      refine s_goto (t := 13) dX9_readsLaw_75 (by decide) ?_
      refine s_iload_n (n := 14) dX9_readsLaw_13 rfl rfl rfl ?_
      refine s_bipush (v := 6) (n := 16) dX9_readsLaw_14 rfl (by decide) ?_
      refine s_icmp_ge (n := 19) (t := 78) dX9_readsLaw_16 (by decide) rfl (fun h16 => ?_) (fun h16 => ?_)
      · have hk5 : ¬ k < 5 := fun q => absurd h16 (nI_ge (show k + 1 < 6 by omega) (by decide))
        refine s_aload_n (n := 79) dX9_readsLaw_78 rfl rfl rfl ?_
        refine s_bipush (v := 59) (n := 81) dX9_readsLaw_79 rfl (by decide) ?_
        refine s_cv1 (n := 84) dX9_readsLaw_81 rfl mo_X9_sign ml_X9_114 rfl (by decide) rfl rfl (Nat.le_of_ble_eq_true rfl) (Nat.le_of_ble_eq_true rfl) (c_X9_sign hT1b 59 (by decide) (fun e2 g2 hf2 hT2 => ?_) (fun e2 g2 hf2 hE2 => ?_))
        · dsimp only [m_push]
          refine s_ireturn dX9_readsLaw_84 rfl (by decide +kernel) ?_
          have eR : rlK L f (n + 1) k at_ t = rlK L f n (k + 1) (a1 + 1) (upd t (lwP k) v1) := by
            conv => lhs; unfold rlK
            rw [e1]
            dsimp only
            rw [if_neg hk5, e2]
          obtain rfl : n = 0 := by omega
          exact k1 (a1 + 1, upd t (lwP k) v1) (by rw [eR]; rfl) g2 ((hf1.rd.tr (M_rd.t (by omega))).tr hf2.rd) hT2 (hU2.mR hf2)
        · dsimp only [m_push]
          refine s_ireturn dX9_readsLaw_84 rfl (by decide +kernel) ?_
          have eR : rlK L f (n + 1) k at_ t = .inl (1, a1) := by
            conv => lhs; unfold rlK
            rw [e1]
            dsimp only
            rw [if_neg hk5, e2]
          exact k0 (1, a1) eR g2 ((hf1.rd.tr (M_rd.t (by omega))).tr hf2.rd) hE2
      · have hk5 : k < 5 := by
          rcases Nat.lt_or_ge k 5 with z | z
          · exact z
          · exact absurd (nI_le (show 6 ≤ k + 1 by omega) (by omega)) h16
        refine s_iload_n (n := 20) dX9_readsLaw_19 rfl rfl rfl ?_
        refine s_if_le (n := 23) (t := 32) dX9_readsLaw_20 (by decide) rfl (fun h20 => ?_) (fun h20 => ?_)
        · exact absurd h20 (nI_ge (a := 0) (show 0 < k + 1 by omega) (by omega))
        · refine s_aload_n (n := 24) dX9_readsLaw_23 rfl rfl rfl ?_
          refine s_bipush (v := 44) (n := 26) dX9_readsLaw_24 rfl (by decide) ?_
          refine s_cv1 (n := 29) dX9_readsLaw_26 rfl mo_X9_sign ml_X9_114 rfl (by decide) rfl rfl (Nat.le_of_ble_eq_true rfl) (Nat.le_of_ble_eq_true rfl) (c_X9_sign hT1b 44 (by decide) (fun e2 g2 hf2 hT2 => ?_) (fun e2 g2 hf2 hE2 => ?_))
          · dsimp only [m_push]
            refine s_if_eq (n := 32) (t := 51) dX9_readsLaw_29 (by decide) rfl (fun h => absurd h (by decide)) (fun _ => ?_)
            have eR : rlK L f (n + 1) k at_ t = rlK L f n (k + 1) (a1 + 1) (upd t (lwP k) v1) := by
              conv => lhs; unfold rlK
              rw [e1]
              dsimp only
              rw [if_pos hk5, e2]
            have hfr := (hf1.rd.tr (M_rd.t (by omega))).tr hf2.rd
            rw [eR] at k1 k0
            exact ih (k + 1) g2 (a1 + 1) (upd t (lwP k) v1) (by omega) (by omega) hT2 (hU2.mR hf2) (hKS.m hfr.FM) (fun p hp g3 hf3 => k1 p hp g3 (hfr.tr hf3)) (fun e he g3 hf3 => k0 e he g3 (hfr.tr hf3))
          · dsimp only [m_push]
            refine s_if_eq (n := 32) (t := 51) dX9_readsLaw_29 (by decide) rfl (fun _ => ?_) (fun h => absurd h (by decide))
            refine s_iconst (v := 0) (n := 52) dX9_readsLaw_51 rfl (by decide) ?_
            refine s_ireturn dX9_readsLaw_52 rfl (by decide +kernel) ?_
            have eR : rlK L f (n + 1) k at_ t = .inl (1, a1) := by
              conv => lhs; unfold rlK
              rw [e1]
              dsimp only
              rw [if_pos hk5, e2]
            exact k0 (1, a1) eR g2 ((hf1.rd.tr (M_rd.t (by omega))).tr hf2.rd) hE2
    · dsimp only [m_push]
      refine s_if_ne (n := 51) (t := 53) dX9_readsLaw_48 (by decide) rfl (fun h => absurd h (by decide)) (fun _ => ?_)
      refine s_iconst (v := 0) (n := 52) dX9_readsLaw_51 rfl (by decide) ?_
      refine s_ireturn dX9_readsLaw_52 rfl (by decide +kernel) ?_
      exact k0 (w1, at_) (by unfold rlK; rw [e1]) g1 hf1.rd hE1
theorem c_X9_readsLaw {SL : Nat} {d : Nat} {Q : Option Int32 → m_G → Prop} {g : m_G} {L : Nat} {f : Nat → Int32} (hT : MT g L f 0) (hU : TM g 1053 (fun _ => 0)) (hKS : K_S g) (k1 : ∀ p, rdW L f = .inr p → ∀ g2, M_rd g g2 → MT g2 L f p.1 → TM g2 1053 p.2 → Q (some 1) g2) (k0 : ∀ e, rdW L f = .inl e → ∀ g2, M_rd g g2 → MF g2 e → Q (some 0) g2) : Sim SL (d + 3) yX9_readsLaw cX9_readsLaw 2 (some .boolean) 0 [.ref 78, .null] [] g Q := by
  refine s_aload_n (n := 1) dX9_readsLaw_0 rfl rfl rfl ?_
  refine s_bipush (v := 99) (n := 3) dX9_readsLaw_1 rfl (by decide) ?_
  refine s_cv1 (n := 6) dX9_readsLaw_3 rfl mo_X9_sign ml_X9_114 rfl (by decide) rfl rfl (Nat.le_of_ble_eq_true rfl) (Nat.le_of_ble_eq_true rfl) (c_X9_sign hT 99 (by decide) (fun e1 g1 hf1 hT1 => ?_) (fun e1 g1 hf1 hE1 => ?_))
  · dsimp only [m_push]
    refine s_if_ne (n := 9) (t := 11) dX9_readsLaw_6 (by decide) rfl (fun _ => ?_) (fun h => absurd h (by decide))
    refine s_iconst (v := 0) (n := 12) dX9_readsLaw_11 rfl (by decide) ?_
    refine s_istore_n (n := 13) dX9_readsLaw_12 rfl rfl (by decide) rfl rfl ?_
    refine s_iload_n (n := 14) dX9_readsLaw_13 rfl rfl rfl ?_
    refine s_bipush (v := 6) (n := 16) dX9_readsLaw_14 rfl (by decide) ?_
    refine s_icmp_ge (n := 19) (t := 78) dX9_readsLaw_16 (by decide) rfl (fun h => absurd h (by decide)) (fun _ => ?_)
    refine s_iload_n (n := 20) dX9_readsLaw_19 rfl rfl rfl ?_
    refine s_if_le (n := 23) (t := 32) dX9_readsLaw_20 (by decide) rfl (fun _ => ?_) (fun h => absurd h (by decide))
    refine lp_X9_readsLaw 6 0 g1 1 (fun _ => 0) rfl (by decide) hT1 (hU.mR hf1) (hKS.m hf1.rd.FM) (fun p hp g3 hf3 => k1 p ?_ g3 (hf1.rd.tr hf3)) (fun e he g3 hf3 => k0 e ?_ g3 (hf1.rd.tr hf3))
    · unfold rdW; rw [e1]; exact hp
    · unfold rdW; rw [e1]; exact he
  · dsimp only [m_push]
    refine s_if_ne (n := 9) (t := 11) dX9_readsLaw_6 (by decide) rfl (fun h => absurd h (by decide)) (fun _ => ?_)
    refine s_iconst (v := 0) (n := 10) dX9_readsLaw_9 rfl (by decide) ?_
    refine s_ireturn dX9_readsLaw_10 rfl (by decide +kernel) ?_
    exact k0 (1, 0) (by unfold rdW; rw [e1]) g1 hf1.rd hE1
set_option maxHeartbeats 2000000 in
theorem c_X9_readsHouse {SL : Nat} {d : Nat} {Q : Option Int32 → m_G → Prop} {g : m_G} {L : Nat} {f : Nat → Int32} {at_ : Nat} {t : m_T} (hT : MT g L f at_) (hlt : at_ < L) (hk0 : ¬ kOf (pkB L f at_) = 0) (hU : TM g 1053 t) (hO : rOK t) (k1 : ∀ p, rdH L f at_ t = .inr p → ∀ g2, M_rd g g2 → MT g2 L f p.1 → TM g2 1053 p.2 → Q (some 1) g2) (k0 : ∀ e, rdH L f at_ t = .inl e → ∀ g2, M_rd g g2 → MF g2 e → Q (some 0) g2) : Sim SL (d + 3) yX9_readsHouse cX9_readsHouse 4 (some .boolean) 0 [.ref 78, .null, .null, .null] [] g Q := by
  have hcn := a_cnE hO.1.2.1
  refine s_aload_n (n := 1) dX9_readsHouse_0 rfl rfl rfl ?_
  refine s_getr (k2 := 79) (n := 4) dX9_readsHouse_1 rfl fl_X9_7 rfl rfl rfl ?_
  refine s_sipush (v := 1054) (n := 7) dX9_readsHouse_4 rfl (by decide) ?_
  refine s_iaload 1054 (n := 8) dX9_readsHouse_7 rfl rfl rfl (by decide) ?_
  rw [show g 79 1054 = nI (a_cn t) from (hU 1 (by decide)).trans hcn.1]
  refine s_istore_n (n := 9) dX9_readsHouse_8 rfl rfl (by decide) rfl rfl ?_
  refine s_iload_n (n := 10) dX9_readsHouse_9 rfl rfl rfl ?_
  refine s_bipush (v := 6) (n := 12) dX9_readsHouse_10 rfl (by decide) ?_
  refine s_icmp_ne (n := 15) (t := 21) dX9_readsHouse_12 (by decide) rfl (fun h12 => ?_) (fun h12 => ?_)
  · have hc6 : ¬ a_cn t = 6 := fun z => h12 (by rw [z]; rfl)
    have hc6b : a_cn t < 6 := by omega
    refine s_aload_n (n := 22) dX9_readsHouse_21 rfl rfl rfl ?_
    refine s_getr (k2 := 79) (n := 25) dX9_readsHouse_22 rfl fl_X9_7 rfl rfl rfl ?_
    refine s_sipush (v := 1062) (n := 28) dX9_readsHouse_25 rfl (by decide) ?_
    refine s_iload_n (n := 29) dX9_readsHouse_28 rfl rfl rfl ?_
    refine s_iadd (n := 30) dX9_readsHouse_29 rfl ?_
    refine s_aload_n (n := 31) dX9_readsHouse_30 rfl rfl rfl ?_
    refine s_getr (k2 := 84) (n := 34) dX9_readsHouse_31 rfl fl_X9_26 rfl rfl rfl ?_
    refine s_aload_n (n := 35) dX9_readsHouse_34 rfl rfl rfl ?_
    refine s_geti (n := 38) dX9_readsHouse_35 rfl fl_X9_92 rfl rfl ?_
    refine s_iaload at_ (n := 39) dX9_readsHouse_38 rfl rfl hT.2.1 (by have := hT.2.2.1; omega) ?_
    rw [hT.2.2.2.2 at_ hlt, ← pkB_eq (f := f) hlt]
    refine s_cs1 (n := 42) dX9_readsHouse_39 rfl mo_X9_kindOfLetter ml_X9_121 rfl (Nat.le_of_ble_eq_true rfl) (Nat.le_of_ble_eq_true rfl) (c_X9_kindOfLetter _ ?_)
    dsimp only [m_push]
    refine s_iastore (1053 + (9 + a_cn t)) (n := 43) dX9_readsHouse_42 rfl rfl ((ix2m (c := 1062) rfl).trans (congrArg nI (by omega))) (by omega) ?_
    have hU0a : TM (m_up g 79 (1053 + (9 + a_cn t)) (kOf (pkB L f at_))) 1053 (upd t (9 + a_cn t) (kOf (pkB L f at_))) := hU.tj _ _
    have hTa : MT (m_up g 79 (1053 + (9 + a_cn t)) (kOf (pkB L f at_))) L f at_ := hT.t
    refine s_aload_n (n := 44) dX9_readsHouse_43 rfl rfl rfl ?_
    refine s_dup (n := 45) dX9_readsHouse_44 rfl rfl ?_
    refine s_geti (n := 48) dX9_readsHouse_45 rfl fl_X9_92 rfl rfl ?_
    refine s_iconst (v := 1) (n := 49) dX9_readsHouse_48 rfl (by decide) ?_
    refine s_iadd (n := 50) dX9_readsHouse_49 rfl ?_
    skip
    rw [hTa.2.1, nI_1]
    refine s_puti (n := 53) dX9_readsHouse_50 rfl fl_X9_92 rfl rfl rfl ?_
    have hT0 := hTa.to (show at_ + 1 ≤ L by omega)
    have hU0 := hU0a.mR (mR.up (j := 13) (v := nI (at_ + 1)) (by omega))
    have hF0 : M_rd g (m_up (m_up g 79 (1053 + (9 + a_cn t)) (kOf (pkB L f at_))) 78 13 (nI (at_ + 1))) := (M_rd.t (by omega)).tr (mR.up (by omega)).rd
    refine s_aload_n (n := 54) dX9_readsHouse_53 rfl rfl rfl ?_
    refine s_iconst (v := 1) (n := 55) dX9_readsHouse_54 rfl (by decide) ?_
    refine s_aload_n (n := 56) dX9_readsHouse_55 rfl rfl rfl ?_
    refine s_getr (k2 := 79) (n := 59) dX9_readsHouse_56 rfl fl_X9_7 rfl rfl rfl ?_
    refine s_sipush (v := 1053) (n := 62) dX9_readsHouse_59 rfl (by decide) ?_
    refine s_iaload 1053 (n := 63) dX9_readsHouse_62 rfl rfl rfl (by decide) ?_
    rw [show (m_up (m_up g 79 (1053 + (9 + a_cn t)) (kOf (pkB L f at_))) 78 13 (nI (at_ + 1))) 79 1053 = t 0 from (hU0 0 (by decide)).trans (upd_ne (by omega))]
    refine s_cv2 (n := 66) dX9_readsHouse_63 rfl mo_X9_readsNumber ml_X9_117 rfl (by decide) rfl rfl (Nat.le_of_ble_eq_true rfl) (Nat.le_of_ble_eq_true rfl) (c_X9_readsNumber hT0 1 (t 0) (fun v1 a1 e1 hw1 ha1 g1 hf1 hT1 hv1 => ?_) (fun w1 e1 g1 hf1 hE1 => ?_))
    · dsimp only [m_push]
      refine s_if_ne (n := 69) (t := 71) dX9_readsHouse_66 (by decide) rfl (fun _ => ?_) (fun h => absurd h (by decide))
      refine s_aload_n (n := 72) dX9_readsHouse_71 rfl rfl rfl ?_
      refine s_geti (n := 75) dX9_readsHouse_72 rfl fl_X9_111 rfl rfl ?_
      rw [hv1]
      refine s_istore_n (n := 76) dX9_readsHouse_75 rfl rfl (by decide) rfl rfl ?_
      refine s_aload_n (n := 77) dX9_readsHouse_76 rfl rfl rfl ?_
      refine s_bipush (v := 44) (n := 79) dX9_readsHouse_77 rfl (by decide) ?_
      refine s_cv1 (n := 82) dX9_readsHouse_79 rfl mo_X9_sign ml_X9_114 rfl (by decide) rfl rfl (Nat.le_of_ble_eq_true rfl) (Nat.le_of_ble_eq_true rfl) (c_X9_sign hT1 44 (by decide) (fun e2 g2 hf2 hT2 => ?_) (fun e2 g2 hf2 hE2 => ?_))
      · dsimp only [m_push]
        refine s_if_ne (n := 85) (t := 87) dX9_readsHouse_82 (by decide) rfl (fun _ => ?_) (fun h => absurd h (by decide))
        refine s_aload_n (n := 88) dX9_readsHouse_87 rfl rfl rfl ?_
        refine s_geti (n := 91) dX9_readsHouse_88 rfl fl_X9_92 rfl rfl ?_
        rw [hT2.2.1]
        refine s_istore_n (n := 92) dX9_readsHouse_91 rfl rfl (by decide) rfl rfl ?_
        refine s_aload_n (n := 93) dX9_readsHouse_92 rfl rfl rfl ?_
        refine s_iconst (v := 0) (n := 94) dX9_readsHouse_93 rfl (by decide) ?_
        refine s_bipush (v := 6) (n := 96) dX9_readsHouse_94 rfl (by decide) ?_
        refine s_cv2 (n := 99) dX9_readsHouse_96 rfl mo_X9_readsNumber ml_X9_117 rfl (by decide) rfl rfl (Nat.le_of_ble_eq_true rfl) (Nat.le_of_ble_eq_true rfl) (c_X9_readsNumber hT2 0 6 (fun v3 a3 e3 hw3 ha3 g3 hf3 hT3 hv3 => ?_) (fun w3 e3 g3 hf3 hE3 => ?_))
        · dsimp only [m_push]
          refine s_if_ne (n := 102) (t := 104) dX9_readsHouse_99 (by decide) rfl (fun _ => ?_) (fun h => absurd h (by decide))
          have hU3 := ((hU0.mR hf1).mR hf2).mR hf3
          refine s_aload_n (n := 105) dX9_readsHouse_104 rfl rfl rfl ?_
          refine s_sipush (v := 1053) (n := 108) dX9_readsHouse_105 rfl (by decide) ?_
          refine s_iload_n (n := 109) dX9_readsHouse_108 rfl rfl rfl ?_
          refine s_aload_n (n := 110) dX9_readsHouse_109 rfl rfl rfl ?_
          refine s_geti (n := 113) dX9_readsHouse_110 rfl fl_X9_111 rfl rfl ?_
          rw [hv3]
          refine s_cv3 (n := 116) dX9_readsHouse_113 rfl mo_X9_houseAt ml_X9_124 rfl (by decide) rfl rfl (Nat.le_of_ble_eq_true rfl) (Nat.le_of_ble_eq_true rfl) (c_X9_houseAt (b := 1053) (by decide) hU3 (by rw [upd_ne (by omega)]; exact hO.1.t1) _ _ ?_)
          rw [show sAt (upd t (9 + a_cn t) (kOf (pkB L f at_))) v1 v3 = sAt t v1 v3 from sAtF_k t _ v1 v3 hc6b 6 0]
          dsimp only [m_push]
          refine s_ldc (n := 118) dX9_readsHouse_116 rfl kc_X9_128 ?_
          refine s_icmp_eq (n := 121) (t := 132) dX9_readsHouse_118 (by decide) rfl (fun h118 => ?_) (fun h118 => ?_)
          · have hs : sAt t v1 v3 = none := (eM_none sAt6).mp h118
            refine s_aload_n (n := 133) dX9_readsHouse_132 rfl rfl rfl ?_
            refine s_getr (k2 := 79) (n := 136) dX9_readsHouse_133 rfl fl_X9_7 rfl rfl rfl ?_
            refine s_sipush (v := 1068) (n := 139) dX9_readsHouse_136 rfl (by decide) ?_
            refine s_iload_n (n := 140) dX9_readsHouse_139 rfl rfl rfl ?_
            refine s_iadd (n := 141) dX9_readsHouse_140 rfl ?_
            refine s_iload_n (n := 142) dX9_readsHouse_141 rfl rfl rfl ?_
            refine s_iastore (1053 + (15 + a_cn t)) (n := 143) dX9_readsHouse_142 rfl rfl ((ix2m (c := 1068) rfl).trans (congrArg nI (by omega))) (by omega) ?_
            refine s_aload_n (n := 144) dX9_readsHouse_143 rfl rfl rfl ?_
            refine s_getr (k2 := 79) (n := 147) dX9_readsHouse_144 rfl fl_X9_7 rfl rfl rfl ?_
            refine s_sipush (v := 1074) (n := 150) dX9_readsHouse_147 rfl (by decide) ?_
            refine s_iload_n (n := 151) dX9_readsHouse_150 rfl rfl rfl ?_
            refine s_iadd (n := 152) dX9_readsHouse_151 rfl ?_
            refine s_aload_n (n := 153) dX9_readsHouse_152 rfl rfl rfl ?_
            refine s_geti (n := 156) dX9_readsHouse_153 rfl fl_X9_111 rfl rfl ?_
            rw [show (m_up g3 79 (1053 + (15 + a_cn t)) v1) 78 15 = v3 by rw [m_up_o (by decide)]; exact hv3]
            refine s_iastore (1053 + (21 + a_cn t)) (n := 157) dX9_readsHouse_156 rfl rfl ((ix2m (c := 1074) rfl).trans (congrArg nI (by omega))) (by omega) ?_
            have hU3b : TM (m_up (m_up g3 79 (1053 + (15 + a_cn t)) v1) 79 (1053 + (21 + a_cn t)) v3) 1053 _ := (hU3.tj (15 + a_cn t) v1).tj (21 + a_cn t) v3
            have hT3b : MT (m_up (m_up g3 79 (1053 + (15 + a_cn t)) v1) 79 (1053 + (21 + a_cn t)) v3) L f a3 := hT3.t.t
            have hF3s : M_rd g3 (m_up (m_up g3 79 (1053 + (15 + a_cn t)) v1) 79 (1053 + (21 + a_cn t)) v3) := (M_rd.t (by omega)).tr (M_rd.t (by omega))
            refine s_aload_n (n := 158) dX9_readsHouse_157 rfl rfl rfl ?_
            refine s_bipush (v := 44) (n := 160) dX9_readsHouse_158 rfl (by decide) ?_
            refine s_cv1 (n := 163) dX9_readsHouse_160 rfl mo_X9_sign ml_X9_114 rfl (by decide) rfl rfl (Nat.le_of_ble_eq_true rfl) (Nat.le_of_ble_eq_true rfl) (c_X9_sign hT3b 44 (by decide) (fun e4 g4 hf4 hT4 => ?_) (fun e4 g4 hf4 hE4 => ?_))
            · dsimp only [m_push]
              refine s_if_eq (n := 166) (t := 175) dX9_readsHouse_163 (by decide) rfl (fun h => absurd h (by decide)) (fun _ => ?_)
              refine s_aload_n (n := 167) dX9_readsHouse_166 rfl rfl rfl ?_
              refine s_iconst (v := 0) (n := 168) dX9_readsHouse_167 rfl (by decide) ?_
              refine s_iconst (v := 1) (n := 169) dX9_readsHouse_168 rfl (by decide) ?_
              refine s_cv2 (n := 172) dX9_readsHouse_169 rfl mo_X9_readsNumber ml_X9_117 rfl (by decide) rfl rfl (Nat.le_of_ble_eq_true rfl) (Nat.le_of_ble_eq_true rfl) (c_X9_readsNumber hT4 0 1 (fun v5 a5 e5 hw5 ha5 g5 hf5 hT5 hv5 => ?_) (fun w5 e5 g5 hf5 hE5 => ?_))
              · dsimp only [m_push]
                refine s_if_ne (n := 175) (t := 177) dX9_readsHouse_172 (by decide) rfl (fun _ => ?_) (fun h => absurd h (by decide))
                refine s_aload_n (n := 178) dX9_readsHouse_177 rfl rfl rfl ?_
                refine s_getr (k2 := 79) (n := 181) dX9_readsHouse_178 rfl fl_X9_7 rfl rfl rfl ?_
                refine s_sipush (v := 1080) (n := 184) dX9_readsHouse_181 rfl (by decide) ?_
                refine s_iload_n (n := 185) dX9_readsHouse_184 rfl rfl rfl ?_
                refine s_iadd (n := 186) dX9_readsHouse_185 rfl ?_
                refine s_aload_n (n := 187) dX9_readsHouse_186 rfl rfl rfl ?_
                refine s_geti (n := 190) dX9_readsHouse_187 rfl fl_X9_111 rfl rfl ?_
                rw [hv5]
                refine s_iastore (1053 + (27 + a_cn t)) (n := 191) dX9_readsHouse_190 rfl rfl ((ix2m (c := 1080) rfl).trans (congrArg nI (by omega))) (by omega) ?_
                have hU5a : TM (m_up g5 79 (1053 + (27 + a_cn t)) v5) 1053 _ := ((hU3b.mR hf4).mR hf5).tj (27 + a_cn t) v5
                refine s_aload_n (n := 192) dX9_readsHouse_191 rfl rfl rfl ?_
                refine s_getr (k2 := 79) (n := 195) dX9_readsHouse_192 rfl fl_X9_7 rfl rfl rfl ?_
                refine s_sipush (v := 1054) (n := 198) dX9_readsHouse_195 rfl (by decide) ?_
                refine s_dup2 (n := 199) dX9_readsHouse_198 rfl rfl rfl ?_
                refine s_iaload 1054 (n := 200) dX9_readsHouse_199 rfl rfl rfl (by decide) ?_
                rw [show (m_up g5 79 (1053 + (27 + a_cn t)) v5) 79 1054 = nI (a_cn t) from (hU5a 1 (by decide)).trans (by rw [upd_ne (by omega), upd_ne (by omega), upd_ne (by omega), upd_ne (by omega)]; exact hcn.1)]
                refine s_iconst (v := 1) (n := 201) dX9_readsHouse_200 rfl (by decide) ?_
                refine s_iadd (n := 202) dX9_readsHouse_201 rfl ?_
                rw [nI_1]
                refine s_iastore 1054 (n := 203) dX9_readsHouse_202 rfl rfl rfl (by decide) ?_
                have hU5b : TM (m_up (m_up g5 79 (1053 + (27 + a_cn t)) v5) 79 1054 (nI (a_cn t + 1))) 1053 (addH t (kOf (pkB L f at_)) v1 v3 v5) := hU5a.tj 1 _
                have hT5b : MT (m_up (m_up g5 79 (1053 + (27 + a_cn t)) v5) 79 1054 (nI (a_cn t + 1))) L f a5 := hT5.t.t
                have hF5s : M_rd g5 (m_up (m_up g5 79 (1053 + (27 + a_cn t)) v5) 79 1054 (nI (a_cn t + 1))) := (M_rd.t (by omega)).tr (M_rd.t (by decide))
                refine s_aload_n (n := 204) dX9_readsHouse_203 rfl rfl rfl ?_
                refine s_bipush (v := 59) (n := 206) dX9_readsHouse_204 rfl (by decide) ?_
                refine s_cv1 (n := 209) dX9_readsHouse_206 rfl mo_X9_sign ml_X9_114 rfl (by decide) rfl rfl (Nat.le_of_ble_eq_true rfl) (Nat.le_of_ble_eq_true rfl) (c_X9_sign hT5b 59 (by decide) (fun e6 g6 hf6 hT6 => ?_) (fun e6 g6 hf6 hE6 => ?_))
                · dsimp only [m_push]
                  refine s_ireturn dX9_readsHouse_209 rfl (by decide +kernel) ?_
                  exact k1 (a5 + 1, addH t (kOf (pkB L f at_)) v1 v3 v5) (by unfold rdH; rw [if_neg hk0, if_neg hc6]; rw [e1]; dsimp only; rw [e2]; dsimp only; rw [e3]; dsimp only; rw [if_pos hs]; rw [e4]; dsimp only; rw [e5]; dsimp only; rw [e6]) g6 ((((((((hF0.tr hf1.rd).tr hf2.rd).tr hf3.rd).tr hF3s).tr hf4.rd).tr hf5.rd).tr hF5s).tr hf6.rd) hT6 (hU5b.mR hf6)
                · dsimp only [m_push]
                  refine s_ireturn dX9_readsHouse_209 rfl (by decide +kernel) ?_
                  exact k0 _ (by unfold rdH; rw [if_neg hk0, if_neg hc6]; rw [e1]; dsimp only; rw [e2]; dsimp only; rw [e3]; dsimp only; rw [if_pos hs]; rw [e4]; dsimp only; rw [e5]; dsimp only; rw [e6]) g6 ((((((((hF0.tr hf1.rd).tr hf2.rd).tr hf3.rd).tr hF3s).tr hf4.rd).tr hf5.rd).tr hF5s).tr hf6.rd) hE6
              · dsimp only [m_push]
                refine s_if_ne (n := 175) (t := 177) dX9_readsHouse_172 (by decide) rfl (fun h => absurd h (by decide)) (fun _ => ?_)
                refine s_iconst (v := 0) (n := 176) dX9_readsHouse_175 rfl (by decide) ?_
                refine s_ireturn dX9_readsHouse_176 rfl (by decide +kernel) ?_
                exact k0 _ (by unfold rdH; rw [if_neg hk0, if_neg hc6]; rw [e1]; dsimp only; rw [e2]; dsimp only; rw [e3]; dsimp only; rw [if_pos hs]; rw [e4]; dsimp only; rw [e5]) g5 ((((((hF0.tr hf1.rd).tr hf2.rd).tr hf3.rd).tr hF3s).tr hf4.rd).tr hf5.rd) hE5
            · dsimp only [m_push]
              refine s_if_eq (n := 166) (t := 175) dX9_readsHouse_163 (by decide) rfl (fun _ => ?_) (fun h => absurd h (by decide))
              refine s_iconst (v := 0) (n := 176) dX9_readsHouse_175 rfl (by decide) ?_
              refine s_ireturn dX9_readsHouse_176 rfl (by decide +kernel) ?_
              exact k0 _ (by unfold rdH; rw [if_neg hk0, if_neg hc6]; rw [e1]; dsimp only; rw [e2]; dsimp only; rw [e3]; dsimp only; rw [if_pos hs]; rw [e4]) g4 (((((hF0.tr hf1.rd).tr hf2.rd).tr hf3.rd).tr hF3s).tr hf4.rd) hE4
          · have hs : ¬ sAt t v1 v3 = none := fun q => h118 ((eM_none sAt6).mpr q)
            refine s_aload_n (n := 122) dX9_readsHouse_121 rfl rfl rfl ?_
            refine s_iload_n (n := 123) dX9_readsHouse_122 rfl rfl rfl ?_
            refine s_puti (n := 126) dX9_readsHouse_123 rfl fl_X9_92 rfl rfl rfl ?_
            refine s_aload_n (n := 127) dX9_readsHouse_126 rfl rfl rfl ?_
            refine s_iconst (v := 2) (n := 128) dX9_readsHouse_127 rfl (by decide) ?_
            refine s_cv1 (n := 131) dX9_readsHouse_128 rfl mo_X9_refuse ml_X9_105 rfl (by decide) rfl rfl (Nat.le_of_ble_eq_true rfl) (Nat.le_of_ble_eq_true rfl) (c_X9_refuse _ ?_)
            dsimp only [m_push]
            refine s_ireturn dX9_readsHouse_131 rfl (by decide +kernel) ?_
            exact k0 (2, a1 + 1) (by unfold rdH; rw [if_neg hk0, if_neg hc6]; rw [e1]; dsimp only; rw [e2]; dsimp only; rw [e3]; dsimp only; rw [if_neg hs]) _ (((((hF0.tr hf1.rd).tr hf2.rd).tr hf3.rd).tr (mR.up (by omega)).rd).tr (mR.up (by omega)).rd) ⟨by rw [m_up_k, if_pos rfl], by rw [m_up_k, if_neg (by decide), m_up_k, if_pos rfl]⟩
        · dsimp only [m_push]
          refine s_if_ne (n := 102) (t := 104) dX9_readsHouse_99 (by decide) rfl (fun h => absurd h (by decide)) (fun _ => ?_)
          refine s_iconst (v := 0) (n := 103) dX9_readsHouse_102 rfl (by decide) ?_
          refine s_ireturn dX9_readsHouse_103 rfl (by decide +kernel) ?_
          exact k0 _ (by unfold rdH; rw [if_neg hk0, if_neg hc6]; rw [e1]; dsimp only; rw [e2]; dsimp only; rw [e3]) g3 (((hF0.tr hf1.rd).tr hf2.rd).tr hf3.rd) hE3
      · dsimp only [m_push]
        refine s_if_ne (n := 85) (t := 87) dX9_readsHouse_82 (by decide) rfl (fun h => absurd h (by decide)) (fun _ => ?_)
        refine s_iconst (v := 0) (n := 86) dX9_readsHouse_85 rfl (by decide) ?_
        refine s_ireturn dX9_readsHouse_86 rfl (by decide +kernel) ?_
        exact k0 _ (by unfold rdH; rw [if_neg hk0, if_neg hc6]; rw [e1]; dsimp only; rw [e2]) g2 ((hF0.tr hf1.rd).tr hf2.rd) hE2
    · dsimp only [m_push]
      refine s_if_ne (n := 69) (t := 71) dX9_readsHouse_66 (by decide) rfl (fun h => absurd h (by decide)) (fun _ => ?_)
      refine s_iconst (v := 0) (n := 70) dX9_readsHouse_69 rfl (by decide) ?_
      refine s_ireturn dX9_readsHouse_70 rfl (by decide +kernel) ?_
      exact k0 _ (by unfold rdH; rw [if_neg hk0, if_neg hc6]; rw [e1]) g1 (hF0.tr hf1.rd) hE1
  · refine s_aload_n (n := 16) dX9_readsHouse_15 rfl rfl rfl ?_
    refine s_iconst (v := 3) (n := 17) dX9_readsHouse_16 rfl (by decide) ?_
    refine s_cv1 (n := 20) dX9_readsHouse_17 rfl mo_X9_refuse ml_X9_105 rfl (by decide) rfl rfl (Nat.le_of_ble_eq_true rfl) (Nat.le_of_ble_eq_true rfl) (c_X9_refuse _ ?_)
    dsimp only [m_push]
    refine s_ireturn dX9_readsHouse_20 rfl (by decide +kernel) ?_
    have hc6 : a_cn t = 6 := by
      have := congrArg Int32.toInt h12
      rw [nI_toInt (by omega)] at this
      have e6 : (6 : Int32).toInt = 6 := rfl
      omega
    exact k0 (3, at_) (by unfold rdH; rw [if_neg hk0, if_pos hc6]) _ (mR.up (by omega)).rd (MF.mk' hT)
