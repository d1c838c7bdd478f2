set_option maxHeartbeats 4000000 in
theorem lp_L_law {SL d : Nat} {Q : Option Int32 → m_G → Prop} (hSL : SL ≤ 384) (hQ : ∀ g, Q (some 1) g) : ∀ (n i : Nat) (g : m_G) (a : a_S), SL ≤ i + 6 * n → i ≤ SL + 5 → a_OK a → C_R g a → M_R g a → K_S g → Sim SL (d + 9) yL_law cL_law 4 (some .boolean) 18 [.ref 200, .ref 0, .ref 78, .int (nI i)] [] g Q := by
  intro n
  induction n with
  | zero =>
    intro i g a hin hi hA hC hM hKS
    refine s_iload_n (n := 19) dL_law_18 rfl rfl rfl ?_
    refine s_aload_n (n := 20) dL_law_19 rfl rfl rfl ?_
    refine s_tlen (n := 21) dL_law_20 rfl (List.mem_of_getElem? (i := 0) rfl) rfl ?_
    refine s_bipush (v := 6) (n := 23) dL_law_21 rfl (by decide) ?_
    refine s_isub (n := 24) dL_law_23 rfl ?_
    refine s_icmp_gt (n := 27) (t := 1306) dL_law_24 (by decide) rfl (fun h24 => ?_) (fun h24 => ?_)
    · refine s_iconst (v := 1) (n := 1307) dL_law_1306 rfl (by decide) ?_
      refine s_ireturn dL_law_1307 rfl (by decide +kernel) ?_
      exact hQ g
    · exact absurd ((lw_ix hSL hi).mpr (by omega)) h24
  | succ n ih =>
    intro i g a hin hi hA hC hM hKS
    refine s_iload_n (n := 19) dL_law_18 rfl rfl rfl ?_
    refine s_aload_n (n := 20) dL_law_19 rfl rfl rfl ?_
    refine s_tlen (n := 21) dL_law_20 rfl (List.mem_of_getElem? (i := 0) rfl) rfl ?_
    refine s_bipush (v := 6) (n := 23) dL_law_21 rfl (by decide) ?_
    refine s_isub (n := 24) dL_law_23 rfl ?_
    refine s_icmp_gt (n := 27) (t := 1306) dL_law_24 (by decide) rfl (fun h24 => ?_) (fun h24 => ?_)
    · refine s_iconst (v := 1) (n := 1307) dL_law_1306 rfl (by decide) ?_
      refine s_ireturn dL_law_1307 rfl (by decide +kernel) ?_
      exact hQ g
    · have h6 : i + 6 ≤ SL := Classical.byContradiction fun z => h24 ((lw_ix hSL hi).mpr (by omega))
      have kk : ∀ g3 a3, a_OK a3 → C_R g3 a3 → M_R g3 a3 → K_S g3 → Sim SL (d + 9) yL_law cL_law 4 (some .boolean) 1300 [.ref 200, .ref 0, .ref 78, .int (nI i)] [] g3 Q := by
        intro g3 a3 h3 hC3 hM3 hK3
        refine s_iinc (n := 1303) (v := nI (i + 6)) dL_law_1300 rfl (by decide) rfl rfl (nI_add i 6) rfl ?_
        refine s_goto (t := 18) dL_law_1303 (by decide) ?_
        exact ih (i + 6) g3 a3 (by omega) (by omega) h3 hC3 hM3 hK3
      refine s_aload_n (n := 28) dL_law_27 rfl rfl rfl ?_
      refine s_iload_n (n := 29) dL_law_28 rfl rfl rfl ?_
      refine s_tload i (n := 30) dL_law_29 rfl (List.mem_of_getElem? (i := 0) rfl) (by omega) rfl (by omega) ?_
      refine s_bipush (v := 63) (n := 32) dL_law_30 rfl (by decide) ?_
      refine s_iand (n := 33) dL_law_32 rfl ?_
      by_cases hs33_0 : g 200 i &&& 63 = 0
      · rw [hs33_0]
        refine s_tsw_in (t := 192) dL_law_33 (by decide) (by decide) rfl (by decide) ?_
        exact st_L_row hSL h6 hA hC hM hKS kk
      by_cases hs33_1 : g 200 i &&& 63 = 1
      · rw [hs33_1]
        refine s_tsw_in (t := 235) dL_law_33 (by decide) (by decide) rfl (by decide) ?_
        exact st_L_set hSL h6 hA hC hM hKS kk
      by_cases hs33_2 : g 200 i &&& 63 = 2
      · rw [hs33_2]
        refine s_tsw_in (t := 278) dL_law_33 (by decide) (by decide) rfl (by decide) ?_
        exact st_L_copy hSL h6 hA hC hM hKS kk
      by_cases hs33_3 : g 200 i &&& 63 = 3
      · rw [hs33_3]
        refine s_tsw_in (t := 341) dL_law_33 (by decide) (by decide) rfl (by decide) ?_
        exact st_L_drop hSL h6 hA hC hM hKS kk
      by_cases hs33_4 : g 200 i &&& 63 = 4
      · rw [hs33_4]
        refine s_tsw_in (t := 364) dL_law_33 (by decide) (by decide) rfl (by decide) ?_
        exact st_L_feed hSL h6 hA hC hM hKS kk
      by_cases hs33_5 : g 200 i &&& 63 = 5
      · rw [hs33_5]
        refine s_tsw_in (t := 387) dL_law_33 (by decide) (by decide) rfl (by decide) ?_
        exact st_L_hill hSL h6 hA hC hM hKS kk
      by_cases hs33_6 : g 200 i &&& 63 = 6
      · rw [hs33_6]
        refine s_tsw_in (t := 400) dL_law_33 (by decide) (by decide) rfl (by decide) ?_
        exact st_L_fault hSL h6 hA hC hM hKS kk
      by_cases hs33_7 : g 200 i &&& 63 = 7
      · rw [hs33_7]
        refine s_tsw_in (t := 413) dL_law_33 (by decide) (by decide) rfl (by decide) ?_
        exact st_L_years hSL h6 hA hC hM hKS kk
      by_cases hs33_8 : g 200 i &&& 63 = 8
      · rw [hs33_8]
        refine s_tsw_in (t := 436) dL_law_33 (by decide) (by decide) rfl (by decide) ?_
        exact st_L_door hSL h6 hA hC hM hKS kk
      by_cases hs33_9 : g 200 i &&& 63 = 9
      · rw [hs33_9]
        refine s_tsw_in (t := 469) dL_law_33 (by decide) (by decide) rfl (by decide) ?_
        exact st_L_build hSL h6 hA hC hM hKS kk
      by_cases hs33_10 : g 200 i &&& 63 = 10
      · rw [hs33_10]
        refine s_tsw_in (t := 512) dL_law_33 (by decide) (by decide) rfl (by decide) ?_
        exact st_L_speed hSL h6 hA hC hM hKS kk
      by_cases hs33_11 : g 200 i &&& 63 = 11
      · rw [hs33_11]
        refine s_tsw_in (t := 535) dL_law_33 (by decide) (by decide) rfl (by decide) ?_
        exact st_L_undo hSL h6 hA hC hM hKS kk
      by_cases hs33_12 : g 200 i &&& 63 = 12
      · rw [hs33_12]
        refine s_tsw_in (t := 548) dL_law_33 (by decide) (by decide) rfl (by decide) ?_
        exact st_L_house hSL h6 hA hC hM hKS kk
      by_cases hs33_13 : g 200 i &&& 63 = 13
      · rw [hs33_13]
        refine s_tsw_in (t := 581) dL_law_33 (by decide) (by decide) rfl (by decide) ?_
        exact st_L_at hSL h6 hA hC hM hKS kk
      by_cases hs33_14 : g 200 i &&& 63 = 14
      · rw [hs33_14]
        refine s_tsw_in (t := 614) dL_law_33 (by decide) (by decide) rfl (by decide) ?_
        exact st_L_rests hSL h6 hA hC hM hKS kk
      by_cases hs33_15 : g 200 i &&& 63 = 15
      · rw [hs33_15]
        refine s_tsw_in (t := 637) dL_law_33 (by decide) (by decide) rfl (by decide) ?_
        exact st_L_line hSL h6 hA hC hM hKS kk
      by_cases hs33_16 : g 200 i &&& 63 = 16
      · rw [hs33_16]
        refine s_tsw_in (t := 670) dL_law_33 (by decide) (by decide) rfl (by decide) ?_
        exact st_L_left hSL h6 hA hC hM hKS kk
      by_cases hs33_17 : g 200 i &&& 63 = 17
      · rw [hs33_17]
        refine s_tsw_in (t := 693) dL_law_33 (by decide) (by decide) rfl (by decide) ?_
        exact st_L_next hSL h6 hA hC hM hKS kk
      by_cases hs33_18 : g 200 i &&& 63 = 18
      · rw [hs33_18]
        refine s_tsw_in (t := 716) dL_law_33 (by decide) (by decide) rfl (by decide) ?_
        exact st_L_often hSL h6 hA hC hM hKS kk
      by_cases hs33_19 : g 200 i &&& 63 = 19
      · rw [hs33_19]
        refine s_tsw_in (t := 749) dL_law_33 (by decide) (by decide) rfl (by decide) ?_
        exact st_L_aim hSL h6 hA hC hM hKS kk
      by_cases hs33_20 : g 200 i &&& 63 = 20
      · rw [hs33_20]
        refine s_tsw_in (t := 792) dL_law_33 (by decide) (by decide) rfl (by decide) ?_
        exact st_L_shun hSL h6 hA hC hM hKS kk
      by_cases hs33_21 : g 200 i &&& 63 = 21
      · rw [hs33_21]
        refine s_tsw_in (t := 835) dL_law_33 (by decide) (by decide) rfl (by decide) ?_
        exact st_L_site hSL h6 hA hC hM hKS kk
      by_cases hs33_22 : g 200 i &&& 63 = 22
      · rw [hs33_22]
        refine s_tsw_in (t := 878) dL_law_33 (by decide) (by decide) rfl (by decide) ?_
        exact st_L_sulks hSL h6 hA hC hM hKS kk
      by_cases hs33_23 : g 200 i &&& 63 = 23
      · rw [hs33_23]
        refine s_tsw_in (t := 891) dL_law_33 (by decide) (by decide) rfl (by decide) ?_
        exact st_L_peace hSL h6 hA hC hM hKS kk
      by_cases hs33_24 : g 200 i &&& 63 = 24
      · rw [hs33_24]
        refine s_tsw_in (t := 914) dL_law_33 (by decide) (by decide) rfl (by decide) ?_
        exact st_L_rolls hSL h6 hA hC hM hKS kk
      by_cases hs33_25 : g 200 i &&& 63 = 25
      · rw [hs33_25]
        refine s_tsw_in (t := 967) dL_law_33 (by decide) (by decide) rfl (by decide) ?_
        exact st_L_sorts hSL h6 hA hC hM hKS kk
      by_cases hs33_26 : g 200 i &&& 63 = 26
      · rw [hs33_26]
        refine s_tsw_in (t := 1020) dL_law_33 (by decide) (by decide) rfl (by decide) ?_
        exact st_L_play hSL h6 hA hC hM hKS kk
      by_cases hs33_27 : g 200 i &&& 63 = 27
      · rw [hs33_27]
        refine s_tsw_in (t := 1063) dL_law_33 (by decide) (by decide) rfl (by decide) ?_
        exact st_L_drawn hSL h6 hA hC hM hKS kk
      by_cases hs33_28 : g 200 i &&& 63 = 28
      · rw [hs33_28]
        refine s_tsw_in (t := 1106) dL_law_33 (by decide) (by decide) rfl (by decide) ?_
        exact st_L_image hSL h6 hA hC hM hKS kk
      by_cases hs33_29 : g 200 i &&& 63 = 29
      · rw [hs33_29]
        refine s_tsw_in (t := 1129) dL_law_33 (by decide) (by decide) rfl (by decide) ?_
        exact st_L_restore hSL h6 hA hC hM hKS kk
      by_cases hs33_30 : g 200 i &&& 63 = 30
      · rw [hs33_30]
        refine s_tsw_in (t := 1152) dL_law_33 (by decide) (by decide) rfl (by decide) ?_
        exact st_L_kind hSL h6 hA hC hM hKS kk
      by_cases hs33_31 : g 200 i &&& 63 = 31
      · rw [hs33_31]
        refine s_tsw_in (t := 1175) dL_law_33 (by decide) (by decide) rfl (by decide) ?_
        exact st_L_as hSL h6 hA hC hM hKS kk
      by_cases hs33_32 : g 200 i &&& 63 = 32
      · rw [hs33_32]
        refine s_tsw_in (t := 1208) dL_law_33 (by decide) (by decide) rfl (by decide) ?_
        exact st_L_ask hSL h6 hA hC hM hKS kk
      by_cases hs33_33 : g 200 i &&& 63 = 33
      · rw [hs33_33]
        refine s_tsw_in (t := 1241) dL_law_33 (by decide) (by decide) rfl (by decide) ?_
        exact st_L_trace hSL h6 hA hC hM hKS kk
      by_cases hs33_34 : g 200 i &&& 63 = 34
      · rw [hs33_34]
        refine s_tsw_in (t := 1264) dL_law_33 (by decide) (by decide) rfl (by decide) ?_
        exact st_L_count hSL h6 hA hC hM hKS kk
      by_cases hs33_35 : g 200 i &&& 63 = 35
      · rw [hs33_35]
        refine s_tsw_in (t := 1287) dL_law_33 (by decide) (by decide) rfl (by decide) ?_
        exact st_L_status hSL h6 hA hC hM hKS kk
      refine s_tsw_out (t := 1300) dL_law_33 (by have q : ∀ z : Int32, g 200 i &&& 63 ≠ z → ¬ (g 200 i &&& 63).toInt = z.toInt := (fun z h e => h (Int32.toInt_inj.mp e)); have q0 : ¬ (g 200 i &&& 63).toInt = 0 := q 0 hs33_0; have q1 : ¬ (g 200 i &&& 63).toInt = 1 := q 1 hs33_1; have q2 : ¬ (g 200 i &&& 63).toInt = 2 := q 2 hs33_2; have q3 : ¬ (g 200 i &&& 63).toInt = 3 := q 3 hs33_3; have q4 : ¬ (g 200 i &&& 63).toInt = 4 := q 4 hs33_4; have q5 : ¬ (g 200 i &&& 63).toInt = 5 := q 5 hs33_5; have q6 : ¬ (g 200 i &&& 63).toInt = 6 := q 6 hs33_6; have q7 : ¬ (g 200 i &&& 63).toInt = 7 := q 7 hs33_7; have q8 : ¬ (g 200 i &&& 63).toInt = 8 := q 8 hs33_8; have q9 : ¬ (g 200 i &&& 63).toInt = 9 := q 9 hs33_9; have q10 : ¬ (g 200 i &&& 63).toInt = 10 := q 10 hs33_10; have q11 : ¬ (g 200 i &&& 63).toInt = 11 := q 11 hs33_11; have q12 : ¬ (g 200 i &&& 63).toInt = 12 := q 12 hs33_12; have q13 : ¬ (g 200 i &&& 63).toInt = 13 := q 13 hs33_13; have q14 : ¬ (g 200 i &&& 63).toInt = 14 := q 14 hs33_14; have q15 : ¬ (g 200 i &&& 63).toInt = 15 := q 15 hs33_15; have q16 : ¬ (g 200 i &&& 63).toInt = 16 := q 16 hs33_16; have q17 : ¬ (g 200 i &&& 63).toInt = 17 := q 17 hs33_17; have q18 : ¬ (g 200 i &&& 63).toInt = 18 := q 18 hs33_18; have q19 : ¬ (g 200 i &&& 63).toInt = 19 := q 19 hs33_19; have q20 : ¬ (g 200 i &&& 63).toInt = 20 := q 20 hs33_20; have q21 : ¬ (g 200 i &&& 63).toInt = 21 := q 21 hs33_21; have q22 : ¬ (g 200 i &&& 63).toInt = 22 := q 22 hs33_22; have q23 : ¬ (g 200 i &&& 63).toInt = 23 := q 23 hs33_23; have q24 : ¬ (g 200 i &&& 63).toInt = 24 := q 24 hs33_24; have q25 : ¬ (g 200 i &&& 63).toInt = 25 := q 25 hs33_25; have q26 : ¬ (g 200 i &&& 63).toInt = 26 := q 26 hs33_26; have q27 : ¬ (g 200 i &&& 63).toInt = 27 := q 27 hs33_27; have q28 : ¬ (g 200 i &&& 63).toInt = 28 := q 28 hs33_28; have q29 : ¬ (g 200 i &&& 63).toInt = 29 := q 29 hs33_29; have q30 : ¬ (g 200 i &&& 63).toInt = 30 := q 30 hs33_30; have q31 : ¬ (g 200 i &&& 63).toInt = 31 := q 31 hs33_31; have q32 : ¬ (g 200 i &&& 63).toInt = 32 := q 32 hs33_32; have q33 : ¬ (g 200 i &&& 63).toInt = 33 := q 33 hs33_33; have q34 : ¬ (g 200 i &&& 63).toInt = 34 := q 34 hs33_34; have q35 : ¬ (g 200 i &&& 63).toInt = 35 := q 35 hs33_35; omega) (by decide) ?_
      exact kk g a hA hC hM hKS
