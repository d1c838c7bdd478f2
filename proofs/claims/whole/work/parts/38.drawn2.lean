theorem goF_00 {t : m_T} : ∀ (n i : Nat), i + n ≤ 6 → goF (dwT t 0 (fun _ => 0)) n i 0 = 0
  | 0, _, _ => rfl
  | n + 1, i, h => by
    unfold goF
    rw [dwT_g (i := i) (by omega)]
    split
    · rfl
    · exact goF_00 n (i + 1) (by omega)
theorem lp_X9_drawnEnd {SL d : Nat} {Q : Option Int32 → m_G → Prop} {g : m_G} {nI_ sd w ov : Int32} {X : Int64} {f : Nat → Nat} (hF : ∀ i, i < 6 → g 92 i = nI (f i)) (hfb : ∀ i, f i ≤ 60) : ∀ (n i : Nat) (b : Nat × Option Nat), i + n = 6 → b.1 ≤ 60 → Q (some (if w = 0 then ov else eM (mfF f n i b).2)) g → Sim SL (d + 3) yX9_drawn cX9_drawn 10 (some .int) 200 [.ref 78, .int nI_, .int sd, .int w, .long X, .null, .int ov, .int (eM b.2), .int (nI b.1), .int (nI i)] [] g Q := by
  intro n
  induction n with
  | zero =>
    intro i b hin hb6 hQ
    have hi : i = 6 := by omega
    subst hi
    refine s_iload (n := 202) dX9_drawn_200 rfl rfl ?_
    refine s_bipush (v := 6) (n := 204) dX9_drawn_202 rfl (by decide) ?_
    refine s_icmp_ge (n := 207) (t := 260) dX9_drawn_204 (by decide) rfl (fun h204 => ?_) (fun h204 => ?_)
    · refine s_iload_n (n := 261) dX9_drawn_260 rfl rfl rfl ?_
      refine s_if_ne (n := 264) (t := 269) dX9_drawn_261 (by decide) rfl (fun h261 => ?_) (fun h261 => ?_)
      · refine s_iload (n := 271) dX9_drawn_269 rfl rfl ?_
        refine s_ireturn dX9_drawn_271 rfl rfl ?_
        first
        | (rw [if_pos h261] at hQ; exact hQ)
        | (rw [if_neg h261] at hQ; exact hQ)
      · refine s_iload (n := 266) dX9_drawn_264 rfl rfl ?_
        refine s_goto (t := 271) dX9_drawn_266 (by decide) ?_
        refine s_ireturn dX9_drawn_271 rfl rfl ?_
        first
        | (rw [if_pos h261] at hQ; exact hQ)
        | (rw [if_neg h261] at hQ; exact hQ)
    · exact absurd (by decide) h204
  | succ n ih =>
    intro i b hin hb6 hQ
    have hi : i < 6 := by omega
    refine s_iload (n := 202) dX9_drawn_200 rfl rfl ?_
    refine s_bipush (v := 6) (n := 204) dX9_drawn_202 rfl (by decide) ?_
    refine s_icmp_ge (n := 207) (t := 260) dX9_drawn_204 (by decide) rfl (fun h204 => ?_) (fun h204 => ?_)
    · exact absurd h204 (nI_ge hi (by decide))
    · refine s_aload_n (n := 208) dX9_drawn_207 rfl rfl rfl ?_
      refine s_getr (k2 := 92) (n := 211) dX9_drawn_208 rfl fl_X9_50 rfl rfl rfl ?_
      refine s_iload (n := 213) dX9_drawn_211 rfl rfl ?_
      refine s_iaload i (n := 214) dX9_drawn_213 rfl rfl rfl hi ?_
      rw [hF i hi]
      refine s_iload (n := 216) dX9_drawn_214 rfl rfl ?_
      refine s_icmp_le (n := 219) (t := 224) dX9_drawn_216 (by decide) rfl (fun h216 => ?_) (fun h216 => ?_)
      · refine s_iload (n := 226) dX9_drawn_224 rfl rfl ?_
        refine s_istore (n := 228) dX9_drawn_226 rfl (by decide) rfl rfl ?_
        refine s_aload_n (n := 229) dX9_drawn_228 rfl rfl rfl ?_
        refine s_getr (k2 := 92) (n := 232) dX9_drawn_229 rfl fl_X9_50 rfl rfl rfl ?_
        refine s_iload (n := 234) dX9_drawn_232 rfl rfl ?_
        refine s_iaload i (n := 235) dX9_drawn_234 rfl rfl rfl hi ?_
        rw [hF i hi]
        refine s_iload (n := 237) dX9_drawn_235 rfl rfl ?_
        refine s_icmp_le (n := 240) (t := 250) dX9_drawn_237 (by decide) rfl (fun h237 => ?_) (fun h237 => ?_)
        · refine s_iload (n := 252) dX9_drawn_250 rfl rfl ?_
          refine s_istore (n := 254) dX9_drawn_252 rfl (by decide) rfl rfl ?_
          refine s_iinc (n := 257) (v := nI (i + 1)) dX9_drawn_254 rfl (by decide) rfl rfl (nI_1 i) rfl ?_
          refine s_goto (t := 200) dX9_drawn_257 (by decide) ?_
          first
          | exact absurd h216 h237
          | exact absurd h237 h216
          | (unfold mfF at hQ
             rw [if_neg (show ¬ b.1 < f i from fun z => absurd h216 (nI_ge z (by have := hfb i; omega)))] at hQ
             exact ih (i + 1) b (by omega) hb6 hQ)
          | (unfold mfF at hQ
             rw [if_pos (show b.1 < f i by
               rcases Nat.lt_or_ge b.1 (f i) with z | z
               · exact z
               · exact absurd (nI_le z (by omega)) h216)] at hQ
             exact ih (i + 1) (f i, some i) (by omega) (by have := hfb i; dsimp only; omega) hQ)
        · refine s_aload_n (n := 241) dX9_drawn_240 rfl rfl rfl ?_
          refine s_getr (k2 := 92) (n := 244) dX9_drawn_241 rfl fl_X9_50 rfl rfl rfl ?_
          refine s_iload (n := 246) dX9_drawn_244 rfl rfl ?_
          refine s_iaload i (n := 247) dX9_drawn_246 rfl rfl rfl hi ?_
          rw [hF i hi]
          refine s_goto (t := 252) dX9_drawn_247 (by decide) ?_
          refine s_istore (n := 254) dX9_drawn_252 rfl (by decide) rfl rfl ?_
          refine s_iinc (n := 257) (v := nI (i + 1)) dX9_drawn_254 rfl (by decide) rfl rfl (nI_1 i) rfl ?_
          refine s_goto (t := 200) dX9_drawn_257 (by decide) ?_
          first
          | exact absurd h216 h237
          | exact absurd h237 h216
          | (unfold mfF at hQ
             rw [if_neg (show ¬ b.1 < f i from fun z => absurd h216 (nI_ge z (by have := hfb i; omega)))] at hQ
             exact ih (i + 1) b (by omega) hb6 hQ)
          | (unfold mfF at hQ
             rw [if_pos (show b.1 < f i by
               rcases Nat.lt_or_ge b.1 (f i) with z | z
               · exact z
               · exact absurd (nI_le z (by omega)) h216)] at hQ
             exact ih (i + 1) (f i, some i) (by omega) (by have := hfb i; dsimp only; omega) hQ)
      · refine s_iload (n := 221) dX9_drawn_219 rfl rfl ?_
        refine s_goto (t := 226) dX9_drawn_221 (by decide) ?_
        refine s_istore (n := 228) dX9_drawn_226 rfl (by decide) rfl rfl ?_
        refine s_aload_n (n := 229) dX9_drawn_228 rfl rfl rfl ?_
        refine s_getr (k2 := 92) (n := 232) dX9_drawn_229 rfl fl_X9_50 rfl rfl rfl ?_
        refine s_iload (n := 234) dX9_drawn_232 rfl rfl ?_
        refine s_iaload i (n := 235) dX9_drawn_234 rfl rfl rfl hi ?_
        rw [hF i hi]
        refine s_iload (n := 237) dX9_drawn_235 rfl rfl ?_
        refine s_icmp_le (n := 240) (t := 250) dX9_drawn_237 (by decide) rfl (fun h237 => ?_) (fun h237 => ?_)
        · refine s_iload (n := 252) dX9_drawn_250 rfl rfl ?_
          refine s_istore (n := 254) dX9_drawn_252 rfl (by decide) rfl rfl ?_
          refine s_iinc (n := 257) (v := nI (i + 1)) dX9_drawn_254 rfl (by decide) rfl rfl (nI_1 i) rfl ?_
          refine s_goto (t := 200) dX9_drawn_257 (by decide) ?_
          first
          | exact absurd h216 h237
          | exact absurd h237 h216
          | (unfold mfF at hQ
             rw [if_neg (show ¬ b.1 < f i from fun z => absurd h216 (nI_ge z (by have := hfb i; omega)))] at hQ
             exact ih (i + 1) b (by omega) hb6 hQ)
          | (unfold mfF at hQ
             rw [if_pos (show b.1 < f i by
               rcases Nat.lt_or_ge b.1 (f i) with z | z
               · exact z
               · exact absurd (nI_le z (by omega)) h216)] at hQ
             exact ih (i + 1) (f i, some i) (by omega) (by have := hfb i; dsimp only; omega) hQ)
        · refine s_aload_n (n := 241) dX9_drawn_240 rfl rfl rfl ?_
          refine s_getr (k2 := 92) (n := 244) dX9_drawn_241 rfl fl_X9_50 rfl rfl rfl ?_
          refine s_iload (n := 246) dX9_drawn_244 rfl rfl ?_
          refine s_iaload i (n := 247) dX9_drawn_246 rfl rfl rfl hi ?_
          rw [hF i hi]
          refine s_goto (t := 252) dX9_drawn_247 (by decide) ?_
          refine s_istore (n := 254) dX9_drawn_252 rfl (by decide) rfl rfl ?_
          refine s_iinc (n := 257) (v := nI (i + 1)) dX9_drawn_254 rfl (by decide) rfl rfl (nI_1 i) rfl ?_
          refine s_goto (t := 200) dX9_drawn_257 (by decide) ?_
          first
          | exact absurd h216 h237
          | exact absurd h237 h216
          | (unfold mfF at hQ
             rw [if_neg (show ¬ b.1 < f i from fun z => absurd h216 (nI_ge z (by have := hfb i; omega)))] at hQ
             exact ih (i + 1) b (by omega) hb6 hQ)
          | (unfold mfF at hQ
             rw [if_pos (show b.1 < f i by
               rcases Nat.lt_or_ge b.1 (f i) with z | z
               · exact z
               · exact absurd (nI_le z (by omega)) h216)] at hQ
             exact ih (i + 1) (f i, some i) (by omega) (by have := hfb i; dsimp only; omega) hQ)
set_option maxHeartbeats 1000000 in
theorem lp_X9_drawn {SL d : Nat} {Q : Option Int32 → m_G → Prop} {t : m_T} (hK : a_TK t) {nn : Nat} (hnn : nn ≤ 60) (sd w : Int32) : ∀ (n k : Nat) (g : m_G) (x8 x9 : Value) (x : Nat) (o : Int32) (f : Nat → Nat) (q : Nat), k + n = nn → x < 2147483647 → TM g 0 t → TM g 1053 (upd t 8 o) → (∀ i, i < 6 → g 92 i = nI (f i)) → goF (dwT t 0 f) 6 0 0 = nI q → (∀ g2 xf kk qf x8 x9, M_sc g g2 → (∀ i, i < 6 → g2 92 i = nI (dwF t n x o f i)) → goF (dwT t 0 (dwF t n x o f)) 6 0 0 = nI qf → Sim SL (d + 3) yX9_drawn cX9_drawn 10 (some .int) 190 [.ref 78, .int (nI nn), .int sd, .int w, .long xf, .null, .int (nI qf), .int kk, x8, x9] [] g2 Q) → Sim SL (d + 3) yX9_drawn cX9_drawn 10 (some .int) 85 [.ref 78, .int (nI nn), .int sd, .int w, .long (lN x), .null, .int (nI q), .int (nI k), x8, x9] [] g Q := by
  have hcn := (a_cnE hK.2.1).2
  intro n
  induction n with
  | zero =>
    intro k g x8 x9 x o f q hkn hx hT hR hF hG hQ
    have hk : k = nn := by omega
    subst hk
    refine s_iload (n := 87) dX9_drawn_85 rfl rfl ?_
    refine s_iload_n (n := 88) dX9_drawn_87 rfl rfl rfl ?_
    refine s_icmp_ge (n := 91) (t := 190) dX9_drawn_88 (by decide) rfl (fun h88 => ?_) (fun h88 => ?_)
    · exact hQ g _ _ _ _ _ M_sc.rf hF hG
    · exact absurd (nI_le (Nat.le_refl _) (by omega)) h88
  | succ n ih =>
    intro k g x8 x9 x o f q hkn hx hT hR hF hG hQ
    have hk : k < nn := by omega
    have hx2 := dwN_lt x
    unfold dwF at hQ
    have mid : ∀ g1, M_sc g g1 → TM g1 1053 (upd t 8 (dwO t o (dwN x))) → (∀ i, i < 6 → g1 92 i = nI (f i)) → Sim SL (d + 3) yX9_drawn cX9_drawn 10 (some .int) 147 [.ref 78, .int (nI nn), .int sd, .int w, .long (lN (dwN x)), .null, .int (nI q), .int (nI k), x8, x9] [] g1 Q := by
      intro g1 hfr1 hR1 hF1
      have hK2 := hK.op (dwO t o (dwN x))
      refine s_aload_n (n := 148) dX9_drawn_147 rfl rfl rfl ?_
      refine s_sipush (v := 1053) (n := 151) dX9_drawn_148 rfl (by decide) ?_
      refine s_lload (n := 153) dX9_drawn_151 rfl rfl ?_
      refine s_ldc2 (n := 156) dX9_drawn_153 rfl kc_X9_58 ?_
      refine s_lrem (n := 157) dX9_drawn_156 rfl (by decide) ?_
      refine s_l2i (n := 158) dX9_drawn_157 rfl ?_
      rw [dw_7 hx2]
      refine s_cv2 (n := 161) dX9_drawn_158 rfl mo_X9_goes ml_X9_179 rfl (by decide) rfl rfl (Nat.le_of_ble_eq_true rfl) (Nat.le_of_ble_eq_true rfl) (c_X9_goes (b := 1053) (by decide) hR1 hK2.t0 hK2.t1 hK2.t6 hK2.kd hK2.t4 _ (fun g2 hf _ _ => ?_))
      have hfr2 : M_sc g g2 := hfr1.tr hf.sc
      have hR2 := hR1.fr hf
      have hF2 : ∀ i, i < 6 → g2 92 i = nI (f i) := fun i hi => by rw [hf.1 92 (by decide)]; exact hF1 i hi
      dsimp only [m_push]
      rcases ho : (sRun (upd t 8 (dwO t o (dwN x))) (nI (dwN x % 7))).1 with _ | h9
      · dsimp only [eM]
        have hd : dwR t (dwO t o (dwN x)) (dwN x) = none := ho
        rw [hd] at hQ
        refine s_istore (n := 163) dX9_drawn_161 rfl (by decide) rfl rfl ?_
        refine s_iload (n := 165) dX9_drawn_163 rfl rfl ?_
        refine s_ldc (n := 167) dX9_drawn_165 rfl kc_X9_128 ?_
        refine s_icmp_eq (n := 170) (t := 184) dX9_drawn_167 (by decide) rfl (fun _ => ?_) (fun h => absurd h (by decide))
        refine s_iinc (n := 187) (v := nI (k + 1)) dX9_drawn_184 rfl (by decide) rfl rfl (nI_1 k) rfl ?_
        refine s_goto (t := 85) dX9_drawn_187 (by decide) ?_
        first
        | (have hfr3 := hfr2
           have hR3 := hR2
           have hF3 := hF2
           have hG3 := hG
           exact ih (k + 1) _ _ _ (dwN x) (dwO t o (dwN x)) f q (by omega) hx2 (hfr3.m0 hT) hR3 hF3 hG3 (fun g4 xf kk qf y8 y9 hf4 a1 a2 => hQ g4 xf kk qf y8 y9 (hfr3.tr hf4) a1 a2))
        | (have hfr3 : M_sc g (m_up g2 92 h9 (nI (f h9 + 1))) := hfr2.tr ⟨m_fr.up (by decide), fun i _ _ _ _ => by rw [m_up_o (by decide)], fun i _ => by rw [m_up_o (by decide)]⟩
           have hR3 : TM (m_up g2 92 h9 (nI (f h9 + 1))) 1053 (upd t 8 (dwO t o (dwN x))) := hR2.kept (fun j _ => by rw [m_up_o (by decide)])
           have hF3 : ∀ i, i < 6 → (m_up g2 92 h9 (nI (f h9 + 1))) 92 i = nI (dwU (some h9) f i) := fun i hi => by
             rw [m_up_k]
             unfold dwU
             dsimp only
             by_cases e : i = h9
             · subst e; rw [if_pos rfl, if_pos rfl]
             · rw [if_neg e, if_neg e]; exact hF2 i hi
           have hG3 : goF (dwT t 0 (dwU (some h9) f)) 6 0 0 = nI (q + 1) := by
             rw [(goF_up hc9 6 0 0 (by decide)).1 (Nat.zero_le _) (by omega), hG, nI_1]
           exact ih (k + 1) _ _ _ (dwN x) (dwO t o (dwN x)) (dwU (some h9) f) (q + 1) (by omega) hx2 (hfr3.m0 hT) hR3 hF3 hG3 (fun g4 xf kk qf y8 y9 hf4 a1 a2 => hQ g4 xf kk qf y8 y9 (hfr3.tr hf4) a1 a2))
      · dsimp only [eM]
        have hd : dwR t (dwO t o (dwN x)) (dwN x) = some h9 := ho
        obtain ⟨hh9, hc9⟩ := sRun_lt ho
        rw [upd_ne (by decide)] at hc9
        rw [hd] at hQ
        refine s_istore (n := 163) dX9_drawn_161 rfl (by decide) rfl rfl ?_
        refine s_iload (n := 165) dX9_drawn_163 rfl rfl ?_
        refine s_ldc (n := 167) dX9_drawn_165 rfl kc_X9_128 ?_
        refine s_icmp_eq (n := 170) (t := 184) dX9_drawn_167 (by decide) rfl (fun h167 => ?_) (fun h167 => ?_)
        · exact absurd h167 (eM_ne hh9)
        · refine s_aload_n (n := 171) dX9_drawn_170 rfl rfl rfl ?_
          refine s_getr (k2 := 92) (n := 174) dX9_drawn_171 rfl fl_X9_50 rfl rfl rfl ?_
          refine s_iload (n := 176) dX9_drawn_174 rfl rfl ?_
          refine s_dup2 (n := 177) dX9_drawn_176 rfl rfl rfl ?_
          refine s_iaload h9 (n := 178) dX9_drawn_177 rfl rfl rfl hh9 ?_
          rw [hF2 h9 hh9]
          refine s_iconst (v := 1) (n := 179) dX9_drawn_178 rfl (by decide) ?_
          refine s_iadd (n := 180) dX9_drawn_179 rfl ?_
          rw [nI_1]
          refine s_iastore h9 (n := 181) dX9_drawn_180 rfl rfl rfl hh9 ?_
          skip
          refine s_iinc (n := 184) (v := nI (q + 1)) dX9_drawn_181 rfl (by decide) rfl rfl (nI_1 q) rfl ?_
          refine s_iinc (n := 187) (v := nI (k + 1)) dX9_drawn_184 rfl (by decide) rfl rfl (nI_1 k) rfl ?_
          refine s_goto (t := 85) dX9_drawn_187 (by decide) ?_
          first
          | (have hfr3 := hfr2
             have hR3 := hR2
             have hF3 := hF2
             have hG3 := hG
             exact ih (k + 1) _ _ _ (dwN x) (dwO t o (dwN x)) f q (by omega) hx2 (hfr3.m0 hT) hR3 hF3 hG3 (fun g4 xf kk qf y8 y9 hf4 a1 a2 => hQ g4 xf kk qf y8 y9 (hfr3.tr hf4) a1 a2))
          | (have hfr3 : M_sc g (m_up g2 92 h9 (nI (f h9 + 1))) := hfr2.tr ⟨m_fr.up (by decide), fun i _ _ _ _ => by rw [m_up_o (by decide)], fun i _ => by rw [m_up_o (by decide)]⟩
             have hR3 : TM (m_up g2 92 h9 (nI (f h9 + 1))) 1053 (upd t 8 (dwO t o (dwN x))) := hR2.kept (fun j _ => by rw [m_up_o (by decide)])
             have hF3 : ∀ i, i < 6 → (m_up g2 92 h9 (nI (f h9 + 1))) 92 i = nI (dwU (some h9) f i) := fun i hi => by
               rw [m_up_k]
               unfold dwU
               dsimp only
               by_cases e : i = h9
               · subst e; rw [if_pos rfl, if_pos rfl]
               · rw [if_neg e, if_neg e]; exact hF2 i hi
             have hG3 : goF (dwT t 0 (dwU (some h9) f)) 6 0 0 = nI (q + 1) := by
               rw [(goF_up hc9 6 0 0 (by decide)).1 (Nat.zero_le _) (by omega), hG, nI_1]
             exact ih (k + 1) _ _ _ (dwN x) (dwO t o (dwN x)) (dwU (some h9) f) (q + 1) (by omega) hx2 (hfr3.m0 hT) hR3 hF3 hG3 (fun g4 xf kk qf y8 y9 hf4 a1 a2 => hQ g4 xf kk qf y8 y9 (hfr3.tr hf4) a1 a2))
    refine s_iload (n := 87) dX9_drawn_85 rfl rfl ?_
    refine s_iload_n (n := 88) dX9_drawn_87 rfl rfl rfl ?_
    refine s_icmp_ge (n := 91) (t := 190) dX9_drawn_88 (by decide) rfl (fun h88 => ?_) (fun h88 => ?_)
    · exact absurd h88 (nI_ge hk (by omega))
    · refine s_lload (n := 93) dX9_drawn_91 rfl rfl ?_
      refine s_ldc2 (n := 96) dX9_drawn_93 rfl kc_X9_247 ?_
      refine s_lmul (n := 97) dX9_drawn_96 rfl ?_
      refine s_ldc2 (n := 100) dX9_drawn_97 rfl kc_X9_249 ?_
      refine s_lrem (n := 101) dX9_drawn_100 rfl (by decide) ?_
      rw [dw_x hx]
      refine s_lstore (n := 103) dX9_drawn_101 rfl (by decide) rfl rfl ?_
      refine s_lload (n := 105) dX9_drawn_103 rfl rfl ?_
      refine s_ldc2 (n := 108) dX9_drawn_105 rfl kc_X9_235 ?_
      refine s_lrem (n := 109) dX9_drawn_108 rfl (by decide) ?_
      rw [dw_3 hx2]
      refine s_lconst (v := 0) (n := 110) dX9_drawn_109 rfl (by decide) ?_
      refine s_lcmp (n := 111) dX9_drawn_110 rfl ?_
      refine s_if_ne (n := 114) (t := 147) dX9_drawn_111 (by decide) rfl (fun h111 => ?_) (fun h111 => ?_)
      · first
        | (have e : dwO t o (dwN x) = o := if_neg (fun q => (dw_le hcn).mp h120 q.1)
           exact mid g M_sc.rf (by rw [e]; exact hR) hF)
        | (have e : dwO t o (dwN x) = o := if_neg (fun q => h111 (dw_eq.mpr q.2))
           exact mid g M_sc.rf (by rw [e]; exact hR) hF)
        | (have e : dwO t o (dwN x) = o ^^^ a_sh (dwN x % a_cn t) := if_pos ⟨hcp, hm3⟩
           refine mid _ (M_sc.t (by decide)) ?_ (fun i hi => by rw [m_up_o (by decide)]; exact hF i hi)
           rw [e]
           exact hR.t8 _)
      · refine s_aload_n (n := 115) dX9_drawn_114 rfl rfl rfl ?_
        refine s_getr (k2 := 79) (n := 118) dX9_drawn_115 rfl fl_X9_7 rfl rfl rfl ?_
        refine s_iconst (v := 1) (n := 119) dX9_drawn_118 rfl (by decide) ?_
        refine s_iaload 1 (n := 120) dX9_drawn_119 rfl rfl rfl (by decide) ?_
        rw [hT.z (by decide), (a_cnE hK.2.1).1]
        refine s_if_le (n := 123) (t := 147) dX9_drawn_120 (by decide) rfl (fun h120 => ?_) (fun h120 => ?_)
        · first
          | (have e : dwO t o (dwN x) = o := if_neg (fun q => (dw_le hcn).mp h120 q.1)
             exact mid g M_sc.rf (by rw [e]; exact hR) hF)
          | (have e : dwO t o (dwN x) = o := if_neg (fun q => h111 (dw_eq.mpr q.2))
             exact mid g M_sc.rf (by rw [e]; exact hR) hF)
          | (have e : dwO t o (dwN x) = o ^^^ a_sh (dwN x % a_cn t) := if_pos ⟨hcp, hm3⟩
             refine mid _ (M_sc.t (by decide)) ?_ (fun i hi => by rw [m_up_o (by decide)]; exact hF i hi)
             rw [e]
             exact hR.t8 _)
        · have hcp : 0 < a_cn t := Classical.byContradiction fun z => h120 ((dw_le hcn).mpr z)
          have hm3 : dwN x % 3 = 0 := dw_eq.mp h111
          refine s_aload_n (n := 124) dX9_drawn_123 rfl rfl rfl ?_
          refine s_getr (k2 := 79) (n := 127) dX9_drawn_124 rfl fl_X9_7 rfl rfl rfl ?_
          refine s_sipush (v := 1061) (n := 130) dX9_drawn_127 rfl (by decide) ?_
          refine s_dup2 (n := 131) dX9_drawn_130 rfl rfl rfl ?_
          refine s_iaload 1061 (n := 132) dX9_drawn_131 rfl rfl rfl (by decide) ?_
          rw [show g 79 1061 = o from (hR 8 (by decide)).trans upd_eq]
          refine s_iconst (v := 1) (n := 133) dX9_drawn_132 rfl (by decide) ?_
          refine s_lload (n := 135) dX9_drawn_133 rfl rfl ?_
          refine s_aload_n (n := 136) dX9_drawn_135 rfl rfl rfl ?_
          refine s_getr (k2 := 79) (n := 139) dX9_drawn_136 rfl fl_X9_7 rfl rfl rfl ?_
          refine s_iconst (v := 1) (n := 140) dX9_drawn_139 rfl (by decide) ?_
          refine s_iaload 1 (n := 141) dX9_drawn_140 rfl rfl rfl (by decide) ?_
          rw [hT.z (by decide), (a_cnE hK.2.1).1]
          refine s_i2l (n := 142) dX9_drawn_141 rfl ?_
          refine s_lrem (n := 143) dX9_drawn_142 rfl (dw_nz hcp hcn) ?_
          refine s_l2i (n := 144) dX9_drawn_143 rfl ?_
          rw [dw_c hx2 hcp hcn]
          refine s_ishl (n := 145) dX9_drawn_144 rfl ?_
          refine s_ixor (n := 146) dX9_drawn_145 rfl ?_
          refine s_iastore 1061 (n := 147) dX9_drawn_146 rfl rfl rfl (by decide) ?_
          first
          | (have e : dwO t o (dwN x) = o := if_neg (fun q => (dw_le hcn).mp h120 q.1)
             exact mid g M_sc.rf (by rw [e]; exact hR) hF)
          | (have e : dwO t o (dwN x) = o := if_neg (fun q => h111 (dw_eq.mpr q.2))
             exact mid g M_sc.rf (by rw [e]; exact hR) hF)
          | (have e : dwO t o (dwN x) = o ^^^ a_sh (dwN x % a_cn t) := if_pos ⟨hcp, hm3⟩
             refine mid _ (M_sc.t (by decide)) ?_ (fun i hi => by rw [m_up_o (by decide)]; exact hF i hi)
             rw [e]
             exact hR.t8 _)
theorem M_drawn {SL : Nat} {d : Nat} {Q : Option Int32 → m_G → Prop} {g : m_G} {a : a_S} (hA : a_OK a) (hM : M_R g a) (n s w : Int32) (hQ : E_M g a Q (sp_drawn a n s w)) : Sim SL (d + 3) yX9_drawn cX9_drawn 10 (some .int) 0 [.ref 78, .int n, .int s, .int w, .null, .null, .null, .null, .null, .null] [] g Q := by
  unfold E_M sp_drawn at hQ
  have hT : TM g 0 (a_H a) := hM.2.2.1.2
  refine s_aload_n (n := 1) dX9_drawn_0 rfl rfl rfl ?_
  refine s_geti (n := 4) dX9_drawn_1 rfl fl_X9_150 rfl rfl ?_
  rw [hM.2.2.1.1]
  refine s_if_ne (n := 7) (t := 10) dX9_drawn_4 (by decide) rfl (fun h4 => ?_) (fun h4 => ?_)
  · obtain ⟨t, hh⟩ : ∃ t, a_hill a = some t := by
      cases hh : a_hill a with
      | none => rw [hh] at h4; exact absurd rfl h4
      | some t => exact ⟨t, rfl⟩
    have hHt : a_H a = t := by unfold a_H a_T; rw [hh]; rfl
    have hK := hA.1 t hh
    rw [hHt] at hT
    rw [hh] at hQ
    dsimp only at hQ
    refine s_iload_n (n := 11) dX9_drawn_10 rfl rfl rfl ?_
    refine s_i2l (n := 12) dX9_drawn_11 rfl ?_
    refine s_lconst (v := 0) (n := 13) dX9_drawn_12 rfl (by decide) ?_
    refine s_ldc2 (n := 16) dX9_drawn_13 rfl kc_X9_203 ?_
    refine s_cs3 (n := 19) dX9_drawn_16 rfl mo_X9_in ml_X9_60 rfl (Nat.le_of_ble_eq_true rfl) (Nat.le_of_ble_eq_true rfl) (c_X9_in (0) (60) rfl (by decide) (by decide) (fun hb16 => ?_) (fun hb16 => ?_))
    · dsimp only [m_push]
      refine s_if_eq (n := 22) (t := 44) dX9_drawn_19 (by decide) rfl (fun h => absurd h (by decide)) (fun _ => ?_)
      refine s_iload_n (n := 23) dX9_drawn_22 rfl rfl rfl ?_
      refine s_i2l (n := 24) dX9_drawn_23 rfl ?_
      refine s_lconst (v := 1) (n := 25) dX9_drawn_24 rfl (by decide) ?_
      refine s_ldc2 (n := 28) dX9_drawn_25 rfl kc_X9_245 ?_
      refine s_cs3 (n := 31) dX9_drawn_28 rfl mo_X9_in ml_X9_60 rfl (Nat.le_of_ble_eq_true rfl) (Nat.le_of_ble_eq_true rfl) (c_X9_in (1) (999999) rfl (by decide) (by decide) (fun hb28 => ?_) (fun hb28 => ?_))
      · dsimp only [m_push]
        refine s_if_eq (n := 34) (t := 44) dX9_drawn_31 (by decide) rfl (fun h => absurd h (by decide)) (fun _ => ?_)
        refine s_iload_n (n := 35) dX9_drawn_34 rfl rfl rfl ?_
        refine s_i2l (n := 36) dX9_drawn_35 rfl ?_
        refine s_lconst (v := 0) (n := 37) dX9_drawn_36 rfl (by decide) ?_
        refine s_lconst (v := 1) (n := 38) dX9_drawn_37 rfl (by decide) ?_
        refine s_cs3 (n := 41) dX9_drawn_38 rfl mo_X9_in ml_X9_60 rfl (Nat.le_of_ble_eq_true rfl) (Nat.le_of_ble_eq_true rfl) (c_X9_in (0) (1) rfl (by decide) (by decide) (fun hb38 => ?_) (fun hb38 => ?_))
        · dsimp only [m_push]
          refine s_if_ne (n := 44) (t := 47) dX9_drawn_41 (by decide) rfl (fun _ => ?_) (fun h => absurd h (by decide))
          obtain ⟨nn, hnn, rfl⟩ := wn_ex (x := n) (n := 60) hb16 rfl
          obtain ⟨ss, hss, rfl⟩ := wn_ex (x := s) (M := 999999) (n := 999999) ⟨fun q => hb28.1 (by rw [i32_lt] at *; have := ti0; have := ti1; omega), hb28.2⟩ rfl
          rw [nI_clamp (show nn < 2 ^ 31 by omega), nI_clamp (show ss < 2 ^ 31 by omega)] at hQ
          have hfb : ∀ i, dwF t nn ss (t 8) (fun _ => 0) i ≤ 60 := fun i => Nat.le_trans (dwF_le nn ss (t 8) (fun _ => 0) 0 (fun _ => Nat.le_refl _) i) (by omega)
          have hz := dwF_z (t := t) nn ss (t 8) (fun _ => 0) (fun _ _ _ => rfl)
          rw [if_pos hb16, if_pos hb28, if_pos hb38] at hQ
          dsimp only at hQ
          refine s_aload_n (n := 48) dX9_drawn_47 rfl rfl rfl ?_
          refine s_cv0 (n := 51) dX9_drawn_48 rfl mo_X9_layTried ml_X9_208 rfl (by decide) rfl rfl (Nat.le_of_ble_eq_true rfl) (Nat.le_of_ble_eq_true rfl) (c_X9_layTried hT (fun g1 hf1 hL1 hL2 => ?_))
          have hs1 := M_sc.lay hf1 hL2
          dsimp only [m_push]
          refine s_iconst (v := 0) (n := 52) dX9_drawn_51 rfl (by decide) ?_
          refine s_istore (n := 54) dX9_drawn_52 rfl (by decide) rfl rfl ?_
          refine s_iload (n := 56) dX9_drawn_54 rfl rfl ?_
          refine s_bipush (v := 6) (n := 58) dX9_drawn_56 rfl (by decide) ?_
          refine s_icmp_ge (n := 61) (t := 75) dX9_drawn_58 (by decide) rfl (fun h => absurd h (by decide)) (fun _ => ?_)
          refine s_aload_n (n := 62) dX9_drawn_61 rfl rfl rfl ?_
          refine s_getr (k2 := 92) (n := 65) dX9_drawn_62 rfl fl_X9_50 rfl rfl rfl ?_
          refine s_iload (n := 67) dX9_drawn_65 rfl rfl ?_
          refine s_iconst (v := 0) (n := 68) dX9_drawn_67 rfl (by decide) ?_
          refine s_iastore 0 (n := 69) dX9_drawn_68 rfl rfl rfl (by decide) ?_
          refine s_iinc (n := 72) (v := 1) dX9_drawn_69 rfl (by decide) rfl rfl (by decide) rfl ?_
          refine s_goto (t := 54) dX9_drawn_72 (by decide) ?_
          refine s_iload (n := 56) dX9_drawn_54 rfl rfl ?_
          refine s_bipush (v := 6) (n := 58) dX9_drawn_56 rfl (by decide) ?_
          refine s_icmp_ge (n := 61) (t := 75) dX9_drawn_58 (by decide) rfl (fun h => absurd h (by decide)) (fun _ => ?_)
          refine s_aload_n (n := 62) dX9_drawn_61 rfl rfl rfl ?_
          refine s_getr (k2 := 92) (n := 65) dX9_drawn_62 rfl fl_X9_50 rfl rfl rfl ?_
          refine s_iload (n := 67) dX9_drawn_65 rfl rfl ?_
          refine s_iconst (v := 0) (n := 68) dX9_drawn_67 rfl (by decide) ?_
          refine s_iastore 1 (n := 69) dX9_drawn_68 rfl rfl rfl (by decide) ?_
          refine s_iinc (n := 72) (v := 2) dX9_drawn_69 rfl (by decide) rfl rfl (by decide) rfl ?_
          refine s_goto (t := 54) dX9_drawn_72 (by decide) ?_
          refine s_iload (n := 56) dX9_drawn_54 rfl rfl ?_
          refine s_bipush (v := 6) (n := 58) dX9_drawn_56 rfl (by decide) ?_
          refine s_icmp_ge (n := 61) (t := 75) dX9_drawn_58 (by decide) rfl (fun h => absurd h (by decide)) (fun _ => ?_)
          refine s_aload_n (n := 62) dX9_drawn_61 rfl rfl rfl ?_
          refine s_getr (k2 := 92) (n := 65) dX9_drawn_62 rfl fl_X9_50 rfl rfl rfl ?_
          refine s_iload (n := 67) dX9_drawn_65 rfl rfl ?_
          refine s_iconst (v := 0) (n := 68) dX9_drawn_67 rfl (by decide) ?_
          refine s_iastore 2 (n := 69) dX9_drawn_68 rfl rfl rfl (by decide) ?_
          refine s_iinc (n := 72) (v := 3) dX9_drawn_69 rfl (by decide) rfl rfl (by decide) rfl ?_
          refine s_goto (t := 54) dX9_drawn_72 (by decide) ?_
          refine s_iload (n := 56) dX9_drawn_54 rfl rfl ?_
          refine s_bipush (v := 6) (n := 58) dX9_drawn_56 rfl (by decide) ?_
          refine s_icmp_ge (n := 61) (t := 75) dX9_drawn_58 (by decide) rfl (fun h => absurd h (by decide)) (fun _ => ?_)
          refine s_aload_n (n := 62) dX9_drawn_61 rfl rfl rfl ?_
          refine s_getr (k2 := 92) (n := 65) dX9_drawn_62 rfl fl_X9_50 rfl rfl rfl ?_
          refine s_iload (n := 67) dX9_drawn_65 rfl rfl ?_
          refine s_iconst (v := 0) (n := 68) dX9_drawn_67 rfl (by decide) ?_
          refine s_iastore 3 (n := 69) dX9_drawn_68 rfl rfl rfl (by decide) ?_
          refine s_iinc (n := 72) (v := 4) dX9_drawn_69 rfl (by decide) rfl rfl (by decide) rfl ?_
          refine s_goto (t := 54) dX9_drawn_72 (by decide) ?_
          refine s_iload (n := 56) dX9_drawn_54 rfl rfl ?_
          refine s_bipush (v := 6) (n := 58) dX9_drawn_56 rfl (by decide) ?_
          refine s_icmp_ge (n := 61) (t := 75) dX9_drawn_58 (by decide) rfl (fun h => absurd h (by decide)) (fun _ => ?_)
          refine s_aload_n (n := 62) dX9_drawn_61 rfl rfl rfl ?_
          refine s_getr (k2 := 92) (n := 65) dX9_drawn_62 rfl fl_X9_50 rfl rfl rfl ?_
          refine s_iload (n := 67) dX9_drawn_65 rfl rfl ?_
          refine s_iconst (v := 0) (n := 68) dX9_drawn_67 rfl (by decide) ?_
          refine s_iastore 4 (n := 69) dX9_drawn_68 rfl rfl rfl (by decide) ?_
          refine s_iinc (n := 72) (v := 5) dX9_drawn_69 rfl (by decide) rfl rfl (by decide) rfl ?_
          refine s_goto (t := 54) dX9_drawn_72 (by decide) ?_
          refine s_iload (n := 56) dX9_drawn_54 rfl rfl ?_
          refine s_bipush (v := 6) (n := 58) dX9_drawn_56 rfl (by decide) ?_
          refine s_icmp_ge (n := 61) (t := 75) dX9_drawn_58 (by decide) rfl (fun h => absurd h (by decide)) (fun _ => ?_)
          refine s_aload_n (n := 62) dX9_drawn_61 rfl rfl rfl ?_
          refine s_getr (k2 := 92) (n := 65) dX9_drawn_62 rfl fl_X9_50 rfl rfl rfl ?_
          refine s_iload (n := 67) dX9_drawn_65 rfl rfl ?_
          refine s_iconst (v := 0) (n := 68) dX9_drawn_67 rfl (by decide) ?_
          refine s_iastore 5 (n := 69) dX9_drawn_68 rfl rfl rfl (by decide) ?_
          refine s_iinc (n := 72) (v := 6) dX9_drawn_69 rfl (by decide) rfl rfl (by decide) rfl ?_
          refine s_goto (t := 54) dX9_drawn_72 (by decide) ?_
          refine s_iload (n := 56) dX9_drawn_54 rfl rfl ?_
          refine s_bipush (v := 6) (n := 58) dX9_drawn_56 rfl (by decide) ?_
          refine s_icmp_ge (n := 61) (t := 75) dX9_drawn_58 (by decide) rfl (fun _ => ?_) (fun h => absurd h (by decide))
          refine s_iload_n (n := 76) dX9_drawn_75 rfl rfl rfl ?_
          refine s_i2l (n := 77) dX9_drawn_76 rfl ?_
          rw [nI_l (by omega)]
          refine s_lstore (n := 79) dX9_drawn_77 rfl (by decide) rfl rfl ?_
          refine s_iconst (v := 0) (n := 80) dX9_drawn_79 rfl (by decide) ?_
          refine s_istore (n := 82) dX9_drawn_80 rfl (by decide) rfl rfl ?_
          refine s_iconst (v := 0) (n := 83) dX9_drawn_82 rfl (by decide) ?_
          refine s_istore (n := 85) dX9_drawn_83 rfl (by decide) rfl rfl ?_
          have hs92 : ∀ j v g9, M_sc g9 (m_up g9 92 j v) := fun j v g9 => ⟨m_fr.up (by decide), fun i _ _ _ _ => by rw [m_up_o (by decide)], fun i _ => by rw [m_up_o (by decide)]⟩
          have hs2 : M_sc g (m_up (m_up (m_up (m_up (m_up (m_up g1 92 0 0) 92 1 0) 92 2 0) 92 3 0) 92 4 0) 92 5 0) := hs1.tr ((((((hs92 0 0 g1).tr (hs92 1 0 _)).tr (hs92 2 0 _)).tr (hs92 3 0 _)).tr (hs92 4 0 _)).tr (hs92 5 0 _))
          refine lp_X9_drawn hK hnn _ w nn 0 _ _ _ ss (t 8) (fun _ => 0) 0 (by omega) (by omega) (hs2.m0 hT) ?_ ?_ (goF_00 6 0 (by decide)) (fun g2 xf kk qf y8 y9 hs3 hF2 hG2 => ?_)
          · rw [upd_self]
            exact hL1.kept (fun j _ => by repeat rw [m_up_o (by decide)])
          · intro i hi
            rcases (show i = 0 ∨ i = 1 ∨ i = 2 ∨ i = 3 ∨ i = 4 ∨ i = 5 by omega) with rfl | rfl | rfl | rfl | rfl | rfl <;> simp only [m_up_k] <;> rfl
          · refine s_ldc (n := 192) dX9_drawn_190 rfl kc_X9_128 ?_
            refine s_istore (n := 194) dX9_drawn_192 rfl (by decide) rfl rfl ?_
            refine s_iconst (v := 0) (n := 195) dX9_drawn_194 rfl (by decide) ?_
            refine s_istore (n := 197) dX9_drawn_195 rfl (by decide) rfl rfl ?_
            refine s_iconst (v := 0) (n := 198) dX9_drawn_197 rfl (by decide) ?_
            refine s_istore (n := 200) dX9_drawn_198 rfl (by decide) rfl rfl ?_
            refine lp_X9_drawnEnd hF2 hfb 6 0 (0, none) rfl (by decide) ?_
            have := hQ g2 (hM.sc (hs2.tr hs3)) (hs2.tr hs3).FM
            rw [hG2] at this
            exact this
        · dsimp only [m_push]
          refine s_if_ne (n := 44) (t := 47) dX9_drawn_41 (by decide) rfl (fun h => absurd h (by decide)) (fun _ => ?_)
          refine s_ldc (n := 46) dX9_drawn_44 rfl kc_X9_70 ?_
          refine s_ireturn dX9_drawn_46 rfl rfl ?_
          first
          | (rw [if_neg hb16] at hQ; exact hQ g hM F_M.rf)
          | (rw [if_pos hb16, if_neg hb28] at hQ; exact hQ g hM F_M.rf)
          | (rw [if_pos hb16, if_pos hb28, if_neg hb38] at hQ; exact hQ g hM F_M.rf)
      · dsimp only [m_push]
        refine s_if_eq (n := 34) (t := 44) dX9_drawn_31 (by decide) rfl (fun _ => ?_) (fun h => absurd h (by decide))
        refine s_ldc (n := 46) dX9_drawn_44 rfl kc_X9_70 ?_
        refine s_ireturn dX9_drawn_46 rfl rfl ?_
        first
        | (rw [if_neg hb16] at hQ; exact hQ g hM F_M.rf)
        | (rw [if_pos hb16, if_neg hb28] at hQ; exact hQ g hM F_M.rf)
        | (rw [if_pos hb16, if_pos hb28, if_neg hb38] at hQ; exact hQ g hM F_M.rf)
    · dsimp only [m_push]
      refine s_if_eq (n := 22) (t := 44) dX9_drawn_19 (by decide) rfl (fun _ => ?_) (fun h => absurd h (by decide))
      refine s_ldc (n := 46) dX9_drawn_44 rfl kc_X9_70 ?_
      refine s_ireturn dX9_drawn_46 rfl rfl ?_
      first
      | (rw [if_neg hb16] at hQ; exact hQ g hM F_M.rf)
      | (rw [if_pos hb16, if_neg hb28] at hQ; exact hQ g hM F_M.rf)
      | (rw [if_pos hb16, if_pos hb28, if_neg hb38] at hQ; exact hQ g hM F_M.rf)
  · refine s_ldc (n := 9) dX9_drawn_7 rfl kc_X9_157 ?_
    refine s_ireturn dX9_drawn_9 rfl rfl ?_
    cases hh : a_hill a with
    | none => rw [hh] at hQ; exact hQ g hM F_M.rf
    | some t => rw [hh] at h4; exact absurd h4 (by show ¬ (1 : Int32) = 0; decide)
