theorem an_1_0 {SL : Nat} {d : Nat} {Q : Option Int32 → m_G → Prop} {hc : Nat} (hhc : (m_sh hc).1 = 2) (hcn : hc ∉ [25, 26]) {ti got : Int32} (n : Int32) {g : m_G} {tr : a_Tr} (hh : H_h g hc 1 ti got) (ht : C_t g tr) (hQ : ∀ g2, m_fr [25, 26] g g2 → C_t g2 ([11, 10, 21, 20].foldl psh tr) → Q (some (ti + (n + got))) g2) : Sim SL (d + 6) yX7_answer cX7_answer 4 (some .int) 0 [.ref 25, .ref hc, .int n, .int 0] [] g Q := by
  refine s_aload_n (n := 1) dX7_answer_0 rfl rfl rfl ?_
  refine s_aload_n (n := 2) dX7_answer_1 rfl rfl rfl ?_
  refine s_iload_n (n := 3) dX7_answer_2 rfl rfl rfl ?_
  refine s_aload_n (n := 4) dX7_answer_3 rfl rfl rfl ?_
  refine s_iload_n (n := 5) dX7_answer_4 rfl rfl rfl ?_
  refine s_cs2 (n := 8) dX7_answer_5 rfl mo_X7_bodyFor ml_X7_19 rfl (Nat.le_of_ble_eq_true rfl) (Nat.le_of_ble_eq_true rfl) (c_X7_bodyFor hhc hh.2.2.2 1 (by decide) hh.1 _ ?_)
  show Sim _ _ _ _ _ _ _ _ (m_push (some 11) _) _ _
  dsimp only [m_push]
  refine s_iconst (v := 0) (n := 9) dX7_answer_8 rfl (by decide) ?_
  refine s_cs5 (n := 12) dX7_answer_9 rfl mo_X7_give ml_X7_23 rfl (Nat.le_of_ble_eq_true rfl) (Nat.le_of_ble_eq_true rfl) (gv11_1 hhc hcn n rfl 0 rfl (by omega) hh ht (fun g2 hf2 ht2 => ?_))
  dsimp only [m_push]
  refine s_ireturn dX7_answer_12 rfl rfl ?_
  exact hQ g2 hf2 ht2
theorem an_2_0 {SL : Nat} {d : Nat} {Q : Option Int32 → m_G → Prop} {hc : Nat} (hhc : (m_sh hc).1 = 2) (hcn : hc ∉ [25, 26]) {ti got : Int32} (n : Int32) {g : m_G} {tr : a_Tr} (hh : H_h g hc 2 ti got) (ht : C_t g tr) (hQ : ∀ g2, m_fr [25, 26] g g2 → C_t g2 ([12, 11, 10, 24, 21, 20].foldl psh tr) → Q (some (-(ti + 2 * (n + got)))) g2) : Sim SL (d + 6) yX7_answer cX7_answer 4 (some .int) 0 [.ref 25, .ref hc, .int n, .int 0] [] g Q := by
  refine s_aload_n (n := 1) dX7_answer_0 rfl rfl rfl ?_
  refine s_aload_n (n := 2) dX7_answer_1 rfl rfl rfl ?_
  refine s_iload_n (n := 3) dX7_answer_2 rfl rfl rfl ?_
  refine s_aload_n (n := 4) dX7_answer_3 rfl rfl rfl ?_
  refine s_iload_n (n := 5) dX7_answer_4 rfl rfl rfl ?_
  refine s_cs2 (n := 8) dX7_answer_5 rfl mo_X7_bodyFor ml_X7_19 rfl (Nat.le_of_ble_eq_true rfl) (Nat.le_of_ble_eq_true rfl) (c_X7_bodyFor hhc hh.2.2.2 2 (by decide) hh.1 _ ?_)
  show Sim _ _ _ _ _ _ _ _ (m_push (some 12) _) _ _
  dsimp only [m_push]
  refine s_iconst (v := 0) (n := 9) dX7_answer_8 rfl (by decide) ?_
  refine s_cs5 (n := 12) dX7_answer_9 rfl mo_X7_give ml_X7_23 rfl (Nat.le_of_ble_eq_true rfl) (Nat.le_of_ble_eq_true rfl) (gv12 hhc hcn n rfl 0 rfl (by omega) hh ht (fun g2 hf2 ht2 => ?_))
  dsimp only [m_push]
  refine s_ireturn dX7_answer_12 rfl rfl ?_
  exact hQ g2 hf2 ht2
theorem an_3_0 {SL : Nat} {d : Nat} {Q : Option Int32 → m_G → Prop} {hc : Nat} (hhc : (m_sh hc).1 = 2) (hcn : hc ∉ [25, 26]) {ti got : Int32} (n : Int32) {g : m_G} {tr : a_Tr} (hh : H_h g hc 3 ti got) (ht : C_t g tr) (hQ : ∀ g2, m_fr [25, 26] g g2 → C_t g2 ([11, 10, 22, 21, 20].foldl psh tr) → Q (some (ti + (n + got - 1000))) g2) : Sim SL (d + 6) yX7_answer cX7_answer 4 (some .int) 0 [.ref 25, .ref hc, .int n, .int 0] [] g Q := by
  refine s_aload_n (n := 1) dX7_answer_0 rfl rfl rfl ?_
  refine s_aload_n (n := 2) dX7_answer_1 rfl rfl rfl ?_
  refine s_iload_n (n := 3) dX7_answer_2 rfl rfl rfl ?_
  refine s_aload_n (n := 4) dX7_answer_3 rfl rfl rfl ?_
  refine s_iload_n (n := 5) dX7_answer_4 rfl rfl rfl ?_
  refine s_cs2 (n := 8) dX7_answer_5 rfl mo_X7_bodyFor ml_X7_19 rfl (Nat.le_of_ble_eq_true rfl) (Nat.le_of_ble_eq_true rfl) (c_X7_bodyFor hhc hh.2.2.2 3 (by decide) hh.1 _ ?_)
  show Sim _ _ _ _ _ _ _ _ (m_push (some 11) _) _ _
  dsimp only [m_push]
  refine s_iconst (v := 0) (n := 9) dX7_answer_8 rfl (by decide) ?_
  refine s_cs5 (n := 12) dX7_answer_9 rfl mo_X7_give ml_X7_23 rfl (Nat.le_of_ble_eq_true rfl) (Nat.le_of_ble_eq_true rfl) (gv11_3 hhc hcn n rfl 0 rfl (by omega) hh ht (fun g2 hf2 ht2 => ?_))
  dsimp only [m_push]
  refine s_ireturn dX7_answer_12 rfl rfl ?_
  exact hQ g2 hf2 ht2
theorem an_4_0 {SL : Nat} {d : Nat} {Q : Option Int32 → m_G → Prop} {hc : Nat} (hhc : (m_sh hc).1 = 2) (hcn : hc ∉ [25, 26]) {ti got : Int32} (n : Int32) {g : m_G} {tr : a_Tr} (hh : H_h g hc 4 ti got) (ht : C_t g tr) (hQ : ∀ g2, m_fr [25, 26] g g2 → C_t g2 ([13, 10].foldl psh tr) → Q (some (ti - 100)) g2) : Sim SL (d + 6) yX7_answer cX7_answer 4 (some .int) 0 [.ref 25, .ref hc, .int n, .int 0] [] g Q := by
  refine s_aload_n (n := 1) dX7_answer_0 rfl rfl rfl ?_
  refine s_aload_n (n := 2) dX7_answer_1 rfl rfl rfl ?_
  refine s_iload_n (n := 3) dX7_answer_2 rfl rfl rfl ?_
  refine s_aload_n (n := 4) dX7_answer_3 rfl rfl rfl ?_
  refine s_iload_n (n := 5) dX7_answer_4 rfl rfl rfl ?_
  refine s_cs2 (n := 8) dX7_answer_5 rfl mo_X7_bodyFor ml_X7_19 rfl (Nat.le_of_ble_eq_true rfl) (Nat.le_of_ble_eq_true rfl) (c_X7_bodyFor hhc hh.2.2.2 4 (by decide) hh.1 _ ?_)
  show Sim _ _ _ _ _ _ _ _ (m_push (some 13) _) _ _
  dsimp only [m_push]
  refine s_iconst (v := 0) (n := 9) dX7_answer_8 rfl (by decide) ?_
  refine s_cs5 (n := 12) dX7_answer_9 rfl mo_X7_give ml_X7_23 rfl (Nat.le_of_ble_eq_true rfl) (Nat.le_of_ble_eq_true rfl) (gv13 hhc hcn n 0 rfl (by omega) hh ht (fun g2 hf2 ht2 => ?_))
  dsimp only [m_push]
  refine s_ireturn dX7_answer_12 rfl rfl ?_
  exact hQ g2 hf2 ht2
theorem an_5_0 {SL : Nat} {d : Nat} {Q : Option Int32 → m_G → Prop} {hc : Nat} (hhc : (m_sh hc).1 = 2) (hcn : hc ∉ [25, 26]) {ti got : Int32} (n : Int32) {g : m_G} {tr : a_Tr} (hh : H_h g hc 5 ti got) (ht : C_t g tr) (hQ : ∀ g2, m_fr [25, 26] g g2 → C_t g2 ([14, 13, 10].foldl psh tr) → Q (some (2 * (ti - 100))) g2) : Sim SL (d + 6) yX7_answer cX7_answer 4 (some .int) 0 [.ref 25, .ref hc, .int n, .int 0] [] g Q := by
  refine s_aload_n (n := 1) dX7_answer_0 rfl rfl rfl ?_
  refine s_aload_n (n := 2) dX7_answer_1 rfl rfl rfl ?_
  refine s_iload_n (n := 3) dX7_answer_2 rfl rfl rfl ?_
  refine s_aload_n (n := 4) dX7_answer_3 rfl rfl rfl ?_
  refine s_iload_n (n := 5) dX7_answer_4 rfl rfl rfl ?_
  refine s_cs2 (n := 8) dX7_answer_5 rfl mo_X7_bodyFor ml_X7_19 rfl (Nat.le_of_ble_eq_true rfl) (Nat.le_of_ble_eq_true rfl) (c_X7_bodyFor hhc hh.2.2.2 5 (by decide) hh.1 _ ?_)
  show Sim _ _ _ _ _ _ _ _ (m_push (some 14) _) _ _
  dsimp only [m_push]
  refine s_iconst (v := 0) (n := 9) dX7_answer_8 rfl (by decide) ?_
  refine s_cs5 (n := 12) dX7_answer_9 rfl mo_X7_give ml_X7_23 rfl (Nat.le_of_ble_eq_true rfl) (Nat.le_of_ble_eq_true rfl) (gv14 hhc hcn n 0 rfl (by omega) hh ht (fun g2 hf2 ht2 => ?_))
  dsimp only [m_push]
  refine s_ireturn dX7_answer_12 rfl rfl ?_
  exact hQ g2 hf2 ht2
theorem an_1_1 {SL : Nat} {d : Nat} {Q : Option Int32 → m_G → Prop} {hc : Nat} (hhc : (m_sh hc).1 = 2) (hcn : hc ∉ [25, 26]) {ti got : Int32} (n : Int32) {g : m_G} {tr : a_Tr} (hh : H_h g hc 1 ti got) (ht : C_t g tr) (hQ : ∀ g2, m_fr [25, 26] g g2 → C_t g2 ([21, 20].foldl psh tr) → Q (some (n + got)) g2) : Sim SL (d + 6) yX7_answer cX7_answer 4 (some .int) 0 [.ref 25, .ref hc, .int n, .int 1] [] g Q := by
  refine s_aload_n (n := 1) dX7_answer_0 rfl rfl rfl ?_
  refine s_aload_n (n := 2) dX7_answer_1 rfl rfl rfl ?_
  refine s_iload_n (n := 3) dX7_answer_2 rfl rfl rfl ?_
  refine s_aload_n (n := 4) dX7_answer_3 rfl rfl rfl ?_
  refine s_iload_n (n := 5) dX7_answer_4 rfl rfl rfl ?_
  refine s_cs2 (n := 8) dX7_answer_5 rfl mo_X7_bodyFor ml_X7_19 rfl (Nat.le_of_ble_eq_true rfl) (Nat.le_of_ble_eq_true rfl) (c_X7_bodyFor hhc hh.2.2.2 1 (by decide) hh.1 _ ?_)
  show Sim _ _ _ _ _ _ _ _ (m_push (some 21) _) _ _
  dsimp only [m_push]
  refine s_iconst (v := 0) (n := 9) dX7_answer_8 rfl (by decide) ?_
  refine s_cs5 (n := 12) dX7_answer_9 rfl mo_X7_give ml_X7_23 rfl (Nat.le_of_ble_eq_true rfl) (Nat.le_of_ble_eq_true rfl) (gv21 hhc hcn n 0 rfl (by omega) hh ht (fun g2 hf2 ht2 => ?_))
  dsimp only [m_push]
  refine s_ireturn dX7_answer_12 rfl rfl ?_
  exact hQ g2 hf2 ht2
theorem an_2_1 {SL : Nat} {d : Nat} {Q : Option Int32 → m_G → Prop} {hc : Nat} (hhc : (m_sh hc).1 = 2) (hcn : hc ∉ [25, 26]) {ti got : Int32} (n : Int32) {g : m_G} {tr : a_Tr} (hh : H_h g hc 2 ti got) (ht : C_t g tr) (hQ : ∀ g2, m_fr [25, 26] g g2 → C_t g2 ([24, 21, 20].foldl psh tr) → Q (some (2 * (n + got))) g2) : Sim SL (d + 6) yX7_answer cX7_answer 4 (some .int) 0 [.ref 25, .ref hc, .int n, .int 1] [] g Q := by
  refine s_aload_n (n := 1) dX7_answer_0 rfl rfl rfl ?_
  refine s_aload_n (n := 2) dX7_answer_1 rfl rfl rfl ?_
  refine s_iload_n (n := 3) dX7_answer_2 rfl rfl rfl ?_
  refine s_aload_n (n := 4) dX7_answer_3 rfl rfl rfl ?_
  refine s_iload_n (n := 5) dX7_answer_4 rfl rfl rfl ?_
  refine s_cs2 (n := 8) dX7_answer_5 rfl mo_X7_bodyFor ml_X7_19 rfl (Nat.le_of_ble_eq_true rfl) (Nat.le_of_ble_eq_true rfl) (c_X7_bodyFor hhc hh.2.2.2 2 (by decide) hh.1 _ ?_)
  show Sim _ _ _ _ _ _ _ _ (m_push (some 24) _) _ _
  dsimp only [m_push]
  refine s_iconst (v := 0) (n := 9) dX7_answer_8 rfl (by decide) ?_
  refine s_cs5 (n := 12) dX7_answer_9 rfl mo_X7_give ml_X7_23 rfl (Nat.le_of_ble_eq_true rfl) (Nat.le_of_ble_eq_true rfl) (gv24 hhc hcn n 0 rfl (by omega) hh ht (fun g2 hf2 ht2 => ?_))
  dsimp only [m_push]
  refine s_ireturn dX7_answer_12 rfl rfl ?_
  exact hQ g2 hf2 ht2
theorem an_3_1 {SL : Nat} {d : Nat} {Q : Option Int32 → m_G → Prop} {hc : Nat} (hhc : (m_sh hc).1 = 2) (hcn : hc ∉ [25, 26]) {ti got : Int32} (n : Int32) {g : m_G} {tr : a_Tr} (hh : H_h g hc 3 ti got) (ht : C_t g tr) (hQ : ∀ g2, m_fr [25, 26] g g2 → C_t g2 ([22, 21, 20].foldl psh tr) → Q (some (n + got - 1000)) g2) : Sim SL (d + 6) yX7_answer cX7_answer 4 (some .int) 0 [.ref 25, .ref hc, .int n, .int 1] [] g Q := by
  refine s_aload_n (n := 1) dX7_answer_0 rfl rfl rfl ?_
  refine s_aload_n (n := 2) dX7_answer_1 rfl rfl rfl ?_
  refine s_iload_n (n := 3) dX7_answer_2 rfl rfl rfl ?_
  refine s_aload_n (n := 4) dX7_answer_3 rfl rfl rfl ?_
  refine s_iload_n (n := 5) dX7_answer_4 rfl rfl rfl ?_
  refine s_cs2 (n := 8) dX7_answer_5 rfl mo_X7_bodyFor ml_X7_19 rfl (Nat.le_of_ble_eq_true rfl) (Nat.le_of_ble_eq_true rfl) (c_X7_bodyFor hhc hh.2.2.2 3 (by decide) hh.1 _ ?_)
  show Sim _ _ _ _ _ _ _ _ (m_push (some 22) _) _ _
  dsimp only [m_push]
  refine s_iconst (v := 0) (n := 9) dX7_answer_8 rfl (by decide) ?_
  refine s_cs5 (n := 12) dX7_answer_9 rfl mo_X7_give ml_X7_23 rfl (Nat.le_of_ble_eq_true rfl) (Nat.le_of_ble_eq_true rfl) (gv22 hhc hcn n 0 rfl (by omega) hh ht (fun g2 hf2 ht2 => ?_))
  dsimp only [m_push]
  refine s_ireturn dX7_answer_12 rfl rfl ?_
  exact hQ g2 hf2 ht2
theorem an_4_1 {SL : Nat} {d : Nat} {Q : Option Int32 → m_G → Prop} {hc : Nat} (hhc : (m_sh hc).1 = 2) (hcn : hc ∉ [25, 26]) {ti got : Int32} (n : Int32) {g : m_G} {tr : a_Tr} (hh : H_h g hc 4 ti got) (ht : C_t g tr) (hQ : ∀ g2, m_fr [25, 26] g g2 → C_t g2 ([23, 20, 13, 10].foldl psh tr) → Q (some (n - (ti - 100))) g2) : Sim SL (d + 6) yX7_answer cX7_answer 4 (some .int) 0 [.ref 25, .ref hc, .int n, .int 1] [] g Q := by
  refine s_aload_n (n := 1) dX7_answer_0 rfl rfl rfl ?_
  refine s_aload_n (n := 2) dX7_answer_1 rfl rfl rfl ?_
  refine s_iload_n (n := 3) dX7_answer_2 rfl rfl rfl ?_
  refine s_aload_n (n := 4) dX7_answer_3 rfl rfl rfl ?_
  refine s_iload_n (n := 5) dX7_answer_4 rfl rfl rfl ?_
  refine s_cs2 (n := 8) dX7_answer_5 rfl mo_X7_bodyFor ml_X7_19 rfl (Nat.le_of_ble_eq_true rfl) (Nat.le_of_ble_eq_true rfl) (c_X7_bodyFor hhc hh.2.2.2 4 (by decide) hh.1 _ ?_)
  show Sim _ _ _ _ _ _ _ _ (m_push (some 23) _) _ _
  dsimp only [m_push]
  refine s_iconst (v := 0) (n := 9) dX7_answer_8 rfl (by decide) ?_
  refine s_cs5 (n := 12) dX7_answer_9 rfl mo_X7_give ml_X7_23 rfl (Nat.le_of_ble_eq_true rfl) (Nat.le_of_ble_eq_true rfl) (gv23_4 hhc hcn n rfl 0 rfl (by omega) hh ht (fun g2 hf2 ht2 => ?_))
  dsimp only [m_push]
  refine s_ireturn dX7_answer_12 rfl rfl ?_
  exact hQ g2 hf2 ht2
theorem an_5_1 {SL : Nat} {d : Nat} {Q : Option Int32 → m_G → Prop} {hc : Nat} (hhc : (m_sh hc).1 = 2) (hcn : hc ∉ [25, 26]) {ti got : Int32} (n : Int32) {g : m_G} {tr : a_Tr} (hh : H_h g hc 5 ti got) (ht : C_t g tr) (hQ : ∀ g2, m_fr [25, 26] g g2 → C_t g2 ([23, 20, 14, 13, 10].foldl psh tr) → Q (some (n - 2 * (ti - 100))) g2) : Sim SL (d + 6) yX7_answer cX7_answer 4 (some .int) 0 [.ref 25, .ref hc, .int n, .int 1] [] g Q := by
  refine s_aload_n (n := 1) dX7_answer_0 rfl rfl rfl ?_
  refine s_aload_n (n := 2) dX7_answer_1 rfl rfl rfl ?_
  refine s_iload_n (n := 3) dX7_answer_2 rfl rfl rfl ?_
  refine s_aload_n (n := 4) dX7_answer_3 rfl rfl rfl ?_
  refine s_iload_n (n := 5) dX7_answer_4 rfl rfl rfl ?_
  refine s_cs2 (n := 8) dX7_answer_5 rfl mo_X7_bodyFor ml_X7_19 rfl (Nat.le_of_ble_eq_true rfl) (Nat.le_of_ble_eq_true rfl) (c_X7_bodyFor hhc hh.2.2.2 5 (by decide) hh.1 _ ?_)
  show Sim _ _ _ _ _ _ _ _ (m_push (some 23) _) _ _
  dsimp only [m_push]
  refine s_iconst (v := 0) (n := 9) dX7_answer_8 rfl (by decide) ?_
  refine s_cs5 (n := 12) dX7_answer_9 rfl mo_X7_give ml_X7_23 rfl (Nat.le_of_ble_eq_true rfl) (Nat.le_of_ble_eq_true rfl) (gv23_5 hhc hcn n rfl 0 rfl (by omega) hh ht (fun g2 hf2 ht2 => ?_))
  dsimp only [m_push]
  refine s_ireturn dX7_answer_12 rfl rfl ?_
  exact hQ g2 hf2 ht2
theorem c_X7_answer {SL d : Nat} {Q : Option Int32 → m_G → Prop} {hc : Nat} (hhc : (m_sh hc).1 = 2) (hcn : hc ∉ [25, 26]) {kd ti got : Int32} (hk : kOK kd) (n w : Int32) (hw : w = 0 ∨ w = 1) {g : m_G} {tr : a_Tr} (hh : H_h g hc kd ti got) (ht : C_t g tr) (hQ : ∀ g2, m_fr [25, 26] g g2 → C_t g2 ((aL kd w).foldl psh tr) → Q (some (aV kd w ti n got)) g2) : Sim SL (d + 6) yX7_answer cX7_answer 4 (some .int) 0 [.ref 25, .ref hc, .int n, .int w] [] g Q := by
  rcases hk with rfl | rfl | rfl | rfl | rfl
  · rcases hw with rfl | rfl
    · exact an_1_0 hhc hcn n hh ht hQ
    · exact an_1_1 hhc hcn n hh ht hQ
  · rcases hw with rfl | rfl
    · exact an_2_0 hhc hcn n hh ht hQ
    · exact an_2_1 hhc hcn n hh ht hQ
  · rcases hw with rfl | rfl
    · exact an_3_0 hhc hcn n hh ht hQ
    · exact an_3_1 hhc hcn n hh ht hQ
  · rcases hw with rfl | rfl
    · exact an_4_0 hhc hcn n hh ht hQ
    · exact an_4_1 hhc hcn n hh ht hQ
  · rcases hw with rfl | rfl
    · exact an_5_0 hhc hcn n hh ht hQ
    · exact an_5_1 hhc hcn n hh ht hQ
theorem wn01 {w : Int32} (h : wn w 0 1) : w = 0 ∨ w = 1 := by
  obtain ⟨j, hj, rfl⟩ := wn_ex (n := 1) h rfl
  rcases (show j = 0 ∨ j = 1 by omega) with rfl | rfl
  · exact Or.inl rfl
  · exact Or.inr rfl
theorem C_ask {SL : Nat} {d : Nat} {Q : Option Int32 → m_G → Prop} {g : m_G} {a : a_S} (hA : a_OK a) (hC : C_R g a) (hK : K_S g) (h w : Int32) (hQ : E_C g a Q (sp_ask a h w)) : Sim SL (d + 7) yX8_ask cX8_ask 3 (some .int) 0 [.ref 0, .int h, .int w] [] g Q := by
  unfold E_C sp_ask at hQ
  have hT : TW g 28 (a_H a) := hC.2.2.1.2
  refine s_aload_n (n := 1) dX8_ask_0 rfl rfl rfl ?_
  refine s_iload_n (n := 2) dX8_ask_1 rfl rfl rfl ?_
  refine s_cv1 (n := 5) dX8_ask_2 rfl mo_X8_isHouse ml_X8_153 rfl (by decide) rfl rfl (Nat.le_of_ble_eq_true rfl) (Nat.le_of_ble_eq_true rfl) (c_X8_isHouse hT _ (fun hb2 => ?_) (fun hb2 => ?_))
  · dsimp only [m_push]
    refine s_if_eq (n := 8) (t := 17) dX8_ask_5 (by decide) rfl (fun h => absurd h (by decide)) (fun _ => ?_)
    refine s_iload_n (n := 9) dX8_ask_8 rfl rfl rfl ?_
    refine s_iconst (v := 0) (n := 10) dX8_ask_9 rfl (by decide) ?_
    refine s_iconst (v := 1) (n := 11) dX8_ask_10 rfl (by decide) ?_
    refine s_cs3 (n := 14) dX8_ask_11 rfl mo_X8_within ml_X8_62 rfl (Nat.le_of_ble_eq_true rfl) (Nat.le_of_ble_eq_true rfl) (c_X8_within _ _ _ (fun hb11 => ?_) (fun hb11 => ?_))
    · dsimp only [m_push]
      refine s_if_ne (n := 17) (t := 20) dX8_ask_14 (by decide) rfl (fun _ => ?_) (fun h => absurd h (by decide))
      obtain ⟨i, hi, rfl, hci⟩ := isH_ex hA.cnt hb2
      have hh := hT.2 i hi hci
      rw [nI_clamp (show i < 2 ^ 31 by omega)] at hQ
      refine s_aload_n (n := 21) dX8_ask_20 rfl rfl rfl ?_
      refine s_getr (k2 := 25) (n := 24) dX8_ask_21 rfl fl_X8_53 rfl rfl rfl ?_
      refine s_iconst (v := 0) (n := 25) dX8_ask_24 rfl (by decide) ?_
      refine s_puti (n := 28) dX8_ask_25 rfl fl_X8_289 rfl rfl rfl ?_
      refine s_aload_n (n := 29) dX8_ask_28 rfl rfl rfl ?_
      refine s_getr (k2 := 25) (n := 32) dX8_ask_29 rfl fl_X8_53 rfl rfl rfl ?_
      refine s_aload_n (n := 33) dX8_ask_32 rfl rfl rfl ?_
      refine s_getr (k2 := 28) (n := 36) dX8_ask_33 rfl fl_X8_25 rfl rfl rfl ?_
      refine s_getr (k2 := 29) (n := 39) dX8_ask_36 rfl fl_X8_169 rfl rfl rfl ?_
      refine s_iload_n (n := 40) dX8_ask_39 rfl rfl rfl ?_
      refine s_aaload (k2 := 32 + i) (t := 0) i (n := 41) dX8_ask_40 rfl rfl (by decide) rfl hi rfl ?_
      refine s_iload_n (n := 42) dX8_ask_41 rfl rfl rfl ?_
      refine s_iload_n (n := 43) dX8_ask_42 rfl rfl rfl ?_
      refine s_cs4 (n := 46) dX8_ask_43 rfl mo_X7_answer ml_X8_290 rfl (Nat.le_of_ble_eq_true rfl) (Nat.le_of_ble_eq_true rfl) (c_X7_answer (hbh hb28 hi) (by simp; omega) (hA.kd hi hci) _ _ (wn01 hb11) (tr := (0, (a_trace a).2)) (kd := a_H a (9 + i)) (ti := a_H a (15 + i)) (got := a_H a (33 + i)) ?_ ?_ (fun g2 hf ht => ?_))
      case _ => 
        refine ⟨?_, ?_, ?_, hK.c (fun k hk => m_up_o (by omega))⟩
        · rw [m_up_o (by omega)]; exact hh.1
        · rw [m_up_o (by omega)]; exact hh.2.1
        · rw [m_up_o (by omega)]; exact hh.2.2.2.2
      case _ => exact ⟨by rw [m_up_k, if_pos rfl]; rfl, Nat.zero_le _, fun i hi => absurd hi (Nat.not_lt_zero _)⟩
      dsimp only [m_push]
      refine s_ireturn dX8_ask_46 rfl rfl ?_
      simp only [if_pos hb2, if_pos hb11] at hQ
      have hf2 : m_fr [25, 26] g g2 := (m_fr.up (by simp)).tr hf
      exact hQ g2 ⟨hC.c1 hf2 (by decide), hC.c2 hf2 (by decide), hC.c3 hf2 (by decide), hC.c4 hf2 (by decide), hC.c5 hf2 (by decide), hC.c6 hf2 (by decide), ht⟩ (hf2.FC (by decide))
    · dsimp only [m_push]
      refine s_if_ne (n := 17) (t := 20) dX8_ask_14 (by decide) rfl (fun h => absurd h (by decide)) (fun _ => ?_)
      refine s_ldc (n := 19) dX8_ask_17 rfl kc_X8_66 ?_
      refine s_ireturn dX8_ask_19 rfl rfl ?_
      simp only [if_pos hb2, if_neg hb11] at hQ
      exact hQ g hC F_C.rf
  · dsimp only [m_push]
    refine s_if_eq (n := 8) (t := 17) dX8_ask_5 (by decide) rfl (fun _ => ?_) (fun h => absurd h (by decide))
    refine s_ldc (n := 19) dX8_ask_17 rfl kc_X8_66 ?_
    refine s_ireturn dX8_ask_19 rfl rfl ?_
    simp only [if_neg hb2] at hQ
    exact hQ g hC F_C.rf
theorem c_X9_lentSize {SL : Nat} {d : Nat} {Q : Option Int32 → m_G → Prop} {g : m_G} {t : m_T} {tr : a_Tr} (hT : TM g 0 t) (i : Nat) (hi : i < 6) (ht : M_t g tr) (hQ : ∀ g2, m_tf g g2 → M_t g2 ([10].foldl psh tr) → Q (some (t (15 + i))) g2) : Sim SL (d + 1) yX9_lentSize cX9_lentSize 2 (some .int) 0 [.ref 78, .int (nI i)] [] g Q := by
  refine s_aload_n (n := 1) dX9_lentSize_0 rfl rfl rfl ?_
  refine s_bipush (v := 10) (n := 3) dX9_lentSize_1 rfl (by decide) ?_
  refine s_cv1 (n := 6) dX9_lentSize_3 rfl mo_X9_begin ml_X9_259 rfl (by decide) rfl rfl (Nat.le_of_ble_eq_true rfl) (Nat.le_of_ble_eq_true rfl) (c_X9_begin ht _ (fun g1 hf1 ht1 => ?_))
  have hT1 := hT.tf hf1
  dsimp only [m_push]
  refine s_aload_n (n := 7) dX9_lentSize_6 rfl rfl rfl ?_
  refine s_getr (k2 := 79) (n := 10) dX9_lentSize_7 rfl fl_X9_7 rfl rfl rfl ?_
  refine s_bipush (v := 15) (n := 12) dX9_lentSize_10 rfl (by decide) ?_
  refine s_iload_n (n := 13) dX9_lentSize_12 rfl rfl rfl ?_
  refine s_iadd (n := 14) dX9_lentSize_13 rfl ?_
  refine s_iaload (15 + i) (n := 15) dX9_lentSize_14 rfl rfl (ix2m rfl) (by omega) ?_
  rw [hT1.z (by omega)]
  refine s_ireturn dX9_lentSize_15 rfl rfl ?_
  exact hQ g1 hf1 ht1
theorem c_X9_lentMark {SL : Nat} {d : Nat} {Q : Option Int32 → m_G → Prop} {g : m_G} {t : m_T} {tr : a_Tr} (hT : TM g 0 t) (i : Nat) (hi : i < 6) (ht : M_t g tr) (hQ : ∀ g2, m_tf g g2 → M_t g2 ([20].foldl psh tr) → Q (some (nI i)) g2) : Sim SL (d + 1) yX9_lentMark cX9_lentMark 2 (some .int) 0 [.ref 78, .int (nI i)] [] g Q := by
  refine s_aload_n (n := 1) dX9_lentMark_0 rfl rfl rfl ?_
  refine s_bipush (v := 20) (n := 3) dX9_lentMark_1 rfl (by decide) ?_
  refine s_cv1 (n := 6) dX9_lentMark_3 rfl mo_X9_begin ml_X9_259 rfl (by decide) rfl rfl (Nat.le_of_ble_eq_true rfl) (Nat.le_of_ble_eq_true rfl) (c_X9_begin ht _ (fun g1 hf1 ht1 => ?_))
  have hT1 := hT.tf hf1
  dsimp only [m_push]
  refine s_iload_n (n := 7) dX9_lentMark_6 rfl rfl rfl ?_
  refine s_ireturn dX9_lentMark_7 rfl rfl ?_
  exact hQ g1 hf1 ht1
theorem c_X9_doorMark {SL : Nat} {d : Nat} {Q : Option Int32 → m_G → Prop} {g : m_G} {t : m_T} {tr : a_Tr} (hT : TM g 0 t) (i : Nat) (hi : i < 6) (ht : M_t g tr) (hQ : ∀ g2, m_tf g g2 → M_t g2 ([21, 20].foldl psh tr) → Q (some (nI i + t (33 + i))) g2) : Sim SL (d + 2) yX9_doorMark cX9_doorMark 2 (some .int) 0 [.ref 78, .int (nI i)] [] g Q := by
  refine s_aload_n (n := 1) dX9_doorMark_0 rfl rfl rfl ?_
  refine s_bipush (v := 21) (n := 3) dX9_doorMark_1 rfl (by decide) ?_
  refine s_cv1 (n := 6) dX9_doorMark_3 rfl mo_X9_begin ml_X9_259 rfl (by decide) rfl rfl (Nat.le_of_ble_eq_true rfl) (Nat.le_of_ble_eq_true rfl) (c_X9_begin ht _ (fun g1 hf1 ht1 => ?_))
  have hT1 := hT.tf hf1
  dsimp only [m_push]
  refine s_aload_n (n := 7) dX9_doorMark_6 rfl rfl rfl ?_
  refine s_iload_n (n := 8) dX9_doorMark_7 rfl rfl rfl ?_
  refine s_cv1 (n := 11) dX9_doorMark_8 rfl mo_X9_lentMark ml_X9_275 rfl (by decide) rfl rfl (Nat.le_of_ble_eq_true rfl) (Nat.le_of_ble_eq_true rfl) (c_X9_lentMark hT1 i hi ht1 (fun g2 hf2 ht2 => ?_))
  have hT2 := hT1.tf hf2
  dsimp only [m_push]
  refine s_aload_n (n := 12) dX9_doorMark_11 rfl rfl rfl ?_
  refine s_getr (k2 := 79) (n := 15) dX9_doorMark_12 rfl fl_X9_7 rfl rfl rfl ?_
  refine s_bipush (v := 33) (n := 17) dX9_doorMark_15 rfl (by decide) ?_
  refine s_iload_n (n := 18) dX9_doorMark_17 rfl rfl rfl ?_
  refine s_iadd (n := 19) dX9_doorMark_18 rfl ?_
  refine s_iaload (33 + i) (n := 20) dX9_doorMark_19 rfl rfl (ix2m rfl) (by omega) ?_
  rw [hT2.z (by omega)]
  refine s_iadd (n := 21) dX9_doorMark_20 rfl ?_
  refine s_ireturn dX9_doorMark_21 rfl rfl ?_
  exact hQ g2 (hf1.tr hf2) ht2
theorem c_X9_wallSize {SL : Nat} {d : Nat} {Q : Option Int32 → m_G → Prop} {g : m_G} {t : m_T} {tr : a_Tr} (hT : TM g 0 t) (i : Nat) (hi : i < 6) (ht : M_t g tr) (hQ : ∀ g2, m_tf g g2 → M_t g2 ([13, 10].foldl psh tr) → Q (some (t (15 + i) - 100)) g2) : Sim SL (d + 2) yX9_wallSize cX9_wallSize 2 (some .int) 0 [.ref 78, .int (nI i)] [] g Q := by
  refine s_aload_n (n := 1) dX9_wallSize_0 rfl rfl rfl ?_
  refine s_bipush (v := 13) (n := 3) dX9_wallSize_1 rfl (by decide) ?_
  refine s_cv1 (n := 6) dX9_wallSize_3 rfl mo_X9_begin ml_X9_259 rfl (by decide) rfl rfl (Nat.le_of_ble_eq_true rfl) (Nat.le_of_ble_eq_true rfl) (c_X9_begin ht _ (fun g1 hf1 ht1 => ?_))
  have hT1 := hT.tf hf1
  dsimp only [m_push]
  refine s_aload_n (n := 7) dX9_wallSize_6 rfl rfl rfl ?_
  refine s_iload_n (n := 8) dX9_wallSize_7 rfl rfl rfl ?_
  refine s_cv1 (n := 11) dX9_wallSize_8 rfl mo_X9_lentSize ml_X9_263 rfl (by decide) rfl rfl (Nat.le_of_ble_eq_true rfl) (Nat.le_of_ble_eq_true rfl) (c_X9_lentSize hT1 i hi ht1 (fun g2 hf2 ht2 => ?_))
  have hT2 := hT1.tf hf2
  dsimp only [m_push]
  refine s_bipush (v := 100) (n := 13) dX9_wallSize_11 rfl (by decide) ?_
  refine s_isub (n := 14) dX9_wallSize_13 rfl ?_
  refine s_ireturn dX9_wallSize_14 rfl rfl ?_
  exact hQ g2 (hf1.tr hf2) ht2
theorem c_X9_mark_1 {SL : Nat} {d : Nat} {Q : Option Int32 → m_G → Prop} {g : m_G} {t : m_T} {tr : a_Tr} (hT : TM g 0 t) (i : Nat) (hi : i < 6) (ht : M_t g tr) (hkd : t (9 + i) = 1) (hQ : ∀ g2, m_tf g g2 → M_t g2 ([21, 20].foldl psh tr) → Q (some (nI i + t (33 + i))) g2) : Sim SL (d + 3) yX9_mark cX9_mark 2 (some .int) 0 [.ref 78, .int (nI i)] [] g Q := by
  refine s_aload_n (n := 1) dX9_mark_0 rfl rfl rfl ?_
  refine s_getr (k2 := 79) (n := 4) dX9_mark_1 rfl fl_X9_7 rfl rfl rfl ?_
  refine s_bipush (v := 9) (n := 6) dX9_mark_4 rfl (by decide) ?_
  refine s_iload_n (n := 7) dX9_mark_6 rfl rfl rfl ?_
  refine s_iadd (n := 8) dX9_mark_7 rfl ?_
  refine s_iaload (9 + i) (n := 9) dX9_mark_8 rfl rfl (ix2m rfl) (by omega) ?_
  rw [hT.z (by omega), hkd]
  refine s_lsw (t := 66) (off := 57) dX9_mark_9 (by decide) (by decide) (by decide) ?_
  refine s_aload_n (n := 67) dX9_mark_66 rfl rfl rfl ?_
  refine s_iload_n (n := 68) dX9_mark_67 rfl rfl rfl ?_
  refine s_cv1 (n := 71) dX9_mark_68 rfl mo_X9_doorMark ml_X9_278 rfl (by decide) rfl rfl (Nat.le_of_ble_eq_true rfl) (Nat.le_of_ble_eq_true rfl) (c_X9_doorMark hT i hi ht (fun g2 hf2 ht2 => ?_))
  dsimp only [m_push]
  refine s_ireturn dX9_mark_71 rfl rfl ?_
  exact hQ g2 hf2 ht2
theorem c_X9_mark_2 {SL : Nat} {d : Nat} {Q : Option Int32 → m_G → Prop} {g : m_G} {t : m_T} {tr : a_Tr} (hT : TM g 0 t) (i : Nat) (hi : i < 6) (ht : M_t g tr) (hkd : t (9 + i) = 2) (hQ : ∀ g2, m_tf g g2 → M_t g2 ([24, 21, 20].foldl psh tr) → Q (some (2 * (nI i + t (33 + i)))) g2) : Sim SL (d + 3) yX9_mark cX9_mark 2 (some .int) 0 [.ref 78, .int (nI i)] [] g Q := by
  refine s_aload_n (n := 1) dX9_mark_0 rfl rfl rfl ?_
  refine s_getr (k2 := 79) (n := 4) dX9_mark_1 rfl fl_X9_7 rfl rfl rfl ?_
  refine s_bipush (v := 9) (n := 6) dX9_mark_4 rfl (by decide) ?_
  refine s_iload_n (n := 7) dX9_mark_6 rfl rfl rfl ?_
  refine s_iadd (n := 8) dX9_mark_7 rfl ?_
  refine s_iaload (9 + i) (n := 9) dX9_mark_8 rfl rfl (ix2m rfl) (by omega) ?_
  rw [hT.z (by omega), hkd]
  refine s_lsw (t := 52) (off := 43) dX9_mark_9 (by decide) (by decide) (by decide) ?_
  refine s_aload_n (n := 53) dX9_mark_52 rfl rfl rfl ?_
  refine s_bipush (v := 24) (n := 55) dX9_mark_53 rfl (by decide) ?_
  refine s_cv1 (n := 58) dX9_mark_55 rfl mo_X9_begin ml_X9_259 rfl (by decide) rfl rfl (Nat.le_of_ble_eq_true rfl) (Nat.le_of_ble_eq_true rfl) (c_X9_begin ht _ (fun g1 hf1 ht1 => ?_))
  have hT1 := hT.tf hf1
  dsimp only [m_push]
  refine s_iconst (v := 2) (n := 59) dX9_mark_58 rfl (by decide) ?_
  refine s_aload_n (n := 60) dX9_mark_59 rfl rfl rfl ?_
  refine s_iload_n (n := 61) dX9_mark_60 rfl rfl rfl ?_
  refine s_cv1 (n := 64) dX9_mark_61 rfl mo_X9_doorMark ml_X9_278 rfl (by decide) rfl rfl (Nat.le_of_ble_eq_true rfl) (Nat.le_of_ble_eq_true rfl) (c_X9_doorMark hT1 i hi ht1 (fun g2 hf2 ht2 => ?_))
  have hT2 := hT1.tf hf2
  dsimp only [m_push]
  refine s_imul (n := 65) dX9_mark_64 rfl ?_
  refine s_ireturn dX9_mark_65 rfl rfl ?_
  exact hQ g2 (hf1.tr hf2) ht2
theorem c_X9_mark_3 {SL : Nat} {d : Nat} {Q : Option Int32 → m_G → Prop} {g : m_G} {t : m_T} {tr : a_Tr} (hT : TM g 0 t) (i : Nat) (hi : i < 6) (ht : M_t g tr) (hkd : t (9 + i) = 3) (hQ : ∀ g2, m_tf g g2 → M_t g2 ([22, 21, 20].foldl psh tr) → Q (some (nI i + t (33 + i) - 1000)) g2) : Sim SL (d + 3) yX9_mark cX9_mark 2 (some .int) 0 [.ref 78, .int (nI i)] [] g Q := by
  refine s_aload_n (n := 1) dX9_mark_0 rfl rfl rfl ?_
  refine s_getr (k2 := 79) (n := 4) dX9_mark_1 rfl fl_X9_7 rfl rfl rfl ?_
  refine s_bipush (v := 9) (n := 6) dX9_mark_4 rfl (by decide) ?_
  refine s_iload_n (n := 7) dX9_mark_6 rfl rfl rfl ?_
  refine s_iadd (n := 8) dX9_mark_7 rfl ?_
  refine s_iaload (9 + i) (n := 9) dX9_mark_8 rfl rfl (ix2m rfl) (by omega) ?_
  rw [hT.z (by omega), hkd]
  refine s_lsw (t := 36) (off := 27) dX9_mark_9 (by decide) (by decide) (by decide) ?_
  refine s_aload_n (n := 37) dX9_mark_36 rfl rfl rfl ?_
  refine s_bipush (v := 22) (n := 39) dX9_mark_37 rfl (by decide) ?_
  refine s_cv1 (n := 42) dX9_mark_39 rfl mo_X9_begin ml_X9_259 rfl (by decide) rfl rfl (Nat.le_of_ble_eq_true rfl) (Nat.le_of_ble_eq_true rfl) (c_X9_begin ht _ (fun g1 hf1 ht1 => ?_))
  have hT1 := hT.tf hf1
  dsimp only [m_push]
  refine s_aload_n (n := 43) dX9_mark_42 rfl rfl rfl ?_
  refine s_iload_n (n := 44) dX9_mark_43 rfl rfl rfl ?_
  refine s_cv1 (n := 47) dX9_mark_44 rfl mo_X9_doorMark ml_X9_278 rfl (by decide) rfl rfl (Nat.le_of_ble_eq_true rfl) (Nat.le_of_ble_eq_true rfl) (c_X9_doorMark hT1 i hi ht1 (fun g2 hf2 ht2 => ?_))
  have hT2 := hT1.tf hf2
  dsimp only [m_push]
  refine s_sipush (v := 1000) (n := 50) dX9_mark_47 rfl (by decide) ?_
  refine s_isub (n := 51) dX9_mark_50 rfl ?_
  refine s_ireturn dX9_mark_51 rfl rfl ?_
  exact hQ g2 (hf1.tr hf2) ht2
theorem c_X9_doorSize_1 {SL : Nat} {d : Nat} {Q : Option Int32 → m_G → Prop} {g : m_G} {t : m_T} {tr : a_Tr} (hT : TM g 0 t) (i : Nat) (hi : i < 6) (ht : M_t g tr) (hkd : t (9 + i) = 1) (hQ : ∀ g2, m_tf g g2 → M_t g2 ([11, 10, 21, 20].foldl psh tr) → Q (some (t (15 + i) + (nI i + t (33 + i)))) g2) : Sim SL (d + 4) yX9_doorSize cX9_doorSize 3 (some .int) 0 [.ref 78, .int (nI i), .null] [] g Q := by
  refine s_aload_n (n := 1) dX9_doorSize_0 rfl rfl rfl ?_
  refine s_bipush (v := 11) (n := 3) dX9_doorSize_1 rfl (by decide) ?_
  refine s_cv1 (n := 6) dX9_doorSize_3 rfl mo_X9_begin ml_X9_259 rfl (by decide) rfl rfl (Nat.le_of_ble_eq_true rfl) (Nat.le_of_ble_eq_true rfl) (c_X9_begin ht _ (fun g1 hf1 ht1 => ?_))
  have hT1 := hT.tf hf1
  dsimp only [m_push]
  refine s_aload_n (n := 7) dX9_doorSize_6 rfl rfl rfl ?_
  refine s_iload_n (n := 8) dX9_doorSize_7 rfl rfl rfl ?_
  refine s_cv1 (n := 11) dX9_doorSize_8 rfl mo_X9_lentSize ml_X9_263 rfl (by decide) rfl rfl (Nat.le_of_ble_eq_true rfl) (Nat.le_of_ble_eq_true rfl) (c_X9_lentSize hT1 i hi ht1 (fun g2 hf2 ht2 => ?_))
  have hT2 := hT1.tf hf2
  dsimp only [m_push]
  refine s_istore_n (n := 12) dX9_doorSize_11 rfl rfl (by decide) rfl rfl ?_
  refine s_iload_n (n := 13) dX9_doorSize_12 rfl rfl rfl ?_
  refine s_aload_n (n := 14) dX9_doorSize_13 rfl rfl rfl ?_
  refine s_iload_n (n := 15) dX9_doorSize_14 rfl rfl rfl ?_
  refine s_cv1 (n := 18) dX9_doorSize_15 rfl mo_X9_mark ml_X9_266 rfl (by decide) rfl rfl (Nat.le_of_ble_eq_true rfl) (Nat.le_of_ble_eq_true rfl) (c_X9_mark_1 hT2 i hi ht2 hkd (fun g3 hf3 ht3 => ?_))
  have hT3 := hT2.tf hf3
  dsimp only [m_push]
  refine s_iadd (n := 19) dX9_doorSize_18 rfl ?_
  refine s_ireturn dX9_doorSize_19 rfl rfl ?_
  exact hQ g3 ((hf1.tr hf2).tr hf3) ht3
theorem c_X9_doorSize_2 {SL : Nat} {d : Nat} {Q : Option Int32 → m_G → Prop} {g : m_G} {t : m_T} {tr : a_Tr} (hT : TM g 0 t) (i : Nat) (hi : i < 6) (ht : M_t g tr) (hkd : t (9 + i) = 2) (hQ : ∀ g2, m_tf g g2 → M_t g2 ([11, 10, 24, 21, 20].foldl psh tr) → Q (some (t (15 + i) + (2 * (nI i + t (33 + i))))) g2) : Sim SL (d + 4) yX9_doorSize cX9_doorSize 3 (some .int) 0 [.ref 78, .int (nI i), .null] [] g Q := by
  refine s_aload_n (n := 1) dX9_doorSize_0 rfl rfl rfl ?_
  refine s_bipush (v := 11) (n := 3) dX9_doorSize_1 rfl (by decide) ?_
  refine s_cv1 (n := 6) dX9_doorSize_3 rfl mo_X9_begin ml_X9_259 rfl (by decide) rfl rfl (Nat.le_of_ble_eq_true rfl) (Nat.le_of_ble_eq_true rfl) (c_X9_begin ht _ (fun g1 hf1 ht1 => ?_))
  have hT1 := hT.tf hf1
  dsimp only [m_push]
  refine s_aload_n (n := 7) dX9_doorSize_6 rfl rfl rfl ?_
  refine s_iload_n (n := 8) dX9_doorSize_7 rfl rfl rfl ?_
  refine s_cv1 (n := 11) dX9_doorSize_8 rfl mo_X9_lentSize ml_X9_263 rfl (by decide) rfl rfl (Nat.le_of_ble_eq_true rfl) (Nat.le_of_ble_eq_true rfl) (c_X9_lentSize hT1 i hi ht1 (fun g2 hf2 ht2 => ?_))
  have hT2 := hT1.tf hf2
  dsimp only [m_push]
  refine s_istore_n (n := 12) dX9_doorSize_11 rfl rfl (by decide) rfl rfl ?_
  refine s_iload_n (n := 13) dX9_doorSize_12 rfl rfl rfl ?_
  refine s_aload_n (n := 14) dX9_doorSize_13 rfl rfl rfl ?_
  refine s_iload_n (n := 15) dX9_doorSize_14 rfl rfl rfl ?_
  refine s_cv1 (n := 18) dX9_doorSize_15 rfl mo_X9_mark ml_X9_266 rfl (by decide) rfl rfl (Nat.le_of_ble_eq_true rfl) (Nat.le_of_ble_eq_true rfl) (c_X9_mark_2 hT2 i hi ht2 hkd (fun g3 hf3 ht3 => ?_))
  have hT3 := hT2.tf hf3
  dsimp only [m_push]
  refine s_iadd (n := 19) dX9_doorSize_18 rfl ?_
  refine s_ireturn dX9_doorSize_19 rfl rfl ?_
  exact hQ g3 ((hf1.tr hf2).tr hf3) ht3
theorem c_X9_doorSize_3 {SL : Nat} {d : Nat} {Q : Option Int32 → m_G → Prop} {g : m_G} {t : m_T} {tr : a_Tr} (hT : TM g 0 t) (i : Nat) (hi : i < 6) (ht : M_t g tr) (hkd : t (9 + i) = 3) (hQ : ∀ g2, m_tf g g2 → M_t g2 ([11, 10, 22, 21, 20].foldl psh tr) → Q (some (t (15 + i) + (nI i + t (33 + i) - 1000))) g2) : Sim SL (d + 4) yX9_doorSize cX9_doorSize 3 (some .int) 0 [.ref 78, .int (nI i), .null] [] g Q := by
  refine s_aload_n (n := 1) dX9_doorSize_0 rfl rfl rfl ?_
  refine s_bipush (v := 11) (n := 3) dX9_doorSize_1 rfl (by decide) ?_
  refine s_cv1 (n := 6) dX9_doorSize_3 rfl mo_X9_begin ml_X9_259 rfl (by decide) rfl rfl (Nat.le_of_ble_eq_true rfl) (Nat.le_of_ble_eq_true rfl) (c_X9_begin ht _ (fun g1 hf1 ht1 => ?_))
  have hT1 := hT.tf hf1
  dsimp only [m_push]
  refine s_aload_n (n := 7) dX9_doorSize_6 rfl rfl rfl ?_
  refine s_iload_n (n := 8) dX9_doorSize_7 rfl rfl rfl ?_
  refine s_cv1 (n := 11) dX9_doorSize_8 rfl mo_X9_lentSize ml_X9_263 rfl (by decide) rfl rfl (Nat.le_of_ble_eq_true rfl) (Nat.le_of_ble_eq_true rfl) (c_X9_lentSize hT1 i hi ht1 (fun g2 hf2 ht2 => ?_))
  have hT2 := hT1.tf hf2
  dsimp only [m_push]
  refine s_istore_n (n := 12) dX9_doorSize_11 rfl rfl (by decide) rfl rfl ?_
  refine s_iload_n (n := 13) dX9_doorSize_12 rfl rfl rfl ?_
  refine s_aload_n (n := 14) dX9_doorSize_13 rfl rfl rfl ?_
  refine s_iload_n (n := 15) dX9_doorSize_14 rfl rfl rfl ?_
  refine s_cv1 (n := 18) dX9_doorSize_15 rfl mo_X9_mark ml_X9_266 rfl (by decide) rfl rfl (Nat.le_of_ble_eq_true rfl) (Nat.le_of_ble_eq_true rfl) (c_X9_mark_3 hT2 i hi ht2 hkd (fun g3 hf3 ht3 => ?_))
  have hT3 := hT2.tf hf3
  dsimp only [m_push]
  refine s_iadd (n := 19) dX9_doorSize_18 rfl ?_
  refine s_ireturn dX9_doorSize_19 rfl rfl ?_
  exact hQ g3 ((hf1.tr hf2).tr hf3) ht3
theorem c_X9_sizeOf_1 {SL : Nat} {d : Nat} {Q : Option Int32 → m_G → Prop} {g : m_G} {t : m_T} {tr : a_Tr} (hT : TM g 0 t) (i : Nat) (hi : i < 6) (ht : M_t g tr) (hkd : t (9 + i) = 1) (hQ : ∀ g2, m_tf g g2 → M_t g2 ([11, 10, 21, 20].foldl psh tr) → Q (some (t (15 + i) + (nI i + t (33 + i)))) g2) : Sim SL (d + 5) yX9_sizeOf cX9_sizeOf 2 (some .int) 0 [.ref 78, .int (nI i)] [] g Q := by
  refine s_aload_n (n := 1) dX9_sizeOf_0 rfl rfl rfl ?_
  refine s_getr (k2 := 79) (n := 4) dX9_sizeOf_1 rfl fl_X9_7 rfl rfl rfl ?_
  refine s_bipush (v := 9) (n := 6) dX9_sizeOf_4 rfl (by decide) ?_
  refine s_iload_n (n := 7) dX9_sizeOf_6 rfl rfl rfl ?_
  refine s_iadd (n := 8) dX9_sizeOf_7 rfl ?_
  refine s_iaload (9 + i) (n := 9) dX9_sizeOf_8 rfl rfl (ix2m rfl) (by omega) ?_
  rw [hT.z (by omega), hkd]
  refine s_tsw_out (t := 73) dX9_sizeOf_9 (by decide) (by decide) ?_
  refine s_aload_n (n := 74) dX9_sizeOf_73 rfl rfl rfl ?_
  refine s_iload_n (n := 75) dX9_sizeOf_74 rfl rfl rfl ?_
  refine s_cv1 (n := 78) dX9_sizeOf_75 rfl mo_X9_doorSize ml_X9_269 rfl (by decide) rfl rfl (Nat.le_of_ble_eq_true rfl) (Nat.le_of_ble_eq_true rfl) (c_X9_doorSize_1 hT i hi ht hkd (fun g2 hf2 ht2 => ?_))
  dsimp only [m_push]
  refine s_ireturn dX9_sizeOf_78 rfl rfl ?_
  exact hQ g2 hf2 ht2
theorem c_X9_sizeOf_2 {SL : Nat} {d : Nat} {Q : Option Int32 → m_G → Prop} {g : m_G} {t : m_T} {tr : a_Tr} (hT : TM g 0 t) (i : Nat) (hi : i < 6) (ht : M_t g tr) (hkd : t (9 + i) = 2) (hQ : ∀ g2, m_tf g g2 → M_t g2 ([12, 11, 10, 24, 21, 20].foldl psh tr) → Q (some (-(t (15 + i) + 2 * (nI i + t (33 + i))))) g2) : Sim SL (d + 5) yX9_sizeOf cX9_sizeOf 2 (some .int) 0 [.ref 78, .int (nI i)] [] g Q := by
  refine s_aload_n (n := 1) dX9_sizeOf_0 rfl rfl rfl ?_
  refine s_getr (k2 := 79) (n := 4) dX9_sizeOf_1 rfl fl_X9_7 rfl rfl rfl ?_
  refine s_bipush (v := 9) (n := 6) dX9_sizeOf_4 rfl (by decide) ?_
  refine s_iload_n (n := 7) dX9_sizeOf_6 rfl rfl rfl ?_
  refine s_iadd (n := 8) dX9_sizeOf_7 rfl ?_
  refine s_iaload (9 + i) (n := 9) dX9_sizeOf_8 rfl rfl (ix2m rfl) (by omega) ?_
  rw [hT.z (by omega), hkd]
  refine s_tsw_in (t := 40) dX9_sizeOf_9 (by decide) (by decide) rfl (by decide) ?_
  refine s_aload_n (n := 41) dX9_sizeOf_40 rfl rfl rfl ?_
  refine s_bipush (v := 12) (n := 43) dX9_sizeOf_41 rfl (by decide) ?_
  refine s_cv1 (n := 46) dX9_sizeOf_43 rfl mo_X9_begin ml_X9_259 rfl (by decide) rfl rfl (Nat.le_of_ble_eq_true rfl) (Nat.le_of_ble_eq_true rfl) (c_X9_begin ht _ (fun g1 hf1 ht1 => ?_))
  have hT1 := hT.tf hf1
  dsimp only [m_push]
  refine s_aload_n (n := 47) dX9_sizeOf_46 rfl rfl rfl ?_
  refine s_iload_n (n := 48) dX9_sizeOf_47 rfl rfl rfl ?_
  refine s_cv1 (n := 51) dX9_sizeOf_48 rfl mo_X9_doorSize ml_X9_269 rfl (by decide) rfl rfl (Nat.le_of_ble_eq_true rfl) (Nat.le_of_ble_eq_true rfl) (c_X9_doorSize_2 hT1 i hi ht1 hkd (fun g2 hf2 ht2 => ?_))
  have hT2 := hT1.tf hf2
  dsimp only [m_push]
  refine s_ineg (n := 52) dX9_sizeOf_51 rfl ?_
  refine s_ireturn dX9_sizeOf_52 rfl rfl ?_
  exact hQ g2 (hf1.tr hf2) ht2
theorem c_X9_sizeOf_3 {SL : Nat} {d : Nat} {Q : Option Int32 → m_G → Prop} {g : m_G} {t : m_T} {tr : a_Tr} (hT : TM g 0 t) (i : Nat) (hi : i < 6) (ht : M_t g tr) (hkd : t (9 + i) = 3) (hQ : ∀ g2, m_tf g g2 → M_t g2 ([11, 10, 22, 21, 20].foldl psh tr) → Q (some (t (15 + i) + (nI i + t (33 + i) - 1000))) g2) : Sim SL (d + 5) yX9_sizeOf cX9_sizeOf 2 (some .int) 0 [.ref 78, .int (nI i)] [] g Q := by
  refine s_aload_n (n := 1) dX9_sizeOf_0 rfl rfl rfl ?_
  refine s_getr (k2 := 79) (n := 4) dX9_sizeOf_1 rfl fl_X9_7 rfl rfl rfl ?_
  refine s_bipush (v := 9) (n := 6) dX9_sizeOf_4 rfl (by decide) ?_
  refine s_iload_n (n := 7) dX9_sizeOf_6 rfl rfl rfl ?_
  refine s_iadd (n := 8) dX9_sizeOf_7 rfl ?_
  refine s_iaload (9 + i) (n := 9) dX9_sizeOf_8 rfl rfl (ix2m rfl) (by omega) ?_
  rw [hT.z (by omega), hkd]
  refine s_tsw_in (t := 73) dX9_sizeOf_9 (by decide) (by decide) rfl (by decide) ?_
  refine s_aload_n (n := 74) dX9_sizeOf_73 rfl rfl rfl ?_
  refine s_iload_n (n := 75) dX9_sizeOf_74 rfl rfl rfl ?_
  refine s_cv1 (n := 78) dX9_sizeOf_75 rfl mo_X9_doorSize ml_X9_269 rfl (by decide) rfl rfl (Nat.le_of_ble_eq_true rfl) (Nat.le_of_ble_eq_true rfl) (c_X9_doorSize_3 hT i hi ht hkd (fun g2 hf2 ht2 => ?_))
  dsimp only [m_push]
  refine s_ireturn dX9_sizeOf_78 rfl rfl ?_
  exact hQ g2 hf2 ht2
theorem c_X9_sizeOf_4 {SL : Nat} {d : Nat} {Q : Option Int32 → m_G → Prop} {g : m_G} {t : m_T} {tr : a_Tr} (hT : TM g 0 t) (i : Nat) (hi : i < 6) (ht : M_t g tr) (hkd : t (9 + i) = 4) (hQ : ∀ g2, m_tf g g2 → M_t g2 ([13, 10].foldl psh tr) → Q (some (t (15 + i) - 100)) g2) : Sim SL (d + 5) yX9_sizeOf cX9_sizeOf 2 (some .int) 0 [.ref 78, .int (nI i)] [] g Q := by
  refine s_aload_n (n := 1) dX9_sizeOf_0 rfl rfl rfl ?_
  refine s_getr (k2 := 79) (n := 4) dX9_sizeOf_1 rfl fl_X9_7 rfl rfl rfl ?_
  refine s_bipush (v := 9) (n := 6) dX9_sizeOf_4 rfl (by decide) ?_
  refine s_iload_n (n := 7) dX9_sizeOf_6 rfl rfl rfl ?_
  refine s_iadd (n := 8) dX9_sizeOf_7 rfl ?_
  refine s_iaload (9 + i) (n := 9) dX9_sizeOf_8 rfl rfl (ix2m rfl) (by omega) ?_
  rw [hT.z (by omega), hkd]
  refine s_tsw_in (t := 53) dX9_sizeOf_9 (by decide) (by decide) rfl (by decide) ?_
  refine s_aload_n (n := 54) dX9_sizeOf_53 rfl rfl rfl ?_
  refine s_iload_n (n := 55) dX9_sizeOf_54 rfl rfl rfl ?_
  refine s_cv1 (n := 58) dX9_sizeOf_55 rfl mo_X9_wallSize ml_X9_272 rfl (by decide) rfl rfl (Nat.le_of_ble_eq_true rfl) (Nat.le_of_ble_eq_true rfl) (c_X9_wallSize hT i hi ht (fun g2 hf2 ht2 => ?_))
  dsimp only [m_push]
  refine s_ireturn dX9_sizeOf_58 rfl rfl ?_
  exact hQ g2 hf2 ht2
theorem c_X9_sizeOf_5 {SL : Nat} {d : Nat} {Q : Option Int32 → m_G → Prop} {g : m_G} {t : m_T} {tr : a_Tr} (hT : TM g 0 t) (i : Nat) (hi : i < 6) (ht : M_t g tr) (hkd : t (9 + i) = 5) (hQ : ∀ g2, m_tf g g2 → M_t g2 ([14, 13, 10].foldl psh tr) → Q (some (2 * (t (15 + i) - 100))) g2) : Sim SL (d + 5) yX9_sizeOf cX9_sizeOf 2 (some .int) 0 [.ref 78, .int (nI i)] [] g Q := by
  refine s_aload_n (n := 1) dX9_sizeOf_0 rfl rfl rfl ?_
  refine s_getr (k2 := 79) (n := 4) dX9_sizeOf_1 rfl fl_X9_7 rfl rfl rfl ?_
  refine s_bipush (v := 9) (n := 6) dX9_sizeOf_4 rfl (by decide) ?_
  refine s_iload_n (n := 7) dX9_sizeOf_6 rfl rfl rfl ?_
  refine s_iadd (n := 8) dX9_sizeOf_7 rfl ?_
  refine s_iaload (9 + i) (n := 9) dX9_sizeOf_8 rfl rfl (ix2m rfl) (by omega) ?_
  rw [hT.z (by omega), hkd]
  refine s_tsw_in (t := 59) dX9_sizeOf_9 (by decide) (by decide) rfl (by decide) ?_
  refine s_aload_n (n := 60) dX9_sizeOf_59 rfl rfl rfl ?_
  refine s_bipush (v := 14) (n := 62) dX9_sizeOf_60 rfl (by decide) ?_
  refine s_cv1 (n := 65) dX9_sizeOf_62 rfl mo_X9_begin ml_X9_259 rfl (by decide) rfl rfl (Nat.le_of_ble_eq_true rfl) (Nat.le_of_ble_eq_true rfl) (c_X9_begin ht _ (fun g1 hf1 ht1 => ?_))
  have hT1 := hT.tf hf1
  dsimp only [m_push]
  refine s_iconst (v := 2) (n := 66) dX9_sizeOf_65 rfl (by decide) ?_
  refine s_aload_n (n := 67) dX9_sizeOf_66 rfl rfl rfl ?_
  refine s_iload_n (n := 68) dX9_sizeOf_67 rfl rfl rfl ?_
  refine s_cv1 (n := 71) dX9_sizeOf_68 rfl mo_X9_wallSize ml_X9_272 rfl (by decide) rfl rfl (Nat.le_of_ble_eq_true rfl) (Nat.le_of_ble_eq_true rfl) (c_X9_wallSize hT1 i hi ht1 (fun g2 hf2 ht2 => ?_))
  have hT2 := hT1.tf hf2
  dsimp only [m_push]
  refine s_imul (n := 72) dX9_sizeOf_71 rfl ?_
  refine s_ireturn dX9_sizeOf_72 rfl rfl ?_
  exact hQ g2 (hf1.tr hf2) ht2
theorem c_X9_wallMark_4 {SL : Nat} {d : Nat} {Q : Option Int32 → m_G → Prop} {g : m_G} {t : m_T} {tr : a_Tr} (hT : TM g 0 t) (i : Nat) (hi : i < 6) (ht : M_t g tr) (hkd : t (9 + i) = 4) (hQ : ∀ g2, m_tf g g2 → M_t g2 ([23, 20, 13, 10].foldl psh tr) → Q (some (nI i - (t (15 + i) - 100))) g2) : Sim SL (d + 6) yX9_wallMark cX9_wallMark 3 (some .int) 0 [.ref 78, .int (nI i), .null] [] g Q := by
  refine s_aload_n (n := 1) dX9_wallMark_0 rfl rfl rfl ?_
  refine s_bipush (v := 23) (n := 3) dX9_wallMark_1 rfl (by decide) ?_
  refine s_cv1 (n := 6) dX9_wallMark_3 rfl mo_X9_begin ml_X9_259 rfl (by decide) rfl rfl (Nat.le_of_ble_eq_true rfl) (Nat.le_of_ble_eq_true rfl) (c_X9_begin ht _ (fun g1 hf1 ht1 => ?_))
  have hT1 := hT.tf hf1
  dsimp only [m_push]
  refine s_aload_n (n := 7) dX9_wallMark_6 rfl rfl rfl ?_
  refine s_iload_n (n := 8) dX9_wallMark_7 rfl rfl rfl ?_
  refine s_cv1 (n := 11) dX9_wallMark_8 rfl mo_X9_lentMark ml_X9_275 rfl (by decide) rfl rfl (Nat.le_of_ble_eq_true rfl) (Nat.le_of_ble_eq_true rfl) (c_X9_lentMark hT1 i hi ht1 (fun g2 hf2 ht2 => ?_))
  have hT2 := hT1.tf hf2
  dsimp only [m_push]
  refine s_istore_n (n := 12) dX9_wallMark_11 rfl rfl (by decide) rfl rfl ?_
  refine s_iload_n (n := 13) dX9_wallMark_12 rfl rfl rfl ?_
  refine s_aload_n (n := 14) dX9_wallMark_13 rfl rfl rfl ?_
  refine s_iload_n (n := 15) dX9_wallMark_14 rfl rfl rfl ?_
  refine s_cv1 (n := 18) dX9_wallMark_15 rfl mo_X9_sizeOf ml_X9_281 rfl (by decide) rfl rfl (Nat.le_of_ble_eq_true rfl) (Nat.le_of_ble_eq_true rfl) (c_X9_sizeOf_4 hT2 i hi ht2 hkd (fun g3 hf3 ht3 => ?_))
  have hT3 := hT2.tf hf3
  dsimp only [m_push]
  refine s_isub (n := 19) dX9_wallMark_18 rfl ?_
  refine s_ireturn dX9_wallMark_19 rfl rfl ?_
  exact hQ g3 ((hf1.tr hf2).tr hf3) ht3
theorem c_X9_wallMark_5 {SL : Nat} {d : Nat} {Q : Option Int32 → m_G → Prop} {g : m_G} {t : m_T} {tr : a_Tr} (hT : TM g 0 t) (i : Nat) (hi : i < 6) (ht : M_t g tr) (hkd : t (9 + i) = 5) (hQ : ∀ g2, m_tf g g2 → M_t g2 ([23, 20, 14, 13, 10].foldl psh tr) → Q (some (nI i - (2 * (t (15 + i) - 100)))) g2) : Sim SL (d + 6) yX9_wallMark cX9_wallMark 3 (some .int) 0 [.ref 78, .int (nI i), .null] [] g Q := by
  refine s_aload_n (n := 1) dX9_wallMark_0 rfl rfl rfl ?_
  refine s_bipush (v := 23) (n := 3) dX9_wallMark_1 rfl (by decide) ?_
  refine s_cv1 (n := 6) dX9_wallMark_3 rfl mo_X9_begin ml_X9_259 rfl (by decide) rfl rfl (Nat.le_of_ble_eq_true rfl) (Nat.le_of_ble_eq_true rfl) (c_X9_begin ht _ (fun g1 hf1 ht1 => ?_))
  have hT1 := hT.tf hf1
  dsimp only [m_push]
  refine s_aload_n (n := 7) dX9_wallMark_6 rfl rfl rfl ?_
  refine s_iload_n (n := 8) dX9_wallMark_7 rfl rfl rfl ?_
  refine s_cv1 (n := 11) dX9_wallMark_8 rfl mo_X9_lentMark ml_X9_275 rfl (by decide) rfl rfl (Nat.le_of_ble_eq_true rfl) (Nat.le_of_ble_eq_true rfl) (c_X9_lentMark hT1 i hi ht1 (fun g2 hf2 ht2 => ?_))
  have hT2 := hT1.tf hf2
  dsimp only [m_push]
  refine s_istore_n (n := 12) dX9_wallMark_11 rfl rfl (by decide) rfl rfl ?_
  refine s_iload_n (n := 13) dX9_wallMark_12 rfl rfl rfl ?_
  refine s_aload_n (n := 14) dX9_wallMark_13 rfl rfl rfl ?_
  refine s_iload_n (n := 15) dX9_wallMark_14 rfl rfl rfl ?_
  refine s_cv1 (n := 18) dX9_wallMark_15 rfl mo_X9_sizeOf ml_X9_281 rfl (by decide) rfl rfl (Nat.le_of_ble_eq_true rfl) (Nat.le_of_ble_eq_true rfl) (c_X9_sizeOf_5 hT2 i hi ht2 hkd (fun g3 hf3 ht3 => ?_))
  have hT3 := hT2.tf hf3
  dsimp only [m_push]
  refine s_isub (n := 19) dX9_wallMark_18 rfl ?_
  refine s_ireturn dX9_wallMark_19 rfl rfl ?_
  exact hQ g3 ((hf1.tr hf2).tr hf3) ht3
theorem c_X9_sizeOf {SL d : Nat} {Q : Option Int32 → m_G → Prop} {g : m_G} {t : m_T} {tr : a_Tr} (hT : TM g 0 t) (i : Nat) (hi : i < 6) (ht : M_t g tr) (hk : kOK (t (9 + i))) (hQ : ∀ g2, m_tf g g2 → M_t g2 ((aL (t (9 + i)) 0).foldl psh tr) → Q (some (aV (t (9 + i)) 0 (t (15 + i)) (nI i) (t (33 + i)))) g2) : Sim SL (d + 5) yX9_sizeOf cX9_sizeOf 2 (some .int) 0 [.ref 78, .int (nI i)] [] g Q := by
  rcases hk with e | e | e | e | e <;> rw [e] at hQ
  · exact c_X9_sizeOf_1 hT i hi ht e hQ
  · exact c_X9_sizeOf_2 hT i hi ht e hQ
  · exact c_X9_sizeOf_3 hT i hi ht e hQ
  · exact c_X9_sizeOf_4 hT i hi ht e hQ
  · exact c_X9_sizeOf_5 hT i hi ht e hQ
theorem c_X9_wallMark {SL d : Nat} {Q : Option Int32 → m_G → Prop} {g : m_G} {t : m_T} {tr : a_Tr} (hT : TM g 0 t) (i : Nat) (hi : i < 6) (ht : M_t g tr) (hk : kOK (t (9 + i))) (hw : isOfP (t (9 + i)) 4) (hQ : ∀ g2, m_tf g g2 → M_t g2 ((aL (t (9 + i)) 1).foldl psh tr) → Q (some (aV (t (9 + i)) 1 (t (15 + i)) (nI i) (t (33 + i)))) g2) : Sim SL (d + 6) yX9_wallMark cX9_wallMark 3 (some .int) 0 [.ref 78, .int (nI i), .null] [] g Q := by
  rcases hk with e | e | e | e | e <;> rw [e] at hQ hw
  · exact absurd hw (by decide)
  · exact absurd hw (by decide)
  · exact absurd hw (by decide)
  · exact c_X9_wallMark_4 hT i hi ht e hQ
  · exact c_X9_wallMark_5 hT i hi ht e hQ
theorem c_X9_mark {SL d : Nat} {Q : Option Int32 → m_G → Prop} {g : m_G} {t : m_T} {tr : a_Tr} (hT : TM g 0 t) (i : Nat) (hi : i < 6) (ht : M_t g tr) (hk : kOK (t (9 + i))) (hw : ¬ isOfP (t (9 + i)) 4) (hQ : ∀ g2, m_tf g g2 → M_t g2 ((aL (t (9 + i)) 1).foldl psh tr) → Q (some (aV (t (9 + i)) 1 (t (15 + i)) (nI i) (t (33 + i)))) g2) : Sim SL (d + 3) yX9_mark cX9_mark 2 (some .int) 0 [.ref 78, .int (nI i)] [] g Q := by
  rcases hk with e | e | e | e | e <;> rw [e] at hQ hw
  · exact c_X9_mark_1 hT i hi ht e hQ
  · exact c_X9_mark_2 hT i hi ht e hQ
  · exact c_X9_mark_3 hT i hi ht e hQ
  · exact absurd (by decide) hw
  · exact absurd (by decide) hw
theorem M_ask {SL : Nat} {d : Nat} {Q : Option Int32 → m_G → Prop} {g : m_G} {a : a_S} (hA : a_OK a) (hM : M_R g a) (h w : Int32) (hQ : E_M g a Q (sp_ask a h w)) : Sim SL (d + 7) yX9_ask cX9_ask 3 (some .int) 0 [.ref 78, .int h, .int w] [] g Q := by
  unfold E_M sp_ask at hQ
  have hT : TM g 0 (a_H a) := hM.2.2.1.2
  refine s_aload_n (n := 1) dX9_ask_0 rfl rfl rfl ?_
  refine s_iload_n (n := 2) dX9_ask_1 rfl rfl rfl ?_
  refine s_cv1 (n := 5) dX9_ask_2 rfl mo_X9_isHouse ml_X9_193 rfl (by decide) rfl rfl (Nat.le_of_ble_eq_true rfl) (Nat.le_of_ble_eq_true rfl) (c_X9_isHouse hT _ (fun hb2 => ?_) (fun hb2 => ?_))
  · dsimp only [m_push]
    refine s_if_eq (n := 8) (t := 18) dX9_ask_5 (by decide) rfl (fun h => absurd h (by decide)) (fun _ => ?_)
    refine s_iload_n (n := 9) dX9_ask_8 rfl rfl rfl ?_
    refine s_i2l (n := 10) dX9_ask_9 rfl ?_
    refine s_lconst (v := 0) (n := 11) dX9_ask_10 rfl (by decide) ?_
    refine s_lconst (v := 1) (n := 12) dX9_ask_11 rfl (by decide) ?_
    refine s_cs3 (n := 15) dX9_ask_12 rfl mo_X9_in ml_X9_60 rfl (Nat.le_of_ble_eq_true rfl) (Nat.le_of_ble_eq_true rfl) (c_X9_in (0) (1) rfl (by decide) (by decide) (fun hb12 => ?_) (fun hb12 => ?_))
    · dsimp only [m_push]
      refine s_if_ne (n := 18) (t := 21) dX9_ask_15 (by decide) rfl (fun _ => ?_) (fun h => absurd h (by decide))
      obtain ⟨i, hi, rfl, hci⟩ := isH_ex hA.cnt hb2
      rw [nI_clamp (show i < 2 ^ 31 by omega)] at hQ
      refine s_aload_n (n := 22) dX9_ask_21 rfl rfl rfl ?_
      refine s_iconst (v := 0) (n := 23) dX9_ask_22 rfl (by decide) ?_
      refine s_puti (n := 26) dX9_ask_23 rfl fl_X9_256 rfl rfl rfl ?_
      have hT0 : TM (m_up g 78 12 0) 0 (a_H a) := fun j hj => by rw [m_up_o (by decide)]; exact hT j hj
      have ht0 : M_t (m_up g 78 12 0) (0, (a_trace a).2) := ⟨by rw [m_up_k, if_pos rfl]; rfl, Nat.zero_le _, fun i hi => absurd hi (Nat.not_lt_zero _)⟩
      refine s_iload_n (n := 27) dX9_ask_26 rfl rfl rfl ?_
      refine s_if_ne (n := 30) (t := 38) dX9_ask_27 (by decide) rfl (fun h27 => ?_) (fun h27 => ?_)
      · obtain rfl : w = 1 := (wn01 hb12).resolve_left h27
        refine s_aload_n (n := 39) dX9_ask_38 rfl rfl rfl ?_
        refine s_iload_n (n := 40) dX9_ask_39 rfl rfl rfl ?_
        refine s_iconst (v := 4) (n := 41) dX9_ask_40 rfl (by decide) ?_
        refine s_cv2 (n := 44) dX9_ask_41 rfl mo_X9_isOf ml_X9_253 rfl (by decide) rfl rfl (Nat.le_of_ble_eq_true rfl) (Nat.le_of_ble_eq_true rfl) (c_X9_isOf hT0 i hi _ (fun hb41 => ?_) (fun hb41 => ?_))
        · dsimp only [m_push]
          refine s_if_eq (n := 47) (t := 55) dX9_ask_44 (by decide) rfl (fun h => absurd h (by decide)) (fun _ => ?_)
          refine s_aload_n (n := 48) dX9_ask_47 rfl rfl rfl ?_
          refine s_iload_n (n := 49) dX9_ask_48 rfl rfl rfl ?_
          refine s_cv1 (n := 52) dX9_ask_49 rfl mo_X9_wallMark ml_X9_284 rfl (by decide) rfl rfl (Nat.le_of_ble_eq_true rfl) (Nat.le_of_ble_eq_true rfl) (c_X9_wallMark hT0 i hi ht0 (hA.kd hi hci) hb41 (fun g2 hf ht => ?_))
          dsimp only [m_push]
          refine s_goto (t := 60) dX9_ask_52 (by decide) ?_
          refine s_ireturn dX9_ask_60 rfl rfl ?_
          simp only [if_pos hb2, if_pos hb12] at hQ
          have hf2 : m_fr [78, 85] g g2 := (m_fr.up (by simp)).tr hf.1
          have e : ∀ j, j ≠ 12 → g2 78 j = g 78 j := fun j hj => by rw [hf.2 j hj, m_up_k, if_neg hj]
          have e9 := hf2 79 (by decide)
          exact hQ g2 ⟨hM.c1 hf2 (by decide), hM.c2 hf2 (by decide) (e _ (by decide)), hM.c3 (e _ (by decide)) (fun _ _ => by rw [e9]), hM.c4 (e _ (by decide)) (fun _ _ _ => by rw [e9]), hM.c5 hf2 (by decide) (fun _ _ _ => by rw [e9]), hM.c6 (e _ (by decide)) (e _ (by decide)), ht⟩ (hf2.FM (by decide))
        · dsimp only [m_push]
          refine s_if_eq (n := 47) (t := 55) dX9_ask_44 (by decide) rfl (fun _ => ?_) (fun h => absurd h (by decide))
          refine s_aload_n (n := 56) dX9_ask_55 rfl rfl rfl ?_
          refine s_iload_n (n := 57) dX9_ask_56 rfl rfl rfl ?_
          refine s_cv1 (n := 60) dX9_ask_57 rfl mo_X9_mark ml_X9_266 rfl (by decide) rfl rfl (Nat.le_of_ble_eq_true rfl) (Nat.le_of_ble_eq_true rfl) (c_X9_mark hT0 i hi ht0 (hA.kd hi hci) hb41 (fun g2 hf ht => ?_))
          dsimp only [m_push]
          refine s_ireturn dX9_ask_60 rfl rfl ?_
          simp only [if_pos hb2, if_pos hb12] at hQ
          have hf2 : m_fr [78, 85] g g2 := (m_fr.up (by simp)).tr hf.1
          have e : ∀ j, j ≠ 12 → g2 78 j = g 78 j := fun j hj => by rw [hf.2 j hj, m_up_k, if_neg hj]
          have e9 := hf2 79 (by decide)
          exact hQ g2 ⟨hM.c1 hf2 (by decide), hM.c2 hf2 (by decide) (e _ (by decide)), hM.c3 (e _ (by decide)) (fun _ _ => by rw [e9]), hM.c4 (e _ (by decide)) (fun _ _ _ => by rw [e9]), hM.c5 hf2 (by decide) (fun _ _ _ => by rw [e9]), hM.c6 (e _ (by decide)) (e _ (by decide)), ht⟩ (hf2.FM (by decide))
      · obtain rfl := h27
        refine s_aload_n (n := 31) dX9_ask_30 rfl rfl rfl ?_
        refine s_iload_n (n := 32) dX9_ask_31 rfl rfl rfl ?_
        refine s_cv1 (n := 35) dX9_ask_32 rfl mo_X9_sizeOf ml_X9_281 rfl (by decide) rfl rfl (Nat.le_of_ble_eq_true rfl) (Nat.le_of_ble_eq_true rfl) (c_X9_sizeOf hT0 i hi ht0 (hA.kd hi hci) (fun g2 hf ht => ?_))
        dsimp only [m_push]
        refine s_goto (t := 60) dX9_ask_35 (by decide) ?_
        refine s_ireturn dX9_ask_60 rfl rfl ?_
        simp only [if_pos hb2, if_pos hb12] at hQ
        have hf2 : m_fr [78, 85] g g2 := (m_fr.up (by simp)).tr hf.1
        have e : ∀ j, j ≠ 12 → g2 78 j = g 78 j := fun j hj => by rw [hf.2 j hj, m_up_k, if_neg hj]
        have e9 := hf2 79 (by decide)
        exact hQ g2 ⟨hM.c1 hf2 (by decide), hM.c2 hf2 (by decide) (e _ (by decide)), hM.c3 (e _ (by decide)) (fun _ _ => by rw [e9]), hM.c4 (e _ (by decide)) (fun _ _ _ => by rw [e9]), hM.c5 hf2 (by decide) (fun _ _ _ => by rw [e9]), hM.c6 (e _ (by decide)) (e _ (by decide)), ht⟩ (hf2.FM (by decide))
    · dsimp only [m_push]
      refine s_if_ne (n := 18) (t := 21) dX9_ask_15 (by decide) rfl (fun h => absurd h (by decide)) (fun _ => ?_)
      refine s_ldc (n := 20) dX9_ask_18 rfl kc_X9_70 ?_
      refine s_ireturn dX9_ask_20 rfl rfl ?_
      simp only [if_pos hb2, if_neg hb12] at hQ
      exact hQ g hM F_M.rf
  · dsimp only [m_push]
    refine s_if_eq (n := 8) (t := 18) dX9_ask_5 (by decide) rfl (fun _ => ?_) (fun h => absurd h (by decide))
    refine s_ldc (n := 20) dX9_ask_18 rfl kc_X9_70 ?_
    refine s_ireturn dX9_ask_20 rfl rfl ?_
    simp only [if_neg hb2] at hQ
    exact hQ g hM F_M.rf
