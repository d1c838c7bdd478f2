/-! ===== what every call keeps ===== -/
theorem ok_hill {a : a_S} {t : m_T} {ps : List m_T} (h : a_OK a) (ht : a_TK t) (hp : ∀ p ∈ ps, a_TK p) : a_OK (u_hill a (some t) ps) :=
  ⟨fun t2 e => (by cases e; exact ht), hp, h.2.2.1, fun e => (by cases e), fun _ _ _ e => (by cases e)⟩
theorem ok_push {t : m_T} {ps : List m_T} (ht : a_TK t) (hp : ∀ p ∈ ps, a_TK p) : ∀ p ∈ a_push t ps, a_TK p := fun p hq => by
  rcases List.mem_cons.mp (List.mem_of_mem_take hq) with rfl | h
  · exact ht
  · exact hp p h
theorem ok_act {a : a_S} {t t2 : m_T} (h : a_OK a) (ht : a_TK t) (ht2 : a_TK t2) : a_OK (a_act a t t2) := ok_hill h ht2 (ok_push ht h.2.1)
theorem a_TK.spd {t : m_T} (h : a_TK t) {v : Int32} (hv : wn v 1 9) : a_TK (upd t 4 v) := by
  obtain ⟨h0, h1, h2, h3, h4, h5, h6, h7, h8⟩ := h
  unfold a_TK
  rw [upd_ne (show (0 : Nat) ≠ 4 by decide), upd_ne (show (1 : Nat) ≠ 4 by decide), upd_ne (show (2 : Nat) ≠ 4 by decide), upd_ne (show (3 : Nat) ≠ 4 by decide), upd_eq, upd_ne (show (5 : Nat) ≠ 4 by decide), upd_ne (show (6 : Nat) ≠ 4 by decide), upd_ne (show (7 : Nat) ≠ 4 by decide)]
  refine ⟨h0, h1, h2, h3, hv, h5, h6, h7, fun i hi hc => ?_⟩
  rw [upd_ne (by omega), upd_ne (by omega), upd_ne (by omega)]
  exact h8 i hi hc
theorem yrs_ok : ∀ (n : Nat) (t : m_T) (ps : List m_T) (r : Option Nat) (y : Nat), t 7 = nI y → y + n ≤ 999 → a_TK t → (∀ p ∈ ps, a_TK p) → a_TK (yrs n t ps r).1 ∧ ∀ p ∈ (yrs n t ps r).2.1, a_TK p
  | 0, t, ps, r, y, _, _, ht, hp => ⟨ht, hp⟩
  | n + 1, t, ps, r, y, hy, hn, ht, hp => by
    unfold yrs
    exact yrs_ok n (passT t) _ _ (y + 1) (by rw [passT7, hy, nI_1]) (by omega) (ht.pass hy (by omega)) (ok_push ht hp)
theorem ok_row {a : a_S} (hA : a_OK a) (r l n : Int32) : a_OK (sp_row a r l n).2 := by
  unfold sp_row
  repeat' split
  all_goals exact hA
theorem ok_set {a : a_S} (hA : a_OK a) (r i v : Int32) : a_OK (sp_set a r i v).2 := by
  unfold sp_set
  repeat' split
  all_goals exact hA
theorem ok_copy {a : a_S} (hA : a_OK a) (x i y j n : Int32) : a_OK (sp_copy a x i y j n).2 := by
  unfold sp_copy
  repeat' split
  all_goals exact hA
theorem ok_drop {a : a_S} (hA : a_OK a) (r : Int32) : a_OK (sp_drop a r).2 := by
  unfold sp_drop
  repeat' split
  all_goals exact hA
theorem ok_feed {a : a_S} (hA : a_OK a) (x : Int32) : a_OK (sp_feed a x).2 := by
  unfold sp_feed
  repeat' split
  all_goals exact hA
theorem ok_as {a : a_S} (hA : a_OK a) (h k : Int32) : a_OK (sp_as a h k).2 := by
  unfold sp_as
  repeat' split
  all_goals exact hA
theorem ok_ask {a : a_S} (hA : a_OK a) (h w : Int32) : a_OK (sp_ask a h w).2 := by
  unfold sp_ask
  repeat' split
  all_goals exact hA
theorem ok_rolls {a : a_S} (hA : a_OK a) (r i n w : Int32) : a_OK (sp_rolls a r i n w).2 := by
  unfold sp_rolls
  repeat' split
  all_goals exact hA
theorem ok_sorts {a : a_S} (hA : a_OK a) (h r i n : Int32) : a_OK (sp_sorts a h r i n).2 := by
  unfold sp_sorts
  repeat' split
  all_goals exact hA
theorem ok_hillM {a : a_S} (h : a_OK a) : a_OK (sp_hill a).2 := by
  unfold sp_hill
  cases hr : rdAll (a_tape a).1 (a_tape a).2 with
  | inl e => exact h
  | inr t => exact ok_hill (a := u_tape a (0, (a_tape a).2)) h ((rdAll_ok hr).1.op _) (fun p hp => absurd hp List.not_mem_nil)
theorem ok_years {a : a_S} (h : a_OK a) (n : Int32) : a_OK (sp_years a n).2 := by
  unfold sp_years
  cases hh : a_hill a with
  | none => exact h
  | some t =>
    dsimp only
    have hK := h.1 t hh
    split
    · rename_i hn
      split
      · rename_i hy
        obtain ⟨nn, hnn, rfl⟩ := wn_ex (x := n) (M := 24) (n := 24) ⟨fun q => hn.1 (by rw [i32_lt] at *; have := ti0; have := ti1; omega), hn.2⟩ rfl
        obtain ⟨y, hy9, ey⟩ := wn_ex (n := 999) hK.2.2.2.2.2.2.2.1 rfl
        rw [nI_clamp (show nn < 2 ^ 31 by omega)]
        have hle : y + nn ≤ 999 := by
          rw [ey, nI_add, i32_le, nI_toInt (by omega)] at hy
          have : (999 : Int32).toInt = 999 := rfl
          omega
        obtain ⟨h1, h2⟩ := yrs_ok nn t (a_past a) none y ey hle hK h.2.1
        exact ok_hill h h1 h2
      · exact h
    · exact h
theorem ok_door {a : a_S} (h : a_OK a) (x o : Int32) : a_OK (sp_door a x o).2 := by
  unfold sp_door
  split
  · rename_i hx
    have hK := h.tk hx
    repeat' split
    · exact h
    · exact ok_act h hK (hK.op _)
    · exact h
  · exact h
theorem ok_build {a : a_S} (h : a_OK a) (q x y : Int32) : a_OK (sp_build a q x y).2 := by
  unfold sp_build
  split
  · rename_i hx
    have hK := h.tk hx
    obtain ⟨i, hi, rfl, hci⟩ := isH_ex h.cnt hx
    rw [nI_clamp (show i < 2 ^ 31 by omega)]
    split
    · rename_i hc
      cases sAt (a_H a) x y with
      | some _ => exact h
      | none => exact ok_act h hK (hK.mv hi (wn_up hc.1 hK.1) hc.2)
    · exact h
  · exact h
theorem ok_speed {a : a_S} (h : a_OK a) (v : Int32) : a_OK (sp_speed a v).2 := by
  unfold sp_speed
  cases hh : a_hill a with
  | none => exact h
  | some t =>
    dsimp only
    split
    · rename_i hv
      exact ok_act h (h.1 t hh) ((h.1 t hh).spd hv)
    · exact h
theorem ok_undo {a : a_S} (h : a_OK a) : a_OK (sp_undo a).2 := by
  unfold sp_undo
  cases hp : a_past a with
  | nil => exact h
  | cons p ps => exact ok_hill h (h.2.1 p (by rw [hp]; exact List.mem_cons_self)) (fun q hq => h.2.1 q (by rw [hp]; exact List.mem_cons_of_mem _ hq))
theorem ok_image {a : a_S} (h : a_OK a) (k : Int32) : a_OK (sp_image a k).2 := by
  unfold sp_image
  split
  · cases hh : a_hill a with
    | none => exact h
    | some t =>
      refine ⟨h.1, h.2.1, fun q t2 e => ?_, h.2.2.2.1, fun q t2 e z => ?_⟩
      · have e2 : (if q = k.toNatClampNeg then some t else a_imgs a q) = some t2 := e
        split at e2
        · cases e2; exact h.1 t hh
        · exact h.2.2.1 q t2 e2
      · have z2 : a_hill a = none := z
        rw [hh] at z2; cases z2
  · exact h
theorem ok_restore {a : a_S} (h : a_OK a) (k : Int32) : a_OK (sp_restore a k).2 := by
  unfold sp_restore
  split
  · cases hi : a_imgs a k.toNatClampNeg with
    | none => exact h
    | some t => exact ok_hill h (h.2.2.1 _ t hi) (fun p hp => absurd hp List.not_mem_nil)
  · exact h
theorem ok_fault {a : a_S} (hA : a_OK a)  : a_OK (sp_fault a ).2 := by
  unfold sp_fault
  repeat' split
  all_goals exact hA
theorem ok_status {a : a_S} (hA : a_OK a)  : a_OK (sp_status a ).2 := by
  unfold sp_status
  repeat' split
  all_goals exact hA
theorem ok_house {a : a_S} (hA : a_OK a) (h w : Int32) : a_OK (sp_house a h w).2 := by
  unfold sp_house
  repeat' split
  all_goals exact hA
theorem ok_at {a : a_S} (hA : a_OK a) (x y : Int32) : a_OK (sp_at a x y).2 := by
  unfold sp_at
  repeat' split
  all_goals exact hA
theorem ok_kind {a : a_S} (hA : a_OK a) (h : Int32) : a_OK (sp_kind a h).2 := by
  unfold sp_kind
  repeat' split
  all_goals exact hA
theorem ok_trace {a : a_S} (hA : a_OK a) (i : Int32) : a_OK (sp_trace a i).2 := by
  unfold sp_trace
  repeat' split
  all_goals exact hA
theorem ok_count {a : a_S} (hA : a_OK a) (w : Int32) : a_OK (sp_count a w).2 := by
  unfold sp_count
  repeat' split
  all_goals exact hA
theorem ok_rests {a : a_S} (hA : a_OK a) (d : Int32) : a_OK (sp_rests a d).2 := by
  unfold sp_rests
  repeat' split
  all_goals exact hA
theorem ok_line {a : a_S} (hA : a_OK a) (x d : Int32) : a_OK (sp_line a x d).2 := by
  unfold sp_line
  repeat' split
  all_goals exact hA
theorem ok_left {a : a_S} (hA : a_OK a) (d : Int32) : a_OK (sp_left a d).2 := by
  unfold sp_left
  repeat' split
  all_goals exact hA
theorem ok_next {a : a_S} (hA : a_OK a) (h : Int32) : a_OK (sp_next a h).2 := by
  unfold sp_next
  repeat' split
  all_goals exact hA
theorem ok_often {a : a_S} (hA : a_OK a) (h n : Int32) : a_OK (sp_often a h n).2 := by
  unfold sp_often
  repeat' split
  all_goals exact hA
theorem ok_aim {a : a_S} (hA : a_OK a) (h d w : Int32) : a_OK (sp_aim a h d w).2 := by
  unfold sp_aim
  repeat' split
  all_goals exact hA
theorem ok_shun {a : a_S} (hA : a_OK a) (x d w : Int32) : a_OK (sp_shun a x d w).2 := by
  unfold sp_shun
  repeat' split
  all_goals exact hA
theorem ok_site {a : a_S} (hA : a_OK a) (h n w : Int32) : a_OK (sp_site a h n w).2 := by
  unfold sp_site
  repeat' split
  all_goals exact hA
theorem ok_sulks {a : a_S} (hA : a_OK a)  : a_OK (sp_sulks a ).2 := by
  unfold sp_sulks
  repeat' split
  all_goals exact hA
theorem ok_peace {a : a_S} (hA : a_OK a) (w : Int32) : a_OK (sp_peace a w).2 := by
  unfold sp_peace
  repeat' split
  all_goals exact hA
theorem ok_play {a : a_S} (hA : a_OK a) (h c w : Int32) : a_OK (sp_play a h c w).2 := by
  unfold sp_play
  repeat' split
  all_goals exact hA
theorem ok_drawn {a : a_S} (hA : a_OK a) (n s w : Int32) : a_OK (sp_drawn a n s w).2 := by
  unfold sp_drawn
  repeat' split
  all_goals exact hA
