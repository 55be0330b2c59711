/-! LAYER 2, 23: the server answers -/
section SVA
variable {t : ob_S} {v : sv_S} {ty code id : Nat} {tok w b2 b1 : Option Nat} {S : List (List Nat)} {P : List Nat}
/-- what is asked is done: the code of the answer, the server behind it -/
def sv_hand (v : sv_S) (code : Nat) (res b2 b1 : Option Nat) (P : List Nat) : Nat × sv_S := match res with
  | none => (132, v)
  | some r => if code = 1 then (match b2 with
      | none => (130, v)
      | some b => if b / 16 ≠ 0 ∧ (v.1 r).length ≤ b / 16 * af_size (b % 8) then (130, v) else (69, v))
    else (match b1 with
      | none => (130, v)
      | some b => sv_part v r b P)
theorem oI_some {x : Nat} (hx : x < 2 ^ 31) : ¬ oI (some x) = -1 := fun z => by
  have := (oI_none (o := some x) (fun y hy => by cases hy; exact hx)).mp z
  cases this
theorem x_handle {res : Option Nat} (h : ob_Sv t v) (hm : ob_Mm t ty code id tok w b2 b1 S P) (hco : code = 1 ∨ code = 3) (hr : ∀ r, res = some r → r < 4) : ∃ u, X_Se_handle 53 96 (oI res) t = some (nI (sv_hand v code res b2 b1 P).1, u) ∧ ob_Sv u (sv_hand v code res b2 b1 P).2 ∧ ob_Fr (fun q => 56 ≤ q ∧ q < 72) t u := by
  have sh := h.1
  obtain ⟨g0, g1, g2, g3, g4, g5, g6, g7, g8⟩ := hm.g
  obtain ⟨m1, m2, m3, m4, m5, m6, m7, m8, m9⟩ := hm.2
  cases res with
  | none =>
    refine ⟨t, ?_, h, ob_Fr.rf⟩
    rw [X_Se_handle, ob_this_e sh.1, if_neg (show ¬ ¬ oI none = -1 from fun z => z rfl)]; rfl
  | some r =>
    have hr4 := hr r rfl
    rw [X_Se_handle, ob_this_e sh.1, if_pos (oI_some (by omega)), ob_b_e g1]
    unfold sv_hand
    dsimp only
    rcases hco with hc | hc
    · subst hc
      rw [if_neg (show ¬ ¬ nI 1 = (1 : Int32) from fun z => z rfl), ob_b_e g5, if_pos rfl, B_Se_handle_28]
      cases b2 with
      | none => exact ⟨t, by rw [if_neg (show ¬ ¬ oI none = -1 from fun z => z rfl)]; rfl, h, ob_Fr.rf⟩
      | some b =>
        have hb := m6 b rfl
        have cb := (h.2.2.1 r hr4).1
        have hsz := af_size_ok (b % 8)
        have hmul : b / 16 * af_size (b % 8) ≤ 63 * 32 := Nat.mul_le_mul (by omega) hsz.1
        have lc : (v.1 r).length ≤ 64 := by have := cb.2.2.2.2.2.1; rw [nb_len] at this; exact this
        rw [if_pos (oI_some (by omega)), ob_b_e g1, if_pos (by decide), ob_b_e g5, ob_b2_e (show X_Ob_numOf (oI (some b)) t = some (nI (b / 16), t) from x_numOf b (by omega) t), ob_b_e g5, ob_b2_e (show X_Ob_szxOf (oI (some b)) t = some (nI (b % 8), t) from x_szxOf b (by omega) t), ob_b2_e (x_sizeOf (b % 8) (by omega) t), ob_b_e (ob_gR_e sh.1 sh.2.1), ob_b_e (show ob_aR 14 54 (oI (some r)) t = some (56 + 4 * r) from (sv_cont sh hr4).1), ob_b_e (ob_gI_e cb.1 (show ob_i t (56 + 4 * r) 1 = nI (v.1 r).length by rw [cb.2.2.2.2.2.2.1, nb_len])), pk_mul]
        try dsimp only
        by_cases c1 : b / 16 * af_size (b % 8) < (v.1 r).length
        · rw [if_pos (nI_lt c1 (by omega)), if_neg (show ¬ (b / 16 ≠ 0 ∧ (v.1 r).length ≤ b / 16 * af_size (b % 8)) from fun z => by have := z.2; omega), B_Se_handle_88]
          refine ⟨t, ?_, h, ob_Fr.rf⟩
          by_cases c2 : nI (b / 16) = 0
          · rw [if_pos c2]; rfl
          · rw [if_neg c2, if_pos rfl]; rfl
        · rw [if_neg (nI_nlt (by omega) (by omega)), B_Se_handle_88]
          by_cases c2 : b / 16 = 0
          · rw [if_pos (show nI (b / 16) = 0 by rw [c2]; rfl), if_neg (show ¬ (b / 16 ≠ 0 ∧ (v.1 r).length ≤ b / 16 * af_size (b % 8)) from fun z => z.1 c2)]
            exact ⟨t, rfl, h, ob_Fr.rf⟩
          · rw [if_neg (nI_ne0 (by omega) (by omega)), if_neg (by decide), if_pos (show b / 16 ≠ 0 ∧ (v.1 r).length ≤ b / 16 * af_size (b % 8) from ⟨c2, by omega⟩)]
            exact ⟨t, rfl, h, ob_Fr.rf⟩
    · subst hc
      rw [if_pos (by decide), ob_b_e g6, if_neg (by decide), B_Se_handle_28]
      cases b1 with
      | none => exact ⟨t, by rw [if_neg (show ¬ ¬ oI none = -1 from fun z => z rfl)]; rfl, h, ob_Fr.rf⟩
      | some b =>
        have hb := m7 b rfl
        obtain ⟨u, e, s, f⟩ := x_takePart h hm hr4
        refine ⟨u, ?_, s, f⟩
        rw [if_pos (oI_some (by omega)), ob_b_e g1, if_neg (show ¬ ¬ nI 3 = (3 : Int32) from fun z => z rfl), ob_b2_e (show X_Se_takePart 53 96 (oI (some r)) t = _ from e)]
/-- watching begins or ends: the server behind it, what is written, the last number -/
def sv_reg (v : sv_S) (tk r num z : Nat) (w : Option Nat) : sv_S × List Nat × Nat :=
  if num = 0 ∧ w = some 0 then (match wt_beg v.2.2.1 tk r z with
    | none => (v, [], 0)
    | some W => ((v.1, v.2.1, W, v.2.2.2.1, v.2.2.2.2.1, (v.2.2.2.2.2.1 + 1) % 65536, v.2.2.2.2.2.2), aw_head 0 6 (aw_n ((v.2.2.2.2.2.1 + 1) % 65536)) ++ aw_val ((v.2.2.2.2.2.1 + 1) % 65536), 6))
  else if num = 0 ∧ w = some 1 then (match wt_ix tk v.2.2.1 0 with
    | none => (v, [], 0)
    | some k => ((v.1, v.2.1, v.2.2.1.eraseIdx k, v.2.2.2), [], 0))
  else (v, [], 0)
/-- the option and the payload of a content -/
def aw_cont (ct : List Nat) (last num z : Nat) : List Nat := aw_head last 23 (aw_n (16 * num + 8 * af_more ct.length num z + z)) ++ aw_val (16 * num + 8 * af_more ct.length num z + z) ++ aw_pay ct (num * af_size z) (af_size z)
theorem x_cont90 {r num z : Nat} {L : List Nat} {last : Nat} (h : ob_Sv t v) (hw : ob_Wr t 93 94 95 L last) (hr : r < 4) (hn : num < 64) (hz : z < 2) (hla : last ≤ 6) (hl : L.length ≤ 9) : ∃ u, B_Se_addContent_90 53 (nI r) (nI num) (nI z) t = some u ∧ ob_Sv u v ∧ ob_Wr u 93 94 95 (L ++ aw_cont (v.1 r) last num z) 23 ∧ ob_Fr (ob_3 93 94 95) t u := by
  have sh := h.1
  have hmm := af_more_lt (v.1 r).length num z
  obtain ⟨u1, e1, w1, f1⟩ := x_Wr_addNumber 23 (16 * num + 8 * af_more (v.1 r).length num z + z) hw (by omega) (by omega) (by omega) (by omega)
  have S1 := h.wr f1 w1
  have hsz := af_size_ok z
  have l5 := aw_head_len last 23 (aw_n (16 * num + 8 * af_more (v.1 r).length num z + z))
  have l6 := aw_val_len (16 * num + 8 * af_more (v.1 r).length num z + z)
  have hmul : num * af_size z ≤ 64 * 32 := Nat.mul_le_mul (by omega) hsz.1
  obtain ⟨u2, e2, w2, f2⟩ := x_Wr_addPayload (num * af_size z) (af_size z) w1 (S1.2.2.1 r hr).1 (by omega) (by omega) ⟨by omega, by omega, by omega, by omega⟩ (by omega) (by omega) (by rw [List.length_append, List.length_append]; omega)
  have S2 := S1.wr f2 w2
  refine ⟨u2, ?_, S2, ?_, f1.tr f2⟩
  · rw [B_Se_addContent_90, ob_b_e (ob_gR_e sh.1 sh.2.2.2.2.2.2.1), ob_b2_e (x_blockIn r num z sh h.2.2.1 hr (by omega) hz), ob_b_e (show X_Wr_addNumber 93 23 (nI (16 * num + 8 * af_more (v.1 r).length num z + z)) t = some u1 from e1), ob_b_e (ob_gR_e S1.1.1 S1.1.2.2.2.2.2.2.1), ob_b_e (ob_gR_e S1.1.1 S1.1.2.1), ob_b_e (sv_cont S1.1 hr).1, ob_b2_e (x_sizeOf z hz u1), ob_b2_e (x_sizeOf z hz u1), pk_mul, ob_b_e e2]
  · rw [show L ++ aw_cont (v.1 r) last num z = L ++ aw_head last 23 (aw_n (16 * num + 8 * af_more (v.1 r).length num z + z)) ++ aw_val (16 * num + 8 * af_more (v.1 r).length num z + z) ++ aw_pay (v.1 r) (num * af_size z) (af_size z) by rw [aw_cont]; simp only [List.append_assoc]]
    exact w2
theorem sv_reg_ct (v : sv_S) (tk r num z : Nat) (w : Option Nat) : (sv_reg v tk r num z w).1.1 = v.1 := by
  unfold sv_reg
  split
  · split <;> rfl
  · split
    · split <;> rfl
    · rfl
theorem x_addContent {r b tk : Nat} {L : List Nat} (h : ob_Sv t v) (hm : ob_Mm t ty code id (some tk) w (some b) b1 S P) (hw : ob_Wr t 93 94 95 L 0) (hr : r < 4) (hl : L.length = 5) : ∃ u, X_Se_addContent 53 96 (nI r) t = some u ∧ ob_Sv u (sv_reg v tk r (b / 16) (b % 8) w).1 ∧ ob_Wr u 93 94 95 (L ++ (sv_reg v tk r (b / 16) (b % 8) w).2.1 ++ aw_cont (v.1 r) (sv_reg v tk r (b / 16) (b % 8) w).2.2 (b / 16) (b % 8)) 23 ∧ ob_Fr sv_P t u := by
  have sh := h.1
  obtain ⟨g0, g1, g2, g3, g4, g5, g6, g7, g8⟩ := hm.g
  obtain ⟨m1, m2, m3, m4, m5, m6, m7, m8, m9⟩ := hm.2
  have hb := m6 b rfl
  have htk := m4 tk rfl
  have pre : X_Se_addContent 53 96 (nI r) t = if ¬ nI (b / 16) = 0 then B_Se_addContent_66 53 96 (nI r) (nI (b / 16)) (nI (b % 8)) t else if ¬ oI w = 0 then B_Se_addContent_66 53 96 (nI r) (nI (b / 16)) (nI (b % 8)) t else ob_b2 (X_Se_beginWatch 53 (nI tk) (nI r) (nI (b % 8)) t) fun x36 t36 => if x36 = 0 then B_Se_addContent_66 53 96 (nI r) (nI (b / 16)) (nI (b % 8)) t36 else (ob_gI 9 3 53 t36).bind fun x44 => ob_b2 (X_Ob_following x44 t36) fun x47 t47 => (ob_pI 9 3 53 x47 t47).bind fun t50 => (ob_gR 9 8 53 t50).bind fun n54 => (ob_gI 9 3 53 t50).bind fun x60 => (X_Wr_addNumber n54 (6 : Int32) x60 t50).bind fun t63 => B_Se_addContent_66 53 96 (nI r) (nI (b / 16)) (nI (b % 8)) t63 := by
    rw [X_Se_addContent, ob_this_e sh.1, ob_b_e g5, ob_b2_e (show X_Ob_numOf (oI (some b)) t = some (nI (b / 16), t) from x_numOf b (by omega) t), ob_b_e g5, ob_b2_e (show X_Ob_szxOf (oI (some b)) t = some (nI (b % 8), t) from x_szxOf b (by omega) t), ob_b_e g4, ob_b_e g3]
    rfl
  have w0 : oI w = 0 ↔ w = some 0 := by
    have := oI_eq (o := w) (y := 0) (fun x hx => by have := m5 x hx; omega) (by omega)
    exact ⟨fun z => this.mp z.symm, fun z => (this.mpr z).symm⟩
  have w1' : oI w = 1 ↔ w = some 1 := by
    have := oI_eq (o := w) (y := 1) (fun x hx => by have := m5 x hx; omega) (by omega)
    exact ⟨fun z => this.mp z.symm, fun z => (this.mpr z).symm⟩
  rw [pre]
  by_cases c0 : b / 16 = 0
  · rw [if_neg (show ¬ ¬ nI (b / 16) = 0 from fun z => z (by rw [c0]; rfl))]
    by_cases cw : w = some 0
    · rw [if_neg (show ¬ ¬ oI w = 0 from fun z => z (w0.mpr cw))]
      obtain ⟨u1, e1, S1, f1⟩ := x_beginWatch tk r (b % 8) h htk hr (by omega)
      have mm1 := hm.fr f1 (fun q a b => by omega)
      have wr1 := hw.fr f1 (by omega) (by omega) (by omega)
      rw [ob_b2_e e1, sv_reg, if_pos (show b / 16 = 0 ∧ w = some 0 from ⟨c0, cw⟩)]
      have tail : ∀ (x : ob_S) (v' : sv_S) (L' : List Nat) (last' : Nat), ob_Sv x v' → ob_Mm x ty code id (some tk) w (some b) b1 S P → ob_Wr x 93 94 95 L' last' → last' ≤ 6 → L'.length ≤ 9 → ∃ y, B_Se_addContent_66 53 96 (nI r) (nI (b / 16)) (nI (b % 8)) x = some y ∧ ob_Sv y v' ∧ ob_Wr y 93 94 95 (L' ++ aw_cont (v'.1 r) last' (b / 16) (b % 8)) 23 ∧ ob_Fr (ob_3 93 94 95) x y := by
        intro x v' L' last' Sx mx wx q1 q2
        obtain ⟨y, ey, sy, wy, fy⟩ := x_cont90 Sx wx hr (num := b / 16) (z := b % 8) (by omega) (by omega) q1 q2
        refine ⟨y, ?_, sy, wy, fy⟩
        rw [B_Se_addContent_66, if_neg (show ¬ ¬ nI (b / 16) = 0 from fun z => z (by rw [c0]; rfl)), ob_b_e mx.g.2.2.2.2.1, if_pos (show ¬ oI w = 1 from fun z => by have := w1'.mp z; rw [cw] at this; cases this)]
        exact ey
      cases hb2 : wt_beg v.2.2.1 tk r (b % 8) with
      | none =>
        rw [hb2] at S1
        obtain ⟨u2, e2, S2, w2, f2⟩ := tail u1 v L 0 S1 mm1 wr1 (by omega) (by omega)
        refine ⟨u2, ?_, S2, by rw [List.append_nil]; exact w2, (f1.mono (fun q z => by omega)).tr (f2.mono (fun q z => by have := ob_3s z; omega))⟩
        rw [if_pos (show (if (none : Option (List sv_W)).isSome = true then (1 : Int32) else 0) = 0 from rfl)]
        exact e2
      | some W =>
        rw [hb2] at S1
        have S1 : ob_Sv u1 (v.1, v.2.1, W, v.2.2.2) := S1
        obtain ⟨a1, a2, a3, a4, a5, a6⟩ := S1.2.1
        have hse : (v.2.2.2.2.2.1 + 1) % 65536 < 65536 := Nat.mod_lt _ (by omega)
        have S2 := S1.seen ((v.2.2.2.2.2.1 + 1) % 65536) hse
        have f2 : ob_Fr (fun q => q = 53) u1 (ob_setI u1 53 3 (nI ((v.2.2.2.2.2.1 + 1) % 65536))) := ob_Fr.setI rfl
        have mm2 := mm1.fr f2 (fun q a b => by omega)
        have wr2 := wr1.fr f2 (by omega) (by omega) (by omega)
        obtain ⟨u3, e3, w3, f3⟩ := x_Wr_addNumber 6 ((v.2.2.2.2.2.1 + 1) % 65536) wr2 (by omega) (by omega) hse (by omega)
        have S3 := S2.wr f3 w3
        have mm3 := mm2.fr f3 (fun q a b z => by have := ob_3s z; omega)
        obtain ⟨u4, e4, S4, w4, f4⟩ := tail u3 _ _ 6 S3 mm3 w3 (by omega) (by
          have q1 := aw_head_len 0 6 (aw_n ((v.2.2.2.2.2.1 + 1) % 65536))
          have q2 := aw_val_len ((v.2.2.2.2.2.1 + 1) % 65536)
          rw [List.length_append, List.length_append]
          omega)
        refine ⟨u4, ?_, S4, ?_, ((((f1.mono (fun q z => by omega)).tr (f2.mono (fun q z => by omega))).tr (f3.mono (fun q z => by have := ob_3s z; omega))).tr (f4.mono (fun q z => by have := ob_3s z; omega)))⟩
        · rw [if_neg (show ¬ (if (some W : Option (List sv_W)).isSome = true then (1 : Int32) else 0) = 0 from (by decide : ¬ (1 : Int32) = 0)), ob_b_e (ob_gI_e S1.1.1 a3), ob_b2_e (x_following _ a5 u1), ob_b_e (ob_pI_e S1.1.1), ob_b_e (ob_gR_e S2.1.1 S2.1.2.2.2.2.2.2.1), ob_b_e (ob_gI_e S2.1.1 ob_i_self), ob_b_e (show X_Wr_addNumber 93 6 (nI ((v.2.2.2.2.2.1 + 1) % 65536)) _ = some u3 from e3)]
          exact e4
        · rw [show L ++ (aw_head 0 6 (aw_n ((v.2.2.2.2.2.1 + 1) % 65536)) ++ aw_val ((v.2.2.2.2.2.1 + 1) % 65536)) = L ++ aw_head 0 6 (aw_n ((v.2.2.2.2.2.1 + 1) % 65536)) ++ aw_val ((v.2.2.2.2.2.1 + 1) % 65536) by simp only [List.append_assoc]]
          exact w4
    · rw [if_pos (show ¬ oI w = 0 from fun z => cw (w0.mp z)), sv_reg, if_neg (show ¬ (b / 16 = 0 ∧ w = some 0) from fun z => cw z.2)]
      by_cases c1 : w = some 1
      · rw [if_pos (show b / 16 = 0 ∧ w = some 1 from ⟨c0, c1⟩)]
        have ew := x_watcherWith tk htk h
        have p66 : B_Se_addContent_66 53 96 (nI r) (nI (b / 16)) (nI (b % 8)) t = (X_Se_endWatch 53 (oI (wt_ix tk v.2.2.1 0)) t).bind fun t87 => B_Se_addContent_90 53 (nI r) (nI (b / 16)) (nI (b % 8)) t87 := by
          rw [B_Se_addContent_66, if_neg (show ¬ ¬ nI (b / 16) = 0 from fun z => z (by rw [c0]; rfl)), ob_b_e g4, if_neg (show ¬ ¬ oI w = 1 from fun z => z (w1'.mpr c1)), ob_b_e g3, ob_b2_e (show X_Se_watcherWith 53 (oI (some tk)) t = _ from ew)]
        rw [p66]
        cases hi : wt_ix tk v.2.2.1 0 with
        | none =>
          obtain ⟨u2, e2, S2, w2, f2⟩ := x_cont90 h hw hr (num := b / 16) (z := b % 8) (by omega) (by omega) (by omega) (by omega)
          refine ⟨u2, ?_, S2, by rw [List.append_nil]; exact w2, f2.mono (fun q z => by have := ob_3s z; omega)⟩
          rw [ob_b_e (show X_Se_endWatch 53 (oI none) t = some t from x_endWatchNo h)]
          exact e2
        | some k =>
          have hk := (wt_ix_lt hi).2
          obtain ⟨u1, e1, S1, f1⟩ := x_endWatch (k := k) h (by omega)
          obtain ⟨u2, e2, S2, w2, f2⟩ := x_cont90 S1 (hw.fr f1 (by omega) (by omega) (by omega)) hr (num := b / 16) (z := b % 8) (by omega) (by omega) (by omega) (by omega)
          refine ⟨u2, ?_, S2, by rw [List.append_nil]; exact w2, (f1.mono (fun q z => by omega)).tr (f2.mono (fun q z => by have := ob_3s z; omega))⟩
          rw [ob_b_e (show X_Se_endWatch 53 (oI (some k)) t = some u1 from e1)]
          exact e2
      · rw [if_neg (show ¬ (b / 16 = 0 ∧ w = some 1) from fun z => c1 z.2)]
        obtain ⟨u2, e2, S2, w2, f2⟩ := x_cont90 h hw hr (num := b / 16) (z := b % 8) (by omega) (by omega) (by omega) (by omega)
        refine ⟨u2, ?_, S2, by rw [List.append_nil]; exact w2, f2.mono (fun q z => by have := ob_3s z; omega)⟩
        rw [B_Se_addContent_66, if_neg (show ¬ ¬ nI (b / 16) = 0 from fun z => z (by rw [c0]; rfl)), ob_b_e g4, if_pos (show ¬ oI w = 1 from fun z => c1 (w1'.mp z))]
        exact e2
  · rw [if_pos (nI_ne0 (by omega) (by omega)), sv_reg, if_neg (show ¬ (b / 16 = 0 ∧ w = some 0) from fun z => c0 z.1), if_neg (show ¬ (b / 16 = 0 ∧ w = some 1) from fun z => c0 z.1)]
    obtain ⟨u2, e2, S2, w2, f2⟩ := x_cont90 h hw hr (num := b / 16) (z := b % 8) (by omega) (by omega) (by omega) (by omega)
    refine ⟨u2, ?_, S2, by rw [List.append_nil]; exact w2, f2.mono (fun q z => by have := ob_3s z; omega)⟩
    rw [B_Se_addContent_66, if_pos (nI_ne0 (by omega) (by omega))]
    exact e2
end SVA
