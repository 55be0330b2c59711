/-! LAYER 2, 45: the reference's server: watching begins and ends; an answer to GET -/
theorem y_reg59 {t : ob_S} {k tk r z se : Nat} (hS : mo_sh t) (h52 : ob_i t 103 52 = nI tk) (h37 : ob_i t 103 37 = nI se) (hse : se < 65536) (hk : k < 2) (htk : tk < 256) (hr : r < 4) (hz : z < 2) : ∃ u, B_Mo_registers_59 103 (nI r) (nI z) (nI k) t = some (1, u) ∧ mo_Wa u k (tk, r, z, 0, none) ∧ ob_i u 103 37 = nI ((se + 1) % 65536) ∧ mo_F (fun n j => (132 ≤ n ∧ n ≤ 135 ∧ j = k) ∨ (n = 107 ∧ j = 2 + k) ∨ (n = 103 ∧ j = 37)) t u := by
  obtain ⟨T, hT⟩ : ∃ T, T = ob_setI (ob_setI (ob_setI (ob_setI (ob_setI t 132 k (nI tk)) 133 k (nI r)) 134 k (nI z)) 135 k 0) 107 (2 + k) 0 := ⟨_, rfl⟩
  have fT : mo_F (fun n j => (132 ≤ n ∧ n ≤ 135 ∧ j = k) ∨ (n = 107 ∧ j = 2 + k)) t T := by
    rw [hT]
    exact ((((mo_F.o (by omega)).s (by omega)).s (by omega)).s (by omega)).s (by omega)
  have sT := hS.f fT
  have t37 : ob_i T 103 37 = nI se := (fT.2.2.2.2 _ _ (by omega)).trans h37
  have fU : mo_F (fun n j => n = 103 ∧ j = 37) T (ob_setI T 103 37 (nI ((se + 1) % 65536))) := mo_F.o ⟨rfl, rfl⟩
  refine ⟨ob_setI T 103 37 (nI ((se + 1) % 65536)), ?_, ⟨?_, ?_, ?_, ?_, ?_, htk, hr, hz, show 0 < 2 by omega⟩, ob_i_self, (fT.mono (fun n j z => by omega)).tr (fU.mono (fun n j z => by omega))⟩
  · rw [B_Mo_registers_59, ob_b_e (mo_r33 hS), ob_b_e (mo_g hS), h52, ob_b_e (mo_w132 hS hk), ob_b_e (mo_r34 (t := ob_setI t 132 k (nI tk)) hS), ob_b_e (mo_w133 (t := ob_setI t 132 k (nI tk)) hS hk), ob_b_e (mo_r35 (t := ob_setI (ob_setI t 132 k (nI tk)) 133 k (nI r)) hS), ob_b_e (mo_w134 (t := ob_setI (ob_setI t 132 k (nI tk)) 133 k (nI r)) hS hk), ob_b_e (mo_r36 (t := ob_setI (ob_setI (ob_setI t 132 k (nI tk)) 133 k (nI r)) 134 k (nI z)) hS), ob_b_e (mo_w135 (t := ob_setI (ob_setI (ob_setI t 132 k (nI tk)) 133 k (nI r)) 134 k (nI z)) hS hk (Or.inl rfl)), ob_b_e (mo_r7 (t := ob_setI (ob_setI (ob_setI (ob_setI t 132 k (nI tk)) 133 k (nI r)) 134 k (nI z)) 135 k 0) hS), mo_x2, ob_b_e (mo_w107 (t := ob_setI (ob_setI (ob_setI (ob_setI t 132 k (nI tk)) 133 k (nI r)) 134 k (nI z)) 135 k 0) hS (by omega) (Or.inl rfl)), ← hT, ob_b_e (mo_g sT), t37, y_rem16 hse, ob_b_e (mo_p sT)]
    rfl
  · rw [ob_i_n (by omega), hT]; simp [mo_is]
  · rw [ob_i_n (by omega), hT]; simp [mo_is]
  · rw [ob_i_n (by omega), hT]; simp [mo_is]
  · rw [ob_i_n (by omega), hT]; simp [mo_is]; rfl
  · show ob_i (ob_setI T 103 37 (nI ((se + 1) % 65536))) 107 (2 + k) = 0
    rw [ob_i_n (by omega), hT, ob_i_self]
section YRG
variable {t : ob_S} {v : sv_S} {ty code id tk r num z : Nat} {w b2 b1 : Option Nat} {S : List (List Nat)} {P : List Nat}
/-- the scalars and the watchers have moved -/
theorem mo_Sx.ws {u : ob_S} {W : List sv_W} {se : Nat} (h : mo_Sx t v) (f : mo_F (fun n j => dWs n j ∨ (n = 103 ∧ j = 37)) t u) (e37 : ob_i u 103 37 = nI se) (hse : se < 65536) (hW : mo_Ws u W) : mo_Sx u (v.1, v.2.1, W, v.2.2.2.1, v.2.2.2.2.1, se, v.2.2.2.2.2.2) := by
  obtain ⟨h38, h37, h6, hC, hQ, -, hM⟩ := h
  exact ⟨(f.2.2.2.2 _ _ (by omega)).trans h38, ⟨e37, hse⟩, ⟨(f.2.2.2.2 _ _ (by omega)).trans h6.1, h6.2⟩, hC.f f (fun j => by omega) (fun j => by omega), hQ.f f (fun j => by omega) (fun j => by omega), hW, hM.f f (fun n j a b => by
    rcases a with a | a <;> omega)⟩
theorem y_registers (hS : mo_sh t) (h : mo_Sx t v) (hm : mo_Mm t ty code id (some tk) w b2 b1 S P) (hr : r < 4) (hn : num < 100) (hz : z < 2) : (∀ W, num = 0 ∧ w = some 0 → wt_beg v.2.2.1 tk r z = some W → ∃ u, X_Mo_registers 103 (nI r) (nI num) (nI z) t = some (1, u) ∧ mo_Sx u (v.1, v.2.1, W, v.2.2.2.1, v.2.2.2.2.1, (v.2.2.2.2.2.1 + 1) % 65536, v.2.2.2.2.2.2) ∧ mo_F dV t u) ∧ (¬ (num = 0 ∧ w = some 0) ∨ wt_beg v.2.2.1 tk r z = none → X_Mo_registers 103 (nI r) (nI num) (nI z) t = some (0, t)) := by
  have hx := h
  obtain ⟨h38, h37, h6, hC, hQ, hW, hM⟩ := h
  obtain ⟨g49, g50, g51, g52, g53, g57, g58, gP, gS, mok, sok⟩ := hm
  have g52 : ob_i t 103 52 = nI tk := g52
  have htk := mok.2.2.2.1 tk rfl
  have hW2 := hW.2.1
  have f0 : B_Mo_registers_11 t = some ((0 : Int32), t) := rfl
  have hww : ∀ x, w = some x → x < 2 ^ 31 := fun x hx => by have := mok.2.2.2.2.1 x hx; omega
  rw [X_Mo_registers, mo_this hS]
  by_cases c0 : num = 0
  · rw [if_neg (show ¬ ¬ nI num = 0 from fun z => z (by rw [c0]; rfl)), ob_b_e (mo_g hS), g53]
    by_cases cw : w = some 0
    · rw [if_pos (show oI w = 0 by rw [cw]; rfl), ob_b_e (mo_g hS), g52, ob_b2_e (y_watcherOf hS hW htk)]
      cases hi : wt_ix tk v.2.2.1 0 with
      | some k =>
        have hk := (wt_ix_lt hi).2
        have hk : k < v.2.2.1.length := by omega
        have ew : wt_beg v.2.2.1 tk r z = some (v.2.2.1.set k (tk, r, z, 0, none)) := by rw [wt_beg, hi]
        refine ⟨fun W _ hWW => ?_, fun q => ?_⟩
        · rw [ew] at hWW
          cases hWW
          obtain ⟨u, eu, wu, u37, fu⟩ := y_reg59 (k := k) (r := r) (z := z) hS g52 h37.1 h37.2 (by omega) htk hr hz
          have fW : mo_F (fun n j => dWs n j ∨ (n = 103 ∧ j = 37)) t u := fu.mono (fun n j z => by
            rcases z with z | z | z
            · rcases (show k = 0 ∨ k = 1 by omega) with rfl | rfl <;> omega
            · rcases (show k = 0 ∨ k = 1 by omega) with rfl | rfl <;> omega
            · omega)
          refine ⟨u, ?_, hx.ws fW u37 (Nat.mod_lt _ (by omega)) ?_, fW.mono (fun n j z => by
            rcases z with z | z
            · exact Or.inr (Or.inr (Or.inl z))
            · exact Or.inl (by omega))⟩
          · rw [if_pos (show (0 : Int32) ≤ oI (some k) from nI_le (a := 0) (by omega) (by omega)), B_Mo_registers_38, if_pos (show (0 : Int32) ≤ oI (some k) from nI_le (a := 0) (by omega) (by omega))]
            exact eu
          · refine ⟨by rw [List.length_set]; exact (fu.2.2.2.2 _ _ (by omega)).trans hW.1, by rw [List.length_set]; exact hW2, fun j y e => ?_⟩
            by_cases d : j = k
            · subst d
              rw [List.getElem?_set_self hk] at e
              cases e
              exact wu
            · rw [List.getElem?_set_ne (fun z => d z.symm)] at e
              exact (hW.2.2 j y e).f fu (fun n i a b => by omega)
        · rcases q with q | q
          · exact absurd ⟨c0, cw⟩ q
          · rw [ew] at q; cases q
      | none =>
        rw [if_neg (show ¬ (0 : Int32) ≤ oI none by decide), ob_b_e (mo_g hS), hW.1]
        by_cases c2 : v.2.2.1.length = 2
        · have ew : wt_beg v.2.2.1 tk r z = none := by rw [wt_beg, hi]; dsimp only; rw [if_pos c2]
          refine ⟨fun W _ hWW => ?_, fun q => ?_⟩
          · rw [ew] at hWW; cases hWW
          · rw [if_neg (show ¬ ¬ nI v.2.2.1.length = (2 : Int32) from fun z => z (by rw [c2]; rfl))]
            rfl
        · have ew : wt_beg v.2.2.1 tk r z = some (v.2.2.1 ++ [(tk, r, z, 0, none)]) := by rw [wt_beg, hi]; dsimp only; rw [if_neg c2]
          refine ⟨fun W _ hWW => ?_, fun q => ?_⟩
          · rw [ew] at hWW
            cases hWW
            have f1 : mo_F (fun n j => n = 103 ∧ j = 32) t (ob_setI t 103 32 (nI (v.2.2.1.length + 1))) := mo_F.o ⟨rfl, rfl⟩
            obtain ⟨u, eu, wu, u37, fu⟩ := y_reg59 (k := v.2.2.1.length) (r := r) (z := z) (hS.f f1) ((f1.2.2.2.2 _ _ (by omega)).trans g52) ((f1.2.2.2.2 _ _ (by omega)).trans h37.1) h37.2 (by omega) htk hr hz
            have fW : mo_F (fun n j => dWs n j ∨ (n = 103 ∧ j = 37)) t u := (f1.mono (fun n j z => by omega)).tr (fu.mono (fun n j z => by
              rcases z with z | z | z
              · rcases (show v.2.2.1.length = 0 ∨ v.2.2.1.length = 1 by omega) with q | q <;> omega
              · rcases (show v.2.2.1.length = 0 ∨ v.2.2.1.length = 1 by omega) with q | q <;> omega
              · omega))
            refine ⟨u, ?_, hx.ws fW u37 (Nat.mod_lt _ (by omega)) ?_, fW.mono (fun n j z => by
              rcases z with z | z
              · exact Or.inr (Or.inr (Or.inl z))
              · exact Or.inl (by omega))⟩
            · rw [if_pos (show ¬ nI v.2.2.1.length = (2 : Int32) from fun z => c2 ((nI_eq (b := 2) (by omega) (by omega)).mp z)), B_Mo_registers_38, if_neg (show ¬ (0 : Int32) ≤ oI none by decide), ob_b_e (mo_g hS), hW.1, ob_b_e (mo_g hS), hW.1, nI_1, ob_b_e (mo_p hS)]
              exact eu
            · refine ⟨?_, by rw [List.length_append]; simp only [List.length_cons, List.length_nil]; omega, fun j y e => ?_⟩
              · rw [fu.2.2.2.2 _ _ (by omega), ob_i_self, List.length_append]
                rfl
              · by_cases d : j < v.2.2.1.length
                · rw [List.getElem?_append_left d] at e
                  exact ((hW.2.2 j y e).f f1 (fun n i a b => by omega)).f fu (fun n i a b => by omega)
                · have hj := (List.getElem?_eq_some_iff.mp e).1
                  rw [List.length_append] at hj
                  simp only [List.length_cons, List.length_nil] at hj
                  have hj : j = v.2.2.1.length := by omega
                  subst hj
                  rw [List.getElem?_append_right (Nat.le_refl _), Nat.sub_self] at e
                  have e : (tk, r, z, 0, none) = y := by simpa using e
                  subst e
                  exact wu
          · rcases q with q | q
            · exact absurd ⟨c0, cw⟩ q
            · rw [ew] at q; cases q
    · rw [if_neg (show ¬ oI w = 0 from fun q => cw ((oI_eq hww (by omega)).mp q.symm)), f0]
      exact ⟨fun W q => absurd q.2 cw, fun _ => rfl⟩
  · rw [if_pos (nI_ne0 (by omega) (by omega)), f0]
    exact ⟨fun W q => absurd q.1 c0, fun _ => rfl⟩
theorem y_get138 {last : Nat} {L : List Nat} (h : mo_Ct t 128 129 v.1) (o : mo_Out t L last) (hr : r < 4) (hn : num < 64) (hz : z < 2) (hla : last ≤ 6) (hl : L.length ≤ 9) : ∃ u, B_Mo_answerGet_138 103 (nI r) (nI num) (nI z) t = some u ∧ mo_Out u (L ++ aw_cont (v.1 r) last num z) 23 ∧ mo_F dW t u := by
  have s0 := o.1
  have hc := h r hr
  have hl64 := hc.2.2.1
  have hml := af_more_lt (v.1 r).length num z
  have q3 := aw_head_len last 23 (aw_n (16 * num + 8 * af_more (v.1 r).length num z + z))
  have q4 := aw_val_len (16 * num + 8 * af_more (v.1 r).length num z + z)
  obtain ⟨u4, e4, o4, f4⟩ := y_option 23 (16 * num + 8 * af_more (v.1 r).length num z + z) o (by omega) (by omega) (by omega) (by omega)
  obtain ⟨u5, e5, o5, f5⟩ := y_content (num := num) (z := z) o4 (h.f f4 (fun j => by omega) (fun j => by omega)) hr (by omega) hz (by
    simp only [List.length_append]
    omega)
  refine ⟨u5, ?_, by rw [aw_cont, ← List.append_assoc, ← List.append_assoc]; exact o5, f4.tr f5⟩
  have e16 : ((16 : Int32) * nI num + (8 : Int32) * nI (af_more (v.1 r).length num z)) + nI z = nI (16 * num + 8 * af_more (v.1 r).length num z + z) := by
    rw [show (16 : Int32) = nI 16 from rfl, show (8 : Int32) = nI 8 from rfl, pk_mul, pk_mul, nI_add, nI_add]
  rw [B_Mo_answerGet_138, ob_b_e (mo_r29 s0), ob_b_e (mo_a129 s0 hr), hc.1, ob_b2_e (y_more _ num z (by omega) (by omega) hz t), e16, ob_b_e (show X_Mo_option 103 23 _ t = some u4 from e4), ob_b_e e5]
theorem y_get104 {se : Nat} {b : Int32} (hS : mo_sh t) (h : mo_Ct t 128 129 v.1) (hm : mo_Mm t ty code id (some tk) w b2 b1 S P) (h37 : ob_i t 103 37 = nI se) (hse : se < 65536) (hr : r < 4) (hn : num < 64) (hz : z < 2) : ∃ u, B_Mo_answerGet_104 103 (nI r) (nI num) (nI z) b t = some u ∧ mo_Out u (aw_begin 2 69 id tk ++ (if b = 0 then [] else aw_head 0 6 (aw_n se) ++ aw_val se) ++ aw_cont (v.1 r) (if b = 0 then 0 else 6) num z) 23 ∧ mo_F dW t u := by
  obtain ⟨g49, g50, g51, g52, g53, g57, g58, gP, gS, mok, sok⟩ := hm
  have htk := mok.2.2.2.1 tk rfl
  obtain ⟨u1, e1, o1, f1⟩ := y_begin 2 69 id hS (by omega) (by omega) mok.2.2.1
  have s1 := o1.1
  obtain ⟨u2, e2, o2, f2⟩ := y_write (v := nI tk) tk o1 rfl (by simp) htk
  rw [show [64 + 16 * 2 + (if 69 = 0 then 0 else 1), 69, id / 256, id % 256] ++ [tk] = aw_begin 2 69 id tk from rfl] at o2
  have s2 := o2.1
  have f12 := f1.tr f2
  have a52 : ob_i u1 103 52 = nI tk := (f1.2.2.2.2 _ _ (by omega)).trans g52
  have a37 : ob_i u2 103 37 = nI se := (f12.2.2.2.2 _ _ (by omega)).trans h37
  have front : B_Mo_answerGet_104 103 (nI r) (nI num) (nI z) b t = if b = 0 then B_Mo_answerGet_138 103 (nI r) (nI num) (nI z) u2 else (X_Mo_option 103 6 (nI se) u2).bind fun t135 => B_Mo_answerGet_138 103 (nI r) (nI num) (nI z) t135 := by
    rw [B_Mo_answerGet_104, ob_b_e (mo_g hS), g51, ob_b_e (show X_Mo_begin 103 2 69 (nI id) t = some u1 from e1), ob_b_e (mo_g s1), a52, ob_b_e e2, ob_b_e (mo_g s2), a37]
  rw [front]
  by_cases c : b = 0
  · rw [if_pos c, if_pos c, if_pos c]
    obtain ⟨u, eu, ou, fu⟩ := y_get138 (v := v) (num := num) (z := z) (h.f f12 (fun j => by omega) (fun j => by omega)) o2 hr hn hz (by omega) (by simp [aw_begin])
    rw [List.append_nil]
    exact ⟨u, eu, ou, f12.tr fu⟩
  · rw [if_neg c, if_neg c, if_neg c]
    obtain ⟨u3, e3, o3, f3⟩ := y_option 6 se o2 (by omega) (by omega) hse (by simp [aw_begin])
    have q1 : (aw_head 0 6 (aw_n se)).length ≤ 1 := by unfold aw_head; rw [if_pos (by omega)]; simp
    have q2 := aw_val_len se
    obtain ⟨u, eu, ou, fu⟩ := y_get138 (v := v) (num := num) (z := z) (h.f (f12.tr f3) (fun j => by omega) (fun j => by omega)) o3 hr hn hz (by omega) (by
      simp only [List.length_append, aw_begin, List.length_cons, List.length_nil]
      omega)
    rw [ob_b_e (show X_Mo_option 103 6 (nI se) u2 = some u3 from e3), ← List.append_assoc]
    exact ⟨u, eu, ou, (f12.tr f3).tr fu⟩
end YRG
