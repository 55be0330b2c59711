/-! LAYER 2, 14: answers and news -/
section SLA
variable {t : ob_S} {n : Nat} {F : Nat → Nat} {B : List Nat} {o : Option ap_P} {ty code id : Nat} {tok w b2 b1 : Option Nat} {S : List (List Nat)} {P : List Nat}
abbrev sl_P (n : Nat) : Nat → Prop := fun q => n ≤ q ∧ q < n + 6
/-- the slot that the answer's block came to -/
def sl_blk (F : Nat → Nat) (w : Option Nat) : Nat → Nat := if F 10 ≠ 0 ∧ w ≠ none then va_up (va_up F 11 1) 12 (w.getD 0) else F
theorem x_takeBlock (h : ob_Sl t n F B o) (ok : sl_ok F B) (hn : n + 6 ≤ 96) (hm : ob_Mm t ty code id tok w b2 b1 S P) (due : sl_due F b2 P) : ∃ u, X_Sl_takeBlock n 96 t = some (nI (b2.getD 0 / 8 % 2), u) ∧ ob_Sl u n (sl_on (sl_blk F w) (b2.getD 0)) (B.take (F 6 * af_size (F 5)) ++ P) o ∧ ob_Fr (sl_P n) t u := by
  have hh := h
  obtain ⟨h1, h2, h3, h4, h5, h6⟩ := h
  obtain ⟨o2, o3, o4, o5, o6, o7, o8, o9, o10, o11, o12, o13, oB, oB2⟩ := ok
  obtain ⟨m1, m2, m3, m4, m5, m6, m7, m8, m9⟩ := hm.2
  obtain ⟨d1, d2, d3, d4⟩ := due
  have hs := af_size_ok (F 5)
  obtain ⟨b, hb⟩ : ∃ b, b2 = some b := by
    cases b2 with
    | none => exact absurd rfl d1
    | some b => exact ⟨b, rfl⟩
  subst hb
  have hbb := m6 b rfl
  obtain ⟨u1, e1, b1', f1⟩ := x_By_cutTo (F 6 * af_size (F 5)) (by omega) h4
  rw [show (nb B).take (F 6 * af_size (F 5)) = nb (B.take (F 6 * af_size (F 5))) by simp [nb, List.map_take]] at b1'
  have s1 := hh.by f1 b1'
  have mm1 := hm.fr f1 (fun q a b => by omega)
  obtain ⟨k0, k1, k2, k3, k4, k5, k6, k7, k8⟩ := mm1.g
  obtain ⟨u2, e2, b2', f2⟩ := x_By_addFrom 0 P.length s1.2.2.2.1 k8 (by omega) (by omega) (Nat.zero_le _) (by omega) (by
    simp only [nb_len, List.length_take]
    omega)
  rw [List.drop_zero, show (nb P).take P.length = nb P from List.take_of_length_le (by rw [nb_len]; exact Nat.le_refl _), ← nb_app] at b2'
  have s2 := s1.by f2 b2'
  have mm2 := mm1.fr f2 (fun q a b => by omega)
  obtain ⟨j0, j1, j2, j3, j4, j5, j6, j7, j8⟩ := mm2.g
  have F12 : ob_Fr (sl_P n) t u2 := (f1.mono (fun q z => by omega)).tr (f2.mono (fun q z => by omega))
  have pl : ob_i u1 101 1 = nI P.length := by rw [k8.2.2.2.2.2.2.1, nb_len]
  obtain ⟨g0, g1, g2, g3, g4, g5, g6, g7, g8⟩ := hm.g
  have pre : X_Sl_takeBlock n 96 t = (ob_gI 6 10 n u2).bind fun x39 => if x39 = 0 then B_Sl_takeBlock_66 n 96 u2 else (ob_gI 8 4 96 u2).bind fun x46 => if x46 = (-1 : Int32) then B_Sl_takeBlock_66 n 96 u2 else (ob_pZ 6 11 n (1 : Int32) u2).bind fun t55 => (ob_gI 8 4 96 t55).bind fun x60 => (ob_pI 6 12 n x60 t55).bind fun t63 => B_Sl_takeBlock_66 n 96 t63 := by
    rw [X_Sl_takeBlock, ob_this_e h1, ob_b_e (ob_gR_e h1 h2), ob_b_e (ob_gI_e h1 (h6 6 (by omega) (by omega))), ob_b_e (ob_gI_e h1 (h6 5 (by omega) (by omega))), ob_b2_e (x_sizeOf _ o5 t), pk_mul, ob_b_e e1, ob_b_e (ob_gR_e s1.1 s1.2.1), ob_b_e k7, ob_b_e k7, ob_b_e (ob_gI_e k8.1 pl), ob_b_e (show X_By_addFrom (n + 1) 101 0 (nI P.length) u1 = some u2 from e2)]
  have e10 := s2.2.2.2.2.2 10 (by omega) (by omega)
  have fin : ∀ (F' : Nat → Nat) (u : ob_S), ob_Sl u n F' (B.take (F 6 * af_size (F 5)) ++ P) o → ob_gI 8 5 96 u = some (nI b) → ∃ v, B_Sl_takeBlock_66 n 96 u = some (nI (b / 8 % 2), v) ∧ ob_Sl v n (sl_on F' b) (B.take (F 6 * af_size (F 5)) ++ P) o ∧ ob_Fr (fun q => q = n) u v := by
    intro F' u su gu
    obtain ⟨v, ev, sv, fv⟩ := x_goOn su gu (by omega)
    refine ⟨v, ?_, sv, fv⟩
    rw [B_Sl_takeBlock_66, ob_b2_e ev]
    rcases (show b / 8 % 2 = 0 ∨ b / 8 % 2 = 1 by omega) with z | z <;> rw [z] <;> rfl
  by_cases c : F 10 ≠ 0 ∧ w ≠ none
  · obtain ⟨x, hx⟩ : ∃ x, w = some x := by
      cases w with
      | none => exact absurd rfl c.2
      | some x => exact ⟨x, rfl⟩
    subst hx
    have hxl := m5 x rfl
    have s3 := s2.set 11 1
    have f3 : ob_Fr (fun q => q = n) u2 (ob_setI u2 n 11 (nI 1)) := ob_Fr.setI rfl
    have mm3 := mm2.fr f3 (fun q a b => by omega)
    have s4 := s3.set 12 x
    have f4 : ob_Fr (fun q => q = n) (ob_setI u2 n 11 (nI 1)) (ob_setI (ob_setI u2 n 11 (nI 1)) n 12 (nI x)) := ob_Fr.setI rfl
    have mm4 := mm3.fr f4 (fun q a b => by omega)
    obtain ⟨v, ev, sv, fv⟩ := fin _ _ s4 mm4.g.2.2.2.2.2.1
    refine ⟨v, ?_, ?_, ((F12.tr (f3.mono (fun q z => by omega))).tr (f4.mono (fun q z => by omega))).tr (fv.mono (fun q z => by omega))⟩
    · rw [pre, ob_b_e (ob_gI_e s2.1 e10), if_neg (nI_ne0 (by omega) (by omega)), ob_b_e j4, if_neg (show ¬ oI (some x) = -1 from fun z => by have := (oI_none (o := some x) (fun y hy => by cases hy; omega)).mp z; cases this), ob_b_e (show ob_pZ 6 11 n 1 u2 = some (ob_setI u2 n 11 (nI 1)) from ob_pZ_e s2.1 (Or.inr rfl)), ob_b_e mm3.g.2.2.2.2.1, ob_b_e (show ob_pI 6 12 n (oI (some x)) (ob_setI u2 n 11 (nI 1)) = some (ob_setI (ob_setI u2 n 11 (nI 1)) n 12 (nI x)) from ob_pI_e s3.1)]
      exact ev
    · rw [sl_blk, if_pos c]
      exact sv
  · obtain ⟨v, ev, sv, fv⟩ := fin _ _ s2 j5
    refine ⟨v, ?_, ?_, F12.tr (fv.mono (fun q z => by omega))⟩
    · rw [pre, ob_b_e (ob_gI_e s2.1 e10)]
      by_cases c10 : F 10 = 0
      · rw [if_pos (show nI (F 10) = 0 by rw [c10]; rfl)]
        exact ev
      · have hw : w = none := by
          cases w with
          | none => rfl
          | some x => exact absurd ⟨c10, (fun z => by cases z)⟩ c
        rw [if_neg (nI_ne0 (by omega) (by omega)), ob_b_e j4, hw, if_pos (show oI none = -1 from rfl)]
        exact ev
    · rw [sl_blk, if_neg c]
      exact sv
/-- takeAnswer: numbers, body, whether there is more to ask -/
noncomputable def sl_ans (F : Nat → Nat) (B : List Nat) (code : Nat) (w b2 : Option Nat) (P : List Nat) : (Nat → Nat) × List Nat × Nat :=
  if F 7 = 0 ∧ code = 69 ∧ sl_due F b2 P then (sl_on (sl_blk F w) (b2.getD 0), B.take (F 6 * af_size (F 5)) ++ P, b2.getD 0 / 8 % 2)
  else if F 7 ≠ 0 ∧ code = 95 ∧ af_more B.length (F 6) (F 5) = 1 then (va_up F 6 (F 6 + 1), B, 1)
  else if F 7 ≠ 0 ∧ code = 68 then (va_up F 2 2, B, 0)
  else (va_up (va_up F 2 4) 13 code, B, 0)
theorem x_ans95 (h : ob_Sl t n F B o) (hm : ob_Mm t ty code id tok w b2 b1 S P) (hn : n + 6 ≤ 96) : ∃ u, B_Sl_takeAnswer_95 n 96 t = some (0, u) ∧ ob_Sl u n (va_up (va_up F 2 4) 13 code) B o ∧ ob_Fr (sl_P n) t u := by
  have s1 := h.set 2 4
  have f1 : ob_Fr (fun q => q = n) t (ob_setI t n 2 (nI 4)) := ob_Fr.setI rfl
  have mm1 := hm.fr f1 (fun q a b => by omega)
  have s2 := s1.set 13 code
  have f2 : ob_Fr (fun q => q = n) (ob_setI t n 2 (nI 4)) (ob_setI (ob_setI t n 2 (nI 4)) n 13 (nI code)) := ob_Fr.setI rfl
  refine ⟨_, ?_, s2, (f1.mono (fun q z => by omega)).tr (f2.mono (fun q z => by omega))⟩
  rw [B_Sl_takeAnswer_95, ob_b_e (show ob_pI 6 2 n 4 t = some (ob_setI t n 2 (nI 4)) from ob_pI_e h.1), ob_b_e mm1.g.2.1, ob_b_e (ob_pI_e s1.1)]; rfl
theorem x_ans72 (h : ob_Sl t n F B o) (ok : sl_ok F B) (hm : ob_Mm t ty code id tok w b2 b1 S P) (hn : n + 6 ≤ 96) : ∃ u, B_Sl_takeAnswer_72 n 96 t = some (0, u) ∧ ob_Sl u n (if F 7 ≠ 0 ∧ code = 68 then va_up F 2 2 else va_up (va_up F 2 4) 13 code) B o ∧ ob_Fr (sl_P n) t u := by
  have h6 := h.2.2.2.2.2
  have o7 := ok.2.2.2.2.2.1
  obtain ⟨u, e, s, f⟩ := x_ans95 h hm hn
  have hc := hm.2.2.1
  by_cases c7 : F 7 = 0
  · refine ⟨u, ?_, by rw [if_neg (fun z => z.1 c7)]; exact s, f⟩
    rw [B_Sl_takeAnswer_72, ob_b_e (ob_gI_e h.1 (h6 7 (by omega) (by omega))), if_pos (show nI (F 7) = 0 by rw [c7]; rfl)]
    exact e
  · by_cases c68 : code = 68
    · refine ⟨ob_setI t n 2 (nI 2), ?_, by rw [if_pos ⟨c7, c68⟩]; exact h.set 2 2, ob_Fr.setI ⟨by omega, by omega⟩⟩
      rw [B_Sl_takeAnswer_72, ob_b_e (ob_gI_e h.1 (h6 7 (by omega) (by omega))), if_neg (nI_ne0 (by omega) (by omega)), ob_b_e hm.g.2.1, if_neg (show ¬ ¬ nI code = (68 : Int32) from fun z => z (by rw [c68]; rfl)), ob_b_e (show ob_pI 6 2 n 2 t = some (ob_setI t n 2 (nI 2)) from ob_pI_e h.1)]; rfl
    · refine ⟨u, ?_, by rw [if_neg (fun z => c68 z.2)]; exact s, f⟩
      rw [B_Sl_takeAnswer_72, ob_b_e (ob_gI_e h.1 (h6 7 (by omega) (by omega))), if_neg (nI_ne0 (by omega) (by omega)), ob_b_e hm.g.2.1, if_pos (show ¬ nI code = (68 : Int32) from fun z => c68 ((nI_eq (b := 68) (by omega) (by omega)).mp z))]
      exact e
theorem x_ans37 (h : ob_Sl t n F B o) (ok : sl_ok F B) (hm : ob_Mm t ty code id tok w b2 b1 S P) (hn : n + 6 ≤ 96) (hnd : ¬ (F 7 = 0 ∧ code = 69 ∧ sl_due F b2 P)) : ∃ u, B_Sl_takeAnswer_37 n 96 t = some (nI (sl_ans F B code w b2 P).2.2, u) ∧ ob_Sl u n (sl_ans F B code w b2 P).1 (sl_ans F B code w b2 P).2.1 o ∧ ob_Fr (sl_P n) t u := by
  have h6 := h.2.2.2.2.2
  have o7 := ok.2.2.2.2.2.1
  have hc := hm.2.2.1
  obtain ⟨u, e, s, f⟩ := x_ans72 h ok hm hn
  have rest : ¬ (F 7 ≠ 0 ∧ code = 95 ∧ af_more B.length (F 6) (F 5) = 1) → sl_ans F B code w b2 P = (if F 7 ≠ 0 ∧ code = 68 then va_up F 2 2 else va_up (va_up F 2 4) 13 code, B, 0) := fun z => by
    rw [sl_ans, if_neg hnd, if_neg z]
    split <;> rfl
  by_cases c7 : F 7 = 0
  · rw [rest (fun z => z.1 c7)]
    refine ⟨u, ?_, s, f⟩
    rw [B_Sl_takeAnswer_37, ob_b_e (ob_gI_e h.1 (h6 7 (by omega) (by omega))), if_pos (show nI (F 7) = 0 by rw [c7]; rfl)]
    exact e
  · by_cases c95 : code = 95
    · have ee : B_Sl_takeAnswer_37 n 96 t = ob_b2 (X_Sl_hasMoreToPut n t) fun x54 t54 => if x54 = 0 then B_Sl_takeAnswer_72 n 96 t54 else (ob_gI 6 6 n t54).bind fun x62 => (ob_pI 6 6 n (x62 + (1 : Int32)) t54).bind fun t67 => ob_z (1 : Int32) t67 := by
        rw [B_Sl_takeAnswer_37, ob_b_e (ob_gI_e h.1 (h6 7 (by omega) (by omega))), if_neg (nI_ne0 (by omega) (by omega)), ob_b_e hm.g.2.1, if_neg (show ¬ ¬ nI code = (95 : Int32) from fun z => z (by rw [c95]; rfl))]
      have hm2 := af_more_lt B.length (F 6) (F 5)
      by_cases cm : af_more B.length (F 6) (F 5) = 1
      · have es : sl_ans F B code w b2 P = (va_up F 6 (F 6 + 1), B, 1) := by rw [sl_ans, if_neg hnd, if_pos ⟨c7, c95, cm⟩]
        rw [es]
        refine ⟨ob_setI t n 6 (nI (F 6 + 1)), ?_, h.set 6 (F 6 + 1), ob_Fr.setI ⟨by omega, by omega⟩⟩
        rw [ee, ob_b2_e (x_hasMore h ok), cm, if_neg (by decide), ob_b_e (ob_gI_e h.1 (h6 6 (by omega) (by omega))), nI_1, ob_b_e (ob_pI_e h.1)]; rfl
      · rw [rest (fun z => cm z.2.2)]
        refine ⟨u, ?_, s, f⟩
        rw [ee, ob_b2_e (x_hasMore h ok), show af_more B.length (F 6) (F 5) = 0 by omega, if_pos (by decide)]
        exact e
    · rw [rest (fun z => c95 z.2.1)]
      refine ⟨u, ?_, s, f⟩
      rw [B_Sl_takeAnswer_37, ob_b_e (ob_gI_e h.1 (h6 7 (by omega) (by omega))), if_neg (nI_ne0 (by omega) (by omega)), ob_b_e hm.g.2.1, if_pos (show ¬ nI code = (95 : Int32) from fun z => c95 ((nI_eq (b := 95) (by omega) (by omega)).mp z))]
      exact e
theorem x_takeAnswer (h : ob_Sl t n F B o) (ok : sl_ok F B) (hm : ob_Mm t ty code id tok w b2 b1 S P) (hn : n + 6 ≤ 96) : ∃ u, X_Sl_takeAnswer n 96 t = some (nI (sl_ans F B code w b2 P).2.2, u) ∧ ob_Sl u n (sl_ans F B code w b2 P).1 (sl_ans F B code w b2 P).2.1 none ∧ ob_Fr (sl_P n) t u := by
  obtain ⟨u1, e1, p1, f1⟩ := x_Pe_stop h.2.2.2.2.1
  have s1 := h.pe f1 p1
  have mm1 := hm.fr f1 (fun q a b z => by rcases z with z | z | z <;> omega)
  have F1 : ob_Fr (sl_P n) t u1 := f1.mono (fun q z => by rcases z with z | z | z <;> omega)
  have h6 := s1.2.2.2.2.2
  have o7 := ok.2.2.2.2.2.1
  have hc := hm.2.2.1
  have pre : X_Sl_takeAnswer n 96 t = if ¬ nI (F 7) = 0 then B_Sl_takeAnswer_37 n 96 u1 else if ¬ nI code = (69 : Int32) then B_Sl_takeAnswer_37 n 96 u1 else ob_b2 (X_Sl_isBlockDue n 96 u1) fun x25 t25 => if x25 = 0 then B_Sl_takeAnswer_37 n 96 t25 else ob_b2 (X_Sl_takeBlock n 96 t25) fun x33 t33 => ob_z x33 t33 := by
    rw [X_Sl_takeAnswer, ob_this_e h.1, ob_b_e (ob_gR_e h.1 h.2.2.1), ob_b_e e1, ob_b_e (ob_gI_e s1.1 (h6 7 (by omega) (by omega))), ob_b_e mm1.g.2.1]
  rw [pre]
  by_cases g : F 7 = 0 ∧ code = 69 ∧ sl_due F b2 P
  · obtain ⟨u2, e2, s2, f2⟩ := x_takeBlock s1 ok hn mm1 g.2.2
    have es : sl_ans F B code w b2 P = (sl_on (sl_blk F w) (b2.getD 0), B.take (F 6 * af_size (F 5)) ++ P, b2.getD 0 / 8 % 2) := by rw [sl_ans, if_pos g]
    rw [es]
    refine ⟨u2, ?_, s2, F1.tr f2⟩
    rw [if_neg (show ¬ ¬ nI (F 7) = 0 from fun z => z (by rw [g.1]; rfl)), if_neg (show ¬ ¬ nI code = (69 : Int32) from fun z => z (by rw [g.2.1]; rfl)), ob_b2_e (x_isBlockDue s1 ok mm1), if_pos g.2.2, if_neg (by decide), ob_b2_e e2]
    rcases (show b2.getD 0 / 8 % 2 = 0 ∨ b2.getD 0 / 8 % 2 = 1 by omega) with z | z <;> rw [z] <;> rfl
  · obtain ⟨u2, e2, s2, f2⟩ := x_ans37 s1 ok mm1 hn g
    refine ⟨u2, ?_, s2, F1.tr f2⟩
    by_cases c7 : F 7 = 0
    · rw [if_neg (show ¬ ¬ nI (F 7) = 0 from fun z => z (by rw [c7]; rfl))]
      by_cases c69 : code = 69
      · rw [if_neg (show ¬ ¬ nI code = (69 : Int32) from fun z => z (by rw [c69]; rfl)), ob_b2_e (x_isBlockDue s1 ok mm1), if_neg (show ¬ sl_due F b2 P from fun z => g ⟨c7, c69, z⟩), if_pos rfl]
        exact e2
      · rw [if_pos (show ¬ nI code = (69 : Int32) from fun z => c69 ((nI_eq (b := 69) (by omega) (by omega)).mp z))]
        exact e2
    · rw [if_pos (nI_ne0 (by omega) (by omega))]
      exact e2
end SLA
