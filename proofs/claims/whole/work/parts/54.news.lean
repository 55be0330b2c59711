/-! LAYER 2, 15: news -/
theorem nb_ahead {a b : Nat} (ha : a < 65536) (hb : b < 65536) : (nI a - nI b) &&& 65535 = nI ((a + 65536 - b) % 65536) := by
  have e : nI a - nI b = nI (a + 4294967296 - b) := by
    have e1 : nI (a + 4294967296 - b) + nI b = nI a := by
      rw [nI_add, show a + 4294967296 - b + b = a + 4294967296 by omega, ← nI_add, show nI 4294967296 = 0 by decide, Int32.add_zero]
    rw [← e1, Int32.add_sub_cancel]
  rw [e, pk_and (nI (a + 4294967296 - b)) (m := 65535) 16 (by decide)]
  congr 1
  show (BitVec.ofNat 32 (a + 4294967296 - b)).toNat % 2 ^ 16 = _
  rw [BitVec.toNat_ofNat]
  omega
/-- how far ahead a number is of the last -/
def nw_ah (x last : Nat) : Nat := (x + 65536 - last) % 65536
abbrev sl_news (F : Nat → Nat) (w b2 : Option Nat) : Prop := w ≠ none ∧ 1 ≤ nw_ah (w.getD 0) (F 12) ∧ nw_ah (w.getD 0) (F 12) ≤ 32767 ∧ b2 ≠ none ∧ b2.getD 0 / 16 = 0 ∧ b2.getD 0 % 8 = F 5
section SLN
variable {t : ob_S} {n : Nat} {F : Nat → Nat} {B : List Nat} {o : Option ap_P} {ty code id : Nat} {tok w b2 b1 : Option Nat} {S : List (List Nat)} {P : List Nat}
theorem x_isNews (h : ob_Sl t n F B o) (ok : sl_ok F B) (hm : ob_Mm t ty code id tok w b2 b1 S P) : X_Sl_isNews n 96 t = some (if sl_news F w b2 then 1 else 0, t) := by
  obtain ⟨h1, h2, h3, h4, h5, h6⟩ := h
  obtain ⟨o2, o3, o4, o5, o6, o7, o8, o9, o10, o11, o12, o13, oB, oB2⟩ := ok
  obtain ⟨g0, g1, g2, g3, g4, g5, g6, g7, g8⟩ := hm.g
  obtain ⟨m1, m2, m3, m4, m5, m6, m7, m8, m9⟩ := hm.2
  rw [X_Sl_isNews, ob_this_e h1, ob_b_e g4, ob_b_e (ob_gI_e h1 (h6 12 (by omega) (by omega))), ob_b_e g4]
  cases hw : w with
  | none => rw [if_pos (show oI none = -1 from rfl), if_neg (show ¬ sl_news F none b2 from fun z => z.1 rfl)]; rfl
  | some x =>
    have hx := m5 x hw
    have ea : (oI (some x) - nI (F 12)) &&& 65535 = nI (nw_ah x (F 12)) := nb_ahead hx o12
    have hal : nw_ah x (F 12) < 65536 := Nat.mod_lt _ (by omega)
    rw [if_neg (show ¬ oI (some x) = -1 from fun z => by have := (oI_none (o := some x) (fun y hy => by cases hy; omega)).mp z; cases this), ea]
    by_cases c1 : nw_ah x (F 12) < 1
    · rw [if_pos (show nI (nw_ah x (F 12)) < (1 : Int32) from nI_lt (b := 1) c1 (by omega)), if_neg (show ¬ sl_news F (some x) b2 from fun z => by have := z.2.1; simp only [Option.getD_some] at this; omega)]; rfl
    · rw [if_neg (show ¬ nI (nw_ah x (F 12)) < (1 : Int32) from nI_nlt (b := 1) (by omega) (by omega))]
      by_cases c2 : 32767 < nw_ah x (F 12)
      · rw [if_pos (show (32767 : Int32) < nI (nw_ah x (F 12)) from nI_lt (a := 32767) c2 (by omega)), if_neg (show ¬ sl_news F (some x) b2 from fun z => by have := z.2.2.1; simp only [Option.getD_some] at this; omega)]; rfl
      · rw [if_neg (show ¬ (32767 : Int32) < nI (nw_ah x (F 12)) from nI_nlt (a := 32767) (by omega) (by omega)), ob_b_e g5]
        cases hb : b2 with
        | none => rw [if_pos (show oI none = -1 from rfl), if_neg (show ¬ sl_news F (some x) none from fun z => z.2.2.2.1 rfl)]; rfl
        | some b =>
          have hbb := m6 b hb
          rw [hb] at g5
          rw [if_neg (show ¬ oI (some b) = -1 from fun z => by have := (oI_none (o := some b) (fun y hy => by cases hy; omega)).mp z; cases this), ob_b_e g5, ob_b2_e (show X_Ob_numOf (oI (some b)) t = some (nI (b / 16), t) from x_numOf b (by omega) t)]
          by_cases c3 : b / 16 = 0
          · rw [if_neg (show ¬ ¬ nI (b / 16) = 0 from fun z => z (by rw [c3]; rfl)), ob_b_e g5, ob_b2_e (show X_Ob_szxOf (oI (some b)) t = some (nI (b % 8), t) from x_szxOf b (by omega) t), ob_b_e (ob_gI_e h1 (h6 5 (by omega) (by omega)))]
            by_cases c4 : b % 8 = F 5
            · rw [if_neg (show ¬ ¬ nI (b % 8) = nI (F 5) from fun z => z (by rw [c4])), if_pos (show sl_news F (some x) (some b) from ⟨(fun z => by cases z), by show 1 ≤ nw_ah x (F 12); omega, by show nw_ah x (F 12) ≤ 32767; omega, (fun z => by cases z), c3, c4⟩)]; rfl
            · rw [if_pos (show ¬ nI (b % 8) = nI (F 5) from fun z => c4 ((nI_eq (by omega) (by omega)).mp z)), if_neg (show ¬ sl_news F (some x) (some b) from fun z => c4 z.2.2.2.2.2)]; rfl
          · rw [if_pos (nI_ne0 (by omega) (by omega)), if_neg (show ¬ sl_news F (some x) (some b) from fun z => c3 z.2.2.2.2.1)]; rfl
/-- the slot that news came to -/
def sl_nw (F : Nat → Nat) (w b2 : Option Nat) : Nat → Nat := sl_on (va_up (va_up F 12 (w.getD 0)) 6 0) (b2.getD 0)
theorem x_takeNews (h : ob_Sl t n F B o) (ok : sl_ok F B) (hn : n + 6 ≤ 96) (hm : ob_Mm t ty code id tok w b2 b1 S P) (hw : w ≠ none) (hb2 : b2 ≠ none) : ∃ u, X_Sl_takeNews n 96 t = some (nI (b2.getD 0 / 8 % 2), u) ∧ ob_Sl u n (sl_nw F w b2) P none ∧ ob_Fr (sl_P n) t u := by
  obtain ⟨b, rfl⟩ : ∃ b, b2 = some b := by
    cases b2 with
    | none => exact absurd rfl hb2
    | some b => exact ⟨b, rfl⟩
  obtain ⟨x, rfl⟩ : ∃ x, w = some x := by
    cases w with
    | none => exact absurd rfl hw
    | some x => exact ⟨x, rfl⟩
  have hbb := hm.2.2.2.2.2.2.1 b rfl
  have hP := hm.2.2.2.2.2.2.2.2.1
  obtain ⟨u1, e1, p1, f1⟩ := x_Pe_stop h.2.2.2.2.1
  have s1 := h.pe f1 p1
  have mm1 := hm.fr f1 (fun q a b z => by rcases z with z | z | z <;> omega)
  have s2 := s1.set 12 x
  have f2 : ob_Fr (fun q => q = n) u1 (ob_setI u1 n 12 (nI x)) := ob_Fr.setI rfl
  have mm2 := mm1.fr f2 (fun q a b => by omega)
  obtain ⟨u3, e3, b3, f3⟩ := x_By_become s2.2.2.2.1 mm2.g.2.2.2.2.2.2.2.2 (by omega) (by omega) (by rw [nb_len]; omega)
  have s3 := s2.by f3 b3
  have mm3 := mm2.fr f3 (fun q a b => by omega)
  have s4 := s3.set 6 0
  have f4 : ob_Fr (fun q => q = n) u3 (ob_setI u3 n 6 (nI 0)) := ob_Fr.setI rfl
  have mm4 := mm3.fr f4 (fun q a b => by omega)
  obtain ⟨u5, e5, s5, f5⟩ := x_goOn s4 mm4.g.2.2.2.2.2.1 (by omega)
  refine ⟨u5, ?_, s5, ((((f1.mono (fun q z => by rcases z with z | z | z <;> omega)).tr (f2.mono (fun q z => by omega))).tr (f3.mono (fun q z => by omega))).tr (f4.mono (fun q z => by omega))).tr (f5.mono (fun q z => by omega))⟩
  rw [X_Sl_takeNews, ob_this_e h.1, ob_b_e (ob_gR_e h.1 h.2.2.1), ob_b_e e1, ob_b_e mm1.g.2.2.2.2.1, ob_b_e (show ob_pI 6 12 n (oI (some x)) u1 = some (ob_setI u1 n 12 (nI x)) from ob_pI_e s1.1), ob_b_e (ob_gR_e s2.1 s2.2.1), ob_b_e mm2.g.2.2.2.2.2.2.2.1, ob_b_e e3, ob_b_e (show ob_pI 6 6 n 0 u3 = some (ob_setI u3 n 6 (nI 0)) from ob_pI_e s3.1), ob_b2_e e5]
  show ob_z (nI (b / 8 % 2)) u5 = some (nI (b / 8 % 2), u5)
  rcases (show b / 8 % 2 = 0 ∨ b / 8 % 2 = 1 by omega) with z | z <;> rw [z] <;> rfl
end SLN
/-! what is known of the numbers stays known -/
theorem sl_on_ok {F : Nat → Nat} {B : List Nat} {b : Nat} (ok : sl_ok F B) (h : b / 8 % 2 ≠ 0 → F 6 ≤ 4) : sl_ok (sl_on F b) B := by
  obtain ⟨o2, o3, o4, o5, o6, o7, o8, o9, o10, o11, o12, o13, oB, oB2⟩ := ok
  unfold sl_on
  by_cases c : b / 8 % 2 = 0
  · rw [if_pos c]
    exact ⟨by simp [va_up], by simpa [va_up] using o3, by simpa [va_up] using o4, by simpa [va_up] using o5, by simpa [va_up] using o6, by simpa [va_up] using o7, by simpa [va_up] using o8, by simpa [va_up] using o9, by simpa [va_up] using o10, by simpa [va_up] using o11, by simpa [va_up] using o12, by simpa [va_up] using o13, oB, oB2⟩
  · rw [if_neg c]
    have := h c
    exact ⟨by simpa [va_up] using o2, by simpa [va_up] using o3, by simpa [va_up] using o4, by simpa [va_up] using o5, by simp [va_up]; omega, by simpa [va_up] using o7, by simpa [va_up] using o8, by simpa [va_up] using o9, by simpa [va_up] using o10, by simpa [va_up] using o11, by simpa [va_up] using o12, by simpa [va_up] using o13, oB, oB2⟩
theorem sl_blk_ok {F : Nat → Nat} {B : List Nat} {w : Option Nat} (ok : sl_ok F B) (hw : ∀ x, w = some x → x < 65536) : sl_ok (sl_blk F w) B ∧ sl_blk F w 6 = F 6 ∧ sl_blk F w 5 = F 5 := by
  have ok2 := ok
  obtain ⟨o2, o3, o4, o5, o6, o7, o8, o9, o10, o11, o12, o13, oB, oB2⟩ := ok
  unfold sl_blk
  by_cases c : F 10 ≠ 0 ∧ w ≠ none
  · rw [if_pos c]
    have hx : w.getD 0 < 65536 := by
      cases w with
      | none => exact absurd rfl c.2
      | some x => exact hw x rfl
    exact ⟨⟨by simpa [va_up] using o2, by simpa [va_up] using o3, by simpa [va_up] using o4, by simpa [va_up] using o5, by simpa [va_up] using o6, by simpa [va_up] using o7, by simpa [va_up] using o8, by simpa [va_up] using o9, by simpa [va_up] using o10, by simp [va_up], by simpa [va_up] using hx, by simpa [va_up] using o13, oB, oB2⟩, by simp [va_up], by simp [va_up]⟩
  · rw [if_neg c]
    exact ⟨ok2, rfl, rfl⟩
theorem sl_ans_ok {F : Nat → Nat} {B : List Nat} {ty code id : Nat} {tok w b2 b1 : Option Nat} {P : List Nat} (ok : sl_ok F B) (hm : ms_ok ty code id tok w b2 b1 P) : sl_ok (sl_ans F B code w b2 P).1 (sl_ans F B code w b2 P).2.1 := by
  have ok2 := ok
  obtain ⟨o2, o3, o4, o5, o6, o7, o8, o9, o10, o11, o12, o13, oB, oB2⟩ := ok
  obtain ⟨m1, m2, m3, m4, m5, m6, m7, m8, m9⟩ := hm
  have hs := af_size_ok (F 5)
  unfold sl_ans
  by_cases c1 : F 7 = 0 ∧ code = 69 ∧ sl_due F b2 P
  · rw [if_pos c1]
    have hd := c1.2.2.2.2.2
    have hB' : (B.take (F 6 * af_size (F 5)) ++ P).length ≤ 80 := by
      rw [List.length_append, List.length_take]
      omega
    have hm2 : ∀ x ∈ B.take (F 6 * af_size (F 5)) ++ P, x < 256 := fun x hx => by
      rcases List.mem_append.mp hx with z | z
      · exact oB2 x (List.mem_of_mem_take z)
      · exact m9 x z
    have ok3 : sl_ok F (B.take (F 6 * af_size (F 5)) ++ P) := ⟨o2, o3, o4, o5, o6, o7, o8, o9, o10, o11, o12, o13, hB', hm2⟩
    obtain ⟨q1, q2, q3⟩ := sl_blk_ok (w := w) ok3 m5
    refine sl_on_ok q1 (fun _ => ?_)
    rw [q2]
    have : F 6 * 16 ≤ F 6 * af_size (F 5) := Nat.mul_le_mul_left _ hs.2
    omega
  · rw [if_neg c1]
    by_cases c2 : F 7 ≠ 0 ∧ code = 95 ∧ af_more B.length (F 6) (F 5) = 1
    · rw [if_pos c2]
      have h6 : F 6 + 1 ≤ 5 := by
        have hc := c2.2.2
        unfold af_more at hc
        split at hc
        · rename_i z
          have : (F 6 + 1) * 16 ≤ (F 6 + 1) * af_size (F 5) := Nat.mul_le_mul_left _ hs.2
          omega
        · omega
      exact ⟨by simpa [va_up] using o2, by simpa [va_up] using o3, by simpa [va_up] using o4, by simpa [va_up] using o5, by simpa [va_up] using h6, by simpa [va_up] using o7, by simpa [va_up] using o8, by simpa [va_up] using o9, by simpa [va_up] using o10, by simpa [va_up] using o11, by simpa [va_up] using o12, by simpa [va_up] using o13, oB, oB2⟩
    · rw [if_neg c2]
      by_cases c3 : F 7 ≠ 0 ∧ code = 68
      · rw [if_pos c3]
        exact ⟨by simp [va_up], by simpa [va_up] using o3, by simpa [va_up] using o4, by simpa [va_up] using o5, by simpa [va_up] using o6, by simpa [va_up] using o7, by simpa [va_up] using o8, by simpa [va_up] using o9, by simpa [va_up] using o10, by simpa [va_up] using o11, by simpa [va_up] using o12, by simpa [va_up] using o13, oB, oB2⟩
      · rw [if_neg c3]
        exact ⟨by simp [va_up], by simpa [va_up] using o3, by simpa [va_up] using o4, by simpa [va_up] using o5, by simpa [va_up] using o6, by simpa [va_up] using o7, by simpa [va_up] using o8, by simpa [va_up] using o9, by simpa [va_up] using o10, by simpa [va_up] using o11, by simpa [va_up] using o12, by simpa [va_up] using m2, oB, oB2⟩
theorem sl_nw_ok {F : Nat → Nat} {B : List Nat} {ty code id : Nat} {tok w b2 b1 : Option Nat} {P : List Nat} (ok : sl_ok F B) (hm : ms_ok ty code id tok w b2 b1 P) (hw : w ≠ none) : sl_ok (sl_nw F w b2) P := by
  obtain ⟨o2, o3, o4, o5, o6, o7, o8, o9, o10, o11, o12, o13, oB, oB2⟩ := ok
  obtain ⟨m1, m2, m3, m4, m5, m6, m7, m8, m9⟩ := hm
  have hx : w.getD 0 < 65536 := by
    cases w with
    | none => exact absurd rfl hw
    | some x => exact m5 x rfl
  unfold sl_nw
  refine sl_on_ok ⟨by simpa [va_up] using o2, by simpa [va_up] using o3, by simpa [va_up] using o4, by simpa [va_up] using o5, by simp [va_up], by simpa [va_up] using o7, by simpa [va_up] using o8, by simpa [va_up] using o9, by simpa [va_up] using o10, by simpa [va_up] using o11, by simpa [va_up] using hx, by simpa [va_up] using o13, by omega, m9⟩ (fun _ => by simp [va_up])
