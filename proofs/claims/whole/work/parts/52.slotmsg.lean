/-! LAYER 2, 13: a slot and a message -/
/-- the numbers of a message -/
def mF (ty code id : Nat) (tok w b2 b1 : Option Nat) : Nat → Int32 := fun k => if k = 0 then nI ty else if k = 1 then nI code else if k = 2 then nI id else if k = 3 then oI tok else if k = 4 then oI w else if k = 5 then oI b2 else oI b1
/-- a block's number, if there is one -/
def bk_ok (b : Option Nat) : Prop := ∀ x, b = some x → x ≤ 1023 ∧ x % 8 < 2
def ms_ok (ty code id : Nat) (tok w b2 b1 : Option Nat) (P : List Nat) : Prop := ty < 4 ∧ code < 256 ∧ id < 65536 ∧ (∀ x, tok = some x → x < 256) ∧ (∀ x, w = some x → x < 65536) ∧ bk_ok b2 ∧ bk_ok b1 ∧ P.length ≤ 32 ∧ ∀ x ∈ P, x < 256
/-- the Message holds this -/
def ob_Mm (t : ob_S) (ty code id : Nat) (tok w b2 b1 : Option Nat) (S : List (List Nat)) (P : List Nat) : Prop := ob_Ms t (mF ty code id tok w b2 b1) S P ∧ ms_ok ty code id tok w b2 b1 P
theorem ob_Mm.fr {Q : Nat → Prop} {t u : ob_S} {ty code id : Nat} {tok w b2 b1 : Option Nat} {S : List (List Nat)} {P : List Nat} (h : ob_Mm t ty code id tok w b2 b1 S P) (f : ob_Fr Q t u) (hQ : ∀ q, 96 ≤ q → q < 103 → ¬ Q q) : ob_Mm u ty code id tok w b2 b1 S P := ⟨h.1.fr f hQ, h.2⟩
theorem oI_none {o : Option Nat} (h : ∀ x, o = some x → x < 2 ^ 31) : oI o = -1 ↔ o = none := by
  cases o with
  | none => exact ⟨fun _ => rfl, fun _ => rfl⟩
  | some x =>
    refine ⟨fun z => ?_, fun z => by cases z⟩
    have hx := h x rfl
    have e : (nI x).toInt = (-1 : Int32).toInt := congrArg Int32.toInt z
    rw [nI_toInt hx] at e
    have e2 : (-1 : Int32).toInt = -1 := by decide
    omega
theorem oI_eq {o : Option Nat} {y : Nat} (h : ∀ x, o = some x → x < 2 ^ 31) (hy : y < 2 ^ 31) : nI y = oI o ↔ o = some y := by
  cases o with
  | none =>
    refine ⟨fun z => ?_, fun z => by cases z⟩
    have z2 : oI (some y) = -1 := z
    have := (oI_none (o := some y) (fun x hx => by cases hx; exact hy)).mp z2
    cases this
  | some x =>
    refine ⟨fun z => ?_, fun z => by cases z; rfl⟩
    rw [(nI_eq hy (h x rfl)).mp z]
theorem ob_Mm.g {t : ob_S} {ty code id : Nat} {tok w b2 b1 : Option Nat} {S : List (List Nat)} {P : List Nat} (h : ob_Mm t ty code id tok w b2 b1 S P) : ob_gI 8 0 96 t = some (nI ty) ∧ ob_gI 8 1 96 t = some (nI code) ∧ ob_gI 8 2 96 t = some (nI id) ∧ ob_gI 8 3 96 t = some (oI tok) ∧ ob_gI 8 4 96 t = some (oI w) ∧ ob_gI 8 5 96 t = some (oI b2) ∧ ob_gI 8 6 96 t = some (oI b1) ∧ ob_gR 8 10 96 t = some 101 ∧ ob_By t 101 102 32 (nb P) := by
  obtain ⟨⟨h1, h2, h3, h4, h5, h6, h7, h8, h9, h10⟩, -⟩ := h
  exact ⟨ob_gI_e h1 (h5 0 (by omega)), ob_gI_e h1 (h5 1 (by omega)), ob_gI_e h1 (h5 2 (by omega)), ob_gI_e h1 (h5 3 (by omega)), ob_gI_e h1 (h5 4 (by omega)), ob_gI_e h1 (h5 5 (by omega)), ob_gI_e h1 (h5 6 (by omega)), ob_gR_e h1 h4, h10⟩
theorem nb_8 : ∀ b, b < 1024 → ((nI b &&& 8) = 0 ↔ b / 8 % 2 = 0) := by decide +kernel
theorem x_numOf (b : Nat) (hb : b < 2 ^ 31) (t : ob_S) : X_Ob_numOf (nI b) t = some (nI (b / 16), t) := by
  rw [X_Ob_numOf, pk_shrN hb ((4 : Int32) &&& 31) 4 (by decide)]
theorem x_szxOf (b : Nat) (hb : b < 2 ^ 31) (t : ob_S) : X_Ob_szxOf (nI b) t = some (nI (b % 8), t) := by
  rw [X_Ob_szxOf, pk_andN (by omega) 3 (by decide)]
theorem x_hasMoreB (b : Nat) (hb : b < 1024) (t : ob_S) : X_Ob_hasMore (nI b) t = some (nI (b / 8 % 2), t) := by
  rw [X_Ob_hasMore]
  by_cases h : b / 8 % 2 = 0
  · rw [if_pos ((nb_8 b hb).mpr h), h]; rfl
  · rw [if_neg (fun z => h ((nb_8 b hb).mp z)), show b / 8 % 2 = 1 by omega]; rfl
/-- is the slot the one that waits for this answer? -/
abbrev sl_asked (F : Nat → Nat) (o : Option ap_P) (id : Nat) (tok : Option Nat) : Prop := F 2 = 1 ∧ o.map (fun q => q.1) = some id ∧ tok = some (F 3)
abbrev sl_watched (F : Nat → Nat) (tok : Option Nat) : Prop := F 2 ≠ 0 ∧ F 11 ≠ 0 ∧ tok = some (F 3)
section SLM
variable {t : ob_S} {n : Nat} {F : Nat → Nat} {B : List Nat} {o : Option ap_P} {ty code id : Nat} {tok w b2 b1 : Option Nat} {S : List (List Nat)} {P : List Nat}
theorem x_isAskedFor (h : ob_Sl t n F B o) (ok : sl_ok F B) (hm : ob_Mm t ty code id tok w b2 b1 S P) : X_Sl_isAskedFor n 96 t = some (if sl_asked F o id tok then 1 else 0, t) := by
  obtain ⟨h1, h2, h3, h4, h5, h6⟩ := h
  obtain ⟨o2, o3, o4, o5, o6, o7, o8, o9, o10, o11, o12, o13, oB, oB2⟩ := ok
  obtain ⟨g0, g1, g2, g3, g4, g5, g6, g7, g8⟩ := hm.g
  obtain ⟨m1, m2, m3, m4, m5, m6, m7, m8, m9⟩ := hm.2
  rw [X_Sl_isAskedFor, ob_this_e h1, ob_b_e (ob_gI_e h1 (h6 2 (by omega) (by omega)))]
  by_cases c1 : F 2 = 1
  · rw [if_neg (show ¬ ¬ nI (F 2) = (1 : Int32) from fun z => z (by rw [c1]; rfl)), ob_b_e (ob_gR_e h1 h3), ob_b_e g2, ob_b2_e (x_Pe_isFor id m3 h5)]
    by_cases c2 : o.map (fun q => q.1) = some id
    · rw [if_pos c2, if_neg (by decide), ob_b_e (ob_gI_e h1 (h6 3 (by omega) (by omega))), ob_b_e g3]
      by_cases c3 : tok = some (F 3)
      · rw [if_neg (show ¬ ¬ nI (F 3) = oI tok from fun z => z ((oI_eq (fun x hx => by have := m4 x hx; omega) (by omega)).mpr c3)), if_pos (show sl_asked F o id tok from ⟨c1, c2, c3⟩)]; rfl
      · rw [if_pos (show ¬ nI (F 3) = oI tok from fun z => c3 ((oI_eq (fun x hx => by have := m4 x hx; omega) (by omega)).mp z)), if_neg (show ¬ sl_asked F o id tok from fun z => c3 z.2.2)]; rfl
    · rw [if_neg c2, if_pos rfl, if_neg (show ¬ sl_asked F o id tok from fun z => c2 z.2.1)]; rfl
  · rw [if_pos (show ¬ nI (F 2) = (1 : Int32) from fun z => c1 ((nI_eq (b := 1) (by omega) (by omega)).mp z)), if_neg (show ¬ sl_asked F o id tok from fun z => c1 z.1)]; rfl
theorem x_isWatchedFor (h : ob_Sl t n F B o) (ok : sl_ok F B) (hm : ob_Mm t ty code id tok w b2 b1 S P) : X_Sl_isWatchedFor n 96 t = some (if sl_watched F tok then 1 else 0, t) := by
  obtain ⟨h1, h2, h3, h4, h5, h6⟩ := h
  obtain ⟨o2, o3, o4, o5, o6, o7, o8, o9, o10, o11, o12, o13, oB, oB2⟩ := ok
  obtain ⟨g0, g1, g2, g3, g4, g5, g6, g7, g8⟩ := hm.g
  obtain ⟨m1, m2, m3, m4, m5, m6, m7, m8, m9⟩ := hm.2
  rw [X_Sl_isWatchedFor, ob_this_e h1, ob_b_e (ob_gI_e h1 (h6 2 (by omega) (by omega)))]
  by_cases c1 : F 2 = 0
  · rw [if_pos (show nI (F 2) = 0 by rw [c1]; rfl), if_neg (show ¬ sl_watched F tok from fun z => z.1 c1)]; rfl
  · rw [if_neg (nI_ne0 (by omega) (by omega)), ob_b_e (ob_gI_e h1 (h6 11 (by omega) (by omega)))]
    by_cases c2 : F 11 = 0
    · rw [if_pos (show nI (F 11) = 0 by rw [c2]; rfl), if_neg (show ¬ sl_watched F tok from fun z => z.2.1 c2)]; rfl
    · rw [if_neg (nI_ne0 (by omega) (by omega)), ob_b_e (ob_gI_e h1 (h6 3 (by omega) (by omega))), ob_b_e g3]
      by_cases c3 : tok = some (F 3)
      · rw [if_neg (show ¬ ¬ nI (F 3) = oI tok from fun z => z ((oI_eq (fun x hx => by have := m4 x hx; omega) (by omega)).mpr c3)), if_pos (show sl_watched F tok from ⟨c1, c2, c3⟩)]; rfl
      · rw [if_pos (show ¬ nI (F 3) = oI tok from fun z => c3 ((oI_eq (fun x hx => by have := m4 x hx; omega) (by omega)).mp z)), if_neg (show ¬ sl_watched F tok from fun z => c3 z.2.2)]; rfl
/-- is the block the one that is due? -/
abbrev sl_due (F : Nat → Nat) (b2 : Option Nat) (P : List Nat) : Prop := b2 ≠ none ∧ b2.getD 0 / 16 = F 6 ∧ b2.getD 0 % 8 = F 5 ∧ F 6 * af_size (F 5) + P.length ≤ 64
theorem x_isBlockDue (h : ob_Sl t n F B o) (ok : sl_ok F B) (hm : ob_Mm t ty code id tok w b2 b1 S P) : X_Sl_isBlockDue n 96 t = some (if sl_due F b2 P then 1 else 0, t) := by
  obtain ⟨h1, h2, h3, h4, h5, h6⟩ := h
  obtain ⟨o2, o3, o4, o5, o6, o7, o8, o9, o10, o11, o12, o13, oB, oB2⟩ := ok
  obtain ⟨g0, g1, g2, g3, g4, g5, g6, g7, g8⟩ := hm.g
  obtain ⟨m1, m2, m3, m4, m5, m6, m7, m8, m9⟩ := hm.2
  rw [X_Sl_isBlockDue, ob_this_e h1, ob_b_e g5]
  cases hb : b2 with
  | none => rw [if_pos (show oI none = -1 from rfl), if_neg (show ¬ sl_due F none P from fun z => z.1 rfl)]; rfl
  | some b =>
    have hbb := m6 b hb
    rw [hb] at g5
    have hs := af_size_ok (F 5)
    have hmul : F 6 * af_size (F 5) ≤ 5 * 32 := Nat.mul_le_mul o6 hs.1
    rw [if_neg (show ¬ oI (some b) = -1 from fun z => by have := (oI_none (o := some b) (fun x hx => by cases hx; omega)).mp z; cases this), ob_b_e g5, ob_b2_e (show X_Ob_numOf (oI (some b)) t = some (nI (b / 16), t) from x_numOf b (by omega) t), ob_b_e (ob_gI_e h1 (h6 6 (by omega) (by omega)))]
    by_cases c1 : b / 16 = F 6
    · rw [if_neg (show ¬ ¬ nI (b / 16) = nI (F 6) from fun z => z (by rw [c1])), ob_b_e g5, ob_b2_e (show X_Ob_szxOf (oI (some b)) t = some (nI (b % 8), t) from x_szxOf b (by omega) t), ob_b_e (ob_gI_e h1 (h6 5 (by omega) (by omega)))]
      by_cases c2 : b % 8 = F 5
      · rw [if_neg (show ¬ ¬ nI (b % 8) = nI (F 5) from fun z => z (by rw [c2])), ob_b_e (ob_gI_e h1 (h6 6 (by omega) (by omega))), ob_b_e (ob_gI_e h1 (h6 5 (by omega) (by omega))), ob_b2_e (x_sizeOf _ o5 t), ob_b_e g7, ob_b_e (ob_gI_e g8.1 (show ob_i t 101 1 = nI P.length by rw [g8.2.2.2.2.2.2.1, nb_len])), pk_mul, nI_add]
        by_cases c3 : F 6 * af_size (F 5) + P.length ≤ 64
        · rw [if_neg (show ¬ (64 : Int32) < nI (F 6 * af_size (F 5) + P.length) from nI_nlt (a := 64) c3 (by omega)), if_pos (show sl_due F (some b) P from ⟨(fun z => by cases z), c1, c2, c3⟩)]; rfl
        · rw [if_pos (show (64 : Int32) < nI (F 6 * af_size (F 5) + P.length) from nI_lt (a := 64) (by omega) (by omega)), if_neg (show ¬ sl_due F (some b) P from fun z => c3 z.2.2.2)]; rfl
      · rw [if_pos (show ¬ nI (b % 8) = nI (F 5) from fun z => c2 ((nI_eq (by omega) (by omega)).mp z)), if_neg (show ¬ sl_due F (some b) P from fun z => c2 z.2.2.1)]; rfl
    · rw [if_pos (show ¬ nI (b / 16) = nI (F 6) from fun z => c1 ((nI_eq (by omega) (by omega)).mp z)), if_neg (show ¬ sl_due F (some b) P from fun z => c1 z.2.1)]; rfl
/-- goOn: the slot's numbers behind it; whether there is more -/
def sl_on (F : Nat → Nat) (b : Nat) : Nat → Nat := if b / 8 % 2 = 0 then va_up F 2 2 else va_up F 6 (F 6 + 1)
theorem x_goOn {b : Nat} (h : ob_Sl t n F B o) (hb : ob_gI 8 5 96 t = some (nI b)) (hb2 : b < 1024) : ∃ u, X_Sl_goOn n 96 t = some (nI (b / 8 % 2), u) ∧ ob_Sl u n (sl_on F b) B o ∧ ob_Fr (fun q => q = n) t u := by
  have h1 := h.1
  have h6 := h.2.2.2.2.2
  by_cases c : b / 8 % 2 = 0
  · refine ⟨ob_setI t n 2 (nI 2), ?_, by rw [sl_on, if_pos c]; exact h.set 2 2, ob_Fr.setI rfl⟩
    rw [X_Sl_goOn, ob_this_e h1, ob_b_e hb, ob_b2_e (x_hasMoreB b hb2 t), c, if_pos (by decide), ob_b_e (show ob_pI 6 2 n 2 t = some (ob_setI t n 2 (nI 2)) from ob_pI_e h1)]; rfl
  · refine ⟨ob_setI t n 6 (nI (F 6 + 1)), ?_, by rw [sl_on, if_neg c]; exact h.set 6 (F 6 + 1), ob_Fr.setI rfl⟩
    rw [X_Sl_goOn, ob_this_e h1, ob_b_e hb, ob_b2_e (x_hasMoreB b hb2 t), show b / 8 % 2 = 1 by omega, if_neg (by decide), ob_b_e (ob_gI_e h1 (h6 6 (by omega) (by omega))), nI_1, ob_b_e (ob_pI_e h1)]; rfl
end SLM
