/-! LAYER 2, 32: the reference's slots; ask -/
abbrev dS (s : Nat) : Nat → Nat → Prop := fun n j => (114 ≤ n ∧ n ≤ 127 ∧ n ≠ 126 ∧ j = s) ∨ (n = 126 ∧ 80 * s ≤ j ∧ j < 80 * s + 80)
/-- what is known of a slot's numbers, and of which slot it is -/
def so_ok (s : Nat) (F : Nat → Nat) : Prop := F 8 = s ∧ (F 2 ≠ 0 → F 3 % 2 = s) ∧ (F 7 ≠ 0 → F 10 = 0 ∧ F 11 = 0) ∧ (F 11 = 0 → F 12 = 0)
def so_a (s : Nat) (F : Nat → Nat) : Prop := F 8 = s ∧ F 3 % 2 = s ∧ (F 7 ≠ 0 → F 10 = 0 ∧ F 11 = 0) ∧ (F 11 = 0 → F 12 = 0)
/-- a slot's numbers as they lie there, its body; a: whether more was asked -/
def mo_Sr (t : ob_S) (s : Nat) (F : Nat → Nat) (B : List Nat) (a : Int32) : Prop := ob_i t 114 s = nI (F 2) ∧ ob_i t 115 s = nI (F 9) ∧ ob_i t 116 s = nI (F 3) ∧ ob_i t 117 s = nI (F 4) ∧ ob_i t 118 s = nI (F 5) ∧ ob_i t 119 s = nI (F 6) ∧ ob_i t 120 s = nI (F 7) ∧ ob_i t 121 s = nI (F 10) ∧ ob_i t 122 s = nI (F 11) ∧ ob_i t 123 s = nI (F 12) ∧ ob_i t 124 s = nI (F 13) ∧ ob_i t 125 s = a ∧ ob_i t 127 s = nI B.length ∧ mo_rw t 126 (80 * s) B ∧ B.length ≤ 80
theorem mo_Sr.f {D : Nat → Nat → Prop} {t u : ob_S} {s : Nat} {F : Nat → Nat} {B : List Nat} {a : Int32} (h : mo_Sr t s F B a) (f : mo_F D t u) (hD : ∀ n j, dS s n j → ¬ D n j) : mo_Sr u s F B a := by
  obtain ⟨h1, h2, h3, h4, h5, h6, h7, h8, h9, h10, h11, h12, h13, h14, h15⟩ := h
  exact ⟨(f.2.2.2.2 _ _ (hD _ _ (by omega))).trans h1, (f.2.2.2.2 _ _ (hD _ _ (by omega))).trans h2, (f.2.2.2.2 _ _ (hD _ _ (by omega))).trans h3, (f.2.2.2.2 _ _ (hD _ _ (by omega))).trans h4, (f.2.2.2.2 _ _ (hD _ _ (by omega))).trans h5, (f.2.2.2.2 _ _ (hD _ _ (by omega))).trans h6, (f.2.2.2.2 _ _ (hD _ _ (by omega))).trans h7, (f.2.2.2.2 _ _ (hD _ _ (by omega))).trans h8, (f.2.2.2.2 _ _ (hD _ _ (by omega))).trans h9, (f.2.2.2.2 _ _ (hD _ _ (by omega))).trans h10, (f.2.2.2.2 _ _ (hD _ _ (by omega))).trans h11, (f.2.2.2.2 _ _ (hD _ _ (by omega))).trans h12, (f.2.2.2.2 _ _ (hD _ _ (by omega))).trans h13, h14.f f (fun j a b => hD _ _ (by omega)), h15⟩
/-- a number is laid -/
theorem mo_Sr.set {t : ob_S} {s : Nat} {F : Nat → Nat} {B : List Nat} {a : Int32} (h : mo_Sr t s F B a) (k r x : Nat) (hk : (k, r) ∈ [(2, 114), (9, 115), (3, 116), (4, 117), (5, 118), (6, 119), (7, 120), (10, 121), (11, 122), (12, 123), (13, 124)]) : mo_Sr (ob_setI t r s (nI x)) s (va_up F k x) B a := by
  have hr : 114 ≤ r ∧ r ≤ 124 := by
    simp at hk
    omega
  have hn : ∀ k' r', (k', r') ∈ [(2, 114), (9, 115), (3, 116), (4, 117), (5, 118), (6, 119), (7, 120), (10, 121), (11, 122), (12, 123), (13, 124)] → ob_i t r' s = nI (F k') → ob_i (ob_setI t r s (nI x)) r' s = nI (va_up F k x k') := by
    intro k' r' h' e
    by_cases c : k' = k
    · have : r' = r := by
        subst c
        simp at hk h'
        omega
      rw [c, this, va_up_self, ob_i_self]
    · have : r' ≠ r := by
        simp at hk h'
        omega
      rw [ob_i_n this, va_up_ne _ _ c, e]
  obtain ⟨h1, h2, h3, h4, h5, h6, h7, h8, h9, h10, h11, h12, h13, h14, h15⟩ := h
  exact ⟨hn _ _ (by simp) h1, hn _ _ (by simp) h2, hn _ _ (by simp) h3, hn _ _ (by simp) h4, hn _ _ (by simp) h5, hn _ _ (by simp) h6, hn _ _ (by simp) h7, hn _ _ (by simp) h8, hn _ _ (by simp) h9, hn _ _ (by simp) h10, hn _ _ (by simp) h11, by rw [ob_i_n (by omega)]; exact h12, by rw [ob_i_n (by omega)]; exact h13, fun i hi => by rw [ob_i_n (by omega)]; exact h14 i hi, h15⟩
theorem mo_Sr.cg {t : ob_S} {s : Nat} {F G : Nat → Nat} {B : List Nat} {a : Int32} (h : mo_Sr t s F B a) (e : ∀ k, k ≠ 8 → F k = G k) : mo_Sr t s G B a := by
  obtain ⟨h1, h2, h3, h4, h5, h6, h7, h8, h9, h10, h11, h12⟩ := h
  exact ⟨by rw [h1, e _ (by omega)], by rw [h2, e _ (by omega)], by rw [h3, e _ (by omega)], by rw [h4, e _ (by omega)], by rw [h5, e _ (by omega)], by rw [h6, e _ (by omega)], by rw [h7, e _ (by omega)], by rw [h8, e _ (by omega)], by rw [h9, e _ (by omega)], by rw [h10, e _ (by omega)], by rw [h11, e _ (by omega)], h12⟩
/-- watches is false where a slot is free -/
def up11 (F : Nat → Nat) : Nat → Nat := if F 2 = 0 then va_up F 11 0 else F
def mo_Sl (t : ob_S) (s : Nat) (F : Nat → Nat) (B : List Nat) : Prop := ∃ a, mo_Sr t s (up11 F) B a ∧ (F 2 = 1 → F 7 ≠ 0 → a = nI (af_more B.length (F 6) (F 5))) ∧ sl_ok F B ∧ so_ok s F
theorem mo_Sl.f {D : Nat → Nat → Prop} {t u : ob_S} {s : Nat} {F : Nat → Nat} {B : List Nat} (h : mo_Sl t s F B) (f : mo_F D t u) (hD : ∀ n j, dS s n j → ¬ D n j) : mo_Sl u s F B := by
  obtain ⟨a, h1, h2⟩ := h
  exact ⟨a, h1.f f hD, h2⟩
theorem y_size (z : Nat) (hz : z < 2) (t : ob_S) : X_Mo_sizeOf (nI z) t = some (nI (af_size z), t) := by
  rcases (show z = 0 ∨ z = 1 by omega) with rfl | rfl
  · rw [X_Mo_sizeOf, if_neg (by decide)]
    rfl
  · rw [X_Mo_sizeOf, if_pos (by decide)]
    rfl
theorem y_more (all num z : Nat) (ha : all < 1000) (hn : num < 1000) (hz : z < 2) (t : ob_S) : X_Mo_more (nI all) (nI num) (nI z) t = some (nI (af_more all num z), t) := by
  have hs := af_size_ok z
  have hm : (num + 1) * af_size z ≤ 1000 * 32 := Nat.mul_le_mul (by omega) hs.1
  rw [X_Mo_more, ob_b2_e (y_size z hz t), nI_1, pk_mul, af_more]
  by_cases c : (num + 1) * af_size z < all
  · rw [if_neg (nI_ge c (by omega)), if_pos c]
    rfl
  · rw [if_pos (nI_le (by omega) (by omega)), if_neg c]
    rfl
theorem mo_neg {n : Nat} (h0 : 0 < n) (h : n < 100000) : ¬ (0 : Int32) ≤ - nI n := by
  intro z
  have e : (nI n).toInt = (n : Int) := nI_toInt (by omega)
  have z2 := Int32.le_iff_toInt_le.mp z
  rw [Int32.toInt_neg, e, show (0 : Int32).toInt = 0 from rfl] at z2
  have e2 : (-(n : Int)).bmod (2 ^ 32) = -(n : Int) := Int.bmod_eq_of_le (by omega) (by omega)
  rw [e2] at z2
  omega
theorem y_within (all num z : Nat) (ha : all < 1000) (hn : num < 1000) (hz : z < 2) (t : ob_S) : X_Mo_within (nI all) (nI num) (nI z) t = some (nI (min (all - num * af_size z) (af_size z)), t) := by
  have hs := af_size_ok z
  have hm : num * af_size z ≤ 1000 * 32 := Nat.mul_le_mul (by omega) hs.1
  rw [X_Mo_within, ob_b2_e (y_size z hz t), pk_mul]
  by_cases c : num * af_size z ≤ all
  · rw [nb_sub c, if_pos (nI_pos' (by omega)), ob_b2_e (y_size z hz t)]
    by_cases d : all - num * af_size z ≤ af_size z
    · rw [if_pos (nI_le d (by omega)), Nat.min_eq_left d]
    · rw [if_neg (nI_ge (by omega) (by omega)), ob_b2_e (y_size z hz t), Nat.min_eq_right (by omega)]
  · have e : nI all - nI (num * af_size z) = - nI (num * af_size z - all) := by
      rw [← nb_sub (show all ≤ num * af_size z by omega), Int32.neg_sub]
    rw [e, if_neg (show ¬ 0 ≤ - nI (num * af_size z - all) from mo_neg (by omega) (by omega)), show all - num * af_size z = 0 by omega, Nat.zero_min]
    rfl
/-- a loop that writes a row's bytes -/
theorem mo_wloop {α : Type} {G : Nat → Int32 → ob_S → Option α} {P : List Nat} {t : ob_S} {L : List Nat} {last : Nat} (h : mo_Out t L last) (hl : L.length + P.length ≤ 64) (hb : ∀ x ∈ P, x < 256) (step : ∀ fu i u u', i < P.length → mo_F dW t u → X_Mo_write 103 (nI (P.getD i 0)) u = some u' → G (fu + 1) (nI i) u = G fu (nI (i + 1)) u') : ∀ fu, P.length < fu → ∃ g u, G fu 0 t = G (g + 1) (nI P.length) u ∧ mo_Out u (L ++ P) last ∧ mo_F dW t u := by
  have key : ∀ d i fu u, i + d = P.length → d < fu → mo_F dW t u → mo_Out u (L ++ P.take i) last → ∃ g w, G fu (nI i) u = G (g + 1) (nI P.length) w ∧ mo_Out w (L ++ P) last ∧ mo_F dW t w := by
    intro d
    induction d with
    | zero =>
      intro i fu u hi hf f ho
      have e : i = P.length := by omega
      subst e
      rw [List.take_length] at ho
      exact ⟨fu - 1, u, by rw [show fu - 1 + 1 = fu by omega], ho, f⟩
    | succ d ih =>
      intro i fu u hi hf f ho
      obtain ⟨fu, rfl⟩ : ∃ g, fu = g + 1 := ⟨fu - 1, by omega⟩
      obtain ⟨w, ew, ow, fw⟩ := y_write (v := nI (P.getD i 0)) (P.getD i 0) ho rfl (by simp; omega) (by
        have hi2 : i < P.length := by omega
        rw [List.getD_eq_getElem?_getD, List.getElem?_eq_getElem hi2]
        exact hb _ (List.getElem_mem hi2))
      have e2 : L ++ P.take i ++ [P.getD i 0] = L ++ P.take (i + 1) := by
        have hi2 : i < P.length := by omega
        rw [List.append_assoc, List.take_add_one, List.getD_eq_getElem?_getD, List.getElem?_eq_getElem hi2]
        rfl
      rw [e2] at ow
      obtain ⟨g, w', e', o', f'⟩ := ih (i + 1) fu w (by omega) (by omega) (f.tr fw) ow
      exact ⟨g, w', by rw [step fu i u w (by omega) f ew, e'], o', f'⟩
  intro fu hf
  exact key P.length 0 fu t (by omega) hf mo_F.rf (by simpa using h)
