/-! LAYER 2, 5: what a row of bytes says, and the Message that reads it -/
/-- the number that a value's bytes are; -1 where they are none -/
def ps_num (V : List Nat) : Int32 := match V with
  | [] => 0
  | [x] => if x = 0 then -1 else nI x
  | [x, y] => if x = 0 then -1 else nI (256 * x + y)
  | _ => -1
noncomputable def ps_blkb (x : Int32) : Int32 := if x = -1 then 0 else if 1023 < x then 0 else if 1 < x &&& 7 then 0 else 1
/-- where the reader stands: place, number, numbers of the message (0 type .. 6 block1), segments -/
abbrev ps_Q : Type := Nat × Nat × (Nat → Int32) × List (List Nat)
/-- the step of a head, and where its value begins -/
def ps_d (L : List Nat) (p : Nat) : Nat := if L.getD p 0 / 16 = 13 then 13 + L.getD (p + 1) 0 else L.getD p 0 / 16
def ps_p (L : List Nat) (p : Nat) : Nat := if L.getD p 0 / 16 = 13 then p + 2 else p + 1
/-- does the head hold? -/
abbrev ps_hd (L : List Nat) (p n : Nat) : Prop := L.getD p 0 / 16 ≤ 13 ∧ L.getD p 0 % 16 ≤ 12 ∧ (L.getD p 0 / 16 = 13 → p + 1 < L.length) ∧ ps_p L p + L.getD p 0 % 16 ≤ L.length ∧ (0 < ps_d L p ∨ n + ps_d L p = 11)
def ps_v (L : List Nat) (p : Nat) : List Nat := (L.drop (ps_p L p)).take (L.getD p 0 % 16)
/-- the value is kept -/
noncomputable def ps_keep (L : List Nat) (p n : Nat) (F : Nat → Int32) (S : List (List Nat)) : Option ((Nat → Int32) × List (List Nat)) :=
  if n = 6 then (if ps_num (ps_v L p) = -1 then none else some (upd F 4 (ps_num (ps_v L p)), S))
  else if n = 11 then (if S.length = 2 then none else some (F, S ++ [ps_v L p]))
  else if n = 23 then (if ps_blkb (ps_num (ps_v L p)) = 0 then none else some (upd F 5 (ps_num (ps_v L p)), S))
  else if n = 27 then (if ps_blkb (ps_num (ps_v L p)) = 0 then none else some (upd F 6 (ps_num (ps_v L p)), S))
  else none
abbrev ps_at (L : List Nat) (p : Nat) : Prop := p < L.length ∧ ¬ L.getD p 0 = 255
noncomputable def ps_opts (L : List Nat) : Nat → ps_Q → Option ps_Q
  | 0, _ => none
  | f + 1, q => if ps_at L q.1 then (if ps_hd L q.1 q.2.1 then (ps_keep L q.1 (q.2.1 + ps_d L q.1) q.2.2.1 q.2.2.2).bind (fun r => ps_opts L f (ps_p L q.1 + L.getD q.1 0 % 16, q.2.1 + ps_d L q.1, r)) else none) else some q
/-- the Message: 96; first 97, second 99, payload 101 -/
def ob_Ms (t : ob_S) (F : Nat → Int32) (S : List (List Nat)) (P : List Nat) : Prop := ob_is t 96 8 ∧ ob_r t 96 8 = some 97 ∧ ob_r t 96 9 = some 99 ∧ ob_r t 96 10 = some 101 ∧ (∀ k, k < 7 → ob_i t 96 k = F k) ∧ ob_i t 96 7 = nI S.length ∧ S.length ≤ 2 ∧ ob_By t 97 98 12 (nb (S.getD 0 [])) ∧ ob_By t 99 100 12 (nb (S.getD 1 [])) ∧ ob_By t 101 102 32 (nb P)
abbrev ob_mP : Nat → Prop := fun q => 96 ≤ q ∧ q < 103
theorem ob_Ms.fr {P : Nat → Prop} {t u : ob_S} {F : Nat → Int32} {S : List (List Nat)} {K : List Nat} (h : ob_Ms t F S K) (f : ob_Fr P t u) (hP : ∀ q, 96 ≤ q → q < 103 → ¬ P q) : ob_Ms u F S K := by
  obtain ⟨h1, h2, h3, h4, h5, h6, h7, h8, h9, h10⟩ := h
  have e := f.2.2.2 96 (hP 96 (by omega) (by omega))
  exact ⟨h1.fr f, by rw [e.2]; exact h2, by rw [e.2]; exact h3, by rw [e.2]; exact h4, fun k hk => by rw [e.1]; exact h5 k hk, by rw [e.1]; exact h6, h7, h8.fr f (hP _ (by omega) (by omega)) (hP _ (by omega) (by omega)), h9.fr f (hP _ (by omega) (by omega)) (hP _ (by omega) (by omega)), h10.fr f (hP _ (by omega) (by omega)) (hP _ (by omega) (by omega))⟩
theorem ob_Ms.set {t : ob_S} {F : Nat → Int32} {S : List (List Nat)} {K : List Nat} (h : ob_Ms t F S K) (k : Nat) (hk : k < 7) (x : Int32) : ob_Ms (ob_setI t 96 k x) (upd F k x) S K := by
  obtain ⟨h1, h2, h3, h4, h5, h6, h7, h8, h9, h10⟩ := h
  have f : ob_Fr (fun q => q = 96) t (ob_setI t 96 k x) := ob_Fr.setI rfl
  refine ⟨h1, h2, h3, h4, fun j hj => ?_, by rw [ob_i_k (by omega)]; exact h6, h7, h8.fr f (by omega) (by omega), h9.fr f (by omega) (by omega), h10.fr f (by omega) (by omega)⟩
  by_cases e : j = k
  · subst e
    rw [ob_i_self, pk_us]
  · rw [ob_i_k e, pk_un e]
    exact h5 j hj
theorem ob_Ms.put {t : ob_S} {F : Nat → Int32} {S : List (List Nat)} {K : List Nat} (h : ob_Ms t F S K) (k : Nat) (hk : 8 ≤ k) (x : Int32) : ob_Ms (ob_setI t 96 k x) F S K := by
  obtain ⟨h1, h2, h3, h4, h5, h6, h7, h8, h9, h10⟩ := h
  have f : ob_Fr (fun q => q = 96) t (ob_setI t 96 k x) := ob_Fr.setI rfl
  exact ⟨h1, h2, h3, h4, fun j hj => by rw [ob_i_k (by omega)]; exact h5 j hj, by rw [ob_i_k (by omega)]; exact h6, h7, h8.fr f (by omega) (by omega), h9.fr f (by omega) (by omega), h10.fr f (by omega) (by omega)⟩
theorem ob_mset {t : ob_S} {k : Nat} {x : Int32} : ob_Fr ob_mP t (ob_setI t 96 k x) := ob_Fr.setI ⟨by omega, by omega⟩
theorem x_Ms_forget {t : ob_S} {F : Nat → Int32} {S : List (List Nat)} {K : List Nat} (h : ob_Ms t F S K) : ∃ u, X_Ms_forget 96 t = some u ∧ ob_Ms u (upd (upd (upd (upd F 3 (-1)) 4 (-1)) 5 (-1)) 6 (-1)) [] [] ∧ ob_i u 96 12 = 0 ∧ ob_Fr ob_mP t u := by
  have a4 := (((h.set 3 (by omega) (-1)).set 4 (by omega) (-1)).set 5 (by omega) (-1)).set 6 (by omega) (-1)
  generalize ht4 : ob_setI (ob_setI (ob_setI (ob_setI t 96 3 (-1)) 96 4 (-1)) 96 5 (-1)) 96 6 (-1) = t4 at a4
  have f4 : ob_Fr ob_mP t t4 := by rw [← ht4]; exact ((ob_mset.tr ob_mset).tr ob_mset).tr ob_mset
  obtain ⟨h1, h2, h3, h4, h5, h6, h7, h8, h9, h10⟩ := a4
  have f5 : ob_Fr (fun q => q = 96) t4 (ob_setI t4 96 7 0) := ob_Fr.setI rfl
  obtain ⟨u1, e1, b1, f1⟩ := x_By_clear (h8.fr f5 (by omega) (by omega))
  have h9' := (h9.fr f5 (by omega) (by omega)).fr f1 (by omega) (by omega)
  have h10' := (h10.fr f5 (by omega) (by omega)).fr f1 (by omega) (by omega)
  obtain ⟨u2, e2, b2, f2⟩ := x_By_clear h9'
  have b1' := b1.fr f2 (by omega) (by omega)
  obtain ⟨u3, e3, b3, f3⟩ := x_By_clear (h10'.fr f2 (by omega) (by omega))
  have b1'' := b1'.fr f3 (by omega) (by omega)
  have b2'' := b2.fr f3 (by omega) (by omega)
  have g5 : ob_is (ob_setI t4 96 7 0) 96 8 := h1
  have g1 : ob_is u1 96 8 := g5.fr f1
  have g2 : ob_is u2 96 8 := g1.fr f2
  have g3 : ob_is u3 96 8 := g2.fr f3
  have er1 : ob_r u1 96 = ob_r t4 96 := (f1.2.2.2 96 (by omega)).2
  have er2 : ob_r u2 96 = ob_r t4 96 := (f2.2.2.2 96 (by omega)).2.trans er1
  have er3 : ob_r u3 96 = ob_r t4 96 := (f3.2.2.2 96 (by omega)).2.trans er2
  have ei3 : ob_i u3 96 = ob_i (ob_setI t4 96 7 0) 96 := ((f3.2.2.2 96 (by omega)).1.trans (f2.2.2.2 96 (by omega)).1).trans (f1.2.2.2 96 (by omega)).1
  have f6 : ob_Fr (fun q => q = 96) u3 (ob_setI u3 96 12 0) := ob_Fr.setI rfl
  refine ⟨ob_setI u3 96 12 0, ?_, ⟨g3, (by show ob_r u3 96 8 = _; rw [er3]; exact h2), (by show ob_r u3 96 9 = _; rw [er3]; exact h3), (by show ob_r u3 96 10 = _; rw [er3]; exact h4), fun k hk => ?_, ?_, by simp, b1''.fr f6 (by omega) (by omega), b2''.fr f6 (by omega) (by omega), b3.fr f6 (by omega) (by omega)⟩, ob_i_self, ?_⟩
  · rw [X_Ms_forget, ob_this_e h.1, ob_b_e (ob_pI_e h.1), ob_b_e (ob_pI_e (t := ob_setI t 96 3 (-1)) h.1), ob_b_e (ob_pI_e (t := ob_setI (ob_setI t 96 3 (-1)) 96 4 (-1)) h.1), ob_b_e (ob_pI_e (t := ob_setI (ob_setI (ob_setI t 96 3 (-1)) 96 4 (-1)) 96 5 (-1)) h.1), ht4, ob_b_e (ob_pI_e h1), ob_b_e (ob_gR_e g5 h2), ob_b_e e1, ob_b_e (ob_gR_e g1 (by rw [er1]; exact h3)), ob_b_e e2, ob_b_e (ob_gR_e g2 (by rw [er2]; exact h4)), ob_b_e e3, ob_b_e (ob_pI_e g3)]
  · rw [ob_i_k (by omega), ei3, ob_i_k (by omega)]
    exact h5 k hk
  · rw [ob_i_k (by omega), ei3, ob_i_self]
    rfl
  · exact (((f4.tr (f5.mono (fun q z => by omega))).tr (f1.mono (fun q z => by omega))).tr (f2.mono (fun q z => by omega))).tr ((f3.mono (fun q z => by omega)).tr (f6.mono (fun q z => by omega)))
/-- the row that is read, apart from the Message -/
abbrev ob_Rw (t : ob_S) (n a m : Nat) (L : List Nat) : Prop := ob_By t n a m (nb L) ∧ n < 96 ∧ a < 96 ∧ ∀ x ∈ L, x < 256
theorem ob_Rw.fr {t u : ob_S} {n a m : Nat} {L : List Nat} (h : ob_Rw t n a m L) (f : ob_Fr ob_mP t u) : ob_Rw u n a m L := ⟨h.1.fr f (by have := h.2.1; omega) (by have := h.2.2.1; omega), h.2⟩
theorem ob_Rw.len {t : ob_S} {n a m : Nat} {L : List Nat} (h : ob_Rw t n a m L) : ob_i t n 1 = nI L.length ∧ L.length < 1000 := by
  have q := h.1.2.2.2.2
  rw [nb_len] at q
  exact ⟨q.2.2.1, by omega⟩
theorem ob_Rw.get {t : ob_S} {n a m : Nat} {L : List Nat} (h : ob_Rw t n a m L) {k : Nat} (hk : k < L.length) : ob_aI a (nI k) t = some (nI (L.getD k 0)) := by
  have hl := h.len.2
  have q := h.1.2.2.2
  have e := q.2.2.2.2 k (by rw [nb_len]; exact hk)
  have e2 : (nb L)[k]? = some (nI (L.getD k 0)) := by
    simp [nb, List.getElem?_map, List.getElem?_eq_getElem hk]
  rw [e2] at e
  refine ob_aI_e h.1.2.2.1 ?_ ?_ (Option.some.inj e).symm
  · have := q.2.2.1
    rw [nb_len] at this
    omega
  · omega
theorem ob_Rw.lt {t : ob_S} {n a m : Nat} {L : List Nat} (h : ob_Rw t n a m L) (k : Nat) : L.getD k 0 < 256 := by
  rw [List.getD_eq_getElem?_getD]
  cases hk : L[k]? with
  | none => simp
  | some x => exact h.2.2.2 x (List.mem_of_getElem? hk)
theorem x_isAt {t : ob_S} {F : Nat → Int32} {S : List (List Nat)} {K : List Nat} {n a m p : Nat} {L : List Nat} (h : ob_Ms t F S K) (hr : ob_Rw t n a m L) (hp : ob_i t 96 11 = nI p) (hpl : p < 2000) : X_Ms_isAtOption 96 n t = some (if ps_at L p then 1 else 0, t) := by
  have hl := hr.len
  have hh := x_By_has (nI p) hr.1
  rw [nb_len] at hh
  rw [X_Ms_isAtOption, ob_this_e h.1, ob_b_e (ob_gI_e h.1 hp), ob_b2_e hh]
  by_cases c1 : p < L.length
  · rw [if_neg (show ¬ (nI p < 0 ∨ nI L.length ≤ nI p) from fun z => z.elim (nI_pos (by omega)) (nI_ge c1 (by omega))), if_neg (by decide), ob_b_e (ob_gR_e hr.1.1 hr.1.2.1), ob_b_e (ob_gI_e h.1 hp), ob_b_e (hr.get c1)]
    by_cases c2 : L.getD p 0 = 255
    · rw [if_pos (show nI (L.getD p 0) = 255 by rw [c2]; rfl), if_neg (show ¬ ps_at L p from fun z => z.2 c2)]; rfl
    · rw [if_neg (show ¬ nI (L.getD p 0) = 255 from fun z => c2 ((nI_eq (b := 255) (by have := hr.lt p; omega) (by omega)).mp z)), if_pos (show ps_at L p from ⟨c1, c2⟩)]; rfl
  · rw [if_pos (show nI p < 0 ∨ nI L.length ≤ nI p from Or.inr (nI_le (by omega) (by omega))), if_pos rfl, if_neg (show ¬ ps_at L p from fun z => c1 z.1)]; rfl
