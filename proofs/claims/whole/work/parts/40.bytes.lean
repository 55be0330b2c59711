/-! LAYER 2, 1: what the functions of rows of bytes do, in lists -/
/-- the same shape; but for the objects P nothing has changed -/
def ob_Fr (P : Nat → Prop) (t u : ob_S) : Prop := ob_n u = ob_n t ∧ ob_k u = ob_k t ∧ ob_l u = ob_l t ∧ ∀ n, ¬ P n → ob_i u n = ob_i t n ∧ ob_r u n = ob_r t n
theorem ob_Fr.rf {P : Nat → Prop} {t : ob_S} : ob_Fr P t t := ⟨rfl, rfl, rfl, fun _ _ => ⟨rfl, rfl⟩⟩
theorem ob_Fr.tr {P : Nat → Prop} {t u w : ob_S} (h1 : ob_Fr P t u) (h2 : ob_Fr P u w) : ob_Fr P t w := ⟨h2.1.trans h1.1, h2.2.1.trans h1.2.1, h2.2.2.1.trans h1.2.2.1, fun n q => ⟨(h2.2.2.2 n q).1.trans (h1.2.2.2 n q).1, (h2.2.2.2 n q).2.trans (h1.2.2.2 n q).2⟩⟩
theorem ob_Fr.mono {P Q : Nat → Prop} {t u : ob_S} (h : ob_Fr P t u) (hpq : ∀ n, P n → Q n) : ob_Fr Q t u := ⟨h.1, h.2.1, h.2.2.1, fun n q => h.2.2.2 n (fun z => q (hpq n z))⟩
theorem ob_Fr.setI {P : Nat → Prop} {t : ob_S} {n k : Nat} {x : Int32} (h : P n) : ob_Fr P t (ob_setI t n k x) := ⟨rfl, rfl, rfl, fun j q => ⟨va_up_ne _ _ (fun e => q (e ▸ h)), rfl⟩⟩
theorem ob_Fr.setA {P : Nat → Prop} {t : ob_S} {n : Nat} {f : Nat → Int32} (h : P n) : ob_Fr P t (ob_setA t n f) := ⟨rfl, rfl, rfl, fun j q => ⟨va_up_ne _ _ (fun e => q (e ▸ h)), rfl⟩⟩
theorem ob_Fr.setR {P : Nat → Prop} {t : ob_S} {n k : Nat} {x : Option Nat} (h : P n) : ob_Fr P t (ob_setR t n k x) := ⟨rfl, rfl, rfl, fun j q => ⟨rfl, va_up_ne _ _ (fun e => q (e ▸ h))⟩⟩
/-! what is read of a store that was written -/
theorem ob_i_self {t : ob_S} {n k : Nat} {x : Int32} : ob_i (ob_setI t n k x) n k = x := by
  show va_up t.2.2.2.1 n (upd (t.2.2.2.1 n) k x) n k = x
  rw [va_up_self, pk_us]
theorem ob_i_k {t : ob_S} {n k j : Nat} {x : Int32} (h : j ≠ k) : ob_i (ob_setI t n k x) n j = ob_i t n j := by
  show va_up t.2.2.2.1 n (upd (t.2.2.2.1 n) k x) n j = _
  rw [va_up_self, pk_un h]
  rfl
theorem ob_i_n {t : ob_S} {n k q j : Nat} {x : Int32} (h : q ≠ n) : ob_i (ob_setI t n k x) q j = ob_i t q j := by
  show va_up t.2.2.2.1 n (upd (t.2.2.2.1 n) k x) q j = _
  rw [va_up_ne _ _ h]
  rfl
theorem ob_i_A {t : ob_S} {n j : Nat} {f : Nat → Int32} : ob_i (ob_setA t n f) n j = f j := by
  show va_up t.2.2.2.1 n f n j = _
  rw [va_up_self]
theorem ob_i_An {t : ob_S} {n q j : Nat} {f : Nat → Int32} (h : q ≠ n) : ob_i (ob_setA t n f) q j = ob_i t q j := by
  show va_up t.2.2.2.1 n f q j = _
  rw [va_up_ne _ _ h]
  rfl
theorem ob_r_self {t : ob_S} {n k : Nat} {x : Option Nat} : ob_r (ob_setR t n k x) n k = x := by
  show va_up t.2.2.2.2 n (va_up (t.2.2.2.2 n) k x) n k = x
  rw [va_up_self, va_up_self]
theorem ob_r_k {t : ob_S} {n k j : Nat} {x : Option Nat} (h : j ≠ k) : ob_r (ob_setR t n k x) n j = ob_r t n j := by
  show va_up t.2.2.2.2 n (va_up (t.2.2.2.2 n) k x) n j = _
  rw [va_up_self, va_up_ne _ _ h]
  rfl
theorem ob_r_n {t : ob_S} {n k q j : Nat} {x : Option Nat} (h : q ≠ n) : ob_r (ob_setR t n k x) q j = ob_r t q j := by
  show va_up t.2.2.2.2 n (va_up (t.2.2.2.2 n) k x) q j = _
  rw [va_up_ne _ _ h]
  rfl
theorem ob_r_nf {t : ob_S} {n k q : Nat} {x : Option Nat} (h : q ≠ n) : ob_r (ob_setR t n k x) q = ob_r t q := by
  show va_up t.2.2.2.2 n (va_up (t.2.2.2.2 n) k x) q = t.2.2.2.2 q
  exact va_up_ne _ _ h
theorem ob_i_nf {t : ob_S} {n k q : Nat} {x : Int32} (h : q ≠ n) : ob_i (ob_setI t n k x) q = ob_i t q := by
  show va_up t.2.2.2.1 n (upd (t.2.2.2.1 n) k x) q = t.2.2.2.1 q
  exact va_up_ne _ _ h
theorem ob_i_sf {t : ob_S} {n k : Nat} {x : Int32} : ob_i (ob_setI t n k x) n = upd (ob_i t n) k x := by
  show va_up t.2.2.2.1 n (upd (t.2.2.2.1 n) k x) n = _
  exact va_up_self _ _ _
/-! the guarded steps, where they go through -/
abbrev ob_is (t : ob_S) (n c : Nat) : Prop := n < ob_n t ∧ ob_k t n = c
theorem ob_gI_e {c k n : Nat} {t : ob_S} {x : Int32} (h : ob_is t n c) (hx : ob_i t n k = x) : ob_gI c k n t = some x := by rw [ob_gI, if_pos h, hx]
theorem ob_gR_e {c k n q : Nat} {t : ob_S} (h : ob_is t n c) (hx : ob_r t n k = some q) : ob_gR c k n t = some q := by rw [ob_gR, if_pos h, hx]
theorem ob_pI_e {c k n : Nat} {t : ob_S} {x : Int32} (h : ob_is t n c) : ob_pI c k n x t = some (ob_setI t n k x) := by rw [ob_pI, if_pos h]
theorem ob_pZ_e {c k n : Nat} {t : ob_S} {x : Int32} (h : ob_is t n c) (hx : x = 0 ∨ x = 1) : ob_pZ c k n x t = some (ob_setI t n k x) := by rw [ob_pZ, if_pos ⟨h, hx⟩]
theorem ob_aL_e {kd n m : Nat} {t : ob_S} (h : ob_is t n kd) (hm : ob_l t n = m) : ob_aL kd n t = some (nI m) := by rw [ob_aL, if_pos h, hm]; rfl
theorem ob_aI_e {n i : Nat} {t : ob_S} {x : Int32} (h : ob_is t n 12) (hi : i < ob_l t n) (hl : ob_l t n < 2 ^ 31) (hx : ob_i t n i = x) : ob_aI n (nI i) t = some x := by rw [ob_aI, if_pos ⟨h, nI_in hi hl⟩, nI_clamp (by omega), hx]
theorem ob_aZ_e {n i : Nat} {t : ob_S} {x : Int32} (h : ob_is t n 13) (hi : i < ob_l t n) (hl : ob_l t n < 2 ^ 31) (hx : ob_i t n i = x) : ob_aZ n (nI i) t = some x := by rw [ob_aZ, if_pos ⟨h, nI_in hi hl⟩, nI_clamp (by omega), hx]
theorem ob_aR_e {kd n i q : Nat} {t : ob_S} (h : ob_is t n kd) (hi : i < ob_l t n) (hl : ob_l t n < 2 ^ 31) (hx : ob_r t n i = some q) : ob_aR kd n (nI i) t = some q := by rw [ob_aR, if_pos ⟨h, nI_in hi hl⟩, nI_clamp (by omega), hx]
theorem ob_wI_e {n i : Nat} {t : ob_S} {x : Int32} (h : ob_is t n 12) (hi : i < ob_l t n) (hl : ob_l t n < 2 ^ 31) : ob_wI n (nI i) x t = some (ob_setI t n i x) := by rw [ob_wI, if_pos ⟨h, nI_in hi hl⟩, nI_clamp (by omega)]
theorem ob_wZ_e {n i : Nat} {t : ob_S} {x : Int32} (h : ob_is t n 13) (hi : i < ob_l t n) (hl : ob_l t n < 2 ^ 31) (hx : x = 0 ∨ x = 1) : ob_wZ n (nI i) x t = some (ob_setI t n i x) := by rw [ob_wZ, if_pos ⟨⟨h, nI_in hi hl⟩, hx⟩, nI_clamp (by omega)]
theorem ob_wR_e {kd c n i q : Nat} {t : ob_S} (h : ob_is t n kd) (hi : i < ob_l t n) (hl : ob_l t n < 2 ^ 31) (hq : ob_is t q c) : ob_wR kd c n (nI i) q t = some (ob_setR t n i (some q)) := by rw [ob_wR, if_pos ⟨⟨h, nI_in hi hl⟩, hq⟩, nI_clamp (by omega)]
theorem ob_cp_e {n q sp dp cnt : Nat} {t : ob_S} (h : ob_is t n 12) (hq : ob_is t q 12) (h1 : sp + cnt ≤ ob_l t n) (h2 : dp + cnt ≤ ob_l t q) (hl : ob_l t n < 2 ^ 31) (hl2 : ob_l t q < 2 ^ 31) : ob_cp n (nI sp) q (nI dp) (nI cnt) t = some (ob_setA t q (va_cpy (ob_i t n) (ob_i t q) sp dp cnt)) := by
  have c1 : (nI sp).toNatClampNeg = sp := nI_clamp (by omega)
  have c2 : (nI dp).toNatClampNeg = dp := nI_clamp (by omega)
  have c3 : (nI cnt).toNatClampNeg = cnt := nI_clamp (by omega)
  rw [ob_cp, if_pos ⟨⟨h, hq⟩, ⟨nI_pos (by omega), nI_pos (by omega), nI_pos (by omega)⟩, by rw [c1, c3]; exact h1, by rw [c2, c3]; exact h2⟩, c1, c2, c3]
theorem ob_this_e {a : Type} {c n : Nat} {t : ob_S} {o : Option a} (h : ob_is t n c) : ob_this c n t o = o := by rw [ob_this, if_pos h]
theorem ob_z0 {t : ob_S} : ob_z 0 t = some (0, t) := rfl
theorem ob_z1 {t : ob_S} : ob_z 1 t = some (1, t) := rfl
theorem ob_b2_e {a g : Type} {o : Option (a × ob_S)} {f : a → ob_S → Option g} {x : a} {t : ob_S} (h : o = some (x, t)) : ob_b2 o f = f x t := by rw [h]; rfl
theorem ob_b_e {a g : Type} {o : Option a} {f : a → Option g} {x : a} (h : o = some x) : o.bind f = f x := by rw [h]; rfl
theorem ob_mn_nI {a b : Nat} (ha : a < 2 ^ 31) (hb : b < 2 ^ 31) : ob_mn (nI a) (nI b) = nI (min a b) := by
  unfold ob_mn
  by_cases h : b < a
  · rw [if_pos (nI_lt h ha), Nat.min_eq_right (by omega)]
  · rw [if_neg (nI_nlt (by omega) hb), Nat.min_eq_left (by omega)]
theorem ob_is.fr {P : Nat → Prop} {t u : ob_S} {n c : Nat} (h : ob_is t n c) (f : ob_Fr P t u) : ob_is u n c := ⟨by rw [f.1]; exact h.1, by rw [f.2.1]; exact h.2⟩
/-- a place that moves up, k and c of them: where it came from -/
def rot (r : Nat → Nat) (k c : Nat) : Nat → Nat := fun i => if i = c then r k else if k ≤ i ∧ i < c then r (i + 1) else r i
theorem rot_lt {r : Nat → Nat} {k c N : Nat} (h : ∀ i, i < N → r i < N) (hk : k ≤ c) (hc : c < N) : ∀ i, i < N → rot r k c i < N := by
  intro i hi
  unfold rot
  by_cases c1 : i = c
  · rw [if_pos c1]; exact h _ (by omega)
  · rw [if_neg c1]
    by_cases c2 : k ≤ i ∧ i < c
    · rw [if_pos c2]; exact h _ (by omega)
    · rw [if_neg c2]; exact h _ hi
theorem rot_inj {r : Nat → Nat} {k c N : Nat} (key : ∀ i j, i < N → j < N → r i = r j → i = j) (hk : k ≤ c) (hc : c < N) : ∀ i j, i < N → j < N → rot r k c i = rot r k c j → i = j := by
  intro i j hi hj hij
  have e : ∀ i, i < N → ∃ z, z < N ∧ rot r k c i = r z ∧ (z = if i = c then k else if k ≤ i ∧ i < c then i + 1 else i) := by
    intro i hi
    unfold rot
    by_cases c1 : i = c
    · exact ⟨k, by omega, by rw [if_pos c1], by rw [if_pos c1]⟩
    · by_cases c2 : k ≤ i ∧ i < c
      · exact ⟨i + 1, by omega, by rw [if_neg c1, if_pos c2], by rw [if_neg c1, if_pos c2]⟩
      · exact ⟨i, hi, by rw [if_neg c1, if_neg c2], by rw [if_neg c1, if_neg c2]⟩
  obtain ⟨z1, a1, b1, d1⟩ := e i hi
  obtain ⟨z2, a2, b2, d2⟩ := e j hj
  rw [b1, b2] at hij
  have hz := key z1 z2 a1 a2 hij
  rw [d1, d2] at hz
  (repeat' split at hz) <;> omega
/-! a row of bytes -/
/-- object n is a row of bytes over the array a of m places; its bytes are L -/
def ob_By (t : ob_S) (n a m : Nat) (L : List Int32) : Prop := ob_is t n 0 ∧ ob_r t n 0 = some a ∧ ob_is t a 12 ∧ ob_l t a = m ∧ m < 1000 ∧ L.length ≤ m ∧ ob_i t n 1 = nI L.length ∧ ∀ i, i < L.length → L[i]? = some (ob_i t a i)
theorem ob_By.ne {t : ob_S} {n a m : Nat} {L : List Int32} (h : ob_By t n a m L) : n ≠ a := fun e => by
  have h1 := h.1.2
  have h2 := h.2.2.1.2
  rw [e, h2] at h1
  cases h1
theorem ob_By.fr {P : Nat → Prop} {t u : ob_S} {n a m : Nat} {L : List Int32} (h : ob_By t n a m L) (f : ob_Fr P t u) (hn : ¬ P n) (ha : ¬ P a) : ob_By u n a m L := by
  obtain ⟨h1, h2, h3, h4, h5, h6, h7, h8⟩ := h
  obtain ⟨f1, f2, f3, f4⟩ := f
  refine ⟨⟨by rw [f1]; exact h1.1, by rw [f2]; exact h1.2⟩, by rw [(f4 n hn).2]; exact h2, ⟨by rw [f1]; exact h3.1, by rw [f2]; exact h3.2⟩, by rw [f3]; exact h4, h5, h6, by rw [(f4 n hn).1]; exact h7, fun i hi => by rw [(f4 a ha).1]; exact h8 i hi⟩
theorem x_By_clear {t : ob_S} {n a m : Nat} {L : List Int32} (h : ob_By t n a m L) : ∃ u, X_By_clear n t = some u ∧ ob_By u n a m [] ∧ ob_Fr (fun q => q = n ∨ q = a) t u := by
  obtain ⟨h1, h2, h3, h4, h5, h6, h7, h8⟩ := h
  refine ⟨ob_setI t n 1 0, ?_, ⟨h1, h2, h3, h4, h5, Nat.zero_le _, ob_i_self, fun i hi => absurd hi (Nat.not_lt_zero _)⟩, ob_Fr.setI (Or.inl rfl)⟩
  rw [X_By_clear, ob_this_e h1, ob_b_e (ob_pI_e h1)]
theorem x_By_add {t : ob_S} {n a m : Nat} {L : List Int32} (v : Int32) (h : ob_By t n a m L) (hl : L.length < m) : ∃ u, X_By_add n v t = some u ∧ ob_By u n a m (L ++ [v &&& 255]) ∧ ob_Fr (fun q => q = n ∨ q = a) t u := by
  have hne := h.ne
  obtain ⟨h1, h2, h3, h4, h5, h6, h7, h8⟩ := h
  have g1 : ob_is (ob_setI t a L.length (v &&& 255)) n 0 := h1
  have g7 : ob_i (ob_setI t a L.length (v &&& 255)) n 1 = nI L.length := by rw [ob_i_n hne]; exact h7
  refine ⟨ob_setI (ob_setI t a L.length (v &&& 255)) n 1 (nI (L.length + 1)), ?_, ⟨h1, h2, h3, h4, h5, by rw [List.length_append]; exact hl, by rw [ob_i_self, List.length_append]; rfl, fun i hi => ?_⟩, (ob_Fr.setI (Or.inr rfl)).tr (ob_Fr.setI (Or.inl rfl))⟩
  · rw [X_By_add, ob_this_e h1, ob_b_e (ob_gI_e h1 h7), ob_b_e (ob_gR_e h1 h2), ob_b_e (ob_aL_e h3 h4), if_neg (nI_ge hl (by omega)), ob_b_e (ob_gR_e h1 h2), ob_b_e (ob_gI_e h1 h7), ob_b_e (ob_wI_e h3 (by omega) (by omega)), ob_b_e (ob_gI_e g1 g7), ob_b_e (ob_pI_e g1), nI_1]
  · rw [ob_i_n hne.symm]
    by_cases hi2 : i = L.length
    · subst hi2
      rw [ob_i_self, List.getElem?_append_right (Nat.le_refl _), Nat.sub_self]
      rfl
    · have hlt : i < L.length := by
        rw [List.length_append] at hi
        have : i < L.length + 1 := hi
        omega
      rw [ob_i_k hi2, List.getElem?_append_left hlt]
      exact h8 i hlt
/-- add, at a row that is full: nothing -/
theorem x_By_addFull {t : ob_S} {n a m : Nat} {L : List Int32} (v : Int32) (h : ob_By t n a m L) (hl : L.length = m) : X_By_add n v t = some t := by
  obtain ⟨h1, h2, h3, h4, h5, h6, h7, h8⟩ := h
  rw [X_By_add, ob_this_e h1, ob_b_e (ob_gI_e h1 h7), ob_b_e (ob_gR_e h1 h2), ob_b_e (ob_aL_e h3 h4), if_pos (nI_le (by omega) (by omega))]
theorem x_By_has {t : ob_S} {n a m : Nat} {L : List Int32} (v : Int32) (h : ob_By t n a m L) : X_By_has n v t = some (if v < 0 ∨ nI L.length ≤ v then 0 else 1, t) := by
  obtain ⟨h1, h2, h3, h4, h5, h6, h7, h8⟩ := h
  rw [X_By_has, ob_this_e h1]
  by_cases c1 : v < 0
  · rw [if_pos c1, if_pos (Or.inl c1)]; rfl
  · rw [if_neg c1, ob_b_e (ob_gI_e h1 h7)]
    by_cases c2 : nI L.length ≤ v
    · rw [if_pos c2, if_pos (Or.inr c2)]; rfl
    · rw [if_neg c2, if_neg (fun q => q.elim c1 c2)]; rfl
theorem x_By_byteOrBad {t : ob_S} {n a m : Nat} {L : List Int32} (v : Int32) (h : ob_By t n a m L) : X_By_byteOrBad n v t = some (if v < 0 ∨ nI L.length ≤ v then -1 else L.getD v.toNatClampNeg 0, t) := by
  have hh := x_By_has v h
  obtain ⟨h1, h2, h3, h4, h5, h6, h7, h8⟩ := h
  rw [X_By_byteOrBad, ob_this_e h1, ob_b2_e hh]
  by_cases c : v < 0 ∨ nI L.length ≤ v
  · rw [if_pos c, if_pos c, if_pos rfl]
  · obtain ⟨j, hj, rfl⟩ := nI_of (fun q => c (Or.inl q))
    have hlt : j < L.length := Nat.not_le.mp (fun q => c (Or.inr (nI_le q hj)))
    have hv := h8 j hlt
    rw [if_neg c, if_neg c, if_neg (by decide), ob_b_e (ob_gR_e h1 h2), ob_b_e (ob_aI_e h3 (by omega) (by omega) rfl), nI_clamp hj, List.getD_eq_getElem?_getD, hv]
    rfl
theorem x_By_cutTo {t : ob_S} {n a m : Nat} {L : List Int32} (k : Nat) (hk : k < 2 ^ 31) (h : ob_By t n a m L) : ∃ u, X_By_cutTo n (nI k) t = some u ∧ ob_By u n a m (L.take k) ∧ ob_Fr (fun q => q = n ∨ q = a) t u := by
  have hne := h.ne
  obtain ⟨h1, h2, h3, h4, h5, h6, h7, h8⟩ := h
  refine ⟨ob_setI t n 1 (nI (min L.length k)), ?_, ⟨h1, h2, h3, h4, h5, by rw [List.length_take]; omega, by rw [ob_i_self, List.length_take, Nat.min_comm], fun i hi => ?_⟩, ob_Fr.setI (Or.inl rfl)⟩
  · rw [X_By_cutTo, ob_this_e h1, ob_b_e (ob_gI_e h1 h7), ob_mn_nI (by omega) hk, ob_b_e (ob_pI_e h1)]
  · rw [List.length_take] at hi
    rw [ob_i_n hne.symm, List.getElem?_take, if_pos (by omega)]
    exact h8 i (by omega)
/-- addFrom of what is there and fits -/
theorem x_By_addFrom {t : ob_S} {n a m n2 a2 m2 : Nat} {L K : List Int32} (st ct : Nat) (h : ob_By t n a m L) (h' : ob_By t n2 a2 m2 K) (hd : a2 ≠ a) (hn2 : n2 ≠ n) (hs : st ≤ K.length) (hc : ct < 2 ^ 31) (hf : L.length + min ct (K.length - st) ≤ m) : ∃ u, X_By_addFrom n n2 (nI st) (nI ct) t = some u ∧ ob_By u n a m (L ++ (K.drop st).take ct) ∧ ob_Fr (fun q => q = n ∨ q = a) t u := by
  have hne := h.ne
  have hb' := h'
  have hb := h
  obtain ⟨h1, h2, h3, h4, h5, h6, h7, h8⟩ := h
  obtain ⟨k1, k2, k3, k4, k5, k6, k7, k8⟩ := h'
  have es : nI K.length - nI st = nI (K.length - st) := by
    have e : nI K.length = nI (K.length - st) + nI st := by rw [nI_add]; congr 1; omega
    rw [e, Int32.add_sub_cancel]
  have em : nI m - nI L.length = nI (m - L.length) := by
    have e : nI m = nI (m - L.length) + nI L.length := by rw [nI_add]; congr 1; omega
    rw [e, Int32.add_sub_cancel]
  have ec : ob_mn (nI ct) (ob_mn (nI K.length - nI st) (nI m - nI L.length)) = nI (min ct (K.length - st)) := by
    rw [es, em, ob_mn_nI (by omega) (by omega), ob_mn_nI hc (by omega)]
    congr 1
    omega
  have hlen : ((K.drop st).take ct).length = min ct (K.length - st) := by rw [List.length_take, List.length_drop]
  by_cases hz : min ct (K.length - st) = 0
  · refine ⟨t, ?_, ?_, ob_Fr.rf⟩
    · rw [X_By_addFrom, ob_this_e h1, ob_b_e (ob_gI_e k1 k7), ob_b_e (ob_gR_e h1 h2), ob_b_e (ob_aL_e h3 h4), ob_b_e (ob_gI_e h1 h7), ec, if_neg (nI_pos (by omega)), hz, if_pos (by decide)]
    · rw [List.length_eq_zero_iff.mp (hlen.trans hz), List.append_nil]
      exact hb
  · have g1 : ob_is (ob_setA t a (va_cpy (ob_i t a2) (ob_i t a) st L.length (min ct (K.length - st)))) n 0 := h1
    have g7 : ob_i (ob_setA t a (va_cpy (ob_i t a2) (ob_i t a) st L.length (min ct (K.length - st)))) n 1 = nI L.length := by rw [ob_i_An hne]; exact h7
    refine ⟨ob_setI (ob_setA t a (va_cpy (ob_i t a2) (ob_i t a) st L.length (min ct (K.length - st)))) n 1 (nI (L.length + min ct (K.length - st))), ?_, ⟨h1, h2, h3, h4, h5, by rw [List.length_append, hlen]; exact hf, by rw [ob_i_self, List.length_append, hlen], fun i hi => ?_⟩, (ob_Fr.setA (Or.inr rfl)).tr (ob_Fr.setI (Or.inl rfl))⟩
    · rw [X_By_addFrom, ob_this_e h1, ob_b_e (ob_gI_e k1 k7), ob_b_e (ob_gR_e h1 h2), ob_b_e (ob_aL_e h3 h4), ob_b_e (ob_gI_e h1 h7), ec, if_neg (nI_pos (by omega)), if_neg (nI_nle (by omega) (by omega)), ob_b_e (ob_gR_e k1 k2), ob_b_e (ob_gR_e h1 h2), ob_b_e (ob_gI_e h1 h7), ob_b_e (ob_cp_e k3 h3 (by omega) (by omega) (by omega) (by omega)), ob_b_e (ob_gI_e g1 g7), ob_b_e (ob_pI_e g1), nI_add]
    · rw [List.length_append, hlen] at hi
      rw [ob_i_n hne.symm, ob_i_A]
      by_cases hi2 : i < L.length
      · rw [List.getElem?_append_left hi2, h8 i hi2]
        congr 1
        unfold va_cpy
        rw [if_neg (by omega)]
      · rw [List.getElem?_append_right (by omega), List.getElem?_take, if_pos (by omega), List.getElem?_drop, k8 _ (by omega)]
        congr 1
        unfold va_cpy
        rw [if_pos (by omega)]
/-- become -/
theorem x_By_become {t : ob_S} {n a m n2 a2 m2 : Nat} {L K : List Int32} (h : ob_By t n a m L) (h' : ob_By t n2 a2 m2 K) (hd : a2 ≠ a) (hn2 : n2 ≠ n) (hf : K.length ≤ m) : ∃ u, X_By_become n n2 t = some u ∧ ob_By u n a m K ∧ ob_Fr (fun q => q = n ∨ q = a) t u := by
  have hne := h.ne
  have hne' : n ≠ a2 := fun e => by
    have e1 := h.1.2
    rw [e, h'.2.2.1.2] at e1
    cases e1
  obtain ⟨h1, h2, h3, h4, h5, h6, h7, h8⟩ := h
  obtain ⟨k1, k2, k3, k4, k5, k6, k7, k8⟩ := h'
  have em : ob_mn (nI K.length) (nI m) = nI K.length := by
    rw [ob_mn_nI (by omega) (by omega), Nat.min_eq_left hf]
  have g1 : ob_is (ob_setI t n 1 (nI K.length)) n 0 := h1
  have g3 : ob_is (ob_setI t n 1 (nI K.length)) a 12 := h3
  have g5 : ob_is (ob_setI t n 1 (nI K.length)) n2 0 := k1
  have g6 : ob_is (ob_setI t n 1 (nI K.length)) a2 12 := k3
  refine ⟨ob_setA (ob_setI t n 1 (nI K.length)) a (va_cpy (ob_i (ob_setI t n 1 (nI K.length)) a2) (ob_i (ob_setI t n 1 (nI K.length)) a) 0 0 K.length), ?_, ⟨h1, h2, h3, h4, h5, hf, ?_, fun i hi => ?_⟩, (ob_Fr.setI (Or.inl rfl)).tr (ob_Fr.setA (Or.inr rfl))⟩
  · rw [X_By_become, ob_this_e h1, ob_b_e (ob_gI_e k1 k7), ob_b_e (ob_gR_e h1 h2), ob_b_e (ob_aL_e h3 h4), em, ob_b_e (ob_pI_e h1), ob_b_e (ob_gR_e g5 k2), ob_b_e (ob_gR_e g1 h2), ob_b_e (ob_gI_e g1 ob_i_self), ← nI_0, ob_b_e (ob_cp_e g6 g3 (by show 0 + K.length ≤ ob_l t a2; omega) (by show 0 + K.length ≤ ob_l t a; omega) (by show ob_l t a2 < _; omega) (by show ob_l t a < _; omega))]
  · rw [ob_i_An hne, ob_i_self]
  · rw [ob_i_A, k8 i hi]
    congr 1
    unfold va_cpy
    rw [if_pos (by omega), ob_i_n hne'.symm]
    congr 1
    omega
