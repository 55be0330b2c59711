/-! LAYER 2, 2: the line -/
/-- the line's objects: 1 the line, 2 its rows, 3 its ends -/
def ob_LiS (t : ob_S) : Prop := ob_is t 1 1 ∧ ob_r t 1 0 = some 2 ∧ ob_r t 1 1 = some 3 ∧ ob_is t 2 14 ∧ ob_l t 2 = 16 ∧ ob_is t 3 12 ∧ ob_l t 3 = 16
theorem ob_LiS.fr {P : Nat → Prop} {t u : ob_S} (h : ob_LiS t) (f : ob_Fr P t u) (h1 : ob_r u 1 = ob_r t 1) : ob_LiS u := by
  obtain ⟨g1, g2, g3, g4, g5, g6, g7⟩ := h
  obtain ⟨f1, f2, f3, -⟩ := f
  exact ⟨⟨by rw [f1]; exact g1.1, by rw [f2]; exact g1.2⟩, by rw [h1]; exact g2, by rw [h1]; exact g3, ⟨by rw [f1]; exact g4.1, by rw [f2]; exact g4.2⟩, by rw [f3]; exact g5, ⟨by rw [f1]; exact g6.1, by rw [f2]; exact g6.2⟩, by rw [f3]; exact g7⟩
/-- the line holds the datagrams LL; r: which row object stands at which place -/
def ob_Li (t : ob_S) (LL : List (List Int32 × Int32)) : Prop := ob_LiS t ∧ LL.length ≤ 16 ∧ ob_i t 1 2 = nI LL.length ∧ ∃ r : Nat → Nat, (∀ i, i < 16 → r i < 16) ∧ (∀ i j, i < 16 → j < 16 → r i = r j → i = j) ∧ (∀ k, k < 16 → ob_r t 2 k = some (4 + 2 * r k)) ∧ (∀ k, k < 16 → ∃ L, ob_By t (4 + 2 * k) (5 + 2 * k) 48 L) ∧ ∀ k q, LL[k]? = some q → ob_By t (4 + 2 * r k) (5 + 2 * r k) 48 q.1 ∧ ob_i t 3 k = q.2
theorem ob_Li.fr {P : Nat → Prop} {t u : ob_S} {LL : List (List Int32 × Int32)} (h : ob_Li t LL) (f : ob_Fr P t u) (hP : ∀ n, 1 ≤ n → n < 36 → ¬ P n) : ob_Li u LL := by
  obtain ⟨g1, g2, g3, r, r1, r2, r3, r4, r5⟩ := h
  refine ⟨g1.fr f (f.2.2.2 1 (hP 1 (by omega) (by omega))).2, g2, by rw [(f.2.2.2 1 (hP 1 (by omega) (by omega))).1]; exact g3, r, r1, r2, fun k hk => by rw [(f.2.2.2 2 (hP 2 (by omega) (by omega))).2]; exact r3 k hk, fun k hk => ?_, fun k q hq => ?_⟩
  · obtain ⟨L, hL⟩ := r4 k hk
    exact ⟨L, hL.fr f (hP _ (by omega) (by omega)) (hP _ (by omega) (by omega))⟩
  · obtain ⟨q1, q2⟩ := r5 k q hq
    have hk : k < LL.length := (List.getElem?_eq_some_iff.mp hq).1
    have := r1 k (by omega)
    exact ⟨q1.fr f (hP _ (by omega) (by omega)) (hP _ (by omega) (by omega)), by rw [(f.2.2.2 3 (hP 3 (by omega) (by omega))).1]; exact q2⟩
theorem x_Li_has {t : ob_S} {LL : List (List Int32 × Int32)} (v : Int32) (h : ob_Li t LL) : X_Li_has 1 v t = some (if v < 0 ∨ nI LL.length ≤ v then 0 else 1, t) := by
  obtain ⟨g1, g2, g3, -⟩ := h
  rw [X_Li_has, ob_this_e g1.1]
  by_cases c1 : v < 0
  · rw [if_pos c1, if_pos (Or.inl c1)]; rfl
  · rw [if_neg c1, ob_b_e (ob_gI_e g1.1 g3)]
    by_cases c2 : nI LL.length ≤ v
    · rw [if_pos c2, if_pos (Or.inr c2)]; rfl
    · rw [if_neg c2, if_neg (fun q => q.elim c1 c2)]; rfl
/-- send: behind the others, if there is room -/
theorem x_Li_send {t : ob_S} {LL : List (List Int32 × Int32)} {n a m : Nat} {K : List Int32} (e : Int32) (h : ob_Li t LL) (hK : ob_By t n a m K) (hn : n = 0 ∨ 36 ≤ n) (ha : a = 0 ∨ 36 ≤ a) (hl : K.length ≤ 48) : ∃ u, X_Li_send 1 n e t = some u ∧ ob_Li u (if LL.length < 16 then LL ++ [(K, e)] else LL) ∧ ob_Fr (fun q => 1 ≤ q ∧ q < 36) t u := by
  obtain ⟨g1, g2, g3, r, r1, r2, r3, r4, r5⟩ := h
  by_cases hc : LL.length < 16
  · rw [if_pos hc]
    have hr := r1 _ hc
    obtain ⟨L, hL⟩ := r4 (r LL.length) hr
    obtain ⟨u1, e1, b1, f1⟩ := x_By_become hL hK (by omega) (by omega) hl
    have g1' := g1
    obtain ⟨s1, s2, s3, s4, s5, s6, s7⟩ := g1'
    have hnp : ∀ q, q < 4 → ¬ (q = 4 + 2 * r LL.length ∨ q = 5 + 2 * r LL.length) := fun q hq z => by omega
    have p1 := g1.fr f1 (f1.2.2.2 1 (hnp 1 (by omega))).2
    have p1' := p1
    obtain ⟨t1, t2, t3, t4, t5, t6, t7⟩ := p1'
    have c1 : ob_i u1 1 2 = nI LL.length := by rw [(f1.2.2.2 1 (hnp 1 (by omega))).1]; exact g3
    have y1 : ob_is (ob_setI u1 3 LL.length e) 1 1 := t1
    have y2 : ob_i (ob_setI u1 3 LL.length e) 1 2 = nI LL.length := by rw [ob_i_n (by decide)]; exact c1
    have F : ob_Fr (fun q => q = 1 ∨ q = 3) u1 (ob_setI (ob_setI u1 3 LL.length e) 1 2 (nI (LL.length + 1))) := (ob_Fr.setI (Or.inr rfl)).tr (ob_Fr.setI (Or.inl rfl))
    refine ⟨ob_setI (ob_setI u1 3 LL.length e) 1 2 (nI (LL.length + 1)), ?_, ⟨p1, by rw [List.length_append]; exact hc, by rw [ob_i_self, List.length_append]; rfl, r, r1, r2, fun k hk => ?_, fun k hk => ?_, fun k q hq => ?_⟩, (f1.mono (fun q z => by omega)).tr (F.mono (fun q z => by omega))⟩
    · rw [X_Li_send, ob_this_e s1, ob_b_e (ob_gI_e s1 g3), if_neg (show ¬ (16 : Int32) ≤ nI LL.length from nI_ge (b := 16) hc (by omega)), ob_b_e (ob_gR_e s1 s2), ob_b_e (ob_gI_e s1 g3), ob_b_e (ob_aR_e s4 (by omega) (by omega) (r3 _ hc)), ob_b_e e1, ob_b_e (ob_gR_e t1 t3), ob_b_e (ob_gI_e t1 c1), ob_b_e (ob_wI_e t6 (by omega) (by omega)), ob_b_e (ob_gI_e y1 y2), ob_b_e (ob_pI_e y1), nI_1]
    · show ob_r u1 2 k = _
      rw [(f1.2.2.2 2 (hnp 2 (by omega))).2]
      exact r3 k hk
    · by_cases hkr : k = r LL.length
      · subst hkr
        exact ⟨K, b1.fr F (by omega) (by omega)⟩
      · obtain ⟨L2, hL2⟩ := r4 k hk
        exact ⟨L2, (hL2.fr f1 (by omega) (by omega)).fr F (by omega) (by omega)⟩
    · by_cases hkl : k < LL.length
      · rw [List.getElem?_append_left hkl] at hq
        obtain ⟨q1, q2⟩ := r5 k q hq
        have hne : r k ≠ r LL.length := fun z => by have := r2 k LL.length (by omega) hc z; omega
        refine ⟨(q1.fr f1 (by omega) (by omega)).fr F (by omega) (by omega), ?_⟩
        rw [ob_i_n (by decide), ob_i_k (by omega), (f1.2.2.2 3 (hnp 3 (by omega))).1]
        exact q2
      · rw [List.getElem?_append_right (by omega)] at hq
        have hk0 : k - LL.length < 1 := (List.getElem?_eq_some_iff.mp hq).1
        have hk : k = LL.length := by omega
        subst hk
        rw [Nat.sub_self] at hq
        cases hq
        exact ⟨b1.fr F (by omega) (by omega), by rw [ob_i_n (by decide), ob_i_self]⟩
  · rw [if_neg hc]
    refine ⟨t, ?_, ⟨g1, g2, g3, r, r1, r2, r3, r4, r5⟩, ob_Fr.rf⟩
    rw [X_Li_send, ob_this_e g1.1, ob_b_e (ob_gI_e g1.1 g3), if_pos (show (16 : Int32) ≤ nI LL.length from nI_le (a := 16) (b := LL.length) (by omega) (by omega))]
/-- the rows move up -/
theorem x_Li_loop {t : ob_S} {c k n : Nat} (hS : ob_LiS t) (hc : ob_i t 1 2 = nI (c + 1)) (hc16 : c < 16) (hn : ob_is t n 0) (hr : ∀ j, j < 16 → ∃ q, ob_r t 2 j = some q ∧ ob_is t q 0) : ∀ (d i fu : Nat) (u : ob_S), i + d = c → k ≤ i → d < fu → ob_Fr (fun q => q = 2 ∨ q = 3) t u → (∀ j, ob_r u 2 j = if k ≤ j ∧ j < i then ob_r t 2 (j + 1) else ob_r t 2 j) → (∀ j, ob_i u 3 j = if k ≤ j ∧ j < i then ob_i t 3 (j + 1) else ob_i t 3 j) →
    ∃ w, B_Li_takeOut_18 fu 1 n (nI i) u = some w ∧ ob_Fr (fun q => q = 1 ∨ q = 2 ∨ q = 3) t w ∧ ob_r w 1 = ob_r t 1 ∧ ob_i w 1 2 = nI c ∧ (∀ j, ob_r w 2 j = if j = c then some n else if k ≤ j ∧ j < c then ob_r t 2 (j + 1) else ob_r t 2 j) ∧ ∀ j, ob_i w 3 j = if k ≤ j ∧ j < c then ob_i t 3 (j + 1) else ob_i t 3 j := by
  intro d
  induction d with
  | zero =>
    intro i fu u hi hk hfu f hR hI
    obtain ⟨fu, rfl⟩ : ∃ z, fu = z + 1 := ⟨fu - 1, by omega⟩
    have hic : i = c := by omega
    subst hic
    have hSu := hS.fr f (f.2.2.2 1 (by omega)).2
    obtain ⟨s1, s2, s3, s4, s5, s6, s7⟩ := hSu
    have c1 : ob_i u 1 2 = nI (i + 1) := by rw [(f.2.2.2 1 (by omega)).1]; exact hc
    have y1 : ob_is (ob_setI u 1 2 (nI i)) 1 1 := s1
    have y2 : ob_i (ob_setI u 1 2 (nI i)) 1 2 = nI i := ob_i_self
    have y3 : ob_is (ob_setI u 1 2 (nI i)) 2 14 := s4
    have y4 : ob_is (ob_setI u 1 2 (nI i)) n 0 := ⟨by show n < ob_n u; rw [f.1]; exact hn.1, by show ob_k u n = 0; rw [f.2.1]; exact hn.2⟩
    refine ⟨ob_setR (ob_setI u 1 2 (nI i)) 2 i (some n), ?_, ((f.mono (fun q z => by omega)).tr (ob_Fr.setI (Or.inl rfl))).tr (ob_Fr.setR (Or.inr (Or.inl rfl))), ?_, (show ob_i (ob_setI u 1 2 (nI i)) 1 2 = nI i from ob_i_self), fun j => ?_, fun j => ?_⟩
    · rw [B_Li_takeOut_18, ob_b_e (ob_gI_e s1 c1), nI_pred, if_pos (nI_le (Nat.le_refl _) (by omega)), ob_b_e (ob_gI_e s1 c1), nI_pred, ob_b_e (ob_pI_e s1), ob_b_e (ob_gR_e y1 s2), ob_b_e (ob_gI_e y1 y2), ob_b_e (ob_wR_e y3 (by show i < ob_l u 2; omega) (by show ob_l u 2 < _; omega) y4)]
    · rw [ob_r_nf (by decide)]
      exact (f.2.2.2 1 (by omega)).2
    · by_cases hj : j = i
      · subst hj
        rw [if_pos rfl, ob_r_self]
      · rw [if_neg hj, ob_r_k hj]
        exact hR j
    · show ob_i (ob_setI u 1 2 (nI i)) 3 j = _
      rw [ob_i_n (by decide)]
      exact hI j
  | succ d ih =>
    intro i fu u hi hk hfu f hR hI
    obtain ⟨fu, rfl⟩ : ∃ z, fu = z + 1 := ⟨fu - 1, by omega⟩
    have hSu := hS.fr f (f.2.2.2 1 (by omega)).2
    obtain ⟨s1, s2, s3, s4, s5, s6, s7⟩ := hSu
    have c1 : ob_i u 1 2 = nI (c + 1) := by rw [(f.2.2.2 1 (by omega)).1]; exact hc
    obtain ⟨q, hq, hq0⟩ := hr (i + 1) (by omega)
    have hRi : ob_r u 2 (i + 1) = some q := by rw [hR, if_neg (by omega)]; exact hq
    have y4 : ob_is u q 0 := ⟨by rw [f.1]; exact hq0.1, by rw [f.2.1]; exact hq0.2⟩
    have z1 : ob_is (ob_setR u 2 i (some q)) 1 1 := s1
    have z6 : ob_is (ob_setR u 2 i (some q)) 3 12 := s6
    have z3 : ob_r (ob_setR u 2 i (some q)) 1 1 = some 3 := by rw [ob_r_n (by decide)]; exact s3
    have hR2 : ∀ j, ob_r (ob_setI (ob_setR u 2 i (some q)) 3 i (ob_i u 3 (i + 1))) 2 j = if k ≤ j ∧ j < i + 1 then ob_r t 2 (j + 1) else ob_r t 2 j := by
      intro j
      show ob_r (ob_setR u 2 i (some q)) 2 j = _
      by_cases hj : j = i
      · subst hj
        rw [ob_r_self, if_pos (by omega), hq]
      · rw [ob_r_k hj, hR]
        by_cases hb : k ≤ j ∧ j < i
        · rw [if_pos hb, if_pos (by omega)]
        · rw [if_neg hb, if_neg (by omega)]
    have hI2 : ∀ j, ob_i (ob_setI (ob_setR u 2 i (some q)) 3 i (ob_i u 3 (i + 1))) 3 j = if k ≤ j ∧ j < i + 1 then ob_i t 3 (j + 1) else ob_i t 3 j := by
      intro j
      by_cases hj : j = i
      · subst hj
        rw [ob_i_self, if_pos (by omega), hI, if_neg (by omega)]
      · rw [ob_i_k hj]
        show ob_i u 3 j = _
        rw [hI]
        by_cases hb : k ≤ j ∧ j < i
        · rw [if_pos hb, if_pos (by omega)]
        · rw [if_neg hb, if_neg (by omega)]
    obtain ⟨w, w1, w2⟩ := ih (i + 1) fu (ob_setI (ob_setR u 2 i (some q)) 3 i (ob_i u 3 (i + 1))) (by omega) (by omega) (by omega) ((f.tr (ob_Fr.setR (Or.inl rfl))).tr (ob_Fr.setI (Or.inr rfl))) hR2 hI2
    refine ⟨w, ?_, w2⟩
    rw [B_Li_takeOut_18, ob_b_e (ob_gI_e s1 c1), nI_pred, if_neg (nI_ge (by omega) (by omega)), ob_b_e (ob_gR_e s1 s2), ob_b_e (ob_gR_e s1 s2), nI_1, ob_b_e (ob_aR_e s4 (by omega) (by omega) hRi), ob_b_e (ob_wR_e s4 (by omega) (by omega) y4), ob_b_e (ob_gR_e z1 z3), ob_b_e (ob_gR_e z1 z3), ob_b_e (ob_aI_e z6 (by show i + 1 < ob_l u 3; omega) (by show ob_l u 3 < _; omega) (x := ob_i u 3 (i + 1)) rfl), ob_b_e (ob_wI_e z6 (by show i < ob_l u 3; omega) (by show ob_l u 3 < _; omega))]
    exact w1
/-- takeOut -/
theorem x_Li_takeOut {t : ob_S} {LL : List (List Int32 × Int32)} {k : Nat} (h : ob_Li t LL) (hk : k < LL.length) : ∃ u, X_Li_takeOut 1 (nI k) t = some u ∧ ob_Li u (LL.eraseIdx k) ∧ ob_Fr (fun q => q = 1 ∨ q = 2 ∨ q = 3) t u := by
  have hh := x_Li_has (nI k) h
  obtain ⟨g1, g2, g3, r, r1, r2, r3, r4, r5⟩ := h
  have hrk := r1 k (by omega)
  obtain ⟨Lk, hLk⟩ := r4 (r k) hrk
  obtain ⟨w, w1, w2, w3, w4, w5, w6⟩ := x_Li_loop (t := t) (c := LL.length - 1) (k := k) (n := 4 + 2 * r k) g1 (by rw [g3]; congr 1; omega) (by omega) hLk.1 (fun j hj => by
    obtain ⟨L, hL⟩ := r4 (r j) (r1 j hj)
    exact ⟨_, r3 j hj, hL.1⟩) (LL.length - 1 - k) k ob_fu t (by omega) (Nat.le_refl _) (by show LL.length - 1 - k < 2000; omega) ob_Fr.rf (fun j => by rw [if_neg (by omega)]) (fun j => by rw [if_neg (by omega)])
  have hlen : (LL.eraseIdx k).length = LL.length - 1 := List.length_eraseIdx_of_lt hk
  refine ⟨w, ?_, ⟨g1.fr w2 w3, by omega, by rw [w4, hlen], rot r k (LL.length - 1), rot_lt r1 (by omega) (by omega), rot_inj r2 (by omega) (by omega), fun i hi => ?_, fun i hi => ?_, fun i q hq => ?_⟩, w2⟩
  · rw [X_Li_takeOut, ob_this_e g1.1, ob_b2_e hh, if_neg (show ¬ (nI k < 0 ∨ nI LL.length ≤ nI k) from fun z => z.elim (nI_pos (by omega)) (nI_ge hk (by omega))), if_pos (by decide), ob_b_e (ob_gR_e g1.1 g1.2.1), ob_b_e (ob_aR_e g1.2.2.2.1 (by rw [g1.2.2.2.2.1]; omega) (by rw [g1.2.2.2.2.1]; omega) (r3 k (by omega)))]
    exact w1
  · rw [w5, rot]
    by_cases c1 : i = LL.length - 1
    · rw [if_pos c1, if_pos c1]
    · rw [if_neg c1, if_neg c1]
      by_cases c2 : k ≤ i ∧ i < LL.length - 1
      · rw [if_pos c2, if_pos c2]; exact r3 _ (by omega)
      · rw [if_neg c2, if_neg c2]; exact r3 _ hi
  · obtain ⟨L, hL⟩ := r4 i hi
    exact ⟨L, hL.fr w2 (by omega) (by omega)⟩
  · have hi : i < LL.length - 1 := by
      have := (List.getElem?_eq_some_iff.mp hq).1
      omega
    rw [List.getElem?_eraseIdx] at hq
    rw [w6, rot, if_neg (by omega)]
    by_cases c2 : k ≤ i ∧ i < LL.length - 1
    · rw [if_pos c2, if_pos c2]
      rw [if_neg (by omega)] at hq
      obtain ⟨q1, q2⟩ := r5 _ q hq
      have := r1 (i + 1) (by omega)
      exact ⟨q1.fr w2 (by omega) (by omega), q2⟩
    · rw [if_neg c2, if_neg c2]
      rw [if_pos (by omega)] at hq
      obtain ⟨q1, q2⟩ := r5 _ q hq
      have := r1 i (by omega)
      exact ⟨q1.fr w2 (by omega) (by omega), q2⟩
