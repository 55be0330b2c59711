/-! LAYER 2, 6: the memory of answers: 81 the memory, 82 its rows, 83 its ids, 84 its times -/
def ob_MeS (t : ob_S) : Prop := ob_is t 81 2 ∧ ob_r t 81 0 = some 82 ∧ ob_r t 81 1 = some 83 ∧ ob_r t 81 2 = some 84 ∧ ob_is t 82 14 ∧ ob_l t 82 = 4 ∧ ob_is t 83 12 ∧ ob_l t 83 = 4 ∧ ob_is t 84 12 ∧ ob_l t 84 = 4
theorem ob_MeS.fr {P : Nat → Prop} {t u : ob_S} (h : ob_MeS t) (f : ob_Fr P t u) (h1 : ob_r u 81 = ob_r t 81) : ob_MeS u := by
  obtain ⟨g1, g2, g3, g4, g5, g6, g7, g8, g9, g10⟩ := h
  have f3 := f.2.2.1
  exact ⟨g1.fr f, by rw [h1]; exact g2, by rw [h1]; exact g3, by rw [h1]; exact g4, g5.fr f, by rw [f3]; exact g6, g7.fr f, by rw [f3]; exact g8, g9.fr f, by rw [f3]; exact g10⟩
/-- an answer: its id, its time, its row -/
abbrev am_A : Type := Int32 × Int32 × List Nat
def ob_Me (t : ob_S) (MM : List am_A) : Prop := ob_MeS t ∧ MM.length ≤ 4 ∧ ob_i t 81 3 = nI MM.length ∧ ∃ r : Nat → Nat, (∀ i, i < 4 → r i < 4) ∧ (∀ i j, i < 4 → j < 4 → r i = r j → i = j) ∧ (∀ k, k < 4 → ob_r t 82 k = some (85 + 2 * r k)) ∧ (∀ k, k < 4 → ∃ L, ob_By t (85 + 2 * k) (86 + 2 * k) 48 L) ∧ ∀ k q, MM[k]? = some q → ob_By t (85 + 2 * r k) (86 + 2 * r k) 48 (nb q.2.2) ∧ ob_i t 83 k = q.1 ∧ ob_i t 84 k = q.2.1
theorem ob_Me.fr {P : Nat → Prop} {t u : ob_S} {MM : List am_A} (h : ob_Me t MM) (f : ob_Fr P t u) (hP : ∀ n, 81 ≤ n → n < 93 → ¬ P n) : ob_Me u MM := by
  obtain ⟨g1, g2, g3, r, r1, r2, r3, r4, r5⟩ := h
  refine ⟨g1.fr f (f.2.2.2 81 (hP 81 (by omega) (by omega))).2, g2, by rw [(f.2.2.2 81 (hP 81 (by omega) (by omega))).1]; exact g3, r, r1, r2, fun k hk => by rw [(f.2.2.2 82 (hP 82 (by omega) (by omega))).2]; exact r3 k hk, fun k hk => ?_, fun k q hq => ?_⟩
  · obtain ⟨L, hL⟩ := r4 k hk
    exact ⟨L, hL.fr f (hP _ (by omega) (by omega)) (hP _ (by omega) (by omega))⟩
  · obtain ⟨q1, q2, q3⟩ := r5 k q hq
    have hk : k < MM.length := (List.getElem?_eq_some_iff.mp hq).1
    have := r1 k (by omega)
    exact ⟨q1.fr f (hP _ (by omega) (by omega)) (hP _ (by omega) (by omega)), by rw [(f.2.2.2 83 (hP 83 (by omega) (by omega))).1]; exact q2, by rw [(f.2.2.2 84 (hP 84 (by omega) (by omega))).1]; exact q3⟩
/-- the first place with this id, from place i on -/
def am_ix (id : Int32) : List am_A → Nat → Option Nat
  | [], _ => none
  | q :: l, i => if q.1 = id then some i else am_ix id l (i + 1)
def oI (o : Option Nat) : Int32 := match o with
  | none => -1
  | some x => nI x
theorem x_Me_loop {t : ob_S} {MM : List am_A} (id : Int32) (h : ob_Me t MM) : ∀ (K : List am_A) (i fu : Nat), MM.drop i = K → K.length < fu → i ≤ MM.length → B_Me_placeOf_2 fu 81 id (nI i) t = some (oI (am_ix id K i), t) := by
  obtain ⟨g1, g2, g3, r, r1, r2, r3, r4, r5⟩ := h
  obtain ⟨s1, s2, s3, s4, s5, s6, s7, s8, s9, s10⟩ := g1
  intro K
  induction K with
  | nil =>
    intro i fu hd hf hi
    obtain ⟨fu, rfl⟩ : ∃ z, fu = z + 1 := ⟨fu - 1, by simp at hf; omega⟩
    have hl : MM.length ≤ i := List.drop_eq_nil_iff.mp hd
    rw [B_Me_placeOf_2, ob_b_e (ob_gI_e s1 g3), if_pos (nI_le hl (by omega))]
    rfl
  | cons q K ih =>
    intro i fu hd hf hi
    obtain ⟨fu, rfl⟩ : ∃ z, fu = z + 1 := ⟨fu - 1, by simp at hf; omega⟩
    have hlt : i < MM.length := by
      rcases Nat.lt_or_ge i MM.length with z | z
      · exact z
      · rw [List.drop_eq_nil_iff.mpr z] at hd
        cases hd
    have hq : MM[i]? = some q := by
      have e := congrArg (fun l => l[0]?) hd
      simp only [List.getElem?_drop, Nat.add_zero, List.getElem?_cons_zero] at e
      exact e
    have hK : MM.drop (i + 1) = K := by
      have e := congrArg List.tail hd
      rw [List.tail_drop] at e
      exact e
    obtain ⟨q1, q2, q3⟩ := r5 i q hq
    rw [B_Me_placeOf_2, ob_b_e (ob_gI_e s1 g3), if_neg (nI_ge hlt (by omega)), ob_b_e (ob_gR_e s1 s3), ob_b_e (ob_aI_e s7 (by omega) (by omega) q2), am_ix]
    by_cases hc : q.1 = id
    · rw [if_neg (fun z => z hc), if_pos hc]
      rfl
    · rw [if_pos hc, if_neg hc, nI_1]
      exact ih (i + 1) fu hK (by simp at hf; omega) hlt
theorem x_Me_placeOf {t : ob_S} {MM : List am_A} (id : Int32) (h : ob_Me t MM) : X_Me_placeOf 81 id t = some (oI (am_ix id MM 0), t) := by
  have hl := h.2.1
  rw [X_Me_placeOf, ob_this_e h.1.1]
  exact x_Me_loop id h MM 0 ob_fu rfl (by show MM.length < 2000; omega) (Nat.zero_le _)
/-- the rows move up -/
theorem x_Me_up {t : ob_S} {c k n : Nat} (hS : ob_MeS t) (hc : ob_i t 81 3 = nI (c + 1)) (hc4 : c < 4) (hn : ob_is t n 0) (hr : ∀ j, j < 4 → ∃ q, ob_r t 82 j = some q ∧ ob_is t q 0) : ∀ (d i fu : Nat) (u : ob_S), i + d = c → k ≤ i → d < fu → ob_Fr (fun q => q = 82 ∨ q = 83 ∨ q = 84) t u → (∀ j, ob_r u 82 j = if k ≤ j ∧ j < i then ob_r t 82 (j + 1) else ob_r t 82 j) → (∀ j, ob_i u 83 j = if k ≤ j ∧ j < i then ob_i t 83 (j + 1) else ob_i t 83 j) → (∀ j, ob_i u 84 j = if k ≤ j ∧ j < i then ob_i t 84 (j + 1) else ob_i t 84 j) →
    ∃ w, B_Me_takeOut_9 fu 81 n (nI i) u = some w ∧ ob_Fr (fun q => q = 81 ∨ q = 82 ∨ q = 83 ∨ q = 84) t w ∧ ob_r w 81 = ob_r t 81 ∧ ob_i w 81 3 = nI c ∧ (∀ j, ob_r w 82 j = if j = c then some n else if k ≤ j ∧ j < c then ob_r t 82 (j + 1) else ob_r t 82 j) ∧ (∀ j, ob_i w 83 j = if k ≤ j ∧ j < c then ob_i t 83 (j + 1) else ob_i t 83 j) ∧ ∀ j, ob_i w 84 j = if k ≤ j ∧ j < c then ob_i t 84 (j + 1) else ob_i t 84 j := by
  intro d
  induction d with
  | zero =>
    intro i fu u hi hk hfu f hR hI hJ
    obtain ⟨fu, rfl⟩ : ∃ z, fu = z + 1 := ⟨fu - 1, by omega⟩
    have hic : i = c := by omega
    subst hic
    have hSu := hS.fr f (f.2.2.2 81 (by omega)).2
    obtain ⟨s1, s2, s3, s4, s5, s6, s7, s8, s9, s10⟩ := hSu
    have c1 : ob_i u 81 3 = nI (i + 1) := by rw [(f.2.2.2 81 (by omega)).1]; exact hc
    have y1 : ob_is (ob_setI u 81 3 (nI i)) 81 2 := s1
    have y2 : ob_i (ob_setI u 81 3 (nI i)) 81 3 = nI i := ob_i_self
    have y3 : ob_is (ob_setI u 81 3 (nI i)) 82 14 := s5
    have y4 : ob_is (ob_setI u 81 3 (nI i)) n 0 := (hn.fr f : ob_is u n 0)
    refine ⟨ob_setR (ob_setI u 81 3 (nI i)) 82 i (some n), ?_, ((f.mono (fun q z => by omega)).tr (ob_Fr.setI (Or.inl rfl))).tr (ob_Fr.setR (Or.inr (Or.inl rfl))), ?_, (show ob_i (ob_setI u 81 3 (nI i)) 81 3 = nI i from ob_i_self), fun j => ?_, fun j => ?_, fun j => ?_⟩
    · rw [B_Me_takeOut_9, ob_b_e (ob_gI_e s1 c1), nI_pred, if_pos (nI_le (Nat.le_refl _) (by omega)), ob_b_e (ob_gI_e s1 c1), nI_pred, ob_b_e (ob_pI_e s1), ob_b_e (ob_gR_e y1 s2), ob_b_e (ob_gI_e y1 y2), ob_b_e (ob_wR_e y3 (by show i < ob_l u 82; omega) (by show ob_l u 82 < _; omega) y4)]
    · rw [ob_r_nf (by decide)]
      exact (f.2.2.2 81 (by omega)).2
    · by_cases hj : j = i
      · subst hj
        rw [if_pos rfl, ob_r_self]
      · rw [if_neg hj, ob_r_k hj]
        exact hR j
    · show ob_i (ob_setI u 81 3 (nI i)) 83 j = _
      rw [ob_i_n (by decide)]
      exact hI j
    · show ob_i (ob_setI u 81 3 (nI i)) 84 j = _
      rw [ob_i_n (by decide)]
      exact hJ j
  | succ d ih =>
    intro i fu u hi hk hfu f hR hI hJ
    obtain ⟨fu, rfl⟩ : ∃ z, fu = z + 1 := ⟨fu - 1, by omega⟩
    have hSu := hS.fr f (f.2.2.2 81 (by omega)).2
    obtain ⟨s1, s2, s3, s4, s5, s6, s7, s8, s9, s10⟩ := hSu
    have c1 : ob_i u 81 3 = nI (c + 1) := by rw [(f.2.2.2 81 (by omega)).1]; exact hc
    obtain ⟨q, hq, hq0⟩ := hr (i + 1) (by omega)
    have hRi : ob_r u 82 (i + 1) = some q := by rw [hR, if_neg (by omega)]; exact hq
    have y4 : ob_is u q 0 := hq0.fr f
    have z1 : ob_is (ob_setR u 82 i (some q)) 81 2 := s1
    have z6 : ob_is (ob_setR u 82 i (some q)) 83 12 := s7
    have z3 : ob_r (ob_setR u 82 i (some q)) 81 1 = some 83 := by rw [ob_r_n (by decide)]; exact s3
    have x1 : ob_is (ob_setI (ob_setR u 82 i (some q)) 83 i (ob_i u 83 (i + 1))) 81 2 := s1
    have x6 : ob_is (ob_setI (ob_setR u 82 i (some q)) 83 i (ob_i u 83 (i + 1))) 84 12 := s9
    have x3 : ob_r (ob_setI (ob_setR u 82 i (some q)) 83 i (ob_i u 83 (i + 1))) 81 2 = some 84 := by
      show ob_r (ob_setR u 82 i (some q)) 81 2 = some 84
      rw [ob_r_n (by decide)]; exact s4
    have x4 : ob_i (ob_setI (ob_setR u 82 i (some q)) 83 i (ob_i u 83 (i + 1))) 84 (i + 1) = ob_i u 84 (i + 1) := by rw [ob_i_n (by decide)]; rfl
    have hR2 : ∀ j, ob_r (ob_setI (ob_setI (ob_setR u 82 i (some q)) 83 i (ob_i u 83 (i + 1))) 84 i (ob_i u 84 (i + 1))) 82 j = if k ≤ j ∧ j < i + 1 then ob_r t 82 (j + 1) else ob_r t 82 j := by
      intro j
      show ob_r (ob_setR u 82 i (some q)) 82 j = _
      by_cases hj : j = i
      · subst hj
        rw [ob_r_self, if_pos (by omega), hq]
      · rw [ob_r_k hj, hR]
        by_cases hb : k ≤ j ∧ j < i
        · rw [if_pos hb, if_pos (by omega)]
        · rw [if_neg hb, if_neg (by omega)]
    have hI2 : ∀ j, ob_i (ob_setI (ob_setI (ob_setR u 82 i (some q)) 83 i (ob_i u 83 (i + 1))) 84 i (ob_i u 84 (i + 1))) 83 j = if k ≤ j ∧ j < i + 1 then ob_i t 83 (j + 1) else ob_i t 83 j := by
      intro j
      rw [ob_i_n (by decide)]
      by_cases hj : j = i
      · subst hj
        rw [ob_i_self, if_pos (by omega), hI, if_neg (by omega)]
      · rw [ob_i_k hj]
        show ob_i u 83 j = _
        rw [hI]
        by_cases hb : k ≤ j ∧ j < i
        · rw [if_pos hb, if_pos (by omega)]
        · rw [if_neg hb, if_neg (by omega)]
    have hJ2 : ∀ j, ob_i (ob_setI (ob_setI (ob_setR u 82 i (some q)) 83 i (ob_i u 83 (i + 1))) 84 i (ob_i u 84 (i + 1))) 84 j = if k ≤ j ∧ j < i + 1 then ob_i t 84 (j + 1) else ob_i t 84 j := by
      intro j
      by_cases hj : j = i
      · subst hj
        rw [ob_i_self, if_pos (by omega), hJ, if_neg (by omega)]
      · rw [ob_i_k hj, ob_i_n (by decide)]
        show ob_i u 84 j = _
        rw [hJ]
        by_cases hb : k ≤ j ∧ j < i
        · rw [if_pos hb, if_pos (by omega)]
        · rw [if_neg hb, if_neg (by omega)]
    obtain ⟨w, w1, w2⟩ := ih (i + 1) fu (ob_setI (ob_setI (ob_setR u 82 i (some q)) 83 i (ob_i u 83 (i + 1))) 84 i (ob_i u 84 (i + 1))) (by omega) (by omega) (by omega) (((f.tr (ob_Fr.setR (Or.inl rfl))).tr (ob_Fr.setI (Or.inr (Or.inl rfl)))).tr (ob_Fr.setI (Or.inr (Or.inr rfl)))) hR2 hI2 hJ2
    refine ⟨w, ?_, w2⟩
    rw [B_Me_takeOut_9, ob_b_e (ob_gI_e s1 c1), nI_pred, if_neg (nI_ge (by omega) (by omega)), ob_b_e (ob_gR_e s1 s2), ob_b_e (ob_gR_e s1 s2), nI_1, ob_b_e (ob_aR_e s5 (by omega) (by omega) hRi), ob_b_e (ob_wR_e s5 (by omega) (by omega) y4), ob_b_e (ob_gR_e z1 z3), ob_b_e (ob_gR_e z1 z3), ob_b_e (ob_aI_e z6 (by show i + 1 < ob_l u 83; omega) (by show ob_l u 83 < _; omega) (x := ob_i u 83 (i + 1)) rfl), ob_b_e (ob_wI_e z6 (by show i < ob_l u 83; omega) (by show ob_l u 83 < _; omega)), ob_b_e (ob_gR_e x1 x3), ob_b_e (ob_gR_e x1 x3), ob_b_e (ob_aI_e x6 (by show i + 1 < ob_l u 84; omega) (by show ob_l u 84 < _; omega) x4), ob_b_e (ob_wI_e x6 (by show i < ob_l u 84; omega) (by show ob_l u 84 < _; omega))]
    exact w1
theorem x_Me_takeOut {t : ob_S} {MM : List am_A} {k : Nat} (h : ob_Me t MM) (hk : k < MM.length) : ∃ u, X_Me_takeOut 81 (nI k) t = some u ∧ ob_Me u (MM.eraseIdx k) ∧ ob_Fr (fun q => q = 81 ∨ q = 82 ∨ q = 83 ∨ q = 84) t u := by
  obtain ⟨g1, g2, g3, r, r1, r2, r3, r4, r5⟩ := h
  have hrk := r1 k (by omega)
  obtain ⟨Lk, hLk⟩ := r4 (r k) hrk
  obtain ⟨w, w1, w2, w3, w4, w5, w6, w7⟩ := x_Me_up (t := t) (c := MM.length - 1) (k := k) (n := 85 + 2 * r k) g1 (by rw [g3]; congr 1; omega) (by omega) hLk.1 (fun j hj => by
    obtain ⟨L, hL⟩ := r4 (r j) (r1 j hj)
    exact ⟨_, r3 j hj, hL.1⟩) (MM.length - 1 - k) k ob_fu t (by omega) (Nat.le_refl _) (by show MM.length - 1 - k < 2000; omega) ob_Fr.rf (fun j => by rw [if_neg (by omega)]) (fun j => by rw [if_neg (by omega)]) (fun j => by rw [if_neg (by omega)])
  have hlen : (MM.eraseIdx k).length = MM.length - 1 := List.length_eraseIdx_of_lt hk
  refine ⟨w, ?_, ⟨g1.fr w2 w3, by omega, by rw [w4, hlen], rot r k (MM.length - 1), rot_lt r1 (by omega) (by omega), rot_inj r2 (by omega) (by omega), fun i hi => ?_, fun i hi => ?_, fun i q hq => ?_⟩, w2⟩
  · rw [X_Me_takeOut, ob_this_e g1.1, ob_b_e (ob_gR_e g1.1 g1.2.1), ob_b_e (ob_aR_e g1.2.2.2.2.1 (by rw [g1.2.2.2.2.2.1]; omega) (by rw [g1.2.2.2.2.2.1]; omega) (r3 k (by omega)))]
    exact w1
  · rw [w5, rot]
    by_cases c1 : i = MM.length - 1
    · rw [if_pos c1, if_pos c1]
    · rw [if_neg c1, if_neg c1]
      by_cases c2 : k ≤ i ∧ i < MM.length - 1
      · rw [if_pos c2, if_pos c2]; exact r3 _ (by omega)
      · rw [if_neg c2, if_neg c2]; exact r3 _ hi
  · obtain ⟨L, hL⟩ := r4 i hi
    exact ⟨L, hL.fr w2 (by omega) (by omega)⟩
  · have hi : i < MM.length - 1 := by
      have := (List.getElem?_eq_some_iff.mp hq).1
      omega
    rw [List.getElem?_eraseIdx] at hq
    rw [w6, w7, rot, if_neg (by omega)]
    by_cases c2 : k ≤ i ∧ i < MM.length - 1
    · rw [if_pos c2, if_pos c2, if_pos c2]
      rw [if_neg (by omega)] at hq
      obtain ⟨q1, q2, q3⟩ := r5 _ q hq
      have := r1 (i + 1) (by omega)
      exact ⟨q1.fr w2 (by omega) (by omega), q2, q3⟩
    · rw [if_neg c2, if_neg c2, if_neg c2]
      rw [if_pos (by omega)] at hq
      obtain ⟨q1, q2, q3⟩ := r5 _ q hq
      have := r1 i (by omega)
      exact ⟨q1.fr w2 (by omega) (by omega), q2, q3⟩
