/-! LAYER 2, 21: a watcher ends; answers are kept and found -/
theorem x_endLoop {t : ob_S} {c k n : Nat} (hS : sv_sh t) (hc : ob_i t 53 2 = nI (c + 1)) (hc2 : c < 2) (hn : ob_is t n 5) (hr : ∀ j, j < 2 → ∃ q, ob_r t 72 j = some q ∧ ob_is t q 5) : ∀ (d i fu : Nat) (u : ob_S), i + d = c → k ≤ i → d < fu → ob_Fr (fun q => q = 72) t u → (∀ j, ob_r u 72 j = if k ≤ j ∧ j < i then ob_r t 72 (j + 1) else ob_r t 72 j) →
    ∃ w, B_Se_endWatch_29 fu 53 n (nI i) u = some w ∧ ob_Fr (fun q => q = 53 ∨ q = 72) t w ∧ ob_r w 53 = ob_r t 53 ∧ ob_i w 53 = upd (ob_i t 53) 2 (nI c) ∧ (∀ j, ob_r w 72 j = if j = c then some n else if k ≤ j ∧ j < c then ob_r t 72 (j + 1) else ob_r t 72 j) := by
  intro d
  induction d with
  | zero =>
    intro i fu u hi hk hfu f hR
    obtain ⟨fu, rfl⟩ : ∃ z, fu = z + 1 := ⟨fu - 1, by omega⟩
    have hic : i = c := by omega
    subst hic
    have e53 := f.2.2.2 53 (by omega)
    have hSu := hS.fr f e53.2 (f.2.2.2 54 (by omega)).2 (f.2.2.2 55 (by omega)).2
    have c1 : ob_i u 53 2 = nI (i + 1) := by rw [e53.1]; exact hc
    have y1 : ob_is (ob_setI u 53 2 (nI i)) 53 9 := hSu.1
    have y3 : ob_is (ob_setI u 53 2 (nI i)) 72 16 := hSu.2.2.2.2.2.2.2.2.2.1
    have yl : ob_l u 72 = 2 := hSu.2.2.2.2.2.2.2.2.2.2
    have y4 : ob_is (ob_setI u 53 2 (nI i)) n 5 := (hn.fr f : ob_is u n 5)
    refine ⟨ob_setR (ob_setI u 53 2 (nI i)) 72 i (some n), ?_, ((f.mono (fun q z => by omega)).tr (ob_Fr.setI (Or.inl rfl))).tr (ob_Fr.setR (Or.inr rfl)), ?_, ?_, fun j => ?_⟩
    · rw [B_Se_endWatch_29, ob_b_e (ob_gI_e hSu.1 c1), nI_pred, if_pos (nI_le (Nat.le_refl _) (by omega)), ob_b_e (ob_gI_e hSu.1 c1), nI_pred, ob_b_e (ob_pI_e hSu.1), ob_b_e (ob_gR_e y1 hSu.2.2.2.1), ob_b_e (ob_gI_e y1 ob_i_self), ob_b_e (ob_wR_e y3 (by show i < ob_l u 72; omega) (by show ob_l u 72 < _; omega) y4)]
    · rw [ob_r_nf (by decide)]
      exact e53.2
    · show ob_i (ob_setI u 53 2 (nI i)) 53 = _
      rw [ob_i_sf, e53.1]
    · by_cases hj : j = i
      · subst hj
        rw [if_pos rfl, ob_r_self]
      · rw [if_neg hj, ob_r_k hj]
        exact hR j
  | succ d ih =>
    intro i fu u hi hk hfu f hR
    obtain ⟨fu, rfl⟩ : ∃ z, fu = z + 1 := ⟨fu - 1, by omega⟩
    have e53 := f.2.2.2 53 (by omega)
    have hSu := hS.fr f e53.2 (f.2.2.2 54 (by omega)).2 (f.2.2.2 55 (by omega)).2
    have c1 : ob_i u 53 2 = nI (c + 1) := by rw [e53.1]; exact hc
    have y3 : ob_is u 72 16 := hSu.2.2.2.2.2.2.2.2.2.1
    have yl : ob_l u 72 = 2 := hSu.2.2.2.2.2.2.2.2.2.2
    obtain ⟨q, hq, hq0⟩ := hr (i + 1) (by omega)
    have hRi : ob_r u 72 (i + 1) = some q := by rw [hR, if_neg (by omega)]; exact hq
    have y4 : ob_is u q 5 := hq0.fr f
    have hR2 : ∀ j, ob_r (ob_setR u 72 i (some q)) 72 j = if k ≤ j ∧ j < i + 1 then ob_r t 72 (j + 1) else ob_r t 72 j := by
      intro j
      by_cases hj : j = i
      · subst hj
        rw [ob_r_self, if_pos (by omega), hq]
      · rw [ob_r_k hj, hR]
        by_cases hb : k ≤ j ∧ j < i
        · rw [if_pos hb, if_pos (by omega)]
        · rw [if_neg hb, if_neg (by omega)]
    obtain ⟨w, w1, w2⟩ := ih (i + 1) fu (ob_setR u 72 i (some q)) (by omega) (by omega) (by omega) (f.tr (ob_Fr.setR rfl)) hR2
    refine ⟨w, ?_, w2⟩
    rw [B_Se_endWatch_29, ob_b_e (ob_gI_e hSu.1 c1), nI_pred, if_neg (nI_ge (by omega) (by omega)), ob_b_e (ob_gR_e hSu.1 hSu.2.2.2.1), ob_b_e (ob_gR_e hSu.1 hSu.2.2.2.1), nI_1, ob_b_e (ob_aR_e y3 (by omega) (by omega) hRi), ob_b_e (ob_wR_e y3 (by omega) (by omega) y4)]
    exact w1
theorem x_endWatch {t : ob_S} {v : sv_S} {k : Nat} (h : ob_Sv t v) (hk : k < v.2.2.1.length) : ∃ u, X_Se_endWatch 53 (nI k) t = some u ∧ ob_Sv u (v.1, v.2.1, v.2.2.1.eraseIdx k, v.2.2.2) ∧ ob_Fr (fun q => q = 53 ∨ (72 ≤ q ∧ q < 81)) t u := by
  have h2l := h.2.2.2.2.1.1
  have sh := h.1
  have sc := h.2.1
  obtain ⟨j, x, hj2, hj, hx, wa⟩ := h.2.2.2.2.1.at hk
  obtain ⟨u1, e1, p1, f1⟩ := x_Pe_stop wa.2.2.2.2.2.2.1
  have wa1 := wa.pe f1 p1
  have F1 : ob_Fr (fun q => 73 + 4 * j ≤ q ∧ q < 77 + 4 * j) t u1 := f1.mono (fun q z => by rcases z with z | z | z <;> omega)
  have S1 := h.wat hk hj hj2 F1 wa1
  obtain ⟨s1, ⟨a1, a2, a3, a4, a5⟩, s3, s4, ⟨w0, rr, r1, r2, r3, r4, r5⟩, s6, s7, ⟨L, last, s8⟩, s9⟩ := S1
  rw [show (v.2.2.1.set k (x.1, x.2.1, x.2.2.1, x.2.2.2.1, none)).length = v.2.2.1.length from List.length_set] at w0 a2
  have hlen : (v.2.2.1.eraseIdx k).length = v.2.2.1.length - 1 := List.length_eraseIdx_of_lt hk
  have ej : rr k = j := by
    have e72 := (F1.2.2.2 72 (by omega)).2
    have q1 := r3 k (by omega)
    rw [e72, hj] at q1
    have := Option.some.inj q1
    omega
  obtain ⟨w, w1, w2, w3, w4, w5⟩ := x_endLoop (t := u1) (c := v.2.2.1.length - 1) (k := k) (n := 73 + 4 * j) s1 (by rw [a2]; congr 1; omega) (by omega) wa1.1 (fun i hi => by
    obtain ⟨y, hy⟩ := r4 (rr i) (r1 i hi)
    exact ⟨_, r3 i hi, hy.1⟩) (v.2.2.1.length - 1 - k) k ob_fu u1 (by omega) (Nat.le_refl _) (by show v.2.2.1.length - 1 - k < 2000; omega) ob_Fr.rf (fun i => by rw [if_neg (by omega)])
  refine ⟨w, ?_, ⟨s1.fr w2 w3 (w2.2.2.2 54 (by omega)).2 (w2.2.2.2 55 (by omega)).2, ⟨?_, ?_, ?_, ?_, a5⟩, s3.fr w2 (fun r hr => ⟨by omega, by omega⟩), s4.fr w2 (fun r hr => ⟨by omega, by omega⟩), ⟨?_, rot rr k (v.2.2.1.length - 1), rot_lt r1 (by omega) (by omega), rot_inj r2 (by omega) (by omega), fun i hi => ?_, fun i hi => ?_, fun i y hy => ?_⟩, s6.fr w2 (fun q a b => by omega), s7.fr w2 (fun q a b => by omega), ⟨L, last, s8.fr w2 (by omega) (by omega) (by omega)⟩, s9⟩, (F1.mono (fun q z => by omega)).tr (w2.mono (fun q z => by omega))⟩
  · rw [X_Se_endWatch, ob_this_e sh.1, if_neg (nI_pos (by omega)), ob_b_e (ob_gI_e sh.1 sc.2.1), if_pos (nI_lt hk (by omega)), ob_b_e (ob_gR_e sh.1 sh.2.2.2.1), ob_b_e (sv_watcher sh (by omega) hj), ob_b_e (ob_gR_e wa.1 wa.2.1), ob_b_e e1]
    exact w1
  · rw [w4, pk_un (by omega)]; exact a1
  · rw [w4, pk_us]
    show nI (v.2.2.1.length - 1) = nI (v.2.2.1.eraseIdx k).length
    rw [hlen]
  · rw [w4, pk_un (by omega)]; exact a3
  · rw [w4, pk_un (by omega)]; exact a4
  · show (v.2.2.1.eraseIdx k).length ≤ 2
    omega
  · rw [w5, rot, ej]
    by_cases c1 : i = v.2.2.1.length - 1
    · rw [if_pos c1, if_pos c1]
    · rw [if_neg c1, if_neg c1]
      by_cases c2 : k ≤ i ∧ i < v.2.2.1.length - 1
      · rw [if_pos c2, if_pos c2]; exact r3 _ (by omega)
      · rw [if_neg c2, if_neg c2]; exact r3 _ hi
  · obtain ⟨y, hy⟩ := r4 i hi
    exact ⟨y, hy.fr w2 (fun q a b => by omega)⟩
  · have hy : (v.2.2.1.eraseIdx k)[i]? = some y := hy
    have hi : i < v.2.2.1.length - 1 := by
      have := (List.getElem?_eq_some_iff.mp hy).1
      omega
    rw [List.getElem?_eraseIdx] at hy
    rw [rot, if_neg (by omega)]
    by_cases c2 : k ≤ i ∧ i < v.2.2.1.length - 1
    · rw [if_pos c2]
      rw [if_neg (by omega)] at hy
      have hq : (v.2.2.1.set k (x.1, x.2.1, x.2.2.1, x.2.2.2.1, none))[i + 1]? = some y := by rw [List.getElem?_set_ne (by omega)]; exact hy
      have := r1 (i + 1) (by omega)
      exact (r5 _ y hq).fr w2 (fun q a b => by omega)
    · rw [if_neg c2]
      rw [if_pos (by omega)] at hy
      have hq : (v.2.2.1.set k (x.1, x.2.1, x.2.2.1, x.2.2.2.1, none))[i]? = some y := by rw [List.getElem?_set_ne (by omega)]; exact hy
      have := r1 i (by omega)
      exact (r5 _ y hq).fr w2 (fun q a b => by omega)
/-- endWatch of nobody -/
theorem x_endWatchNo {t : ob_S} {v : sv_S} (h : ob_Sv t v) : X_Se_endWatch 53 (-1) t = some t := by
  rw [X_Se_endWatch, ob_this_e h.1.1, if_pos (by decide)]
/-! the memory: keep and find -/
theorem am_ix_lt {id : Int32} : ∀ {M : List am_A} {i k : Nat}, am_ix id M i = some k → i ≤ k ∧ k < i + M.length
  | [], i, k, h => by cases h
  | x :: l, i, k, h => by
    rw [am_ix] at h
    by_cases c : x.1 = id
    · rw [if_pos c] at h
      cases h
      simp only [List.length_cons]
      omega
    · rw [if_neg c] at h
      have := am_ix_lt h
      simp only [List.length_cons]
      omega
theorem x_keep32 {t : ob_S} {MM : List am_A} {n a m : Nat} {K : List Nat} (id now : Int32) (h : ob_Me t MM) (hl : MM.length < 4) (hK : ob_By t n a m (nb K)) (hn : n < 81 ∨ 93 ≤ n) (ha : a < 81 ∨ 93 ≤ a) (hk : K.length ≤ 48) : ∃ u, B_Me_keep_32 81 id now n t = some u ∧ ob_Me u (MM ++ [(id, now, K)]) ∧ ob_Fr (fun q => 81 ≤ q ∧ q < 93) t u := by
  obtain ⟨g1, g2, g3, r, r1, r2, r3, r4, r5⟩ := h
  have hr := r1 _ hl
  obtain ⟨L, hL⟩ := r4 (r MM.length) hr
  obtain ⟨u1, e1, b1, f1⟩ := x_By_become hL hK (by omega) (by omega) (by rw [nb_len]; exact hk)
  have e81 := f1.2.2.2 81 (by omega)
  have p1 := g1.fr f1 e81.2
  have g1' := g1
  obtain ⟨s1, s2, s3, s4, s5, s6, s7, s8, s9, s10⟩ := g1'
  obtain ⟨t1, t2, t3, t4, t5, t6, t7, t8, t9, t10⟩ := p1
  have c1 : ob_i u1 81 3 = nI MM.length := by rw [e81.1]; exact g3
  have x1 : ob_is (ob_setI u1 83 MM.length id) 81 2 := t1
  have x2 : ob_i (ob_setI u1 83 MM.length id) 81 3 = nI MM.length := by rw [ob_i_n (by decide)]; exact c1
  have x9 : ob_is (ob_setI u1 83 MM.length id) 84 12 := t9
  have y1 : ob_is (ob_setI (ob_setI u1 83 MM.length id) 84 MM.length now) 81 2 := t1
  have y2 : ob_i (ob_setI (ob_setI u1 83 MM.length id) 84 MM.length now) 81 3 = nI MM.length := by rw [ob_i_n (by decide)]; exact x2
  have F : ob_Fr (fun q => q = 81 ∨ q = 83 ∨ q = 84) u1 (ob_setI (ob_setI (ob_setI u1 83 MM.length id) 84 MM.length now) 81 3 (nI (MM.length + 1))) := ((ob_Fr.setI (P := fun q => q = 81 ∨ q = 83 ∨ q = 84) (Or.inr (Or.inl rfl))).tr (ob_Fr.setI (P := fun q => q = 81 ∨ q = 83 ∨ q = 84) (Or.inr (Or.inr rfl)))).tr (ob_Fr.setI (P := fun q => q = 81 ∨ q = 83 ∨ q = 84) (Or.inl rfl))
  refine ⟨ob_setI (ob_setI (ob_setI u1 83 MM.length id) 84 MM.length now) 81 3 (nI (MM.length + 1)), ?_, ⟨⟨t1, t2, t3, t4, t5, t6, t7, t8, t9, t10⟩, by rw [List.length_append]; exact hl, by rw [ob_i_self, List.length_append]; rfl, r, r1, r2, fun k hk => ?_, fun k hk => ?_, fun k q hq => ?_⟩, (f1.mono (fun q z => by omega)).tr (F.mono (fun q z => by omega))⟩
  · rw [B_Me_keep_32, ob_b_e (ob_gR_e s1 s2), ob_b_e (ob_gI_e s1 g3), ob_b_e (ob_aR_e s5 (by omega) (by omega) (r3 _ hl)), ob_b_e e1, ob_b_e (ob_gR_e t1 t3), ob_b_e (ob_gI_e t1 c1), ob_b_e (ob_wI_e t7 (by omega) (by omega)), ob_b_e (ob_gR_e x1 t4), ob_b_e (ob_gI_e x1 x2), ob_b_e (ob_wI_e x9 (by show MM.length < ob_l u1 84; omega) (by show ob_l u1 84 < _; omega)), ob_b_e (ob_gI_e y1 y2), ob_b_e (ob_pI_e y1), nI_1]
  · show ob_r u1 82 k = _
    rw [(f1.2.2.2 82 (by omega)).2]
    exact r3 k hk
  · by_cases hkr : k = r MM.length
    · subst hkr
      exact ⟨nb K, b1.fr F (by omega) (by omega)⟩
    · obtain ⟨L2, hL2⟩ := r4 k hk
      exact ⟨L2, (hL2.fr f1 (by omega) (by omega)).fr F (by omega) (by omega)⟩
  · by_cases hkl : k < MM.length
    · rw [List.getElem?_append_left hkl] at hq
      obtain ⟨q1, q2, q3⟩ := r5 k q hq
      have hne : r k ≠ r MM.length := fun z => by have := r2 k MM.length (by omega) hl z; omega
      have := r1 k (by omega)
      refine ⟨(q1.fr f1 (by omega) (by omega)).fr F (by omega) (by omega), ?_, ?_⟩
      · rw [ob_i_n (by decide), ob_i_n (by decide), ob_i_k (by omega), (f1.2.2.2 83 (by omega)).1]
        exact q2
      · rw [ob_i_n (by decide), ob_i_k (by omega), ob_i_n (by decide), (f1.2.2.2 84 (by omega)).1]
        exact q3
    · rw [List.getElem?_append_right (by omega)] at hq
      have hk0 : k - MM.length < 1 := (List.getElem?_eq_some_iff.mp hq).1
      have hk : k = MM.length := by omega
      subst hk
      rw [Nat.sub_self] at hq
      cases hq
      exact ⟨b1.fr F (by omega) (by omega), by rw [ob_i_n (by decide), ob_i_n (by decide), ob_i_self], by rw [ob_i_n (by decide), ob_i_self]⟩
/-- keep: the old answer goes, the first if there is no room, the new comes last -/
def am_1 (M : List am_A) (id : Int32) : List am_A := match am_ix id M 0 with
  | none => M
  | some k => M.eraseIdx k
def am_keep (M : List am_A) (id now : Int32) (K : List Nat) : List am_A := (if (am_1 M id).length = 4 then (am_1 M id).eraseIdx 0 else am_1 M id) ++ [(id, now, K)]
theorem x_keep19 {t : ob_S} {MM : List am_A} {n a m : Nat} {K : List Nat} (id now : Int32) (h : ob_Me t MM) (hK : ob_By t n a m (nb K)) (hn : n < 81 ∨ 93 ≤ n) (ha : a < 81 ∨ 93 ≤ a) (hk : K.length ≤ 48) : ∃ u, B_Me_keep_19 81 id now n t = some u ∧ ob_Me u ((if MM.length = 4 then MM.eraseIdx 0 else MM) ++ [(id, now, K)]) ∧ ob_Fr (fun q => 81 ≤ q ∧ q < 93) t u := by
  have hl := h.2.1
  by_cases c : MM.length = 4
  · obtain ⟨u1, e1, m1, f1⟩ := x_Me_takeOut (k := 0) h (by omega)
    have hlen : (MM.eraseIdx 0).length = MM.length - 1 := List.length_eraseIdx_of_lt (by omega)
    obtain ⟨u2, e2, m2, f2⟩ := x_keep32 id now m1 (by omega) (hK.fr f1 (by omega) (by omega)) hn ha hk
    rw [if_pos c]
    refine ⟨u2, ?_, m2, (f1.mono (fun q z => by omega)).tr f2⟩
    rw [B_Me_keep_19, ob_b_e (ob_gI_e h.1.1 h.2.2.1), if_neg (show ¬ ¬ nI MM.length = (4 : Int32) from fun z => z (by rw [c]; rfl)), ob_b_e (show X_Me_takeOut 81 0 t = some u1 from e1)]
    exact e2
  · obtain ⟨u2, e2, m2, f2⟩ := x_keep32 id now h (by omega) hK hn ha hk
    rw [if_neg c]
    refine ⟨u2, ?_, m2, f2⟩
    rw [B_Me_keep_19, ob_b_e (ob_gI_e h.1.1 h.2.2.1), if_pos (show ¬ nI MM.length = (4 : Int32) from fun z => c ((nI_eq (b := 4) (by omega) (by omega)).mp z))]
    exact e2
theorem x_Me_keep {t : ob_S} {MM : List am_A} {n a m : Nat} {K : List Nat} (id now : Int32) (h : ob_Me t MM) (hK : ob_By t n a m (nb K)) (hn : n < 81 ∨ 93 ≤ n) (ha : a < 81 ∨ 93 ≤ a) (hk : K.length ≤ 48) : ∃ u, X_Me_keep 81 id now n t = some u ∧ ob_Me u (am_keep MM id now K) ∧ ob_Fr (fun q => 81 ≤ q ∧ q < 93) t u := by
  have ep := x_Me_placeOf id h
  have hl := h.2.1
  cases hi : am_ix id MM 0 with
  | none =>
    rw [hi] at ep
    obtain ⟨u, e, mm, f⟩ := x_keep19 id now h hK hn ha hk
    refine ⟨u, ?_, by rw [am_keep, am_1, hi]; exact mm, f⟩
    rw [X_Me_keep, ob_this_e h.1.1, ob_b2_e ep, if_pos (show oI none = -1 from rfl)]
    exact e
  | some k =>
    rw [hi] at ep
    have hk2 := (am_ix_lt hi).2
    obtain ⟨u1, e1, m1, f1⟩ := x_Me_takeOut (k := k) h (by omega)
    obtain ⟨u2, e2, m2, f2⟩ := x_keep19 id now m1 (hK.fr f1 (by omega) (by omega)) hn ha hk
    refine ⟨u2, ?_, by rw [am_keep, am_1, hi]; exact m2, (f1.mono (fun q z => by omega)).tr f2⟩
    rw [X_Me_keep, ob_this_e h.1.1, ob_b2_e ep, if_neg (show ¬ oI (some k) = -1 from fun z => by have := (oI_none (o := some k) (fun y hy => by cases hy; omega)).mp z; cases this), ob_b_e (show X_Me_takeOut 81 (oI (some k)) t = some u1 from e1)]
    exact e2
/-- find -/
noncomputable def am_find (M : List am_A) (id now : Int32) : Option Nat := match am_ix id M 0 with
  | none => none
  | some k => match M[k]? with
    | none => none
    | some q => if 100 ≤ now - q.2.1 then none else some k
theorem x_Me_find {t : ob_S} {MM : List am_A} (id now : Int32) (h : ob_Me t MM) : X_Me_find 81 id now t = some (oI (am_find MM id now), t) := by
  have ep := x_Me_placeOf id h
  have hl := h.2.1
  obtain ⟨s1, s2, s3, s4, s5, s6, s7, s8, s9, s10⟩ := h.1
  rw [X_Me_find, ob_this_e s1, ob_b2_e ep, am_find]
  cases hi : am_ix id MM 0 with
  | none => rw [if_pos (show oI none = -1 from rfl)]; rfl
  | some k =>
    have hk := (am_ix_lt hi).2
    obtain ⟨r, r1, r2, r3, r4, r5⟩ := h.2.2.2
    have hq : MM[k]? = some MM[k] := List.getElem?_eq_getElem (by omega)
    obtain ⟨q1, q2, q3⟩ := r5 k _ hq
    rw [if_neg (show ¬ oI (some k) = -1 from fun z => by have := (oI_none (o := some k) (fun y hy => by cases hy; omega)).mp z; cases this), ob_b_e (ob_gR_e s1 s4), ob_b_e (show ob_aI 84 (oI (some k)) t = some MM[k].2.1 from ob_aI_e s9 (by omega) (by omega) q3)]
    dsimp only
    rw [hq]
    dsimp only
    by_cases c : 100 ≤ now - MM[k].2.1
    · rw [if_pos c, if_pos c]; rfl
    · rw [if_neg c, if_neg c]
