/-! LAYER 2, 20: the server's watchers -/
noncomputable def sv_tellK (r : Nat) (v : sv_S) (k : Nat) : sv_S := if (v.2.2.1[k]?).map (fun x => x.2.1) = some r then sv_tell v k else v
noncomputable def sv_tellAll (v : sv_S) (r : Nat) : sv_S := sv_tellK r (sv_tellK r v 0) 1
theorem sv_tell_len (v : sv_S) (k : Nat) : (sv_tell v k).2.2.1.length = v.2.2.1.length := by
  unfold sv_tell
  cases v.2.2.1[k]? with
  | none => rfl
  | some x =>
    dsimp only
    split <;> exact List.length_set
theorem sv_tellK_len (r : Nat) (v : sv_S) (k : Nat) : (sv_tellK r v k).2.2.1.length = v.2.2.1.length := by
  unfold sv_tellK
  split
  · exact sv_tell_len v k
  · rfl
theorem sv_watcher {t : ob_S} {k j : Nat} (h : sv_sh t) (hk : k < 2) (hj : ob_r t 72 k = some (73 + 4 * j)) : ob_aR 16 72 (nI k) t = some (73 + 4 * j) := by
  obtain ⟨h1, h2, h3, h4, h5, h6, h7, -, -, ⟨c1, c2⟩⟩ := h
  exact ob_aR_e c1 (by omega) (by omega) hj
theorem x_tellStep {t : ob_S} {v : sv_S} {k r fu : Nat} (h : ob_Sv t v) (hk : k < v.2.2.1.length) (hr : r < 4) : ∃ u, B_Se_tellWatchersOf_2 (fu + 1) 53 (nI r) (nI k) t = B_Se_tellWatchersOf_2 fu 53 (nI r) (nI (k + 1)) u ∧ ob_Sv u (sv_tellK r v k) ∧ ob_Fr sv_P t u := by
  have h2l := h.2.2.2.2.1.1
  obtain ⟨j, x, hj2, hj, hx, wa⟩ := h.2.2.2.2.1.at hk
  have sh := h.1
  have sc := h.2.1
  have ga := sv_watcher sh (by omega) hj
  have hres := wa.2.2.2.2.2.2.2.2.1
  have pre : B_Se_tellWatchersOf_2 (fu + 1) 53 (nI r) (nI k) t = if ¬ nI x.2.1 = nI r then B_Se_tellWatchersOf_33 (B_Se_tellWatchersOf_2 fu) 53 (nI r) (nI k) t else (ob_gR 9 5 53 t).bind fun n25 => (ob_aR 16 n25 (nI k) t).bind fun n29 => (X_Se_tell 53 n29 t).bind fun t30 => B_Se_tellWatchersOf_33 (B_Se_tellWatchersOf_2 fu) 53 (nI r) (nI k) t30 := by
    rw [B_Se_tellWatchersOf_2, ob_b_e (ob_gI_e sh.1 sc.2.1), if_neg (nI_ge hk (by omega)), ob_b_e (ob_gR_e sh.1 sh.2.2.2.1), ob_b_e ga, ob_b_e (ob_gI_e wa.1 wa.2.2.2.1)]
  rw [pre, sv_tellK, hx]
  by_cases c : x.2.1 = r
  · rw [if_neg (show ¬ ¬ nI x.2.1 = nI r from fun z => z (by rw [c])), if_pos (show Option.map (fun x : sv_W => x.2.1) (some x) = some r by rw [← c]; rfl)]
    obtain ⟨u, e, s, f⟩ := x_Se_tell h hk hj hj2
    refine ⟨u, ?_, s, f⟩
    rw [ob_b_e (ob_gR_e sh.1 sh.2.2.2.1), ob_b_e ga, ob_b_e e, B_Se_tellWatchersOf_33, nI_1]
  · rw [if_pos (show ¬ nI x.2.1 = nI r from fun z => c ((nI_eq (by omega) (by omega)).mp z)), if_neg (show ¬ Option.map (fun x : sv_W => x.2.1) (some x) = some r from fun z => c (Option.some.inj z))]
    exact ⟨t, by rw [B_Se_tellWatchersOf_33, nI_1], h, ob_Fr.rf⟩
theorem x_tellStop {t : ob_S} {v : sv_S} {k r fu : Nat} (h : ob_Sv t v) (hk : v.2.2.1.length ≤ k) (hk2 : k < 100) : B_Se_tellWatchersOf_2 (fu + 1) 53 (nI r) (nI k) t = some t := by
  rw [B_Se_tellWatchersOf_2, ob_b_e (ob_gI_e h.1.1 h.2.1.2.1), if_pos (nI_le hk (by omega))]
theorem sv_tellK_no {v : sv_S} {k r : Nat} (hk : v.2.2.1.length ≤ k) : sv_tellK r v k = v := by
  rw [sv_tellK, List.getElem?_eq_none hk, if_neg (fun z => by cases z)]
theorem x_tellAll {t : ob_S} {v : sv_S} {r : Nat} (h : ob_Sv t v) (hr : r < 4) : ∃ u, X_Se_tellWatchersOf 53 (nI r) t = some u ∧ ob_Sv u (sv_tellAll v r) ∧ ob_Fr sv_P t u := by
  have h2l := h.2.2.2.2.1.1
  rw [X_Se_tellWatchersOf, ob_this_e h.1.1]
  show ∃ u, B_Se_tellWatchersOf_2 (1997 + 1 + 1 + 1) 53 (nI r) (nI 0) t = some u ∧ _
  by_cases c0 : v.2.2.1.length = 0
  · rw [sv_tellAll, sv_tellK_no (v := v) (by omega), sv_tellK_no (by omega)]
    exact ⟨t, x_tellStop h (by omega) (by omega), h, ob_Fr.rf⟩
  · obtain ⟨u1, e1, s1, f1⟩ := x_tellStep (fu := 1997 + 1 + 1) h (k := 0) (by omega) hr
    have l1 := sv_tellK_len r v 0
    by_cases c1 : v.2.2.1.length = 1
    · rw [sv_tellAll, sv_tellK_no (v := sv_tellK r v 0) (by omega)]
      exact ⟨u1, by rw [e1]; exact x_tellStop s1 (by omega) (by omega), s1, f1⟩
    · obtain ⟨u2, e2, s2, f2⟩ := x_tellStep (fu := 1997 + 1) s1 (k := 1) (by omega) hr
      have l2 := sv_tellK_len r (sv_tellK r v 0) 1
      exact ⟨u2, by rw [e1, e2]; exact x_tellStop s2 (by omega) (by omega), s2, f1.tr f2⟩
/-! which watcher has this token -/
def wt_ix (tk : Nat) : List sv_W → Nat → Option Nat
  | [], _ => none
  | x :: l, i => if x.1 = tk then some i else wt_ix tk l (i + 1)
theorem wt_ix_lt {tk : Nat} : ∀ {W : List sv_W} {i k : Nat}, wt_ix tk W i = some k → i ≤ k ∧ k < i + W.length
  | [], i, k, h => by cases h
  | x :: l, i, k, h => by
    rw [wt_ix] at h
    by_cases c : x.1 = tk
    · rw [if_pos c] at h
      cases h
      simp only [List.length_cons]
      omega
    · rw [if_neg c] at h
      have := wt_ix_lt h
      simp only [List.length_cons]
      omega
theorem x_withLoop {t : ob_S} {v : sv_S} (tk : Nat) (htk : tk < 256) (h : ob_Sv t v) : ∀ (K : List sv_W) (i fu : Nat), v.2.2.1.drop i = K → K.length < fu → i ≤ v.2.2.1.length → B_Se_watcherWith_2 fu 53 (nI tk) (nI i) t = some (oI (wt_ix tk K i), t) := by
  have h2l := h.2.2.2.2.1.1
  have sh := h.1
  have sc := h.2.1
  intro K
  induction K with
  | nil =>
    intro i fu hd hf hi
    obtain ⟨fu, rfl⟩ : ∃ z, fu = z + 1 := ⟨fu - 1, by simp at hf; omega⟩
    have hl : v.2.2.1.length ≤ i := List.drop_eq_nil_iff.mp hd
    rw [B_Se_watcherWith_2, ob_b_e (ob_gI_e sh.1 sc.2.1), if_pos (nI_le hl (by omega))]
    rfl
  | cons x K ih =>
    intro i fu hd hf hi
    obtain ⟨fu, rfl⟩ : ∃ z, fu = z + 1 := ⟨fu - 1, by simp at hf; omega⟩
    have hlt : i < v.2.2.1.length := by
      rcases Nat.lt_or_ge i v.2.2.1.length with z | z
      · exact z
      · rw [List.drop_eq_nil_iff.mpr z] at hd
        cases hd
    have hq : v.2.2.1[i]? = some x := by
      have e := congrArg (fun l => l[0]?) hd
      simp only [List.getElem?_drop, Nat.add_zero, List.getElem?_cons_zero] at e
      exact e
    have hK : v.2.2.1.drop (i + 1) = K := by
      have e := congrArg List.tail hd
      rw [List.tail_drop] at e
      exact e
    obtain ⟨j, x', hj2, hj, hx, wa⟩ := h.2.2.2.2.1.at hlt
    have ex : x' = x := Option.some.inj (hx.symm.trans hq)
    subst ex
    have htok := wa.2.2.2.2.2.2.2.1
    rw [B_Se_watcherWith_2, ob_b_e (ob_gI_e sh.1 sc.2.1), if_neg (nI_ge hlt (by omega)), ob_b_e (ob_gR_e sh.1 sh.2.2.2.1), ob_b_e (sv_watcher sh (by omega) hj), ob_b_e (ob_gI_e wa.1 wa.2.2.1), wt_ix]
    by_cases hc : x'.1 = tk
    · rw [if_neg (show ¬ ¬ nI x'.1 = nI tk from fun z => z (by rw [hc])), if_pos hc]
      rfl
    · rw [if_pos (show ¬ nI x'.1 = nI tk from fun z => hc ((nI_eq (by omega) (by omega)).mp z)), if_neg hc, nI_1]
      exact ih (i + 1) fu hK (by simp at hf; omega) hlt
theorem x_watcherWith {t : ob_S} {v : sv_S} (tk : Nat) (htk : tk < 256) (h : ob_Sv t v) : X_Se_watcherWith 53 (nI tk) t = some (oI (wt_ix tk v.2.2.1 0), t) := by
  have h2l := h.2.2.2.2.1.1
  rw [X_Se_watcherWith, ob_this_e h.1.1]
  exact x_withLoop tk htk h v.2.2.1 0 ob_fu rfl (by show v.2.2.1.length < 2000; omega) (Nat.zero_le _)
theorem x_Wa_begin {t : ob_S} {j : Nat} {v : sv_W} (tk r z : Nat) (h : ob_Wa t j v) (h1 : tk < 256) (h2 : r < 4) (h3 : z < 2) : ∃ u, X_Wa_begin (73 + 4 * j) (nI tk) (nI r) (nI z) t = some u ∧ ob_Wa u j (tk, r, z, 0, none) ∧ ob_Fr (fun q => 73 + 4 * j ≤ q ∧ q < 77 + 4 * j) t u := by
  obtain ⟨w1, w2, w3, w4, w5, w6, w7, w8⟩ := h
  obtain ⟨u1, e1, p1, f1⟩ := x_Pe_stop w7
  have i1 : ob_is u1 (73 + 4 * j) 5 := w1.fr f1
  have er := (f1.2.2.2 (73 + 4 * j) (by rintro (z | z | z) <;> omega)).2
  have f2 : ob_Fr (fun q => q = 73 + 4 * j) u1 (ob_setI (ob_setI (ob_setI (ob_setI u1 (73 + 4 * j) 1 (nI tk)) (73 + 4 * j) 2 (nI r)) (73 + 4 * j) 3 (nI z)) (73 + 4 * j) 4 (nI 0)) := (((ob_Fr.setI (P := fun q => q = 73 + 4 * j) rfl).tr (ob_Fr.setI (P := fun q => q = 73 + 4 * j) rfl)).tr (ob_Fr.setI (P := fun q => q = 73 + 4 * j) rfl)).tr (ob_Fr.setI (P := fun q => q = 73 + 4 * j) rfl)
  refine ⟨ob_setI (ob_setI (ob_setI (ob_setI u1 (73 + 4 * j) 1 (nI tk)) (73 + 4 * j) 2 (nI r)) (73 + 4 * j) 3 (nI z)) (73 + 4 * j) 4 (nI 0), ?_, ⟨i1, (show ob_r u1 (73 + 4 * j) 0 = some (74 + 4 * j) by rw [er]; exact w2), by rw [ob_i_k (by omega), ob_i_k (by omega), ob_i_k (by omega), ob_i_self], by rw [ob_i_k (by omega), ob_i_k (by omega), ob_i_self], by rw [ob_i_k (by omega), ob_i_self], ob_i_self, p1.fr f2 (by omega) (by omega) (by omega), ⟨h1, h2, h3, by show 0 < 2; omega⟩⟩, (f1.mono (fun q z => by rcases z with z | z | z <;> omega)).tr (f2.mono (fun q z => by omega))⟩
  rw [X_Wa_begin, ob_this_e w1, ob_b_e (ob_gR_e w1 w2), ob_b_e e1, ob_b_e (ob_pI_e i1), ob_b_e (ob_pI_e (t := ob_setI u1 (73 + 4 * j) 1 (nI tk)) i1), ob_b_e (ob_pI_e (t := ob_setI (ob_setI u1 (73 + 4 * j) 1 (nI tk)) (73 + 4 * j) 2 (nI r)) i1), ob_b_e (show ob_pZ 5 4 (73 + 4 * j) 0 (ob_setI (ob_setI (ob_setI u1 (73 + 4 * j) 1 (nI tk)) (73 + 4 * j) 2 (nI r)) (73 + 4 * j) 3 (nI z)) = some (ob_setI (ob_setI (ob_setI (ob_setI u1 (73 + 4 * j) 1 (nI tk)) (73 + 4 * j) 2 (nI r)) (73 + 4 * j) 3 (nI z)) (73 + 4 * j) 4 (nI 0)) from ob_pZ_e i1 (Or.inl rfl))]
/-- beginWatch: the watchers behind it; none: there is no room -/
def wt_beg (W : List sv_W) (tk r z : Nat) : Option (List sv_W) := match wt_ix tk W 0 with
  | some k => some (W.set k (tk, r, z, 0, none))
  | none => if W.length = 2 then none else some (W ++ [(tk, r, z, 0, none)])
theorem x_beginWatch {t : ob_S} {v : sv_S} (tk r z : Nat) (h : ob_Sv t v) (h1 : tk < 256) (h2 : r < 4) (h3 : z < 2) : ∃ u, X_Se_beginWatch 53 (nI tk) (nI r) (nI z) t = some (if (wt_beg v.2.2.1 tk r z).isSome = true then 1 else 0, u) ∧ ob_Sv u (v.1, v.2.1, (wt_beg v.2.2.1 tk r z).getD v.2.2.1, v.2.2.2) ∧ ob_Fr (fun q => q = 53 ∨ (72 ≤ q ∧ q < 81)) t u := by
  have h2l := h.2.2.2.2.1.1
  have sh := h.1
  have sc := h.2.1
  have ew := x_watcherWith tk h1 h
  cases hi : wt_ix tk v.2.2.1 0 with
  | some k =>
    have eb : wt_beg v.2.2.1 tk r z = some (v.2.2.1.set k (tk, r, z, 0, none)) := by rw [wt_beg, hi]
    have hk := (wt_ix_lt hi).2
    obtain ⟨j, x, hj2, hj, hx, wa⟩ := h.2.2.2.2.1.at (k := k) (by omega)
    obtain ⟨u1, e1, w1, f1⟩ := x_Wa_begin tk r z wa h1 h2 h3
    have S1 := h.wat (by omega) hj hj2 f1 w1
    rw [eb]
    refine ⟨u1, ?_, S1, f1.mono (fun q z => by omega)⟩
    rw [hi] at ew
    rw [X_Se_beginWatch, ob_this_e sh.1, ob_b2_e ew, if_pos (show ¬ oI (some k) = -1 from fun z => by have := (oI_none (o := some k) (fun y hy => by cases hy; omega)).mp z; cases this), B_Se_beginWatch_39, ob_b_e (ob_gR_e sh.1 sh.2.2.2.1), ob_b_e (show ob_aR 16 72 (oI (some k)) t = some (73 + 4 * j) from sv_watcher sh (by omega) hj), ob_b_e e1]; rfl
  | none =>
    rw [hi] at ew
    by_cases c : v.2.2.1.length = 2
    · have eb : wt_beg v.2.2.1 tk r z = none := by rw [wt_beg, hi]; exact if_pos c
      rw [eb]
      refine ⟨t, ?_, h, ob_Fr.rf⟩
      rw [X_Se_beginWatch, ob_this_e sh.1, ob_b2_e ew, if_neg (show ¬ ¬ oI none = -1 from fun z => z rfl), ob_b_e (ob_gI_e sh.1 sc.2.1), if_neg (show ¬ ¬ nI v.2.2.1.length = (2 : Int32) from fun z => z (by rw [c]; rfl))]; rfl
    · have eb : wt_beg v.2.2.1 tk r z = some (v.2.2.1 ++ [(tk, r, z, 0, none)]) := by rw [wt_beg, hi]; exact if_neg c
      rw [eb]
      obtain ⟨s1, ⟨a1, a2, a3, a4, a5⟩, s3, s4, ⟨w0, rr, r1, r2, r3, r4, r5⟩, s6, s7, ⟨L, last, s8⟩, s9⟩ := h
      have hj2 := r1 v.2.2.1.length (by omega)
      have hj := r3 v.2.2.1.length (by omega)
      have f0 : ob_Fr (fun q => q = 53) t (ob_setI t 53 2 (nI (v.2.2.1.length + 1))) := ob_Fr.setI rfl
      obtain ⟨x, wa⟩ := r4 (rr v.2.2.1.length) hj2
      obtain ⟨u1, e1, w1, f1⟩ := x_Wa_begin tk r z (wa.fr f0 (fun q a b => by omega)) h1 h2 h3
      have sh0 : sv_sh (ob_setI t 53 2 (nI (v.2.2.1.length + 1))) := s1.fr f0 rfl rfl rfl
      have e53 := f1.2.2.2 53 (by omega)
      have e72 := f1.2.2.2 72 (by omega)
      refine ⟨u1, ?_, ⟨sh0.fr f1 e53.2 (f1.2.2.2 54 (by omega)).2 (f1.2.2.2 55 (by omega)).2, ⟨?_, ?_, ?_, ?_, a5⟩, (s3.fr f0 (fun r hr => ⟨by omega, by omega⟩)).fr f1 (fun r hr => ⟨by omega, by omega⟩), (s4.fr f0 (fun r hr => ⟨by omega, by omega⟩)).fr f1 (fun r hr => ⟨by omega, by omega⟩), ⟨?_, rr, r1, r2, fun k hk => ?_, fun k hk => ?_, fun k y hy => ?_⟩, (s6.fr f0 (fun q a b => by omega)).fr f1 (fun q a b => by omega), (s7.fr f0 (fun q a b => by omega)).fr f1 (fun q a b => by omega), ⟨L, last, (s8.fr f0 (by omega) (by omega) (by omega)).fr f1 (by omega) (by omega) (by omega)⟩, s9⟩, (f0.mono (fun q z => by omega)).tr (f1.mono (fun q z => by omega))⟩
      · rw [X_Se_beginWatch, ob_this_e sh.1, ob_b2_e ew, if_neg (show ¬ ¬ oI none = -1 from fun z => z rfl), ob_b_e (ob_gI_e sh.1 sc.2.1), if_pos (show ¬ nI v.2.2.1.length = (2 : Int32) from fun z => c ((nI_eq (b := 2) (by omega) (by omega)).mp z)), ob_b_e (ob_gI_e sh.1 sc.2.1), ob_b_e (ob_gI_e sh.1 sc.2.1), nI_1, ob_b_e (ob_pI_e sh.1), B_Se_beginWatch_39, ob_b_e (ob_gR_e sh0.1 sh0.2.2.2.1), ob_b_e (show ob_aR 16 72 (nI v.2.2.1.length) (ob_setI t 53 2 (nI (v.2.2.1.length + 1))) = some (73 + 4 * rr v.2.2.1.length) from sv_watcher sh0 (by omega) hj), ob_b_e e1]; rfl
      · rw [e53.1, ob_i_k (by omega)]; exact a1
      · rw [e53.1, ob_i_self]
        show nI (v.2.2.1.length + 1) = nI (v.2.2.1 ++ [(tk, r, z, 0, none)]).length
        rw [List.length_append]; rfl
      · rw [e53.1, ob_i_k (by omega)]; exact a3
      · rw [e53.1, ob_i_k (by omega)]; exact a4
      · show (v.2.2.1 ++ [(tk, r, z, 0, none)]).length ≤ 2
        rw [List.length_append]
        show v.2.2.1.length + 1 ≤ 2
        omega
      · rw [e72.2]
        exact r3 k hk
      · by_cases e : k = rr v.2.2.1.length
        · subst e
          exact ⟨_, w1⟩
        · obtain ⟨y, hy⟩ := r4 k hk
          exact ⟨y, (hy.fr f0 (fun q a b => by omega)).fr f1 (fun q a b => by omega)⟩
      · have hy : (v.2.2.1 ++ [(tk, r, z, 0, none)])[k]? = some y := hy
        by_cases hkl : k < v.2.2.1.length
        · rw [List.getElem?_append_left hkl] at hy
          have hne : rr k ≠ rr v.2.2.1.length := fun z => by have := r2 k v.2.2.1.length (by omega) (by omega) z; omega
          have := r1 k (by omega)
          exact ((r5 k y hy).fr f0 (fun q a b => by omega)).fr f1 (fun q a b => by omega)
        · rw [List.getElem?_append_right (by omega)] at hy
          have hk0 : k - v.2.2.1.length < 1 := (List.getElem?_eq_some_iff.mp hy).1
          have hk : k = v.2.2.1.length := by omega
          subst hk
          rw [Nat.sub_self] at hy
          cases hy
          exact w1
