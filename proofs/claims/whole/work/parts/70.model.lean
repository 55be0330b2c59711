/-! LAYER 2, 30: the reference: 103; its rows 104 .. 143 -/
/-- its rows: field, object, kind, length -/
def mo_ar : List (Nat × Nat × Nat × Nat) := [(0, 104, 12, 1024), (1, 105, 12, 16), (2, 106, 12, 16), (7, 107, 13, 4), (8, 108, 12, 4), (9, 109, 12, 4), (10, 110, 12, 4), (11, 111, 12, 4), (12, 112, 12, 256), (13, 113, 12, 4), (14, 114, 12, 2), (15, 115, 12, 2), (16, 116, 12, 2), (17, 117, 12, 2), (18, 118, 12, 2), (19, 119, 12, 2), (20, 120, 13, 2), (21, 121, 13, 2), (22, 122, 13, 2), (23, 123, 12, 2), (24, 124, 12, 2), (25, 125, 13, 2), (26, 126, 12, 160), (27, 127, 12, 2), (28, 128, 12, 256), (29, 129, 12, 4), (30, 130, 12, 256), (31, 131, 12, 4), (33, 132, 12, 2), (34, 133, 12, 2), (35, 134, 12, 2), (36, 135, 13, 2), (40, 136, 12, 4), (41, 137, 12, 4), (42, 138, 12, 256), (43, 139, 12, 4), (44, 140, 12, 64), (47, 141, 12, 64), (55, 142, 12, 2), (56, 143, 12, 2)]
def mo_sh (t : ob_S) : Prop := ob_is t 103 11 ∧ ∀ a ∈ mo_ar, ob_r t 103 a.1 = some a.2.1 ∧ ob_is t a.2.1 a.2.2.1 ∧ ob_l t a.2.1 = a.2.2.2
/-- rows A and numbers N of the reference may have changed, nothing else -/
def mo_Fr (A N : Nat → Prop) (t u : ob_S) : Prop := ob_n u = ob_n t ∧ ob_k u = ob_k t ∧ ob_l u = ob_l t ∧ ob_r u = ob_r t ∧ (∀ n, n ≠ 103 → ¬ A n → ob_i u n = ob_i t n) ∧ ∀ k, ¬ N k → ob_i u 103 k = ob_i t 103 k
theorem mo_Fr.rf {A N : Nat → Prop} {t : ob_S} : mo_Fr A N t t := ⟨rfl, rfl, rfl, rfl, fun _ _ _ => rfl, fun _ _ => rfl⟩
theorem mo_Fr.tr {A N : Nat → Prop} {t u w : ob_S} (h1 : mo_Fr A N t u) (h2 : mo_Fr A N u w) : mo_Fr A N t w := ⟨h2.1.trans h1.1, h2.2.1.trans h1.2.1, h2.2.2.1.trans h1.2.2.1, h2.2.2.2.1.trans h1.2.2.2.1, fun n a b => (h2.2.2.2.2.1 n a b).trans (h1.2.2.2.2.1 n a b), fun k a => (h2.2.2.2.2.2 k a).trans (h1.2.2.2.2.2 k a)⟩
theorem mo_Fr.mono {A N B M : Nat → Prop} {t u : ob_S} (h : mo_Fr A N t u) (hA : ∀ n, A n → B n) (hN : ∀ k, N k → M k) : mo_Fr B M t u := ⟨h.1, h.2.1, h.2.2.1, h.2.2.2.1, fun n a b => h.2.2.2.2.1 n a (fun z => b (hA n z)), fun k a => h.2.2.2.2.2 k (fun z => a (hN k z))⟩
theorem mo_sh.fr {A N : Nat → Prop} {t u : ob_S} (h : mo_sh t) (f : mo_Fr A N t u) : mo_sh u := by
  obtain ⟨f1, f2, f3, f4, -⟩ := f
  exact ⟨⟨by rw [f1]; exact h.1.1, by rw [f2]; exact h.1.2⟩, fun a ha => by
    obtain ⟨q1, q2, q3⟩ := h.2 a ha
    exact ⟨by rw [f4]; exact q1, ⟨by rw [f1]; exact q2.1, by rw [f2]; exact q2.2⟩, by rw [f3]; exact q3⟩⟩
/-- what lies below the reference stays -/
theorem mo_Fr.fr {A N : Nat → Prop} {t u : ob_S} (f : mo_Fr A N t u) : ob_Fr (fun q => q = 103 ∨ A q) t u := ⟨f.1, f.2.1, f.2.2.1, fun n hn => ⟨f.2.2.2.2.1 n (fun z => hn (Or.inl z)) (fun z => hn (Or.inr z)), by rw [f.2.2.2.1]⟩⟩
/-- a number is set -/
theorem mo_setN {N : Nat → Prop} {A : Nat → Prop} {t : ob_S} {k : Nat} {x : Int32} (h : N k) : mo_Fr A N t (ob_setI t 103 k x) := ⟨rfl, rfl, rfl, rfl, fun n a _ => ob_i_nf a, fun j hj => ob_i_k (fun z => hj (z ▸ h))⟩
/-- a place of a row is set -/
theorem mo_setA {N : Nat → Prop} {A : Nat → Prop} {t : ob_S} {n k : Nat} {x : Int32} (hn : n ≠ 103) (h : A n) : mo_Fr A N t (ob_setI t n k x) := ⟨rfl, rfl, rfl, rfl, fun q _ b => ob_i_nf (fun z => b (z ▸ h)), fun j _ => ob_i_n (Ne.symm hn)⟩
/-- reads and writes of the reference -/
theorem mo_R {t : ob_S} (h : mo_sh t) {f n kd len : Nat} (hm : (f, n, kd, len) ∈ mo_ar) : ob_gR 11 f 103 t = some n := ob_gR_e h.1 (h.2 _ hm).1
theorem mo_N {t : ob_S} (h : mo_sh t) {k : Nat} {x : Int32} (e : ob_i t 103 k = x) : ob_gI 11 k 103 t = some x := ob_gI_e h.1 e
theorem mo_P {t : ob_S} (h : mo_sh t) {k : Nat} {x : Int32} : ob_pI 11 k 103 x t = some (ob_setI t 103 k x) := ob_pI_e h.1
theorem mo_A {t : ob_S} (h : mo_sh t) {f n len i : Nat} {x : Int32} (hm : (f, n, 12, len) ∈ mo_ar) (hi : i < len) (hl : len < 2 ^ 31) (e : ob_i t n i = x) : ob_aI n (nI i) t = some x := by
  obtain ⟨q1, q2, q3⟩ := h.2 _ hm
  exact ob_aI_e q2 (by rw [q3]; exact hi) (by rw [q3]; exact hl) e
theorem mo_Z {t : ob_S} (h : mo_sh t) {f n len i : Nat} {x : Int32} (hm : (f, n, 13, len) ∈ mo_ar) (hi : i < len) (hl : len < 2 ^ 31) (e : ob_i t n i = x) : ob_aZ n (nI i) t = some x := by
  obtain ⟨q1, q2, q3⟩ := h.2 _ hm
  exact ob_aZ_e q2 (by rw [q3]; exact hi) (by rw [q3]; exact hl) e
theorem mo_W {t : ob_S} (h : mo_sh t) {f n len i : Nat} {x : Int32} (hm : (f, n, 12, len) ∈ mo_ar) (hi : i < len) (hl : len < 2 ^ 31) : ob_wI n (nI i) x t = some (ob_setI t n i x) := by
  obtain ⟨q1, q2, q3⟩ := h.2 _ hm
  exact ob_wI_e q2 (by rw [q3]; exact hi) (by rw [q3]; exact hl)
theorem mo_WZ {t : ob_S} (h : mo_sh t) {f n len i : Nat} {x : Int32} (hm : (f, n, 13, len) ∈ mo_ar) (hi : i < len) (hl : len < 2 ^ 31) (hx : x = 0 ∨ x = 1) : ob_wZ n (nI i) x t = some (ob_setI t n i x) := by
  obtain ⟨q1, q2, q3⟩ := h.2 _ hm
  exact ob_wZ_e q2 (by rw [q3]; exact hi) (by rw [q3]; exact hl) hx
/-- the row that is written: out 140, its length 45, the last number 46 -/
def mo_Out (t : ob_S) (L : List Nat) (last : Nat) : Prop := mo_sh t ∧ ob_i t 103 45 = nI L.length ∧ ob_i t 103 46 = nI last ∧ L.length ≤ 64 ∧ ∀ i, i < L.length → ob_i t 140 i = nI (L.getD i 0)
abbrev mo_wA : Nat → Prop := fun q => q = 140
abbrev mo_wN : Nat → Prop := fun k => k = 45 ∨ k = 46
theorem y_write {t : ob_S} {L : List Nat} {last : Nat} {v : Int32} (b : Nat) (h : mo_Out t L last) (hv : v = nI b) (hl : L.length < 64) : ∃ u, X_Mo_write 103 v t = some u ∧ mo_Out u (L ++ [b]) last ∧ mo_Fr mo_wA mo_wN t u := by
  obtain ⟨h1, h2, h3, h4, h5⟩ := h
  subst hv
  have f1 : mo_Fr mo_wA mo_wN t (ob_setI t 140 L.length (nI b)) := mo_setA (by decide) rfl
  have s1 := h1.fr f1
  have e1 : ob_i (ob_setI t 140 L.length (nI b)) 103 45 = nI L.length := by rw [ob_i_n (by decide)]; exact h2
  have f2 : mo_Fr mo_wA mo_wN (ob_setI t 140 L.length (nI b)) (ob_setI (ob_setI t 140 L.length (nI b)) 103 45 (nI (L.length + 1))) := mo_setN (Or.inl rfl)
  refine ⟨ob_setI (ob_setI t 140 L.length (nI b)) 103 45 (nI (L.length + 1)), ?_, ⟨s1.fr f2, by rw [ob_i_self, List.length_append]; rfl, by rw [ob_i_k (by decide), ob_i_n (by decide)]; exact h3, by rw [List.length_append]; exact hl, fun i hi => ?_⟩, f1.tr f2⟩
  · rw [X_Mo_write, ob_this_e h1.1, ob_b_e (mo_R h1 (show (44, 140, 12, 64) ∈ mo_ar by decide)), ob_b_e (mo_N h1 h2), ob_b_e (mo_W h1 (show (44, 140, 12, 64) ∈ mo_ar by decide) hl (by omega)), ob_b_e (mo_N s1 e1), ob_b_e (mo_P s1), nI_1]
  · rw [ob_i_n (by decide)]
    rw [List.length_append] at hi
    have hi : i < L.length + 1 := hi
    by_cases c : i = L.length
    · subst c
      rw [ob_i_self]
      simp [List.getD_eq_getElem?_getD]
    · rw [ob_i_k c, h5 i (by omega), List.getD_eq_getElem?_getD, List.getD_eq_getElem?_getD, List.getElem?_append_left (by omega)]
theorem y_zero {t : ob_S} {L : List Nat} {last : Nat} (h : mo_Out t L last) : mo_Out (ob_setI (ob_setI t 103 45 0) 103 46 0) [] 0 ∧ mo_Fr mo_wA mo_wN t (ob_setI (ob_setI t 103 45 0) 103 46 0) := by
  obtain ⟨h1, h2, h3, h4, h5⟩ := h
  have f : mo_Fr mo_wA mo_wN t (ob_setI (ob_setI t 103 45 0) 103 46 0) := (mo_setN (Or.inl rfl)).tr (mo_setN (Or.inr rfl))
  exact ⟨⟨h1.fr f, by rw [ob_i_k (by decide), ob_i_self]; rfl, ob_i_self, by simp, fun i hi => absurd hi (Nat.not_lt_zero _)⟩, f⟩
theorem y_begin {t : ob_S} {L : List Nat} {last : Nat} (ty code id : Nat) (h : mo_Out t L last) (hc : code < 65536) (hid : id < 65536) : ∃ u, X_Mo_begin 103 (nI ty) (nI code) (nI id) t = some u ∧ mo_Out u [64 + 16 * ty + (if code = 0 then 0 else 1), code, id / 256, id % 256] 0 ∧ mo_Fr mo_wA mo_wN t u := by
  obtain ⟨o0, f0⟩ := y_zero h
  have key : ∀ c, c < 2 → ∃ u, B_Mo_begin_27 103 (nI code) (nI id) (nI c) ((64 : Int32) + ((16 : Int32) * nI ty)) 103 (ob_setI (ob_setI t 103 45 0) 103 46 0) = some u ∧ mo_Out u [64 + 16 * ty + c, code, id / 256, id % 256] 0 ∧ mo_Fr mo_wA mo_wN t u := by
    intro c hc
    obtain ⟨u1, e1, o1, f1⟩ := y_write (v := (64 : Int32) + ((16 : Int32) * nI ty) + nI c) (64 + 16 * ty + c) o0 (by rw [show (16 : Int32) = nI 16 from rfl, pk_mul, show (64 : Int32) = nI 64 from rfl, nI_add, nI_add]) (by simp)
    obtain ⟨u2, e2, o2, f2⟩ := y_write (v := nI code) code o1 rfl (by simp)
    obtain ⟨u3, e3, o3, f3⟩ := y_write (v := nI id / 256) (id / 256) o2 (pk_div (d := 256) (by omega) (by omega) (by omega)) (by simp)
    obtain ⟨u4, e4, o4, f4⟩ := y_write (v := nI id - nI id / 256 * 256) (id % 256) o3 (pk_rem (d := 256) (by omega) (by omega) (by omega)) (by simp)
    refine ⟨u4, ?_, o4, (((f0.tr f1).tr f2).tr f3).tr f4⟩
    rw [B_Mo_begin_27, ob_b_e e1, ob_b_e e2, ob_b_e e3, ob_b_e e4]
  have s1 : ob_is (ob_setI t 103 45 0) 103 11 := h.1.1
  rw [X_Mo_begin, ob_this_e h.1.1, ob_b_e (mo_P h.1), ob_b_e (ob_pI_e s1)]
  by_cases c : code = 0
  · rw [if_neg (show ¬ ¬ nI code = 0 from fun z => z (by rw [c]; rfl)), if_pos c]
    exact key 0 (by omega)
  · rw [if_pos (nI_ne0 (by omega) (by omega)), if_neg c]
    exact key 1 (by omega)
theorem y_head {t : ob_S} {L : List Nat} {last : Nat} (num c : Nat) (h : mo_Out t L last) (hn : last ≤ num) (hn2 : num < 200) (hl : L.length < 62) : ∃ u, X_Mo_head 103 (nI num) (nI c) t = some u ∧ mo_Out u (L ++ aw_head last num c) num ∧ mo_Fr mo_wA mo_wN t u := by
  have hh := h
  obtain ⟨h1, h2, h3, h4, h5⟩ := h
  have f0 : mo_Fr mo_wA mo_wN t (ob_setI t 103 46 (nI num)) := mo_setN (Or.inr rfl)
  have o0 : mo_Out (ob_setI t 103 46 (nI num)) L num := ⟨h1.fr f0, by rw [ob_i_k (by decide)]; exact h2, ob_i_self, h4, fun i hi => by rw [ob_i_n (by decide)]; exact h5 i hi⟩
  have es : nI num - nI last = nI (num - last) := nb_sub hn
  rw [X_Mo_head, ob_this_e h1.1, ob_b_e (mo_N h1 h3), ob_b_e (mo_P h1), es, aw_head]
  by_cases hd : num - last < 13
  · obtain ⟨u1, e1, o1, f1⟩ := y_write (v := ((16 : Int32) * nI (num - last)) + nI c) (16 * (num - last) + c) o0 (by rw [show (16 : Int32) = nI 16 from rfl, pk_mul, nI_add]) (by omega)
    rw [if_neg (show ¬ (13 : Int32) ≤ nI (num - last) from nI_ge (b := 13) hd (by omega)), ob_b_e e1, if_pos hd]
    exact ⟨u1, rfl, o1, f0.tr f1⟩
  · obtain ⟨u1, e1, o1, f1⟩ := y_write (v := (208 : Int32) + nI c) (208 + c) o0 (by rw [show (208 : Int32) = nI 208 from rfl, nI_add]) (by omega)
    obtain ⟨u2, e2, o2, f2⟩ := y_write (v := nI (num - last) - 13) (num - last - 13) o1 (by rw [show (13 : Int32) = nI 13 from rfl, nb_sub (by omega)]) (by simp; omega)
    rw [if_pos (show (13 : Int32) ≤ nI (num - last) from nI_le (a := 13) (by omega) (by omega)), ob_b_e e1, ob_b_e e2, if_neg hd]
    refine ⟨u2, rfl, ?_, (f0.tr f1).tr f2⟩
    rw [show L ++ [208 + c, num - last - 13] = L ++ [208 + c] ++ [num - last - 13] by simp]
    exact o2
theorem y_option {t : ob_S} {L : List Nat} {last : Nat} (num v : Nat) (h : mo_Out t L last) (hn : last ≤ num) (hn2 : num < 200) (hv : v < 65536) (hl : L.length < 60) : ∃ u, X_Mo_option 103 (nI num) (nI v) t = some u ∧ mo_Out u (L ++ aw_head last num (aw_n v) ++ aw_val v) num ∧ mo_Fr mo_wA mo_wN t u := by
  have hh := aw_head_len last num (aw_n v)
  obtain ⟨u1, e1, o1, f1⟩ := y_head num (aw_n v) h hn hn2 (by omega)
  have l1 : (L ++ aw_head last num (aw_n v)).length < 62 := by rw [List.length_append]; omega
  rw [X_Mo_option, ob_this_e h.1.1]
  by_cases h0 : v = 0
  · subst h0
    refine ⟨u1, ?_, by rw [show aw_val 0 = [] from rfl, List.append_nil]; exact o1, f1⟩
    rw [if_neg (by decide), B_Mo_option_22, ob_b_e (show X_Mo_head 103 (nI num) 0 t = some u1 from e1), if_pos (by decide), B_Mo_option_41, if_pos (by decide)]
  · rw [if_pos (nI_ne0 (by omega) (by omega))]
    by_cases h256 : v < 256
    · have en : aw_n v = 1 := by rw [aw_n, if_neg h0, if_pos h256]
      obtain ⟨u2, e2, o2, f2⟩ := y_write (v := nI v - nI v / 256 * 256) v o1 (by rw [show (256 : Int32) = nI 256 from rfl, pk_rem (by omega) (by omega) (by omega), Nat.mod_eq_of_lt h256]) (by omega)
      rw [en] at e1
      refine ⟨u2, ?_, by rw [show aw_val v = [v] by rw [aw_val, if_neg h0, if_pos h256]]; exact o2, f1.tr f2⟩
      rw [if_neg (show ¬ (256 : Int32) ≤ nI v from nI_ge (b := 256) h256 (by omega)), B_Mo_option_22, ob_b_e (show X_Mo_head 103 (nI num) 1 t = some u1 from e1), if_pos (show nI v ≤ (255 : Int32) from nI_le (b := 255) (by omega) (by omega)), B_Mo_option_41, if_neg (nI_nle (by omega) (by omega)), ob_b_e e2]
    · have en : aw_n v = 2 := by rw [aw_n, if_neg h0, if_neg h256]
      obtain ⟨u2, e2, o2, f2⟩ := y_write (v := nI v / 256) (v / 256) o1 (pk_div (d := 256) (by omega) (by omega) (by omega)) (by omega)
      obtain ⟨u3, e3, o3, f3⟩ := y_write (v := nI v - nI v / 256 * 256) (v % 256) o2 (pk_rem (d := 256) (by omega) (by omega) (by omega)) (by rw [List.length_append]; simp only [List.length_cons, List.length_nil]; omega)
      rw [en] at e1
      refine ⟨u3, ?_, ?_, (f1.tr f2).tr f3⟩
      · rw [if_pos (show (256 : Int32) ≤ nI v from nI_le (a := 256) (b := v) (by omega) (by omega)), B_Mo_option_22, ob_b_e (show X_Mo_head 103 (nI num) 2 t = some u1 from e1), if_neg (show ¬ nI v ≤ (255 : Int32) from nI_ge (a := 255) (b := v) (by omega) (by omega)), ob_b_e e2, B_Mo_option_41, if_neg (nI_nle (by omega) (by omega)), ob_b_e e3]
      · rw [show aw_val v = [v / 256, v % 256] by rw [aw_val, if_neg h0, if_neg h256], show L ++ aw_head last num (aw_n v) ++ [v / 256, v % 256] = L ++ aw_head last num (aw_n v) ++ [v / 256] ++ [v % 256] by simp]
        exact o3
theorem y_path {t : ob_S} {L : List Nat} {last : Nat} (p : Nat) (hp : p < 5) (h : mo_Out t L last) (hla : last ≤ 11) (hl : L.length < 50) : ∃ u, X_Mo_path 103 (nI p) t = some u ∧ mo_Out u (L ++ aw_path last p) 11 ∧ mo_Fr mo_wA mo_wN t u := by
  have hh1 := aw_head_len last 11 1
  have hh2 := aw_head_len last 11 2
  obtain ⟨a1, ea1, oa1, fa1⟩ := y_head 11 1 h hla (by omega) (by omega)
  obtain ⟨c1, ec1, oc1, fc1⟩ := y_head 11 2 h hla (by omega) (by omega)
  have la : (L ++ aw_head last 11 1).length < 52 := by rw [List.length_append]; omega
  have lc : (L ++ aw_head last 11 2).length < 52 := by rw [List.length_append]; omega
  rw [X_Mo_path, ob_this_e h.1.1]
  rcases (show p = 0 ∨ p = 1 ∨ p = 2 ∨ p = 3 ∨ p = 4 by omega) with rfl | rfl | rfl | rfl | rfl
  · obtain ⟨a2, ea2, oa2, fa2⟩ := y_write (v := 97) 97 oa1 rfl (by omega)
    refine ⟨a2, ?_, ?_, fa1.tr fa2⟩
    · rw [if_neg (by decide), if_pos (by decide), B_Mo_path_15, if_neg (by decide), if_pos (by decide), B_Mo_path_31, if_pos rfl, B_Mo_path_44, ob_b_e (show X_Mo_head 103 11 1 t = some a1 from ea1), if_pos rfl, if_pos (by decide), B_Mo_path_69, ob_b_e ea2, if_pos rfl, B_Mo_path_82, if_pos rfl]
    · rw [show L ++ aw_path last 0 = L ++ aw_head last 11 1 ++ [97] by simp [aw_path, pa1, pa2, tx]]
      exact oa2
  · obtain ⟨a2, ea2, oa2, fa2⟩ := y_write (v := 97) 97 oa1 rfl (by omega)
    obtain ⟨a3, ea3, oa3, fa3⟩ := y_head 11 1 oa2 (by omega) (by omega) (by rw [List.length_append]; simp only [List.length_cons, List.length_nil]; omega)
    obtain ⟨a4, ea4, oa4, fa4⟩ := y_write (v := 98) 98 oa3 rfl (by
      have := aw_head_len 11 11 1
      simp only [List.length_append, List.length_cons, List.length_nil] at la ⊢
      omega)
    refine ⟨a4, ?_, ?_, ((fa1.tr fa2).tr fa3).tr fa4⟩
    · rw [if_pos (by decide), B_Mo_path_10, B_Mo_path_15, if_neg (by decide), if_pos (by decide), B_Mo_path_31, if_pos rfl, B_Mo_path_44, ob_b_e (show X_Mo_head 103 11 1 t = some a1 from ea1), if_pos rfl, if_pos (by decide), B_Mo_path_69, ob_b_e ea2, if_pos rfl, B_Mo_path_82, if_neg (by decide), ob_b_e (show X_Mo_head 103 11 1 a2 = some a3 from ea3), if_pos rfl, B_Mo_path_105, ob_b_e ea4]
    · rw [show L ++ aw_path last 1 = L ++ aw_head last 11 1 ++ [97] ++ aw_head 11 11 1 ++ [98] by simp [aw_path, pa1, pa2, tx]]
      exact oa4
  · obtain ⟨a2, ea2, oa2, fa2⟩ := y_write (v := 99) 99 oc1 rfl (by omega)
    obtain ⟨a3, ea3, oa3, fa3⟩ := y_write (v := 99) 99 oa2 rfl (by rw [List.length_append]; simp only [List.length_cons, List.length_nil]; omega)
    refine ⟨a3, ?_, ?_, (fc1.tr fa2).tr fa3⟩
    · rw [if_neg (by decide), if_pos (by decide), B_Mo_path_15, if_pos (by decide), B_Mo_path_26, B_Mo_path_31, if_neg (by decide), B_Mo_path_44, ob_b_e (show X_Mo_head 103 11 2 t = some c1 from ec1), if_neg (by decide), B_Mo_path_69, ob_b_e ea2, if_neg (by decide), ob_b_e ea3, B_Mo_path_82, if_pos rfl]
    · rw [show L ++ aw_path last 2 = L ++ aw_head last 11 2 ++ [99] ++ [99] by simp [aw_path, pa1, pa2, tx]]
      exact oa3
  · obtain ⟨a2, ea2, oa2, fa2⟩ := y_write (v := 99) 99 oc1 rfl (by omega)
    obtain ⟨a3, ea3, oa3, fa3⟩ := y_write (v := 99) 99 oa2 rfl (by rw [List.length_append]; simp only [List.length_cons, List.length_nil]; omega)
    obtain ⟨a4, ea4, oa4, fa4⟩ := y_head 11 1 oa3 (by omega) (by omega) (by simp only [List.length_append, List.length_cons, List.length_nil] at lc ⊢; omega)
    obtain ⟨a5, ea5, oa5, fa5⟩ := y_write (v := 100) 100 oa4 rfl (by
      have := aw_head_len 11 11 1
      simp only [List.length_append, List.length_cons, List.length_nil] at lc ⊢
      omega)
    refine ⟨a5, ?_, ?_, (((fc1.tr fa2).tr fa3).tr fa4).tr fa5⟩
    · rw [if_neg (by decide), if_neg (by decide), B_Mo_path_10, B_Mo_path_15, if_neg (by decide), if_neg (by decide), B_Mo_path_26, B_Mo_path_31, if_neg (by decide), B_Mo_path_44, ob_b_e (show X_Mo_head 103 11 2 t = some c1 from ec1), if_neg (by decide), B_Mo_path_69, ob_b_e ea2, if_neg (by decide), ob_b_e ea3, B_Mo_path_82, if_neg (by decide), ob_b_e (show X_Mo_head 103 11 1 a3 = some a4 from ea4), if_neg (by decide), B_Mo_path_105, ob_b_e ea5]
    · rw [show L ++ aw_path last 3 = L ++ aw_head last 11 2 ++ [99] ++ [99] ++ aw_head 11 11 1 ++ [100] by simp [aw_path, pa1, pa2, tx]]
      exact oa5
  · obtain ⟨a2, ea2, oa2, fa2⟩ := y_write (v := 120) 120 oa1 rfl (by omega)
    refine ⟨a2, ?_, ?_, fa1.tr fa2⟩
    · rw [if_neg (by decide), if_pos (by decide), B_Mo_path_15, if_neg (by decide), if_pos (by decide), B_Mo_path_31, if_pos rfl, B_Mo_path_44, ob_b_e (show X_Mo_head 103 11 1 t = some a1 from ea1), if_pos rfl, if_neg (by decide), B_Mo_path_69, ob_b_e ea2, if_pos rfl, B_Mo_path_82, if_pos rfl]
    · rw [show L ++ aw_path last 4 = L ++ aw_head last 11 1 ++ [120] by simp [aw_path, pa1, pa2, tx]]
      exact oa2
