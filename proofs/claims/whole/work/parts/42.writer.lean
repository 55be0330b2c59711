/-! LAYER 2, 3: numbers, and the writer -/
theorem nb_and : ∀ x, x < 256 → nI x &&& 255 = nI x := by decide +kernel
theorem nb_div : ∀ x, x < 1100 → nI x / 16 = nI (x / 16) := by decide +kernel
theorem nb_rem : ∀ x, x < 1100 → nI x - nI x / 16 * 16 = nI (x % 16) := by decide +kernel
theorem nb_mul (a b : Nat) : nI a * nI b = nI (a * b) := (Int32.ofNat_mul a b).symm
theorem nb_sub {a b : Nat} (h : b ≤ a) : nI a - nI b = nI (a - b) := by
  have e : nI a = nI (a - b) + nI b := by rw [nI_add]; congr 1; omega
  rw [e, Int32.add_sub_cancel]
theorem nb_bv {x : Nat} (h : x < 2 ^ 32) : (nI x).toBitVec.toNat = x := by
  show (BitVec.ofNat 32 x).toNat = x
  rw [BitVec.toNat_ofNat]
  exact Nat.mod_eq_of_lt h
theorem nb_lo (x : Nat) (h : x < 65536) : nI x &&& 255 = nI (x % 256) := by
  rw [pk_and (nI x) (m := 255) 8 (by decide), nb_bv (by omega)]
theorem nb_hi (x : Nat) (h : x < 65536) : (nI x >>> ((8 : Int32) &&& 31)) &&& 255 = nI (x / 256) := by
  rw [pk_shrN (by omega) ((8 : Int32) &&& 31) 8 (by decide)]
  exact nb_and _ (by omega)
/-- rows of bytes as numbers -/
abbrev nb (L : List Nat) : List Int32 := L.map nI
theorem nb_app (L K : List Nat) : nb (L ++ K) = nb L ++ nb K := List.map_append
theorem nb_len (L : List Nat) : (nb L).length = L.length := List.length_map _
/-- a Writer w over the row n, its array a -/
def ob_Wr (t : ob_S) (w n a : Nat) (L : List Nat) (last : Nat) : Prop := ob_is t w 4 ∧ ob_r t w 0 = some n ∧ ob_By t n a 48 (nb L) ∧ ob_i t w 1 = nI last ∧ w ≠ n ∧ w ≠ a
theorem ob_Wr.fr {P : Nat → Prop} {t u : ob_S} {w n a : Nat} {L : List Nat} {last : Nat} (h : ob_Wr t w n a L last) (f : ob_Fr P t u) (hw : ¬ P w) (hn : ¬ P n) (ha : ¬ P a) : ob_Wr u w n a L last :=
  ⟨⟨by rw [f.1]; exact h.1.1, by rw [f.2.1]; exact h.1.2⟩, by rw [(f.2.2.2 w hw).2]; exact h.2.1, h.2.2.1.fr f hn ha, by rw [(f.2.2.2 w hw).1]; exact h.2.2.2.1, h.2.2.2.2⟩
abbrev ob_3 (w n a : Nat) : Nat → Prop := fun q => q = w ∨ q = n ∨ q = a
/-- a byte goes behind the others -/
theorem x_Wr_add {t : ob_S} {w n a : Nat} {L : List Nat} {last : Nat} {v : Int32} (x : Nat) (h : ob_Wr t w n a L last) (hv : v &&& 255 = nI x) (hl : L.length < 48) : ∃ u, X_By_add n v t = some u ∧ ob_Wr u w n a (L ++ [x]) last ∧ ob_Fr (ob_3 w n a) t u := by
  obtain ⟨h1, h2, h3, h4, h5, h6⟩ := h
  obtain ⟨u, e, b, f⟩ := x_By_add v h3 (by rw [nb_len]; exact hl)
  refine ⟨u, e, ⟨⟨by rw [f.1]; exact h1.1, by rw [f.2.1]; exact h1.2⟩, by rw [(f.2.2.2 w (fun z => z.elim h5 h6)).2]; exact h2, ?_, by rw [(f.2.2.2 w (fun z => z.elim h5 h6)).1]; exact h4, h5, h6⟩, f.mono (fun q z => Or.inr z)⟩
  rw [hv] at b
  rw [nb_app]
  exact b
theorem x_Wr_clear {t : ob_S} {w n a : Nat} {L : List Nat} {last : Nat} (h : ob_Wr t w n a L last) : ∃ u, X_By_clear n t = some u ∧ ob_Wr u w n a [] last ∧ ob_Fr (ob_3 w n a) t u := by
  obtain ⟨h1, h2, h3, h4, h5, h6⟩ := h
  obtain ⟨u, e, b, f⟩ := x_By_clear h3
  exact ⟨u, e, ⟨⟨by rw [f.1]; exact h1.1, by rw [f.2.1]; exact h1.2⟩, by rw [(f.2.2.2 w (fun z => z.elim h5 h6)).2]; exact h2, b, by rw [(f.2.2.2 w (fun z => z.elim h5 h6)).1]; exact h4, h5, h6⟩, f.mono (fun q z => Or.inr z)⟩
theorem x_Wr_last {t : ob_S} {w n a : Nat} {L : List Nat} {last : Nat} (x : Nat) (h : ob_Wr t w n a L last) : ob_Wr (ob_setI t w 1 (nI x)) w n a L x ∧ ob_Fr (ob_3 w n a) t (ob_setI t w 1 (nI x)) := by
  obtain ⟨h1, h2, h3, h4, h5, h6⟩ := h
  have F : ob_Fr (fun q => q = w) t (ob_setI t w 1 (nI x)) := ob_Fr.setI rfl
  exact ⟨⟨h1, h2, h3.fr F h5.symm h6.symm, ob_i_self, h5, h6⟩, F.mono (fun q z => Or.inl z)⟩
/-- the first bytes of a message -/
def aw_begin (ty code id tok : Nat) : List Nat := [64 + 16 * ty + 1, code, id / 256, id % 256, tok]
def aw_empty (ty id : Nat) : List Nat := [64 + 16 * ty, 0, id / 256, id % 256]
def aw_head (last num n : Nat) : List Nat := if num - last < 13 then [16 * (num - last) + n] else [208 + n, num - last - 13]
def aw_n (v : Nat) : Nat := if v = 0 then 0 else if v < 256 then 1 else 2
def aw_val (v : Nat) : List Nat := if v = 0 then [] else if v < 256 then [v] else [v / 256, v % 256]
theorem x_Wr_begin {t : ob_S} {w n a : Nat} {L : List Nat} {last : Nat} (ty code id tok : Nat) (h : ob_Wr t w n a L last) (hty : ty < 4) (hc : code < 256) (hid : id < 65536) (htok : tok < 256) : ∃ u, X_Wr_begin w (nI ty) (nI code) (nI id) (nI tok) t = some u ∧ ob_Wr u w n a (aw_begin ty code id tok) 0 ∧ ob_Fr (ob_3 w n a) t u := by
  obtain ⟨u0, e0, w0, f0⟩ := x_Wr_clear h
  obtain ⟨u1, e1, w1, f1⟩ := x_Wr_add (v := (((64 : Int32) + ((16 : Int32) * nI ty)) + (1 : Int32))) (64 + 16 * ty + 1) w0 (by rcases (show ty = 0 ∨ ty = 1 ∨ ty = 2 ∨ ty = 3 by omega) with rfl | rfl | rfl | rfl <;> decide) (by simp)
  obtain ⟨u2, e2, w2, f2⟩ := x_Wr_add (v := nI code) code w1 (nb_and _ hc) (by simp)
  obtain ⟨u3, e3, w3, f3⟩ := x_Wr_add (v := nI id >>> ((8 : Int32) &&& 31)) (id / 256) w2 (nb_hi _ hid) (by simp)
  obtain ⟨u4, e4, w4, f4⟩ := x_Wr_add (v := nI id) (id % 256) w3 (nb_lo _ hid) (by simp)
  obtain ⟨u5, e5, w5, f5⟩ := x_Wr_add (v := nI tok) tok w4 (nb_and _ htok) (by simp)
  obtain ⟨w6, f6⟩ := x_Wr_last 0 w5
  refine ⟨_, ?_, w6, ((((((f0.tr f1).tr f2).tr f3).tr f4).tr f5).tr f6)⟩
  rw [X_Wr_begin, ob_this_e h.1, ob_b_e (ob_gR_e h.1 h.2.1), ob_b_e e0, ob_b_e (ob_gR_e w0.1 w0.2.1), ob_b_e e1, ob_b_e (ob_gR_e w1.1 w1.2.1), ob_b_e e2, ob_b_e (ob_gR_e w2.1 w2.2.1), ob_b_e e3, ob_b_e (ob_gR_e w3.1 w3.2.1), ob_b_e e4, ob_b_e (ob_gR_e w4.1 w4.2.1), ob_b_e e5, ob_b_e (ob_pI_e w5.1)]
  rfl
theorem x_Wr_beginEmpty {t : ob_S} {w n a : Nat} {L : List Nat} {last : Nat} (ty id : Nat) (h : ob_Wr t w n a L last) (hty : ty < 4) (hid : id < 65536) : ∃ u, X_Wr_beginEmpty w (nI ty) (nI id) t = some u ∧ ob_Wr u w n a (aw_empty ty id) last ∧ ob_Fr (ob_3 w n a) t u := by
  obtain ⟨u0, e0, w0, f0⟩ := x_Wr_clear h
  obtain ⟨u1, e1, w1, f1⟩ := x_Wr_add (v := ((64 : Int32) + ((16 : Int32) * nI ty))) (64 + 16 * ty) w0 (by rcases (show ty = 0 ∨ ty = 1 ∨ ty = 2 ∨ ty = 3 by omega) with rfl | rfl | rfl | rfl <;> decide) (by simp)
  obtain ⟨u2, e2, w2, f2⟩ := x_Wr_add (v := (0 : Int32)) 0 w1 (by decide) (by simp)
  obtain ⟨u3, e3, w3, f3⟩ := x_Wr_add (v := nI id >>> ((8 : Int32) &&& 31)) (id / 256) w2 (nb_hi _ hid) (by simp)
  obtain ⟨u4, e4, w4, f4⟩ := x_Wr_add (v := nI id) (id % 256) w3 (nb_lo _ hid) (by simp)
  refine ⟨_, ?_, w4, ((((f0.tr f1).tr f2).tr f3).tr f4)⟩
  rw [X_Wr_beginEmpty, ob_this_e h.1, ob_b_e (ob_gR_e h.1 h.2.1), ob_b_e e0, ob_b_e (ob_gR_e w0.1 w0.2.1), ob_b_e e1, ob_b_e (ob_gR_e w1.1 w1.2.1), ob_b_e e2, ob_b_e (ob_gR_e w2.1 w2.2.1), ob_b_e e3, ob_b_e (ob_gR_e w3.1 w3.2.1), ob_b_e e4]
/-- a head: the number grows by at most 27, the value has at most 12 bytes -/
theorem x_Wr_addHead {t : ob_S} {w n a : Nat} {L : List Nat} {last : Nat} (num c : Nat) (h : ob_Wr t w n a L last) (hn : last ≤ num) (hn2 : num < 200) (hc : c < 13) (hl : L.length < 46) : ∃ u, X_Wr_addHead w (nI num) (nI c) t = some u ∧ ob_Wr u w n a (L ++ aw_head last num c) num ∧ ob_Fr (ob_3 w n a) t u := by
  have es : nI num - nI last = nI (num - last) := nb_sub hn
  have em : ob_mn (nI (num - last)) (13 : Int32) = nI (min (num - last) 13) := ob_mn_nI (b := 13) (by omega) (by omega)
  have ev : ((16 : Int32) * nI (min (num - last) 13)) + nI c = nI (16 * min (num - last) 13 + c) := by
    rw [show (16 : Int32) = nI 16 from rfl, nb_mul, nI_add]
  by_cases hd : num - last < 13
  · obtain ⟨u1, e1, w1, f1⟩ := x_Wr_add (v := nI (16 * min (num - last) 13 + c)) (16 * (num - last) + c) h (by rw [Nat.min_eq_left (by omega)]; exact nb_and _ (by omega)) (by omega)
    obtain ⟨w2, f2⟩ := x_Wr_last num w1
    refine ⟨_, ?_, ?_, f1.tr f2⟩
    · rw [X_Wr_addHead, ob_this_e h.1, ob_b_e (ob_gI_e h.1 h.2.2.2.1), ob_b_e (ob_gR_e h.1 h.2.1), es, em, ev, ob_b_e e1, if_pos (show nI (num - last) < (13 : Int32) from nI_lt (b := 13) hd (by omega)), B_Wr_addHead_42, ob_b_e (ob_pI_e w1.1)]
    · rw [aw_head, if_pos hd]
      exact w2
  · obtain ⟨u1, e1, w1, f1⟩ := x_Wr_add (v := nI (16 * min (num - last) 13 + c)) (208 + c) h (by rw [Nat.min_eq_right (by omega)]; exact nb_and _ (by omega)) (by omega)
    obtain ⟨u2, e2, w2, f2⟩ := x_Wr_add (v := nI (num - last) - 13) (num - last - 13) w1 (by rw [show (13 : Int32) = nI 13 from rfl, nb_sub (by omega)]; exact nb_and _ (by omega)) (by simp; omega)
    obtain ⟨w3, f3⟩ := x_Wr_last num w2
    refine ⟨_, ?_, ?_, (f1.tr f2).tr f3⟩
    · rw [X_Wr_addHead, ob_this_e h.1, ob_b_e (ob_gI_e h.1 h.2.2.2.1), ob_b_e (ob_gR_e h.1 h.2.1), es, em, ev, ob_b_e e1, if_neg (show ¬ nI (num - last) < (13 : Int32) from nI_nlt (a := num - last) (b := 13) (by omega) (by omega)), ob_b_e (ob_gR_e w1.1 w1.2.1), ob_b_e e2, B_Wr_addHead_42, ob_b_e (ob_pI_e w2.1)]
    · rw [aw_head, if_neg hd, show L ++ [208 + c, num - last - 13] = L ++ [208 + c] ++ [num - last - 13] by simp]
      exact w3
theorem aw_head_len (last num n : Nat) : (aw_head last num n).length ≤ 2 := by
  unfold aw_head
  split <;> simp
theorem aw_val_len (v : Nat) : (aw_val v).length ≤ 2 := by
  unfold aw_val
  split
  · simp
  · split <;> simp
theorem x_Wr_addNumber {t : ob_S} {w n a : Nat} {L : List Nat} {last : Nat} (num v : Nat) (h : ob_Wr t w n a L last) (hn : last ≤ num) (hn2 : num < 200) (hv : v < 65536) (hl : L.length < 44) : ∃ u, X_Wr_addNumber w (nI num) (nI v) t = some u ∧ ob_Wr u w n a (L ++ aw_head last num (aw_n v) ++ aw_val v) num ∧ ob_Fr (ob_3 w n a) t u := by
  obtain ⟨u1, e1, w1, f1⟩ := x_Wr_addHead num (aw_n v) h hn hn2 (by unfold aw_n; split; omega; split <;> omega) (by omega)
  have hl1 : (L ++ aw_head last num (aw_n v)).length < 46 := by
    have := aw_head_len last num (aw_n v)
    rw [List.length_append]
    omega
  by_cases h0 : v = 0
  · subst h0
    refine ⟨u1, ?_, ?_, f1⟩
    · rw [X_Wr_addNumber, ob_this_e h.1, if_neg (by decide), B_Wr_addNumber_20, ob_b_e (show X_Wr_addHead w (nI num) 0 t = some u1 from e1), if_pos (by decide), B_Wr_addNumber_43, if_pos rfl]
    · rw [show aw_val 0 = [] from rfl, List.append_nil]
      exact w1
  · by_cases h256 : v < 256
    · have en : aw_n v = 1 := by rw [aw_n, if_neg h0, if_pos h256]
      obtain ⟨u2, e2, w2, f2⟩ := x_Wr_add (v := nI v) v w1 (nb_and _ h256) (by omega)
      rw [en] at e1 w1 w2
      refine ⟨u2, ?_, ?_, f1.tr f2⟩
      · rw [X_Wr_addNumber, ob_this_e h.1, if_pos (nI_ne0 (by omega) (by omega)), if_neg (show ¬ (256 : Int32) ≤ nI v from nI_ge (b := 256) h256 (by omega)), B_Wr_addNumber_20, ob_b_e (show X_Wr_addHead w (nI num) 1 t = some u1 from e1), if_pos (by decide), B_Wr_addNumber_43, if_neg (by decide), ob_b_e (ob_gR_e w1.1 w1.2.1), ob_b_e e2]
      · rw [en, show aw_val v = [v] by rw [aw_val, if_neg h0, if_pos h256]]
        exact w2
    · have en : aw_n v = 2 := by rw [aw_n, if_neg h0, if_neg h256]
      obtain ⟨u2, e2, w2, f2⟩ := x_Wr_add (v := nI v >>> ((8 : Int32) &&& 31)) (v / 256) w1 (nb_hi _ hv) (by omega)
      obtain ⟨u3, e3, w3, f3⟩ := x_Wr_add (v := nI v) (v % 256) w2 (nb_lo _ hv) (by rw [List.length_append]; simp only [List.length_cons, List.length_nil]; omega)
      rw [en] at e1 w1 w2 w3
      refine ⟨u3, ?_, ?_, (f1.tr f2).tr f3⟩
      · rw [X_Wr_addNumber, ob_this_e h.1, if_pos (nI_ne0 (by omega) (by omega)), if_pos (show (256 : Int32) ≤ nI v from nI_le (a := 256) (b := v) (by omega) (by omega)), B_Wr_addNumber_20, ob_b_e (show X_Wr_addHead w (nI num) 2 t = some u1 from e1), if_neg (by decide), ob_b_e (ob_gR_e w1.1 w1.2.1), ob_b_e e2, B_Wr_addNumber_43, if_neg (by decide), ob_b_e (ob_gR_e w2.1 w2.2.1), ob_b_e e3]
      · rw [en, show aw_val v = [v / 256, v % 256] by rw [aw_val, if_neg h0, if_neg h256]]
        rw [show L ++ aw_head last num 2 ++ [v / 256, v % 256] = L ++ aw_head last num 2 ++ [v / 256] ++ [v % 256] by simp]
        exact w3
