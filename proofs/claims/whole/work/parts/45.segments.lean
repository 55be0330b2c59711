/-! LAYER 2, 7: segments and payloads -/
def tx (i : Nat) : List Nat := match i with
  | 0 => [97]
  | 1 => [99, 99]
  | 2 => [120]
  | 3 => [98]
  | 4 => [100]
  | _ => []
theorem tx_ok : ∀ i, i < 6 → ob_sl.getD i 0 = (tx i).length ∧ (tx i).length ≤ 2 ∧ ∀ k, k < (tx i).length → (ob_sb.getD i []).getD k 0 = nI ((tx i).getD k 0) ∧ (tx i).getD k 0 < 256 := by decide +kernel
theorem x_Str_length {i : Nat} (hi : i < 6) (t : ob_S) : X_Str_length i t = some (nI (tx i).length, t) := by
  rw [X_Str_length, if_pos hi, (tx_ok i hi).1]
  rfl
theorem x_Str_charAt {i k : Nat} (hi : i < 6) (hk : k < (tx i).length) (t : ob_S) : X_Str_charAt i (nI k) t = some (nI ((tx i).getD k 0), t) := by
  obtain ⟨h1, h2, h3⟩ := tx_ok i hi
  have e : (nI k).toNatClampNeg = k := nI_clamp (by omega)
  rw [X_Str_charAt, e, if_pos ⟨hi, fun z => z.elim (nI_pos (by omega)) (fun q => by rw [h1] at q; omega)⟩, (h3 k hk).1]
theorem x_Str_isEmpty {i : Nat} (hi : i < 6) (t : ob_S) : X_Str_isEmpty i t = some (if tx i = [] then 1 else 0, t) := by
  rw [X_Str_isEmpty, if_pos hi, (tx_ok i hi).1]
  by_cases h : tx i = []
  · rw [if_pos h, if_pos (by rw [h]; rfl)]
  · rw [if_neg h, if_neg (fun z => h (List.length_eq_zero_iff.mp z))]
theorem x_Wr_segLoop {w n a i : Nat} {last : Nat} (hi : i < 6) : ∀ (K : List Nat) (k fu : Nat) (t : ob_S) (L : List Nat), (tx i).drop k = K → k ≤ (tx i).length → K.length < fu → ob_Wr t w n a L last → L.length + K.length ≤ 48 → ∃ u, B_Wr_addSegment_12 fu w i (nI k) t = some u ∧ ob_Wr u w n a (L ++ K) last ∧ ob_Fr (ob_3 w n a) t u := by
  obtain ⟨h1, h2, h3⟩ := tx_ok i hi
  intro K
  induction K with
  | nil =>
    intro k fu t L hd hkl hf hw hl
    obtain ⟨fu, rfl⟩ : ∃ z, fu = z + 1 := ⟨fu - 1, by simp at hf; omega⟩
    have hk : (tx i).length ≤ k := List.drop_eq_nil_iff.mp hd
    refine ⟨t, ?_, by rw [List.append_nil]; exact hw, ob_Fr.rf⟩
    rw [B_Wr_addSegment_12, ob_b2_e (x_Str_length hi t), if_pos (nI_le hk (by omega))]
  | cons x K ih =>
    intro k fu t L hd hkl hf hw hl
    obtain ⟨fu, rfl⟩ : ∃ z, fu = z + 1 := ⟨fu - 1, by simp at hf; omega⟩
    have hlt : k < (tx i).length := by
      rcases Nat.lt_or_ge k (tx i).length with z | z
      · exact z
      · rw [List.drop_eq_nil_iff.mpr z] at hd
        cases hd
    have hx : (tx i).getD k 0 = x := by
      have e := congrArg (fun l => l[0]?) hd
      simp only [List.getElem?_drop, Nat.add_zero, List.getElem?_cons_zero] at e
      rw [List.getD_eq_getElem?_getD, e]
      rfl
    have hK : (tx i).drop (k + 1) = K := by
      have e := congrArg List.tail hd
      rw [List.tail_drop] at e
      exact e
    obtain ⟨c1, c2⟩ := h3 k hlt
    rw [hx] at c2
    simp only [List.length_cons] at hl hf
    obtain ⟨u1, e1, w1, f1⟩ := x_Wr_add (v := nI x) x hw (nb_and _ c2) (by omega)
    obtain ⟨u2, e2, w2, f2⟩ := ih (k + 1) fu u1 (L ++ [x]) hK (by omega) (by omega) w1 (by rw [List.length_append]; simp only [List.length_cons, List.length_nil]; omega)
    refine ⟨u2, ?_, ?_, f1.tr f2⟩
    · rw [B_Wr_addSegment_12, ob_b2_e (x_Str_length hi t), if_neg (nI_ge hlt (by omega)), ob_b_e (ob_gR_e hw.1 hw.2.1), ob_b2_e (x_Str_charAt hi hlt t), hx, ob_b_e e1, nI_1]
      exact e2
    · rw [show L ++ x :: K = L ++ [x] ++ K by simp]
      exact w2
theorem x_Wr_addSegment {t : ob_S} {w n a i : Nat} {L : List Nat} {last : Nat} (hi : i < 6) (h : ob_Wr t w n a L last) (hn : last ≤ 11) (hl : L.length < 42) : ∃ u, X_Wr_addSegment w i t = some u ∧ ob_Wr u w n a (L ++ aw_head last 11 (tx i).length ++ tx i) 11 ∧ ob_Fr (ob_3 w n a) t u := by
  have h2 := (tx_ok i hi).2.1
  obtain ⟨u1, e1, w1, f1⟩ := x_Wr_addHead 11 (tx i).length h hn (by omega) (by omega) (by omega)
  have hh := aw_head_len last 11 (tx i).length
  obtain ⟨u2, e2, w2, f2⟩ := x_Wr_segLoop hi (tx i) 0 ob_fu u1 _ rfl (Nat.zero_le _) (by show (tx i).length < 2000; omega) w1 (by rw [List.length_append]; omega)
  refine ⟨u2, ?_, w2, f1.tr f2⟩
  rw [X_Wr_addSegment, ob_this_e h.1, ob_b2_e (x_Str_length hi t), ob_b_e (show X_Wr_addHead w 11 (nI (tx i).length) t = some u1 from e1)]
  exact e2
/-- the payload that goes with a block -/
def aw_pay (K : List Nat) (st ct : Nat) : List Nat := if ct ≠ 0 ∧ st < K.length then 255 :: (K.drop st).take ct else []
theorem x_Wr_addPayload {t : ob_S} {w n a n2 a2 m2 : Nat} {L K : List Nat} {last : Nat} (st ct : Nat) (h : ob_Wr t w n a L last) (hK : ob_By t n2 a2 m2 (nb K)) (hd : a2 ≠ a) (hn2 : n2 ≠ n) (hw2 : w ≠ n2 ∧ w ≠ a2 ∧ n ≠ a2 ∧ a ≠ n2) (hst : st < 2 ^ 31) (hct : ct < 1000) (hl : L.length + 1 + ct ≤ 48) : ∃ u, X_Wr_addPayload w n2 (nI st) (nI ct) t = some u ∧ ob_Wr u w n a (L ++ aw_pay K st ct) last ∧ ob_Fr (ob_3 w n a) t u := by
  by_cases hc0 : ct = 0
  · refine ⟨t, ?_, by rw [aw_pay, if_neg (fun z => z.1 hc0), List.append_nil]; exact h, ob_Fr.rf⟩
    rw [X_Wr_addPayload, ob_this_e h.1, hc0, if_pos (by decide)]
  · have hh := x_By_has (nI st) hK
    rw [nb_len] at hh
    by_cases hs : st < K.length
    · have hm : K.length < 1000 := by
        have q1 := hK.2.2.2.2.1
        have q2 := hK.2.2.2.2.2.1
        rw [nb_len] at q2
        omega
      rw [if_neg (show ¬ (nI st < 0 ∨ nI K.length ≤ nI st) from fun z => z.elim (nI_pos hst) (nI_ge hs (by omega)))] at hh
      obtain ⟨u1, e1, w1, f1⟩ := x_Wr_add (v := 255) 255 h (by decide) (by omega)
      have K1 := hK.fr f1 (by rintro (z | z | z) <;> omega) (by rintro (z | z | z) <;> omega)
      obtain ⟨u2, e2, b2, f2⟩ := x_By_addFrom st ct w1.2.2.1 K1 hd hn2 (by rw [nb_len]; omega) (by omega) (by simp only [nb_len, List.length_append, List.length_cons, List.length_nil]; omega)
      have hwn : ¬ (w = n ∨ w = a) := fun z => z.elim h.2.2.2.2.1 h.2.2.2.2.2
      refine ⟨u2, ?_, ⟨w1.1.fr f2, by rw [(f2.2.2.2 w hwn).2]; exact w1.2.1, ?_, by rw [(f2.2.2.2 w hwn).1]; exact w1.2.2.2.1, h.2.2.2.2⟩, f1.tr (f2.mono (fun q z => Or.inr z))⟩
      · rw [X_Wr_addPayload, ob_this_e h.1, if_neg (nI_nle (by omega) (by omega)), ob_b2_e hh, if_neg (by decide), ob_b_e (ob_gR_e h.1 h.2.1), ob_b_e e1, ob_b_e (ob_gR_e w1.1 w1.2.1), ob_b_e e2]
      · rw [aw_pay, if_pos ⟨hc0, hs⟩, show L ++ 255 :: (K.drop st).take ct = L ++ [255] ++ (K.drop st).take ct by simp]
        rw [nb_app (L ++ [255])]
        rw [show nb ((K.drop st).take ct) = ((nb K).drop st).take ct by simp [nb, List.map_drop, List.map_take]]
        exact b2
    · rw [if_pos (show nI st < 0 ∨ nI K.length ≤ nI st from Or.inr (nI_le (by omega) hst))] at hh
      refine ⟨t, ?_, by rw [aw_pay, if_neg (fun z => hs z.2), List.append_nil]; exact h, ob_Fr.rf⟩
      rw [X_Wr_addPayload, ob_this_e h.1, if_neg (nI_nle (by omega) (by omega)), ob_b2_e hh, if_pos rfl]
