/-! LAYER 2, 9: what the client asks -/
/-- the objects that an ask writes -/
abbrev ob_aP (n : Nat) : Nat → Prop := fun q => (1 ≤ q ∧ q < 37) ∨ (n ≤ q ∧ q < n + 6) ∨ (50 ≤ q ∧ q < 53)
/-- the client with a slot under way -/
def ob_As (t : ob_S) (n : Nat) (F : Nat → Nat) (B : List Nat) (o : Option ap_P) (cn : Nat) (LL : List (List Nat × Nat)) : Prop := ob_Sl t n F B o ∧ ob_Cl t cn ∧ ob_Li t (ll LL) ∧ (n = 38 ∨ n = 44) ∧ sl_ok F B
theorem ob_As.fr {P : Nat → Prop} {t u : ob_S} {n : Nat} {F : Nat → Nat} {B : List Nat} {o : Option ap_P} {cn : Nat} {LL : List (List Nat × Nat)} (h : ob_As t n F B o cn LL) (f : ob_Fr P t u) (hP : ∀ q, 1 ≤ q → q < 50 → ¬ P q) : ob_As u n F B o cn LL := by
  obtain ⟨h1, h2, h3, h4, h5⟩ := h
  exact ⟨h1.fr f (fun q a b => hP q (by omega) (by omega)), h2.fr f (hP _ (by omega) (by omega)) (hP _ (by omega) (by omega)), h3.fr f (fun q a b => hP q a (by omega)), h4, h5⟩
theorem ob_3lt {q : Nat} (h : ob_3 50 51 52 q) : 50 ≤ q ∧ q < 53 := by
  rcases h with h | h | h <;> omega
theorem x_ask_163 {t : ob_S} {n : Nat} {F : Nat → Nat} {B : List Nat} {o : Option ap_P} {cn : Nat} {LL : List (List Nat × Nat)} {L : List Nat} {last : Nat} (h : ob_As t n F B o cn LL) (hw : ob_Wr t 50 51 52 L last) (hl : L.length ≤ 48) : ∃ u, B_Cl_ask_163 36 n t = some u ∧ ob_As u n (va_up F 2 1) B (some (cn, 4, 4, 0, L)) ((cn + 1) % 65536) (af_send LL L 1) ∧ ob_Wr u 50 51 52 L last ∧ ob_Fr (ob_aP n) t u := by
  obtain ⟨hS, hC, hL, hn, ok⟩ := h
  have s0 := hS.set 2 1
  have f0 : ob_Fr (fun q => q = n) t (ob_setI t n 2 (nI 1)) := ob_Fr.setI rfl
  have c0 := hC.fr f0 (by omega) (by omega)
  have w0 := hw.fr f0 (by omega) (by omega) (by omega)
  have l0 := hL.fr f0 (fun q a b => by omega)
  obtain ⟨u1, e1, p1, f1⟩ := x_Pe_start cn hC.2.2.2.2.2.2.2.2.2 s0.2.2.2.2.1 w0.2.2.1 (by omega) (by omega) hl
  have s1 := s0.pe f1 p1
  have c1 := c0.fr f1 (by rintro (z | z | z) <;> omega) (by rintro (z | z | z) <;> omega)
  have w1 := w0.fr f1 (by rintro (z | z | z) <;> omega) (by rintro (z | z | z) <;> omega) (by rintro (z | z | z) <;> omega)
  have l1 := l0.fr f1 (fun q a b => by rintro (z | z | z) <;> omega)
  have f2 : ob_Fr (fun q => q = 36) u1 (ob_setI u1 36 3 (nI ((cn + 1) % 65536))) := ob_Fr.setI rfl
  have s2 := s1.fr f2 (fun q a b => by omega)
  have w2 := w1.fr f2 (by omega) (by omega) (by omega)
  have l2 := l1.fr f2 (fun q a b => by omega)
  obtain ⟨g1, g2, g3, g4, g5, g6, g7, g8, g9, g10⟩ := c1
  have c2 : ob_Cl (ob_setI u1 36 3 (nI ((cn + 1) % 65536))) ((cn + 1) % 65536) := ⟨g1, g2, g3, g4, ob_i_self, g6, g7, g8, g9, Nat.mod_lt _ (by omega)⟩
  obtain ⟨u3, e3, l3, f3⟩ := x_send 1 l2 w2.2.2.1 (Or.inr (by omega)) (Or.inr (by omega)) hl
  refine ⟨u3, ?_, ⟨s2.fr f3 (fun q a b => by omega), c2.fr f3 (by omega) (by omega), l3, hn, ?_⟩, w2.fr f3 (by omega) (by omega) (by omega), ?_⟩
  · rw [B_Cl_ask_163, ob_b_e (show ob_pI 6 2 n 1 t = some (ob_setI t n 2 (nI 1)) from ob_pI_e hS.1), ob_b_e (ob_gR_e s0.1 s0.2.2.1), ob_b_e (ob_gI_e c0.1 c0.2.2.2.2.1), ob_b_e (ob_gR_e c0.1 c0.2.2.2.1), ob_b_e (ob_gR_e w0.1 w0.2.1), ob_b_e e1, ob_b_e (ob_gI_e g1 g5), ob_b2_e (x_following _ g10 u1), ob_b_e (ob_pI_e g1), ob_b_e (ob_gR_e c2.1 c2.2.2.1), ob_b_e (ob_gR_e c2.1 c2.2.2.2.1), ob_b_e (ob_gR_e w2.1 w2.2.1), ob_b_e (show X_Li_send 1 51 1 _ = some u3 from e3)]
  · obtain ⟨o2, o3⟩ := ok
    exact ⟨by rw [va_up_self]; omega, o3⟩
  · refine (((f0.mono (fun q z => by omega)).tr (f1.mono (fun q z => by rcases z with z | z | z <;> omega))).tr (f2.mono (fun q z => by omega))).tr (f3.mono (fun q z => by omega))
theorem aw_n_lt (v : Nat) : aw_n v ≤ 2 := by
  unfold aw_n
  split
  · omega
  · split <;> omega
theorem aw_blk_len {F : Nat → Nat} {B : List Nat} (ok : sl_ok F B) : (aw_head 11 23 (aw_n (16 * F 6 + F 5))).length ≤ 2 ∧ (aw_head 11 27 (aw_n (16 * F 6 + 8 * af_more B.length (F 6) (F 5) + F 5))).length ≤ 2 := ⟨aw_head_len _ _ _, aw_head_len _ _ _⟩
theorem af_more_lt (a b c : Nat) : af_more a b c < 2 := by
  unfold af_more
  split <;> omega
theorem aw_val1 {v : Nat} (h : v < 256) : (aw_val v).length ≤ 1 := by
  by_cases h0 : v = 0
  · rw [aw_val, if_pos h0]; simp
  · rw [aw_val, if_neg h0, if_pos h]; simp
theorem x_ask_82 {t : ob_S} {n : Nat} {F : Nat → Nat} {B : List Nat} {o : Option ap_P} {cn : Nat} {LL : List (List Nat × Nat)} {L : List Nat} (h : ob_As t n F B o cn LL) (hw : ob_Wr t 50 51 52 L 11) (hl : L.length ≤ 11) : ∃ u, B_Cl_ask_82 36 n t = some u ∧ ob_As u n (va_up F 2 1) B (some (cn, 4, 4, 0, L ++ aw_blk F B)) ((cn + 1) % 65536) (af_send LL (L ++ aw_blk F B) 1) ∧ (∃ last, ob_Wr u 50 51 52 (L ++ aw_blk F B) last) ∧ ob_Fr (ob_aP n) t u := by
  have hh := h
  obtain ⟨hS, hC, hL, hn, ok⟩ := h
  have ok2 := ok
  obtain ⟨o2, o3, o4, o5, o6, o7, o8, o9, o10, o11, o12, o13, oB, oB2⟩ := ok
  have hS6 := hS.2.2.2.2.2
  have hsz := af_size_ok (F 5)
  by_cases hp : F 7 = 0
  · have e7 : ob_i t n 7 = 0 := by rw [hS6 7 (by omega) (by omega), hp]; rfl
    obtain ⟨u1, e1, w1, f1⟩ := x_Wr_addNumber 23 (16 * F 6 + F 5) hw (by omega) (by omega) (by omega) (by omega)
    have h1 := hh.fr f1 (fun q a b z => by have := ob_3lt z; omega)
    have hb1 := aw_head_len 11 23 (aw_n (16 * F 6 + F 5))
    have hv1 := aw_val_len (16 * F 6 + F 5)
    have el : L ++ aw_blk F B = L ++ aw_head 11 23 (aw_n (16 * F 6 + F 5)) ++ aw_val (16 * F 6 + F 5) := by rw [aw_blk, if_pos hp, List.append_assoc]
    obtain ⟨u2, e2, a2, w2, f2⟩ := x_ask_163 h1 w1 (by simp only [List.length_append]; omega)
    rw [el]
    refine ⟨u2, ?_, a2, ⟨_, w2⟩, (f1.mono (fun q z => by have := ob_3lt z; omega)).tr f2⟩
    have eb := x_blockOf (F 6) 0 (F 5) (by omega) t
    rw [show 16 * F 6 + 8 * 0 + F 5 = 16 * F 6 + F 5 by omega] at eb
    rw [B_Cl_ask_82, ob_b_e (ob_gI_e hS.1 e7), if_pos rfl, ob_b_e (ob_gR_e hC.1 hC.2.2.2.1), ob_b_e (ob_gI_e hS.1 (hS6 6 (by omega) (by omega))), ob_b_e (ob_gI_e hS.1 (hS6 5 (by omega) (by omega))), ob_b2_e (show X_Ob_blockOf (nI (F 6)) 0 (nI (F 5)) t = _ from eb), ob_b_e (show X_Wr_addNumber 50 23 (nI (16 * F 6 + F 5)) t = some u1 from e1)]
    exact e2
  · have e7 : ¬ ob_i t n 7 = 0 := by
      rw [hS6 7 (by omega) (by omega), show F 7 = 1 by omega]
      decide
    have hm2 := af_more_lt B.length (F 6) (F 5)
    have hvlt : 16 * F 6 + 8 * af_more B.length (F 6) (F 5) + F 5 < 256 := by omega
    obtain ⟨u1, e1, w1, f1⟩ := x_Wr_addNumber 27 (16 * F 6 + 8 * af_more B.length (F 6) (F 5) + F 5) hw (by omega) (by omega) (by omega) (by omega)
    have h1 := hh.fr f1 (fun q a b z => by have := ob_3lt z; omega)
    have hb1 := aw_head_len 11 27 (aw_n (16 * F 6 + 8 * af_more B.length (F 6) (F 5) + F 5))
    have hv1 := aw_val1 hvlt
    have hs1 := h1.1
    obtain ⟨u2, e2, w2, f2⟩ := x_Wr_addPayload (F 6 * af_size (F 5)) (af_size (F 5)) w1 hs1.2.2.2.1 (by omega) (by omega) ⟨by omega, by omega, by omega, by omega⟩ (by have : F 6 * af_size (F 5) ≤ 5 * 32 := Nat.mul_le_mul o6 hsz.1; omega) (by omega) (by simp only [List.length_append]; omega)
    have h2 := h1.fr f2 (fun q a b z => by have := ob_3lt z; omega)
    have el : L ++ aw_blk F B = L ++ aw_head 11 27 (aw_n (16 * F 6 + 8 * af_more B.length (F 6) (F 5) + F 5)) ++ aw_val (16 * F 6 + 8 * af_more B.length (F 6) (F 5) + F 5) ++ aw_pay B (F 6 * af_size (F 5)) (af_size (F 5)) := by rw [aw_blk, if_neg hp]; simp only [List.append_assoc]
    have hpl : (aw_pay B (F 6 * af_size (F 5)) (af_size (F 5))).length ≤ 1 + af_size (F 5) := by
      unfold aw_pay
      split
      · rw [List.length_cons, List.length_take]; omega
      · simp
    obtain ⟨u3, e3, a3, w3, f3⟩ := x_ask_163 h2 w2 (by simp only [List.length_append]; omega)
    rw [el]
    refine ⟨u3, ?_, a3, ⟨_, w3⟩, ((f1.mono (fun q z => by have := ob_3lt z; omega)).tr (f2.mono (fun q z => by have := ob_3lt z; omega))).tr f3⟩
    have hs6 := hs1.2.2.2.2.2
    have hC1 := h1.2.1
    rw [B_Cl_ask_82, ob_b_e (ob_gI_e hS.1 rfl), if_neg e7, ob_b_e (ob_gI_e hS.1 (hS6 5 (by omega) (by omega))), ob_b2_e (x_sizeOf _ o5 t), ob_b_e (ob_gR_e hC.1 hC.2.2.2.1), ob_b_e (ob_gI_e hS.1 (hS6 6 (by omega) (by omega))), ob_b2_e (x_hasMore hS ok2), ob_b_e (ob_gI_e hS.1 (hS6 5 (by omega) (by omega))), ob_b2_e (x_blockOf _ _ _ hm2 t), ob_b_e (show X_Wr_addNumber 50 27 (nI (16 * F 6 + 8 * af_more B.length (F 6) (F 5) + F 5)) t = some u1 from e1), ob_b_e (ob_gR_e hC1.1 hC1.2.2.2.1), ob_b_e (ob_gR_e hs1.1 hs1.2.1), ob_b_e (ob_gI_e hs1.1 (hs6 6 (by omega) (by omega))), pk_mul, ob_b_e e2]
    exact e3
theorem x_ask_45 {t : ob_S} {n : Nat} {F : Nat → Nat} {B : List Nat} {o : Option ap_P} {cn : Nat} {LL : List (List Nat × Nat)} {L : List Nat} {last : Nat} (h : ob_As t n F B o cn LL) (hw : ob_Wr t 50 51 52 L last) (hl : L.length ≤ 6) (hla : last = 0 ∨ last = 6) : ∃ u, B_Cl_ask_45 36 n t = some u ∧ ob_As u n (va_up F 2 1) B (some (cn, 4, 4, 0, L ++ aw_path last (F 4) ++ aw_blk F B)) ((cn + 1) % 65536) (af_send LL (L ++ aw_path last (F 4) ++ aw_blk F B) 1) ∧ (∃ last', ob_Wr u 50 51 52 (L ++ aw_path last (F 4) ++ aw_blk F B) last') ∧ ob_Fr (ob_aP n) t u := by
  have hh := h
  obtain ⟨hS, hC, hL, hn, ok⟩ := h
  have o4 := ok.2.2.1
  have hS6 := hS.2.2.2.2.2
  obtain ⟨i1, i2⟩ := pa_lt _ o4
  have hpl : (aw_path last (F 4)).length ≤ 5 := by
    rcases hla with rfl | rfl
    · exact (aw_path_len _ o4).1
    · exact (aw_path_len _ o4).2
  obtain ⟨u1, e1, w1, f1⟩ := x_Wr_addSegment i1 hw (by omega) (by omega)
  have h1 := hh.fr f1 (fun q a b z => by have := ob_3lt z; omega)
  have hs1 := h1.1
  have hs6 := hs1.2.2.2.2.2
  have hC1 := h1.2.1
  by_cases he : tx (pa2 (F 4)) = []
  · have ep : L ++ aw_path last (F 4) = L ++ aw_head last 11 (tx (pa1 (F 4))).length ++ tx (pa1 (F 4)) := by rw [aw_path, if_pos he, List.append_nil, List.append_assoc]
    obtain ⟨u2, e2, a2, w2, f2⟩ := x_ask_82 h1 w1 (by rw [← ep, List.length_append]; omega)
    rw [ep]
    refine ⟨u2, ?_, a2, w2, (f1.mono (fun q z => by have := ob_3lt z; omega)).tr f2⟩
    rw [B_Cl_ask_45, ob_b_e (ob_gR_e hC.1 hC.2.2.2.1), ob_b_e (ob_gI_e hS.1 (hS6 4 (by omega) (by omega))), ob_b2_e (x_seg1 _ o4 t), ob_b_e e1, ob_b_e (ob_gI_e hs1.1 (hs6 4 (by omega) (by omega))), ob_b2_e (x_seg2 _ o4 u1), ob_b2_e (x_Str_isEmpty i2 u1), if_pos he, if_pos (by decide)]
    exact e2
  · obtain ⟨u2, e2, w2, f2⟩ := x_Wr_addSegment i2 w1 (by omega) (by
      have q1 := aw_head_len last 11 (tx (pa1 (F 4))).length
      have q2 := (tx_ok _ i1).2.1
      simp only [List.length_append]
      omega)
    have h2 := h1.fr f2 (fun q a b z => by have := ob_3lt z; omega)
    have ep : L ++ aw_path last (F 4) = L ++ aw_head last 11 (tx (pa1 (F 4))).length ++ tx (pa1 (F 4)) ++ aw_head 11 11 (tx (pa2 (F 4))).length ++ tx (pa2 (F 4)) := by rw [aw_path, if_neg he]; simp only [List.append_assoc]
    obtain ⟨u3, e3, a3, w3, f3⟩ := x_ask_82 h2 w2 (by rw [← ep, List.length_append]; omega)
    rw [ep]
    refine ⟨u3, ?_, a3, w3, ((f1.mono (fun q z => by have := ob_3lt z; omega)).tr (f2.mono (fun q z => by have := ob_3lt z; omega))).tr f3⟩
    rw [B_Cl_ask_45, ob_b_e (ob_gR_e hC.1 hC.2.2.2.1), ob_b_e (ob_gI_e hS.1 (hS6 4 (by omega) (by omega))), ob_b2_e (x_seg1 _ o4 t), ob_b_e e1, ob_b_e (ob_gI_e hs1.1 (hs6 4 (by omega) (by omega))), ob_b2_e (x_seg2 _ o4 u1), ob_b2_e (x_Str_isEmpty i2 u1), if_neg he, if_neg (by decide), ob_b_e (ob_gR_e hC1.1 hC1.2.2.2.1), ob_b_e e2]
    exact e3
theorem x_asksToWatch {t : ob_S} {n : Nat} {F : Nat → Nat} {B : List Nat} {o : Option ap_P} (h : ob_Sl t n F B o) (ok : sl_ok F B) : X_Sl_asksToWatch n t = some (if F 10 ≠ 0 ∧ F 6 = 0 then 1 else 0, t) := by
  obtain ⟨h1, h2, h3, h4, h5, h6⟩ := h
  obtain ⟨o2, o3, o4, o5, o6, o7, o8, o9, o10, o11, o12, o13, oB, oB2⟩ := ok
  rw [X_Sl_asksToWatch, ob_this_e h1, ob_b_e (ob_gI_e h1 (h6 10 (by omega) (by omega)))]
  by_cases c1 : F 10 = 0
  · rw [c1, if_pos (by decide), if_neg (fun z => z.1 rfl)]; rfl
  · rw [if_neg (nI_ne0 (by omega) (by omega)), ob_b_e (ob_gI_e h1 (h6 6 (by omega) (by omega)))]
    by_cases c2 : F 6 = 0
    · rw [c2, if_neg (fun z => z rfl), if_pos ⟨c1, rfl⟩]; rfl
    · rw [if_pos (nI_ne0 (by omega) (by omega)), if_neg (fun z => c2 z.2)]; rfl
/-- ask -/
theorem x_Cl_ask {t : ob_S} {n : Nat} {F : Nat → Nat} {B : List Nat} {o : Option ap_P} {cn : Nat} {LL : List (List Nat × Nat)} {L : List Nat} {last : Nat} (h : ob_As t n F B o cn LL) (hw : ob_Wr t 50 51 52 L last) : ∃ u, X_Cl_ask 36 n t = some u ∧ ob_As u n (va_up F 2 1) B (some (cn, 4, 4, 0, af_ask F B cn)) ((cn + 1) % 65536) (af_send LL (af_ask F B cn) 1) ∧ (∃ L' last', ob_Wr u 50 51 52 L' last') ∧ ob_Fr (ob_aP n) t u := by
  have hh := h
  obtain ⟨hS, hC, hL, hn, ok⟩ := h
  have ok2 := ok
  obtain ⟨o2, o3, o4, o5, o6, o7, o8, o9, o10, o11, o12, o13, oB, oB2⟩ := ok
  have hS6 := hS.2.2.2.2.2
  obtain ⟨u1, e1, w1, f1⟩ := x_Wr_begin 0 (if F 7 = 0 then 1 else 3) cn (F 3) hw (by omega) (by split <;> omega) hC.2.2.2.2.2.2.2.2.2 o3
  have h1 := hh.fr f1 (fun q a b z => by have := ob_3lt z; omega)
  have key : ∃ u, B_Cl_ask_17 36 n (nI (if F 7 = 0 then 1 else 3)) 0 50 t = some u ∧ ob_As u n (va_up F 2 1) B (some (cn, 4, 4, 0, af_ask F B cn)) ((cn + 1) % 65536) (af_send LL (af_ask F B cn) 1) ∧ (∃ L' last', ob_Wr u 50 51 52 L' last') ∧ ob_Fr (ob_aP n) t u := by
    by_cases hc : F 10 ≠ 0 ∧ F 6 = 0
    · obtain ⟨u2, e2, w2, f2⟩ := x_Wr_addNumber 6 0 w1 (by omega) (by omega) (by omega) (by simp [aw_begin])
      rw [show aw_begin 0 (if F 7 = 0 then 1 else 3) cn (F 3) ++ aw_head 0 6 (aw_n 0) ++ aw_val 0 = aw_begin 0 (if F 7 = 0 then 1 else 3) cn (F 3) ++ aw_head 0 6 0 by rw [show aw_val 0 = [] from rfl, List.append_nil]; rfl] at w2
      have h2 := h1.fr f2 (fun q a b z => by have := ob_3lt z; omega)
      obtain ⟨u3, e3, a3, w3, f3⟩ := x_ask_45 h2 w2 (by simp [aw_begin, aw_head]) (Or.inr rfl)
      rw [show aw_begin 0 (if F 7 = 0 then 1 else 3) cn (F 3) ++ aw_head 0 6 0 ++ aw_path 6 (F 4) ++ aw_blk F B = af_ask F B cn by rw [af_ask, aw_pre, if_pos hc]; simp only [List.append_assoc]] at a3 w3
      refine ⟨u3, ?_, a3, ⟨_, w3⟩, ((f1.mono (fun q z => by have := ob_3lt z; omega)).tr (f2.mono (fun q z => by have := ob_3lt z; omega))).tr f3⟩
      rw [B_Cl_ask_17, ob_b_e (ob_gI_e hC.1 hC.2.2.2.2.1), ob_b_e (ob_gI_e hS.1 (hS6 3 (by omega) (by omega))), ob_b_e (show X_Wr_begin 50 0 (nI (if F 7 = 0 then 1 else 3)) (nI cn) (nI (F 3)) t = some u1 from e1), ob_b2_e (x_asksToWatch h1.1 ok2), if_pos hc, if_neg (by decide), ob_b_e (ob_gR_e h1.2.1.1 h1.2.1.2.2.2.1), ob_b_e (show X_Wr_addNumber 50 6 0 u1 = some u2 from e2)]
      exact e3
    · obtain ⟨u3, e3, a3, w3, f3⟩ := x_ask_45 h1 w1 (by simp [aw_begin]) (Or.inl rfl)
      rw [show aw_begin 0 (if F 7 = 0 then 1 else 3) cn (F 3) ++ aw_path 0 (F 4) ++ aw_blk F B = af_ask F B cn by rw [af_ask, aw_pre, if_neg hc]] at a3 w3
      refine ⟨u3, ?_, a3, ⟨_, w3⟩, (f1.mono (fun q z => by have := ob_3lt z; omega)).tr f3⟩
      rw [B_Cl_ask_17, ob_b_e (ob_gI_e hC.1 hC.2.2.2.2.1), ob_b_e (ob_gI_e hS.1 (hS6 3 (by omega) (by omega))), ob_b_e (show X_Wr_begin 50 0 (nI (if F 7 = 0 then 1 else 3)) (nI cn) (nI (F 3)) t = some u1 from e1), ob_b2_e (x_asksToWatch h1.1 ok2), if_neg hc, if_pos rfl]
      exact e3
  obtain ⟨u, e, a, w, f⟩ := key
  refine ⟨u, ?_, a, w, f⟩
  rw [X_Cl_ask, ob_this_e hC.1, ob_b_e (ob_gR_e hC.1 hC.2.2.2.1), ob_b_e (ob_gI_e hS.1 (hS6 7 (by omega) (by omega)))]
  by_cases hp : F 7 = 0
  · rw [hp, if_pos (by decide)]
    rw [if_pos hp] at e
    exact e
  · rw [if_neg (nI_ne0 (by omega) (by omega))]
    rw [if_neg hp] at e
    exact e
