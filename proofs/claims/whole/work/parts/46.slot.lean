/-! LAYER 2, 8: a slot, the client, what it asks -/
/-- a slot at the object n: its numbers F (2 state, 3 token, 4 path, 5 szx, 6 num, 7 puts, 8 index, 9 uses, 10 isToWatch, 11 watches, 12 last, 13 reason), its body, what waits -/
def ob_Sl (t : ob_S) (n : Nat) (F : Nat → Nat) (B : List Nat) (o : Option ap_P) : Prop := ob_is t n 6 ∧ ob_r t n 0 = some (n + 1) ∧ ob_r t n 1 = some (n + 3) ∧ ob_By t (n + 1) (n + 2) 80 (nb B) ∧ ob_Pe t (n + 3) (n + 4) (n + 5) o ∧ ∀ k, 2 ≤ k → k < 14 → ob_i t n k = nI (F k)
theorem ob_Sl.fr {P : Nat → Prop} {t u : ob_S} {n : Nat} {F : Nat → Nat} {B : List Nat} {o : Option ap_P} (h : ob_Sl t n F B o) (f : ob_Fr P t u) (hP : ∀ q, n ≤ q → q < n + 6 → ¬ P q) : ob_Sl u n F B o := by
  obtain ⟨h1, h2, h3, h4, h5, h6⟩ := h
  have e := f.2.2.2 n (hP n (by omega) (by omega))
  exact ⟨h1.fr f, by rw [e.2]; exact h2, by rw [e.2]; exact h3, h4.fr f (hP _ (by omega) (by omega)) (hP _ (by omega) (by omega)), h5.fr f (hP _ (by omega) (by omega)) (hP _ (by omega) (by omega)) (hP _ (by omega) (by omega)), fun k a b => by rw [e.1]; exact h6 k a b⟩
theorem ob_Sl.set {t : ob_S} {n : Nat} {F : Nat → Nat} {B : List Nat} {o : Option ap_P} (h : ob_Sl t n F B o) (k x : Nat) : ob_Sl (ob_setI t n k (nI x)) n (va_up F k x) B o := by
  obtain ⟨h1, h2, h3, h4, h5, h6⟩ := h
  have f : ob_Fr (fun q => q = n) t (ob_setI t n k (nI x)) := ob_Fr.setI rfl
  refine ⟨h1, h2, h3, h4.fr f (by omega) (by omega), h5.fr f (by omega) (by omega) (by omega), fun j a b => ?_⟩
  by_cases hj : j = k
  · subst hj
    rw [ob_i_self, va_up_self]
  · rw [ob_i_k hj, va_up_ne _ _ hj]
    exact h6 j a b
/-- the pending part of a slot moves -/
theorem ob_Sl.pe {t u : ob_S} {n : Nat} {F : Nat → Nat} {B : List Nat} {o o' : Option ap_P} (h : ob_Sl t n F B o) (f : ob_Fr (ob_3 (n + 3) (n + 4) (n + 5)) t u) (hp : ob_Pe u (n + 3) (n + 4) (n + 5) o') : ob_Sl u n F B o' := by
  obtain ⟨h1, h2, h3, h4, h5, h6⟩ := h
  have e := f.2.2.2 n (by rintro (z | z | z) <;> omega)
  exact ⟨h1.fr f, by rw [e.2]; exact h2, by rw [e.2]; exact h3, h4.fr f (by rintro (z | z | z) <;> omega) (by rintro (z | z | z) <;> omega), hp, fun k a b => by rw [e.1]; exact h6 k a b⟩
theorem ob_Sl.by {t u : ob_S} {n : Nat} {F : Nat → Nat} {B B' : List Nat} {o : Option ap_P} (h : ob_Sl t n F B o) (f : ob_Fr (fun q => q = n + 1 ∨ q = n + 2) t u) (hp : ob_By u (n + 1) (n + 2) 80 (nb B')) : ob_Sl u n F B' o := by
  obtain ⟨h1, h2, h3, h4, h5, h6⟩ := h
  have e := f.2.2.2 n (by rintro (z | z) <;> omega)
  exact ⟨h1.fr f, by rw [e.2]; exact h2, by rw [e.2]; exact h3, hp, h5.fr f (by rintro (z | z) <;> omega) (by rintro (z | z) <;> omega) (by rintro (z | z) <;> omega), fun k a b => by rw [e.1]; exact h6 k a b⟩
/-- what is known of a slot's numbers -/
def sl_ok (F : Nat → Nat) (B : List Nat) : Prop := F 2 < 5 ∧ F 3 < 256 ∧ F 4 < 5 ∧ F 5 < 2 ∧ F 6 ≤ 5 ∧ F 7 < 2 ∧ F 8 < 2 ∧ F 9 < 20000 ∧ F 10 < 2 ∧ F 11 < 2 ∧ F 12 < 65536 ∧ F 13 < 256 ∧ B.length ≤ 80 ∧ ∀ x ∈ B, x < 256
/-- the client: 36, its row of slots 37; its next id -/
def ob_Cl (t : ob_S) (cn : Nat) : Prop := ob_is t 36 7 ∧ ob_r t 36 0 = some 37 ∧ ob_r t 36 1 = some 1 ∧ ob_r t 36 2 = some 50 ∧ ob_i t 36 3 = nI cn ∧ ob_is t 37 15 ∧ ob_l t 37 = 2 ∧ ob_r t 37 0 = some 38 ∧ ob_r t 37 1 = some 44 ∧ cn < 65536
theorem ob_Cl.fr {P : Nat → Prop} {t u : ob_S} {cn : Nat} (h : ob_Cl t cn) (f : ob_Fr P t u) (h6 : ¬ P 36) (h7 : ¬ P 37) : ob_Cl u cn := by
  obtain ⟨g1, g2, g3, g4, g5, g6, g7, g8, g9, g10⟩ := h
  have e := f.2.2.2 36 h6
  have d := f.2.2.2 37 h7
  exact ⟨g1.fr f, by rw [e.2]; exact g2, by rw [e.2]; exact g3, by rw [e.2]; exact g4, by rw [e.1]; exact g5, g6.fr f, by rw [f.2.2.1]; exact g7, by rw [d.2]; exact g8, by rw [d.2]; exact g9, g10⟩
/-- datagrams as numbers -/
abbrev ll (LL : List (List Nat × Nat)) : List (List Int32 × Int32) := LL.map (fun q => (nb q.1, nI q.2))
def af_send (LL : List (List Nat × Nat)) (row : List Nat) (e : Nat) : List (List Nat × Nat) := if LL.length < 16 then LL ++ [(row, e)] else LL
theorem x_send {t : ob_S} {LL : List (List Nat × Nat)} {n a m : Nat} {K : List Nat} (e : Nat) (h : ob_Li t (ll LL)) (hK : ob_By t n a m (nb K)) (hn : n = 0 ∨ 36 ≤ n) (ha : a = 0 ∨ 36 ≤ a) (hl : K.length ≤ 48) : ∃ u, X_Li_send 1 n (nI e) t = some u ∧ ob_Li u (ll (af_send LL K e)) ∧ ob_Fr (fun q => 1 ≤ q ∧ q < 36) t u := by
  obtain ⟨u, e1, l1, f1⟩ := x_Li_send (nI e) h hK hn ha (by rw [nb_len]; exact hl)
  refine ⟨u, e1, ?_, f1⟩
  rw [List.length_map] at l1
  unfold af_send
  by_cases hc : LL.length < 16
  · rw [if_pos hc] at l1 ⊢
    rw [show ll (LL ++ [(K, e)]) = ll LL ++ [(nb K, nI e)] by simp [ll]]
    exact l1
  · rw [if_neg hc] at l1 ⊢
    exact l1
def af_size (z : Nat) : Nat := if z = 0 then 16 else 32
def af_more (all num szx : Nat) : Nat := if (num + 1) * af_size szx < all then 1 else 0
def pa1 (p : Nat) : Nat := match p with
  | 0 => 0
  | 1 => 0
  | 2 => 1
  | 3 => 1
  | _ => 2
def pa2 (p : Nat) : Nat := match p with
  | 1 => 3
  | 3 => 4
  | _ => 5
def aw_path (last p : Nat) : List Nat := aw_head last 11 (tx (pa1 p)).length ++ tx (pa1 p) ++ (if tx (pa2 p) = [] then [] else aw_head 11 11 (tx (pa2 p)).length ++ tx (pa2 p))
theorem aw_path_len : ∀ p, p < 5 → (aw_path 0 p).length ≤ 5 ∧ (aw_path 6 p).length ≤ 5 := by decide +kernel
/-- the option and the payload of a request -/
def aw_blk (F : Nat → Nat) (B : List Nat) : List Nat := if F 7 = 0 then aw_head 11 23 (aw_n (16 * F 6 + F 5)) ++ aw_val (16 * F 6 + F 5) else aw_head 11 27 (aw_n (16 * F 6 + 8 * af_more B.length (F 6) (F 5) + F 5)) ++ aw_val (16 * F 6 + 8 * af_more B.length (F 6) (F 5) + F 5) ++ aw_pay B (F 6 * af_size (F 5)) (af_size (F 5))
def aw_pre (F : Nat → Nat) (cn : Nat) : List Nat := aw_begin 0 (if F 7 = 0 then 1 else 3) cn (F 3) ++ (if F 10 ≠ 0 ∧ F 6 = 0 then aw_head 0 6 0 ++ aw_path 6 (F 4) else aw_path 0 (F 4))
def af_ask (F : Nat → Nat) (B : List Nat) (cn : Nat) : List Nat := aw_pre F cn ++ aw_blk F B
theorem x_sizeOf (z : Nat) (hz : z < 2) (t : ob_S) : X_Ob_sizeOf (nI z) t = some (nI (af_size z), t) := by
  rcases (show z = 0 ∨ z = 1 by omega) with rfl | rfl <;> rfl
theorem x_following (n : Nat) (hn : n < 65536) (t : ob_S) : X_Ob_following (nI n) t = some (nI ((n + 1) % 65536), t) := by
  rw [X_Ob_following, nI_1, pk_andN (by omega) 16 (by decide)]
theorem x_seg1 (p : Nat) (hp : p < 5) (t : ob_S) : X_Ob_firstSegmentOf (nI p) t = some (pa1 p, t) := by
  rcases (show p = 0 ∨ p = 1 ∨ p = 2 ∨ p = 3 ∨ p = 4 by omega) with rfl | rfl | rfl | rfl | rfl <;> rfl
theorem x_seg2 (p : Nat) (hp : p < 5) (t : ob_S) : X_Ob_secondSegmentOf (nI p) t = some (pa2 p, t) := by
  rcases (show p = 0 ∨ p = 1 ∨ p = 2 ∨ p = 3 ∨ p = 4 by omega) with rfl | rfl | rfl | rfl | rfl <;> rfl
theorem pa_lt : ∀ p, p < 5 → pa1 p < 6 ∧ pa2 p < 6 := by decide
theorem x_blockOf (n m z : Nat) (hm : m < 2) (t : ob_S) : X_Ob_blockOf (nI n) (nI m) (nI z) t = some (nI (16 * n + 8 * m + z), t) := by
  rcases (show m = 0 ∨ m = 1 by omega) with rfl | rfl
  · rw [X_Ob_blockOf, if_pos (by decide), B_Ob_blockOf_14, show (16 : Int32) = nI 16 from rfl, pk_mul, show (0 : Int32) = nI 0 from rfl, nI_add, nI_add]
  · rw [X_Ob_blockOf, if_neg (by decide), B_Ob_blockOf_14, show (16 : Int32) = nI 16 from rfl, pk_mul, show (8 : Int32) = nI 8 from rfl, nI_add, nI_add]
theorem af_size_ok (z : Nat) : af_size z ≤ 32 ∧ 16 ≤ af_size z := by
  unfold af_size
  split <;> omega
theorem x_hasMore {t : ob_S} {n : Nat} {F : Nat → Nat} {B : List Nat} {o : Option ap_P} (h : ob_Sl t n F B o) (ok : sl_ok F B) : X_Sl_hasMoreToPut n t = some (nI (af_more B.length (F 6) (F 5)), t) := by
  obtain ⟨h1, h2, h3, h4, h5, h6⟩ := h
  obtain ⟨o2, o3, o4, o5, o6, o7, o8, o9, o10, o11, o12, o13, oB, oB2⟩ := ok
  have hs := af_size_ok (F 5)
  have hm : (F 6 + 1) * af_size (F 5) ≤ 6 * 32 := Nat.mul_le_mul (by omega) hs.1
  have e4 : ob_i t (n + 1) 1 = nI B.length := by rw [h4.2.2.2.2.2.2.1, nb_len]
  rw [X_Sl_hasMoreToPut, ob_this_e h1, ob_b_e (ob_gR_e h1 h2), ob_b_e (ob_gI_e h4.1 e4), ob_b_e (ob_gI_e h1 (h6 6 (by omega) (by omega))), ob_b_e (ob_gI_e h1 (h6 5 (by omega) (by omega))), ob_b2_e (x_sizeOf _ o5 t), nI_1, pk_mul, af_more]
  by_cases hc : (F 6 + 1) * af_size (F 5) < B.length
  · rw [if_pos hc, if_neg (nI_ge hc (by omega))]; rfl
  · rw [if_neg hc, if_pos (nI_le (by omega) (by omega))]; rfl
