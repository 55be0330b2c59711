/-! LAYER 2, 19: steps of the server -/
section SVU
variable {t u : ob_S} {v : sv_S}
theorem sv_ws.at {W : List sv_W} {k : Nat} (h : sv_ws t W) (hk : k < W.length) : ∃ j x, j < 2 ∧ ob_r t 72 k = some (73 + 4 * j) ∧ W[k]? = some x ∧ ob_Wa t j x := by
  obtain ⟨h0, r, r1, r2, r3, r4, r5⟩ := h
  exact ⟨r k, W[k], r1 k (by omega), r3 k (by omega), List.getElem?_eq_getElem hk, r5 k _ (List.getElem?_eq_getElem hk)⟩
theorem sv_ws.upd {W : List sv_W} {k j : Nat} {v' : sv_W} {P : Nat → Prop} (h : sv_ws t W) (hk : k < W.length) (hj : ob_r t 72 k = some (73 + 4 * j)) (f : ob_Fr P t u) (hP : ∀ q, 72 ≤ q → q < 81 → ¬ (73 + 4 * j ≤ q ∧ q < 77 + 4 * j) → ¬ P q) (hw : ob_Wa u j v') : sv_ws u (W.set k v') := by
  obtain ⟨h0, r, r1, r2, r3, r4, r5⟩ := h
  have e : r k = j := by
    have := Option.some.inj ((r3 k (by omega)).symm.trans hj)
    omega
  subst e
  refine ⟨by rw [List.length_set]; exact h0, r, r1, r2, fun i hi => by rw [(f.2.2.2 72 (hP 72 (by omega) (by omega) (by omega))).2]; exact r3 i hi, fun i hi => ?_, fun i v hv => ?_⟩
  · by_cases e : i = r k
    · subst e
      exact ⟨v', hw⟩
    · obtain ⟨v, hv⟩ := r4 i hi
      exact ⟨v, hv.fr f (fun q a b => hP q (by omega) (by omega) (by omega))⟩
  · by_cases e : i = k
    · subst e
      rw [List.getElem?_set_self hk] at hv
      cases hv
      exact hw
    · rw [List.getElem?_set_ne (Ne.symm e)] at hv
      have hi : i < W.length := (List.getElem?_eq_some_iff.mp hv).1
      have hne : r i ≠ r k := fun z => e (r2 i k (by omega) (by omega) z)
      have := r1 i (by omega)
      exact (r5 i v hv).fr f (fun q a b => hP q (by omega) (by omega) (by omega))
theorem ob_Sv.wr {L : List Nat} {last : Nat} (h : ob_Sv t v) (f : ob_Fr (ob_3 93 94 95) t u) (hw : ob_Wr u 93 94 95 L last) : ob_Sv u v := by
  obtain ⟨h1, ⟨a1, a2, a3, a4, a5⟩, h3, h4, h5, h6, h7, -, h9⟩ := h
  have np : ∀ q, q < 93 → ¬ ob_3 93 94 95 q := fun q hq z => by have := ob_3s z; omega
  have e := f.2.2.2 53 (np _ (by omega))
  exact ⟨h1.fr f e.2 (f.2.2.2 54 (np _ (by omega))).2 (f.2.2.2 55 (np _ (by omega))).2, ⟨by rw [e.1]; exact a1, by rw [e.1]; exact a2, by rw [e.1]; exact a3, by rw [e.1]; exact a4, a5⟩, h3.fr f (fun r hr => ⟨np _ (by omega), np _ (by omega)⟩), h4.fr f (fun r hr => ⟨np _ (by omega), np _ (by omega)⟩), h5.fr f (fun q a b => np _ (by omega)), h6.fr f (fun q a b => np _ (by omega)), h7.fr f (fun q a b => np _ (by omega)), ⟨L, last, hw⟩, h9⟩
/-- a number of the server itself -/
theorem ob_Sv.num (h : ob_Sv t v) (k : Nat) (x : Int32) {hd : Int32} {se nx : Nat} (hs : sv_sc (ob_setI t 53 k x) hd v.2.2.1.length se nx) : ob_Sv (ob_setI t 53 k x) (v.1, v.2.1, v.2.2.1, v.2.2.2.1, hd, se, nx, v.2.2.2.2.2.2.2) := by
  obtain ⟨h1, -, h3, h4, h5, h6, h7, ⟨L, last, h8⟩, h9⟩ := h
  have f : ob_Fr (fun q => q = 53) t (ob_setI t 53 k x) := ob_Fr.setI rfl
  exact ⟨h1.fr f rfl rfl rfl, hs, h3.fr f (fun r hr => ⟨by omega, by omega⟩), h4.fr f (fun r hr => ⟨by omega, by omega⟩), h5.fr f (fun q a b => by omega), h6.fr f (fun q a b => by omega), h7.fr f (fun q a b => by omega), ⟨L, last, h8.fr f (by omega) (by omega) (by omega)⟩, h9⟩
theorem ob_Sv.seen (h : ob_Sv t v) (x : Nat) (hx : x < 65536) : ob_Sv (ob_setI t 53 3 (nI x)) (v.1, v.2.1, v.2.2.1, v.2.2.2.1, v.2.2.2.2.1, x, v.2.2.2.2.2.2) := by
  obtain ⟨a1, a2, a3, a4, a5, a6⟩ := h.2.1
  exact h.num 3 (nI x) ⟨by rw [ob_i_k (by omega)]; exact a1, by rw [ob_i_k (by omega)]; exact a2, ob_i_self, by rw [ob_i_k (by omega)]; exact a4, hx, a6⟩
theorem ob_Sv.nx (h : ob_Sv t v) (x : Nat) (hx : x < 65536) : ob_Sv (ob_setI t 53 9 (nI x)) (v.1, v.2.1, v.2.2.1, v.2.2.2.1, v.2.2.2.2.1, v.2.2.2.2.2.1, x, v.2.2.2.2.2.2.2) := by
  obtain ⟨a1, a2, a3, a4, a5, a6⟩ := h.2.1
  exact h.num 9 (nI x) ⟨by rw [ob_i_k (by omega)]; exact a1, by rw [ob_i_k (by omega)]; exact a2, by rw [ob_i_k (by omega)]; exact a3, ob_i_self, a5, hx⟩
theorem ob_Sv.hand (h : ob_Sv t v) (x : Int32) : ob_Sv (ob_setI t 53 1 x) (v.1, v.2.1, v.2.2.1, v.2.2.2.1, x, v.2.2.2.2.2) := by
  obtain ⟨a1, a2, a3, a4, a5, a6⟩ := h.2.1
  exact h.num 1 x ⟨ob_i_self, by rw [ob_i_k (by omega)]; exact a2, by rw [ob_i_k (by omega)]; exact a3, by rw [ob_i_k (by omega)]; exact a4, a5, a6⟩
theorem ob_Sv.li {LL : List (List Nat × Nat)} (h : ob_Sv t v) (f : ob_Fr (fun q => 1 ≤ q ∧ q < 36) t u) (hl : ob_Li u (ll LL)) : ob_Sv u (v.1, v.2.1, v.2.2.1, v.2.2.2.1, v.2.2.2.2.1, v.2.2.2.2.2.1, v.2.2.2.2.2.2.1, LL) := by
  obtain ⟨h1, ⟨a1, a2, a3, a4, a5⟩, h3, h4, h5, h6, h7, ⟨L, last, h8⟩, h9⟩ := h
  have e := f.2.2.2 53 (by omega)
  exact ⟨h1.fr f e.2 (f.2.2.2 54 (by omega)).2 (f.2.2.2 55 (by omega)).2, ⟨by rw [e.1]; exact a1, by rw [e.1]; exact a2, by rw [e.1]; exact a3, by rw [e.1]; exact a4, a5⟩, h3.fr f (fun r hr => ⟨by omega, by omega⟩), h4.fr f (fun r hr => ⟨by omega, by omega⟩), h5.fr f (fun q a b => by omega), h6.fr f (fun q a b => by omega), hl, ⟨L, last, h8.fr f (by omega) (by omega) (by omega)⟩, h9⟩
theorem ob_Sv.wat {k j : Nat} {x : sv_W} (h : ob_Sv t v) (hk : k < v.2.2.1.length) (hj : ob_r t 72 k = some (73 + 4 * j)) (hj2 : j < 2) (f : ob_Fr (fun q => 73 + 4 * j ≤ q ∧ q < 77 + 4 * j) t u) (hw : ob_Wa u j x) : ob_Sv u (v.1, v.2.1, v.2.2.1.set k x, v.2.2.2) := by
  obtain ⟨h1, ⟨a1, a2, a3, a4, a5⟩, h3, h4, h5, h6, h7, ⟨L, last, h8⟩, h9⟩ := h
  have e := f.2.2.2 53 (by omega)
  refine ⟨h1.fr f e.2 (f.2.2.2 54 (by omega)).2 (f.2.2.2 55 (by omega)).2, ⟨by rw [e.1]; exact a1, ?_, by rw [e.1]; exact a3, by rw [e.1]; exact a4, a5⟩, h3.fr f (fun r hr => ⟨by omega, by omega⟩), h4.fr f (fun r hr => ⟨by omega, by omega⟩), h5.upd hk hj f (fun q a b z => z) hw, h6.fr f (fun q a b => by omega), h7.fr f (fun q a b => by omega), ⟨L, last, h8.fr f (by omega) (by omega) (by omega)⟩, h9⟩
  show ob_i u 53 2 = nI (v.2.2.1.set k x).length
  rw [e.1, List.length_set]
  exact a2
theorem ob_Sv.ct {r : Nat} {K : List Nat} (h : ob_Sv t v) (hr : r < 4) (f : ob_Fr (fun q => q = 56 + 4 * r ∨ q = 57 + 4 * r) t u) (hb : ob_By u (56 + 4 * r) (57 + 4 * r) 64 (nb K)) (hK : ∀ x ∈ K, x < 256) : ob_Sv u (va_up v.1 r K, v.2) := by
  obtain ⟨h1, ⟨a1, a2, a3, a4, a5⟩, h3, h4, h5, h6, h7, ⟨L, last, h8⟩, h9⟩ := h
  have e := f.2.2.2 53 (by omega)
  refine ⟨h1.fr f e.2 (f.2.2.2 54 (by omega)).2 (f.2.2.2 55 (by omega)).2, ⟨by rw [e.1]; exact a1, by rw [e.1]; exact a2, by rw [e.1]; exact a3, by rw [e.1]; exact a4, a5⟩, fun i hi => ?_, h4.fr f (fun i hi => ⟨by omega, by omega⟩), h5.fr f (fun q a b => by omega), h6.fr f (fun q a b => by omega), h7.fr f (fun q a b => by omega), ⟨L, last, h8.fr f (by omega) (by omega) (by omega)⟩, h9⟩
  by_cases c : i = r
  · subst c
    show ob_By u (56 + 4 * i) (56 + 4 * i + 1) 64 (nb (va_up v.1 i K i)) ∧ ∀ x ∈ va_up v.1 i K i, x < 256
    rw [va_up_self, show 56 + 4 * i + 1 = 57 + 4 * i by omega]
    exact ⟨hb, hK⟩
  · show ob_By u (56 + 4 * i) (56 + 4 * i + 1) 64 (nb (va_up v.1 r K i)) ∧ ∀ x ∈ va_up v.1 r K i, x < 256
    rw [va_up_ne _ _ c]
    exact ⟨(h3 i hi).1.fr f (by omega) (by omega), (h3 i hi).2⟩
theorem ob_Sv.pt {r : Nat} {K : List Nat} (h : ob_Sv t v) (hr : r < 4) (f : ob_Fr (fun q => q = 58 + 4 * r ∨ q = 59 + 4 * r) t u) (hb : ob_By u (58 + 4 * r) (59 + 4 * r) 64 (nb K)) (hK : ∀ x ∈ K, x < 256) : ob_Sv u (v.1, va_up v.2.1 r K, v.2.2) := by
  obtain ⟨h1, ⟨a1, a2, a3, a4, a5⟩, h3, h4, h5, h6, h7, ⟨L, last, h8⟩, h9⟩ := h
  have e := f.2.2.2 53 (by omega)
  refine ⟨h1.fr f e.2 (f.2.2.2 54 (by omega)).2 (f.2.2.2 55 (by omega)).2, ⟨by rw [e.1]; exact a1, by rw [e.1]; exact a2, by rw [e.1]; exact a3, by rw [e.1]; exact a4, a5⟩, h3.fr f (fun i hi => ⟨by omega, by omega⟩), fun i hi => ?_, h5.fr f (fun q a b => by omega), h6.fr f (fun q a b => by omega), h7.fr f (fun q a b => by omega), ⟨L, last, h8.fr f (by omega) (by omega) (by omega)⟩, h9⟩
  by_cases c : i = r
  · subst c
    show ob_By u (58 + 4 * i) (58 + 4 * i + 1) 64 (nb (va_up v.2.1 i K i)) ∧ ∀ x ∈ va_up v.2.1 i K i, x < 256
    rw [va_up_self, show 58 + 4 * i + 1 = 59 + 4 * i by omega]
    exact ⟨hb, hK⟩
  · show ob_By u (58 + 4 * i) (58 + 4 * i + 1) 64 (nb (va_up v.2.1 r K i)) ∧ ∀ x ∈ va_up v.2.1 r K i, x < 256
    rw [va_up_ne _ _ c]
    exact ⟨(h4 i hi).1.fr f (by omega) (by omega), (h4 i hi).2⟩
theorem ob_Sv.me {MM : List am_A} (h : ob_Sv t v) (f : ob_Fr (fun q => 81 ≤ q ∧ q < 93) t u) (hm : ob_Me u MM) (ok : am_ok MM) : ob_Sv u (v.1, v.2.1, v.2.2.1, MM, v.2.2.2.2) := by
  obtain ⟨h1, ⟨a1, a2, a3, a4, a5⟩, h3, h4, h5, h6, h7, ⟨L, last, h8⟩, h9⟩ := h
  have e := f.2.2.2 53 (by omega)
  exact ⟨h1.fr f e.2 (f.2.2.2 54 (by omega)).2 (f.2.2.2 55 (by omega)).2, ⟨by rw [e.1]; exact a1, by rw [e.1]; exact a2, by rw [e.1]; exact a3, by rw [e.1]; exact a4, a5⟩, h3.fr f (fun r hr => ⟨by omega, by omega⟩), h4.fr f (fun r hr => ⟨by omega, by omega⟩), h5.fr f (fun q a b => by omega), hm, h7.fr f (fun q a b => by omega), ⟨L, last, h8.fr f (by omega) (by omega) (by omega)⟩, ok⟩
end SVU
theorem x_Se_tell {t : ob_S} {v : sv_S} {k j : Nat} (h : ob_Sv t v) (hk : k < v.2.2.1.length) (hj : ob_r t 72 k = some (73 + 4 * j)) (hj2 : j < 2) : ∃ u, X_Se_tell 53 (73 + 4 * j) t = some u ∧ ob_Sv u (sv_tell v k) ∧ ob_Fr sv_P t u := by
  obtain ⟨j', x, -, hj', hx, wa⟩ := h.2.2.2.2.1.at hk
  have ej : j' = j := by
    have := Option.some.inj (hj'.symm.trans hj)
    omega
  subst ej
  obtain ⟨w1, w2, w3, w4, w5, w6, w7, w8⟩ := wa
  have wa : ob_Wa t j' x := ⟨w1, w2, w3, w4, w5, w6, w7, w8⟩
  obtain ⟨tok, res, szx, chg, o⟩ := x
  obtain ⟨k1, k2, k3, k4⟩ := w8
  dsimp only at w3 w4 w5 w6 w7 k1 k2 k3 k4
  have sh := h.1
  have ea := x_Pe_isActive w7
  have es : sv_tell v k = if o = none then (v.1, v.2.1, v.2.2.1.set k (tok, res, szx, 0, some (v.2.2.2.2.2.2.1, 4, 4, 0, aw_tell (v.1 res) tok szx ((v.2.2.2.2.2.1 + 1) % 65536) v.2.2.2.2.2.2.1)), v.2.2.2.1, v.2.2.2.2.1, (v.2.2.2.2.2.1 + 1) % 65536, (v.2.2.2.2.2.2.1 + 1) % 65536, af_send v.2.2.2.2.2.2.2 (aw_tell (v.1 res) tok szx ((v.2.2.2.2.2.1 + 1) % 65536) v.2.2.2.2.2.2.1) 0) else (v.1, v.2.1, v.2.2.1.set k (tok, res, szx, 1, o), v.2.2.2) := by
    rw [sv_tell, hx]
  rw [es]
  by_cases c : o = none
  · rw [if_pos c] at ea ⊢
    have wa1 := wa.set4 0 (by omega)
    have f1 : ob_Fr (fun q => 73 + 4 * j' ≤ q ∧ q < 77 + 4 * j') t (ob_setI t (73 + 4 * j') 4 (nI 0)) := ob_Fr.setI ⟨by omega, by omega⟩
    have S1 := h.wat hk hj hj2 f1 wa1
    have hj1 : ob_r (ob_setI t (73 + 4 * j') 4 (nI 0)) 72 k = some (73 + 4 * j') := hj
    have ht1 : ob_pZ 5 4 (73 + 4 * j') 0 t = some (ob_setI t (73 + 4 * j') 4 (nI 0)) := ob_pZ_e w1 (Or.inl rfl)
    generalize ob_setI t (73 + 4 * j') 4 (nI 0) = t1 at wa1 f1 S1 hj1 ht1
    obtain ⟨a1, a2, a3, a4, a5, a6⟩ := S1.2.1
    have S2 := S1.seen ((v.2.2.2.2.2.1 + 1) % 65536) (Nat.mod_lt _ (by omega))
    have f2 : ob_Fr (fun q => q = 53) t1 (ob_setI t1 53 3 (nI ((v.2.2.2.2.2.1 + 1) % 65536))) := ob_Fr.setI rfl
    have wa2 := wa1.fr f2 (fun q a b => by omega)
    have hj2' : ob_r (ob_setI t1 53 3 (nI ((v.2.2.2.2.2.1 + 1) % 65536))) 72 k = some (73 + 4 * j') := hj1
    have ht2 : ob_pI 9 3 53 (nI ((v.2.2.2.2.2.1 + 1) % 65536)) t1 = some (ob_setI t1 53 3 (nI ((v.2.2.2.2.2.1 + 1) % 65536))) := ob_pI_e S1.1.1
    generalize ob_setI t1 53 3 (nI ((v.2.2.2.2.2.1 + 1) % 65536)) = t2 at S2 f2 wa2 hj2' ht2
    obtain ⟨b1, b2, b3, b4, b5, b6⟩ := S2.2.1
    obtain ⟨L0, l0, wr2⟩ := S2.2.2.2.2.2.2.2.1
    have hse : (v.2.2.2.2.2.1 + 1) % 65536 < 65536 := Nat.mod_lt _ (by omega)
    obtain ⟨u3, e3, wr3, f3⟩ := x_Wr_begin 0 69 v.2.2.2.2.2.2.1 tok wr2 (by omega) (by omega) b6 k1
    have S3 := S2.wr f3 wr3
    have wa3 := wa2.fr f3 (fun q a b z => by have := ob_3s z; omega)
    obtain ⟨u4, e4, wr4, f4⟩ := x_Wr_addNumber 6 ((v.2.2.2.2.2.1 + 1) % 65536) wr3 (by omega) (by omega) hse (by simp [aw_begin])
    have S4 := S3.wr f4 wr4
    have wa4 := wa3.fr f4 (fun q a b z => by have := ob_3s z; omega)
    have hmm := af_more_lt (v.1 res).length 0 szx
    have l4 : (aw_begin 0 69 v.2.2.2.2.2.2.1 tok ++ aw_head 0 6 (aw_n ((v.2.2.2.2.2.1 + 1) % 65536)) ++ aw_val ((v.2.2.2.2.2.1 + 1) % 65536)).length ≤ 9 := by
      have q1 := aw_head_len 0 6 (aw_n ((v.2.2.2.2.2.1 + 1) % 65536))
      have q2 := aw_val_len ((v.2.2.2.2.2.1 + 1) % 65536)
      simp only [List.length_append, aw_begin, List.length_cons, List.length_nil]
      omega
    obtain ⟨u5, e5, wr5, f5⟩ := x_Wr_addNumber 23 (8 * af_more (v.1 res).length 0 szx + szx) wr4 (by omega) (by omega) (by omega) (by omega)
    have S5 := S4.wr f5 wr5
    have wa5 := wa4.fr f5 (fun q a b z => by have := ob_3s z; omega)
    have hsz := af_size_ok szx
    have l5 := aw_head_len 6 23 (aw_n (8 * af_more (v.1 res).length 0 szx + szx))
    have l6 : (aw_val (8 * af_more (v.1 res).length 0 szx + szx)).length ≤ 1 := aw_val1 (by omega)
    have cb5 := (S5.2.2.1 res k2).1
    obtain ⟨u6, e6, wr6, f6⟩ := x_Wr_addPayload 0 (af_size szx) wr5 cb5 (by omega) (by omega) ⟨by omega, by omega, by omega, by omega⟩ (by omega) (by omega) (by rw [List.length_append, List.length_append]; omega)
    have S6 := S5.wr f6 wr6
    have wa6 := wa5.fr f6 (fun q a b z => by have := ob_3s z; omega)
    have erow : aw_begin 0 69 v.2.2.2.2.2.2.1 tok ++ aw_head 0 6 (aw_n ((v.2.2.2.2.2.1 + 1) % 65536)) ++ aw_val ((v.2.2.2.2.2.1 + 1) % 65536) ++ aw_head 6 23 (aw_n (8 * af_more (v.1 res).length 0 szx + szx)) ++ aw_val (8 * af_more (v.1 res).length 0 szx + szx) ++ aw_pay (v.1 res) 0 (af_size szx) = aw_tell (v.1 res) tok szx ((v.2.2.2.2.2.1 + 1) % 65536) v.2.2.2.2.2.2.1 := rfl
    have wr6 : ob_Wr u6 93 94 95 (aw_tell (v.1 res) tok szx ((v.2.2.2.2.2.1 + 1) % 65536) v.2.2.2.2.2.2.1) 23 := wr6
    have hlen := aw_tell_len (v.1 res) tok szx ((v.2.2.2.2.2.1 + 1) % 65536) v.2.2.2.2.2.2.1 k3
    have hj6 : ob_r u6 72 k = some (73 + 4 * j') := by
      rw [(f6.2.2.2 72 (fun z => by have := ob_3s z; omega)).2, (f5.2.2.2 72 (fun z => by have := ob_3s z; omega)).2, (f4.2.2.2 72 (fun z => by have := ob_3s z; omega)).2, (f3.2.2.2 72 (fun z => by have := ob_3s z; omega)).2]
      exact hj2'
    obtain ⟨u7, e7, p7, f7⟩ := x_Pe_start v.2.2.2.2.2.2.1 b6 wa6.2.2.2.2.2.2.1 wr6.2.2.1 (by omega) (by omega) (by omega)
    have wa7 := wa6.pe f7 p7
    have F7 : ob_Fr (fun q => 73 + 4 * j' ≤ q ∧ q < 77 + 4 * j') u6 u7 := f7.mono (fun q z => by rcases z with z | z | z <;> omega)
    have S7 := S6.wat (by show k < (v.2.2.1.set k _).length; rw [List.length_set]; exact hk) hj6 hj2 F7 wa7
    obtain ⟨d1, d2, d3, d4, d5, d6⟩ := S7.2.1
    have S8 := S7.nx ((v.2.2.2.2.2.2.1 + 1) % 65536) (Nat.mod_lt _ (by omega))
    have f8 : ob_Fr (fun q => q = 53) u7 (ob_setI u7 53 9 (nI ((v.2.2.2.2.2.2.1 + 1) % 65536))) := ob_Fr.setI rfl
    have wr7 := wr6.fr F7 (by omega) (by omega) (by omega)
    have wr8 := wr7.fr f8 (by omega) (by omega) (by omega)
    obtain ⟨u9, e9, l9, f9⟩ := x_send 0 S8.2.2.2.2.2.2.1 wr8.2.2.1 (Or.inr (by omega)) (Or.inr (by omega)) (by omega)
    have S9 := S8.li f9 l9
    refine ⟨u9, ?_, ?_, ?_⟩
    · rw [X_Se_tell, ob_this_e sh.1, ob_b_e (ob_gR_e w1 w2), ob_b2_e ea, if_pos rfl, ob_b_e ht1, ob_b_e (ob_gI_e S1.1.1 a3), ob_b2_e (x_following _ a5 t1), ob_b_e ht2, ob_b_e (ob_gR_e S2.1.1 S2.1.2.2.2.2.2.2.1), ob_b_e (ob_gI_e S2.1.1 b4), ob_b_e (ob_gI_e wa2.1 wa2.2.2.1), ob_b_e (show X_Wr_begin 93 0 69 (nI v.2.2.2.2.2.2.1) (nI tok) t2 = some u3 from e3), ob_b_e (ob_gR_e S3.1.1 S3.1.2.2.2.2.2.2.1), ob_b_e (ob_gI_e S3.1.1 S3.2.1.2.2.1), ob_b_e (show X_Wr_addNumber 93 6 (nI ((v.2.2.2.2.2.1 + 1) % 65536)) u3 = some u4 from e4), ob_b_e (ob_gR_e S4.1.1 S4.1.2.2.2.2.2.2.1), ob_b_e (ob_gI_e wa4.1 wa4.2.2.2.1), ob_b_e (ob_gI_e wa4.1 wa4.2.2.2.2.1)]
      have eb := x_blockIn res 0 szx S4.1 S4.2.2.1 k2 (by omega) k3
      rw [show 16 * 0 + 8 * af_more (v.1 res).length 0 szx + szx = 8 * af_more (v.1 res).length 0 szx + szx by omega] at eb
      rw [ob_b2_e (show X_Se_blockIn 53 (nI res) 0 (nI szx) u4 = _ from eb), ob_b_e (show X_Wr_addNumber 93 23 (nI (8 * af_more (v.1 res).length 0 szx + szx)) u4 = some u5 from e5), ob_b_e (ob_gR_e S5.1.1 S5.1.2.2.2.2.2.2.1), ob_b_e (ob_gR_e S5.1.1 S5.1.2.1), ob_b_e (ob_gI_e wa5.1 wa5.2.2.2.1), ob_b_e (sv_cont S5.1 k2).1, ob_b_e (ob_gI_e wa5.1 wa5.2.2.2.2.1), ob_b2_e (x_sizeOf szx k3 u5), ob_b_e (show X_Wr_addPayload 93 (56 + 4 * res) 0 (nI (af_size szx)) u5 = some u6 from e6), ob_b_e (ob_gR_e wa6.1 wa6.2.1), ob_b_e (ob_gI_e S6.1.1 S6.2.1.2.2.2.1), ob_b_e (ob_gR_e S6.1.1 S6.1.2.2.2.2.2.2.1), ob_b_e (ob_gR_e wr6.1 wr6.2.1), ob_b_e e7, ob_b_e (ob_gI_e S7.1.1 d4), ob_b2_e (x_following _ d6 u7), ob_b_e (ob_pI_e S7.1.1), ob_b_e (ob_gR_e S8.1.1 S8.1.2.2.2.2.2.1), ob_b_e (ob_gR_e S8.1.1 S8.1.2.2.2.2.2.2.1), ob_b_e (ob_gR_e wr8.1 wr8.2.1), ob_b_e (show X_Li_send 1 94 0 _ = some u9 from e9)]
    · have hset : (v.2.2.1.set k (tok, res, szx, 0, o)).set k (tok, res, szx, 0, some (v.2.2.2.2.2.2.1, 4, 4, 0, aw_tell (v.1 res) tok szx ((v.2.2.2.2.2.1 + 1) % 65536) v.2.2.2.2.2.2.1)) = v.2.2.1.set k (tok, res, szx, 0, some (v.2.2.2.2.2.2.1, 4, 4, 0, aw_tell (v.1 res) tok szx ((v.2.2.2.2.2.1 + 1) % 65536) v.2.2.2.2.2.2.1)) := by rw [List.set_set]
      rw [← hset]
      exact S9
    · exact ((((((((f1.mono (fun q z => by omega)).tr (f2.mono (fun q z => by omega))).tr (f3.mono (fun q z => by have := ob_3s z; omega))).tr (f4.mono (fun q z => by have := ob_3s z; omega))).tr (f5.mono (fun q z => by have := ob_3s z; omega))).tr (f6.mono (fun q z => by have := ob_3s z; omega))).tr (F7.mono (fun q z => by omega))).tr (f8.mono (fun q z => by omega))).tr (f9.mono (fun q z => by omega))
  · rw [if_neg c] at ea ⊢
    have wa1 := wa.set4 1 (by omega)
    have f1 : ob_Fr (fun q => 73 + 4 * j' ≤ q ∧ q < 77 + 4 * j') t (ob_setI t (73 + 4 * j') 4 (nI 1)) := ob_Fr.setI ⟨by omega, by omega⟩
    refine ⟨_, ?_, h.wat hk hj hj2 f1 wa1, f1.mono (fun q z => by omega)⟩
    rw [X_Se_tell, ob_this_e sh.1, ob_b_e (ob_gR_e w1 w2), ob_b2_e ea, if_neg (by decide), ob_b_e (show ob_pZ 5 4 (73 + 4 * j') 1 t = some (ob_setI t (73 + 4 * j') 4 (nI 1)) from ob_pZ_e w1 (Or.inr rfl))]
