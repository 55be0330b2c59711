/-! LAYER 2, 18: the server: 53; contents 54, parts 55, watchers 72, memory 81, writer 93 -/
/-- a watcher: token, resource, szx, changed, what waits -/
abbrev sv_W : Type := Nat × Nat × Nat × Nat × Option ap_P
def wa_ok (v : sv_W) : Prop := v.1 < 256 ∧ v.2.1 < 4 ∧ v.2.2.1 < 2 ∧ v.2.2.2.1 < 2
def ob_Wa (t : ob_S) (j : Nat) (v : sv_W) : Prop := ob_is t (73 + 4 * j) 5 ∧ ob_r t (73 + 4 * j) 0 = some (74 + 4 * j) ∧ ob_i t (73 + 4 * j) 1 = nI v.1 ∧ ob_i t (73 + 4 * j) 2 = nI v.2.1 ∧ ob_i t (73 + 4 * j) 3 = nI v.2.2.1 ∧ ob_i t (73 + 4 * j) 4 = nI v.2.2.2.1 ∧ ob_Pe t (74 + 4 * j) (75 + 4 * j) (76 + 4 * j) v.2.2.2.2 ∧ wa_ok v
theorem ob_Wa.fr {P : Nat → Prop} {t u : ob_S} {j : Nat} {v : sv_W} (h : ob_Wa t j v) (f : ob_Fr P t u) (hP : ∀ q, 73 + 4 * j ≤ q → q < 77 + 4 * j → ¬ P q) : ob_Wa u j v := by
  obtain ⟨h1, h2, h3, h4, h5, h6, h7, h8⟩ := h
  have e := f.2.2.2 (73 + 4 * j) (hP _ (by omega) (by omega))
  exact ⟨h1.fr f, by rw [e.2]; exact h2, by rw [e.1]; exact h3, by rw [e.1]; exact h4, by rw [e.1]; exact h5, by rw [e.1]; exact h6, h7.fr f (hP _ (by omega) (by omega)) (hP _ (by omega) (by omega)) (hP _ (by omega) (by omega)), h8⟩
/-- what never changes -/
def sv_sh (t : ob_S) : Prop := ob_is t 53 9 ∧ ob_r t 53 0 = some 54 ∧ ob_r t 53 4 = some 55 ∧ ob_r t 53 5 = some 72 ∧ ob_r t 53 6 = some 81 ∧ ob_r t 53 7 = some 1 ∧ ob_r t 53 8 = some 93 ∧ (ob_is t 54 14 ∧ ob_l t 54 = 4 ∧ ∀ r, r < 4 → ob_r t 54 r = some (56 + 4 * r)) ∧ (ob_is t 55 14 ∧ ob_l t 55 = 4 ∧ ∀ r, r < 4 → ob_r t 55 r = some (58 + 4 * r)) ∧ (ob_is t 72 16 ∧ ob_l t 72 = 2)
theorem sv_sh.fr {P : Nat → Prop} {t u : ob_S} (h : sv_sh t) (f : ob_Fr P t u) (h53 : ob_r u 53 = ob_r t 53) (h54 : ob_r u 54 = ob_r t 54) (h55 : ob_r u 55 = ob_r t 55) : sv_sh u := by
  obtain ⟨h1, h2, h3, h4, h5, h6, h7, ⟨a1, a2, a3⟩, ⟨b1, b2, b3⟩, ⟨c1, c2⟩⟩ := h
  have fl := f.2.2.1
  exact ⟨h1.fr f, by rw [h53]; exact h2, by rw [h53]; exact h3, by rw [h53]; exact h4, by rw [h53]; exact h5, by rw [h53]; exact h6, by rw [h53]; exact h7, ⟨a1.fr f, by rw [fl]; exact a2, fun r hr => by rw [h54]; exact a3 r hr⟩, ⟨b1.fr f, by rw [fl]; exact b2, fun r hr => by rw [h55]; exact b3 r hr⟩, ⟨c1.fr f, by rw [fl]; exact c2⟩⟩
/-- the server's numbers: handled, how many watchers, seen, next id -/
def sv_sc (t : ob_S) (h : Int32) (c se nx : Nat) : Prop := ob_i t 53 1 = h ∧ ob_i t 53 2 = nI c ∧ ob_i t 53 3 = nI se ∧ ob_i t 53 9 = nI nx ∧ se < 65536 ∧ nx < 65536
/-- rows of contents from the object b on -/
def sv_rw (t : ob_S) (b : Nat) (ct : Nat → List Nat) : Prop := ∀ r, r < 4 → ob_By t (b + 4 * r) (b + 4 * r + 1) 64 (nb (ct r)) ∧ ∀ x ∈ ct r, x < 256
theorem sv_rw.fr {P : Nat → Prop} {t u : ob_S} {b : Nat} {ct : Nat → List Nat} (h : sv_rw t b ct) (f : ob_Fr P t u) (hP : ∀ r, r < 4 → ¬ P (b + 4 * r) ∧ ¬ P (b + 4 * r + 1)) : sv_rw u b ct := fun r hr => ⟨(h r hr).1.fr f (hP r hr).1 (hP r hr).2, (h r hr).2⟩
def sv_ws (t : ob_S) (W : List sv_W) : Prop := W.length ≤ 2 ∧ ∃ r : Nat → Nat, (∀ i, i < 2 → r i < 2) ∧ (∀ i j, i < 2 → j < 2 → r i = r j → i = j) ∧ (∀ k, k < 2 → ob_r t 72 k = some (73 + 4 * r k)) ∧ (∀ k, k < 2 → ∃ v, ob_Wa t k v) ∧ ∀ k v, W[k]? = some v → ob_Wa t (r k) v
theorem sv_ws.fr {P : Nat → Prop} {t u : ob_S} {W : List sv_W} (h : sv_ws t W) (f : ob_Fr P t u) (hP : ∀ q, 72 ≤ q → q < 81 → ¬ P q) : sv_ws u W := by
  obtain ⟨h0, r, r1, r2, r3, r4, r5⟩ := h
  refine ⟨h0, r, r1, r2, fun k hk => by rw [(f.2.2.2 72 (hP 72 (by omega) (by omega))).2]; exact r3 k hk, fun k hk => ?_, fun k v hv => ?_⟩
  · obtain ⟨v, hv⟩ := r4 k hk
    exact ⟨v, hv.fr f (fun q a b => hP q (by omega) (by omega))⟩
  · have hk : k < W.length := (List.getElem?_eq_some_iff.mp hv).1
    have := r1 k (by omega)
    exact (r5 k v hv).fr f (fun q a b => hP q (by omega) (by omega))
/-- watcher k becomes another -/
theorem sv_ws.set {t u : ob_S} {W : List sv_W} {k : Nat} {v' : sv_W} {P : Nat → Prop} (h : sv_ws t W) (hk : k < W.length) : ∃ j, j < 2 ∧ ob_r t 72 k = some (73 + 4 * j) ∧ (∃ v, W[k]? = some v ∧ ob_Wa t j v) ∧ (ob_Fr P t u → (∀ q, 72 ≤ q → q < 81 → ¬ (73 + 4 * j ≤ q ∧ q < 77 + 4 * j) → ¬ P q) → ob_Wa u j v' → sv_ws u (W.set k v')) := by
  obtain ⟨h0, r, r1, r2, r3, r4, r5⟩ := h
  have hj := r1 k (by omega)
  refine ⟨r k, hj, r3 k (by omega), ⟨W[k], List.getElem?_eq_getElem hk, r5 k _ (List.getElem?_eq_getElem hk)⟩, fun f hP hw => ⟨by rw [List.length_set]; exact h0, r, r1, r2, fun i hi => by rw [(f.2.2.2 72 (hP 72 (by omega) (by omega) (by omega))).2]; exact r3 i hi, fun i hi => ?_, fun i v hv => ?_⟩⟩
  · by_cases e : i = r k
    · subst e
      exact ⟨v', hw⟩
    · obtain ⟨v, hv⟩ := r4 i hi
      exact ⟨v, hv.fr f (fun q a b => hP q (by omega) (by omega) (by omega))⟩
  · by_cases e : i = k
    · subst e
      rw [List.getElem?_set_self hk] at hv
      cases hv
      exact hw
    · rw [List.getElem?_set_ne (Ne.symm e)] at hv
      have hi : i < W.length := (List.getElem?_eq_some_iff.mp hv).1
      have hne : r i ≠ r k := fun z => e (r2 i k (by omega) (by omega) z)
      have := r1 i (by omega)
      exact (r5 i v hv).fr f (fun q a b => hP q (by omega) (by omega) (by omega))
/-- contents, parts, watchers, memory, handled, seen, next id, line -/
abbrev sv_S : Type := (Nat → List Nat) × (Nat → List Nat) × List sv_W × List am_A × Int32 × Nat × Nat × List (List Nat × Nat)
def am_ok (MM : List am_A) : Prop := ∀ q ∈ MM, q.2.2.length ≤ 48
def ob_Sv (t : ob_S) (v : sv_S) : Prop := sv_sh t ∧ sv_sc t v.2.2.2.2.1 v.2.2.1.length v.2.2.2.2.2.1 v.2.2.2.2.2.2.1 ∧ sv_rw t 56 v.1 ∧ sv_rw t 58 v.2.1 ∧ sv_ws t v.2.2.1 ∧ ob_Me t v.2.2.2.1 ∧ ob_Li t (ll v.2.2.2.2.2.2.2) ∧ (∃ L last, ob_Wr t 93 94 95 L last) ∧ am_ok v.2.2.2.1
theorem ob_Sv.fr {P : Nat → Prop} {t u : ob_S} {v : sv_S} (h : ob_Sv t v) (f : ob_Fr P t u) (hP : ∀ q, (1 ≤ q ∧ q < 36) ∨ (53 ≤ q ∧ q < 96) → ¬ P q) : ob_Sv u v := by
  obtain ⟨h1, ⟨a1, a2, a3, a4, a5⟩, h3, h4, h5, h6, h7, ⟨L, last, h8⟩, h9⟩ := h
  have e := f.2.2.2 53 (hP _ (by omega))
  refine ⟨h1.fr f e.2 (f.2.2.2 54 (hP _ (by omega))).2 (f.2.2.2 55 (hP _ (by omega))).2, ⟨by rw [e.1]; exact a1, by rw [e.1]; exact a2, by rw [e.1]; exact a3, by rw [e.1]; exact a4, a5⟩, h3.fr f (fun r hr => ⟨hP _ (by omega), hP _ (by omega)⟩), h4.fr f (fun r hr => ⟨hP _ (by omega), hP _ (by omega)⟩), h5.fr f (fun q a b => hP q (by omega)), h6.fr f (fun q a b => hP q (by omega)), h7.fr f (fun q a b => hP q (by omega)), ⟨L, last, h8.fr f (hP _ (by omega)) (hP _ (by omega)) (hP _ (by omega))⟩, h9⟩
abbrev sv_P : Nat → Prop := fun q => (1 ≤ q ∧ q < 36) ∨ (53 ≤ q ∧ q < 96)
theorem ob_3s {q : Nat} (h : ob_3 93 94 95 q) : 93 ≤ q ∧ q < 96 := by
  rcases h with h | h | h <;> omega
theorem sv_cont {t : ob_S} {r : Nat} (h : sv_sh t) (hr : r < 4) : ob_aR 14 54 (nI r) t = some (56 + 4 * r) ∧ ob_aR 14 55 (nI r) t = some (58 + 4 * r) := by
  obtain ⟨h1, h2, h3, h4, h5, h6, h7, ⟨a1, a2, a3⟩, ⟨b1, b2, b3⟩, ⟨c1, c2⟩⟩ := h
  exact ⟨ob_aR_e a1 (by omega) (by omega) (a3 r hr), ob_aR_e b1 (by omega) (by omega) (b3 r hr)⟩
theorem x_blockIn {t : ob_S} {ct : Nat → List Nat} (r num szx : Nat) (h : sv_sh t) (hc : sv_rw t 56 ct) (hr : r < 4) (hn : num < 100) (hz : szx < 2) : X_Se_blockIn 53 (nI r) (nI num) (nI szx) t = some (nI (16 * num + 8 * af_more (ct r).length num szx + szx), t) := by
  obtain ⟨b, -⟩ := hc r hr
  have hs := af_size_ok szx
  have hm : (num + 1) * af_size szx ≤ 100 * 32 := Nat.mul_le_mul (by omega) hs.1
  have hl : (ct r).length ≤ 64 := by have := b.2.2.2.2.2.1; rw [nb_len] at this; exact this
  rw [X_Se_blockIn, ob_this_e h.1, ob_b_e (ob_gR_e h.1 h.2.1), ob_b_e (sv_cont h hr).1, ob_b_e (ob_gI_e b.1 (show ob_i t (56 + 4 * r) 1 = nI (ct r).length by rw [b.2.2.2.2.2.2.1, nb_len])), ob_b2_e (x_sizeOf szx hz t), nI_1, pk_mul, af_more]
  by_cases c : (num + 1) * af_size szx < (ct r).length
  · rw [if_pos c, if_neg (nI_ge c (by omega)), B_Se_blockIn_25]
    have := x_blockOf num 1 szx (by omega) t
    exact ob_b2_e this
  · rw [if_neg c, if_pos (nI_le (by omega) (by omega)), B_Se_blockIn_25]
    have := x_blockOf num 0 szx (by omega) t
    exact ob_b2_e this
/-- what a watcher is told -/
def aw_tell (ct : List Nat) (tok szx se nx : Nat) : List Nat := aw_begin 0 69 nx tok ++ aw_head 0 6 (aw_n se) ++ aw_val se ++ aw_head 6 23 (aw_n (8 * af_more ct.length 0 szx + szx)) ++ aw_val (8 * af_more ct.length 0 szx + szx) ++ aw_pay ct 0 (af_size szx)
theorem aw_tell_len (ct : List Nat) (tok szx se nx : Nat) (hz : szx < 2) : (aw_tell ct tok szx se nx).length ≤ 47 := by
  have h1 : (aw_head 0 6 (aw_n se)).length ≤ 1 := by unfold aw_head; rw [if_pos (by omega)]; simp
  have h2 := aw_val_len se
  have h3 := aw_head_len 6 23 (aw_n (8 * af_more ct.length 0 szx + szx))
  have h4 : (aw_val (8 * af_more ct.length 0 szx + szx)).length ≤ 1 := aw_val1 (by have := af_more_lt ct.length 0 szx; omega)
  have h5 : (aw_pay ct 0 (af_size szx)).length ≤ 33 := by
    have := af_size_ok szx
    unfold aw_pay
    split
    · rw [List.length_cons, List.length_take]; omega
    · simp
  simp only [aw_tell, List.length_append, aw_begin, List.length_cons, List.length_nil]
  omega
noncomputable def sv_tell (v : sv_S) (k : Nat) : sv_S := match v.2.2.1[k]? with
  | none => v
  | some x => if x.2.2.2.2 = none then (v.1, v.2.1, v.2.2.1.set k (x.1, x.2.1, x.2.2.1, 0, some (v.2.2.2.2.2.2.1, 4, 4, 0, aw_tell (v.1 x.2.1) x.1 x.2.2.1 ((v.2.2.2.2.2.1 + 1) % 65536) v.2.2.2.2.2.2.1)), v.2.2.2.1, v.2.2.2.2.1, (v.2.2.2.2.2.1 + 1) % 65536, (v.2.2.2.2.2.2.1 + 1) % 65536, af_send v.2.2.2.2.2.2.2 (aw_tell (v.1 x.2.1) x.1 x.2.2.1 ((v.2.2.2.2.2.1 + 1) % 65536) v.2.2.2.2.2.2.1) 0)
    else (v.1, v.2.1, v.2.2.1.set k (x.1, x.2.1, x.2.2.1, 1, x.2.2.2.2), v.2.2.2)
/-- a number of a watcher -/
theorem ob_Wa.set4 {t : ob_S} {j : Nat} {v : sv_W} (h : ob_Wa t j v) (x : Nat) (hx : x < 2) : ob_Wa (ob_setI t (73 + 4 * j) 4 (nI x)) j (v.1, v.2.1, v.2.2.1, x, v.2.2.2.2) := by
  obtain ⟨h1, h2, h3, h4, h5, h6, h7, h8⟩ := h
  have f : ob_Fr (fun q => q = 73 + 4 * j) t (ob_setI t (73 + 4 * j) 4 (nI x)) := ob_Fr.setI rfl
  exact ⟨h1, h2, by rw [ob_i_k (by omega)]; exact h3, by rw [ob_i_k (by omega)]; exact h4, by rw [ob_i_k (by omega)]; exact h5, ob_i_self, h7.fr f (by omega) (by omega) (by omega), h8.1, h8.2.1, h8.2.2.1, hx⟩
theorem ob_Wa.pe {t u : ob_S} {j : Nat} {v : sv_W} {o : Option ap_P} (h : ob_Wa t j v) (f : ob_Fr (ob_3 (74 + 4 * j) (75 + 4 * j) (76 + 4 * j)) t u) (hp : ob_Pe u (74 + 4 * j) (75 + 4 * j) (76 + 4 * j) o) : ob_Wa u j (v.1, v.2.1, v.2.2.1, v.2.2.2.1, o) := by
  obtain ⟨h1, h2, h3, h4, h5, h6, h7, h8⟩ := h
  have e := f.2.2.2 (73 + 4 * j) (by rintro (z | z | z) <;> omega)
  exact ⟨h1.fr f, by rw [e.2]; exact h2, by rw [e.1]; exact h3, by rw [e.1]; exact h4, by rw [e.1]; exact h5, by rw [e.1]; exact h6, hp, h8⟩
