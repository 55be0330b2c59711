/-! LAYER 2, 40: the reference reads a row: its options -/
/-- the row that came -/
def mo_In (t : ob_S) (L : List Nat) : Prop := ob_i t 103 48 = nI L.length ∧ mo_rw t 141 0 L ∧ L.length ≤ 48 ∧ ∀ x ∈ L, x < 256
theorem mo_In.f {D : Nat → Nat → Prop} {t u : ob_S} {L : List Nat} (h : mo_In t L) (f : mo_F D t u) (h1 : ¬ D 103 48) (h2 : ∀ j, ¬ D 141 j) : mo_In u L := ⟨(f.2.2.2.2 _ _ h1).trans h.1, h.2.1.f f (fun j _ _ => h2 j), h.2.2⟩
theorem mo_In.at {t : ob_S} {L : List Nat} (h : mo_In t L) (p : Nat) (hp : p < L.length) : ob_i t 141 p = nI (L.getD p 0) := by
  have := h.2.1 p hp
  rwa [Nat.zero_add] at this
theorem mo_In.v {t : ob_S} {L : List Nat} (h : mo_In t L) (a n : Nat) (hn : a + n ≤ L.length) : ((L.drop a).take n).length = n ∧ mo_rw t 141 a ((L.drop a).take n) ∧ ∀ x ∈ (L.drop a).take n, x < 256 := by
  have e : ((L.drop a).take n).length = n := by
    rw [List.length_take, List.length_drop]
    omega
  refine ⟨e, fun i hi => ?_, fun x hx => h.2.2.2 x (List.mem_of_mem_drop (List.mem_of_mem_take hx))⟩
  rw [e] at hi
  rw [h.at (a + i) (by omega), List.getD_eq_getElem?_getD, List.getD_eq_getElem?_getD, List.getElem?_take_of_lt hi, List.getElem?_drop]
/-- what has been read -/
def mo_Rd (t : ob_S) (F : Nat → Int32) (S : List (List Nat)) : Prop := ob_i t 103 49 = F 0 ∧ ob_i t 103 50 = F 1 ∧ ob_i t 103 51 = F 2 ∧ ob_i t 103 52 = F 3 ∧ ob_i t 103 53 = F 4 ∧ ob_i t 103 57 = F 5 ∧ ob_i t 103 58 = F 6 ∧ mo_Sg t S
abbrev dR : Nat → Nat → Prop := fun n j => n = 142 ∨ n = 143 ∨ (n = 103 ∧ (j = 53 ∨ j = 54 ∨ j = 57 ∨ j = 58))
theorem mo_Sg.f2 {D : Nat → Nat → Prop} {t u : ob_S} {S : List (List Nat)} (h : mo_Sg t S) (f : mo_F D t u) (h1 : ¬ D 103 54) (h2 : ∀ n j, 141 ≤ n ∧ n ≤ 143 → ¬ D n j) : mo_Sg u S := by
  obtain ⟨g1, g2, g3⟩ := h
  refine ⟨(f.2.2.2.2 _ _ h1).trans g1, g2, fun k V e => ?_⟩
  obtain ⟨a, e1, e2, e3, e4, e5⟩ := g3 k V e
  exact ⟨a, (f.2.2.2.2 _ _ (h2 _ _ (by omega))).trans e1, (f.2.2.2.2 _ _ (h2 _ _ (by omega))).trans e2, e3, e4, e5.f f (fun j _ _ => h2 _ _ (by omega))⟩
theorem mo_Sg.add {t : ob_S} {S : List (List Nat)} {V : List Nat} {a : Nat} (h : mo_Sg t S) (hs : S.length < 2) (ha : a < 64) (hl : a + V.length ≤ 64) (hV : mo_rw t 141 a V) : mo_Sg (ob_setI (ob_setI (ob_setI t 142 S.length (nI a)) 143 S.length (nI V.length)) 103 54 (nI (S.length + 1))) (S ++ [V]) := by
  obtain ⟨g1, g2, g3⟩ := h
  refine ⟨by rw [ob_i_self, List.length_append]; rfl, by rw [List.length_append]; simp only [List.length_cons, List.length_nil]; omega, fun k W e => ?_⟩
  by_cases c : k < S.length
  · rw [List.getElem?_append_left c] at e
    obtain ⟨b, e1, e2, e3, e4, e5⟩ := g3 k W e
    refine ⟨b, ?_, ?_, e3, e4, fun i hi => ?_⟩
    · rw [ob_i_n (by omega), ob_i_n (by omega), ob_i_k (by omega)]; exact e1
    · rw [ob_i_n (by omega), ob_i_k (by omega), ob_i_n (by omega)]; exact e2
    · rw [ob_i_n (by omega), ob_i_n (by omega), ob_i_n (by omega)]; exact e5 i hi
  · rw [List.getElem?_append_right (by omega)] at e
    have hk : k - S.length = 0 := by
      cases hk : k - S.length with
      | zero => rfl
      | succ m => rw [hk] at e; simp at e
    have hk2 : k = S.length := by omega
    subst hk2
    rw [hk] at e
    have e : V = W := by simpa using e
    subst e
    refine ⟨a, ?_, ?_, ha, hl, fun i hi => ?_⟩
    · rw [ob_i_n (by omega), ob_i_n (by omega), ob_i_self]
    · rw [ob_i_n (by omega), ob_i_self]
    · rw [ob_i_n (by omega), ob_i_n (by omega), ob_i_n (by omega)]; exact hV i hi
theorem mo_upd4 (F : Nat → Int32) (j : Nat) (y : Int32) (k : Nat) : upd F j y k = if k = j then y else F k := by
  by_cases c : k = j
  · subst c; rw [pk_us, if_pos rfl]
  · rw [pk_un c, if_neg c]
/-- a value is kept -/
theorem y_opt165 {t : ob_S} {L : List Nat} {p m : Nat} {F : Nat → Int32} {S : List (List Nat)} (k4 : Nat → Int32 → Int32 → ob_S → Option (Int32 × ob_S)) (hS : mo_sh t) (hI : mo_In t L) (hR : mo_Rd t F S) (hm : m = 6 ∨ m = 11 ∨ m = 23 ∨ m = 27) (hn : ps_p L p + L.getD p 0 % 16 ≤ L.length) : (ps_keep L p m F S = none → ∃ u, B_Mo_readOptions_165 k4 103 (nI (ps_p L p)) (nI m) (nI (L.getD p 0 % 16)) t = some (-1, u) ∧ mo_F dR t u) ∧ (∀ r, ps_keep L p m F S = some r → ∃ u, B_Mo_readOptions_165 k4 103 (nI (ps_p L p)) (nI m) (nI (L.getD p 0 % 16)) t = k4 103 (nI (ps_p L p + L.getD p 0 % 16)) (nI m) u ∧ mo_Rd u r.1 r.2 ∧ mo_F dR t u) := by
  have e48 := hI.1
  have hLl := hI.2.2.1
  obtain ⟨vl, vr, vb⟩ := hI.v _ _ hn
  rw [show (L.drop (ps_p L p)).take (L.getD p 0 % 16) = ps_v L p from rfl] at vl vr vb
  obtain ⟨r49, r50, r51, r52, r53, r57, r58, rS⟩ := hR
  have e54 := rS.1
  have hS2 := rS.2.1
  have front : B_Mo_readOptions_165 k4 103 (nI (ps_p L p)) (nI m) (nI (L.getD p 0 % 16)) t = if ¬ nI m = (11 : Int32) then ob_b2 (X_Mo_readNumber 103 (nI m) (nI (ps_p L p)) (nI (ps_v L p).length) t) fun x233 t233 => if ¬ x233 = 0 then k4 103 (nI (ps_p L p + L.getD p 0 % 16)) (nI m) t233 else some ((-1 : Int32), t233) else if ¬ nI S.length = (2 : Int32) then k4 103 (nI (ps_p L p + L.getD p 0 % 16)) (nI m) (ob_setI (ob_setI (ob_setI t 142 S.length (nI (ps_p L p))) 143 S.length (nI (ps_v L p).length)) 103 54 (nI (S.length + 1))) else some ((-1 : Int32), t) := by
    by_cases c2 : S.length = 2
    · simp (disch := first | assumption | (simp only [mo_shs]; assumption) | omega | (simp; done) | contradiction) only [B_Mo_readOptions_165, B_Mo_readOptions_241, ob_i_self, ob_i_n, ob_i_k, mo_shs, Option.bind_some, ob_b2_s, mo_this, mo_g, mo_p, mo_r0, mo_r1, mo_r2, mo_r7, mo_r8, mo_r9, mo_r10, mo_r11, mo_r12, mo_r13, mo_r14, mo_r15, mo_r16, mo_r17, mo_r18, mo_r19, mo_r20, mo_r21, mo_r22, mo_r23, mo_r24, mo_r25, mo_r26, mo_r27, mo_r28, mo_r29, mo_r30, mo_r31, mo_r33, mo_r34, mo_r35, mo_r36, mo_r40, mo_r41, mo_r42, mo_r43, mo_r44, mo_r47, mo_r55, mo_r56, mo_a104, mo_a105, mo_a106, mo_a107, mo_a108, mo_a109, mo_a110, mo_a111, mo_a112, mo_a113, mo_a114, mo_a115, mo_a116, mo_a117, mo_a118, mo_a119, mo_a120, mo_a121, mo_a122, mo_a123, mo_a124, mo_a125, mo_a126, mo_a127, mo_a128, mo_a129, mo_a130, mo_a131, mo_a132, mo_a133, mo_a134, mo_a135, mo_a136, mo_a137, mo_a138, mo_a139, mo_a140, mo_a141, mo_a142, mo_a143, mo_w104, mo_w105, mo_w106, mo_w107, mo_w108, mo_w109, mo_w110, mo_w111, mo_w112, mo_w113, mo_w114, mo_w115, mo_w116, mo_w117, mo_w118, mo_w119, mo_w120, mo_w121, mo_w122, mo_w123, mo_w124, mo_w125, mo_w126, mo_w127, mo_w128, mo_w129, mo_w130, mo_w131, mo_w132, mo_w133, mo_w134, mo_w135, mo_w136, mo_w137, mo_w138, mo_w139, mo_w140, mo_w141, mo_w142, mo_w143, e48, e54, nI_add]
      rw [if_pos (nI_le (by omega) (by omega)), vl, c2, if_neg (show ¬ ¬ nI 2 = (2 : Int32) from fun z => z rfl), if_neg (show ¬ ¬ nI 2 = (2 : Int32) from fun z => z rfl)]
    · have e54a : ob_i (ob_setI t 142 S.length (nI (ps_p L p))) 103 54 = nI S.length := by rw [ob_i_n (by omega)]; exact e54
      have e54b : ob_i (ob_setI (ob_setI t 142 S.length (nI (ps_p L p))) 143 S.length (nI (L.getD p 0 % 16))) 103 54 = nI S.length := by rw [ob_i_n (by omega)]; exact e54a
      simp (disch := first | assumption | (simp only [mo_shs]; assumption) | omega | (simp; done) | contradiction) only [B_Mo_readOptions_165, B_Mo_readOptions_241, ob_i_self, ob_i_n, ob_i_k, mo_shs, Option.bind_some, ob_b2_s, mo_this, mo_g, mo_p, mo_r0, mo_r1, mo_r2, mo_r7, mo_r8, mo_r9, mo_r10, mo_r11, mo_r12, mo_r13, mo_r14, mo_r15, mo_r16, mo_r17, mo_r18, mo_r19, mo_r20, mo_r21, mo_r22, mo_r23, mo_r24, mo_r25, mo_r26, mo_r27, mo_r28, mo_r29, mo_r30, mo_r31, mo_r33, mo_r34, mo_r35, mo_r36, mo_r40, mo_r41, mo_r42, mo_r43, mo_r44, mo_r47, mo_r55, mo_r56, mo_a104, mo_a105, mo_a106, mo_a107, mo_a108, mo_a109, mo_a110, mo_a111, mo_a112, mo_a113, mo_a114, mo_a115, mo_a116, mo_a117, mo_a118, mo_a119, mo_a120, mo_a121, mo_a122, mo_a123, mo_a124, mo_a125, mo_a126, mo_a127, mo_a128, mo_a129, mo_a130, mo_a131, mo_a132, mo_a133, mo_a134, mo_a135, mo_a136, mo_a137, mo_a138, mo_a139, mo_a140, mo_a141, mo_a142, mo_a143, mo_w104, mo_w105, mo_w106, mo_w107, mo_w108, mo_w109, mo_w110, mo_w111, mo_w112, mo_w113, mo_w114, mo_w115, mo_w116, mo_w117, mo_w118, mo_w119, mo_w120, mo_w121, mo_w122, mo_w123, mo_w124, mo_w125, mo_w126, mo_w127, mo_w128, mo_w129, mo_w130, mo_w131, mo_w132, mo_w133, mo_w134, mo_w135, mo_w136, mo_w137, mo_w138, mo_w139, mo_w140, mo_w141, mo_w142, mo_w143, e48, e54, e54a, e54b, nI_add, nI_1]
      rw [if_pos (nI_le (by omega) (by omega)), vl]
  rw [front]
  rcases hm with rfl | rfl | rfl | rfl
  · rw [if_pos (show ¬ nI 6 = (11 : Int32) by decide)]
    obtain ⟨z, u, e, q1, q2, q3⟩ := y_num6 hS vr (by omega) vb
    rw [ob_b2_e (show X_Mo_readNumber 103 (nI 6) (nI (ps_p L p)) (nI (ps_v L p).length) t = some (z, u) from e)]
    have fu : mo_F dR t u := q3.mono (fun n j z => by omega)
    rw [ps_keep, if_pos rfl]
    by_cases c : ps_num (ps_v L p) = -1
    · rw [if_pos c, if_neg (fun k => k (q1.mpr c))]
      exact ⟨fun _ => ⟨u, rfl, fu⟩, fun r hr => by cases hr⟩
    · have hz : ¬ z = 0 := fun k => c (q1.mp k)
      rw [if_neg c, if_pos hz]
      refine ⟨fun hr => (by cases hr), fun r hr => ⟨u, rfl, ?_, fu⟩⟩
      cases hr
      show mo_Rd u (upd F 4 (ps_num (ps_v L p))) S
      have eu := q2 hz
      refine ⟨?_, ?_, ?_, ?_, ?_, ?_, ?_, rS.f2 q3 (by omega) (fun n j z => by omega)⟩
      · rw [q3.2.2.2.2 _ _ (by omega), pk_un (by omega)]; exact r49
      · rw [q3.2.2.2.2 _ _ (by omega), pk_un (by omega)]; exact r50
      · rw [q3.2.2.2.2 _ _ (by omega), pk_un (by omega)]; exact r51
      · rw [q3.2.2.2.2 _ _ (by omega), pk_un (by omega)]; exact r52
      · rw [eu, ob_i_self, pk_us]
      · rw [q3.2.2.2.2 _ _ (by omega), pk_un (by omega)]; exact r57
      · rw [q3.2.2.2.2 _ _ (by omega), pk_un (by omega)]; exact r58
  · rw [if_neg (show ¬ ¬ nI 11 = (11 : Int32) from fun z => z rfl), ps_keep, if_neg (by omega), if_pos rfl]
    by_cases c : S.length = 2
    · rw [if_pos c, if_neg (show ¬ ¬ nI S.length = (2 : Int32) from fun z => z (by rw [c]; rfl))]
      exact ⟨fun _ => ⟨t, rfl, mo_F.rf⟩, fun r hr => by cases hr⟩
    · rw [if_neg c, if_pos (show ¬ nI S.length = (2 : Int32) from fun z => c ((nI_eq (b := 2) (by omega) (by omega)).mp z))]
      have fu : mo_F (fun n j => n = 142 ∨ n = 143 ∨ (n = 103 ∧ j = 54)) t (ob_setI (ob_setI (ob_setI t 142 S.length (nI (ps_p L p))) 143 S.length (nI (ps_v L p).length)) 103 54 (nI (S.length + 1))) := ((mo_F.o (by omega)).s (by omega)).s (by omega)
      refine ⟨fun hr => (by cases hr), fun r hr => ⟨_, rfl, ?_, fu.mono (fun n j z => by omega)⟩⟩
      cases hr
      exact ⟨by rw [fu.2.2.2.2 _ _ (by omega)]; exact r49, by rw [fu.2.2.2.2 _ _ (by omega)]; exact r50, by rw [fu.2.2.2.2 _ _ (by omega)]; exact r51, by rw [fu.2.2.2.2 _ _ (by omega)]; exact r52, by rw [fu.2.2.2.2 _ _ (by omega)]; exact r53, by rw [fu.2.2.2.2 _ _ (by omega)]; exact r57, by rw [fu.2.2.2.2 _ _ (by omega)]; exact r58, rS.add (by omega) (by omega) (by omega) vr⟩
  · rw [if_pos (show ¬ nI 23 = (11 : Int32) by decide)]
    obtain ⟨z, u, e, q1, q2, q3⟩ := y_num23 (num := 23) hS (Or.inl rfl) vr (by omega) vb
    rw [ob_b2_e e]
    have fu : mo_F dR t u := q3.mono (fun n j z => by omega)
    rw [ps_keep, if_neg (by omega), if_neg (by omega), if_pos rfl]
    by_cases c : ps_blkb (ps_num (ps_v L p)) = 0
    · rw [if_pos c, if_neg (fun k => k (q1.mpr c))]
      exact ⟨fun _ => ⟨u, rfl, fu⟩, fun r hr => by cases hr⟩
    · have hz : ¬ z = 0 := fun k => c (q1.mp k)
      rw [if_neg c, if_pos hz]
      refine ⟨fun hr => (by cases hr), fun r hr => ⟨u, rfl, ?_, fu⟩⟩
      cases hr
      show mo_Rd u (upd F 5 (ps_num (ps_v L p))) S
      obtain ⟨eu1, eu2⟩ := q2 hz
      rw [if_pos rfl] at eu1 eu2
      refine ⟨?_, ?_, ?_, ?_, ?_, ?_, ?_, rS.f2 q3 (by omega) (fun n j z => by omega)⟩
      · rw [q3.2.2.2.2 _ _ (by omega), pk_un (by omega)]; exact r49
      · rw [q3.2.2.2.2 _ _ (by omega), pk_un (by omega)]; exact r50
      · rw [q3.2.2.2.2 _ _ (by omega), pk_un (by omega)]; exact r51
      · rw [q3.2.2.2.2 _ _ (by omega), pk_un (by omega)]; exact r52
      · rw [q3.2.2.2.2 _ _ (by omega), pk_un (by omega)]; exact r53
      · rw [eu1, pk_us]
      · rw [pk_un (by omega)]
        exact eu2.trans r58
  · rw [if_pos (show ¬ nI 27 = (11 : Int32) by decide)]
    obtain ⟨z, u, e, q1, q2, q3⟩ := y_num23 (num := 27) hS (Or.inr rfl) vr (by omega) vb
    rw [ob_b2_e e]
    have fu : mo_F dR t u := q3.mono (fun n j z => by omega)
    rw [ps_keep, if_neg (by omega), if_neg (by omega), if_neg (by omega), if_pos rfl]
    by_cases c : ps_blkb (ps_num (ps_v L p)) = 0
    · rw [if_pos c, if_neg (fun k => k (q1.mpr c))]
      exact ⟨fun _ => ⟨u, rfl, fu⟩, fun r hr => by cases hr⟩
    · have hz : ¬ z = 0 := fun k => c (q1.mp k)
      rw [if_neg c, if_pos hz]
      refine ⟨fun hr => (by cases hr), fun r hr => ⟨u, rfl, ?_, fu⟩⟩
      cases hr
      show mo_Rd u (upd F 6 (ps_num (ps_v L p))) S
      obtain ⟨eu1, eu2⟩ := q2 hz
      rw [if_neg (by omega)] at eu1 eu2
      refine ⟨?_, ?_, ?_, ?_, ?_, ?_, ?_, rS.f2 q3 (by omega) (fun n j z => by omega)⟩
      · rw [q3.2.2.2.2 _ _ (by omega), pk_un (by omega)]; exact r49
      · rw [q3.2.2.2.2 _ _ (by omega), pk_un (by omega)]; exact r50
      · rw [q3.2.2.2.2 _ _ (by omega), pk_un (by omega)]; exact r51
      · rw [q3.2.2.2.2 _ _ (by omega), pk_un (by omega)]; exact r52
      · rw [q3.2.2.2.2 _ _ (by omega), pk_un (by omega)]; exact r53
      · rw [pk_un (by omega)]
        exact eu2.trans r57
      · rw [eu1, pk_us]
/-- how many options there may be still -/
def rk (n : Nat) (S : List (List Nat)) : Nat := min 1 (6 - n) + (2 - S.length) + min 1 (23 - n) + min 1 (27 - n)
theorem rk_keep {L : List Nat} {p n d : Nat} {F : Nat → Int32} {S : List (List Nat)} {r : (Nat → Int32) × List (List Nat)} (h : ps_keep L p (n + d) F S = some r) (hd : 0 < d ∨ n + d = 11) (hS : S.length ≤ 2) : rk (n + d) r.2 < rk n S ∧ r.2.length ≤ 2 ∧ (n + d = 6 ∨ n + d = 11 ∨ n + d = 23 ∨ n + d = 27) := by
  unfold ps_keep at h
  by_cases c6 : n + d = 6
  · rw [if_pos c6] at h
    split at h
    · cases h
    · cases h
      refine ⟨?_, hS, Or.inl c6⟩
      simp only [rk]
      omega
  · rw [if_neg c6] at h
    by_cases c11 : n + d = 11
    · rw [if_pos c11] at h
      split at h
      · cases h
      · cases h
        refine ⟨?_, ?_, Or.inr (Or.inl c11)⟩
        · simp only [rk, List.length_append, List.length_cons, List.length_nil]
          omega
        · simp only [List.length_append, List.length_cons, List.length_nil]
          omega
    · rw [if_neg c11] at h
      by_cases c23 : n + d = 23
      · rw [if_pos c23] at h
        split at h
        · cases h
        · cases h
          refine ⟨?_, hS, by omega⟩
          simp only [rk]
          omega
      · rw [if_neg c23] at h
        by_cases c27 : n + d = 27
        · rw [if_pos c27] at h
          split at h
          · cases h
          · cases h
            refine ⟨?_, hS, by omega⟩
            simp only [rk]
            omega
        · rw [if_neg c27] at h
          cases h
