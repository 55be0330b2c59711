/-! LAYER 2, 22: resources, parts, what is asked of the server -/
theorem x_spells0 {n i : Nat} {t : ob_S} (fu : Nat) (k : Int32) : B_By_spells_19 (fu + 1) n i 0 k t = some (0, t) := by
  rw [B_By_spells_19, if_pos rfl, B_By_spells_57]; rfl
theorem x_spellsLoop {n a m i : Nat} {L : List Nat} {t : ob_S} (h : ob_By t n a m (nb L)) (hL : ∀ x ∈ L, x < 256) (hi : i < 6) (hl : L.length = (tx i).length) : ∀ (d k fu : Nat), k + d = L.length → d + 1 < fu → B_By_spells_19 fu n i 1 (nI k) t = some (if L.drop k = (tx i).drop k then 1 else 0, t) := by
  have h2 := (tx_ok i hi).2.1
  intro d
  induction d with
  | zero =>
    intro k fu hk hf
    obtain ⟨fu, rfl⟩ : ∃ z, fu = z + 1 := ⟨fu - 1, by omega⟩
    have e1 : L.drop k = [] := List.drop_eq_nil_iff.mpr (by omega)
    have e2 : (tx i).drop k = [] := List.drop_eq_nil_iff.mpr (by omega)
    rw [B_By_spells_19, if_neg (by decide), ob_b_e (ob_gI_e h.1 (show ob_i t n 1 = nI L.length by rw [h.2.2.2.2.2.2.1, nb_len])), if_pos (nI_le (by omega) (by omega)), B_By_spells_57, e1, e2, if_pos rfl]; rfl
  | succ d ih =>
    intro k fu hk hf
    obtain ⟨fu, rfl⟩ : ∃ z, fu = z + 1 := ⟨fu - 1, by omega⟩
    have hlt : k < L.length := by omega
    have hm : L.length ≤ m := by have := h.2.2.2.2.2.1; rw [nb_len] at this; exact this
    have hm2 := h.2.2.2.2.1
    have ga : ob_aI a (nI k) t = some (nI (L.getD k 0)) := by
      have e := h.2.2.2.2.2.2.2 k (by rw [nb_len]; exact hlt)
      have e2 : (nb L)[k]? = some (nI (L.getD k 0)) := by simp [nb, List.getElem?_map, List.getElem?_eq_getElem hlt]
      rw [e2] at e
      exact ob_aI_e h.2.2.1 (by rw [h.2.2.2.1]; omega) (by rw [h.2.2.2.1]; omega) (Option.some.inj e).symm
    have d1 : L.drop k = L.getD k 0 :: L.drop (k + 1) := by
      rw [List.drop_eq_getElem_cons hlt, List.getD_eq_getElem?_getD, List.getElem?_eq_getElem hlt]
      rfl
    have d2 : (tx i).drop k = (tx i).getD k 0 :: (tx i).drop (k + 1) := by
      rw [List.drop_eq_getElem_cons (by omega), List.getD_eq_getElem?_getD, List.getElem?_eq_getElem (by omega)]
      rfl
    have b1 : L.getD k 0 < 256 := by
      rw [List.getD_eq_getElem?_getD, List.getElem?_eq_getElem hlt]
      exact hL _ (List.getElem_mem hlt)
    have b2 := ((tx_ok i hi).2.2 k (by omega)).2
    rw [B_By_spells_19, if_neg (by decide), ob_b_e (ob_gI_e h.1 (show ob_i t n 1 = nI L.length by rw [h.2.2.2.2.2.2.1, nb_len])), if_neg (nI_ge hlt (by omega)), ob_b_e (ob_gR_e h.1 h.2.1), ob_b_e ga, ob_b2_e (x_Str_charAt hi (by omega) t), d1, d2]
    by_cases c : L.getD k 0 = (tx i).getD k 0
    · rw [if_neg (show ¬ ¬ nI (L.getD k 0) = nI ((tx i).getD k 0) from fun z => z (by rw [c])), B_By_spells_50, nI_1, ih (k + 1) fu (by omega) (by omega)]
      congr 2
      exact ob_ite ⟨fun z => by rw [c, z], fun z => (List.cons.inj z).2⟩ _ _
    · rw [if_pos (show ¬ nI (L.getD k 0) = nI ((tx i).getD k 0) from fun z => c ((nI_eq (by omega) (by omega)).mp z)), B_By_spells_50, if_neg (fun z => c (List.cons.inj z).1)]
      obtain ⟨fu, rfl⟩ : ∃ z, fu = z + 1 := ⟨fu - 1, by omega⟩
      exact x_spells0 fu _
theorem x_spells {n a m i : Nat} {L : List Nat} {t : ob_S} (h : ob_By t n a m (nb L)) (hL : ∀ x ∈ L, x < 256) (hi : i < 6) : X_By_spells n i t = some (if L = tx i then 1 else 0, t) := by
  have h2 := (tx_ok i hi).2.1
  have hm : L.length ≤ m := by have := h.2.2.2.2.2.1; rw [nb_len] at this; exact this
  have hm2 := h.2.2.2.2.1
  rw [X_By_spells, ob_this_e h.1, ob_b_e (ob_gI_e h.1 (show ob_i t n 1 = nI L.length by rw [h.2.2.2.2.2.2.1, nb_len])), ob_b2_e (x_Str_length hi t)]
  by_cases c : L.length = (tx i).length
  · rw [if_neg (show ¬ ¬ nI L.length = nI (tx i).length from fun z => z (by rw [c])), B_By_spells_16]
    have := x_spellsLoop h hL hi c L.length 0 ob_fu (by omega) (by show L.length + 1 < 2000; omega)
    rw [List.drop_zero, List.drop_zero] at this
    exact this
  · rw [if_pos (show ¬ nI L.length = nI (tx i).length from fun z => c ((nI_eq (by omega) (by omega)).mp z)), B_By_spells_16, if_neg (fun z => c (by rw [z]))]
    exact x_spells0 1999 _
/-- the segments name the path p -/
abbrev sg_is (S : List (List Nat)) (p : Nat) : Prop := S.length = (if tx (pa2 p) = [] then 1 else 2) ∧ S.getD 0 [] = tx (pa1 p) ∧ S.getD 1 [] = tx (pa2 p)
def sg_ok (S : List (List Nat)) : Prop := ∀ V ∈ S, ∀ x ∈ V, x < 256
theorem sg_get {S : List (List Nat)} (h : sg_ok S) (k : Nat) : ∀ x ∈ S.getD k [], x < 256 := by
  intro x hx
  rw [List.getD_eq_getElem?_getD] at hx
  cases hk : S[k]? with
  | none => rw [hk] at hx; simp at hx
  | some V =>
    rw [hk] at hx
    exact h V (List.mem_of_getElem? hk) x hx
theorem x_isUnder {t : ob_S} {F : Nat → Int32} {S : List (List Nat)} {K : List Nat} (p : Nat) (hp : p < 5) (h : ob_Ms t F S K) (hs : sg_ok S) : X_Ms_isUnder 96 (nI p) t = some (if sg_is S p then 1 else 0, t) := by
  obtain ⟨h1, h2, h3, h4, h5, h6, h7, h8, h9, h10⟩ := h
  obtain ⟨i1, i2⟩ := pa_lt p hp
  have key : ∀ (due : Nat), due < 3 → due = (if tx (pa2 p) = [] then 1 else 2) → B_Ms_isUnder_17 96 (nI p) (pa2 p) (nI due) t = some (if sg_is S p then 1 else 0, t) := by
    intro due hd1 hd
    rw [B_Ms_isUnder_17, ob_b_e (ob_gI_e h1 h6)]
    by_cases c1 : S.length = due
    · rw [if_neg (show ¬ ¬ nI S.length = nI due from fun z => z (by rw [c1])), ob_b_e (ob_gR_e h1 h2), ob_b2_e (x_seg1 p hp t), ob_b2_e (x_spells h8 (sg_get hs 0) i1)]
      by_cases c2 : S.getD 0 [] = tx (pa1 p)
      · rw [if_pos c2, if_neg (by decide), ob_b_e (ob_gR_e h1 h3), ob_b2_e (x_spells h9 (sg_get hs 1) i2)]
        by_cases c3 : S.getD 1 [] = tx (pa2 p)
        · rw [if_pos c3, if_neg (by decide), if_pos (show sg_is S p from ⟨by rw [c1]; exact hd, c2, c3⟩)]; rfl
        · rw [if_neg c3, if_pos rfl, if_neg (show ¬ sg_is S p from fun z => c3 z.2.2)]; rfl
      · rw [if_neg c2, if_pos rfl, if_neg (show ¬ sg_is S p from fun z => c2 z.2.1)]; rfl
    · rw [if_pos (show ¬ nI S.length = nI due from fun z => c1 ((nI_eq (by omega) (by omega)).mp z)), if_neg (show ¬ sg_is S p from fun z => c1 (by rw [hd]; exact z.1))]; rfl
  rw [X_Ms_isUnder, ob_this_e h1, ob_b2_e (x_seg2 p hp t), ob_b2_e (x_Str_isEmpty i2 t)]
  by_cases c : tx (pa2 p) = []
  · rw [if_pos c, if_neg (by decide)]
    exact key 1 (by omega) (by rw [if_pos c])
  · rw [if_neg c, if_pos rfl]
    exact key 2 (by omega) (by rw [if_neg c])
/-- which resource the segments name -/
def sg_res (S : List (List Nat)) : Option Nat := if sg_is S 0 then some 0 else if sg_is S 1 then some 1 else if sg_is S 2 then some 2 else if sg_is S 3 then some 3 else none
theorem sg_res_lt {S : List (List Nat)} {r : Nat} (h : sg_res S = some r) : r < 4 := by
  unfold sg_res at h
  split at h
  · cases h; omega
  · split at h
    · cases h; omega
    · split at h
      · cases h; omega
      · split at h
        · cases h; omega
        · cases h
theorem x_resourceUnder {t : ob_S} {F : Nat → Int32} {S : List (List Nat)} {K : List Nat} (hv : ob_is t 53 9) (h : ob_Ms t F S K) (hs : sg_ok S) : X_Se_resourceUnder 53 96 t = some (oI (sg_res S), t) := by
  have st : ∀ p fu, p < 4 → B_Se_resourceUnder_2 (fu + 1) 96 (nI p) t = if sg_is S p then some (nI p, t) else B_Se_resourceUnder_2 fu 96 (nI (p + 1)) t := by
    intro p fu hp
    rw [B_Se_resourceUnder_2, if_neg (show ¬ (4 : Int32) ≤ nI p from nI_ge (b := 4) hp (by omega)), ob_b2_e (x_isUnder p (by omega) h hs)]
    by_cases c : sg_is S p
    · rw [if_pos c, if_neg (by decide), if_pos c]
    · rw [if_neg c, if_pos rfl, if_neg c, nI_1]
  rw [X_Se_resourceUnder, ob_this_e hv]
  show B_Se_resourceUnder_2 (1995 + 1 + 1 + 1 + 1 + 1) 96 (nI 0) t = _
  rw [st 0 _ (by omega), st 1 _ (by omega), st 2 _ (by omega), st 3 _ (by omega), sg_res]
  by_cases c0 : sg_is S 0
  · rw [if_pos c0, if_pos c0]; rfl
  · rw [if_neg c0, if_neg c0]
    by_cases c1 : sg_is S 1
    · rw [if_pos c1, if_pos c1]; rfl
    · rw [if_neg c1, if_neg c1]
      by_cases c2 : sg_is S 2
      · rw [if_pos c2, if_pos c2]; rfl
      · rw [if_neg c2, if_neg c2]
        by_cases c3 : sg_is S 3
        · rw [if_pos c3, if_pos c3]; rfl
        · rw [if_neg c3, if_neg c3, B_Se_resourceUnder_2, if_pos (by decide)]; rfl
/-- takePart: the code of the answer, the server behind it -/
def sv_part (v : sv_S) (r b : Nat) (P : List Nat) : Nat × sv_S :=
  let K := if b / 16 = 0 then [] else v.2.1 r
  if b / 16 * af_size (b % 8) = K.length then (if K.length + P.length ≤ 64 then (if b / 8 % 2 = 0 then (68, (va_up v.1 r (K ++ P), va_up v.2.1 r [], v.2.2)) else (95, (v.1, va_up v.2.1 r (K ++ P), v.2.2))) else (141, (v.1, va_up v.2.1 r [], v.2.2))) else (136, (v.1, va_up v.2.1 r K, v.2.2))
theorem va_up_up {α : Type} (f : Nat → α) (k : Nat) (x y : α) : va_up (va_up f k x) k y = va_up f k y := by
  funext j
  by_cases h : j = k
  · subst h
    rw [va_up_self, va_up_self]
  · rw [va_up_ne _ _ h, va_up_ne _ _ h, va_up_ne _ _ h]
theorem va_up_id {α : Type} (f : Nat → α) (k : Nat) : va_up f k (f k) = f := by
  funext j
  by_cases h : j = k
  · subst h
    rw [va_up_self]
  · rw [va_up_ne _ _ h]
section SVP
variable {t : ob_S} {v : sv_S} {ty code id : Nat} {tok w b2 b1 : Option Nat} {S : List (List Nat)} {P : List Nat}
theorem x_part25 {r b : Nat} {K : List Nat} (h : ob_Sv t v) (hm : ob_Mm t ty code id tok w b2 (some b) S P) (hr : r < 4) (hK : v.2.1 r = K) : ∃ u, B_Se_takePart_25 53 96 (nI r) (58 + 4 * r) (nI (b / 16)) t = some (nI (if b / 16 * af_size (b % 8) = K.length then (if K.length + P.length ≤ 64 then (if b / 8 % 2 = 0 then 68 else 95) else 141) else 136), u) ∧ ob_Sv u (if b / 16 * af_size (b % 8) = K.length then (if K.length + P.length ≤ 64 then (if b / 8 % 2 = 0 then (va_up v.1 r (K ++ P), va_up v.2.1 r [], v.2.2) else (v.1, va_up v.2.1 r (K ++ P), v.2.2)) else (v.1, va_up v.2.1 r [], v.2.2)) else v) ∧ ob_Fr (fun q => 56 ≤ q ∧ q < 72) t u := by
  obtain ⟨g0, g1, g2, g3, g4, g5, g6, g7, g8⟩ := hm.g
  obtain ⟨m1, m2, m3, m4, m5, m6, m7, m8, m9⟩ := hm.2
  have hb := m7 b rfl
  have pb : ob_By t (58 + 4 * r) (59 + 4 * r) 64 (nb K) := by
    have := (h.2.2.2.1 r hr).1
    rw [hK, show 58 + 4 * r + 1 = 59 + 4 * r by omega] at this
    exact this
  have pK : ∀ x ∈ K, x < 256 := by rw [← hK]; exact (h.2.2.2.1 r hr).2
  have lK : K.length ≤ 64 := by have := pb.2.2.2.2.2.1; rw [nb_len] at this; exact this
  have gK : ob_i t (58 + 4 * r) 1 = nI K.length := by rw [pb.2.2.2.2.2.2.1, nb_len]
  have gP : ob_i t 101 1 = nI P.length := by rw [g8.2.2.2.2.2.2.1, nb_len]
  have hsz := af_size_ok (b % 8)
  have hmul : b / 16 * af_size (b % 8) ≤ 63 * 32 := Nat.mul_le_mul (by omega) hsz.1
  have pre : B_Se_takePart_25 53 96 (nI r) (58 + 4 * r) (nI (b / 16)) t = if nI (b / 16 * af_size (b % 8)) = nI K.length then if nI (K.length + P.length) ≤ (64 : Int32) then (X_By_addFrom (58 + 4 * r) 101 (0 : Int32) (nI P.length) t).bind fun t87 => (ob_gI 8 6 96 t87).bind fun x91 => ob_b2 (X_Ob_hasMore x91 t87) fun x94 t94 => if x94 = 0 then (ob_gR 9 0 53 t94).bind fun n104 => (ob_aR 14 n104 (nI r) t94).bind fun n108 => (X_By_become n108 (58 + 4 * r) t94).bind fun t110 => (X_By_clear (58 + 4 * r) t110).bind fun t114 => some ((68 : Int32), t114) else some ((95 : Int32), t94) else (X_By_clear (58 + 4 * r) t).bind fun t67 => some ((141 : Int32), t67) else some ((136 : Int32), t) := by
    rw [B_Se_takePart_25, ob_b_e g6, ob_b2_e (show X_Ob_szxOf (oI (some b)) t = some (nI (b % 8), t) from x_szxOf b (by omega) t), ob_b2_e (x_sizeOf (b % 8) (by omega) t), ob_b_e (ob_gI_e pb.1 gK), pk_mul, ob_b_e (ob_gI_e pb.1 gK), ob_b_e g7, ob_b_e (ob_gI_e g8.1 gP), nI_add, ob_b_e g7, ob_b_e g7, ob_b_e (ob_gI_e g8.1 gP)]
  rw [pre]
  by_cases c1 : b / 16 * af_size (b % 8) = K.length
  · rw [if_pos (show nI (b / 16 * af_size (b % 8)) = nI K.length by rw [c1]), if_pos c1, if_pos c1]
    by_cases c2 : K.length + P.length ≤ 64
    · rw [if_pos (show nI (K.length + P.length) ≤ (64 : Int32) from nI_le (b := 64) c2 (by omega)), if_pos c2, if_pos c2]
      obtain ⟨u1, e1, b1', f1⟩ := x_By_addFrom 0 P.length pb g8 (by omega) (by omega) (Nat.zero_le _) (by omega) (by simp only [nb_len]; omega)
      rw [List.drop_zero, show (nb P).take P.length = nb P from List.take_of_length_le (by rw [nb_len]; exact Nat.le_refl _), ← nb_app] at b1'
      have pKP : ∀ x ∈ K ++ P, x < 256 := fun x hx => by
        rcases List.mem_append.mp hx with z | z
        · exact pK x z
        · exact m9 x z
      have S1 := h.pt hr f1 b1' pKP
      have mm1 := hm.fr f1 (fun q a b => by omega)
      rw [ob_b_e (show X_By_addFrom (58 + 4 * r) 101 0 (nI P.length) t = some u1 from e1), ob_b_e mm1.g.2.2.2.2.2.2.1, ob_b2_e (show X_Ob_hasMore (oI (some b)) u1 = some (nI (b / 8 % 2), u1) from x_hasMoreB b (by omega) u1)]
      by_cases c3 : b / 8 % 2 = 0
      · rw [if_pos (show nI (b / 8 % 2) = 0 by rw [c3]; rfl), if_pos c3, if_pos c3]
        have cb : ob_By u1 (56 + 4 * r) (57 + 4 * r) 64 (nb (v.1 r)) := by
          have := (S1.2.2.1 r hr).1
          rw [show 56 + 4 * r + 1 = 57 + 4 * r by omega] at this
          exact this
        obtain ⟨u2, e2, b2', f2⟩ := x_By_become cb b1' (by omega) (by omega) (by rw [nb_len, List.length_append]; omega)
        have S2 := S1.ct hr f2 b2' pKP
        obtain ⟨u3, e3, b3', f3⟩ := x_By_clear (b1'.fr f2 (by omega) (by omega))
        have S3 := S2.pt (K := []) hr f3 b3' (fun x hx => by cases hx)
        refine ⟨u3, ?_, ?_, ((f1.mono (fun q z => by omega)).tr (f2.mono (fun q z => by omega))).tr (f3.mono (fun q z => by omega))⟩
        · rw [ob_b_e (ob_gR_e S1.1.1 S1.1.2.1), ob_b_e (sv_cont S1.1 hr).1, ob_b_e e2, ob_b_e e3]; rfl
        · have ev : va_up (va_up v.2.1 r (K ++ P)) r [] = va_up v.2.1 r [] := va_up_up _ _ _ _
          rw [← ev]
          exact S3
      · rw [if_neg (show ¬ nI (b / 8 % 2) = 0 from nI_ne0 (by omega) (by omega)), if_neg c3, if_neg c3]
        exact ⟨u1, rfl, S1, f1.mono (fun q z => by omega)⟩
    · rw [if_neg (show ¬ nI (K.length + P.length) ≤ (64 : Int32) from nI_ge (a := 64) (by omega) (by omega)), if_neg c2, if_neg c2]
      obtain ⟨u1, e1, b1', f1⟩ := x_By_clear pb
      have S1 := h.pt (K := []) hr f1 b1' (fun x hx => by cases hx)
      exact ⟨u1, by rw [ob_b_e e1]; rfl, S1, f1.mono (fun q z => by omega)⟩
  · rw [if_neg (show ¬ nI (b / 16 * af_size (b % 8)) = nI K.length from fun z => c1 ((nI_eq (by omega) (by omega)).mp z)), if_neg c1, if_neg c1]
    exact ⟨t, rfl, h, ob_Fr.rf⟩
theorem x_takePart {r b : Nat} (h : ob_Sv t v) (hm : ob_Mm t ty code id tok w b2 (some b) S P) (hr : r < 4) : ∃ u, X_Se_takePart 53 96 (nI r) t = some (nI (sv_part v r b P).1, u) ∧ ob_Sv u (sv_part v r b P).2 ∧ ob_Fr (fun q => 56 ≤ q ∧ q < 72) t u := by
  have hb := hm.2.2.2.2.2.2.2.1 b rfl
  have sh := h.1
  have pre : X_Se_takePart 53 96 (nI r) t = if ¬ nI (b / 16) = 0 then B_Se_takePart_25 53 96 (nI r) (58 + 4 * r) (nI (b / 16)) t else (X_By_clear (58 + 4 * r) t).bind fun t22 => B_Se_takePart_25 53 96 (nI r) (58 + 4 * r) (nI (b / 16)) t22 := by
    rw [X_Se_takePart, ob_this_e sh.1, ob_b_e (ob_gR_e sh.1 sh.2.2.1), ob_b_e (sv_cont sh hr).2, ob_b_e hm.g.2.2.2.2.2.2.1, ob_b2_e (show X_Ob_numOf (oI (some b)) t = some (nI (b / 16), t) from x_numOf b (by omega) t)]
  rw [pre]
  by_cases c : b / 16 = 0
  · rw [if_neg (show ¬ ¬ nI (b / 16) = 0 from fun z => z (by rw [c]; rfl))]
    have pb : ob_By t (58 + 4 * r) (59 + 4 * r) 64 (nb (v.2.1 r)) := by
      have := (h.2.2.2.1 r hr).1
      rw [show 58 + 4 * r + 1 = 59 + 4 * r by omega] at this
      exact this
    obtain ⟨u1, e1, b1', f1⟩ := x_By_clear pb
    have S1 := h.pt (K := []) hr f1 b1' (fun x hx => by cases hx)
    have mm1 := hm.fr f1 (fun q a b => by omega)
    obtain ⟨u2, e2, S2, f2⟩ := x_part25 (K := []) S1 mm1 hr (va_up_self _ _ _)
    refine ⟨u2, ?_, ?_, (f1.mono (fun q z => by omega)).tr f2⟩
    · rw [ob_b_e e1, e2, sv_part, if_pos c]
      try dsimp only
      congr 2
      split
      · split
        · split <;> rfl
        · rfl
      · rfl
    · have ev : ∀ x, va_up (va_up v.2.1 r []) r x = va_up v.2.1 r x := fun x => va_up_up _ _ _ _
      rw [sv_part, if_pos c]
      try dsimp only at S2 ⊢
      rw [ev, ev] at S2
      split at S2
      · rename_i z1
        rw [if_pos z1]
        split at S2
        · rename_i z2
          rw [if_pos z2]
          split at S2
          · rename_i z3
            rw [if_pos z3]
            exact S2
          · rename_i z3
            rw [if_neg z3]
            exact S2
        · rename_i z2
          rw [if_neg z2]
          exact S2
      · rename_i z1
        rw [if_neg z1]
        exact S2
  · rw [if_pos (nI_ne0 (by omega) (by omega))]
    obtain ⟨u2, e2, S2, f2⟩ := x_part25 (K := v.2.1 r) h hm hr rfl
    refine ⟨u2, ?_, ?_, f2⟩
    · rw [e2, sv_part, if_neg c]
      try dsimp only
      congr 2
      split
      · split
        · split <;> rfl
        · rfl
      · rfl
    · rw [sv_part, if_neg c]
      try dsimp only at S2 ⊢
      rw [va_up_id]
      split at S2
      · rename_i z1
        rw [if_pos z1]
        split at S2
        · rename_i z2
          rw [if_pos z2]
          split at S2
          · rename_i z3
            rw [if_pos z3]
            exact S2
          · rename_i z3
            rw [if_neg z3]
            exact S2
        · rename_i z2
          rw [if_neg z2]
          exact S2
      · rename_i z1
        rw [if_neg z1]
        exact S2
end SVP
