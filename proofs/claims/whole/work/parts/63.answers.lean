/-! LAYER 2, 24: the server's answers, receipts and ticks -/
section SVB
variable {t : ob_S} {v : sv_S} {ty code id : Nat} {tok w b2 b1 : Option Nat} {S : List (List Nat)} {P : List Nat}
def sv_send (v : sv_S) (row : List Nat) : sv_S := (v.1, v.2.1, v.2.2.1, v.2.2.2.1, v.2.2.2.2.1, v.2.2.2.2.2.1, v.2.2.2.2.2.2.1, af_send v.2.2.2.2.2.2.2 row 0)
def sv_fin (v : sv_S) (id : Nat) (now : Int32) (row : List Nat) : sv_S := (v.1, v.2.1, v.2.2.1, am_keep v.2.2.2.1 (nI id) now row, v.2.2.2.2.1, v.2.2.2.2.2.1, v.2.2.2.2.2.2.1, af_send v.2.2.2.2.2.2.2 row 0)
theorem am_1_mem {M : List am_A} {id : Int32} {q : am_A} (h : q ∈ am_1 M id) : q ∈ M := by
  unfold am_1 at h
  split at h
  · exact h
  · exact List.mem_of_mem_eraseIdx h
theorem am_keep_ok {M : List am_A} {id now : Int32} {K : List Nat} (h : am_ok M) (hK : K.length ≤ 48) : am_ok (am_keep M id now K) := by
  intro q hq
  unfold am_keep at hq
  rcases List.mem_append.mp hq with z | z
  · by_cases c : (am_1 M id).length = 4
    · rw [if_pos c] at z
      exact h q (am_1_mem (List.mem_of_mem_eraseIdx z))
    · rw [if_neg c] at z
      exact h q (am_1_mem z)
  · rw [List.mem_singleton.mp z]
    exact hK
theorem sv_part_code (v : sv_S) (r b : Nat) (P : List Nat) : (sv_part v r b P).1 = 68 ∨ (sv_part v r b P).1 = 95 ∨ (sv_part v r b P).1 = 136 ∨ (sv_part v r b P).1 = 141 := by
  unfold sv_part
  generalize (if b / 16 = 0 then [] else v.2.1 r) = K
  dsimp only
  by_cases c1 : b / 16 * af_size (b % 8) = K.length
  · rw [if_pos c1]
    by_cases c2 : K.length + P.length ≤ 64
    · rw [if_pos c2]
      by_cases c3 : b / 8 % 2 = 0
      · rw [if_pos c3]; exact Or.inl rfl
      · rw [if_neg c3]; exact Or.inr (Or.inl rfl)
    · rw [if_neg c2]; exact Or.inr (Or.inr (Or.inr rfl))
  · rw [if_neg c1]; exact Or.inr (Or.inr (Or.inl rfl))
theorem x_ans139 {L : List Nat} {last : Nat} {now : Int32} (h : ob_Sv t v) (hm : ob_Mm t ty code id tok w b2 b1 S P) (hw : ob_Wr t 93 94 95 L last) (hl : L.length ≤ 48) : ∃ u, B_Se_answer_139 53 96 now t = some u ∧ ob_Sv u (sv_fin v id now L) ∧ ob_Fr sv_P t u := by
  have sh := h.1
  obtain ⟨u1, e1, m1, f1⟩ := x_Me_keep (nI id) now h.2.2.2.2.2.1 hw.2.2.1 (Or.inr (by omega)) (Or.inr (by omega)) hl
  have S1 := h.me f1 m1 (am_keep_ok h.2.2.2.2.2.2.2.2 hl)
  have wr1 := hw.fr f1 (by omega) (by omega) (by omega)
  obtain ⟨u2, e2, l2, f2⟩ := x_send 0 S1.2.2.2.2.2.2.1 wr1.2.2.1 (Or.inr (by omega)) (Or.inr (by omega)) hl
  have S2 := S1.li f2 l2
  refine ⟨u2, ?_, S2, (f1.mono (fun q z => by omega)).tr (f2.mono (fun q z => by omega))⟩
  rw [B_Se_answer_139, ob_b_e (ob_gR_e sh.1 sh.2.2.2.2.1), ob_b_e hm.g.2.2.1, ob_b_e (ob_gR_e sh.1 sh.2.2.2.2.2.2.1), ob_b_e (ob_gR_e hw.1 hw.2.1), ob_b_e e1, ob_b_e (ob_gR_e S1.1.1 S1.1.2.2.2.2.2.1), ob_b_e (ob_gR_e S1.1.1 S1.1.2.2.2.2.2.2.1), ob_b_e (ob_gR_e wr1.1 wr1.2.1), ob_b_e (show X_Li_send 1 94 0 u1 = some u2 from e2)]
/-- which code goes with what -/
theorem sv_hand_code (v : sv_S) (code : Nat) (res b2 b1 : Option Nat) (P : List Nat) (hco : code = 1 ∨ code = 3) : ((sv_hand v code res b2 b1 P).1 = 69 ∧ code = 1 ∧ res ≠ none ∧ b2 ≠ none) ∨ (sv_hand v code res b2 b1 P).1 = 132 ∨ (sv_hand v code res b2 b1 P).1 = 130 ∨ (((sv_hand v code res b2 b1 P).1 = 68 ∨ (sv_hand v code res b2 b1 P).1 = 95 ∨ (sv_hand v code res b2 b1 P).1 = 136 ∨ (sv_hand v code res b2 b1 P).1 = 141) ∧ res ≠ none ∧ b1 ≠ none) := by
  unfold sv_hand
  cases res with
  | none => exact Or.inr (Or.inl rfl)
  | some r =>
    dsimp only
    rcases hco with hc | hc
    · subst hc
      rw [if_pos rfl]
      cases b2 with
      | none => exact Or.inr (Or.inr (Or.inl rfl))
      | some b =>
        dsimp only
        split
        · exact Or.inr (Or.inr (Or.inl rfl))
        · exact Or.inl ⟨rfl, rfl, (fun z => by cases z), (fun z => by cases z)⟩
    · subst hc
      rw [if_neg (by decide)]
      cases b1 with
      | none => exact Or.inr (Or.inr (Or.inl rfl))
      | some b =>
        refine Or.inr (Or.inr (Or.inr ⟨?_, (fun z => by cases z), (fun z => by cases z)⟩))
        exact sv_part_code v r b P
/-- the answer behind what was done: the server, the row -/
def sv_row (v : sv_S) (co id tk : Nat) (res w b2 b1 : Option Nat) : sv_S × List Nat :=
  if co = 69 then ((sv_reg v tk (res.getD 0) (b2.getD 0 / 16) (b2.getD 0 % 8) w).1, aw_begin 2 co id tk ++ (sv_reg v tk (res.getD 0) (b2.getD 0 / 16) (b2.getD 0 % 8) w).2.1 ++ aw_cont (v.1 (res.getD 0)) (sv_reg v tk (res.getD 0) (b2.getD 0 / 16) (b2.getD 0 % 8) w).2.2 (b2.getD 0 / 16) (b2.getD 0 % 8))
  else if co = 132 ∨ co = 130 then (v, aw_begin 2 co id tk) else (v, aw_begin 2 co id tk ++ aw_head 0 27 (aw_n (b1.getD 0)) ++ aw_val (b1.getD 0))
theorem sv_reg_len (v : sv_S) (tk r num z : Nat) (w : Option Nat) : (sv_reg v tk r num z w).2.1.length ≤ 4 := by
  unfold sv_reg
  split
  · split
    · simp
    · have q1 := aw_head_len 0 6 (aw_n ((v.2.2.2.2.2.1 + 1) % 65536))
      have q2 := aw_val_len ((v.2.2.2.2.2.1 + 1) % 65536)
      show (aw_head 0 6 _ ++ aw_val _).length ≤ 4
      rw [List.length_append]
      omega
  · split
    · split <;> simp
    · simp
theorem aw_cont_len (ct : List Nat) (last num z : Nat) : (aw_cont ct last num z).length ≤ 37 := by
  have q1 := aw_head_len last 23 (aw_n (16 * num + 8 * af_more ct.length num z + z))
  have q2 := aw_val_len (16 * num + 8 * af_more ct.length num z + z)
  have q3 := af_size_ok z
  have q4 : (aw_pay ct (num * af_size z) (af_size z)).length ≤ 33 := by
    unfold aw_pay
    split
    · rw [List.length_cons, List.length_take]; omega
    · simp
  rw [aw_cont, List.length_append, List.length_append]
  omega
theorem x_ans75 {co tk : Nat} {res : Option Nat} {now : Int32} (h : ob_Sv t v) (hm : ob_Mm t ty code id (some tk) w b2 b1 S P) (hr : ∀ r, res = some r → r < 4) (hc : (co = 69 ∧ res ≠ none ∧ b2 ≠ none) ∨ co = 132 ∨ co = 130 ∨ ((co = 68 ∨ co = 95 ∨ co = 136 ∨ co = 141) ∧ b1 ≠ none)) : ∃ u, B_Se_answer_75 53 96 now (oI res) (nI co) t = some u ∧ ob_Sv u (sv_fin (sv_row v co id tk res w b2 b1).1 id now (sv_row v co id tk res w b2 b1).2) ∧ ob_Fr sv_P t u := by
  have sh := h.1
  obtain ⟨g0, g1, g2, g3, g4, g5, g6, g7, g8⟩ := hm.g
  obtain ⟨m1, m2, m3, m4, m5, m6, m7, m8, m9⟩ := hm.2
  have htk := m4 tk rfl
  have hco : co < 256 := by rcases hc with z | z | z | z <;> omega
  obtain ⟨L0, l0, wr⟩ := h.2.2.2.2.2.2.2.1
  obtain ⟨u1, e1, w1, f1⟩ := x_Wr_begin 2 co id tk wr (by omega) hco m3 htk
  have S1 := h.wr f1 w1
  have mm1 := hm.fr f1 (fun q a b z => by have := ob_3s z; omega)
  have F1 : ob_Fr sv_P t u1 := f1.mono (fun q z => by have := ob_3s z; omega)
  have pre : B_Se_answer_75 53 96 now (oI res) (nI co) t = if ¬ nI co = (69 : Int32) then if nI co = (132 : Int32) then B_Se_answer_139 53 96 now u1 else if nI co = (130 : Int32) then B_Se_answer_139 53 96 now u1 else (ob_gR 9 8 53 u1).bind fun n127 => (ob_gI 8 6 96 u1).bind fun x133 => (X_Wr_addNumber n127 (27 : Int32) x133 u1).bind fun t136 => B_Se_answer_139 53 96 now t136 else (X_Se_addContent 53 96 (oI res) u1).bind fun t104 => B_Se_answer_139 53 96 now t104 := by
    rw [B_Se_answer_75, ob_b_e (ob_gR_e sh.1 sh.2.2.2.2.2.2.1), ob_b_e g2, ob_b_e g3, ob_b_e (show X_Wr_begin 93 2 (nI co) (nI id) (oI (some tk)) t = some u1 from e1)]
  have ne : ∀ k, k < 256 → co ≠ k → ¬ nI co = nI k := fun k hk z q => z ((nI_eq (by omega) (by omega)).mp q)
  rw [pre, sv_row]
  by_cases c69 : co = 69
  · rw [if_neg (show ¬ ¬ nI co = (69 : Int32) from fun z => z (by rw [c69]; rfl)), if_pos c69]
    obtain ⟨r, rfl⟩ : ∃ r, res = some r := by
      cases res with
      | none => rcases hc with z | z | z | z
                · exact absurd rfl z.2.1
                · omega
                · omega
                · omega
      | some r => exact ⟨r, rfl⟩
    obtain ⟨b, rfl⟩ : ∃ b, b2 = some b := by
      cases b2 with
      | none => rcases hc with z | z | z | z
                · exact absurd rfl z.2.2
                · omega
                · omega
                · omega
      | some b => exact ⟨b, rfl⟩
    have hr4 := hr r rfl
    obtain ⟨u2, e2, S2, w2, f2⟩ := x_addContent S1 mm1 w1 hr4 (by simp [aw_begin])
    have q1 := sv_reg_len v tk r (b / 16) (b % 8) w
    have q2 := aw_cont_len (v.1 r) (sv_reg v tk r (b / 16) (b % 8) w).2.2 (b / 16) (b % 8)
    obtain ⟨u3, e3, S3, f3⟩ := x_ans139 (now := now) S2 (mm1.fr f2 (fun q a b z => by omega)) w2 (by
      rw [List.length_append, List.length_append]
      have : (aw_begin 2 co id tk).length = 5 := rfl
      omega)
    refine ⟨u3, ?_, S3, (F1.tr f2).tr f3⟩
    rw [ob_b_e (show X_Se_addContent 53 96 (oI (some r)) u1 = some u2 from e2)]
    exact e3
  · rw [if_pos (show ¬ nI co = (69 : Int32) from ne 69 (by omega) c69), if_neg c69]
    obtain ⟨u2, e2, S2, f2⟩ := x_ans139 (now := now) S1 mm1 w1 (by simp [aw_begin])
    by_cases c132 : co = 132
    · rw [if_pos (show nI co = (132 : Int32) by rw [c132]; rfl), if_pos (Or.inl c132)]
      exact ⟨u2, e2, S2, F1.tr f2⟩
    · rw [if_neg (show ¬ nI co = (132 : Int32) from ne 132 (by omega) c132)]
      by_cases c130 : co = 130
      · rw [if_pos (show nI co = (130 : Int32) by rw [c130]; rfl), if_pos (Or.inr c130)]
        exact ⟨u2, e2, S2, F1.tr f2⟩
      · rw [if_neg (show ¬ nI co = (130 : Int32) from ne 130 (by omega) c130), if_neg (show ¬ (co = 132 ∨ co = 130) from fun z => z.elim c132 c130)]
        obtain ⟨b, rfl⟩ : ∃ b, b1 = some b := by
          cases b1 with
          | none => rcases hc with z | z | z | z
                    · omega
                    · omega
                    · omega
                    · exact absurd rfl z.2
          | some b => exact ⟨b, rfl⟩
        have hb := m7 b rfl
        obtain ⟨u3, e3, w3, f3⟩ := x_Wr_addNumber 27 b w1 (by omega) (by omega) (by omega) (by simp [aw_begin])
        have S3 := S1.wr f3 w3
        have q1 := aw_head_len 0 27 (aw_n b)
        have q2 := aw_val_len b
        obtain ⟨u4, e4, S4, f4⟩ := x_ans139 (now := now) S3 (mm1.fr f3 (fun q a b z => by have := ob_3s z; omega)) w3 (by
          rw [List.length_append, List.length_append]
          have : (aw_begin 2 co id tk).length = 5 := rfl
          omega)
        refine ⟨u4, ?_, S4, (F1.tr (f3.mono (fun q z => by have := ob_3s z; omega))).tr f4⟩
        rw [ob_b_e (ob_gR_e S1.1.1 S1.1.2.2.2.2.2.2.1), ob_b_e mm1.g.2.2.2.2.2.2.1, ob_b_e (show X_Wr_addNumber 93 27 (oI (some b)) u1 = some u3 from e3)]
        exact e4
/-- the server answers a request -/
noncomputable def sv_do (v : sv_S) (code id tk : Nat) (w b2 b1 : Option Nat) (S : List (List Nat)) (P : List Nat) (now : Int32) : sv_S :=
  let v0 : sv_S := (v.1, v.2.1, v.2.2.1, v.2.2.2.1, v.2.2.2.2.1 + 1, v.2.2.2.2.2)
  let hv := sv_hand v0 code (sg_res S) b2 b1 P
  let v1 := if hv.1 = 68 then sv_tellAll hv.2 ((sg_res S).getD 0) else hv.2
  sv_fin (sv_row v1 hv.1 id tk (sg_res S) w b2 b1).1 id now (sv_row v1 hv.1 id tk (sg_res S) w b2 b1).2
noncomputable def sv_answer (v : sv_S) (code id tk : Nat) (w b2 b1 : Option Nat) (S : List (List Nat)) (P : List Nat) (now : Int32) : sv_S := match am_find v.2.2.2.1 (nI id) now with
  | some k => sv_send v ((v.2.2.2.1[k]?.map (fun q => q.2.2)).getD [])
  | none => sv_do v code id tk w b2 b1 S P now
theorem x_Se_answer {tk : Nat} {now : Int32} (h : ob_Sv t v) (hm : ob_Mm t ty code id (some tk) w b2 b1 S P) (hco : code = 1 ∨ code = 3) (hs : sg_ok S) : ∃ u, X_Se_answer 53 96 now t = some u ∧ ob_Sv u (sv_answer v code id tk w b2 b1 S P now) ∧ ob_Fr sv_P t u := by
  have sh := h.1
  have ef := x_Me_find (nI id) now h.2.2.2.2.2.1
  rw [X_Se_answer, ob_this_e sh.1, ob_b_e (ob_gR_e sh.1 sh.2.2.2.2.1), ob_b_e hm.g.2.2.1, ob_b2_e ef, sv_answer]
  cases hf : am_find v.2.2.2.1 (nI id) now with
  | some k =>
    have hk : k < v.2.2.2.1.length := by
      unfold am_find at hf
      split at hf
      · cases hf
      · rename_i k' hk'
        split at hf
        · cases hf
        · rename_i q hq
          split at hf
          · cases hf
          · cases hf
            exact (List.getElem?_eq_some_iff.mp hq).1
    have hl4 := h.2.2.2.2.2.1.2.1
    obtain ⟨r, r1, r2, r3, r4, r5⟩ := h.2.2.2.2.2.1.2.2.2
    have hq : v.2.2.2.1[k]? = some v.2.2.2.1[k] := List.getElem?_eq_getElem hk
    obtain ⟨q1, q2, q3⟩ := r5 k _ hq
    have hrk := r1 k (by omega)
    have hlen : (v.2.2.2.1[k]).2.2.length ≤ 48 := h.2.2.2.2.2.2.2.2 _ (List.getElem_mem hk)
    obtain ⟨u, e, l, f⟩ := x_send 0 h.2.2.2.2.2.2.1 q1 (Or.inr (by omega)) (Or.inr (by omega)) hlen
    have S1 := h.li f l
    dsimp only
    rw [hq]
    refine ⟨u, ?_, S1, f.mono (fun q z => by omega)⟩
    have g1 := h.2.2.2.2.2.1.1
    rw [if_neg (oI_some (by omega)), ob_b_e (ob_gR_e sh.1 sh.2.2.2.2.2.1), ob_b_e (ob_gR_e sh.1 sh.2.2.2.2.1), ob_b_e (ob_gR_e g1.1 g1.2.1), ob_b_e (show ob_aR 14 82 (oI (some k)) t = some (85 + 2 * r k) from ob_aR_e g1.2.2.2.2.1 (by rw [g1.2.2.2.2.2.1]; omega) (by rw [g1.2.2.2.2.2.1]; omega) (r3 k (by omega))), ob_b_e (show X_Li_send 1 (85 + 2 * r k) 0 t = some u from e)]
  | none =>
    try dsimp only
    have S0 := h.hand (v.2.2.2.2.1 + 1)
    have f0 : ob_Fr (fun q => q = 53) t (ob_setI t 53 1 (v.2.2.2.2.1 + 1)) := ob_Fr.setI rfl
    have mm0 := hm.fr f0 (fun q a b => by omega)
    have er := x_resourceUnder S0.1.1 mm0.1 hs
    have hr4 : ∀ r, sg_res S = some r → r < 4 := fun r hr => sg_res_lt hr
    obtain ⟨u1, e1, S1, f1⟩ := x_handle (res := sg_res S) S0 mm0 hco hr4
    have mm1 := mm0.fr f1 (fun q a b => by omega)
    have hcode := sv_hand_code (v.1, v.2.1, v.2.2.1, v.2.2.2.1, v.2.2.2.2.1 + 1, v.2.2.2.2.2) code (sg_res S) b2 b1 P hco
    rw [if_pos (show oI none = -1 from rfl), ob_b_e (ob_gI_e sh.1 h.2.1.1), ob_b_e (ob_pI_e sh.1), ob_b2_e er, ob_b2_e e1, sv_do]
    try dsimp only
    generalize hhv : sv_hand (v.1, v.2.1, v.2.2.1, v.2.2.2.1, v.2.2.2.2.1 + 1, v.2.2.2.2.2) code (sg_res S) b2 b1 P = hv at S1 hcode ⊢
    have hc' : (hv.1 = 69 ∧ sg_res S ≠ none ∧ b2 ≠ none) ∨ hv.1 = 132 ∨ hv.1 = 130 ∨ ((hv.1 = 68 ∨ hv.1 = 95 ∨ hv.1 = 136 ∨ hv.1 = 141) ∧ b1 ≠ none) := by
      rcases hcode with z | z | z | z
      · exact Or.inl ⟨z.1, z.2.2⟩
      · exact Or.inr (Or.inl z)
      · exact Or.inr (Or.inr (Or.inl z))
      · exact Or.inr (Or.inr (Or.inr ⟨z.1, z.2.2⟩))
    by_cases c68 : hv.1 = 68
    · obtain ⟨r, hr⟩ : ∃ r, sg_res S = some r := by
        rcases hcode with z | z | z | z
        · omega
        · omega
        · omega
        · cases hq : sg_res S with
          | none => exact absurd hq z.2.1
          | some r => exact ⟨r, rfl⟩
      obtain ⟨u2, e2, S2, f2⟩ := x_tellAll S1 (hr4 r hr)
      obtain ⟨u3, e3, S3, f3⟩ := x_ans75 (now := now) (co := hv.1) S2 (mm1.fr f2 (fun q a b => by omega)) hr4 hc'
      rw [if_neg (show ¬ ¬ nI hv.1 = (68 : Int32) from fun z => z (by rw [c68]; rfl)), ob_b_e (show X_Se_tellWatchersOf 53 (oI (sg_res S)) u1 = some u2 by rw [hr]; exact e2), if_pos c68]
      refine ⟨u3, e3, ?_, (((f0.mono (fun q z => by omega)).tr (f1.mono (fun q z => by omega))).tr f2).tr f3⟩
      rw [show (sg_res S).getD 0 = r by rw [hr]; rfl]
      exact S3
    · obtain ⟨u3, e3, S3, f3⟩ := x_ans75 (now := now) (co := hv.1) S1 mm1 hr4 hc'
      have hlt : hv.1 < 256 := by rcases hc' with z | z | z | z <;> omega
      rw [if_pos (show ¬ nI hv.1 = (68 : Int32) from fun z => c68 ((nI_eq (b := 68) (by omega) (by omega)).mp z)), if_neg c68]
      exact ⟨u3, e3, S3, ((f0.mono (fun q z => by omega)).tr (f1.mono (fun q z => by omega))).tr f3⟩
end SVB
