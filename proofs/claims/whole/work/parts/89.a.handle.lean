/-! LAYER 2, 49: the reference's server handles a message -/
theorem dX_Sv {n j : Nat} (a : dX n j) : ¬ dSv n j := by
  intro b
  rcases b with b | b | b
  · exact dX_V a b
  · omega
  · omega
theorem mo_F.vs {t u : ob_S} (f : mo_F dV t u) : mo_F dSv t u := f.mono (fun _ _ z => Or.inl z)
theorem mo_F.ws {t u : ob_S} (f : mo_F dW t u) : mo_F dSv t u := f.mono (fun _ _ z => Or.inr (Or.inr z))
theorem mo_F.ls {t u : ob_S} (f : mo_F dL t u) : mo_F dSv t u := f.mono (fun _ _ z => Or.inr (Or.inl z))
theorem mo_F.ms {t u : ob_S} (f : mo_F dMe t u) : mo_F dSv t u := f.mono (fun _ _ z => Or.inl (Or.inr (Or.inr (Or.inr z))))
theorem mo_F.vws {t u : ob_S} (f : mo_F (fun n j => dV n j ∨ dW n j) t u) : mo_F dSv t u := f.mono (fun _ _ z => by
  rcases z with z | z
  · exact Or.inl z
  · exact Or.inr (Or.inr z))
section YHN
variable {t : ob_S} {v : sv_S} {ty code id tk r : Nat} {tok w b2 b1 : Option Nat} {S : List (List Nat)} {P : List Nat} {now : Int32}
theorem mo_Sx.me {u : ob_S} {M : List am_A} (h : mo_Sx t v) (f : mo_F dMe t u) (hM : mo_Me u M) : mo_Sx u (v.1, v.2.1, v.2.2.1, M, v.2.2.2.2) := by
  obtain ⟨h38, h37, h6, hC, hQ, hW, -⟩ := h
  exact ⟨(f.2.2.2.2 _ _ (by omega)).trans h38, ⟨(f.2.2.2.2 _ _ (by omega)).trans h37.1, h37.2⟩, ⟨(f.2.2.2.2 _ _ (by omega)).trans h6.1, h6.2⟩, hC.f f (fun j => by omega) (fun j => by omega), hQ.f f (fun j => by omega) (fun j => by omega), hW.f f (fun n j a b => by
    rcases a with a | a | a
    · omega
    · rcases a with a | a | a <;> omega
    · rcases a with a | a | a <;> omega), hM⟩
theorem y_fin {row : List Nat} {last : Nat} (h : mo_Sv t v) (o : mo_Out t row last) (hl : row.length ≤ 48) (e51 : ob_i t 103 51 = nI id) (e4 : ob_i t 103 4 = now) : ∃ u, B_Mo_handle_126 103 t = some u ∧ mo_Sv u (sv_fin v id now row) ∧ mo_F dSv t u := by
  obtain ⟨u1, e1, m1, f1⟩ := y_remember h.1.2.2.2.2.2.2 o hl e51 e4
  have x1 := h.1.me f1 m1
  have l1 := h.2.f f1 (fun n j a b => by omega)
  have o1 := o.f f1 (fun n j a b => by omega)
  obtain ⟨u2, e2, l2, f2⟩ := y_send (g := 0) 0 l1 o1 rfl (by omega) hl
  refine ⟨u2, ?_, ⟨x1.f f2 (fun n j a b => dL_V b a), l2⟩, f1.ms.tr f2.ls⟩
  rw [B_Mo_handle_126, ob_b_e e1, ob_b_e e2]
theorem y_h58 (co : Nat) (hS : mo_sh t) (h : mo_Sv t v) (hm : mo_Mm t ty code id (some tk) w b2 b1 S P) (e4 : ob_i t 103 4 = now) (hco : co < 256) (hc0 : co ≠ 0) : ∃ u, B_Mo_handle_58 103 (nI co) 2 103 t = some u ∧ mo_Sv u (sv_fin v id now (aw_begin 2 co id tk)) ∧ mo_F dSv t u := by
  obtain ⟨g49, g50, g51, g52, g53, g57, g58, gP, gS, mok, sok⟩ := hm
  have htk := mok.2.2.2.1 tk rfl
  obtain ⟨u1, e1, o1, f1⟩ := y_begin 2 co id hS (by omega) hco mok.2.2.1
  have s1 := o1.1
  obtain ⟨u2, e2, o2, f2⟩ := y_write (v := nI tk) tk o1 rfl (by simp) htk
  rw [if_neg hc0, show [64 + 16 * 2 + 1, co, id / 256, id % 256] ++ [tk] = aw_begin 2 co id tk from rfl] at o2
  have f12 := f1.tr f2
  have a52 : ob_i u1 103 52 = nI tk := (f1.2.2.2.2 _ _ (by omega)).trans g52
  obtain ⟨u, eu, su, fu⟩ := y_fin (id := id) (now := now) (v := v) ⟨h.1.f f12 (fun n j a => dV_W a), h.2.f f12 (fun n j a b => by omega)⟩ o2 (by simp [aw_begin]) ((f12.2.2.2.2 _ _ (by omega)).trans g51) ((f12.2.2.2.2 _ _ (by omega)).trans e4)
  refine ⟨u, ?_, su, f12.ws.tr fu⟩
  rw [B_Mo_handle_58, ob_b_e (mo_g hS), g51, ob_b_e (show X_Mo_begin 103 2 (nI co) (nI id) t = some u1 from e1), ob_b_e (mo_g s1), a52, ob_b_e e2]
  exact eu
/-- GET, with a resource and a block -/
theorem y_hGet {b : Nat} (hS : mo_sh t) (h : mo_Sv t v) (hm : mo_Mm t ty code id (some tk) w (some b) b1 S P) (e4 : ob_i t 103 4 = now) (hr : r < 4) : ∃ u, ((X_Mo_answerGet 103 (nI r) t).bind fun t86 => B_Mo_handle_126 103 t86) = some u ∧ mo_Sv u (sv_fin (sv_row (sv_hand v 1 (some r) (some b) b1 P).2 (sv_hand v 1 (some r) (some b) b1 P).1 id tk (some r) w (some b) b1).1 id now (sv_row (sv_hand v 1 (some r) (some b) b1 P).2 (sv_hand v 1 (some r) (some b) b1 P).1 id tk (some r) w (some b) b1).2) ∧ mo_F dSv t u := by
  have g51 := hm.2.2.1
  obtain ⟨k1, k2⟩ := y_answerGet hS h.1 hm hr
  by_cases c : b / 16 ≠ 0 ∧ (v.1 r).length ≤ b / 16 * af_size (b % 8)
  · obtain ⟨u1, last, e1, x1, o1, f1⟩ := k1 c
    have eh : sv_hand v 1 (some r) (some b) b1 P = (130, v) := by
      unfold sv_hand
      dsimp only
      rw [if_pos rfl, if_pos c]
    have er : sv_row v 130 id tk (some r) w (some b) b1 = (v, aw_begin 2 130 id tk) := by
      rw [sv_row, if_neg (by omega), if_pos (Or.inr rfl)]
    rw [eh, er]
    obtain ⟨u, eu, su, fu⟩ := y_fin (id := id) (now := now) (v := v) ⟨x1, h.2.f f1 (fun n j a b => by
      rcases b with b | b
      · exact dL_V a b
      · omega)⟩ o1 (by simp [aw_begin]) ((f1.vws.2.2.2.2 _ _ (dX_Sv (by omega))).trans g51) ((f1.2.2.2.2 _ _ (by omega)).trans e4)
    exact ⟨u, by rw [ob_b_e e1]; exact eu, su, f1.vws.tr fu⟩
  · obtain ⟨u1, last, e1, x1, o1, f1⟩ := k2 c
    have eh : sv_hand v 1 (some r) (some b) b1 P = (69, v) := by
      unfold sv_hand
      dsimp only
      rw [if_pos rfl, if_neg c]
    have er : sv_row v 69 id tk (some r) w (some b) b1 = ((sv_reg v tk r (b / 16) (b % 8) w).1, aw_begin 2 69 id tk ++ (sv_reg v tk r (b / 16) (b % 8) w).2.1 ++ aw_cont (v.1 r) (sv_reg v tk r (b / 16) (b % 8) w).2.2 (b / 16) (b % 8)) := by
      rw [sv_row, if_pos rfl]
      rfl
    rw [eh, er]
    have hlen : (aw_begin 2 69 id tk ++ (sv_reg v tk r (b / 16) (b % 8) w).2.1 ++ aw_cont (v.1 r) (sv_reg v tk r (b / 16) (b % 8) w).2.2 (b / 16) (b % 8)).length ≤ 48 := by
      have q1 := sv_reg_len v tk r (b / 16) (b % 8) w
      have q2 := aw_head_len (sv_reg v tk r (b / 16) (b % 8) w).2.2 23 (aw_n (16 * (b / 16) + 8 * af_more (v.1 r).length (b / 16) (b % 8) + b % 8))
      have q3 := aw_val_len (16 * (b / 16) + 8 * af_more (v.1 r).length (b / 16) (b % 8) + b % 8)
      have q4 := af_size_ok (b % 8)
      have q5 := aw_pay_e (K := v.1 r) (st := b / 16 * af_size (b % 8)) (ct := af_size (b % 8)) (by omega)
      have q6 : (aw_pay (v.1 r) (b / 16 * af_size (b % 8)) (af_size (b % 8))).length ≤ 33 := by
        rw [q5.2]
        split
        · simp
        · rw [List.length_cons]; omega
      rw [List.length_append, List.length_append, aw_cont, List.length_append, List.length_append]
      simp only [aw_begin, List.length_cons, List.length_nil]
      omega
    have eL : (sv_reg v tk r (b / 16) (b % 8) w).1.2.2.2.2.2.2.2 = v.2.2.2.2.2.2.2 := by
      unfold sv_reg
      split
      · split <;> rfl
      · split
        · split <;> rfl
        · rfl
    obtain ⟨u, eu, su, fu⟩ := y_fin (id := id) (now := now) (v := (sv_reg v tk r (b / 16) (b % 8) w).1) ⟨x1, by rw [eL]; exact h.2.f f1 (fun n j a b => by
      rcases b with b | b
      · exact dL_V a b
      · omega)⟩ o1 hlen ((f1.vws.2.2.2.2 _ _ (dX_Sv (by omega))).trans g51) ((f1.2.2.2.2 _ _ (by omega)).trans e4)
    exact ⟨u, by rw [ob_b_e e1]; exact eu, su, f1.vws.tr fu⟩
/-- PUT, with a resource and a block -/
theorem y_hPut {b : Nat} (hS : mo_sh t) (h : mo_Sv t v) (hm : mo_Mm t ty code id (some tk) w b2 (some b) S P) (e4 : ob_i t 103 4 = now) (hr : r < 4) : ∃ u, (ob_b2 (X_Mo_takePart 103 (nI r) t) fun x94 t94 => (ob_gI 11 51 103 t94).bind fun x102 => (X_Mo_begin 103 (2 : Int32) x94 x102 t94).bind fun t105 => (ob_gI 11 52 103 t105).bind fun x110 => (X_Mo_write 103 x110 t105).bind fun t113 => (ob_gI 11 58 103 t113).bind fun x120 => (X_Mo_option 103 (27 : Int32) x120 t113).bind fun t123 => B_Mo_handle_126 103 t123) = some u ∧ mo_Sv u (sv_fin (if (sv_part v r b P).1 = 68 then sv_tellAll (sv_part v r b P).2 r else (sv_part v r b P).2) id now (aw_begin 2 (sv_part v r b P).1 id tk ++ aw_head 0 27 (aw_n b) ++ aw_val b)) ∧ mo_F dSv t u := by
  obtain ⟨u0, e0, s0, f0⟩ := y_takePart hS h hm hr
  have m0 := hm.f f0 (fun n j a => dX_Sv a)
  have sh0 := hS.f f0
  obtain ⟨g49, g50, g51, g52, g53, g57, g58, gP, gS, mok, sok⟩ := m0
  have htk := mok.2.2.2.1 tk rfl
  have hb := mok.2.2.2.2.2.2.1 b rfl
  have hco := sv_part_code v r b P
  have g58 : ob_i u0 103 58 = nI b := g58
  obtain ⟨u1, e1, o1, f1⟩ := y_begin 2 (sv_part v r b P).1 id sh0 (by omega) (by omega) mok.2.2.1
  have s1 := o1.1
  obtain ⟨u2, e2, o2, f2⟩ := y_write (v := nI tk) tk o1 rfl (by simp) htk
  rw [if_neg (by omega), show [64 + 16 * 2 + 1, (sv_part v r b P).1, id / 256, id % 256] ++ [tk] = aw_begin 2 (sv_part v r b P).1 id tk from rfl] at o2
  have s2 := o2.1
  have f12 := f1.tr f2
  have a52 : ob_i u1 103 52 = nI tk := (f1.2.2.2.2 _ _ (by omega)).trans g52
  have a58 : ob_i u2 103 58 = nI b := (f12.2.2.2.2 _ _ (by omega)).trans g58
  obtain ⟨u3, e3, o3, f3⟩ := y_option 27 b o2 (by omega) (by omega) (by omega) (by simp [aw_begin])
  have f13 := f12.tr f3
  have q2 := aw_head_len 0 27 (aw_n b)
  have q3 := aw_val_len b
  obtain ⟨u, eu, su, fu⟩ := y_fin (id := id) (now := now) ⟨s0.1.f f13 (fun n j a => dV_W a), s0.2.f f13 (fun n j a b => by omega)⟩ o3 (by
    rw [List.length_append, List.length_append]
    simp only [aw_begin, List.length_cons, List.length_nil]
    omega) ((f13.2.2.2.2 _ _ (by omega)).trans g51) ((f13.2.2.2.2 _ _ (by omega)).trans ((f0.2.2.2.2 _ _ (by omega)).trans e4))
  refine ⟨u, ?_, su, (f0.tr f13.ws).tr fu⟩
  rw [ob_b2_e e0, ob_b_e (mo_g sh0), g51, ob_b_e (show X_Mo_begin 103 2 (nI (sv_part v r b P).1) (nI id) u0 = some u1 from e1), ob_b_e (mo_g s1), a52, ob_b_e e2, ob_b_e (mo_g s2), a58, ob_b_e (show X_Mo_option 103 27 (nI b) u2 = some u3 from e3)]
  exact eu
theorem y_handle (hS : mo_sh t) (h : mo_Sv t v) (hm : mo_Mm t ty code id (some tk) w b2 b1 S P) (hco : code = 1 ∨ code = 3) (e4 : ob_i t 103 4 = now) : ∃ u, X_Mo_handle 103 t = some u ∧ mo_Sv u (sv_do v code id tk w b2 b1 S P now) ∧ mo_F dSv t u := by
  obtain ⟨T, hT⟩ : ∃ T, T = ob_setI t 103 38 (v.2.2.2.2.1 + 1) := ⟨_, rfl⟩
  have fT : mo_F (fun n j => n = 103 ∧ j = 38) t T := by
    rw [hT]
    exact mo_F.o ⟨rfl, rfl⟩
  have sT := hS.f fT
  have mT := hm.f fT (fun n j a b => by omega)
  have t4 : ob_i T 103 4 = now := (fT.2.2.2.2 _ _ (by omega)).trans e4
  obtain ⟨v0, hv0⟩ : ∃ v0 : sv_S, v0 = (v.1, v.2.1, v.2.2.1, v.2.2.2.1, v.2.2.2.2.1 + 1, v.2.2.2.2.2) := ⟨_, rfl⟩
  have vT : mo_Sv T v0 := by
    obtain ⟨⟨h38, h37, h6, hC, hQ, hW, hM⟩, hL⟩ := h
    rw [hv0]
    exact ⟨⟨by rw [hT, ob_i_self], ⟨(fT.2.2.2.2 _ _ (by omega)).trans h37.1, h37.2⟩, ⟨(fT.2.2.2.2 _ _ (by omega)).trans h6.1, h6.2⟩, hC.f fT (fun j => by omega) (fun j => by omega), hQ.f fT (fun j => by omega) (fun j => by omega), hW.f fT (fun n j a b => by
      rcases a with a | a | a
      · omega
      · rcases a with a | a | a <;> omega
      · rcases a with a | a | a <;> omega), hM.f fT (fun n j a b => by rcases a with a | a <;> omega)⟩, hL.f fT (fun n j a b => by omega)⟩
  have fS : mo_F dSv t T := fT.mono (fun n j z => Or.inl (Or.inl (by omega)))
  have hdo : sv_do v code id tk w b2 b1 S P now = sv_fin (sv_row (if (sv_hand v0 code (sg_res S) b2 b1 P).1 = 68 then sv_tellAll (sv_hand v0 code (sg_res S) b2 b1 P).2 ((sg_res S).getD 0) else (sv_hand v0 code (sg_res S) b2 b1 P).2) (sv_hand v0 code (sg_res S) b2 b1 P).1 id tk (sg_res S) w b2 b1).1 id now (sv_row (if (sv_hand v0 code (sg_res S) b2 b1 P).1 = 68 then sv_tellAll (sv_hand v0 code (sg_res S) b2 b1 P).2 ((sg_res S).getD 0) else (sv_hand v0 code (sg_res S) b2 b1 P).2) (sv_hand v0 code (sg_res S) b2 b1 P).1 id tk (sg_res S) w b2 b1).2 := by
    rw [hv0]
    rfl
  have g50 := mT.2.1
  have g57 := mT.2.2.2.2.2.1
  have g58 := mT.2.2.2.2.2.2.1
  have mok := mT.2.2.2.2.2.2.2.2.2.1
  have er := y_resource sT mT.2.2.2.2.2.2.2.2.1 mT.2.2.2.2.2.2.2.2.2.2
  suffices hmain : ∃ u, B_Mo_handle_34 103 (oI (sg_res S)) (if code = 1 then oI b2 else oI b1) T = some u ∧ mo_Sv u (sv_do v code id tk w b2 b1 S P now) ∧ mo_F dSv T u by
    obtain ⟨u, eu, su, fu⟩ := hmain
    refine ⟨u, ?_, su, fS.tr fu⟩
    rw [X_Mo_handle, mo_this hS, ob_b_e (mo_g hS), h.1.1, ob_b_e (mo_p hS), ← hT, ob_b2_e er, ob_b_e (mo_g sT), g50]
    rcases hco with rfl | rfl
    · rw [if_neg (show ¬ ¬ nI 1 = (1 : Int32) from fun z => z rfl), ob_b_e (mo_g sT), g57]
      exact eu
    · rw [if_pos (show ¬ nI 3 = (1 : Int32) by decide), ob_b_e (mo_g sT), g58]
      exact eu
  rw [hdo]
  cases hres : sg_res S with
  | none =>
    obtain ⟨u, eu, su, fu⟩ := y_h58 132 sT vT mT t4 (by omega) (by omega)
    refine ⟨u, ?_, ?_, fu⟩
    · rw [B_Mo_handle_34, if_pos (show oI none < 0 by decide), B_Mo_handle_43, if_neg (show ¬ (0 : Int32) ≤ oI none by decide)]
      exact eu
    · have eh : sv_hand v0 code none b2 b1 P = (132, v0) := rfl
      rw [eh]
      dsimp only
      rw [if_neg (by omega), sv_row, if_neg (by omega), if_pos (Or.inl rfl)]
      exact su
  | some r =>
    have hr := sg_res_lt hres
    have hneg : ¬ oI (some r) < 0 := nI_nlt (b := 0) (by omega) (by omega)
    have hpos : (0 : Int32) ≤ oI (some r) := nI_le (a := 0) (by omega) (by omega)
    have no : ∀ o : Option Nat, o = none → sv_hand v0 code (some r) b2 b1 P = (130, v0) → (if code = 1 then oI b2 else oI b1) = oI o → ∃ u, B_Mo_handle_34 103 (oI (some r)) (if code = 1 then oI b2 else oI b1) T = some u ∧ mo_Sv u (sv_fin (sv_row (if (sv_hand v0 code (some r) b2 b1 P).1 = 68 then sv_tellAll (sv_hand v0 code (some r) b2 b1 P).2 ((some r).getD 0) else (sv_hand v0 code (some r) b2 b1 P).2) (sv_hand v0 code (some r) b2 b1 P).1 id tk (some r) w b2 b1).1 id now (sv_row (if (sv_hand v0 code (some r) b2 b1 P).1 = 68 then sv_tellAll (sv_hand v0 code (some r) b2 b1 P).2 ((some r).getD 0) else (sv_hand v0 code (some r) b2 b1 P).2) (sv_hand v0 code (some r) b2 b1 P).1 id tk (some r) w b2 b1).2) ∧ mo_F dSv T u := by
      intro o ho eh eb
      obtain ⟨u, eu, su, fu⟩ := y_h58 130 sT vT mT t4 (by omega) (by omega)
      refine ⟨u, ?_, ?_, fu⟩
      · rw [eb, ho, B_Mo_handle_34, if_neg hneg, if_neg (show ¬ (0 : Int32) ≤ oI none by decide), B_Mo_handle_43, if_pos hpos]
        exact eu
      · rw [eh]
        dsimp only
        rw [if_neg (by omega), sv_row, if_neg (by omega), if_pos (Or.inr rfl)]
        exact su
    rcases hco with rfl | rfl
    · cases hb : b2 with
      | none =>
        rw [hb] at no
        exact no none rfl rfl rfl
      | some b =>
        rw [hb] at mT mok
        have hbb := mok.2.2.2.2.2.1 b rfl
        obtain ⟨u, eu, su, fu⟩ := y_hGet (r := r) sT vT mT t4 hr
        refine ⟨u, ?_, ?_, fu⟩
        · rw [if_pos rfl, B_Mo_handle_34, if_neg hneg, if_pos (show (0 : Int32) ≤ oI (some b) from nI_le (a := 0) (by omega) (by omega)), ob_b_e (mo_g sT), g50, if_neg (show ¬ ¬ nI 1 = (1 : Int32) from fun z => z rfl)]
          exact eu
        · have h68 : ¬ (sv_hand v0 1 (some r) (some b) b1 P).1 = 68 := by
            unfold sv_hand
            dsimp only
            rw [if_pos rfl]
            split
            · show ¬ (130 : Nat) = 68
              omega
            · show ¬ (69 : Nat) = 68
              omega
          rw [if_neg h68]
          exact su
    · cases hb : b1 with
      | none =>
        rw [hb] at no
        exact no none rfl rfl rfl
      | some b =>
        rw [hb] at mT mok
        have hbb := mok.2.2.2.2.2.2.1 b rfl
        obtain ⟨u, eu, su, fu⟩ := y_hPut (r := r) sT vT mT t4 hr
        refine ⟨u, ?_, ?_, fu⟩
        · rw [if_neg (show ¬ (3 : Nat) = 1 by omega), B_Mo_handle_34, if_neg hneg, if_pos (show (0 : Int32) ≤ oI (some b) from nI_le (a := 0) (by omega) (by omega)), ob_b_e (mo_g sT), g50, if_pos (show ¬ nI 3 = (1 : Int32) by decide)]
          exact eu
        · have eh : sv_hand v0 3 (some r) b2 (some b) P = sv_part v0 r b P := rfl
          have hc := sv_part_code v0 r b P
          rw [eh, sv_row, if_neg (by omega), if_neg (by omega)]
          exact su
end YHN
