/-! LAYER 2, 47: the reference's server takes a part; its memory -/
section YTP
variable {t : ob_S} {v : sv_S} {ty code id tk r : Nat} {tok w b2 b1 : Option Nat} {S : List (List Nat)} {P : List Nat}
/-- a content is whole -/
theorem y_part157 {K : List Nat} (hS : mo_sh t) (h : mo_Sv t v) (hK : v.2.1 r = K) (hr : r < 4) : ∃ u, B_Mo_takePart_157 ob_fu 103 (nI r) 0 t = some (68, u) ∧ mo_Sv u (sv_tellAll (va_up v.1 r K, va_up v.2.1 r [], v.2.2) r) ∧ mo_F dSv t u := by
  obtain ⟨hx, hL⟩ := h
  have hq := hx.2.2.2.2.1 r hr
  rw [hK] at hq
  have hKl := hq.2.2.1
  obtain ⟨g, u, eu, fu, vu⟩ := mo_loop (G := fun fu i x => B_Mo_takePart_157 fu 103 (nI r) i x) (dst := 128) (o := 64 * r) (n := K.length) (val := fun i => ob_i t 130 (64 * r + i)) (t := t) (fun fu i u hi f => by
    have s1 : mo_sh u := hS.f f
    have e131 : ob_i u 131 r = nI K.length := (f.2.2.2.2 _ _ (by omega)).trans hq.1
    have e130 : ob_i u 130 (64 * r + i) = ob_i t 130 (64 * r + i) := f.2.2.2.2 _ _ (by omega)
    show B_Mo_takePart_157 (fu + 1) 103 (nI r) (nI i) u = _
    rw [B_Mo_takePart_157, ob_b_e (mo_r31 s1), ob_b_e (mo_a131 s1 hr), e131, if_neg (nI_ge hi (by omega)), ob_b_e (mo_r28 s1), ob_b_e (mo_r30 s1), mo_x64, ob_b_e (mo_a130 s1 (by omega)), ob_b_e (mo_w128 s1 (by omega)), nI_1, e130]) ob_fu (by show K.length < 2000; omega)
  have s1 := hS.f fu
  have e131 : ob_i u 131 r = nI K.length := (fu.2.2.2.2 _ _ (by omega)).trans hq.1
  obtain ⟨T, hT⟩ : ∃ T, T = ob_setI (ob_setI u 129 r (nI K.length)) 131 r (nI 0) := ⟨_, rfl⟩
  have fT : mo_F (fun n j => (n = 129 ∨ n = 131) ∧ j = r) u T := by
    rw [hT]
    exact (mo_F.o (by omega)).s (by omega)
  have ft : mo_F (fun n _ => 128 ≤ n ∧ n ≤ 131) t T := (fu.mono (fun n j z => by omega)).tr (fT.mono (fun n j z => by omega))
  have sT := s1.f fT
  have cc : mo_Ct T 128 129 (va_up v.1 r K) := by
    intro q hq4
    by_cases c : q = r
    · subst c
      rw [va_up_self]
      refine ⟨by rw [hT, ob_i_n (by omega), ob_i_self], fun i hi => ?_, hKl, hq.2.2.2⟩
      rw [fT.2.2.2.2 _ _ (by omega), vu i hi]
      exact hq.2.1 i hi
    · rw [va_up_ne _ _ c]
      obtain ⟨h1, h2, h3, h4⟩ := hx.2.2.2.1 q hq4
      exact ⟨by rw [fT.2.2.2.2 _ _ (by omega), fu.2.2.2.2 _ _ (by omega)]; exact h1, (h2.f fu (fun j _ _ => by omega)).f fT (fun j _ _ => by omega), h3, h4⟩
  have cp : mo_Ct T 130 131 (va_up v.2.1 r []) := by
    intro q hq4
    by_cases c : q = r
    · subst c
      rw [va_up_self]
      exact ⟨by rw [hT, ob_i_self]; rfl, fun i hi => absurd hi (Nat.not_lt_zero _), by simp, fun x hx => by cases hx⟩
    · rw [va_up_ne _ _ c]
      obtain ⟨h1, h2, h3, h4⟩ := hx.2.2.2.2.1 q hq4
      exact ⟨by rw [fT.2.2.2.2 _ _ (by omega), fu.2.2.2.2 _ _ (by omega)]; exact h1, (h2.f fu (fun j _ _ => by omega)).f fT (fun j _ _ => by omega), h3, h4⟩
  have xT := hx.ct ft cc cp
  obtain ⟨w, ew, sw, fw⟩ := y_tellAll (v := (va_up v.1 r K, va_up v.2.1 r [], v.2.2)) sT ⟨xT, hL.f ft (fun n j a b => by omega)⟩ hr
  refine ⟨w, ?_, sw, (ft.mono (fun n j z => Or.inl (Or.inr (Or.inl z)))).tr fw⟩
  refine Eq.trans eu ?_
  show B_Mo_takePart_157 (g + 1) 103 (nI r) (nI K.length) u = _
  rw [B_Mo_takePart_157, ob_b_e (mo_r31 s1), ob_b_e (mo_a131 s1 hr), e131, if_pos (nI_le (Nat.le_refl _) (by omega)), ob_b_e (mo_r29 s1), ob_b_e (mo_r31 s1), ob_b_e (mo_a131 s1 hr), e131, ob_b_e (mo_w129 s1 hr), ob_b_e (mo_r31 (t := ob_setI u 129 r (nI K.length)) s1), ob_b_e (show ob_wI 131 (nI r) 0 (ob_setI u 129 r (nI K.length)) = some T from by rw [hT]; exact mo_w131 (t := ob_setI u 129 r (nI K.length)) s1 hr), ob_b_e ew]
theorem y_part35 {b : Nat} {K : List Nat} (hS : mo_sh t) (h : mo_Sv t v) (hm : mo_Mm t ty code id tok w b2 (some b) S P) (hr : r < 4) (hK : K = if b / 16 = 0 then [] else v.2.1 r) : ∃ u, B_Mo_takePart_35 103 (nI r) (nI (b / 16)) (nI (b % 8)) (nI K.length) (nI r) 131 t = some (nI (sv_part v r b P).1, u) ∧ mo_Sv u (if (sv_part v r b P).1 = 68 then sv_tellAll (sv_part v r b P).2 r else (sv_part v r b P).2) ∧ mo_F dSv t u := by
  obtain ⟨hx, hL⟩ := h
  obtain ⟨g49, g50, g51, g52, g53, g57, g58, gP, gS, mok, sok⟩ := hm
  have hb := mok.2.2.2.2.2.2.1 b rfl
  obtain ⟨-, -, q3⟩ := y_bk hb.1
  have hsz := af_size_ok (b % 8)
  have hfr : b / 16 * af_size (b % 8) ≤ 100 * 32 := Nat.mul_le_mul (by omega) hsz.1
  have hq := hx.2.2.2.2.1 r hr
  have hKl : K.length ≤ 64 := by
    rw [hK]
    split
    · simp
    · exact hq.2.2.1
  have hKb : ∀ x ∈ K, x < 256 := by
    rw [hK]
    split
    · intro x hx; cases hx
    · exact hq.2.2.2
  have hKr : mo_rw t 130 (64 * r) K := by
    rw [hK]
    split
    · exact fun i hi => absurd hi (Nat.not_lt_zero _)
    · exact hq.2.1
  have hP32 := gP.2.2.1
  have es : sv_part v r b P = if b / 16 * af_size (b % 8) = K.length then (if K.length + P.length ≤ 64 then (if b / 8 % 2 = 0 then (68, (va_up v.1 r (K ++ P), va_up v.2.1 r [], v.2.2)) else (95, (v.1, va_up v.2.1 r (K ++ P), v.2.2))) else (141, (v.1, va_up v.2.1 r [], v.2.2))) else (136, (v.1, va_up v.2.1 r K, v.2.2)) := by
    rw [hK]
    rfl
  obtain ⟨T, hT⟩ : ∃ T, T = ob_setI t 131 r (nI K.length) := ⟨_, rfl⟩
  have fT : mo_F (fun n j => n = 131 ∧ j = r) t T := by
    rw [hT]
    exact mo_F.o ⟨rfl, rfl⟩
  have sT := hS.f fT
  have t131 : ob_i T 131 r = nI K.length := by rw [hT, ob_i_self]
  have rT := hKr.f fT (fun j _ _ => by omega)
  have PT := gP.f fT (fun n j a b => by omega)
  have t58 : ob_i T 103 58 = nI b := (fT.2.2.2.2 _ _ (by omega)).trans g58
  have fS : mo_F (fun n _ => 128 ≤ n ∧ n ≤ 131) t T := fT.mono (fun n j z => by omega)
  have dS : ∀ {u : ob_S}, mo_F (fun n _ => 128 ≤ n ∧ n ≤ 131) t u → mo_F dSv t u := fun f => f.mono (fun n j z => Or.inl (Or.inr (Or.inl z)))
  rw [B_Mo_takePart_35, ob_b_e (mo_w131 hS hr), ← hT, ob_b2_e (y_size _ hb.2 T), pk_mul, ob_b_e (mo_r31 sT), ob_b_e (mo_a131 sT hr), t131]
  by_cases c1 : b / 16 * af_size (b % 8) = K.length
  · rw [if_pos (show nI (b / 16 * af_size (b % 8)) = nI K.length by rw [c1]), ob_b_e (mo_r31 sT), ob_b_e (mo_a131 sT hr), t131, ob_b_e (mo_g sT), PT.1, nI_add]
    by_cases c2 : K.length + P.length ≤ 64
    · rw [if_pos (show nI (K.length + P.length) ≤ (64 : Int32) from nI_le (b := 64) c2 (by omega))]
      obtain ⟨g, u, eu, fu, u131, ru⟩ := y_part85 sT PT hr c2 t131 rT
      have su := sT.f fu
      have fSu : mo_F (fun n _ => 128 ≤ n ∧ n ≤ 131) t u := fS.tr (fu.mono (fun n j z => by omega))
      have u60 : ob_i u 103 60 = nI P.length := (fu.2.2.2.2 _ _ (by omega)).trans PT.1
      have u58 : ob_i u 103 58 = nI b := (fu.2.2.2.2 _ _ (by omega)).trans t58
      have fTu : mo_F (fun n j => (n = 131 ∧ j = r) ∨ (n = 130 ∧ 64 * r ≤ j ∧ j < 64 * r + 64)) t u := (fT.mono (fun n j z => Or.inl z)).tr fu
      have cu : mo_Ct u 130 131 (va_up v.2.1 r (K ++ P)) := hx.2.2.2.2.1.set fTu (by omega) u131 ru (by rw [List.length_append]; exact c2) (fun x hx => by
        rcases List.mem_append.mp hx with z | z
        · exact hKb x z
        · exact gP.2.2.2 x z)
      have xu := hx.ct fSu (hx.2.2.2.1.f fTu (fun j => by omega) (fun j => by omega)) cu
      have lu := hL.f fSu (fun n j a b => by omega)
      rw [es, if_pos c1, if_pos c2, eu, B_Mo_takePart_85, ob_b_e (mo_g su), u60, if_pos (nI_le (Nat.le_refl _) (by omega)), ob_b_e (mo_g su), u58, q3]
      by_cases c3 : b / 8 % 2 = 0
      · rw [if_pos c3, if_pos (show ¬ nI (b / 8 % 2) = (1 : Int32) by rw [c3]; decide)]
        obtain ⟨w, ew, sw, fw⟩ := y_part157 (v := (v.1, va_up v.2.1 r (K ++ P), v.2.2)) (K := K ++ P) su ⟨xu, lu⟩ (va_up_self _ _ _) hr
        refine ⟨w, ew, ?_, (dS fSu).tr fw⟩
        rw [if_pos rfl]
        have e2 : va_up (va_up v.2.1 r (K ++ P)) r [] = va_up v.2.1 r [] := va_up_up _ _ _ _
        have sw : mo_Sv w (sv_tellAll (va_up v.1 r (K ++ P), va_up (va_up v.2.1 r (K ++ P)) r [], v.2.2) r) := sw
        rw [e2] at sw
        exact sw
      · rw [if_neg c3, if_neg (show ¬ ¬ nI (b / 8 % 2) = (1 : Int32) from fun z => z (by rw [show b / 8 % 2 = 1 by omega]; rfl))]
        refine ⟨u, rfl, ?_, dS fSu⟩
        rw [if_neg (show ¬ (95 : Nat) = 68 by decide)]
        exact ⟨xu, lu⟩
    · rw [es, if_pos c1, if_neg c2, if_neg (show ¬ nI (K.length + P.length) ≤ (64 : Int32) from nI_ge (a := 64) (by omega) (by omega)), ob_b_e (mo_r31 sT), ob_b_e (show ob_wI 131 (nI r) 0 T = some (ob_setI T 131 r (nI 0)) from mo_w131 sT hr)]
      have f2 : mo_F (fun n j => n = 131 ∧ j = r) t (ob_setI T 131 r (nI 0)) := fT.s ⟨rfl, rfl⟩
      have fS2 : mo_F (fun n _ => 128 ≤ n ∧ n ≤ 131) t (ob_setI T 131 r (nI 0)) := f2.mono (fun n j z => by omega)
      refine ⟨_, rfl, ?_, dS fS2⟩
      rw [if_neg (show ¬ (141 : Nat) = 68 by decide)]
      exact ⟨hx.ct fS2 (hx.2.2.2.1.f f2 (fun j => by omega) (fun j => by omega)) (hx.2.2.2.2.1.set (f2.mono (fun n j z => Or.inl z)) (by omega) ob_i_self (fun i hi => absurd hi (Nat.not_lt_zero _)) (by simp) (fun x hx => by cases hx)), hL.f fS2 (fun n j a b => by omega)⟩
  · rw [es, if_neg c1, if_neg (show ¬ nI (b / 16 * af_size (b % 8)) = nI K.length from fun z => c1 ((nI_eq (by omega) (by omega)).mp z))]
    refine ⟨T, rfl, ?_, dS fS⟩
    rw [if_neg (show ¬ (136 : Nat) = 68 by decide)]
    exact ⟨hx.ct fS (hx.2.2.2.1.f fT (fun j => by omega) (fun j => by omega)) (hx.2.2.2.2.1.set (fT.mono (fun n j z => Or.inl z)) (by omega) t131 rT hKl hKb), hL.f fS (fun n j a b => by omega)⟩
theorem y_takePart {b : Nat} (hS : mo_sh t) (h : mo_Sv t v) (hm : mo_Mm t ty code id tok w b2 (some b) S P) (hr : r < 4) : ∃ u, X_Mo_takePart 103 (nI r) t = some (nI (sv_part v r b P).1, u) ∧ mo_Sv u (if (sv_part v r b P).1 = 68 then sv_tellAll (sv_part v r b P).2 r else (sv_part v r b P).2) ∧ mo_F dSv t u := by
  have g58 : ob_i t 103 58 = nI b := hm.2.2.2.2.2.2.1
  have mok := hm.2.2.2.2.2.2.2.2.2.1
  have hb := mok.2.2.2.2.2.2.1 b rfl
  obtain ⟨q1, q2, -⟩ := y_bk hb.1
  obtain ⟨u, eu, q⟩ := y_part35 hS h hm hr rfl
  refine ⟨u, ?_, q⟩
  rw [X_Mo_takePart, mo_this hS, ob_b_e (mo_g hS), g58, ob_b_e (mo_g hS), g58, ob_b_e (mo_r31 hS), q1, q2]
  by_cases c : b / 16 = 0
  · rw [if_neg (show ¬ ¬ nI (b / 16) = 0 from fun z => z (by rw [c]; rfl))]
    rw [if_pos c] at eu
    exact eu
  · rw [if_pos (nI_ne0 (by omega) (by omega)), ob_b_e (mo_r31 hS), ob_b_e (mo_a131 hS hr), (h.1.2.2.2.2.1 r hr).1]
    rw [if_neg c] at eu
    exact eu
end YTP
