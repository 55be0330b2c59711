/-! LAYER 2, 42: the reference finds a resource -/
theorem y_seg1 {t : ob_S} {S : List (List Nat)} {V : List Nat} {k x : Nat} (hS : mo_sh t) (h : mo_Sg t S) (hk : S[k]? = some V) (hV : ∀ y ∈ V, y < 256) (hx : x < 256) : X_Mo_segment 103 (nI k) (nI x) (-1) t = some (if V = [x] then 1 else 0, t) := by
  obtain ⟨a, e142, e143, ha, hl, hr⟩ := h.2.2 k V hk
  have hk2 : k < 2 := by
    have := h.2.1
    have := (List.getElem?_eq_some_iff.mp hk).1
    omega
  have z0 : B_Mo_segment_45 t = some ((0 : Int32), t) := rfl
  have z1 : ob_z 1 t = some ((1 : Int32), t) := rfl
  have e20 : ∀ b : Int32, B_Mo_segment_20 103 (nI k) (-1) b t = if ¬ nI V.length = (1 : Int32) then some (0, t) else if b = 0 then some (0, t) else some (1, t) := fun b => by
    rw [B_Mo_segment_20, if_neg (show ¬ (0 : Int32) ≤ -1 by decide), ob_b_e (mo_r56 hS), ob_b_e (mo_a143 hS hk2), e143, z0, z1]
  rw [X_Mo_segment, mo_this hS, ob_b_e (mo_r47 hS), ob_b_e (mo_r55 hS), ob_b_e (mo_a142 hS hk2), e142, ob_b_e (mo_a141 hS ha), e20, e20]
  match V, hV, hl, hr with
  | [], _, _, _ =>
    rw [if_pos (show ¬ nI ([] : List Nat).length = (1 : Int32) by decide), if_pos (show ¬ nI ([] : List Nat).length = (1 : Int32) by decide), if_neg (show ¬ ([] : List Nat) = [x] from fun z => by cases z)]
    split <;> rfl
  | [y], hV, hl, hr =>
    have e0 : ob_i t 141 a = nI y := hr 0 (by simp)
    have hy := hV y (by simp)
    rw [if_neg (show ¬ ¬ nI [y].length = (1 : Int32) from fun z => z rfl), if_neg (show ¬ ¬ nI [y].length = (1 : Int32) from fun z => z rfl), e0, if_pos (show (0 : Int32) = 0 from rfl), if_neg (show ¬ (1 : Int32) = 0 by decide)]
    by_cases c : y = x
    · rw [if_neg (show ¬ ¬ nI y = nI x from fun z => z (by rw [c])), if_pos (show [y] = [x] by rw [c])]
    · rw [if_pos (show ¬ nI y = nI x from fun z => c ((nI_eq (by omega) (by omega)).mp z)), if_neg (show ¬ [y] = [x] from fun z => c (by simpa using z))]
  | y :: y2 :: V, _, hl, _ =>
    have hl1 : (y :: y2 :: V).length ≤ 64 := by omega
    have hl2 : 2 ≤ (y :: y2 :: V).length := by simp
    have hn : ¬ nI (y :: y2 :: V).length = (1 : Int32) := fun z => by
      have := (nI_eq (b := 1) (by omega) (by omega)).mp z
      omega
    rw [if_pos hn, if_pos hn, if_neg (show ¬ (y :: y2 :: V) = [x] from fun z => by simp at z)]
    split <;> rfl
theorem y_seg2 {t : ob_S} {S : List (List Nat)} {V : List Nat} {k x w : Nat} (hS : mo_sh t) (h : mo_Sg t S) (hk : S[k]? = some V) (hV : ∀ y ∈ V, y < 256) (hx : x < 256) (hw : w < 256) : X_Mo_segment 103 (nI k) (nI x) (nI w) t = some (if V = [x, w] then 1 else 0, t) := by
  obtain ⟨a, e142, e143, ha, hl, hr⟩ := h.2.2 k V hk
  have hk2 : k < 2 := by
    have := h.2.1
    have := (List.getElem?_eq_some_iff.mp hk).1
    omega
  have z0 : B_Mo_segment_85 t = some ((0 : Int32), t) := rfl
  have z1 : ob_z 1 t = some ((1 : Int32), t) := rfl
  have e20 : ∀ b : Int32, B_Mo_segment_20 103 (nI k) (nI w) b t = if ¬ nI V.length = (2 : Int32) then some (0, t) else if b = 0 then some (0, t) else (ob_aI 141 (nI (a + 1)) t).bind fun x76 => if ¬ x76 = nI w then some (0, t) else some (1, t) := fun b => by
    rw [B_Mo_segment_20, if_pos (show (0 : Int32) ≤ nI w from nI_le (a := 0) (by omega) (by omega)), ob_b_e (mo_r56 hS), ob_b_e (mo_a143 hS hk2), e143, z0, z1, ob_b_e (mo_r47 hS), ob_b_e (mo_r55 hS), ob_b_e (mo_a142 hS hk2), e142, nI_1]
  rw [X_Mo_segment, mo_this hS, ob_b_e (mo_r47 hS), ob_b_e (mo_r55 hS), ob_b_e (mo_a142 hS hk2), e142, ob_b_e (mo_a141 hS ha), e20, e20]
  match V, hV, hl, hr with
  | [], _, _, _ =>
    rw [if_pos (show ¬ nI ([] : List Nat).length = (2 : Int32) by decide), if_pos (show ¬ nI ([] : List Nat).length = (2 : Int32) by decide), if_neg (show ¬ ([] : List Nat) = [x, w] from fun z => by cases z)]
    split <;> rfl
  | [y], _, _, _ =>
    rw [if_pos (show ¬ nI [y].length = (2 : Int32) from fun z => absurd z (show ¬ nI 1 = (2 : Int32) by decide)), if_pos (show ¬ nI [y].length = (2 : Int32) from fun z => absurd z (show ¬ nI 1 = (2 : Int32) by decide)), if_neg (show ¬ [y] = [x, w] from fun z => by simp at z)]
    split <;> rfl
  | [y, y2], hV, hl, hr =>
    have hl : a + 2 ≤ 64 := hl
    have e0 : ob_i t 141 a = nI y := hr 0 (by simp)
    have e1 : ob_i t 141 (a + 1) = nI y2 := hr 1 (by simp)
    have hy := hV y (by simp)
    have hy2 := hV y2 (by simp)
    rw [if_neg (show ¬ ¬ nI [y, y2].length = (2 : Int32) from fun z => z rfl), if_neg (show ¬ ¬ nI [y, y2].length = (2 : Int32) from fun z => z rfl), e0, if_pos (show (0 : Int32) = 0 from rfl), if_neg (show ¬ (1 : Int32) = 0 by decide), ob_b_e (mo_a141 hS (by omega)), e1]
    by_cases c : y = x
    · rw [if_neg (show ¬ ¬ nI y = nI x from fun z => z (by rw [c]))]
      by_cases c2 : y2 = w
      · rw [if_neg (show ¬ ¬ nI y2 = nI w from fun z => z (by rw [c2])), if_pos (show [y, y2] = [x, w] by rw [c, c2])]
      · rw [if_pos (show ¬ nI y2 = nI w from fun z => c2 ((nI_eq (by omega) (by omega)).mp z)), if_neg (show ¬ [y, y2] = [x, w] from fun z => c2 (by simp at z; exact z.2))]
    · rw [if_pos (show ¬ nI y = nI x from fun z => c ((nI_eq (by omega) (by omega)).mp z)), if_neg (show ¬ [y, y2] = [x, w] from fun z => c (by simp at z; exact z.1))]
  | y :: y2 :: y3 :: V, _, hl, _ =>
    have hl1 : (y :: y2 :: y3 :: V).length ≤ 64 := by omega
    have hl2 : 3 ≤ (y :: y2 :: y3 :: V).length := by simp
    have hn : ¬ nI (y :: y2 :: y3 :: V).length = (2 : Int32) := fun z => by
      have := (nI_eq (b := 2) (by omega) (by omega)).mp z
      omega
    rw [if_pos hn, if_pos hn, if_neg (show ¬ (y :: y2 :: y3 :: V) = [x, w] from fun z => by simp at z)]
    split <;> rfl
theorem sg_is0 (S : List (List Nat)) : sg_is S 0 ↔ S = [[97]] := by
  refine ⟨fun z => ?_, fun z => by subst z; decide⟩
  obtain ⟨z1, z2, z3⟩ := z
  match S, z1, z2 with
  | [V], _, z2 => exact congrArg (fun x => [x]) z2
theorem sg_is2 (S : List (List Nat)) : sg_is S 2 ↔ S = [[99, 99]] := by
  refine ⟨fun z => ?_, fun z => by subst z; decide⟩
  obtain ⟨z1, z2, z3⟩ := z
  match S, z1, z2 with
  | [V], _, z2 => exact congrArg (fun x => [x]) z2
theorem sg_is1 (S : List (List Nat)) : sg_is S 1 ↔ S = [[97], [98]] := by
  refine ⟨fun z => ?_, fun z => by subst z; decide⟩
  obtain ⟨z1, z2, z3⟩ := z
  match S, z1, z2, z3 with
  | [V, W], _, z2, z3 =>
    have a : V = [97] := z2
    have b : W = [98] := z3
    rw [a, b]
theorem sg_is3 (S : List (List Nat)) : sg_is S 3 ↔ S = [[99, 99], [100]] := by
  refine ⟨fun z => ?_, fun z => by subst z; decide⟩
  obtain ⟨z1, z2, z3⟩ := z
  match S, z1, z2, z3 with
  | [V, W], _, z2, z3 =>
    have a : V = [99, 99] := z2
    have b : W = [100] := z3
    rw [a, b]
theorem sg_res_e (S : List (List Nat)) : sg_res S = if S = [[97]] then some 0 else if S = [[97], [98]] then some 1 else if S = [[99, 99]] then some 2 else if S = [[99, 99], [100]] then some 3 else none := by
  unfold sg_res
  simp only [sg_is0, sg_is1, sg_is2, sg_is3]
theorem y_resource {t : ob_S} {S : List (List Nat)} (hS : mo_sh t) (h : mo_Sg t S) (hs : sg_ok S) : X_Mo_resource 103 t = some (oI (sg_res S), t) := by
  have e54 := h.1
  rw [X_Mo_resource, mo_this hS, ob_b_e (mo_g hS), e54, sg_res_e]
  match S, h, hs, e54 with
  | [], h, hs, e54 =>
    rw [if_pos (show nI ([] : List (List Nat)).length ≤ 0 by decide), B_Mo_resource_22, B_Mo_resource_23, ob_b_e (mo_g hS), e54, if_pos (show nI ([] : List (List Nat)).length ≤ 0 by decide), B_Mo_resource_47, B_Mo_resource_48, ob_b_e (mo_g hS), e54, if_pos (show ¬ nI ([] : List (List Nat)).length = (1 : Int32) by decide), ob_b_e (mo_g hS), e54, if_pos (show ¬ nI ([] : List (List Nat)).length = (2 : Int32) by decide)]
    rfl
  | [V], h, hs, e54 =>
    have hV := hs V (by simp)
    have e54 : ob_i t 103 54 = nI 1 := e54
    have s1 := y_seg1 (k := 0) (x := 97) (V := V) hS h rfl hV (by omega)
    have s2 := y_seg2 (k := 0) (x := 99) (w := 99) (V := V) hS h rfl hV (by omega) (by omega)
    show (if nI 1 ≤ 0 then B_Mo_resource_22 103 t else ob_b2 (X_Mo_segment 103 0 97 (-1) t) fun x12 t12 => if x12 = 0 then B_Mo_resource_22 103 t12 else B_Mo_resource_23 103 1 t12) = _
    rw [if_neg (show ¬ nI 1 ≤ 0 by decide), ob_b2_e (show X_Mo_segment 103 0 97 (-1) t = _ from s1)]
    have e48 : ∀ a b : Int32, B_Mo_resource_48 103 a b t = if a = 0 then (if b = 0 then some (-1, t) else some (2, t)) else some (0, t) := fun a b => by
      rw [B_Mo_resource_48, ob_b_e (mo_g hS), e54, if_neg (show ¬ ¬ nI 1 = (1 : Int32) from fun z => z rfl)]
    have e23 : ∀ a : Int32, B_Mo_resource_23 103 a t = if (if V = [99, 99] then (1 : Int32) else 0) = 0 then B_Mo_resource_48 103 a 0 t else B_Mo_resource_48 103 a 1 t := fun a => by
      rw [B_Mo_resource_23, ob_b_e (mo_g hS), e54, if_neg (show ¬ nI 1 ≤ 0 by decide), ob_b2_e (show X_Mo_segment 103 0 99 99 t = _ from s2), B_Mo_resource_47]
    rw [B_Mo_resource_22, e23, e23, e48, e48, e48, e48]
    by_cases c1 : V = [97]
    · subst c1
      rfl
    · by_cases c2 : V = [99, 99]
      · subst c2
        rfl
      · rw [if_neg c1, if_neg c2, if_pos rfl, if_pos rfl, if_pos rfl, if_pos rfl, if_neg (show ¬ [V] = [[97]] from fun z => c1 (by simpa using z)), if_neg (show ¬ [V] = [[97], [98]] from fun z => by simp at z), if_neg (show ¬ [V] = [[99, 99]] from fun z => c2 (by simpa using z)), if_neg (show ¬ [V] = [[99, 99], [100]] from fun z => by simp at z)]
        rfl
  | [V, W], h, hs, e54 =>
    have hV := hs V (by simp)
    have hW := hs W (by simp)
    have e54 : ob_i t 103 54 = nI 2 := e54
    have s1 := y_seg1 (k := 0) (x := 97) (V := V) hS h rfl hV (by omega)
    have s2 := y_seg2 (k := 0) (x := 99) (w := 99) (V := V) hS h rfl hV (by omega) (by omega)
    have s3 := y_seg1 (k := 1) (x := 98) (V := W) hS h rfl hW (by omega)
    have s4 := y_seg1 (k := 1) (x := 100) (V := W) hS h rfl hW (by omega)
    show (if nI 2 ≤ 0 then B_Mo_resource_22 103 t else ob_b2 (X_Mo_segment 103 0 97 (-1) t) fun x12 t12 => if x12 = 0 then B_Mo_resource_22 103 t12 else B_Mo_resource_23 103 1 t12) = _
    rw [if_neg (show ¬ nI 2 ≤ 0 by decide), ob_b2_e (show X_Mo_segment 103 0 97 (-1) t = _ from s1)]
    have e102 : ∀ b : Int32, B_Mo_resource_102 103 b t = if b = 0 then some (-1, t) else if (if W = [100] then (1 : Int32) else 0) = 0 then some (-1, t) else some (3, t) := fun b => by
      rw [B_Mo_resource_102, ob_b2_e (show X_Mo_segment 103 1 100 (-1) t = _ from s4)]
      rfl
    have e48 : ∀ a b : Int32, B_Mo_resource_48 103 a b t = if a = 0 then B_Mo_resource_102 103 b t else if (if W = [98] then (1 : Int32) else 0) = 0 then B_Mo_resource_102 103 b t else some (1, t) := fun a b => by
      rw [B_Mo_resource_48, ob_b_e (mo_g hS), e54, if_pos (show ¬ nI 2 = (1 : Int32) by decide), ob_b_e (mo_g hS), e54, if_neg (show ¬ ¬ nI 2 = (2 : Int32) from fun z => z rfl), ob_b2_e (show X_Mo_segment 103 1 98 (-1) t = _ from s3)]
    have e23 : ∀ a : Int32, B_Mo_resource_23 103 a t = if (if V = [99, 99] then (1 : Int32) else 0) = 0 then B_Mo_resource_48 103 a 0 t else B_Mo_resource_48 103 a 1 t := fun a => by
      rw [B_Mo_resource_23, ob_b_e (mo_g hS), e54, if_neg (show ¬ nI 2 ≤ 0 by decide), ob_b2_e (show X_Mo_segment 103 0 99 99 t = _ from s2), B_Mo_resource_47]
    rw [B_Mo_resource_22, e23, e23, e48, e48, e48, e48, e102, e102]
    by_cases c1 : V = [97]
    · subst c1
      by_cases c3 : W = [98]
      · subst c3
        rfl
      · rw [if_neg c3, if_neg (show ¬ [[97], W] = [[97]] from fun z => by simp at z), if_neg (show ¬ [[97], W] = [[97], [98]] from fun z => c3 (by simpa using z)), if_neg (show ¬ [[97], W] = [[99, 99]] from fun z => by simp at z), if_neg (show ¬ [[97], W] = [[99, 99], [100]] from fun z => by simp at z)]
        rfl
    · by_cases c2 : V = [99, 99]
      · subst c2
        by_cases c4 : W = [100]
        · subst c4
          rfl
        · rw [if_neg c4, if_neg (show ¬ [[99, 99], W] = [[97]] from fun z => by simp at z), if_neg (show ¬ [[99, 99], W] = [[97], [98]] from fun z => by simp at z), if_neg (show ¬ [[99, 99], W] = [[99, 99]] from fun z => by simp at z), if_neg (show ¬ [[99, 99], W] = [[99, 99], [100]] from fun z => c4 (by simpa using z))]
          rfl
      · rw [if_neg c1, if_neg c2, if_pos (show (0 : Int32) = 0 from rfl), if_neg (show ¬ [V, W] = [[97]] from fun z => by simp at z), if_neg (show ¬ [V, W] = [[97], [98]] from fun z => c1 (by simp at z; exact z.1)), if_neg (show ¬ [V, W] = [[99, 99]] from fun z => by simp at z), if_neg (show ¬ [V, W] = [[99, 99], [100]] from fun z => c2 (by simp at z; exact z.1))]
        rfl
  | V :: W :: X :: S, h, hs, e54 =>
    have := h.2.1
    simp at this
