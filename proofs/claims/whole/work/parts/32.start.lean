/-! THE LAW'S LOOP AND ITS START, over what layer 2 gives: Rel, ob_Sim Rel, and Rel of the first store -/
theorem nb_sub0 {a b : Nat} (h : b ≤ a) : nI a - nI b = nI (a - b) := by
  have e : nI a = nI (a - b) + nI b := by rw [nI_add]; congr 1; omega
  rw [e, Int32.add_sub_cancel]
theorem law_gt {L i : Nat} (hL : L ≤ 3072) (hi : i < 2 ^ 31) (h : L < i + 6) : nI L - 6 < nI i := by
  by_cases h6 : 6 ≤ L
  · rw [show (6 : Int32) = nI 6 from rfl, nb_sub0 h6]
    exact nI_lt (by omega) hi
  · have h0 : nI L - 6 < 0 := by
      rcases (show L = 0 ∨ L = 1 ∨ L = 2 ∨ L = 3 ∨ L = 4 ∨ L = 5 by omega) with rfl | rfl | rfl | rfl | rfl | rfl <;> decide
    exact Int32.lt_of_lt_of_le h0 (nI_pos' hi)
set_option maxHeartbeats 4000000 in
theorem law_loop {p : Program} {l : Launch} {e : Env} {s : State} {m : MethodId} {below : List Frame} {meth : Method} {c : Code} {bs L : Nat} {xs : Nat → Int32} {b : Nat} {D : va_G} {cA : Nat → ClassId} {adK adV : Nat → Nat} {cells slots : Nat} {Rel : Nat → ob_S → Prop} (hL : L ≤ 3072) (hr : meth.sig.returnType = ret) (Cx : ob_C p room_1 s m #[Value.ref bs] meth c code 4 "ObservedBlocksLaw" (some .boolean) b D cA adK adV 9 204) (hX : va_X bs L xs s s.heap) (hbl : bs < s.heap.size) (hbA : ¬ ob_A b bs) (hcs : cells ≤ 600000 ∧ slots ≤ 7302250) (hsh : b = s.heap.size) (hsim : ∀ i, i < 10000 → ob_Sim (Rel i) (Rel (i + 6))) :
    ∀ (n i : Nat) (t : ob_S) (H : Heap) (locs : List Loc) (ls : Array Slot), L + 6 < n + i → i < 10000 → Rel i t → ob_H b D cA t H → va_S (ob_A b) s.heap H locs → lv_has ls 4 [(0, .ref bs), (1, .ref (b + 0)), (2, .ref (b + 103)), (3, .int (nI i))] → W p l e room_1 s m #[Value.ref bs] below meth c H locs cells slots (lw_Z below #[Value.ref bs] s) (F0 m 18 ls []) := by
  have hx := Cx.1.1
  have hb := Cx.1.2.1
  have hlk := Cx.2.2.2.1
  intro n
  induction n with
  | zero =>
    intro i t H locs ls hn hi hrel hP hS hl
    refine lv_iload_n hx hb d_law_18 rfl (lv_at hl 3 rfl) ?_
    refine lv_aload_n hx hb d_law_19 rfl (lv_at hl 0 rfl) ?_
    refine va_slen hx hb hX hbl hbA hS d_law_20 ?_
    refine lv_bipush (v := 6) hx hb d_law_21 (by decide) ?_
    refine lv_isub hx hb d_law_23 ?_
    refine lv_icmp_gt (tgt := 605) hx hb d_law_24 (by decide) (fun hq => ?_) (fun hq => absurd (law_gt hL (by omega) (by omega)) hq)
    refine lv_iconst (v := 1) hx hb d_law_605 (by decide) ?_
    refine va_forget (fun q hq => by rw [← hsh]; exact hS.2.2 q hq) ?_
    refine W.widen hcs.1 hcs.2 ?_
    exact lw_ret hx hb hr hlk d_law_606
  | succ n ih =>
    intro i t H locs ls hn hi hrel hP hS hl
    refine lv_iload_n hx hb d_law_18 rfl (lv_at hl 3 rfl) ?_
    refine lv_aload_n hx hb d_law_19 rfl (lv_at hl 0 rfl) ?_
    refine va_slen hx hb hX hbl hbA hS d_law_20 ?_
    refine lv_bipush (v := 6) hx hb d_law_21 (by decide) ?_
    refine lv_isub hx hb d_law_23 ?_
    refine lv_icmp_gt (tgt := 605) hx hb d_law_24 (by decide) (fun hq => ?_) (fun hq => ?_)
    · refine lv_iconst (v := 1) hx hb d_law_605 (by decide) ?_
      refine va_forget (fun q hq => by rw [← hsh]; exact hS.2.2 q hq) ?_
      refine W.widen hcs.1 hcs.2 ?_
      exact lw_ret hx hb hr hlk d_law_606
    · have hi6 : i + 6 ≤ L := by
        rcases Nat.lt_or_ge L (i + 6) with z | z
        · exact absurd (law_gt hL (by omega) z) hq
        · exact z
      have h0 : vp_in (nI i) L := vp_in_nI (by omega) (by omega)
      have h1 : vp_in (nI i + 1) L := by rw [show nI i + 1 = nI (i + 1) from nI_add i 1]; exact vp_in_nI (by omega) (by omega)
      have h2 : vp_in (nI i + 2) L := by rw [show nI i + 2 = nI (i + 2) from nI_add i 2]; exact vp_in_nI (by omega) (by omega)
      have h3 : vp_in (nI i + 3) L := by rw [show nI i + 3 = nI (i + 3) from nI_add i 3]; exact vp_in_nI (by omega) (by omega)
      have h4 : vp_in (nI i + 4) L := by rw [show nI i + 4 = nI (i + 4) from nI_add i 4]; exact vp_in_nI (by omega) (by omega)
      have h5 : vp_in (nI i + 5) L := by rw [show nI i + 5 = nI (i + 5) from nI_add i 5]; exact vp_in_nI (by omega) (by omega)
      refine law_step Cx hX hbl hbA hcs h0 h1 h2 h3 h4 h5 (hsim i hi) hrel hP hS hl (fun t2 H locs hr2 hP hS => ?_)
      refine lv_iinc (v := nI (i + 6)) (lv' := [(3, .int (nI (i + 6))), (0, .ref bs), (1, .ref (b + 0)), (2, .ref (b + 103))]) hx hb d_law_599 hl (k := 3) rfl (nI_add i 6) (by decide) rfl (fun ls hl => ?_)
      refine lv_goto (tgt := 18) hx hb d_law_602 (by decide) ?_
      exact ih (i + 6) t2 H locs ls (by omega) (by omega) hr2 hP hS (lv_sub hl [1, 2, 3, 0] rfl)
/-- no object yet -/
def ob_nil : ob_S := (0, fun _ => 0, fun _ => 0, fun _ _ => 0, fun _ _ => none)
/-- the store behind both constructors -/
def ob_Init (Rel : ob_S → Prop) : Prop := ∃ u1 u2 : ob_S, X_Ob_init 0 (ob_new ob_nil 10 0) = some u1 ∧ X_Mo_init 103 (ob_new u1 11 0) = some u2 ∧ Rel u2
theorem st_ex : ∀ i, i < 6 → Cond.exactly (Term.string "ObservedBlocks" (ob_sk.getD i 0)) "java/lang/String" ∈ flatC (Jvm.Cond.and given_1 narrow_1) := by decide +kernel
theorem st_co : ∀ i, i < 6 → Cond.eq (.field (Term.string "ObservedBlocks" (ob_sk.getD i 0)) "java/lang/String" "coder" "B") (.int 0) ∈ flatC (Jvm.Cond.and given_1 narrow_1) := by decide +kernel
theorem st_ar : ∀ i, i < 6 → Cond.arrayOf (.field (Term.string "ObservedBlocks" (ob_sk.getD i 0)) "java/lang/String" "value" "[B") .byte ∈ flatC (Jvm.Cond.and given_1 narrow_1) := by decide +kernel
theorem st_le : ∀ i, i < 6 → Cond.eq (.length (.field (Term.string "ObservedBlocks" (ob_sk.getD i 0)) "java/lang/String" "value" "[B")) (.int (Int32.ofNat (ob_sl.getD i 0))) ∈ flatC (Jvm.Cond.and given_1 narrow_1) := by decide +kernel
theorem st_el : ∀ i, i < 6 → ∀ j, j < ob_sl.getD i 0 → Cond.eq (.elem (.field (Term.string "ObservedBlocks" (ob_sk.getD i 0)) "java/lang/String" "value" "[B") (.int (Int32.ofNat j))) (.int ((ob_sb.getD i []).getD j 0)) ∈ flatC (Jvm.Cond.and given_1 narrow_1) := by decide +kernel
theorem st_ne : ∀ i, i < 6 → ∀ j, j < 6 → i ≠ j → (Cond.not (Cond.eq (Term.string "ObservedBlocks" (ob_sk.getD i 0)) (Term.string "ObservedBlocks" (ob_sk.getD j 0))) ∈ flatC (Jvm.Cond.and given_1 narrow_1) ∨ Cond.not (Cond.eq (Term.string "ObservedBlocks" (ob_sk.getD j 0)) (Term.string "ObservedBlocks" (ob_sk.getD i 0))) ∈ flatC (Jvm.Cond.and given_1 narrow_1)) := by decide +kernel
theorem st_kl : ∀ i : Nat, i < 6 → ob_sl.getD i 0 < 2 ^ 31 := by decide +kernel
theorem st_rf : ∀ i, i < 6 → Cond.stringRef "ObservedBlocks" (ob_sk.getD i 0) (ob_st.getD i "") ∈ lw_tbl := by decide +kernel
theorem st_nest : ∀ w ∈ ob_nest, w ∈ lw_tbl ∧ w.onTables = true := by decide +kernel
theorem st_z : Cond.eq (.static "java/lang/String" "COMPACT_STRINGS" "Z") (.int 1) ∈ flatC (Jvm.Cond.and given_1 narrow_1) := by decide +kernel
theorem st_si : Cond.isRef (.static "jdk/internal/util/Preconditions" "SIOOBE_FORMATTER" "Ljava/util/function/BiFunction;") ∈ flatC (Jvm.Cond.and given_1 narrow_1) := by decide +kernel
theorem st_w : (Cond.laysStatic "java/lang/String" "COMPACT_STRINGS" "Z" ∈ lw_tbl ∧ Cond.initialized "java/lang/String" ∈ lw_tbl) ∧ (Cond.laysStatic "jdk/internal/util/Preconditions" "SIOOBE_FORMATTER" "Ljava/util/function/BiFunction;" ∈ lw_tbl ∧ Cond.initialized "jdk/internal/util/Preconditions" ∈ lw_tbl) ∧ Cond.arrayOver (.object "ObservedBlocks$Bytes") ∈ lw_tbl ∧ Cond.arrayOver (.object "ObservedBlocks$Slot") ∈ lw_tbl ∧ Cond.arrayOver (.object "ObservedBlocks$Watcher") ∈ lw_tbl ∧ Cond.arrayClass .int ∈ lw_tbl ∧ Cond.arrayClass .boolean ∈ lw_tbl := by decide +kernel
theorem st_arr {s : State} {a : Array Value} {ty : FieldType} (hra : ∀ c, va_RA s c ty = (s.vm.findClass ("[" ++ ty.toString) = some c)) (h : (Cond.arrayClass ty).before a s = true) : ∃ cA : ClassId, ArrOfT s cA ty ∧ va_RA s cA ty := by
  obtain ⟨cA, kA, comp, h1, h2, h3⟩ := Cond.arrayClass_spec h
  exact ⟨cA, fun n z => ⟨(fun k h => by cases h), kA, h2, comp, h3⟩, by rw [hra]; exact h1⟩
theorem st_ovr {s : State} {a : Array Value} {C : String} (h : (Cond.arrayOver (.object C)).before a s = true) : ∃ cA : ClassId, ArrOfT s cA (.object C) ∧ va_RA s cA (.object C) := by
  obtain ⟨comp, cA, kA, h1, h2, h3, h4, h5⟩ := Cond.arrayOver_spec h
  exact ⟨cA, fun n z => ⟨(fun k h => by cases h), kA, h3, comp, h4⟩, kA, comp, h3, h4, h1, h5⟩
/-- what stands behind every call, at the law's entry -/
theorem st_E {s : State} {bs : Nat} (hts : ∀ w ∈ lw_tbl, w.before #[Value.ref bs] s = true) (hgv : (Jvm.Cond.and given_1 narrow_1).before #[Value.ref bs] s = true) : ∃ (D : va_G) (cA : Nat → ClassId) (adK adV : Nat → Nat), ob_E s.heap.size D cA adK adV s s.heap := by
  have htT : ∀ w ∈ ob_T, w.before #[Value.ref bs] s = true := fun w h => hts w (List.mem_filter.mp h).1
  have hg := flat_of_before _ hgv
  have hA : ∀ a : Nat, a < s.heap.size → ¬ ob_A s.heap.size a := fun a h => Nat.not_le.mpr h
  have h12 : ∀ k : Nat, ∃ z : ClassId × (Nat → Nat), ∀ q : vw_C, ob_cl[k]? = some q → u_Kn s q.1 q.2.1 q.2.2 z.1 z.2 := by
    intro k
    match k with
    | 0 => obtain ⟨c, i, h⟩ := u_known htT inT_0 (htT _ w_q_0); exact ⟨(c, i), fun q hq => by cases hq; exact h⟩
    | 1 => obtain ⟨c, i, h⟩ := u_known htT inT_1 (htT _ w_q_1); exact ⟨(c, i), fun q hq => by cases hq; exact h⟩
    | 2 => obtain ⟨c, i, h⟩ := u_known htT inT_2 (htT _ w_q_2); exact ⟨(c, i), fun q hq => by cases hq; exact h⟩
    | 3 => obtain ⟨c, i, h⟩ := u_known htT inT_3 (htT _ w_q_3); exact ⟨(c, i), fun q hq => by cases hq; exact h⟩
    | 4 => obtain ⟨c, i, h⟩ := u_known htT inT_4 (htT _ w_q_4); exact ⟨(c, i), fun q hq => by cases hq; exact h⟩
    | 5 => obtain ⟨c, i, h⟩ := u_known htT inT_5 (htT _ w_q_5); exact ⟨(c, i), fun q hq => by cases hq; exact h⟩
    | 6 => obtain ⟨c, i, h⟩ := u_known htT inT_6 (htT _ w_q_6); exact ⟨(c, i), fun q hq => by cases hq; exact h⟩
    | 7 => obtain ⟨c, i, h⟩ := u_known htT inT_7 (htT _ w_q_7); exact ⟨(c, i), fun q hq => by cases hq; exact h⟩
    | 8 => obtain ⟨c, i, h⟩ := u_known htT inT_8 (htT _ w_q_8); exact ⟨(c, i), fun q hq => by cases hq; exact h⟩
    | 9 => obtain ⟨c, i, h⟩ := u_known htT inT_9 (htT _ w_q_9); exact ⟨(c, i), fun q hq => by cases hq; exact h⟩
    | 10 => obtain ⟨c, i, h⟩ := u_known htT inT_10 (htT _ w_q_10); exact ⟨(c, i), fun q hq => by cases hq; exact h⟩
    | 11 => obtain ⟨c, i, h⟩ := u_known htT inT_11 (htT _ w_q_11); exact ⟨(c, i), fun q hq => by cases hq; exact h⟩
    | n + 12 => exact ⟨(0, fun _ => 0), fun q hq => by simp [ob_cl] at hq⟩
  obtain ⟨⟨w1, w2⟩, ⟨w3, w4⟩, w5, w6, w7, w8, w9⟩ := st_w
  obtain ⟨c0, a0⟩ := st_arr (fun _ => rfl) (hts _ w8)
  obtain ⟨c1, a1⟩ := st_arr (fun _ => rfl) (hts _ w9)
  obtain ⟨c2, a2⟩ := st_ovr (hts _ w5)
  obtain ⟨c3, a3⟩ := st_ovr (hts _ w6)
  obtain ⟨c4, a4⟩ := st_ovr (hts _ w7)
  obtain ⟨adK, adV, hS6, hR6⟩ := vk_Sof (args := #[Value.ref bs]) (s := s) (N := 6) (tm := fun i => Term.string "ObservedBlocks" (ob_sk.getD i 0)) (len := ob_sl) (byt := ob_sb) (A := ob_A s.heap.size) st_kl (fun i hi => hg _ (st_ex i hi)) (fun i hi => hg _ (st_co i hi)) (fun i hi => hg _ (st_ar i hi)) (fun i hi => hg _ (st_le i hi)) (fun i hi j hj => hg _ (st_el i hi j hj)) (fun i j hi hj hne => (st_ne i hi j hj hne).imp (fun z => hg _ z) (fun z => hg _ z)) hA
  obtain ⟨v, hv, hvr⟩ := Cond.isRef_spec (hg _ st_si)
  refine ⟨(fun k => (Classical.choose (h12 k)).1, fun k => (Classical.choose (h12 k)).2), fun k => match k with | 0 => c0 | 1 => c1 | 2 => c2 | 3 => c3 | _ => c4, adK, adV, ⟨fun k q hq => Classical.choose_spec (h12 k) q hq, fun k q hq => ?_⟩, fun w hw => va_Nw.of (st_nest w hw).2 (hts _ (st_nest w hw).1), fun i hi => vk_R.of (hts _ (st_rf i hi)) (hR6 i hi), hS6, va_Zof (hts _ w1) (hts _ w2) (va_eqi (hg _ st_z)) hA, va_AO.of (hts _ w5), va_AO.of (hts _ w6), va_AO.of (hts _ w7), v, va_Zof (hts _ w3) (hts _ w4) hv hA, ?_⟩
  · match k, hq with
    | 0, hq => cases hq; exact a0
    | 1, hq => cases hq; exact a1
    | 2, hq => cases hq; exact a2
    | 3, hq => cases hq; exact a3
    | 4, hq => cases hq; exact a4
    | k + 5, hq => simp [ob_ty] at hq
  · cases v <;> simp [Value.isRef] at hvr
    · exact Or.inl rfl
    · exact Or.inr ⟨_, rfl⟩
set_option maxHeartbeats 4000000 in
set_option maxRecDepth 100000 in
theorem start_of {p : Program} {e : Env} {s : State} {m : MethodId} {below : List Frame} {meth : Method} {c : Code} (l : Launch) {bs L : Nat} {xs : Nat → Int32} {Rel : Nat → ob_S → Prop} (hsim : ∀ i, i < 10000 → ob_Sim (Rel i) (Rel (i + 6))) (hinit : ob_Init (Rel 0)) (hL : L ≤ 3072) (C0 : lw_At p s m meth c bs L xs) : W p l e room_1 s m #[Value.ref bs] below meth c s.heap [] 0 0 (lw_Z below #[Value.ref bs] s) (entryFrame m ([Value.ref bs] : List Value).toArray 4) := by
  obtain ⟨hx, hb, hr, hml, hown, hts, hX, hbl, hlocks, hgv⟩ := C0
  obtain ⟨u1, u2, i1, i2, hrel⟩ := hinit
  obtain ⟨D, cA, adK, adV, hE⟩ := st_E hts hgv
  have htT : ∀ w ∈ ob_T, w.before #[Value.ref bs] s = true := fun w h => hts w (List.mem_filter.mp h).1
  have Cx : ob_C p room_1 s m #[Value.ref bs] meth c code 4 "ObservedBlocksLaw" (some .boolean) s.heap.size D cA adK adV 9 204 := ⟨⟨hx, hb, hml, hown, htT⟩, hE, hr, hlocks, ⟨by decide, by decide⟩, Nat.le_refl _⟩
  generalize hsh : s.heap.size = b at Cx hbl
  have hbA : ¬ ob_A b bs := Nat.not_le.mpr hbl
  have hbl : bs < s.heap.size := by rw [hsh]; exact hbl
  have hP : ob_H b D cA ob_nil s.heap := fun k q h => by simp [ob_ws, ob_nil, ob_n] at h
  have hS : va_S (ob_A b) s.heap s.heap [] := va_S.rf
  have hz : s.heap.size + 0 = b + ob_n ob_nil := by rw [hsh]; rfl
  have hl := lv_entry ([.ref bs]) (n := 4) (Nat.le_of_ble_eq_true rfl)
  rw [lg_entry_eq]
  generalize (lg_sl ([.ref bs]) ++ List.replicate (4 - (lg_sl ([.ref bs])).length) Slot.unset).toArray = ls at hl ⊢
  have hl : lv_has ls 4 [(0, .ref bs)] := hl
  refine ob_newO Cx hP hS ck_10 hz w_k_Law_7 w_q_10 w_i_Ob nf_10 (by decide) (by decide) d_law_0 (fun H hP hS hz => ?_)
  refine lv_dup hx hb d_law_3 rfl ?_
  refine ob_cI (oX := X_Ob_init 0 (ob_new ob_nil 10 0)) (f := some) (out := u1) (n := 0) (nA := 0) (As := []) (rest := [.ref (b + 0)]) hz Cx hl.1 hP hS (fun o ho => c_Ob_init 0 ho) mi_Ob_init w_m_Law_9 rfl (by decide +kernel) ⟨rfl, rfl⟩ ⟨by decide, by decide⟩ ⟨by decide, by decide⟩ (Nat.le_of_ble_eq_true rfl) rfl d_law_4 (by rw [i1]; rfl) (fun u H locs hq hP hS hz => ?_)
  cases hq
  have hn1 : ob_n u1 = 103 := by
    rw [hsh] at hz
    omega
  refine lv_astore_n (lv' := [(1, .ref (b + 0)), (0, .ref bs)]) hx hb d_law_7 rfl hl (by decide) rfl (fun ls hl => ?_)
  refine ob_newO Cx hP hS ck_11 hz w_k_Law_10 w_q_11 w_i_Mo nf_11 (by decide) (by decide) d_law_8 (fun H hP hS hz => ?_)
  rw [hn1]
  refine lv_dup hx hb d_law_11 rfl ?_
  refine ob_cI (oX := X_Mo_init 103 (ob_new u1 11 0)) (f := some) (out := u2) (n := 103) (nA := 0) (As := []) (rest := [.ref (b + 103)]) hz Cx hl.1 hP hS (fun o ho => c_Mo_init 103 ho) mi_Mo_init w_m_Law_12 rfl (by decide +kernel) ⟨rfl, rfl⟩ ⟨by decide, by decide⟩ ⟨by decide, by decide⟩ (Nat.le_of_ble_eq_true rfl) rfl d_law_12 (by rw [i2]; rfl) (fun u H locs hq hP hS hz => ?_)
  cases hq
  refine lv_astore_n (lv' := [(2, .ref (b + 103)), (1, .ref (b + 0)), (0, .ref bs)]) hx hb d_law_15 rfl hl (by decide) rfl (fun ls hl => ?_)
  refine lv_iconst (v := 0) hx hb d_law_16 (by decide) ?_
  refine lv_istore_n (lv' := [(3, .int 0), (2, .ref (b + 103)), (1, .ref (b + 0)), (0, .ref bs)]) hx hb d_law_17 rfl hl (by decide) rfl (fun ls hl => ?_)
  exact law_loop hL hr Cx hX hbl hbA ⟨by decide, by decide⟩ hsh.symm hsim (L + 7) 0 _ _ _ ls (by omega) (by omega) hrel hP hS (lv_sub hl [3, 2, 1, 0] rfl)
