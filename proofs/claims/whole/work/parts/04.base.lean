/-! BASE 1: a store of numbered objects. Object n lies at the address b + n.
A store: how many objects; their kinds (0 to 11: the objects of ob_cl; 12 int rows, 13 boolean rows, 14, 15, 16 rows of references); the rows' lengths; numbers; references. -/
abbrev ob_S : Type := Nat × (Nat → Nat) × (Nat → Nat) × (Nat → Nat → Int32) × (Nat → Nat → Option Nat)
def ob_n (t : ob_S) : Nat := t.1
def ob_k (t : ob_S) : Nat → Nat := t.2.1
def ob_l (t : ob_S) : Nat → Nat := t.2.2.1
def ob_i (t : ob_S) : Nat → Nat → Int32 := t.2.2.2.1
def ob_r (t : ob_S) : Nat → Nat → Option Nat := t.2.2.2.2
/-- a number laid at place k of object n -/
def ob_setI (t : ob_S) (n k : Nat) (x : Int32) : ob_S := (t.1, t.2.1, t.2.2.1, va_up t.2.2.2.1 n (upd (t.2.2.2.1 n) k x), t.2.2.2.2)
/-- a reference laid at place k of object n -/
def ob_setR (t : ob_S) (n k : Nat) (x : Option Nat) : ob_S := (t.1, t.2.1, t.2.2.1, t.2.2.2.1, va_up t.2.2.2.2 n (va_up (t.2.2.2.2 n) k x))
/-- all numbers of object n -/
def ob_setA (t : ob_S) (n : Nat) (f : Nat → Int32) : ob_S := (t.1, t.2.1, t.2.2.1, va_up t.2.2.2.1 n f, t.2.2.2.2)
/-- one object more -/
def ob_new (t : ob_S) (kd len : Nat) : ob_S := (t.1 + 1, va_up t.2.1 t.1 kd, va_up t.2.2.1 t.1 len, va_up t.2.2.2.1 t.1 (fun _ => 0), va_up t.2.2.2.2 t.1 (fun _ => none))
def ob_row (b : Nat) (fl : List Bool) (I : Nat → Int32) (Rf : Nat → Option Nat) : List Value := fl.mapIdx (fun k r => if r = true then va_rf ((Rf k).map (fun q => b + q)) else .int (I k))
theorem ob_row_len {b : Nat} {fl : List Bool} {I : Nat → Int32} {Rf : Nat → Option Nat} : (ob_row b fl I Rf).length = fl.length := by
  simp [ob_row]
theorem ob_row_I {b k : Nat} {fl : List Bool} {I : Nat → Int32} {Rf : Nat → Option Nat} (h : fl[k]? = some false) : (ob_row b fl I Rf)[k]? = some (.int (I k)) := by
  simp [ob_row, h]
theorem ob_row_R {b k : Nat} {fl : List Bool} {I : Nat → Int32} {Rf : Nat → Option Nat} (h : fl[k]? = some true) : (ob_row b fl I Rf)[k]? = some (va_rf ((Rf k).map (fun q => b + q))) := by
  simp [ob_row, h]
theorem ob_row_setI {b k : Nat} {fl : List Bool} {I : Nat → Int32} {Rf : Nat → Option Nat} {x : Int32} (h : fl[k]? = some false) : ob_row b fl (upd I k x) Rf = (ob_row b fl I Rf).set k (.int x) := by
  have hk : k < fl.length := (List.getElem?_eq_some_iff.mp h).1
  apply List.ext_getElem?
  intro j
  by_cases hj : j = k
  · subst hj
    rw [List.getElem?_set_self (by rw [ob_row_len]; exact hk), ob_row_I h, pk_us]
  · rw [List.getElem?_set_ne (Ne.symm hj)]
    simp only [ob_row, List.getElem?_mapIdx, pk_un hj]
theorem ob_row_setR {b k : Nat} {fl : List Bool} {I : Nat → Int32} {Rf : Nat → Option Nat} {x : Option Nat} (h : fl[k]? = some true) : ob_row b fl I (va_up Rf k x) = (ob_row b fl I Rf).set k (va_rf (x.map (fun q => b + q))) := by
  have hk : k < fl.length := (List.getElem?_eq_some_iff.mp h).1
  apply List.ext_getElem?
  intro j
  by_cases hj : j = k
  · subst hj
    rw [List.getElem?_set_self (by rw [ob_row_len]; exact hk), ob_row_R h, va_up_self]
  · rw [List.getElem?_set_ne (Ne.symm hj)]
    simp only [ob_row, List.getElem?_mapIdx, va_up_ne _ _ hj]
/-- what lies at the address b + n -/
def ob_cel (b : Nat) (cA : Nat → ClassId) (t : ob_S) (n : Nat) : va_E :=
  if ob_k t n < 12 then .inr (ob_k t n, ob_row b (ob_fl (ob_k t n)) (ob_i t n) (ob_r t n))
  else if ob_k t n < 14 then .inl (cA (ob_k t n - 12), ob_l t n, .inl (ob_i t n))
  else .inl (cA (ob_k t n - 12), ob_l t n, .inr (.inr (.inr (.inr (fun k => (ob_r t n k).map (fun q => b + q))))))
theorem ob_cel_congr {b : Nat} {cA : Nat → ClassId} {t u : ob_S} {j : Nat} (hk : ob_k u j = ob_k t j) (hl : ob_l u j = ob_l t j) (hi : ob_i u j = ob_i t j) (hr : ob_r u j = ob_r t j) : ob_cel b cA u j = ob_cel b cA t j := by
  simp only [ob_cel, hk, hl, hi, hr]
def ob_ws (b : Nat) (cA : Nat → ClassId) (t : ob_S) : va_W := (List.range (ob_n t)).map (fun n => (b + n, ob_cel b cA t n))
abbrev ob_A (b : Nat) : Nat → Prop := fun q => b ≤ q
abbrev ob_H (b : Nat) (D : va_G) (cA : Nat → ClassId) (t : ob_S) (H : Heap) : Prop := va_P D ob_cl (ob_ws b cA t) H
theorem ob_ws_len {b : Nat} {cA : Nat → ClassId} {t : ob_S} : (ob_ws b cA t).length = ob_n t := by
  simp [ob_ws]
theorem ob_ws_get {b : Nat} {cA : Nat → ClassId} {t : ob_S} {n : Nat} (h : n < ob_n t) : (ob_ws b cA t)[n]? = some (b + n, ob_cel b cA t n) := by
  rw [ob_ws, List.getElem?_map, List.getElem?_range h]
  rfl
theorem ob_ws_at {b : Nat} {cA : Nat → ClassId} {t : ob_S} {k : Nat} {q : Nat × va_E} (h : (ob_ws b cA t)[k]? = some q) : q = (b + k, ob_cel b cA t k) := by
  have hk : k < ob_n t := by
    have := (List.getElem?_eq_some_iff.mp h).1
    rw [ob_ws_len] at this
    exact this
  rw [ob_ws_get hk] at h
  exact (Option.some.inj h).symm
theorem ob_ws_D {b : Nat} {cA : Nat → ClassId} {t : ob_S} : va_D (ob_A b) (ob_ws b cA t) := by
  refine ⟨fun i j x y hi hj hxy => ?_, fun k q hk => ?_⟩
  · rw [ob_ws_at hi, ob_ws_at hj] at hxy
    have h1 : b + i = b + j := hxy
    omega
  · rw [ob_ws_at hk]
    exact Nat.le_add_right _ _
theorem ob_ws_set {b : Nat} {cA : Nat → ClassId} {t u : ob_S} {n : Nat} {e : va_E} (h : n < ob_n t) (hn : ob_n u = ob_n t) (he : ob_cel b cA u n = e) (ho : ∀ j, j ≠ n → ob_cel b cA u j = ob_cel b cA t j) : (ob_ws b cA t).set n (b + n, e) = ob_ws b cA u := by
  apply List.ext_getElem?
  intro j
  by_cases hj : j = n
  · subst hj
    rw [List.getElem?_set_self (by rw [ob_ws_len]; exact h), ob_ws_get (by rw [hn]; exact h), he]
  · rw [List.getElem?_set_ne (Ne.symm hj)]
    by_cases hl : j < ob_n t
    · rw [ob_ws_get hl, ob_ws_get (by rw [hn]; exact hl), ho j hj]
    · rw [List.getElem?_eq_none (by rw [ob_ws_len]; omega), List.getElem?_eq_none (by rw [ob_ws_len, hn]; omega)]
theorem ob_ws_new {b : Nat} {cA : Nat → ClassId} {t : ob_S} {kd len : Nat} {e : va_E} (he : ob_cel b cA (ob_new t kd len) (ob_n t) = e) : ob_ws b cA t ++ [(b + ob_n t, e)] = ob_ws b cA (ob_new t kd len) := by
  apply List.ext_getElem?
  intro j
  have hN : ob_n (ob_new t kd len) = ob_n t + 1 := rfl
  by_cases hl : j < ob_n t
  · rw [List.getElem?_append_left (by rw [ob_ws_len]; exact hl), ob_ws_get hl, ob_ws_get (by omega)]
    have hj : j ≠ t.1 := fun q => by
      have : ob_n t = t.1 := rfl
      omega
    rw [ob_cel_congr (u := ob_new t kd len) (t := t) (j := j) (va_up_ne _ _ hj) (va_up_ne _ _ hj) (va_up_ne _ _ hj) (va_up_ne _ _ hj)]
  · by_cases hj : j = ob_n t
    · subst hj
      rw [List.getElem?_append_right (by rw [ob_ws_len]; omega), ob_ws_len, Nat.sub_self, ob_ws_get (by omega), he]
      rfl
    · rw [List.getElem?_eq_none (by rw [List.length_append, ob_ws_len]; simp; omega), List.getElem?_eq_none (by rw [ob_ws_len]; omega)]
/-- an object of kind ci, at its place -/
theorem ob_ws_obj {b : Nat} {cA : Nat → ClassId} {t : ob_S} {n ci : Nat} (h : n < ob_n t) (hk : ob_k t n = ci) (h12 : ci < 12) : (ob_ws b cA t)[n]? = some (b + n, .inr (ci, ob_row b (ob_fl ci) (ob_i t n) (ob_r t n))) := by
  rw [ob_ws_get h, ob_cel, if_pos (by rw [hk]; exact h12), hk]
theorem ob_ws_num {b : Nat} {cA : Nat → ClassId} {t : ob_S} {n kd : Nat} (h : n < ob_n t) (hk : ob_k t n = kd) (h12 : 12 ≤ kd) (h14 : kd < 14) : (ob_ws b cA t)[n]? = some (b + n, .inl (cA (kd - 12), ob_l t n, .inl (ob_i t n))) := by
  rw [ob_ws_get h, ob_cel, if_neg (by rw [hk]; omega), if_pos (by rw [hk]; exact h14), hk]
theorem ob_ws_ref {b : Nat} {cA : Nat → ClassId} {t : ob_S} {n kd : Nat} (h : n < ob_n t) (hk : ob_k t n = kd) (h14 : 14 ≤ kd) : (ob_ws b cA t)[n]? = some (b + n, .inl (cA (kd - 12), ob_l t n, .inr (.inr (.inr (.inr (fun k => (ob_r t n k).map (fun q => b + q))))))) := by
  rw [ob_ws_get h, ob_cel, if_neg (by rw [hk]; omega), if_neg (by rw [hk]; omega), hk]
/-! the steps of a store: none where the machine would not go on -/
noncomputable def ob_gI (c k n : Nat) (t : ob_S) : Option Int32 := if n < ob_n t ∧ ob_k t n = c then some (ob_i t n k) else none
noncomputable def ob_gR (c k n : Nat) (t : ob_S) : Option Nat := if n < ob_n t ∧ ob_k t n = c then ob_r t n k else none
noncomputable def ob_pI (c k n : Nat) (x : Int32) (t : ob_S) : Option ob_S := if n < ob_n t ∧ ob_k t n = c then some (ob_setI t n k x) else none
noncomputable def ob_pZ (c k n : Nat) (x : Int32) (t : ob_S) : Option ob_S := if (n < ob_n t ∧ ob_k t n = c) ∧ (x = 0 ∨ x = 1) then some (ob_setI t n k x) else none
noncomputable def ob_pR (c k n q : Nat) (t : ob_S) : Option ob_S := if n < ob_n t ∧ ob_k t n = c then some (ob_setR t n k (some q)) else none
noncomputable def ob_aI (n : Nat) (i : Int32) (t : ob_S) : Option Int32 := if (n < ob_n t ∧ ob_k t n = 12) ∧ ¬ (i < 0 ∨ ob_l t n ≤ i.toNatClampNeg) then some (ob_i t n i.toNatClampNeg) else none
noncomputable def ob_aZ (n : Nat) (i : Int32) (t : ob_S) : Option Int32 := if (n < ob_n t ∧ ob_k t n = 13) ∧ ¬ (i < 0 ∨ ob_l t n ≤ i.toNatClampNeg) then some (ob_i t n i.toNatClampNeg) else none
noncomputable def ob_aR (kd n : Nat) (i : Int32) (t : ob_S) : Option Nat := if (n < ob_n t ∧ ob_k t n = kd) ∧ ¬ (i < 0 ∨ ob_l t n ≤ i.toNatClampNeg) then ob_r t n i.toNatClampNeg else none
noncomputable def ob_wI (n : Nat) (i x : Int32) (t : ob_S) : Option ob_S := if (n < ob_n t ∧ ob_k t n = 12) ∧ ¬ (i < 0 ∨ ob_l t n ≤ i.toNatClampNeg) then some (ob_setI t n i.toNatClampNeg x) else none
noncomputable def ob_wZ (n : Nat) (i x : Int32) (t : ob_S) : Option ob_S := if ((n < ob_n t ∧ ob_k t n = 13) ∧ ¬ (i < 0 ∨ ob_l t n ≤ i.toNatClampNeg)) ∧ (x = 0 ∨ x = 1) then some (ob_setI t n i.toNatClampNeg x) else none
noncomputable def ob_wR (kd c n : Nat) (i : Int32) (q : Nat) (t : ob_S) : Option ob_S := if ((n < ob_n t ∧ ob_k t n = kd) ∧ ¬ (i < 0 ∨ ob_l t n ≤ i.toNatClampNeg)) ∧ (q < ob_n t ∧ ob_k t q = c) then some (ob_setR t n i.toNatClampNeg (some q)) else none
noncomputable def ob_aL (kd n : Nat) (t : ob_S) : Option Int32 := if n < ob_n t ∧ ob_k t n = kd then some (Int32.ofNat (ob_l t n)) else none
/-- System.arraycopy of ints, from n to q -/
noncomputable def ob_cp (n : Nat) (sp : Int32) (q : Nat) (dp cnt : Int32) (t : ob_S) : Option ob_S := if ((n < ob_n t ∧ ob_k t n = 12) ∧ (q < ob_n t ∧ ob_k t q = 12)) ∧ (¬ sp < 0 ∧ ¬ dp < 0 ∧ ¬ cnt < 0) ∧ sp.toNatClampNeg + cnt.toNatClampNeg ≤ ob_l t n ∧ dp.toNatClampNeg + cnt.toNatClampNeg ≤ ob_l t q then some (ob_setA t q (va_cpy (ob_i t n) (ob_i t q) sp.toNatClampNeg dp.toNatClampNeg cnt.toNatClampNeg)) else none
/-- a boolean answer -/
noncomputable def ob_z (x : Int32) (t : ob_S) : Option (Int32 × ob_S) := if x = 0 ∨ x = 1 then some (x, t) else none
/-- this is an object of kind c -/
noncomputable def ob_this {a : Type} (c n : Nat) (t : ob_S) (o : Option a) : Option a := if n < ob_n t ∧ ob_k t n = c then o else none
/-- behind a call with an answer -/
def ob_b2 {a g : Type} (o : Option (a × ob_S)) (f : a → ob_S → Option g) : Option g := match o with
  | none => none
  | some q => f q.1 q.2
theorem ob_b2_some {a g : Type} {o : Option (a × ob_S)} {f : a → ob_S → Option g} {z : g} (h : ob_b2 o f = some z) : ∃ (r : a) (t : ob_S), o = some (r, t) ∧ f r t = some z := by
  cases o with
  | none => cases h
  | some q => exact ⟨q.1, q.2, rfl, h⟩
theorem ob_b_some {a g : Type} {o : Option a} {f : a → Option g} {z : g} (h : o.bind f = some z) : ∃ r : a, o = some r ∧ f r = some z := by
  cases o with
  | none => cases h
  | some q => exact ⟨q, rfl, h⟩
/-- Math.min as the machine has it -/
noncomputable def ob_mn (x y : Int32) : Int32 := if y < x then y else x
/-! BASE 2: what stands behind every call, and a row for each step of a store -/
def ob_ty (cA : Nat → ClassId) : List (ClassId × FieldType) := [(cA 0, .int), (cA 1, .boolean), (cA 2, .object "ObservedBlocks$Bytes"), (cA 3, .object "ObservedBlocks$Slot"), (cA 4, .object "ObservedBlocks$Watcher")]
/-- the texts: entries of the pool, what they say, their bytes -/
def ob_sk : List Nat := [164, 166, 168, 170, 172, 174]
def ob_st : List String := ["a", "cc", "x", "b", "d", ""]
def ob_sl : List Nat := [1, 2, 1, 1, 1, 0]
def ob_sb : List (List Int32) := [[97], [99, 99], [120], [98], [100], []]
def ob_SI (b : Nat) (U : State) (H : Heap) : Prop := ∃ v : Value, va_Z "jdk/internal/util/Preconditions" "SIOOBE_FORMATTER" "Ljava/util/function/BiFunction;" v (ob_A b) U H ∧ (v = .null ∨ ∃ a : Nat, v = .ref a)
theorem ob_SI.moved {b : Nat} {u U : State} {H : Heap} (hvm : u.vm.Alike U.vm) (h : ob_SI b u H) : ob_SI b U H := by
  obtain ⟨v, h1, h2⟩ := h
  exact ⟨v, va_Z.moved hvm h1, h2⟩
theorem ob_SI.kept {b : Nat} {U : State} {H H1 : Heap} (h : ob_SI b U H) (hq : ∀ a : Nat, a < H.size → ¬ ob_A b a → H1[a]? = H[a]?) : ob_SI b U H1 := by
  obtain ⟨v, h1, h2⟩ := h
  exact ⟨v, va_Z.kept h1 hq, h2⟩
def ob_E (b : Nat) (D : va_G) (cA : Nat → ClassId) (adK adV : Nat → Nat) (U : State) (H : Heap) : Prop :=
  va_K D ob_cl (ob_ty cA) U ∧ (∀ w ∈ ob_nest, va_Nw w U) ∧ (∀ i, i < 6 → vk_R "ObservedBlocks" (ob_sk.getD i 0) (ob_st.getD i "") (adK i) U) ∧ vk_S 6 ob_sl ob_sb adK adV (ob_A b) U H ∧ va_Z "java/lang/String" "COMPACT_STRINGS" "Z" (.int 1) (ob_A b) U H ∧ (va_AO "ObservedBlocks$Bytes" U ∧ va_AO "ObservedBlocks$Slot" U ∧ va_AO "ObservedBlocks$Watcher" U ∧ ob_SI b U H)
theorem ob_nest_warm {w : Cond} (hw : w ∈ ob_nest) {s U : State} (hW : s.WarmedH U.vm) (h : va_Nw w s) : va_Nw w U := by
  obtain ⟨own, i, y, hh, rfl⟩ := ob_nest_all w hw
  exact va_Nw.warmM hW h
theorem ob_E.warm {b : Nat} {D : va_G} {cA : Nat → ClassId} {adK adV : Nat → Nat} {s U : State} {H : Heap} (hW : s.WarmedH U.vm) (h : ob_E b D cA adK adV s H) : ob_E b D cA adK adV U H :=
  ⟨va_K.moved hW.alike h.1, fun w hw => ob_nest_warm hw hW (h.2.1 w hw), fun i hi => vk_R.warm hW (h.2.2.1 i hi), vk_S.moved hW.alike h.2.2.2.1, va_Z.moved hW.alike h.2.2.2.2.1, va_AO.moved hW.alike h.2.2.2.2.2.1, va_AO.moved hW.alike h.2.2.2.2.2.2.1, va_AO.moved hW.alike h.2.2.2.2.2.2.2.1, h.2.2.2.2.2.2.2.2.moved hW.alike⟩
theorem ob_E.same {b : Nat} {D : va_G} {cA : Nat → ClassId} {adK adV : Nat → Nat} {s U : State} {H : Heap} (hv : U.vm = s.vm) (h : ob_E b D cA adK adV s H) : ob_E b D cA adK adV U H := by
  have ha : s.vm.Alike U.vm := by rw [hv]; exact Vm.Alike.refl _
  refine ⟨va_K.moved ha h.1, fun w hw => ?_, fun i hi => vk_R.same hv (h.2.2.1 i hi), vk_S.moved ha h.2.2.2.1, va_Z.moved ha h.2.2.2.2.1, va_AO.moved ha h.2.2.2.2.2.1, va_AO.moved ha h.2.2.2.2.2.2.1, va_AO.moved ha h.2.2.2.2.2.2.2.1, h.2.2.2.2.2.2.2.2.moved ha⟩
  obtain ⟨own, i, y, hh, rfl⟩ := ob_nest_all w hw
  exact va_Nw.same rfl hv.symm (h.2.1 _ hw)
theorem ob_E.kept {b : Nat} {D : va_G} {cA : Nat → ClassId} {adK adV : Nat → Nat} {s : State} {H H1 : Heap} (h : ob_E b D cA adK adV s H) (hq : ∀ a : Nat, a < H.size → ¬ ob_A b a → H1[a]? = H[a]?) : ob_E b D cA adK adV s H1 :=
  ⟨h.1, h.2.1, h.2.2.1, vk_S.kept h.2.2.2.1 hq, va_Z.kept h.2.2.2.2.1 hq, h.2.2.2.2.2.1, h.2.2.2.2.2.2.1, h.2.2.2.2.2.2.2.1, h.2.2.2.2.2.2.2.2.kept hq⟩
/-- what is known of the objects of a kind -/
def ob_ck (ci : Nat) (C : String) (T : u_T) (N : Nat) (ty : Nat → FieldType) : Prop :=
  ci < 12 ∧ ob_cl[ci]? = some (C, T, N) ∧ (∀ w ∈ u_ws C T N, w ∈ ob_T) ∧ (∀ k, k < N → parseFieldDescriptor (T k).2.2.1 = some (ty k)) ∧ (∀ a, a < N → ∀ b, b < N → a ≠ b → (T a).2.1 ≠ (T b).2.1) ∧ (ob_fl ci).length = N
def ob_C (p : Program) (R : Room) (s : State) (m : MethodId) (args : Array Value) (meth : Method) (c : Code) (cc : ByteArray) (nL : Nat) (own : String) (rt : Option FieldType) (b : Nat) (D : va_G) (cA : Nat → ClassId) (adK adV : Nat → Nat) (fr lo : Nat) : Prop :=
  CallFix p m c cc nL s args ob_T own ∧ ob_E b D cA adK adV s s.heap ∧ meth.sig.returnType = rt ∧ meth.locks = false ∧ (fr ≤ R.frames ∧ lo ≤ R.locals) ∧ b ≤ s.heap.size
section OBR
variable {p : Program} {l : Launch} {e : Env} {R : Room} {s : State} {m : MethodId} {args : Array Value} {below : List Frame} {meth : Method} {c : Code} {H : Heap} {locs : List Loc} {cells slots : Nat} {Q : State → Prop}
variable {cc : ByteArray} {nL : Nat} {own : String} {rt : Option FieldType} {b : Nat} {D : va_G} {cA : Nat → ClassId} {adK adV : Nat → Nat} {fr lo : Nat} {t : ob_S} {pc : Nat} {ls : Array Slot} {rest : List Value}
variable {g : Type} {out : g} {ci k n q idx : Nat} {C : String} {T : u_T} {N : Nat} {ty : Nat → FieldType}
theorem ob_getI {f : Int32 → Option g} (Cx : ob_C p R s m args meth c cc nL own rt b D cA adK adV fr lo) (hP : ob_H b D cA t H) (ck : ob_ck ci C T N ty) (hf : (ob_fl ci)[k]? = some false) (hl : Cond.fieldLink own idx (T k).1 (T k).2.1 (T k).2.2.1 ∈ ob_T) (hdg : decode cc pc = .ok (.getfield idx, 3)) (h : (ob_gI ci k n t).bind f = some out)
    (kk : ∀ x : Int32, f x = some out → W p l e R s m args below meth c H locs cells slots Q (F0 m (pc + 3) ls (.int x :: rest))) : W p l e R s m args below meth c H locs cells slots Q (F0 m pc ls (.ref (b + n) :: rest)) := by
  obtain ⟨⟨hx, hb, -, hown, hts⟩, hE, -⟩ := Cx
  obtain ⟨h12, hc, hin, -, -, hlen⟩ := ck
  by_cases hg : n < ob_n t ∧ ob_k t n = ci
  · rw [ob_gI, if_pos hg] at h
    have hk : k < N := by rw [← hlen]; exact (List.getElem?_eq_some_iff.mp hf).1
    exact va_get hx hb hts hin hown hE.1 hP n (ob_ws_obj hg.1 hg.2 h12) hc k hk (hts _ hl) (fun _ h9 => h9) (ob_row_I hf) hdg (kk _ h)
  · rw [ob_gI, if_neg hg] at h
    cases h
theorem ob_getR {f : Nat → Option g} (Cx : ob_C p R s m args meth c cc nL own rt b D cA adK adV fr lo) (hP : ob_H b D cA t H) (ck : ob_ck ci C T N ty) (hf : (ob_fl ci)[k]? = some true) (hl : Cond.fieldLink own idx (T k).1 (T k).2.1 (T k).2.2.1 ∈ ob_T) (hdg : decode cc pc = .ok (.getfield idx, 3)) (h : (ob_gR ci k n t).bind f = some out)
    (kk : ∀ x : Nat, f x = some out → W p l e R s m args below meth c H locs cells slots Q (F0 m (pc + 3) ls (.ref (b + x) :: rest))) : W p l e R s m args below meth c H locs cells slots Q (F0 m pc ls (.ref (b + n) :: rest)) := by
  obtain ⟨⟨hx, hb, -, hown, hts⟩, hE, -⟩ := Cx
  obtain ⟨h12, hc, hin, -, -, hlen⟩ := ck
  by_cases hg : n < ob_n t ∧ ob_k t n = ci
  · rw [ob_gR, if_pos hg] at h
    obtain ⟨x, hx0, h⟩ := ob_b_some h
    have hk : k < N := by rw [← hlen]; exact (List.getElem?_eq_some_iff.mp hf).1
    have hv : (ob_row b (ob_fl ci) (ob_i t n) (ob_r t n))[k]? = some (.ref (b + x)) := by rw [ob_row_R hf, hx0]; rfl
    exact va_get hx hb hts hin hown hE.1 hP n (ob_ws_obj hg.1 hg.2 h12) hc k hk (hts _ hl) (fun _ h9 => h9) hv hdg (kk _ h)
  · rw [ob_gR, if_neg hg] at h
    cases h
/-- a value goes into a field that is not final -/
theorem ob_putV {v : Value} {u : ob_S} (Cx : ob_C p R s m args meth c cc nL own rt b D cA adK adV fr lo) (hP : ob_H b D cA t H) (hS : va_S (ob_A b) s.heap H locs) (ck : ob_ck ci C T N ty) (hk : k < N) (hfin : (T k).2.2.2 = false) (hl : Cond.fieldLink own idx (T k).1 (T k).2.1 (T k).2.2.1 ∈ ob_T) (hdg : decode cc pc = .ok (.putfield idx, 3)) (hg : n < ob_n t ∧ ob_k t n = ci) (hn : narrow (ty k) v = v) (hft : fits (ty k) v = true)
    (hu : ob_n u = ob_n t) (hc2 : ob_cel b cA u n = .inr (ci, (ob_row b (ob_fl ci) (ob_i t n) (ob_r t n)).set k v)) (ho : ∀ j, j ≠ n → ob_cel b cA u j = ob_cel b cA t j)
    (kk : ∀ (H : Heap) (locs : List Loc), ob_H b D cA u H → va_S (ob_A b) s.heap H locs → W p l e R s m args below meth c H locs cells slots Q (F0 m (pc + 3) ls rest)) : W p l e R s m args below meth c H locs cells slots Q (F0 m pc ls (v :: .ref (b + n) :: rest)) := by
  obtain ⟨⟨hx, hb, -, hown, hts⟩, hE, -⟩ := Cx
  obtain ⟨h12, hc, hin, hty, hnm, hlen⟩ := ck
  refine va_put hx hb hts hin ty hty hnm hown hE.1 hP ob_ws_D hS n (ob_ws_obj hg.1 hg.2 h12) hc k hk (hts _ hl) (fun _ h9 => h9) hfin (hty k hk) hn hft (by rw [ob_row_len, hlen]; exact hk) hdg (fun H1 locs1 hP1 _ hS1 => ?_)
  rw [ob_ws_set hg.1 hu hc2 ho] at hP1
  exact kk H1 locs1 hP1 hS1
theorem ob_cel_setI {x : Int32} (hg : ob_k t n = ci) (h12 : ci < 12) (hf : (ob_fl ci)[k]? = some false) : ob_cel b cA (ob_setI t n k x) n = .inr (ci, (ob_row b (ob_fl ci) (ob_i t n) (ob_r t n)).set k (.int x)) := by
  have e1 : ob_k (ob_setI t n k x) n = ci := hg
  have e2 : ob_i (ob_setI t n k x) n = upd (ob_i t n) k x := va_up_self _ _ _
  have e3 : ob_r (ob_setI t n k x) n = ob_r t n := rfl
  rw [ob_cel, if_pos (by rw [e1]; exact h12), e1, e2, e3, ob_row_setI hf]
theorem ob_cel_setI_ne {x : Int32} {j : Nat} (hj : j ≠ n) : ob_cel b cA (ob_setI t n k x) j = ob_cel b cA t j :=
  ob_cel_congr rfl rfl (va_up_ne _ _ hj) rfl
theorem ob_cel_setR {x : Nat} (hg : ob_k t n = ci) (h12 : ci < 12) (hf : (ob_fl ci)[k]? = some true) : ob_cel b cA (ob_setR t n k (some x)) n = .inr (ci, (ob_row b (ob_fl ci) (ob_i t n) (ob_r t n)).set k (.ref (b + x))) := by
  have e1 : ob_k (ob_setR t n k (some x)) n = ci := hg
  have e2 : ob_i (ob_setR t n k (some x)) n = ob_i t n := rfl
  have e3 : ob_r (ob_setR t n k (some x)) n = va_up (ob_r t n) k (some x) := va_up_self _ _ _
  rw [ob_cel, if_pos (by rw [e1]; exact h12), e1, e2, e3, ob_row_setR hf]
  rfl
theorem ob_cel_setR_ne {x : Option Nat} {j : Nat} (hj : j ≠ n) : ob_cel b cA (ob_setR t n k x) j = ob_cel b cA t j :=
  ob_cel_congr rfl rfl rfl (va_up_ne _ _ hj)
theorem ob_putI {x : Int32} {f : ob_S → Option g} (Cx : ob_C p R s m args meth c cc nL own rt b D cA adK adV fr lo) (hP : ob_H b D cA t H) (hS : va_S (ob_A b) s.heap H locs) (ck : ob_ck ci C T N ty) (hf : (ob_fl ci)[k]? = some false) (hty : ty k = .int) (hfin : (T k).2.2.2 = false) (hl : Cond.fieldLink own idx (T k).1 (T k).2.1 (T k).2.2.1 ∈ ob_T) (hdg : decode cc pc = .ok (.putfield idx, 3)) (h : (ob_pI ci k n x t).bind f = some out)
    (kk : ∀ (t : ob_S) (H : Heap) (locs : List Loc), f t = some out → ob_H b D cA t H → va_S (ob_A b) s.heap H locs → W p l e R s m args below meth c H locs cells slots Q (F0 m (pc + 3) ls rest)) : W p l e R s m args below meth c H locs cells slots Q (F0 m pc ls (.int x :: .ref (b + n) :: rest)) := by
  by_cases hg : n < ob_n t ∧ ob_k t n = ci
  · rw [ob_pI, if_pos hg] at h
    have hk : k < N := by rw [← ck.2.2.2.2.2]; exact (List.getElem?_eq_some_iff.mp hf).1
    exact ob_putV (u := ob_setI t n k x) Cx hP hS ck hk hfin hl hdg hg (by rw [hty]; rfl) (by rw [hty]; rfl) rfl (ob_cel_setI hg.2 ck.1 hf) (fun j hj => ob_cel_setI_ne hj) (fun H1 locs1 => kk _ H1 locs1 h)
  · rw [ob_pI, if_neg hg] at h
    cases h
theorem ob_zn {x : Int32} (h : x = 0 ∨ x = 1) : narrow .boolean (.int x) = .int x := by rcases h with rfl | rfl <;> decide
theorem ob_zf {x : Int32} (h : x = 0 ∨ x = 1) : fits .boolean (.int x) = true := by rcases h with rfl | rfl <;> decide
theorem ob_putZ {x : Int32} {f : ob_S → Option g} (Cx : ob_C p R s m args meth c cc nL own rt b D cA adK adV fr lo) (hP : ob_H b D cA t H) (hS : va_S (ob_A b) s.heap H locs) (ck : ob_ck ci C T N ty) (hf : (ob_fl ci)[k]? = some false) (hty : ty k = .boolean) (hfin : (T k).2.2.2 = false) (hl : Cond.fieldLink own idx (T k).1 (T k).2.1 (T k).2.2.1 ∈ ob_T) (hdg : decode cc pc = .ok (.putfield idx, 3)) (h : (ob_pZ ci k n x t).bind f = some out)
    (kk : ∀ (t : ob_S) (H : Heap) (locs : List Loc), f t = some out → ob_H b D cA t H → va_S (ob_A b) s.heap H locs → W p l e R s m args below meth c H locs cells slots Q (F0 m (pc + 3) ls rest)) : W p l e R s m args below meth c H locs cells slots Q (F0 m pc ls (.int x :: .ref (b + n) :: rest)) := by
  by_cases hg : (n < ob_n t ∧ ob_k t n = ci) ∧ (x = 0 ∨ x = 1)
  · rw [ob_pZ, if_pos hg] at h
    have hk : k < N := by rw [← ck.2.2.2.2.2]; exact (List.getElem?_eq_some_iff.mp hf).1
    exact ob_putV (u := ob_setI t n k x) Cx hP hS ck hk hfin hl hdg hg.1 (by rw [hty]; exact ob_zn hg.2) (by rw [hty]; exact ob_zf hg.2) rfl (ob_cel_setI hg.1.2 ck.1 hf) (fun j hj => ob_cel_setI_ne hj) (fun H1 locs1 => kk _ H1 locs1 h)
  · rw [ob_pZ, if_neg hg] at h
    cases h
/-! rows of numbers and references -/
theorem ob_aldI {i : Int32} {f : Int32 → Option g} (Cx : ob_C p R s m args meth c cc nL own rt b D cA adK adV fr lo) (hP : ob_H b D cA t H) (hdg : decode cc pc = .ok (.iaload, 1)) (h : (ob_aI n i t).bind f = some out)
    (kk : ∀ x : Int32, f x = some out → W p l e R s m args below meth c H locs cells slots Q (F0 m (pc + 1) ls (.int x :: rest))) : W p l e R s m args below meth c H locs cells slots Q (F0 m pc ls (.int i :: .ref (b + n) :: rest)) := by
  obtain ⟨⟨hx, hb, -, hown, hts⟩, hE, -⟩ := Cx
  by_cases hg : (n < ob_n t ∧ ob_k t n = 12) ∧ ¬ (i < 0 ∨ ob_l t n ≤ i.toNatClampNeg)
  · rw [ob_aI, if_pos hg] at h
    exact va_iald hx hb hE.1 hP n 0 (ob_ws_num hg.1.1 hg.1.2 (by decide) (by decide)) rfl hg.2 hdg (kk _ h)
  · rw [ob_aI, if_neg hg] at h
    cases h
theorem ob_aldZ {i : Int32} {f : Int32 → Option g} (Cx : ob_C p R s m args meth c cc nL own rt b D cA adK adV fr lo) (hP : ob_H b D cA t H) (hdg : decode cc pc = .ok (.baload, 1)) (h : (ob_aZ n i t).bind f = some out)
    (kk : ∀ x : Int32, f x = some out → W p l e R s m args below meth c H locs cells slots Q (F0 m (pc + 1) ls (.int x :: rest))) : W p l e R s m args below meth c H locs cells slots Q (F0 m pc ls (.int i :: .ref (b + n) :: rest)) := by
  obtain ⟨⟨hx, hb, -, hown, hts⟩, hE, -⟩ := Cx
  by_cases hg : (n < ob_n t ∧ ob_k t n = 13) ∧ ¬ (i < 0 ∨ ob_l t n ≤ i.toNatClampNeg)
  · rw [ob_aZ, if_pos hg] at h
    exact va_zald hx hb hE.1 hP n 1 (ob_ws_num hg.1.1 hg.1.2 (by decide) (by decide)) rfl hg.2 hdg (kk _ h)
  · rw [ob_aZ, if_neg hg] at h
    cases h
theorem ob_aldR {kd : Nat} {Cn : String} {i : Int32} {f : Nat → Option g} (Cx : ob_C p R s m args meth c cc nL own rt b D cA adK adV fr lo) (hP : ob_H b D cA t H) (hkd : 14 ≤ kd) (hty : (ob_ty cA)[kd - 12]? = some (cA (kd - 12), .object Cn)) (hdg : decode cc pc = .ok (.aaload, 1)) (h : (ob_aR kd n i t).bind f = some out)
    (kk : ∀ x : Nat, f x = some out → W p l e R s m args below meth c H locs cells slots Q (F0 m (pc + 1) ls (.ref (b + x) :: rest))) : W p l e R s m args below meth c H locs cells slots Q (F0 m pc ls (.int i :: .ref (b + n) :: rest)) := by
  obtain ⟨⟨hx, hb, -, hown, hts⟩, hE, -⟩ := Cx
  by_cases hg : (n < ob_n t ∧ ob_k t n = kd) ∧ ¬ (i < 0 ∨ ob_l t n ≤ i.toNatClampNeg)
  · rw [ob_aR, if_pos hg] at h
    obtain ⟨x, hx0, h⟩ := ob_b_some h
    refine va_aldq hx hb hE.1 hP n (kd - 12) (ob_ws_ref hg.1.1 hg.1.2 hkd) hty hg.2 hdg ?_
    have e9 : va_rf ((ob_r t n i.toNatClampNeg).map (fun q => b + q)) = .ref (b + x) := by rw [hx0]; rfl
    show W p l e R s m args below meth c H locs cells slots Q (F0 m (pc + 1) ls (va_rf ((ob_r t n i.toNatClampNeg).map (fun q => b + q)) :: rest))
    rw [e9]
    exact kk _ h
  · rw [ob_aR, if_neg hg] at h
    cases h
theorem ob_cel_num {x : Int32} {kd j : Nat} (hg : ob_k t n = kd) (h12 : 12 ≤ kd) (h14 : kd < 14) : ob_cel b cA (ob_setI t n j x) n = .inl (cA (kd - 12), ob_l t n, .inl (upd (ob_i t n) j x)) := by
  have e1 : ob_k (ob_setI t n j x) n = kd := hg
  have e2 : ob_i (ob_setI t n j x) n = upd (ob_i t n) j x := va_up_self _ _ _
  have e3 : ob_l (ob_setI t n j x) n = ob_l t n := rfl
  rw [ob_cel, if_neg (by rw [e1]; omega), if_pos (by rw [e1]; exact h14), e1, e2, e3]
theorem ob_astI {i x : Int32} {f : ob_S → Option g} (Cx : ob_C p R s m args meth c cc nL own rt b D cA adK adV fr lo) (hP : ob_H b D cA t H) (hS : va_S (ob_A b) s.heap H locs) (hdg : decode cc pc = .ok (.iastore, 1)) (h : (ob_wI n i x t).bind f = some out)
    (kk : ∀ (t : ob_S) (H : Heap) (locs : List Loc), f t = some out → ob_H b D cA t H → va_S (ob_A b) s.heap H locs → W p l e R s m args below meth c H locs cells slots Q (F0 m (pc + 1) ls rest)) : W p l e R s m args below meth c H locs cells slots Q (F0 m pc ls (.int x :: .int i :: .ref (b + n) :: rest)) := by
  obtain ⟨⟨hx, hb, -, hown, hts⟩, hE, -⟩ := Cx
  by_cases hg : (n < ob_n t ∧ ob_k t n = 12) ∧ ¬ (i < 0 ∨ ob_l t n ≤ i.toNatClampNeg)
  · rw [ob_wI, if_pos hg] at h
    refine va_iast hx hb hE.1 hP ob_ws_D hS n 0 (ob_ws_num hg.1.1 hg.1.2 (by decide) (by decide)) rfl hg.2 hdg (fun H1 locs1 hP1 _ hS1 => ?_)
    rw [ob_ws_set (u := ob_setI t n i.toNatClampNeg x) hg.1.1 rfl (ob_cel_num hg.1.2 (by decide) (by decide)) (fun j hj => ob_cel_setI_ne hj)] at hP1
    exact kk _ H1 locs1 h hP1 hS1
  · rw [ob_wI, if_neg hg] at h
    cases h
theorem ob_zv {x : Int32} (h : x = 0 ∨ x = 1) : vp_nar .boolean x = x := by rcases h with rfl | rfl <;> decide
theorem ob_astZ {i x : Int32} {f : ob_S → Option g} (Cx : ob_C p R s m args meth c cc nL own rt b D cA adK adV fr lo) (hP : ob_H b D cA t H) (hS : va_S (ob_A b) s.heap H locs) (hdg : decode cc pc = .ok (.bastore, 1)) (h : (ob_wZ n i x t).bind f = some out)
    (kk : ∀ (t : ob_S) (H : Heap) (locs : List Loc), f t = some out → ob_H b D cA t H → va_S (ob_A b) s.heap H locs → W p l e R s m args below meth c H locs cells slots Q (F0 m (pc + 1) ls rest)) : W p l e R s m args below meth c H locs cells slots Q (F0 m pc ls (.int x :: .int i :: .ref (b + n) :: rest)) := by
  obtain ⟨⟨hx, hb, -, hown, hts⟩, hE, -⟩ := Cx
  by_cases hg : ((n < ob_n t ∧ ob_k t n = 13) ∧ ¬ (i < 0 ∨ ob_l t n ≤ i.toNatClampNeg)) ∧ (x = 0 ∨ x = 1)
  · rw [ob_wZ, if_pos hg] at h
    refine va_zast hx hb hE.1 hP ob_ws_D hS n 1 (ob_ws_num hg.1.1.1 hg.1.1.2 (by decide) (by decide)) rfl hg.1.2 hdg (fun H1 locs1 hP1 _ hS1 => ?_)
    rw [ob_zv hg.2, ob_ws_set (u := ob_setI t n i.toNatClampNeg x) hg.1.1.1 rfl (ob_cel_num hg.1.1.2 (by decide) (by decide)) (fun j hj => ob_cel_setI_ne hj)] at hP1
    exact kk _ H1 locs1 h hP1 hS1
  · rw [ob_wZ, if_neg hg] at h
    cases h
theorem ob_cel_ref {x kd j : Nat} (hg : ob_k t n = kd) (h14 : 14 ≤ kd) : ob_cel b cA (ob_setR t n j (some x)) n = .inl (cA (kd - 12), ob_l t n, .inr (.inr (.inr (.inr (va_up (fun k => (ob_r t n k).map (fun q => b + q)) j (some (b + x))))))) := by
  have e1 : ob_k (ob_setR t n j (some x)) n = kd := hg
  have e2 : ob_r (ob_setR t n j (some x)) n = va_up (ob_r t n) j (some x) := va_up_self _ _ _
  have e3 : ob_l (ob_setR t n j (some x)) n = ob_l t n := rfl
  have e4 : (fun k => (va_up (ob_r t n) j (some x) k).map (fun q => b + q)) = va_up (fun k => (ob_r t n k).map (fun q => b + q)) j (some (b + x)) := by
    funext k
    by_cases hk : k = j
    · subst hk
      rw [va_up_self, va_up_self]
      rfl
    · rw [va_up_ne _ _ hk, va_up_ne _ _ hk]
  rw [ob_cel, if_neg (by rw [e1]; omega), if_neg (by rw [e1]; omega), e1, e2, e3, e4]
theorem ob_astR {kd : Nat} {i : Int32} {r : vw_C} {f : ob_S → Option g} (Cx : ob_C p R s m args meth c cc nL own rt b D cA adK adV fr lo) (hP : ob_H b D cA t H) (hS : va_S (ob_A b) s.heap H locs) (hkd : 14 ≤ kd) (h12 : ci < 12) (hc : ob_cl[ci]? = some r) (hty : (ob_ty cA)[kd - 12]? = some (cA (kd - 12), .object r.1)) (hdg : decode cc pc = .ok (.aastore, 1)) (h : (ob_wR kd ci n i q t).bind f = some out)
    (kk : ∀ (t : ob_S) (H : Heap) (locs : List Loc), f t = some out → ob_H b D cA t H → va_S (ob_A b) s.heap H locs → W p l e R s m args below meth c H locs cells slots Q (F0 m (pc + 1) ls rest)) : W p l e R s m args below meth c H locs cells slots Q (F0 m pc ls (.ref (b + q) :: .int i :: .ref (b + n) :: rest)) := by
  obtain ⟨⟨hx, hb, -, hown, hts⟩, hE, -⟩ := Cx
  by_cases hg : ((n < ob_n t ∧ ob_k t n = kd) ∧ ¬ (i < 0 ∨ ob_l t n ≤ i.toNatClampNeg)) ∧ (q < ob_n t ∧ ob_k t q = ci)
  · rw [ob_wR, if_pos hg] at h
    refine va_astq hx hb hE.1 hP ob_ws_D hS n (kd - 12) q ci (ob_ws_ref hg.1.1.1 hg.1.1.2 hkd) hty (ob_ws_obj hg.2.1 hg.2.2 h12) hc hg.1.2 hdg (fun H1 locs1 hP1 _ hS1 => ?_)
    rw [ob_ws_set (u := ob_setR t n i.toNatClampNeg (some q)) hg.1.1.1 rfl (ob_cel_ref hg.1.1.2 hkd) (fun j hj => ob_cel_setR_ne hj)] at hP1
    exact kk _ H1 locs1 h hP1 hS1
  · rw [ob_wR, if_neg hg] at h
    cases h
theorem ob_alen {f : Int32 → Option g} (Cx : ob_C p R s m args meth c cc nL own rt b D cA adK adV fr lo) (hP : ob_H b D cA t H) (hdg : decode cc pc = .ok (.arraylength, 1)) (h : (ob_aL 12 n t).bind f = some out)
    (kk : ∀ x : Int32, f x = some out → W p l e R s m args below meth c H locs cells slots Q (F0 m (pc + 1) ls (.int x :: rest))) : W p l e R s m args below meth c H locs cells slots Q (F0 m pc ls (.ref (b + n) :: rest)) := by
  obtain ⟨⟨hx, hb, -, hown, hts⟩, hE, -⟩ := Cx
  by_cases hg : n < ob_n t ∧ ob_k t n = 12
  · rw [ob_aL, if_pos hg] at h
    exact va_alen hx hb hE.1 hP n 0 (ob_ws_num hg.1 hg.2 (by decide) (by decide)) (ty := .int) rfl rfl hdg (kk _ h)
  · rw [ob_aL, if_neg hg] at h
    cases h
theorem ob_copy {sp dp cnt : Int32} {f : ob_S → Option g} (Cx : ob_C p R s m args meth c cc nL own rt b D cA adK adV fr lo) (hn : ls.size = nL) (hfr : 1 ≤ fr) (hlo : (rest.map fun v => v.category).sum + (nativeFrameWords "java/lang/System" "arraycopy" 5 + 11) ≤ lo) (hP : ob_H b D cA t H) (hS : va_S (ob_A b) s.heap H locs) (hl : Cond.methodLink own idx arraycopyName ∈ ob_T) (hdg : decode cc pc = .ok (.invokestatic idx, 3)) (h : (ob_cp n sp q dp cnt t).bind f = some out)
    (kk : ∀ (t : ob_S) (H : Heap) (locs : List Loc), f t = some out → ob_H b D cA t H → va_S (ob_A b) s.heap H locs → W p l e R s m args below meth c H locs cells slots Q (F0 m (pc + 3) ls rest)) : W p l e R s m args below meth c H locs cells slots Q (F0 m pc ls (.int cnt :: .int dp :: .ref (b + q) :: .int sp :: .ref (b + n) :: rest)) := by
  obtain ⟨⟨hx, hb, hml, hown, hts⟩, hE, -, -, hR, -⟩ := Cx
  by_cases hg : ((n < ob_n t ∧ ob_k t n = 12) ∧ (q < ob_n t ∧ ob_k t q = 12)) ∧ (¬ sp < 0 ∧ ¬ dp < 0 ∧ ¬ cnt < 0) ∧ sp.toNatClampNeg + cnt.toNatClampNeg ≤ ob_l t n ∧ dp.toNatClampNeg + cnt.toNatClampNeg ≤ ob_l t q
  · rw [ob_cp, if_pos hg] at h
    refine va_copyi hx hb (hml.trans hn.symm) hown (hts _ hl) (hts _ ob_w_acn) (hts _ ob_w_acs) (hts _ ob_w_aci) hE.1 hP ob_ws_D hS n q 0 0 (ob_ws_num hg.1.1.1 hg.1.1.2 (by decide) (by decide)) (ob_ws_num hg.1.2.1 hg.1.2.2 (by decide) (by decide)) (ty := .int) rfl rfl rfl hg.2.1.1 hg.2.1.2.1 hg.2.1.2.2 hg.2.2.1 hg.2.2.2 (fun _ _ => rfl) (Nat.le_trans hfr hR.1) (Nat.le_trans hlo hR.2) hdg (fun H1 locs1 hP1 _ hS1 => ?_)
    have e : ob_cel b cA (ob_setA t q (va_cpy (ob_i t n) (ob_i t q) sp.toNatClampNeg dp.toNatClampNeg cnt.toNatClampNeg)) q = .inl (cA (12 - 12), ob_l t q, .inl (va_cpy (ob_i t n) (ob_i t q) sp.toNatClampNeg dp.toNatClampNeg cnt.toNatClampNeg)) := by
      have e1 : ob_k (ob_setA t q (va_cpy (ob_i t n) (ob_i t q) sp.toNatClampNeg dp.toNatClampNeg cnt.toNatClampNeg)) q = 12 := hg.1.2.2
      have e2 : ob_i (ob_setA t q (va_cpy (ob_i t n) (ob_i t q) sp.toNatClampNeg dp.toNatClampNeg cnt.toNatClampNeg)) q = va_cpy (ob_i t n) (ob_i t q) sp.toNatClampNeg dp.toNatClampNeg cnt.toNatClampNeg := va_up_self _ _ _
      rw [ob_cel, if_neg (by rw [e1]; decide), if_pos (by rw [e1]; decide), e1, e2]
      rfl
    rw [ob_ws_set (u := ob_setA t q (va_cpy (ob_i t n) (ob_i t q) sp.toNatClampNeg dp.toNatClampNeg cnt.toNatClampNeg)) hg.1.2.1 rfl e (fun j hj => ob_cel_congr rfl rfl (va_up_ne _ _ hj) rfl)] at hP1
    exact kk _ H1 locs1 h hP1 hS1
  · rw [ob_cp, if_neg hg] at h
    cases h
theorem ob_min {x y : Int32} (Cx : ob_C p R s m args meth c cc nL own rt b D cA adK adV fr lo) (hn : ls.size = nL) (hfr : 1 ≤ fr) (hlo : (rest.map fun v => v.category).sum + 13 ≤ lo) (hcs : cells ≤ R.cells ∧ slots ≤ R.slots) (hl : Cond.methodLink own idx Lib.Math.min.name ∈ ob_T) (hdg : decode cc pc = .ok (.invokestatic idx, 3))
    (kk : W p l e R s m args below meth c H locs cells slots Q (F0 m (pc + 3) ls (.int (ob_mn x y) :: rest))) : W p l e R s m args below meth c H locs cells slots Q (F0 m pc ls (.int y :: .int x :: rest)) := by
  obtain ⟨⟨hx, hb, hml, hown, hts⟩, hE, -, -, hR, -⟩ := Cx
  exact va_mmin hx hb (hml.trans hn.symm) hown (hts _ hl) (hts _ ob_w_mns) (hts _ ob_w_mni) (hts _ ob_w_mnc) (Nat.le_trans hfr hR.1) (Nat.le_trans hlo hR.2) hcs.1 hcs.2 hdg kk
/-! branches, with what the store's step says -/
theorem ob_if {P : Prop} {_ : Decidable P} {A B : Option g} {Wt Wf : Prop} (h : (if P then A else B) = some out) (kt : A = some out → Wt) (kf : B = some out → Wf) : (P → Wt) ∧ (¬ P → Wf) :=
  ⟨fun q => kt (by rw [if_pos q] at h; exact h), fun q => kf (by rw [if_neg q] at h; exact h)⟩
end OBR
/-! BASE 3: contracts, calls, answers -/
def ob_Pre (b : Nat) (D : va_G) (cA : Nat → ClassId) (adK adV : Nat → Nat) (av : List Value) (t : ob_S) : Array Value → State → Prop := va_Pc av (fun U => ob_H b D cA t U.heap ∧ ob_E b D cA adK adV U U.heap ∧ b ≤ U.heap.size)
def ob_Qi (b : Nat) (D : va_G) (cA : Nat → ClassId) (o : Int32 × ob_S) : Array Value → State → Outcome → State → Prop := va_Qi (fun (r : Int32) (u : ob_S) => (r, u) = o) (fun u T => ob_H b D cA u T.heap) (ob_A b)
def ob_Qv (b : Nat) (D : va_G) (cA : Nat → ClassId) (o : ob_S) : Array Value → State → Outcome → State → Prop := va_Qv (fun u : ob_S => u = o) (fun u T => ob_H b D cA u T.heap) (ob_A b)
/-- an answer that is one of the texts -/
def ob_Qs (b : Nat) (D : va_G) (cA : Nat → ClassId) (adK : Nat → Nat) (o : Nat × ob_S) : Array Value → State → Outcome → State → Prop := va_Qr (fun u : Nat × ob_S => u = o) (fun u a T => a = adK u.1 ∧ ob_H b D cA u.2 T.heap) (ob_A b)
theorem ob_blind {b : Nat} {D : va_G} {cA : Nat → ClassId} {adK adV : Nat → Nat} {av : List Value} {t : ob_S} : FrameBlind (ob_Pre b D cA adK adV av t) := fun a U g mk q => ⟨q.1, q.2.1, ob_E.same (s := U) (U := U.calling g mk a) rfl q.2.2.1, q.2.2.2⟩
theorem ob_T_good {w : Cond} (h : w ∈ ob_T) : (w.onTables && w.keeps) = true ∨ ∃ ty, w = .arrayClass ty := good_of_word (List.mem_filter.mp h).2
/-- the words of a method that is chosen by its receiver; of one that isn't -/
def ob_mv (y : MethodName) (C : String) (bytes : ByteArray) (maxL : Nat) (ret : Option FieldType) : Prop := Cond.code y bytes maxL ret ∈ ob_T ∧ Cond.instanceMethod y ∈ ob_T ∧ Cond.selects C y y ∈ ob_T ∧ Cond.initialized C ∈ ob_T ∧ y.cls = C ∧ y.cls ≠ "java/lang/invoke/MethodHandle" ∧ y.cls ≠ "java/lang/invoke/VarHandle"
def ob_ms (y : MethodName) (bytes : ByteArray) (maxL : Nat) (ret : Option FieldType) : Prop := Cond.code y bytes maxL ret ∈ ob_T ∧ Cond.static y ∈ ob_T ∧ Cond.initialized y.cls ∈ ob_T ∧ y.cls ≠ "java/lang/invoke/MethodHandle" ∧ y.cls ≠ "java/lang/invoke/VarHandle"
theorem ob_goodV {own C : String} {idx : Nat} {y : MethodName} {bytes : ByteArray} {maxL : Nat} {ret : Option FieldType} (hy : ob_mv y C bytes maxL ret) (hl : Cond.methodLink own idx y ∈ ob_T) : GoodIn ob_T (wsV own idx C y (Cond.code y bytes maxL ret :: ob_T)) := by
  have hm : ∀ w ∈ wsV own idx C y (Cond.code y bytes maxL ret :: ob_T), w ∈ ob_T := by
    intro w hw
    rcases List.mem_append.mp hw with h | h
    · simp only [List.mem_cons, List.not_mem_nil, or_false] at h
      rcases h with rfl | rfl | rfl | rfl
      · exact hl
      · exact hy.2.1
      · exact hy.2.2.1
      · exact hy.2.2.2.1
    · rcases List.mem_cons.mp h with rfl | h
      · exact hy.1
      · exact h
  exact fun w hw => ⟨hm w hw, ob_T_good (hm w hw)⟩
theorem ob_goodS {own : String} {idx : Nat} {y : MethodName} {bytes : ByteArray} {maxL : Nat} {ret : Option FieldType} (hy : ob_ms y bytes maxL ret) (hl : Cond.methodLink own idx y ∈ ob_T) : GoodIn ob_T (va_wsS own idx y (Cond.code y bytes maxL ret :: ob_T)) := by
  have hm : ∀ w ∈ va_wsS own idx y (Cond.code y bytes maxL ret :: ob_T), w ∈ ob_T := by
    intro w hw
    rcases List.mem_append.mp hw with h | h
    · simp only [List.mem_cons, List.not_mem_nil, or_false] at h
      rcases h with rfl | rfl | rfl
      · exact hl
      · exact hy.2.1
      · exact hy.2.2.1
    · rcases List.mem_cons.mp h with rfl | h
      · exact hy.1
      · exact h
  exact fun w hw => ⟨hm w hw, ob_T_good (hm w hw)⟩
theorem ob_goodC {y : MethodName} {bytes : ByteArray} {maxL : Nat} {ret : Option FieldType} (hc : Cond.code y bytes maxL ret ∈ ob_T) : GoodIn ob_T (Cond.code y bytes maxL ret :: ob_T) := by
  have hm : ∀ w ∈ Cond.code y bytes maxL ret :: ob_T, w ∈ ob_T := fun w hw => by
    rcases List.mem_cons.mp hw with rfl | h
    · exact hc
    · exact h
  exact fun w hw => ⟨hm w hw, ob_T_good (hm w hw)⟩
section OBC
variable {p : Program} {l : Launch} {e : Env} {R : Room} {s : State} {m : MethodId} {args : Array Value} {below : List Frame} {meth : Method} {c : Code} {H : Heap} {locs : List Loc} {Q : State → Prop}
variable {cc : ByteArray} {nL : Nat} {own : String} {rt : Option FieldType} {b : Nat} {D : va_G} {cA : Nat → ClassId} {adK adV : Nat → Nat} {fr lo : Nat} {t : ob_S} {pc : Nat} {ls : Array Slot} {rest As st0 : List Value}
variable {g : Type} {out : g} {ci n idx nA maxL i : Nat} {r : vw_C} {C : String} {y : MethodName} {bytes : ByteArray} {ret : FieldType} {rm : Room} {host : String}
/-- the callee's start -/
theorem ob_pre {av : List Value} (Cx : ob_C p R s m args meth c cc nL own rt b D cA adK adV fr lo) (hP : ob_H b D cA t H) (hS : va_S (ob_A b) s.heap H locs) : ∀ U : State, U.heap = H → s.WarmedH U.vm → ob_Pre b D cA adK adV av t av.toArray U := fun U hU hW => ⟨rfl, by rw [hU]; exact hP, by rw [hU]; exact (Cx.2.1.kept hS.2.1).warm hW, by rw [hU]; exact Nat.le_trans Cx.2.2.2.2.2 hS.1⟩
theorem ob_cVi {oX : Option (Int32 × ob_S)} {f : Int32 → ob_S → Option g} (Cx : ob_C p R s m args meth c cc nL own rt b D cA adK adV fr lo) (hn : ls.size = nL) (hP : ob_H b D cA t H) (hS : va_S (ob_A b) s.heap H locs) (hM : ∀ o, oX = some o → Met l y (Cond.code y bytes maxL (some ret) :: ob_T) rm (ob_Pre b D cA adK adV (.ref (b + n) :: As) t) (ob_Qi b D cA o) 0 0 (ob_A b))
    (hrv : ∀ o, oX = some o → n < ob_n t ∧ ob_k t n = ci) (h12 : ci < 12) (hc : ob_cl[ci]? = some r) (hy : ob_mv y r.1 bytes maxL (some ret)) (hl : Cond.methodLink own idx y ∈ ob_T) (hA : As.length = nA) (hd : (parseMethodDescriptor y.desc).map (fun d => d.parameters.length) = some nA) (hrm : rm.cells = 0 ∧ rm.slots = 0) (hr : rm.frames + 1 ≤ fr ∧ 8 + (maxL + 11) + rm.locals ≤ lo) (hst : (rest.map fun v => v.category).sum ≤ 8) (hs0 : st0 = As.reverse ++ .ref (b + n) :: rest) (hdg : decode cc pc = .ok (.invokevirtual idx, 3)) (h : ob_b2 oX f = some out)
    (kk : ∀ (x : Int32) (t : ob_S) (H : Heap) (locs : List Loc), f x t = some out → ob_H b D cA t H → va_S (ob_A b) s.heap H locs → W p l e R s m args below meth c H locs 0 0 Q (F0 m (pc + 3) ls (.int x :: rest))) : W p l e R s m args below meth c H locs 0 0 Q (F0 m pc ls st0) := by
  obtain ⟨x, u, ho, h⟩ := ob_b2_some h
  obtain ⟨g1, g2⟩ := hrv _ ho
  have Cy := Cx
  obtain ⟨hF, hE, -, -, hR, -⟩ := Cy
  subst hs0
  refine va_calli (va_runV (As := As) (rest := rest) hF (hM _ ho) (cwV nA hF.2.2.2.2 (ob_goodV hy hl) rfl hrm.1 hrm.2 ⟨hy.2.2.2.2.1, hy.2.2.2.2.2.1, hy.2.2.2.2.2.2, hd⟩ ⟨Nat.le_trans hr.1 hR.1, Nat.le_trans hr.2 hR.2⟩) ⟨ob_blind, va_recv hE.1 hP hc (ob_ws_obj g1 g2 h12), ob_pre Cx hP hS⟩ rfl hA hn rfl (lv_room hst) hdg ⟨Nat.zero_le _, Nat.zero_le _⟩) hS (fun _ _ z => z) (fun _ z => z) (fun x1 u1 T1 H1 locs1 ht _ hw hB _ _ hS1 => ?_)
  cases hw
  rw [ht] at hB
  exact kk x u H1 locs1 h hB hS1
theorem ob_cVv {oX : Option ob_S} {f : ob_S → Option g} (Cx : ob_C p R s m args meth c cc nL own rt b D cA adK adV fr lo) (hn : ls.size = nL) (hP : ob_H b D cA t H) (hS : va_S (ob_A b) s.heap H locs) (hM : ∀ o, oX = some o → Met l y (Cond.code y bytes maxL none :: ob_T) rm (ob_Pre b D cA adK adV (.ref (b + n) :: As) t) (ob_Qv b D cA o) 0 0 (ob_A b))
    (hrv : ∀ o, oX = some o → n < ob_n t ∧ ob_k t n = ci) (h12 : ci < 12) (hc : ob_cl[ci]? = some r) (hy : ob_mv y r.1 bytes maxL none) (hl : Cond.methodLink own idx y ∈ ob_T) (hA : As.length = nA) (hd : (parseMethodDescriptor y.desc).map (fun d => d.parameters.length) = some nA) (hrm : rm.cells = 0 ∧ rm.slots = 0) (hr : rm.frames + 1 ≤ fr ∧ 8 + (maxL + 11) + rm.locals ≤ lo) (hst : (rest.map fun v => v.category).sum ≤ 8) (hs0 : st0 = As.reverse ++ .ref (b + n) :: rest) (hdg : decode cc pc = .ok (.invokevirtual idx, 3)) (h : oX.bind f = some out)
    (kk : ∀ (t : ob_S) (H : Heap) (locs : List Loc), f t = some out → ob_H b D cA t H → va_S (ob_A b) s.heap H locs → W p l e R s m args below meth c H locs 0 0 Q (F0 m (pc + 3) ls rest)) : W p l e R s m args below meth c H locs 0 0 Q (F0 m pc ls st0) := by
  obtain ⟨u, ho, h⟩ := ob_b_some h
  obtain ⟨g1, g2⟩ := hrv _ ho
  have Cy := Cx
  obtain ⟨hF, hE, -, -, hR, -⟩ := Cy
  subst hs0
  refine va_callv (va_runV (As := As) (rest := rest) hF (hM _ ho) (cwV nA hF.2.2.2.2 (ob_goodV hy hl) rfl hrm.1 hrm.2 ⟨hy.2.2.2.2.1, hy.2.2.2.2.2.1, hy.2.2.2.2.2.2, hd⟩ ⟨Nat.le_trans hr.1 hR.1, Nat.le_trans hr.2 hR.2⟩) ⟨ob_blind, va_recv hE.1 hP hc (ob_ws_obj g1 g2 h12), ob_pre Cx hP hS⟩ rfl hA hn rfl (lv_room hst) hdg ⟨Nat.zero_le _, Nat.zero_le _⟩) hS (fun _ _ z => z) (fun _ z => z) (fun u1 T1 H1 locs1 ht _ hw hB _ _ hS1 => ?_)
  cases hw
  rw [ht] at hB
  exact kk u H1 locs1 h hB hS1
/-- a call on one of the texts -/
theorem ob_cTi {oX : Option (Int32 × ob_S)} {f : Int32 → ob_S → Option g} (Cx : ob_C p R s m args meth c cc nL own rt b D cA adK adV fr lo) (hn : ls.size = nL) (hP : ob_H b D cA t H) (hS : va_S (ob_A b) s.heap H locs) (hM : ∀ o, oX = some o → Met l y (Cond.code y bytes maxL (some ret) :: ob_T) rm (ob_Pre b D cA adK adV (.ref (adK i) :: As) t) (ob_Qi b D cA o) 0 0 (ob_A b))
    (hrv : ∀ o, oX = some o → i < 6) (hy : ob_mv y "java/lang/String" bytes maxL (some ret)) (hl : Cond.methodLink own idx y ∈ ob_T) (hA : As.length = nA) (hd : (parseMethodDescriptor y.desc).map (fun d => d.parameters.length) = some nA) (hrm : rm.cells = 0 ∧ rm.slots = 0) (hr : rm.frames + 1 ≤ fr ∧ 8 + (maxL + 11) + rm.locals ≤ lo) (hst : (rest.map fun v => v.category).sum ≤ 8) (hs0 : st0 = As.reverse ++ .ref (adK i) :: rest) (hdg : decode cc pc = .ok (.invokevirtual idx, 3)) (h : ob_b2 oX f = some out)
    (kk : ∀ (x : Int32) (t : ob_S) (H : Heap) (locs : List Loc), f x t = some out → ob_H b D cA t H → va_S (ob_A b) s.heap H locs → W p l e R s m args below meth c H locs 0 0 Q (F0 m (pc + 3) ls (.int x :: rest))) : W p l e R s m args below meth c H locs 0 0 Q (F0 m pc ls st0) := by
  obtain ⟨x, u, ho, h⟩ := ob_b2_some h
  have hi := hrv _ ho
  have Cy := Cx
  obtain ⟨hF, hE, -, -, hR, -⟩ := Cy
  subst hs0
  refine va_calli (va_runV (As := As) (rest := rest) hF (hM _ ho) (cwV nA hF.2.2.2.2 (ob_goodV hy hl) rfl hrm.1 hrm.2 ⟨hy.2.2.2.2.1, hy.2.2.2.2.2.1, hy.2.2.2.2.2.2, hd⟩ ⟨Nat.le_trans hr.1 hR.1, Nat.le_trans hr.2 hR.2⟩) ⟨ob_blind, vk_recv hE.2.2.2.1 hi hS, ob_pre Cx hP hS⟩ rfl hA hn rfl (lv_room hst) hdg ⟨Nat.zero_le _, Nat.zero_le _⟩) hS (fun _ _ z => z) (fun _ z => z) (fun x1 u1 T1 H1 locs1 ht _ hw hB _ _ hS1 => ?_)
  cases hw
  rw [ht] at hB
  exact kk x u H1 locs1 h hB hS1
theorem ob_cSi {oX : Option (Int32 × ob_S)} {f : Int32 → ob_S → Option g} (Cx : ob_C p R s m args meth c cc nL own rt b D cA adK adV fr lo) (hn : ls.size = nL) (hP : ob_H b D cA t H) (hS : va_S (ob_A b) s.heap H locs) (hM : ∀ o, oX = some o → Met l y (Cond.code y bytes maxL (some ret) :: ob_T) rm (ob_Pre b D cA adK adV As t) (ob_Qi b D cA o) 0 0 (ob_A b))
    (hy : ob_ms y bytes maxL (some ret)) (hl : Cond.methodLink own idx y ∈ ob_T) (hA : As.length = nA) (hd : (parseMethodDescriptor y.desc).map (fun d => d.parameters.length) = some nA) (hrm : rm.cells = 0 ∧ rm.slots = 0) (hr : rm.frames + 1 ≤ fr ∧ 8 + (maxL + 11) + rm.locals ≤ lo) (hst : (rest.map fun v => v.category).sum ≤ 8) (hs0 : st0 = As.reverse ++ rest) (hdg : decode cc pc = .ok (.invokestatic idx, 3)) (h : ob_b2 oX f = some out)
    (kk : ∀ (x : Int32) (t : ob_S) (H : Heap) (locs : List Loc), f x t = some out → ob_H b D cA t H → va_S (ob_A b) s.heap H locs → W p l e R s m args below meth c H locs 0 0 Q (F0 m (pc + 3) ls (.int x :: rest))) : W p l e R s m args below meth c H locs 0 0 Q (F0 m pc ls st0) := by
  obtain ⟨x, u, ho, h⟩ := ob_b2_some h
  have Cy := Cx
  obtain ⟨hF, hE, -, -, hR, -⟩ := Cy
  subst hs0
  refine va_calli (va_runS (As := As) (rest := rest) hF (hM _ ho) (va_cwS nA hF.2.2.2.2 (ob_goodS hy hl) rfl hrm.1 hrm.2 ⟨hy.2.2.2.1, hy.2.2.2.2, hd⟩ ⟨Nat.le_trans hr.1 hR.1, Nat.le_trans hr.2 hR.2⟩) ⟨ob_blind, ob_pre Cx hP hS⟩ rfl hA hn rfl (lv_room hst) hdg ⟨Nat.zero_le _, Nat.zero_le _⟩) hS (fun _ _ z => z) (fun _ z => z) (fun x1 u1 T1 H1 locs1 ht _ hw hB _ _ hS1 => ?_)
  cases hw
  rw [ht] at hB
  exact kk x u H1 locs1 h hB hS1
theorem ob_cSv {oX : Option ob_S} {f : ob_S → Option g} (Cx : ob_C p R s m args meth c cc nL own rt b D cA adK adV fr lo) (hn : ls.size = nL) (hP : ob_H b D cA t H) (hS : va_S (ob_A b) s.heap H locs) (hM : ∀ o, oX = some o → Met l y (Cond.code y bytes maxL none :: ob_T) rm (ob_Pre b D cA adK adV As t) (ob_Qv b D cA o) 0 0 (ob_A b))
    (hy : ob_ms y bytes maxL none) (hl : Cond.methodLink own idx y ∈ ob_T) (hA : As.length = nA) (hd : (parseMethodDescriptor y.desc).map (fun d => d.parameters.length) = some nA) (hrm : rm.cells = 0 ∧ rm.slots = 0) (hr : rm.frames + 1 ≤ fr ∧ 8 + (maxL + 11) + rm.locals ≤ lo) (hst : (rest.map fun v => v.category).sum ≤ 8) (hs0 : st0 = As.reverse ++ rest) (hdg : decode cc pc = .ok (.invokestatic idx, 3)) (h : oX.bind f = some out)
    (kk : ∀ (t : ob_S) (H : Heap) (locs : List Loc), f t = some out → ob_H b D cA t H → va_S (ob_A b) s.heap H locs → W p l e R s m args below meth c H locs 0 0 Q (F0 m (pc + 3) ls rest)) : W p l e R s m args below meth c H locs 0 0 Q (F0 m pc ls st0) := by
  obtain ⟨u, ho, h⟩ := ob_b_some h
  have Cy := Cx
  obtain ⟨hF, hE, -, -, hR, -⟩ := Cy
  subst hs0
  refine va_callv (va_runS (As := As) (rest := rest) hF (hM _ ho) (va_cwS nA hF.2.2.2.2 (ob_goodS hy hl) rfl hrm.1 hrm.2 ⟨hy.2.2.2.1, hy.2.2.2.2, hd⟩ ⟨Nat.le_trans hr.1 hR.1, Nat.le_trans hr.2 hR.2⟩) ⟨ob_blind, ob_pre Cx hP hS⟩ rfl hA hn rfl (lv_room hst) hdg ⟨Nat.zero_le _, Nat.zero_le _⟩) hS (fun _ _ z => z) (fun _ z => z) (fun u1 T1 H1 locs1 ht _ hw hB _ _ hS1 => ?_)
  cases hw
  rw [ht] at hB
  exact kk u H1 locs1 h hB hS1
/-- a static method of the nest's host -/
theorem ob_cNi {oX : Option (Int32 × ob_S)} {f : Int32 → ob_S → Option g} (Cx : ob_C p R s m args meth c cc nL own rt b D cA adK adV fr lo) (hn : ls.size = nL) (hP : ob_H b D cA t H) (hS : va_S (ob_A b) s.heap H locs) (hM : ∀ o, oX = some o → Met l y (Cond.code y bytes maxL (some ret) :: ob_T) rm (ob_Pre b D cA adK adV As t) (ob_Qi b D cA o) 0 0 (ob_A b))
    (hy : ob_ms y bytes maxL (some ret)) (hl : Cond.methodLinkNest own idx y host ∈ ob_nest) (hA : As.length = nA) (hd : (parseMethodDescriptor y.desc).map (fun d => d.parameters.length) = some nA) (hrm : rm.cells = 0 ∧ rm.slots = 0) (hr : rm.frames + 1 ≤ fr ∧ 8 + (maxL + 11) + rm.locals ≤ lo) (hst : (rest.map fun v => v.category).sum ≤ 8) (hs0 : st0 = As.reverse ++ rest) (hdg : decode cc pc = .ok (.invokestatic idx, 3)) (h : ob_b2 oX f = some out)
    (kk : ∀ (x : Int32) (t : ob_S) (H : Heap) (locs : List Loc), f x t = some out → ob_H b D cA t H → va_S (ob_A b) s.heap H locs → W p l e R s m args below meth c H locs 0 0 Q (F0 m (pc + 3) ls (.int x :: rest))) : W p l e R s m args below meth c H locs 0 0 Q (F0 m pc ls st0) := by
  obtain ⟨x, u, ho, h⟩ := ob_b2_some h
  have Cy := Cx
  obtain ⟨hF, hE, -, -, hR, -⟩ := Cy
  subst hs0
  refine va_calli (va_runSN (As := As) (rest := rest) hF (hM _ ho) ⟨va_cnB nA hF.2.2.2.2 (ob_goodC hy.1) rfl hrm.1 hrm.2 (hE.2.1 _ hl) (hF.2.2.2.2 _ hy.2.2.1) ⟨hy.2.2.2.1, hy.2.2.2.2, hd⟩ ⟨Nat.le_trans hr.1 hR.1, Nat.le_trans hr.2 hR.2⟩, hF.2.2.2.2 _ hy.2.1, trivial⟩ ⟨ob_blind, ob_pre Cx hP hS⟩ rfl hA hn rfl (lv_room hst) hdg ⟨Nat.zero_le _, Nat.zero_le _⟩) hS (fun _ _ z => z) (fun _ z => z) (fun x1 u1 T1 H1 locs1 ht _ hw hB _ _ hS1 => ?_)
  cases hw
  rw [ht] at hB
  exact kk x u H1 locs1 h hB hS1
theorem ob_cNs {oX : Option (Nat × ob_S)} {f : Nat → ob_S → Option g} (Cx : ob_C p R s m args meth c cc nL own rt b D cA adK adV fr lo) (hn : ls.size = nL) (hP : ob_H b D cA t H) (hS : va_S (ob_A b) s.heap H locs) (hM : ∀ o, oX = some o → Met l y (Cond.code y bytes maxL (some ret) :: ob_T) rm (ob_Pre b D cA adK adV As t) (ob_Qs b D cA adK o) 0 0 (ob_A b))
    (hy : ob_ms y bytes maxL (some ret)) (hl : Cond.methodLinkNest own idx y host ∈ ob_nest) (hA : As.length = nA) (hd : (parseMethodDescriptor y.desc).map (fun d => d.parameters.length) = some nA) (hrm : rm.cells = 0 ∧ rm.slots = 0) (hr : rm.frames + 1 ≤ fr ∧ 8 + (maxL + 11) + rm.locals ≤ lo) (hst : (rest.map fun v => v.category).sum ≤ 8) (hs0 : st0 = As.reverse ++ rest) (hdg : decode cc pc = .ok (.invokestatic idx, 3)) (h : ob_b2 oX f = some out)
    (kk : ∀ (x : Nat) (t : ob_S) (H : Heap) (locs : List Loc), f x t = some out → ob_H b D cA t H → va_S (ob_A b) s.heap H locs → W p l e R s m args below meth c H locs 0 0 Q (F0 m (pc + 3) ls (.ref (adK x) :: rest))) : W p l e R s m args below meth c H locs 0 0 Q (F0 m pc ls st0) := by
  obtain ⟨x, u, ho, h⟩ := ob_b2_some h
  have Cy := Cx
  obtain ⟨hF, hE, -, -, hR, -⟩ := Cy
  subst hs0
  refine va_callr (va_runSN (As := As) (rest := rest) hF (hM _ ho) ⟨va_cnB nA hF.2.2.2.2 (ob_goodC hy.1) rfl hrm.1 hrm.2 (hE.2.1 _ hl) (hF.2.2.2.2 _ hy.2.2.1) ⟨hy.2.2.2.1, hy.2.2.2.2, hd⟩ ⟨Nat.le_trans hr.1 hR.1, Nat.le_trans hr.2 hR.2⟩, hF.2.2.2.2 _ hy.2.1, trivial⟩ ⟨ob_blind, ob_pre Cx hP hS⟩ rfl hA hn rfl (lv_room hst) hdg ⟨Nat.zero_le _, Nat.zero_le _⟩) hS (fun _ _ z => z) (fun _ z => z) (fun u1 a1 T1 H1 locs1 ht _ hw hB _ _ hS1 => ?_)
  cases hw
  obtain ⟨rfl, hB⟩ := hB
  rw [ht] at hB
  exact kk x u H1 locs1 h hB hS1
/-! answers -/
theorem ob_iret {x : Int32} {o : Int32 × ob_S} (Cx : ob_C p R s m args meth c cc nL own (some .int) b D cA adK adV fr lo) (hP : ob_H b D cA t H) (hS : va_S (ob_A b) s.heap H locs) (hdg : decode cc pc = .ok (.ireturn, 1)) (h : some (x, t) = some o) : W p l e R s m args below meth c H locs 0 0 (MQ below (ob_Qi b D cA o) args s 0 0 (ob_A b)) (F0 m pc ls [.int x]) := by
  obtain ⟨hF, hE, hrt, hlk, hR, hbs⟩ := Cx
  cases h
  exact W.iret hF.1 hF.2.1 hrt (fun T ht _ => ⟨⟨x, t, rfl, rfl, by show ob_H b D cA t T.heap; rw [ht]; exact hP⟩, hS.F ht⟩) hS.2.2 hdg (hlocks := hlk)
theorem ob_zret {x : Int32} {o : Int32 × ob_S} (Cx : ob_C p R s m args meth c cc nL own (some .boolean) b D cA adK adV fr lo) (hP : ob_H b D cA t H) (hS : va_S (ob_A b) s.heap H locs) (hdg : decode cc pc = .ok (.ireturn, 1)) (h : ob_z x t = some o) : W p l e R s m args below meth c H locs 0 0 (MQ below (ob_Qi b D cA o) args s 0 0 (ob_A b)) (F0 m pc ls [.int x]) := by
  obtain ⟨hF, hE, hrt, hlk, hR, hbs⟩ := Cx
  by_cases hz : x = 0 ∨ x = 1
  · rw [ob_z, if_pos hz] at h
    cases h
    exact W.zret hF.1 hF.2.1 hrt (ob_zn hz) (fun T ht _ => ⟨⟨x, t, rfl, rfl, by show ob_H b D cA t T.heap; rw [ht]; exact hP⟩, hS.F ht⟩) hS.2.2 hdg (hlocks := hlk)
  · rw [ob_z, if_neg hz] at h
    cases h
theorem ob_nret {x : Int32} {ty : FieldType} {o : Int32 × ob_S} (Cx : ob_C p R s m args meth c cc nL own (some ty) b D cA adK adV fr lo) (hP : ob_H b D cA t H) (hS : va_S (ob_A b) s.heap H locs) (hdg : decode cc pc = .ok (.ireturn, 1)) (hnn : narrow ty (.int x) = .int x) (h : some (x, t) = some o) : W p l e R s m args below meth c H locs 0 0 (MQ below (ob_Qi b D cA o) args s 0 0 (ob_A b)) (F0 m pc ls [.int x]) := by
  obtain ⟨hF, hE, hrt, hlk, hR, hbs⟩ := Cx
  cases h
  exact W.zret hF.1 hF.2.1 hrt hnn (fun T ht _ => ⟨⟨x, t, rfl, rfl, by show ob_H b D cA t T.heap; rw [ht]; exact hP⟩, hS.F ht⟩) hS.2.2 hdg (hlocks := hlk)
theorem ob_vret {o : ob_S} (Cx : ob_C p R s m args meth c cc nL own none b D cA adK adV fr lo) (hP : ob_H b D cA t H) (hS : va_S (ob_A b) s.heap H locs) (hdg : decode cc pc = .ok (.return_, 1)) (h : some t = some o) : W p l e R s m args below meth c H locs 0 0 (MQ below (ob_Qv b D cA o) args s 0 0 (ob_A b)) (F0 m pc ls []) := by
  obtain ⟨hF, hE, hrt, hlk, hR, hbs⟩ := Cx
  cases h
  exact W.vret hF.1 hF.2.1 hrt (fun T ht _ => ⟨⟨t, rfl, rfl, by show ob_H b D cA t T.heap; rw [ht]; exact hP⟩, hS.F ht⟩) hS.2.2 hdg (hlocks := hlk)
theorem ob_sret {x : Nat} {o : Nat × ob_S} (Cx : ob_C p R s m args meth c cc nL own (some (.object "java/lang/String")) b D cA adK adV fr lo) (hP : ob_H b D cA t H) (hS : va_S (ob_A b) s.heap H locs) (hdg : decode cc pc = .ok (.areturn, 1)) (h : some (x, t) = some o) : W p l e R s m args below meth c H locs 0 0 (MQ below (ob_Qs b D cA adK o) args s 0 0 (ob_A b)) (F0 m pc ls [.ref (adK x)]) := by
  obtain ⟨hF, hE, hrt, hlk, hR, hbs⟩ := Cx
  cases h
  exact W.aret hF.1 hF.2.1 hrt (Or.inl ⟨_, rfl⟩) (Or.inr ⟨_, rfl⟩) (fun T ht _ => ⟨⟨(x, t), adK x, rfl, rfl, rfl, by rw [ht]; exact hP⟩, hS.F ht⟩) hS.2.2 hdg (hlocks := hlk)
/-- a text of the pool -/
theorem ob_ldcS (Cx : ob_C p R s m args meth c cc nL "ObservedBlocks" rt b D cA adK adV fr lo) (hi : i < 6) (hk : ob_sk.getD i 0 = idx) (hdg : decode cc pc = .ok (.ldc idx, 2)) (kk : W p l e R s m args below meth c H locs 0 0 Q (F0 m (pc + 2) ls (.ref (adK i) :: rest))) : W p l e R s m args below meth c H locs 0 0 Q (F0 m pc ls rest) := by
  obtain ⟨hF, hE, -⟩ := Cx
  subst hk
  exact va_ldcS hF.1 hF.2.1 hF.2.2.2.1 (hE.2.2.1 i hi) hdg kk
end OBC
/-- a contract out of the walk from the entry -/
theorem ob_met {l : Launch} {y : MethodName} {cc : ByteArray} {maxL fr lo : Nat} {ret : Option FieldType} {b : Nat} {D : va_G} {cA : Nat → ClassId} {adK adV : Nat → Nat} {av : List Value} {t : ob_S} {Qc : Array Value → State → Outcome → State → Prop} (hy : plainName y.cls = true) (hav : (lg_sl av).length ≤ maxL)
    (body : ∀ (p : Program) (e : Env) (R : Room) (s : State) (m : MethodId) (args : Array Value) (below : List Frame) (meth : Method) (c : Code) (ls : Array Slot), ob_C p R s m args meth c cc maxL y.cls ret b D cA adK adV fr lo → ob_H b D cA t s.heap → va_S (ob_A b) s.heap s.heap [] → lv_has ls maxL (lv_args 0 av) → W p l e R s m args below meth c s.heap [] 0 0 (MQ below Qc args s 0 0 (ob_A b)) (F0 m 0 ls [])) :
    Met l y (Cond.code y cc maxL ret :: ob_T) { frames := fr, cells := 0, slots := 0, locals := lo } (ob_Pre b D cA adK adV av t) Qc 0 0 (ob_A b) := by
  refine Met.ofW (cc := cc) (maxL := maxL) (ret := ret) hy rfl ?_
  intro p e s m args below meth c s₁ B hml hv
  obtain ⟨rfl, hP, hE, hbs⟩ := hv
  have hts0 := atoms_spec (ws := Cond.code y cc maxL ret :: ob_T) B.pre
  have hl := lv_entry av (n := maxL) hav
  rw [lg_entry_eq]
  exact body p e _ s m _ below meth c _ ⟨⟨B.exec, B.bytes, hml, findClass_of_methodNamed B.named, fun w h => hts0 w (List.mem_cons_of_mem _ h)⟩, hE, B.returns, B.notSynchronized, ⟨Nat.le_refl _, Nat.le_refl _⟩, hbs⟩ hP va_S.rf hl
/-! BASE 4: making. A constructor's contract counts the objects that it makes: so the next one's address is known. -/
theorem ob_pI_n {c k n : Nat} {x : Int32} {t u : ob_S} (h : ob_pI c k n x t = some u) : ob_n u = ob_n t := by
  unfold ob_pI at h
  split at h
  · cases h; rfl
  · cases h
theorem ob_pZ_n {c k n : Nat} {x : Int32} {t u : ob_S} (h : ob_pZ c k n x t = some u) : ob_n u = ob_n t := by
  unfold ob_pZ at h
  split at h
  · cases h; rfl
  · cases h
theorem ob_pR_n {c k n q : Nat} {t u : ob_S} (h : ob_pR c k n q t = some u) : ob_n u = ob_n t := by
  unfold ob_pR at h
  split at h
  · cases h; rfl
  · cases h
theorem ob_wR_n {kd c n q : Nat} {i : Int32} {t u : ob_S} (h : ob_wR kd c n i q t = some u) : ob_n u = ob_n t := by
  unfold ob_wR at h
  split at h
  · cases h; rfl
  · cases h
/-- a new row of numbers, of at most mx -/
noncomputable def ob_nA (kd mx : Nat) (n : Int32) (t : ob_S) : Option ob_S := if ¬ n < 0 ∧ n.toNatClampNeg ≤ mx then some (ob_new t kd n.toNatClampNeg) else none
theorem ob_cel_newO {b : Nat} {cA : Nat → ClassId} {t : ob_S} {ci len : Nat} (h12 : ci < 12) : ob_cel b cA (ob_new t ci len) (ob_n t) = .inr (ci, ob_row b (ob_fl ci) (fun _ => 0) (fun _ => none)) := by
  have e1 : ob_k (ob_new t ci len) (ob_n t) = ci := va_up_self _ _ _
  have e2 : ob_i (ob_new t ci len) (ob_n t) = fun _ => 0 := va_up_self _ _ _
  have e3 : ob_r (ob_new t ci len) (ob_n t) = fun _ => none := va_up_self _ _ _
  rw [ob_cel, if_pos (by rw [e1]; exact h12), e1, e2, e3]
theorem ob_cel_newA {b : Nat} {cA : Nat → ClassId} {t : ob_S} {kd len : Nat} (h12 : 12 ≤ kd) (h14 : kd < 14) : ob_cel b cA (ob_new t kd len) (ob_n t) = .inl (cA (kd - 12), len, .inl (fun _ => 0)) := by
  have e1 : ob_k (ob_new t kd len) (ob_n t) = kd := va_up_self _ _ _
  have e2 : ob_i (ob_new t kd len) (ob_n t) = fun _ => 0 := va_up_self _ _ _
  have e3 : ob_l (ob_new t kd len) (ob_n t) = len := va_up_self _ _ _
  rw [ob_cel, if_neg (by rw [e1]; omega), if_pos (by rw [e1]; exact h14), e1, e2, e3]
theorem ob_cel_newR {b : Nat} {cA : Nat → ClassId} {t : ob_S} {kd len : Nat} (h14 : 14 ≤ kd) : ob_cel b cA (ob_new t kd len) (ob_n t) = .inl (cA (kd - 12), len, .inr (.inr (.inr (.inr (fun _ => none))))) := by
  have e1 : ob_k (ob_new t kd len) (ob_n t) = kd := va_up_self _ _ _
  have e2 : ob_r (ob_new t kd len) (ob_n t) = fun _ => none := va_up_self _ _ _
  have e3 : ob_l (ob_new t kd len) (ob_n t) = len := va_up_self _ _ _
  rw [ob_cel, if_neg (by rw [e1]; omega), if_neg (by rw [e1]; omega), e1, e2, e3]
  rfl
def ob_tyr (ty : FieldType) : Option Bool := match ty with
  | .int => some false
  | .boolean => some false
  | .object _ => some true
  | .array _ => some true
  | _ => none
theorem ob_tyd {ty : FieldType} {r : Bool} (h : ob_tyr ty = some r) : defaultValue ty = if r = true then .null else .int 0 := by
  cases ty <;> simp [ob_tyr] at h <;> subst h <;> rfl
theorem ob_nf {ci N : Nat} {ty : Nat → FieldType} (h : ∀ j, j < N → ob_tyr (ty j) = (ob_fl ci)[j]? ∧ ((ob_fl ci)[j]?).isSome = true) {b : Nat} : ∀ j, j < N → defaultValue (ty j) = vp_V (ob_row b (ob_fl ci) (fun _ => 0) (fun _ => none)) j := by
  intro j hj
  obtain ⟨h1, h2⟩ := h j hj
  obtain ⟨r, hr⟩ := Option.isSome_iff_exists.mp h2
  rw [hr] at h1
  rw [ob_tyd h1]
  cases r with
  | true => simp [vp_V, ob_row_R hr, va_rf]
  | false => simp [vp_V, ob_row_I hr]
section OBN
variable {p : Program} {l : Launch} {e : Env} {R : Room} {s : State} {m : MethodId} {args : Array Value} {below : List Frame} {meth : Method} {c : Code} {H : Heap} {locs : List Loc} {cells slots : Nat} {Q : State → Prop}
variable {cc : ByteArray} {nL : Nat} {own : String} {rt : Option FieldType} {b : Nat} {D : va_G} {cA : Nat → ClassId} {adK adV : Nat → Nat} {fr lo : Nat} {t : ob_S} {pc : Nat} {ls : Array Slot} {rest : List Value}
variable {g : Type} {out : g} {ci k n q idx : Nat} {C : String} {T : u_T} {N : Nat} {ty : Nat → FieldType}
theorem ob_sz {gf : JFrame} (kk : H.size ≤ s.heap.size + cells → W p l e R s m args below meth c H locs cells slots Q gf) : W p l e R s m args below meth c H locs cells slots Q gf := fun T hT X => kk (by rw [← hT]; exact X.heapSize) T hT X
theorem ob_le (hP : ob_H b D cA t H) (hb : b ≤ H.size) : b + ob_n t ≤ H.size := by
  rcases Nat.eq_zero_or_pos (ob_n t) with h | h
  · omega
  · have hl : b + (ob_n t - 1) < H.size := (hP _ _ (ob_ws_get (b := b) (cA := cA) (t := t) (n := ob_n t - 1) (by omega))).lt
    omega
/-- one cell more, behind all others -/
theorem ob_grow {kd len : Nat} {H1 : Heap} {x : va_E} (hP : ob_H b D cA t H) (hH : H.size = b + ob_n t) (he : ob_cel b cA (ob_new t kd len) (ob_n t) = x) (o1 : ∀ q, q < b + ob_n t → H1[q]? = H[q]?) (h1 : va_P D ob_cl [(b + ob_n t, x)] H1) : ob_H b D cA (ob_new t kd len) H1 := by
  have hk : ∀ (k : Nat) (x : Nat × va_E), (ob_ws b cA t)[k]? = some x → H1[x.1]? = H[x.1]? := fun k x hx => o1 x.1 (by rw [← hH]; exact (hP k x hx).lt)
  have h2 := (hP.kept hk).app h1
  rw [ob_ws_new he] at h2
  exact h2
theorem ob_newO (Cx : ob_C p R s m args meth c cc nL own rt b D cA adK adV fr lo) (hP : ob_H b D cA t H) (hS : va_S (ob_A b) s.heap H locs) (ck : ob_ck ci C T N ty) (hz : s.heap.size + cells = b + ob_n t) (hcl : Cond.classLink own idx C ∈ ob_T) (hinst : Cond.instantiable C N ∈ ob_T) (hini : Cond.initialized C ∈ ob_T)
    (hdf : ∀ j, j < N → defaultValue (ty j) = vp_V (ob_row b (ob_fl ci) (fun _ => 0) (fun _ => none)) j) (hcells : cells + 1 ≤ R.cells) (hslots : slots + N ≤ R.slots) (hdg : decode cc pc = .ok (.new idx, 3))
    (kk : ∀ (H : Heap), ob_H b D cA (ob_new t ci 0) H → va_S (ob_A b) s.heap H locs → s.heap.size + (cells + 1) = b + ob_n (ob_new t ci 0) → W p l e R s m args below meth c H locs (cells + 1) (slots + N) Q (F0 m (pc + 3) ls (.ref (b + ob_n t) :: rest))) : W p l e R s m args below meth c H locs cells slots Q (F0 m pc ls rest) := by
  obtain ⟨⟨hx, hb, -, hown, hts⟩, hE, -, -, -, hbs⟩ := Cx
  obtain ⟨h12, hc, hin, hty, hnm, hlen⟩ := ck
  refine ob_sz (fun hsz => ?_)
  have hge := ob_le hP (Nat.le_trans hbs hS.1)
  have hH : H.size = b + ob_n t := by omega
  have hKn := hE.1.1 ci _ hc
  refine W.newcK hx hb hown (hts _ hcl) (hts _ hinst) (hts _ hini) rfl hdg hcells hslots hKn.2.1 hH fun H1 kC hkC e1 z1 o1 => ?_
  refine kk H1 (ob_grow hP hH (ob_cel_newO h12) o1 (fun k x hx => ?_)) ⟨Nat.le_trans hS.1 (by omega), fun x h1 h2 => (o1 x (by rw [← hH]; exact Nat.lt_of_lt_of_le h1 hS.1)).trans (hS.2.1 x h1 h2), hS.2.2⟩ (by show s.heap.size + (cells + 1) = b + (ob_n t + 1); omega)
  have hz1 : k < 1 := (List.getElem?_eq_some_iff.mp hx).1
  rw [show k = 0 by omega] at hx
  cases hx
  exact ⟨_, hc, (u_born ty hts hin hKn hkC e1 hty).to hdf⟩
theorem ob_newA {atype : ArrayType} {fty : FieldType} {kd mx : Nat} {x : Int32} {f : ob_S → Option g} (Cx : ob_C p R s m args meth c cc nL own rt b D cA adK adV fr lo) (hP : ob_H b D cA t H) (hS : va_S (ob_A b) s.heap H locs) (hz : s.heap.size + cells = b + ob_n t) (h12 : 12 ≤ kd) (h14 : kd < 14) (hty : newarray.typeOf atype = fty) (hd0 : defaultValue fty = .int 0) (hcb : componentBytes fty ≤ 4) (hmx : mx ≤ 100000) (hk : (ob_ty cA)[kd - 12]? = some (cA (kd - 12), fty)) (hra : va_RA s (cA (kd - 12)) fty = (s.vm.findClass ("[" ++ fty.toString) = some (cA (kd - 12))))
    (harr : Cond.arrayClass fty ∈ ob_T) (hcells : cells + 1 ≤ R.cells) (hslots : slots + mx ≤ R.slots) (hdg : decode cc pc = .ok (.newarray atype, 2)) (h : (ob_nA kd mx x t).bind f = some out)
    (kk : ∀ (u : ob_S) (H : Heap), f u = some out → u = ob_new t kd x.toNatClampNeg → ob_H b D cA u H → va_S (ob_A b) s.heap H locs → s.heap.size + (cells + 1) = b + ob_n u → W p l e R s m args below meth c H locs (cells + 1) (slots + mx) Q (F0 m (pc + 2) ls (.ref (b + ob_n t) :: rest))) : W p l e R s m args below meth c H locs cells slots Q (F0 m pc ls (.int x :: rest)) := by
  obtain ⟨⟨hx, hb, -, hown, hts⟩, hE, -, -, -, hbs⟩ := Cx
  by_cases hg : ¬ x < 0 ∧ x.toNatClampNeg ≤ mx
  · rw [ob_nA, if_pos hg] at h
    refine ob_sz (fun hsz => ?_)
    have hge := ob_le hP (Nat.le_trans hbs hS.1)
    have hH : H.size = b + ob_n t := by omega
    have hm : x.toNatClampNeg * componentBytes fty ≤ 100000 * 4 := Nat.mul_le_mul (Nat.le_trans hg.2 hmx) hcb
    subst hty
    refine va_newaK hx hb (hts _ harr) rfl hdg rfl hg.1 rfl (by omega) hcells (by omega) hH fun H1 cA1 e1 z1 o1 hAr hNm => ?_
    refine W.widen (k := cells + 1) (n := slots + mx) (by omega) (by omega) ?_
    have hca : cA1 = cA (kd - 12) := by
      have h2 := (hE.1.2 _ _ hk).2
      rw [hra] at h2
      exact Option.some.inj (hNm.symm.trans h2)
    subst hca
    refine kk _ H1 h rfl (ob_grow hP hH (ob_cel_newA h12 h14) o1 (fun k y hy => ?_)) ⟨Nat.le_trans hS.1 (by omega), fun x h1 h2 => (o1 x (by rw [← hH]; exact Nat.lt_of_lt_of_le h1 hS.1)).trans (hS.2.1 x h1 h2), hS.2.2⟩ (by show s.heap.size + (cells + 1) = b + (ob_n t + 1); omega)
    have hz1 : k < 1 := (List.getElem?_eq_some_iff.mp hy).1
    rw [show k = 0 by omega] at hy
    cases hy
    show H1[b + ob_n t]? = some (vp_cell _ _)
    rw [vp_cell_i, e1, hd0]
  · rw [ob_nA, if_neg hg] at h
    cases h
theorem ob_newI {mx : Nat} {x : Int32} {f : ob_S → Option g} (Cx : ob_C p R s m args meth c cc nL own rt b D cA adK adV fr lo) (hP : ob_H b D cA t H) (hS : va_S (ob_A b) s.heap H locs) (hz : s.heap.size + cells = b + ob_n t) (hmx : mx ≤ 100000) (hcells : cells + 1 ≤ R.cells) (hslots : slots + mx ≤ R.slots) (hdg : decode cc pc = .ok (.newarray .int, 2)) (h : (ob_nA 12 mx x t).bind f = some out)
    (kk : ∀ (u : ob_S) (H : Heap), f u = some out → u = ob_new t 12 x.toNatClampNeg → ob_H b D cA u H → va_S (ob_A b) s.heap H locs → s.heap.size + (cells + 1) = b + ob_n u → W p l e R s m args below meth c H locs (cells + 1) (slots + mx) Q (F0 m (pc + 2) ls (.ref (b + ob_n t) :: rest))) : W p l e R s m args below meth c H locs cells slots Q (F0 m pc ls (.int x :: rest)) :=
  ob_newA (atype := .int) (fty := .int) (kd := 12) Cx hP hS hz (by decide) (by decide) rfl rfl (by decide) hmx rfl rfl ob_w_arI hcells hslots hdg h kk
theorem ob_newZ {mx : Nat} {x : Int32} {f : ob_S → Option g} (Cx : ob_C p R s m args meth c cc nL own rt b D cA adK adV fr lo) (hP : ob_H b D cA t H) (hS : va_S (ob_A b) s.heap H locs) (hz : s.heap.size + cells = b + ob_n t) (hmx : mx ≤ 100000) (hcells : cells + 1 ≤ R.cells) (hslots : slots + mx ≤ R.slots) (hdg : decode cc pc = .ok (.newarray .boolean, 2)) (h : (ob_nA 13 mx x t).bind f = some out)
    (kk : ∀ (u : ob_S) (H : Heap), f u = some out → u = ob_new t 13 x.toNatClampNeg → ob_H b D cA u H → va_S (ob_A b) s.heap H locs → s.heap.size + (cells + 1) = b + ob_n u → W p l e R s m args below meth c H locs (cells + 1) (slots + mx) Q (F0 m (pc + 2) ls (.ref (b + ob_n t) :: rest))) : W p l e R s m args below meth c H locs cells slots Q (F0 m pc ls (.int x :: rest)) :=
  ob_newA (atype := .boolean) (fty := .boolean) (kd := 13) Cx hP hS hz (by decide) (by decide) rfl rfl (by decide) hmx rfl rfl ob_w_arZ hcells hslots hdg h kk
/-- a row of references -/
theorem ob_newR {kd mx : Nat} {Cn : String} {x : Int32} {f : ob_S → Option g} (Cx : ob_C p R s m args meth c cc nL own rt b D cA adK adV fr lo) (hP : ob_H b D cA t H) (hS : va_S (ob_A b) s.heap H locs) (hz : s.heap.size + cells = b + ob_n t) (h14 : 14 ≤ kd) (hmx : mx ≤ 100000) (hk : (ob_ty cA)[kd - 12]? = some (cA (kd - 12), .object Cn)) (hcl : Cond.classLink own idx Cn ∈ ob_T) (hao : va_AO Cn s)
    (hcells : cells + 1 ≤ R.cells) (hslots : slots + mx ≤ R.slots) (hdg : decode cc pc = .ok (.anewarray idx, 3)) (h : (ob_nA kd mx x t).bind f = some out)
    (kk : ∀ (u : ob_S) (H : Heap), f u = some out → u = ob_new t kd x.toNatClampNeg → ob_H b D cA u H → va_S (ob_A b) s.heap H locs → s.heap.size + (cells + 1) = b + ob_n u → W p l e R s m args below meth c H locs (cells + 1) (slots + mx) Q (F0 m (pc + 3) ls (.ref (b + ob_n t) :: rest))) : W p l e R s m args below meth c H locs cells slots Q (F0 m pc ls (.int x :: rest)) := by
  obtain ⟨⟨hx, hb, -, hown, hts⟩, hE, -, -, -, hbs⟩ := Cx
  by_cases hg : ¬ x < 0 ∧ x.toNatClampNeg ≤ mx
  · rw [ob_nA, if_pos hg] at h
    refine ob_sz (fun hsz => ?_)
    have hge := ob_le hP (Nat.le_trans hbs hS.1)
    have hH : H.size = b + ob_n t := by omega
    refine W.anew hx hb hown (hts _ hcl) (va_AO.use hao) rfl hdg rfl hg.1 (by omega) hcells (by omega) fun cA1 kA comp f1 f2 f3 f4 => ?_
    refine W.widen (k := cells + 1) (n := slots + mx) (by omega) (by omega) ?_
    obtain ⟨kA2, comp2, -, -, -, g4⟩ := (hE.1.2 _ _ hk).2
    have hca : cA1 = cA (kd - 12) := Option.some.inj (f1.symm.trans g4)
    subst hca
    generalize hH1 : H.push ({ cls := cA (kd - 12), slots := Array.replicate x.toNatClampNeg .null, vm := .none } : Cell) = H1
    have z1 : H1.size = H.size + 1 := by rw [← hH1, Array.size_push]
    have e1 : H1[H.size]? = some (arrV (cA (kd - 12)) x.toNatClampNeg (fun _ => .null)) := by rw [← hH1, Array.getElem?_push_size, ← arrV_new]
    have o1 : ∀ q : Nat, q < b + ob_n t → H1[q]? = H[q]? := fun q hq => by rw [← hH1, Array.getElem?_push, if_neg (by omega)]
    rw [hH] at e1 ⊢
    refine kk _ H1 h rfl (ob_grow hP hH (ob_cel_newR h14) o1 (fun k y hy => ?_)) ⟨Nat.le_trans hS.1 (by omega), fun x h1 h2 => (o1 x (by rw [← hH]; exact Nat.lt_of_lt_of_le h1 hS.1)).trans (hS.2.1 x h1 h2), hS.2.2⟩ (by show s.heap.size + (cells + 1) = b + (ob_n t + 1); omega)
    have hz1 : k < 1 := (List.getElem?_eq_some_iff.mp hy).1
    rw [show k = 0 by omega] at hy
    cases hy
    show H1[b + ob_n t]? = some (vp_cell _ _)
    rw [vp_cell_q]
    exact e1
  · rw [ob_nA, if_neg hg] at h
    cases h
/-! fields, with the count -/
theorem ob_putIz {x : Int32} {f : ob_S → Option g} (hz : s.heap.size + cells = b + ob_n t) (Cx : ob_C p R s m args meth c cc nL own rt b D cA adK adV fr lo) (hP : ob_H b D cA t H) (hS : va_S (ob_A b) s.heap H locs) (ck : ob_ck ci C T N ty) (hf : (ob_fl ci)[k]? = some false) (hty : ty k = .int) (hfin : (T k).2.2.2 = false) (hl : Cond.fieldLink own idx (T k).1 (T k).2.1 (T k).2.2.1 ∈ ob_T) (hdg : decode cc pc = .ok (.putfield idx, 3)) (h : (ob_pI ci k n x t).bind f = some out)
    (kk : ∀ (t : ob_S) (H : Heap) (locs : List Loc), f t = some out → ob_H b D cA t H → va_S (ob_A b) s.heap H locs → s.heap.size + cells = b + ob_n t → W p l e R s m args below meth c H locs cells slots Q (F0 m (pc + 3) ls rest)) : W p l e R s m args below meth c H locs cells slots Q (F0 m pc ls (.int x :: .ref (b + n) :: rest)) := by
  obtain ⟨u, e1, h⟩ := ob_b_some h
  refine ob_putI (f := some) (out := u) Cx hP hS ck hf hty hfin hl hdg (by rw [e1]; rfl) (fun t1 H locs q hP hS => ?_)
  cases q
  exact kk u H locs h hP hS (by rw [ob_pI_n e1]; exact hz)
theorem ob_putZz {x : Int32} {f : ob_S → Option g} (hz : s.heap.size + cells = b + ob_n t) (Cx : ob_C p R s m args meth c cc nL own rt b D cA adK adV fr lo) (hP : ob_H b D cA t H) (hS : va_S (ob_A b) s.heap H locs) (ck : ob_ck ci C T N ty) (hf : (ob_fl ci)[k]? = some false) (hty : ty k = .boolean) (hfin : (T k).2.2.2 = false) (hl : Cond.fieldLink own idx (T k).1 (T k).2.1 (T k).2.2.1 ∈ ob_T) (hdg : decode cc pc = .ok (.putfield idx, 3)) (h : (ob_pZ ci k n x t).bind f = some out)
    (kk : ∀ (t : ob_S) (H : Heap) (locs : List Loc), f t = some out → ob_H b D cA t H → va_S (ob_A b) s.heap H locs → s.heap.size + cells = b + ob_n t → W p l e R s m args below meth c H locs cells slots Q (F0 m (pc + 3) ls rest)) : W p l e R s m args below meth c H locs cells slots Q (F0 m pc ls (.int x :: .ref (b + n) :: rest)) := by
  obtain ⟨u, e1, h⟩ := ob_b_some h
  refine ob_putZ (f := some) (out := u) Cx hP hS ck hf hty hfin hl hdg (by rw [e1]; rfl) (fun t1 H locs q hP hS => ?_)
  cases q
  exact kk u H locs h hP hS (by rw [ob_pZ_n e1]; exact hz)
theorem ob_astRz {kd : Nat} {i : Int32} {r : vw_C} {f : ob_S → Option g} (hz : s.heap.size + cells = b + ob_n t) (Cx : ob_C p R s m args meth c cc nL own rt b D cA adK adV fr lo) (hP : ob_H b D cA t H) (hS : va_S (ob_A b) s.heap H locs) (hkd : 14 ≤ kd) (h12 : ci < 12) (hc : ob_cl[ci]? = some r) (hty : (ob_ty cA)[kd - 12]? = some (cA (kd - 12), .object r.1)) (hdg : decode cc pc = .ok (.aastore, 1)) (h : (ob_wR kd ci n i q t).bind f = some out)
    (kk : ∀ (t : ob_S) (H : Heap) (locs : List Loc), f t = some out → ob_H b D cA t H → va_S (ob_A b) s.heap H locs → s.heap.size + cells = b + ob_n t → W p l e R s m args below meth c H locs cells slots Q (F0 m (pc + 1) ls rest)) : W p l e R s m args below meth c H locs cells slots Q (F0 m pc ls (.ref (b + q) :: .int i :: .ref (b + n) :: rest)) := by
  obtain ⟨u, e1, h⟩ := ob_b_some h
  refine ob_astR (f := some) (out := u) Cx hP hS hkd h12 hc hty hdg (by rw [e1]; rfl) (fun t1 H locs q hP hS => ?_)
  cases q
  exact kk u H locs h hP hS (by rw [ob_wR_n e1]; exact hz)
/-- a final field of the object under making -/
theorem ob_putVF {v : Value} {u : ob_S} (hin2 : meth.name = "<init>") (hdecl : (T k).1 = own) (Cx : ob_C p R s m args meth c cc nL own rt b D cA adK adV fr lo) (hP : ob_H b D cA t H) (hS : va_S (ob_A b) s.heap H locs) (ck : ob_ck ci C T N ty) (hk : k < N) (hfin : (T k).2.2.2 = true) (hl : Cond.fieldLink own idx (T k).1 (T k).2.1 (T k).2.2.1 ∈ ob_T) (hdg : decode cc pc = .ok (.putfield idx, 3)) (hg : n < ob_n t ∧ ob_k t n = ci) (hn : narrow (ty k) v = v) (hft : fits (ty k) v = true)
    (hu : ob_n u = ob_n t) (hc2 : ob_cel b cA u n = .inr (ci, (ob_row b (ob_fl ci) (ob_i t n) (ob_r t n)).set k v)) (ho : ∀ j, j ≠ n → ob_cel b cA u j = ob_cel b cA t j)
    (kk : ∀ (H : Heap) (locs : List Loc), ob_H b D cA u H → va_S (ob_A b) s.heap H locs → W p l e R s m args below meth c H locs cells slots Q (F0 m (pc + 3) ls rest)) : W p l e R s m args below meth c H locs cells slots Q (F0 m pc ls (v :: .ref (b + n) :: rest)) := by
  obtain ⟨⟨hx, hb, -, hown, hts⟩, hE, -⟩ := Cx
  obtain ⟨h12, hc, hin, hty, hnm, hlen⟩ := ck
  refine va_putF hx hb hts hin ty hty hnm hown hE.1 hP ob_ws_D hS n (ob_ws_obj hg.1 hg.2 h12) hc k hk (hts _ hl) (fun _ h9 => h9) hfin hin2 hdecl (hty k hk) hn hft (by rw [ob_row_len, hlen]; exact hk) hdg (fun H1 locs1 hP1 _ hS1 => ?_)
  rw [ob_ws_set hg.1 hu hc2 ho] at hP1
  exact kk H1 locs1 hP1 hS1
theorem ob_putFI {x : Int32} {f : ob_S → Option g} (hz : s.heap.size + cells = b + ob_n t) (hin2 : meth.name = "<init>") (hdecl : (T k).1 = own) (Cx : ob_C p R s m args meth c cc nL own rt b D cA adK adV fr lo) (hP : ob_H b D cA t H) (hS : va_S (ob_A b) s.heap H locs) (ck : ob_ck ci C T N ty) (hf : (ob_fl ci)[k]? = some false) (hty : ty k = .int) (hfin : (T k).2.2.2 = true) (hl : Cond.fieldLink own idx (T k).1 (T k).2.1 (T k).2.2.1 ∈ ob_T) (hdg : decode cc pc = .ok (.putfield idx, 3)) (h : (ob_pI ci k n x t).bind f = some out)
    (kk : ∀ (t : ob_S) (H : Heap) (locs : List Loc), f t = some out → ob_H b D cA t H → va_S (ob_A b) s.heap H locs → s.heap.size + cells = b + ob_n t → W p l e R s m args below meth c H locs cells slots Q (F0 m (pc + 3) ls rest)) : W p l e R s m args below meth c H locs cells slots Q (F0 m pc ls (.int x :: .ref (b + n) :: rest)) := by
  by_cases hg : n < ob_n t ∧ ob_k t n = ci
  · rw [ob_pI, if_pos hg] at h
    have hk : k < N := by rw [← ck.2.2.2.2.2]; exact (List.getElem?_eq_some_iff.mp hf).1
    exact ob_putVF (u := ob_setI t n k x) hin2 hdecl Cx hP hS ck hk hfin hl hdg hg (by rw [hty]; rfl) (by rw [hty]; rfl) rfl (ob_cel_setI hg.2 ck.1 hf) (fun j hj => ob_cel_setI_ne hj) (fun H1 locs1 hP1 hS1 => kk _ H1 locs1 h hP1 hS1 hz)
  · rw [ob_pI, if_neg hg] at h
    cases h
theorem ob_putFR {q : Nat} {f : ob_S → Option g} (hz : s.heap.size + cells = b + ob_n t) (hin2 : meth.name = "<init>") (hdecl : (T k).1 = own) (Cx : ob_C p R s m args meth c cc nL own rt b D cA adK adV fr lo) (hP : ob_H b D cA t H) (hS : va_S (ob_A b) s.heap H locs) (ck : ob_ck ci C T N ty) (hf : (ob_fl ci)[k]? = some true) (hn : narrow (ty k) (.ref (b + q)) = .ref (b + q)) (hft : fits (ty k) (.ref (b + q)) = true) (hfin : (T k).2.2.2 = true) (hl : Cond.fieldLink own idx (T k).1 (T k).2.1 (T k).2.2.1 ∈ ob_T) (hdg : decode cc pc = .ok (.putfield idx, 3)) (h : (ob_pR ci k n q t).bind f = some out)
    (kk : ∀ (t : ob_S) (H : Heap) (locs : List Loc), f t = some out → ob_H b D cA t H → va_S (ob_A b) s.heap H locs → s.heap.size + cells = b + ob_n t → W p l e R s m args below meth c H locs cells slots Q (F0 m (pc + 3) ls rest)) : W p l e R s m args below meth c H locs cells slots Q (F0 m pc ls (.ref (b + q) :: .ref (b + n) :: rest)) := by
  by_cases hg : n < ob_n t ∧ ob_k t n = ci
  · rw [ob_pR, if_pos hg] at h
    have hk : k < N := by rw [← ck.2.2.2.2.2]; exact (List.getElem?_eq_some_iff.mp hf).1
    exact ob_putVF (u := ob_setR t n k (some q)) hin2 hdecl Cx hP hS ck hk hfin hl hdg hg hn hft rfl (ob_cel_setR hg.2 ck.1 hf) (fun j hj => ob_cel_setR_ne hj) (fun H1 locs1 hP1 hS1 => kk _ H1 locs1 h hP1 hS1 hz)
  · rw [ob_pR, if_neg hg] at h
    cases h
theorem ob_oinit (Cx : ob_C p R s m args meth c cc nL own rt b D cA adK adV fr lo) (hn : ls.size = nL) (hfr : 1 ≤ fr) (hlo : (rest.map fun v => v.category).sum + 12 ≤ lo) (hl : Cond.methodLink own idx objectInit ∈ ob_T) {a : Nat} (hdg : decode cc pc = .ok (.invokespecial idx, 3)) (kk : W p l e R s m args below meth c H locs cells slots Q (F0 m (pc + 3) ls rest)) : W p l e R s m args below meth c H locs cells slots Q (F0 m pc ls (.ref a :: rest)) := by
  obtain ⟨⟨hx, hb, hml, hown, hts⟩, hE, -, -, hR, -⟩ := Cx
  exact W.objInit hx hb hown (hts _ hl) (hts _ ob_w_ois) (hts _ ob_w_oic) rfl (hn.trans hml.symm) rfl hdg (Nat.le_trans hfr hR.1) (by show 2 * 0 + _ + 12 ≤ _; omega) kk
end OBN
/-! a constructor's contract -/
def ob_PreC (b : Nat) (D : va_G) (cA : Nat → ClassId) (adK adV : Nat → Nat) (av : List Value) (t : ob_S) : Array Value → State → Prop := va_Pc av (fun U => ob_H b D cA t U.heap ∧ ob_E b D cA adK adV U U.heap ∧ b ≤ U.heap.size ∧ U.heap.size = b + ob_n t)
def ob_QC (b : Nat) (D : va_G) (cA : Nat → ClassId) (z : Nat) (o : ob_S) : Array Value → State → Outcome → State → Prop := va_Qv (fun u : ob_S => u = o ∧ ob_n u = z) (fun u T => ob_H b D cA u T.heap) (ob_A b)
theorem ob_blindC {b : Nat} {D : va_G} {cA : Nat → ClassId} {adK adV : Nat → Nat} {av : List Value} {t : ob_S} : FrameBlind (ob_PreC b D cA adK adV av t) := fun a U g mk q => ⟨q.1, q.2.1, ob_E.same (s := U) (U := U.calling g mk a) rfl q.2.2.1, q.2.2.2⟩
def ob_mi (y : MethodName) (bytes : ByteArray) (maxL : Nat) : Prop := Cond.code y bytes maxL none ∈ ob_T ∧ Cond.instanceMethod y ∈ ob_T ∧ Cond.initialized y.cls ∈ ob_T ∧ y.name = "<init>" ∧ y.cls ≠ "java/lang/invoke/MethodHandle" ∧ y.cls ≠ "java/lang/invoke/VarHandle"
section OBM
variable {p : Program} {l : Launch} {e : Env} {R : Room} {s : State} {m : MethodId} {args : Array Value} {below : List Frame} {meth : Method} {c : Code} {H : Heap} {locs : List Loc} {cells slots : Nat} {Q : State → Prop}
variable {cc : ByteArray} {nL : Nat} {own : String} {rt : Option FieldType} {b : Nat} {D : va_G} {cA : Nat → ClassId} {adK adV : Nat → Nat} {fr lo : Nat} {t : ob_S} {pc : Nat} {ls : Array Slot} {rest st0 : List Value}
variable {g : Type} {out : g} {n q idx nA mc ms maxL : Nat} {y : MethodName} {bytes : ByteArray} {rm : Room} {As : List Value}
theorem ob_cI {oX : Option ob_S} {f : ob_S → Option g} (hz : s.heap.size + cells = b + ob_n t) (Cx : ob_C p R s m args meth c cc nL own rt b D cA adK adV fr lo) (hn : ls.size = nL) (hP : ob_H b D cA t H) (hS : va_S (ob_A b) s.heap H locs) (hM : ∀ o, oX = some o → Met l y (Cond.code y bytes maxL none :: ob_T) rm (ob_PreC b D cA adK adV (.ref (b + n) :: As) t) (ob_QC b D cA (ob_n t + mc) o) mc ms (ob_A b))
    (hy : ob_mi y bytes maxL) (hl : Cond.methodLink own idx y ∈ ob_T) (hA : As.length = nA) (hd : (parseMethodDescriptor y.desc).map (fun d => d.parameters.length) = some nA) (hrm : rm.cells = mc ∧ rm.slots = ms) (hr : rm.frames + 1 ≤ fr ∧ 8 + (maxL + 11) + rm.locals ≤ lo) (hcs : cells + mc ≤ R.cells ∧ slots + ms ≤ R.slots) (hst : (rest.map fun v => v.category).sum ≤ 8) (hs0 : st0 = As.reverse ++ .ref (b + n) :: rest) (hdg : decode cc pc = .ok (.invokespecial idx, 3)) (h : oX.bind f = some out)
    (kk : ∀ (u : ob_S) (H : Heap) (locs : List Loc), f u = some out → ob_H b D cA u H → va_S (ob_A b) s.heap H locs → s.heap.size + (cells + mc) = b + ob_n u → W p l e R s m args below meth c H locs (cells + mc) (slots + ms) Q (F0 m (pc + 3) ls rest)) : W p l e R s m args below meth c H locs cells slots Q (F0 m pc ls st0) := by
  obtain ⟨u, ho, h⟩ := ob_b_some h
  have Cy := Cx
  obtain ⟨hF, hE, -, -, hR, hbs⟩ := Cy
  subst hs0
  refine ob_sz (fun hsz => ?_)
  have hge := ob_le hP (Nat.le_trans hbs hS.1)
  have hH : H.size = b + ob_n t := by omega
  have hpre : ∀ U : State, U.heap = H → s.WarmedH U.vm → ob_PreC b D cA adK adV (.ref (b + n) :: As) t (Value.ref (b + n) :: As).toArray U := fun U hU hW => ⟨rfl, by rw [hU]; exact hP, by rw [hU]; exact (hE.kept hS.2.1).warm hW, by rw [hU, hH]; exact Nat.le_add_right _ _, by rw [hU, hH]⟩
  refine va_callv (va_runI (As := As) (rest := rest) hF (hM _ ho) (cwI nA hF.2.2.2.2 (ob_goodC hy.1) rfl hrm.1 hrm.2 (hF.2.2.2.2 _ hy.2.2.1) (hF.2.2.2.2 _ hl) (hF.2.2.2.2 _ hy.2.1) hy.2.2.2.1 ⟨hy.2.2.2.2.1, hy.2.2.2.2.2, hd⟩ ⟨Nat.le_trans hr.1 hR.1, Nat.le_trans hr.2 hR.2⟩) ⟨ob_blindC, hpre⟩ rfl hA hn rfl (lv_room hst) hdg hcs) hS (fun _ _ z => z) (fun _ z => z) (fun u1 T1 H1 locs1 ht _ hw hB _ _ hS1 => ?_)
  obtain ⟨rfl, hw2⟩ := hw
  rw [ht] at hB
  exact kk u1 H1 locs1 h hB hS1 (by rw [hw2]; omega)
theorem ob_vretC {o : ob_S} {z mc ms : Nat} (hz : s.heap.size + cells = b + ob_n t) (hz0 : s.heap.size = b + z) (hc : cells = mc) (hs : slots ≤ ms) (Cx : ob_C p R s m args meth c cc nL own none b D cA adK adV fr lo) (hP : ob_H b D cA t H) (hS : va_S (ob_A b) s.heap H locs) (hdg : decode cc pc = .ok (.return_, 1)) (h : some t = some o) : W p l e R s m args below meth c H locs cells slots (MQ below (ob_QC b D cA (z + mc) o) args s mc ms (ob_A b)) (F0 m pc ls []) := by
  obtain ⟨hF, hE, hrt, hlk, hR, hbs⟩ := Cx
  cases h
  refine W.widen (k := mc) (n := ms) (by omega) hs ?_
  exact W.vret hF.1 hF.2.1 hrt (fun T ht _ => ⟨⟨t, rfl, ⟨rfl, by omega⟩, by show ob_H b D cA t T.heap; rw [ht]; exact hP⟩, hS.F ht⟩) hS.2.2 hdg (hlocks := hlk)
end OBM
theorem ob_metC {l : Launch} {y : MethodName} {cc : ByteArray} {maxL fr lo mc ms : Nat} {b : Nat} {D : va_G} {cA : Nat → ClassId} {adK adV : Nat → Nat} {av : List Value} {t : ob_S} {Qc : Array Value → State → Outcome → State → Prop} (hy : plainName y.cls = true) (hyn : y.name = "<init>") (hav : (lg_sl av).length ≤ maxL)
    (body : ∀ (p : Program) (e : Env) (R : Room) (s : State) (m : MethodId) (args : Array Value) (below : List Frame) (meth : Method) (c : Code) (ls : Array Slot), ob_C p R s m args meth c cc maxL y.cls none b D cA adK adV fr lo → meth.name = "<init>" → mc ≤ R.cells ∧ ms ≤ R.slots → s.heap.size + 0 = b + ob_n t → ob_H b D cA t s.heap → va_S (ob_A b) s.heap s.heap [] → lv_has ls maxL (lv_args 0 av) → W p l e R s m args below meth c s.heap [] 0 0 (MQ below Qc args s mc ms (ob_A b)) (F0 m 0 ls [])) :
    Met l y (Cond.code y cc maxL none :: ob_T) { frames := fr, cells := mc, slots := ms, locals := lo } (ob_PreC b D cA adK adV av t) Qc mc ms (ob_A b) := by
  refine Met.ofW (cc := cc) (maxL := maxL) (ret := none) hy rfl ?_
  intro p e s m args below meth c s₁ B hml hv
  obtain ⟨rfl, hP, hE, hbs, hz⟩ := hv
  have hts0 := atoms_spec (ws := Cond.code y cc maxL none :: ob_T) B.pre
  have hin : meth.name = "<init>" := (name_of_methodNamed B.named B.method).1.trans hyn
  have hl := lv_entry av (n := maxL) hav
  rw [lg_entry_eq]
  exact body p e _ s m _ below meth c _ ⟨⟨B.exec, B.bytes, hml, findClass_of_methodNamed B.named, fun w h => hts0 w (List.mem_cons_of_mem _ h)⟩, hE, B.returns, B.notSynchronized, ⟨Nat.le_refl _, Nat.le_refl _⟩, hbs⟩ hin ⟨Nat.le_refl _, Nat.le_refl _⟩ hz hP va_S.rf hl
/-! the law's calls -/
section OBW
variable {p : Program} {l : Launch} {e : Env} {R : Room} {s : State} {m : MethodId} {args : Array Value} {below : List Frame} {meth : Method} {c : Code} {H : Heap} {locs : List Loc} {cells slots : Nat} {Q : State → Prop}
variable {cc : ByteArray} {nL : Nat} {own : String} {rt : Option FieldType} {b : Nat} {D : va_G} {cA : Nat → ClassId} {adK adV : Nat → Nat} {fr lo : Nat} {t : ob_S} {pc : Nat} {ls : Array Slot} {rest st0 : List Value}
variable {n ci idx nA maxL : Nat} {y : MethodName} {bytes : ByteArray} {rm : Room} {As : List Value} {r : vw_C} {ret : FieldType}
theorem ob_lVi {x0 : Int32} {u0 : ob_S} (Cx : ob_C p R s m args meth c cc nL own rt b D cA adK adV fr lo) (hn : ls.size = nL) (hP : ob_H b D cA t H) (hS : va_S (ob_A b) s.heap H locs) (hM : Met l y (Cond.code y bytes maxL (some ret) :: ob_T) rm (ob_Pre b D cA adK adV (.ref (b + n) :: As) t) (ob_Qi b D cA (x0, u0)) 0 0 (ob_A b))
    (hrv : n < ob_n t ∧ ob_k t n = ci) (h12 : ci < 12) (hc : ob_cl[ci]? = some r) (hy : ob_mv y r.1 bytes maxL (some ret)) (hl : Cond.methodLink own idx y ∈ ob_T) (hA : As.length = nA) (hd : (parseMethodDescriptor y.desc).map (fun d => d.parameters.length) = some nA) (hrm : rm.cells = 0 ∧ rm.slots = 0) (hr : rm.frames + 1 ≤ fr ∧ 8 + (maxL + 11) + rm.locals ≤ lo) (hcs : cells ≤ R.cells ∧ slots ≤ R.slots) (hst : (rest.map fun v => v.category).sum ≤ 8) (hs0 : st0 = As.reverse ++ .ref (b + n) :: rest) (hdg : decode cc pc = .ok (.invokevirtual idx, 3))
    (kk : ∀ (H : Heap) (locs : List Loc), ob_H b D cA u0 H → va_S (ob_A b) s.heap H locs → W p l e R s m args below meth c H locs cells slots Q (F0 m (pc + 3) ls (.int x0 :: rest))) : W p l e R s m args below meth c H locs cells slots Q (F0 m pc ls st0) := by
  obtain ⟨g1, g2⟩ := hrv
  have Cy := Cx
  obtain ⟨hF, hE, -, -, hR, -⟩ := Cy
  subst hs0
  refine va_calli (va_runV (As := As) (rest := rest) hF hM (cwV nA hF.2.2.2.2 (ob_goodV hy hl) rfl hrm.1 hrm.2 ⟨hy.2.2.2.2.1, hy.2.2.2.2.2.1, hy.2.2.2.2.2.2, hd⟩ ⟨Nat.le_trans hr.1 hR.1, Nat.le_trans hr.2 hR.2⟩) ⟨ob_blind, va_recv hE.1 hP hc (ob_ws_obj g1 g2 h12), ob_pre Cx hP hS⟩ rfl hA hn rfl (lv_room hst) hdg hcs) hS (fun _ _ z => z) (fun _ z => z) (fun x1 u1 T1 H1 locs1 ht _ hw hB _ _ hS1 => ?_)
  cases hw
  rw [ht] at hB
  exact kk H1 locs1 hB hS1
end OBW
