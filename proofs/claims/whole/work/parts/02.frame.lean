/-! ===== a store of numbers, a plan of cells, and methods walked by closed predicates ===== -/
/-- the numbers of all cells: by the cell's place in the plan and the slot; ints (and what is held as int), longs -/
abbrev px_St : Type := (Nat → Nat → Int32) × (Nat → Nat → Int64)
/-- a plan: how many cells; each one's kind and length (0 ints, 1 bytes, 2 booleans, 3 and 4 rows of objects, 10 + c an object of class c); an object's fields; what a row of objects holds -/
abbrev px_D : Type := Nat × (Nat → Nat × Nat) × (Nat → (Nat → Int32) → (Nat → Int64) → Nat → List Value) × (Nat → Nat → Nat)
abbrev px_L : Type := List (Option Value)
abbrev px_K : Type := Nat → px_L → List Value → px_St → Prop
abbrev px_Op : Type := px_L → List Value → px_St → px_K → Prop
/-- a method's own: code, locals, class, words, answer's type, room, plan -/
abbrev px_Z : Type := ByteArray × Nat × String × List Cond × Option FieldType × Room × px_D
def px_cv (q : Nat → Nat) : Value → Value
  | .ref k => .ref (q k)
  | .int x => .int x
  | .long x => .long x
  | .float x => .float x
  | .double x => .double x
  | .null => .null
  | .retAddr x => .retAddr x
theorem px_cv_cat (q : Nat → Nat) (v : Value) : (px_cv q v).category = v.category := by cases v <;> rfl
def px_cell (d : px_D) (cA : Nat → ClassId) (q : Nat → Nat) (σ : px_St) (k : Nat) : va_E :=
  if (d.2.1 k).1 < 3 then .inl (cA (d.2.1 k).1, (d.2.1 k).2, .inl (σ.1 k))
  else if (d.2.1 k).1 < 10 then .inl (cA (d.2.1 k).1, (d.2.1 k).2, .inr (.inr (.inr (.inr (fun i => some (q (d.2.2.2 k i)))))))
  else .inr ((d.2.1 k).1 - 10, (d.2.2.1 ((d.2.1 k).1 - 10) (σ.1 k) (σ.2 k) k).map (px_cv q))
def px_w (d : px_D) (cA : Nat → ClassId) (q : Nat → Nat) (σ : px_St) : va_W := (List.range d.1).map (fun k => (q k, px_cell d cA q σ k))
theorem px_w_get {d : px_D} {cA : Nat → ClassId} {q : Nat → Nat} {σ : px_St} {k : Nat} (h : k < d.1) : (px_w d cA q σ)[k]? = some (q k, px_cell d cA q σ k) := by
  unfold px_w
  rw [List.getElem?_map, List.getElem?_range h]
  rfl
theorem px_w_at {d : px_D} {cA : Nat → ClassId} {q : Nat → Nat} {σ : px_St} {k : Nat} {x : Nat × va_E} (h : (px_w d cA q σ)[k]? = some x) : k < d.1 ∧ x = (q k, px_cell d cA q σ k) := by
  have hl : k < d.1 := by
    have h1 := (List.getElem?_eq_some_iff.mp h).1
    unfold px_w at h1
    rw [List.length_map, List.length_range] at h1
    exact h1
  rw [px_w_get hl] at h
  exact ⟨hl, (Option.some.inj h).symm⟩
theorem px_D_any {d : px_D} {cA : Nat → ClassId} {q : Nat → Nat} {A : Nat → Prop} {σ σ' : px_St} (h : va_D A (px_w d cA q σ)) : va_D A (px_w d cA q σ') := by
  refine ⟨fun i j x y hi hj hxy => ?_, fun k x hk => ?_⟩
  · obtain ⟨hil, rfl⟩ := px_w_at hi
    obtain ⟨hjl, rfl⟩ := px_w_at hj
    exact h.1 i j _ _ (px_w_get hil) (px_w_get hjl) hxy
  · obtain ⟨hkl, rfl⟩ := px_w_at hk
    have h2 := h.2 k _ (px_w_get (cA := cA) (q := q) (σ := σ) hkl)
    exact h2
theorem px_A_any {d : px_D} {cA : Nat → ClassId} {q : Nat → Nat} {sz : Nat} {σ σ' : px_St} {x : Nat} (h : va_A (px_w d cA q σ) sz x) : va_A (px_w d cA q σ') sz x := by
  rcases h with ⟨k, e, hk⟩ | h
  · obtain ⟨hkl, he⟩ := px_w_at hk
    have e1 : x = q k := congrArg Prod.fst he
    subst e1
    exact Or.inl ⟨k, _, px_w_get hkl⟩
  · exact Or.inr h
theorem px_w_set {d : px_D} {cA : Nat → ClassId} {q : Nat → Nat} {σ σ' : px_St} {k : Nat} {e : va_E} (he : e = px_cell d cA q σ' k) (ho : ∀ j, j ≠ k → px_cell d cA q σ' j = px_cell d cA q σ j) : (px_w d cA q σ).set k (q k, e) = px_w d cA q σ' := by
  apply List.ext_getElem?
  intro i
  by_cases hik : i = k
  · subst hik
    by_cases hl : i < d.1
    · rw [List.getElem?_set_self (by unfold px_w; rw [List.length_map, List.length_range]; exact hl), px_w_get hl, he]
    · rw [List.getElem?_eq_none (by rw [List.length_set]; unfold px_w; rw [List.length_map, List.length_range]; omega), List.getElem?_eq_none (by unfold px_w; rw [List.length_map, List.length_range]; omega)]
  · rw [List.getElem?_set_ne (Ne.symm hik)]
    by_cases hl : i < d.1
    · rw [px_w_get hl, px_w_get hl, ho i hik]
    · rw [List.getElem?_eq_none (by unfold px_w; rw [List.length_map, List.length_range]; omega), List.getElem?_eq_none (by unfold px_w; rw [List.length_map, List.length_range]; omega)]
/-- one int of one cell is set -/
def px_up (σ : px_St) (k j : Nat) (x : Int32) : px_St := (fun k' => if k' = k then upd (σ.1 k) j x else σ.1 k', σ.2)
def px_upl (σ : px_St) (k j : Nat) (x : Int64) : px_St := (σ.1, fun k' => if k' = k then vp_updL (σ.2 k) j x else σ.2 k')
/-- a stretch of one row comes into another -/
def px_cpy (σ : px_St) (k0 k1 sp dp n : Nat) : px_St := (fun k' => if k' = k1 then va_cpy (σ.1 k0) (σ.1 k1) sp dp n else σ.1 k', σ.2)
theorem px_up_s (σ : px_St) (k j : Nat) (x : Int32) : (px_up σ k j x).1 k = upd (σ.1 k) j x := by simp [px_up]
theorem px_up_n {σ : px_St} {k j k' : Nat} {x : Int32} (h : k' ≠ k) : (px_up σ k j x).1 k' = σ.1 k' := by simp [px_up, h]
theorem px_cell_arr {d : px_D} {cA : Nat → ClassId} {q : Nat → Nat} {σ : px_St} {k t : Nat} (ht : t < 3) (h : (d.2.1 k).1 = t) : px_cell d cA q σ k = .inl (cA t, (d.2.1 k).2, .inl (σ.1 k)) := by
  unfold px_cell
  rw [if_pos (by omega), h]
theorem px_cell_row {d : px_D} {cA : Nat → ClassId} {q : Nat → Nat} {σ : px_St} {k t : Nat} (ht : ¬ t < 3) (ht2 : t < 10) (h : (d.2.1 k).1 = t) : px_cell d cA q σ k = .inl (cA t, (d.2.1 k).2, .inr (.inr (.inr (.inr (fun i => some (q (d.2.2.2 k i))))))) := by
  unfold px_cell
  rw [if_neg (by omega), if_pos (by omega), h]
theorem px_cell_obj {d : px_D} {cA : Nat → ClassId} {q : Nat → Nat} {σ : px_St} {k ci : Nat} (h : (d.2.1 k).1 = 10 + ci) : px_cell d cA q σ k = .inr (ci, (d.2.2.1 ci (σ.1 k) (σ.2 k) k).map (px_cv q)) := by
  unfold px_cell
  rw [if_neg (by omega), if_neg (by omega), h, show 10 + ci - 10 = ci by omega]
theorem px_cell_same {d : px_D} {cA : Nat → ClassId} {q : Nat → Nat} {σ σ' : px_St} {j : Nat} (h1 : σ'.1 j = σ.1 j) (h2 : σ'.2 j = σ.2 j) : px_cell d cA q σ' j = px_cell d cA q σ j := by
  unfold px_cell
  rw [h1, h2]
def px_tys (cA : Nat → ClassId) : List (ClassId × FieldType) := [(cA 0, .int), (cA 1, .byte), (cA 2, .boolean), (cA 3, .object "ParrotHeirs$Image"), (cA 4, .object "ParrotHeirs$Sheet")]
/-- the locals that are known, by their places -/
def px_lv (q : Nat → Nat) : Nat → px_L → List (Nat × Value)
  | _, [] => []
  | i, none :: L => px_lv q (i + 1) L
  | i, some v :: L => (i, px_cv q v) :: px_lv q (i + 1) L
theorem px_lv_mem (q : Nat → Nat) : ∀ (L : px_L) (i : Nat) (x : Nat × Value), x ∈ px_lv q i L ↔ ∃ (j : Nat) (v : Value), L[j]? = some (some v) ∧ x = (i + j, px_cv q v)
  | [], i, x => by simp [px_lv]
  | none :: L, i, x => by
    rw [px_lv, px_lv_mem q L (i + 1) x]
    constructor
    · rintro ⟨j, v, h, rfl⟩
      exact ⟨j + 1, v, by simpa using h, by rw [show i + 1 + j = i + (j + 1) by omega]⟩
    · rintro ⟨j, v, h, rfl⟩
      cases j with
      | zero => simp at h
      | succ j => exact ⟨j, v, by simpa using h, by rw [show i + 1 + j = i + (j + 1) by omega]⟩
  | some w :: L, i, x => by
    rw [px_lv, List.mem_cons, px_lv_mem q L (i + 1) x]
    constructor
    · rintro (rfl | ⟨j, v, h, rfl⟩)
      · exact ⟨0, w, by simp, by simp⟩
      · exact ⟨j + 1, v, by simpa using h, by rw [show i + 1 + j = i + (j + 1) by omega]⟩
    · rintro ⟨j, v, h, rfl⟩
      cases j with
      | zero =>
        simp at h
        subst h
        exact Or.inl (by simp)
      | succ j => exact Or.inr ⟨j, v, by simpa using h, by rw [show i + 1 + j = i + (j + 1) by omega]⟩
theorem px_lv_at {q : Nat → Nat} {ls : Array Slot} {nL : Nat} {L : px_L} (h : lv_has ls nL (px_lv q 0 L)) {i : Nat} {v : Value} (hi : L[i]? = some (some v)) : ls[i]? = some (.val (px_cv q v)) :=
  h.2.2 (i, px_cv q v) ((px_lv_mem q L 0 _).mpr ⟨i, v, hi, by simp⟩)
def px_c1 : Option Value → Option Value
  | some (.long _) => none
  | some (.double _) => none
  | v => v
theorem px_c1_some {o : Option Value} {v : Value} (h : px_c1 o = some v) : o = some v ∧ v.category = 1 := by
  cases o with
  | none => simp [px_c1] at h
  | some w => cases w <;> simp [px_c1] at h <;> (subst h; exact ⟨rfl, rfl⟩)
/-- a value of one word comes into a place -/
def px_set (L : px_L) : Nat → Value → px_L
  | 0, v => L.set 0 (some v)
  | j + 1, v => (L.set j (px_c1 (L.getD j none))).set (j + 1) (some v)
/-- a value of two words -/
def px_set2 (L : px_L) (i : Nat) (v : Value) : px_L := (px_set L i v).set (i + 1) none
theorem px_set_get {L : px_L} {i j : Nat} {v w : Value} (h : (px_set L i v)[j]? = some (some w)) : (j = i ∧ w = v) ∨ (j ≠ i ∧ L[j]? = some (some w) ∧ (j + 1 = i → w.category = 1)) := by
  cases i with
  | zero =>
    rw [px_set, List.getElem?_set] at h
    by_cases hj : 0 = j
    · subst hj
      simp at h
      exact Or.inl ⟨rfl, h.2.symm⟩
    · rw [if_neg hj] at h
      exact Or.inr ⟨fun z => hj z.symm, h, fun z => by omega⟩
  | succ i =>
    rw [px_set, List.getElem?_set] at h
    by_cases hj : i + 1 = j
    · subst hj
      simp at h
      exact Or.inl ⟨rfl, h.2.symm⟩
    · rw [if_neg hj, List.getElem?_set] at h
      refine Or.inr ⟨fun z => hj z.symm, ?_⟩
      by_cases hi : i = j
      · subst hi
        simp at h
        obtain ⟨hl, h⟩ := h
        obtain ⟨h1, h2⟩ := px_c1_some h
        refine ⟨?_, fun _ => h2⟩
        rw [List.getElem?_eq_getElem hl] at h1 ⊢
        simpa using h1
      · rw [if_neg hi] at h
        exact ⟨h, fun z => by omega⟩
theorem px_set_has {q : Nat → Nat} {ls : Array Slot} {nL : Nat} {L : px_L} {i : Nat} {v : Value} (h : lv_has ls nL ((i, px_cv q v) :: (px_lv q 0 L).filter (fun x => !(x.1 == i) && !(x.1 + 1 == i && x.2.category == 2)))) : lv_has ls nL (px_lv q 0 (px_set L i v)) := by
  refine ⟨h.1, h.2.1, fun x hx => ?_⟩
  obtain ⟨j, w, hj, rfl⟩ := (px_lv_mem q _ 0 x).mp hx
  rw [Nat.zero_add]
  rcases px_set_get hj with ⟨rfl, rfl⟩ | ⟨h1, h2, h3⟩
  · exact h.2.2 _ List.mem_cons_self
  · refine h.2.2 (j, px_cv q w) (List.mem_cons_of_mem _ (List.mem_filter.mpr ⟨(px_lv_mem q L 0 _).mpr ⟨j, w, h2, by simp⟩, ?_⟩))
    by_cases h4 : j + 1 = i
    · simp [h1, px_cv_cat, h3 h4]
    · simp [h1, h4]
theorem px_set2_has {q : Nat → Nat} {ls : Array Slot} {nL : Nat} {L : px_L} {i : Nat} {v : Value} (h : lv_has ls nL ((i, px_cv q v) :: (px_lv q 0 L).filter (fun x => !(x.1 == i) && (!(x.1 == i + 1) && !(x.1 + 1 == i && x.2.category == 2))))) : lv_has ls nL (px_lv q 0 (px_set2 L i v)) := by
  refine ⟨h.1, h.2.1, fun x hx => ?_⟩
  obtain ⟨j, w, hj, rfl⟩ := (px_lv_mem q _ 0 x).mp hx
  rw [Nat.zero_add]
  rw [px_set2, List.getElem?_set] at hj
  by_cases hj1 : i + 1 = j
  · subst hj1
    simp at hj
  · rw [if_neg hj1] at hj
    rcases px_set_get hj with ⟨rfl, rfl⟩ | ⟨h1, h2, h3⟩
    · exact h.2.2 _ List.mem_cons_self
    · refine h.2.2 (j, px_cv q w) (List.mem_cons_of_mem _ (List.mem_filter.mpr ⟨(px_lv_mem q L 0 _).mpr ⟨j, w, h2, by simp⟩, ?_⟩))
      have h5 : ¬ j = i + 1 := fun z => hj1 z.symm
      by_cases h4 : j + 1 = i
      · simp [h1, h5, px_cv_cat, h3 h4]
      · simp [h1, h4, h5]
def px_args : List Value → px_L
  | [] => []
  | v :: vs => if v.category = 2 then some v :: none :: px_args vs else some v :: px_args vs
def px_ent (nL : Nat) (As : List Value) : px_L := px_args As ++ List.replicate (nL - (px_args As).length) none
theorem px_args_len (q : Nat → Nat) (As : List Value) : (lg_sl (As.map (px_cv q))).length = (px_args As).length := by
  induction As with
  | nil => rfl
  | cons v vs ih =>
    unfold lg_sl at ih ⊢
    rw [List.map_cons, List.flatMap_cons, List.length_append, ih, px_args, px_cv_cat]
    by_cases h : v.category = 2
    · simp [h]; omega
    · simp [h]; omega
theorem px_args_lv (q : Nat → Nat) (n : Nat) : ∀ (As : List Value) (i : Nat), px_lv q i (px_args As ++ List.replicate n none) = lv_args i (As.map (px_cv q))
  | [], i => by
    have hz : ∀ (n i : Nat), px_lv q i (List.replicate n none) = [] := by
      intro n
      induction n with
      | zero => intro i; rfl
      | succ n ih => intro i; rw [List.replicate_succ, px_lv, ih]
    rw [px_args, List.nil_append, hz]
    rfl
  | v :: vs, i => by
    rw [List.map_cons, lv_args, px_cv_cat, px_args]
    by_cases h : v.category = 2
    · rw [if_pos h, if_pos h, List.cons_append, List.cons_append, px_lv, px_lv, px_args_lv q n vs]
    · rw [if_neg h, if_neg h, List.cons_append, px_lv, px_args_lv q n vs]
/-- the links to the outer class's private methods that a nested class takes -/
def px_nn (U : State) : Prop := va_Nw (.methodLinkNest RX4 75 yX5_isWithin RX5) U ∧ va_Nw (.methodLinkNest RX4 92 yX5_isSound RX5) U
/-- the five words: lengths, letters, places and texts; word i is the object 100 + i, its letters are the row 200 + i -/
def snL : List Nat := [5, 3, 5, 3, 3]
def snB : List (List Int32) := [[112, 108, 97, 105, 110], [111, 108, 100], [121, 111, 117, 110, 103], [115, 108, 121], [101, 97, 114]]
def snK : List (Nat × String) := [(112, "plain"), (118, "old"), (120, "young"), (122, "sly"), (124, "ear")]
/-- a static of the machine's own of which only 'an object or none' is known -/
def px_zf (q : Nat → Nat) (A : Nat → Prop) (U : State) (H : Heap) : Prop := va_Z "jdk/internal/util/Preconditions" "SIOOBE_FORMATTER" "Ljava/util/function/BiFunction;" .null A U H ∨ va_Z "jdk/internal/util/Preconditions" "SIOOBE_FORMATTER" "Ljava/util/function/BiFunction;" (.ref (q 300)) A U H
def px_sx (q : Nat → Nat) (A : Nat → Prop) (U : State) (H : Heap) : Prop := vk_S 5 snL snB (fun i => q (100 + i)) (fun i => q (200 + i)) A U H ∧ (va_Z "java/lang/String" "COMPACT_STRINGS" "Z" (.int 1) A U H ∧ px_zf q A U H) ∧ ∀ i : Nat, i < 5 → vk_R RX4 (snK.getD i (0, "")).1 (snK.getD i (0, "")).2 (q (100 + i)) U
def px_nw (q : Nat → Nat) (A : Nat → Prop) (U : State) : Prop := px_nn U ∧ px_sx q A U U.heap
theorem px_nw.moved {q : Nat → Nat} {A B : Nat → Prop} {s U : State} {H : Heap} {locs : List Loc} (hW : s.WarmedH U.vm) (hU : U.heap = H) (hS : va_S A s.heap H locs) (hF : ∀ x, B x → A x) (h : px_nw q A s) : px_nw q B U := by
  obtain ⟨⟨h1, h2⟩, h3, ⟨h4, h6⟩, h5⟩ := h
  refine ⟨⟨va_Nw.warmM hW h1, va_Nw.warmM hW h2⟩, ?_, ⟨?_, ?_⟩, fun i hi => (h5 i hi).warm hW⟩
  · rw [hU]
    exact ((h3.moved hW.alike).kept hS.2.1).narrow hF
  · rw [hU]
    exact ((h4.moved hW.alike).kept hS.2.1).narrow hF
  · rw [hU]
    rcases h6 with h6 | h6
    · exact Or.inl (((h6.moved hW.alike).kept hS.2.1).narrow hF)
    · exact Or.inr (((h6.moved hW.alike).kept hS.2.1).narrow hF)
theorem px_nw.same {q : Nat → Nat} {A : Nat → Prop} {s U : State} (hv : s.vm = U.vm) (hh : s.heap = U.heap) (h : px_nw q A s) : px_nw q A U := by
  obtain ⟨⟨h1, h2⟩, h3, ⟨h4, h6⟩, h5⟩ := h
  have ha : s.vm.Alike U.vm := by rw [hv]; exact Vm.Alike.refl _
  refine ⟨⟨va_tabs rfl hv h1, va_tabs rfl hv h2⟩, ?_, ⟨?_, ?_⟩, fun i hi => (h5 i hi).same hv.symm⟩
  · rw [← hh]
    exact h3.moved ha
  · rw [← hh]
    exact h4.moved ha
  · rw [← hh]
    rcases h6 with h6 | h6
    · exact Or.inl (h6.moved ha)
    · exact Or.inr (h6.moved ha)
/-- the machine at a place of a method, over a store -/
def px_G (p : Program) (l : Launch) (e : Env) (R : Room) (s : State) (m : MethodId) (args : Array Value) (below : List Frame) (meth : Method) (c : Code) (Q : State → Prop) (nL : Nat) (d : px_D) (D : va_G) (cA : Nat → ClassId) (q : Nat → Nat) (A : Nat → Prop) : px_K := fun pc L st σ =>
  ∀ (ls : Array Slot) (H : Heap) (locs : List Loc), lv_has ls nL (px_lv q 0 L) → va_P D vwCl (px_w d cA q σ) H → va_D A (px_w d cA q σ) → va_S A s.heap H locs → W p l e R s m args below meth c H locs 0 0 Q (F0 m pc ls (st.map (px_cv q)))
/-- a method's end: an answer and a store as 'po' says, nothing else changed -/
def px_Qc {α : Type} (val : α → Option Value) (po : α → px_St → Prop) (d : px_D) (D : va_G) (cA : Nat → ClassId) (q : Nat → Nat) (A : Nat → Prop) : Array Value → State → Outcome → State → Prop := fun _ st oc t =>
  (∃ (r : α) (σ' : px_St), oc = .returned (val r) ∧ po r σ' ∧ va_P D vwCl (px_w d cA q σ') t.heap) ∧ va_F A st t
def px_Pc (d : px_D) (D : va_G) (cA : Nat → ClassId) (q : Nat → Nat) (As : List Value) (σ : px_St) (sz : Nat) : Array Value → State → Prop :=
  va_Pc (As.map (px_cv q)) (fun U => U.heap.size = sz ∧ va_P D vwCl (px_w d cA q σ) U.heap ∧ (va_K D vwCl (px_tys cA) U ∧ px_nw q (va_A (px_w d cA q σ) sz) U) ∧ va_D (fun _ => True) (px_w d cA q σ))
/-- A CONTRACT: from every store and arguments with 'pre' the method returns, with 'post' -/
def px_Met (d : px_D) (y : MethodName) (ws : List Cond) (rm : Room) {α : Type} (val : α → Option Value) (pre : List Value → px_St → Prop) (post : List Value → px_St → α → px_St → Prop) : Prop :=
  ∀ (l : Launch) (D : va_G) (cA : Nat → ClassId) (q : Nat → Nat) (As : List Value) (σ : px_St) (sz : Nat), pre As σ → Met l y ws rm (px_Pc d D cA q As σ sz) (px_Qc val (post As σ) d D cA q (va_A (px_w d cA q σ) sz)) 0 0 (va_A (px_w d cA q σ) sz)
def px_Ev (Z : px_Z) (p : Program) (s : State) (m : MethodId) (args : Array Value) (meth : Method) (c : Code) (D : va_G) (cA : Nat → ClassId) (q : Nat → Nat) (A : Nat → Prop) : Prop :=
  p.tables.exec = Jvm.exec ∧ c.code = Z.1 ∧ c.maxLocals = Z.2.1 ∧ s.vm.findClass Z.2.2.1 = some m.cls ∧ (∀ w ∈ Z.2.2.2.1, w.before args s = true) ∧ (va_K D vwCl (px_tys cA) s ∧ px_nw q A s) ∧ meth.sig.returnType = Z.2.2.2.2.1 ∧ meth.locks = false
/-- a row of the table is sound: where what it asks holds, the machine goes on -/
def px_Snd (Z : px_Z) {α : Type} (val : α → Option Value) (po : α → px_St → Prop) (pc : Nat) (op : px_Op) : Prop :=
  ∀ (p : Program) (l : Launch) (e : Env) (s : State) (m : MethodId) (args : Array Value) (below : List Frame) (meth : Method) (c : Code) (D : va_G) (cA : Nat → ClassId) (q : Nat → Nat) (A : Nat → Prop), px_Ev Z p s m args meth c D cA q A → (∀ x, s.heap.size ≤ x → A x) →
  ∀ (L : px_L) (st : List Value) (σ : px_St) (K : px_K), (∀ pc' L' st' σ', K pc' L' st' σ' → px_G p l e Z.2.2.2.2.2.1 s m args below meth c (MQ below (px_Qc val po Z.2.2.2.2.2.2 D cA q A) args s 0 0 A) Z.2.1 Z.2.2.2.2.2.2 D cA q A pc' L' st' σ') → op L st σ K →
  px_G p l e Z.2.2.2.2.2.1 s m args below meth c (MQ below (px_Qc val po Z.2.2.2.2.2.2 D cA q A) args s 0 0 A) Z.2.1 Z.2.2.2.2.2.2 D cA q A pc L st σ
/-- fewer known locals -/
def px_le : px_L → px_L → Prop
  | [], _ => True
  | none :: L', _ :: L => px_le L' L
  | some v :: L', o :: L => o = some v ∧ px_le L' L
  | _ :: _, [] => False
theorem px_le_get : ∀ {L' L : px_L}, px_le L' L → ∀ {i : Nat} {v : Value}, L'[i]? = some (some v) → L[i]? = some (some v)
  | [], _, _, i, v, h => by simp at h
  | none :: L', _ :: L, hl, i, v, h => by
    cases i with
    | zero => simp at h
    | succ i =>
      rw [List.getElem?_cons_succ] at h ⊢
      exact px_le_get (L' := L') (L := L) hl h
  | some w :: L', o :: L, hl, i, v, h => by
    cases i with
    | zero =>
      rw [List.getElem?_cons_zero] at h ⊢
      rw [hl.1]
      exact h
    | succ i =>
      rw [List.getElem?_cons_succ] at h ⊢
      exact px_le_get (L' := L') (L := L) hl.2 h
  | none :: _, [], hl, _, _, _ => hl.elim
  | some _ :: _, [], hl, _, _, _ => hl.elim
theorem px_lv_le {q : Nat → Nat} {ls : Array Slot} {nL : Nat} {L' L : px_L} (h : px_le L' L) (hl : lv_has ls nL (px_lv q 0 L)) : lv_has ls nL (px_lv q 0 L') := by
  refine ⟨hl.1, hl.2.1, fun x hx => ?_⟩
  obtain ⟨j, v, hj, rfl⟩ := (px_lv_mem q L' 0 x).mp hx
  exact hl.2.2 _ ((px_lv_mem q L 0 _).mpr ⟨j, v, px_le_get h hj, rfl⟩)
/-- a predicate that is closed under a table's rows, and under the knowledge of more locals -/
def px_cl (ops : List (Nat × px_Op)) (G : px_K) : Prop := (∀ (i pc : Nat) (op : px_Op), ops[i]? = some (pc, op) → ∀ (L : px_L) (st : List Value) (σ : px_St), op L st σ G → G pc L st σ) ∧ ∀ (pc : Nat) (L' L : px_L) (st : List Value) (σ : px_St), px_le L' L → G pc L' st σ → G pc L st σ
theorem px_met {Z : px_Z} {α : Type} {val : α → Option Value} {y : MethodName} {ws' : List Cond} {pre : List Value → px_St → Prop} {post : List Value → px_St → α → px_St → Prop} (ops : (α → px_St → Prop) → List (Nat × px_Op)) (hy : plainName y.cls = true) (hown : y.cls = Z.2.2.1)
    (hw : Z.2.2.2.1 = Cond.code y Z.1 Z.2.1 Z.2.2.2.2.1 :: ws') (hok : ∀ (po : α → px_St → Prop) (i pc : Nat) (op : px_Op), (ops po)[i]? = some (pc, op) → px_Snd Z val po pc op) (hlen : ∀ As σ, pre As σ → (px_args As).length ≤ Z.2.1)
    (hv : ∀ As σ, pre As σ → ∀ G : px_K, px_cl (ops (post As σ)) G → G 0 (px_ent Z.2.1 As) [] σ) : px_Met Z.2.2.2.2.2.2 y Z.2.2.2.1 Z.2.2.2.2.2.1 val pre post := by
  intro l D cA q As σ sz hpre
  refine Met.ofW (cc := Z.1) (maxL := Z.2.1) (ret := Z.2.2.2.2.1) hy hw ?_
  intro p e s m args below meth c s₁ B hml hP0
  obtain ⟨rfl, hsz, hP, hK, hD0⟩ := hP0
  have hown2 : s.vm.findClass Z.2.2.1 = some m.cls := by rw [← hown]; exact findClass_of_methodNamed B.named
  subst hsz
  have hD : va_D (va_A (px_w Z.2.2.2.2.2.2 cA q σ) s.heap.size) (px_w Z.2.2.2.2.2.2 cA q σ) := hD0.self
  have E : px_Ev Z p s m (As.map (px_cv q)).toArray meth c D cA q (va_A (px_w Z.2.2.2.2.2.2 cA q σ) s.heap.size) := ⟨B.exec, B.bytes, hml, hown2, atoms_spec (ws := Z.2.2.2.1) B.pre, hK, B.returns, B.notSynchronized⟩
  have hl := lv_entry (As.map (px_cv q)) (n := Z.2.1) (by rw [px_args_len]; exact hlen As σ hpre)
  rw [lg_entry_eq]
  rw [← px_args_lv q (Z.2.1 - (px_args As).length) As 0] at hl
  have hG := hv As σ hpre (px_G p l e Z.2.2.2.2.2.1 s m (As.map (px_cv q)).toArray below meth c (MQ below (px_Qc val (post As σ) Z.2.2.2.2.2.2 D cA q (va_A (px_w Z.2.2.2.2.2.2 cA q σ) s.heap.size)) (As.map (px_cv q)).toArray s 0 0 (va_A (px_w Z.2.2.2.2.2.2 cA q σ) s.heap.size)) Z.2.1 Z.2.2.2.2.2.2 D cA q (va_A (px_w Z.2.2.2.2.2.2 cA q σ) s.heap.size))
    ⟨fun i pc op hi L st σ' ho => hok (post As σ) i pc op hi p l e s m _ below meth c D cA q _ E (fun x h => Or.inr h) L st σ' _ (fun _ _ _ _ h => h) ho, fun pc L' L st σ' hle hg ls H locs hl => hg ls H locs (px_lv_le hle hl)⟩
  exact hG _ s.heap [] hl hP hD va_S.rf

def px_push (pc1 : Nat) (v : Value) : px_Op := fun L st σ K => K pc1 L (v :: st) σ
theorem ps_iconst {Z : px_Z} {α : Type} {val : α → Option Value} {po : α → px_St → Prop} {pc : Nat} {n : Int} {v : Int32} (h : decode Z.1 pc = .ok (.iconst n, 1)) (hv : Int32.ofInt n = v) : px_Snd Z val po pc (px_push (pc + 1) (.int v)) := by
  intro p l e s m args below meth c D cA q A E hA L st σ K hK ho
  obtain ⟨hx, hb, hml, hown, hts, ⟨hKt, hNw⟩, hr, hlk⟩ := E
  intro ls H locs hl hP hD hS
  exact lv_iconst hx hb h hv (hK _ _ _ _ ho ls H locs hl hP hD hS)
theorem ps_bipush {Z : px_Z} {α : Type} {val : α → Option Value} {po : α → px_St → Prop} {pc : Nat} {n : Int} {v : Int32} (h : decode Z.1 pc = .ok (.bipush n, 2)) (hv : (Int8.ofInt n).toInt32 = v) : px_Snd Z val po pc (px_push (pc + 2) (.int v)) := by
  intro p l e s m args below meth c D cA q A E hA L st σ K hK ho
  obtain ⟨hx, hb, hml, hown, hts, ⟨hKt, hNw⟩, hr, hlk⟩ := E
  intro ls H locs hl hP hD hS
  exact lv_bipush hx hb h hv (hK _ _ _ _ ho ls H locs hl hP hD hS)
theorem ps_sipush {Z : px_Z} {α : Type} {val : α → Option Value} {po : α → px_St → Prop} {pc : Nat} {n : Int} {v : Int32} (h : decode Z.1 pc = .ok (.sipush n, 3)) (hv : (Int16.ofInt n).toInt32 = v) : px_Snd Z val po pc (px_push (pc + 3) (.int v)) := by
  intro p l e s m args below meth c D cA q A E hA L st σ K hK ho
  obtain ⟨hx, hb, hml, hown, hts, ⟨hKt, hNw⟩, hr, hlk⟩ := E
  intro ls H locs hl hP hD hS
  exact lv_sipush hx hb h hv (hK _ _ _ _ ho ls H locs hl hP hD hS)
theorem ps_lconst {Z : px_Z} {α : Type} {val : α → Option Value} {po : α → px_St → Prop} {pc : Nat} {n : Fin 2} {v : Int64} (h : decode Z.1 pc = .ok (.lconst n, 1)) (hv : Int64.ofNat (n : Nat) = v) : px_Snd Z val po pc (px_push (pc + 1) (.long v)) := by
  intro p l e s m args below meth c D cA q A E hA L st σ K hK ho
  obtain ⟨hx, hb, hml, hown, hts, ⟨hKt, hNw⟩, hr, hlk⟩ := E
  intro ls H locs hl hP hD hS
  exact lv_lconst hx hb h hv (hK _ _ _ _ ho ls H locs hl hP hD hS)
theorem ps_ldc {Z : px_Z} {α : Type} {val : α → Option Value} {po : α → px_St → Prop} {pc : Nat} {index : Nat} {v : Int32} (hc : Cond.constant Z.2.2.1 index v ∈ Z.2.2.2.1) (h : decode Z.1 pc = .ok (.ldc index, 2)) : px_Snd Z val po pc (px_push (pc + 2) (.int v)) := by
  intro p l e s m args below meth c D cA q A E hA L st σ K hK ho
  obtain ⟨hx, hb, hml, hown, hts, ⟨hKt, hNw⟩, hr, hlk⟩ := E
  intro ls H locs hl hP hD hS
  exact lv_ldc hx hb hown (hts _ hc) h (hK _ _ _ _ ho ls H locs hl hP hD hS)
theorem ps_ldcw {Z : px_Z} {α : Type} {val : α → Option Value} {po : α → px_St → Prop} {pc : Nat} {index : Nat} {v : Int32} (hc : Cond.constant Z.2.2.1 index v ∈ Z.2.2.2.1) (h : decode Z.1 pc = .ok (.ldc_w index, 3)) : px_Snd Z val po pc (px_push (pc + 3) (.int v)) := by
  intro p l e s m args below meth c D cA q A E hA L st σ K hK ho
  obtain ⟨hx, hb, hml, hown, hts, ⟨hKt, hNw⟩, hr, hlk⟩ := E
  intro ls H locs hl hP hD hS
  exact lv_ldcw hx hb hown (hts _ hc) h (hK _ _ _ _ ho ls H locs hl hP hD hS)
theorem ps_ldc2 {Z : px_Z} {α : Type} {val : α → Option Value} {po : α → px_St → Prop} {pc : Nat} {index : Nat} {v : Int64} (hc : Cond.constantLong Z.2.2.1 index v ∈ Z.2.2.2.1) (h : decode Z.1 pc = .ok (.ldc2_w index, 3)) : px_Snd Z val po pc (px_push (pc + 3) (.long v)) := by
  intro p l e s m args below meth c D cA q A E hA L st σ K hK ho
  obtain ⟨hx, hb, hml, hown, hts, ⟨hKt, hNw⟩, hr, hlk⟩ := E
  intro ls H locs hl hP hD hS
  exact lv_ldc2 hx hb hown (hts _ hc) h (hK _ _ _ _ ho ls H locs hl hP hD hS)
def px_il (pc1 i : Nat) : px_Op := fun L st σ K => match L[i]? with
  | some (some (.int x)) => K pc1 L (.int x :: st) σ
  | _ => False
theorem ps_iload_n {Z : px_Z} {α : Type} {val : α → Option Value} {po : α → px_St → Prop} {pc : Nat} {k : Fin 4} {i : Nat} (h : decode Z.1 pc = .ok (.iload_n k, 1)) (hi : (k : Nat) = i) : px_Snd Z val po pc (px_il (pc + 1) i) := by
  intro p l e s m args below meth c D cA q A E hA L st σ K hK ho
  obtain ⟨hx, hb, hml, hown, hts, ⟨hKt, hNw⟩, hr, hlk⟩ := E
  unfold px_il at ho
  split at ho
  · rename_i x hx1
    intro ls H locs hl hP hD hS
    exact lv_iload_n hx hb h hi (px_lv_at hl hx1) (hK _ _ _ _ ho ls H locs hl hP hD hS)
  · exact ho.elim
theorem ps_iload {Z : px_Z} {α : Type} {val : α → Option Value} {po : α → px_St → Prop} {pc : Nat} {i : Nat} (h : decode Z.1 pc = .ok (.iload i, 2)) : px_Snd Z val po pc (px_il (pc + 2) i) := by
  intro p l e s m args below meth c D cA q A E hA L st σ K hK ho
  obtain ⟨hx, hb, hml, hown, hts, ⟨hKt, hNw⟩, hr, hlk⟩ := E
  unfold px_il at ho
  split at ho
  · rename_i x hx1
    intro ls H locs hl hP hD hS
    exact lv_iload hx hb h (px_lv_at hl hx1) (hK _ _ _ _ ho ls H locs hl hP hD hS)
  · exact ho.elim
def px_al (pc1 i : Nat) : px_Op := fun L st σ K => match L[i]? with
  | some (some (.ref x)) => K pc1 L (.ref x :: st) σ
  | _ => False
theorem ps_aload_n {Z : px_Z} {α : Type} {val : α → Option Value} {po : α → px_St → Prop} {pc : Nat} {k : Fin 4} {i : Nat} (h : decode Z.1 pc = .ok (.aload_n k, 1)) (hi : (k : Nat) = i) : px_Snd Z val po pc (px_al (pc + 1) i) := by
  intro p l e s m args below meth c D cA q A E hA L st σ K hK ho
  obtain ⟨hx, hb, hml, hown, hts, ⟨hKt, hNw⟩, hr, hlk⟩ := E
  unfold px_al at ho
  split at ho
  · rename_i x hx1
    intro ls H locs hl hP hD hS
    exact lv_aload_n hx hb h hi (px_lv_at hl hx1) (hK _ _ _ _ ho ls H locs hl hP hD hS)
  · exact ho.elim
theorem ps_aload {Z : px_Z} {α : Type} {val : α → Option Value} {po : α → px_St → Prop} {pc : Nat} {i : Nat} (h : decode Z.1 pc = .ok (.aload i, 2)) : px_Snd Z val po pc (px_al (pc + 2) i) := by
  intro p l e s m args below meth c D cA q A E hA L st σ K hK ho
  obtain ⟨hx, hb, hml, hown, hts, ⟨hKt, hNw⟩, hr, hlk⟩ := E
  unfold px_al at ho
  split at ho
  · rename_i x hx1
    intro ls H locs hl hP hD hS
    exact lv_aload hx hb h (px_lv_at hl hx1) (hK _ _ _ _ ho ls H locs hl hP hD hS)
  · exact ho.elim
def px_ll (pc1 i : Nat) : px_Op := fun L st σ K => match L[i]? with
  | some (some (.long x)) => K pc1 L (.long x :: st) σ
  | _ => False
theorem ps_lload_n {Z : px_Z} {α : Type} {val : α → Option Value} {po : α → px_St → Prop} {pc : Nat} {k : Fin 4} {i : Nat} (h : decode Z.1 pc = .ok (.lload_n k, 1)) (hi : (k : Nat) = i) : px_Snd Z val po pc (px_ll (pc + 1) i) := by
  intro p l e s m args below meth c D cA q A E hA L st σ K hK ho
  obtain ⟨hx, hb, hml, hown, hts, ⟨hKt, hNw⟩, hr, hlk⟩ := E
  unfold px_ll at ho
  split at ho
  · rename_i x hx1
    intro ls H locs hl hP hD hS
    exact lv_lload_n hx hb h hi (px_lv_at hl hx1) (hK _ _ _ _ ho ls H locs hl hP hD hS)
  · exact ho.elim
theorem ps_lload {Z : px_Z} {α : Type} {val : α → Option Value} {po : α → px_St → Prop} {pc : Nat} {i : Nat} (h : decode Z.1 pc = .ok (.lload i, 2)) : px_Snd Z val po pc (px_ll (pc + 2) i) := by
  intro p l e s m args below meth c D cA q A E hA L st σ K hK ho
  obtain ⟨hx, hb, hml, hown, hts, ⟨hKt, hNw⟩, hr, hlk⟩ := E
  unfold px_ll at ho
  split at ho
  · rename_i x hx1
    intro ls H locs hl hP hD hS
    exact lv_lload hx hb h (px_lv_at hl hx1) (hK _ _ _ _ ho ls H locs hl hP hD hS)
  · exact ho.elim
def px_is (pc1 i : Nat) : px_Op := fun L st σ K => match st with
  | .int x :: r => K pc1 (px_set L i (.int x)) r σ
  | _ => False
theorem ps_istore_n {Z : px_Z} {α : Type} {val : α → Option Value} {po : α → px_St → Prop} {pc : Nat} {k : Fin 4} {i : Nat} (h : decode Z.1 pc = .ok (.istore_n k, 1)) (hi : (k : Nat) = i) (hn : i < Z.2.1) : px_Snd Z val po pc (px_is (pc + 1) i) := by
  intro p l e s m args below meth c D cA q A E hA L st σ K hK ho
  obtain ⟨hx, hb, hml, hown, hts, ⟨hKt, hNw⟩, hr, hlk⟩ := E
  unfold px_is at ho
  split at ho
  · intro ls H locs hl hP hD hS
    exact lv_istore_n hx hb h hi hl hn rfl (fun ls' hl' => hK _ _ _ _ ho ls' H locs (px_set_has hl') hP hD hS)
  · exact ho.elim
theorem ps_istore {Z : px_Z} {α : Type} {val : α → Option Value} {po : α → px_St → Prop} {pc : Nat} {i : Nat} (h : decode Z.1 pc = .ok (.istore i, 2)) (hn : i < Z.2.1) : px_Snd Z val po pc (px_is (pc + 2) i) := by
  intro p l e s m args below meth c D cA q A E hA L st σ K hK ho
  obtain ⟨hx, hb, hml, hown, hts, ⟨hKt, hNw⟩, hr, hlk⟩ := E
  unfold px_is at ho
  split at ho
  · intro ls H locs hl hP hD hS
    exact lv_istore hx hb h hl hn rfl (fun ls' hl' => hK _ _ _ _ ho ls' H locs (px_set_has hl') hP hD hS)
  · exact ho.elim
def px_as (pc1 i : Nat) : px_Op := fun L st σ K => match st with
  | .ref x :: r => K pc1 (px_set L i (.ref x)) r σ
  | _ => False
theorem ps_astore_n {Z : px_Z} {α : Type} {val : α → Option Value} {po : α → px_St → Prop} {pc : Nat} {k : Fin 4} {i : Nat} (h : decode Z.1 pc = .ok (.astore_n k, 1)) (hi : (k : Nat) = i) (hn : i < Z.2.1) : px_Snd Z val po pc (px_as (pc + 1) i) := by
  intro p l e s m args below meth c D cA q A E hA L st σ K hK ho
  obtain ⟨hx, hb, hml, hown, hts, ⟨hKt, hNw⟩, hr, hlk⟩ := E
  unfold px_as at ho
  split at ho
  · intro ls H locs hl hP hD hS
    exact lv_astore_n hx hb h hi hl hn rfl (fun ls' hl' => hK _ _ _ _ ho ls' H locs (px_set_has hl') hP hD hS)
  · exact ho.elim
theorem ps_astore {Z : px_Z} {α : Type} {val : α → Option Value} {po : α → px_St → Prop} {pc : Nat} {i : Nat} (h : decode Z.1 pc = .ok (.astore i, 2)) (hn : i < Z.2.1) : px_Snd Z val po pc (px_as (pc + 2) i) := by
  intro p l e s m args below meth c D cA q A E hA L st σ K hK ho
  obtain ⟨hx, hb, hml, hown, hts, ⟨hKt, hNw⟩, hr, hlk⟩ := E
  unfold px_as at ho
  split at ho
  · intro ls H locs hl hP hD hS
    exact lv_astore hx hb h hl hn rfl (fun ls' hl' => hK _ _ _ _ ho ls' H locs (px_set_has hl') hP hD hS)
  · exact ho.elim
def px_ls (pc1 i : Nat) : px_Op := fun L st σ K => match st with
  | .long x :: r => K pc1 (px_set2 L i (.long x)) r σ
  | _ => False
theorem ps_lstore_n {Z : px_Z} {α : Type} {val : α → Option Value} {po : α → px_St → Prop} {pc : Nat} {k : Fin 4} {i : Nat} (h : decode Z.1 pc = .ok (.lstore_n k, 1)) (hi : (k : Nat) = i) (hn : i + 1 < Z.2.1) : px_Snd Z val po pc (px_ls (pc + 1) i) := by
  intro p l e s m args below meth c D cA q A E hA L st σ K hK ho
  obtain ⟨hx, hb, hml, hown, hts, ⟨hKt, hNw⟩, hr, hlk⟩ := E
  unfold px_ls at ho
  split at ho
  · intro ls H locs hl hP hD hS
    exact lv_lstore_n hx hb h hi hl hn rfl (fun ls' hl' => hK _ _ _ _ ho ls' H locs (px_set2_has hl') hP hD hS)
  · exact ho.elim
theorem ps_lstore {Z : px_Z} {α : Type} {val : α → Option Value} {po : α → px_St → Prop} {pc : Nat} {i : Nat} (h : decode Z.1 pc = .ok (.lstore i, 2)) (hn : i + 1 < Z.2.1) : px_Snd Z val po pc (px_ls (pc + 2) i) := by
  intro p l e s m args below meth c D cA q A E hA L st σ K hK ho
  obtain ⟨hx, hb, hml, hown, hts, ⟨hKt, hNw⟩, hr, hlk⟩ := E
  unfold px_ls at ho
  split at ho
  · intro ls H locs hl hP hD hS
    exact lv_lstore hx hb h hl hn rfl (fun ls' hl' => hK _ _ _ _ ho ls' H locs (px_set2_has hl') hP hD hS)
  · exact ho.elim
def px_inc (pc1 i : Nat) (n : Int32) : px_Op := fun L st σ K => match L[i]? with
  | some (some (.int x)) => K pc1 (px_set L i (.int (x + n))) st σ
  | _ => False
theorem ps_iinc {Z : px_Z} {α : Type} {val : α → Option Value} {po : α → px_St → Prop} {pc : Nat} {i : Nat} {n : Int} {v : Int32} (h : decode Z.1 pc = .ok (.iinc i n, 3)) (hv : Int32.ofInt n = v) (hn : i < Z.2.1) : px_Snd Z val po pc (px_inc (pc + 3) i v) := by
  intro p l e s m args below meth c D cA q A E hA L st σ K hK ho
  obtain ⟨hx, hb, hml, hown, hts, ⟨hKt, hNw⟩, hr, hlk⟩ := E
  unfold px_inc at ho
  split at ho
  · rename_i x hx1
    intro ls H locs hl hP hD hS
    obtain ⟨k, hk⟩ := List.getElem?_of_mem ((px_lv_mem q L 0 (i, .int x)).mpr ⟨i, .int x, hx1, by simp [px_cv]⟩)
    exact lv_iinc (v := x + v) hx hb h hl hk (by rw [hv]) hn rfl (fun ls' hl' => hK _ _ _ _ ho ls' H locs (px_set_has hl') hP hD hS)
  · exact ho.elim
def px_bin (pc1 : Nat) (f : Int32 → Int32 → Int32) : px_Op := fun L st σ K => match st with
  | .int y :: .int x :: r => K pc1 L (.int (f x y) :: r) σ
  | _ => False
def px_div (pc1 : Nat) (f : Int32 → Int32 → Int32) : px_Op := fun L st σ K => match st with
  | .int y :: .int x :: r => ¬ y = 0 ∧ K pc1 L (.int (f x y) :: r) σ
  | _ => False
def px_un (pc1 : Nat) (f : Int32 → Int32) : px_Op := fun L st σ K => match st with
  | .int x :: r => K pc1 L (.int (f x) :: r) σ
  | _ => False
def px_binL (pc1 : Nat) (f : Int64 → Int64 → Int64) : px_Op := fun L st σ K => match st with
  | .long y :: .long x :: r => K pc1 L (.long (f x y) :: r) σ
  | _ => False
def px_divL (pc1 : Nat) (f : Int64 → Int64 → Int64) : px_Op := fun L st σ K => match st with
  | .long y :: .long x :: r => ¬ y = 0 ∧ K pc1 L (.long (f x y) :: r) σ
  | _ => False
def px_i2l (pc1 : Nat) : px_Op := fun L st σ K => match st with
  | .int x :: r => K pc1 L (.long x.toInt64 :: r) σ
  | _ => False
def px_lcmp (pc1 : Nat) : px_Op := fun L st σ K => match st with
  | .long y :: .long x :: r => K pc1 L (.int (lg_cmp x y) :: r) σ
  | _ => False
theorem ps_iadd {Z : px_Z} {α : Type} {val : α → Option Value} {po : α → px_St → Prop} {pc : Nat} (h : decode Z.1 pc = .ok (.iadd, 1)) : px_Snd Z val po pc (px_bin (pc + 1) (fun x y => x + y)) := by
  intro p l e s m args below meth c D cA q A E hA L st σ K hK ho
  obtain ⟨hx, hb, hml, hown, hts, ⟨hKt, hNw⟩, hr, hlk⟩ := E
  unfold px_bin at ho
  split at ho
  · intro ls H locs hl hP hD hS
    exact lv_iadd hx hb h (hK _ _ _ _ ho ls H locs hl hP hD hS)
  · exact ho.elim
theorem ps_isub {Z : px_Z} {α : Type} {val : α → Option Value} {po : α → px_St → Prop} {pc : Nat} (h : decode Z.1 pc = .ok (.isub, 1)) : px_Snd Z val po pc (px_bin (pc + 1) (fun x y => x - y)) := by
  intro p l e s m args below meth c D cA q A E hA L st σ K hK ho
  obtain ⟨hx, hb, hml, hown, hts, ⟨hKt, hNw⟩, hr, hlk⟩ := E
  unfold px_bin at ho
  split at ho
  · intro ls H locs hl hP hD hS
    exact lv_isub hx hb h (hK _ _ _ _ ho ls H locs hl hP hD hS)
  · exact ho.elim
theorem ps_imul {Z : px_Z} {α : Type} {val : α → Option Value} {po : α → px_St → Prop} {pc : Nat} (h : decode Z.1 pc = .ok (.imul, 1)) : px_Snd Z val po pc (px_bin (pc + 1) (fun x y => x * y)) := by
  intro p l e s m args below meth c D cA q A E hA L st σ K hK ho
  obtain ⟨hx, hb, hml, hown, hts, ⟨hKt, hNw⟩, hr, hlk⟩ := E
  unfold px_bin at ho
  split at ho
  · intro ls H locs hl hP hD hS
    exact lv_imul hx hb h (hK _ _ _ _ ho ls H locs hl hP hD hS)
  · exact ho.elim
theorem ps_iand {Z : px_Z} {α : Type} {val : α → Option Value} {po : α → px_St → Prop} {pc : Nat} (h : decode Z.1 pc = .ok (.iand, 1)) : px_Snd Z val po pc (px_bin (pc + 1) (fun x y => x &&& y)) := by
  intro p l e s m args below meth c D cA q A E hA L st σ K hK ho
  obtain ⟨hx, hb, hml, hown, hts, ⟨hKt, hNw⟩, hr, hlk⟩ := E
  unfold px_bin at ho
  split at ho
  · intro ls H locs hl hP hD hS
    exact lv_iand hx hb h (hK _ _ _ _ ho ls H locs hl hP hD hS)
  · exact ho.elim
theorem ps_ior {Z : px_Z} {α : Type} {val : α → Option Value} {po : α → px_St → Prop} {pc : Nat} (h : decode Z.1 pc = .ok (.ior, 1)) : px_Snd Z val po pc (px_bin (pc + 1) (fun x y => x ||| y)) := by
  intro p l e s m args below meth c D cA q A E hA L st σ K hK ho
  obtain ⟨hx, hb, hml, hown, hts, ⟨hKt, hNw⟩, hr, hlk⟩ := E
  unfold px_bin at ho
  split at ho
  · intro ls H locs hl hP hD hS
    exact lv_ior hx hb h (hK _ _ _ _ ho ls H locs hl hP hD hS)
  · exact ho.elim
theorem ps_ixor {Z : px_Z} {α : Type} {val : α → Option Value} {po : α → px_St → Prop} {pc : Nat} (h : decode Z.1 pc = .ok (.ixor, 1)) : px_Snd Z val po pc (px_bin (pc + 1) (fun x y => x ^^^ y)) := by
  intro p l e s m args below meth c D cA q A E hA L st σ K hK ho
  obtain ⟨hx, hb, hml, hown, hts, ⟨hKt, hNw⟩, hr, hlk⟩ := E
  unfold px_bin at ho
  split at ho
  · intro ls H locs hl hP hD hS
    exact lv_ixor hx hb h (hK _ _ _ _ ho ls H locs hl hP hD hS)
  · exact ho.elim
theorem ps_ishl {Z : px_Z} {α : Type} {val : α → Option Value} {po : α → px_St → Prop} {pc : Nat} (h : decode Z.1 pc = .ok (.ishl, 1)) : px_Snd Z val po pc (px_bin (pc + 1) (fun x y => x <<< (y &&& 31))) := by
  intro p l e s m args below meth c D cA q A E hA L st σ K hK ho
  obtain ⟨hx, hb, hml, hown, hts, ⟨hKt, hNw⟩, hr, hlk⟩ := E
  unfold px_bin at ho
  split at ho
  · intro ls H locs hl hP hD hS
    exact lv_ishl hx hb h (hK _ _ _ _ ho ls H locs hl hP hD hS)
  · exact ho.elim
theorem ps_ishr {Z : px_Z} {α : Type} {val : α → Option Value} {po : α → px_St → Prop} {pc : Nat} (h : decode Z.1 pc = .ok (.ishr, 1)) : px_Snd Z val po pc (px_bin (pc + 1) (fun x y => x >>> (y &&& 31))) := by
  intro p l e s m args below meth c D cA q A E hA L st σ K hK ho
  obtain ⟨hx, hb, hml, hown, hts, ⟨hKt, hNw⟩, hr, hlk⟩ := E
  unfold px_bin at ho
  split at ho
  · intro ls H locs hl hP hD hS
    exact lv_ishr hx hb h (hK _ _ _ _ ho ls H locs hl hP hD hS)
  · exact ho.elim
theorem ps_iushr {Z : px_Z} {α : Type} {val : α → Option Value} {po : α → px_St → Prop} {pc : Nat} (h : decode Z.1 pc = .ok (.iushr, 1)) : px_Snd Z val po pc (px_bin (pc + 1) (fun x y => (x.toUInt32 >>> (y.toUInt32 &&& Int32.toUInt32 31)).toInt32)) := by
  intro p l e s m args below meth c D cA q A E hA L st σ K hK ho
  obtain ⟨hx, hb, hml, hown, hts, ⟨hKt, hNw⟩, hr, hlk⟩ := E
  unfold px_bin at ho
  split at ho
  · intro ls H locs hl hP hD hS
    exact lv_iushr hx hb h rfl (hK _ _ _ _ ho ls H locs hl hP hD hS)
  · exact ho.elim
theorem ps_idiv {Z : px_Z} {α : Type} {val : α → Option Value} {po : α → px_St → Prop} {pc : Nat} (h : decode Z.1 pc = .ok (.idiv, 1)) : px_Snd Z val po pc (px_div (pc + 1) (fun x y => x / y)) := by
  intro p l e s m args below meth c D cA q A E hA L st σ K hK ho
  obtain ⟨hx, hb, hml, hown, hts, ⟨hKt, hNw⟩, hr, hlk⟩ := E
  unfold px_div at ho
  split at ho
  · intro ls H locs hl hP hD hS
    exact lv_idiv hx hb h ho.1 (hK _ _ _ _ ho.2 ls H locs hl hP hD hS)
  · exact ho.elim
theorem ps_irem {Z : px_Z} {α : Type} {val : α → Option Value} {po : α → px_St → Prop} {pc : Nat} (h : decode Z.1 pc = .ok (.irem, 1)) : px_Snd Z val po pc (px_div (pc + 1) (fun x y => x - x / y * y)) := by
  intro p l e s m args below meth c D cA q A E hA L st σ K hK ho
  obtain ⟨hx, hb, hml, hown, hts, ⟨hKt, hNw⟩, hr, hlk⟩ := E
  unfold px_div at ho
  split at ho
  · intro ls H locs hl hP hD hS
    exact lv_irem hx hb h ho.1 (hK _ _ _ _ ho.2 ls H locs hl hP hD hS)
  · exact ho.elim
theorem ps_ineg {Z : px_Z} {α : Type} {val : α → Option Value} {po : α → px_St → Prop} {pc : Nat} (h : decode Z.1 pc = .ok (.ineg, 1)) : px_Snd Z val po pc (px_un (pc + 1) (fun x => -x)) := by
  intro p l e s m args below meth c D cA q A E hA L st σ K hK ho
  obtain ⟨hx, hb, hml, hown, hts, ⟨hKt, hNw⟩, hr, hlk⟩ := E
  unfold px_un at ho
  split at ho
  · intro ls H locs hl hP hD hS
    exact lv_ineg hx hb h (hK _ _ _ _ ho ls H locs hl hP hD hS)
  · exact ho.elim
theorem ps_i2b {Z : px_Z} {α : Type} {val : α → Option Value} {po : α → px_St → Prop} {pc : Nat} (h : decode Z.1 pc = .ok (.i2b, 1)) : px_Snd Z val po pc (px_un (pc + 1) (fun x => x.toInt8.toInt32)) := by
  intro p l e s m args below meth c D cA q A E hA L st σ K hK ho
  obtain ⟨hx, hb, hml, hown, hts, ⟨hKt, hNw⟩, hr, hlk⟩ := E
  unfold px_un at ho
  split at ho
  · intro ls H locs hl hP hD hS
    exact lv_i2b hx hb h rfl (hK _ _ _ _ ho ls H locs hl hP hD hS)
  · exact ho.elim
theorem ps_i2s {Z : px_Z} {α : Type} {val : α → Option Value} {po : α → px_St → Prop} {pc : Nat} (h : decode Z.1 pc = .ok (.i2s, 1)) : px_Snd Z val po pc (px_un (pc + 1) (fun x => x.toInt16.toInt32)) := by
  intro p l e s m args below meth c D cA q A E hA L st σ K hK ho
  obtain ⟨hx, hb, hml, hown, hts, ⟨hKt, hNw⟩, hr, hlk⟩ := E
  unfold px_un at ho
  split at ho
  · intro ls H locs hl hP hD hS
    exact lv_i2s hx hb h rfl (hK _ _ _ _ ho ls H locs hl hP hD hS)
  · exact ho.elim
theorem ps_i2c {Z : px_Z} {α : Type} {val : α → Option Value} {po : α → px_St → Prop} {pc : Nat} (h : decode Z.1 pc = .ok (.i2c, 1)) : px_Snd Z val po pc (px_un (pc + 1) (fun x => (x.toUInt32 % 65536).toInt32)) := by
  intro p l e s m args below meth c D cA q A E hA L st σ K hK ho
  obtain ⟨hx, hb, hml, hown, hts, ⟨hKt, hNw⟩, hr, hlk⟩ := E
  unfold px_un at ho
  split at ho
  · intro ls H locs hl hP hD hS
    exact lv_i2c hx hb h rfl (hK _ _ _ _ ho ls H locs hl hP hD hS)
  · exact ho.elim
theorem ps_ladd {Z : px_Z} {α : Type} {val : α → Option Value} {po : α → px_St → Prop} {pc : Nat} (h : decode Z.1 pc = .ok (.ladd, 1)) : px_Snd Z val po pc (px_binL (pc + 1) (fun x y => x + y)) := by
  intro p l e s m args below meth c D cA q A E hA L st σ K hK ho
  obtain ⟨hx, hb, hml, hown, hts, ⟨hKt, hNw⟩, hr, hlk⟩ := E
  unfold px_binL at ho
  split at ho
  · intro ls H locs hl hP hD hS
    exact lv_ladd hx hb h (hK _ _ _ _ ho ls H locs hl hP hD hS)
  · exact ho.elim
theorem ps_lsub {Z : px_Z} {α : Type} {val : α → Option Value} {po : α → px_St → Prop} {pc : Nat} (h : decode Z.1 pc = .ok (.lsub, 1)) : px_Snd Z val po pc (px_binL (pc + 1) (fun x y => x - y)) := by
  intro p l e s m args below meth c D cA q A E hA L st σ K hK ho
  obtain ⟨hx, hb, hml, hown, hts, ⟨hKt, hNw⟩, hr, hlk⟩ := E
  unfold px_binL at ho
  split at ho
  · intro ls H locs hl hP hD hS
    exact lv_lsub hx hb h (hK _ _ _ _ ho ls H locs hl hP hD hS)
  · exact ho.elim
theorem ps_lmul {Z : px_Z} {α : Type} {val : α → Option Value} {po : α → px_St → Prop} {pc : Nat} (h : decode Z.1 pc = .ok (.lmul, 1)) : px_Snd Z val po pc (px_binL (pc + 1) (fun x y => x * y)) := by
  intro p l e s m args below meth c D cA q A E hA L st σ K hK ho
  obtain ⟨hx, hb, hml, hown, hts, ⟨hKt, hNw⟩, hr, hlk⟩ := E
  unfold px_binL at ho
  split at ho
  · intro ls H locs hl hP hD hS
    exact lv_lmul hx hb h (hK _ _ _ _ ho ls H locs hl hP hD hS)
  · exact ho.elim
theorem ps_ldiv {Z : px_Z} {α : Type} {val : α → Option Value} {po : α → px_St → Prop} {pc : Nat} (h : decode Z.1 pc = .ok (.ldiv, 1)) : px_Snd Z val po pc (px_divL (pc + 1) (fun x y => x / y)) := by
  intro p l e s m args below meth c D cA q A E hA L st σ K hK ho
  obtain ⟨hx, hb, hml, hown, hts, ⟨hKt, hNw⟩, hr, hlk⟩ := E
  unfold px_divL at ho
  split at ho
  · intro ls H locs hl hP hD hS
    exact lv_ldiv hx hb h ho.1 (hK _ _ _ _ ho.2 ls H locs hl hP hD hS)
  · exact ho.elim
theorem ps_lrem {Z : px_Z} {α : Type} {val : α → Option Value} {po : α → px_St → Prop} {pc : Nat} (h : decode Z.1 pc = .ok (.lrem, 1)) : px_Snd Z val po pc (px_divL (pc + 1) (fun x y => x - x / y * y)) := by
  intro p l e s m args below meth c D cA q A E hA L st σ K hK ho
  obtain ⟨hx, hb, hml, hown, hts, ⟨hKt, hNw⟩, hr, hlk⟩ := E
  unfold px_divL at ho
  split at ho
  · intro ls H locs hl hP hD hS
    exact lv_lrem hx hb h ho.1 (hK _ _ _ _ ho.2 ls H locs hl hP hD hS)
  · exact ho.elim
theorem ps_i2l {Z : px_Z} {α : Type} {val : α → Option Value} {po : α → px_St → Prop} {pc : Nat} (h : decode Z.1 pc = .ok (.i2l, 1)) : px_Snd Z val po pc (px_i2l (pc + 1)) := by
  intro p l e s m args below meth c D cA q A E hA L st σ K hK ho
  obtain ⟨hx, hb, hml, hown, hts, ⟨hKt, hNw⟩, hr, hlk⟩ := E
  unfold px_i2l at ho
  split at ho
  · intro ls H locs hl hP hD hS
    exact lv_i2l hx hb h rfl (hK _ _ _ _ ho ls H locs hl hP hD hS)
  · exact ho.elim
theorem ps_lcmp {Z : px_Z} {α : Type} {val : α → Option Value} {po : α → px_St → Prop} {pc : Nat} (h : decode Z.1 pc = .ok (.lcmp, 1)) : px_Snd Z val po pc (px_lcmp (pc + 1)) := by
  intro p l e s m args below meth c D cA q A E hA L st σ K hK ho
  obtain ⟨hx, hb, hml, hown, hts, ⟨hKt, hNw⟩, hr, hlk⟩ := E
  unfold px_lcmp at ho
  split at ho
  · intro ls H locs hl hP hD hS
    exact W.lcmp hx hb h (hK _ _ _ _ ho ls H locs hl hP hD hS)
  · exact ho.elim
def px_dup (pc1 : Nat) : px_Op := fun L st σ K => match st with
  | .ref k :: r => K pc1 L (.ref k :: .ref k :: r) σ
  | .int x :: r => K pc1 L (.int x :: .int x :: r) σ
  | _ => False
theorem ps_dup {Z : px_Z} {α : Type} {val : α → Option Value} {po : α → px_St → Prop} {pc : Nat} (h : decode Z.1 pc = .ok (.dup, 1)) : px_Snd Z val po pc (px_dup (pc + 1)) := by
  intro p l e s m args below meth c D cA q A E hA L st σ K hK ho
  obtain ⟨hx, hb, hml, hown, hts, ⟨hKt, hNw⟩, hr, hlk⟩ := E
  unfold px_dup at ho
  split at ho
  · intro ls H locs hl hP hD hS
    exact lv_dup hx hb h rfl (hK _ _ _ _ ho ls H locs hl hP hD hS)
  · intro ls H locs hl hP hD hS
    exact lv_dup hx hb h rfl (hK _ _ _ _ ho ls H locs hl hP hD hS)
  · exact ho.elim
def px_dup2 (pc1 : Nat) : px_Op := fun L st σ K => match st with
  | .int x :: .ref k :: r => K pc1 L (.int x :: .ref k :: .int x :: .ref k :: r) σ
  | _ => False
theorem ps_dup2 {Z : px_Z} {α : Type} {val : α → Option Value} {po : α → px_St → Prop} {pc : Nat} (h : decode Z.1 pc = .ok (.dup2, 1)) : px_Snd Z val po pc (px_dup2 (pc + 1)) := by
  intro p l e s m args below meth c D cA q A E hA L st σ K hK ho
  obtain ⟨hx, hb, hml, hown, hts, ⟨hKt, hNw⟩, hr, hlk⟩ := E
  unfold px_dup2 at ho
  split at ho
  · intro ls H locs hl hP hD hS
    exact lv_dup2_11 hx hb h rfl rfl (hK _ _ _ _ ho ls H locs hl hP hD hS)
  · exact ho.elim
def px_pop (pc1 : Nat) : px_Op := fun L st σ K => match st with
  | .int _ :: r => K pc1 L r σ
  | _ => False
theorem ps_pop {Z : px_Z} {α : Type} {val : α → Option Value} {po : α → px_St → Prop} {pc : Nat} (h : decode Z.1 pc = .ok (.pop, 1)) : px_Snd Z val po pc (px_pop (pc + 1)) := by
  intro p l e s m args below meth c D cA q A E hA L st σ K hK ho
  obtain ⟨hx, hb, hml, hown, hts, ⟨hKt, hNw⟩, hr, hlk⟩ := E
  unfold px_pop at ho
  split at ho
  · intro ls H locs hl hP hD hS
    exact lv_pop hx hb h rfl (hK _ _ _ _ ho ls H locs hl hP hD hS)
  · exact ho.elim
def px_if (pc1 tgt : Nat) (c : Int32 → Prop) : px_Op := fun L st σ K => match st with
  | .int x :: r => (c x → K tgt L r σ) ∧ (¬ c x → K pc1 L r σ)
  | _ => False
def px_ic (pc1 tgt : Nat) (c : Int32 → Int32 → Prop) : px_Op := fun L st σ K => match st with
  | .int y :: .int x :: r => (c x y → K tgt L r σ) ∧ (¬ c x y → K pc1 L r σ)
  | _ => False
theorem ps_if_eq {Z : px_Z} {α : Type} {val : α → Option Value} {po : α → px_St → Prop} {pc : Nat} {off : Int} {tgt : Nat} (h : decode Z.1 pc = .ok (.ifCond .eq off, 3)) (ht : (pc : Int) + off = (tgt : Int)) : px_Snd Z val po pc (px_if (pc + 3) tgt (fun x => x = 0)) := by
  intro p l e s m args below meth c D cA q A E hA L st σ K hK ho
  obtain ⟨hx, hb, hml, hown, hts, ⟨hKt, hNw⟩, hr, hlk⟩ := E
  unfold px_if at ho
  split at ho
  · intro ls H locs hl hP hD hS
    exact lv_if_eq hx hb h ht (fun z => hK _ _ _ _ (ho.1 z) ls H locs hl hP hD hS) (fun z => hK _ _ _ _ (ho.2 z) ls H locs hl hP hD hS)
  · exact ho.elim
theorem ps_icmp_eq {Z : px_Z} {α : Type} {val : α → Option Value} {po : α → px_St → Prop} {pc : Nat} {off : Int} {tgt : Nat} (h : decode Z.1 pc = .ok (.if_icmp .eq off, 3)) (ht : (pc : Int) + off = (tgt : Int)) : px_Snd Z val po pc (px_ic (pc + 3) tgt (fun x y => x = y)) := by
  intro p l e s m args below meth c D cA q A E hA L st σ K hK ho
  obtain ⟨hx, hb, hml, hown, hts, ⟨hKt, hNw⟩, hr, hlk⟩ := E
  unfold px_ic at ho
  split at ho
  · intro ls H locs hl hP hD hS
    exact lv_icmp_eq hx hb h ht (fun z => hK _ _ _ _ (ho.1 z) ls H locs hl hP hD hS) (fun z => hK _ _ _ _ (ho.2 z) ls H locs hl hP hD hS)
  · exact ho.elim
theorem ps_if_ne {Z : px_Z} {α : Type} {val : α → Option Value} {po : α → px_St → Prop} {pc : Nat} {off : Int} {tgt : Nat} (h : decode Z.1 pc = .ok (.ifCond .ne off, 3)) (ht : (pc : Int) + off = (tgt : Int)) : px_Snd Z val po pc (px_if (pc + 3) tgt (fun x => ¬ x = 0)) := by
  intro p l e s m args below meth c D cA q A E hA L st σ K hK ho
  obtain ⟨hx, hb, hml, hown, hts, ⟨hKt, hNw⟩, hr, hlk⟩ := E
  unfold px_if at ho
  split at ho
  · intro ls H locs hl hP hD hS
    exact lv_if_ne hx hb h ht (fun z => hK _ _ _ _ (ho.1 z) ls H locs hl hP hD hS) (fun z => hK _ _ _ _ (ho.2 (fun n => n z)) ls H locs hl hP hD hS)
  · exact ho.elim
theorem ps_icmp_ne {Z : px_Z} {α : Type} {val : α → Option Value} {po : α → px_St → Prop} {pc : Nat} {off : Int} {tgt : Nat} (h : decode Z.1 pc = .ok (.if_icmp .ne off, 3)) (ht : (pc : Int) + off = (tgt : Int)) : px_Snd Z val po pc (px_ic (pc + 3) tgt (fun x y => ¬ x = y)) := by
  intro p l e s m args below meth c D cA q A E hA L st σ K hK ho
  obtain ⟨hx, hb, hml, hown, hts, ⟨hKt, hNw⟩, hr, hlk⟩ := E
  unfold px_ic at ho
  split at ho
  · intro ls H locs hl hP hD hS
    exact lv_icmp_ne hx hb h ht (fun z => hK _ _ _ _ (ho.1 z) ls H locs hl hP hD hS) (fun z => hK _ _ _ _ (ho.2 (fun n => n z)) ls H locs hl hP hD hS)
  · exact ho.elim
theorem ps_if_lt {Z : px_Z} {α : Type} {val : α → Option Value} {po : α → px_St → Prop} {pc : Nat} {off : Int} {tgt : Nat} (h : decode Z.1 pc = .ok (.ifCond .lt off, 3)) (ht : (pc : Int) + off = (tgt : Int)) : px_Snd Z val po pc (px_if (pc + 3) tgt (fun x => x < 0)) := by
  intro p l e s m args below meth c D cA q A E hA L st σ K hK ho
  obtain ⟨hx, hb, hml, hown, hts, ⟨hKt, hNw⟩, hr, hlk⟩ := E
  unfold px_if at ho
  split at ho
  · intro ls H locs hl hP hD hS
    exact lv_if_lt hx hb h ht (fun z => hK _ _ _ _ (ho.1 z) ls H locs hl hP hD hS) (fun z => hK _ _ _ _ (ho.2 z) ls H locs hl hP hD hS)
  · exact ho.elim
theorem ps_icmp_lt {Z : px_Z} {α : Type} {val : α → Option Value} {po : α → px_St → Prop} {pc : Nat} {off : Int} {tgt : Nat} (h : decode Z.1 pc = .ok (.if_icmp .lt off, 3)) (ht : (pc : Int) + off = (tgt : Int)) : px_Snd Z val po pc (px_ic (pc + 3) tgt (fun x y => x < y)) := by
  intro p l e s m args below meth c D cA q A E hA L st σ K hK ho
  obtain ⟨hx, hb, hml, hown, hts, ⟨hKt, hNw⟩, hr, hlk⟩ := E
  unfold px_ic at ho
  split at ho
  · intro ls H locs hl hP hD hS
    exact lv_icmp_lt hx hb h ht (fun z => hK _ _ _ _ (ho.1 z) ls H locs hl hP hD hS) (fun z => hK _ _ _ _ (ho.2 z) ls H locs hl hP hD hS)
  · exact ho.elim
theorem ps_if_ge {Z : px_Z} {α : Type} {val : α → Option Value} {po : α → px_St → Prop} {pc : Nat} {off : Int} {tgt : Nat} (h : decode Z.1 pc = .ok (.ifCond .ge off, 3)) (ht : (pc : Int) + off = (tgt : Int)) : px_Snd Z val po pc (px_if (pc + 3) tgt (fun x => 0 ≤ x)) := by
  intro p l e s m args below meth c D cA q A E hA L st σ K hK ho
  obtain ⟨hx, hb, hml, hown, hts, ⟨hKt, hNw⟩, hr, hlk⟩ := E
  unfold px_if at ho
  split at ho
  · intro ls H locs hl hP hD hS
    exact lv_if_ge hx hb h ht (fun z => hK _ _ _ _ (ho.1 z) ls H locs hl hP hD hS) (fun z => hK _ _ _ _ (ho.2 z) ls H locs hl hP hD hS)
  · exact ho.elim
theorem ps_icmp_ge {Z : px_Z} {α : Type} {val : α → Option Value} {po : α → px_St → Prop} {pc : Nat} {off : Int} {tgt : Nat} (h : decode Z.1 pc = .ok (.if_icmp .ge off, 3)) (ht : (pc : Int) + off = (tgt : Int)) : px_Snd Z val po pc (px_ic (pc + 3) tgt (fun x y => y ≤ x)) := by
  intro p l e s m args below meth c D cA q A E hA L st σ K hK ho
  obtain ⟨hx, hb, hml, hown, hts, ⟨hKt, hNw⟩, hr, hlk⟩ := E
  unfold px_ic at ho
  split at ho
  · intro ls H locs hl hP hD hS
    exact lv_icmp_ge hx hb h ht (fun z => hK _ _ _ _ (ho.1 z) ls H locs hl hP hD hS) (fun z => hK _ _ _ _ (ho.2 z) ls H locs hl hP hD hS)
  · exact ho.elim
theorem ps_if_gt {Z : px_Z} {α : Type} {val : α → Option Value} {po : α → px_St → Prop} {pc : Nat} {off : Int} {tgt : Nat} (h : decode Z.1 pc = .ok (.ifCond .gt off, 3)) (ht : (pc : Int) + off = (tgt : Int)) : px_Snd Z val po pc (px_if (pc + 3) tgt (fun x => 0 < x)) := by
  intro p l e s m args below meth c D cA q A E hA L st σ K hK ho
  obtain ⟨hx, hb, hml, hown, hts, ⟨hKt, hNw⟩, hr, hlk⟩ := E
  unfold px_if at ho
  split at ho
  · intro ls H locs hl hP hD hS
    exact lv_if_gt hx hb h ht (fun z => hK _ _ _ _ (ho.1 z) ls H locs hl hP hD hS) (fun z => hK _ _ _ _ (ho.2 z) ls H locs hl hP hD hS)
  · exact ho.elim
theorem ps_icmp_gt {Z : px_Z} {α : Type} {val : α → Option Value} {po : α → px_St → Prop} {pc : Nat} {off : Int} {tgt : Nat} (h : decode Z.1 pc = .ok (.if_icmp .gt off, 3)) (ht : (pc : Int) + off = (tgt : Int)) : px_Snd Z val po pc (px_ic (pc + 3) tgt (fun x y => y < x)) := by
  intro p l e s m args below meth c D cA q A E hA L st σ K hK ho
  obtain ⟨hx, hb, hml, hown, hts, ⟨hKt, hNw⟩, hr, hlk⟩ := E
  unfold px_ic at ho
  split at ho
  · intro ls H locs hl hP hD hS
    exact lv_icmp_gt hx hb h ht (fun z => hK _ _ _ _ (ho.1 z) ls H locs hl hP hD hS) (fun z => hK _ _ _ _ (ho.2 z) ls H locs hl hP hD hS)
  · exact ho.elim
theorem ps_if_le {Z : px_Z} {α : Type} {val : α → Option Value} {po : α → px_St → Prop} {pc : Nat} {off : Int} {tgt : Nat} (h : decode Z.1 pc = .ok (.ifCond .le off, 3)) (ht : (pc : Int) + off = (tgt : Int)) : px_Snd Z val po pc (px_if (pc + 3) tgt (fun x => x ≤ 0)) := by
  intro p l e s m args below meth c D cA q A E hA L st σ K hK ho
  obtain ⟨hx, hb, hml, hown, hts, ⟨hKt, hNw⟩, hr, hlk⟩ := E
  unfold px_if at ho
  split at ho
  · intro ls H locs hl hP hD hS
    exact lv_if_le hx hb h ht (fun z => hK _ _ _ _ (ho.1 z) ls H locs hl hP hD hS) (fun z => hK _ _ _ _ (ho.2 z) ls H locs hl hP hD hS)
  · exact ho.elim
theorem ps_icmp_le {Z : px_Z} {α : Type} {val : α → Option Value} {po : α → px_St → Prop} {pc : Nat} {off : Int} {tgt : Nat} (h : decode Z.1 pc = .ok (.if_icmp .le off, 3)) (ht : (pc : Int) + off = (tgt : Int)) : px_Snd Z val po pc (px_ic (pc + 3) tgt (fun x y => x ≤ y)) := by
  intro p l e s m args below meth c D cA q A E hA L st σ K hK ho
  obtain ⟨hx, hb, hml, hown, hts, ⟨hKt, hNw⟩, hr, hlk⟩ := E
  unfold px_ic at ho
  split at ho
  · intro ls H locs hl hP hD hS
    exact lv_icmp_le hx hb h ht (fun z => hK _ _ _ _ (ho.1 z) ls H locs hl hP hD hS) (fun z => hK _ _ _ _ (ho.2 z) ls H locs hl hP hD hS)
  · exact ho.elim
def px_go (tgt : Nat) : px_Op := fun L st σ K => K tgt L st σ
theorem ps_goto {Z : px_Z} {α : Type} {val : α → Option Value} {po : α → px_St → Prop} {pc : Nat} {off : Int} {tgt : Nat} (h : decode Z.1 pc = .ok (.goto off, 3)) (ht : (pc : Int) + off = (tgt : Int)) : px_Snd Z val po pc (px_go tgt) := by
  intro p l e s m args below meth c D cA q A E hA L st σ K hK ho
  obtain ⟨hx, hb, hml, hown, hts, ⟨hKt, hNw⟩, hr, hlk⟩ := E
  intro ls H locs hl hP hD hS
  exact lv_goto hx hb h ht (hK _ _ _ _ ho ls H locs hl hP hD hS)
def px_get (d : px_D) (pc1 ci j : Nat) : px_Op := fun L st σ K => match st with
  | .ref k :: r => ((d.2.1 k).1 = 10 + ci ∧ k < d.1) ∧ K pc1 L ((d.2.2.1 ci (σ.1 k) (σ.2 k) k).getD j .null :: r) σ
  | _ => False
theorem ps_get {Z : px_Z} {α : Type} {val : α → Option Value} {po : α → px_St → Prop} {pc : Nat} {ci j index N : Nat} {C : String} {T : u_T} (hC : vwCl[ci]? = some (C, T, N)) (hj : j < N) (hin : ∀ w ∈ u_ws C T N, w ∈ Z.2.2.2.1) (hlink : Cond.fieldLink Z.2.2.1 index (T j).1 (T j).2.1 (T j).2.2.1 ∈ Z.2.2.2.1) (hlen : ∀ f g k, (Z.2.2.2.2.2.2.2.2.1 ci f g k).length = N) (h : decode Z.1 pc = .ok (.getfield index, 3)) : px_Snd Z val po pc (px_get Z.2.2.2.2.2.2 (pc + 3) ci j) := by
  intro p l e s m args below meth c D cA q A E hA L st σ K hK ho
  obtain ⟨hx, hb, hml, hown, hts, ⟨hKt, hNw⟩, hr, hlk⟩ := E
  unfold px_get at ho
  split at ho
  · rename_i k r
    obtain ⟨⟨hk1, hk2⟩, ho⟩ := ho
    intro ls H locs hl hP hD hS
    have he : (px_w Z.2.2.2.2.2.2 cA q σ)[k]? = some (q k, .inr (ci, (Z.2.2.2.2.2.2.2.2.1 ci (σ.1 k) (σ.2 k) k).map (px_cv q))) := by rw [px_w_get hk2, px_cell_obj hk1]
    refine va_get hx hb hts hin hown hKt hP k he hC j hj (hts _ hlink) (fun x hx => hx) (v := px_cv q ((Z.2.2.2.2.2.2.2.2.1 ci (σ.1 k) (σ.2 k) k).getD j .null)) ?_ h (hK _ _ _ _ ho ls H locs hl hP hD hS)
    rw [List.getElem?_map, List.getD_eq_getElem?_getD, List.getElem?_eq_getElem (by rw [hlen]; exact hj)]
    rfl
  · exact ho.elim
def px_put (d : px_D) (pc1 ci j : Nat) (ty : FieldType) : px_Op := fun L st σ K => match st with
  | .int x :: .ref k :: r => ((d.2.1 k).1 = 10 + ci ∧ k < d.1) ∧ (narrow ty (.int x) = .int x ∧ fits ty (.int x) = true) ∧ K pc1 L r (px_up σ k j x)
  | _ => False
theorem ps_put {Z : px_Z} {α : Type} {val : α → Option Value} {po : α → px_St → Prop} {pc : Nat} {ci j index N : Nat} {C : String} {T : u_T} (hC : vwCl[ci]? = some (C, T, N)) (hj : j < N) (hin : ∀ w ∈ u_ws C T N, w ∈ Z.2.2.2.1) (hlink : Cond.fieldLink Z.2.2.1 index (T j).1 (T j).2.1 (T j).2.2.1 ∈ Z.2.2.2.1) {ty0 : Nat → FieldType} {ty : FieldType} (hty : ∀ k, k < N → parseFieldDescriptor (T k).2.2.1 = some (ty0 k)) (hnm : ∀ a, a < N → ∀ b, b < N → a ≠ b → (T a).2.1 ≠ (T b).2.1) (hfin : (T j).2.2.2 = false) (hd : parseFieldDescriptor (T j).2.2.1 = some ty) (hlen : ∀ f g k, (Z.2.2.2.2.2.2.2.2.1 ci f g k).length = N) (hfl : ∀ f g k x, Z.2.2.2.2.2.2.2.2.1 ci (upd f j x) g k = (Z.2.2.2.2.2.2.2.2.1 ci f g k).set j (.int x)) (h : decode Z.1 pc = .ok (.putfield index, 3)) : px_Snd Z val po pc (px_put Z.2.2.2.2.2.2 (pc + 3) ci j ty) := by
  intro p l e s m args below meth c D cA q A E hA L st σ K hK ho
  obtain ⟨hx, hb, hml, hown, hts, ⟨hKt, hNw⟩, hr, hlk⟩ := E
  unfold px_put at ho
  split at ho
  · rename_i x k r
    obtain ⟨⟨hk1, hk2⟩, ⟨hn1, hn2⟩, ho⟩ := ho
    intro ls H locs hl hP hD hS
    have he : (px_w Z.2.2.2.2.2.2 cA q σ)[k]? = some (q k, .inr (ci, (Z.2.2.2.2.2.2.2.2.1 ci (σ.1 k) (σ.2 k) k).map (px_cv q))) := by rw [px_w_get hk2, px_cell_obj hk1]
    have hset : (px_w Z.2.2.2.2.2.2 cA q σ).set k (q k, .inr (ci, ((Z.2.2.2.2.2.2.2.2.1 ci (σ.1 k) (σ.2 k) k).map (px_cv q)).set j (.int x))) = px_w Z.2.2.2.2.2.2 cA q (px_up σ k j x) := by
      refine px_w_set ?_ (fun i hi => px_cell_same (by simp [px_up, hi]) (by simp [px_up, hi]))
      rw [px_cell_obj hk1]
      rw [show (px_up σ k j x).1 k = upd (σ.1 k) j x by simp [px_up], show (px_up σ k j x).2 k = σ.2 k from rfl, hfl, List.map_set]
      rfl
    refine va_put hx hb hts hin ty0 hty hnm hown hKt hP hD hS k he hC j hj (hts _ hlink) (fun x hx => hx) hfin hd hn1 hn2 (by rw [List.length_map, hlen]; exact hj) h (fun H1 locs1 hP1 hD1 hS1 => ?_)
    exact hK _ _ _ _ ho ls H1 locs1 hl (by rw [← hset]; exact hP1) (by rw [← hset]; exact hD1) hS1
  · exact ho.elim
def px_putl (d : px_D) (pc1 ci j : Nat) : px_Op := fun L st σ K => match st with
  | .long x :: .ref k :: r => ((d.2.1 k).1 = 10 + ci ∧ k < d.1) ∧ (True ∧ True) ∧ K pc1 L r (px_upl σ k j x)
  | _ => False
theorem ps_putl {Z : px_Z} {α : Type} {val : α → Option Value} {po : α → px_St → Prop} {pc : Nat} {ci j index N : Nat} {C : String} {T : u_T} (hC : vwCl[ci]? = some (C, T, N)) (hj : j < N) (hin : ∀ w ∈ u_ws C T N, w ∈ Z.2.2.2.1) (hlink : Cond.fieldLink Z.2.2.1 index (T j).1 (T j).2.1 (T j).2.2.1 ∈ Z.2.2.2.1) {ty0 : Nat → FieldType} (hty : ∀ k, k < N → parseFieldDescriptor (T k).2.2.1 = some (ty0 k)) (hnm : ∀ a, a < N → ∀ b, b < N → a ≠ b → (T a).2.1 ≠ (T b).2.1) (hfin : (T j).2.2.2 = false) (hd : parseFieldDescriptor (T j).2.2.1 = some .long) (hlen : ∀ f g k, (Z.2.2.2.2.2.2.2.2.1 ci f g k).length = N) (hfl : ∀ f g k x, Z.2.2.2.2.2.2.2.2.1 ci f (vp_updL g j x) k = (Z.2.2.2.2.2.2.2.2.1 ci f g k).set j (.long x)) (h : decode Z.1 pc = .ok (.putfield index, 3)) : px_Snd Z val po pc (px_putl Z.2.2.2.2.2.2 (pc + 3) ci j) := by
  intro p l e s m args below meth c D cA q A E hA L st σ K hK ho
  obtain ⟨hx, hb, hml, hown, hts, ⟨hKt, hNw⟩, hr, hlk⟩ := E
  unfold px_putl at ho
  split at ho
  · rename_i x k r
    obtain ⟨⟨hk1, hk2⟩, ⟨hn1, hn2⟩, ho⟩ := ho
    intro ls H locs hl hP hD hS
    have he : (px_w Z.2.2.2.2.2.2 cA q σ)[k]? = some (q k, .inr (ci, (Z.2.2.2.2.2.2.2.2.1 ci (σ.1 k) (σ.2 k) k).map (px_cv q))) := by rw [px_w_get hk2, px_cell_obj hk1]
    have hset : (px_w Z.2.2.2.2.2.2 cA q σ).set k (q k, .inr (ci, ((Z.2.2.2.2.2.2.2.2.1 ci (σ.1 k) (σ.2 k) k).map (px_cv q)).set j (.long x))) = px_w Z.2.2.2.2.2.2 cA q (px_upl σ k j x) := by
      refine px_w_set ?_ (fun i hi => px_cell_same (by simp [px_upl, hi]) (by simp [px_upl, hi]))
      rw [px_cell_obj hk1]
      rw [show (px_upl σ k j x).2 k = vp_updL (σ.2 k) j x by simp [px_upl], show (px_upl σ k j x).1 k = σ.1 k from rfl, hfl, List.map_set]
      rfl
    refine va_put hx hb hts hin ty0 hty hnm hown hKt hP hD hS k he hC j hj (hts _ hlink) (fun x hx => hx) hfin hd rfl rfl (by rw [List.length_map, hlen]; exact hj) h (fun H1 locs1 hP1 hD1 hS1 => ?_)
    exact hK _ _ _ _ ho ls H1 locs1 hl (by rw [← hset]; exact hP1) (by rw [← hset]; exact hD1) hS1
  · exact ho.elim
def px_putr (d : px_D) (pc1 ci j : Nat) : px_Op := fun L st σ K => match st with
  | .ref x :: .ref k :: r => ((d.2.1 k).1 = 10 + ci ∧ k < d.1) ∧ (x < 2 ^ 31 ∧ True) ∧ K pc1 L r (px_up σ k j (nI x))
  | _ => False
theorem ps_putr {Z : px_Z} {α : Type} {val : α → Option Value} {po : α → px_St → Prop} {pc : Nat} {ci j index N : Nat} {C : String} {T : u_T} (hC : vwCl[ci]? = some (C, T, N)) (hj : j < N) (hin : ∀ w ∈ u_ws C T N, w ∈ Z.2.2.2.1) (hlink : Cond.fieldLink Z.2.2.1 index (T j).1 (T j).2.1 (T j).2.2.1 ∈ Z.2.2.2.1) {ty0 : Nat → FieldType} {ty : FieldType} (hty : ∀ k, k < N → parseFieldDescriptor (T k).2.2.1 = some (ty0 k)) (hnm : ∀ a, a < N → ∀ b, b < N → a ≠ b → (T a).2.1 ≠ (T b).2.1) (hfin : (T j).2.2.2 = false) (hd : parseFieldDescriptor (T j).2.2.1 = some ty) (hlen : ∀ f g k, (Z.2.2.2.2.2.2.2.2.1 ci f g k).length = N) (hrt : ∀ a, narrow ty (.ref a) = .ref a ∧ fits ty (.ref a) = true) (hfl : ∀ f g k x, Z.2.2.2.2.2.2.2.2.1 ci (upd f j x) g k = (Z.2.2.2.2.2.2.2.2.1 ci f g k).set j (.ref x.toNatClampNeg)) (h : decode Z.1 pc = .ok (.putfield index, 3)) : px_Snd Z val po pc (px_putr Z.2.2.2.2.2.2 (pc + 3) ci j) := by
  intro p l e s m args below meth c D cA q A E hA L st σ K hK ho
  obtain ⟨hx, hb, hml, hown, hts, ⟨hKt, hNw⟩, hr, hlk⟩ := E
  unfold px_putr at ho
  split at ho
  · rename_i x k r
    obtain ⟨⟨hk1, hk2⟩, ⟨hn1, hn2⟩, ho⟩ := ho
    intro ls H locs hl hP hD hS
    have he : (px_w Z.2.2.2.2.2.2 cA q σ)[k]? = some (q k, .inr (ci, (Z.2.2.2.2.2.2.2.2.1 ci (σ.1 k) (σ.2 k) k).map (px_cv q))) := by rw [px_w_get hk2, px_cell_obj hk1]
    have hset : (px_w Z.2.2.2.2.2.2 cA q σ).set k (q k, .inr (ci, ((Z.2.2.2.2.2.2.2.2.1 ci (σ.1 k) (σ.2 k) k).map (px_cv q)).set j (.ref (q x)))) = px_w Z.2.2.2.2.2.2 cA q (px_up σ k j (nI x)) := by
      refine px_w_set ?_ (fun i hi => px_cell_same (by simp [px_up, hi]) (by simp [px_up, hi]))
      rw [px_cell_obj hk1]
      rw [show (px_up σ k j (nI x)).1 k = upd (σ.1 k) j (nI x) by simp [px_up], show (px_up σ k j (nI x)).2 k = σ.2 k from rfl, hfl, List.map_set, nI_clamp hn1]
      rfl
    refine va_put hx hb hts hin ty0 hty hnm hown hKt hP hD hS k he hC j hj (hts _ hlink) (fun x hx => hx) hfin hd (hrt _).1 (hrt _).2 (by rw [List.length_map, hlen]; exact hj) h (fun H1 locs1 hP1 hD1 hS1 => ?_)
    exact hK _ _ _ _ ho ls H1 locs1 hl (by rw [← hset]; exact hP1) (by rw [← hset]; exact hD1) hS1
  · exact ho.elim
def px_ald (d : px_D) (pc1 t : Nat) : px_Op := fun L st σ K => match st with
  | .int i :: .ref k :: r => ((d.2.1 k).1 = t ∧ k < d.1) ∧ vp_in i (d.2.1 k).2 ∧ K pc1 L (.int (σ.1 k i.toNatClampNeg) :: r) σ
  | _ => False
theorem ps_iaload {Z : px_Z} {α : Type} {val : α → Option Value} {po : α → px_St → Prop} {pc : Nat} (h : decode Z.1 pc = .ok (.iaload, 1)) : px_Snd Z val po pc (px_ald Z.2.2.2.2.2.2 (pc + 1) 0) := by
  intro p l e s m args below meth c D cA q A E hA L st σ K hK ho
  obtain ⟨hx, hb, hml, hown, hts, ⟨hKt, hNw⟩, hr, hlk⟩ := E
  unfold px_ald at ho
  split at ho
  · rename_i i k r
    obtain ⟨⟨hk1, hk2⟩, hin, ho⟩ := ho
    intro ls H locs hl hP hD hS
    exact va_iald hx hb hKt hP k 0 (by rw [px_w_get hk2, px_cell_arr (by decide) hk1]) rfl hin h (hK _ _ _ _ ho ls H locs hl hP hD hS)
  · exact ho.elim
theorem ps_baload {Z : px_Z} {α : Type} {val : α → Option Value} {po : α → px_St → Prop} {pc : Nat} (h : decode Z.1 pc = .ok (.baload, 1)) : px_Snd Z val po pc (px_ald Z.2.2.2.2.2.2 (pc + 1) 1) := by
  intro p l e s m args below meth c D cA q A E hA L st σ K hK ho
  obtain ⟨hx, hb, hml, hown, hts, ⟨hKt, hNw⟩, hr, hlk⟩ := E
  unfold px_ald at ho
  split at ho
  · rename_i i k r
    obtain ⟨⟨hk1, hk2⟩, hin, ho⟩ := ho
    intro ls H locs hl hP hD hS
    exact va_bald hx hb hKt hP k 1 (by rw [px_w_get hk2, px_cell_arr (by decide) hk1]) rfl hin h (hK _ _ _ _ ho ls H locs hl hP hD hS)
  · exact ho.elim
theorem ps_zaload {Z : px_Z} {α : Type} {val : α → Option Value} {po : α → px_St → Prop} {pc : Nat} (h : decode Z.1 pc = .ok (.baload, 1)) : px_Snd Z val po pc (px_ald Z.2.2.2.2.2.2 (pc + 1) 2) := by
  intro p l e s m args below meth c D cA q A E hA L st σ K hK ho
  obtain ⟨hx, hb, hml, hown, hts, ⟨hKt, hNw⟩, hr, hlk⟩ := E
  unfold px_ald at ho
  split at ho
  · rename_i i k r
    obtain ⟨⟨hk1, hk2⟩, hin, ho⟩ := ho
    intro ls H locs hl hP hD hS
    exact va_zald hx hb hKt hP k 2 (by rw [px_w_get hk2, px_cell_arr (by decide) hk1]) rfl hin h (hK _ _ _ _ ho ls H locs hl hP hD hS)
  · exact ho.elim
def px_ast (d : px_D) (pc1 t : Nat) (nr : Int32 → Int32) : px_Op := fun L st σ K => match st with
  | .int x :: .int i :: .ref k :: r => ((d.2.1 k).1 = t ∧ k < d.1) ∧ vp_in i (d.2.1 k).2 ∧ K pc1 L r (px_up σ k i.toNatClampNeg (nr x))
  | _ => False
theorem ps_iastore {Z : px_Z} {α : Type} {val : α → Option Value} {po : α → px_St → Prop} {pc : Nat} (h : decode Z.1 pc = .ok (.iastore, 1)) : px_Snd Z val po pc (px_ast Z.2.2.2.2.2.2 (pc + 1) 0 (fun x => x)) := by
  intro p l e s m args below meth c D cA q A E hA L st σ K hK ho
  obtain ⟨hx, hb, hml, hown, hts, ⟨hKt, hNw⟩, hr, hlk⟩ := E
  unfold px_ast at ho
  split at ho
  · rename_i x i k r
    obtain ⟨⟨hk1, hk2⟩, hin, ho⟩ := ho
    intro ls H locs hl hP hD hS
    have hset : (px_w Z.2.2.2.2.2.2 cA q σ).set k (q k, .inl (cA 0, (Z.2.2.2.2.2.2.2.1 k).2, .inl (upd (σ.1 k) i.toNatClampNeg (x)))) = px_w Z.2.2.2.2.2.2 cA q (px_up σ k i.toNatClampNeg (x)) := by
      refine px_w_set ?_ (fun j hj => px_cell_same (by simp [px_up, hj]) (by simp [px_up]))
      rw [px_cell_arr (by decide) hk1, px_up_s]
    refine va_iast hx hb hKt hP hD hS k 0 (by rw [px_w_get hk2, px_cell_arr (by decide) hk1]) rfl hin h (fun H1 locs1 hP1 hD1 hS1 => ?_)
    rw [hset] at hP1 hD1
    exact hK _ _ _ _ ho ls H1 locs1 hl hP1 hD1 hS1
  · exact ho.elim
theorem ps_bastore {Z : px_Z} {α : Type} {val : α → Option Value} {po : α → px_St → Prop} {pc : Nat} (h : decode Z.1 pc = .ok (.bastore, 1)) : px_Snd Z val po pc (px_ast Z.2.2.2.2.2.2 (pc + 1) 1 (fun x => vp_nar .byte x)) := by
  intro p l e s m args below meth c D cA q A E hA L st σ K hK ho
  obtain ⟨hx, hb, hml, hown, hts, ⟨hKt, hNw⟩, hr, hlk⟩ := E
  unfold px_ast at ho
  split at ho
  · rename_i x i k r
    obtain ⟨⟨hk1, hk2⟩, hin, ho⟩ := ho
    intro ls H locs hl hP hD hS
    have hset : (px_w Z.2.2.2.2.2.2 cA q σ).set k (q k, .inl (cA 1, (Z.2.2.2.2.2.2.2.1 k).2, .inl (upd (σ.1 k) i.toNatClampNeg (vp_nar .byte x)))) = px_w Z.2.2.2.2.2.2 cA q (px_up σ k i.toNatClampNeg (vp_nar .byte x)) := by
      refine px_w_set ?_ (fun j hj => px_cell_same (by simp [px_up, hj]) (by simp [px_up]))
      rw [px_cell_arr (by decide) hk1, px_up_s]
    refine va_bast hx hb hKt hP hD hS k 1 (by rw [px_w_get hk2, px_cell_arr (by decide) hk1]) rfl hin h (fun H1 locs1 hP1 hD1 hS1 => ?_)
    rw [hset] at hP1 hD1
    exact hK _ _ _ _ ho ls H1 locs1 hl hP1 hD1 hS1
  · exact ho.elim
theorem ps_zastore {Z : px_Z} {α : Type} {val : α → Option Value} {po : α → px_St → Prop} {pc : Nat} (h : decode Z.1 pc = .ok (.bastore, 1)) : px_Snd Z val po pc (px_ast Z.2.2.2.2.2.2 (pc + 1) 2 (fun x => vp_nar .boolean x)) := by
  intro p l e s m args below meth c D cA q A E hA L st σ K hK ho
  obtain ⟨hx, hb, hml, hown, hts, ⟨hKt, hNw⟩, hr, hlk⟩ := E
  unfold px_ast at ho
  split at ho
  · rename_i x i k r
    obtain ⟨⟨hk1, hk2⟩, hin, ho⟩ := ho
    intro ls H locs hl hP hD hS
    have hset : (px_w Z.2.2.2.2.2.2 cA q σ).set k (q k, .inl (cA 2, (Z.2.2.2.2.2.2.2.1 k).2, .inl (upd (σ.1 k) i.toNatClampNeg (vp_nar .boolean x)))) = px_w Z.2.2.2.2.2.2 cA q (px_up σ k i.toNatClampNeg (vp_nar .boolean x)) := by
      refine px_w_set ?_ (fun j hj => px_cell_same (by simp [px_up, hj]) (by simp [px_up]))
      rw [px_cell_arr (by decide) hk1, px_up_s]
    refine va_zast hx hb hKt hP hD hS k 2 (by rw [px_w_get hk2, px_cell_arr (by decide) hk1]) rfl hin h (fun H1 locs1 hP1 hD1 hS1 => ?_)
    rw [hset] at hP1 hD1
    exact hK _ _ _ _ ho ls H1 locs1 hl hP1 hD1 hS1
  · exact ho.elim
def px_aald (d : px_D) (pc1 t : Nat) : px_Op := fun L st σ K => match st with
  | .int i :: .ref k :: r => ((d.2.1 k).1 = t ∧ k < d.1) ∧ vp_in i (d.2.1 k).2 ∧ K pc1 L (.ref (d.2.2.2 k i.toNatClampNeg) :: r) σ
  | _ => False
theorem ps_aaload3 {Z : px_Z} {α : Type} {val : α → Option Value} {po : α → px_St → Prop} {pc : Nat} (h : decode Z.1 pc = .ok (.aaload, 1)) : px_Snd Z val po pc (px_aald Z.2.2.2.2.2.2 (pc + 1) 3) := by
  intro p l e s m args below meth c D cA q A E hA L st σ K hK ho
  obtain ⟨hx, hb, hml, hown, hts, ⟨hKt, hNw⟩, hr, hlk⟩ := E
  unfold px_aald at ho
  split at ho
  · rename_i i k r
    obtain ⟨⟨hk1, hk2⟩, hin, ho⟩ := ho
    intro ls H locs hl hP hD hS
    exact va_aldq (f := fun i => some (q (Z.2.2.2.2.2.2.2.2.2 k i))) hx hb hKt hP k 3 (by rw [px_w_get hk2, px_cell_row (by decide) (by decide) hk1]) rfl hin h (hK _ _ _ _ ho ls H locs hl hP hD hS)
  · exact ho.elim
theorem ps_aaload4 {Z : px_Z} {α : Type} {val : α → Option Value} {po : α → px_St → Prop} {pc : Nat} (h : decode Z.1 pc = .ok (.aaload, 1)) : px_Snd Z val po pc (px_aald Z.2.2.2.2.2.2 (pc + 1) 4) := by
  intro p l e s m args below meth c D cA q A E hA L st σ K hK ho
  obtain ⟨hx, hb, hml, hown, hts, ⟨hKt, hNw⟩, hr, hlk⟩ := E
  unfold px_aald at ho
  split at ho
  · rename_i i k r
    obtain ⟨⟨hk1, hk2⟩, hin, ho⟩ := ho
    intro ls H locs hl hP hD hS
    exact va_aldq (f := fun i => some (q (Z.2.2.2.2.2.2.2.2.2 k i))) hx hb hKt hP k 4 (by rw [px_w_get hk2, px_cell_row (by decide) (by decide) hk1]) rfl hin h (hK _ _ _ _ ho ls H locs hl hP hD hS)
  · exact ho.elim
def px_alen (d : px_D) (pc1 t : Nat) : px_Op := fun L st σ K => match st with
  | .ref k :: r => ((d.2.1 k).1 = t ∧ k < d.1) ∧ K pc1 L (.int (nI (d.2.1 k).2) :: r) σ
  | _ => False
theorem ps_alen0 {Z : px_Z} {α : Type} {val : α → Option Value} {po : α → px_St → Prop} {pc : Nat} (h : decode Z.1 pc = .ok (.arraylength, 1)) : px_Snd Z val po pc (px_alen Z.2.2.2.2.2.2 (pc + 1) 0) := by
  intro p l e s m args below meth c D cA q A E hA L st σ K hK ho
  obtain ⟨hx, hb, hml, hown, hts, ⟨hKt, hNw⟩, hr, hlk⟩ := E
  unfold px_alen at ho
  split at ho
  · rename_i k r
    obtain ⟨⟨hk1, hk2⟩, ho⟩ := ho
    intro ls H locs hl hP hD hS
    exact va_alen (x := ((Z.2.2.2.2.2.2.2.1 k).2, .inl (σ.1 k))) (v := nI (Z.2.2.2.2.2.2.2.1 k).2) hx hb hKt hP k 0 (by rw [px_w_get hk2, px_cell_arr (by decide) hk1]) rfl rfl h (hK _ _ _ _ ho ls H locs hl hP hD hS)
  · exact ho.elim
theorem ps_alen1 {Z : px_Z} {α : Type} {val : α → Option Value} {po : α → px_St → Prop} {pc : Nat} (h : decode Z.1 pc = .ok (.arraylength, 1)) : px_Snd Z val po pc (px_alen Z.2.2.2.2.2.2 (pc + 1) 1) := by
  intro p l e s m args below meth c D cA q A E hA L st σ K hK ho
  obtain ⟨hx, hb, hml, hown, hts, ⟨hKt, hNw⟩, hr, hlk⟩ := E
  unfold px_alen at ho
  split at ho
  · rename_i k r
    obtain ⟨⟨hk1, hk2⟩, ho⟩ := ho
    intro ls H locs hl hP hD hS
    exact va_alen (x := ((Z.2.2.2.2.2.2.2.1 k).2, .inl (σ.1 k))) (v := nI (Z.2.2.2.2.2.2.2.1 k).2) hx hb hKt hP k 1 (by rw [px_w_get hk2, px_cell_arr (by decide) hk1]) rfl rfl h (hK _ _ _ _ ho ls H locs hl hP hD hS)
  · exact ho.elim
def px_rm (r : List Value) : Prop := (r.map fun v => v.category).sum ≤ 8
theorem px_rm_cv {q : Nat → Nat} {r : List Value} (h : px_rm r) : ((r.map (px_cv q)).map fun v => v.category).sum ≤ 8 := by
  rw [List.map_map]
  have e : ((fun v : Value => v.category) ∘ px_cv q) = fun v => v.category := funext (fun v => px_cv_cat q v)
  rw [e]
  exact h
def px_mm (pc1 : Nat) (f : Int32 → Int32 → Int32) : px_Op := fun L st σ K => match st with
  | .int y :: .int x :: r => px_rm r ∧ K pc1 L (.int (f x y) :: r) σ
  | _ => False
theorem ps_mmax {Z : px_Z} {α : Type} {val : α → Option Value} {po : α → px_St → Prop} {pc : Nat} {index : Nat} (h1 : Cond.methodLink Z.2.2.1 index Lib.Math.max.name ∈ Z.2.2.2.1) (h2 : Cond.static Lib.Math.max.name ∈ Z.2.2.2.1) (h3 : Cond.initialized "java/lang/Math" ∈ Z.2.2.2.1) (h4 : Cond.code Lib.Math.max.name Lib.Math.max.code 2 (some .int) ∈ Z.2.2.2.1) (hR : 1 ≤ Z.2.2.2.2.2.1.frames ∧ 21 ≤ Z.2.2.2.2.2.1.locals) (h : decode Z.1 pc = .ok (.invokestatic index, 3)) : px_Snd Z val po pc (px_mm (pc + 3) (fun x y => if x < y then y else x)) := by
  intro p l e s m args below meth c D cA q A E hA L st σ K hK ho
  obtain ⟨hx, hb, hml, hown, hts, ⟨hKt, hNw⟩, hr, hlk⟩ := E
  unfold px_mm at ho
  split at ho
  · rename_i y x r
    intro ls H locs hl hP hD hS
    have h8 := px_rm_cv (q := q) ho.1
    exact va_mmax hx hb (hml.trans hl.1.symm) hown (hts _ h1) (hts _ h2) (hts _ h3) (hts _ h4) hR.1 (by have := hR.2; omega) (Nat.zero_le _) (Nat.zero_le _) h (hK _ _ _ _ ho.2 ls H locs hl hP hD hS)
  · exact ho.elim
theorem ps_mmin {Z : px_Z} {α : Type} {val : α → Option Value} {po : α → px_St → Prop} {pc : Nat} {index : Nat} (h1 : Cond.methodLink Z.2.2.1 index Lib.Math.min.name ∈ Z.2.2.2.1) (h2 : Cond.static Lib.Math.min.name ∈ Z.2.2.2.1) (h3 : Cond.initialized "java/lang/Math" ∈ Z.2.2.2.1) (h4 : Cond.code Lib.Math.min.name Lib.Math.min.code 2 (some .int) ∈ Z.2.2.2.1) (hR : 1 ≤ Z.2.2.2.2.2.1.frames ∧ 21 ≤ Z.2.2.2.2.2.1.locals) (h : decode Z.1 pc = .ok (.invokestatic index, 3)) : px_Snd Z val po pc (px_mm (pc + 3) (fun x y => if y < x then y else x)) := by
  intro p l e s m args below meth c D cA q A E hA L st σ K hK ho
  obtain ⟨hx, hb, hml, hown, hts, ⟨hKt, hNw⟩, hr, hlk⟩ := E
  unfold px_mm at ho
  split at ho
  · rename_i y x r
    intro ls H locs hl hP hD hS
    have h8 := px_rm_cv (q := q) ho.1
    exact va_mmin hx hb (hml.trans hl.1.symm) hown (hts _ h1) (hts _ h2) (hts _ h3) (hts _ h4) hR.1 (by have := hR.2; omega) (Nat.zero_le _) (Nat.zero_le _) h (hK _ _ _ _ ho.2 ls H locs hl hP hD hS)
  · exact ho.elim
def px_copy (d : px_D) (pc1 : Nat) : px_Op := fun L st σ K => match st with
  | .int n :: .int dp :: .ref k1 :: .int sp :: .ref k0 :: r => (((d.2.1 k0).1 = 0 ∧ k0 < d.1) ∧ ((d.2.1 k1).1 = 0 ∧ k1 < d.1)) ∧ (¬ sp < 0 ∧ ¬ dp < 0 ∧ ¬ n < 0 ∧ sp.toNatClampNeg + n.toNatClampNeg ≤ (d.2.1 k0).2 ∧ dp.toNatClampNeg + n.toNatClampNeg ≤ (d.2.1 k1).2) ∧ px_rm r ∧ K pc1 L r (px_cpy σ k0 k1 sp.toNatClampNeg dp.toNatClampNeg n.toNatClampNeg)
  | _ => False
theorem ps_copy {Z : px_Z} {α : Type} {val : α → Option Value} {po : α → px_St → Prop} {pc : Nat} {index : Nat} (h1 : Cond.methodLink Z.2.2.1 index arraycopyName ∈ Z.2.2.2.1) (h2 : Cond.native arraycopyName ∈ Z.2.2.2.1) (h3 : Cond.static arraycopyName ∈ Z.2.2.2.1) (h4 : Cond.initialized "java/lang/System" ∈ Z.2.2.2.1) (hR : 1 ≤ Z.2.2.2.2.2.1.frames ∧ 8 + (nativeFrameWords "java/lang/System" "arraycopy" 5 + 11) ≤ Z.2.2.2.2.2.1.locals) (h : decode Z.1 pc = .ok (.invokestatic index, 3)) : px_Snd Z val po pc (px_copy Z.2.2.2.2.2.2 (pc + 3)) := by
  intro p l e s m args below meth c D cA q A E hA L st σ K hK ho
  obtain ⟨hx, hb, hml, hown, hts, ⟨hKt, hNw⟩, hr, hlk⟩ := E
  unfold px_copy at ho
  split at ho
  · rename_i n dp k1 sp k0 r
    obtain ⟨⟨⟨ha1, ha2⟩, hb1, hb2⟩, ⟨g1, g2, g3, g4, g5⟩, hrm, ho⟩ := ho
    intro ls H locs hl hP hD hS
    have h8 := px_rm_cv (q := q) hrm
    have hset : (px_w Z.2.2.2.2.2.2 cA q σ).set k1 (q k1, .inl (cA 0, (Z.2.2.2.2.2.2.2.1 k1).2, .inl (va_cpy (σ.1 k0) (σ.1 k1) sp.toNatClampNeg dp.toNatClampNeg n.toNatClampNeg))) = px_w Z.2.2.2.2.2.2 cA q (px_cpy σ k0 k1 sp.toNatClampNeg dp.toNatClampNeg n.toNatClampNeg) := by
      refine px_w_set ?_ (fun j hj => px_cell_same (by simp [px_cpy, hj]) (by simp [px_cpy]))
      rw [px_cell_arr (by decide) hb1]
      simp [px_cpy]
    refine va_copyi hx hb (hml.trans hl.1.symm) hown (hts _ h1) (hts _ h2) (hts _ h3) (hts _ h4) hKt hP hD hS k0 k1 0 0 (by rw [px_w_get ha2, px_cell_arr (by decide) ha1]) (by rw [px_w_get hb2, px_cell_arr (by decide) hb1]) rfl rfl rfl g1 g2 g3 g4 g5 (fun _ _ => rfl) hR.1 (by have := hR.2; omega) h (fun H1 locs1 hP1 hD1 hS1 => ?_)
    rw [hset] at hP1 hD1
    exact hK _ _ _ _ ho ls H1 locs1 hl hP1 hD1 hS1
  · exact ho.elim
def px_vret (po : Unit → px_St → Prop) : px_Op := fun _ st σ _ => match st with
  | [] => po () σ
  | _ => False
def px_iret (ty : FieldType) (po : Int32 → px_St → Prop) : px_Op := fun _ st σ _ => match st with
  | [.int x] => narrow ty (.int x) = .int x ∧ po x σ
  | _ => False
def px_lret (po : Int64 → px_St → Prop) : px_Op := fun _ st σ _ => match st with
  | [.long x] => po x σ
  | _ => False
abbrev px_vI : Int32 → Option Value := fun r => some (.int r)
abbrev px_vL : Int64 → Option Value := fun r => some (.long r)
abbrev px_vV : Unit → Option Value := fun _ => none
theorem ps_return {Z : px_Z} {po : Unit → px_St → Prop} {pc : Nat} (hret : Z.2.2.2.2.1 = none) (h : decode Z.1 pc = .ok (.return_, 1)) : px_Snd Z px_vV po pc (px_vret po) := by
  intro p l e s m args below meth c D cA q A E hA L st σ K hK ho
  obtain ⟨hx, hb, hml, hown, hts, ⟨hKt, hNw⟩, hr, hlk⟩ := E
  unfold px_vret at ho
  split at ho
  · intro ls H locs hl hP hD hS
    exact W.vret hx hb (hr.trans hret) (fun t ht _ => ⟨⟨(), σ, rfl, ho, by rw [ht]; exact hP⟩, hS.F ht⟩) hS.2.2 h hlk
  · exact ho.elim
theorem ps_ireturn {Z : px_Z} {po : Int32 → px_St → Prop} {pc : Nat} {ty : FieldType} (hret : Z.2.2.2.2.1 = some ty) (h : decode Z.1 pc = .ok (.ireturn, 1)) : px_Snd Z px_vI po pc (px_iret ty po) := by
  intro p l e s m args below meth c D cA q A E hA L st σ K hK ho
  obtain ⟨hx, hb, hml, hown, hts, ⟨hKt, hNw⟩, hr, hlk⟩ := E
  unfold px_iret at ho
  split at ho
  · intro ls H locs hl hP hD hS
    exact W.zret hx hb (hr.trans hret) ho.1 (fun t ht _ => ⟨⟨_, σ, rfl, ho.2, by rw [ht]; exact hP⟩, hS.F ht⟩) hS.2.2 h hlk
  · exact ho.elim
theorem ps_lreturn {Z : px_Z} {po : Int64 → px_St → Prop} {pc : Nat} (hret : Z.2.2.2.2.1 = some .long) (h : decode Z.1 pc = .ok (.lreturn, 1)) : px_Snd Z px_vL po pc (px_lret po) := by
  intro p l e s m args below meth c D cA q A E hA L st σ K hK ho
  obtain ⟨hx, hb, hml, hown, hts, ⟨hKt, hNw⟩, hr, hlk⟩ := E
  unfold px_lret at ho
  split at ho
  · intro ls H locs hl hP hD hS
    exact W.lret hx hb (hr.trans hret) (fun t ht _ => ⟨⟨_, σ, rfl, ho, by rw [ht]; exact hP⟩, hS.F ht⟩) hS.2.2 h hlk
  · exact ho.elim
theorem px_cont {p : Program} {l : Launch} {e : Env} {R : Room} {s : State} {m : MethodId} {args : Array Value} {below : List Frame} {meth : Method} {c : Code} {H : Heap} {locs : List Loc} {Q : State → Prop} {pc : Nat} {ls : Array Slot} {rest st0 : List Value} {a : Array Value} {A : Nat → Prop} {β : Type} {valb : β → Option Value} {pob : β → px_St → Prop} {d : px_D} {D : va_G} {cA : Nat → ClassId} {q : Nat → Nat} {B : Nat → Prop}
    (hr : va_Run p l e R s m args below meth c H locs 0 0 0 0 (F0 m pc ls st0) rest (px_Qc valb pob d D cA q B a) B) (hS : va_S A s.heap H locs) (hF : ∀ x, B x → A x)
    (kk : ∀ (b : β) (σ' : px_St) (H1 : Heap) (locs1 : List Loc), pob b σ' → va_P D vwCl (px_w d cA q σ') H1 → va_S A s.heap H1 locs1 → W p l e R s m args below meth c H1 locs1 0 0 Q (F0 m (pc + 3) ls ((valb b).toList ++ rest))) : W p l e R s m args below meth c H locs 0 0 Q (F0 m pc ls st0) := by
  intro T hT X
  obtain ⟨v, st₀, t, T', L, h0, X', hL, e1, e2, ⟨⟨b, σ', hv, hp, hb⟩, hz, hk⟩, st⟩ := hr T hT X
  cases hv
  rw [h0] at hz hk
  obtain ⟨t2, a1, b1⟩ := kk b σ' T'.heap (locs ++ L) hp (by rw [e1]; exact hb)
    ⟨Nat.le_trans hS.1 (by rw [e1]; exact hz), fun x h1 h2 => by rw [e1, hk x (Nat.lt_of_lt_of_le h1 hS.1) (fun z => h2 (hF x z))]; exact hS.2.1 x h1 h2, fun x hx => by
      rcases List.mem_append.mp hx with h | h
      · exact hS.2.2 x h
      · exact hF _ (hL x h)⟩ T' rfl X'
  exact ⟨t2, st t2 a1, b1⟩
theorem px_blind {d : px_D} {D : va_G} {cA : Nat → ClassId} {q : Nat → Nat} {As : List Value} {σ : px_St} {sz : Nat} : FrameBlind (px_Pc d D cA q As σ sz) := fun a U g mk h => by
  obtain ⟨h1, h2, h3, h4, h5⟩ := h
  exact ⟨h1, h2, h3, ⟨va_K.moved (u := U) (U := U.calling g mk a) (Vm.Alike.refl U.vm) h4.1, h4.2.same rfl rfl⟩, h5⟩
theorem px_map_list {q : Nat → Nat} {o : Option Value} {r : List Value} (h : o.map (px_cv q) = o) : (o.toList ++ r).map (px_cv q) = o.toList ++ r.map (px_cv q) := by
  rw [List.map_append]
  cases o with
  | none => rfl
  | some v =>
    have h1 : px_cv q v = v := Option.some.inj h
    simp [h1]
theorem px_hF {d : px_D} {cA : Nat → ClassId} {q : Nat → Nat} {σ : px_St} {A : Nat → Prop} {H0 H : Heap} {locs : List Loc} (hD : va_D A (px_w d cA q σ)) (hS : va_S A H0 H locs) (hA : ∀ x, H0.size ≤ x → A x) : ∀ x, va_A (px_w d cA q σ) H.size x → A x := by
  intro x h
  rcases h with ⟨k, e, hk⟩ | h
  · exact hD.2 k _ hk
  · exact hA x (Nat.le_trans hS.1 h)
/-- a call on an object -/
def px_callV (d : px_D) (pc1 ci n : Nat) {γ β : Type} (valb : β → Option Value) (preb : γ → List Value → px_St → Prop) (postb : γ → List Value → px_St → β → px_St → Prop) : px_Op := fun L st σ K => match st.drop n with
  | .ref k :: r => ((d.2.1 k).1 = 10 + ci ∧ k < d.1) ∧ px_rm r ∧ ∃ g : γ, preb g (.ref k :: (st.take n).reverse) σ ∧ ∀ (b : β) (σ' : px_St), postb g (.ref k :: (st.take n).reverse) σ b σ' → K pc1 L ((valb b).toList ++ r) σ'
  | _ => False
def px_callS (pc1 n : Nat) {γ β : Type} (valb : β → Option Value) (preb : γ → List Value → px_St → Prop) (postb : γ → List Value → px_St → β → px_St → Prop) : px_Op := fun L st σ K =>
  n ≤ st.length ∧ px_rm (st.drop n) ∧ ∃ g : γ, preb g (st.take n).reverse σ ∧ ∀ (b : β) (σ' : px_St), postb g (st.take n).reverse σ b σ' → K pc1 L ((valb b).toList ++ st.drop n) σ' 
theorem ps_callV {Z : px_Z} {α : Type} {val : α → Option Value} {po : α → px_St → Prop} {pc : Nat} {γ β : Type} {valb : β → Option Value} {preb : γ → List Value → px_St → Prop} {postb : γ → List Value → px_St → β → px_St → Prop} {y : MethodName} {ws : List Cond} {rm : Room} {bytes : ByteArray} {maxL n index : Nat} {ret : Option FieldType} (hM : ∀ g : γ, px_Met Z.2.2.2.2.2.2 y ws rm valb (preb g) (postb g)) (hvb : ∀ (b : β) (q : Nat → Nat), (valb b).map (px_cv q) = valb b) {ci N : Nat} {C : String} {T : u_T} (hC : vwCl[ci]? = some (C, T, N)) (hcw : ∀ (args : Array Value) (s : State), (∀ w ∈ Z.2.2.2.1, w.before args s = true) → CallW Z.2.2.2.2.2.1 s args Z.2.2.1 C index y bytes maxL ret ws rm 0 0 n) (h : decode Z.1 pc = .ok (.invokevirtual index, 3)) : px_Snd Z val po pc (px_callV Z.2.2.2.2.2.2 (pc + 3) ci n valb preb postb) := by
  intro p l e s m args below meth c D cA q A E hA L st σ K hK ho
  obtain ⟨hx, hb, hml, hown, hts, ⟨hKt, hNw⟩, hr, hlk⟩ := E
  unfold px_callV at ho
  split at ho
  · rename_i k r hd
    obtain ⟨⟨hk1, hk2⟩, hrm, gh, hpre, ho⟩ := ho
    intro ls H locs hl hP hD hS
    have hlen : n ≤ st.length := by
      have h1 := congrArg List.length hd
      rw [List.length_drop, List.length_cons] at h1
      omega
    have hst : st.map (px_cv q) = ((st.take n).reverse.map (px_cv q)).reverse ++ .ref (q k) :: r.map (px_cv q) := by
      rw [← List.map_reverse, List.reverse_reverse, show (Value.ref (q k) :: r.map (px_cv q)) = (Value.ref k :: r).map (px_cv q) from rfl, ← hd, ← List.map_append, List.take_append_drop]
    have he : (px_w Z.2.2.2.2.2.2 cA q σ)[k]? = some (q k, .inr (ci, (Z.2.2.2.2.2.2.2.2.1 ci (σ.1 k) (σ.2 k) k).map (px_cv q))) := by rw [px_w_get hk2, px_cell_obj hk1]
    refine px_cont (va_runV (g := F0 m pc ls (st.map (px_cv q))) (As := (st.take n).reverse.map (px_cv q)) (rest := r.map (px_cv q)) (b := q k) ⟨hx, hb, hml, hown, hts⟩ (hM gh l D cA q (.ref k :: (st.take n).reverse) σ H.size hpre) (hcw args s hts) ⟨px_blind, va_recv hKt hP hC he, fun U hU hW => ⟨rfl, by rw [hU], by rw [hU]; exact hP, ⟨va_K.moved hW.alike hKt, hNw.moved hW hU hS (px_hF hD hS hA)⟩, hD.weaken (fun _ _ _ _ => trivial)⟩⟩ rfl (by rw [List.length_map, List.length_reverse, List.length_take]; omega) hl.1 hst (lv_room (px_rm_cv hrm)) h ⟨Nat.zero_le _, Nat.zero_le _⟩) hS (px_hF hD hS hA) (fun b σ' H1 locs1 hp1 hP1 hS1 => ?_)
    have hg := hK _ _ _ _ (ho b σ' hp1) ls H1 locs1 hl hP1 (px_D_any hD) hS1
    rw [px_map_list (hvb b q)] at hg
    exact hg
  · exact ho.elim
theorem ps_callS {Z : px_Z} {α : Type} {val : α → Option Value} {po : α → px_St → Prop} {pc : Nat} {γ β : Type} {valb : β → Option Value} {preb : γ → List Value → px_St → Prop} {postb : γ → List Value → px_St → β → px_St → Prop} {y : MethodName} {ws : List Cond} {rm : Room} {bytes : ByteArray} {maxL n index : Nat} {ret : Option FieldType} (hM : ∀ g : γ, px_Met Z.2.2.2.2.2.2 y ws rm valb (preb g) (postb g)) (hvb : ∀ (b : β) (q : Nat → Nat), (valb b).map (px_cv q) = valb b) (hcw : ∀ (args : Array Value) (s : State), (∀ w ∈ Z.2.2.2.1, w.before args s = true) → CallB Z.2.2.2.2.2.1 s args Z.2.2.1 index y bytes maxL ret ws rm 0 0 n ∧ (Cond.static y).before args s = true) (h : decode Z.1 pc = .ok (.invokestatic index, 3)) : px_Snd Z val po pc (px_callS (pc + 3) n valb preb postb) := by
  intro p l e s m args below meth c D cA q A E hA L st σ K hK ho
  obtain ⟨hx, hb, hml, hown, hts, ⟨hKt, hNw⟩, hr, hlk⟩ := E
  unfold px_callS at ho
  obtain ⟨hlen, hrm, gh, hpre, ho⟩ := ho
  intro ls H locs hl hP hD hS
  have hst : st.map (px_cv q) = ((st.take n).reverse.map (px_cv q)).reverse ++ (st.drop n).map (px_cv q) := by
    rw [← List.map_reverse, List.reverse_reverse, ← List.map_append, List.take_append_drop]
  refine px_cont (va_runS (g := F0 m pc ls (st.map (px_cv q))) (As := (st.take n).reverse.map (px_cv q)) (rest := (st.drop n).map (px_cv q)) ⟨hx, hb, hml, hown, hts⟩ (hM gh l D cA q (st.take n).reverse σ H.size hpre) (hcw args s hts) ⟨px_blind, fun U hU hW => ⟨rfl, by rw [hU], by rw [hU]; exact hP, ⟨va_K.moved hW.alike hKt, hNw.moved hW hU hS (px_hF hD hS hA)⟩, hD.weaken (fun _ _ _ _ => trivial)⟩⟩ rfl (by rw [List.length_map, List.length_reverse, List.length_take]; omega) hl.1 hst (lv_room (px_rm_cv hrm)) h ⟨Nat.zero_le _, Nat.zero_le _⟩) hS (px_hF hD hS hA) (fun b σ' H1 locs1 hp1 hP1 hS1 => ?_)
  have hg := hK _ _ _ _ (ho b σ' hp1) ls H1 locs1 hl hP1 (px_D_any hD) hS1
  rw [px_map_list (hvb b q)] at hg
  exact hg
theorem ps_callSN {Z : px_Z} {α : Type} {val : α → Option Value} {po : α → px_St → Prop} {pc : Nat} {γ β : Type} {valb : β → Option Value} {preb : γ → List Value → px_St → Prop} {postb : γ → List Value → px_St → β → px_St → Prop} {y : MethodName} {ws : List Cond} {rm : Room} {bytes : ByteArray} {maxL n index : Nat} {ret : Option FieldType} (hM : ∀ g : γ, px_Met Z.2.2.2.2.2.2 y ws rm valb (preb g) (postb g)) (hvb : ∀ (b : β) (q : Nat → Nat), (valb b).map (px_cv q) = valb b) {host : String} (hcw : ∀ (args : Array Value) (s : State), (∀ w ∈ Z.2.2.2.1, w.before args s = true) → px_nn s → va_CN Z.2.2.2.2.2.1 s args Z.2.2.1 index y host bytes maxL ret ws rm 0 0 n ∧ (Cond.static y).before args s = true ∧ True) (h : decode Z.1 pc = .ok (.invokestatic index, 3)) : px_Snd Z val po pc (px_callS (pc + 3) n valb preb postb) := by
  intro p l e s m args below meth c D cA q A E hA L st σ K hK ho
  obtain ⟨hx, hb, hml, hown, hts, ⟨hKt, hNw⟩, hr, hlk⟩ := E
  unfold px_callS at ho
  obtain ⟨hlen, hrm, gh, hpre, ho⟩ := ho
  intro ls H locs hl hP hD hS
  have hst : st.map (px_cv q) = ((st.take n).reverse.map (px_cv q)).reverse ++ (st.drop n).map (px_cv q) := by
    rw [← List.map_reverse, List.reverse_reverse, ← List.map_append, List.take_append_drop]
  refine px_cont (va_runSN (g := F0 m pc ls (st.map (px_cv q))) (As := (st.take n).reverse.map (px_cv q)) (rest := (st.drop n).map (px_cv q)) ⟨hx, hb, hml, hown, hts⟩ (hM gh l D cA q (st.take n).reverse σ H.size hpre) (hcw args s hts hNw.1) ⟨px_blind, fun U hU hW => ⟨rfl, by rw [hU], by rw [hU]; exact hP, ⟨va_K.moved hW.alike hKt, hNw.moved hW hU hS (px_hF hD hS hA)⟩, hD.weaken (fun _ _ _ _ => trivial)⟩⟩ rfl (by rw [List.length_map, List.length_reverse, List.length_take]; omega) hl.1 hst (lv_room (px_rm_cv hrm)) h ⟨Nat.zero_le _, Nat.zero_le _⟩) hS (px_hF hD hS hA) (fun b σ' H1 locs1 hp1 hP1 hS1 => ?_)
  have hg := hK _ _ _ _ (ho b σ' hp1) ls H1 locs1 hl hP1 (px_D_any hD) hS1
  rw [px_map_list (hvb b q)] at hg
  exact hg
theorem px_bo {x : Int32} (h : x = 0 ∨ x = 1) : narrow .boolean (.int x) = .int x ∧ fits .boolean (.int x) = true := by
  rcases h with rfl | rfl <;> exact ⟨by decide, by decide⟩
theorem fa_eqI (a b : Int32) : a = b ↔ a.toInt = b.toInt := Int32.toInt_inj.symm
/-- a switch: its cases one behind another -/
def px_swc : List (Int32 × Nat) → Nat → Int32 → (Nat → Prop) → Prop
  | [], df, _, k => k df
  | (v, t) :: ts, df, x, k => (x = v → k t) ∧ (¬ x = v → px_swc ts df x k)
def px_swt : List (Int32 × Nat) → Nat → Int32 → Nat
  | [], df, _ => df
  | (v, t) :: ts, df, x => if x = v then t else px_swt ts df x
theorem px_swc_t : ∀ (ts : List (Int32 × Nat)) (df : Nat) (x : Int32) (k : Nat → Prop), px_swc ts df x k → k (px_swt ts df x)
  | [], df, x, k, h => h
  | (v, t) :: ts, df, x, k, h => by
    rw [px_swt]
    by_cases e : x = v
    · rw [if_pos e]; exact h.1 e
    · rw [if_neg e]; exact px_swc_t ts df x k (h.2 e)
def px_sw (ts : List (Int32 × Nat)) (df : Nat) : px_Op := fun L st σ K => match st with
  | .int x :: r => px_swc ts df x (fun t => K t L r σ)
  | _ => False
def px_tswOk (pc : Nat) (dflt lo hi : Int) (offs : Array Int) (ts : List (Int32 × Nat)) (df : Nat) : Prop := ∀ x : Int32, (¬ x.toInt < lo → ¬ hi < x.toInt → ∃ off, offs[(x.toInt - lo).toNat]? = some off ∧ (pc : Int) + off = (px_swt ts df x : Int)) ∧ ((x.toInt < lo ∨ hi < x.toInt) → (pc : Int) + dflt = (px_swt ts df x : Int))
def px_lswOk (pc : Nat) (dflt : Int) (ps : Array (Int × Int)) (ts : List (Int32 × Nat)) (df : Nat) : Prop := ∀ x : Int32, (pc : Int) + Op.lookupswitch.offset ps.toList dflt x.toInt = (px_swt ts df x : Int)
theorem ps_tsw {Z : px_Z} {α : Type} {val : α → Option Value} {po : α → px_St → Prop} {pc : Nat} {dflt lo hi : Int} {offs : Array Int} {len df : Nat} {ts : List (Int32 × Nat)} (h : decode Z.1 pc = .ok (.tableswitch dflt lo hi offs, len)) (ht : px_tswOk pc dflt lo hi offs ts df) : px_Snd Z val po pc (px_sw ts df) := by
  intro p l e s m args below meth c D cA q A E hA L st σ K hK ho
  obtain ⟨hx, hb, hml, hown, hts, ⟨hKt, hNw⟩, hr, hlk⟩ := E
  unfold px_sw at ho
  split at ho
  · rename_i x r
    intro ls H locs hl hP hD hS
    have hg := hK _ _ _ _ (px_swc_t ts df x _ ho) ls H locs hl hP hD hS
    by_cases h1 : x.toInt < lo ∨ hi < x.toInt
    · exact lv_tableOut hx hb h h1 ((ht x).2 h1) hg
    · have h2 : ¬ x.toInt < lo := fun z => h1 (Or.inl z)
      have h3 : ¬ hi < x.toInt := fun z => h1 (Or.inr z)
      obtain ⟨off, ho1, ho2⟩ := (ht x).1 h2 h3
      exact lv_tableIn hx hb h h2 h3 ho1 ho2 hg
  · exact ho.elim
theorem ps_lsw {Z : px_Z} {α : Type} {val : α → Option Value} {po : α → px_St → Prop} {pc : Nat} {dflt : Int} {ps : Array (Int × Int)} {len df : Nat} {ts : List (Int32 × Nat)} (h : decode Z.1 pc = .ok (.lookupswitch dflt ps, len)) (hp : (ps.toList.zip (ps.toList.drop 1)).all (fun (a, next) => a.1 < next.1) = true) (ht : px_lswOk pc dflt ps ts df) : px_Snd Z val po pc (px_sw ts df) := by
  intro p l e s m args below meth c D cA q A E hA L st σ K hK ho
  obtain ⟨hx, hb, hml, hown, hts, ⟨hKt, hNw⟩, hr, hlk⟩ := E
  unfold px_sw at ho
  split at ho
  · rename_i x r
    intro ls H locs hl hP hD hS
    have hg := hK _ _ _ _ (px_swc_t ts df x _ ho) ls H locs hl hP hD hS
    exact lv_lookup hx hb h hp rfl (ht x) hg
  · exact ho.elim
