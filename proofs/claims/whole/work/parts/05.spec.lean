/-! ===== what an aviary IS: numbers and lists, without the machine ===== -/
/-- a parrot: kind, place, memory -/
abbrev pv_P : Type := Nat × Nat × List Nat
/-- an aviary: how many parrots, ear, day, the parrots -/
abbrev pv_V : Type := Nat × Nat × Nat × (Nat → pv_P)
def pv_put (m : List Nat) (s : Nat) : List Nat := if m.length < 6 then m ++ [s] else m.drop 1 ++ [s]
def pv_ahead (m : List Nat) (s : Nat) : List Nat := s :: m.take 5
def pv_learn (P : pv_P) (s : Nat) : pv_P :=
  if P.1 = 1 then P else if P.1 = 2 then (P.1, P.2.1, pv_put P.2.2 s) else if s ∈ P.2.2 then P else if P.1 = 3 then (P.1, P.2.1, pv_ahead P.2.2 s) else (P.1, P.2.1, pv_put P.2.2 s)
def pv_next (P : pv_P) : Nat := if P.1 = 1 then (P.2.1 + 2) % P.2.2.length else if P.1 = 3 then (P.2.1 + (P.2.2.length - 1)) % P.2.2.length else (P.2.1 + 1) % P.2.2.length
def pv_at (V : pv_V) (p : Nat) (P : pv_P) : pv_V := (V.1, V.2.1, V.2.2.1, fun q => if q = p then P else V.2.2.2 q)
def pv_spk (V : pv_V) : Int32 := if V.1 = 0 then -4 else nI (V.2.2.1 % V.1)
/-- the sound that is due, where there is a parrot -/
def pv_due (V : pv_V) : Nat := (V.2.2.2 (V.2.2.1 % V.1)).2.2.getD (V.2.2.2 (V.2.2.1 % V.1)).2.1 0
def pv_said (V : pv_V) : Int32 := if V.1 = 0 then -4 else nI (pv_due V)
def pv_hears (V : pv_V) (q : Nat) : Prop := q ≤ V.2.2.1 % V.1 + V.2.1 ∧ V.2.2.1 % V.1 ≤ q + V.2.1
/-- a day goes by -/
noncomputable def pv_day (V : pv_V) : pv_V := (V.1, V.2.1, V.2.2.1 + 1, fun q => if V.1 = 0 then V.2.2.2 q else if q = V.2.2.1 % V.1 then ((V.2.2.2 q).1, pv_next (V.2.2.2 q), (V.2.2.2 q).2.2) else if q ≤ V.2.2.1 % V.1 + V.2.1 ∧ V.2.2.1 % V.1 ≤ q + V.2.1 then pv_learn (V.2.2.2 q) (pv_due V) else V.2.2.2 q)
/-- sound numbers: a parrot; without its place -/
def pv_okW (P : pv_P) : Prop := P.1 ≤ 3 ∧ P.2.2.length ≤ 6 ∧ ∀ x ∈ P.2.2, x ≤ 9
def pv_w (V : pv_V) : Prop := V.1 ≤ 5 ∧ (1 ≤ V.2.1 ∧ V.2.1 ≤ 4) ∧ V.2.2.1 < 2000 ∧ ∀ p, p < V.1 → pv_okW (V.2.2.2 p)
def pv_ok (V : pv_V) : Prop := pv_w V ∧ ∀ p, p < V.1 → (V.2.2.2 p).2.1 < (V.2.2.2 p).2.2.length
/-- the bits of the sounds of a memory, as the machine adds them up -/
def pv_bits (m : List Nat) (b : Int32) : Int32 := m.foldl (fun b x => b ||| (1 <<< (nI x &&& 31))) b
noncomputable def pv_knowers (V : pv_V) (s : Nat) : Nat → Int32
  | 0 => 0
  | k + 1 => if s ∈ (V.2.2.2 k).2.2 then pv_knowers V s k ||| (1 <<< (nI k &&& 31)) else pv_knowers V s k
def pv_sum (f : Nat → Int32) : Nat → Int32
  | 0 => 0
  | k + 1 => pv_sum f k + f k
def pv_acc (m : List Nat) (b : Int32) : Int32 := m.foldl (fun b x => b + nI x) b
def pv_all (V : pv_V) : Nat → Int32
  | 0 => 0
  | k + 1 => pv_acc (V.2.2.2 k).2.2 (pv_all V k)
/-! ===== the class's cells of an aviary ===== -/
def av_par (σ : px_St) (a p : Nat) (P : pv_P) : Prop := σ.1 (a + 1) p = nI P.1 ∧ σ.1 (a + 2) p = nI P.2.2.length ∧ σ.1 (a + 3) p = nI P.2.1 ∧ ∀ i x, P.2.2[i]? = some x → σ.1 (a + 4) (6 * p + i) = nI x
def av_is (σ : px_St) (a : Nat) (V : pv_V) : Prop := (σ.1 a 0 = nI V.1 ∧ σ.1 a 1 = nI V.2.1 ∧ σ.1 a 2 = nI V.2.2.1) ∧ ∀ p, p < V.1 → av_par σ a p (V.2.2.2 p)
/-- nothing but the aviary at a has changed -/
def px_only (a : Nat) (σ σ' : px_St) : Prop := (∀ k, k < a ∨ a + 4 < k → σ'.1 k = σ.1 k) ∧ σ'.2 = σ.2
/-- nothing but its parrot p -/
def px_onlyP (a p : Nat) (σ σ' : px_St) : Prop := (∀ k, k < a + 1 ∨ a + 4 < k → σ'.1 k = σ.1 k) ∧ σ'.2 = σ.2 ∧ (∀ t, 1 ≤ t → t ≤ 3 → ∀ j, j ≠ p → σ'.1 (a + t) j = σ.1 (a + t) j) ∧ ∀ j, j < 6 * p ∨ 6 * p + 6 ≤ j → σ'.1 (a + 4) j = σ.1 (a + 4) j
theorem px_only.rf {a : Nat} {σ : px_St} : px_only a σ σ := ⟨fun _ _ => rfl, rfl⟩
theorem px_only.tr {a : Nat} {σ σ' σ'' : px_St} (h : px_only a σ σ') (h' : px_only a σ' σ'') : px_only a σ σ'' := ⟨fun k hk => (h'.1 k hk).trans (h.1 k hk), h'.2.trans h.2⟩
theorem px_onlyP.only {a p : Nat} {σ σ' : px_St} (h : px_onlyP a p σ σ') : px_only a σ σ' := ⟨fun k hk => h.1 k (by omega), h.2.1⟩
theorem px_onlyP.rf {a p : Nat} {σ : px_St} : px_onlyP a p σ σ := ⟨fun _ _ => rfl, rfl, fun _ _ _ _ _ => rfl, fun _ _ => rfl⟩
theorem px_onlyP.tr {a p : Nat} {σ σ' σ'' : px_St} (h : px_onlyP a p σ σ') (h' : px_onlyP a p σ' σ'') : px_onlyP a p σ σ'' := ⟨fun k hk => (h'.1 k hk).trans (h.1 k hk), h'.2.1.trans h.2.1, fun t h1 h2 j hj => (h'.2.2.1 t h1 h2 j hj).trans (h.2.2.1 t h1 h2 j hj), fun j hj => (h'.2.2.2 j hj).trans (h.2.2.2 j hj)⟩
theorem av_apart {a b : Nat} (ha : px_av a) (hb : px_av b) (h : a ≠ b) : a + 4 < b ∨ b + 4 < a := by
  unfold px_av at ha hb
  omega
theorem av_par.kept {σ σ' : px_St} {a p : Nat} {P : pv_P} (h : av_par σ a p P) (hl : P.2.2.length ≤ 6) (h1 : σ'.1 (a + 1) p = σ.1 (a + 1) p) (h2 : σ'.1 (a + 2) p = σ.1 (a + 2) p) (h3 : σ'.1 (a + 3) p = σ.1 (a + 3) p) (h4 : ∀ i, i < 6 → σ'.1 (a + 4) (6 * p + i) = σ.1 (a + 4) (6 * p + i)) : av_par σ' a p P := by
  obtain ⟨g1, g2, g3, g4⟩ := h
  refine ⟨h1.trans g1, h2.trans g2, h3.trans g3, fun i x hi => ?_⟩
  have hlt := (List.getElem?_eq_some_iff.mp hi).1
  rw [h4 i (by omega)]
  exact g4 i x hi
theorem av_is.only {σ σ' : px_St} {a b : Nat} {V : pv_V} (h : av_is σ b V) (ha : px_av a) (hb : px_av b) (hab : a ≠ b) (ho : px_only a σ σ') : av_is σ' b V := by
  have hk := av_apart ha hb hab
  obtain ⟨⟨h1, h2, h3⟩, h4⟩ := h
  have e : ∀ t, t ≤ 4 → σ'.1 (b + t) = σ.1 (b + t) := fun t ht => ho.1 _ (by omega)
  have e0 : σ'.1 b = σ.1 b := ho.1 _ (by omega)
  refine ⟨⟨by rw [e0]; exact h1, by rw [e0]; exact h2, by rw [e0]; exact h3⟩, fun p hp => ?_⟩
  obtain ⟨g1, g2, g3, g4⟩ := h4 p hp
  exact ⟨by rw [e 1 (by omega)]; exact g1, by rw [e 2 (by omega)]; exact g2, by rw [e 3 (by omega)]; exact g3, fun i x hi => by rw [e 4 (by omega)]; exact g4 i x hi⟩
/-- one parrot is changed -/
theorem av_mod {σ σ' : px_St} {a p : Nat} {V : pv_V} {P : pv_P} (hV : av_is σ a V) (hw : ∀ q, q < V.1 → (V.2.2.2 q).2.2.length ≤ 6) (ho : px_onlyP a p σ σ') (hP : av_par σ' a p P) : av_is σ' a (pv_at V p P) := by
  obtain ⟨⟨h1, h2, h3⟩, h4⟩ := hV
  obtain ⟨o1, o2, o3, o4⟩ := ho
  have e0 : σ'.1 a = σ.1 a := o1 a (by omega)
  refine ⟨⟨by rw [e0]; exact h1, by rw [e0]; exact h2, by rw [e0]; exact h3⟩, fun q hq => ?_⟩
  show av_par σ' a q (if q = p then P else V.2.2.2 q)
  by_cases hqp : q = p
  · subst hqp
    rw [if_pos rfl]
    exact hP
  · rw [if_neg hqp]
    exact (h4 q hq).kept (hw q hq) (o3 1 (by omega) (by omega) q hqp) (o3 2 (by omega) (by omega) q hqp) (o3 3 (by omega) (by omega) q hqp) (fun i hi => o4 _ (by omega))
theorem ix6 (p i : Nat) : nI p * 6 + nI i = nI (6 * p + i) := by
  rw [show (6 : Int32) = nI 6 from rfl, pk_mul, nI_add, Nat.mul_comm]
theorem ix60 (p : Nat) : nI p * 6 = nI (6 * p) := by
  rw [show (6 : Int32) = nI 6 from rfl, pk_mul, Nat.mul_comm]
theorem px_up_at (σ : px_St) (k j : Nat) (x : Int32) (k' j' : Nat) : (px_up σ k j x).1 k' j' = if k' = k ∧ j' = j then x else σ.1 k' j' := by
  unfold px_up upd
  by_cases h : k' = k
  · subst h
    simp
  · simp [h]
theorem px_up_2 (σ : px_St) (k j : Nat) (x : Int32) : (px_up σ k j x).2 = σ.2 := rfl
theorem px_onlyP.up4 {σ : px_St} {a p j : Nat} {x : Int32} (h1 : 6 * p ≤ j) (h2 : j < 6 * p + 6) : px_onlyP a p σ (px_up σ (a + 4) j x) := by
  refine ⟨fun k hk => px_up_n (by omega), rfl, fun t h3 h4 i hi => by rw [px_up_n (by omega)], fun i hi => ?_⟩
  rw [px_up_at, if_neg (by omega)]
theorem px_onlyP.upt {σ : px_St} {a p t : Nat} {x : Int32} (h1 : 1 ≤ t) (h2 : t ≤ 3) : px_onlyP a p σ (px_up σ (a + t) p x) := by
  refine ⟨fun k hk => px_up_n (by omega), rfl, fun t' h3 h4 i hi => ?_, fun i hi => by rw [px_up_n (by omega)]⟩
  rw [px_up_at, if_neg (by omega)]
theorem pv_at_w {V : pv_V} {p : Nat} {P : pv_P} (h : pv_w V) (hP : pv_okW P) : pv_w (pv_at V p P) := by
  obtain ⟨h1, h2, h3, h4⟩ := h
  refine ⟨h1, h2, h3, fun q hq => ?_⟩
  show pv_okW (if q = p then P else V.2.2.2 q)
  by_cases hqp : q = p
  · rw [if_pos hqp]; exact hP
  · rw [if_neg hqp]; exact h4 q hq
theorem pv_put_len (m : List Nat) (s : Nat) : (pv_put m s).length ≤ max 6 m.length ∧ 1 ≤ (pv_put m s).length ∧ m.length ≤ (pv_put m s).length := by
  unfold pv_put
  by_cases h : m.length < 6
  · rw [if_pos h]; simp; omega
  · rw [if_neg h]; simp; omega
theorem pv_put_mem {m : List Nat} {s x : Nat} (h : x ∈ pv_put m s) : x ∈ m ∨ x = s := by
  unfold pv_put at h
  by_cases hl : m.length < 6
  · rw [if_pos hl] at h
    simpa using h
  · rw [if_neg hl] at h
    rcases List.mem_append.mp h with h | h
    · exact Or.inl (List.mem_of_mem_drop h)
    · exact Or.inr (by simpa using h)
theorem pv_put_ok {P : pv_P} {s : Nat} (h : pv_okW P) (hs : s ≤ 9) : pv_okW (P.1, P.2.1, pv_put P.2.2 s) := by
  refine ⟨h.1, ?_, fun x hx => ?_⟩
  · have := (pv_put_len P.2.2 s).1
    have := h.2.1
    simp only
    omega
  · rcases pv_put_mem hx with h1 | h1
    · exact h.2.2 x h1
    · omega
theorem pv_ahead_ok {P : pv_P} {s : Nat} (h : pv_okW P) (hs : s ≤ 9) : pv_okW (P.1, P.2.1, pv_ahead P.2.2 s) := by
  refine ⟨h.1, ?_, fun x hx => ?_⟩
  · simp only [pv_ahead, List.length_cons, List.length_take]
    omega
  · rcases List.mem_cons.mp hx with h1 | h1
    · omega
    · exact h.2.2 x (List.mem_of_mem_take h1)
theorem pv_learn_ok {P : pv_P} {s : Nat} (h : pv_okW P) (hs : s ≤ 9) : pv_okW (pv_learn P s) := by
  unfold pv_learn
  repeat' split
  all_goals first | exact h | exact pv_put_ok h hs | exact pv_ahead_ok h hs
theorem pv_ahead_len (m : List Nat) (s : Nat) (h : m.length ≤ 6) : m.length ≤ (pv_ahead m s).length := by
  simp only [pv_ahead, List.length_cons, List.length_take]
  omega
theorem pv_learn_len {P : pv_P} {s : Nat} (h : P.2.2.length ≤ 6) : (pv_learn P s).2.1 = P.2.1 ∧ P.2.2.length ≤ (pv_learn P s).2.2.length := by
  unfold pv_learn
  repeat' split
  all_goals first | exact ⟨rfl, Nat.le_refl _⟩ | exact ⟨rfl, (pv_put_len _ _).2.2⟩ | exact ⟨rfl, pv_ahead_len _ _ h⟩
theorem pv_next_lt {P : pv_P} (h : 0 < P.2.2.length) : pv_next P < P.2.2.length := by
  unfold pv_next
  repeat' split
  all_goals exact Nat.mod_lt _ h
theorem pv_spk_lt {V : pv_V} (h : 0 < V.1) : V.2.2.1 % V.1 < V.1 := Nat.mod_lt _ h
theorem pv_due_le {V : pv_V} (h : pv_ok V) (hn : 0 < V.1) : pv_due V ≤ 9 := by
  have hp := pv_spk_lt hn
  have h1 := h.2 _ hp
  have h2 := (h.1.2.2.2 _ hp).2.2
  unfold pv_due
  rw [List.getD_eq_getElem?_getD, List.getElem?_eq_getElem h1]
  exact h2 _ (List.getElem_mem h1)
theorem pv_day_ok {V : pv_V} (h : pv_ok V) (hd : V.2.2.1 < 1999) : pv_ok (pv_day V) := by
  obtain ⟨⟨h1, h2, h3, h4⟩, h5⟩ := id h
  refine ⟨⟨h1, h2, ?_, fun q hq => ?_⟩, fun q hq => ?_⟩
  · show V.2.2.1 + 1 < 2000
    omega
  · have hq' : q < V.1 := hq
    show pv_okW (if V.1 = 0 then V.2.2.2 q else if q = V.2.2.1 % V.1 then ((V.2.2.2 q).1, pv_next (V.2.2.2 q), (V.2.2.2 q).2.2) else if q ≤ V.2.2.1 % V.1 + V.2.1 ∧ V.2.2.1 % V.1 ≤ q + V.2.1 then pv_learn (V.2.2.2 q) (pv_due V) else V.2.2.2 q)
    repeat' split
    · exact h4 q hq'
    · exact h4 q hq'
    · exact pv_learn_ok (h4 q hq') (pv_due_le h (by omega))
    · exact h4 q hq'
  · have hq' : q < V.1 := hq
    show (if V.1 = 0 then V.2.2.2 q else if q = V.2.2.1 % V.1 then ((V.2.2.2 q).1, pv_next (V.2.2.2 q), (V.2.2.2 q).2.2) else if q ≤ V.2.2.1 % V.1 + V.2.1 ∧ V.2.2.1 % V.1 ≤ q + V.2.1 then pv_learn (V.2.2.2 q) (pv_due V) else V.2.2.2 q).2.1 < (if V.1 = 0 then V.2.2.2 q else if q = V.2.2.1 % V.1 then ((V.2.2.2 q).1, pv_next (V.2.2.2 q), (V.2.2.2 q).2.2) else if q ≤ V.2.2.1 % V.1 + V.2.1 ∧ V.2.2.1 % V.1 ≤ q + V.2.1 then pv_learn (V.2.2.2 q) (pv_due V) else V.2.2.2 q).2.2.length
    have h6 := h5 q hq'
    repeat' split
    · exact h6
    · exact pv_next_lt (by omega)
    · obtain ⟨g1, g2⟩ := pv_learn_len (s := pv_due V) (h4 q hq').2.1
      rw [g1]
      omega
    · exact h6
