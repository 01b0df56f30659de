/-! ===== lines of a text ===== -/
def pt_b {α β : Type} (x : Sum (Nat × Nat) α) (k : α → Sum (Nat × Nat) β) : Sum (Nat × Nat) β := match x with
  | .inl f => .inl f
  | .inr a => k a
theorem pt_bl {α β : Type} {f : Nat × Nat} {k : α → Sum (Nat × Nat) β} : pt_b (.inl f) k = .inl f := rfl
theorem pt_br {α β : Type} {a : α} {k : α → Sum (Nat × Nat) β} : pt_b (.inr a) k = k a := rfl
def pt_snd (T : List Nat) : Nat → List Nat → pt_K → Sum (Nat × Nat) (List Nat × pt_K)
  | 0, m, t => if t.1 = 2 then .inl (5, t.2.1) else .inr (m, t)
  | f + 1, m, t => if t.1 = 2 then (if t.2.2.2 ≤ 9 then pt_b (pt_next T t.2.2.1) (fun t' => pt_snd T f (m ++ [t.2.2.2]) t') else .inl (3, t.2.1)) else .inr (m, t)
def pt_flt (V : pv_V) (K e : Nat) : Nat := if K = 9 then 2 else if K = 4 then (if e = 1 then 4 else 0) else if V.1 < 5 then 0 else 5
def pt_body (T : List Nat) (V : pv_V) (e K : Nat) (t : pt_K) : Sum (Nat × Nat) (pv_V × Nat × pt_K) :=
  if K = 4 then (if 1 ≤ t.2.2.2 ∧ t.2.2.2 ≤ 4 then pt_b (pt_next T t.2.2.1) (fun t2 => .inr (pv_ear V t.2.2.2, 1, t2)) else .inl (3, t.2.1))
  else pt_b (pt_snd T 6 [] t) (fun w => .inr (pv_add V (K, 0, w.1), e, w.2))
noncomputable def pt_key (T : List Nat) (t : pt_K) : Nat := if t.1 = 1 then pt_name T t.2.1 t.2.2.1 else 9
noncomputable def pt_line (T : List Nat) (V : pv_V) (e : Nat) (t : pt_K) : Sum (Nat × Nat) (pv_V × Nat × pt_K) :=
  if pt_flt V (pt_key T t) e = 0 then pt_b (pt_next T t.2.2.1) (fun t1 => if t1.1 = 2 then pt_b (pt_body T V e (pt_key T t) t1) (fun w => if w.2.2.1 = 3 then .inr w else .inl (2, w.2.2.2.1)) else .inl (2, t1.2.1))
  else .inl (pt_flt V (pt_key T t) e, t.2.1)
noncomputable def pt_lines (T : List Nat) : Nat → pv_V → Nat → pt_K → Nat → Sum (Nat × Nat) (pv_V × Nat)
  | 0, _, _, _, _ => .inl (1, 0)
  | f + 1, V, e, t, n => if t.1 = 0 then .inr (V, n) else pt_b (pt_line T V e t) (fun w => pt_b (pt_next T w.2.2.2.2.1) (fun t' => pt_lines T f w.1 w.2.1 t' (n + 1)))
def pv_0 : pv_V := (0, 1, 0, fun _ => (0, 0, []))
noncomputable def pt_text (T : List Nat) : Sum (Nat × Nat) (pv_V × Nat) := pt_b (pt_next T 0) (fun t => pt_lines T 161 pv_0 0 t 0)
noncomputable def x_text0 (X : pv_X) : Sum (Nat × Nat) (pv_V × Nat) → Int32 × pv_X
  | .inl f => (-10 - nI f.2, xF (xT X []) f.1)
  | .inr w => (nI w.2, (w.1, [], [], (fun _ => none), 0, X.2.2.2.2.2))
noncomputable def x_text (X : pv_X) : Int32 × pv_X := x_text0 X (pt_text X.2.2.1)
/-- sound: a fault has a number and a place, what is good is as Q says -/
def pt_good {α : Type} (Q : α → Prop) : Sum (Nat × Nat) α → Prop
  | .inl f => (1 ≤ f.1 ∧ f.1 ≤ 5) ∧ f.2 ≤ 160
  | .inr a => Q a
theorem pt_b_good {α β : Type} {Q : α → Prop} {R : β → Prop} {x : Sum (Nat × Nat) α} {k : α → Sum (Nat × Nat) β} (h : pt_good Q x) (hk : ∀ a, Q a → pt_good R (k a)) : pt_good R (pt_b x k) := by
  cases x with
  | inl f => exact h
  | inr a => exact hk a h
def tk_ok (T : List Nat) (t : pt_K) : Prop := t.1 ≤ 3 ∧ t.2.1 ≤ t.2.2.1 ∧ t.2.2.1 ≤ T.length ∧ t.2.2.2 ≤ 99 ∧ (t.1 ≠ 0 → t.2.1 < t.2.2.1)
theorem pt_next_good {T : List Nat} {p : Nat} (hT : tx_ok T) (hp : p ≤ T.length) : pt_good (fun t => tk_ok T t ∧ p ≤ t.2.1) (pt_next T p) := by
  have hl := hT.1
  obtain ⟨⟨b1, b2⟩, -⟩ := pt_go_b (P := is_s) hp
  unfold pt_next pt_cl
  generalize pt_go is_s T p = f at b1 b2
  by_cases h1 : T.length ≤ f
  · rw [if_pos h1]
    exact ⟨⟨by show 0 ≤ 3; omega, Nat.le_refl _, b2, by show 0 ≤ 99; omega, fun q => absurd rfl q⟩, b1⟩
  · rw [if_neg h1]
    by_cases h2 : is_l (ch T f) = true
    · rw [if_pos h2]
      obtain ⟨⟨c1, c2⟩, -⟩ := pt_go_b (P := is_l) b2
      obtain ⟨⟨d1, d2⟩, -⟩ := pt_go_b (P := is_l) (p := f + 1) (T := T) (by omega)
      rw [← pt_go_s (by omega) h2] at d1
      exact ⟨⟨by show 1 ≤ 3; omega, c1, c2, by show 0 ≤ 99; omega, fun _ => by show f < pt_go is_l T f; omega⟩, b1⟩
    · rw [if_neg h2]
      by_cases h3 : is_f (ch T f) = true
      · rw [if_pos h3]
        obtain ⟨⟨c1, c2⟩, c3⟩ := pt_go_b (P := is_f) b2
        obtain ⟨⟨d1, d2⟩, -⟩ := pt_go_b (P := is_f) (p := f + 1) (T := T) (by omega)
        rw [← pt_go_s (by omega) h3] at d1
        by_cases h4 : pt_go is_f T f - f ≤ 2
        · rw [if_pos h4]
          refine ⟨⟨by show 2 ≤ 3; omega, c1, c2, ?_, fun _ => by show f < pt_go is_f T f; omega⟩, b1⟩
          show pt_vl T f (pt_go is_f T f - f) ≤ 99
          have e0 := is_f_iff.mp h3
          have hd : pt_go is_f T f - f = 1 ∨ pt_go is_f T f - f = 2 := by omega
          rcases hd with hd | hd
          · rw [hd]
            show ch T f - 48 ≤ 99
            omega
          · have e1 := is_f_iff.mp (c3 (f + 1) (by omega) (by omega))
            rw [hd]
            show 10 * (ch T f - 48) + (ch T (f + 1) - 48) ≤ 99
            omega
        · rw [if_neg h4]
          exact ⟨⟨by show 1 ≤ 1; omega, by show 1 ≤ 5; omega⟩, by show f ≤ 160; omega⟩
      · rw [if_neg h3]
        by_cases h5 : ch T f = 59
        · rw [if_pos h5]
          exact ⟨⟨by show 3 ≤ 3; omega, by show f ≤ f + 1; omega, by show f + 1 ≤ T.length; omega, by show 0 ≤ 99; omega, fun _ => by show f < f + 1; omega⟩, b1⟩
        · rw [if_neg h5]
          exact ⟨⟨by show 1 ≤ 1; omega, by show 1 ≤ 5; omega⟩, by show f ≤ 160; omega⟩
theorem pt_snd_good {T : List Nat} (hT : tx_ok T) : ∀ (f : Nat) (m : List Nat) (t : pt_K), tk_ok T t → m.length + f = 6 → (∀ x ∈ m, x ≤ 9) → pt_good (fun w : List Nat × pt_K => (w.1.length ≤ 6 ∧ ∀ x ∈ w.1, x ≤ 9) ∧ tk_ok T w.2 ∧ t.2.1 ≤ w.2.2.1 ∧ m.length ≤ w.1.length ∧ (t.1 = 2 → m.length < w.1.length)) (pt_snd T f m t)
  | 0, m, t, ht, hm, hx => by
    have hl := hT.1
    have h1 := ht.2.1
    have h2 := ht.2.2.1
    rw [pt_snd]
    by_cases h : t.1 = 2
    · rw [if_pos h]; exact ⟨⟨by show 1 ≤ 5; omega, by show 5 ≤ 5; omega⟩, by show t.2.1 ≤ 160; omega⟩
    · rw [if_neg h]; exact ⟨⟨by show m.length ≤ 6; omega, hx⟩, ht, Nat.le_refl _, Nat.le_refl _, fun q => absurd q h⟩
  | f + 1, m, t, ht, hm, hx => by
    have hl := hT.1
    have h1 := ht.2.1
    have h2 := ht.2.2.1
    rw [pt_snd]
    by_cases h : t.1 = 2
    · rw [if_pos h]
      by_cases h9 : t.2.2.2 ≤ 9
      · rw [if_pos h9]
        refine pt_b_good (pt_next_good hT ht.2.2.1) (fun t' ht' => ?_)
        have ih := pt_snd_good hT f (m ++ [t.2.2.2]) t' ht'.1 (by rw [List.length_append]; show m.length + 1 + f = 6; omega) (fun x hx' => by
          rcases List.mem_append.mp hx' with q | q
          · exact hx x q
          · rw [List.mem_singleton.mp q]; exact h9)
        have h3 := ht'.2
        cases hs : pt_snd T f (m ++ [t.2.2.2]) t' with
        | inl f' => rw [hs] at ih; exact ih
        | inr w =>
          rw [hs] at ih
          obtain ⟨i1, i2, i3, i4, -⟩ := ih
          rw [List.length_append] at i4
          have i4 : m.length + 1 ≤ w.1.length := i4
          exact ⟨i1, i2, by show t.2.1 ≤ w.2.2.1; omega, by show m.length ≤ w.1.length; omega, fun _ => by show m.length < w.1.length; omega⟩
      · rw [if_neg h9]; exact ⟨⟨by show 1 ≤ 3; omega, by show 3 ≤ 5; omega⟩, by show t.2.1 ≤ 160; omega⟩
    · rw [if_neg h]; exact ⟨⟨by show m.length ≤ 6; omega, hx⟩, ht, Nat.le_refl _, Nat.le_refl _, fun q => absurd q h⟩
theorem pt_name_le (T : List Nat) (f t : Nat) : pt_name T f t ≤ 4 ∨ pt_name T f t = 9 := by
  unfold pt_name
  by_cases h0 : pt_nm T f t 0
  · rw [xif_t h0]; omega
  · rw [xif_f h0]
    by_cases h1 : pt_nm T f t 1
    · rw [xif_t h1]; omega
    · rw [xif_f h1]
      by_cases h2 : pt_nm T f t 2
      · rw [xif_t h2]; omega
      · rw [xif_f h2]
        by_cases h3 : pt_nm T f t 3
        · rw [xif_t h3]; omega
        · rw [xif_f h3]
          by_cases h4 : pt_nm T f t 4
          · rw [xif_t h4]; omega
          · rw [xif_f h4]; omega
theorem pt_key_le (T : List Nat) (t : pt_K) : pt_key T t ≤ 4 ∨ pt_key T t = 9 := by
  unfold pt_key
  by_cases h : t.1 = 1
  · rw [if_pos h]; exact pt_name_le _ _ _
  · rw [if_neg h]; omega
theorem pt_flt_le (V : pv_V) (K e : Nat) : pt_flt V K e ≤ 5 := by
  unfold pt_flt
  repeat' split
  all_goals omega
def pt_Q (T : List Nat) (V : pv_V) (p : Nat) (w : pv_V × Nat × pt_K) : Prop := (pv_ok w.1 ∧ w.1.2.2.1 = V.2.2.1) ∧ w.2.1 ≤ 1 ∧ tk_ok T w.2.2 ∧ p ≤ w.2.2.2.1
theorem pv_add_ok {V : pv_V} {P : pv_P} (h : pv_ok V) (hn : V.1 < 5) (hP : pv_okW P) (hl : P.2.1 < P.2.2.length) : pv_ok (pv_add V P) := by
  refine ⟨pv_add_w h.1 hn hP, fun q hq => ?_⟩
  have hq' : q < V.1 + 1 := hq
  show (if q = V.1 then P else V.2.2.2 q).2.1 < (if q = V.1 then P else V.2.2.2 q).2.2.length
  by_cases hqe : q = V.1
  · rw [if_pos hqe]; exact hl
  · rw [if_neg hqe]; exact h.2 q (by omega)
theorem pt_body_good {T : List Nat} {V : pv_V} {e K : Nat} {t : pt_K} (hT : tx_ok T) (hV : pv_ok V) (he : e ≤ 1) (hK : K ≤ 4) (hn : K ≠ 4 → V.1 < 5) (ht : tk_ok T t) (h2 : t.1 = 2) : pt_good (pt_Q T V t.2.1) (pt_body T V e K t) := by
  have hl := hT.1
  have h3 := ht.2.1
  have h4 := ht.2.2.1
  unfold pt_body
  by_cases hk : K = 4
  · rw [if_pos hk]
    by_cases hv : 1 ≤ t.2.2.2 ∧ t.2.2.2 ≤ 4
    · rw [if_pos hv]
      refine pt_b_good (pt_next_good hT ht.2.2.1) (fun t2 ht2 => ?_)
      have := ht2.2
      exact ⟨⟨pv_ear_ok hV hv.1 hv.2, rfl⟩, Nat.le_refl 1, ht2.1, by show t.2.1 ≤ t2.2.1; omega⟩
    · rw [if_neg hv]; exact ⟨⟨by show 1 ≤ 3; omega, by show 3 ≤ 5; omega⟩, by show t.2.1 ≤ 160; omega⟩
  · rw [if_neg hk]
    refine pt_b_good (pt_snd_good hT 6 [] t ht rfl (fun x hx => absurd hx List.not_mem_nil)) (fun w hw => ?_)
    obtain ⟨w1, w2, w3, -, w5⟩ := hw
    exact ⟨⟨pv_add_ok hV (hn hk) ⟨by show K ≤ 3; omega, w1.1, w1.2⟩ (w5 h2), rfl⟩, he, w2, w3⟩
theorem pt_line_good {T : List Nat} {V : pv_V} {e : Nat} {t : pt_K} (hT : tx_ok T) (hV : pv_ok V) (he : e ≤ 1) (ht : tk_ok T t) : pt_good (fun w => pt_Q T V t.2.1 w ∧ w.2.2.1 = 3) (pt_line T V e t) := by
  have hl := hT.1
  have h3 := ht.2.1
  have h4 := ht.2.2.1
  unfold pt_line
  by_cases hf : pt_flt V (pt_key T t) e = 0
  · rw [if_pos hf]
    refine pt_b_good (pt_next_good hT ht.2.2.1) (fun t1 ht1 => ?_)
    have h5 := ht1.1.2.1
    have h6 := ht1.1.2.2.1
    have h7 := ht1.2
    by_cases h2 : t1.1 = 2
    · rw [if_pos h2]
      have hK : pt_key T t ≤ 4 := by
        rcases pt_key_le T t with q | q
        · exact q
        · unfold pt_flt at hf
          rw [if_pos q] at hf
          omega
      have hn : pt_key T t ≠ 4 → V.1 < 5 := fun q => by
        unfold pt_flt at hf
        rw [if_neg (by omega), if_neg q] at hf
        by_cases h8 : V.1 < 5
        · exact h8
        · rw [if_neg h8] at hf; omega
      refine pt_b_good (pt_body_good hT hV he hK hn ht1.1 h2) (fun w hw => ?_)
      obtain ⟨w1, w2, w3, w4⟩ := hw
      by_cases h9 : w.2.2.1 = 3
      · rw [if_pos h9]
        exact ⟨⟨w1, w2, w3, by omega⟩, h9⟩
      · rw [if_neg h9]
        have := w3.2.1
        have := w3.2.2.1
        exact ⟨⟨by show 1 ≤ 2; omega, by show 2 ≤ 5; omega⟩, by show w.2.2.2.1 ≤ 160; omega⟩
    · rw [if_neg h2]
      exact ⟨⟨by show 1 ≤ 2; omega, by show 2 ≤ 5; omega⟩, by show t1.2.1 ≤ 160; omega⟩
  · rw [if_neg hf]
    exact ⟨⟨Nat.pos_of_ne_zero hf, pt_flt_le _ _ _⟩, by show t.2.1 ≤ 160; omega⟩
theorem pt_lines_good {T : List Nat} (hT : tx_ok T) : ∀ (f : Nat) (V : pv_V) (e : Nat) (t : pt_K) (n : Nat), pv_ok V → V.2.2.1 = 0 → e ≤ 1 → tk_ok T t → n ≤ t.2.1 → pt_good (fun w : pv_V × Nat => (pv_ok w.1 ∧ w.1.2.2.1 = 0) ∧ w.2 ≤ 160) (pt_lines T f V e t n)
  | 0, V, e, t, n, hV, hd, he, ht, hn => ⟨⟨by show 1 ≤ 1; omega, by show 1 ≤ 5; omega⟩, by show 0 ≤ 160; omega⟩
  | f + 1, V, e, t, n, hV, hd, he, ht, hn => by
    have hl := hT.1
    have h3 := ht.2.1
    have h4 := ht.2.2.1
    rw [pt_lines]
    by_cases h0 : t.1 = 0
    · rw [if_pos h0]; exact ⟨⟨hV, hd⟩, by show n ≤ 160; omega⟩
    · rw [if_neg h0]
      refine pt_b_good (pt_line_good hT hV he ht) (fun w hw => ?_)
      obtain ⟨⟨w1, w2, w3, w4⟩, w5⟩ := hw
      refine pt_b_good (pt_next_good hT w3.2.2.1) (fun t' ht' => ?_)
      have h6 := w3.2.2.2.2 (by omega)
      have h7 := ht'.2
      exact pt_lines_good hT f w.1 w.2.1 t' (n + 1) w1.1 (by rw [w1.2]; exact hd) w2 ht'.1 (by omega)
theorem pv_0_ok : pv_ok pv_0 := ⟨⟨by show 0 ≤ 5; omega, ⟨by show 1 ≤ 1; omega, by show 1 ≤ 4; omega⟩, by show 0 < 2000; omega, fun p hp => absurd hp (Nat.not_lt_zero p)⟩, fun p hp => absurd hp (Nat.not_lt_zero p)⟩
theorem pt_text_good {T : List Nat} (hT : tx_ok T) : pt_good (fun w : pv_V × Nat => (pv_ok w.1 ∧ w.1.2.2.1 = 0) ∧ w.2 ≤ 160) (pt_text T) := by
  unfold pt_text
  exact pt_b_good (pt_next_good hT (Nat.zero_le _)) (fun t ht => pt_lines_good hT 161 pv_0 0 t 0 pv_0_ok rfl (Nat.zero_le _) ht.1 (Nat.zero_le _))
/-! ===== the class's lines ===== -/
def frL (σ σ' : px_St) : Prop := (∀ k, k ≠ 4 → (k < 13 ∨ 17 < k) → σ'.1 k = σ.1 k) ∧ ∀ j, j < 3 → σ'.1 4 j = σ.1 4 j
theorem frL.rf {σ : px_St} : frL σ σ := ⟨fun _ _ _ => rfl, fun _ _ => rfl⟩
theorem frL.tr {σ σ' σ'' : px_St} (h : frL σ σ') (h' : frL σ' σ'') : frL σ σ'' := ⟨fun k a b => (h'.1 k a b).trans (h.1 k a b), fun j hj => (h'.2 j hj).trans (h.2 j hj)⟩
theorem fr4.L {σ σ' : px_St} (h : fr4 σ σ') : frL σ σ' := ⟨fun k a _ => h.1 k a, fun j hj => h.2 j (by omega)⟩
theorem px_only.L {σ σ' : px_St} (h : px_only 13 σ σ') : frL σ σ' := ⟨fun k _ b => h.1 k (by omega), fun j _ => by rw [h.1 4 (by omega)]⟩
theorem frL.up {σ : px_St} {j : Nat} {x : Int32} (hj : 3 ≤ j) : frL σ (px_up σ 4 j x) := ⟨fun k a _ => px_up_n a, fun i hi => by rw [px_up_at, if_neg (by omega)]⟩
theorem rb.keptL {σ σ' : px_St} {T : List Nat} (h : rb σ T) (ho : frL σ σ') : rb σ' T := ⟨by rw [ho.2 0 (by omega)]; exact h.1, by rw [ho.2 1 (by omega)]; exact h.2.1, fun i hi => by rw [ho.1 3 (by omega) (by omega)]; exact h.2.2 i hi⟩
def td (σ : px_St) : Prop := (σ.1 4 2).toNatClampNeg = 13
theorem td.kept {σ σ' : px_St} (h : td σ) (ho : frL σ σ') : td σ' := by unfold td; rw [ho.2 2 (by omega)]; exact h
theorem av13.up4 {σ : px_St} {V : pv_V} {j : Nat} {x : Int32} (h : av_is σ 13 V) : av_is (px_up σ 4 j x) 13 V := h.kept (fun k a b => px_up_n (by omega))
theorem av13.fr4 {σ σ' : px_St} {V : pv_V} (h : av_is σ 13 V) (ho : fr4 σ σ') : av_is σ' 13 V := h.kept (fun k a b => ho.1 k (by omega))
def rsC {α : Type} (σ : px_St) (Q : α → Prop) : Sum (Nat × Nat) α → Prop
  | .inl f => σ.1 4 4 = nI f.1 ∧ σ.1 4 6 = nI f.2
  | .inr a => Q a
abbrev gtX4_takeSound : Type := pv_V × Nat × Nat
def qrX4_takeSound : gtX4_takeSound → Int32 → px_St → Prop
  | (V, p, v), v1, σ => td σ ∧ av_is σ 13 V ∧ pv_w V ∧ p < V.1 ∧ v1 = nI p ∧ σ.1 4 8 = nI v ∧ v ≤ 99
def qoX4_takeSound : gtX4_takeSound → Int32 → px_St → Unit → px_St → Prop
  | (V, p, v), _, σ, _, σ' => (¬ (V.2.2.2 p).2.2.length < 6 → σ' = px_up σ 4 4 5) ∧ ((V.2.2.2 p).2.2.length < 6 → ¬ v ≤ 9 → σ' = px_up σ 4 4 3) ∧ ((V.2.2.2 p).2.2.length < 6 → v ≤ 9 → av_is σ' 13 (pv_at V p ((V.2.2.2 p).1, (V.2.2.2 p).2.1, pv_put (V.2.2.2 p).2.2 v)) ∧ px_only 13 σ σ')
def prX4_takeSound (g : gtX4_takeSound) : List Value → px_St → Prop := fun As σ => ∃ v1 : Int32, As = [.ref 4, .int v1] ∧ qrX4_takeSound g v1 σ
def poX4_takeSound (g : gtX4_takeSound) : List Value → px_St → Unit → px_St → Prop
  | [.ref _, .int v1], σ, r, σ' => qoX4_takeSound g v1 σ r σ'
  | _, _, _, _ => False
theorem dX4_takeSound_0 : decode cX4_takeSound 0 = .ok (.aload_n 0, 1) := by decide +kernel
theorem dX4_takeSound_1 : decode cX4_takeSound 1 = .ok (.getfield 18, 3) := by decide +kernel
theorem dX4_takeSound_4 : decode cX4_takeSound 4 = .ok (.getfield 88, 3) := by decide +kernel
theorem dX4_takeSound_7 : decode cX4_takeSound 7 = .ok (.iload_n 1, 1) := by decide +kernel
theorem dX4_takeSound_8 : decode cX4_takeSound 8 = .ok (.iaload, 1) := by decide +kernel
theorem dX4_takeSound_9 : decode cX4_takeSound 9 = .ok (.bipush 6, 2) := by decide +kernel
theorem dX4_takeSound_11 : decode cX4_takeSound 11 = .ok (.if_icmp .lt 11, 3) := by decide +kernel
theorem dX4_takeSound_14 : decode cX4_takeSound 14 = .ok (.aload_n 0, 1) := by decide +kernel
theorem dX4_takeSound_15 : decode cX4_takeSound 15 = .ok (.iconst 5, 1) := by decide +kernel
theorem dX4_takeSound_16 : decode cX4_takeSound 16 = .ok (.putfield 39, 3) := by decide +kernel
theorem dX4_takeSound_19 : decode cX4_takeSound 19 = .ok (.goto 33, 3) := by decide +kernel
theorem dX4_takeSound_22 : decode cX4_takeSound 22 = .ok (.aload_n 0, 1) := by decide +kernel
theorem dX4_takeSound_23 : decode cX4_takeSound 23 = .ok (.getfield 72, 3) := by decide +kernel
theorem dX4_takeSound_26 : decode cX4_takeSound 26 = .ok (.invokestatic 92, 3) := by decide +kernel
theorem dX4_takeSound_29 : decode cX4_takeSound 29 = .ok (.ifCond .ne 11, 3) := by decide +kernel
theorem dX4_takeSound_32 : decode cX4_takeSound 32 = .ok (.aload_n 0, 1) := by decide +kernel
theorem dX4_takeSound_33 : decode cX4_takeSound 33 = .ok (.iconst 3, 1) := by decide +kernel
theorem dX4_takeSound_34 : decode cX4_takeSound 34 = .ok (.putfield 39, 3) := by decide +kernel
theorem dX4_takeSound_37 : decode cX4_takeSound 37 = .ok (.goto 15, 3) := by decide +kernel
theorem dX4_takeSound_40 : decode cX4_takeSound 40 = .ok (.aload_n 0, 1) := by decide +kernel
theorem dX4_takeSound_41 : decode cX4_takeSound 41 = .ok (.getfield 18, 3) := by decide +kernel
theorem dX4_takeSound_44 : decode cX4_takeSound 44 = .ok (.iload_n 1, 1) := by decide +kernel
theorem dX4_takeSound_45 : decode cX4_takeSound 45 = .ok (.aload_n 0, 1) := by decide +kernel
theorem dX4_takeSound_46 : decode cX4_takeSound 46 = .ok (.getfield 72, 3) := by decide +kernel
theorem dX4_takeSound_49 : decode cX4_takeSound 49 = .ok (.invokevirtual 96, 3) := by decide +kernel
theorem dX4_takeSound_52 : decode cX4_takeSound 52 = .ok (.return_, 1) := by decide +kernel
abbrev rmX4_takeSound : Room := { frames := 2, cells := 0, slots := 0, locals := 42 }
def opX4_takeSound (po : Unit → px_St → Prop) : List (Nat × px_Op) := [
  (0, px_al 1 0),
  (1, px_get dC 4 4 2),
  (4, px_get dC 7 0 4),
  (7, px_il 8 1),
  (8, px_ald dC 9 0),
  (9, px_push 11 (.int 6)),
  (11, px_ic 14 22 (fun x y => x < y)),
  (14, px_al 15 0),
  (15, px_push 16 (.int 5)),
  (16, px_put dC 19 4 4 .int),
  (19, px_go 52),
  (22, px_al 23 0),
  (23, px_get dC 26 4 8),
  (26, px_callS 29 1 px_vI prX5_isSound poX5_isSound),
  (29, px_if 32 40 (fun x => ¬ x = 0)),
  (32, px_al 33 0),
  (33, px_push 34 (.int 3)),
  (34, px_put dC 37 4 4 .int),
  (37, px_go 52),
  (40, px_al 41 0),
  (41, px_get dC 44 4 2),
  (44, px_il 45 1),
  (45, px_al 46 0),
  (46, px_get dC 49 4 8),
  (49, px_callV dC 52 0 2 px_vV prX0_putBehind poX0_putBehind),
  (52, px_vret po)]
set_option maxRecDepth 100000 in
set_option maxHeartbeats 4000000 in
theorem okX4_takeSound : ∀ (po : Unit → px_St → Prop) (i pc : Nat) (op : px_Op), (opX4_takeSound po)[i]? = some (pc, op) → px_Snd (cX4_takeSound, 2, RX4, Cond.code yX4_takeSound cX4_takeSound 2 none :: wdC, none, rmX4_takeSound, dC) px_vV po pc op := by
  intro po
  unfold opX4_takeSound
  refine px_ok_cons (ps_aload_n dX4_takeSound_0 rfl) ?_
  refine px_ok_cons (fgX4_18 dX4_takeSound_1) ?_
  refine px_ok_cons (fgX4_88 dX4_takeSound_4) ?_
  refine px_ok_cons (ps_iload_n dX4_takeSound_7 rfl) ?_
  refine px_ok_cons (ps_iaload dX4_takeSound_8) ?_
  refine px_ok_cons (ps_bipush dX4_takeSound_9 (by decide)) ?_
  refine px_ok_cons (ps_icmp_lt dX4_takeSound_11 (by decide)) ?_
  refine px_ok_cons (ps_aload_n dX4_takeSound_14 rfl) ?_
  refine px_ok_cons (ps_iconst dX4_takeSound_15 (by decide)) ?_
  refine px_ok_cons (fpX4_39 dX4_takeSound_16) ?_
  refine px_ok_cons (ps_goto dX4_takeSound_19 (by decide)) ?_
  refine px_ok_cons (ps_aload_n dX4_takeSound_22 rfl) ?_
  refine px_ok_cons (fgX4_72 dX4_takeSound_23) ?_
  refine px_ok_cons (ps_callSN92 mX5_isSound (by decide) dX4_takeSound_26) ?_
  refine px_ok_cons (ps_if_ne dX4_takeSound_29 (by decide)) ?_
  refine px_ok_cons (ps_aload_n dX4_takeSound_32 rfl) ?_
  refine px_ok_cons (ps_iconst dX4_takeSound_33 (by decide)) ?_
  refine px_ok_cons (fpX4_39 dX4_takeSound_34) ?_
  refine px_ok_cons (ps_goto dX4_takeSound_37 (by decide)) ?_
  refine px_ok_cons (ps_aload_n dX4_takeSound_40 rfl) ?_
  refine px_ok_cons (fgX4_18 dX4_takeSound_41) ?_
  refine px_ok_cons (ps_iload_n dX4_takeSound_44 rfl) ?_
  refine px_ok_cons (ps_aload_n dX4_takeSound_45 rfl) ?_
  refine px_ok_cons (fgX4_72 dX4_takeSound_46) ?_
  refine px_ok_cons (ps_callV mX0_putBehind (fun _ _ => rfl) (C := RX0) rfl (fun _ _ ht => px_cwV wgC (wdC_4_in _ (List.mem_of_getElem? (i := 33) rfl)) (wdC_1_in _ (List.mem_of_getElem? (i := 10) rfl)) (wdC_1_in _ (List.mem_of_getElem? (i := 11) rfl)) (wdC_0_in _ (List.mem_of_getElem? (i := 22) rfl)) (wdC_1_in _ (List.mem_of_getElem? (i := 1) rfl)) (by decide +kernel) rfl rfl (by decide) ht) dX4_takeSound_49) ?_
  refine px_ok_cons (ps_return rfl dX4_takeSound_52) ?_
  exact px_ok_nil
set_option maxRecDepth 100000 in
set_option maxHeartbeats 4000000 in
theorem sgX4_takeSound_0 {po : Unit → px_St → Prop} {G : px_K} (hG : px_cl (opX4_takeSound po) G) (v1 : Int32) (σ : px_St)
    (H : (σ.1 4 2).toNatClampNeg = 13 ∧ vp_in v1 5 ∧ (((σ.1 15 v1.toNatClampNeg) < (6 : Int32)) → ∃ g4 : gtX5_isSound, qrX5_isSound g4 (σ.1 4 8) σ ∧ ∀ (r2 : Int32) (σ3 : px_St), qoX5_isSound g4 (σ.1 4 8) σ r2 σ3 → ((¬ r2 = 0) → (σ3.1 4 2).toNatClampNeg = 13 ∧ ∃ g9 : gtX0_putBehind, qrX0_putBehind g9 13 v1 (σ3.1 4 8) σ3 ∧ ∀ (r7 : Unit) (σ8 : px_St), qoX0_putBehind g9 13 v1 (σ3.1 4 8) σ3 r7 σ8 → po () σ8) ∧ (¬ (¬ r2 = 0) → po () (px_up σ3 4 4 (3 : Int32)))) ∧ (¬ ((σ.1 15 v1.toNatClampNeg) < (6 : Int32)) → po () (px_up σ 4 4 (5 : Int32)))) :
    G 0 (px_ent 2 [.ref 4, .int v1]) [] σ := by
  refine hG.1 0 _ _ rfl _ _ _ ?_
  refine hG.1 1 _ _ rfl _ _ _ ?_
  refine ⟨⟨rfl, by decide⟩, ?_⟩
  obtain ⟨hz1, H⟩ := H
  show G 4 [some (.ref 4), some (.int v1)] [(.ref (σ.1 4 2).toNatClampNeg)] σ
  rw [hz1]
  refine hG.1 2 _ _ rfl _ _ _ ?_
  refine ⟨⟨rfl, by decide⟩, ?_⟩
  refine hG.1 3 _ _ rfl _ _ _ ?_
  refine hG.1 4 _ _ rfl _ _ _ ?_
  refine ⟨⟨rfl, by decide⟩, H.1, ?_⟩
  replace H := H.2
  refine hG.1 5 _ _ rfl _ _ _ ?_
  refine hG.1 6 _ _ rfl _ _ _ ?_
  refine ⟨fun h12 => ?_, fun h12 => ?_⟩
  · replace H := H.1 h12
    refine hG.1 11 _ _ rfl _ _ _ ?_
    refine hG.1 12 _ _ rfl _ _ _ ?_
    refine ⟨⟨rfl, by decide⟩, ?_⟩
    refine hG.1 13 _ _ rfl _ _ _ ?_
    obtain ⟨g4, H⟩ := H
    refine ⟨Nat.le_of_ble_eq_true rfl, Nat.le_of_ble_eq_true rfl, g4, ⟨_, rfl, H.1⟩, fun r2 σ3 hp5 => ?_⟩
    replace H := H.2 r2 σ3 hp5
    refine hG.1 14 _ _ rfl _ _ _ ?_
    refine ⟨fun h11 => ?_, fun h11 => ?_⟩
    · replace H := H.1 h11
      refine hG.1 19 _ _ rfl _ _ _ ?_
      refine hG.1 20 _ _ rfl _ _ _ ?_
      refine ⟨⟨rfl, by decide⟩, ?_⟩
      obtain ⟨hz6, H⟩ := H
      show G 44 [some (.ref 4), some (.int v1)] [(.ref (σ3.1 4 2).toNatClampNeg)] σ3
      rw [hz6]
      refine hG.1 21 _ _ rfl _ _ _ ?_
      refine hG.1 22 _ _ rfl _ _ _ ?_
      refine hG.1 23 _ _ rfl _ _ _ ?_
      refine ⟨⟨rfl, by decide⟩, ?_⟩
      refine hG.1 24 _ _ rfl _ _ _ ?_
      obtain ⟨g9, H⟩ := H
      refine ⟨⟨rfl, by decide⟩, Nat.le_of_ble_eq_true rfl, g9, ⟨_, _, _, rfl, (Or.inr (Or.inl rfl)), H.1⟩, fun r7 σ8 hp10 => ?_⟩
      replace H := H.2 r7 σ8 hp10
      refine hG.1 25 _ _ rfl _ _ _ ?_
      exact H
    · replace H := H.2 h11
      refine hG.1 15 _ _ rfl _ _ _ ?_
      refine hG.1 16 _ _ rfl _ _ _ ?_
      refine hG.1 17 _ _ rfl _ _ _ ?_
      refine ⟨⟨rfl, by decide⟩, ⟨rfl, rfl⟩, ?_⟩
      refine hG.1 18 _ _ rfl _ _ _ ?_
      refine hG.1 25 _ _ rfl _ _ _ ?_
      exact H
  · replace H := H.2 h12
    refine hG.1 7 _ _ rfl _ _ _ ?_
    refine hG.1 8 _ _ rfl _ _ _ ?_
    refine hG.1 9 _ _ rfl _ _ _ ?_
    refine ⟨⟨rfl, by decide⟩, ⟨rfl, rfl⟩, ?_⟩
    refine hG.1 10 _ _ rfl _ _ _ ?_
    refine hG.1 25 _ _ rfl _ _ _ ?_
    exact H
set_option maxRecDepth 100000 in
set_option maxHeartbeats 4000000 in
theorem hhX4_takeSound (g : gtX4_takeSound) (v1 : Int32) (σ : px_St) (h : qrX4_takeSound g v1 σ) (G : px_K) (hG : px_cl (opX4_takeSound (qoX4_takeSound g v1 σ)) G) : G 0 (px_ent 2 [.ref 4, .int v1]) [] σ := by
  obtain ⟨V, p, v⟩ := g
  obtain ⟨hd, hV, hw, hp, rfl, h8, hv⟩ := h
  have h5 := hw.1
  have hl := (hw.2.2.2 p hp).2.1
  refine sgX4_takeSound_0 hG _ σ ?_
  have e15 : σ.1 15 p = nI (V.2.2.2 p).2.2.length := (hV.2 p hp).2.1
  rw [nI_clamp (by omega), e15]
  have c1 : nI (V.2.2.2 p).2.2.length < 6 ↔ (V.2.2.2 p).2.2.length < 6 := nIlt _ 6 rfl rfl (by omega) (by omega)
  rw [c1]
  refine ⟨hd, vp_in_nI (by omega) (by decide), fun z => ⟨(), trivial, fun r σ1 h1 => ?_⟩, fun z => ⟨fun _ => rfl, fun q => absurd q z, fun q => absurd q z⟩⟩
  obtain ⟨rfl, b1⟩ := h1
  rw [h8] at b1 ⊢
  refine bz1 b1 (fun y => ⟨hd, (V, p, v), ?_, fun _ σ2 h2 => ?_⟩) (fun y => ⟨fun q => absurd z q, fun _ _ => rfl, fun _ q => absurd ((rngc 9 9 rfl (by omega)).mpr ⟨v, q, rfl⟩) y⟩)
  · obtain ⟨v', hv', e⟩ := (rngc 9 9 rfl (by omega)).mp y
    have := (nI_eq (show v < 2 ^ 31 by omega) (show v' < 2 ^ 31 by omega)).mp e
    exact ⟨hV, hw, hp, by omega, rfl, rfl⟩
  · obtain ⟨v', hv', e⟩ := (rngc 9 9 rfl (by omega)).mp y
    have := (nI_eq (show v < 2 ^ 31 by omega) (show v' < 2 ^ 31 by omega)).mp e
    exact ⟨fun q => absurd z q, fun _ q => absurd (by omega) q, fun _ _ => h2⟩
theorem mX4_takeSound (g : gtX4_takeSound) : px_Met dC yX4_takeSound (Cond.code yX4_takeSound cX4_takeSound 2 none :: wdC) rmX4_takeSound px_vV (prX4_takeSound g) (poX4_takeSound g) :=
  px_met (Z := (cX4_takeSound, 2, RX4, Cond.code yX4_takeSound cX4_takeSound 2 none :: wdC, none, rmX4_takeSound, dC)) opX4_takeSound (by decide) rfl rfl okX4_takeSound (fun As σ h => by obtain ⟨v1, rfl, h⟩ := h; exact Nat.le_of_ble_eq_true rfl) (fun As σ h G hG => by obtain ⟨v1, rfl, h⟩ := h; exact hhX4_takeSound g v1 σ h G hG)
abbrev gtX4_takeParrot : Type := List Nat × pv_V × Nat × pt_K
def qrX4_takeParrot : gtX4_takeParrot → Int32 → px_St → Prop
  | (T, V, k, t), v1, σ => rb σ T ∧ tx_ok T ∧ td σ ∧ av_is σ 13 V ∧ pv_w V ∧ V.1 < 5 ∧ k ≤ 3 ∧ v1 = nI k ∧ rdC σ t ∧ tk_ok T t
def qoX4_takeParrot : gtX4_takeParrot → Int32 → px_St → Unit → px_St → Prop
  | (T, V, k, t), _, σ, _, σ' => rsC σ' (fun w : List Nat × pt_K => rdC σ' w.2 ∧ av_is σ' 13 (pv_add V (k, 0, w.1))) (pt_snd T 6 [] t) ∧ frL σ σ' ∧ σ'.1 4 3 = σ.1 4 3
def prX4_takeParrot (g : gtX4_takeParrot) : List Value → px_St → Prop := fun As σ => ∃ v1 : Int32, As = [.ref 4, .int v1] ∧ qrX4_takeParrot g v1 σ
def poX4_takeParrot (g : gtX4_takeParrot) : List Value → px_St → Unit → px_St → Prop
  | [.ref _, .int v1], σ, r, σ' => qoX4_takeParrot g v1 σ r σ'
  | _, _, _, _ => False
theorem dX4_takeParrot_0 : decode cX4_takeParrot 0 = .ok (.aload_n 0, 1) := by decide +kernel
theorem dX4_takeParrot_1 : decode cX4_takeParrot 1 = .ok (.getfield 18, 3) := by decide +kernel
theorem dX4_takeParrot_4 : decode cX4_takeParrot 4 = .ok (.iload_n 1, 1) := by decide +kernel
theorem dX4_takeParrot_5 : decode cX4_takeParrot 5 = .ok (.invokevirtual 82, 3) := by decide +kernel
theorem dX4_takeParrot_8 : decode cX4_takeParrot 8 = .ok (.iconst 0, 1) := by decide +kernel
theorem dX4_takeParrot_9 : decode cX4_takeParrot 9 = .ok (.istore_n 2, 1) := by decide +kernel
theorem dX4_takeParrot_10 : decode cX4_takeParrot 10 = .ok (.iload_n 2, 1) := by decide +kernel
theorem dX4_takeParrot_11 : decode cX4_takeParrot 11 = .ok (.bipush 6, 2) := by decide +kernel
theorem dX4_takeParrot_13 : decode cX4_takeParrot 13 = .ok (.if_icmp .gt 41, 3) := by decide +kernel
theorem dX4_takeParrot_16 : decode cX4_takeParrot 16 = .ok (.aload_n 0, 1) := by decide +kernel
theorem dX4_takeParrot_17 : decode cX4_takeParrot 17 = .ok (.getfield 39, 3) := by decide +kernel
theorem dX4_takeParrot_20 : decode cX4_takeParrot 20 = .ok (.ifCond .ne 34, 3) := by decide +kernel
theorem dX4_takeParrot_23 : decode cX4_takeParrot 23 = .ok (.aload_n 0, 1) := by decide +kernel
theorem dX4_takeParrot_24 : decode cX4_takeParrot 24 = .ok (.getfield 48, 3) := by decide +kernel
theorem dX4_takeParrot_27 : decode cX4_takeParrot 27 = .ok (.iconst 2, 1) := by decide +kernel
theorem dX4_takeParrot_28 : decode cX4_takeParrot 28 = .ok (.if_icmp .ne 26, 3) := by decide +kernel
theorem dX4_takeParrot_31 : decode cX4_takeParrot 31 = .ok (.aload_n 0, 1) := by decide +kernel
theorem dX4_takeParrot_32 : decode cX4_takeParrot 32 = .ok (.aload_n 0, 1) := by decide +kernel
theorem dX4_takeParrot_33 : decode cX4_takeParrot 33 = .ok (.getfield 18, 3) := by decide +kernel
theorem dX4_takeParrot_36 : decode cX4_takeParrot 36 = .ok (.getfield 69, 3) := by decide +kernel
theorem dX4_takeParrot_39 : decode cX4_takeParrot 39 = .ok (.iconst 1, 1) := by decide +kernel
theorem dX4_takeParrot_40 : decode cX4_takeParrot 40 = .ok (.isub, 1) := by decide +kernel
theorem dX4_takeParrot_41 : decode cX4_takeParrot 41 = .ok (.invokevirtual 85, 3) := by decide +kernel
theorem dX4_takeParrot_44 : decode cX4_takeParrot 44 = .ok (.aload_n 0, 1) := by decide +kernel
theorem dX4_takeParrot_45 : decode cX4_takeParrot 45 = .ok (.invokevirtual 45, 3) := by decide +kernel
theorem dX4_takeParrot_48 : decode cX4_takeParrot 48 = .ok (.iinc 2 1, 3) := by decide +kernel
theorem dX4_takeParrot_51 : decode cX4_takeParrot 51 = .ok (.goto (-41), 3) := by decide +kernel
theorem dX4_takeParrot_54 : decode cX4_takeParrot 54 = .ok (.return_, 1) := by decide +kernel
abbrev rmX4_takeParrot : Room := { frames := 3, cells := 0, slots := 0, locals := 63 }
def opX4_takeParrot (po : Unit → px_St → Prop) : List (Nat × px_Op) := [
  (0, px_al 1 0),
  (1, px_get dC 4 4 2),
  (4, px_il 5 1),
  (5, px_callV dC 8 0 1 px_vV prX0_addParrot poX0_addParrot),
  (8, px_push 9 (.int 0)),
  (9, px_is 10 2),
  (10, px_il 11 2),
  (11, px_push 13 (.int 6)),
  (13, px_ic 16 54 (fun x y => y < x)),
  (16, px_al 17 0),
  (17, px_get dC 20 4 4),
  (20, px_if 23 54 (fun x => ¬ x = 0)),
  (23, px_al 24 0),
  (24, px_get dC 27 4 5),
  (27, px_push 28 (.int 2)),
  (28, px_ic 31 54 (fun x y => ¬ x = y)),
  (31, px_al 32 0),
  (32, px_al 33 0),
  (33, px_get dC 36 4 2),
  (36, px_get dC 39 0 0),
  (39, px_push 40 (.int 1)),
  (40, px_bin 41 (fun x y => x - y)),
  (41, px_callV dC 44 4 1 px_vV prX4_takeSound poX4_takeSound),
  (44, px_al 45 0),
  (45, px_callV dC 48 4 0 px_vV prX4_nextToken poX4_nextToken),
  (48, px_inc 51 2 1),
  (51, px_go 10),
  (54, px_vret po)]
set_option maxRecDepth 100000 in
set_option maxHeartbeats 4000000 in
theorem okX4_takeParrot : ∀ (po : Unit → px_St → Prop) (i pc : Nat) (op : px_Op), (opX4_takeParrot po)[i]? = some (pc, op) → px_Snd (cX4_takeParrot, 3, RX4, Cond.code yX4_takeParrot cX4_takeParrot 3 none :: wdC, none, rmX4_takeParrot, dC) px_vV po pc op := by
  intro po
  unfold opX4_takeParrot
  refine px_ok_cons (ps_aload_n dX4_takeParrot_0 rfl) ?_
  refine px_ok_cons (fgX4_18 dX4_takeParrot_1) ?_
  refine px_ok_cons (ps_iload_n dX4_takeParrot_4 rfl) ?_
  refine px_ok_cons (ps_callV mX0_addParrot (fun _ _ => rfl) (C := RX0) rfl (fun _ _ ht => px_cwV wgC (wdC_4_in _ (List.mem_of_getElem? (i := 34) rfl)) (wdC_4_in _ (List.mem_of_getElem? (i := 35) rfl)) (wdC_4_in _ (List.mem_of_getElem? (i := 36) rfl)) (wdC_0_in _ (List.mem_of_getElem? (i := 22) rfl)) (wdC_0_in _ (List.mem_of_getElem? (i := 23) rfl)) (by decide +kernel) rfl rfl (by decide) ht) dX4_takeParrot_5) ?_
  refine px_ok_cons (ps_iconst dX4_takeParrot_8 (by decide)) ?_
  refine px_ok_cons (ps_istore_n dX4_takeParrot_9 rfl (by decide)) ?_
  refine px_ok_cons (ps_iload_n dX4_takeParrot_10 rfl) ?_
  refine px_ok_cons (ps_bipush dX4_takeParrot_11 (by decide)) ?_
  refine px_ok_cons (ps_icmp_gt dX4_takeParrot_13 (by decide)) ?_
  refine px_ok_cons (ps_aload_n dX4_takeParrot_16 rfl) ?_
  refine px_ok_cons (fgX4_39 dX4_takeParrot_17) ?_
  refine px_ok_cons (ps_if_ne dX4_takeParrot_20 (by decide)) ?_
  refine px_ok_cons (ps_aload_n dX4_takeParrot_23 rfl) ?_
  refine px_ok_cons (fgX4_48 dX4_takeParrot_24) ?_
  refine px_ok_cons (ps_iconst dX4_takeParrot_27 (by decide)) ?_
  refine px_ok_cons (ps_icmp_ne dX4_takeParrot_28 (by decide)) ?_
  refine px_ok_cons (ps_aload_n dX4_takeParrot_31 rfl) ?_
  refine px_ok_cons (ps_aload_n dX4_takeParrot_32 rfl) ?_
  refine px_ok_cons (fgX4_18 dX4_takeParrot_33) ?_
  refine px_ok_cons (fgX4_69 dX4_takeParrot_36) ?_
  refine px_ok_cons (ps_iconst dX4_takeParrot_39 (by decide)) ?_
  refine px_ok_cons (ps_isub dX4_takeParrot_40) ?_
  refine px_ok_cons (ps_callV mX4_takeSound (fun _ _ => rfl) (C := RX4) rfl (fun _ _ ht => px_cwV wgC (wdC_4_in _ (List.mem_of_getElem? (i := 37) rfl)) (wdC_4_in _ (List.mem_of_getElem? (i := 38) rfl)) (wdC_4_in _ (List.mem_of_getElem? (i := 39) rfl)) (wdC_2_in _ (List.mem_of_getElem? (i := 35) rfl)) (wdC_4_in _ (List.mem_of_getElem? (i := 30) rfl)) (by decide +kernel) rfl rfl (by decide) ht) dX4_takeParrot_41) ?_
  refine px_ok_cons (ps_aload_n dX4_takeParrot_44 rfl) ?_
  refine px_ok_cons (ps_callV mX4_nextToken (fun _ _ => rfl) (C := RX4) rfl (fun _ _ ht => px_cwV wgC (wdC_4_in _ (List.mem_of_getElem? (i := 24) rfl)) (wdC_4_in _ (List.mem_of_getElem? (i := 25) rfl)) (wdC_4_in _ (List.mem_of_getElem? (i := 26) rfl)) (wdC_2_in _ (List.mem_of_getElem? (i := 35) rfl)) (wdC_2_in _ (List.mem_of_getElem? (i := 36) rfl)) (by decide +kernel) rfl rfl (by decide) ht) dX4_takeParrot_45) ?_
  refine px_ok_cons (ps_iinc dX4_takeParrot_48 (by decide) (by decide)) ?_
  refine px_ok_cons (ps_goto dX4_takeParrot_51 (by decide)) ?_
  refine px_ok_cons (ps_return rfl dX4_takeParrot_54) ?_
  exact px_ok_nil
set_option maxRecDepth 100000 in
set_option maxHeartbeats 4000000 in
theorem sgX4_takeParrot_0 {po : Unit → px_St → Prop} {G : px_K} (hG : px_cl (opX4_takeParrot po) G) (v1 : Int32) (σ : px_St)
    (H : (σ.1 4 2).toNatClampNeg = 13 ∧ ∃ g4 : gtX0_addParrot, qrX0_addParrot g4 13 v1 σ ∧ ∀ (r2 : Unit) (σ3 : px_St), qoX0_addParrot g4 13 v1 σ r2 σ3 → G 10 [some (.ref 4), some (.int v1), some (.int (0 : Int32))] [] σ3) :
    G 0 (px_ent 3 [.ref 4, .int v1]) [] σ := by
  refine hG.1 0 _ _ rfl _ _ _ ?_
  refine hG.1 1 _ _ rfl _ _ _ ?_
  refine ⟨⟨rfl, by decide⟩, ?_⟩
  obtain ⟨hz1, H⟩ := H
  show G 4 [some (.ref 4), some (.int v1), none] [(.ref (σ.1 4 2).toNatClampNeg)] σ
  rw [hz1]
  refine hG.1 2 _ _ rfl _ _ _ ?_
  refine hG.1 3 _ _ rfl _ _ _ ?_
  obtain ⟨g4, H⟩ := H
  refine ⟨⟨rfl, by decide⟩, Nat.le_of_ble_eq_true rfl, g4, ⟨_, _, rfl, (Or.inr (Or.inl rfl)), H.1⟩, fun r2 σ3 hp5 => ?_⟩
  replace H := H.2 r2 σ3 hp5
  refine hG.1 4 _ _ rfl _ _ _ ?_
  refine hG.1 5 _ _ rfl _ _ _ ?_
  show G 10 [some (.ref 4), some (.int v1), some (.int (0 : Int32))] [] σ3
  exact H
set_option maxRecDepth 100000 in
set_option maxHeartbeats 4000000 in
theorem sgX4_takeParrot_10 {po : Unit → px_St → Prop} {G : px_K} (hG : px_cl (opX4_takeParrot po) G) (v1 : Int32) (v2 : Int32) (σ : px_St)
    (H : (((6 : Int32) < v2) → po () σ) ∧ (¬ ((6 : Int32) < v2) → ((¬ (σ.1 4 4) = 0) → po () σ) ∧ (¬ (¬ (σ.1 4 4) = 0) → ((¬ (σ.1 4 5) = (2 : Int32)) → po () σ) ∧ (¬ (¬ (σ.1 4 5) = (2 : Int32)) → (σ.1 4 2).toNatClampNeg = 13 ∧ ∃ g4 : gtX4_takeSound, qrX4_takeSound g4 ((σ.1 13 0) - (1 : Int32)) σ ∧ ∀ (r2 : Unit) (σ3 : px_St), qoX4_takeSound g4 ((σ.1 13 0) - (1 : Int32)) σ r2 σ3 → ∃ g8 : gtX4_nextToken, qrX4_nextToken g8 σ3 ∧ ∀ (r6 : Unit) (σ7 : px_St), qoX4_nextToken g8 σ3 r6 σ7 → G 10 [some (.ref 4), some (.int v1), some (.int (v2 + 1))] [] σ7)))) :
    G 10 [some (.ref 4), some (.int v1), some (.int v2)] [] σ := by
  refine hG.1 6 _ _ rfl _ _ _ ?_
  refine hG.1 7 _ _ rfl _ _ _ ?_
  refine hG.1 8 _ _ rfl _ _ _ ?_
  refine ⟨fun h12 => ?_, fun h12 => ?_⟩
  · replace H := H.1 h12
    refine hG.1 27 _ _ rfl _ _ _ ?_
    exact H
  · replace H := H.2 h12
    refine hG.1 9 _ _ rfl _ _ _ ?_
    refine hG.1 10 _ _ rfl _ _ _ ?_
    refine ⟨⟨rfl, by decide⟩, ?_⟩
    refine hG.1 11 _ _ rfl _ _ _ ?_
    refine ⟨fun h11 => ?_, fun h11 => ?_⟩
    · replace H := H.1 h11
      refine hG.1 27 _ _ rfl _ _ _ ?_
      exact H
    · replace H := H.2 h11
      refine hG.1 12 _ _ rfl _ _ _ ?_
      refine hG.1 13 _ _ rfl _ _ _ ?_
      refine ⟨⟨rfl, by decide⟩, ?_⟩
      refine hG.1 14 _ _ rfl _ _ _ ?_
      refine hG.1 15 _ _ rfl _ _ _ ?_
      refine ⟨fun h10 => ?_, fun h10 => ?_⟩
      · replace H := H.1 h10
        refine hG.1 27 _ _ rfl _ _ _ ?_
        exact H
      · replace H := H.2 h10
        refine hG.1 16 _ _ rfl _ _ _ ?_
        refine hG.1 17 _ _ rfl _ _ _ ?_
        refine hG.1 18 _ _ rfl _ _ _ ?_
        refine ⟨⟨rfl, by decide⟩, ?_⟩
        obtain ⟨hz1, H⟩ := H
        show G 36 [some (.ref 4), some (.int v1), some (.int v2)] [(.ref (σ.1 4 2).toNatClampNeg), .ref 4] σ
        rw [hz1]
        refine hG.1 19 _ _ rfl _ _ _ ?_
        refine ⟨⟨rfl, by decide⟩, ?_⟩
        refine hG.1 20 _ _ rfl _ _ _ ?_
        refine hG.1 21 _ _ rfl _ _ _ ?_
        refine hG.1 22 _ _ rfl _ _ _ ?_
        obtain ⟨g4, H⟩ := H
        refine ⟨⟨rfl, by decide⟩, Nat.le_of_ble_eq_true rfl, g4, ⟨_, rfl, H.1⟩, fun r2 σ3 hp5 => ?_⟩
        replace H := H.2 r2 σ3 hp5
        refine hG.1 23 _ _ rfl _ _ _ ?_
        refine hG.1 24 _ _ rfl _ _ _ ?_
        obtain ⟨g8, H⟩ := H
        refine ⟨⟨rfl, by decide⟩, Nat.le_of_ble_eq_true rfl, g8, ⟨rfl, H.1⟩, fun r6 σ7 hp9 => ?_⟩
        replace H := H.2 r6 σ7 hp9
        refine hG.1 25 _ _ rfl _ _ _ ?_
        show G 51 [some (.ref 4), some (.int v1), some (.int (v2 + 1))] [] σ7
        refine hG.1 26 _ _ rfl _ _ _ ?_
        exact H
set_option maxRecDepth 100000 in
set_option maxHeartbeats 4000000 in
theorem hhX4_takeParrot (g : gtX4_takeParrot) (v1 : Int32) (σ : px_St) (h : qrX4_takeParrot g v1 σ) (G : px_K) (hG : px_cl (opX4_takeParrot (qoX4_takeParrot g v1 σ)) G) : G 0 (px_ent 3 [.ref 4, .int v1]) [] σ := by
  obtain ⟨T, V, k, t0⟩ := g
  obtain ⟨hb, hT, hd, hV, hw, hn, hk, rfl, hr, ht0⟩ := h
  have hl := hT.1
  refine sgX4_takeParrot_0 hG _ σ ⟨hd, (V, k), ⟨hV, hw, hn, rfl⟩, fun _ σ1 h1 => ?_⟩
  obtain ⟨q1, q2⟩ := h1
  have stop : ∀ i σ', ¬ σ'.1 4 4 = 0 → qoX4_takeParrot (T, V, k, t0) (nI k) σ () σ' → G 10 [some (.ref 4), some (.int (nI k)), some (.int i)] [] σ' := fun i σ' h1 h2 => sgX4_takeParrot_10 hG _ _ σ' ⟨fun _ => h2, fun _ => ⟨fun _ => h2, fun q => absurd h1 q⟩⟩
  have hrd : ∀ σ', σ'.1 4 = σ.1 4 → rdC σ' t0 := fun σ' e => by
    unfold rdC
    rw [e]; exact hr
  obtain ⟨R0, hR0⟩ : ∃ R0, R0 = pt_snd T 6 [] t0 := ⟨_, rfl⟩
  have loop : ∀ n i, i + n = 6 → ∀ (m : List Nat) (t : pt_K) σ', m.length = i → (∀ x ∈ m, x ≤ 9) → tk_ok T t → R0 = pt_snd T n m t → rdC σ' t → av_is σ' 13 (pv_add V (k, 0, m)) → frL σ σ' → σ'.1 4 3 = σ.1 4 3 → G 10 [some (.ref 4), some (.int (nI k)), some (.int (nI i))] [] σ' := by
    intro n
    induction n with
    | zero =>
      intro i hi m t σ' hm hx ht he hr' hV' ho e3
      obtain ⟨r4, r5, r6, r7, r8⟩ := hr'
      have ht1 := ht.1
      have hwm : pv_w (pv_add V (k, 0, m)) := pv_add_w hw hn ⟨hk, by show m.length ≤ 6; omega, hx⟩
      have c2 : σ'.1 4 5 = 2 ↔ t.1 = 2 := by
        rw [r5]
        by_cases h0 : t.1 = 0
        · rw [if_pos h0]; exact ⟨fun q => absurd q (by decide), fun q => by omega⟩
        · rw [if_neg h0]; exact nIe _ 2 rfl rfl (by omega) (by omega)
      rw [pt_snd] at he
      refine sgX4_takeParrot_10 hG _ _ σ' ⟨fun q => absurd ((nIlt 6 i rfl rfl (by omega) (by omega)).mp q) (by omega), fun _ => ⟨fun q => absurd r4 q, fun _ => ⟨fun q => ?_, fun q => ?_⟩⟩⟩
      · rw [c2] at q
        rw [if_neg q] at he
        refine ⟨?_, ho, e3⟩
        rw [← hR0, he]
        exact ⟨⟨r4, r5, r6, r7, r8⟩, hV'⟩
      · have q2 := c2.mp (Classical.byContradiction q)
        rw [if_pos q2] at he
        have e13 : σ'.1 13 0 - 1 = nI V.1 := by
          rw [hV'.1.1]
          show nI (V.1 + 1) - 1 = _
          exact nI_pred _
        rw [e13]
        refine ⟨hd.kept ho, (pv_add V (k, 0, m), V.1, t.2.2.2), ⟨hd.kept ho, hV', hwm, Nat.lt_succ_self _, rfl, r8 q2, ht.2.2.2.1⟩, fun _ σ2 h2 => ?_⟩
        have h2 := h2.1 (by rw [pv_add_p]; show ¬ m.length < 6; omega)
        subst h2
        have hne : ¬ (px_up σ' 4 4 5).1 4 4 = 0 := by rw [up4s]; decide
        refine ⟨(T, 0), ⟨(hb.keptL ho).keptL (frL.up (by omega)), hT, fun q => absurd q hne⟩, fun _ σ3 h3 => ?_⟩
        have h3 := h3.1 hne
        subst h3
        refine stop _ _ hne ⟨?_, ho.tr (frL.up (by omega)), by rw [up4n (by omega)]; exact e3⟩
        rw [← hR0, he]
        exact ⟨up4s, by rw [up4n (by omega)]; exact r6⟩
    | succ n ih =>
      intro i hi m t σ' hm hx ht he hr' hV' ho e3
      obtain ⟨r4, r5, r6, r7, r8⟩ := hr'
      have ht1 := ht.1
      have hwm : pv_w (pv_add V (k, 0, m)) := pv_add_w hw hn ⟨hk, by show m.length ≤ 6; omega, hx⟩
      have c2 : σ'.1 4 5 = 2 ↔ t.1 = 2 := by
        rw [r5]
        by_cases h0 : t.1 = 0
        · rw [if_pos h0]; exact ⟨fun q => absurd q (by decide), fun q => by omega⟩
        · rw [if_neg h0]; exact nIe _ 2 rfl rfl (by omega) (by omega)
      rw [pt_snd] at he
      refine sgX4_takeParrot_10 hG _ _ σ' ⟨fun q => absurd ((nIlt 6 i rfl rfl (by omega) (by omega)).mp q) (by omega), fun _ => ⟨fun q => absurd r4 q, fun _ => ⟨fun q => ?_, fun q => ?_⟩⟩⟩
      · rw [c2] at q
        rw [if_neg q] at he
        refine ⟨?_, ho, e3⟩
        rw [← hR0, he]
        exact ⟨⟨r4, r5, r6, r7, r8⟩, hV'⟩
      · have q2 := c2.mp (Classical.byContradiction q)
        rw [if_pos q2] at he
        have e13 : σ'.1 13 0 - 1 = nI V.1 := by
          rw [hV'.1.1]
          show nI (V.1 + 1) - 1 = _
          exact nI_pred _
        rw [e13]
        refine ⟨hd.kept ho, (pv_add V (k, 0, m), V.1, t.2.2.2), ⟨hd.kept ho, hV', hwm, Nat.lt_succ_self _, rfl, r8 q2, ht.2.2.2.1⟩, fun _ σ2 h2 => ?_⟩
        by_cases h9 : t.2.2.2 ≤ 9
        · rw [if_pos h9] at he
          obtain ⟨h3, h4⟩ := h2.2.2 (by rw [pv_add_p]; show m.length < 6; omega) h9
          rw [pv_add_p, pv_add_at] at h3
          have e4 : σ2.1 4 = σ'.1 4 := h4.1 4 (by omega)
          have eput : pv_put m t.2.2.2 = m ++ [t.2.2.2] := if_pos (by omega)
          have h3 : av_is σ2 13 (pv_add V (k, 0, m ++ [t.2.2.2])) := by rw [← eput]; exact h3
          have ho2 := ho.tr h4.L
          refine ⟨(T, t.2.2.1), ⟨hb.keptL ho2, hT, fun _ => ⟨ht.2.2.1, by rw [e4]; exact r7⟩⟩, fun _ σ3 h5 => ?_⟩
          obtain ⟨-, h6, h7⟩ := h5
          have h6 := h6 (by rw [e4]; exact r4)
          have ho3 := ho2.tr h7.L
          have e33 : σ3.1 4 3 = σ.1 4 3 := by rw [h7.2 3 (by omega), e4]; exact e3
          have hgd := pt_next_good (p := t.2.2.1) hT ht.2.2.1
          rw [nI_1]
          cases hx' : pt_next T t.2.2.1 with
          | inl f =>
            rw [hx'] at h6 he hgd
            have h6 : σ3.1 4 4 = nI f.1 ∧ σ3.1 4 6 = nI f.2 := h6
            have hf : 1 ≤ f.1 ∧ f.1 ≤ 5 := hgd.1
            refine stop _ _ (by rw [h6.1]; exact nI_ne0 (by omega) (by omega)) ⟨?_, ho3, e33⟩
            rw [← hR0, he, pt_bl]
            exact h6
          | inr t' =>
            rw [hx'] at h6 he hgd
            rw [pt_br] at he
            refine ih (i + 1) (by omega) (m ++ [t.2.2.2]) t' σ3 (by rw [List.length_append]; show m.length + 1 = i + 1; omega) (fun x hx2 => ?_) hgd.1 he h6 (av13.fr4 h3 h7) ho3 e33
            rcases List.mem_append.mp hx2 with q | q
            · exact hx x q
            · rw [List.mem_singleton.mp q]; exact h9
        · rw [if_neg h9] at he
          have h2 := h2.2.1 (by rw [pv_add_p]; show m.length < 6; omega) h9
          subst h2
          have hne : ¬ (px_up σ' 4 4 3).1 4 4 = 0 := by rw [up4s]; decide
          refine ⟨(T, 0), ⟨(hb.keptL ho).keptL (frL.up (by omega)), hT, fun q => absurd q hne⟩, fun _ σ3 h3 => ?_⟩
          have h3 := h3.1 hne
          subst h3
          refine stop _ _ hne ⟨?_, ho.tr (frL.up (by omega)), by rw [up4n (by omega)]; exact e3⟩
          rw [← hR0, he]
          exact ⟨up4s, by rw [up4n (by omega)]; exact r6⟩
  exact loop 6 0 (by omega) [] t0 σ1 rfl (fun x hx => absurd hx List.not_mem_nil) ht0 hR0 (hrd σ1 (q2.1 4 (by omega))) q1 q2.L (by rw [q2.1 4 (by omega)])
theorem mX4_takeParrot (g : gtX4_takeParrot) : px_Met dC yX4_takeParrot (Cond.code yX4_takeParrot cX4_takeParrot 3 none :: wdC) rmX4_takeParrot px_vV (prX4_takeParrot g) (poX4_takeParrot g) :=
  px_met (Z := (cX4_takeParrot, 3, RX4, Cond.code yX4_takeParrot cX4_takeParrot 3 none :: wdC, none, rmX4_takeParrot, dC)) opX4_takeParrot (by decide) rfl rfl okX4_takeParrot (fun As σ h => by obtain ⟨v1, rfl, h⟩ := h; exact Nat.le_of_ble_eq_true rfl) (fun As σ h G hG => by obtain ⟨v1, rfl, h⟩ := h; exact hhX4_takeParrot g v1 σ h G hG)
abbrev gtX4_takeEar : Type := List Nat × pv_V × pt_K
def qrX4_takeEar : gtX4_takeEar → px_St → Prop
  | (T, V, t), σ => rb σ T ∧ tx_ok T ∧ td σ ∧ av_is σ 13 V ∧ rdC σ t ∧ tk_ok T t ∧ t.1 = 2
def qoX4_takeEar : gtX4_takeEar → px_St → Unit → px_St → Prop
  | (T, V, t), σ, _, σ' => (¬ (1 ≤ t.2.2.2 ∧ t.2.2.2 ≤ 4) → σ' = px_up σ 4 4 3) ∧ (1 ≤ t.2.2.2 ∧ t.2.2.2 ≤ 4 → nxC σ' (pt_next T t.2.2.1) ∧ av_is σ' 13 (pv_ear V t.2.2.2) ∧ σ'.1 4 3 = 1 ∧ frL σ σ')
def prX4_takeEar (g : gtX4_takeEar) : List Value → px_St → Prop := fun As σ => As = [.ref 4] ∧ qrX4_takeEar g σ
def poX4_takeEar (g : gtX4_takeEar) : List Value → px_St → Unit → px_St → Prop
  | [.ref _], σ, r, σ' => qoX4_takeEar g σ r σ'
  | _, _, _, _ => False
theorem dX4_takeEar_0 : decode cX4_takeEar 0 = .ok (.aload_n 0, 1) := by decide +kernel
theorem dX4_takeEar_1 : decode cX4_takeEar 1 = .ok (.getfield 72, 3) := by decide +kernel
theorem dX4_takeEar_4 : decode cX4_takeEar 4 = .ok (.iconst 1, 1) := by decide +kernel
theorem dX4_takeEar_5 : decode cX4_takeEar 5 = .ok (.iconst 4, 1) := by decide +kernel
theorem dX4_takeEar_6 : decode cX4_takeEar 6 = .ok (.invokestatic 75, 3) := by decide +kernel
theorem dX4_takeEar_9 : decode cX4_takeEar 9 = .ok (.ifCond .ne 9, 3) := by decide +kernel
theorem dX4_takeEar_12 : decode cX4_takeEar 12 = .ok (.aload_n 0, 1) := by decide +kernel
theorem dX4_takeEar_13 : decode cX4_takeEar 13 = .ok (.iconst 3, 1) := by decide +kernel
theorem dX4_takeEar_14 : decode cX4_takeEar 14 = .ok (.putfield 39, 3) := by decide +kernel
theorem dX4_takeEar_17 : decode cX4_takeEar 17 = .ok (.return_, 1) := by decide +kernel
theorem dX4_takeEar_18 : decode cX4_takeEar 18 = .ok (.aload_n 0, 1) := by decide +kernel
theorem dX4_takeEar_19 : decode cX4_takeEar 19 = .ok (.iconst 1, 1) := by decide +kernel
theorem dX4_takeEar_20 : decode cX4_takeEar 20 = .ok (.putfield 35, 3) := by decide +kernel
theorem dX4_takeEar_23 : decode cX4_takeEar 23 = .ok (.aload_n 0, 1) := by decide +kernel
theorem dX4_takeEar_24 : decode cX4_takeEar 24 = .ok (.getfield 18, 3) := by decide +kernel
theorem dX4_takeEar_27 : decode cX4_takeEar 27 = .ok (.aload_n 0, 1) := by decide +kernel
theorem dX4_takeEar_28 : decode cX4_takeEar 28 = .ok (.getfield 72, 3) := by decide +kernel
theorem dX4_takeEar_31 : decode cX4_takeEar 31 = .ok (.putfield 79, 3) := by decide +kernel
theorem dX4_takeEar_34 : decode cX4_takeEar 34 = .ok (.aload_n 0, 1) := by decide +kernel
theorem dX4_takeEar_35 : decode cX4_takeEar 35 = .ok (.invokevirtual 45, 3) := by decide +kernel
theorem dX4_takeEar_38 : decode cX4_takeEar 38 = .ok (.return_, 1) := by decide +kernel
abbrev rmX4_takeEar : Room := { frames := 3, cells := 0, slots := 0, locals := 61 }
def opX4_takeEar (po : Unit → px_St → Prop) : List (Nat × px_Op) := [
  (0, px_al 1 0),
  (1, px_get dC 4 4 8),
  (4, px_push 5 (.int 1)),
  (5, px_push 6 (.int 4)),
  (6, px_callS 9 3 px_vI prX5_isWithin poX5_isWithin),
  (9, px_if 12 18 (fun x => ¬ x = 0)),
  (12, px_al 13 0),
  (13, px_push 14 (.int 3)),
  (14, px_put dC 17 4 4 .int),
  (17, px_vret po),
  (18, px_al 19 0),
  (19, px_push 20 (.int 1)),
  (20, px_put dC 23 4 3 .boolean),
  (23, px_al 24 0),
  (24, px_get dC 27 4 2),
  (27, px_al 28 0),
  (28, px_get dC 31 4 8),
  (31, px_put dC 34 0 1 .int),
  (34, px_al 35 0),
  (35, px_callV dC 38 4 0 px_vV prX4_nextToken poX4_nextToken),
  (38, px_vret po)]
set_option maxRecDepth 100000 in
set_option maxHeartbeats 4000000 in
theorem okX4_takeEar : ∀ (po : Unit → px_St → Prop) (i pc : Nat) (op : px_Op), (opX4_takeEar po)[i]? = some (pc, op) → px_Snd (cX4_takeEar, 1, RX4, Cond.code yX4_takeEar cX4_takeEar 1 none :: wdC, none, rmX4_takeEar, dC) px_vV po pc op := by
  intro po
  unfold opX4_takeEar
  refine px_ok_cons (ps_aload_n dX4_takeEar_0 rfl) ?_
  refine px_ok_cons (fgX4_72 dX4_takeEar_1) ?_
  refine px_ok_cons (ps_iconst dX4_takeEar_4 (by decide)) ?_
  refine px_ok_cons (ps_iconst dX4_takeEar_5 (by decide)) ?_
  refine px_ok_cons (ps_callSN75 mX5_isWithin (by decide) dX4_takeEar_6) ?_
  refine px_ok_cons (ps_if_ne dX4_takeEar_9 (by decide)) ?_
  refine px_ok_cons (ps_aload_n dX4_takeEar_12 rfl) ?_
  refine px_ok_cons (ps_iconst dX4_takeEar_13 (by decide)) ?_
  refine px_ok_cons (fpX4_39 dX4_takeEar_14) ?_
  refine px_ok_cons (ps_return rfl dX4_takeEar_17) ?_
  refine px_ok_cons (ps_aload_n dX4_takeEar_18 rfl) ?_
  refine px_ok_cons (ps_iconst dX4_takeEar_19 (by decide)) ?_
  refine px_ok_cons (fpX4_35 dX4_takeEar_20) ?_
  refine px_ok_cons (ps_aload_n dX4_takeEar_23 rfl) ?_
  refine px_ok_cons (fgX4_18 dX4_takeEar_24) ?_
  refine px_ok_cons (ps_aload_n dX4_takeEar_27 rfl) ?_
  refine px_ok_cons (fgX4_72 dX4_takeEar_28) ?_
  refine px_ok_cons (fpX4_79 dX4_takeEar_31) ?_
  refine px_ok_cons (ps_aload_n dX4_takeEar_34 rfl) ?_
  refine px_ok_cons (ps_callV mX4_nextToken (fun _ _ => rfl) (C := RX4) rfl (fun _ _ ht => px_cwV wgC (wdC_4_in _ (List.mem_of_getElem? (i := 24) rfl)) (wdC_4_in _ (List.mem_of_getElem? (i := 25) rfl)) (wdC_4_in _ (List.mem_of_getElem? (i := 26) rfl)) (wdC_2_in _ (List.mem_of_getElem? (i := 35) rfl)) (wdC_2_in _ (List.mem_of_getElem? (i := 36) rfl)) (by decide +kernel) rfl rfl (by decide) ht) dX4_takeEar_35) ?_
  refine px_ok_cons (ps_return rfl dX4_takeEar_38) ?_
  exact px_ok_nil
set_option maxRecDepth 100000 in
set_option maxHeartbeats 4000000 in
theorem sgX4_takeEar_0 {po : Unit → px_St → Prop} {G : px_K} (hG : px_cl (opX4_takeEar po) G) (σ : px_St)
    (H : ∃ g3 : gtX5_isWithin, qrX5_isWithin g3 (σ.1 4 8) (1 : Int32) (4 : Int32) σ ∧ ∀ (r1 : Int32) (σ2 : px_St), qoX5_isWithin g3 (σ.1 4 8) (1 : Int32) (4 : Int32) σ r1 σ2 → ((¬ r1 = 0) → ((px_up σ2 4 3 (1 : Int32)).1 4 2).toNatClampNeg = 13 ∧ ∃ g8 : gtX4_nextToken, qrX4_nextToken g8 (px_up (px_up σ2 4 3 (1 : Int32)) 13 1 ((px_up σ2 4 3 (1 : Int32)).1 4 8)) ∧ ∀ (r6 : Unit) (σ7 : px_St), qoX4_nextToken g8 (px_up (px_up σ2 4 3 (1 : Int32)) 13 1 ((px_up σ2 4 3 (1 : Int32)).1 4 8)) r6 σ7 → po () σ7) ∧ (¬ (¬ r1 = 0) → po () (px_up σ2 4 4 (3 : Int32)))) :
    G 0 (px_ent 1 [.ref 4]) [] σ := by
  refine hG.1 0 _ _ rfl _ _ _ ?_
  refine hG.1 1 _ _ rfl _ _ _ ?_
  refine ⟨⟨rfl, by decide⟩, ?_⟩
  refine hG.1 2 _ _ rfl _ _ _ ?_
  refine hG.1 3 _ _ rfl _ _ _ ?_
  refine hG.1 4 _ _ rfl _ _ _ ?_
  obtain ⟨g3, H⟩ := H
  refine ⟨Nat.le_of_ble_eq_true rfl, Nat.le_of_ble_eq_true rfl, g3, ⟨_, _, _, rfl, H.1⟩, fun r1 σ2 hp4 => ?_⟩
  replace H := H.2 r1 σ2 hp4
  refine hG.1 5 _ _ rfl _ _ _ ?_
  refine ⟨fun h10 => ?_, fun h10 => ?_⟩
  · replace H := H.1 h10
    refine hG.1 10 _ _ rfl _ _ _ ?_
    refine hG.1 11 _ _ rfl _ _ _ ?_
    refine hG.1 12 _ _ rfl _ _ _ ?_
    refine ⟨⟨rfl, by decide⟩, ⟨rfl, rfl⟩, ?_⟩
    refine hG.1 13 _ _ rfl _ _ _ ?_
    refine hG.1 14 _ _ rfl _ _ _ ?_
    refine ⟨⟨rfl, by decide⟩, ?_⟩
    obtain ⟨hz5, H⟩ := H
    show G 27 [some (.ref 4)] [(.ref ((px_up σ2 4 3 (1 : Int32)).1 4 2).toNatClampNeg)] (px_up σ2 4 3 (1 : Int32))
    rw [hz5]
    refine hG.1 15 _ _ rfl _ _ _ ?_
    refine hG.1 16 _ _ rfl _ _ _ ?_
    refine ⟨⟨rfl, by decide⟩, ?_⟩
    refine hG.1 17 _ _ rfl _ _ _ ?_
    refine ⟨⟨rfl, by decide⟩, ⟨rfl, rfl⟩, ?_⟩
    refine hG.1 18 _ _ rfl _ _ _ ?_
    refine hG.1 19 _ _ rfl _ _ _ ?_
    obtain ⟨g8, H⟩ := H
    refine ⟨⟨rfl, by decide⟩, Nat.le_of_ble_eq_true rfl, g8, ⟨rfl, H.1⟩, fun r6 σ7 hp9 => ?_⟩
    replace H := H.2 r6 σ7 hp9
    refine hG.1 20 _ _ rfl _ _ _ ?_
    exact H
  · replace H := H.2 h10
    refine hG.1 6 _ _ rfl _ _ _ ?_
    refine hG.1 7 _ _ rfl _ _ _ ?_
    refine hG.1 8 _ _ rfl _ _ _ ?_
    refine ⟨⟨rfl, by decide⟩, ⟨rfl, rfl⟩, ?_⟩
    refine hG.1 9 _ _ rfl _ _ _ ?_
    exact H
set_option maxRecDepth 100000 in
set_option maxHeartbeats 4000000 in
theorem hhX4_takeEar (g : gtX4_takeEar) (σ : px_St) (h : qrX4_takeEar g σ) (G : px_K) (hG : px_cl (opX4_takeEar (qoX4_takeEar g σ)) G) : G 0 (px_ent 1 [.ref 4]) [] σ := by
  obtain ⟨T, V, t⟩ := g
  obtain ⟨hb, hT, hd, hV, ⟨r4, r5, r6, r7, r8⟩, ht, h2⟩ := h
  have hl := hT.1
  have h99 := ht.2.2.2.1
  have e8 := r8 h2
  refine sgX4_takeEar_0 hG σ ⟨(), trivial, fun r σ1 h1 => ?_⟩
  obtain ⟨rfl, b1⟩ := h1
  rw [e8] at b1
  have hc : (1 ≤ nI t.2.2.2 ∧ nI t.2.2.2 ≤ 4) ↔ (1 ≤ t.2.2.2 ∧ t.2.2.2 ≤ 4) := and_congr (nIle 1 t.2.2.2 rfl rfl (by omega) (by omega)) (nIle t.2.2.2 4 rfl rfl (by omega) (by omega))
  rw [hc] at b1
  refine bz1 b1 (fun z => ?_) (fun z => ⟨fun _ => rfl, fun q => absurd q z⟩)
  have e81 : (px_up σ1 4 3 1).1 4 8 = nI t.2.2.2 := by rw [up4n (by omega)]; exact e8
  have hoA : frL σ1 (px_up (px_up σ1 4 3 1) 13 1 (nI t.2.2.2)) := ⟨fun k a b => by rw [px_up_n (by omega), px_up_n (by omega)], fun j hj => by rw [px_up_n (by omega), up4n (by omega)]⟩
  rw [e81]
  refine ⟨by rw [up4n (by omega)]; exact hd, (T, t.2.2.1), ⟨hb.keptL hoA, hT, fun _ => ⟨ht.2.2.1, by rw [px_up_n (by omega), up4n (by omega)]; exact r7⟩⟩, fun _ σ2 h3 => ?_⟩
  obtain ⟨-, h4, h5⟩ := h3
  refine ⟨fun q => absurd z q, fun _ => ⟨h4 (by rw [px_up_n (by omega), up4n (by omega)]; exact r4), av13.fr4 ?_ h5, ?_, hoA.tr h5.L⟩⟩
  · have hV1 : av_is (px_up σ1 4 3 1) 13 V := av13.up4 hV
    refine ⟨⟨?_, ?_, ?_⟩, fun p hp => av_obj (V := V) (hV1.2 p hp)⟩
    · rw [px_up_at, if_neg (by omega)]; exact hV1.1.1
    · rw [px_up_at, if_pos ⟨rfl, rfl⟩]; rfl
    · rw [px_up_at, if_neg (by omega)]; exact hV1.1.2.2
  · rw [h5.2 3 (by omega), px_up_n (by omega), up4s]
theorem mX4_takeEar (g : gtX4_takeEar) : px_Met dC yX4_takeEar (Cond.code yX4_takeEar cX4_takeEar 1 none :: wdC) rmX4_takeEar px_vV (prX4_takeEar g) (poX4_takeEar g) :=
  px_met (Z := (cX4_takeEar, 1, RX4, Cond.code yX4_takeEar cX4_takeEar 1 none :: wdC, none, rmX4_takeEar, dC)) opX4_takeEar (by decide) rfl rfl okX4_takeEar (fun As σ h => by obtain ⟨rfl, h⟩ := h; exact Nat.le_of_ble_eq_true rfl) (fun As σ h G hG => by obtain ⟨rfl, h⟩ := h; exact hhX4_takeEar g σ h G hG)
abbrev gtX4_faultOfLine : Type := pv_V × Nat × Nat
def qrX4_faultOfLine : gtX4_faultOfLine → Int32 → px_St → Prop
  | (V, K, e), v1, σ => td σ ∧ σ.1 13 0 = nI V.1 ∧ V.1 ≤ 5 ∧ (K ≤ 4 ∨ K = 9) ∧ v1 = (if K = 9 then -1 else nI K) ∧ σ.1 4 3 = nI e ∧ e ≤ 1
def qoX4_faultOfLine : gtX4_faultOfLine → Int32 → px_St → Int32 → px_St → Prop
  | (V, K, e), _, σ, r, σ' => σ' = σ ∧ r = nI (pt_flt V K e)
def prX4_faultOfLine (g : gtX4_faultOfLine) : List Value → px_St → Prop := fun As σ => ∃ v1 : Int32, As = [.ref 4, .int v1] ∧ qrX4_faultOfLine g v1 σ
def poX4_faultOfLine (g : gtX4_faultOfLine) : List Value → px_St → Int32 → px_St → Prop
  | [.ref _, .int v1], σ, r, σ' => qoX4_faultOfLine g v1 σ r σ'
  | _, _, _, _ => False
theorem dX4_faultOfLine_0 : decode cX4_faultOfLine 0 = .ok (.iload_n 1, 1) := by decide +kernel
theorem dX4_faultOfLine_1 : decode cX4_faultOfLine 1 = .ok (.iconst (-1), 1) := by decide +kernel
theorem dX4_faultOfLine_2 : decode cX4_faultOfLine 2 = .ok (.if_icmp .ne 5, 3) := by decide +kernel
theorem dX4_faultOfLine_5 : decode cX4_faultOfLine 5 = .ok (.iconst 2, 1) := by decide +kernel
theorem dX4_faultOfLine_6 : decode cX4_faultOfLine 6 = .ok (.ireturn, 1) := by decide +kernel
theorem dX4_faultOfLine_7 : decode cX4_faultOfLine 7 = .ok (.iload_n 1, 1) := by decide +kernel
theorem dX4_faultOfLine_8 : decode cX4_faultOfLine 8 = .ok (.iconst 4, 1) := by decide +kernel
theorem dX4_faultOfLine_9 : decode cX4_faultOfLine 9 = .ok (.if_icmp .ne 16, 3) := by decide +kernel
theorem dX4_faultOfLine_12 : decode cX4_faultOfLine 12 = .ok (.aload_n 0, 1) := by decide +kernel
theorem dX4_faultOfLine_13 : decode cX4_faultOfLine 13 = .ok (.getfield 35, 3) := by decide +kernel
theorem dX4_faultOfLine_16 : decode cX4_faultOfLine 16 = .ok (.ifCond .eq 7, 3) := by decide +kernel
theorem dX4_faultOfLine_19 : decode cX4_faultOfLine 19 = .ok (.iconst 4, 1) := by decide +kernel
theorem dX4_faultOfLine_20 : decode cX4_faultOfLine 20 = .ok (.goto 4, 3) := by decide +kernel
theorem dX4_faultOfLine_23 : decode cX4_faultOfLine 23 = .ok (.iconst 0, 1) := by decide +kernel
theorem dX4_faultOfLine_24 : decode cX4_faultOfLine 24 = .ok (.ireturn, 1) := by decide +kernel
theorem dX4_faultOfLine_25 : decode cX4_faultOfLine 25 = .ok (.aload_n 0, 1) := by decide +kernel
theorem dX4_faultOfLine_26 : decode cX4_faultOfLine 26 = .ok (.getfield 18, 3) := by decide +kernel
theorem dX4_faultOfLine_29 : decode cX4_faultOfLine 29 = .ok (.getfield 69, 3) := by decide +kernel
theorem dX4_faultOfLine_32 : decode cX4_faultOfLine 32 = .ok (.iconst 5, 1) := by decide +kernel
theorem dX4_faultOfLine_33 : decode cX4_faultOfLine 33 = .ok (.if_icmp .lt 7, 3) := by decide +kernel
theorem dX4_faultOfLine_36 : decode cX4_faultOfLine 36 = .ok (.iconst 5, 1) := by decide +kernel
theorem dX4_faultOfLine_37 : decode cX4_faultOfLine 37 = .ok (.goto 4, 3) := by decide +kernel
theorem dX4_faultOfLine_40 : decode cX4_faultOfLine 40 = .ok (.iconst 0, 1) := by decide +kernel
theorem dX4_faultOfLine_41 : decode cX4_faultOfLine 41 = .ok (.ireturn, 1) := by decide +kernel
abbrev rmX4_faultOfLine : Room := { frames := 0, cells := 0, slots := 0, locals := 0 }
def opX4_faultOfLine (po : Int32 → px_St → Prop) : List (Nat × px_Op) := [
  (0, px_il 1 1),
  (1, px_push 2 (.int (-1))),
  (2, px_ic 5 7 (fun x y => ¬ x = y)),
  (5, px_push 6 (.int 2)),
  (6, px_iret (.int) po),
  (7, px_il 8 1),
  (8, px_push 9 (.int 4)),
  (9, px_ic 12 25 (fun x y => ¬ x = y)),
  (12, px_al 13 0),
  (13, px_get dC 16 4 3),
  (16, px_if 19 23 (fun x => x = 0)),
  (19, px_push 20 (.int 4)),
  (20, px_go 24),
  (23, px_push 24 (.int 0)),
  (24, px_iret (.int) po),
  (25, px_al 26 0),
  (26, px_get dC 29 4 2),
  (29, px_get dC 32 0 0),
  (32, px_push 33 (.int 5)),
  (33, px_ic 36 40 (fun x y => x < y)),
  (36, px_push 37 (.int 5)),
  (37, px_go 41),
  (40, px_push 41 (.int 0)),
  (41, px_iret (.int) po)]
set_option maxRecDepth 100000 in
set_option maxHeartbeats 4000000 in
theorem okX4_faultOfLine : ∀ (po : Int32 → px_St → Prop) (i pc : Nat) (op : px_Op), (opX4_faultOfLine po)[i]? = some (pc, op) → px_Snd (cX4_faultOfLine, 2, RX4, Cond.code yX4_faultOfLine cX4_faultOfLine 2 (some .int) :: wdC, (some .int), rmX4_faultOfLine, dC) px_vI po pc op := by
  intro po
  unfold opX4_faultOfLine
  refine px_ok_cons (ps_iload_n dX4_faultOfLine_0 rfl) ?_
  refine px_ok_cons (ps_iconst dX4_faultOfLine_1 (by decide)) ?_
  refine px_ok_cons (ps_icmp_ne dX4_faultOfLine_2 (by decide)) ?_
  refine px_ok_cons (ps_iconst dX4_faultOfLine_5 (by decide)) ?_
  refine px_ok_cons (ps_ireturn rfl dX4_faultOfLine_6) ?_
  refine px_ok_cons (ps_iload_n dX4_faultOfLine_7 rfl) ?_
  refine px_ok_cons (ps_iconst dX4_faultOfLine_8 (by decide)) ?_
  refine px_ok_cons (ps_icmp_ne dX4_faultOfLine_9 (by decide)) ?_
  refine px_ok_cons (ps_aload_n dX4_faultOfLine_12 rfl) ?_
  refine px_ok_cons (fgX4_35 dX4_faultOfLine_13) ?_
  refine px_ok_cons (ps_if_eq dX4_faultOfLine_16 (by decide)) ?_
  refine px_ok_cons (ps_iconst dX4_faultOfLine_19 (by decide)) ?_
  refine px_ok_cons (ps_goto dX4_faultOfLine_20 (by decide)) ?_
  refine px_ok_cons (ps_iconst dX4_faultOfLine_23 (by decide)) ?_
  refine px_ok_cons (ps_ireturn rfl dX4_faultOfLine_24) ?_
  refine px_ok_cons (ps_aload_n dX4_faultOfLine_25 rfl) ?_
  refine px_ok_cons (fgX4_18 dX4_faultOfLine_26) ?_
  refine px_ok_cons (fgX4_69 dX4_faultOfLine_29) ?_
  refine px_ok_cons (ps_iconst dX4_faultOfLine_32 (by decide)) ?_
  refine px_ok_cons (ps_icmp_lt dX4_faultOfLine_33 (by decide)) ?_
  refine px_ok_cons (ps_iconst dX4_faultOfLine_36 (by decide)) ?_
  refine px_ok_cons (ps_goto dX4_faultOfLine_37 (by decide)) ?_
  refine px_ok_cons (ps_iconst dX4_faultOfLine_40 (by decide)) ?_
  refine px_ok_cons (ps_ireturn rfl dX4_faultOfLine_41) ?_
  exact px_ok_nil
set_option maxRecDepth 100000 in
set_option maxHeartbeats 4000000 in
theorem sgX4_faultOfLine_0 {po : Int32 → px_St → Prop} {G : px_K} (hG : px_cl (opX4_faultOfLine po) G) (v1 : Int32) (σ : px_St)
    (H : ((¬ v1 = (-1 : Int32)) → ((¬ v1 = (4 : Int32)) → (σ.1 4 2).toNatClampNeg = 13 ∧ (((σ.1 13 0) < (5 : Int32)) → po (0 : Int32) σ) ∧ (¬ ((σ.1 13 0) < (5 : Int32)) → po (5 : Int32) σ)) ∧ (¬ (¬ v1 = (4 : Int32)) → (((σ.1 4 3) = 0) → po (0 : Int32) σ) ∧ (¬ ((σ.1 4 3) = 0) → po (4 : Int32) σ))) ∧ (¬ (¬ v1 = (-1 : Int32)) → po (2 : Int32) σ)) :
    G 0 (px_ent 2 [.ref 4, .int v1]) [] σ := by
  refine hG.1 0 _ _ rfl _ _ _ ?_
  refine hG.1 1 _ _ rfl _ _ _ ?_
  refine hG.1 2 _ _ rfl _ _ _ ?_
  refine ⟨fun h5 => ?_, fun h5 => ?_⟩
  · replace H := H.1 h5
    refine hG.1 5 _ _ rfl _ _ _ ?_
    refine hG.1 6 _ _ rfl _ _ _ ?_
    refine hG.1 7 _ _ rfl _ _ _ ?_
    refine ⟨fun h4 => ?_, fun h4 => ?_⟩
    · replace H := H.1 h4
      refine hG.1 15 _ _ rfl _ _ _ ?_
      refine hG.1 16 _ _ rfl _ _ _ ?_
      refine ⟨⟨rfl, by decide⟩, ?_⟩
      obtain ⟨hz1, H⟩ := H
      show G 29 [some (.ref 4), some (.int v1)] [(.ref (σ.1 4 2).toNatClampNeg)] σ
      rw [hz1]
      refine hG.1 17 _ _ rfl _ _ _ ?_
      refine ⟨⟨rfl, by decide⟩, ?_⟩
      refine hG.1 18 _ _ rfl _ _ _ ?_
      refine hG.1 19 _ _ rfl _ _ _ ?_
      refine ⟨fun h2 => ?_, fun h2 => ?_⟩
      · replace H := H.1 h2
        refine hG.1 22 _ _ rfl _ _ _ ?_
        refine hG.1 23 _ _ rfl _ _ _ ?_
        exact ⟨rfl, H⟩
      · replace H := H.2 h2
        refine hG.1 20 _ _ rfl _ _ _ ?_
        refine hG.1 21 _ _ rfl _ _ _ ?_
        refine hG.1 23 _ _ rfl _ _ _ ?_
        exact ⟨rfl, H⟩
    · replace H := H.2 h4
      refine hG.1 8 _ _ rfl _ _ _ ?_
      refine hG.1 9 _ _ rfl _ _ _ ?_
      refine ⟨⟨rfl, by decide⟩, ?_⟩
      refine hG.1 10 _ _ rfl _ _ _ ?_
      refine ⟨fun h3 => ?_, fun h3 => ?_⟩
      · replace H := H.1 h3
        refine hG.1 13 _ _ rfl _ _ _ ?_
        refine hG.1 14 _ _ rfl _ _ _ ?_
        exact ⟨rfl, H⟩
      · replace H := H.2 h3
        refine hG.1 11 _ _ rfl _ _ _ ?_
        refine hG.1 12 _ _ rfl _ _ _ ?_
        refine hG.1 14 _ _ rfl _ _ _ ?_
        exact ⟨rfl, H⟩
  · replace H := H.2 h5
    refine hG.1 3 _ _ rfl _ _ _ ?_
    refine hG.1 4 _ _ rfl _ _ _ ?_
    exact ⟨rfl, H⟩
set_option maxRecDepth 100000 in
set_option maxHeartbeats 4000000 in
theorem hhX4_faultOfLine (g : gtX4_faultOfLine) (v1 : Int32) (σ : px_St) (h : qrX4_faultOfLine g v1 σ) (G : px_K) (hG : px_cl (opX4_faultOfLine (qoX4_faultOfLine g v1 σ)) G) : G 0 (px_ent 2 [.ref 4, .int v1]) [] σ := by
  obtain ⟨V, K, e⟩ := g
  obtain ⟨hd, h13, hV, hK, rfl, h3, he⟩ := h
  refine sgX4_faultOfLine_0 hG _ σ ?_
  rw [h13, h3]
  have c5 : nI V.1 < 5 ↔ V.1 < 5 := nIlt _ 5 rfl rfl (by omega) (by omega)
  have c0 : nI e = 0 ↔ e = 0 := nIe _ 0 rfl rfl (by omega) (by omega)
  have cm : (if K = 9 then (-1 : Int32) else nI K) = -1 ↔ K = 9 := by
    by_cases h9 : K = 9
    · rw [if_pos h9]; exact ⟨fun _ => h9, fun _ => rfl⟩
    · rw [if_neg h9]
      have : ∀ k, k ≤ 4 → ¬ nI k = -1 := by decide
      exact ⟨fun q => absurd q (this K (by omega)), fun q => absurd q h9⟩
  have c4 : (if K = 9 then (-1 : Int32) else nI K) = 4 ↔ K = 4 := by
    by_cases h9 : K = 9
    · rw [if_pos h9]; exact ⟨fun q => absurd q (by decide), fun q => by omega⟩
    · rw [if_neg h9]; exact nIe _ 4 rfl rfl (by omega) (by omega)
  rw [c5, c0, cm, c4]
  have key : ∀ w r, r = nI (if K = 9 then 2 else if K = 4 then (if e = 1 then 4 else 0) else if V.1 < 5 then 0 else 5) → qoX4_faultOfLine (V, K, e) w σ r σ := fun w r q => ⟨rfl, q⟩
  refine ⟨fun h9 => ⟨fun h4 => ⟨hd, fun h5 => key _ _ ?_, fun h5 => key _ _ ?_⟩, fun h4 => ⟨fun h5 => key _ _ ?_, fun h5 => key _ _ ?_⟩⟩, fun h9 => key _ _ ?_⟩
  · rw [if_neg h9, if_neg h4, if_pos h5]; rfl
  · rw [if_neg h9, if_neg h4, if_neg h5]; rfl
  · rw [if_neg h9, if_pos (Classical.byContradiction h4), if_neg (by omega)]; rfl
  · rw [if_neg h9, if_pos (Classical.byContradiction h4), if_pos (by omega)]; rfl
  · rw [if_pos (Classical.byContradiction h9)]; rfl
theorem mX4_faultOfLine (g : gtX4_faultOfLine) : px_Met dC yX4_faultOfLine (Cond.code yX4_faultOfLine cX4_faultOfLine 2 (some .int) :: wdC) rmX4_faultOfLine px_vI (prX4_faultOfLine g) (poX4_faultOfLine g) :=
  px_met (Z := (cX4_faultOfLine, 2, RX4, Cond.code yX4_faultOfLine cX4_faultOfLine 2 (some .int) :: wdC, (some .int), rmX4_faultOfLine, dC)) opX4_faultOfLine (by decide) rfl rfl okX4_faultOfLine (fun As σ h => by obtain ⟨v1, rfl, h⟩ := h; exact Nat.le_of_ble_eq_true rfl) (fun As σ h G hG => by obtain ⟨v1, rfl, h⟩ := h; exact hhX4_faultOfLine g v1 σ h G hG)
abbrev gtX4_takeLine : Type := List Nat × pv_V × Nat × pt_K
def qrX4_takeLine : gtX4_takeLine → px_St → Prop
  | (T, V, e, t), σ => rb σ T ∧ tx_ok T ∧ td σ ∧ av_is σ 13 V ∧ pv_ok V ∧ σ.1 4 3 = nI e ∧ e ≤ 1 ∧ rdC σ t ∧ tk_ok T t
def qoX4_takeLine : gtX4_takeLine → px_St → Unit → px_St → Prop
  | (T, V, e, t), σ, _, σ' => rsC σ' (fun w : pv_V × Nat × pt_K => rdC σ' w.2.2 ∧ av_is σ' 13 w.1 ∧ σ'.1 4 3 = nI w.2.1) (pt_line T V e t) ∧ frL σ σ'
theorem rd5 {σ : px_St} {t : pt_K} {T : List Nat} (h : rdC σ t) (ht : tk_ok T t) (c : Int32) (n : Nat) (hc : c = nI n) (hn : n = 1 ∨ n = 2 ∨ n = 3) : σ.1 4 5 = c ↔ t.1 = n := by
  have h1 := ht.1
  rw [h.2.1, hc]
  by_cases h0 : t.1 = 0
  · rw [if_pos h0]
    refine ⟨fun q => ?_, fun q => by omega⟩
    exfalso
    have : ∀ k, k = 1 ∨ k = 2 ∨ k = 3 → ¬ (4 : Int32) = nI k := by
      intro k hk
      rcases hk with rfl | rfl | rfl <;> decide
    exact this n hn q
  · rw [if_neg h0]; exact nI_eq (by omega) (by omega)
def prX4_takeLine (g : gtX4_takeLine) : List Value → px_St → Prop := fun As σ => As = [.ref 4] ∧ qrX4_takeLine g σ
def poX4_takeLine (g : gtX4_takeLine) : List Value → px_St → Unit → px_St → Prop
  | [.ref _], σ, r, σ' => qoX4_takeLine g σ r σ'
  | _, _, _, _ => False
theorem dX4_takeLine_0 : decode cX4_takeLine 0 = .ok (.aload_n 0, 1) := by decide +kernel
theorem dX4_takeLine_1 : decode cX4_takeLine 1 = .ok (.getfield 48, 3) := by decide +kernel
theorem dX4_takeLine_4 : decode cX4_takeLine 4 = .ok (.iconst 1, 1) := by decide +kernel
theorem dX4_takeLine_5 : decode cX4_takeLine 5 = .ok (.if_icmp .ne 10, 3) := by decide +kernel
theorem dX4_takeLine_8 : decode cX4_takeLine 8 = .ok (.aload_n 0, 1) := by decide +kernel
theorem dX4_takeLine_9 : decode cX4_takeLine 9 = .ok (.invokevirtual 54, 3) := by decide +kernel
theorem dX4_takeLine_12 : decode cX4_takeLine 12 = .ok (.goto 4, 3) := by decide +kernel
theorem dX4_takeLine_15 : decode cX4_takeLine 15 = .ok (.iconst (-1), 1) := by decide +kernel
theorem dX4_takeLine_16 : decode cX4_takeLine 16 = .ok (.istore_n 1, 1) := by decide +kernel
theorem dX4_takeLine_17 : decode cX4_takeLine 17 = .ok (.aload_n 0, 1) := by decide +kernel
theorem dX4_takeLine_18 : decode cX4_takeLine 18 = .ok (.aload_n 0, 1) := by decide +kernel
theorem dX4_takeLine_19 : decode cX4_takeLine 19 = .ok (.iload_n 1, 1) := by decide +kernel
theorem dX4_takeLine_20 : decode cX4_takeLine 20 = .ok (.invokevirtual 58, 3) := by decide +kernel
theorem dX4_takeLine_23 : decode cX4_takeLine 23 = .ok (.putfield 39, 3) := by decide +kernel
theorem dX4_takeLine_26 : decode cX4_takeLine 26 = .ok (.aload_n 0, 1) := by decide +kernel
theorem dX4_takeLine_27 : decode cX4_takeLine 27 = .ok (.invokevirtual 45, 3) := by decide +kernel
theorem dX4_takeLine_30 : decode cX4_takeLine 30 = .ok (.aload_n 0, 1) := by decide +kernel
theorem dX4_takeLine_31 : decode cX4_takeLine 31 = .ok (.getfield 39, 3) := by decide +kernel
theorem dX4_takeLine_34 : decode cX4_takeLine 34 = .ok (.ifCond .ne 16, 3) := by decide +kernel
theorem dX4_takeLine_37 : decode cX4_takeLine 37 = .ok (.aload_n 0, 1) := by decide +kernel
theorem dX4_takeLine_38 : decode cX4_takeLine 38 = .ok (.getfield 48, 3) := by decide +kernel
theorem dX4_takeLine_41 : decode cX4_takeLine 41 = .ok (.iconst 2, 1) := by decide +kernel
theorem dX4_takeLine_42 : decode cX4_takeLine 42 = .ok (.if_icmp .eq 8, 3) := by decide +kernel
theorem dX4_takeLine_45 : decode cX4_takeLine 45 = .ok (.aload_n 0, 1) := by decide +kernel
theorem dX4_takeLine_46 : decode cX4_takeLine 46 = .ok (.iconst 2, 1) := by decide +kernel
theorem dX4_takeLine_47 : decode cX4_takeLine 47 = .ok (.putfield 39, 3) := by decide +kernel
theorem dX4_takeLine_50 : decode cX4_takeLine 50 = .ok (.aload_n 0, 1) := by decide +kernel
theorem dX4_takeLine_51 : decode cX4_takeLine 51 = .ok (.getfield 39, 3) := by decide +kernel
theorem dX4_takeLine_54 : decode cX4_takeLine 54 = .ok (.ifCond .ne 15, 3) := by decide +kernel
theorem dX4_takeLine_57 : decode cX4_takeLine 57 = .ok (.iload_n 1, 1) := by decide +kernel
theorem dX4_takeLine_58 : decode cX4_takeLine 58 = .ok (.iconst 4, 1) := by decide +kernel
theorem dX4_takeLine_59 : decode cX4_takeLine 59 = .ok (.if_icmp .ne 10, 3) := by decide +kernel
theorem dX4_takeLine_62 : decode cX4_takeLine 62 = .ok (.aload_n 0, 1) := by decide +kernel
theorem dX4_takeLine_63 : decode cX4_takeLine 63 = .ok (.invokevirtual 62, 3) := by decide +kernel
theorem dX4_takeLine_66 : decode cX4_takeLine 66 = .ok (.goto 15, 3) := by decide +kernel
theorem dX4_takeLine_69 : decode cX4_takeLine 69 = .ok (.aload_n 0, 1) := by decide +kernel
theorem dX4_takeLine_70 : decode cX4_takeLine 70 = .ok (.getfield 39, 3) := by decide +kernel
theorem dX4_takeLine_73 : decode cX4_takeLine 73 = .ok (.ifCond .ne 8, 3) := by decide +kernel
theorem dX4_takeLine_76 : decode cX4_takeLine 76 = .ok (.aload_n 0, 1) := by decide +kernel
theorem dX4_takeLine_77 : decode cX4_takeLine 77 = .ok (.iload_n 1, 1) := by decide +kernel
theorem dX4_takeLine_78 : decode cX4_takeLine 78 = .ok (.invokevirtual 65, 3) := by decide +kernel
theorem dX4_takeLine_81 : decode cX4_takeLine 81 = .ok (.aload_n 0, 1) := by decide +kernel
theorem dX4_takeLine_82 : decode cX4_takeLine 82 = .ok (.getfield 39, 3) := by decide +kernel
theorem dX4_takeLine_85 : decode cX4_takeLine 85 = .ok (.ifCond .ne 16, 3) := by decide +kernel
theorem dX4_takeLine_88 : decode cX4_takeLine 88 = .ok (.aload_n 0, 1) := by decide +kernel
theorem dX4_takeLine_89 : decode cX4_takeLine 89 = .ok (.getfield 48, 3) := by decide +kernel
theorem dX4_takeLine_92 : decode cX4_takeLine 92 = .ok (.iconst 3, 1) := by decide +kernel
theorem dX4_takeLine_93 : decode cX4_takeLine 93 = .ok (.if_icmp .eq 8, 3) := by decide +kernel
theorem dX4_takeLine_96 : decode cX4_takeLine 96 = .ok (.aload_n 0, 1) := by decide +kernel
theorem dX4_takeLine_97 : decode cX4_takeLine 97 = .ok (.iconst 2, 1) := by decide +kernel
theorem dX4_takeLine_98 : decode cX4_takeLine 98 = .ok (.putfield 39, 3) := by decide +kernel
theorem dX4_takeLine_101 : decode cX4_takeLine 101 = .ok (.return_, 1) := by decide +kernel
abbrev rmX4_takeLine : Room := { frames := 6, cells := 0, slots := 0, locals := 127 }
def opX4_takeLine (po : Unit → px_St → Prop) : List (Nat × px_Op) := [
  (0, px_al 1 0),
  (1, px_get dC 4 4 5),
  (4, px_push 5 (.int 1)),
  (5, px_ic 8 15 (fun x y => ¬ x = y)),
  (8, px_al 9 0),
  (9, px_callV dC 12 4 0 px_vI prX4_lineNamed poX4_lineNamed),
  (12, px_go 16),
  (15, px_push 16 (.int (-1))),
  (16, px_is 17 1),
  (17, px_al 18 0),
  (18, px_al 19 0),
  (19, px_il 20 1),
  (20, px_callV dC 23 4 1 px_vI prX4_faultOfLine poX4_faultOfLine),
  (23, px_put dC 26 4 4 .int),
  (26, px_al 27 0),
  (27, px_callV dC 30 4 0 px_vV prX4_nextToken poX4_nextToken),
  (30, px_al 31 0),
  (31, px_get dC 34 4 4),
  (34, px_if 37 50 (fun x => ¬ x = 0)),
  (37, px_al 38 0),
  (38, px_get dC 41 4 5),
  (41, px_push 42 (.int 2)),
  (42, px_ic 45 50 (fun x y => x = y)),
  (45, px_al 46 0),
  (46, px_push 47 (.int 2)),
  (47, px_put dC 50 4 4 .int),
  (50, px_al 51 0),
  (51, px_get dC 54 4 4),
  (54, px_if 57 69 (fun x => ¬ x = 0)),
  (57, px_il 58 1),
  (58, px_push 59 (.int 4)),
  (59, px_ic 62 69 (fun x y => ¬ x = y)),
  (62, px_al 63 0),
  (63, px_callV dC 66 4 0 px_vV prX4_takeEar poX4_takeEar),
  (66, px_go 81),
  (69, px_al 70 0),
  (70, px_get dC 73 4 4),
  (73, px_if 76 81 (fun x => ¬ x = 0)),
  (76, px_al 77 0),
  (77, px_il 78 1),
  (78, px_callV dC 81 4 1 px_vV prX4_takeParrot poX4_takeParrot),
  (81, px_al 82 0),
  (82, px_get dC 85 4 4),
  (85, px_if 88 101 (fun x => ¬ x = 0)),
  (88, px_al 89 0),
  (89, px_get dC 92 4 5),
  (92, px_push 93 (.int 3)),
  (93, px_ic 96 101 (fun x y => x = y)),
  (96, px_al 97 0),
  (97, px_push 98 (.int 2)),
  (98, px_put dC 101 4 4 .int),
  (101, px_vret po)]
set_option maxRecDepth 100000 in
set_option maxHeartbeats 4000000 in
theorem okX4_takeLine : ∀ (po : Unit → px_St → Prop) (i pc : Nat) (op : px_Op), (opX4_takeLine po)[i]? = some (pc, op) → px_Snd (cX4_takeLine, 2, RX4, Cond.code yX4_takeLine cX4_takeLine 2 none :: wdC, none, rmX4_takeLine, dC) px_vV po pc op := by
  intro po
  unfold opX4_takeLine
  refine px_ok_cons (ps_aload_n dX4_takeLine_0 rfl) ?_
  refine px_ok_cons (fgX4_48 dX4_takeLine_1) ?_
  refine px_ok_cons (ps_iconst dX4_takeLine_4 (by decide)) ?_
  refine px_ok_cons (ps_icmp_ne dX4_takeLine_5 (by decide)) ?_
  refine px_ok_cons (ps_aload_n dX4_takeLine_8 rfl) ?_
  refine px_ok_cons (ps_callV mX4_lineNamed (fun _ _ => rfl) (C := RX4) rfl (fun _ _ ht => px_cwV wgC (wdC_5_in _ (List.mem_of_getElem? (i := 1) rfl)) (wdC_5_in _ (List.mem_of_getElem? (i := 2) rfl)) (wdC_5_in _ (List.mem_of_getElem? (i := 3) rfl)) (wdC_2_in _ (List.mem_of_getElem? (i := 35) rfl)) (wdC_4_in _ (List.mem_of_getElem? (i := 16) rfl)) (by decide +kernel) rfl rfl (by decide) ht) dX4_takeLine_9) ?_
  refine px_ok_cons (ps_goto dX4_takeLine_12 (by decide)) ?_
  refine px_ok_cons (ps_iconst dX4_takeLine_15 (by decide)) ?_
  refine px_ok_cons (ps_istore_n dX4_takeLine_16 rfl (by decide)) ?_
  refine px_ok_cons (ps_aload_n dX4_takeLine_17 rfl) ?_
  refine px_ok_cons (ps_aload_n dX4_takeLine_18 rfl) ?_
  refine px_ok_cons (ps_iload_n dX4_takeLine_19 rfl) ?_
  refine px_ok_cons (ps_callV mX4_faultOfLine (fun _ _ => rfl) (C := RX4) rfl (fun _ _ ht => px_cwV wgC (wdC_5_in _ (List.mem_of_getElem? (i := 4) rfl)) (wdC_5_in _ (List.mem_of_getElem? (i := 5) rfl)) (wdC_5_in _ (List.mem_of_getElem? (i := 6) rfl)) (wdC_2_in _ (List.mem_of_getElem? (i := 35) rfl)) (wdC_4_in _ (List.mem_of_getElem? (i := 17) rfl)) (by decide +kernel) rfl rfl (by decide) ht) dX4_takeLine_20) ?_
  refine px_ok_cons (fpX4_39 dX4_takeLine_23) ?_
  refine px_ok_cons (ps_aload_n dX4_takeLine_26 rfl) ?_
  refine px_ok_cons (ps_callV mX4_nextToken (fun _ _ => rfl) (C := RX4) rfl (fun _ _ ht => px_cwV wgC (wdC_4_in _ (List.mem_of_getElem? (i := 24) rfl)) (wdC_4_in _ (List.mem_of_getElem? (i := 25) rfl)) (wdC_4_in _ (List.mem_of_getElem? (i := 26) rfl)) (wdC_2_in _ (List.mem_of_getElem? (i := 35) rfl)) (wdC_2_in _ (List.mem_of_getElem? (i := 36) rfl)) (by decide +kernel) rfl rfl (by decide) ht) dX4_takeLine_27) ?_
  refine px_ok_cons (ps_aload_n dX4_takeLine_30 rfl) ?_
  refine px_ok_cons (fgX4_39 dX4_takeLine_31) ?_
  refine px_ok_cons (ps_if_ne dX4_takeLine_34 (by decide)) ?_
  refine px_ok_cons (ps_aload_n dX4_takeLine_37 rfl) ?_
  refine px_ok_cons (fgX4_48 dX4_takeLine_38) ?_
  refine px_ok_cons (ps_iconst dX4_takeLine_41 (by decide)) ?_
  refine px_ok_cons (ps_icmp_eq dX4_takeLine_42 (by decide)) ?_
  refine px_ok_cons (ps_aload_n dX4_takeLine_45 rfl) ?_
  refine px_ok_cons (ps_iconst dX4_takeLine_46 (by decide)) ?_
  refine px_ok_cons (fpX4_39 dX4_takeLine_47) ?_
  refine px_ok_cons (ps_aload_n dX4_takeLine_50 rfl) ?_
  refine px_ok_cons (fgX4_39 dX4_takeLine_51) ?_
  refine px_ok_cons (ps_if_ne dX4_takeLine_54 (by decide)) ?_
  refine px_ok_cons (ps_iload_n dX4_takeLine_57 rfl) ?_
  refine px_ok_cons (ps_iconst dX4_takeLine_58 (by decide)) ?_
  refine px_ok_cons (ps_icmp_ne dX4_takeLine_59 (by decide)) ?_
  refine px_ok_cons (ps_aload_n dX4_takeLine_62 rfl) ?_
  refine px_ok_cons (ps_callV mX4_takeEar (fun _ _ => rfl) (C := RX4) rfl (fun _ _ ht => px_cwV wgC (wdC_5_in _ (List.mem_of_getElem? (i := 7) rfl)) (wdC_5_in _ (List.mem_of_getElem? (i := 8) rfl)) (wdC_5_in _ (List.mem_of_getElem? (i := 9) rfl)) (wdC_2_in _ (List.mem_of_getElem? (i := 35) rfl)) (wdC_4_in _ (List.mem_of_getElem? (i := 27) rfl)) (by decide +kernel) rfl rfl (by decide) ht) dX4_takeLine_63) ?_
  refine px_ok_cons (ps_goto dX4_takeLine_66 (by decide)) ?_
  refine px_ok_cons (ps_aload_n dX4_takeLine_69 rfl) ?_
  refine px_ok_cons (fgX4_39 dX4_takeLine_70) ?_
  refine px_ok_cons (ps_if_ne dX4_takeLine_73 (by decide)) ?_
  refine px_ok_cons (ps_aload_n dX4_takeLine_76 rfl) ?_
  refine px_ok_cons (ps_iload_n dX4_takeLine_77 rfl) ?_
  refine px_ok_cons (ps_callV mX4_takeParrot (fun _ _ => rfl) (C := RX4) rfl (fun _ _ ht => px_cwV wgC (wdC_5_in _ (List.mem_of_getElem? (i := 10) rfl)) (wdC_5_in _ (List.mem_of_getElem? (i := 11) rfl)) (wdC_5_in _ (List.mem_of_getElem? (i := 12) rfl)) (wdC_2_in _ (List.mem_of_getElem? (i := 35) rfl)) (wdC_5_in _ (List.mem_of_getElem? (i := 0) rfl)) (by decide +kernel) rfl rfl (by decide) ht) dX4_takeLine_78) ?_
  refine px_ok_cons (ps_aload_n dX4_takeLine_81 rfl) ?_
  refine px_ok_cons (fgX4_39 dX4_takeLine_82) ?_
  refine px_ok_cons (ps_if_ne dX4_takeLine_85 (by decide)) ?_
  refine px_ok_cons (ps_aload_n dX4_takeLine_88 rfl) ?_
  refine px_ok_cons (fgX4_48 dX4_takeLine_89) ?_
  refine px_ok_cons (ps_iconst dX4_takeLine_92 (by decide)) ?_
  refine px_ok_cons (ps_icmp_eq dX4_takeLine_93 (by decide)) ?_
  refine px_ok_cons (ps_aload_n dX4_takeLine_96 rfl) ?_
  refine px_ok_cons (ps_iconst dX4_takeLine_97 (by decide)) ?_
  refine px_ok_cons (fpX4_39 dX4_takeLine_98) ?_
  refine px_ok_cons (ps_return rfl dX4_takeLine_101) ?_
  exact px_ok_nil
set_option maxRecDepth 100000 in
set_option maxHeartbeats 4000000 in
theorem sgX4_takeLine_0 {po : Unit → px_St → Prop} {G : px_K} (hG : px_cl (opX4_takeLine po) G) (σ : px_St)
    (H : ((¬ (σ.1 4 5) = (1 : Int32)) → G 17 [some (.ref 4), some (.int (-1 : Int32))] [] σ) ∧ (¬ (¬ (σ.1 4 5) = (1 : Int32)) → ∃ g3 : gtX4_lineNamed, qrX4_lineNamed g3 σ ∧ ∀ (r1 : Int32) (σ2 : px_St), qoX4_lineNamed g3 σ r1 σ2 → G 17 [some (.ref 4), some (.int r1)] [] σ2)) :
    G 0 (px_ent 2 [.ref 4]) [] σ := by
  refine hG.1 0 _ _ rfl _ _ _ ?_
  refine hG.1 1 _ _ rfl _ _ _ ?_
  refine ⟨⟨rfl, by decide⟩, ?_⟩
  refine hG.1 2 _ _ rfl _ _ _ ?_
  refine hG.1 3 _ _ rfl _ _ _ ?_
  refine ⟨fun h5 => ?_, fun h5 => ?_⟩
  · replace H := H.1 h5
    refine hG.1 7 _ _ rfl _ _ _ ?_
    refine hG.1 8 _ _ rfl _ _ _ ?_
    show G 17 [some (.ref 4), some (.int (-1 : Int32))] [] σ
    exact H
  · replace H := H.2 h5
    refine hG.1 4 _ _ rfl _ _ _ ?_
    refine hG.1 5 _ _ rfl _ _ _ ?_
    obtain ⟨g3, H⟩ := H
    refine ⟨⟨rfl, by decide⟩, Nat.le_of_ble_eq_true rfl, g3, ⟨rfl, H.1⟩, fun r1 σ2 hp4 => ?_⟩
    replace H := H.2 r1 σ2 hp4
    refine hG.1 6 _ _ rfl _ _ _ ?_
    refine hG.1 8 _ _ rfl _ _ _ ?_
    show G 17 [some (.ref 4), some (.int r1)] [] σ2
    exact H
set_option maxRecDepth 100000 in
set_option maxHeartbeats 4000000 in
theorem sgX4_takeLine_17 {po : Unit → px_St → Prop} {G : px_K} (hG : px_cl (opX4_takeLine po) G) (v1 : Int32) (σ : px_St)
    (H : ∃ g3 : gtX4_faultOfLine, qrX4_faultOfLine g3 v1 σ ∧ ∀ (r1 : Int32) (σ2 : px_St), qoX4_faultOfLine g3 v1 σ r1 σ2 → ∃ g7 : gtX4_nextToken, qrX4_nextToken g7 (px_up σ2 4 4 r1) ∧ ∀ (r5 : Unit) (σ6 : px_St), qoX4_nextToken g7 (px_up σ2 4 4 r1) r5 σ6 → ((¬ (σ6.1 4 4) = 0) → G 50 [some (.ref 4), some (.int v1)] [] σ6) ∧ (¬ (¬ (σ6.1 4 4) = 0) → (((σ6.1 4 5) = (2 : Int32)) → G 50 [some (.ref 4), some (.int v1)] [] σ6) ∧ (¬ ((σ6.1 4 5) = (2 : Int32)) → G 50 [some (.ref 4), some (.int v1)] [] (px_up σ6 4 4 (2 : Int32))))) :
    G 17 [some (.ref 4), some (.int v1)] [] σ := by
  refine hG.1 9 _ _ rfl _ _ _ ?_
  refine hG.1 10 _ _ rfl _ _ _ ?_
  refine hG.1 11 _ _ rfl _ _ _ ?_
  refine hG.1 12 _ _ rfl _ _ _ ?_
  obtain ⟨g3, H⟩ := H
  refine ⟨⟨rfl, by decide⟩, Nat.le_of_ble_eq_true rfl, g3, ⟨_, rfl, H.1⟩, fun r1 σ2 hp4 => ?_⟩
  replace H := H.2 r1 σ2 hp4
  refine hG.1 13 _ _ rfl _ _ _ ?_
  refine ⟨⟨rfl, by decide⟩, ⟨rfl, rfl⟩, ?_⟩
  refine hG.1 14 _ _ rfl _ _ _ ?_
  refine hG.1 15 _ _ rfl _ _ _ ?_
  obtain ⟨g7, H⟩ := H
  refine ⟨⟨rfl, by decide⟩, Nat.le_of_ble_eq_true rfl, g7, ⟨rfl, H.1⟩, fun r5 σ6 hp8 => ?_⟩
  replace H := H.2 r5 σ6 hp8
  refine hG.1 16 _ _ rfl _ _ _ ?_
  refine hG.1 17 _ _ rfl _ _ _ ?_
  refine ⟨⟨rfl, by decide⟩, ?_⟩
  refine hG.1 18 _ _ rfl _ _ _ ?_
  refine ⟨fun h10 => ?_, fun h10 => ?_⟩
  · replace H := H.1 h10
    exact H
  · replace H := H.2 h10
    refine hG.1 19 _ _ rfl _ _ _ ?_
    refine hG.1 20 _ _ rfl _ _ _ ?_
    refine ⟨⟨rfl, by decide⟩, ?_⟩
    refine hG.1 21 _ _ rfl _ _ _ ?_
    refine hG.1 22 _ _ rfl _ _ _ ?_
    refine ⟨fun h9 => ?_, fun h9 => ?_⟩
    · replace H := H.1 h9
      exact H
    · replace H := H.2 h9
      refine hG.1 23 _ _ rfl _ _ _ ?_
      refine hG.1 24 _ _ rfl _ _ _ ?_
      refine hG.1 25 _ _ rfl _ _ _ ?_
      refine ⟨⟨rfl, by decide⟩, ⟨rfl, rfl⟩, ?_⟩
      exact H
set_option maxRecDepth 100000 in
set_option maxHeartbeats 4000000 in
theorem sgX4_takeLine_50 {po : Unit → px_St → Prop} {G : px_K} (hG : px_cl (opX4_takeLine po) G) (v1 : Int32) (σ : px_St)
    (H : ((¬ (σ.1 4 4) = 0) → ((¬ (σ.1 4 4) = 0) → G 81 [some (.ref 4), some (.int v1)] [] σ) ∧ (¬ (¬ (σ.1 4 4) = 0) → ∃ g3 : gtX4_takeParrot, qrX4_takeParrot g3 v1 σ ∧ ∀ (r1 : Unit) (σ2 : px_St), qoX4_takeParrot g3 v1 σ r1 σ2 → G 81 [some (.ref 4), some (.int v1)] [] σ2)) ∧ (¬ (¬ (σ.1 4 4) = 0) → ((¬ v1 = (4 : Int32)) → ((¬ (σ.1 4 4) = 0) → G 81 [some (.ref 4), some (.int v1)] [] σ) ∧ (¬ (¬ (σ.1 4 4) = 0) → ∃ g8 : gtX4_takeParrot, qrX4_takeParrot g8 v1 σ ∧ ∀ (r6 : Unit) (σ7 : px_St), qoX4_takeParrot g8 v1 σ r6 σ7 → G 81 [some (.ref 4), some (.int v1)] [] σ7)) ∧ (¬ (¬ v1 = (4 : Int32)) → ∃ g13 : gtX4_takeEar, qrX4_takeEar g13 σ ∧ ∀ (r11 : Unit) (σ12 : px_St), qoX4_takeEar g13 σ r11 σ12 → G 81 [some (.ref 4), some (.int v1)] [] σ12))) :
    G 50 [some (.ref 4), some (.int v1)] [] σ := by
  refine hG.1 26 _ _ rfl _ _ _ ?_
  refine hG.1 27 _ _ rfl _ _ _ ?_
  refine ⟨⟨rfl, by decide⟩, ?_⟩
  refine hG.1 28 _ _ rfl _ _ _ ?_
  refine ⟨fun h16 => ?_, fun h16 => ?_⟩
  · replace H := H.1 h16
    refine hG.1 35 _ _ rfl _ _ _ ?_
    refine hG.1 36 _ _ rfl _ _ _ ?_
    refine ⟨⟨rfl, by decide⟩, ?_⟩
    refine hG.1 37 _ _ rfl _ _ _ ?_
    refine ⟨fun h5 => ?_, fun h5 => ?_⟩
    · replace H := H.1 h5
      exact H
    · replace H := H.2 h5
      refine hG.1 38 _ _ rfl _ _ _ ?_
      refine hG.1 39 _ _ rfl _ _ _ ?_
      refine hG.1 40 _ _ rfl _ _ _ ?_
      obtain ⟨g3, H⟩ := H
      refine ⟨⟨rfl, by decide⟩, Nat.le_of_ble_eq_true rfl, g3, ⟨_, rfl, H.1⟩, fun r1 σ2 hp4 => ?_⟩
      replace H := H.2 r1 σ2 hp4
      exact H
  · replace H := H.2 h16
    refine hG.1 29 _ _ rfl _ _ _ ?_
    refine hG.1 30 _ _ rfl _ _ _ ?_
    refine hG.1 31 _ _ rfl _ _ _ ?_
    refine ⟨fun h15 => ?_, fun h15 => ?_⟩
    · replace H := H.1 h15
      refine hG.1 35 _ _ rfl _ _ _ ?_
      refine hG.1 36 _ _ rfl _ _ _ ?_
      refine ⟨⟨rfl, by decide⟩, ?_⟩
      refine hG.1 37 _ _ rfl _ _ _ ?_
      refine ⟨fun h10 => ?_, fun h10 => ?_⟩
      · replace H := H.1 h10
        exact H
      · replace H := H.2 h10
        refine hG.1 38 _ _ rfl _ _ _ ?_
        refine hG.1 39 _ _ rfl _ _ _ ?_
        refine hG.1 40 _ _ rfl _ _ _ ?_
        obtain ⟨g8, H⟩ := H
        refine ⟨⟨rfl, by decide⟩, Nat.le_of_ble_eq_true rfl, g8, ⟨_, rfl, H.1⟩, fun r6 σ7 hp9 => ?_⟩
        replace H := H.2 r6 σ7 hp9
        exact H
    · replace H := H.2 h15
      refine hG.1 32 _ _ rfl _ _ _ ?_
      refine hG.1 33 _ _ rfl _ _ _ ?_
      obtain ⟨g13, H⟩ := H
      refine ⟨⟨rfl, by decide⟩, Nat.le_of_ble_eq_true rfl, g13, ⟨rfl, H.1⟩, fun r11 σ12 hp14 => ?_⟩
      replace H := H.2 r11 σ12 hp14
      refine hG.1 34 _ _ rfl _ _ _ ?_
      exact H
set_option maxRecDepth 100000 in
set_option maxHeartbeats 4000000 in
theorem sgX4_takeLine_81 {po : Unit → px_St → Prop} {G : px_K} (hG : px_cl (opX4_takeLine po) G) (v1 : Int32) (σ : px_St)
    (H : ((¬ (σ.1 4 4) = 0) → po () σ) ∧ (¬ (¬ (σ.1 4 4) = 0) → (((σ.1 4 5) = (3 : Int32)) → po () σ) ∧ (¬ ((σ.1 4 5) = (3 : Int32)) → po () (px_up σ 4 4 (2 : Int32))))) :
    G 81 [some (.ref 4), some (.int v1)] [] σ := by
  refine hG.1 41 _ _ rfl _ _ _ ?_
  refine hG.1 42 _ _ rfl _ _ _ ?_
  refine ⟨⟨rfl, by decide⟩, ?_⟩
  refine hG.1 43 _ _ rfl _ _ _ ?_
  refine ⟨fun h2 => ?_, fun h2 => ?_⟩
  · replace H := H.1 h2
    refine hG.1 51 _ _ rfl _ _ _ ?_
    exact H
  · replace H := H.2 h2
    refine hG.1 44 _ _ rfl _ _ _ ?_
    refine hG.1 45 _ _ rfl _ _ _ ?_
    refine ⟨⟨rfl, by decide⟩, ?_⟩
    refine hG.1 46 _ _ rfl _ _ _ ?_
    refine hG.1 47 _ _ rfl _ _ _ ?_
    refine ⟨fun h1 => ?_, fun h1 => ?_⟩
    · replace H := H.1 h1
      refine hG.1 51 _ _ rfl _ _ _ ?_
      exact H
    · replace H := H.2 h1
      refine hG.1 48 _ _ rfl _ _ _ ?_
      refine hG.1 49 _ _ rfl _ _ _ ?_
      refine hG.1 50 _ _ rfl _ _ _ ?_
      refine ⟨⟨rfl, by decide⟩, ⟨rfl, rfl⟩, ?_⟩
      refine hG.1 51 _ _ rfl _ _ _ ?_
      exact H
set_option maxRecDepth 100000 in
set_option maxHeartbeats 4000000 in
theorem hhX4_takeLine (g : gtX4_takeLine) (σ : px_St) (h : qrX4_takeLine g σ) (G : px_K) (hG : px_cl (opX4_takeLine (qoX4_takeLine g σ)) G) : G 0 (px_ent 2 [.ref 4]) [] σ := by
  obtain ⟨T, V, e, t⟩ := g
  obtain ⟨hb, hT, hd, hV, hok, he, he1, hr, ht⟩ := h
  have hl := hT.1
  have hV5 := hok.1.1
  have hKl := pt_key_le T t
  obtain ⟨R0, hR0⟩ : ∃ R0, R0 = pt_line T V e t := ⟨_, rfl⟩
  have po : ∀ σ', rsC σ' (fun w : pv_V × Nat × pt_K => rdC σ' w.2.2 ∧ av_is σ' 13 w.1 ∧ σ'.1 4 3 = nI w.2.1) R0 → frL σ σ' → qoX4_takeLine (T, V, e, t) σ () σ' := fun σ' h1 h2 => ⟨by rw [← hR0]; exact h1, h2⟩
  have s81 : ∀ v σ', ¬ σ'.1 4 4 = 0 → qoX4_takeLine (T, V, e, t) σ () σ' → G 81 [some (.ref 4), some (.int v)] [] σ' := fun v σ' h1 h2 => sgX4_takeLine_81 hG _ σ' ⟨fun _ => h2, fun q => absurd h1 q⟩
  have s50 : ∀ v σ', ¬ σ'.1 4 4 = 0 → qoX4_takeLine (T, V, e, t) σ () σ' → G 50 [some (.ref 4), some (.int v)] [] σ' := fun v σ' h1 h2 => sgX4_takeLine_50 hG _ σ' ⟨fun _ => ⟨fun _ => s81 v σ' h1 h2, fun q => absurd h1 q⟩, fun q => absurd h1 q⟩
  have fne : ∀ f : Nat, 1 ≤ f → f ≤ 5 → ¬ nI f = 0 := fun f h1 h2 => nI_ne0 (by omega) (by omega)
  have mid : G 17 [some (.ref 4), some (.int (if pt_key T t = 9 then -1 else nI (pt_key T t)))] [] σ := by
    refine sgX4_takeLine_17 hG _ σ ⟨(V, pt_key T t, e), ⟨hd, hV.1.1, hV5, hKl, rfl, he, he1⟩, fun r1 σ1 h1 => ?_⟩
    obtain ⟨rfl, rfl⟩ := h1
    have hfl := pt_flt_le V (pt_key T t) e
    have oA : fr4 σ1 (px_up σ1 4 4 (nI (pt_flt V (pt_key T t) e))) := fr4.up (by omega)
    by_cases hf : pt_flt V (pt_key T t) e = 0
    · have hRl : R0 = pt_b (pt_next T t.2.2.1) (fun t1 => if t1.1 = 2 then pt_b (pt_body T V e (pt_key T t) t1) (fun w => if w.2.2.1 = 3 then .inr w else .inl (2, w.2.2.2.1)) else .inl (2, t1.2.1)) := by
        rw [hR0]; unfold pt_line; rw [if_pos hf]
      have hK4 : pt_key T t ≤ 4 := by
        rcases hKl with q | q
        · exact q
        · unfold pt_flt at hf; rw [if_pos q] at hf; omega
      have hKv : (if pt_key T t = 9 then (-1 : Int32) else nI (pt_key T t)) = nI (pt_key T t) := if_neg (by omega)
      have hn5 : pt_key T t ≠ 4 → V.1 < 5 := fun q => by
        unfold pt_flt at hf
        rw [if_neg (by omega), if_neg q] at hf
        by_cases h8 : V.1 < 5
        · exact h8
        · rw [if_neg h8] at hf; omega
      have e4 : (px_up σ1 4 4 (nI (pt_flt V (pt_key T t) e))).1 4 4 = 0 := by rw [up4s, hf]; rfl
      refine ⟨(T, t.2.2.1), ⟨hb.kept oA, hT, fun _ => ⟨ht.2.2.1, by rw [up4n (by omega)]; exact hr.2.2.2.1⟩⟩, fun _ σ2 h2 => ?_⟩
      obtain ⟨-, h3, h4⟩ := h2
      have h3 := h3 e4
      have oB : fr4 σ1 σ2 := oA.tr h4
      have hgd := pt_next_good (p := t.2.2.1) hT ht.2.2.1
      cases hx : pt_next T t.2.2.1 with
      | inl f =>
        rw [hx] at h3 hRl hgd
        have h3 : σ2.1 4 4 = nI f.1 ∧ σ2.1 4 6 = nI f.2 := h3
        have hfn : ¬ σ2.1 4 4 = 0 := by rw [h3.1]; exact fne _ hgd.1.1 hgd.1.2
        rw [pt_bl] at hRl
        exact ⟨fun _ => s50 _ _ hfn (po _ (by rw [hRl]; exact h3) oB.L), fun q => absurd hfn q⟩
      | inr t1 =>
        rw [hx] at h3 hRl hgd
        rw [pt_br] at hRl
        have h3 : rdC σ2 t1 := h3
        have ht1 : tk_ok T t1 := hgd.1
        have hb2 := hb.kept oB
        have hV2 := av13.fr4 hV oB
        have hd2 := hd.kept oB.L
        have he2 : σ2.1 4 3 = nI e := by rw [oB.2 3 (by omega)]; exact he
        have c2 := rd5 h3 ht1 2 2 rfl (by omega)
        rw [c2]
        refine ⟨fun q => absurd h3.1 q, fun _ => ⟨fun q2 => ?_, fun q2 => ?_⟩⟩
        · rw [if_pos q2] at hRl
          -- behind the body
          have fin : ∀ σ' (w : pv_V × Nat × pt_K), R0 = (if w.2.2.1 = 3 then .inr w else .inl (2, w.2.2.2.1)) → rdC σ' w.2.2 → tk_ok T w.2.2 → av_is σ' 13 w.1 → σ'.1 4 3 = nI w.2.1 → frL σ1 σ' → G 81 [some (.ref 4), some (.int (nI (pt_key T t)))] [] σ' := by
            intro σ' w hw hr' ht' hV' h3' ho'
            have c3 := rd5 hr' ht' 3 3 rfl (by omega)
            refine sgX4_takeLine_81 hG _ σ' ?_
            rw [c3]
            refine ⟨fun q => absurd hr'.1 q, fun _ => ⟨fun q3 => po _ ?_ ho', fun q3 => po _ ?_ (ho'.tr (frL.up (by omega)))⟩⟩
            · rw [hw, if_pos q3]; exact ⟨hr', hV', h3'⟩
            · rw [hw, if_neg q3]; exact ⟨up4s, by rw [up4n (by omega)]; exact hr'.2.2.1⟩
          rw [hKv]
          refine sgX4_takeLine_50 hG _ σ2 ?_
          have c4 : nI (pt_key T t) = 4 ↔ pt_key T t = 4 := nIe _ 4 rfl rfl (by omega) (by omega)
          rw [c4]
          refine ⟨fun q => absurd h3.1 q, fun _ => ⟨fun q4 => ⟨fun q => absurd h3.1 q, fun _ => ⟨(T, V, pt_key T t, t1), ⟨hb2, hT, hd2, hV2, hok.1, hn5 q4, by omega, rfl, h3, ht1⟩, fun _ σ3 h5 => ?_⟩⟩, fun q4 => ⟨(T, V, t1), ⟨hb2, hT, hd2, hV2, h3, ht1, q2⟩, fun _ σ3 h5 => ?_⟩⟩⟩
          · obtain ⟨h6, h7, h8⟩ := h5
            unfold pt_body at hRl
            rw [if_neg q4] at hRl
            have hg2 := pt_snd_good hT 6 [] t1 ht1 rfl (fun x hx => absurd hx List.not_mem_nil)
            cases hy : pt_snd T 6 [] t1 with
            | inl f =>
              rw [hy] at h6 hRl hg2
              have h6 : σ3.1 4 4 = nI f.1 ∧ σ3.1 4 6 = nI f.2 := h6
              rw [pt_bl, pt_bl] at hRl
              exact s81 _ _ (by rw [h6.1]; exact fne _ hg2.1.1 hg2.1.2) (po _ (by rw [hRl]; exact h6) (oB.L.tr h7))
            | inr w =>
              rw [hy] at h6 hRl hg2
              rw [pt_br, pt_br] at hRl
              exact fin σ3 (pv_add V (pt_key T t, 0, w.1), e, w.2) hRl h6.1 hg2.2.1 h6.2 (by rw [h8]; exact he2) (oB.L.tr h7)
          · have q4 := Classical.byContradiction q4
            unfold pt_body at hRl
            rw [if_pos q4] at hRl
            by_cases hv : 1 ≤ t1.2.2.2 ∧ t1.2.2.2 ≤ 4
            · rw [if_pos hv] at hRl
              obtain ⟨h6, h7, h8, h9⟩ := h5.2 hv
              have hg2 := pt_next_good (p := t1.2.2.1) hT ht1.2.2.1
              cases hy : pt_next T t1.2.2.1 with
              | inl f =>
                rw [hy] at h6 hRl hg2
                have h6 : σ3.1 4 4 = nI f.1 ∧ σ3.1 4 6 = nI f.2 := h6
                rw [pt_bl, pt_bl] at hRl
                exact s81 _ _ (by rw [h6.1]; exact fne _ hg2.1.1 hg2.1.2) (po _ (by rw [hRl]; exact h6) (oB.L.tr h9))
              | inr t2 =>
                rw [hy] at h6 hRl hg2
                rw [pt_br, pt_br] at hRl
                exact fin σ3 (pv_ear V t1.2.2.2, 1, t2) hRl h6 hg2.1 h7 (by rw [h8]; rfl) (oB.L.tr h9)
            · rw [if_neg hv, pt_bl] at hRl
              have h5 := h5.1 hv
              subst h5
              exact s81 _ _ (by rw [up4s]; decide) (po _ (by rw [hRl]; exact ⟨up4s, by rw [up4n (by omega)]; exact h3.2.2.1⟩) (oB.L.tr (frL.up (by omega))))
        · rw [if_neg q2] at hRl
          exact s50 _ _ (by rw [up4s]; decide) (po _ (by rw [hRl]; exact ⟨up4s, by rw [up4n (by omega)]; exact h3.2.2.1⟩) (oB.L.tr (frL.up (by omega))))
    · have hRl : R0 = .inl (pt_flt V (pt_key T t) e, t.2.1) := by rw [hR0]; unfold pt_line; rw [if_neg hf]
      have hne : ¬ (px_up σ1 4 4 (nI (pt_flt V (pt_key T t) e))).1 4 4 = 0 := by rw [up4s]; exact fne _ (by omega) hfl
      refine ⟨(T, 0), ⟨hb.kept oA, hT, fun q => absurd q hne⟩, fun _ σ2 h2 => ?_⟩
      have h2 := h2.1 hne
      subst h2
      exact ⟨fun _ => s50 _ _ hne (po _ (by rw [hRl]; exact ⟨up4s, by rw [up4n (by omega)]; exact hr.2.2.1⟩) oA.L), fun q => absurd hne q⟩
  have c1 := rd5 hr ht 1 1 rfl (by omega)
  refine sgX4_takeLine_0 hG σ ?_
  rw [c1]
  refine ⟨fun q => ?_, fun q => ⟨(T, t.2.1, t.2.2.1), ⟨hb, hT, hr.2.2.1, hr.2.2.2.1, ht.2.1, ht.2.2.1⟩, fun r1 σ1 h1 => ?_⟩⟩
  · have ek : pt_key T t = 9 := by unfold pt_key; rw [if_neg q]
    rw [ek, if_pos rfl] at mid
    exact mid
  · obtain ⟨rfl, rfl⟩ := h1
    have ek : pt_key T t = pt_name T t.2.1 t.2.2.1 := by unfold pt_key; rw [if_pos (Classical.byContradiction q)]
    rw [ek] at mid
    exact mid
theorem mX4_takeLine (g : gtX4_takeLine) : px_Met dC yX4_takeLine (Cond.code yX4_takeLine cX4_takeLine 2 none :: wdC) rmX4_takeLine px_vV (prX4_takeLine g) (poX4_takeLine g) :=
  px_met (Z := (cX4_takeLine, 2, RX4, Cond.code yX4_takeLine cX4_takeLine 2 none :: wdC, none, rmX4_takeLine, dC)) opX4_takeLine (by decide) rfl rfl okX4_takeLine (fun As σ h => by obtain ⟨rfl, h⟩ := h; exact Nat.le_of_ble_eq_true rfl) (fun As σ h G hG => by obtain ⟨rfl, h⟩ := h; exact hhX4_takeLine g σ h G hG)
