/-! ===== what a text says ===== -/
def tx_ok (T : List Nat) : Prop := T.length ≤ 160 ∧ ∀ x ∈ T, x ≤ 127
abbrev ch (T : List Nat) (i : Nat) : Nat := T.getD i 0
theorem ch_le {T : List Nat} (h : tx_ok T) (i : Nat) : ch T i ≤ 127 := by
  unfold ch
  rw [List.getD_eq_getElem?_getD]
  rcases Nat.lt_or_ge i T.length with hi | hi
  · rw [List.getElem?_eq_getElem hi]; exact h.2 _ (List.getElem_mem hi)
  · rw [List.getElem?_eq_none hi]; exact Nat.zero_le _
def is_l (c : Nat) : Bool := decide (97 ≤ c ∧ c ≤ 122)
def is_f (c : Nat) : Bool := decide (48 ≤ c ∧ c ≤ 57)
def is_s (c : Nat) : Bool := decide (c = 32)
theorem is_l_iff {c : Nat} : is_l c = true ↔ 97 ≤ c ∧ c ≤ 122 := decide_eq_true_iff
theorem is_f_iff {c : Nat} : is_f c = true ↔ 48 ≤ c ∧ c ≤ 57 := decide_eq_true_iff
theorem is_s_iff {c : Nat} : is_s c = true ↔ c = 32 := decide_eq_true_iff
/-- where a run of such letters ends -/
def pt_run (P : Nat → Bool) (T : List Nat) : Nat → Nat → Nat
  | 0, p => p
  | f + 1, p => if P (ch T p) = true then pt_run P T f (p + 1) else p
def pt_go (P : Nat → Bool) (T : List Nat) (p : Nat) : Nat := pt_run P T (T.length - p) p
theorem pt_go_s {P : Nat → Bool} {T : List Nat} {p : Nat} (h : p < T.length) (hp : P (ch T p) = true) : pt_go P T p = pt_go P T (p + 1) := by
  unfold pt_go
  rw [show T.length - p = (T.length - (p + 1)) + 1 by omega, pt_run, if_pos hp]
theorem pt_go_e {P : Nat → Bool} {T : List Nat} {p : Nat} (h : p < T.length) (hp : ¬ P (ch T p) = true) : pt_go P T p = p := by
  unfold pt_go
  rw [show T.length - p = (T.length - (p + 1)) + 1 by omega, pt_run, if_neg hp]
theorem pt_go_z {P : Nat → Bool} {T : List Nat} {p : Nat} (h : T.length ≤ p) : pt_go P T p = p := by
  unfold pt_go
  rw [show T.length - p = 0 by omega, pt_run]
theorem pt_run_b {P : Nat → Bool} {T : List Nat} : ∀ f p, p + f = T.length → (p ≤ pt_run P T f p ∧ pt_run P T f p ≤ T.length) ∧ ∀ i, p ≤ i → i < pt_run P T f p → P (ch T i) = true
  | 0, p, h => ⟨⟨Nat.le_refl _, by rw [pt_run]; omega⟩, fun i h1 h2 => by rw [pt_run] at h2; omega⟩
  | f + 1, p, h => by
    obtain ⟨⟨h1, h2⟩, h3⟩ := pt_run_b (P := P) (T := T) f (p + 1) (by omega)
    rw [pt_run]
    by_cases hp : P (ch T p) = true
    · rw [if_pos hp]
      refine ⟨⟨by omega, h2⟩, fun i h4 h5 => ?_⟩
      by_cases hi : i = p
      · rw [hi]; exact hp
      · exact h3 i (by omega) h5
    · rw [if_neg hp]
      exact ⟨⟨Nat.le_refl _, by omega⟩, fun i h4 h5 => by omega⟩
theorem pt_go_b {P : Nat → Bool} {T : List Nat} {p : Nat} (h : p ≤ T.length) : (p ≤ pt_go P T p ∧ pt_go P T p ≤ T.length) ∧ ∀ i, p ≤ i → i < pt_go P T p → P (ch T i) = true := pt_run_b _ p (by omega)
/-- a number of at most two figures -/
def pt_vl (T : List Nat) (f : Nat) : Nat → Nat
  | 0 => 0
  | 1 => ch T f - 48
  | _ => 10 * (ch T f - 48) + (ch T (f + 1) - 48)
/-- a token: its sort (0 the end, 1 a name, 2 a number, 3 a stop), where it begins and ends, the number -/
abbrev pt_K : Type := Nat × Nat × Nat × Nat
def pt_cl (T : List Nat) (f : Nat) : Sum (Nat × Nat) pt_K :=
  if T.length ≤ f then .inr (0, f, f, 0)
  else if is_l (ch T f) = true then .inr (1, f, pt_go is_l T f, 0)
  else if is_f (ch T f) = true then (if pt_go is_f T f - f ≤ 2 then .inr (2, f, pt_go is_f T f, pt_vl T f (pt_go is_f T f - f)) else .inl (1, f))
  else if ch T f = 59 then .inr (3, f, f + 1, 0) else .inl (1, f)
def pt_next (T : List Nat) (p : Nat) : Sum (Nat × Nat) pt_K := pt_cl T (pt_go is_s T p)
def pt_w (i : Nat) : List Nat := ([[112, 108, 97, 105, 110], [111, 108, 100], [121, 111, 117, 110, 103], [115, 108, 121], [101, 97, 114]] : List (List Nat)).getD i []
def pt_nm (T : List Nat) (f t i : Nat) : Prop := t - f = (pt_w i).length ∧ ∀ j, j < (pt_w i).length → ch T (f + j) = (pt_w i).getD j 0
noncomputable def pt_name (T : List Nat) (f t : Nat) : Nat := xif (pt_nm T f t 0) 0 (xif (pt_nm T f t 1) 1 (xif (pt_nm T f t 2) 2 (xif (pt_nm T f t 3) 3 (xif (pt_nm T f t 4) 4 9))))
/-! ===== the class's reader ===== -/
def rb (σ : px_St) (T : List Nat) : Prop := (σ.1 4 0).toNatClampNeg = 3 ∧ σ.1 4 1 = nI T.length ∧ ∀ i, i < T.length → σ.1 3 i = nI (ch T i)
def fr4 (σ σ' : px_St) : Prop := (∀ k, k ≠ 4 → σ'.1 k = σ.1 k) ∧ ∀ j, j < 4 → σ'.1 4 j = σ.1 4 j
theorem fr4.rf {σ : px_St} : fr4 σ σ := ⟨fun _ _ => rfl, fun _ _ => rfl⟩
theorem fr4.tr {σ σ' σ'' : px_St} (h : fr4 σ σ') (h' : fr4 σ' σ'') : fr4 σ σ'' := ⟨fun k hk => (h'.1 k hk).trans (h.1 k hk), fun j hj => (h'.2 j hj).trans (h.2 j hj)⟩
theorem fr4.up {σ : px_St} {j : Nat} {x : Int32} (hj : 4 ≤ j) : fr4 σ (px_up σ 4 j x) := ⟨fun k hk => px_up_n hk, fun i hi => by rw [px_up_at, if_neg (by omega)]⟩
theorem rb.kept {σ σ' : px_St} {T : List Nat} (h : rb σ T) (ho : fr4 σ σ') : rb σ' T := ⟨by rw [ho.2 0 (by omega)]; exact h.1, by rw [ho.2 1 (by omega)]; exact h.2.1, fun i hi => by rw [ho.1 3 (by omega)]; exact h.2.2 i hi⟩
theorem up4s {σ : px_St} {j : Nat} {x : Int32} : (px_up σ 4 j x).1 4 j = x := by rw [px_up_at, if_pos ⟨rfl, rfl⟩]
theorem up4n {σ : px_St} {j i : Nat} {x : Int32} (h : i ≠ j) : (px_up σ 4 j x).1 4 i = σ.1 4 i := by rw [px_up_at, if_neg (fun q => h q.2)]
abbrev gtX4_isLetter : Type := List Nat × Nat
def qrX4_isLetter : gtX4_isLetter → Int32 → px_St → Prop
  | (T, i), v1, σ => rb σ T ∧ tx_ok T ∧ i < T.length ∧ v1 = nI i
def qoX4_isLetter : gtX4_isLetter → Int32 → px_St → Int32 → px_St → Prop
  | (T, i), _, σ, r, σ' => σ' = σ ∧ px_b (is_l (ch T i) = true) r
def prX4_isLetter (g : gtX4_isLetter) : List Value → px_St → Prop := fun As σ => ∃ v1 : Int32, As = [.ref 4, .int v1] ∧ qrX4_isLetter g v1 σ
def poX4_isLetter (g : gtX4_isLetter) : List Value → px_St → Int32 → px_St → Prop
  | [.ref _, .int v1], σ, r, σ' => qoX4_isLetter g v1 σ r σ'
  | _, _, _, _ => False
theorem dX4_isLetter_0 : decode cX4_isLetter 0 = .ok (.aload_n 0, 1) := by decide +kernel
theorem dX4_isLetter_1 : decode cX4_isLetter 1 = .ok (.getfield 9, 3) := by decide +kernel
theorem dX4_isLetter_4 : decode cX4_isLetter 4 = .ok (.iload_n 1, 1) := by decide +kernel
theorem dX4_isLetter_5 : decode cX4_isLetter 5 = .ok (.baload, 1) := by decide +kernel
theorem dX4_isLetter_6 : decode cX4_isLetter 6 = .ok (.bipush 97, 2) := by decide +kernel
theorem dX4_isLetter_8 : decode cX4_isLetter 8 = .ok (.if_icmp .lt 18, 3) := by decide +kernel
theorem dX4_isLetter_11 : decode cX4_isLetter 11 = .ok (.aload_n 0, 1) := by decide +kernel
theorem dX4_isLetter_12 : decode cX4_isLetter 12 = .ok (.getfield 9, 3) := by decide +kernel
theorem dX4_isLetter_15 : decode cX4_isLetter 15 = .ok (.iload_n 1, 1) := by decide +kernel
theorem dX4_isLetter_16 : decode cX4_isLetter 16 = .ok (.baload, 1) := by decide +kernel
theorem dX4_isLetter_17 : decode cX4_isLetter 17 = .ok (.bipush 122, 2) := by decide +kernel
theorem dX4_isLetter_19 : decode cX4_isLetter 19 = .ok (.if_icmp .gt 7, 3) := by decide +kernel
theorem dX4_isLetter_22 : decode cX4_isLetter 22 = .ok (.iconst 1, 1) := by decide +kernel
theorem dX4_isLetter_23 : decode cX4_isLetter 23 = .ok (.goto 4, 3) := by decide +kernel
theorem dX4_isLetter_26 : decode cX4_isLetter 26 = .ok (.iconst 0, 1) := by decide +kernel
theorem dX4_isLetter_27 : decode cX4_isLetter 27 = .ok (.ireturn, 1) := by decide +kernel
abbrev rmX4_isLetter : Room := { frames := 0, cells := 0, slots := 0, locals := 0 }
def opX4_isLetter (po : Int32 → px_St → Prop) : List (Nat × px_Op) := [
  (0, px_al 1 0),
  (1, px_get dC 4 4 0),
  (4, px_il 5 1),
  (5, px_ald dC 6 1),
  (6, px_push 8 (.int 97)),
  (8, px_ic 11 26 (fun x y => x < y)),
  (11, px_al 12 0),
  (12, px_get dC 15 4 0),
  (15, px_il 16 1),
  (16, px_ald dC 17 1),
  (17, px_push 19 (.int 122)),
  (19, px_ic 22 26 (fun x y => y < x)),
  (22, px_push 23 (.int 1)),
  (23, px_go 27),
  (26, px_push 27 (.int 0)),
  (27, px_iret (.boolean) po)]
set_option maxRecDepth 100000 in
set_option maxHeartbeats 4000000 in
theorem okX4_isLetter : ∀ (po : Int32 → px_St → Prop) (i pc : Nat) (op : px_Op), (opX4_isLetter po)[i]? = some (pc, op) → px_Snd (cX4_isLetter, 2, RX4, Cond.code yX4_isLetter cX4_isLetter 2 (some .boolean) :: wdC, (some .boolean), rmX4_isLetter, dC) px_vI po pc op := by
  intro po
  unfold opX4_isLetter
  refine px_ok_cons (ps_aload_n dX4_isLetter_0 rfl) ?_
  refine px_ok_cons (fgX4_9 dX4_isLetter_1) ?_
  refine px_ok_cons (ps_iload_n dX4_isLetter_4 rfl) ?_
  refine px_ok_cons (ps_baload dX4_isLetter_5) ?_
  refine px_ok_cons (ps_bipush dX4_isLetter_6 (by decide)) ?_
  refine px_ok_cons (ps_icmp_lt dX4_isLetter_8 (by decide)) ?_
  refine px_ok_cons (ps_aload_n dX4_isLetter_11 rfl) ?_
  refine px_ok_cons (fgX4_9 dX4_isLetter_12) ?_
  refine px_ok_cons (ps_iload_n dX4_isLetter_15 rfl) ?_
  refine px_ok_cons (ps_baload dX4_isLetter_16) ?_
  refine px_ok_cons (ps_bipush dX4_isLetter_17 (by decide)) ?_
  refine px_ok_cons (ps_icmp_gt dX4_isLetter_19 (by decide)) ?_
  refine px_ok_cons (ps_iconst dX4_isLetter_22 (by decide)) ?_
  refine px_ok_cons (ps_goto dX4_isLetter_23 (by decide)) ?_
  refine px_ok_cons (ps_iconst dX4_isLetter_26 (by decide)) ?_
  refine px_ok_cons (ps_ireturn rfl dX4_isLetter_27) ?_
  exact px_ok_nil
set_option maxRecDepth 100000 in
set_option maxHeartbeats 4000000 in
theorem sgX4_isLetter_0 {po : Int32 → px_St → Prop} {G : px_K} (hG : px_cl (opX4_isLetter po) G) (v1 : Int32) (σ : px_St)
    (H : (σ.1 4 0).toNatClampNeg = 3 ∧ vp_in v1 160 ∧ (((σ.1 3 v1.toNatClampNeg) < (97 : Int32)) → po (0 : Int32) σ) ∧ (¬ ((σ.1 3 v1.toNatClampNeg) < (97 : Int32)) → (σ.1 4 0).toNatClampNeg = 3 ∧ vp_in v1 160 ∧ (((122 : Int32) < (σ.1 3 v1.toNatClampNeg)) → po (0 : Int32) σ) ∧ (¬ ((122 : Int32) < (σ.1 3 v1.toNatClampNeg)) → po (1 : Int32) σ))) :
    G 0 (px_ent 2 [.ref 4, .int v1]) [] σ := by
  refine hG.1 0 _ _ rfl _ _ _ ?_
  refine hG.1 1 _ _ rfl _ _ _ ?_
  refine ⟨⟨rfl, by decide⟩, ?_⟩
  obtain ⟨hz1, H⟩ := H
  show G 4 [some (.ref 4), some (.int v1)] [(.ref (σ.1 4 0).toNatClampNeg)] σ
  rw [hz1]
  refine hG.1 2 _ _ rfl _ _ _ ?_
  refine hG.1 3 _ _ rfl _ _ _ ?_
  refine ⟨⟨rfl, by decide⟩, H.1, ?_⟩
  replace H := H.2
  refine hG.1 4 _ _ rfl _ _ _ ?_
  refine hG.1 5 _ _ rfl _ _ _ ?_
  refine ⟨fun h4 => ?_, fun h4 => ?_⟩
  · replace H := H.1 h4
    refine hG.1 14 _ _ rfl _ _ _ ?_
    refine hG.1 15 _ _ rfl _ _ _ ?_
    exact ⟨rfl, H⟩
  · replace H := H.2 h4
    refine hG.1 6 _ _ rfl _ _ _ ?_
    refine hG.1 7 _ _ rfl _ _ _ ?_
    refine ⟨⟨rfl, by decide⟩, ?_⟩
    obtain ⟨hz2, H⟩ := H
    show G 15 [some (.ref 4), some (.int v1)] [(.ref (σ.1 4 0).toNatClampNeg)] σ
    rw [hz2]
    refine hG.1 8 _ _ rfl _ _ _ ?_
    refine hG.1 9 _ _ rfl _ _ _ ?_
    refine ⟨⟨rfl, by decide⟩, H.1, ?_⟩
    replace H := H.2
    refine hG.1 10 _ _ rfl _ _ _ ?_
    refine hG.1 11 _ _ rfl _ _ _ ?_
    refine ⟨fun h3 => ?_, fun h3 => ?_⟩
    · replace H := H.1 h3
      refine hG.1 14 _ _ rfl _ _ _ ?_
      refine hG.1 15 _ _ rfl _ _ _ ?_
      exact ⟨rfl, H⟩
    · replace H := H.2 h3
      refine hG.1 12 _ _ rfl _ _ _ ?_
      refine hG.1 13 _ _ rfl _ _ _ ?_
      refine hG.1 15 _ _ rfl _ _ _ ?_
      exact ⟨rfl, H⟩
set_option maxRecDepth 100000 in
set_option maxHeartbeats 4000000 in
theorem hhX4_isLetter (g : gtX4_isLetter) (v1 : Int32) (σ : px_St) (h : qrX4_isLetter g v1 σ) (G : px_K) (hG : px_cl (opX4_isLetter (qoX4_isLetter g v1 σ)) G) : G 0 (px_ent 2 [.ref 4, .int v1]) [] σ := by
  obtain ⟨T, i⟩ := g
  obtain ⟨hb, hT, hi, rfl⟩ := h
  have hl := hT.1
  have hc := ch_le hT i
  have e := hb.2.2 i hi
  refine sgX4_isLetter_0 hG _ σ ?_
  rw [nI_clamp (by omega), e]
  have c1 : nI (ch T i) < 97 ↔ ch T i < 97 := nIlt _ 97 rfl rfl (by omega) (by omega)
  have c2 : 122 < nI (ch T i) ↔ 122 < ch T i := nIlt 122 _ rfl rfl (by omega) (by omega)
  rw [c1, c2]
  exact ⟨hb.1, vp_in_nI (by omega) (by decide), fun z => ⟨rfl, Or.inr ⟨fun q => by have := is_l_iff.mp q; omega, rfl⟩⟩, fun z => ⟨hb.1, vp_in_nI (by omega) (by decide), fun y => ⟨rfl, Or.inr ⟨fun q => by have := is_l_iff.mp q; omega, rfl⟩⟩, fun y => ⟨rfl, Or.inl ⟨is_l_iff.mpr (by omega), rfl⟩⟩⟩⟩
theorem mX4_isLetter (g : gtX4_isLetter) : px_Met dC yX4_isLetter (Cond.code yX4_isLetter cX4_isLetter 2 (some .boolean) :: wdC) rmX4_isLetter px_vI (prX4_isLetter g) (poX4_isLetter g) :=
  px_met (Z := (cX4_isLetter, 2, RX4, Cond.code yX4_isLetter cX4_isLetter 2 (some .boolean) :: wdC, (some .boolean), rmX4_isLetter, dC)) opX4_isLetter (by decide) rfl rfl okX4_isLetter (fun As σ h => by obtain ⟨v1, rfl, h⟩ := h; exact Nat.le_of_ble_eq_true rfl) (fun As σ h G hG => by obtain ⟨v1, rfl, h⟩ := h; exact hhX4_isLetter g v1 σ h G hG)
abbrev gtX4_isFigure : Type := List Nat × Nat
def qrX4_isFigure : gtX4_isFigure → Int32 → px_St → Prop
  | (T, i), v1, σ => rb σ T ∧ tx_ok T ∧ i < T.length ∧ v1 = nI i
def qoX4_isFigure : gtX4_isFigure → Int32 → px_St → Int32 → px_St → Prop
  | (T, i), _, σ, r, σ' => σ' = σ ∧ px_b (is_f (ch T i) = true) r
def prX4_isFigure (g : gtX4_isFigure) : List Value → px_St → Prop := fun As σ => ∃ v1 : Int32, As = [.ref 4, .int v1] ∧ qrX4_isFigure g v1 σ
def poX4_isFigure (g : gtX4_isFigure) : List Value → px_St → Int32 → px_St → Prop
  | [.ref _, .int v1], σ, r, σ' => qoX4_isFigure g v1 σ r σ'
  | _, _, _, _ => False
theorem dX4_isFigure_0 : decode cX4_isFigure 0 = .ok (.aload_n 0, 1) := by decide +kernel
theorem dX4_isFigure_1 : decode cX4_isFigure 1 = .ok (.getfield 9, 3) := by decide +kernel
theorem dX4_isFigure_4 : decode cX4_isFigure 4 = .ok (.iload_n 1, 1) := by decide +kernel
theorem dX4_isFigure_5 : decode cX4_isFigure 5 = .ok (.baload, 1) := by decide +kernel
theorem dX4_isFigure_6 : decode cX4_isFigure 6 = .ok (.bipush 48, 2) := by decide +kernel
theorem dX4_isFigure_8 : decode cX4_isFigure 8 = .ok (.if_icmp .lt 18, 3) := by decide +kernel
theorem dX4_isFigure_11 : decode cX4_isFigure 11 = .ok (.aload_n 0, 1) := by decide +kernel
theorem dX4_isFigure_12 : decode cX4_isFigure 12 = .ok (.getfield 9, 3) := by decide +kernel
theorem dX4_isFigure_15 : decode cX4_isFigure 15 = .ok (.iload_n 1, 1) := by decide +kernel
theorem dX4_isFigure_16 : decode cX4_isFigure 16 = .ok (.baload, 1) := by decide +kernel
theorem dX4_isFigure_17 : decode cX4_isFigure 17 = .ok (.bipush 57, 2) := by decide +kernel
theorem dX4_isFigure_19 : decode cX4_isFigure 19 = .ok (.if_icmp .gt 7, 3) := by decide +kernel
theorem dX4_isFigure_22 : decode cX4_isFigure 22 = .ok (.iconst 1, 1) := by decide +kernel
theorem dX4_isFigure_23 : decode cX4_isFigure 23 = .ok (.goto 4, 3) := by decide +kernel
theorem dX4_isFigure_26 : decode cX4_isFigure 26 = .ok (.iconst 0, 1) := by decide +kernel
theorem dX4_isFigure_27 : decode cX4_isFigure 27 = .ok (.ireturn, 1) := by decide +kernel
abbrev rmX4_isFigure : Room := { frames := 0, cells := 0, slots := 0, locals := 0 }
def opX4_isFigure (po : Int32 → px_St → Prop) : List (Nat × px_Op) := [
  (0, px_al 1 0),
  (1, px_get dC 4 4 0),
  (4, px_il 5 1),
  (5, px_ald dC 6 1),
  (6, px_push 8 (.int 48)),
  (8, px_ic 11 26 (fun x y => x < y)),
  (11, px_al 12 0),
  (12, px_get dC 15 4 0),
  (15, px_il 16 1),
  (16, px_ald dC 17 1),
  (17, px_push 19 (.int 57)),
  (19, px_ic 22 26 (fun x y => y < x)),
  (22, px_push 23 (.int 1)),
  (23, px_go 27),
  (26, px_push 27 (.int 0)),
  (27, px_iret (.boolean) po)]
set_option maxRecDepth 100000 in
set_option maxHeartbeats 4000000 in
theorem okX4_isFigure : ∀ (po : Int32 → px_St → Prop) (i pc : Nat) (op : px_Op), (opX4_isFigure po)[i]? = some (pc, op) → px_Snd (cX4_isFigure, 2, RX4, Cond.code yX4_isFigure cX4_isFigure 2 (some .boolean) :: wdC, (some .boolean), rmX4_isFigure, dC) px_vI po pc op := by
  intro po
  unfold opX4_isFigure
  refine px_ok_cons (ps_aload_n dX4_isFigure_0 rfl) ?_
  refine px_ok_cons (fgX4_9 dX4_isFigure_1) ?_
  refine px_ok_cons (ps_iload_n dX4_isFigure_4 rfl) ?_
  refine px_ok_cons (ps_baload dX4_isFigure_5) ?_
  refine px_ok_cons (ps_bipush dX4_isFigure_6 (by decide)) ?_
  refine px_ok_cons (ps_icmp_lt dX4_isFigure_8 (by decide)) ?_
  refine px_ok_cons (ps_aload_n dX4_isFigure_11 rfl) ?_
  refine px_ok_cons (fgX4_9 dX4_isFigure_12) ?_
  refine px_ok_cons (ps_iload_n dX4_isFigure_15 rfl) ?_
  refine px_ok_cons (ps_baload dX4_isFigure_16) ?_
  refine px_ok_cons (ps_bipush dX4_isFigure_17 (by decide)) ?_
  refine px_ok_cons (ps_icmp_gt dX4_isFigure_19 (by decide)) ?_
  refine px_ok_cons (ps_iconst dX4_isFigure_22 (by decide)) ?_
  refine px_ok_cons (ps_goto dX4_isFigure_23 (by decide)) ?_
  refine px_ok_cons (ps_iconst dX4_isFigure_26 (by decide)) ?_
  refine px_ok_cons (ps_ireturn rfl dX4_isFigure_27) ?_
  exact px_ok_nil
set_option maxRecDepth 100000 in
set_option maxHeartbeats 4000000 in
theorem sgX4_isFigure_0 {po : Int32 → px_St → Prop} {G : px_K} (hG : px_cl (opX4_isFigure po) G) (v1 : Int32) (σ : px_St)
    (H : (σ.1 4 0).toNatClampNeg = 3 ∧ vp_in v1 160 ∧ (((σ.1 3 v1.toNatClampNeg) < (48 : Int32)) → po (0 : Int32) σ) ∧ (¬ ((σ.1 3 v1.toNatClampNeg) < (48 : Int32)) → (σ.1 4 0).toNatClampNeg = 3 ∧ vp_in v1 160 ∧ (((57 : Int32) < (σ.1 3 v1.toNatClampNeg)) → po (0 : Int32) σ) ∧ (¬ ((57 : Int32) < (σ.1 3 v1.toNatClampNeg)) → po (1 : Int32) σ))) :
    G 0 (px_ent 2 [.ref 4, .int v1]) [] σ := by
  refine hG.1 0 _ _ rfl _ _ _ ?_
  refine hG.1 1 _ _ rfl _ _ _ ?_
  refine ⟨⟨rfl, by decide⟩, ?_⟩
  obtain ⟨hz1, H⟩ := H
  show G 4 [some (.ref 4), some (.int v1)] [(.ref (σ.1 4 0).toNatClampNeg)] σ
  rw [hz1]
  refine hG.1 2 _ _ rfl _ _ _ ?_
  refine hG.1 3 _ _ rfl _ _ _ ?_
  refine ⟨⟨rfl, by decide⟩, H.1, ?_⟩
  replace H := H.2
  refine hG.1 4 _ _ rfl _ _ _ ?_
  refine hG.1 5 _ _ rfl _ _ _ ?_
  refine ⟨fun h4 => ?_, fun h4 => ?_⟩
  · replace H := H.1 h4
    refine hG.1 14 _ _ rfl _ _ _ ?_
    refine hG.1 15 _ _ rfl _ _ _ ?_
    exact ⟨rfl, H⟩
  · replace H := H.2 h4
    refine hG.1 6 _ _ rfl _ _ _ ?_
    refine hG.1 7 _ _ rfl _ _ _ ?_
    refine ⟨⟨rfl, by decide⟩, ?_⟩
    obtain ⟨hz2, H⟩ := H
    show G 15 [some (.ref 4), some (.int v1)] [(.ref (σ.1 4 0).toNatClampNeg)] σ
    rw [hz2]
    refine hG.1 8 _ _ rfl _ _ _ ?_
    refine hG.1 9 _ _ rfl _ _ _ ?_
    refine ⟨⟨rfl, by decide⟩, H.1, ?_⟩
    replace H := H.2
    refine hG.1 10 _ _ rfl _ _ _ ?_
    refine hG.1 11 _ _ rfl _ _ _ ?_
    refine ⟨fun h3 => ?_, fun h3 => ?_⟩
    · replace H := H.1 h3
      refine hG.1 14 _ _ rfl _ _ _ ?_
      refine hG.1 15 _ _ rfl _ _ _ ?_
      exact ⟨rfl, H⟩
    · replace H := H.2 h3
      refine hG.1 12 _ _ rfl _ _ _ ?_
      refine hG.1 13 _ _ rfl _ _ _ ?_
      refine hG.1 15 _ _ rfl _ _ _ ?_
      exact ⟨rfl, H⟩
set_option maxRecDepth 100000 in
set_option maxHeartbeats 4000000 in
theorem hhX4_isFigure (g : gtX4_isFigure) (v1 : Int32) (σ : px_St) (h : qrX4_isFigure g v1 σ) (G : px_K) (hG : px_cl (opX4_isFigure (qoX4_isFigure g v1 σ)) G) : G 0 (px_ent 2 [.ref 4, .int v1]) [] σ := by
  obtain ⟨T, i⟩ := g
  obtain ⟨hb, hT, hi, rfl⟩ := h
  have hl := hT.1
  have hc := ch_le hT i
  have e := hb.2.2 i hi
  refine sgX4_isFigure_0 hG _ σ ?_
  rw [nI_clamp (by omega), e]
  have c1 : nI (ch T i) < 48 ↔ ch T i < 48 := nIlt _ 48 rfl rfl (by omega) (by omega)
  have c2 : 57 < nI (ch T i) ↔ 57 < ch T i := nIlt 57 _ rfl rfl (by omega) (by omega)
  rw [c1, c2]
  exact ⟨hb.1, vp_in_nI (by omega) (by decide), fun z => ⟨rfl, Or.inr ⟨fun q => by have := is_f_iff.mp q; omega, rfl⟩⟩, fun z => ⟨hb.1, vp_in_nI (by omega) (by decide), fun y => ⟨rfl, Or.inr ⟨fun q => by have := is_f_iff.mp q; omega, rfl⟩⟩, fun y => ⟨rfl, Or.inl ⟨is_f_iff.mpr (by omega), rfl⟩⟩⟩⟩
theorem mX4_isFigure (g : gtX4_isFigure) : px_Met dC yX4_isFigure (Cond.code yX4_isFigure cX4_isFigure 2 (some .boolean) :: wdC) rmX4_isFigure px_vI (prX4_isFigure g) (poX4_isFigure g) :=
  px_met (Z := (cX4_isFigure, 2, RX4, Cond.code yX4_isFigure cX4_isFigure 2 (some .boolean) :: wdC, (some .boolean), rmX4_isFigure, dC)) opX4_isFigure (by decide) rfl rfl okX4_isFigure (fun As σ h => by obtain ⟨v1, rfl, h⟩ := h; exact Nat.le_of_ble_eq_true rfl) (fun As σ h G hG => by obtain ⟨v1, rfl, h⟩ := h; exact hhX4_isFigure g v1 σ h G hG)
abbrev gtX4_takeNumber : Type := List Nat × Nat
def qrX4_takeNumber : gtX4_takeNumber → px_St → Prop
  | (T, f), σ => rb σ T ∧ tx_ok T ∧ f ≤ T.length ∧ σ.1 4 6 = nI f ∧ σ.1 4 7 = nI f ∧ σ.1 4 4 = 0
def qoX4_takeNumber : gtX4_takeNumber → px_St → Unit → px_St → Prop
  | (T, f), σ, _, σ' => fr4 σ σ' ∧ σ'.1 4 5 = 2 ∧ σ'.1 4 6 = nI f ∧ σ'.1 4 7 = nI (pt_go is_f T f) ∧ (pt_go is_f T f - f ≤ 2 → σ'.1 4 4 = 0 ∧ σ'.1 4 8 = nI (pt_vl T f (pt_go is_f T f - f))) ∧ (¬ pt_go is_f T f - f ≤ 2 → σ'.1 4 4 = 1)
def prX4_takeNumber (g : gtX4_takeNumber) : List Value → px_St → Prop := fun As σ => As = [.ref 4] ∧ qrX4_takeNumber g σ
def poX4_takeNumber (g : gtX4_takeNumber) : List Value → px_St → Unit → px_St → Prop
  | [.ref _], σ, r, σ' => qoX4_takeNumber g σ r σ'
  | _, _, _, _ => False
theorem dX4_takeNumber_0 : decode cX4_takeNumber 0 = .ok (.aload_n 0, 1) := by decide +kernel
theorem dX4_takeNumber_1 : decode cX4_takeNumber 1 = .ok (.iconst 2, 1) := by decide +kernel
theorem dX4_takeNumber_2 : decode cX4_takeNumber 2 = .ok (.putfield 48, 3) := by decide +kernel
theorem dX4_takeNumber_5 : decode cX4_takeNumber 5 = .ok (.aload_n 0, 1) := by decide +kernel
theorem dX4_takeNumber_6 : decode cX4_takeNumber 6 = .ok (.iconst 0, 1) := by decide +kernel
theorem dX4_takeNumber_7 : decode cX4_takeNumber 7 = .ok (.putfield 72, 3) := by decide +kernel
theorem dX4_takeNumber_10 : decode cX4_takeNumber 10 = .ok (.aload_n 0, 1) := by decide +kernel
theorem dX4_takeNumber_11 : decode cX4_takeNumber 11 = .ok (.getfield 42, 3) := by decide +kernel
theorem dX4_takeNumber_14 : decode cX4_takeNumber 14 = .ok (.aload_n 0, 1) := by decide +kernel
theorem dX4_takeNumber_15 : decode cX4_takeNumber 15 = .ok (.getfield 28, 3) := by decide +kernel
theorem dX4_takeNumber_18 : decode cX4_takeNumber 18 = .ok (.if_icmp .ge 51, 3) := by decide +kernel
theorem dX4_takeNumber_21 : decode cX4_takeNumber 21 = .ok (.aload_n 0, 1) := by decide +kernel
theorem dX4_takeNumber_22 : decode cX4_takeNumber 22 = .ok (.aload_n 0, 1) := by decide +kernel
theorem dX4_takeNumber_23 : decode cX4_takeNumber 23 = .ok (.getfield 42, 3) := by decide +kernel
theorem dX4_takeNumber_26 : decode cX4_takeNumber 26 = .ok (.invokevirtual 106, 3) := by decide +kernel
theorem dX4_takeNumber_29 : decode cX4_takeNumber 29 = .ok (.ifCond .eq 40, 3) := by decide +kernel
theorem dX4_takeNumber_32 : decode cX4_takeNumber 32 = .ok (.aload_n 0, 1) := by decide +kernel
theorem dX4_takeNumber_33 : decode cX4_takeNumber 33 = .ok (.aload_n 0, 1) := by decide +kernel
theorem dX4_takeNumber_34 : decode cX4_takeNumber 34 = .ok (.getfield 72, 3) := by decide +kernel
theorem dX4_takeNumber_37 : decode cX4_takeNumber 37 = .ok (.bipush 10, 2) := by decide +kernel
theorem dX4_takeNumber_39 : decode cX4_takeNumber 39 = .ok (.imul, 1) := by decide +kernel
theorem dX4_takeNumber_40 : decode cX4_takeNumber 40 = .ok (.aload_n 0, 1) := by decide +kernel
theorem dX4_takeNumber_41 : decode cX4_takeNumber 41 = .ok (.getfield 9, 3) := by decide +kernel
theorem dX4_takeNumber_44 : decode cX4_takeNumber 44 = .ok (.aload_n 0, 1) := by decide +kernel
theorem dX4_takeNumber_45 : decode cX4_takeNumber 45 = .ok (.getfield 42, 3) := by decide +kernel
theorem dX4_takeNumber_48 : decode cX4_takeNumber 48 = .ok (.baload, 1) := by decide +kernel
theorem dX4_takeNumber_49 : decode cX4_takeNumber 49 = .ok (.iadd, 1) := by decide +kernel
theorem dX4_takeNumber_50 : decode cX4_takeNumber 50 = .ok (.bipush 48, 2) := by decide +kernel
theorem dX4_takeNumber_52 : decode cX4_takeNumber 52 = .ok (.isub, 1) := by decide +kernel
theorem dX4_takeNumber_53 : decode cX4_takeNumber 53 = .ok (.putfield 72, 3) := by decide +kernel
theorem dX4_takeNumber_56 : decode cX4_takeNumber 56 = .ok (.aload_n 0, 1) := by decide +kernel
theorem dX4_takeNumber_57 : decode cX4_takeNumber 57 = .ok (.dup, 1) := by decide +kernel
theorem dX4_takeNumber_58 : decode cX4_takeNumber 58 = .ok (.getfield 42, 3) := by decide +kernel
theorem dX4_takeNumber_61 : decode cX4_takeNumber 61 = .ok (.iconst 1, 1) := by decide +kernel
theorem dX4_takeNumber_62 : decode cX4_takeNumber 62 = .ok (.iadd, 1) := by decide +kernel
theorem dX4_takeNumber_63 : decode cX4_takeNumber 63 = .ok (.putfield 42, 3) := by decide +kernel
theorem dX4_takeNumber_66 : decode cX4_takeNumber 66 = .ok (.goto (-56), 3) := by decide +kernel
theorem dX4_takeNumber_69 : decode cX4_takeNumber 69 = .ok (.aload_n 0, 1) := by decide +kernel
theorem dX4_takeNumber_70 : decode cX4_takeNumber 70 = .ok (.getfield 42, 3) := by decide +kernel
theorem dX4_takeNumber_73 : decode cX4_takeNumber 73 = .ok (.aload_n 0, 1) := by decide +kernel
theorem dX4_takeNumber_74 : decode cX4_takeNumber 74 = .ok (.getfield 100, 3) := by decide +kernel
theorem dX4_takeNumber_77 : decode cX4_takeNumber 77 = .ok (.isub, 1) := by decide +kernel
theorem dX4_takeNumber_78 : decode cX4_takeNumber 78 = .ok (.iconst 2, 1) := by decide +kernel
theorem dX4_takeNumber_79 : decode cX4_takeNumber 79 = .ok (.if_icmp .le 8, 3) := by decide +kernel
theorem dX4_takeNumber_82 : decode cX4_takeNumber 82 = .ok (.aload_n 0, 1) := by decide +kernel
theorem dX4_takeNumber_83 : decode cX4_takeNumber 83 = .ok (.iconst 1, 1) := by decide +kernel
theorem dX4_takeNumber_84 : decode cX4_takeNumber 84 = .ok (.putfield 39, 3) := by decide +kernel
theorem dX4_takeNumber_87 : decode cX4_takeNumber 87 = .ok (.return_, 1) := by decide +kernel
abbrev rmX4_takeNumber : Room := { frames := 1, cells := 0, slots := 0, locals := 21 }
def opX4_takeNumber (po : Unit → px_St → Prop) : List (Nat × px_Op) := [
  (0, px_al 1 0),
  (1, px_push 2 (.int 2)),
  (2, px_put dC 5 4 5 .int),
  (5, px_al 6 0),
  (6, px_push 7 (.int 0)),
  (7, px_put dC 10 4 8 .int),
  (10, px_al 11 0),
  (11, px_get dC 14 4 7),
  (14, px_al 15 0),
  (15, px_get dC 18 4 1),
  (18, px_ic 21 69 (fun x y => y ≤ x)),
  (21, px_al 22 0),
  (22, px_al 23 0),
  (23, px_get dC 26 4 7),
  (26, px_callV dC 29 4 1 px_vI prX4_isFigure poX4_isFigure),
  (29, px_if 32 69 (fun x => x = 0)),
  (32, px_al 33 0),
  (33, px_al 34 0),
  (34, px_get dC 37 4 8),
  (37, px_push 39 (.int 10)),
  (39, px_bin 40 (fun x y => x * y)),
  (40, px_al 41 0),
  (41, px_get dC 44 4 0),
  (44, px_al 45 0),
  (45, px_get dC 48 4 7),
  (48, px_ald dC 49 1),
  (49, px_bin 50 (fun x y => x + y)),
  (50, px_push 52 (.int 48)),
  (52, px_bin 53 (fun x y => x - y)),
  (53, px_put dC 56 4 8 .int),
  (56, px_al 57 0),
  (57, px_dup 58),
  (58, px_get dC 61 4 7),
  (61, px_push 62 (.int 1)),
  (62, px_bin 63 (fun x y => x + y)),
  (63, px_put dC 66 4 7 .int),
  (66, px_go 10),
  (69, px_al 70 0),
  (70, px_get dC 73 4 7),
  (73, px_al 74 0),
  (74, px_get dC 77 4 6),
  (77, px_bin 78 (fun x y => x - y)),
  (78, px_push 79 (.int 2)),
  (79, px_ic 82 87 (fun x y => x ≤ y)),
  (82, px_al 83 0),
  (83, px_push 84 (.int 1)),
  (84, px_put dC 87 4 4 .int),
  (87, px_vret po)]
set_option maxRecDepth 100000 in
set_option maxHeartbeats 4000000 in
theorem okX4_takeNumber : ∀ (po : Unit → px_St → Prop) (i pc : Nat) (op : px_Op), (opX4_takeNumber po)[i]? = some (pc, op) → px_Snd (cX4_takeNumber, 1, RX4, Cond.code yX4_takeNumber cX4_takeNumber 1 none :: wdC, none, rmX4_takeNumber, dC) px_vV po pc op := by
  intro po
  unfold opX4_takeNumber
  refine px_ok_cons (ps_aload_n dX4_takeNumber_0 rfl) ?_
  refine px_ok_cons (ps_iconst dX4_takeNumber_1 (by decide)) ?_
  refine px_ok_cons (fpX4_48 dX4_takeNumber_2) ?_
  refine px_ok_cons (ps_aload_n dX4_takeNumber_5 rfl) ?_
  refine px_ok_cons (ps_iconst dX4_takeNumber_6 (by decide)) ?_
  refine px_ok_cons (fpX4_72 dX4_takeNumber_7) ?_
  refine px_ok_cons (ps_aload_n dX4_takeNumber_10 rfl) ?_
  refine px_ok_cons (fgX4_42 dX4_takeNumber_11) ?_
  refine px_ok_cons (ps_aload_n dX4_takeNumber_14 rfl) ?_
  refine px_ok_cons (fgX4_28 dX4_takeNumber_15) ?_
  refine px_ok_cons (ps_icmp_ge dX4_takeNumber_18 (by decide)) ?_
  refine px_ok_cons (ps_aload_n dX4_takeNumber_21 rfl) ?_
  refine px_ok_cons (ps_aload_n dX4_takeNumber_22 rfl) ?_
  refine px_ok_cons (fgX4_42 dX4_takeNumber_23) ?_
  refine px_ok_cons (ps_callV mX4_isFigure (fun _ _ => rfl) (C := RX4) rfl (fun _ _ ht => px_cwV wgC (wdC_2_in _ (List.mem_of_getElem? (i := 32) rfl)) (wdC_2_in _ (List.mem_of_getElem? (i := 33) rfl)) (wdC_2_in _ (List.mem_of_getElem? (i := 34) rfl)) (wdC_2_in _ (List.mem_of_getElem? (i := 35) rfl)) (wdC_2_in _ (List.mem_of_getElem? (i := 24) rfl)) (by decide +kernel) rfl rfl (by decide) ht) dX4_takeNumber_26) ?_
  refine px_ok_cons (ps_if_eq dX4_takeNumber_29 (by decide)) ?_
  refine px_ok_cons (ps_aload_n dX4_takeNumber_32 rfl) ?_
  refine px_ok_cons (ps_aload_n dX4_takeNumber_33 rfl) ?_
  refine px_ok_cons (fgX4_72 dX4_takeNumber_34) ?_
  refine px_ok_cons (ps_bipush dX4_takeNumber_37 (by decide)) ?_
  refine px_ok_cons (ps_imul dX4_takeNumber_39) ?_
  refine px_ok_cons (ps_aload_n dX4_takeNumber_40 rfl) ?_
  refine px_ok_cons (fgX4_9 dX4_takeNumber_41) ?_
  refine px_ok_cons (ps_aload_n dX4_takeNumber_44 rfl) ?_
  refine px_ok_cons (fgX4_42 dX4_takeNumber_45) ?_
  refine px_ok_cons (ps_baload dX4_takeNumber_48) ?_
  refine px_ok_cons (ps_iadd dX4_takeNumber_49) ?_
  refine px_ok_cons (ps_bipush dX4_takeNumber_50 (by decide)) ?_
  refine px_ok_cons (ps_isub dX4_takeNumber_52) ?_
  refine px_ok_cons (fpX4_72 dX4_takeNumber_53) ?_
  refine px_ok_cons (ps_aload_n dX4_takeNumber_56 rfl) ?_
  refine px_ok_cons (ps_dup dX4_takeNumber_57) ?_
  refine px_ok_cons (fgX4_42 dX4_takeNumber_58) ?_
  refine px_ok_cons (ps_iconst dX4_takeNumber_61 (by decide)) ?_
  refine px_ok_cons (ps_iadd dX4_takeNumber_62) ?_
  refine px_ok_cons (fpX4_42 dX4_takeNumber_63) ?_
  refine px_ok_cons (ps_goto dX4_takeNumber_66 (by decide)) ?_
  refine px_ok_cons (ps_aload_n dX4_takeNumber_69 rfl) ?_
  refine px_ok_cons (fgX4_42 dX4_takeNumber_70) ?_
  refine px_ok_cons (ps_aload_n dX4_takeNumber_73 rfl) ?_
  refine px_ok_cons (fgX4_100 dX4_takeNumber_74) ?_
  refine px_ok_cons (ps_isub dX4_takeNumber_77) ?_
  refine px_ok_cons (ps_iconst dX4_takeNumber_78 (by decide)) ?_
  refine px_ok_cons (ps_icmp_le dX4_takeNumber_79 (by decide)) ?_
  refine px_ok_cons (ps_aload_n dX4_takeNumber_82 rfl) ?_
  refine px_ok_cons (ps_iconst dX4_takeNumber_83 (by decide)) ?_
  refine px_ok_cons (fpX4_39 dX4_takeNumber_84) ?_
  refine px_ok_cons (ps_return rfl dX4_takeNumber_87) ?_
  exact px_ok_nil
set_option maxRecDepth 100000 in
set_option maxHeartbeats 4000000 in
theorem sgX4_takeNumber_0 {po : Unit → px_St → Prop} {G : px_K} (hG : px_cl (opX4_takeNumber po) G) (σ : px_St)
    (H : G 10 [some (.ref 4)] [] (px_up (px_up σ 4 5 (2 : Int32)) 4 8 (0 : Int32))) :
    G 0 (px_ent 1 [.ref 4]) [] σ := by
  refine hG.1 0 _ _ rfl _ _ _ ?_
  refine hG.1 1 _ _ rfl _ _ _ ?_
  refine hG.1 2 _ _ rfl _ _ _ ?_
  refine ⟨⟨rfl, by decide⟩, ⟨rfl, rfl⟩, ?_⟩
  refine hG.1 3 _ _ rfl _ _ _ ?_
  refine hG.1 4 _ _ rfl _ _ _ ?_
  refine hG.1 5 _ _ rfl _ _ _ ?_
  refine ⟨⟨rfl, by decide⟩, ⟨rfl, rfl⟩, ?_⟩
  exact H
set_option maxRecDepth 100000 in
set_option maxHeartbeats 4000000 in
theorem sgX4_takeNumber_10 {po : Unit → px_St → Prop} {G : px_K} (hG : px_cl (opX4_takeNumber po) G) (σ : px_St)
    (H : (((σ.1 4 1) ≤ (σ.1 4 7)) → ((((σ.1 4 7) - (σ.1 4 6)) ≤ (2 : Int32)) → po () σ) ∧ (¬ (((σ.1 4 7) - (σ.1 4 6)) ≤ (2 : Int32)) → po () (px_up σ 4 4 (1 : Int32)))) ∧ (¬ ((σ.1 4 1) ≤ (σ.1 4 7)) → ∃ g4 : gtX4_isFigure, qrX4_isFigure g4 (σ.1 4 7) σ ∧ ∀ (r2 : Int32) (σ3 : px_St), qoX4_isFigure g4 (σ.1 4 7) σ r2 σ3 → ((r2 = 0) → ((((σ3.1 4 7) - (σ3.1 4 6)) ≤ (2 : Int32)) → po () σ3) ∧ (¬ (((σ3.1 4 7) - (σ3.1 4 6)) ≤ (2 : Int32)) → po () (px_up σ3 4 4 (1 : Int32)))) ∧ (¬ (r2 = 0) → (σ3.1 4 0).toNatClampNeg = 3 ∧ vp_in (σ3.1 4 7) 160 ∧ G 10 [some (.ref 4)] [] (px_up (px_up σ3 4 8 ((((σ3.1 4 8) * (10 : Int32)) + (σ3.1 3 (σ3.1 4 7).toNatClampNeg)) - (48 : Int32))) 4 7 (((px_up σ3 4 8 ((((σ3.1 4 8) * (10 : Int32)) + (σ3.1 3 (σ3.1 4 7).toNatClampNeg)) - (48 : Int32))).1 4 7) + (1 : Int32)))))) :
    G 10 [some (.ref 4)] [] σ := by
  refine hG.1 6 _ _ rfl _ _ _ ?_
  refine hG.1 7 _ _ rfl _ _ _ ?_
  refine ⟨⟨rfl, by decide⟩, ?_⟩
  refine hG.1 8 _ _ rfl _ _ _ ?_
  refine hG.1 9 _ _ rfl _ _ _ ?_
  refine ⟨⟨rfl, by decide⟩, ?_⟩
  refine hG.1 10 _ _ rfl _ _ _ ?_
  refine ⟨fun h9 => ?_, fun h9 => ?_⟩
  · replace H := H.1 h9
    refine hG.1 37 _ _ rfl _ _ _ ?_
    refine hG.1 38 _ _ rfl _ _ _ ?_
    refine ⟨⟨rfl, by decide⟩, ?_⟩
    refine hG.1 39 _ _ rfl _ _ _ ?_
    refine hG.1 40 _ _ rfl _ _ _ ?_
    refine ⟨⟨rfl, by decide⟩, ?_⟩
    refine hG.1 41 _ _ rfl _ _ _ ?_
    refine hG.1 42 _ _ rfl _ _ _ ?_
    refine hG.1 43 _ _ rfl _ _ _ ?_
    refine ⟨fun h1 => ?_, fun h1 => ?_⟩
    · replace H := H.1 h1
      refine hG.1 47 _ _ rfl _ _ _ ?_
      exact H
    · replace H := H.2 h1
      refine hG.1 44 _ _ rfl _ _ _ ?_
      refine hG.1 45 _ _ rfl _ _ _ ?_
      refine hG.1 46 _ _ rfl _ _ _ ?_
      refine ⟨⟨rfl, by decide⟩, ⟨rfl, rfl⟩, ?_⟩
      refine hG.1 47 _ _ rfl _ _ _ ?_
      exact H
  · replace H := H.2 h9
    refine hG.1 11 _ _ rfl _ _ _ ?_
    refine hG.1 12 _ _ rfl _ _ _ ?_
    refine hG.1 13 _ _ rfl _ _ _ ?_
    refine ⟨⟨rfl, by decide⟩, ?_⟩
    refine hG.1 14 _ _ rfl _ _ _ ?_
    obtain ⟨g4, H⟩ := H
    refine ⟨⟨rfl, by decide⟩, Nat.le_of_ble_eq_true rfl, g4, ⟨_, rfl, H.1⟩, fun r2 σ3 hp5 => ?_⟩
    replace H := H.2 r2 σ3 hp5
    refine hG.1 15 _ _ rfl _ _ _ ?_
    refine ⟨fun h8 => ?_, fun h8 => ?_⟩
    · replace H := H.1 h8
      refine hG.1 37 _ _ rfl _ _ _ ?_
      refine hG.1 38 _ _ rfl _ _ _ ?_
      refine ⟨⟨rfl, by decide⟩, ?_⟩
      refine hG.1 39 _ _ rfl _ _ _ ?_
      refine hG.1 40 _ _ rfl _ _ _ ?_
      refine ⟨⟨rfl, by decide⟩, ?_⟩
      refine hG.1 41 _ _ rfl _ _ _ ?_
      refine hG.1 42 _ _ rfl _ _ _ ?_
      refine hG.1 43 _ _ rfl _ _ _ ?_
      refine ⟨fun h6 => ?_, fun h6 => ?_⟩
      · replace H := H.1 h6
        refine hG.1 47 _ _ rfl _ _ _ ?_
        exact H
      · replace H := H.2 h6
        refine hG.1 44 _ _ rfl _ _ _ ?_
        refine hG.1 45 _ _ rfl _ _ _ ?_
        refine hG.1 46 _ _ rfl _ _ _ ?_
        refine ⟨⟨rfl, by decide⟩, ⟨rfl, rfl⟩, ?_⟩
        refine hG.1 47 _ _ rfl _ _ _ ?_
        exact H
    · replace H := H.2 h8
      refine hG.1 16 _ _ rfl _ _ _ ?_
      refine hG.1 17 _ _ rfl _ _ _ ?_
      refine hG.1 18 _ _ rfl _ _ _ ?_
      refine ⟨⟨rfl, by decide⟩, ?_⟩
      refine hG.1 19 _ _ rfl _ _ _ ?_
      refine hG.1 20 _ _ rfl _ _ _ ?_
      refine hG.1 21 _ _ rfl _ _ _ ?_
      refine hG.1 22 _ _ rfl _ _ _ ?_
      refine ⟨⟨rfl, by decide⟩, ?_⟩
      obtain ⟨hz7, H⟩ := H
      show G 44 [some (.ref 4)] [(.ref (σ3.1 4 0).toNatClampNeg), .int ((σ3.1 4 8) * (10 : Int32)), .ref 4] σ3
      rw [hz7]
      refine hG.1 23 _ _ rfl _ _ _ ?_
      refine hG.1 24 _ _ rfl _ _ _ ?_
      refine ⟨⟨rfl, by decide⟩, ?_⟩
      refine hG.1 25 _ _ rfl _ _ _ ?_
      refine ⟨⟨rfl, by decide⟩, H.1, ?_⟩
      replace H := H.2
      refine hG.1 26 _ _ rfl _ _ _ ?_
      refine hG.1 27 _ _ rfl _ _ _ ?_
      refine hG.1 28 _ _ rfl _ _ _ ?_
      refine hG.1 29 _ _ rfl _ _ _ ?_
      refine ⟨⟨rfl, by decide⟩, ⟨rfl, rfl⟩, ?_⟩
      refine hG.1 30 _ _ rfl _ _ _ ?_
      refine hG.1 31 _ _ rfl _ _ _ ?_
      refine hG.1 32 _ _ rfl _ _ _ ?_
      refine ⟨⟨rfl, by decide⟩, ?_⟩
      refine hG.1 33 _ _ rfl _ _ _ ?_
      refine hG.1 34 _ _ rfl _ _ _ ?_
      refine hG.1 35 _ _ rfl _ _ _ ?_
      refine ⟨⟨rfl, by decide⟩, ⟨rfl, rfl⟩, ?_⟩
      refine hG.1 36 _ _ rfl _ _ _ ?_
      exact H
set_option maxRecDepth 100000 in
set_option maxHeartbeats 4000000 in
theorem hhX4_takeNumber (g : gtX4_takeNumber) (σ : px_St) (h : qrX4_takeNumber g σ) (G : px_K) (hG : px_cl (opX4_takeNumber (qoX4_takeNumber g σ)) G) : G 0 (px_ent 1 [.ref 4]) [] σ := by
  obtain ⟨T, f⟩ := g
  obtain ⟨hb, hT, hf, h6, h7, h4⟩ := h
  have hl := hT.1
  refine sgX4_takeNumber_0 hG σ ?_
  have fin : ∀ t σ', t = pt_go is_f T f → f ≤ t → t ≤ T.length → fr4 σ σ' → σ'.1 4 5 = 2 → σ'.1 4 6 = nI f → σ'.1 4 7 = nI t → σ'.1 4 4 = 0 → (t - f ≤ 2 → σ'.1 4 8 = nI (pt_vl T f (t - f))) → ((((σ'.1 4 7) - (σ'.1 4 6)) ≤ (2 : Int32)) → qoX4_takeNumber (T, f) σ () σ') ∧ (¬ (((σ'.1 4 7) - (σ'.1 4 6)) ≤ (2 : Int32)) → qoX4_takeNumber (T, f) σ () (px_up σ' 4 4 (1 : Int32))) := by
    intro t σ' ht hft htl ho e5 e6 e7 e4 e8
    rw [e7, e6, pk_sub hft]
    have c1 : nI (t - f) ≤ 2 ↔ t - f ≤ 2 := nIle _ 2 rfl rfl (by omega) (by omega)
    rw [c1]
    refine ⟨fun z => ?_, fun z => ?_⟩
    · subst ht
      exact ⟨ho, e5, e6, e7, fun q => ⟨e4, e8 q⟩, fun q => absurd z q⟩
    · subst ht
      exact ⟨ho.tr (fr4.up (by omega)), by rw [up4n (by omega)]; exact e5, by rw [up4n (by omega)]; exact e6, by rw [up4n (by omega)]; exact e7, fun q => absurd q z, fun q => up4s⟩
  have loop : ∀ m t, t + m = T.length → f ≤ t → pt_go is_f T f = pt_go is_f T t → (∀ i, f ≤ i → i < t → is_f (ch T i) = true) → ∀ σ', fr4 σ σ' → σ'.1 4 5 = 2 → σ'.1 4 6 = nI f → σ'.1 4 7 = nI t → σ'.1 4 4 = 0 → (t - f ≤ 2 → σ'.1 4 8 = nI (pt_vl T f (t - f))) → G 10 [some (.ref 4)] [] σ' := by
    intro m
    induction m with
    | zero =>
      intro t ht hft he hall σ' ho e5 e6 e7 e4 e8
      have hb' := hb.kept ho
      refine sgX4_takeNumber_10 hG σ' ?_
      have fi := fin t σ' (by rw [he, pt_go_z (by omega)]) hft (by omega) ho e5 e6 e7 e4 e8
      refine ⟨fun _ => fi, fun q => absurd ?_ q⟩
      rw [hb'.2.1, e7]
      exact nI_le (by omega) (by omega)
    | succ m ih =>
      intro t ht hft he hall σ' ho e5 e6 e7 e4 e8
      have hb' := hb.kept ho
      have hc := ch_le hT t
      refine sgX4_takeNumber_10 hG σ' ⟨fun q => ?_, fun _ => ⟨(T, t), ⟨hb', hT, by omega, e7⟩, fun r σ2 h2 => ?_⟩⟩
      · exfalso
        rw [hb'.2.1, e7] at q
        exact nI_ge (by omega) (by omega) q
      · obtain ⟨rfl, b2⟩ := h2
        refine bz2 b2 (fun z => ⟨hb'.1, ?_, ?_⟩) (fun z => fin t σ2 (by rw [he, pt_go_e (by omega) z]) hft (by omega) ho e5 e6 e7 e4 e8)
        · rw [e7]; exact vp_in_nI (by omega) (by decide)
        · have hz := is_f_iff.mp z
          refine ih (t + 1) (by omega) (by omega) (by rw [he, pt_go_s (by omega) z]) (fun i h1 h2 => ?_) _ ((ho.tr (fr4.up (by omega))).tr (fr4.up (by omega))) ?_ ?_ ?_ ?_ (fun hd => ?_)
          · by_cases hit : i = t
            · rw [hit]; exact z
            · exact hall i h1 (by omega)
          · rw [up4n (by omega), up4n (by omega)]; exact e5
          · rw [up4n (by omega), up4n (by omega)]; exact e6
          · rw [up4s, up4n (by omega), e7]; exact nI_1 _
          · rw [up4n (by omega), up4n (by omega)]; exact e4
          · rw [up4n (by omega), up4s, e8 (by omega), e7, nI_clamp (by omega), hb'.2.2 t (by omega)]
            have e10 : ∀ v, nI v * 10 + nI (ch T t) - 48 = nI (10 * v + (ch T t - 48)) := fun v => by
              rw [show (10 : Int32) = nI 10 from rfl, pk_mul, nI_add, show (48 : Int32) = nI 48 from rfl, pk_sub (by omega)]
              congr 1
              omega
            rw [e10]
            have hcase : t - f = 0 ∨ t - f = 1 := by omega
            rcases hcase with h0 | h0
            · rw [h0, show t + 1 - f = 1 by omega, show t = f by omega]
              show nI (10 * 0 + (ch T f - 48)) = nI (ch T f - 48)
              rw [Nat.mul_zero, Nat.zero_add]
            · rw [h0, show t + 1 - f = 2 by omega, show t = f + 1 by omega]
              rfl
  refine loop (T.length - f) f (by omega) (Nat.le_refl _) rfl (fun i h1 h2 => by omega) _ ((fr4.up (by omega)).tr (fr4.up (by omega))) ?_ ?_ ?_ ?_ (fun _ => ?_)
  · rw [up4n (by omega), up4s]
  · rw [up4n (by omega), up4n (by omega)]; exact h6
  · rw [up4n (by omega), up4n (by omega)]; exact h7
  · rw [up4n (by omega), up4n (by omega)]; exact h4
  · rw [up4s, Nat.sub_self]; rfl
theorem mX4_takeNumber (g : gtX4_takeNumber) : px_Met dC yX4_takeNumber (Cond.code yX4_takeNumber cX4_takeNumber 1 none :: wdC) rmX4_takeNumber px_vV (prX4_takeNumber g) (poX4_takeNumber g) :=
  px_met (Z := (cX4_takeNumber, 1, RX4, Cond.code yX4_takeNumber cX4_takeNumber 1 none :: wdC, none, rmX4_takeNumber, dC)) opX4_takeNumber (by decide) rfl rfl okX4_takeNumber (fun As σ h => by obtain ⟨rfl, h⟩ := h; exact Nat.le_of_ble_eq_true rfl) (fun As σ h G hG => by obtain ⟨rfl, h⟩ := h; exact hhX4_takeNumber g σ h G hG)
def rdC (σ : px_St) (t : pt_K) : Prop := σ.1 4 4 = 0 ∧ σ.1 4 5 = (if t.1 = 0 then 4 else nI t.1) ∧ σ.1 4 6 = nI t.2.1 ∧ σ.1 4 7 = nI t.2.2.1 ∧ (t.1 = 2 → σ.1 4 8 = nI t.2.2.2)
def nxC (σ : px_St) : Sum (Nat × Nat) pt_K → Prop
  | .inl f => σ.1 4 4 = nI f.1 ∧ σ.1 4 6 = nI f.2
  | .inr t => rdC σ t
abbrev gtX4_nextToken : Type := List Nat × Nat
def qrX4_nextToken : gtX4_nextToken → px_St → Prop
  | (T, p), σ => rb σ T ∧ tx_ok T ∧ (σ.1 4 4 = 0 → p ≤ T.length ∧ σ.1 4 7 = nI p)
def qoX4_nextToken : gtX4_nextToken → px_St → Unit → px_St → Prop
  | (T, p), σ, _, σ' => (¬ σ.1 4 4 = 0 → σ' = σ) ∧ (σ.1 4 4 = 0 → nxC σ' (pt_next T p)) ∧ fr4 σ σ'
def prX4_nextToken (g : gtX4_nextToken) : List Value → px_St → Prop := fun As σ => As = [.ref 4] ∧ qrX4_nextToken g σ
def poX4_nextToken (g : gtX4_nextToken) : List Value → px_St → Unit → px_St → Prop
  | [.ref _], σ, r, σ' => qoX4_nextToken g σ r σ'
  | _, _, _, _ => False
theorem dX4_nextToken_0 : decode cX4_nextToken 0 = .ok (.aload_n 0, 1) := by decide +kernel
theorem dX4_nextToken_1 : decode cX4_nextToken 1 = .ok (.getfield 39, 3) := by decide +kernel
theorem dX4_nextToken_4 : decode cX4_nextToken 4 = .ok (.ifCond .eq 4, 3) := by decide +kernel
theorem dX4_nextToken_7 : decode cX4_nextToken 7 = .ok (.return_, 1) := by decide +kernel
theorem dX4_nextToken_8 : decode cX4_nextToken 8 = .ok (.aload_n 0, 1) := by decide +kernel
theorem dX4_nextToken_9 : decode cX4_nextToken 9 = .ok (.aload_n 0, 1) := by decide +kernel
theorem dX4_nextToken_10 : decode cX4_nextToken 10 = .ok (.getfield 42, 3) := by decide +kernel
theorem dX4_nextToken_13 : decode cX4_nextToken 13 = .ok (.putfield 100, 3) := by decide +kernel
theorem dX4_nextToken_16 : decode cX4_nextToken 16 = .ok (.aload_n 0, 1) := by decide +kernel
theorem dX4_nextToken_17 : decode cX4_nextToken 17 = .ok (.getfield 100, 3) := by decide +kernel
theorem dX4_nextToken_20 : decode cX4_nextToken 20 = .ok (.aload_n 0, 1) := by decide +kernel
theorem dX4_nextToken_21 : decode cX4_nextToken 21 = .ok (.getfield 28, 3) := by decide +kernel
theorem dX4_nextToken_24 : decode cX4_nextToken 24 = .ok (.if_icmp .ge 30, 3) := by decide +kernel
theorem dX4_nextToken_27 : decode cX4_nextToken 27 = .ok (.aload_n 0, 1) := by decide +kernel
theorem dX4_nextToken_28 : decode cX4_nextToken 28 = .ok (.getfield 9, 3) := by decide +kernel
theorem dX4_nextToken_31 : decode cX4_nextToken 31 = .ok (.aload_n 0, 1) := by decide +kernel
theorem dX4_nextToken_32 : decode cX4_nextToken 32 = .ok (.getfield 100, 3) := by decide +kernel
theorem dX4_nextToken_35 : decode cX4_nextToken 35 = .ok (.baload, 1) := by decide +kernel
theorem dX4_nextToken_36 : decode cX4_nextToken 36 = .ok (.bipush 32, 2) := by decide +kernel
theorem dX4_nextToken_38 : decode cX4_nextToken 38 = .ok (.if_icmp .ne 16, 3) := by decide +kernel
theorem dX4_nextToken_41 : decode cX4_nextToken 41 = .ok (.aload_n 0, 1) := by decide +kernel
theorem dX4_nextToken_42 : decode cX4_nextToken 42 = .ok (.dup, 1) := by decide +kernel
theorem dX4_nextToken_43 : decode cX4_nextToken 43 = .ok (.getfield 100, 3) := by decide +kernel
theorem dX4_nextToken_46 : decode cX4_nextToken 46 = .ok (.iconst 1, 1) := by decide +kernel
theorem dX4_nextToken_47 : decode cX4_nextToken 47 = .ok (.iadd, 1) := by decide +kernel
theorem dX4_nextToken_48 : decode cX4_nextToken 48 = .ok (.putfield 100, 3) := by decide +kernel
theorem dX4_nextToken_51 : decode cX4_nextToken 51 = .ok (.goto (-35), 3) := by decide +kernel
theorem dX4_nextToken_54 : decode cX4_nextToken 54 = .ok (.aload_n 0, 1) := by decide +kernel
theorem dX4_nextToken_55 : decode cX4_nextToken 55 = .ok (.aload_n 0, 1) := by decide +kernel
theorem dX4_nextToken_56 : decode cX4_nextToken 56 = .ok (.getfield 100, 3) := by decide +kernel
theorem dX4_nextToken_59 : decode cX4_nextToken 59 = .ok (.putfield 42, 3) := by decide +kernel
theorem dX4_nextToken_62 : decode cX4_nextToken 62 = .ok (.aload_n 0, 1) := by decide +kernel
theorem dX4_nextToken_63 : decode cX4_nextToken 63 = .ok (.getfield 100, 3) := by decide +kernel
theorem dX4_nextToken_66 : decode cX4_nextToken 66 = .ok (.aload_n 0, 1) := by decide +kernel
theorem dX4_nextToken_67 : decode cX4_nextToken 67 = .ok (.getfield 28, 3) := by decide +kernel
theorem dX4_nextToken_70 : decode cX4_nextToken 70 = .ok (.if_icmp .lt 11, 3) := by decide +kernel
theorem dX4_nextToken_73 : decode cX4_nextToken 73 = .ok (.aload_n 0, 1) := by decide +kernel
theorem dX4_nextToken_74 : decode cX4_nextToken 74 = .ok (.iconst 4, 1) := by decide +kernel
theorem dX4_nextToken_75 : decode cX4_nextToken 75 = .ok (.putfield 48, 3) := by decide +kernel
theorem dX4_nextToken_78 : decode cX4_nextToken 78 = .ok (.goto 109, 3) := by decide +kernel
theorem dX4_nextToken_81 : decode cX4_nextToken 81 = .ok (.aload_n 0, 1) := by decide +kernel
theorem dX4_nextToken_82 : decode cX4_nextToken 82 = .ok (.aload_n 0, 1) := by decide +kernel
theorem dX4_nextToken_83 : decode cX4_nextToken 83 = .ok (.getfield 100, 3) := by decide +kernel
theorem dX4_nextToken_86 : decode cX4_nextToken 86 = .ok (.invokevirtual 103, 3) := by decide +kernel
theorem dX4_nextToken_89 : decode cX4_nextToken 89 = .ok (.ifCond .eq 43, 3) := by decide +kernel
theorem dX4_nextToken_92 : decode cX4_nextToken 92 = .ok (.aload_n 0, 1) := by decide +kernel
theorem dX4_nextToken_93 : decode cX4_nextToken 93 = .ok (.iconst 1, 1) := by decide +kernel
theorem dX4_nextToken_94 : decode cX4_nextToken 94 = .ok (.putfield 48, 3) := by decide +kernel
theorem dX4_nextToken_97 : decode cX4_nextToken 97 = .ok (.aload_n 0, 1) := by decide +kernel
theorem dX4_nextToken_98 : decode cX4_nextToken 98 = .ok (.getfield 42, 3) := by decide +kernel
theorem dX4_nextToken_101 : decode cX4_nextToken 101 = .ok (.aload_n 0, 1) := by decide +kernel
theorem dX4_nextToken_102 : decode cX4_nextToken 102 = .ok (.getfield 28, 3) := by decide +kernel
theorem dX4_nextToken_105 : decode cX4_nextToken 105 = .ok (.if_icmp .ge 82, 3) := by decide +kernel
theorem dX4_nextToken_108 : decode cX4_nextToken 108 = .ok (.aload_n 0, 1) := by decide +kernel
theorem dX4_nextToken_109 : decode cX4_nextToken 109 = .ok (.aload_n 0, 1) := by decide +kernel
theorem dX4_nextToken_110 : decode cX4_nextToken 110 = .ok (.getfield 42, 3) := by decide +kernel
theorem dX4_nextToken_113 : decode cX4_nextToken 113 = .ok (.invokevirtual 103, 3) := by decide +kernel
theorem dX4_nextToken_116 : decode cX4_nextToken 116 = .ok (.ifCond .eq 71, 3) := by decide +kernel
theorem dX4_nextToken_119 : decode cX4_nextToken 119 = .ok (.aload_n 0, 1) := by decide +kernel
theorem dX4_nextToken_120 : decode cX4_nextToken 120 = .ok (.dup, 1) := by decide +kernel
theorem dX4_nextToken_121 : decode cX4_nextToken 121 = .ok (.getfield 42, 3) := by decide +kernel
theorem dX4_nextToken_124 : decode cX4_nextToken 124 = .ok (.iconst 1, 1) := by decide +kernel
theorem dX4_nextToken_125 : decode cX4_nextToken 125 = .ok (.iadd, 1) := by decide +kernel
theorem dX4_nextToken_126 : decode cX4_nextToken 126 = .ok (.putfield 42, 3) := by decide +kernel
theorem dX4_nextToken_129 : decode cX4_nextToken 129 = .ok (.goto (-32), 3) := by decide +kernel
theorem dX4_nextToken_132 : decode cX4_nextToken 132 = .ok (.aload_n 0, 1) := by decide +kernel
theorem dX4_nextToken_133 : decode cX4_nextToken 133 = .ok (.aload_n 0, 1) := by decide +kernel
theorem dX4_nextToken_134 : decode cX4_nextToken 134 = .ok (.getfield 100, 3) := by decide +kernel
theorem dX4_nextToken_137 : decode cX4_nextToken 137 = .ok (.invokevirtual 106, 3) := by decide +kernel
theorem dX4_nextToken_140 : decode cX4_nextToken 140 = .ok (.ifCond .eq 10, 3) := by decide +kernel
theorem dX4_nextToken_143 : decode cX4_nextToken 143 = .ok (.aload_n 0, 1) := by decide +kernel
theorem dX4_nextToken_144 : decode cX4_nextToken 144 = .ok (.invokevirtual 109, 3) := by decide +kernel
theorem dX4_nextToken_147 : decode cX4_nextToken 147 = .ok (.goto 40, 3) := by decide +kernel
theorem dX4_nextToken_150 : decode cX4_nextToken 150 = .ok (.aload_n 0, 1) := by decide +kernel
theorem dX4_nextToken_151 : decode cX4_nextToken 151 = .ok (.getfield 9, 3) := by decide +kernel
theorem dX4_nextToken_154 : decode cX4_nextToken 154 = .ok (.aload_n 0, 1) := by decide +kernel
theorem dX4_nextToken_155 : decode cX4_nextToken 155 = .ok (.getfield 100, 3) := by decide +kernel
theorem dX4_nextToken_158 : decode cX4_nextToken 158 = .ok (.baload, 1) := by decide +kernel
theorem dX4_nextToken_159 : decode cX4_nextToken 159 = .ok (.bipush 59, 2) := by decide +kernel
theorem dX4_nextToken_161 : decode cX4_nextToken 161 = .ok (.if_icmp .ne 21, 3) := by decide +kernel
theorem dX4_nextToken_164 : decode cX4_nextToken 164 = .ok (.aload_n 0, 1) := by decide +kernel
theorem dX4_nextToken_165 : decode cX4_nextToken 165 = .ok (.iconst 3, 1) := by decide +kernel
theorem dX4_nextToken_166 : decode cX4_nextToken 166 = .ok (.putfield 48, 3) := by decide +kernel
theorem dX4_nextToken_169 : decode cX4_nextToken 169 = .ok (.aload_n 0, 1) := by decide +kernel
theorem dX4_nextToken_170 : decode cX4_nextToken 170 = .ok (.dup, 1) := by decide +kernel
theorem dX4_nextToken_171 : decode cX4_nextToken 171 = .ok (.getfield 42, 3) := by decide +kernel
theorem dX4_nextToken_174 : decode cX4_nextToken 174 = .ok (.iconst 1, 1) := by decide +kernel
theorem dX4_nextToken_175 : decode cX4_nextToken 175 = .ok (.iadd, 1) := by decide +kernel
theorem dX4_nextToken_176 : decode cX4_nextToken 176 = .ok (.putfield 42, 3) := by decide +kernel
theorem dX4_nextToken_179 : decode cX4_nextToken 179 = .ok (.goto 8, 3) := by decide +kernel
theorem dX4_nextToken_182 : decode cX4_nextToken 182 = .ok (.aload_n 0, 1) := by decide +kernel
theorem dX4_nextToken_183 : decode cX4_nextToken 183 = .ok (.iconst 1, 1) := by decide +kernel
theorem dX4_nextToken_184 : decode cX4_nextToken 184 = .ok (.putfield 39, 3) := by decide +kernel
theorem dX4_nextToken_187 : decode cX4_nextToken 187 = .ok (.return_, 1) := by decide +kernel
abbrev rmX4_nextToken : Room := { frames := 2, cells := 0, slots := 0, locals := 41 }
def opX4_nextToken (po : Unit → px_St → Prop) : List (Nat × px_Op) := [
  (0, px_al 1 0),
  (1, px_get dC 4 4 4),
  (4, px_if 7 8 (fun x => x = 0)),
  (7, px_vret po),
  (8, px_al 9 0),
  (9, px_al 10 0),
  (10, px_get dC 13 4 7),
  (13, px_put dC 16 4 6 .int),
  (16, px_al 17 0),
  (17, px_get dC 20 4 6),
  (20, px_al 21 0),
  (21, px_get dC 24 4 1),
  (24, px_ic 27 54 (fun x y => y ≤ x)),
  (27, px_al 28 0),
  (28, px_get dC 31 4 0),
  (31, px_al 32 0),
  (32, px_get dC 35 4 6),
  (35, px_ald dC 36 1),
  (36, px_push 38 (.int 32)),
  (38, px_ic 41 54 (fun x y => ¬ x = y)),
  (41, px_al 42 0),
  (42, px_dup 43),
  (43, px_get dC 46 4 6),
  (46, px_push 47 (.int 1)),
  (47, px_bin 48 (fun x y => x + y)),
  (48, px_put dC 51 4 6 .int),
  (51, px_go 16),
  (54, px_al 55 0),
  (55, px_al 56 0),
  (56, px_get dC 59 4 6),
  (59, px_put dC 62 4 7 .int),
  (62, px_al 63 0),
  (63, px_get dC 66 4 6),
  (66, px_al 67 0),
  (67, px_get dC 70 4 1),
  (70, px_ic 73 81 (fun x y => x < y)),
  (73, px_al 74 0),
  (74, px_push 75 (.int 4)),
  (75, px_put dC 78 4 5 .int),
  (78, px_go 187),
  (81, px_al 82 0),
  (82, px_al 83 0),
  (83, px_get dC 86 4 6),
  (86, px_callV dC 89 4 1 px_vI prX4_isLetter poX4_isLetter),
  (89, px_if 92 132 (fun x => x = 0)),
  (92, px_al 93 0),
  (93, px_push 94 (.int 1)),
  (94, px_put dC 97 4 5 .int),
  (97, px_al 98 0),
  (98, px_get dC 101 4 7),
  (101, px_al 102 0),
  (102, px_get dC 105 4 1),
  (105, px_ic 108 187 (fun x y => y ≤ x)),
  (108, px_al 109 0),
  (109, px_al 110 0),
  (110, px_get dC 113 4 7),
  (113, px_callV dC 116 4 1 px_vI prX4_isLetter poX4_isLetter),
  (116, px_if 119 187 (fun x => x = 0)),
  (119, px_al 120 0),
  (120, px_dup 121),
  (121, px_get dC 124 4 7),
  (124, px_push 125 (.int 1)),
  (125, px_bin 126 (fun x y => x + y)),
  (126, px_put dC 129 4 7 .int),
  (129, px_go 97),
  (132, px_al 133 0),
  (133, px_al 134 0),
  (134, px_get dC 137 4 6),
  (137, px_callV dC 140 4 1 px_vI prX4_isFigure poX4_isFigure),
  (140, px_if 143 150 (fun x => x = 0)),
  (143, px_al 144 0),
  (144, px_callV dC 147 4 0 px_vV prX4_takeNumber poX4_takeNumber),
  (147, px_go 187),
  (150, px_al 151 0),
  (151, px_get dC 154 4 0),
  (154, px_al 155 0),
  (155, px_get dC 158 4 6),
  (158, px_ald dC 159 1),
  (159, px_push 161 (.int 59)),
  (161, px_ic 164 182 (fun x y => ¬ x = y)),
  (164, px_al 165 0),
  (165, px_push 166 (.int 3)),
  (166, px_put dC 169 4 5 .int),
  (169, px_al 170 0),
  (170, px_dup 171),
  (171, px_get dC 174 4 7),
  (174, px_push 175 (.int 1)),
  (175, px_bin 176 (fun x y => x + y)),
  (176, px_put dC 179 4 7 .int),
  (179, px_go 187),
  (182, px_al 183 0),
  (183, px_push 184 (.int 1)),
  (184, px_put dC 187 4 4 .int),
  (187, px_vret po)]
set_option maxRecDepth 100000 in
set_option maxHeartbeats 4000000 in
theorem okX4_nextToken : ∀ (po : Unit → px_St → Prop) (i pc : Nat) (op : px_Op), (opX4_nextToken po)[i]? = some (pc, op) → px_Snd (cX4_nextToken, 1, RX4, Cond.code yX4_nextToken cX4_nextToken 1 none :: wdC, none, rmX4_nextToken, dC) px_vV po pc op := by
  intro po
  unfold opX4_nextToken
  refine px_ok_cons (ps_aload_n dX4_nextToken_0 rfl) ?_
  refine px_ok_cons (fgX4_39 dX4_nextToken_1) ?_
  refine px_ok_cons (ps_if_eq dX4_nextToken_4 (by decide)) ?_
  refine px_ok_cons (ps_return rfl dX4_nextToken_7) ?_
  refine px_ok_cons (ps_aload_n dX4_nextToken_8 rfl) ?_
  refine px_ok_cons (ps_aload_n dX4_nextToken_9 rfl) ?_
  refine px_ok_cons (fgX4_42 dX4_nextToken_10) ?_
  refine px_ok_cons (fpX4_100 dX4_nextToken_13) ?_
  refine px_ok_cons (ps_aload_n dX4_nextToken_16 rfl) ?_
  refine px_ok_cons (fgX4_100 dX4_nextToken_17) ?_
  refine px_ok_cons (ps_aload_n dX4_nextToken_20 rfl) ?_
  refine px_ok_cons (fgX4_28 dX4_nextToken_21) ?_
  refine px_ok_cons (ps_icmp_ge dX4_nextToken_24 (by decide)) ?_
  refine px_ok_cons (ps_aload_n dX4_nextToken_27 rfl) ?_
  refine px_ok_cons (fgX4_9 dX4_nextToken_28) ?_
  refine px_ok_cons (ps_aload_n dX4_nextToken_31 rfl) ?_
  refine px_ok_cons (fgX4_100 dX4_nextToken_32) ?_
  refine px_ok_cons (ps_baload dX4_nextToken_35) ?_
  refine px_ok_cons (ps_bipush dX4_nextToken_36 (by decide)) ?_
  refine px_ok_cons (ps_icmp_ne dX4_nextToken_38 (by decide)) ?_
  refine px_ok_cons (ps_aload_n dX4_nextToken_41 rfl) ?_
  refine px_ok_cons (ps_dup dX4_nextToken_42) ?_
  refine px_ok_cons (fgX4_100 dX4_nextToken_43) ?_
  refine px_ok_cons (ps_iconst dX4_nextToken_46 (by decide)) ?_
  refine px_ok_cons (ps_iadd dX4_nextToken_47) ?_
  refine px_ok_cons (fpX4_100 dX4_nextToken_48) ?_
  refine px_ok_cons (ps_goto dX4_nextToken_51 (by decide)) ?_
  refine px_ok_cons (ps_aload_n dX4_nextToken_54 rfl) ?_
  refine px_ok_cons (ps_aload_n dX4_nextToken_55 rfl) ?_
  refine px_ok_cons (fgX4_100 dX4_nextToken_56) ?_
  refine px_ok_cons (fpX4_42 dX4_nextToken_59) ?_
  refine px_ok_cons (ps_aload_n dX4_nextToken_62 rfl) ?_
  refine px_ok_cons (fgX4_100 dX4_nextToken_63) ?_
  refine px_ok_cons (ps_aload_n dX4_nextToken_66 rfl) ?_
  refine px_ok_cons (fgX4_28 dX4_nextToken_67) ?_
  refine px_ok_cons (ps_icmp_lt dX4_nextToken_70 (by decide)) ?_
  refine px_ok_cons (ps_aload_n dX4_nextToken_73 rfl) ?_
  refine px_ok_cons (ps_iconst dX4_nextToken_74 (by decide)) ?_
  refine px_ok_cons (fpX4_48 dX4_nextToken_75) ?_
  refine px_ok_cons (ps_goto dX4_nextToken_78 (by decide)) ?_
  refine px_ok_cons (ps_aload_n dX4_nextToken_81 rfl) ?_
  refine px_ok_cons (ps_aload_n dX4_nextToken_82 rfl) ?_
  refine px_ok_cons (fgX4_100 dX4_nextToken_83) ?_
  refine px_ok_cons (ps_callV mX4_isLetter (fun _ _ => rfl) (C := RX4) rfl (fun _ _ ht => px_cwV wgC (wdC_2_in _ (List.mem_of_getElem? (i := 37) rfl)) (wdC_2_in _ (List.mem_of_getElem? (i := 38) rfl)) (wdC_2_in _ (List.mem_of_getElem? (i := 39) rfl)) (wdC_2_in _ (List.mem_of_getElem? (i := 35) rfl)) (wdC_2_in _ (List.mem_of_getElem? (i := 23) rfl)) (by decide +kernel) rfl rfl (by decide) ht) dX4_nextToken_86) ?_
  refine px_ok_cons (ps_if_eq dX4_nextToken_89 (by decide)) ?_
  refine px_ok_cons (ps_aload_n dX4_nextToken_92 rfl) ?_
  refine px_ok_cons (ps_iconst dX4_nextToken_93 (by decide)) ?_
  refine px_ok_cons (fpX4_48 dX4_nextToken_94) ?_
  refine px_ok_cons (ps_aload_n dX4_nextToken_97 rfl) ?_
  refine px_ok_cons (fgX4_42 dX4_nextToken_98) ?_
  refine px_ok_cons (ps_aload_n dX4_nextToken_101 rfl) ?_
  refine px_ok_cons (fgX4_28 dX4_nextToken_102) ?_
  refine px_ok_cons (ps_icmp_ge dX4_nextToken_105 (by decide)) ?_
  refine px_ok_cons (ps_aload_n dX4_nextToken_108 rfl) ?_
  refine px_ok_cons (ps_aload_n dX4_nextToken_109 rfl) ?_
  refine px_ok_cons (fgX4_42 dX4_nextToken_110) ?_
  refine px_ok_cons (ps_callV mX4_isLetter (fun _ _ => rfl) (C := RX4) rfl (fun _ _ ht => px_cwV wgC (wdC_2_in _ (List.mem_of_getElem? (i := 37) rfl)) (wdC_2_in _ (List.mem_of_getElem? (i := 38) rfl)) (wdC_2_in _ (List.mem_of_getElem? (i := 39) rfl)) (wdC_2_in _ (List.mem_of_getElem? (i := 35) rfl)) (wdC_2_in _ (List.mem_of_getElem? (i := 23) rfl)) (by decide +kernel) rfl rfl (by decide) ht) dX4_nextToken_113) ?_
  refine px_ok_cons (ps_if_eq dX4_nextToken_116 (by decide)) ?_
  refine px_ok_cons (ps_aload_n dX4_nextToken_119 rfl) ?_
  refine px_ok_cons (ps_dup dX4_nextToken_120) ?_
  refine px_ok_cons (fgX4_42 dX4_nextToken_121) ?_
  refine px_ok_cons (ps_iconst dX4_nextToken_124 (by decide)) ?_
  refine px_ok_cons (ps_iadd dX4_nextToken_125) ?_
  refine px_ok_cons (fpX4_42 dX4_nextToken_126) ?_
  refine px_ok_cons (ps_goto dX4_nextToken_129 (by decide)) ?_
  refine px_ok_cons (ps_aload_n dX4_nextToken_132 rfl) ?_
  refine px_ok_cons (ps_aload_n dX4_nextToken_133 rfl) ?_
  refine px_ok_cons (fgX4_100 dX4_nextToken_134) ?_
  refine px_ok_cons (ps_callV mX4_isFigure (fun _ _ => rfl) (C := RX4) rfl (fun _ _ ht => px_cwV wgC (wdC_2_in _ (List.mem_of_getElem? (i := 32) rfl)) (wdC_2_in _ (List.mem_of_getElem? (i := 33) rfl)) (wdC_2_in _ (List.mem_of_getElem? (i := 34) rfl)) (wdC_2_in _ (List.mem_of_getElem? (i := 35) rfl)) (wdC_2_in _ (List.mem_of_getElem? (i := 24) rfl)) (by decide +kernel) rfl rfl (by decide) ht) dX4_nextToken_137) ?_
  refine px_ok_cons (ps_if_eq dX4_nextToken_140 (by decide)) ?_
  refine px_ok_cons (ps_aload_n dX4_nextToken_143 rfl) ?_
  refine px_ok_cons (ps_callV mX4_takeNumber (fun _ _ => rfl) (C := RX4) rfl (fun _ _ ht => px_cwV wgC (wdC_3_in _ (List.mem_of_getElem? (i := 0) rfl)) (wdC_3_in _ (List.mem_of_getElem? (i := 1) rfl)) (wdC_3_in _ (List.mem_of_getElem? (i := 2) rfl)) (wdC_2_in _ (List.mem_of_getElem? (i := 35) rfl)) (wdC_2_in _ (List.mem_of_getElem? (i := 25) rfl)) (by decide +kernel) rfl rfl (by decide) ht) dX4_nextToken_144) ?_
  refine px_ok_cons (ps_goto dX4_nextToken_147 (by decide)) ?_
  refine px_ok_cons (ps_aload_n dX4_nextToken_150 rfl) ?_
  refine px_ok_cons (fgX4_9 dX4_nextToken_151) ?_
  refine px_ok_cons (ps_aload_n dX4_nextToken_154 rfl) ?_
  refine px_ok_cons (fgX4_100 dX4_nextToken_155) ?_
  refine px_ok_cons (ps_baload dX4_nextToken_158) ?_
  refine px_ok_cons (ps_bipush dX4_nextToken_159 (by decide)) ?_
  refine px_ok_cons (ps_icmp_ne dX4_nextToken_161 (by decide)) ?_
  refine px_ok_cons (ps_aload_n dX4_nextToken_164 rfl) ?_
  refine px_ok_cons (ps_iconst dX4_nextToken_165 (by decide)) ?_
  refine px_ok_cons (fpX4_48 dX4_nextToken_166) ?_
  refine px_ok_cons (ps_aload_n dX4_nextToken_169 rfl) ?_
  refine px_ok_cons (ps_dup dX4_nextToken_170) ?_
  refine px_ok_cons (fgX4_42 dX4_nextToken_171) ?_
  refine px_ok_cons (ps_iconst dX4_nextToken_174 (by decide)) ?_
  refine px_ok_cons (ps_iadd dX4_nextToken_175) ?_
  refine px_ok_cons (fpX4_42 dX4_nextToken_176) ?_
  refine px_ok_cons (ps_goto dX4_nextToken_179 (by decide)) ?_
  refine px_ok_cons (ps_aload_n dX4_nextToken_182 rfl) ?_
  refine px_ok_cons (ps_iconst dX4_nextToken_183 (by decide)) ?_
  refine px_ok_cons (fpX4_39 dX4_nextToken_184) ?_
  refine px_ok_cons (ps_return rfl dX4_nextToken_187) ?_
  exact px_ok_nil
set_option maxRecDepth 100000 in
set_option maxHeartbeats 4000000 in
theorem sgX4_nextToken_0 {po : Unit → px_St → Prop} {G : px_K} (hG : px_cl (opX4_nextToken po) G) (σ : px_St)
    (H : (((σ.1 4 4) = 0) → G 16 [some (.ref 4)] [] (px_up σ 4 6 (σ.1 4 7))) ∧ (¬ ((σ.1 4 4) = 0) → po () σ)) :
    G 0 (px_ent 1 [.ref 4]) [] σ := by
  refine hG.1 0 _ _ rfl _ _ _ ?_
  refine hG.1 1 _ _ rfl _ _ _ ?_
  refine ⟨⟨rfl, by decide⟩, ?_⟩
  refine hG.1 2 _ _ rfl _ _ _ ?_
  refine ⟨fun h1 => ?_, fun h1 => ?_⟩
  · replace H := H.1 h1
    refine hG.1 4 _ _ rfl _ _ _ ?_
    refine hG.1 5 _ _ rfl _ _ _ ?_
    refine hG.1 6 _ _ rfl _ _ _ ?_
    refine ⟨⟨rfl, by decide⟩, ?_⟩
    refine hG.1 7 _ _ rfl _ _ _ ?_
    refine ⟨⟨rfl, by decide⟩, ⟨rfl, rfl⟩, ?_⟩
    exact H
  · replace H := H.2 h1
    refine hG.1 3 _ _ rfl _ _ _ ?_
    exact H
set_option maxRecDepth 100000 in
set_option maxHeartbeats 4000000 in
theorem sgX4_nextToken_16 {po : Unit → px_St → Prop} {G : px_K} (hG : px_cl (opX4_nextToken po) G) (σ : px_St)
    (H : (((σ.1 4 1) ≤ (σ.1 4 6)) → G 54 [some (.ref 4)] [] σ) ∧ (¬ ((σ.1 4 1) ≤ (σ.1 4 6)) → (σ.1 4 0).toNatClampNeg = 3 ∧ vp_in (σ.1 4 6) 160 ∧ ((¬ (σ.1 3 (σ.1 4 6).toNatClampNeg) = (32 : Int32)) → G 54 [some (.ref 4)] [] σ) ∧ (¬ (¬ (σ.1 3 (σ.1 4 6).toNatClampNeg) = (32 : Int32)) → G 16 [some (.ref 4)] [] (px_up σ 4 6 ((σ.1 4 6) + (1 : Int32)))))) :
    G 16 [some (.ref 4)] [] σ := by
  refine hG.1 8 _ _ rfl _ _ _ ?_
  refine hG.1 9 _ _ rfl _ _ _ ?_
  refine ⟨⟨rfl, by decide⟩, ?_⟩
  refine hG.1 10 _ _ rfl _ _ _ ?_
  refine hG.1 11 _ _ rfl _ _ _ ?_
  refine ⟨⟨rfl, by decide⟩, ?_⟩
  refine hG.1 12 _ _ rfl _ _ _ ?_
  refine ⟨fun h3 => ?_, fun h3 => ?_⟩
  · replace H := H.1 h3
    exact H
  · replace H := H.2 h3
    refine hG.1 13 _ _ rfl _ _ _ ?_
    refine hG.1 14 _ _ rfl _ _ _ ?_
    refine ⟨⟨rfl, by decide⟩, ?_⟩
    obtain ⟨hz1, H⟩ := H
    show G 31 [some (.ref 4)] [(.ref (σ.1 4 0).toNatClampNeg)] σ
    rw [hz1]
    refine hG.1 15 _ _ rfl _ _ _ ?_
    refine hG.1 16 _ _ rfl _ _ _ ?_
    refine ⟨⟨rfl, by decide⟩, ?_⟩
    refine hG.1 17 _ _ rfl _ _ _ ?_
    refine ⟨⟨rfl, by decide⟩, H.1, ?_⟩
    replace H := H.2
    refine hG.1 18 _ _ rfl _ _ _ ?_
    refine hG.1 19 _ _ rfl _ _ _ ?_
    refine ⟨fun h2 => ?_, fun h2 => ?_⟩
    · replace H := H.1 h2
      exact H
    · replace H := H.2 h2
      refine hG.1 20 _ _ rfl _ _ _ ?_
      refine hG.1 21 _ _ rfl _ _ _ ?_
      refine hG.1 22 _ _ rfl _ _ _ ?_
      refine ⟨⟨rfl, by decide⟩, ?_⟩
      refine hG.1 23 _ _ rfl _ _ _ ?_
      refine hG.1 24 _ _ rfl _ _ _ ?_
      refine hG.1 25 _ _ rfl _ _ _ ?_
      refine ⟨⟨rfl, by decide⟩, ⟨rfl, rfl⟩, ?_⟩
      refine hG.1 26 _ _ rfl _ _ _ ?_
      exact H
set_option maxRecDepth 100000 in
set_option maxHeartbeats 4000000 in
theorem sgX4_nextToken_54 {po : Unit → px_St → Prop} {G : px_K} (hG : px_cl (opX4_nextToken po) G) (σ : px_St)
    (H : ((((px_up σ 4 7 (σ.1 4 6)).1 4 6) < ((px_up σ 4 7 (σ.1 4 6)).1 4 1)) → ∃ g3 : gtX4_isLetter, qrX4_isLetter g3 ((px_up σ 4 7 (σ.1 4 6)).1 4 6) (px_up σ 4 7 (σ.1 4 6)) ∧ ∀ (r1 : Int32) (σ2 : px_St), qoX4_isLetter g3 ((px_up σ 4 7 (σ.1 4 6)).1 4 6) (px_up σ 4 7 (σ.1 4 6)) r1 σ2 → ((r1 = 0) → ∃ g7 : gtX4_isFigure, qrX4_isFigure g7 (σ2.1 4 6) σ2 ∧ ∀ (r5 : Int32) (σ6 : px_St), qoX4_isFigure g7 (σ2.1 4 6) σ2 r5 σ6 → ((r5 = 0) → (σ6.1 4 0).toNatClampNeg = 3 ∧ vp_in (σ6.1 4 6) 160 ∧ ((¬ (σ6.1 3 (σ6.1 4 6).toNatClampNeg) = (59 : Int32)) → po () (px_up σ6 4 4 (1 : Int32))) ∧ (¬ (¬ (σ6.1 3 (σ6.1 4 6).toNatClampNeg) = (59 : Int32)) → po () (px_up (px_up σ6 4 5 (3 : Int32)) 4 7 (((px_up σ6 4 5 (3 : Int32)).1 4 7) + (1 : Int32))))) ∧ (¬ (r5 = 0) → ∃ g13 : gtX4_takeNumber, qrX4_takeNumber g13 σ6 ∧ ∀ (r11 : Unit) (σ12 : px_St), qoX4_takeNumber g13 σ6 r11 σ12 → po () σ12)) ∧ (¬ (r1 = 0) → G 97 [some (.ref 4)] [] (px_up σ2 4 5 (1 : Int32)))) ∧ (¬ (((px_up σ 4 7 (σ.1 4 6)).1 4 6) < ((px_up σ 4 7 (σ.1 4 6)).1 4 1)) → po () (px_up (px_up σ 4 7 (σ.1 4 6)) 4 5 (4 : Int32)))) :
    G 54 [some (.ref 4)] [] σ := by
  refine hG.1 27 _ _ rfl _ _ _ ?_
  refine hG.1 28 _ _ rfl _ _ _ ?_
  refine hG.1 29 _ _ rfl _ _ _ ?_
  refine ⟨⟨rfl, by decide⟩, ?_⟩
  refine hG.1 30 _ _ rfl _ _ _ ?_
  refine ⟨⟨rfl, by decide⟩, ⟨rfl, rfl⟩, ?_⟩
  refine hG.1 31 _ _ rfl _ _ _ ?_
  refine hG.1 32 _ _ rfl _ _ _ ?_
  refine ⟨⟨rfl, by decide⟩, ?_⟩
  refine hG.1 33 _ _ rfl _ _ _ ?_
  refine hG.1 34 _ _ rfl _ _ _ ?_
  refine ⟨⟨rfl, by decide⟩, ?_⟩
  refine hG.1 35 _ _ rfl _ _ _ ?_
  refine ⟨fun h17 => ?_, fun h17 => ?_⟩
  · replace H := H.1 h17
    refine hG.1 40 _ _ rfl _ _ _ ?_
    refine hG.1 41 _ _ rfl _ _ _ ?_
    refine hG.1 42 _ _ rfl _ _ _ ?_
    refine ⟨⟨rfl, by decide⟩, ?_⟩
    refine hG.1 43 _ _ rfl _ _ _ ?_
    obtain ⟨g3, H⟩ := H
    refine ⟨⟨rfl, by decide⟩, Nat.le_of_ble_eq_true rfl, g3, ⟨_, rfl, H.1⟩, fun r1 σ2 hp4 => ?_⟩
    replace H := H.2 r1 σ2 hp4
    refine hG.1 44 _ _ rfl _ _ _ ?_
    refine ⟨fun h16 => ?_, fun h16 => ?_⟩
    · replace H := H.1 h16
      refine hG.1 65 _ _ rfl _ _ _ ?_
      refine hG.1 66 _ _ rfl _ _ _ ?_
      refine hG.1 67 _ _ rfl _ _ _ ?_
      refine ⟨⟨rfl, by decide⟩, ?_⟩
      refine hG.1 68 _ _ rfl _ _ _ ?_
      obtain ⟨g7, H⟩ := H
      refine ⟨⟨rfl, by decide⟩, Nat.le_of_ble_eq_true rfl, g7, ⟨_, rfl, H.1⟩, fun r5 σ6 hp8 => ?_⟩
      replace H := H.2 r5 σ6 hp8
      refine hG.1 69 _ _ rfl _ _ _ ?_
      refine ⟨fun h15 => ?_, fun h15 => ?_⟩
      · replace H := H.1 h15
        refine hG.1 73 _ _ rfl _ _ _ ?_
        refine hG.1 74 _ _ rfl _ _ _ ?_
        refine ⟨⟨rfl, by decide⟩, ?_⟩
        obtain ⟨hz9, H⟩ := H
        show G 154 [some (.ref 4)] [(.ref (σ6.1 4 0).toNatClampNeg)] σ6
        rw [hz9]
        refine hG.1 75 _ _ rfl _ _ _ ?_
        refine hG.1 76 _ _ rfl _ _ _ ?_
        refine ⟨⟨rfl, by decide⟩, ?_⟩
        refine hG.1 77 _ _ rfl _ _ _ ?_
        refine ⟨⟨rfl, by decide⟩, H.1, ?_⟩
        replace H := H.2
        refine hG.1 78 _ _ rfl _ _ _ ?_
        refine hG.1 79 _ _ rfl _ _ _ ?_
        refine ⟨fun h10 => ?_, fun h10 => ?_⟩
        · replace H := H.1 h10
          refine hG.1 90 _ _ rfl _ _ _ ?_
          refine hG.1 91 _ _ rfl _ _ _ ?_
          refine hG.1 92 _ _ rfl _ _ _ ?_
          refine ⟨⟨rfl, by decide⟩, ⟨rfl, rfl⟩, ?_⟩
          refine hG.1 93 _ _ rfl _ _ _ ?_
          exact H
        · replace H := H.2 h10
          refine hG.1 80 _ _ rfl _ _ _ ?_
          refine hG.1 81 _ _ rfl _ _ _ ?_
          refine hG.1 82 _ _ rfl _ _ _ ?_
          refine ⟨⟨rfl, by decide⟩, ⟨rfl, rfl⟩, ?_⟩
          refine hG.1 83 _ _ rfl _ _ _ ?_
          refine hG.1 84 _ _ rfl _ _ _ ?_
          refine hG.1 85 _ _ rfl _ _ _ ?_
          refine ⟨⟨rfl, by decide⟩, ?_⟩
          refine hG.1 86 _ _ rfl _ _ _ ?_
          refine hG.1 87 _ _ rfl _ _ _ ?_
          refine hG.1 88 _ _ rfl _ _ _ ?_
          refine ⟨⟨rfl, by decide⟩, ⟨rfl, rfl⟩, ?_⟩
          refine hG.1 89 _ _ rfl _ _ _ ?_
          refine hG.1 93 _ _ rfl _ _ _ ?_
          exact H
      · replace H := H.2 h15
        refine hG.1 70 _ _ rfl _ _ _ ?_
        refine hG.1 71 _ _ rfl _ _ _ ?_
        obtain ⟨g13, H⟩ := H
        refine ⟨⟨rfl, by decide⟩, Nat.le_of_ble_eq_true rfl, g13, ⟨rfl, H.1⟩, fun r11 σ12 hp14 => ?_⟩
        replace H := H.2 r11 σ12 hp14
        refine hG.1 72 _ _ rfl _ _ _ ?_
        refine hG.1 93 _ _ rfl _ _ _ ?_
        exact H
    · replace H := H.2 h16
      refine hG.1 45 _ _ rfl _ _ _ ?_
      refine hG.1 46 _ _ rfl _ _ _ ?_
      refine hG.1 47 _ _ rfl _ _ _ ?_
      refine ⟨⟨rfl, by decide⟩, ⟨rfl, rfl⟩, ?_⟩
      exact H
  · replace H := H.2 h17
    refine hG.1 36 _ _ rfl _ _ _ ?_
    refine hG.1 37 _ _ rfl _ _ _ ?_
    refine hG.1 38 _ _ rfl _ _ _ ?_
    refine ⟨⟨rfl, by decide⟩, ⟨rfl, rfl⟩, ?_⟩
    refine hG.1 39 _ _ rfl _ _ _ ?_
    refine hG.1 93 _ _ rfl _ _ _ ?_
    exact H
set_option maxRecDepth 100000 in
set_option maxHeartbeats 4000000 in
theorem sgX4_nextToken_97 {po : Unit → px_St → Prop} {G : px_K} (hG : px_cl (opX4_nextToken po) G) (σ : px_St)
    (H : (((σ.1 4 1) ≤ (σ.1 4 7)) → po () σ) ∧ (¬ ((σ.1 4 1) ≤ (σ.1 4 7)) → ∃ g3 : gtX4_isLetter, qrX4_isLetter g3 (σ.1 4 7) σ ∧ ∀ (r1 : Int32) (σ2 : px_St), qoX4_isLetter g3 (σ.1 4 7) σ r1 σ2 → ((r1 = 0) → po () σ2) ∧ (¬ (r1 = 0) → G 97 [some (.ref 4)] [] (px_up σ2 4 7 ((σ2.1 4 7) + (1 : Int32)))))) :
    G 97 [some (.ref 4)] [] σ := by
  refine hG.1 48 _ _ rfl _ _ _ ?_
  refine hG.1 49 _ _ rfl _ _ _ ?_
  refine ⟨⟨rfl, by decide⟩, ?_⟩
  refine hG.1 50 _ _ rfl _ _ _ ?_
  refine hG.1 51 _ _ rfl _ _ _ ?_
  refine ⟨⟨rfl, by decide⟩, ?_⟩
  refine hG.1 52 _ _ rfl _ _ _ ?_
  refine ⟨fun h6 => ?_, fun h6 => ?_⟩
  · replace H := H.1 h6
    refine hG.1 93 _ _ rfl _ _ _ ?_
    exact H
  · replace H := H.2 h6
    refine hG.1 53 _ _ rfl _ _ _ ?_
    refine hG.1 54 _ _ rfl _ _ _ ?_
    refine hG.1 55 _ _ rfl _ _ _ ?_
    refine ⟨⟨rfl, by decide⟩, ?_⟩
    refine hG.1 56 _ _ rfl _ _ _ ?_
    obtain ⟨g3, H⟩ := H
    refine ⟨⟨rfl, by decide⟩, Nat.le_of_ble_eq_true rfl, g3, ⟨_, rfl, H.1⟩, fun r1 σ2 hp4 => ?_⟩
    replace H := H.2 r1 σ2 hp4
    refine hG.1 57 _ _ rfl _ _ _ ?_
    refine ⟨fun h5 => ?_, fun h5 => ?_⟩
    · replace H := H.1 h5
      refine hG.1 93 _ _ rfl _ _ _ ?_
      exact H
    · replace H := H.2 h5
      refine hG.1 58 _ _ rfl _ _ _ ?_
      refine hG.1 59 _ _ rfl _ _ _ ?_
      refine hG.1 60 _ _ rfl _ _ _ ?_
      refine ⟨⟨rfl, by decide⟩, ?_⟩
      refine hG.1 61 _ _ rfl _ _ _ ?_
      refine hG.1 62 _ _ rfl _ _ _ ?_
      refine hG.1 63 _ _ rfl _ _ _ ?_
      refine ⟨⟨rfl, by decide⟩, ⟨rfl, rfl⟩, ?_⟩
      refine hG.1 64 _ _ rfl _ _ _ ?_
      exact H
set_option maxRecDepth 100000 in
set_option maxHeartbeats 4000000 in
theorem hhX4_nextToken (g : gtX4_nextToken) (σ : px_St) (h : qrX4_nextToken g σ) (G : px_K) (hG : px_cl (opX4_nextToken (qoX4_nextToken g σ)) G) : G 0 (px_ent 1 [.ref 4]) [] σ := by
  obtain ⟨T, p⟩ := g
  obtain ⟨hb, hT, hp⟩ := h
  have hl := hT.1
  refine sgX4_nextToken_0 hG σ ⟨fun z => ?_, fun z => ⟨fun _ => rfl, fun q => absurd q z, fr4.rf⟩⟩
  obtain ⟨hpl, h7⟩ := hp z
  have c0 : ∀ σ', fr4 σ σ' → nxC σ' (pt_next T p) → qoX4_nextToken (T, p) σ () σ' := fun σ' h1 h2 => ⟨fun q => absurd z q, fun _ => h2, h1⟩
  have lett : ∀ f, f = pt_go is_s T p → f < T.length → is_l (ch T f) = true → ∀ m t, t + m = T.length → f ≤ t → pt_go is_l T f = pt_go is_l T t → ∀ σ', fr4 σ σ' → σ'.1 4 4 = 0 → σ'.1 4 5 = 1 → σ'.1 4 6 = nI f → σ'.1 4 7 = nI t → G 97 [some (.ref 4)] [] σ' := by
    intro f hf hfl hll
    have fin : ∀ t σ', t = pt_go is_l T f → fr4 σ σ' → σ'.1 4 4 = 0 → σ'.1 4 5 = 1 → σ'.1 4 6 = nI f → σ'.1 4 7 = nI t → qoX4_nextToken (T, p) σ () σ' := by
      intro t σ' ht ho e4 e5 e6 e7
      refine c0 σ' ho ?_
      unfold pt_next pt_cl
      rw [← hf, if_neg (by omega), if_pos hll]
      exact ⟨e4, by rw [e5]; rfl, e6, by rw [e7, ht], fun q => absurd q (show ¬ (1 : Nat) = 2 by omega)⟩
    intro m
    induction m with
    | zero =>
      intro t ht hft he σ' ho e4 e5 e6 e7
      have hb' := hb.kept ho
      refine sgX4_nextToken_97 hG σ' ⟨fun _ => fin t σ' (by rw [he, pt_go_z (by omega)]) ho e4 e5 e6 e7, fun q => absurd ?_ q⟩
      rw [hb'.2.1, e7]
      exact nI_le (by omega) (by omega)
    | succ m ih =>
      intro t ht hft he σ' ho e4 e5 e6 e7
      have hb' := hb.kept ho
      refine sgX4_nextToken_97 hG σ' ⟨fun q => ?_, fun _ => ⟨(T, t), ⟨hb', hT, by omega, e7⟩, fun r σ2 h2 => ?_⟩⟩
      · exfalso
        rw [hb'.2.1, e7] at q
        exact nI_ge (by omega) (by omega) q
      · obtain ⟨rfl, b2⟩ := h2
        refine bz2 b2 (fun y => ?_) (fun y => fin t σ2 (by rw [he, pt_go_e (by omega) y]) ho e4 e5 e6 e7)
        refine ih (t + 1) (by omega) (by omega) (by rw [he, pt_go_s (by omega) y]) _ (ho.tr (fr4.up (by omega))) ?_ ?_ ?_ ?_
        · rw [up4n (by omega)]; exact e4
        · rw [up4n (by omega)]; exact e5
        · rw [up4n (by omega)]; exact e6
        · rw [up4s, e7]; exact nI_1 _
  have tail : ∀ f σ', f = pt_go is_s T p → f ≤ T.length → fr4 σ σ' → σ'.1 4 4 = 0 → σ'.1 4 6 = nI f → G 54 [some (.ref 4)] [] σ' := by
    intro f σ' hf hfl ho e4 e6
    refine sgX4_nextToken_54 hG σ' ?_
    have ho1 : fr4 σ (px_up σ' 4 7 (σ'.1 4 6)) := ho.tr (fr4.up (by omega))
    have hb1 := hb.kept ho1
    rw [e6] at ho1 hb1 ⊢
    have e61 : (px_up σ' 4 7 (nI f)).1 4 6 = nI f := by rw [up4n (by omega)]; exact e6
    have e41 : (px_up σ' 4 7 (nI f)).1 4 4 = 0 := by rw [up4n (by omega)]; exact e4
    have e71 : (px_up σ' 4 7 (nI f)).1 4 7 = nI f := up4s
    rw [e61, hb1.2.1]
    have c1 : nI f < nI T.length ↔ f < T.length := nIlt _ _ rfl rfl (by omega) (by omega)
    rw [c1]
    refine ⟨fun h1 => ⟨(T, f), ⟨hb1, hT, h1, rfl⟩, fun r σ2 h2 => ?_⟩, fun h1 => ?_⟩
    · obtain ⟨rfl, b2⟩ := h2
      refine bz2 b2 (fun y => ?_) (fun y => ⟨(T, f), ⟨hb1, hT, h1, e61⟩, fun r3 σ3 h3 => ?_⟩)
      · refine lett f hf h1 y (T.length - f) f (by omega) (Nat.le_refl _) rfl _ (ho1.tr (fr4.up (by omega))) ?_ ?_ ?_ ?_
        · rw [up4n (by omega)]; exact e41
        · exact up4s
        · rw [up4n (by omega)]; exact e61
        · rw [up4n (by omega)]; exact e71
      · obtain ⟨rfl, b3⟩ := h3
        refine bz2 b3 (fun x => ⟨(T, f), ⟨hb1, hT, by omega, e61, e71, e41⟩, fun _ σ4 h4 => ?_⟩) (fun x => ⟨hb1.1, ?_, fun w => ?_, fun w => ?_⟩)
        · obtain ⟨o4, f5, f6, f7, f8, f9⟩ := h4
          refine c0 σ4 (ho1.tr o4) ?_
          unfold pt_next pt_cl
          rw [← hf, if_neg (by omega), if_neg y, if_pos x]
          by_cases h2 : pt_go is_f T f - f ≤ 2
          · rw [if_pos h2]
            exact ⟨(f8 h2).1, by rw [f5]; rfl, f6, f7, fun _ => (f8 h2).2⟩
          · rw [if_neg h2]
            exact ⟨f9 h2, f6⟩
        · rw [e61]; exact vp_in_nI (by omega) (by decide)
        · rw [e61, nI_clamp (by omega), hb1.2.2 f h1] at w
          have hc := ch_le hT f
          have c2 : nI (ch T f) = 59 ↔ ch T f = 59 := nIe _ 59 rfl rfl (by omega) (by omega)
          rw [c2] at w
          refine c0 _ (ho1.tr (fr4.up (by omega))) ?_
          unfold pt_next pt_cl
          rw [← hf, if_neg (by omega), if_neg y, if_neg x, if_neg w]
          exact ⟨up4s, by rw [up4n (by omega)]; exact e61⟩
        · rw [e61, nI_clamp (by omega), hb1.2.2 f h1] at w
          have hc := ch_le hT f
          have c2 : nI (ch T f) = 59 ↔ ch T f = 59 := nIe _ 59 rfl rfl (by omega) (by omega)
          rw [c2] at w
          refine c0 _ ((ho1.tr (fr4.up (by omega))).tr (fr4.up (by omega))) ?_
          unfold pt_next pt_cl
          rw [← hf, if_neg (by omega), if_neg y, if_neg x, if_pos (Classical.byContradiction w)]
          refine ⟨?_, ?_, ?_, ?_, fun q => absurd q (show ¬ (3 : Nat) = 2 by omega)⟩
          · rw [up4n (by omega), up4n (by omega)]; exact e41
          · rw [up4n (by omega), up4s]; rfl
          · rw [up4n (by omega), up4n (by omega)]; exact e61
          · rw [up4s, up4n (by omega), e71]; exact nI_1 _
    · refine c0 _ (ho1.tr (fr4.up (by omega))) ?_
      unfold pt_next pt_cl
      rw [← hf, if_pos (by omega)]
      refine ⟨?_, ?_, ?_, ?_, fun q => absurd q (show ¬ (0 : Nat) = 2 by omega)⟩
      · rw [up4n (by omega)]; exact e41
      · rw [up4s]; rfl
      · rw [up4n (by omega)]; exact e61
      · rw [up4n (by omega)]; exact e71
  have loop : ∀ m f, f + m = T.length → pt_go is_s T p = pt_go is_s T f → ∀ σ', fr4 σ σ' → σ'.1 4 4 = 0 → σ'.1 4 6 = nI f → G 16 [some (.ref 4)] [] σ' := by
    intro m
    induction m with
    | zero =>
      intro f hf he σ' ho e4 e6
      have hb' := hb.kept ho
      refine sgX4_nextToken_16 hG σ' ⟨fun _ => tail f σ' (by rw [he, pt_go_z (by omega)]) (by omega) ho e4 e6, fun q => absurd ?_ q⟩
      rw [hb'.2.1, e6]
      exact nI_le (by omega) (by omega)
    | succ m ih =>
      intro f hf he σ' ho e4 e6
      have hb' := hb.kept ho
      have hc := ch_le hT f
      refine sgX4_nextToken_16 hG σ' ⟨fun q => ?_, fun _ => ⟨hb'.1, ?_, fun w => ?_, fun w => ?_⟩⟩
      · exfalso
        rw [hb'.2.1, e6] at q
        exact nI_ge (by omega) (by omega) q
      · rw [e6]; exact vp_in_nI (by omega) (by decide)
      · rw [e6, nI_clamp (by omega), hb'.2.2 f (by omega)] at w
        have c2 : nI (ch T f) = 32 ↔ ch T f = 32 := nIe _ 32 rfl rfl (by omega) (by omega)
        rw [c2] at w
        exact tail f σ' (by rw [he, pt_go_e (by omega) (fun q => w (is_s_iff.mp q))]) (by omega) ho e4 e6
      · rw [e6, nI_clamp (by omega), hb'.2.2 f (by omega)] at w
        have c2 : nI (ch T f) = 32 ↔ ch T f = 32 := nIe _ 32 rfl rfl (by omega) (by omega)
        rw [c2] at w
        refine ih (f + 1) (by omega) (by rw [he, pt_go_s (by omega) (is_s_iff.mpr (Classical.byContradiction w))]) _ (ho.tr (fr4.up (by omega))) ?_ ?_
        · rw [up4n (by omega)]; exact e4
        · rw [up4s, e6]; exact nI_1 _
  exact loop (T.length - p) p (by omega) rfl _ (fr4.up (by omega)) (by rw [up4n (by omega)]; exact z) (by rw [up4s]; exact h7)
theorem mX4_nextToken (g : gtX4_nextToken) : px_Met dC yX4_nextToken (Cond.code yX4_nextToken cX4_nextToken 1 none :: wdC) rmX4_nextToken px_vV (prX4_nextToken g) (poX4_nextToken g) :=
  px_met (Z := (cX4_nextToken, 1, RX4, Cond.code yX4_nextToken cX4_nextToken 1 none :: wdC, none, rmX4_nextToken, dC)) opX4_nextToken (by decide) rfl rfl okX4_nextToken (fun As σ h => by obtain ⟨rfl, h⟩ := h; exact Nat.le_of_ble_eq_true rfl) (fun As σ h G hG => by obtain ⟨rfl, h⟩ := h; exact hhX4_nextToken g σ h G hG)
theorem sn_w : ∀ i, i < 5 → snL.getD i 0 = (pt_w i).length ∧ (pt_w i).length ≤ 5 ∧ ∀ j, j < (pt_w i).length → (snB.getD i []).getD j 0 = nI ((pt_w i).getD j 0) ∧ (pt_w i).getD j 0 < 200 := by decide +kernel
abbrev gtX4_isNamed : Type := List Nat × Nat × Nat
def qrX4_isNamed : gtX4_isNamed → Nat → px_St → Prop
  | (T, f, t), _, σ => rb σ T ∧ tx_ok T ∧ σ.1 4 6 = nI f ∧ σ.1 4 7 = nI t ∧ f ≤ t ∧ t ≤ T.length
def qoX4_isNamed : gtX4_isNamed → Nat → px_St → Int32 → px_St → Prop
  | (T, f, t), v, σ, r, σ' => σ' = σ ∧ px_b (pt_nm T f t (v - 100)) r
def prX4_isNamed (g : gtX4_isNamed) : List Value → px_St → Prop := fun As σ => ∃ v1 : Nat, As = [.ref 4, .ref v1] ∧ px_st v1 ∧ qrX4_isNamed g v1 σ
def poX4_isNamed (g : gtX4_isNamed) : List Value → px_St → Int32 → px_St → Prop
  | [.ref _, .ref v1], σ, r, σ' => qoX4_isNamed g v1 σ r σ'
  | _, _, _, _ => False
theorem dX4_isNamed_0 : decode cX4_isNamed 0 = .ok (.aload_n 0, 1) := by decide +kernel
theorem dX4_isNamed_1 : decode cX4_isNamed 1 = .ok (.getfield 42, 3) := by decide +kernel
theorem dX4_isNamed_4 : decode cX4_isNamed 4 = .ok (.aload_n 0, 1) := by decide +kernel
theorem dX4_isNamed_5 : decode cX4_isNamed 5 = .ok (.getfield 100, 3) := by decide +kernel
theorem dX4_isNamed_8 : decode cX4_isNamed 8 = .ok (.isub, 1) := by decide +kernel
theorem dX4_isNamed_9 : decode cX4_isNamed 9 = .ok (.aload_n 1, 1) := by decide +kernel
theorem dX4_isNamed_10 : decode cX4_isNamed 10 = .ok (.invokevirtual 125, 3) := by decide +kernel
theorem dX4_isNamed_13 : decode cX4_isNamed 13 = .ok (.if_icmp .eq 5, 3) := by decide +kernel
theorem dX4_isNamed_16 : decode cX4_isNamed 16 = .ok (.iconst 0, 1) := by decide +kernel
theorem dX4_isNamed_17 : decode cX4_isNamed 17 = .ok (.ireturn, 1) := by decide +kernel
theorem dX4_isNamed_18 : decode cX4_isNamed 18 = .ok (.iconst 0, 1) := by decide +kernel
theorem dX4_isNamed_19 : decode cX4_isNamed 19 = .ok (.istore_n 2, 1) := by decide +kernel
theorem dX4_isNamed_20 : decode cX4_isNamed 20 = .ok (.iload_n 2, 1) := by decide +kernel
theorem dX4_isNamed_21 : decode cX4_isNamed 21 = .ok (.aload_n 1, 1) := by decide +kernel
theorem dX4_isNamed_22 : decode cX4_isNamed 22 = .ok (.invokevirtual 125, 3) := by decide +kernel
theorem dX4_isNamed_25 : decode cX4_isNamed 25 = .ok (.if_icmp .ge 30, 3) := by decide +kernel
theorem dX4_isNamed_28 : decode cX4_isNamed 28 = .ok (.aload_n 0, 1) := by decide +kernel
theorem dX4_isNamed_29 : decode cX4_isNamed 29 = .ok (.getfield 9, 3) := by decide +kernel
theorem dX4_isNamed_32 : decode cX4_isNamed 32 = .ok (.aload_n 0, 1) := by decide +kernel
theorem dX4_isNamed_33 : decode cX4_isNamed 33 = .ok (.getfield 100, 3) := by decide +kernel
theorem dX4_isNamed_36 : decode cX4_isNamed 36 = .ok (.iload_n 2, 1) := by decide +kernel
theorem dX4_isNamed_37 : decode cX4_isNamed 37 = .ok (.iadd, 1) := by decide +kernel
theorem dX4_isNamed_38 : decode cX4_isNamed 38 = .ok (.baload, 1) := by decide +kernel
theorem dX4_isNamed_39 : decode cX4_isNamed 39 = .ok (.aload_n 1, 1) := by decide +kernel
theorem dX4_isNamed_40 : decode cX4_isNamed 40 = .ok (.iload_n 2, 1) := by decide +kernel
theorem dX4_isNamed_41 : decode cX4_isNamed 41 = .ok (.invokevirtual 129, 3) := by decide +kernel
theorem dX4_isNamed_44 : decode cX4_isNamed 44 = .ok (.if_icmp .eq 5, 3) := by decide +kernel
theorem dX4_isNamed_47 : decode cX4_isNamed 47 = .ok (.iconst 0, 1) := by decide +kernel
theorem dX4_isNamed_48 : decode cX4_isNamed 48 = .ok (.ireturn, 1) := by decide +kernel
theorem dX4_isNamed_49 : decode cX4_isNamed 49 = .ok (.iinc 2 1, 3) := by decide +kernel
theorem dX4_isNamed_52 : decode cX4_isNamed 52 = .ok (.goto (-32), 3) := by decide +kernel
theorem dX4_isNamed_55 : decode cX4_isNamed 55 = .ok (.iconst 1, 1) := by decide +kernel
theorem dX4_isNamed_56 : decode cX4_isNamed 56 = .ok (.ireturn, 1) := by decide +kernel
abbrev rmX4_isNamed : Room := { frames := 4, cells := 0, slots := 0, locals := 85 }
def opX4_isNamed (po : Int32 → px_St → Prop) : List (Nat × px_Op) := [
  (0, px_al 1 0),
  (1, px_get dC 4 4 7),
  (4, px_al 5 0),
  (5, px_get dC 8 4 6),
  (8, px_bin 9 (fun x y => x - y)),
  (9, px_al 10 1),
  (10, px_callVs 13 0 px_vI prJ0_length_8abf5 poJ0_length_8abf5),
  (13, px_ic 16 18 (fun x y => x = y)),
  (16, px_push 17 (.int 0)),
  (17, px_iret (.boolean) po),
  (18, px_push 19 (.int 0)),
  (19, px_is 20 2),
  (20, px_il 21 2),
  (21, px_al 22 1),
  (22, px_callVs 25 0 px_vI prJ0_length_8abf5 poJ0_length_8abf5),
  (25, px_ic 28 55 (fun x y => y ≤ x)),
  (28, px_al 29 0),
  (29, px_get dC 32 4 0),
  (32, px_al 33 0),
  (33, px_get dC 36 4 6),
  (36, px_il 37 2),
  (37, px_bin 38 (fun x y => x + y)),
  (38, px_ald dC 39 1),
  (39, px_al 40 1),
  (40, px_il 41 2),
  (41, px_callVs 44 1 px_vI prJ0_charAt_5068e poJ0_charAt_5068e),
  (44, px_ic 47 49 (fun x y => x = y)),
  (47, px_push 48 (.int 0)),
  (48, px_iret (.boolean) po),
  (49, px_inc 52 2 1),
  (52, px_go 20),
  (55, px_push 56 (.int 1)),
  (56, px_iret (.boolean) po)]
set_option maxRecDepth 100000 in
set_option maxHeartbeats 4000000 in
theorem okX4_isNamed : ∀ (po : Int32 → px_St → Prop) (i pc : Nat) (op : px_Op), (opX4_isNamed po)[i]? = some (pc, op) → px_Snd (cX4_isNamed, 3, RX4, Cond.code yX4_isNamed cX4_isNamed 3 (some .boolean) :: wdC, (some .boolean), rmX4_isNamed, dC) px_vI po pc op := by
  intro po
  unfold opX4_isNamed
  refine px_ok_cons (ps_aload_n dX4_isNamed_0 rfl) ?_
  refine px_ok_cons (fgX4_42 dX4_isNamed_1) ?_
  refine px_ok_cons (ps_aload_n dX4_isNamed_4 rfl) ?_
  refine px_ok_cons (fgX4_100 dX4_isNamed_5) ?_
  refine px_ok_cons (ps_isub dX4_isNamed_8) ?_
  refine px_ok_cons (ps_aload_n dX4_isNamed_9 rfl) ?_
  refine px_ok_cons (ps_callVs mJ0_length_8abf5 (fun _ _ => rfl) (fun _ _ ht => px_cwV wgC (wdC_4_in _ (List.mem_of_getElem? (i := 6) rfl)) (wdC_4_in _ (List.mem_of_getElem? (i := 7) rfl)) (wdC_4_in _ (List.mem_of_getElem? (i := 8) rfl)) (wdC_3_in _ (List.mem_of_getElem? (i := 11) rfl)) (wdC_3_in _ (List.mem_of_getElem? (i := 6) rfl)) (by decide +kernel) rfl rfl (by decide) ht) dX4_isNamed_10) ?_
  refine px_ok_cons (ps_icmp_eq dX4_isNamed_13 (by decide)) ?_
  refine px_ok_cons (ps_iconst dX4_isNamed_16 (by decide)) ?_
  refine px_ok_cons (ps_ireturn rfl dX4_isNamed_17) ?_
  refine px_ok_cons (ps_iconst dX4_isNamed_18 (by decide)) ?_
  refine px_ok_cons (ps_istore_n dX4_isNamed_19 rfl (by decide)) ?_
  refine px_ok_cons (ps_iload_n dX4_isNamed_20 rfl) ?_
  refine px_ok_cons (ps_aload_n dX4_isNamed_21 rfl) ?_
  refine px_ok_cons (ps_callVs mJ0_length_8abf5 (fun _ _ => rfl) (fun _ _ ht => px_cwV wgC (wdC_4_in _ (List.mem_of_getElem? (i := 6) rfl)) (wdC_4_in _ (List.mem_of_getElem? (i := 7) rfl)) (wdC_4_in _ (List.mem_of_getElem? (i := 8) rfl)) (wdC_3_in _ (List.mem_of_getElem? (i := 11) rfl)) (wdC_3_in _ (List.mem_of_getElem? (i := 6) rfl)) (by decide +kernel) rfl rfl (by decide) ht) dX4_isNamed_22) ?_
  refine px_ok_cons (ps_icmp_ge dX4_isNamed_25 (by decide)) ?_
  refine px_ok_cons (ps_aload_n dX4_isNamed_28 rfl) ?_
  refine px_ok_cons (fgX4_9 dX4_isNamed_29) ?_
  refine px_ok_cons (ps_aload_n dX4_isNamed_32 rfl) ?_
  refine px_ok_cons (fgX4_100 dX4_isNamed_33) ?_
  refine px_ok_cons (ps_iload_n dX4_isNamed_36 rfl) ?_
  refine px_ok_cons (ps_iadd dX4_isNamed_37) ?_
  refine px_ok_cons (ps_baload dX4_isNamed_38) ?_
  refine px_ok_cons (ps_aload_n dX4_isNamed_39 rfl) ?_
  refine px_ok_cons (ps_iload_n dX4_isNamed_40 rfl) ?_
  refine px_ok_cons (ps_callVs mJ0_charAt_5068e (fun _ _ => rfl) (fun _ _ ht => px_cwV wgC (wdC_4_in _ (List.mem_of_getElem? (i := 9) rfl)) (wdC_4_in _ (List.mem_of_getElem? (i := 10) rfl)) (wdC_4_in _ (List.mem_of_getElem? (i := 11) rfl)) (wdC_3_in _ (List.mem_of_getElem? (i := 11) rfl)) (wdC_4_in _ (List.mem_of_getElem? (i := 5) rfl)) (by decide +kernel) rfl rfl (by decide) ht) dX4_isNamed_41) ?_
  refine px_ok_cons (ps_icmp_eq dX4_isNamed_44 (by decide)) ?_
  refine px_ok_cons (ps_iconst dX4_isNamed_47 (by decide)) ?_
  refine px_ok_cons (ps_ireturn rfl dX4_isNamed_48) ?_
  refine px_ok_cons (ps_iinc dX4_isNamed_49 (by decide) (by decide)) ?_
  refine px_ok_cons (ps_goto dX4_isNamed_52 (by decide)) ?_
  refine px_ok_cons (ps_iconst dX4_isNamed_55 (by decide)) ?_
  refine px_ok_cons (ps_ireturn rfl dX4_isNamed_56) ?_
  exact px_ok_nil
set_option maxRecDepth 100000 in
set_option maxHeartbeats 4000000 in
theorem sgX4_isNamed_0 {po : Int32 → px_St → Prop} {G : px_K} (hG : px_cl (opX4_isNamed po) G) (v1 : Nat) (hv1 : px_st v1) (σ : px_St)
    (H : ∃ g3 : gtJ0_length_8abf5, qrJ0_length_8abf5 g3 v1 σ ∧ ∀ (r1 : Int32) (σ2 : px_St), qoJ0_length_8abf5 g3 v1 σ r1 σ2 → ((((σ.1 4 7) - (σ.1 4 6)) = r1) → G 20 [some (.ref 4), some (.ref v1), some (.int (0 : Int32))] [] σ2) ∧ (¬ (((σ.1 4 7) - (σ.1 4 6)) = r1) → po (0 : Int32) σ2)) :
    G 0 (px_ent 3 [.ref 4, .ref v1]) [] σ := by
  refine hG.1 0 _ _ rfl _ _ _ ?_
  refine hG.1 1 _ _ rfl _ _ _ ?_
  refine ⟨⟨rfl, by decide⟩, ?_⟩
  refine hG.1 2 _ _ rfl _ _ _ ?_
  refine hG.1 3 _ _ rfl _ _ _ ?_
  refine ⟨⟨rfl, by decide⟩, ?_⟩
  refine hG.1 4 _ _ rfl _ _ _ ?_
  refine hG.1 5 _ _ rfl _ _ _ ?_
  refine hG.1 6 _ _ rfl _ _ _ ?_
  obtain ⟨g3, H⟩ := H
  refine ⟨hv1, Nat.le_of_ble_eq_true rfl, g3, ⟨_, rfl, hv1, H.1⟩, fun r1 σ2 hp4 => ?_⟩
  replace H := H.2 r1 σ2 hp4
  refine hG.1 7 _ _ rfl _ _ _ ?_
  refine ⟨fun h5 => ?_, fun h5 => ?_⟩
  · replace H := H.1 h5
    refine hG.1 10 _ _ rfl _ _ _ ?_
    refine hG.1 11 _ _ rfl _ _ _ ?_
    show G 20 [some (.ref 4), some (.ref v1), some (.int (0 : Int32))] [] σ2
    exact H
  · replace H := H.2 h5
    refine hG.1 8 _ _ rfl _ _ _ ?_
    refine hG.1 9 _ _ rfl _ _ _ ?_
    exact ⟨rfl, H⟩
set_option maxRecDepth 100000 in
set_option maxHeartbeats 4000000 in
theorem sgX4_isNamed_20 {po : Int32 → px_St → Prop} {G : px_K} (hG : px_cl (opX4_isNamed po) G) (v1 : Nat) (hv1 : px_st v1) (v2 : Int32) (σ : px_St)
    (H : ∃ g3 : gtJ0_length_8abf5, qrJ0_length_8abf5 g3 v1 σ ∧ ∀ (r1 : Int32) (σ2 : px_St), qoJ0_length_8abf5 g3 v1 σ r1 σ2 → ((r1 ≤ v2) → po (1 : Int32) σ2) ∧ (¬ (r1 ≤ v2) → (σ2.1 4 0).toNatClampNeg = 3 ∧ vp_in ((σ2.1 4 6) + v2) 160 ∧ ∃ g8 : gtJ0_charAt_5068e, qrJ0_charAt_5068e g8 v1 v2 σ2 ∧ ∀ (r6 : Int32) (σ7 : px_St), qoJ0_charAt_5068e g8 v1 v2 σ2 r6 σ7 → (((σ2.1 3 ((σ2.1 4 6) + v2).toNatClampNeg) = r6) → G 20 [some (.ref 4), some (.ref v1), some (.int (v2 + 1))] [] σ7) ∧ (¬ ((σ2.1 3 ((σ2.1 4 6) + v2).toNatClampNeg) = r6) → po (0 : Int32) σ7))) :
    G 20 [some (.ref 4), some (.ref v1), some (.int v2)] [] σ := by
  refine hG.1 12 _ _ rfl _ _ _ ?_
  refine hG.1 13 _ _ rfl _ _ _ ?_
  refine hG.1 14 _ _ rfl _ _ _ ?_
  obtain ⟨g3, H⟩ := H
  refine ⟨hv1, Nat.le_of_ble_eq_true rfl, g3, ⟨_, rfl, hv1, H.1⟩, fun r1 σ2 hp4 => ?_⟩
  replace H := H.2 r1 σ2 hp4
  refine hG.1 15 _ _ rfl _ _ _ ?_
  refine ⟨fun h11 => ?_, fun h11 => ?_⟩
  · replace H := H.1 h11
    refine hG.1 31 _ _ rfl _ _ _ ?_
    refine hG.1 32 _ _ rfl _ _ _ ?_
    exact ⟨rfl, H⟩
  · replace H := H.2 h11
    refine hG.1 16 _ _ rfl _ _ _ ?_
    refine hG.1 17 _ _ rfl _ _ _ ?_
    refine ⟨⟨rfl, by decide⟩, ?_⟩
    obtain ⟨hz5, H⟩ := H
    show G 32 [some (.ref 4), some (.ref v1), some (.int v2)] [(.ref (σ2.1 4 0).toNatClampNeg)] σ2
    rw [hz5]
    refine hG.1 18 _ _ rfl _ _ _ ?_
    refine hG.1 19 _ _ rfl _ _ _ ?_
    refine ⟨⟨rfl, by decide⟩, ?_⟩
    refine hG.1 20 _ _ rfl _ _ _ ?_
    refine hG.1 21 _ _ rfl _ _ _ ?_
    refine hG.1 22 _ _ rfl _ _ _ ?_
    refine ⟨⟨rfl, by decide⟩, H.1, ?_⟩
    replace H := H.2
    refine hG.1 23 _ _ rfl _ _ _ ?_
    refine hG.1 24 _ _ rfl _ _ _ ?_
    refine hG.1 25 _ _ rfl _ _ _ ?_
    obtain ⟨g8, H⟩ := H
    refine ⟨hv1, Nat.le_of_ble_eq_true rfl, g8, ⟨_, _, rfl, hv1, H.1⟩, fun r6 σ7 hp9 => ?_⟩
    replace H := H.2 r6 σ7 hp9
    refine hG.1 26 _ _ rfl _ _ _ ?_
    refine ⟨fun h10 => ?_, fun h10 => ?_⟩
    · replace H := H.1 h10
      refine hG.1 29 _ _ rfl _ _ _ ?_
      show G 52 [some (.ref 4), some (.ref v1), some (.int (v2 + 1))] [] σ7
      refine hG.1 30 _ _ rfl _ _ _ ?_
      exact H
    · replace H := H.2 h10
      refine hG.1 27 _ _ rfl _ _ _ ?_
      refine hG.1 28 _ _ rfl _ _ _ ?_
      exact ⟨rfl, H⟩
set_option maxRecDepth 100000 in
set_option maxHeartbeats 4000000 in
theorem hhX4_isNamed (g : gtX4_isNamed) (v1 : Nat) (hv1 : px_st v1) (σ : px_St) (h : qrX4_isNamed g v1 σ) (G : px_K) (hG : px_cl (opX4_isNamed (qoX4_isNamed g v1 σ)) G) : G 0 (px_ent 3 [.ref 4, .ref v1]) [] σ := by
  obtain ⟨T, f, t⟩ := g
  obtain ⟨hb, hT, h6, h7, hft, htl⟩ := h
  have hl := hT.1
  obtain ⟨i, hi, hvi⟩ : ∃ i, i < 5 ∧ v1 = 100 + i := ⟨v1 - 100, by have := hv1.2; omega, by have := hv1.1; omega⟩
  have ei : v1 - 100 = i := by omega
  obtain ⟨w1, w2, w3⟩ := sn_w i hi
  refine sgX4_isNamed_0 hG v1 hv1 σ ⟨(), trivial, fun r σ1 h1 => ?_⟩
  obtain ⟨rfl, rfl⟩ := h1
  rw [h7, h6, pk_sub hft, ei, w1]
  have c1 : nI (t - f) = nI (pt_w i).length ↔ t - f = (pt_w i).length := nI_eq (by omega) (by omega)
  rw [c1]
  refine ⟨fun hlen => ?_, fun hlen => ⟨rfl, Or.inr ⟨fun q => hlen (by rw [ei] at q; exact q.1), rfl⟩⟩⟩
  have loop : ∀ m k, k + m = (pt_w i).length → (∀ j, j < k → ch T (f + j) = (pt_w i).getD j 0) → G 20 [some (.ref 4), some (.ref v1), some (.int (nI k))] [] σ1 := by
    intro m
    induction m with
    | zero =>
      intro k hk hall
      refine sgX4_isNamed_20 hG v1 hv1 _ σ1 ⟨(), trivial, fun r2 σ2 h2 => ?_⟩
      obtain ⟨rfl, rfl⟩ := h2
      rw [ei, w1]
      refine ⟨fun _ => ⟨rfl, Or.inl ⟨?_, rfl⟩⟩, fun q => absurd (nI_le (by omega) (by omega)) q⟩
      rw [ei]
      exact ⟨hlen, fun j hj => hall j (by omega)⟩
    | succ m ih =>
      intro k hk hall
      have hc := ch_le hT (f + k)
      obtain ⟨w4, w5⟩ := w3 k (by omega)
      refine sgX4_isNamed_20 hG v1 hv1 _ σ1 ⟨(), trivial, fun r2 σ2 h2 => ?_⟩
      obtain ⟨rfl, rfl⟩ := h2
      rw [ei, w1, h6, nI_add]
      refine ⟨fun q => absurd q (nI_ge (by omega) (by omega)), fun _ => ⟨hb.1, vp_in_nI (by omega) (by decide), k, ⟨rfl, by rw [ei, w1]; omega⟩, fun r3 σ3 h3 => ?_⟩⟩
      obtain ⟨rfl, rfl⟩ := h3
      rw [nI_clamp (by omega), hb.2.2 (f + k) (by omega), ei, w4, nI_1]
      have c2 : nI (ch T (f + k)) = nI ((pt_w i).getD k 0) ↔ ch T (f + k) = (pt_w i).getD k 0 := nI_eq (by omega) (by omega)
      rw [c2]
      refine ⟨fun q => ih (k + 1) (by omega) (fun j hj => ?_), fun q => ⟨rfl, Or.inr ⟨fun w => q ?_, rfl⟩⟩⟩
      · by_cases hjk : j = k
        · rw [hjk]; exact q
        · exact hall j (by omega)
      · rw [ei] at w
        exact w.2 k (by omega)
  exact loop _ 0 (Nat.zero_add _) (fun j hj => absurd hj (Nat.not_lt_zero j))
theorem mX4_isNamed (g : gtX4_isNamed) : px_Met dC yX4_isNamed (Cond.code yX4_isNamed cX4_isNamed 3 (some .boolean) :: wdC) rmX4_isNamed px_vI (prX4_isNamed g) (poX4_isNamed g) :=
  px_met (Z := (cX4_isNamed, 3, RX4, Cond.code yX4_isNamed cX4_isNamed 3 (some .boolean) :: wdC, (some .boolean), rmX4_isNamed, dC)) opX4_isNamed (by decide) rfl rfl okX4_isNamed (fun As σ h => by obtain ⟨v1, rfl, hv1, h⟩ := h; exact Nat.le_of_ble_eq_true rfl) (fun As σ h G hG => by obtain ⟨v1, rfl, hv1, h⟩ := h; exact hhX4_isNamed g v1 hv1 σ h G hG)
abbrev gtX4_lineNamed : Type := List Nat × Nat × Nat
def qrX4_lineNamed : gtX4_lineNamed → px_St → Prop
  | (T, f, t), σ => rb σ T ∧ tx_ok T ∧ σ.1 4 6 = nI f ∧ σ.1 4 7 = nI t ∧ f ≤ t ∧ t ≤ T.length
def qoX4_lineNamed : gtX4_lineNamed → px_St → Int32 → px_St → Prop
  | (T, f, t), σ, r, σ' => σ' = σ ∧ r = if pt_name T f t = 9 then -1 else nI (pt_name T f t)
def prX4_lineNamed (g : gtX4_lineNamed) : List Value → px_St → Prop := fun As σ => As = [.ref 4] ∧ qrX4_lineNamed g σ
def poX4_lineNamed (g : gtX4_lineNamed) : List Value → px_St → Int32 → px_St → Prop
  | [.ref _], σ, r, σ' => qoX4_lineNamed g σ r σ'
  | _, _, _, _ => False
theorem dX4_lineNamed_0 : decode cX4_lineNamed 0 = .ok (.aload_n 0, 1) := by decide +kernel
theorem dX4_lineNamed_1 : decode cX4_lineNamed 1 = .ok (.ldc 112, 2) := by decide +kernel
theorem dX4_lineNamed_3 : decode cX4_lineNamed 3 = .ok (.invokevirtual 114, 3) := by decide +kernel
theorem dX4_lineNamed_6 : decode cX4_lineNamed 6 = .ok (.ifCond .eq 5, 3) := by decide +kernel
theorem dX4_lineNamed_9 : decode cX4_lineNamed 9 = .ok (.iconst 0, 1) := by decide +kernel
theorem dX4_lineNamed_10 : decode cX4_lineNamed 10 = .ok (.ireturn, 1) := by decide +kernel
theorem dX4_lineNamed_11 : decode cX4_lineNamed 11 = .ok (.aload_n 0, 1) := by decide +kernel
theorem dX4_lineNamed_12 : decode cX4_lineNamed 12 = .ok (.ldc 118, 2) := by decide +kernel
theorem dX4_lineNamed_14 : decode cX4_lineNamed 14 = .ok (.invokevirtual 114, 3) := by decide +kernel
theorem dX4_lineNamed_17 : decode cX4_lineNamed 17 = .ok (.ifCond .eq 5, 3) := by decide +kernel
theorem dX4_lineNamed_20 : decode cX4_lineNamed 20 = .ok (.iconst 1, 1) := by decide +kernel
theorem dX4_lineNamed_21 : decode cX4_lineNamed 21 = .ok (.ireturn, 1) := by decide +kernel
theorem dX4_lineNamed_22 : decode cX4_lineNamed 22 = .ok (.aload_n 0, 1) := by decide +kernel
theorem dX4_lineNamed_23 : decode cX4_lineNamed 23 = .ok (.ldc 120, 2) := by decide +kernel
theorem dX4_lineNamed_25 : decode cX4_lineNamed 25 = .ok (.invokevirtual 114, 3) := by decide +kernel
theorem dX4_lineNamed_28 : decode cX4_lineNamed 28 = .ok (.ifCond .eq 5, 3) := by decide +kernel
theorem dX4_lineNamed_31 : decode cX4_lineNamed 31 = .ok (.iconst 2, 1) := by decide +kernel
theorem dX4_lineNamed_32 : decode cX4_lineNamed 32 = .ok (.ireturn, 1) := by decide +kernel
theorem dX4_lineNamed_33 : decode cX4_lineNamed 33 = .ok (.aload_n 0, 1) := by decide +kernel
theorem dX4_lineNamed_34 : decode cX4_lineNamed 34 = .ok (.ldc 122, 2) := by decide +kernel
theorem dX4_lineNamed_36 : decode cX4_lineNamed 36 = .ok (.invokevirtual 114, 3) := by decide +kernel
theorem dX4_lineNamed_39 : decode cX4_lineNamed 39 = .ok (.ifCond .eq 5, 3) := by decide +kernel
theorem dX4_lineNamed_42 : decode cX4_lineNamed 42 = .ok (.iconst 3, 1) := by decide +kernel
theorem dX4_lineNamed_43 : decode cX4_lineNamed 43 = .ok (.ireturn, 1) := by decide +kernel
theorem dX4_lineNamed_44 : decode cX4_lineNamed 44 = .ok (.aload_n 0, 1) := by decide +kernel
theorem dX4_lineNamed_45 : decode cX4_lineNamed 45 = .ok (.ldc 124, 2) := by decide +kernel
theorem dX4_lineNamed_47 : decode cX4_lineNamed 47 = .ok (.invokevirtual 114, 3) := by decide +kernel
theorem dX4_lineNamed_50 : decode cX4_lineNamed 50 = .ok (.ifCond .eq 7, 3) := by decide +kernel
theorem dX4_lineNamed_53 : decode cX4_lineNamed 53 = .ok (.iconst 4, 1) := by decide +kernel
theorem dX4_lineNamed_54 : decode cX4_lineNamed 54 = .ok (.goto 4, 3) := by decide +kernel
theorem dX4_lineNamed_57 : decode cX4_lineNamed 57 = .ok (.iconst (-1), 1) := by decide +kernel
theorem dX4_lineNamed_58 : decode cX4_lineNamed 58 = .ok (.ireturn, 1) := by decide +kernel
abbrev rmX4_lineNamed : Room := { frames := 5, cells := 0, slots := 0, locals := 107 }
def opX4_lineNamed (po : Int32 → px_St → Prop) : List (Nat × px_Op) := [
  (0, px_al 1 0),
  (1, px_push 3 (.ref 100)),
  (3, px_callV dC 6 4 1 px_vI prX4_isNamed poX4_isNamed),
  (6, px_if 9 11 (fun x => x = 0)),
  (9, px_push 10 (.int 0)),
  (10, px_iret (.int) po),
  (11, px_al 12 0),
  (12, px_push 14 (.ref 101)),
  (14, px_callV dC 17 4 1 px_vI prX4_isNamed poX4_isNamed),
  (17, px_if 20 22 (fun x => x = 0)),
  (20, px_push 21 (.int 1)),
  (21, px_iret (.int) po),
  (22, px_al 23 0),
  (23, px_push 25 (.ref 102)),
  (25, px_callV dC 28 4 1 px_vI prX4_isNamed poX4_isNamed),
  (28, px_if 31 33 (fun x => x = 0)),
  (31, px_push 32 (.int 2)),
  (32, px_iret (.int) po),
  (33, px_al 34 0),
  (34, px_push 36 (.ref 103)),
  (36, px_callV dC 39 4 1 px_vI prX4_isNamed poX4_isNamed),
  (39, px_if 42 44 (fun x => x = 0)),
  (42, px_push 43 (.int 3)),
  (43, px_iret (.int) po),
  (44, px_al 45 0),
  (45, px_push 47 (.ref 104)),
  (47, px_callV dC 50 4 1 px_vI prX4_isNamed poX4_isNamed),
  (50, px_if 53 57 (fun x => x = 0)),
  (53, px_push 54 (.int 4)),
  (54, px_go 58),
  (57, px_push 58 (.int (-1))),
  (58, px_iret (.int) po)]
set_option maxRecDepth 100000 in
set_option maxHeartbeats 4000000 in
theorem okX4_lineNamed : ∀ (po : Int32 → px_St → Prop) (i pc : Nat) (op : px_Op), (opX4_lineNamed po)[i]? = some (pc, op) → px_Snd (cX4_lineNamed, 1, RX4, Cond.code yX4_lineNamed cX4_lineNamed 1 (some .int) :: wdC, (some .int), rmX4_lineNamed, dC) px_vI po pc op := by
  intro po
  unfold opX4_lineNamed
  refine px_ok_cons (ps_aload_n dX4_lineNamed_0 rfl) ?_
  refine px_ok_cons (ps_ldcS (i := 0) (by decide) rfl rfl dX4_lineNamed_1) ?_
  refine px_ok_cons (ps_callV mX4_isNamed (fun _ _ => rfl) (C := RX4) rfl (fun _ _ ht => px_cwV wgC (wdC_4_in _ (List.mem_of_getElem? (i := 13) rfl)) (wdC_4_in _ (List.mem_of_getElem? (i := 14) rfl)) (wdC_4_in _ (List.mem_of_getElem? (i := 15) rfl)) (wdC_2_in _ (List.mem_of_getElem? (i := 35) rfl)) (wdC_4_in _ (List.mem_of_getElem? (i := 12) rfl)) (by decide +kernel) rfl rfl (by decide) ht) dX4_lineNamed_3) ?_
  refine px_ok_cons (ps_if_eq dX4_lineNamed_6 (by decide)) ?_
  refine px_ok_cons (ps_iconst dX4_lineNamed_9 (by decide)) ?_
  refine px_ok_cons (ps_ireturn rfl dX4_lineNamed_10) ?_
  refine px_ok_cons (ps_aload_n dX4_lineNamed_11 rfl) ?_
  refine px_ok_cons (ps_ldcS (i := 1) (by decide) rfl rfl dX4_lineNamed_12) ?_
  refine px_ok_cons (ps_callV mX4_isNamed (fun _ _ => rfl) (C := RX4) rfl (fun _ _ ht => px_cwV wgC (wdC_4_in _ (List.mem_of_getElem? (i := 13) rfl)) (wdC_4_in _ (List.mem_of_getElem? (i := 14) rfl)) (wdC_4_in _ (List.mem_of_getElem? (i := 15) rfl)) (wdC_2_in _ (List.mem_of_getElem? (i := 35) rfl)) (wdC_4_in _ (List.mem_of_getElem? (i := 12) rfl)) (by decide +kernel) rfl rfl (by decide) ht) dX4_lineNamed_14) ?_
  refine px_ok_cons (ps_if_eq dX4_lineNamed_17 (by decide)) ?_
  refine px_ok_cons (ps_iconst dX4_lineNamed_20 (by decide)) ?_
  refine px_ok_cons (ps_ireturn rfl dX4_lineNamed_21) ?_
  refine px_ok_cons (ps_aload_n dX4_lineNamed_22 rfl) ?_
  refine px_ok_cons (ps_ldcS (i := 2) (by decide) rfl rfl dX4_lineNamed_23) ?_
  refine px_ok_cons (ps_callV mX4_isNamed (fun _ _ => rfl) (C := RX4) rfl (fun _ _ ht => px_cwV wgC (wdC_4_in _ (List.mem_of_getElem? (i := 13) rfl)) (wdC_4_in _ (List.mem_of_getElem? (i := 14) rfl)) (wdC_4_in _ (List.mem_of_getElem? (i := 15) rfl)) (wdC_2_in _ (List.mem_of_getElem? (i := 35) rfl)) (wdC_4_in _ (List.mem_of_getElem? (i := 12) rfl)) (by decide +kernel) rfl rfl (by decide) ht) dX4_lineNamed_25) ?_
  refine px_ok_cons (ps_if_eq dX4_lineNamed_28 (by decide)) ?_
  refine px_ok_cons (ps_iconst dX4_lineNamed_31 (by decide)) ?_
  refine px_ok_cons (ps_ireturn rfl dX4_lineNamed_32) ?_
  refine px_ok_cons (ps_aload_n dX4_lineNamed_33 rfl) ?_
  refine px_ok_cons (ps_ldcS (i := 3) (by decide) rfl rfl dX4_lineNamed_34) ?_
  refine px_ok_cons (ps_callV mX4_isNamed (fun _ _ => rfl) (C := RX4) rfl (fun _ _ ht => px_cwV wgC (wdC_4_in _ (List.mem_of_getElem? (i := 13) rfl)) (wdC_4_in _ (List.mem_of_getElem? (i := 14) rfl)) (wdC_4_in _ (List.mem_of_getElem? (i := 15) rfl)) (wdC_2_in _ (List.mem_of_getElem? (i := 35) rfl)) (wdC_4_in _ (List.mem_of_getElem? (i := 12) rfl)) (by decide +kernel) rfl rfl (by decide) ht) dX4_lineNamed_36) ?_
  refine px_ok_cons (ps_if_eq dX4_lineNamed_39 (by decide)) ?_
  refine px_ok_cons (ps_iconst dX4_lineNamed_42 (by decide)) ?_
  refine px_ok_cons (ps_ireturn rfl dX4_lineNamed_43) ?_
  refine px_ok_cons (ps_aload_n dX4_lineNamed_44 rfl) ?_
  refine px_ok_cons (ps_ldcS (i := 4) (by decide) rfl rfl dX4_lineNamed_45) ?_
  refine px_ok_cons (ps_callV mX4_isNamed (fun _ _ => rfl) (C := RX4) rfl (fun _ _ ht => px_cwV wgC (wdC_4_in _ (List.mem_of_getElem? (i := 13) rfl)) (wdC_4_in _ (List.mem_of_getElem? (i := 14) rfl)) (wdC_4_in _ (List.mem_of_getElem? (i := 15) rfl)) (wdC_2_in _ (List.mem_of_getElem? (i := 35) rfl)) (wdC_4_in _ (List.mem_of_getElem? (i := 12) rfl)) (by decide +kernel) rfl rfl (by decide) ht) dX4_lineNamed_47) ?_
  refine px_ok_cons (ps_if_eq dX4_lineNamed_50 (by decide)) ?_
  refine px_ok_cons (ps_iconst dX4_lineNamed_53 (by decide)) ?_
  refine px_ok_cons (ps_goto dX4_lineNamed_54 (by decide)) ?_
  refine px_ok_cons (ps_iconst dX4_lineNamed_57 (by decide)) ?_
  refine px_ok_cons (ps_ireturn rfl dX4_lineNamed_58) ?_
  exact px_ok_nil
set_option maxRecDepth 100000 in
set_option maxHeartbeats 4000000 in
theorem sgX4_lineNamed_0 {po : Int32 → px_St → Prop} {G : px_K} (hG : px_cl (opX4_lineNamed po) G) (σ : px_St)
    (H : ∃ g3 : gtX4_isNamed, qrX4_isNamed g3 100 σ ∧ ∀ (r1 : Int32) (σ2 : px_St), qoX4_isNamed g3 100 σ r1 σ2 → ((r1 = 0) → ∃ g7 : gtX4_isNamed, qrX4_isNamed g7 101 σ2 ∧ ∀ (r5 : Int32) (σ6 : px_St), qoX4_isNamed g7 101 σ2 r5 σ6 → ((r5 = 0) → ∃ g11 : gtX4_isNamed, qrX4_isNamed g11 102 σ6 ∧ ∀ (r9 : Int32) (σ10 : px_St), qoX4_isNamed g11 102 σ6 r9 σ10 → ((r9 = 0) → ∃ g15 : gtX4_isNamed, qrX4_isNamed g15 103 σ10 ∧ ∀ (r13 : Int32) (σ14 : px_St), qoX4_isNamed g15 103 σ10 r13 σ14 → ((r13 = 0) → ∃ g19 : gtX4_isNamed, qrX4_isNamed g19 104 σ14 ∧ ∀ (r17 : Int32) (σ18 : px_St), qoX4_isNamed g19 104 σ14 r17 σ18 → ((r17 = 0) → po (-1 : Int32) σ18) ∧ (¬ (r17 = 0) → po (4 : Int32) σ18)) ∧ (¬ (r13 = 0) → po (3 : Int32) σ14)) ∧ (¬ (r9 = 0) → po (2 : Int32) σ10)) ∧ (¬ (r5 = 0) → po (1 : Int32) σ6)) ∧ (¬ (r1 = 0) → po (0 : Int32) σ2)) :
    G 0 (px_ent 1 [.ref 4]) [] σ := by
  refine hG.1 0 _ _ rfl _ _ _ ?_
  refine hG.1 1 _ _ rfl _ _ _ ?_
  refine hG.1 2 _ _ rfl _ _ _ ?_
  obtain ⟨g3, H⟩ := H
  refine ⟨⟨rfl, by decide⟩, Nat.le_of_ble_eq_true rfl, g3, ⟨_, rfl, ⟨by decide, by decide⟩, H.1⟩, fun r1 σ2 hp4 => ?_⟩
  replace H := H.2 r1 σ2 hp4
  refine hG.1 3 _ _ rfl _ _ _ ?_
  refine ⟨fun h25 => ?_, fun h25 => ?_⟩
  · replace H := H.1 h25
    refine hG.1 6 _ _ rfl _ _ _ ?_
    refine hG.1 7 _ _ rfl _ _ _ ?_
    refine hG.1 8 _ _ rfl _ _ _ ?_
    obtain ⟨g7, H⟩ := H
    refine ⟨⟨rfl, by decide⟩, Nat.le_of_ble_eq_true rfl, g7, ⟨_, rfl, ⟨by decide, by decide⟩, H.1⟩, fun r5 σ6 hp8 => ?_⟩
    replace H := H.2 r5 σ6 hp8
    refine hG.1 9 _ _ rfl _ _ _ ?_
    refine ⟨fun h24 => ?_, fun h24 => ?_⟩
    · replace H := H.1 h24
      refine hG.1 12 _ _ rfl _ _ _ ?_
      refine hG.1 13 _ _ rfl _ _ _ ?_
      refine hG.1 14 _ _ rfl _ _ _ ?_
      obtain ⟨g11, H⟩ := H
      refine ⟨⟨rfl, by decide⟩, Nat.le_of_ble_eq_true rfl, g11, ⟨_, rfl, ⟨by decide, by decide⟩, H.1⟩, fun r9 σ10 hp12 => ?_⟩
      replace H := H.2 r9 σ10 hp12
      refine hG.1 15 _ _ rfl _ _ _ ?_
      refine ⟨fun h23 => ?_, fun h23 => ?_⟩
      · replace H := H.1 h23
        refine hG.1 18 _ _ rfl _ _ _ ?_
        refine hG.1 19 _ _ rfl _ _ _ ?_
        refine hG.1 20 _ _ rfl _ _ _ ?_
        obtain ⟨g15, H⟩ := H
        refine ⟨⟨rfl, by decide⟩, Nat.le_of_ble_eq_true rfl, g15, ⟨_, rfl, ⟨by decide, by decide⟩, H.1⟩, fun r13 σ14 hp16 => ?_⟩
        replace H := H.2 r13 σ14 hp16
        refine hG.1 21 _ _ rfl _ _ _ ?_
        refine ⟨fun h22 => ?_, fun h22 => ?_⟩
        · replace H := H.1 h22
          refine hG.1 24 _ _ rfl _ _ _ ?_
          refine hG.1 25 _ _ rfl _ _ _ ?_
          refine hG.1 26 _ _ rfl _ _ _ ?_
          obtain ⟨g19, H⟩ := H
          refine ⟨⟨rfl, by decide⟩, Nat.le_of_ble_eq_true rfl, g19, ⟨_, rfl, ⟨by decide, by decide⟩, H.1⟩, fun r17 σ18 hp20 => ?_⟩
          replace H := H.2 r17 σ18 hp20
          refine hG.1 27 _ _ rfl _ _ _ ?_
          refine ⟨fun h21 => ?_, fun h21 => ?_⟩
          · replace H := H.1 h21
            refine hG.1 30 _ _ rfl _ _ _ ?_
            refine hG.1 31 _ _ rfl _ _ _ ?_
            exact ⟨rfl, H⟩
          · replace H := H.2 h21
            refine hG.1 28 _ _ rfl _ _ _ ?_
            refine hG.1 29 _ _ rfl _ _ _ ?_
            refine hG.1 31 _ _ rfl _ _ _ ?_
            exact ⟨rfl, H⟩
        · replace H := H.2 h22
          refine hG.1 22 _ _ rfl _ _ _ ?_
          refine hG.1 23 _ _ rfl _ _ _ ?_
          exact ⟨rfl, H⟩
      · replace H := H.2 h23
        refine hG.1 16 _ _ rfl _ _ _ ?_
        refine hG.1 17 _ _ rfl _ _ _ ?_
        exact ⟨rfl, H⟩
    · replace H := H.2 h24
      refine hG.1 10 _ _ rfl _ _ _ ?_
      refine hG.1 11 _ _ rfl _ _ _ ?_
      exact ⟨rfl, H⟩
  · replace H := H.2 h25
    refine hG.1 4 _ _ rfl _ _ _ ?_
    refine hG.1 5 _ _ rfl _ _ _ ?_
    exact ⟨rfl, H⟩
set_option maxRecDepth 100000 in
set_option maxHeartbeats 4000000 in
theorem hhX4_lineNamed (g : gtX4_lineNamed) (σ : px_St) (h : qrX4_lineNamed g σ) (G : px_K) (hG : px_cl (opX4_lineNamed (qoX4_lineNamed g σ)) G) : G 0 (px_ent 1 [.ref 4]) [] σ := by
  obtain ⟨T, f, t⟩ := g
  have hq : ∀ v, qrX4_isNamed (T, f, t) v σ := fun _ => h
  refine sgX4_lineNamed_0 hG σ ⟨(T, f, t), hq _, fun r0 σ0 h0 => ?_⟩
  obtain ⟨rfl, b0⟩ := h0
  have b0 : px_b (pt_nm T f t 0) r0 := b0
  unfold qoX4_lineNamed
  refine bz2 b0 (fun z0 => ⟨rfl, ?_⟩) (fun z0 => ⟨(T, f, t), hq _, fun r1 σ1 h1 => ?_⟩)
  · unfold pt_name; rw [xif_t z0]; rfl
  obtain ⟨rfl, b1⟩ := h1
  have b1 : px_b (pt_nm T f t 1) r1 := b1
  refine bz2 b1 (fun z1 => ⟨rfl, ?_⟩) (fun z1 => ⟨(T, f, t), hq _, fun r2 σ2 h2 => ?_⟩)
  · unfold pt_name; rw [xif_f z0, xif_t z1]; rfl
  obtain ⟨rfl, b2⟩ := h2
  have b2 : px_b (pt_nm T f t 2) r2 := b2
  refine bz2 b2 (fun z2 => ⟨rfl, ?_⟩) (fun z2 => ⟨(T, f, t), hq _, fun r3 σ3 h3 => ?_⟩)
  · unfold pt_name; rw [xif_f z0, xif_f z1, xif_t z2]; rfl
  obtain ⟨rfl, b3⟩ := h3
  have b3 : px_b (pt_nm T f t 3) r3 := b3
  refine bz2 b3 (fun z3 => ⟨rfl, ?_⟩) (fun z3 => ⟨(T, f, t), hq _, fun r4 σ4 h4 => ?_⟩)
  · unfold pt_name; rw [xif_f z0, xif_f z1, xif_f z2, xif_t z3]; rfl
  obtain ⟨rfl, b4⟩ := h4
  have b4 : px_b (pt_nm T f t 4) r4 := b4
  refine bz2 b4 (fun z4 => ⟨rfl, ?_⟩) (fun z4 => ⟨rfl, ?_⟩)
  · unfold pt_name; rw [xif_f z0, xif_f z1, xif_f z2, xif_f z3, xif_t z4]; rfl
  · unfold pt_name; rw [xif_f z0, xif_f z1, xif_f z2, xif_f z3, xif_f z4]; rfl
theorem mX4_lineNamed (g : gtX4_lineNamed) : px_Met dC yX4_lineNamed (Cond.code yX4_lineNamed cX4_lineNamed 1 (some .int) :: wdC) rmX4_lineNamed px_vI (prX4_lineNamed g) (poX4_lineNamed g) :=
  px_met (Z := (cX4_lineNamed, 1, RX4, Cond.code yX4_lineNamed cX4_lineNamed 1 (some .int) :: wdC, (some .int), rmX4_lineNamed, dC)) opX4_lineNamed (by decide) rfl rfl okX4_lineNamed (fun As σ h => by obtain ⟨rfl, h⟩ := h; exact Nat.le_of_ble_eq_true rfl) (fun As σ h G hG => by obtain ⟨rfl, h⟩ := h; exact hhX4_lineNamed g σ h G hG)
