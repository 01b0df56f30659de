/-! ===== the reference's rows of an aviary ===== -/
def mv_par (f : Nat → Int32) (p : Nat) (P : pv_P) : Prop := f (9 * p) = nI P.1 ∧ f (9 * p + 1) = nI P.2.2.length ∧ f (9 * p + 2) = nI P.2.1 ∧ ∀ i x, P.2.2[i]? = some x → f (9 * p + 3 + i) = nI x
def mv_is (f : Nat → Int32) (V : pv_V) : Prop := (f 45 = nI V.1 ∧ f 46 = nI V.2.1 ∧ f 47 = nI V.2.2.1) ∧ ∀ p, p < V.1 → mv_par f p (V.2.2.2 p)
def ms_is (f : Nat → Int32) (S : pv_S) : Prop := f 48 = nI S.length ∧ ∀ i x, S[i]? = some x → f (49 + 2 * i) = nI x.1 ∧ f (50 + 2 * i) = nI x.2
theorem mv_par.cg {f f' : Nat → Int32} {p : Nat} {P : pv_P} (h : mv_par f p P) (hl : P.2.2.length ≤ 6) (e : ∀ j, 9 * p ≤ j → j < 9 * p + 9 → f' j = f j) : mv_par f' p P := by
  obtain ⟨g1, g2, g3, g4⟩ := h
  refine ⟨(e _ (by omega) (by omega)).trans g1, (e _ (by omega) (by omega)).trans g2, (e _ (by omega) (by omega)).trans g3, fun i x hx => ?_⟩
  have hlt := (List.getElem?_eq_some_iff.mp hx).1
  rw [e _ (by omega) (by omega)]
  exact g4 i x hx
theorem mv_is.cg {f f' : Nat → Int32} {V : pv_V} (h : mv_is f V) (hw : pv_w V) (e : ∀ j, j < 48 → f' j = f j) : mv_is f' V := by
  have h5 := hw.1
  obtain ⟨⟨h1, h2, h3⟩, h4⟩ := h
  exact ⟨⟨(e _ (by omega)).trans h1, (e _ (by omega)).trans h2, (e _ (by omega)).trans h3⟩, fun p hp => (h4 p hp).cg (hw.2.2.2 p hp).2.1 (fun j _ b => e j (by omega))⟩
theorem ms_is.cg {f f' : Nat → Int32} {S : pv_S} (h : ms_is f S) (hl : S.length ≤ 6) (e : ∀ j, 48 ≤ j → j < 61 → f' j = f j) : ms_is f' S := by
  refine ⟨(e _ (by omega) (by omega)).trans h.1, fun i x hx => ?_⟩
  have hlt := (List.getElem?_eq_some_iff.mp hx).1
  rw [e _ (by omega) (by omega), e _ (by omega) (by omega)]
  exact h.2 i x hx
theorem mv_mod {f f' : Nat → Int32} {p : Nat} {V : pv_V} {P : pv_P} (hV : mv_is f V) (hw : ∀ q, q < V.1 → (V.2.2.2 q).2.2.length ≤ 6) (hp : p < 5) (e : ∀ j, j < 9 * p ∨ 9 * p + 9 ≤ j → f' j = f j) (hP : mv_par f' p P) : mv_is f' (pv_at V p P) := by
  obtain ⟨⟨h1, h2, h3⟩, h4⟩ := hV
  refine ⟨⟨(e _ (by omega)).trans h1, (e _ (by omega)).trans h2, (e _ (by omega)).trans h3⟩, fun q hq => ?_⟩
  show mv_par f' q (if q = p then P else V.2.2.2 q)
  by_cases hqp : q = p
  · rw [if_pos hqp, hqp]; exact hP
  · rw [if_neg hqp]
    exact (h4 q hq).cg (hw q hq) (fun j a b => e j (by omega))
/-- only 'now' has changed, and not its seen -/
def mn_only (σ σ' : px_St) : Prop := (∀ k, k ≠ 2 → σ'.1 k = σ.1 k) ∧ σ'.2 = σ.2 ∧ ∀ j, 48 ≤ j → σ'.1 2 j = σ.1 2 j
theorem mn_only.rf {σ : px_St} : mn_only σ σ := ⟨fun _ _ => rfl, rfl, fun _ _ => rfl⟩
theorem mn_only.tr {σ σ' σ'' : px_St} (h : mn_only σ σ') (h' : mn_only σ' σ'') : mn_only σ σ'' := ⟨fun k hk => (h'.1 k hk).trans (h.1 k hk), h'.2.1.trans h.2.1, fun j hj => (h'.2.2 j hj).trans (h.2.2 j hj)⟩
theorem mn_only.up {σ : px_St} {j : Nat} {x : Int32} (hj : j < 48) : mn_only σ (px_up σ 2 j x) := ⟨fun k hk => px_up_n hk, rfl, fun i hi => by rw [px_up_at, if_neg (by omega)]⟩
theorem ix9 (p j : Nat) : (9 : Int32) * nI p + nI j = nI (9 * p + j) := by
  rw [show (9 : Int32) = nI 9 from rfl, pk_mul, nI_add]
theorem i64le (a b : Int32) : a.toInt64 ≤ b.toInt64 ↔ a ≤ b := by
  rw [Int64.le_iff_toInt_le, Int32.le_iff_toInt_le, Int32.toInt_toInt64, Int32.toInt_toInt64]
theorem lgc_lt0 (x y : Int64) : lg_cmp x y < 0 ↔ ¬ y ≤ x := by
  rw [← lg_cmp_ge x y]
  exact ⟨fun h z => absurd h (Int32.not_lt.mpr z), fun h => Int32.not_le.mp h⟩
theorem lgc_gt0 (x y : Int64) : 0 < lg_cmp x y ↔ ¬ x ≤ y := by
  unfold lg_cmp
  by_cases h1 : x > y
  · rw [if_pos h1]
    exact ⟨fun _ => Int64.not_le.mpr h1, fun _ => by decide⟩
  · rw [if_neg h1]
    have h2 : x ≤ y := Int64.not_lt.mp h1
    by_cases h3 : x = y
    · rw [if_pos h3]; exact ⟨fun z => absurd z (by decide), fun z => absurd h2 z⟩
    · rw [if_neg h3]; exact ⟨fun z => absurd z (by decide), fun z => absurd h2 z⟩
abbrev gtX6_in : Type := Unit
def qrX6_in (_ : Unit) (_ _ _ : Int64) (_ : px_St) : Prop := True
def qoX6_in (_ : Unit) (v lo hi : Int64) (σ : px_St) (r : Int32) (σ' : px_St) : Prop := σ' = σ ∧ px_b (lo ≤ v ∧ v ≤ hi) r
def prX6_in (g : gtX6_in) : List Value → px_St → Prop := fun As σ => ∃ v0 : Int64, ∃ v2 : Int64, ∃ v4 : Int64, As = [.long v0, .long v2, .long v4] ∧ qrX6_in g v0 v2 v4 σ
def poX6_in (g : gtX6_in) : List Value → px_St → Int32 → px_St → Prop
  | [.long v0, .long v2, .long v4], σ, r, σ' => qoX6_in g v0 v2 v4 σ r σ'
  | _, _, _, _ => False
theorem dX6_in_0 : decode cX6_in 0 = .ok (.lload_n 0, 1) := by decide +kernel
theorem dX6_in_1 : decode cX6_in 1 = .ok (.lload_n 2, 1) := by decide +kernel
theorem dX6_in_2 : decode cX6_in 2 = .ok (.lcmp, 1) := by decide +kernel
theorem dX6_in_3 : decode cX6_in 3 = .ok (.ifCond .lt 14, 3) := by decide +kernel
theorem dX6_in_6 : decode cX6_in 6 = .ok (.lload_n 0, 1) := by decide +kernel
theorem dX6_in_7 : decode cX6_in 7 = .ok (.lload 4, 2) := by decide +kernel
theorem dX6_in_9 : decode cX6_in 9 = .ok (.lcmp, 1) := by decide +kernel
theorem dX6_in_10 : decode cX6_in 10 = .ok (.ifCond .gt 7, 3) := by decide +kernel
theorem dX6_in_13 : decode cX6_in 13 = .ok (.iconst 1, 1) := by decide +kernel
theorem dX6_in_14 : decode cX6_in 14 = .ok (.goto 4, 3) := by decide +kernel
theorem dX6_in_17 : decode cX6_in 17 = .ok (.iconst 0, 1) := by decide +kernel
theorem dX6_in_18 : decode cX6_in 18 = .ok (.ireturn, 1) := by decide +kernel
abbrev rmX6_in : Room := { frames := 0, cells := 0, slots := 0, locals := 0 }
def opX6_in (po : Int32 → px_St → Prop) : List (Nat × px_Op) := [
  (0, px_ll 1 0),
  (1, px_ll 2 2),
  (2, px_lcmp 3),
  (3, px_if 6 17 (fun x => x < 0)),
  (6, px_ll 7 0),
  (7, px_ll 9 4),
  (9, px_lcmp 10),
  (10, px_if 13 17 (fun x => 0 < x)),
  (13, px_push 14 (.int 1)),
  (14, px_go 18),
  (17, px_push 18 (.int 0)),
  (18, px_iret (.boolean) po)]
set_option maxRecDepth 100000 in
set_option maxHeartbeats 4000000 in
theorem okX6_in : ∀ (po : Int32 → px_St → Prop) (i pc : Nat) (op : px_Op), (opX6_in po)[i]? = some (pc, op) → px_Snd (cX6_in, 6, RX6, Cond.code yX6_in cX6_in 6 (some .boolean) :: wdM, (some .boolean), rmX6_in, dM) px_vI po pc op := by
  intro po
  unfold opX6_in
  refine px_ok_cons (ps_lload_n dX6_in_0 rfl) ?_
  refine px_ok_cons (ps_lload_n dX6_in_1 rfl) ?_
  refine px_ok_cons (ps_lcmp dX6_in_2) ?_
  refine px_ok_cons (ps_if_lt dX6_in_3 (by decide)) ?_
  refine px_ok_cons (ps_lload_n dX6_in_6 rfl) ?_
  refine px_ok_cons (ps_lload dX6_in_7) ?_
  refine px_ok_cons (ps_lcmp dX6_in_9) ?_
  refine px_ok_cons (ps_if_gt dX6_in_10 (by decide)) ?_
  refine px_ok_cons (ps_iconst dX6_in_13 (by decide)) ?_
  refine px_ok_cons (ps_goto dX6_in_14 (by decide)) ?_
  refine px_ok_cons (ps_iconst dX6_in_17 (by decide)) ?_
  refine px_ok_cons (ps_ireturn rfl dX6_in_18) ?_
  exact px_ok_nil
set_option maxRecDepth 100000 in
set_option maxHeartbeats 4000000 in
theorem sgX6_in_0 {po : Int32 → px_St → Prop} {G : px_K} (hG : px_cl (opX6_in po) G) (v0 : Int64) (v2 : Int64) (v4 : Int64) (σ : px_St)
    (H : (((lg_cmp v0 v2) < 0) → po (0 : Int32) σ) ∧ (¬ ((lg_cmp v0 v2) < 0) → ((0 < (lg_cmp v0 v4)) → po (0 : Int32) σ) ∧ (¬ (0 < (lg_cmp v0 v4)) → po (1 : Int32) σ))) :
    G 0 (px_ent 6 [.long v0, .long v2, .long v4]) [] σ := by
  refine hG.1 0 _ _ rfl _ _ _ ?_
  refine hG.1 1 _ _ rfl _ _ _ ?_
  refine hG.1 2 _ _ rfl _ _ _ ?_
  refine hG.1 3 _ _ rfl _ _ _ ?_
  refine ⟨fun h2 => ?_, fun h2 => ?_⟩
  · replace H := H.1 h2
    refine hG.1 10 _ _ rfl _ _ _ ?_
    refine hG.1 11 _ _ rfl _ _ _ ?_
    exact ⟨rfl, H⟩
  · replace H := H.2 h2
    refine hG.1 4 _ _ rfl _ _ _ ?_
    refine hG.1 5 _ _ rfl _ _ _ ?_
    refine hG.1 6 _ _ rfl _ _ _ ?_
    refine hG.1 7 _ _ rfl _ _ _ ?_
    refine ⟨fun h1 => ?_, fun h1 => ?_⟩
    · replace H := H.1 h1
      refine hG.1 10 _ _ rfl _ _ _ ?_
      refine hG.1 11 _ _ rfl _ _ _ ?_
      exact ⟨rfl, H⟩
    · replace H := H.2 h1
      refine hG.1 8 _ _ rfl _ _ _ ?_
      refine hG.1 9 _ _ rfl _ _ _ ?_
      refine hG.1 11 _ _ rfl _ _ _ ?_
      exact ⟨rfl, H⟩
set_option maxRecDepth 100000 in
set_option maxHeartbeats 4000000 in
theorem hhX6_in (g : gtX6_in) (v0 : Int64) (v2 : Int64) (v4 : Int64) (σ : px_St) (h : qrX6_in g v0 v2 v4 σ) (G : px_K) (hG : px_cl (opX6_in (qoX6_in g v0 v2 v4 σ)) G) : G 0 (px_ent 6 [.long v0, .long v2, .long v4]) [] σ := by
  refine sgX6_in_0 hG _ _ _ σ ?_
  rw [lgc_lt0, lgc_gt0]
  exact ⟨fun h1 => ⟨rfl, Or.inr ⟨fun z => h1 z.1, rfl⟩⟩, fun h1 => ⟨fun h2 => ⟨rfl, Or.inr ⟨fun z => h2 z.2, rfl⟩⟩, fun h2 => ⟨rfl, Or.inl ⟨⟨Classical.byContradiction h1, Classical.byContradiction h2⟩, rfl⟩⟩⟩⟩
theorem mX6_in (g : gtX6_in) : px_Met dM yX6_in (Cond.code yX6_in cX6_in 6 (some .boolean) :: wdM) rmX6_in px_vI (prX6_in g) (poX6_in g) :=
  px_met (Z := (cX6_in, 6, RX6, Cond.code yX6_in cX6_in 6 (some .boolean) :: wdM, (some .boolean), rmX6_in, dM)) opX6_in (by decide) rfl rfl okX6_in (fun As σ h => by obtain ⟨v0, v2, v4, rfl, h⟩ := h; exact Nat.le_of_ble_eq_true rfl) (fun As σ h G hG => by obtain ⟨v0, v2, v4, rfl, h⟩ := h; exact hhX6_in g v0 v2 v4 σ h G hG)
theorem in_c {v a b : Int32} {A B : Int64} {r : Int32} (ha : A = a.toInt64) (hb : B = b.toInt64) (h : px_b (A ≤ v.toInt64 ∧ v.toInt64 ≤ B) r) : px_b (a ≤ v ∧ v ≤ b) r := by
  rw [ha, hb, i64le, i64le] at h
  exact h
abbrev gtX6_flag : Type := Unit
def qrX6_flag (_ : Unit) (_ : Int32) (_ : px_St) : Prop := True
def qoX6_flag (_ : Unit) (v : Int32) (σ : px_St) (r : Int32) (σ' : px_St) : Prop := σ' = σ ∧ r = if v = 0 then 0 else 1
def prX6_flag (g : gtX6_flag) : List Value → px_St → Prop := fun As σ => ∃ v0 : Int32, As = [.int v0] ∧ qrX6_flag g v0 σ
def poX6_flag (g : gtX6_flag) : List Value → px_St → Int32 → px_St → Prop
  | [.int v0], σ, r, σ' => qoX6_flag g v0 σ r σ'
  | _, _, _, _ => False
theorem dX6_flag_0 : decode cX6_flag 0 = .ok (.iload_n 0, 1) := by decide +kernel
theorem dX6_flag_1 : decode cX6_flag 1 = .ok (.ifCond .eq 7, 3) := by decide +kernel
theorem dX6_flag_4 : decode cX6_flag 4 = .ok (.iconst 1, 1) := by decide +kernel
theorem dX6_flag_5 : decode cX6_flag 5 = .ok (.goto 4, 3) := by decide +kernel
theorem dX6_flag_8 : decode cX6_flag 8 = .ok (.iconst 0, 1) := by decide +kernel
theorem dX6_flag_9 : decode cX6_flag 9 = .ok (.ireturn, 1) := by decide +kernel
abbrev rmX6_flag : Room := { frames := 0, cells := 0, slots := 0, locals := 0 }
def opX6_flag (po : Int32 → px_St → Prop) : List (Nat × px_Op) := [
  (0, px_il 1 0),
  (1, px_if 4 8 (fun x => x = 0)),
  (4, px_push 5 (.int 1)),
  (5, px_go 9),
  (8, px_push 9 (.int 0)),
  (9, px_iret (.int) po)]
set_option maxRecDepth 100000 in
set_option maxHeartbeats 4000000 in
theorem okX6_flag : ∀ (po : Int32 → px_St → Prop) (i pc : Nat) (op : px_Op), (opX6_flag po)[i]? = some (pc, op) → px_Snd (cX6_flag, 1, RX6, Cond.code yX6_flag cX6_flag 1 (some .int) :: wdM, (some .int), rmX6_flag, dM) px_vI po pc op := by
  intro po
  unfold opX6_flag
  refine px_ok_cons (ps_iload_n dX6_flag_0 rfl) ?_
  refine px_ok_cons (ps_if_eq dX6_flag_1 (by decide)) ?_
  refine px_ok_cons (ps_iconst dX6_flag_4 (by decide)) ?_
  refine px_ok_cons (ps_goto dX6_flag_5 (by decide)) ?_
  refine px_ok_cons (ps_iconst dX6_flag_8 (by decide)) ?_
  refine px_ok_cons (ps_ireturn rfl dX6_flag_9) ?_
  exact px_ok_nil
set_option maxRecDepth 100000 in
set_option maxHeartbeats 4000000 in
theorem sgX6_flag_0 {po : Int32 → px_St → Prop} {G : px_K} (hG : px_cl (opX6_flag po) G) (v0 : Int32) (σ : px_St)
    (H : ((v0 = 0) → po (0 : Int32) σ) ∧ (¬ (v0 = 0) → po (1 : Int32) σ)) :
    G 0 (px_ent 1 [.int v0]) [] σ := by
  refine hG.1 0 _ _ rfl _ _ _ ?_
  refine hG.1 1 _ _ rfl _ _ _ ?_
  refine ⟨fun h1 => ?_, fun h1 => ?_⟩
  · replace H := H.1 h1
    refine hG.1 4 _ _ rfl _ _ _ ?_
    refine hG.1 5 _ _ rfl _ _ _ ?_
    exact ⟨rfl, H⟩
  · replace H := H.2 h1
    refine hG.1 2 _ _ rfl _ _ _ ?_
    refine hG.1 3 _ _ rfl _ _ _ ?_
    refine hG.1 5 _ _ rfl _ _ _ ?_
    exact ⟨rfl, H⟩
set_option maxRecDepth 100000 in
set_option maxHeartbeats 4000000 in
theorem hhX6_flag (g : gtX6_flag) (v0 : Int32) (σ : px_St) (h : qrX6_flag g v0 σ) (G : px_K) (hG : px_cl (opX6_flag (qoX6_flag g v0 σ)) G) : G 0 (px_ent 1 [.int v0]) [] σ := by
  exact sgX6_flag_0 hG _ σ ⟨fun h1 => ⟨rfl, (if_pos h1).symm⟩, fun h1 => ⟨rfl, (if_neg h1).symm⟩⟩
theorem mX6_flag (g : gtX6_flag) : px_Met dM yX6_flag (Cond.code yX6_flag cX6_flag 1 (some .int) :: wdM) rmX6_flag px_vI (prX6_flag g) (poX6_flag g) :=
  px_met (Z := (cX6_flag, 1, RX6, Cond.code yX6_flag cX6_flag 1 (some .int) :: wdM, (some .int), rmX6_flag, dM)) opX6_flag (by decide) rfl rfl okX6_flag (fun As σ h => by obtain ⟨v0, rfl, h⟩ := h; exact Nat.le_of_ble_eq_true rfl) (fun As σ h G hG => by obtain ⟨v0, rfl, h⟩ := h; exact hhX6_flag g v0 σ h G hG)
abbrev gtX6_isSound : Type := Unit
def qrX6_isSound (_ : Unit) (_ : Int32) (_ : px_St) : Prop := True
def qoX6_isSound (_ : Unit) (v : Int32) (σ : px_St) (r : Int32) (σ' : px_St) : Prop := σ' = σ ∧ px_b (0 ≤ v ∧ v ≤ 9) r
def prX6_isSound (g : gtX6_isSound) : List Value → px_St → Prop := fun As σ => ∃ v0 : Int32, As = [.int v0] ∧ qrX6_isSound g v0 σ
def poX6_isSound (g : gtX6_isSound) : List Value → px_St → Int32 → px_St → Prop
  | [.int v0], σ, r, σ' => qoX6_isSound g v0 σ r σ'
  | _, _, _, _ => False
theorem dX6_isSound_0 : decode cX6_isSound 0 = .ok (.iload_n 0, 1) := by decide +kernel
theorem dX6_isSound_1 : decode cX6_isSound 1 = .ok (.i2l, 1) := by decide +kernel
theorem dX6_isSound_2 : decode cX6_isSound 2 = .ok (.lconst 0, 1) := by decide +kernel
theorem dX6_isSound_3 : decode cX6_isSound 3 = .ok (.ldc2_w 124, 3) := by decide +kernel
theorem dX6_isSound_6 : decode cX6_isSound 6 = .ok (.invokestatic 56, 3) := by decide +kernel
theorem dX6_isSound_9 : decode cX6_isSound 9 = .ok (.ireturn, 1) := by decide +kernel
abbrev rmX6_isSound : Room := { frames := 1, cells := 0, slots := 0, locals := 25 }
def opX6_isSound (po : Int32 → px_St → Prop) : List (Nat × px_Op) := [
  (0, px_il 1 0),
  (1, px_i2l 2),
  (2, px_push 3 (.long 0)),
  (3, px_push 6 (.long 9)),
  (6, px_callS 9 3 px_vI prX6_in poX6_in),
  (9, px_iret (.boolean) po)]
set_option maxRecDepth 100000 in
set_option maxHeartbeats 4000000 in
theorem okX6_isSound : ∀ (po : Int32 → px_St → Prop) (i pc : Nat) (op : px_Op), (opX6_isSound po)[i]? = some (pc, op) → px_Snd (cX6_isSound, 1, RX6, Cond.code yX6_isSound cX6_isSound 1 (some .boolean) :: wdM, (some .boolean), rmX6_isSound, dM) px_vI po pc op := by
  intro po
  unfold opX6_isSound
  refine px_ok_cons (ps_iload_n dX6_isSound_0 rfl) ?_
  refine px_ok_cons (ps_i2l dX6_isSound_1) ?_
  refine px_ok_cons (ps_lconst dX6_isSound_2 (by decide)) ?_
  refine px_ok_cons (ps_ldc2 (List.mem_cons_of_mem _ (wdM_2_in _ (List.mem_of_getElem? (i := 5) rfl))) dX6_isSound_3) ?_
  refine px_ok_cons (ps_callS mX6_in (fun _ _ => rfl) (fun _ _ ht => px_cwS wgM (wdM_0_in _ (List.mem_of_getElem? (i := 32) rfl)) (wdM_0_in _ (List.mem_of_getElem? (i := 33) rfl)) (wdM_0_in _ (List.mem_of_getElem? (i := 22) rfl)) (wdM_0_in _ (List.mem_of_getElem? (i := 27) rfl)) (by decide +kernel) rfl rfl (by decide) ht) dX6_isSound_6) ?_
  refine px_ok_cons (ps_ireturn rfl dX6_isSound_9) ?_
  exact px_ok_nil
set_option maxRecDepth 100000 in
set_option maxHeartbeats 4000000 in
theorem sgX6_isSound_0 {po : Int32 → px_St → Prop} {G : px_K} (hG : px_cl (opX6_isSound po) G) (v0 : Int32) (σ : px_St)
    (H : ∃ g3 : gtX6_in, qrX6_in g3 v0.toInt64 (0 : Int64) (9 : Int64) σ ∧ ∀ (r1 : Int32) (σ2 : px_St), qoX6_in g3 v0.toInt64 (0 : Int64) (9 : Int64) σ r1 σ2 → (r1 = 0 ∨ r1 = 1) ∧ po r1 σ2) :
    G 0 (px_ent 1 [.int v0]) [] σ := by
  refine hG.1 0 _ _ rfl _ _ _ ?_
  refine hG.1 1 _ _ rfl _ _ _ ?_
  refine hG.1 2 _ _ rfl _ _ _ ?_
  refine hG.1 3 _ _ rfl _ _ _ ?_
  refine hG.1 4 _ _ rfl _ _ _ ?_
  obtain ⟨g3, H⟩ := H
  refine ⟨Nat.le_of_ble_eq_true rfl, Nat.le_of_ble_eq_true rfl, g3, ⟨_, _, _, rfl, H.1⟩, fun r1 σ2 hp4 => ?_⟩
  replace H := H.2 r1 σ2 hp4
  refine hG.1 5 _ _ rfl _ _ _ ?_
  exact ⟨(px_bo H.1).1, H.2⟩
set_option maxRecDepth 100000 in
set_option maxHeartbeats 4000000 in
theorem hhX6_isSound (g : gtX6_isSound) (v0 : Int32) (σ : px_St) (h : qrX6_isSound g v0 σ) (G : px_K) (hG : px_cl (opX6_isSound (qoX6_isSound g v0 σ)) G) : G 0 (px_ent 1 [.int v0]) [] σ := by
  exact sgX6_isSound_0 hG v0 σ ⟨(), trivial, fun r σ' hp => ⟨px_b_01 hp.2, hp.1, in_c (by decide) (by decide) hp.2⟩⟩
theorem mX6_isSound (g : gtX6_isSound) : px_Met dM yX6_isSound (Cond.code yX6_isSound cX6_isSound 1 (some .boolean) :: wdM) rmX6_isSound px_vI (prX6_isSound g) (poX6_isSound g) :=
  px_met (Z := (cX6_isSound, 1, RX6, Cond.code yX6_isSound cX6_isSound 1 (some .boolean) :: wdM, (some .boolean), rmX6_isSound, dM)) opX6_isSound (by decide) rfl rfl okX6_isSound (fun As σ h => by obtain ⟨v0, rfl, h⟩ := h; exact Nat.le_of_ble_eq_true rfl) (fun As σ h G hG => by obtain ⟨v0, rfl, h⟩ := h; exact hhX6_isSound g v0 σ h G hG)
abbrev gtX6_isPart : Type := Unit
def qrX6_isPart (_ : Unit) (_ : Int32) (_ : px_St) : Prop := True
def qoX6_isPart (_ : Unit) (v : Int32) (σ : px_St) (r : Int32) (σ' : px_St) : Prop := σ' = σ ∧ px_b (0 ≤ v ∧ v ≤ 1) r
def prX6_isPart (g : gtX6_isPart) : List Value → px_St → Prop := fun As σ => ∃ v0 : Int32, As = [.int v0] ∧ qrX6_isPart g v0 σ
def poX6_isPart (g : gtX6_isPart) : List Value → px_St → Int32 → px_St → Prop
  | [.int v0], σ, r, σ' => qoX6_isPart g v0 σ r σ'
  | _, _, _, _ => False
theorem dX6_isPart_0 : decode cX6_isPart 0 = .ok (.iload_n 0, 1) := by decide +kernel
theorem dX6_isPart_1 : decode cX6_isPart 1 = .ok (.i2l, 1) := by decide +kernel
theorem dX6_isPart_2 : decode cX6_isPart 2 = .ok (.lconst 0, 1) := by decide +kernel
theorem dX6_isPart_3 : decode cX6_isPart 3 = .ok (.lconst 1, 1) := by decide +kernel
theorem dX6_isPart_4 : decode cX6_isPart 4 = .ok (.invokestatic 56, 3) := by decide +kernel
theorem dX6_isPart_7 : decode cX6_isPart 7 = .ok (.ireturn, 1) := by decide +kernel
abbrev rmX6_isPart : Room := { frames := 1, cells := 0, slots := 0, locals := 25 }
def opX6_isPart (po : Int32 → px_St → Prop) : List (Nat × px_Op) := [
  (0, px_il 1 0),
  (1, px_i2l 2),
  (2, px_push 3 (.long 0)),
  (3, px_push 4 (.long 1)),
  (4, px_callS 7 3 px_vI prX6_in poX6_in),
  (7, px_iret (.boolean) po)]
set_option maxRecDepth 100000 in
set_option maxHeartbeats 4000000 in
theorem okX6_isPart : ∀ (po : Int32 → px_St → Prop) (i pc : Nat) (op : px_Op), (opX6_isPart po)[i]? = some (pc, op) → px_Snd (cX6_isPart, 1, RX6, Cond.code yX6_isPart cX6_isPart 1 (some .boolean) :: wdM, (some .boolean), rmX6_isPart, dM) px_vI po pc op := by
  intro po
  unfold opX6_isPart
  refine px_ok_cons (ps_iload_n dX6_isPart_0 rfl) ?_
  refine px_ok_cons (ps_i2l dX6_isPart_1) ?_
  refine px_ok_cons (ps_lconst dX6_isPart_2 (by decide)) ?_
  refine px_ok_cons (ps_lconst dX6_isPart_3 (by decide)) ?_
  refine px_ok_cons (ps_callS mX6_in (fun _ _ => rfl) (fun _ _ ht => px_cwS wgM (wdM_0_in _ (List.mem_of_getElem? (i := 32) rfl)) (wdM_0_in _ (List.mem_of_getElem? (i := 33) rfl)) (wdM_0_in _ (List.mem_of_getElem? (i := 22) rfl)) (wdM_0_in _ (List.mem_of_getElem? (i := 27) rfl)) (by decide +kernel) rfl rfl (by decide) ht) dX6_isPart_4) ?_
  refine px_ok_cons (ps_ireturn rfl dX6_isPart_7) ?_
  exact px_ok_nil
set_option maxRecDepth 100000 in
set_option maxHeartbeats 4000000 in
theorem sgX6_isPart_0 {po : Int32 → px_St → Prop} {G : px_K} (hG : px_cl (opX6_isPart po) G) (v0 : Int32) (σ : px_St)
    (H : ∃ g3 : gtX6_in, qrX6_in g3 v0.toInt64 (0 : Int64) (1 : Int64) σ ∧ ∀ (r1 : Int32) (σ2 : px_St), qoX6_in g3 v0.toInt64 (0 : Int64) (1 : Int64) σ r1 σ2 → (r1 = 0 ∨ r1 = 1) ∧ po r1 σ2) :
    G 0 (px_ent 1 [.int v0]) [] σ := by
  refine hG.1 0 _ _ rfl _ _ _ ?_
  refine hG.1 1 _ _ rfl _ _ _ ?_
  refine hG.1 2 _ _ rfl _ _ _ ?_
  refine hG.1 3 _ _ rfl _ _ _ ?_
  refine hG.1 4 _ _ rfl _ _ _ ?_
  obtain ⟨g3, H⟩ := H
  refine ⟨Nat.le_of_ble_eq_true rfl, Nat.le_of_ble_eq_true rfl, g3, ⟨_, _, _, rfl, H.1⟩, fun r1 σ2 hp4 => ?_⟩
  replace H := H.2 r1 σ2 hp4
  refine hG.1 5 _ _ rfl _ _ _ ?_
  exact ⟨(px_bo H.1).1, H.2⟩
set_option maxRecDepth 100000 in
set_option maxHeartbeats 4000000 in
theorem hhX6_isPart (g : gtX6_isPart) (v0 : Int32) (σ : px_St) (h : qrX6_isPart g v0 σ) (G : px_K) (hG : px_cl (opX6_isPart (qoX6_isPart g v0 σ)) G) : G 0 (px_ent 1 [.int v0]) [] σ := by
  exact sgX6_isPart_0 hG v0 σ ⟨(), trivial, fun r σ' hp => ⟨px_b_01 hp.2, hp.1, in_c (by decide) (by decide) hp.2⟩⟩
theorem mX6_isPart (g : gtX6_isPart) : px_Met dM yX6_isPart (Cond.code yX6_isPart cX6_isPart 1 (some .boolean) :: wdM) rmX6_isPart px_vI (prX6_isPart g) (poX6_isPart g) :=
  px_met (Z := (cX6_isPart, 1, RX6, Cond.code yX6_isPart cX6_isPart 1 (some .boolean) :: wdM, (some .boolean), rmX6_isPart, dM)) opX6_isPart (by decide) rfl rfl okX6_isPart (fun As σ h => by obtain ⟨v0, rfl, h⟩ := h; exact Nat.le_of_ble_eq_true rfl) (fun As σ h G hG => by obtain ⟨v0, rfl, h⟩ := h; exact hhX6_isPart g v0 σ h G hG)
abbrev gtX6_isFar : Type := Unit
def qrX6_isFar (_ : Unit) (_ : Int32) (_ : px_St) : Prop := True
def qoX6_isFar (_ : Unit) (v : Int32) (σ : px_St) (r : Int32) (σ' : px_St) : Prop := σ' = σ ∧ px_b (0 ≤ v ∧ v ≤ 60) r
def prX6_isFar (g : gtX6_isFar) : List Value → px_St → Prop := fun As σ => ∃ v0 : Int32, As = [.int v0] ∧ qrX6_isFar g v0 σ
def poX6_isFar (g : gtX6_isFar) : List Value → px_St → Int32 → px_St → Prop
  | [.int v0], σ, r, σ' => qoX6_isFar g v0 σ r σ'
  | _, _, _, _ => False
theorem dX6_isFar_0 : decode cX6_isFar 0 = .ok (.iload_n 0, 1) := by decide +kernel
theorem dX6_isFar_1 : decode cX6_isFar 1 = .ok (.i2l, 1) := by decide +kernel
theorem dX6_isFar_2 : decode cX6_isFar 2 = .ok (.lconst 0, 1) := by decide +kernel
theorem dX6_isFar_3 : decode cX6_isFar 3 = .ok (.ldc2_w 197, 3) := by decide +kernel
theorem dX6_isFar_6 : decode cX6_isFar 6 = .ok (.invokestatic 56, 3) := by decide +kernel
theorem dX6_isFar_9 : decode cX6_isFar 9 = .ok (.ireturn, 1) := by decide +kernel
abbrev rmX6_isFar : Room := { frames := 1, cells := 0, slots := 0, locals := 25 }
def opX6_isFar (po : Int32 → px_St → Prop) : List (Nat × px_Op) := [
  (0, px_il 1 0),
  (1, px_i2l 2),
  (2, px_push 3 (.long 0)),
  (3, px_push 6 (.long 60)),
  (6, px_callS 9 3 px_vI prX6_in poX6_in),
  (9, px_iret (.boolean) po)]
set_option maxRecDepth 100000 in
set_option maxHeartbeats 4000000 in
theorem okX6_isFar : ∀ (po : Int32 → px_St → Prop) (i pc : Nat) (op : px_Op), (opX6_isFar po)[i]? = some (pc, op) → px_Snd (cX6_isFar, 1, RX6, Cond.code yX6_isFar cX6_isFar 1 (some .boolean) :: wdM, (some .boolean), rmX6_isFar, dM) px_vI po pc op := by
  intro po
  unfold opX6_isFar
  refine px_ok_cons (ps_iload_n dX6_isFar_0 rfl) ?_
  refine px_ok_cons (ps_i2l dX6_isFar_1) ?_
  refine px_ok_cons (ps_lconst dX6_isFar_2 (by decide)) ?_
  refine px_ok_cons (ps_ldc2 (List.mem_cons_of_mem _ (wdM_4_in _ (List.mem_of_getElem? (i := 17) rfl))) dX6_isFar_3) ?_
  refine px_ok_cons (ps_callS mX6_in (fun _ _ => rfl) (fun _ _ ht => px_cwS wgM (wdM_0_in _ (List.mem_of_getElem? (i := 32) rfl)) (wdM_0_in _ (List.mem_of_getElem? (i := 33) rfl)) (wdM_0_in _ (List.mem_of_getElem? (i := 22) rfl)) (wdM_0_in _ (List.mem_of_getElem? (i := 27) rfl)) (by decide +kernel) rfl rfl (by decide) ht) dX6_isFar_6) ?_
  refine px_ok_cons (ps_ireturn rfl dX6_isFar_9) ?_
  exact px_ok_nil
set_option maxRecDepth 100000 in
set_option maxHeartbeats 4000000 in
theorem sgX6_isFar_0 {po : Int32 → px_St → Prop} {G : px_K} (hG : px_cl (opX6_isFar po) G) (v0 : Int32) (σ : px_St)
    (H : ∃ g3 : gtX6_in, qrX6_in g3 v0.toInt64 (0 : Int64) (60 : Int64) σ ∧ ∀ (r1 : Int32) (σ2 : px_St), qoX6_in g3 v0.toInt64 (0 : Int64) (60 : Int64) σ r1 σ2 → (r1 = 0 ∨ r1 = 1) ∧ po r1 σ2) :
    G 0 (px_ent 1 [.int v0]) [] σ := by
  refine hG.1 0 _ _ rfl _ _ _ ?_
  refine hG.1 1 _ _ rfl _ _ _ ?_
  refine hG.1 2 _ _ rfl _ _ _ ?_
  refine hG.1 3 _ _ rfl _ _ _ ?_
  refine hG.1 4 _ _ rfl _ _ _ ?_
  obtain ⟨g3, H⟩ := H
  refine ⟨Nat.le_of_ble_eq_true rfl, Nat.le_of_ble_eq_true rfl, g3, ⟨_, _, _, rfl, H.1⟩, fun r1 σ2 hp4 => ?_⟩
  replace H := H.2 r1 σ2 hp4
  refine hG.1 5 _ _ rfl _ _ _ ?_
  exact ⟨(px_bo H.1).1, H.2⟩
set_option maxRecDepth 100000 in
set_option maxHeartbeats 4000000 in
theorem hhX6_isFar (g : gtX6_isFar) (v0 : Int32) (σ : px_St) (h : qrX6_isFar g v0 σ) (G : px_K) (hG : px_cl (opX6_isFar (qoX6_isFar g v0 σ)) G) : G 0 (px_ent 1 [.int v0]) [] σ := by
  exact sgX6_isFar_0 hG v0 σ ⟨(), trivial, fun r σ' hp => ⟨px_b_01 hp.2, hp.1, in_c (by decide) (by decide) hp.2⟩⟩
theorem mX6_isFar (g : gtX6_isFar) : px_Met dM yX6_isFar (Cond.code yX6_isFar cX6_isFar 1 (some .boolean) :: wdM) rmX6_isFar px_vI (prX6_isFar g) (poX6_isFar g) :=
  px_met (Z := (cX6_isFar, 1, RX6, Cond.code yX6_isFar cX6_isFar 1 (some .boolean) :: wdM, (some .boolean), rmX6_isFar, dM)) opX6_isFar (by decide) rfl rfl okX6_isFar (fun As σ h => by obtain ⟨v0, rfl, h⟩ := h; exact Nat.le_of_ble_eq_true rfl) (fun As σ h G hG => by obtain ⟨v0, rfl, h⟩ := h; exact hhX6_isFar g v0 σ h G hG)
abbrev gtX6_isSheet : Type := Unit
def qrX6_isSheet (_ : Unit) (_ _ : Int32) (_ : px_St) : Prop := True
def qoX6_isSheet (_ : Unit) (k l : Int32) (σ : px_St) (r : Int32) (σ' : px_St) : Prop := σ' = σ ∧ px_b ((0 ≤ k ∧ k ≤ 3) ∧ (0 ≤ l ∧ l ≤ 2)) r
def prX6_isSheet (g : gtX6_isSheet) : List Value → px_St → Prop := fun As σ => ∃ v0 : Int32, ∃ v1 : Int32, As = [.int v0, .int v1] ∧ qrX6_isSheet g v0 v1 σ
def poX6_isSheet (g : gtX6_isSheet) : List Value → px_St → Int32 → px_St → Prop
  | [.int v0, .int v1], σ, r, σ' => qoX6_isSheet g v0 v1 σ r σ'
  | _, _, _, _ => False
theorem dX6_isSheet_0 : decode cX6_isSheet 0 = .ok (.iload_n 0, 1) := by decide +kernel
theorem dX6_isSheet_1 : decode cX6_isSheet 1 = .ok (.i2l, 1) := by decide +kernel
theorem dX6_isSheet_2 : decode cX6_isSheet 2 = .ok (.lconst 0, 1) := by decide +kernel
theorem dX6_isSheet_3 : decode cX6_isSheet 3 = .ok (.ldc2_w 166, 3) := by decide +kernel
theorem dX6_isSheet_6 : decode cX6_isSheet 6 = .ok (.invokestatic 56, 3) := by decide +kernel
theorem dX6_isSheet_9 : decode cX6_isSheet 9 = .ok (.ifCond .eq 19, 3) := by decide +kernel
theorem dX6_isSheet_12 : decode cX6_isSheet 12 = .ok (.iload_n 1, 1) := by decide +kernel
theorem dX6_isSheet_13 : decode cX6_isSheet 13 = .ok (.i2l, 1) := by decide +kernel
theorem dX6_isSheet_14 : decode cX6_isSheet 14 = .ok (.lconst 0, 1) := by decide +kernel
theorem dX6_isSheet_15 : decode cX6_isSheet 15 = .ok (.ldc2_w 211, 3) := by decide +kernel
theorem dX6_isSheet_18 : decode cX6_isSheet 18 = .ok (.invokestatic 56, 3) := by decide +kernel
theorem dX6_isSheet_21 : decode cX6_isSheet 21 = .ok (.ifCond .eq 7, 3) := by decide +kernel
theorem dX6_isSheet_24 : decode cX6_isSheet 24 = .ok (.iconst 1, 1) := by decide +kernel
theorem dX6_isSheet_25 : decode cX6_isSheet 25 = .ok (.goto 4, 3) := by decide +kernel
theorem dX6_isSheet_28 : decode cX6_isSheet 28 = .ok (.iconst 0, 1) := by decide +kernel
theorem dX6_isSheet_29 : decode cX6_isSheet 29 = .ok (.ireturn, 1) := by decide +kernel
abbrev rmX6_isSheet : Room := { frames := 1, cells := 0, slots := 0, locals := 25 }
def opX6_isSheet (po : Int32 → px_St → Prop) : List (Nat × px_Op) := [
  (0, px_il 1 0),
  (1, px_i2l 2),
  (2, px_push 3 (.long 0)),
  (3, px_push 6 (.long 3)),
  (6, px_callS 9 3 px_vI prX6_in poX6_in),
  (9, px_if 12 28 (fun x => x = 0)),
  (12, px_il 13 1),
  (13, px_i2l 14),
  (14, px_push 15 (.long 0)),
  (15, px_push 18 (.long 2)),
  (18, px_callS 21 3 px_vI prX6_in poX6_in),
  (21, px_if 24 28 (fun x => x = 0)),
  (24, px_push 25 (.int 1)),
  (25, px_go 29),
  (28, px_push 29 (.int 0)),
  (29, px_iret (.boolean) po)]
set_option maxRecDepth 100000 in
set_option maxHeartbeats 4000000 in
theorem okX6_isSheet : ∀ (po : Int32 → px_St → Prop) (i pc : Nat) (op : px_Op), (opX6_isSheet po)[i]? = some (pc, op) → px_Snd (cX6_isSheet, 2, RX6, Cond.code yX6_isSheet cX6_isSheet 2 (some .boolean) :: wdM, (some .boolean), rmX6_isSheet, dM) px_vI po pc op := by
  intro po
  unfold opX6_isSheet
  refine px_ok_cons (ps_iload_n dX6_isSheet_0 rfl) ?_
  refine px_ok_cons (ps_i2l dX6_isSheet_1) ?_
  refine px_ok_cons (ps_lconst dX6_isSheet_2 (by decide)) ?_
  refine px_ok_cons (ps_ldc2 (List.mem_cons_of_mem _ (wdM_3_in _ (List.mem_of_getElem? (i := 22) rfl))) dX6_isSheet_3) ?_
  refine px_ok_cons (ps_callS mX6_in (fun _ _ => rfl) (fun _ _ ht => px_cwS wgM (wdM_0_in _ (List.mem_of_getElem? (i := 32) rfl)) (wdM_0_in _ (List.mem_of_getElem? (i := 33) rfl)) (wdM_0_in _ (List.mem_of_getElem? (i := 22) rfl)) (wdM_0_in _ (List.mem_of_getElem? (i := 27) rfl)) (by decide +kernel) rfl rfl (by decide) ht) dX6_isSheet_6) ?_
  refine px_ok_cons (ps_if_eq dX6_isSheet_9 (by decide)) ?_
  refine px_ok_cons (ps_iload_n dX6_isSheet_12 rfl) ?_
  refine px_ok_cons (ps_i2l dX6_isSheet_13) ?_
  refine px_ok_cons (ps_lconst dX6_isSheet_14 (by decide)) ?_
  refine px_ok_cons (ps_ldc2 (List.mem_cons_of_mem _ (wdM_4_in _ (List.mem_of_getElem? (i := 33) rfl))) dX6_isSheet_15) ?_
  refine px_ok_cons (ps_callS mX6_in (fun _ _ => rfl) (fun _ _ ht => px_cwS wgM (wdM_0_in _ (List.mem_of_getElem? (i := 32) rfl)) (wdM_0_in _ (List.mem_of_getElem? (i := 33) rfl)) (wdM_0_in _ (List.mem_of_getElem? (i := 22) rfl)) (wdM_0_in _ (List.mem_of_getElem? (i := 27) rfl)) (by decide +kernel) rfl rfl (by decide) ht) dX6_isSheet_18) ?_
  refine px_ok_cons (ps_if_eq dX6_isSheet_21 (by decide)) ?_
  refine px_ok_cons (ps_iconst dX6_isSheet_24 (by decide)) ?_
  refine px_ok_cons (ps_goto dX6_isSheet_25 (by decide)) ?_
  refine px_ok_cons (ps_iconst dX6_isSheet_28 (by decide)) ?_
  refine px_ok_cons (ps_ireturn rfl dX6_isSheet_29) ?_
  exact px_ok_nil
set_option maxRecDepth 100000 in
set_option maxHeartbeats 4000000 in
theorem sgX6_isSheet_0 {po : Int32 → px_St → Prop} {G : px_K} (hG : px_cl (opX6_isSheet po) G) (v0 : Int32) (v1 : Int32) (σ : px_St)
    (H : ∃ g3 : gtX6_in, qrX6_in g3 v0.toInt64 (0 : Int64) (3 : Int64) σ ∧ ∀ (r1 : Int32) (σ2 : px_St), qoX6_in g3 v0.toInt64 (0 : Int64) (3 : Int64) σ r1 σ2 → ((r1 = 0) → po (0 : Int32) σ2) ∧ (¬ (r1 = 0) → ∃ g7 : gtX6_in, qrX6_in g7 v1.toInt64 (0 : Int64) (2 : Int64) σ2 ∧ ∀ (r5 : Int32) (σ6 : px_St), qoX6_in g7 v1.toInt64 (0 : Int64) (2 : Int64) σ2 r5 σ6 → ((r5 = 0) → po (0 : Int32) σ6) ∧ (¬ (r5 = 0) → po (1 : Int32) σ6))) :
    G 0 (px_ent 2 [.int v0, .int v1]) [] σ := by
  refine hG.1 0 _ _ rfl _ _ _ ?_
  refine hG.1 1 _ _ rfl _ _ _ ?_
  refine hG.1 2 _ _ rfl _ _ _ ?_
  refine hG.1 3 _ _ rfl _ _ _ ?_
  refine hG.1 4 _ _ rfl _ _ _ ?_
  obtain ⟨g3, H⟩ := H
  refine ⟨Nat.le_of_ble_eq_true rfl, Nat.le_of_ble_eq_true rfl, g3, ⟨_, _, _, rfl, H.1⟩, fun r1 σ2 hp4 => ?_⟩
  replace H := H.2 r1 σ2 hp4
  refine hG.1 5 _ _ rfl _ _ _ ?_
  refine ⟨fun h10 => ?_, fun h10 => ?_⟩
  · replace H := H.1 h10
    refine hG.1 14 _ _ rfl _ _ _ ?_
    refine hG.1 15 _ _ rfl _ _ _ ?_
    exact ⟨rfl, H⟩
  · replace H := H.2 h10
    refine hG.1 6 _ _ rfl _ _ _ ?_
    refine hG.1 7 _ _ rfl _ _ _ ?_
    refine hG.1 8 _ _ rfl _ _ _ ?_
    refine hG.1 9 _ _ rfl _ _ _ ?_
    refine hG.1 10 _ _ rfl _ _ _ ?_
    obtain ⟨g7, H⟩ := H
    refine ⟨Nat.le_of_ble_eq_true rfl, Nat.le_of_ble_eq_true rfl, g7, ⟨_, _, _, rfl, H.1⟩, fun r5 σ6 hp8 => ?_⟩
    replace H := H.2 r5 σ6 hp8
    refine hG.1 11 _ _ rfl _ _ _ ?_
    refine ⟨fun h9 => ?_, fun h9 => ?_⟩
    · replace H := H.1 h9
      refine hG.1 14 _ _ rfl _ _ _ ?_
      refine hG.1 15 _ _ rfl _ _ _ ?_
      exact ⟨rfl, H⟩
    · replace H := H.2 h9
      refine hG.1 12 _ _ rfl _ _ _ ?_
      refine hG.1 13 _ _ rfl _ _ _ ?_
      refine hG.1 15 _ _ rfl _ _ _ ?_
      exact ⟨rfl, H⟩
set_option maxRecDepth 100000 in
set_option maxHeartbeats 4000000 in
theorem hhX6_isSheet (g : gtX6_isSheet) (v0 : Int32) (v1 : Int32) (σ : px_St) (h : qrX6_isSheet g v0 v1 σ) (G : px_K) (hG : px_cl (opX6_isSheet (qoX6_isSheet g v0 v1 σ)) G) : G 0 (px_ent 2 [.int v0, .int v1]) [] σ := by
  refine sgX6_isSheet_0 hG _ _ σ ⟨(), trivial, fun r σ' hp => ?_⟩
  obtain ⟨rfl, b1⟩ := hp
  refine bz2 (in_c (a := 0) (b := 3) (by decide) (by decide) b1) (fun z => ⟨(), trivial, fun r2 σ2 h2 => ?_⟩) (fun z => ⟨rfl, Or.inr ⟨fun q => z q.1, rfl⟩⟩)
  obtain ⟨rfl, b2⟩ := h2
  exact bz2 (in_c (a := 0) (b := 2) (by decide) (by decide) b2) (fun y => ⟨rfl, Or.inl ⟨⟨z, y⟩, rfl⟩⟩) (fun y => ⟨rfl, Or.inr ⟨fun q => y q.2, rfl⟩⟩)
theorem mX6_isSheet (g : gtX6_isSheet) : px_Met dM yX6_isSheet (Cond.code yX6_isSheet cX6_isSheet 2 (some .boolean) :: wdM) rmX6_isSheet px_vI (prX6_isSheet g) (poX6_isSheet g) :=
  px_met (Z := (cX6_isSheet, 2, RX6, Cond.code yX6_isSheet cX6_isSheet 2 (some .boolean) :: wdM, (some .boolean), rmX6_isSheet, dM)) opX6_isSheet (by decide) rfl rfl okX6_isSheet (fun As σ h => by obtain ⟨v0, v1, rfl, h⟩ := h; exact Nat.le_of_ble_eq_true rfl) (fun As σ h G hG => by obtain ⟨v0, v1, rfl, h⟩ := h; exact hhX6_isSheet g v0 v1 σ h G hG)
theorem c45 : (45 : Int32).toNatClampNeg = 45 := by decide
theorem c46 : (46 : Int32).toNatClampNeg = 46 := by decide
theorem c47 : (47 : Int32).toNatClampNeg = 47 := by decide
theorem c48 : (48 : Int32).toNatClampNeg = 48 := by decide
theorem vpin (n N : Nat) {c : Int32} (hc : c = nI n) (h : n < N) (hN : N < 2 ^ 31) : vp_in c N := by rw [hc]; exact vp_in_nI h hN
abbrev gtX6_isParrot : Type := pv_V
def qrX6_isParrot (V : pv_V) (_ : Int32) (σ : px_St) : Prop := mv_is (σ.1 1) V
def qoX6_isParrot (V : pv_V) (v : Int32) (σ : px_St) (r : Int32) (σ' : px_St) : Prop := σ' = σ ∧ px_b (0 ≤ v ∧ v ≤ nI V.1 - 1) r
def prX6_isParrot (g : gtX6_isParrot) : List Value → px_St → Prop := fun As σ => ∃ v1 : Int32, As = [.ref 0, .int v1] ∧ qrX6_isParrot g v1 σ
def poX6_isParrot (g : gtX6_isParrot) : List Value → px_St → Int32 → px_St → Prop
  | [.ref _, .int v1], σ, r, σ' => qoX6_isParrot g v1 σ r σ'
  | _, _, _, _ => False
theorem dX6_isParrot_0 : decode cX6_isParrot 0 = .ok (.iload_n 1, 1) := by decide +kernel
theorem dX6_isParrot_1 : decode cX6_isParrot 1 = .ok (.i2l, 1) := by decide +kernel
theorem dX6_isParrot_2 : decode cX6_isParrot 2 = .ok (.lconst 0, 1) := by decide +kernel
theorem dX6_isParrot_3 : decode cX6_isParrot 3 = .ok (.aload_n 0, 1) := by decide +kernel
theorem dX6_isParrot_4 : decode cX6_isParrot 4 = .ok (.getfield 7, 3) := by decide +kernel
theorem dX6_isParrot_7 : decode cX6_isParrot 7 = .ok (.bipush 45, 2) := by decide +kernel
theorem dX6_isParrot_9 : decode cX6_isParrot 9 = .ok (.iaload, 1) := by decide +kernel
theorem dX6_isParrot_10 : decode cX6_isParrot 10 = .ok (.iconst 1, 1) := by decide +kernel
theorem dX6_isParrot_11 : decode cX6_isParrot 11 = .ok (.isub, 1) := by decide +kernel
theorem dX6_isParrot_12 : decode cX6_isParrot 12 = .ok (.i2l, 1) := by decide +kernel
theorem dX6_isParrot_13 : decode cX6_isParrot 13 = .ok (.invokestatic 56, 3) := by decide +kernel
theorem dX6_isParrot_16 : decode cX6_isParrot 16 = .ok (.ireturn, 1) := by decide +kernel
abbrev rmX6_isParrot : Room := { frames := 1, cells := 0, slots := 0, locals := 25 }
def opX6_isParrot (po : Int32 → px_St → Prop) : List (Nat × px_Op) := [
  (0, px_il 1 1),
  (1, px_i2l 2),
  (2, px_push 3 (.long 0)),
  (3, px_al 4 0),
  (4, px_get dM 7 6 0),
  (7, px_push 9 (.int 45)),
  (9, px_ald dM 10 0),
  (10, px_push 11 (.int 1)),
  (11, px_bin 12 (fun x y => x - y)),
  (12, px_i2l 13),
  (13, px_callS 16 3 px_vI prX6_in poX6_in),
  (16, px_iret (.boolean) po)]
set_option maxRecDepth 100000 in
set_option maxHeartbeats 4000000 in
theorem okX6_isParrot : ∀ (po : Int32 → px_St → Prop) (i pc : Nat) (op : px_Op), (opX6_isParrot po)[i]? = some (pc, op) → px_Snd (cX6_isParrot, 2, RX6, Cond.code yX6_isParrot cX6_isParrot 2 (some .boolean) :: wdM, (some .boolean), rmX6_isParrot, dM) px_vI po pc op := by
  intro po
  unfold opX6_isParrot
  refine px_ok_cons (ps_iload_n dX6_isParrot_0 rfl) ?_
  refine px_ok_cons (ps_i2l dX6_isParrot_1) ?_
  refine px_ok_cons (ps_lconst dX6_isParrot_2 (by decide)) ?_
  refine px_ok_cons (ps_aload_n dX6_isParrot_3 rfl) ?_
  refine px_ok_cons (fgX6_7 dX6_isParrot_4) ?_
  refine px_ok_cons (ps_bipush dX6_isParrot_7 (by decide)) ?_
  refine px_ok_cons (ps_iaload dX6_isParrot_9) ?_
  refine px_ok_cons (ps_iconst dX6_isParrot_10 (by decide)) ?_
  refine px_ok_cons (ps_isub dX6_isParrot_11) ?_
  refine px_ok_cons (ps_i2l dX6_isParrot_12) ?_
  refine px_ok_cons (ps_callS mX6_in (fun _ _ => rfl) (fun _ _ ht => px_cwS wgM (wdM_0_in _ (List.mem_of_getElem? (i := 32) rfl)) (wdM_0_in _ (List.mem_of_getElem? (i := 33) rfl)) (wdM_0_in _ (List.mem_of_getElem? (i := 22) rfl)) (wdM_0_in _ (List.mem_of_getElem? (i := 27) rfl)) (by decide +kernel) rfl rfl (by decide) ht) dX6_isParrot_13) ?_
  refine px_ok_cons (ps_ireturn rfl dX6_isParrot_16) ?_
  exact px_ok_nil
set_option maxRecDepth 100000 in
set_option maxHeartbeats 4000000 in
theorem sgX6_isParrot_0 {po : Int32 → px_St → Prop} {G : px_K} (hG : px_cl (opX6_isParrot po) G) (v1 : Int32) (σ : px_St)
    (H : vp_in (45 : Int32) 183 ∧ ∃ g3 : gtX6_in, qrX6_in g3 v1.toInt64 (0 : Int64) (((σ.1 1 (45 : Int32).toNatClampNeg) - (1 : Int32)).toInt64) σ ∧ ∀ (r1 : Int32) (σ2 : px_St), qoX6_in g3 v1.toInt64 (0 : Int64) (((σ.1 1 (45 : Int32).toNatClampNeg) - (1 : Int32)).toInt64) σ r1 σ2 → (r1 = 0 ∨ r1 = 1) ∧ po r1 σ2) :
    G 0 (px_ent 2 [.ref 0, .int v1]) [] σ := by
  refine hG.1 0 _ _ rfl _ _ _ ?_
  refine hG.1 1 _ _ rfl _ _ _ ?_
  refine hG.1 2 _ _ rfl _ _ _ ?_
  refine hG.1 3 _ _ rfl _ _ _ ?_
  refine hG.1 4 _ _ rfl _ _ _ ?_
  refine ⟨⟨rfl, by decide⟩, ?_⟩
  refine hG.1 5 _ _ rfl _ _ _ ?_
  refine hG.1 6 _ _ rfl _ _ _ ?_
  refine ⟨⟨rfl, by decide⟩, H.1, ?_⟩
  replace H := H.2
  refine hG.1 7 _ _ rfl _ _ _ ?_
  refine hG.1 8 _ _ rfl _ _ _ ?_
  refine hG.1 9 _ _ rfl _ _ _ ?_
  refine hG.1 10 _ _ rfl _ _ _ ?_
  obtain ⟨g3, H⟩ := H
  refine ⟨Nat.le_of_ble_eq_true rfl, Nat.le_of_ble_eq_true rfl, g3, ⟨_, _, _, rfl, H.1⟩, fun r1 σ2 hp4 => ?_⟩
  replace H := H.2 r1 σ2 hp4
  refine hG.1 11 _ _ rfl _ _ _ ?_
  exact ⟨(px_bo H.1).1, H.2⟩
set_option maxRecDepth 100000 in
set_option maxHeartbeats 4000000 in
theorem hhX6_isParrot (g : gtX6_isParrot) (v1 : Int32) (σ : px_St) (h : qrX6_isParrot g v1 σ) (G : px_K) (hG : px_cl (opX6_isParrot (qoX6_isParrot g v1 σ)) G) : G 0 (px_ent 2 [.ref 0, .int v1]) [] σ := by
  refine sgX6_isParrot_0 hG _ σ ⟨vpin 45 183 rfl (by omega) (by omega), (), trivial, fun r1 σ1 h1 => ⟨px_b_01 h1.2, ?_⟩⟩
  obtain ⟨rfl, b1⟩ := h1
  rw [c45, h.1.1] at b1
  exact ⟨rfl, in_c (by decide) rfl b1⟩
theorem mX6_isParrot (g : gtX6_isParrot) : px_Met dM yX6_isParrot (Cond.code yX6_isParrot cX6_isParrot 2 (some .boolean) :: wdM) rmX6_isParrot px_vI (prX6_isParrot g) (poX6_isParrot g) :=
  px_met (Z := (cX6_isParrot, 2, RX6, Cond.code yX6_isParrot cX6_isParrot 2 (some .boolean) :: wdM, (some .boolean), rmX6_isParrot, dM)) opX6_isParrot (by decide) rfl rfl okX6_isParrot (fun As σ h => by obtain ⟨v1, rfl, h⟩ := h; exact Nat.le_of_ble_eq_true rfl) (fun As σ h G hG => by obtain ⟨v1, rfl, h⟩ := h; exact hhX6_isParrot g v1 σ h G hG)
abbrev gtX6_isOwn : Type := pv_V
def qrX6_isOwn (V : pv_V) (_ _ : Int32) (σ : px_St) : Prop := mv_is (σ.1 1) V ∧ pv_w V
def qoX6_isOwn (V : pv_V) (p i : Int32) (σ : px_St) (r : Int32) (σ' : px_St) : Prop := σ' = σ ∧ px_b (pv_own V p i) r
def prX6_isOwn (g : gtX6_isOwn) : List Value → px_St → Prop := fun As σ => ∃ v1 : Int32, ∃ v2 : Int32, As = [.ref 0, .int v1, .int v2] ∧ qrX6_isOwn g v1 v2 σ
def poX6_isOwn (g : gtX6_isOwn) : List Value → px_St → Int32 → px_St → Prop
  | [.ref _, .int v1, .int v2], σ, r, σ' => qoX6_isOwn g v1 v2 σ r σ'
  | _, _, _, _ => False
theorem dX6_isOwn_0 : decode cX6_isOwn 0 = .ok (.aload_n 0, 1) := by decide +kernel
theorem dX6_isOwn_1 : decode cX6_isOwn 1 = .ok (.iload_n 1, 1) := by decide +kernel
theorem dX6_isOwn_2 : decode cX6_isOwn 2 = .ok (.invokevirtual 126, 3) := by decide +kernel
theorem dX6_isOwn_5 : decode cX6_isOwn 5 = .ok (.ifCond .eq 30, 3) := by decide +kernel
theorem dX6_isOwn_8 : decode cX6_isOwn 8 = .ok (.iload_n 2, 1) := by decide +kernel
theorem dX6_isOwn_9 : decode cX6_isOwn 9 = .ok (.i2l, 1) := by decide +kernel
theorem dX6_isOwn_10 : decode cX6_isOwn 10 = .ok (.lconst 0, 1) := by decide +kernel
theorem dX6_isOwn_11 : decode cX6_isOwn 11 = .ok (.aload_n 0, 1) := by decide +kernel
theorem dX6_isOwn_12 : decode cX6_isOwn 12 = .ok (.getfield 7, 3) := by decide +kernel
theorem dX6_isOwn_15 : decode cX6_isOwn 15 = .ok (.bipush 9, 2) := by decide +kernel
theorem dX6_isOwn_17 : decode cX6_isOwn 17 = .ok (.iload_n 1, 1) := by decide +kernel
theorem dX6_isOwn_18 : decode cX6_isOwn 18 = .ok (.imul, 1) := by decide +kernel
theorem dX6_isOwn_19 : decode cX6_isOwn 19 = .ok (.iconst 1, 1) := by decide +kernel
theorem dX6_isOwn_20 : decode cX6_isOwn 20 = .ok (.iadd, 1) := by decide +kernel
theorem dX6_isOwn_21 : decode cX6_isOwn 21 = .ok (.iaload, 1) := by decide +kernel
theorem dX6_isOwn_22 : decode cX6_isOwn 22 = .ok (.iconst 1, 1) := by decide +kernel
theorem dX6_isOwn_23 : decode cX6_isOwn 23 = .ok (.isub, 1) := by decide +kernel
theorem dX6_isOwn_24 : decode cX6_isOwn 24 = .ok (.i2l, 1) := by decide +kernel
theorem dX6_isOwn_25 : decode cX6_isOwn 25 = .ok (.invokestatic 56, 3) := by decide +kernel
theorem dX6_isOwn_28 : decode cX6_isOwn 28 = .ok (.ifCond .eq 7, 3) := by decide +kernel
theorem dX6_isOwn_31 : decode cX6_isOwn 31 = .ok (.iconst 1, 1) := by decide +kernel
theorem dX6_isOwn_32 : decode cX6_isOwn 32 = .ok (.goto 4, 3) := by decide +kernel
theorem dX6_isOwn_35 : decode cX6_isOwn 35 = .ok (.iconst 0, 1) := by decide +kernel
theorem dX6_isOwn_36 : decode cX6_isOwn 36 = .ok (.ireturn, 1) := by decide +kernel
abbrev rmX6_isOwn : Room := { frames := 2, cells := 0, slots := 0, locals := 46 }
def opX6_isOwn (po : Int32 → px_St → Prop) : List (Nat × px_Op) := [
  (0, px_al 1 0),
  (1, px_il 2 1),
  (2, px_callV dM 5 6 1 px_vI prX6_isParrot poX6_isParrot),
  (5, px_if 8 35 (fun x => x = 0)),
  (8, px_il 9 2),
  (9, px_i2l 10),
  (10, px_push 11 (.long 0)),
  (11, px_al 12 0),
  (12, px_get dM 15 6 0),
  (15, px_push 17 (.int 9)),
  (17, px_il 18 1),
  (18, px_bin 19 (fun x y => x * y)),
  (19, px_push 20 (.int 1)),
  (20, px_bin 21 (fun x y => x + y)),
  (21, px_ald dM 22 0),
  (22, px_push 23 (.int 1)),
  (23, px_bin 24 (fun x y => x - y)),
  (24, px_i2l 25),
  (25, px_callS 28 3 px_vI prX6_in poX6_in),
  (28, px_if 31 35 (fun x => x = 0)),
  (31, px_push 32 (.int 1)),
  (32, px_go 36),
  (35, px_push 36 (.int 0)),
  (36, px_iret (.boolean) po)]
set_option maxRecDepth 100000 in
set_option maxHeartbeats 4000000 in
theorem okX6_isOwn : ∀ (po : Int32 → px_St → Prop) (i pc : Nat) (op : px_Op), (opX6_isOwn po)[i]? = some (pc, op) → px_Snd (cX6_isOwn, 3, RX6, Cond.code yX6_isOwn cX6_isOwn 3 (some .boolean) :: wdM, (some .boolean), rmX6_isOwn, dM) px_vI po pc op := by
  intro po
  unfold opX6_isOwn
  refine px_ok_cons (ps_aload_n dX6_isOwn_0 rfl) ?_
  refine px_ok_cons (ps_iload_n dX6_isOwn_1 rfl) ?_
  refine px_ok_cons (ps_callV mX6_isParrot (fun _ _ => rfl) (C := RX6) rfl (fun _ _ ht => px_cwV wgM (wdM_2_in _ (List.mem_of_getElem? (i := 7) rfl)) (wdM_2_in _ (List.mem_of_getElem? (i := 8) rfl)) (wdM_2_in _ (List.mem_of_getElem? (i := 9) rfl)) (wdM_0_in _ (List.mem_of_getElem? (i := 22) rfl)) (wdM_2_in _ (List.mem_of_getElem? (i := 3) rfl)) (by decide +kernel) rfl rfl (by decide) ht) dX6_isOwn_2) ?_
  refine px_ok_cons (ps_if_eq dX6_isOwn_5 (by decide)) ?_
  refine px_ok_cons (ps_iload_n dX6_isOwn_8 rfl) ?_
  refine px_ok_cons (ps_i2l dX6_isOwn_9) ?_
  refine px_ok_cons (ps_lconst dX6_isOwn_10 (by decide)) ?_
  refine px_ok_cons (ps_aload_n dX6_isOwn_11 rfl) ?_
  refine px_ok_cons (fgX6_7 dX6_isOwn_12) ?_
  refine px_ok_cons (ps_bipush dX6_isOwn_15 (by decide)) ?_
  refine px_ok_cons (ps_iload_n dX6_isOwn_17 rfl) ?_
  refine px_ok_cons (ps_imul dX6_isOwn_18) ?_
  refine px_ok_cons (ps_iconst dX6_isOwn_19 (by decide)) ?_
  refine px_ok_cons (ps_iadd dX6_isOwn_20) ?_
  refine px_ok_cons (ps_iaload dX6_isOwn_21) ?_
  refine px_ok_cons (ps_iconst dX6_isOwn_22 (by decide)) ?_
  refine px_ok_cons (ps_isub dX6_isOwn_23) ?_
  refine px_ok_cons (ps_i2l dX6_isOwn_24) ?_
  refine px_ok_cons (ps_callS mX6_in (fun _ _ => rfl) (fun _ _ ht => px_cwS wgM (wdM_0_in _ (List.mem_of_getElem? (i := 32) rfl)) (wdM_0_in _ (List.mem_of_getElem? (i := 33) rfl)) (wdM_0_in _ (List.mem_of_getElem? (i := 22) rfl)) (wdM_0_in _ (List.mem_of_getElem? (i := 27) rfl)) (by decide +kernel) rfl rfl (by decide) ht) dX6_isOwn_25) ?_
  refine px_ok_cons (ps_if_eq dX6_isOwn_28 (by decide)) ?_
  refine px_ok_cons (ps_iconst dX6_isOwn_31 (by decide)) ?_
  refine px_ok_cons (ps_goto dX6_isOwn_32 (by decide)) ?_
  refine px_ok_cons (ps_iconst dX6_isOwn_35 (by decide)) ?_
  refine px_ok_cons (ps_ireturn rfl dX6_isOwn_36) ?_
  exact px_ok_nil
set_option maxRecDepth 100000 in
set_option maxHeartbeats 4000000 in
theorem sgX6_isOwn_0 {po : Int32 → px_St → Prop} {G : px_K} (hG : px_cl (opX6_isOwn po) G) (v1 : Int32) (v2 : Int32) (σ : px_St)
    (H : ∃ g3 : gtX6_isParrot, qrX6_isParrot g3 v1 σ ∧ ∀ (r1 : Int32) (σ2 : px_St), qoX6_isParrot g3 v1 σ r1 σ2 → ((r1 = 0) → po (0 : Int32) σ2) ∧ (¬ (r1 = 0) → vp_in (((9 : Int32) * v1) + (1 : Int32)) 183 ∧ ∃ g7 : gtX6_in, qrX6_in g7 v2.toInt64 (0 : Int64) (((σ2.1 1 (((9 : Int32) * v1) + (1 : Int32)).toNatClampNeg) - (1 : Int32)).toInt64) σ2 ∧ ∀ (r5 : Int32) (σ6 : px_St), qoX6_in g7 v2.toInt64 (0 : Int64) (((σ2.1 1 (((9 : Int32) * v1) + (1 : Int32)).toNatClampNeg) - (1 : Int32)).toInt64) σ2 r5 σ6 → ((r5 = 0) → po (0 : Int32) σ6) ∧ (¬ (r5 = 0) → po (1 : Int32) σ6))) :
    G 0 (px_ent 3 [.ref 0, .int v1, .int v2]) [] σ := by
  refine hG.1 0 _ _ rfl _ _ _ ?_
  refine hG.1 1 _ _ rfl _ _ _ ?_
  refine hG.1 2 _ _ rfl _ _ _ ?_
  obtain ⟨g3, H⟩ := H
  refine ⟨⟨rfl, by decide⟩, Nat.le_of_ble_eq_true rfl, g3, ⟨_, rfl, H.1⟩, fun r1 σ2 hp4 => ?_⟩
  replace H := H.2 r1 σ2 hp4
  refine hG.1 3 _ _ rfl _ _ _ ?_
  refine ⟨fun h10 => ?_, fun h10 => ?_⟩
  · replace H := H.1 h10
    refine hG.1 22 _ _ rfl _ _ _ ?_
    refine hG.1 23 _ _ rfl _ _ _ ?_
    exact ⟨rfl, H⟩
  · replace H := H.2 h10
    refine hG.1 4 _ _ rfl _ _ _ ?_
    refine hG.1 5 _ _ rfl _ _ _ ?_
    refine hG.1 6 _ _ rfl _ _ _ ?_
    refine hG.1 7 _ _ rfl _ _ _ ?_
    refine hG.1 8 _ _ rfl _ _ _ ?_
    refine ⟨⟨rfl, by decide⟩, ?_⟩
    refine hG.1 9 _ _ rfl _ _ _ ?_
    refine hG.1 10 _ _ rfl _ _ _ ?_
    refine hG.1 11 _ _ rfl _ _ _ ?_
    refine hG.1 12 _ _ rfl _ _ _ ?_
    refine hG.1 13 _ _ rfl _ _ _ ?_
    refine hG.1 14 _ _ rfl _ _ _ ?_
    refine ⟨⟨rfl, by decide⟩, H.1, ?_⟩
    replace H := H.2
    refine hG.1 15 _ _ rfl _ _ _ ?_
    refine hG.1 16 _ _ rfl _ _ _ ?_
    refine hG.1 17 _ _ rfl _ _ _ ?_
    refine hG.1 18 _ _ rfl _ _ _ ?_
    obtain ⟨g7, H⟩ := H
    refine ⟨Nat.le_of_ble_eq_true rfl, Nat.le_of_ble_eq_true rfl, g7, ⟨_, _, _, rfl, H.1⟩, fun r5 σ6 hp8 => ?_⟩
    replace H := H.2 r5 σ6 hp8
    refine hG.1 19 _ _ rfl _ _ _ ?_
    refine ⟨fun h9 => ?_, fun h9 => ?_⟩
    · replace H := H.1 h9
      refine hG.1 22 _ _ rfl _ _ _ ?_
      refine hG.1 23 _ _ rfl _ _ _ ?_
      exact ⟨rfl, H⟩
    · replace H := H.2 h9
      refine hG.1 20 _ _ rfl _ _ _ ?_
      refine hG.1 21 _ _ rfl _ _ _ ?_
      refine hG.1 23 _ _ rfl _ _ _ ?_
      exact ⟨rfl, H⟩
set_option maxRecDepth 100000 in
set_option maxHeartbeats 4000000 in
theorem hhX6_isOwn (g : gtX6_isOwn) (v1 : Int32) (v2 : Int32) (σ : px_St) (h : qrX6_isOwn g v1 v2 σ) (G : px_K) (hG : px_cl (opX6_isOwn (qoX6_isOwn g v1 v2 σ)) G) : G 0 (px_ent 3 [.ref 0, .int v1, .int v2]) [] σ := by
  obtain ⟨hV, hw⟩ := h
  have h5 := hw.1
  refine sgX6_isOwn_0 hG _ _ σ ⟨g, hV, fun r1 σ1 h1 => ?_⟩
  obtain ⟨rfl, b1⟩ := h1
  refine bz2 b1 (fun z => ?_) (fun z => ⟨rfl, Or.inr ⟨fun q => z q.1, rfl⟩⟩)
  obtain ⟨p, hp, rfl⟩ := (rng1 (by omega)).mp z
  rw [show (9 : Int32) * nI p + 1 = nI (9 * p + 1) from ix9 p 1, nI_clamp (by omega), (hV.2 p hp).2.1]
  refine ⟨vp_in_nI (by omega) (by decide), (), trivial, fun r2 σ2 h2 => ?_⟩
  obtain ⟨rfl, b2⟩ := h2
  have b3 := in_c (a := 0) (by decide) rfl b2
  refine bz2 b3 (fun y => ⟨rfl, Or.inl ⟨⟨z, ?_⟩, rfl⟩⟩) (fun y => ⟨rfl, Or.inr ⟨fun q => y ?_, rfl⟩⟩)
  · rw [nI_clamp (by omega)]; exact y
  · have q2 := q.2
    rw [nI_clamp (by omega)] at q2
    exact q2
theorem mX6_isOwn (g : gtX6_isOwn) : px_Met dM yX6_isOwn (Cond.code yX6_isOwn cX6_isOwn 3 (some .boolean) :: wdM) rmX6_isOwn px_vI (prX6_isOwn g) (poX6_isOwn g) :=
  px_met (Z := (cX6_isOwn, 3, RX6, Cond.code yX6_isOwn cX6_isOwn 3 (some .boolean) :: wdM, (some .boolean), rmX6_isOwn, dM)) opX6_isOwn (by decide) rfl rfl okX6_isOwn (fun As σ h => by obtain ⟨v1, v2, rfl, h⟩ := h; exact Nat.le_of_ble_eq_true rfl) (fun As σ h G hG => by obtain ⟨v1, v2, rfl, h⟩ := h; exact hhX6_isOwn g v1 v2 σ h G hG)
abbrev gtX6_starts : Type := Unit
def qrX6_starts (_ : Unit) (_ : px_St) : Prop := True
def qoX6_starts (_ : Unit) (σ : px_St) (_ : Unit) (σ' : px_St) : Prop := (∀ k, k ≠ 2 → σ'.1 k = σ.1 k) ∧ σ'.2 = σ.2 ∧ ∀ j, j < 61 → σ'.1 2 j = σ.1 1 j
def prX6_starts (g : gtX6_starts) : List Value → px_St → Prop := fun As σ => As = [.ref 0] ∧ qrX6_starts g σ
def poX6_starts (g : gtX6_starts) : List Value → px_St → Unit → px_St → Prop
  | [.ref _], σ, r, σ' => qoX6_starts g σ r σ'
  | _, _, _, _ => False
theorem dX6_starts_0 : decode cX6_starts 0 = .ok (.iconst 0, 1) := by decide +kernel
theorem dX6_starts_1 : decode cX6_starts 1 = .ok (.istore_n 1, 1) := by decide +kernel
theorem dX6_starts_2 : decode cX6_starts 2 = .ok (.iload_n 1, 1) := by decide +kernel
theorem dX6_starts_3 : decode cX6_starts 3 = .ok (.bipush 61, 2) := by decide +kernel
theorem dX6_starts_5 : decode cX6_starts 5 = .ok (.if_icmp .ge 21, 3) := by decide +kernel
theorem dX6_starts_8 : decode cX6_starts 8 = .ok (.aload_n 0, 1) := by decide +kernel
theorem dX6_starts_9 : decode cX6_starts 9 = .ok (.getfield 13, 3) := by decide +kernel
theorem dX6_starts_12 : decode cX6_starts 12 = .ok (.iload_n 1, 1) := by decide +kernel
theorem dX6_starts_13 : decode cX6_starts 13 = .ok (.aload_n 0, 1) := by decide +kernel
theorem dX6_starts_14 : decode cX6_starts 14 = .ok (.getfield 7, 3) := by decide +kernel
theorem dX6_starts_17 : decode cX6_starts 17 = .ok (.iload_n 1, 1) := by decide +kernel
theorem dX6_starts_18 : decode cX6_starts 18 = .ok (.iaload, 1) := by decide +kernel
theorem dX6_starts_19 : decode cX6_starts 19 = .ok (.iastore, 1) := by decide +kernel
theorem dX6_starts_20 : decode cX6_starts 20 = .ok (.iinc 1 1, 3) := by decide +kernel
theorem dX6_starts_23 : decode cX6_starts 23 = .ok (.goto (-21), 3) := by decide +kernel
theorem dX6_starts_26 : decode cX6_starts 26 = .ok (.return_, 1) := by decide +kernel
abbrev rmX6_starts : Room := { frames := 0, cells := 0, slots := 0, locals := 0 }
def opX6_starts (po : Unit → px_St → Prop) : List (Nat × px_Op) := [
  (0, px_push 1 (.int 0)),
  (1, px_is 2 1),
  (2, px_il 3 1),
  (3, px_push 5 (.int 61)),
  (5, px_ic 8 26 (fun x y => y ≤ x)),
  (8, px_al 9 0),
  (9, px_get dM 12 6 1),
  (12, px_il 13 1),
  (13, px_al 14 0),
  (14, px_get dM 17 6 0),
  (17, px_il 18 1),
  (18, px_ald dM 19 0),
  (19, px_ast dM 20 0 (fun x => x)),
  (20, px_inc 23 1 1),
  (23, px_go 2),
  (26, px_vret po)]
set_option maxRecDepth 100000 in
set_option maxHeartbeats 4000000 in
theorem okX6_starts : ∀ (po : Unit → px_St → Prop) (i pc : Nat) (op : px_Op), (opX6_starts po)[i]? = some (pc, op) → px_Snd (cX6_starts, 2, RX6, Cond.code yX6_starts cX6_starts 2 none :: wdM, none, rmX6_starts, dM) px_vV po pc op := by
  intro po
  unfold opX6_starts
  refine px_ok_cons (ps_iconst dX6_starts_0 (by decide)) ?_
  refine px_ok_cons (ps_istore_n dX6_starts_1 rfl (by decide)) ?_
  refine px_ok_cons (ps_iload_n dX6_starts_2 rfl) ?_
  refine px_ok_cons (ps_bipush dX6_starts_3 (by decide)) ?_
  refine px_ok_cons (ps_icmp_ge dX6_starts_5 (by decide)) ?_
  refine px_ok_cons (ps_aload_n dX6_starts_8 rfl) ?_
  refine px_ok_cons (fgX6_13 dX6_starts_9) ?_
  refine px_ok_cons (ps_iload_n dX6_starts_12 rfl) ?_
  refine px_ok_cons (ps_aload_n dX6_starts_13 rfl) ?_
  refine px_ok_cons (fgX6_7 dX6_starts_14) ?_
  refine px_ok_cons (ps_iload_n dX6_starts_17 rfl) ?_
  refine px_ok_cons (ps_iaload dX6_starts_18) ?_
  refine px_ok_cons (ps_iastore dX6_starts_19) ?_
  refine px_ok_cons (ps_iinc dX6_starts_20 (by decide) (by decide)) ?_
  refine px_ok_cons (ps_goto dX6_starts_23 (by decide)) ?_
  refine px_ok_cons (ps_return rfl dX6_starts_26) ?_
  exact px_ok_nil
set_option maxRecDepth 100000 in
set_option maxHeartbeats 4000000 in
theorem sgX6_starts_0 {po : Unit → px_St → Prop} {G : px_K} (hG : px_cl (opX6_starts po) G) (σ : px_St)
    (H : G 2 [some (.ref 0), some (.int (0 : Int32))] [] σ) :
    G 0 (px_ent 2 [.ref 0]) [] σ := by
  refine hG.1 0 _ _ rfl _ _ _ ?_
  refine hG.1 1 _ _ rfl _ _ _ ?_
  show G 2 [some (.ref 0), some (.int (0 : Int32))] [] σ
  exact H
set_option maxRecDepth 100000 in
set_option maxHeartbeats 4000000 in
theorem sgX6_starts_2 {po : Unit → px_St → Prop} {G : px_K} (hG : px_cl (opX6_starts po) G) (v1 : Int32) (σ : px_St)
    (H : (((61 : Int32) ≤ v1) → po () σ) ∧ (¬ ((61 : Int32) ≤ v1) → vp_in v1 183 ∧ vp_in v1 61 ∧ G 2 [some (.ref 0), some (.int (v1 + 1))] [] (px_up σ 2 v1.toNatClampNeg (σ.1 1 v1.toNatClampNeg)))) :
    G 2 [some (.ref 0), some (.int v1)] [] σ := by
  refine hG.1 2 _ _ rfl _ _ _ ?_
  refine hG.1 3 _ _ rfl _ _ _ ?_
  refine hG.1 4 _ _ rfl _ _ _ ?_
  refine ⟨fun h1 => ?_, fun h1 => ?_⟩
  · replace H := H.1 h1
    refine hG.1 15 _ _ rfl _ _ _ ?_
    exact H
  · replace H := H.2 h1
    refine hG.1 5 _ _ rfl _ _ _ ?_
    refine hG.1 6 _ _ rfl _ _ _ ?_
    refine ⟨⟨rfl, by decide⟩, ?_⟩
    refine hG.1 7 _ _ rfl _ _ _ ?_
    refine hG.1 8 _ _ rfl _ _ _ ?_
    refine hG.1 9 _ _ rfl _ _ _ ?_
    refine ⟨⟨rfl, by decide⟩, ?_⟩
    refine hG.1 10 _ _ rfl _ _ _ ?_
    refine hG.1 11 _ _ rfl _ _ _ ?_
    refine ⟨⟨rfl, by decide⟩, H.1, ?_⟩
    replace H := H.2
    refine hG.1 12 _ _ rfl _ _ _ ?_
    refine ⟨⟨rfl, by decide⟩, H.1, ?_⟩
    replace H := H.2
    refine hG.1 13 _ _ rfl _ _ _ ?_
    show G 23 [some (.ref 0), some (.int (v1 + 1))] [] (px_up σ 2 v1.toNatClampNeg (σ.1 1 v1.toNatClampNeg))
    refine hG.1 14 _ _ rfl _ _ _ ?_
    exact H
set_option maxRecDepth 100000 in
set_option maxHeartbeats 4000000 in
theorem hhX6_starts (g : gtX6_starts) (σ : px_St) (h : qrX6_starts g σ) (G : px_K) (hG : px_cl (opX6_starts (qoX6_starts g σ)) G) : G 0 (px_ent 2 [.ref 0]) [] σ := by
  refine sgX6_starts_0 hG σ ?_
  have loop : ∀ n i, i + n = 61 → ∀ σ', (∀ k, k ≠ 2 → σ'.1 k = σ.1 k) → σ'.2 = σ.2 → (∀ j, j < i → σ'.1 2 j = σ.1 1 j) → G 2 [some (.ref 0), some (.int (nI i))] [] σ' := by
    intro n
    induction n with
    | zero =>
      intro i hi σ' h1 h2 h3
      exact sgX6_starts_2 hG _ σ' ⟨fun _ => ⟨h1, h2, fun j hj => h3 j (by omega)⟩, fun z => absurd ((nIle 61 i rfl rfl (by omega) (by omega)).mpr (by omega)) z⟩
    | succ n ih =>
      intro i hi σ' h1 h2 h3
      refine sgX6_starts_2 hG _ σ' ⟨fun z => absurd ((nIle 61 i rfl rfl (by omega) (by omega)).mp z) (by omega), fun _ => ⟨vp_in_nI (by omega) (by decide), vp_in_nI (by omega) (by decide), ?_⟩⟩
      rw [nI_clamp (by omega), nI_1, h1 1 (by omega)]
      refine ih (i + 1) (by omega) _ (fun k hk => by rw [px_up_n hk]; exact h1 k hk) h2 (fun j hj => ?_)
      rw [px_up_at]
      by_cases hji : j = i
      · rw [if_pos ⟨rfl, hji⟩, hji]
      · rw [if_neg (by omega)]; exact h3 j (by omega)
  exact loop 61 0 (by omega) σ (fun _ _ => rfl) rfl (fun j hj => by omega)
theorem mX6_starts (g : gtX6_starts) : px_Met dM yX6_starts (Cond.code yX6_starts cX6_starts 2 none :: wdM) rmX6_starts px_vV (prX6_starts g) (poX6_starts g) :=
  px_met (Z := (cX6_starts, 2, RX6, Cond.code yX6_starts cX6_starts 2 none :: wdM, none, rmX6_starts, dM)) opX6_starts (by decide) rfl rfl okX6_starts (fun As σ h => by obtain ⟨rfl, h⟩ := h; exact Nat.le_of_ble_eq_true rfl) (fun As σ h G hG => by obtain ⟨rfl, h⟩ := h; exact hhX6_starts g σ h G hG)
abbrev gtX6_settles : Type := Unit
def qrX6_settles (_ : Unit) (_ : px_St) : Prop := True
def qoX6_settles (_ : Unit) (σ : px_St) (_ : Unit) (σ' : px_St) : Prop := (∀ k, k ≠ 1 → σ'.1 k = σ.1 k) ∧ σ'.2 = σ.2 ∧ (∀ j, j < 61 → σ'.1 1 j = σ.1 2 j) ∧ ∀ j, 61 ≤ j → σ'.1 1 j = σ.1 1 j
def prX6_settles (g : gtX6_settles) : List Value → px_St → Prop := fun As σ => As = [.ref 0] ∧ qrX6_settles g σ
def poX6_settles (g : gtX6_settles) : List Value → px_St → Unit → px_St → Prop
  | [.ref _], σ, r, σ' => qoX6_settles g σ r σ'
  | _, _, _, _ => False
theorem dX6_settles_0 : decode cX6_settles 0 = .ok (.iconst 0, 1) := by decide +kernel
theorem dX6_settles_1 : decode cX6_settles 1 = .ok (.istore_n 1, 1) := by decide +kernel
theorem dX6_settles_2 : decode cX6_settles 2 = .ok (.iload_n 1, 1) := by decide +kernel
theorem dX6_settles_3 : decode cX6_settles 3 = .ok (.bipush 61, 2) := by decide +kernel
theorem dX6_settles_5 : decode cX6_settles 5 = .ok (.if_icmp .ge 21, 3) := by decide +kernel
theorem dX6_settles_8 : decode cX6_settles 8 = .ok (.aload_n 0, 1) := by decide +kernel
theorem dX6_settles_9 : decode cX6_settles 9 = .ok (.getfield 7, 3) := by decide +kernel
theorem dX6_settles_12 : decode cX6_settles 12 = .ok (.iload_n 1, 1) := by decide +kernel
theorem dX6_settles_13 : decode cX6_settles 13 = .ok (.aload_n 0, 1) := by decide +kernel
theorem dX6_settles_14 : decode cX6_settles 14 = .ok (.getfield 13, 3) := by decide +kernel
theorem dX6_settles_17 : decode cX6_settles 17 = .ok (.iload_n 1, 1) := by decide +kernel
theorem dX6_settles_18 : decode cX6_settles 18 = .ok (.iaload, 1) := by decide +kernel
theorem dX6_settles_19 : decode cX6_settles 19 = .ok (.iastore, 1) := by decide +kernel
theorem dX6_settles_20 : decode cX6_settles 20 = .ok (.iinc 1 1, 3) := by decide +kernel
theorem dX6_settles_23 : decode cX6_settles 23 = .ok (.goto (-21), 3) := by decide +kernel
theorem dX6_settles_26 : decode cX6_settles 26 = .ok (.return_, 1) := by decide +kernel
abbrev rmX6_settles : Room := { frames := 0, cells := 0, slots := 0, locals := 0 }
def opX6_settles (po : Unit → px_St → Prop) : List (Nat × px_Op) := [
  (0, px_push 1 (.int 0)),
  (1, px_is 2 1),
  (2, px_il 3 1),
  (3, px_push 5 (.int 61)),
  (5, px_ic 8 26 (fun x y => y ≤ x)),
  (8, px_al 9 0),
  (9, px_get dM 12 6 0),
  (12, px_il 13 1),
  (13, px_al 14 0),
  (14, px_get dM 17 6 1),
  (17, px_il 18 1),
  (18, px_ald dM 19 0),
  (19, px_ast dM 20 0 (fun x => x)),
  (20, px_inc 23 1 1),
  (23, px_go 2),
  (26, px_vret po)]
set_option maxRecDepth 100000 in
set_option maxHeartbeats 4000000 in
theorem okX6_settles : ∀ (po : Unit → px_St → Prop) (i pc : Nat) (op : px_Op), (opX6_settles po)[i]? = some (pc, op) → px_Snd (cX6_settles, 2, RX6, Cond.code yX6_settles cX6_settles 2 none :: wdM, none, rmX6_settles, dM) px_vV po pc op := by
  intro po
  unfold opX6_settles
  refine px_ok_cons (ps_iconst dX6_settles_0 (by decide)) ?_
  refine px_ok_cons (ps_istore_n dX6_settles_1 rfl (by decide)) ?_
  refine px_ok_cons (ps_iload_n dX6_settles_2 rfl) ?_
  refine px_ok_cons (ps_bipush dX6_settles_3 (by decide)) ?_
  refine px_ok_cons (ps_icmp_ge dX6_settles_5 (by decide)) ?_
  refine px_ok_cons (ps_aload_n dX6_settles_8 rfl) ?_
  refine px_ok_cons (fgX6_7 dX6_settles_9) ?_
  refine px_ok_cons (ps_iload_n dX6_settles_12 rfl) ?_
  refine px_ok_cons (ps_aload_n dX6_settles_13 rfl) ?_
  refine px_ok_cons (fgX6_13 dX6_settles_14) ?_
  refine px_ok_cons (ps_iload_n dX6_settles_17 rfl) ?_
  refine px_ok_cons (ps_iaload dX6_settles_18) ?_
  refine px_ok_cons (ps_iastore dX6_settles_19) ?_
  refine px_ok_cons (ps_iinc dX6_settles_20 (by decide) (by decide)) ?_
  refine px_ok_cons (ps_goto dX6_settles_23 (by decide)) ?_
  refine px_ok_cons (ps_return rfl dX6_settles_26) ?_
  exact px_ok_nil
set_option maxRecDepth 100000 in
set_option maxHeartbeats 4000000 in
theorem sgX6_settles_0 {po : Unit → px_St → Prop} {G : px_K} (hG : px_cl (opX6_settles po) G) (σ : px_St)
    (H : G 2 [some (.ref 0), some (.int (0 : Int32))] [] σ) :
    G 0 (px_ent 2 [.ref 0]) [] σ := by
  refine hG.1 0 _ _ rfl _ _ _ ?_
  refine hG.1 1 _ _ rfl _ _ _ ?_
  show G 2 [some (.ref 0), some (.int (0 : Int32))] [] σ
  exact H
set_option maxRecDepth 100000 in
set_option maxHeartbeats 4000000 in
theorem sgX6_settles_2 {po : Unit → px_St → Prop} {G : px_K} (hG : px_cl (opX6_settles po) G) (v1 : Int32) (σ : px_St)
    (H : (((61 : Int32) ≤ v1) → po () σ) ∧ (¬ ((61 : Int32) ≤ v1) → vp_in v1 61 ∧ vp_in v1 183 ∧ G 2 [some (.ref 0), some (.int (v1 + 1))] [] (px_up σ 1 v1.toNatClampNeg (σ.1 2 v1.toNatClampNeg)))) :
    G 2 [some (.ref 0), some (.int v1)] [] σ := by
  refine hG.1 2 _ _ rfl _ _ _ ?_
  refine hG.1 3 _ _ rfl _ _ _ ?_
  refine hG.1 4 _ _ rfl _ _ _ ?_
  refine ⟨fun h1 => ?_, fun h1 => ?_⟩
  · replace H := H.1 h1
    refine hG.1 15 _ _ rfl _ _ _ ?_
    exact H
  · replace H := H.2 h1
    refine hG.1 5 _ _ rfl _ _ _ ?_
    refine hG.1 6 _ _ rfl _ _ _ ?_
    refine ⟨⟨rfl, by decide⟩, ?_⟩
    refine hG.1 7 _ _ rfl _ _ _ ?_
    refine hG.1 8 _ _ rfl _ _ _ ?_
    refine hG.1 9 _ _ rfl _ _ _ ?_
    refine ⟨⟨rfl, by decide⟩, ?_⟩
    refine hG.1 10 _ _ rfl _ _ _ ?_
    refine hG.1 11 _ _ rfl _ _ _ ?_
    refine ⟨⟨rfl, by decide⟩, H.1, ?_⟩
    replace H := H.2
    refine hG.1 12 _ _ rfl _ _ _ ?_
    refine ⟨⟨rfl, by decide⟩, H.1, ?_⟩
    replace H := H.2
    refine hG.1 13 _ _ rfl _ _ _ ?_
    show G 23 [some (.ref 0), some (.int (v1 + 1))] [] (px_up σ 1 v1.toNatClampNeg (σ.1 2 v1.toNatClampNeg))
    refine hG.1 14 _ _ rfl _ _ _ ?_
    exact H
set_option maxRecDepth 100000 in
set_option maxHeartbeats 4000000 in
theorem hhX6_settles (g : gtX6_settles) (σ : px_St) (h : qrX6_settles g σ) (G : px_K) (hG : px_cl (opX6_settles (qoX6_settles g σ)) G) : G 0 (px_ent 2 [.ref 0]) [] σ := by
  refine sgX6_settles_0 hG σ ?_
  have loop : ∀ n i, i + n = 61 → ∀ σ', (∀ k, k ≠ 1 → σ'.1 k = σ.1 k) → σ'.2 = σ.2 → (∀ j, j < i → σ'.1 1 j = σ.1 2 j) → (∀ j, i ≤ j → σ'.1 1 j = σ.1 1 j) → G 2 [some (.ref 0), some (.int (nI i))] [] σ' := by
    intro n
    induction n with
    | zero =>
      intro i hi σ' h1 h2 h3 h4
      exact sgX6_settles_2 hG _ σ' ⟨fun _ => ⟨h1, h2, fun j hj => h3 j (by omega), fun j hj => h4 j (by omega)⟩, fun z => absurd ((nIle 61 i rfl rfl (by omega) (by omega)).mpr (by omega)) z⟩
    | succ n ih =>
      intro i hi σ' h1 h2 h3 h4
      refine sgX6_settles_2 hG _ σ' ⟨fun z => absurd ((nIle 61 i rfl rfl (by omega) (by omega)).mp z) (by omega), fun _ => ⟨vp_in_nI (by omega) (by decide), vp_in_nI (by omega) (by decide), ?_⟩⟩
      rw [nI_clamp (by omega), nI_1, h1 2 (by omega)]
      refine ih (i + 1) (by omega) _ (fun k hk => by rw [px_up_n hk]; exact h1 k hk) h2 (fun j hj => ?_) (fun j hj => ?_)
      · rw [px_up_at]
        by_cases hji : j = i
        · rw [if_pos ⟨rfl, hji⟩, hji]
        · rw [if_neg (by omega)]; exact h3 j (by omega)
      · rw [px_up_at, if_neg (by omega)]; exact h4 j (by omega)
  exact loop 61 0 (by omega) σ (fun _ _ => rfl) rfl (fun j hj => by omega) (fun _ _ => rfl)
theorem mX6_settles (g : gtX6_settles) : px_Met dM yX6_settles (Cond.code yX6_settles cX6_settles 2 none :: wdM) rmX6_settles px_vV (prX6_settles g) (poX6_settles g) :=
  px_met (Z := (cX6_settles, 2, RX6, Cond.code yX6_settles cX6_settles 2 none :: wdM, none, rmX6_settles, dM)) opX6_settles (by decide) rfl rfl okX6_settles (fun As σ h => by obtain ⟨rfl, h⟩ := h; exact Nat.le_of_ble_eq_true rfl) (fun As σ h G hG => by obtain ⟨rfl, h⟩ := h; exact hhX6_settles g σ h G hG)
abbrev gtX6_of : Type := Nat
def qrX6_of (j : Nat) (v1 v2 : Int32) (_ : px_St) : Prop := j < 61 ∧ (9 : Int32) * v1 + v2 = nI j
def qoX6_of (j : Nat) (_ _ : Int32) (σ : px_St) (r : Int32) (σ' : px_St) : Prop := σ' = σ ∧ r = σ.1 2 j
def prX6_of (g : gtX6_of) : List Value → px_St → Prop := fun As σ => ∃ v1 : Int32, ∃ v2 : Int32, As = [.ref 0, .int v1, .int v2] ∧ qrX6_of g v1 v2 σ
def poX6_of (g : gtX6_of) : List Value → px_St → Int32 → px_St → Prop
  | [.ref _, .int v1, .int v2], σ, r, σ' => qoX6_of g v1 v2 σ r σ'
  | _, _, _, _ => False
theorem dX6_of_0 : decode cX6_of 0 = .ok (.aload_n 0, 1) := by decide +kernel
theorem dX6_of_1 : decode cX6_of 1 = .ok (.getfield 13, 3) := by decide +kernel
theorem dX6_of_4 : decode cX6_of 4 = .ok (.bipush 9, 2) := by decide +kernel
theorem dX6_of_6 : decode cX6_of 6 = .ok (.iload_n 1, 1) := by decide +kernel
theorem dX6_of_7 : decode cX6_of 7 = .ok (.imul, 1) := by decide +kernel
theorem dX6_of_8 : decode cX6_of 8 = .ok (.iload_n 2, 1) := by decide +kernel
theorem dX6_of_9 : decode cX6_of 9 = .ok (.iadd, 1) := by decide +kernel
theorem dX6_of_10 : decode cX6_of 10 = .ok (.iaload, 1) := by decide +kernel
theorem dX6_of_11 : decode cX6_of 11 = .ok (.ireturn, 1) := by decide +kernel
abbrev rmX6_of : Room := { frames := 0, cells := 0, slots := 0, locals := 0 }
def opX6_of (po : Int32 → px_St → Prop) : List (Nat × px_Op) := [
  (0, px_al 1 0),
  (1, px_get dM 4 6 1),
  (4, px_push 6 (.int 9)),
  (6, px_il 7 1),
  (7, px_bin 8 (fun x y => x * y)),
  (8, px_il 9 2),
  (9, px_bin 10 (fun x y => x + y)),
  (10, px_ald dM 11 0),
  (11, px_iret (.int) po)]
set_option maxRecDepth 100000 in
set_option maxHeartbeats 4000000 in
theorem okX6_of : ∀ (po : Int32 → px_St → Prop) (i pc : Nat) (op : px_Op), (opX6_of po)[i]? = some (pc, op) → px_Snd (cX6_of, 3, RX6, Cond.code yX6_of cX6_of 3 (some .int) :: wdM, (some .int), rmX6_of, dM) px_vI po pc op := by
  intro po
  unfold opX6_of
  refine px_ok_cons (ps_aload_n dX6_of_0 rfl) ?_
  refine px_ok_cons (fgX6_13 dX6_of_1) ?_
  refine px_ok_cons (ps_bipush dX6_of_4 (by decide)) ?_
  refine px_ok_cons (ps_iload_n dX6_of_6 rfl) ?_
  refine px_ok_cons (ps_imul dX6_of_7) ?_
  refine px_ok_cons (ps_iload_n dX6_of_8 rfl) ?_
  refine px_ok_cons (ps_iadd dX6_of_9) ?_
  refine px_ok_cons (ps_iaload dX6_of_10) ?_
  refine px_ok_cons (ps_ireturn rfl dX6_of_11) ?_
  exact px_ok_nil
set_option maxRecDepth 100000 in
set_option maxHeartbeats 4000000 in
theorem sgX6_of_0 {po : Int32 → px_St → Prop} {G : px_K} (hG : px_cl (opX6_of po) G) (v1 : Int32) (v2 : Int32) (σ : px_St)
    (H : vp_in (((9 : Int32) * v1) + v2) 61 ∧ po (σ.1 2 (((9 : Int32) * v1) + v2).toNatClampNeg) σ) :
    G 0 (px_ent 3 [.ref 0, .int v1, .int v2]) [] σ := by
  refine hG.1 0 _ _ rfl _ _ _ ?_
  refine hG.1 1 _ _ rfl _ _ _ ?_
  refine ⟨⟨rfl, by decide⟩, ?_⟩
  refine hG.1 2 _ _ rfl _ _ _ ?_
  refine hG.1 3 _ _ rfl _ _ _ ?_
  refine hG.1 4 _ _ rfl _ _ _ ?_
  refine hG.1 5 _ _ rfl _ _ _ ?_
  refine hG.1 6 _ _ rfl _ _ _ ?_
  refine hG.1 7 _ _ rfl _ _ _ ?_
  refine ⟨⟨rfl, by decide⟩, H.1, ?_⟩
  replace H := H.2
  refine hG.1 8 _ _ rfl _ _ _ ?_
  exact ⟨rfl, H⟩
set_option maxRecDepth 100000 in
set_option maxHeartbeats 4000000 in
theorem hhX6_of (g : gtX6_of) (v1 : Int32) (v2 : Int32) (σ : px_St) (h : qrX6_of g v1 v2 σ) (G : px_K) (hG : px_cl (opX6_of (qoX6_of g v1 v2 σ)) G) : G 0 (px_ent 3 [.ref 0, .int v1, .int v2]) [] σ := by
  obtain ⟨hj, e⟩ := h
  refine sgX6_of_0 hG _ _ σ ?_
  rw [e, nI_clamp (by omega)]
  exact ⟨vp_in_nI hj (by decide), rfl, rfl⟩
theorem mX6_of (g : gtX6_of) : px_Met dM yX6_of (Cond.code yX6_of cX6_of 3 (some .int) :: wdM) rmX6_of px_vI (prX6_of g) (poX6_of g) :=
  px_met (Z := (cX6_of, 3, RX6, Cond.code yX6_of cX6_of 3 (some .int) :: wdM, (some .int), rmX6_of, dM)) opX6_of (by decide) rfl rfl okX6_of (fun As σ h => by obtain ⟨v1, v2, rfl, h⟩ := h; exact Nat.le_of_ble_eq_true rfl) (fun As σ h G hG => by obtain ⟨v1, v2, rfl, h⟩ := h; exact hhX6_of g v1 v2 σ h G hG)
abbrev gtX6_becomesOf : Type := Nat
def qrX6_becomesOf (j : Nat) (v1 v2 _ : Int32) (_ : px_St) : Prop := j < 61 ∧ (9 : Int32) * v1 + v2 = nI j
def qoX6_becomesOf (j : Nat) (_ _ x : Int32) (σ : px_St) (_ : Unit) (σ' : px_St) : Prop := σ' = px_up σ 2 j x
def prX6_becomesOf (g : gtX6_becomesOf) : List Value → px_St → Prop := fun As σ => ∃ v1 : Int32, ∃ v2 : Int32, ∃ v3 : Int32, As = [.ref 0, .int v1, .int v2, .int v3] ∧ qrX6_becomesOf g v1 v2 v3 σ
def poX6_becomesOf (g : gtX6_becomesOf) : List Value → px_St → Unit → px_St → Prop
  | [.ref _, .int v1, .int v2, .int v3], σ, r, σ' => qoX6_becomesOf g v1 v2 v3 σ r σ'
  | _, _, _, _ => False
theorem dX6_becomesOf_0 : decode cX6_becomesOf 0 = .ok (.aload_n 0, 1) := by decide +kernel
theorem dX6_becomesOf_1 : decode cX6_becomesOf 1 = .ok (.getfield 13, 3) := by decide +kernel
theorem dX6_becomesOf_4 : decode cX6_becomesOf 4 = .ok (.bipush 9, 2) := by decide +kernel
theorem dX6_becomesOf_6 : decode cX6_becomesOf 6 = .ok (.iload_n 1, 1) := by decide +kernel
theorem dX6_becomesOf_7 : decode cX6_becomesOf 7 = .ok (.imul, 1) := by decide +kernel
theorem dX6_becomesOf_8 : decode cX6_becomesOf 8 = .ok (.iload_n 2, 1) := by decide +kernel
theorem dX6_becomesOf_9 : decode cX6_becomesOf 9 = .ok (.iadd, 1) := by decide +kernel
theorem dX6_becomesOf_10 : decode cX6_becomesOf 10 = .ok (.iload_n 3, 1) := by decide +kernel
theorem dX6_becomesOf_11 : decode cX6_becomesOf 11 = .ok (.iastore, 1) := by decide +kernel
theorem dX6_becomesOf_12 : decode cX6_becomesOf 12 = .ok (.return_, 1) := by decide +kernel
abbrev rmX6_becomesOf : Room := { frames := 0, cells := 0, slots := 0, locals := 0 }
def opX6_becomesOf (po : Unit → px_St → Prop) : List (Nat × px_Op) := [
  (0, px_al 1 0),
  (1, px_get dM 4 6 1),
  (4, px_push 6 (.int 9)),
  (6, px_il 7 1),
  (7, px_bin 8 (fun x y => x * y)),
  (8, px_il 9 2),
  (9, px_bin 10 (fun x y => x + y)),
  (10, px_il 11 3),
  (11, px_ast dM 12 0 (fun x => x)),
  (12, px_vret po)]
set_option maxRecDepth 100000 in
set_option maxHeartbeats 4000000 in
theorem okX6_becomesOf : ∀ (po : Unit → px_St → Prop) (i pc : Nat) (op : px_Op), (opX6_becomesOf po)[i]? = some (pc, op) → px_Snd (cX6_becomesOf, 4, RX6, Cond.code yX6_becomesOf cX6_becomesOf 4 none :: wdM, none, rmX6_becomesOf, dM) px_vV po pc op := by
  intro po
  unfold opX6_becomesOf
  refine px_ok_cons (ps_aload_n dX6_becomesOf_0 rfl) ?_
  refine px_ok_cons (fgX6_13 dX6_becomesOf_1) ?_
  refine px_ok_cons (ps_bipush dX6_becomesOf_4 (by decide)) ?_
  refine px_ok_cons (ps_iload_n dX6_becomesOf_6 rfl) ?_
  refine px_ok_cons (ps_imul dX6_becomesOf_7) ?_
  refine px_ok_cons (ps_iload_n dX6_becomesOf_8 rfl) ?_
  refine px_ok_cons (ps_iadd dX6_becomesOf_9) ?_
  refine px_ok_cons (ps_iload_n dX6_becomesOf_10 rfl) ?_
  refine px_ok_cons (ps_iastore dX6_becomesOf_11) ?_
  refine px_ok_cons (ps_return rfl dX6_becomesOf_12) ?_
  exact px_ok_nil
set_option maxRecDepth 100000 in
set_option maxHeartbeats 4000000 in
theorem sgX6_becomesOf_0 {po : Unit → px_St → Prop} {G : px_K} (hG : px_cl (opX6_becomesOf po) G) (v1 : Int32) (v2 : Int32) (v3 : Int32) (σ : px_St)
    (H : vp_in (((9 : Int32) * v1) + v2) 61 ∧ po () (px_up σ 2 (((9 : Int32) * v1) + v2).toNatClampNeg v3)) :
    G 0 (px_ent 4 [.ref 0, .int v1, .int v2, .int v3]) [] σ := by
  refine hG.1 0 _ _ rfl _ _ _ ?_
  refine hG.1 1 _ _ rfl _ _ _ ?_
  refine ⟨⟨rfl, by decide⟩, ?_⟩
  refine hG.1 2 _ _ rfl _ _ _ ?_
  refine hG.1 3 _ _ rfl _ _ _ ?_
  refine hG.1 4 _ _ rfl _ _ _ ?_
  refine hG.1 5 _ _ rfl _ _ _ ?_
  refine hG.1 6 _ _ rfl _ _ _ ?_
  refine hG.1 7 _ _ rfl _ _ _ ?_
  refine hG.1 8 _ _ rfl _ _ _ ?_
  refine ⟨⟨rfl, by decide⟩, H.1, ?_⟩
  replace H := H.2
  refine hG.1 9 _ _ rfl _ _ _ ?_
  exact H
set_option maxRecDepth 100000 in
set_option maxHeartbeats 4000000 in
theorem hhX6_becomesOf (g : gtX6_becomesOf) (v1 : Int32) (v2 : Int32) (v3 : Int32) (σ : px_St) (h : qrX6_becomesOf g v1 v2 v3 σ) (G : px_K) (hG : px_cl (opX6_becomesOf (qoX6_becomesOf g v1 v2 v3 σ)) G) : G 0 (px_ent 4 [.ref 0, .int v1, .int v2, .int v3]) [] σ := by
  obtain ⟨hj, e⟩ := h
  refine sgX6_becomesOf_0 hG _ _ _ σ ?_
  rw [e, nI_clamp (by omega)]
  exact ⟨vp_in_nI hj (by decide), rfl⟩
theorem mX6_becomesOf (g : gtX6_becomesOf) : px_Met dM yX6_becomesOf (Cond.code yX6_becomesOf cX6_becomesOf 4 none :: wdM) rmX6_becomesOf px_vV (prX6_becomesOf g) (poX6_becomesOf g) :=
  px_met (Z := (cX6_becomesOf, 4, RX6, Cond.code yX6_becomesOf cX6_becomesOf 4 none :: wdM, none, rmX6_becomesOf, dM)) opX6_becomesOf (by decide) rfl rfl okX6_becomesOf (fun As σ h => by obtain ⟨v1, v2, v3, rfl, h⟩ := h; exact Nat.le_of_ble_eq_true rfl) (fun As σ h G hG => by obtain ⟨v1, v2, v3, rfl, h⟩ := h; exact hhX6_becomesOf g v1 v2 v3 σ h G hG)
theorem ix93 (p i : Nat) : (9 : Int32) * nI p + (3 + nI i) = nI (9 * p + 3 + i) := by
  rw [show (3 : Int32) = nI 3 from rfl, nI_add, ix9, Nat.add_assoc]
abbrev gtX6_hasSound : Type := pv_V × Nat × Nat
def qrX6_hasSound : gtX6_hasSound → Int32 → Int32 → px_St → Prop
  | (V, p, s), v1, v2, σ => mv_is (σ.1 2) V ∧ pv_w V ∧ p < V.1 ∧ s ≤ 9 ∧ v1 = nI p ∧ v2 = nI s
def qoX6_hasSound : gtX6_hasSound → Int32 → Int32 → px_St → Int32 → px_St → Prop
  | (V, p, s), _, _, σ, r, σ' => σ' = σ ∧ px_b (s ∈ (V.2.2.2 p).2.2) r
theorem take_mem {m : List Nat} {k x s : Nat} (h : m[k]? = some x) : s ∈ m.take (k + 1) ↔ s ∈ m.take k ∨ s = x := by
  rw [List.take_add_one, h]
  simp
def prX6_hasSound (g : gtX6_hasSound) : List Value → px_St → Prop := fun As σ => ∃ v1 : Int32, ∃ v2 : Int32, As = [.ref 0, .int v1, .int v2] ∧ qrX6_hasSound g v1 v2 σ
def poX6_hasSound (g : gtX6_hasSound) : List Value → px_St → Int32 → px_St → Prop
  | [.ref _, .int v1, .int v2], σ, r, σ' => qoX6_hasSound g v1 v2 σ r σ'
  | _, _, _, _ => False
theorem dX6_hasSound_0 : decode cX6_hasSound 0 = .ok (.iconst 0, 1) := by decide +kernel
theorem dX6_hasSound_1 : decode cX6_hasSound 1 = .ok (.istore_n 3, 1) := by decide +kernel
theorem dX6_hasSound_2 : decode cX6_hasSound 2 = .ok (.iconst 0, 1) := by decide +kernel
theorem dX6_hasSound_3 : decode cX6_hasSound 3 = .ok (.istore 4, 2) := by decide +kernel
theorem dX6_hasSound_5 : decode cX6_hasSound 5 = .ok (.iload 4, 2) := by decide +kernel
theorem dX6_hasSound_7 : decode cX6_hasSound 7 = .ok (.aload_n 0, 1) := by decide +kernel
theorem dX6_hasSound_8 : decode cX6_hasSound 8 = .ok (.iload_n 1, 1) := by decide +kernel
theorem dX6_hasSound_9 : decode cX6_hasSound 9 = .ok (.iconst 1, 1) := by decide +kernel
theorem dX6_hasSound_10 : decode cX6_hasSound 10 = .ok (.invokevirtual 130, 3) := by decide +kernel
theorem dX6_hasSound_13 : decode cX6_hasSound 13 = .ok (.if_icmp .ge 32, 3) := by decide +kernel
theorem dX6_hasSound_16 : decode cX6_hasSound 16 = .ok (.iload_n 3, 1) := by decide +kernel
theorem dX6_hasSound_17 : decode cX6_hasSound 17 = .ok (.ifCond .ne 16, 3) := by decide +kernel
theorem dX6_hasSound_20 : decode cX6_hasSound 20 = .ok (.aload_n 0, 1) := by decide +kernel
theorem dX6_hasSound_21 : decode cX6_hasSound 21 = .ok (.iload_n 1, 1) := by decide +kernel
theorem dX6_hasSound_22 : decode cX6_hasSound 22 = .ok (.iconst 3, 1) := by decide +kernel
theorem dX6_hasSound_23 : decode cX6_hasSound 23 = .ok (.iload 4, 2) := by decide +kernel
theorem dX6_hasSound_25 : decode cX6_hasSound 25 = .ok (.iadd, 1) := by decide +kernel
theorem dX6_hasSound_26 : decode cX6_hasSound 26 = .ok (.invokevirtual 130, 3) := by decide +kernel
theorem dX6_hasSound_29 : decode cX6_hasSound 29 = .ok (.iload_n 2, 1) := by decide +kernel
theorem dX6_hasSound_30 : decode cX6_hasSound 30 = .ok (.if_icmp .ne 7, 3) := by decide +kernel
theorem dX6_hasSound_33 : decode cX6_hasSound 33 = .ok (.iconst 1, 1) := by decide +kernel
theorem dX6_hasSound_34 : decode cX6_hasSound 34 = .ok (.goto 4, 3) := by decide +kernel
theorem dX6_hasSound_37 : decode cX6_hasSound 37 = .ok (.iconst 0, 1) := by decide +kernel
theorem dX6_hasSound_38 : decode cX6_hasSound 38 = .ok (.istore_n 3, 1) := by decide +kernel
theorem dX6_hasSound_39 : decode cX6_hasSound 39 = .ok (.iinc 4 1, 3) := by decide +kernel
theorem dX6_hasSound_42 : decode cX6_hasSound 42 = .ok (.goto (-37), 3) := by decide +kernel
theorem dX6_hasSound_45 : decode cX6_hasSound 45 = .ok (.iload_n 3, 1) := by decide +kernel
theorem dX6_hasSound_46 : decode cX6_hasSound 46 = .ok (.ireturn, 1) := by decide +kernel
abbrev rmX6_hasSound : Room := { frames := 1, cells := 0, slots := 0, locals := 22 }
def opX6_hasSound (po : Int32 → px_St → Prop) : List (Nat × px_Op) := [
  (0, px_push 1 (.int 0)),
  (1, px_is 2 3),
  (2, px_push 3 (.int 0)),
  (3, px_is 5 4),
  (5, px_il 7 4),
  (7, px_al 8 0),
  (8, px_il 9 1),
  (9, px_push 10 (.int 1)),
  (10, px_callV dM 13 6 2 px_vI prX6_of poX6_of),
  (13, px_ic 16 45 (fun x y => y ≤ x)),
  (16, px_il 17 3),
  (17, px_if 20 33 (fun x => ¬ x = 0)),
  (20, px_al 21 0),
  (21, px_il 22 1),
  (22, px_push 23 (.int 3)),
  (23, px_il 25 4),
  (25, px_bin 26 (fun x y => x + y)),
  (26, px_callV dM 29 6 2 px_vI prX6_of poX6_of),
  (29, px_il 30 2),
  (30, px_ic 33 37 (fun x y => ¬ x = y)),
  (33, px_push 34 (.int 1)),
  (34, px_go 38),
  (37, px_push 38 (.int 0)),
  (38, px_is 39 3),
  (39, px_inc 42 4 1),
  (42, px_go 5),
  (45, px_il 46 3),
  (46, px_iret (.boolean) po)]
set_option maxRecDepth 100000 in
set_option maxHeartbeats 4000000 in
theorem okX6_hasSound : ∀ (po : Int32 → px_St → Prop) (i pc : Nat) (op : px_Op), (opX6_hasSound po)[i]? = some (pc, op) → px_Snd (cX6_hasSound, 5, RX6, Cond.code yX6_hasSound cX6_hasSound 5 (some .boolean) :: wdM, (some .boolean), rmX6_hasSound, dM) px_vI po pc op := by
  intro po
  unfold opX6_hasSound
  refine px_ok_cons (ps_iconst dX6_hasSound_0 (by decide)) ?_
  refine px_ok_cons (ps_istore_n dX6_hasSound_1 rfl (by decide)) ?_
  refine px_ok_cons (ps_iconst dX6_hasSound_2 (by decide)) ?_
  refine px_ok_cons (ps_istore dX6_hasSound_3 (by decide)) ?_
  refine px_ok_cons (ps_iload dX6_hasSound_5) ?_
  refine px_ok_cons (ps_aload_n dX6_hasSound_7 rfl) ?_
  refine px_ok_cons (ps_iload_n dX6_hasSound_8 rfl) ?_
  refine px_ok_cons (ps_iconst dX6_hasSound_9 (by decide)) ?_
  refine px_ok_cons (ps_callV mX6_of (fun _ _ => rfl) (C := RX6) rfl (fun _ _ ht => px_cwV wgM (wdM_2_in _ (List.mem_of_getElem? (i := 16) rfl)) (wdM_2_in _ (List.mem_of_getElem? (i := 17) rfl)) (wdM_2_in _ (List.mem_of_getElem? (i := 18) rfl)) (wdM_0_in _ (List.mem_of_getElem? (i := 22) rfl)) (wdM_2_in _ (List.mem_of_getElem? (i := 13) rfl)) (by decide +kernel) rfl rfl (by decide) ht) dX6_hasSound_10) ?_
  refine px_ok_cons (ps_icmp_ge dX6_hasSound_13 (by decide)) ?_
  refine px_ok_cons (ps_iload_n dX6_hasSound_16 rfl) ?_
  refine px_ok_cons (ps_if_ne dX6_hasSound_17 (by decide)) ?_
  refine px_ok_cons (ps_aload_n dX6_hasSound_20 rfl) ?_
  refine px_ok_cons (ps_iload_n dX6_hasSound_21 rfl) ?_
  refine px_ok_cons (ps_iconst dX6_hasSound_22 (by decide)) ?_
  refine px_ok_cons (ps_iload dX6_hasSound_23) ?_
  refine px_ok_cons (ps_iadd dX6_hasSound_25) ?_
  refine px_ok_cons (ps_callV mX6_of (fun _ _ => rfl) (C := RX6) rfl (fun _ _ ht => px_cwV wgM (wdM_2_in _ (List.mem_of_getElem? (i := 16) rfl)) (wdM_2_in _ (List.mem_of_getElem? (i := 17) rfl)) (wdM_2_in _ (List.mem_of_getElem? (i := 18) rfl)) (wdM_0_in _ (List.mem_of_getElem? (i := 22) rfl)) (wdM_2_in _ (List.mem_of_getElem? (i := 13) rfl)) (by decide +kernel) rfl rfl (by decide) ht) dX6_hasSound_26) ?_
  refine px_ok_cons (ps_iload_n dX6_hasSound_29 rfl) ?_
  refine px_ok_cons (ps_icmp_ne dX6_hasSound_30 (by decide)) ?_
  refine px_ok_cons (ps_iconst dX6_hasSound_33 (by decide)) ?_
  refine px_ok_cons (ps_goto dX6_hasSound_34 (by decide)) ?_
  refine px_ok_cons (ps_iconst dX6_hasSound_37 (by decide)) ?_
  refine px_ok_cons (ps_istore_n dX6_hasSound_38 rfl (by decide)) ?_
  refine px_ok_cons (ps_iinc dX6_hasSound_39 (by decide) (by decide)) ?_
  refine px_ok_cons (ps_goto dX6_hasSound_42 (by decide)) ?_
  refine px_ok_cons (ps_iload_n dX6_hasSound_45 rfl) ?_
  refine px_ok_cons (ps_ireturn rfl dX6_hasSound_46) ?_
  exact px_ok_nil
set_option maxRecDepth 100000 in
set_option maxHeartbeats 4000000 in
theorem sgX6_hasSound_0 {po : Int32 → px_St → Prop} {G : px_K} (hG : px_cl (opX6_hasSound po) G) (v1 : Int32) (v2 : Int32) (σ : px_St)
    (H : G 5 [some (.ref 0), some (.int v1), some (.int v2), some (.int (0 : Int32)), some (.int (0 : Int32))] [] σ) :
    G 0 (px_ent 5 [.ref 0, .int v1, .int v2]) [] σ := by
  refine hG.1 0 _ _ rfl _ _ _ ?_
  refine hG.1 1 _ _ rfl _ _ _ ?_
  show G 2 [some (.ref 0), some (.int v1), some (.int v2), some (.int (0 : Int32)), none] [] σ
  refine hG.1 2 _ _ rfl _ _ _ ?_
  refine hG.1 3 _ _ rfl _ _ _ ?_
  show G 5 [some (.ref 0), some (.int v1), some (.int v2), some (.int (0 : Int32)), some (.int (0 : Int32))] [] σ
  exact H
set_option maxRecDepth 100000 in
set_option maxHeartbeats 4000000 in
theorem sgX6_hasSound_5 {po : Int32 → px_St → Prop} {G : px_K} (hG : px_cl (opX6_hasSound po) G) (v1 : Int32) (v2 : Int32) (v3 : Int32) (v4 : Int32) (σ : px_St)
    (H : ∃ g3 : gtX6_of, qrX6_of g3 v1 (1 : Int32) σ ∧ ∀ (r1 : Int32) (σ2 : px_St), qoX6_of g3 v1 (1 : Int32) σ r1 σ2 → ((r1 ≤ v4) → (v3 = 0 ∨ v3 = 1) ∧ po v3 σ2) ∧ (¬ (r1 ≤ v4) → ((¬ v3 = 0) → G 5 [some (.ref 0), some (.int v1), some (.int v2), some (.int (1 : Int32)), some (.int (v4 + 1))] [] σ2) ∧ (¬ (¬ v3 = 0) → ∃ g7 : gtX6_of, qrX6_of g7 v1 ((3 : Int32) + v4) σ2 ∧ ∀ (r5 : Int32) (σ6 : px_St), qoX6_of g7 v1 ((3 : Int32) + v4) σ2 r5 σ6 → ((¬ r5 = v2) → G 5 [some (.ref 0), some (.int v1), some (.int v2), some (.int (0 : Int32)), some (.int (v4 + 1))] [] σ6) ∧ (¬ (¬ r5 = v2) → G 5 [some (.ref 0), some (.int v1), some (.int v2), some (.int (1 : Int32)), some (.int (v4 + 1))] [] σ6)))) :
    G 5 [some (.ref 0), some (.int v1), some (.int v2), some (.int v3), some (.int v4)] [] σ := by
  refine hG.1 4 _ _ rfl _ _ _ ?_
  refine hG.1 5 _ _ rfl _ _ _ ?_
  refine hG.1 6 _ _ rfl _ _ _ ?_
  refine hG.1 7 _ _ rfl _ _ _ ?_
  refine hG.1 8 _ _ rfl _ _ _ ?_
  obtain ⟨g3, H⟩ := H
  refine ⟨⟨rfl, by decide⟩, Nat.le_of_ble_eq_true rfl, g3, ⟨_, _, rfl, H.1⟩, fun r1 σ2 hp4 => ?_⟩
  replace H := H.2 r1 σ2 hp4
  refine hG.1 9 _ _ rfl _ _ _ ?_
  refine ⟨fun h11 => ?_, fun h11 => ?_⟩
  · replace H := H.1 h11
    refine hG.1 26 _ _ rfl _ _ _ ?_
    refine hG.1 27 _ _ rfl _ _ _ ?_
    exact ⟨(px_bo H.1).1, H.2⟩
  · replace H := H.2 h11
    refine hG.1 10 _ _ rfl _ _ _ ?_
    refine hG.1 11 _ _ rfl _ _ _ ?_
    refine ⟨fun h10 => ?_, fun h10 => ?_⟩
    · replace H := H.1 h10
      refine hG.1 20 _ _ rfl _ _ _ ?_
      refine hG.1 21 _ _ rfl _ _ _ ?_
      refine hG.1 23 _ _ rfl _ _ _ ?_
      show G 39 [some (.ref 0), some (.int v1), some (.int v2), some (.int (1 : Int32)), some (.int v4)] [] σ2
      refine hG.1 24 _ _ rfl _ _ _ ?_
      show G 42 [some (.ref 0), some (.int v1), some (.int v2), some (.int (1 : Int32)), some (.int (v4 + 1))] [] σ2
      refine hG.1 25 _ _ rfl _ _ _ ?_
      exact H
    · replace H := H.2 h10
      refine hG.1 12 _ _ rfl _ _ _ ?_
      refine hG.1 13 _ _ rfl _ _ _ ?_
      refine hG.1 14 _ _ rfl _ _ _ ?_
      refine hG.1 15 _ _ rfl _ _ _ ?_
      refine hG.1 16 _ _ rfl _ _ _ ?_
      refine hG.1 17 _ _ rfl _ _ _ ?_
      obtain ⟨g7, H⟩ := H
      refine ⟨⟨rfl, by decide⟩, Nat.le_of_ble_eq_true rfl, g7, ⟨_, _, rfl, H.1⟩, fun r5 σ6 hp8 => ?_⟩
      replace H := H.2 r5 σ6 hp8
      refine hG.1 18 _ _ rfl _ _ _ ?_
      refine hG.1 19 _ _ rfl _ _ _ ?_
      refine ⟨fun h9 => ?_, fun h9 => ?_⟩
      · replace H := H.1 h9
        refine hG.1 22 _ _ rfl _ _ _ ?_
        refine hG.1 23 _ _ rfl _ _ _ ?_
        show G 39 [some (.ref 0), some (.int v1), some (.int v2), some (.int (0 : Int32)), some (.int v4)] [] σ6
        refine hG.1 24 _ _ rfl _ _ _ ?_
        show G 42 [some (.ref 0), some (.int v1), some (.int v2), some (.int (0 : Int32)), some (.int (v4 + 1))] [] σ6
        refine hG.1 25 _ _ rfl _ _ _ ?_
        exact H
      · replace H := H.2 h9
        refine hG.1 20 _ _ rfl _ _ _ ?_
        refine hG.1 21 _ _ rfl _ _ _ ?_
        refine hG.1 23 _ _ rfl _ _ _ ?_
        show G 39 [some (.ref 0), some (.int v1), some (.int v2), some (.int (1 : Int32)), some (.int v4)] [] σ6
        refine hG.1 24 _ _ rfl _ _ _ ?_
        show G 42 [some (.ref 0), some (.int v1), some (.int v2), some (.int (1 : Int32)), some (.int (v4 + 1))] [] σ6
        refine hG.1 25 _ _ rfl _ _ _ ?_
        exact H
set_option maxRecDepth 100000 in
set_option maxHeartbeats 4000000 in
theorem hhX6_hasSound (g : gtX6_hasSound) (v1 : Int32) (v2 : Int32) (σ : px_St) (h : qrX6_hasSound g v1 v2 σ) (G : px_K) (hG : px_cl (opX6_hasSound (qoX6_hasSound g v1 v2 σ)) G) : G 0 (px_ent 5 [.ref 0, .int v1, .int v2]) [] σ := by
  obtain ⟨V, p, s⟩ := g
  obtain ⟨hV, hw, hp, hs, rfl, rfl⟩ := h
  obtain ⟨hk3, hl, hx9⟩ := hw.2.2.2 p hp
  have h5 := hw.1
  obtain ⟨g1, g2, g3, g4⟩ := hV.2 p hp
  refine sgX6_hasSound_0 hG _ _ σ ?_
  have loop : ∀ n k, k + n = (V.2.2.2 p).2.2.length → ∀ v, px_b (s ∈ (V.2.2.2 p).2.2.take k) v → G 5 [some (.ref 0), some (.int (nI p)), some (.int (nI s)), some (.int v), some (.int (nI k))] [] σ := by
    intro n
    induction n with
    | zero =>
      intro k hk v hv
      refine sgX6_hasSound_5 hG _ _ _ _ σ ⟨9 * p + 1, ⟨by omega, ix9 p 1⟩, fun r σ2 hq => ?_⟩
      obtain ⟨rfl, rfl⟩ := hq
      rw [g2]
      rw [List.take_of_length_le (by omega)] at hv
      exact ⟨fun _ => ⟨px_b_01 hv, rfl, hv⟩, fun z => absurd (nI_le (by omega) (by omega)) z⟩
    | succ n ih =>
      intro k hk v hv
      have hkl : k < (V.2.2.2 p).2.2.length := by omega
      have hkx := List.getElem?_eq_getElem hkl
      have hx := hx9 _ (List.getElem_mem hkl)
      refine sgX6_hasSound_5 hG _ _ _ _ σ ⟨9 * p + 1, ⟨by omega, ix9 p 1⟩, fun r σ2 hq => ?_⟩
      obtain ⟨rfl, rfl⟩ := hq
      rw [g2, nI_1]
      refine ⟨fun z => absurd z (nI_ge (by omega) (by omega)), fun _ => bz1 hv (fun y => ?_) (fun y => ⟨9 * p + 3 + k, ⟨by omega, ix93 p k⟩, fun r σ3 hq => ?_⟩)⟩
      · exact ih (k + 1) (by omega) 1 (Or.inl ⟨(take_mem hkx).mpr (Or.inl y), rfl⟩)
      · obtain ⟨rfl, rfl⟩ := hq
        rw [g4 k _ hkx]
        have ce : nI (V.2.2.2 p).2.2[k] = nI s ↔ (V.2.2.2 p).2.2[k] = s := nI_eq (by omega) (by omega)
        rw [ce]
        refine ⟨fun q => ih (k + 1) (by omega) 0 (Or.inr ⟨fun w => ?_, rfl⟩), fun q => ih (k + 1) (by omega) 1 (Or.inl ⟨(take_mem hkx).mpr (Or.inr (Classical.byContradiction q).symm), rfl⟩)⟩
        rcases (take_mem hkx).mp w with h1 | h1
        · exact y h1
        · exact q h1.symm
  exact loop _ 0 (Nat.zero_add _) 0 (Or.inr ⟨by simp, rfl⟩)
theorem mX6_hasSound (g : gtX6_hasSound) : px_Met dM yX6_hasSound (Cond.code yX6_hasSound cX6_hasSound 5 (some .boolean) :: wdM) rmX6_hasSound px_vI (prX6_hasSound g) (poX6_hasSound g) :=
  px_met (Z := (cX6_hasSound, 5, RX6, Cond.code yX6_hasSound cX6_hasSound 5 (some .boolean) :: wdM, (some .boolean), rmX6_hasSound, dM)) opX6_hasSound (by decide) rfl rfl okX6_hasSound (fun As σ h => by obtain ⟨v1, v2, rfl, h⟩ := h; exact Nat.le_of_ble_eq_true rfl) (fun As σ h G hG => by obtain ⟨v1, v2, rfl, h⟩ := h; exact hhX6_hasSound g v1 v2 σ h G hG)
abbrev gtX6_placeBehind : Type := pv_V × Nat
def qrX6_placeBehind : gtX6_placeBehind → Int32 → px_St → Prop
  | (V, p), v1, σ => mv_is (σ.1 2) V ∧ pv_ok V ∧ p < V.1 ∧ v1 = nI p
def qoX6_placeBehind : gtX6_placeBehind → Int32 → px_St → Int32 → px_St → Prop
  | (V, p), _, σ, r, σ' => σ' = σ ∧ r = nI (pv_next (V.2.2.2 p))
def prX6_placeBehind (g : gtX6_placeBehind) : List Value → px_St → Prop := fun As σ => ∃ v1 : Int32, As = [.ref 0, .int v1] ∧ qrX6_placeBehind g v1 σ
def poX6_placeBehind (g : gtX6_placeBehind) : List Value → px_St → Int32 → px_St → Prop
  | [.ref _, .int v1], σ, r, σ' => qoX6_placeBehind g v1 σ r σ'
  | _, _, _, _ => False
theorem dX6_placeBehind_0 : decode cX6_placeBehind 0 = .ok (.aload_n 0, 1) := by decide +kernel
theorem dX6_placeBehind_1 : decode cX6_placeBehind 1 = .ok (.iload_n 1, 1) := by decide +kernel
theorem dX6_placeBehind_2 : decode cX6_placeBehind 2 = .ok (.iconst 0, 1) := by decide +kernel
theorem dX6_placeBehind_3 : decode cX6_placeBehind 3 = .ok (.invokevirtual 130, 3) := by decide +kernel
theorem dX6_placeBehind_6 : decode cX6_placeBehind 6 = .ok (.iconst 1, 1) := by decide +kernel
theorem dX6_placeBehind_7 : decode cX6_placeBehind 7 = .ok (.if_icmp .ne 7, 3) := by decide +kernel
theorem dX6_placeBehind_10 : decode cX6_placeBehind 10 = .ok (.iconst 2, 1) := by decide +kernel
theorem dX6_placeBehind_11 : decode cX6_placeBehind 11 = .ok (.goto 25, 3) := by decide +kernel
theorem dX6_placeBehind_14 : decode cX6_placeBehind 14 = .ok (.aload_n 0, 1) := by decide +kernel
theorem dX6_placeBehind_15 : decode cX6_placeBehind 15 = .ok (.iload_n 1, 1) := by decide +kernel
theorem dX6_placeBehind_16 : decode cX6_placeBehind 16 = .ok (.iconst 0, 1) := by decide +kernel
theorem dX6_placeBehind_17 : decode cX6_placeBehind 17 = .ok (.invokevirtual 130, 3) := by decide +kernel
theorem dX6_placeBehind_20 : decode cX6_placeBehind 20 = .ok (.iconst 3, 1) := by decide +kernel
theorem dX6_placeBehind_21 : decode cX6_placeBehind 21 = .ok (.if_icmp .ne 14, 3) := by decide +kernel
theorem dX6_placeBehind_24 : decode cX6_placeBehind 24 = .ok (.aload_n 0, 1) := by decide +kernel
theorem dX6_placeBehind_25 : decode cX6_placeBehind 25 = .ok (.iload_n 1, 1) := by decide +kernel
theorem dX6_placeBehind_26 : decode cX6_placeBehind 26 = .ok (.iconst 1, 1) := by decide +kernel
theorem dX6_placeBehind_27 : decode cX6_placeBehind 27 = .ok (.invokevirtual 130, 3) := by decide +kernel
theorem dX6_placeBehind_30 : decode cX6_placeBehind 30 = .ok (.iconst 1, 1) := by decide +kernel
theorem dX6_placeBehind_31 : decode cX6_placeBehind 31 = .ok (.isub, 1) := by decide +kernel
theorem dX6_placeBehind_32 : decode cX6_placeBehind 32 = .ok (.goto 4, 3) := by decide +kernel
theorem dX6_placeBehind_35 : decode cX6_placeBehind 35 = .ok (.iconst 1, 1) := by decide +kernel
theorem dX6_placeBehind_36 : decode cX6_placeBehind 36 = .ok (.istore_n 2, 1) := by decide +kernel
theorem dX6_placeBehind_37 : decode cX6_placeBehind 37 = .ok (.aload_n 0, 1) := by decide +kernel
theorem dX6_placeBehind_38 : decode cX6_placeBehind 38 = .ok (.iload_n 1, 1) := by decide +kernel
theorem dX6_placeBehind_39 : decode cX6_placeBehind 39 = .ok (.iconst 2, 1) := by decide +kernel
theorem dX6_placeBehind_40 : decode cX6_placeBehind 40 = .ok (.invokevirtual 130, 3) := by decide +kernel
theorem dX6_placeBehind_43 : decode cX6_placeBehind 43 = .ok (.iload_n 2, 1) := by decide +kernel
theorem dX6_placeBehind_44 : decode cX6_placeBehind 44 = .ok (.iadd, 1) := by decide +kernel
theorem dX6_placeBehind_45 : decode cX6_placeBehind 45 = .ok (.aload_n 0, 1) := by decide +kernel
theorem dX6_placeBehind_46 : decode cX6_placeBehind 46 = .ok (.iload_n 1, 1) := by decide +kernel
theorem dX6_placeBehind_47 : decode cX6_placeBehind 47 = .ok (.iconst 1, 1) := by decide +kernel
theorem dX6_placeBehind_48 : decode cX6_placeBehind 48 = .ok (.invokevirtual 130, 3) := by decide +kernel
theorem dX6_placeBehind_51 : decode cX6_placeBehind 51 = .ok (.irem, 1) := by decide +kernel
theorem dX6_placeBehind_52 : decode cX6_placeBehind 52 = .ok (.ireturn, 1) := by decide +kernel
abbrev rmX6_placeBehind : Room := { frames := 1, cells := 0, slots := 0, locals := 22 }
def opX6_placeBehind (po : Int32 → px_St → Prop) : List (Nat × px_Op) := [
  (0, px_al 1 0),
  (1, px_il 2 1),
  (2, px_push 3 (.int 0)),
  (3, px_callV dM 6 6 2 px_vI prX6_of poX6_of),
  (6, px_push 7 (.int 1)),
  (7, px_ic 10 14 (fun x y => ¬ x = y)),
  (10, px_push 11 (.int 2)),
  (11, px_go 36),
  (14, px_al 15 0),
  (15, px_il 16 1),
  (16, px_push 17 (.int 0)),
  (17, px_callV dM 20 6 2 px_vI prX6_of poX6_of),
  (20, px_push 21 (.int 3)),
  (21, px_ic 24 35 (fun x y => ¬ x = y)),
  (24, px_al 25 0),
  (25, px_il 26 1),
  (26, px_push 27 (.int 1)),
  (27, px_callV dM 30 6 2 px_vI prX6_of poX6_of),
  (30, px_push 31 (.int 1)),
  (31, px_bin 32 (fun x y => x - y)),
  (32, px_go 36),
  (35, px_push 36 (.int 1)),
  (36, px_is 37 2),
  (37, px_al 38 0),
  (38, px_il 39 1),
  (39, px_push 40 (.int 2)),
  (40, px_callV dM 43 6 2 px_vI prX6_of poX6_of),
  (43, px_il 44 2),
  (44, px_bin 45 (fun x y => x + y)),
  (45, px_al 46 0),
  (46, px_il 47 1),
  (47, px_push 48 (.int 1)),
  (48, px_callV dM 51 6 2 px_vI prX6_of poX6_of),
  (51, px_div 52 (fun x y => x - x / y * y)),
  (52, px_iret (.int) po)]
set_option maxRecDepth 100000 in
set_option maxHeartbeats 4000000 in
theorem okX6_placeBehind : ∀ (po : Int32 → px_St → Prop) (i pc : Nat) (op : px_Op), (opX6_placeBehind po)[i]? = some (pc, op) → px_Snd (cX6_placeBehind, 3, RX6, Cond.code yX6_placeBehind cX6_placeBehind 3 (some .int) :: wdM, (some .int), rmX6_placeBehind, dM) px_vI po pc op := by
  intro po
  unfold opX6_placeBehind
  refine px_ok_cons (ps_aload_n dX6_placeBehind_0 rfl) ?_
  refine px_ok_cons (ps_iload_n dX6_placeBehind_1 rfl) ?_
  refine px_ok_cons (ps_iconst dX6_placeBehind_2 (by decide)) ?_
  refine px_ok_cons (ps_callV mX6_of (fun _ _ => rfl) (C := RX6) rfl (fun _ _ ht => px_cwV wgM (wdM_2_in _ (List.mem_of_getElem? (i := 16) rfl)) (wdM_2_in _ (List.mem_of_getElem? (i := 17) rfl)) (wdM_2_in _ (List.mem_of_getElem? (i := 18) rfl)) (wdM_0_in _ (List.mem_of_getElem? (i := 22) rfl)) (wdM_2_in _ (List.mem_of_getElem? (i := 13) rfl)) (by decide +kernel) rfl rfl (by decide) ht) dX6_placeBehind_3) ?_
  refine px_ok_cons (ps_iconst dX6_placeBehind_6 (by decide)) ?_
  refine px_ok_cons (ps_icmp_ne dX6_placeBehind_7 (by decide)) ?_
  refine px_ok_cons (ps_iconst dX6_placeBehind_10 (by decide)) ?_
  refine px_ok_cons (ps_goto dX6_placeBehind_11 (by decide)) ?_
  refine px_ok_cons (ps_aload_n dX6_placeBehind_14 rfl) ?_
  refine px_ok_cons (ps_iload_n dX6_placeBehind_15 rfl) ?_
  refine px_ok_cons (ps_iconst dX6_placeBehind_16 (by decide)) ?_
  refine px_ok_cons (ps_callV mX6_of (fun _ _ => rfl) (C := RX6) rfl (fun _ _ ht => px_cwV wgM (wdM_2_in _ (List.mem_of_getElem? (i := 16) rfl)) (wdM_2_in _ (List.mem_of_getElem? (i := 17) rfl)) (wdM_2_in _ (List.mem_of_getElem? (i := 18) rfl)) (wdM_0_in _ (List.mem_of_getElem? (i := 22) rfl)) (wdM_2_in _ (List.mem_of_getElem? (i := 13) rfl)) (by decide +kernel) rfl rfl (by decide) ht) dX6_placeBehind_17) ?_
  refine px_ok_cons (ps_iconst dX6_placeBehind_20 (by decide)) ?_
  refine px_ok_cons (ps_icmp_ne dX6_placeBehind_21 (by decide)) ?_
  refine px_ok_cons (ps_aload_n dX6_placeBehind_24 rfl) ?_
  refine px_ok_cons (ps_iload_n dX6_placeBehind_25 rfl) ?_
  refine px_ok_cons (ps_iconst dX6_placeBehind_26 (by decide)) ?_
  refine px_ok_cons (ps_callV mX6_of (fun _ _ => rfl) (C := RX6) rfl (fun _ _ ht => px_cwV wgM (wdM_2_in _ (List.mem_of_getElem? (i := 16) rfl)) (wdM_2_in _ (List.mem_of_getElem? (i := 17) rfl)) (wdM_2_in _ (List.mem_of_getElem? (i := 18) rfl)) (wdM_0_in _ (List.mem_of_getElem? (i := 22) rfl)) (wdM_2_in _ (List.mem_of_getElem? (i := 13) rfl)) (by decide +kernel) rfl rfl (by decide) ht) dX6_placeBehind_27) ?_
  refine px_ok_cons (ps_iconst dX6_placeBehind_30 (by decide)) ?_
  refine px_ok_cons (ps_isub dX6_placeBehind_31) ?_
  refine px_ok_cons (ps_goto dX6_placeBehind_32 (by decide)) ?_
  refine px_ok_cons (ps_iconst dX6_placeBehind_35 (by decide)) ?_
  refine px_ok_cons (ps_istore_n dX6_placeBehind_36 rfl (by decide)) ?_
  refine px_ok_cons (ps_aload_n dX6_placeBehind_37 rfl) ?_
  refine px_ok_cons (ps_iload_n dX6_placeBehind_38 rfl) ?_
  refine px_ok_cons (ps_iconst dX6_placeBehind_39 (by decide)) ?_
  refine px_ok_cons (ps_callV mX6_of (fun _ _ => rfl) (C := RX6) rfl (fun _ _ ht => px_cwV wgM (wdM_2_in _ (List.mem_of_getElem? (i := 16) rfl)) (wdM_2_in _ (List.mem_of_getElem? (i := 17) rfl)) (wdM_2_in _ (List.mem_of_getElem? (i := 18) rfl)) (wdM_0_in _ (List.mem_of_getElem? (i := 22) rfl)) (wdM_2_in _ (List.mem_of_getElem? (i := 13) rfl)) (by decide +kernel) rfl rfl (by decide) ht) dX6_placeBehind_40) ?_
  refine px_ok_cons (ps_iload_n dX6_placeBehind_43 rfl) ?_
  refine px_ok_cons (ps_iadd dX6_placeBehind_44) ?_
  refine px_ok_cons (ps_aload_n dX6_placeBehind_45 rfl) ?_
  refine px_ok_cons (ps_iload_n dX6_placeBehind_46 rfl) ?_
  refine px_ok_cons (ps_iconst dX6_placeBehind_47 (by decide)) ?_
  refine px_ok_cons (ps_callV mX6_of (fun _ _ => rfl) (C := RX6) rfl (fun _ _ ht => px_cwV wgM (wdM_2_in _ (List.mem_of_getElem? (i := 16) rfl)) (wdM_2_in _ (List.mem_of_getElem? (i := 17) rfl)) (wdM_2_in _ (List.mem_of_getElem? (i := 18) rfl)) (wdM_0_in _ (List.mem_of_getElem? (i := 22) rfl)) (wdM_2_in _ (List.mem_of_getElem? (i := 13) rfl)) (by decide +kernel) rfl rfl (by decide) ht) dX6_placeBehind_48) ?_
  refine px_ok_cons (ps_irem dX6_placeBehind_51) ?_
  refine px_ok_cons (ps_ireturn rfl dX6_placeBehind_52) ?_
  exact px_ok_nil
set_option maxRecDepth 100000 in
set_option maxHeartbeats 4000000 in
theorem sgX6_placeBehind_0 {po : Int32 → px_St → Prop} {G : px_K} (hG : px_cl (opX6_placeBehind po) G) (v1 : Int32) (σ : px_St)
    (H : ∃ g3 : gtX6_of, qrX6_of g3 v1 (0 : Int32) σ ∧ ∀ (r1 : Int32) (σ2 : px_St), qoX6_of g3 v1 (0 : Int32) σ r1 σ2 → ((¬ r1 = (1 : Int32)) → ∃ g7 : gtX6_of, qrX6_of g7 v1 (0 : Int32) σ2 ∧ ∀ (r5 : Int32) (σ6 : px_St), qoX6_of g7 v1 (0 : Int32) σ2 r5 σ6 → ((¬ r5 = (3 : Int32)) → ∃ g11 : gtX6_of, qrX6_of g11 v1 (2 : Int32) σ6 ∧ ∀ (r9 : Int32) (σ10 : px_St), qoX6_of g11 v1 (2 : Int32) σ6 r9 σ10 → ∃ g15 : gtX6_of, qrX6_of g15 v1 (1 : Int32) σ10 ∧ ∀ (r13 : Int32) (σ14 : px_St), qoX6_of g15 v1 (1 : Int32) σ10 r13 σ14 → ¬ r13 = 0 ∧ po ((r9 + (1 : Int32)) - (r9 + (1 : Int32)) / r13 * r13) σ14) ∧ (¬ (¬ r5 = (3 : Int32)) → ∃ g19 : gtX6_of, qrX6_of g19 v1 (1 : Int32) σ6 ∧ ∀ (r17 : Int32) (σ18 : px_St), qoX6_of g19 v1 (1 : Int32) σ6 r17 σ18 → ∃ g23 : gtX6_of, qrX6_of g23 v1 (2 : Int32) σ18 ∧ ∀ (r21 : Int32) (σ22 : px_St), qoX6_of g23 v1 (2 : Int32) σ18 r21 σ22 → ∃ g27 : gtX6_of, qrX6_of g27 v1 (1 : Int32) σ22 ∧ ∀ (r25 : Int32) (σ26 : px_St), qoX6_of g27 v1 (1 : Int32) σ22 r25 σ26 → ¬ r25 = 0 ∧ po ((r21 + (r17 - (1 : Int32))) - (r21 + (r17 - (1 : Int32))) / r25 * r25) σ26)) ∧ (¬ (¬ r1 = (1 : Int32)) → ∃ g32 : gtX6_of, qrX6_of g32 v1 (2 : Int32) σ2 ∧ ∀ (r30 : Int32) (σ31 : px_St), qoX6_of g32 v1 (2 : Int32) σ2 r30 σ31 → ∃ g36 : gtX6_of, qrX6_of g36 v1 (1 : Int32) σ31 ∧ ∀ (r34 : Int32) (σ35 : px_St), qoX6_of g36 v1 (1 : Int32) σ31 r34 σ35 → ¬ r34 = 0 ∧ po ((r30 + (2 : Int32)) - (r30 + (2 : Int32)) / r34 * r34) σ35)) :
    G 0 (px_ent 3 [.ref 0, .int v1]) [] σ := by
  refine hG.1 0 _ _ rfl _ _ _ ?_
  refine hG.1 1 _ _ rfl _ _ _ ?_
  refine hG.1 2 _ _ rfl _ _ _ ?_
  refine hG.1 3 _ _ rfl _ _ _ ?_
  obtain ⟨g3, H⟩ := H
  refine ⟨⟨rfl, by decide⟩, Nat.le_of_ble_eq_true rfl, g3, ⟨_, _, rfl, H.1⟩, fun r1 σ2 hp4 => ?_⟩
  replace H := H.2 r1 σ2 hp4
  refine hG.1 4 _ _ rfl _ _ _ ?_
  refine hG.1 5 _ _ rfl _ _ _ ?_
  refine ⟨fun h38 => ?_, fun h38 => ?_⟩
  · replace H := H.1 h38
    refine hG.1 8 _ _ rfl _ _ _ ?_
    refine hG.1 9 _ _ rfl _ _ _ ?_
    refine hG.1 10 _ _ rfl _ _ _ ?_
    refine hG.1 11 _ _ rfl _ _ _ ?_
    obtain ⟨g7, H⟩ := H
    refine ⟨⟨rfl, by decide⟩, Nat.le_of_ble_eq_true rfl, g7, ⟨_, _, rfl, H.1⟩, fun r5 σ6 hp8 => ?_⟩
    replace H := H.2 r5 σ6 hp8
    refine hG.1 12 _ _ rfl _ _ _ ?_
    refine hG.1 13 _ _ rfl _ _ _ ?_
    refine ⟨fun h29 => ?_, fun h29 => ?_⟩
    · replace H := H.1 h29
      refine hG.1 21 _ _ rfl _ _ _ ?_
      refine hG.1 22 _ _ rfl _ _ _ ?_
      show G 37 [some (.ref 0), some (.int v1), some (.int (1 : Int32))] [] σ6
      refine hG.1 23 _ _ rfl _ _ _ ?_
      refine hG.1 24 _ _ rfl _ _ _ ?_
      refine hG.1 25 _ _ rfl _ _ _ ?_
      refine hG.1 26 _ _ rfl _ _ _ ?_
      obtain ⟨g11, H⟩ := H
      refine ⟨⟨rfl, by decide⟩, Nat.le_of_ble_eq_true rfl, g11, ⟨_, _, rfl, H.1⟩, fun r9 σ10 hp12 => ?_⟩
      replace H := H.2 r9 σ10 hp12
      refine hG.1 27 _ _ rfl _ _ _ ?_
      refine hG.1 28 _ _ rfl _ _ _ ?_
      refine hG.1 29 _ _ rfl _ _ _ ?_
      refine hG.1 30 _ _ rfl _ _ _ ?_
      refine hG.1 31 _ _ rfl _ _ _ ?_
      refine hG.1 32 _ _ rfl _ _ _ ?_
      obtain ⟨g15, H⟩ := H
      refine ⟨⟨rfl, by decide⟩, Nat.le_of_ble_eq_true rfl, g15, ⟨_, _, rfl, H.1⟩, fun r13 σ14 hp16 => ?_⟩
      replace H := H.2 r13 σ14 hp16
      refine hG.1 33 _ _ rfl _ _ _ ?_
      refine ⟨H.1, ?_⟩
      replace H := H.2
      refine hG.1 34 _ _ rfl _ _ _ ?_
      exact ⟨rfl, H⟩
    · replace H := H.2 h29
      refine hG.1 14 _ _ rfl _ _ _ ?_
      refine hG.1 15 _ _ rfl _ _ _ ?_
      refine hG.1 16 _ _ rfl _ _ _ ?_
      refine hG.1 17 _ _ rfl _ _ _ ?_
      obtain ⟨g19, H⟩ := H
      refine ⟨⟨rfl, by decide⟩, Nat.le_of_ble_eq_true rfl, g19, ⟨_, _, rfl, H.1⟩, fun r17 σ18 hp20 => ?_⟩
      replace H := H.2 r17 σ18 hp20
      refine hG.1 18 _ _ rfl _ _ _ ?_
      refine hG.1 19 _ _ rfl _ _ _ ?_
      refine hG.1 20 _ _ rfl _ _ _ ?_
      refine hG.1 22 _ _ rfl _ _ _ ?_
      show G 37 [some (.ref 0), some (.int v1), some (.int (r17 - (1 : Int32)))] [] σ18
      refine hG.1 23 _ _ rfl _ _ _ ?_
      refine hG.1 24 _ _ rfl _ _ _ ?_
      refine hG.1 25 _ _ rfl _ _ _ ?_
      refine hG.1 26 _ _ rfl _ _ _ ?_
      obtain ⟨g23, H⟩ := H
      refine ⟨⟨rfl, by decide⟩, Nat.le_of_ble_eq_true rfl, g23, ⟨_, _, rfl, H.1⟩, fun r21 σ22 hp24 => ?_⟩
      replace H := H.2 r21 σ22 hp24
      refine hG.1 27 _ _ rfl _ _ _ ?_
      refine hG.1 28 _ _ rfl _ _ _ ?_
      refine hG.1 29 _ _ rfl _ _ _ ?_
      refine hG.1 30 _ _ rfl _ _ _ ?_
      refine hG.1 31 _ _ rfl _ _ _ ?_
      refine hG.1 32 _ _ rfl _ _ _ ?_
      obtain ⟨g27, H⟩ := H
      refine ⟨⟨rfl, by decide⟩, Nat.le_of_ble_eq_true rfl, g27, ⟨_, _, rfl, H.1⟩, fun r25 σ26 hp28 => ?_⟩
      replace H := H.2 r25 σ26 hp28
      refine hG.1 33 _ _ rfl _ _ _ ?_
      refine ⟨H.1, ?_⟩
      replace H := H.2
      refine hG.1 34 _ _ rfl _ _ _ ?_
      exact ⟨rfl, H⟩
  · replace H := H.2 h38
    refine hG.1 6 _ _ rfl _ _ _ ?_
    refine hG.1 7 _ _ rfl _ _ _ ?_
    refine hG.1 22 _ _ rfl _ _ _ ?_
    show G 37 [some (.ref 0), some (.int v1), some (.int (2 : Int32))] [] σ2
    refine hG.1 23 _ _ rfl _ _ _ ?_
    refine hG.1 24 _ _ rfl _ _ _ ?_
    refine hG.1 25 _ _ rfl _ _ _ ?_
    refine hG.1 26 _ _ rfl _ _ _ ?_
    obtain ⟨g32, H⟩ := H
    refine ⟨⟨rfl, by decide⟩, Nat.le_of_ble_eq_true rfl, g32, ⟨_, _, rfl, H.1⟩, fun r30 σ31 hp33 => ?_⟩
    replace H := H.2 r30 σ31 hp33
    refine hG.1 27 _ _ rfl _ _ _ ?_
    refine hG.1 28 _ _ rfl _ _ _ ?_
    refine hG.1 29 _ _ rfl _ _ _ ?_
    refine hG.1 30 _ _ rfl _ _ _ ?_
    refine hG.1 31 _ _ rfl _ _ _ ?_
    refine hG.1 32 _ _ rfl _ _ _ ?_
    obtain ⟨g36, H⟩ := H
    refine ⟨⟨rfl, by decide⟩, Nat.le_of_ble_eq_true rfl, g36, ⟨_, _, rfl, H.1⟩, fun r34 σ35 hp37 => ?_⟩
    replace H := H.2 r34 σ35 hp37
    refine hG.1 33 _ _ rfl _ _ _ ?_
    refine ⟨H.1, ?_⟩
    replace H := H.2
    refine hG.1 34 _ _ rfl _ _ _ ?_
    exact ⟨rfl, H⟩
set_option maxRecDepth 100000 in
set_option maxHeartbeats 4000000 in
theorem hhX6_placeBehind (g : gtX6_placeBehind) (v1 : Int32) (σ : px_St) (h : qrX6_placeBehind g v1 σ) (G : px_K) (hG : px_cl (opX6_placeBehind (qoX6_placeBehind g v1 σ)) G) : G 0 (px_ent 3 [.ref 0, .int v1]) [] σ := by
  obtain ⟨V, p⟩ := g
  obtain ⟨hV, hok, hp, rfl⟩ := h
  obtain ⟨hk3, hl, hx9⟩ := hok.1.2.2.2 p hp
  have h5 := hok.1.1
  have hpl := hok.2 p hp
  obtain ⟨g1, g2, g3, g4⟩ := hV.2 p hp
  have o0 : qrX6_of (9 * p) (nI p) 0 σ := ⟨by omega, ix9 p 0⟩
  have o1 : qrX6_of (9 * p + 1) (nI p) 1 σ := ⟨by omega, ix9 p 1⟩
  have o2 : qrX6_of (9 * p + 2) (nI p) 2 σ := ⟨by omega, ix9 p 2⟩
  have c3 : nI (V.2.2.2 p).1 = 3 ↔ (V.2.2.2 p).1 = 3 := nIe _ 3 rfl rfl (by omega) (by omega)
  have c1 : nI (V.2.2.2 p).1 = 1 ↔ (V.2.2.2 p).1 = 1 := nIe _ 1 rfl rfl (by omega) (by omega)
  have hne : ¬ nI (V.2.2.2 p).2.2.length = 0 := nI_ne0 (by omega) (by omega)
  refine sgX6_placeBehind_0 hG _ σ ⟨9 * p, o0, fun r σ2 hq => ?_⟩
  obtain ⟨rfl, rfl⟩ := hq
  rw [g1, c1]
  refine ⟨fun k1 => ⟨9 * p, o0, fun r σ2 hq => ?_⟩, fun k1 => ⟨9 * p + 2, o2, fun r σ2 hq => ?_⟩⟩
  · obtain ⟨rfl, rfl⟩ := hq
    rw [g1, c3]
    refine ⟨fun k3 => ⟨9 * p + 2, o2, fun r σ2 hq => ?_⟩, fun k3 => ⟨9 * p + 1, o1, fun r σ2 hq => ?_⟩⟩
    · obtain ⟨rfl, rfl⟩ := hq
      refine ⟨9 * p + 1, o1, fun r σ2 hq => ?_⟩
      obtain ⟨rfl, rfl⟩ := hq
      rw [g2, g3, nI_1]
      refine ⟨hne, rfl, ?_⟩
      unfold pv_next
      rw [if_neg k1, if_neg k3, pk_rem (by omega) (by omega) (by omega)]
    · obtain ⟨rfl, rfl⟩ := hq
      refine ⟨9 * p + 2, o2, fun r σ2 hq => ?_⟩
      obtain ⟨rfl, rfl⟩ := hq
      refine ⟨9 * p + 1, o1, fun r σ2 hq => ?_⟩
      obtain ⟨rfl, rfl⟩ := hq
      rw [g2, g3, show nI (V.2.2.2 p).2.2.length - 1 = nI ((V.2.2.2 p).2.2.length - 1) from pk_sub (b := 1) (by omega), nI_add]
      refine ⟨hne, rfl, ?_⟩
      unfold pv_next
      rw [if_neg k1, if_pos (Classical.byContradiction k3), pk_rem (by omega) (by omega) (by omega)]
  · obtain ⟨rfl, rfl⟩ := hq
    refine ⟨9 * p + 1, o1, fun r σ2 hq => ?_⟩
    obtain ⟨rfl, rfl⟩ := hq
    rw [g2, g3, show nI (V.2.2.2 p).2.1 + 2 = nI ((V.2.2.2 p).2.1 + 2) from nI_add _ 2]
    refine ⟨hne, rfl, ?_⟩
    unfold pv_next
    rw [if_pos (Classical.byContradiction k1), pk_rem (by omega) (by omega) (by omega)]
theorem mX6_placeBehind (g : gtX6_placeBehind) : px_Met dM yX6_placeBehind (Cond.code yX6_placeBehind cX6_placeBehind 3 (some .int) :: wdM) rmX6_placeBehind px_vI (prX6_placeBehind g) (poX6_placeBehind g) :=
  px_met (Z := (cX6_placeBehind, 3, RX6, Cond.code yX6_placeBehind cX6_placeBehind 3 (some .int) :: wdM, (some .int), rmX6_placeBehind, dM)) opX6_placeBehind (by decide) rfl rfl okX6_placeBehind (fun As σ h => by obtain ⟨v1, rfl, h⟩ := h; exact Nat.le_of_ble_eq_true rfl) (fun As σ h G hG => by obtain ⟨v1, rfl, h⟩ := h; exact hhX6_placeBehind g v1 σ h G hG)
