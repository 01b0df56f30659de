theorem ix61 (k : Nat) : (61 : Int32) * (nI k + 1) = nI (61 * (k + 1)) := by
  rw [nI_1, show (61 : Int32) = nI 61 from rfl, pk_mul]
theorem is1_le {α : Type} (o : Option α) : x_is1 o ≤ 1 := by cases o <;> simp [x_is1]
theorem flag_is1 {α : Type} (o : Option α) : (if nI (x_is1 o) = 0 then (0 : Int32) else 1) = nI (x_is1 o) := by
  cases o with
  | none => exact if_pos rfl
  | some w => exact if_neg (show ¬ nI 1 = 0 by decide)
abbrev gtX6_keep : Type := pv_X
def qrX6_keep (X : pv_X) (_ : Int32) (σ : px_St) : Prop := mo_is σ X ∧ xo X
def qoX6_keep (X : pv_X) (k : Int32) (_ : px_St) (r : Int32) (σ' : px_St) : Prop := r = (x_keep X k).1 ∧ mo_is σ' (x_keep X k).2
def prX6_keep (g : gtX6_keep) : List Value → px_St → Prop := fun As σ => ∃ v1 : Int32, As = [.ref 0, .int v1] ∧ qrX6_keep g v1 σ
def poX6_keep (g : gtX6_keep) : List Value → px_St → Int32 → px_St → Prop
  | [.ref _, .int v1], σ, r, σ' => qoX6_keep g v1 σ r σ'
  | _, _, _, _ => False
theorem dX6_keep_0 : decode cX6_keep 0 = .ok (.iload_n 1, 1) := by decide +kernel
theorem dX6_keep_1 : decode cX6_keep 1 = .ok (.i2l, 1) := by decide +kernel
theorem dX6_keep_2 : decode cX6_keep 2 = .ok (.lconst 0, 1) := by decide +kernel
theorem dX6_keep_3 : decode cX6_keep 3 = .ok (.lconst 1, 1) := by decide +kernel
theorem dX6_keep_4 : decode cX6_keep 4 = .ok (.invokestatic 56, 3) := by decide +kernel
theorem dX6_keep_7 : decode cX6_keep 7 = .ok (.ifCond .ne 5, 3) := by decide +kernel
theorem dX6_keep_10 : decode cX6_keep 10 = .ok (.iconst (-1), 1) := by decide +kernel
theorem dX6_keep_11 : decode cX6_keep 11 = .ok (.ireturn, 1) := by decide +kernel
theorem dX6_keep_12 : decode cX6_keep 12 = .ok (.aload_n 0, 1) := by decide +kernel
theorem dX6_keep_13 : decode cX6_keep 13 = .ok (.getfield 16, 3) := by decide +kernel
theorem dX6_keep_16 : decode cX6_keep 16 = .ok (.iload_n 1, 1) := by decide +kernel
theorem dX6_keep_17 : decode cX6_keep 17 = .ok (.baload, 1) := by decide +kernel
theorem dX6_keep_18 : decode cX6_keep 18 = .ok (.invokestatic 159, 3) := by decide +kernel
theorem dX6_keep_21 : decode cX6_keep 21 = .ok (.istore_n 2, 1) := by decide +kernel
theorem dX6_keep_22 : decode cX6_keep 22 = .ok (.aload_n 0, 1) := by decide +kernel
theorem dX6_keep_23 : decode cX6_keep 23 = .ok (.getfield 16, 3) := by decide +kernel
theorem dX6_keep_26 : decode cX6_keep 26 = .ok (.iload_n 1, 1) := by decide +kernel
theorem dX6_keep_27 : decode cX6_keep 27 = .ok (.iconst 1, 1) := by decide +kernel
theorem dX6_keep_28 : decode cX6_keep 28 = .ok (.bastore, 1) := by decide +kernel
theorem dX6_keep_29 : decode cX6_keep 29 = .ok (.aload_n 0, 1) := by decide +kernel
theorem dX6_keep_30 : decode cX6_keep 30 = .ok (.bipush 61, 2) := by decide +kernel
theorem dX6_keep_32 : decode cX6_keep 32 = .ok (.iload_n 1, 1) := by decide +kernel
theorem dX6_keep_33 : decode cX6_keep 33 = .ok (.iconst 1, 1) := by decide +kernel
theorem dX6_keep_34 : decode cX6_keep 34 = .ok (.iadd, 1) := by decide +kernel
theorem dX6_keep_35 : decode cX6_keep 35 = .ok (.imul, 1) := by decide +kernel
theorem dX6_keep_36 : decode cX6_keep 36 = .ok (.iconst 0, 1) := by decide +kernel
theorem dX6_keep_37 : decode cX6_keep 37 = .ok (.invokevirtual 270, 3) := by decide +kernel
theorem dX6_keep_40 : decode cX6_keep 40 = .ok (.iload_n 2, 1) := by decide +kernel
theorem dX6_keep_41 : decode cX6_keep 41 = .ok (.ireturn, 1) := by decide +kernel
abbrev rmX6_keep : Room := { frames := 1, cells := 0, slots := 0, locals := 25 }
def opX6_keep (po : Int32 → px_St → Prop) : List (Nat × px_Op) := [
  (0, px_il 1 1),
  (1, px_i2l 2),
  (2, px_push 3 (.long 0)),
  (3, px_push 4 (.long 1)),
  (4, px_callS 7 3 px_vI prX6_in poX6_in),
  (7, px_if 10 12 (fun x => ¬ x = 0)),
  (10, px_push 11 (.int (-1))),
  (11, px_iret (.int) po),
  (12, px_al 13 0),
  (13, px_get dM 16 6 2),
  (16, px_il 17 1),
  (17, px_ald dM 18 2),
  (18, px_callS 21 1 px_vI prX6_flag poX6_flag),
  (21, px_is 22 2),
  (22, px_al 23 0),
  (23, px_get dM 26 6 2),
  (26, px_il 27 1),
  (27, px_push 28 (.int 1)),
  (28, px_ast dM 29 2 (fun x => vp_nar .boolean x)),
  (29, px_al 30 0),
  (30, px_push 32 (.int 61)),
  (32, px_il 33 1),
  (33, px_push 34 (.int 1)),
  (34, px_bin 35 (fun x y => x + y)),
  (35, px_bin 36 (fun x y => x * y)),
  (36, px_push 37 (.int 0)),
  (37, px_callV dM 40 6 2 px_vV prX6_copies poX6_copies),
  (40, px_il 41 2),
  (41, px_iret (.int) po)]
set_option maxRecDepth 100000 in
set_option maxHeartbeats 4000000 in
theorem okX6_keep : ∀ (po : Int32 → px_St → Prop) (i pc : Nat) (op : px_Op), (opX6_keep po)[i]? = some (pc, op) → px_Snd (cX6_keep, 3, RX6, Cond.code yX6_keep cX6_keep 3 (some .int) :: wdM, (some .int), rmX6_keep, dM) px_vI po pc op := by
  intro po
  unfold opX6_keep
  refine px_ok_cons (ps_iload_n dX6_keep_0 rfl) ?_
  refine px_ok_cons (ps_i2l dX6_keep_1) ?_
  refine px_ok_cons (ps_lconst dX6_keep_2 (by decide)) ?_
  refine px_ok_cons (ps_lconst dX6_keep_3 (by decide)) ?_
  refine px_ok_cons (ps_callS mX6_in (fun _ _ => rfl) (fun _ _ ht => px_cwS wgM (wdM_0_in _ (List.mem_of_getElem? (i := 32) rfl)) (wdM_0_in _ (List.mem_of_getElem? (i := 33) rfl)) (wdM_0_in _ (List.mem_of_getElem? (i := 22) rfl)) (wdM_0_in _ (List.mem_of_getElem? (i := 27) rfl)) (by decide +kernel) rfl rfl (by decide) ht) dX6_keep_4) ?_
  refine px_ok_cons (ps_if_ne dX6_keep_7 (by decide)) ?_
  refine px_ok_cons (ps_iconst dX6_keep_10 (by decide)) ?_
  refine px_ok_cons (ps_ireturn rfl dX6_keep_11) ?_
  refine px_ok_cons (ps_aload_n dX6_keep_12 rfl) ?_
  refine px_ok_cons (fgX6_16 dX6_keep_13) ?_
  refine px_ok_cons (ps_iload_n dX6_keep_16 rfl) ?_
  refine px_ok_cons (ps_zaload dX6_keep_17) ?_
  refine px_ok_cons (ps_callS mX6_flag (fun _ _ => rfl) (fun _ _ ht => px_cwS wgM (wdM_3_in _ (List.mem_of_getElem? (i := 10) rfl)) (wdM_3_in _ (List.mem_of_getElem? (i := 11) rfl)) (wdM_0_in _ (List.mem_of_getElem? (i := 22) rfl)) (wdM_0_in _ (List.mem_of_getElem? (i := 28) rfl)) (by decide +kernel) rfl rfl (by decide) ht) dX6_keep_18) ?_
  refine px_ok_cons (ps_istore_n dX6_keep_21 rfl (by decide)) ?_
  refine px_ok_cons (ps_aload_n dX6_keep_22 rfl) ?_
  refine px_ok_cons (fgX6_16 dX6_keep_23) ?_
  refine px_ok_cons (ps_iload_n dX6_keep_26 rfl) ?_
  refine px_ok_cons (ps_iconst dX6_keep_27 (by decide)) ?_
  refine px_ok_cons (ps_zastore dX6_keep_28) ?_
  refine px_ok_cons (ps_aload_n dX6_keep_29 rfl) ?_
  refine px_ok_cons (ps_bipush dX6_keep_30 (by decide)) ?_
  refine px_ok_cons (ps_iload_n dX6_keep_32 rfl) ?_
  refine px_ok_cons (ps_iconst dX6_keep_33 (by decide)) ?_
  refine px_ok_cons (ps_iadd dX6_keep_34) ?_
  refine px_ok_cons (ps_imul dX6_keep_35) ?_
  refine px_ok_cons (ps_iconst dX6_keep_36 (by decide)) ?_
  refine px_ok_cons (ps_callV mX6_copies (fun _ _ => rfl) (C := RX6) rfl (fun _ _ ht => px_cwV wgM (wdM_6_in _ (List.mem_of_getElem? (i := 15) rfl)) (wdM_6_in _ (List.mem_of_getElem? (i := 16) rfl)) (wdM_6_in _ (List.mem_of_getElem? (i := 17) rfl)) (wdM_0_in _ (List.mem_of_getElem? (i := 22) rfl)) (wdM_6_in _ (List.mem_of_getElem? (i := 13) rfl)) (by decide +kernel) rfl rfl (by decide) ht) dX6_keep_37) ?_
  refine px_ok_cons (ps_iload_n dX6_keep_40 rfl) ?_
  refine px_ok_cons (ps_ireturn rfl dX6_keep_41) ?_
  exact px_ok_nil
set_option maxRecDepth 100000 in
set_option maxHeartbeats 4000000 in
theorem sgX6_keep_0 {po : Int32 → px_St → Prop} {G : px_K} (hG : px_cl (opX6_keep po) G) (v1 : Int32) (σ : px_St)
    (H : ∃ g3 : gtX6_in, qrX6_in g3 v1.toInt64 (0 : Int64) (1 : Int64) σ ∧ ∀ (r1 : Int32) (σ2 : px_St), qoX6_in g3 v1.toInt64 (0 : Int64) (1 : Int64) σ r1 σ2 → ((¬ r1 = 0) → vp_in v1 2 ∧ ∃ g7 : gtX6_flag, qrX6_flag g7 (σ2.1 3 v1.toNatClampNeg) σ2 ∧ ∀ (r5 : Int32) (σ6 : px_St), qoX6_flag g7 (σ2.1 3 v1.toNatClampNeg) σ2 r5 σ6 → vp_in v1 2 ∧ ∃ g11 : gtX6_copies, qrX6_copies g11 ((61 : Int32) * (v1 + (1 : Int32))) (0 : Int32) (px_up σ6 3 v1.toNatClampNeg (vp_nar .boolean (1 : Int32))) ∧ ∀ (r9 : Unit) (σ10 : px_St), qoX6_copies g11 ((61 : Int32) * (v1 + (1 : Int32))) (0 : Int32) (px_up σ6 3 v1.toNatClampNeg (vp_nar .boolean (1 : Int32))) r9 σ10 → po r5 σ10) ∧ (¬ (¬ r1 = 0) → po (-1 : Int32) σ2)) :
    G 0 (px_ent 3 [.ref 0, .int v1]) [] σ := by
  refine hG.1 0 _ _ rfl _ _ _ ?_
  refine hG.1 1 _ _ rfl _ _ _ ?_
  refine hG.1 2 _ _ rfl _ _ _ ?_
  refine hG.1 3 _ _ rfl _ _ _ ?_
  refine hG.1 4 _ _ rfl _ _ _ ?_
  obtain ⟨g3, H⟩ := H
  refine ⟨Nat.le_of_ble_eq_true rfl, Nat.le_of_ble_eq_true rfl, g3, ⟨_, _, _, rfl, H.1⟩, fun r1 σ2 hp4 => ?_⟩
  replace H := H.2 r1 σ2 hp4
  refine hG.1 5 _ _ rfl _ _ _ ?_
  refine ⟨fun h13 => ?_, fun h13 => ?_⟩
  · replace H := H.1 h13
    refine hG.1 8 _ _ rfl _ _ _ ?_
    refine hG.1 9 _ _ rfl _ _ _ ?_
    refine ⟨⟨rfl, by decide⟩, ?_⟩
    refine hG.1 10 _ _ rfl _ _ _ ?_
    refine hG.1 11 _ _ rfl _ _ _ ?_
    refine ⟨⟨rfl, by decide⟩, H.1, ?_⟩
    replace H := H.2
    refine hG.1 12 _ _ rfl _ _ _ ?_
    obtain ⟨g7, H⟩ := H
    refine ⟨Nat.le_of_ble_eq_true rfl, Nat.le_of_ble_eq_true rfl, g7, ⟨_, rfl, H.1⟩, fun r5 σ6 hp8 => ?_⟩
    replace H := H.2 r5 σ6 hp8
    refine hG.1 13 _ _ rfl _ _ _ ?_
    show G 22 [some (.ref 0), some (.int v1), some (.int r5)] [] σ6
    refine hG.1 14 _ _ rfl _ _ _ ?_
    refine hG.1 15 _ _ rfl _ _ _ ?_
    refine ⟨⟨rfl, by decide⟩, ?_⟩
    refine hG.1 16 _ _ rfl _ _ _ ?_
    refine hG.1 17 _ _ rfl _ _ _ ?_
    refine hG.1 18 _ _ rfl _ _ _ ?_
    refine ⟨⟨rfl, by decide⟩, H.1, ?_⟩
    replace H := H.2
    refine hG.1 19 _ _ rfl _ _ _ ?_
    refine hG.1 20 _ _ rfl _ _ _ ?_
    refine hG.1 21 _ _ rfl _ _ _ ?_
    refine hG.1 22 _ _ rfl _ _ _ ?_
    refine hG.1 23 _ _ rfl _ _ _ ?_
    refine hG.1 24 _ _ rfl _ _ _ ?_
    refine hG.1 25 _ _ rfl _ _ _ ?_
    refine hG.1 26 _ _ rfl _ _ _ ?_
    obtain ⟨g11, H⟩ := H
    refine ⟨⟨rfl, by decide⟩, Nat.le_of_ble_eq_true rfl, g11, ⟨_, _, rfl, H.1⟩, fun r9 σ10 hp12 => ?_⟩
    replace H := H.2 r9 σ10 hp12
    refine hG.1 27 _ _ rfl _ _ _ ?_
    refine hG.1 28 _ _ rfl _ _ _ ?_
    exact ⟨rfl, H⟩
  · replace H := H.2 h13
    refine hG.1 6 _ _ rfl _ _ _ ?_
    refine hG.1 7 _ _ rfl _ _ _ ?_
    exact ⟨rfl, H⟩
set_option maxRecDepth 100000 in
set_option maxHeartbeats 4000000 in
theorem hhX6_keep (g : gtX6_keep) (v1 : Int32) (σ : px_St) (h : qrX6_keep g v1 σ) (G : px_K) (hG : px_cl (opX6_keep (qoX6_keep g v1 σ)) G) : G 0 (px_ent 3 [.ref 0, .int v1]) [] σ := by
  obtain ⟨hX, hok⟩ := h
  have hvk := hok.1.1
  refine sgX6_keep_0 hG _ σ ⟨(), trivial, fun r1 σ1 h1 => ?_⟩
  obtain ⟨rfl, b1⟩ := h1
  unfold qoX6_keep x_keep
  refine bz1 (in_c (a := 0) (b := 1) (by decide) (by decide) b1) (fun z => ?_) (fun z => ?_)
  · rw [xif_t z]
    obtain ⟨k, hk, rfl⟩ := (rngc 1 1 rfl (by omega)).mp z
    rw [nI_clamp (by omega)]
    have hin : vp_in (nI k) 2 := vp_in_nI (by omega) (by decide)
    refine ⟨hin, (), trivial, fun r2 σ2 h2 => ⟨hin, (61 * (k + 1), 0), ⟨by omega, by omega, by omega, ix61 k, rfl⟩, fun _ σ3 h3 => ?_⟩⟩
    obtain ⟨rfl, rfl⟩ := h2
    obtain ⟨c1, c2, c3⟩ := h3
    obtain ⟨g1, g2, g3, g4, g5, g6, g7⟩ := hX
    have ek : ∀ j, j ≠ 1 → j ≠ 3 → σ3.1 j = σ2.1 j := fun j a b => (c1 j a).trans (px_up_n b)
    have e1 : (px_up σ2 3 k (vp_nar .boolean 1)).1 1 = σ2.1 1 := px_up_n (by omega)
    rw [e1] at c2 c3
    refine ⟨?_, g1.cg hvk.1 (fun j hj => c3 j (by omega)), g2.cg hok.2.1.1 (fun j a b => c3 j (by omega)), g3.kept (by rw [ek 0 (by omega) (by omega)]) (ek 5 (by omega) (by omega)), fun j hj => ?_, by rw [ek 0 (by omega) (by omega)]; exact g5, by rw [ek 0 (by omega) (by omega)]; exact g6, g7.kept (ek 8 (by omega) (by omega)) (ek 9 (by omega) (by omega)) (ek 10 (by omega) (by omega))⟩
    · rw [(g4 k (by omega)).1]
      exact flag_is1 _
    · show σ3.1 3 j = nI (x_is1 (x_upd g.2.2.2.1 k (some (g.1, g.2.1)) j)) ∧ ∀ w, x_upd g.2.2.2.1 k (some (g.1, g.2.1)) j = some w → _
      rw [c1 3 (by omega), px_up_at]
      by_cases hjk : j = k
      · subst hjk
        rw [x_upd_s, if_pos ⟨rfl, rfl⟩]
        refine ⟨show vp_nar .boolean (1 : Int32) = nI 1 by decide, fun w hw => ?_⟩
        have hw := Option.some.inj hw
        subst hw
        refine ⟨g1.cg hvk.1 (fun i hi => ?_), g2.cg hok.2.1.1 (fun i a b => ?_)⟩
        · show σ3.1 1 (61 * (j + 1) + i) = _
          rw [c2 i (by omega), Nat.zero_add]
        · show σ3.1 1 (61 * (j + 1) + i) = _
          rw [c2 i (by omega), Nat.zero_add]
      · rw [x_upd_n hjk, if_neg (fun q => hjk q.2)]
        refine ⟨(g4 j hj).1, fun w hw => ?_⟩
        obtain ⟨a1, a2⟩ := (g4 j hj).2 w hw
        have hwk := hok.2.2.2.1 j w hw
        refine ⟨a1.cg hwk.1.1.1 (fun i hi => ?_), a2.cg hwk.2.1 (fun i a b => ?_)⟩
        · show σ3.1 1 (61 * (j + 1) + i) = σ2.1 1 (61 * (j + 1) + i)
          exact c3 _ (by omega)
        · show σ3.1 1 (61 * (j + 1) + i) = σ2.1 1 (61 * (j + 1) + i)
          exact c3 _ (by omega)
  · rw [xif_f z]
    exact ⟨rfl, hX⟩
theorem mX6_keep (g : gtX6_keep) : px_Met dM yX6_keep (Cond.code yX6_keep cX6_keep 3 (some .int) :: wdM) rmX6_keep px_vI (prX6_keep g) (poX6_keep g) :=
  px_met (Z := (cX6_keep, 3, RX6, Cond.code yX6_keep cX6_keep 3 (some .int) :: wdM, (some .int), rmX6_keep, dM)) opX6_keep (by decide) rfl rfl okX6_keep (fun As σ h => by obtain ⟨v1, rfl, h⟩ := h; exact Nat.le_of_ble_eq_true rfl) (fun As σ h G hG => by obtain ⟨v1, rfl, h⟩ := h; exact hhX6_keep g v1 σ h G hG)
abbrev gtX6_back : Type := pv_X
def qrX6_back (X : pv_X) (_ : Int32) (σ : px_St) : Prop := mo_is σ X ∧ xo X
def qoX6_back (X : pv_X) (k : Int32) (_ : px_St) (r : Int32) (σ' : px_St) : Prop := r = (x_back X k).1 ∧ mo_is σ' (x_back X k).2
def prX6_back (g : gtX6_back) : List Value → px_St → Prop := fun As σ => ∃ v1 : Int32, As = [.ref 0, .int v1] ∧ qrX6_back g v1 σ
def poX6_back (g : gtX6_back) : List Value → px_St → Int32 → px_St → Prop
  | [.ref _, .int v1], σ, r, σ' => qoX6_back g v1 σ r σ'
  | _, _, _, _ => False
theorem dX6_back_0 : decode cX6_back 0 = .ok (.iload_n 1, 1) := by decide +kernel
theorem dX6_back_1 : decode cX6_back 1 = .ok (.i2l, 1) := by decide +kernel
theorem dX6_back_2 : decode cX6_back 2 = .ok (.lconst 0, 1) := by decide +kernel
theorem dX6_back_3 : decode cX6_back 3 = .ok (.lconst 1, 1) := by decide +kernel
theorem dX6_back_4 : decode cX6_back 4 = .ok (.invokestatic 56, 3) := by decide +kernel
theorem dX6_back_7 : decode cX6_back 7 = .ok (.ifCond .ne 5, 3) := by decide +kernel
theorem dX6_back_10 : decode cX6_back 10 = .ok (.iconst (-1), 1) := by decide +kernel
theorem dX6_back_11 : decode cX6_back 11 = .ok (.ireturn, 1) := by decide +kernel
theorem dX6_back_12 : decode cX6_back 12 = .ok (.aload_n 0, 1) := by decide +kernel
theorem dX6_back_13 : decode cX6_back 13 = .ok (.getfield 16, 3) := by decide +kernel
theorem dX6_back_16 : decode cX6_back 16 = .ok (.iload_n 1, 1) := by decide +kernel
theorem dX6_back_17 : decode cX6_back 17 = .ok (.baload, 1) := by decide +kernel
theorem dX6_back_18 : decode cX6_back 18 = .ok (.ifCond .ne 6, 3) := by decide +kernel
theorem dX6_back_21 : decode cX6_back 21 = .ok (.bipush (-2), 2) := by decide +kernel
theorem dX6_back_23 : decode cX6_back 23 = .ok (.ireturn, 1) := by decide +kernel
theorem dX6_back_24 : decode cX6_back 24 = .ok (.aload_n 0, 1) := by decide +kernel
theorem dX6_back_25 : decode cX6_back 25 = .ok (.iconst 0, 1) := by decide +kernel
theorem dX6_back_26 : decode cX6_back 26 = .ok (.bipush 61, 2) := by decide +kernel
theorem dX6_back_28 : decode cX6_back 28 = .ok (.iload_n 1, 1) := by decide +kernel
theorem dX6_back_29 : decode cX6_back 29 = .ok (.iconst 1, 1) := by decide +kernel
theorem dX6_back_30 : decode cX6_back 30 = .ok (.iadd, 1) := by decide +kernel
theorem dX6_back_31 : decode cX6_back 31 = .ok (.imul, 1) := by decide +kernel
theorem dX6_back_32 : decode cX6_back 32 = .ok (.invokevirtual 270, 3) := by decide +kernel
theorem dX6_back_35 : decode cX6_back 35 = .ok (.aload_n 0, 1) := by decide +kernel
theorem dX6_back_36 : decode cX6_back 36 = .ok (.getfield 7, 3) := by decide +kernel
theorem dX6_back_39 : decode cX6_back 39 = .ok (.bipush 47, 2) := by decide +kernel
theorem dX6_back_41 : decode cX6_back 41 = .ok (.iaload, 1) := by decide +kernel
theorem dX6_back_42 : decode cX6_back 42 = .ok (.ireturn, 1) := by decide +kernel
abbrev rmX6_back : Room := { frames := 1, cells := 0, slots := 0, locals := 25 }
def opX6_back (po : Int32 → px_St → Prop) : List (Nat × px_Op) := [
  (0, px_il 1 1),
  (1, px_i2l 2),
  (2, px_push 3 (.long 0)),
  (3, px_push 4 (.long 1)),
  (4, px_callS 7 3 px_vI prX6_in poX6_in),
  (7, px_if 10 12 (fun x => ¬ x = 0)),
  (10, px_push 11 (.int (-1))),
  (11, px_iret (.int) po),
  (12, px_al 13 0),
  (13, px_get dM 16 6 2),
  (16, px_il 17 1),
  (17, px_ald dM 18 2),
  (18, px_if 21 24 (fun x => ¬ x = 0)),
  (21, px_push 23 (.int (-2))),
  (23, px_iret (.int) po),
  (24, px_al 25 0),
  (25, px_push 26 (.int 0)),
  (26, px_push 28 (.int 61)),
  (28, px_il 29 1),
  (29, px_push 30 (.int 1)),
  (30, px_bin 31 (fun x y => x + y)),
  (31, px_bin 32 (fun x y => x * y)),
  (32, px_callV dM 35 6 2 px_vV prX6_copies poX6_copies),
  (35, px_al 36 0),
  (36, px_get dM 39 6 0),
  (39, px_push 41 (.int 47)),
  (41, px_ald dM 42 0),
  (42, px_iret (.int) po)]
set_option maxRecDepth 100000 in
set_option maxHeartbeats 4000000 in
theorem okX6_back : ∀ (po : Int32 → px_St → Prop) (i pc : Nat) (op : px_Op), (opX6_back po)[i]? = some (pc, op) → px_Snd (cX6_back, 2, RX6, Cond.code yX6_back cX6_back 2 (some .int) :: wdM, (some .int), rmX6_back, dM) px_vI po pc op := by
  intro po
  unfold opX6_back
  refine px_ok_cons (ps_iload_n dX6_back_0 rfl) ?_
  refine px_ok_cons (ps_i2l dX6_back_1) ?_
  refine px_ok_cons (ps_lconst dX6_back_2 (by decide)) ?_
  refine px_ok_cons (ps_lconst dX6_back_3 (by decide)) ?_
  refine px_ok_cons (ps_callS mX6_in (fun _ _ => rfl) (fun _ _ ht => px_cwS wgM (wdM_0_in _ (List.mem_of_getElem? (i := 32) rfl)) (wdM_0_in _ (List.mem_of_getElem? (i := 33) rfl)) (wdM_0_in _ (List.mem_of_getElem? (i := 22) rfl)) (wdM_0_in _ (List.mem_of_getElem? (i := 27) rfl)) (by decide +kernel) rfl rfl (by decide) ht) dX6_back_4) ?_
  refine px_ok_cons (ps_if_ne dX6_back_7 (by decide)) ?_
  refine px_ok_cons (ps_iconst dX6_back_10 (by decide)) ?_
  refine px_ok_cons (ps_ireturn rfl dX6_back_11) ?_
  refine px_ok_cons (ps_aload_n dX6_back_12 rfl) ?_
  refine px_ok_cons (fgX6_16 dX6_back_13) ?_
  refine px_ok_cons (ps_iload_n dX6_back_16 rfl) ?_
  refine px_ok_cons (ps_zaload dX6_back_17) ?_
  refine px_ok_cons (ps_if_ne dX6_back_18 (by decide)) ?_
  refine px_ok_cons (ps_bipush dX6_back_21 (by decide)) ?_
  refine px_ok_cons (ps_ireturn rfl dX6_back_23) ?_
  refine px_ok_cons (ps_aload_n dX6_back_24 rfl) ?_
  refine px_ok_cons (ps_iconst dX6_back_25 (by decide)) ?_
  refine px_ok_cons (ps_bipush dX6_back_26 (by decide)) ?_
  refine px_ok_cons (ps_iload_n dX6_back_28 rfl) ?_
  refine px_ok_cons (ps_iconst dX6_back_29 (by decide)) ?_
  refine px_ok_cons (ps_iadd dX6_back_30) ?_
  refine px_ok_cons (ps_imul dX6_back_31) ?_
  refine px_ok_cons (ps_callV mX6_copies (fun _ _ => rfl) (C := RX6) rfl (fun _ _ ht => px_cwV wgM (wdM_6_in _ (List.mem_of_getElem? (i := 15) rfl)) (wdM_6_in _ (List.mem_of_getElem? (i := 16) rfl)) (wdM_6_in _ (List.mem_of_getElem? (i := 17) rfl)) (wdM_0_in _ (List.mem_of_getElem? (i := 22) rfl)) (wdM_6_in _ (List.mem_of_getElem? (i := 13) rfl)) (by decide +kernel) rfl rfl (by decide) ht) dX6_back_32) ?_
  refine px_ok_cons (ps_aload_n dX6_back_35 rfl) ?_
  refine px_ok_cons (fgX6_7 dX6_back_36) ?_
  refine px_ok_cons (ps_bipush dX6_back_39 (by decide)) ?_
  refine px_ok_cons (ps_iaload dX6_back_41) ?_
  refine px_ok_cons (ps_ireturn rfl dX6_back_42) ?_
  exact px_ok_nil
set_option maxRecDepth 100000 in
set_option maxHeartbeats 4000000 in
theorem sgX6_back_0 {po : Int32 → px_St → Prop} {G : px_K} (hG : px_cl (opX6_back po) G) (v1 : Int32) (σ : px_St)
    (H : ∃ g3 : gtX6_in, qrX6_in g3 v1.toInt64 (0 : Int64) (1 : Int64) σ ∧ ∀ (r1 : Int32) (σ2 : px_St), qoX6_in g3 v1.toInt64 (0 : Int64) (1 : Int64) σ r1 σ2 → ((¬ r1 = 0) → vp_in v1 2 ∧ ((¬ (σ2.1 3 v1.toNatClampNeg) = 0) → ∃ g7 : gtX6_copies, qrX6_copies g7 (0 : Int32) ((61 : Int32) * (v1 + (1 : Int32))) σ2 ∧ ∀ (r5 : Unit) (σ6 : px_St), qoX6_copies g7 (0 : Int32) ((61 : Int32) * (v1 + (1 : Int32))) σ2 r5 σ6 → vp_in (47 : Int32) 183 ∧ po (σ6.1 1 (47 : Int32).toNatClampNeg) σ6) ∧ (¬ (¬ (σ2.1 3 v1.toNatClampNeg) = 0) → po (-2 : Int32) σ2)) ∧ (¬ (¬ r1 = 0) → po (-1 : Int32) σ2)) :
    G 0 (px_ent 2 [.ref 0, .int v1]) [] σ := by
  refine hG.1 0 _ _ rfl _ _ _ ?_
  refine hG.1 1 _ _ rfl _ _ _ ?_
  refine hG.1 2 _ _ rfl _ _ _ ?_
  refine hG.1 3 _ _ rfl _ _ _ ?_
  refine hG.1 4 _ _ rfl _ _ _ ?_
  obtain ⟨g3, H⟩ := H
  refine ⟨Nat.le_of_ble_eq_true rfl, Nat.le_of_ble_eq_true rfl, g3, ⟨_, _, _, rfl, H.1⟩, fun r1 σ2 hp4 => ?_⟩
  replace H := H.2 r1 σ2 hp4
  refine hG.1 5 _ _ rfl _ _ _ ?_
  refine ⟨fun h10 => ?_, fun h10 => ?_⟩
  · replace H := H.1 h10
    refine hG.1 8 _ _ rfl _ _ _ ?_
    refine hG.1 9 _ _ rfl _ _ _ ?_
    refine ⟨⟨rfl, by decide⟩, ?_⟩
    refine hG.1 10 _ _ rfl _ _ _ ?_
    refine hG.1 11 _ _ rfl _ _ _ ?_
    refine ⟨⟨rfl, by decide⟩, H.1, ?_⟩
    replace H := H.2
    refine hG.1 12 _ _ rfl _ _ _ ?_
    refine ⟨fun h9 => ?_, fun h9 => ?_⟩
    · replace H := H.1 h9
      refine hG.1 15 _ _ rfl _ _ _ ?_
      refine hG.1 16 _ _ rfl _ _ _ ?_
      refine hG.1 17 _ _ rfl _ _ _ ?_
      refine hG.1 18 _ _ rfl _ _ _ ?_
      refine hG.1 19 _ _ rfl _ _ _ ?_
      refine hG.1 20 _ _ rfl _ _ _ ?_
      refine hG.1 21 _ _ rfl _ _ _ ?_
      refine hG.1 22 _ _ rfl _ _ _ ?_
      obtain ⟨g7, H⟩ := H
      refine ⟨⟨rfl, by decide⟩, Nat.le_of_ble_eq_true rfl, g7, ⟨_, _, rfl, H.1⟩, fun r5 σ6 hp8 => ?_⟩
      replace H := H.2 r5 σ6 hp8
      refine hG.1 23 _ _ rfl _ _ _ ?_
      refine hG.1 24 _ _ rfl _ _ _ ?_
      refine ⟨⟨rfl, by decide⟩, ?_⟩
      refine hG.1 25 _ _ rfl _ _ _ ?_
      refine hG.1 26 _ _ rfl _ _ _ ?_
      refine ⟨⟨rfl, by decide⟩, H.1, ?_⟩
      replace H := H.2
      refine hG.1 27 _ _ rfl _ _ _ ?_
      exact ⟨rfl, H⟩
    · replace H := H.2 h9
      refine hG.1 13 _ _ rfl _ _ _ ?_
      refine hG.1 14 _ _ rfl _ _ _ ?_
      exact ⟨rfl, H⟩
  · replace H := H.2 h10
    refine hG.1 6 _ _ rfl _ _ _ ?_
    refine hG.1 7 _ _ rfl _ _ _ ?_
    exact ⟨rfl, H⟩
set_option maxRecDepth 100000 in
set_option maxHeartbeats 4000000 in
theorem hhX6_back (g : gtX6_back) (v1 : Int32) (σ : px_St) (h : qrX6_back g v1 σ) (G : px_K) (hG : px_cl (opX6_back (qoX6_back g v1 σ)) G) : G 0 (px_ent 2 [.ref 0, .int v1]) [] σ := by
  obtain ⟨hX, hok⟩ := h
  have hvk := hok.1.1
  refine sgX6_back_0 hG _ σ ⟨(), trivial, fun r1 σ1 h1 => ?_⟩
  obtain ⟨rfl, b1⟩ := h1
  unfold qoX6_back x_back
  refine bz1 (in_c (a := 0) (b := 1) (by decide) (by decide) b1) (fun z => ?_) (fun z => ?_)
  · rw [xif_t z]
    obtain ⟨k, hk, rfl⟩ := (rngc 1 1 rfl (by omega)).mp z
    rw [nI_clamp (by omega)]
    have hin : vp_in (nI k) 2 := vp_in_nI (by omega) (by decide)
    obtain ⟨e3, e4⟩ := hX.2.2.2.1 k (by omega)
    rw [e3, c47]
    cases hI : g.2.2.2.1 k with
    | none =>
      exact ⟨hin, fun q => absurd rfl q, fun _ => ⟨rfl, hX⟩⟩
    | some w =>
      refine ⟨hin, fun _ => ⟨(0, 61 * (k + 1)), ⟨by omega, by omega, by omega, rfl, ix61 k⟩, fun _ σ3 h3 => ⟨i47, ?_⟩⟩, fun q => absurd (show ¬ nI 1 = 0 by decide) q⟩
      obtain ⟨c1, c2, c3⟩ := h3
      obtain ⟨a1, a2⟩ := e4 w hI
      have hwk := hok.2.2.2.1 k w hI
      have hV3 : mv_is (σ3.1 1) w.1 := a1.cg hwk.1.1.1 (fun j hj => by have := c2 j (by omega); rw [Nat.zero_add] at this; exact this)
      have hS3 : ms_is (σ3.1 1) w.2 := a2.cg hwk.2.1 (fun j a b => by have := c2 j (by omega); rw [Nat.zero_add] at this; exact this)
      refine ⟨hV3.1.2.2, ?_⟩
      show mo_is σ3 (xV (xS g w.2) w.1)
      exact mo_1 hX (fun j hj => c1 j (by omega)) (fun j _ => by rw [c1 0 (by omega)]) hV3 hS3 (fun j hj => c3 j (by omega))
  · rw [xif_f z]
    exact ⟨rfl, hX⟩
theorem mX6_back (g : gtX6_back) : px_Met dM yX6_back (Cond.code yX6_back cX6_back 2 (some .int) :: wdM) rmX6_back px_vI (prX6_back g) (poX6_back g) :=
  px_met (Z := (cX6_back, 2, RX6, Cond.code yX6_back cX6_back 2 (some .int) :: wdM, (some .int), rmX6_back, dM)) opX6_back (by decide) rfl rfl okX6_back (fun As σ h => by obtain ⟨v1, rfl, h⟩ := h; exact Nat.le_of_ble_eq_true rfl) (fun As σ h G hG => by obtain ⟨v1, rfl, h⟩ := h; exact hhX6_back g v1 σ h G hG)
theorem ix40 (k i : Nat) : (40 : Int32) * nI k + nI i = nI (40 * k + i) := by rw [show (40 : Int32) = nI 40 from rfl, pk_mul, nI_add]
theorem mo_H {σ σ' : px_St} {X : pv_X} {H : Nat → Option pv_H} (h : mo_is σ X) (hk : ∀ k, k < 8 → σ'.1 k = σ.1 k) (hH : mo_sh σ' H) : mo_is σ' (xH X H) := by
  obtain ⟨g1, g2, g3, g4, g5, g6, g7⟩ := h
  have e0 := hk 0 (by omega)
  have e1 := hk 1 (by omega)
  exact ⟨by rw [e1]; exact g1, by rw [e1]; exact g2, g3.kept (by rw [e0]) (hk 5 (by omega)), g4.kept (hk 3 (by omega)) (fun j _ => by rw [e1]), by rw [e0]; exact g5, by rw [e0]; exact g6, hH⟩
abbrev gtX6_sheet : Type := pv_X
def qrX6_sheet (X : pv_X) (_ _ _ : Int32) (σ : px_St) : Prop := mo_is σ X ∧ xo X
def qoX6_sheet (X : pv_X) (k l n : Int32) (_ : px_St) (r : Int32) (σ' : px_St) : Prop := r = (x_sheet X k l n).1 ∧ mo_is σ' (x_sheet X k l n).2
def prX6_sheet (g : gtX6_sheet) : List Value → px_St → Prop := fun As σ => ∃ v1 : Int32, ∃ v2 : Int32, ∃ v3 : Int32, As = [.ref 0, .int v1, .int v2, .int v3] ∧ qrX6_sheet g v1 v2 v3 σ
def poX6_sheet (g : gtX6_sheet) : List Value → px_St → Int32 → px_St → Prop
  | [.ref _, .int v1, .int v2, .int v3], σ, r, σ' => qoX6_sheet g v1 v2 v3 σ r σ'
  | _, _, _, _ => False
theorem dX6_sheet_0 : decode cX6_sheet 0 = .ok (.iload_n 1, 1) := by decide +kernel
theorem dX6_sheet_1 : decode cX6_sheet 1 = .ok (.iload_n 2, 1) := by decide +kernel
theorem dX6_sheet_2 : decode cX6_sheet 2 = .ok (.invokestatic 273, 3) := by decide +kernel
theorem dX6_sheet_5 : decode cX6_sheet 5 = .ok (.ifCond .eq 9, 3) := by decide +kernel
theorem dX6_sheet_8 : decode cX6_sheet 8 = .ok (.iload_n 3, 1) := by decide +kernel
theorem dX6_sheet_9 : decode cX6_sheet 9 = .ok (.bipush 40, 2) := by decide +kernel
theorem dX6_sheet_11 : decode cX6_sheet 11 = .ok (.if_icmp .le 5, 3) := by decide +kernel
theorem dX6_sheet_14 : decode cX6_sheet 14 = .ok (.iconst (-1), 1) := by decide +kernel
theorem dX6_sheet_15 : decode cX6_sheet 15 = .ok (.ireturn, 1) := by decide +kernel
theorem dX6_sheet_16 : decode cX6_sheet 16 = .ok (.iload_n 3, 1) := by decide +kernel
theorem dX6_sheet_17 : decode cX6_sheet 17 = .ok (.ifCond .ge 6, 3) := by decide +kernel
theorem dX6_sheet_20 : decode cX6_sheet 20 = .ok (.bipush (-14), 2) := by decide +kernel
theorem dX6_sheet_22 : decode cX6_sheet 22 = .ok (.ireturn, 1) := by decide +kernel
theorem dX6_sheet_23 : decode cX6_sheet 23 = .ok (.aload_n 0, 1) := by decide +kernel
theorem dX6_sheet_24 : decode cX6_sheet 24 = .ok (.getfield 32, 3) := by decide +kernel
theorem dX6_sheet_27 : decode cX6_sheet 27 = .ok (.iload_n 1, 1) := by decide +kernel
theorem dX6_sheet_28 : decode cX6_sheet 28 = .ok (.iload_n 2, 1) := by decide +kernel
theorem dX6_sheet_29 : decode cX6_sheet 29 = .ok (.iastore, 1) := by decide +kernel
theorem dX6_sheet_30 : decode cX6_sheet 30 = .ok (.aload_n 0, 1) := by decide +kernel
theorem dX6_sheet_31 : decode cX6_sheet 31 = .ok (.getfield 35, 3) := by decide +kernel
theorem dX6_sheet_34 : decode cX6_sheet 34 = .ok (.iload_n 1, 1) := by decide +kernel
theorem dX6_sheet_35 : decode cX6_sheet 35 = .ok (.iload_n 3, 1) := by decide +kernel
theorem dX6_sheet_36 : decode cX6_sheet 36 = .ok (.iastore, 1) := by decide +kernel
theorem dX6_sheet_37 : decode cX6_sheet 37 = .ok (.iconst 0, 1) := by decide +kernel
theorem dX6_sheet_38 : decode cX6_sheet 38 = .ok (.istore 4, 2) := by decide +kernel
theorem dX6_sheet_40 : decode cX6_sheet 40 = .ok (.iload 4, 2) := by decide +kernel
theorem dX6_sheet_42 : decode cX6_sheet 42 = .ok (.bipush 40, 2) := by decide +kernel
theorem dX6_sheet_44 : decode cX6_sheet 44 = .ok (.if_icmp .ge 22, 3) := by decide +kernel
theorem dX6_sheet_47 : decode cX6_sheet 47 = .ok (.aload_n 0, 1) := by decide +kernel
theorem dX6_sheet_48 : decode cX6_sheet 48 = .ok (.getfield 38, 3) := by decide +kernel
theorem dX6_sheet_51 : decode cX6_sheet 51 = .ok (.bipush 40, 2) := by decide +kernel
theorem dX6_sheet_53 : decode cX6_sheet 53 = .ok (.iload_n 1, 1) := by decide +kernel
theorem dX6_sheet_54 : decode cX6_sheet 54 = .ok (.imul, 1) := by decide +kernel
theorem dX6_sheet_55 : decode cX6_sheet 55 = .ok (.iload 4, 2) := by decide +kernel
theorem dX6_sheet_57 : decode cX6_sheet 57 = .ok (.iadd, 1) := by decide +kernel
theorem dX6_sheet_58 : decode cX6_sheet 58 = .ok (.iconst 0, 1) := by decide +kernel
theorem dX6_sheet_59 : decode cX6_sheet 59 = .ok (.iastore, 1) := by decide +kernel
theorem dX6_sheet_60 : decode cX6_sheet 60 = .ok (.iinc 4 1, 3) := by decide +kernel
theorem dX6_sheet_63 : decode cX6_sheet 63 = .ok (.goto (-23), 3) := by decide +kernel
theorem dX6_sheet_66 : decode cX6_sheet 66 = .ok (.iconst 1, 1) := by decide +kernel
theorem dX6_sheet_67 : decode cX6_sheet 67 = .ok (.ireturn, 1) := by decide +kernel
abbrev rmX6_sheet : Room := { frames := 2, cells := 0, slots := 0, locals := 46 }
def opX6_sheet (po : Int32 → px_St → Prop) : List (Nat × px_Op) := [
  (0, px_il 1 1),
  (1, px_il 2 2),
  (2, px_callS 5 2 px_vI prX6_isSheet poX6_isSheet),
  (5, px_if 8 14 (fun x => x = 0)),
  (8, px_il 9 3),
  (9, px_push 11 (.int 40)),
  (11, px_ic 14 16 (fun x y => x ≤ y)),
  (14, px_push 15 (.int (-1))),
  (15, px_iret (.int) po),
  (16, px_il 17 3),
  (17, px_if 20 23 (fun x => 0 ≤ x)),
  (20, px_push 22 (.int (-14))),
  (22, px_iret (.int) po),
  (23, px_al 24 0),
  (24, px_get dM 27 6 20),
  (27, px_il 28 1),
  (28, px_il 29 2),
  (29, px_ast dM 30 0 (fun x => x)),
  (30, px_al 31 0),
  (31, px_get dM 34 6 21),
  (34, px_il 35 1),
  (35, px_il 36 3),
  (36, px_ast dM 37 0 (fun x => x)),
  (37, px_push 38 (.int 0)),
  (38, px_is 40 4),
  (40, px_il 42 4),
  (42, px_push 44 (.int 40)),
  (44, px_ic 47 66 (fun x y => y ≤ x)),
  (47, px_al 48 0),
  (48, px_get dM 51 6 22),
  (51, px_push 53 (.int 40)),
  (53, px_il 54 1),
  (54, px_bin 55 (fun x y => x * y)),
  (55, px_il 57 4),
  (57, px_bin 58 (fun x y => x + y)),
  (58, px_push 59 (.int 0)),
  (59, px_ast dM 60 0 (fun x => x)),
  (60, px_inc 63 4 1),
  (63, px_go 40),
  (66, px_push 67 (.int 1)),
  (67, px_iret (.int) po)]
set_option maxRecDepth 100000 in
set_option maxHeartbeats 4000000 in
theorem okX6_sheet : ∀ (po : Int32 → px_St → Prop) (i pc : Nat) (op : px_Op), (opX6_sheet po)[i]? = some (pc, op) → px_Snd (cX6_sheet, 5, RX6, Cond.code yX6_sheet cX6_sheet 5 (some .int) :: wdM, (some .int), rmX6_sheet, dM) px_vI po pc op := by
  intro po
  unfold opX6_sheet
  refine px_ok_cons (ps_iload_n dX6_sheet_0 rfl) ?_
  refine px_ok_cons (ps_iload_n dX6_sheet_1 rfl) ?_
  refine px_ok_cons (ps_callS mX6_isSheet (fun _ _ => rfl) (fun _ _ ht => px_cwS wgM (wdM_6_in _ (List.mem_of_getElem? (i := 21) rfl)) (wdM_6_in _ (List.mem_of_getElem? (i := 22) rfl)) (wdM_0_in _ (List.mem_of_getElem? (i := 22) rfl)) (wdM_6_in _ (List.mem_of_getElem? (i := 19) rfl)) (by decide +kernel) rfl rfl (by decide) ht) dX6_sheet_2) ?_
  refine px_ok_cons (ps_if_eq dX6_sheet_5 (by decide)) ?_
  refine px_ok_cons (ps_iload_n dX6_sheet_8 rfl) ?_
  refine px_ok_cons (ps_bipush dX6_sheet_9 (by decide)) ?_
  refine px_ok_cons (ps_icmp_le dX6_sheet_11 (by decide)) ?_
  refine px_ok_cons (ps_iconst dX6_sheet_14 (by decide)) ?_
  refine px_ok_cons (ps_ireturn rfl dX6_sheet_15) ?_
  refine px_ok_cons (ps_iload_n dX6_sheet_16 rfl) ?_
  refine px_ok_cons (ps_if_ge dX6_sheet_17 (by decide)) ?_
  refine px_ok_cons (ps_bipush dX6_sheet_20 (by decide)) ?_
  refine px_ok_cons (ps_ireturn rfl dX6_sheet_22) ?_
  refine px_ok_cons (ps_aload_n dX6_sheet_23 rfl) ?_
  refine px_ok_cons (fgX6_32 dX6_sheet_24) ?_
  refine px_ok_cons (ps_iload_n dX6_sheet_27 rfl) ?_
  refine px_ok_cons (ps_iload_n dX6_sheet_28 rfl) ?_
  refine px_ok_cons (ps_iastore dX6_sheet_29) ?_
  refine px_ok_cons (ps_aload_n dX6_sheet_30 rfl) ?_
  refine px_ok_cons (fgX6_35 dX6_sheet_31) ?_
  refine px_ok_cons (ps_iload_n dX6_sheet_34 rfl) ?_
  refine px_ok_cons (ps_iload_n dX6_sheet_35 rfl) ?_
  refine px_ok_cons (ps_iastore dX6_sheet_36) ?_
  refine px_ok_cons (ps_iconst dX6_sheet_37 (by decide)) ?_
  refine px_ok_cons (ps_istore dX6_sheet_38 (by decide)) ?_
  refine px_ok_cons (ps_iload dX6_sheet_40) ?_
  refine px_ok_cons (ps_bipush dX6_sheet_42 (by decide)) ?_
  refine px_ok_cons (ps_icmp_ge dX6_sheet_44 (by decide)) ?_
  refine px_ok_cons (ps_aload_n dX6_sheet_47 rfl) ?_
  refine px_ok_cons (fgX6_38 dX6_sheet_48) ?_
  refine px_ok_cons (ps_bipush dX6_sheet_51 (by decide)) ?_
  refine px_ok_cons (ps_iload_n dX6_sheet_53 rfl) ?_
  refine px_ok_cons (ps_imul dX6_sheet_54) ?_
  refine px_ok_cons (ps_iload dX6_sheet_55) ?_
  refine px_ok_cons (ps_iadd dX6_sheet_57) ?_
  refine px_ok_cons (ps_iconst dX6_sheet_58 (by decide)) ?_
  refine px_ok_cons (ps_iastore dX6_sheet_59) ?_
  refine px_ok_cons (ps_iinc dX6_sheet_60 (by decide) (by decide)) ?_
  refine px_ok_cons (ps_goto dX6_sheet_63 (by decide)) ?_
  refine px_ok_cons (ps_iconst dX6_sheet_66 (by decide)) ?_
  refine px_ok_cons (ps_ireturn rfl dX6_sheet_67) ?_
  exact px_ok_nil
set_option maxRecDepth 100000 in
set_option maxHeartbeats 4000000 in
theorem sgX6_sheet_0 {po : Int32 → px_St → Prop} {G : px_K} (hG : px_cl (opX6_sheet po) G) (v1 : Int32) (v2 : Int32) (v3 : Int32) (σ : px_St)
    (H : ∃ g3 : gtX6_isSheet, qrX6_isSheet g3 v1 v2 σ ∧ ∀ (r1 : Int32) (σ2 : px_St), qoX6_isSheet g3 v1 v2 σ r1 σ2 → ((r1 = 0) → po (-1 : Int32) σ2) ∧ (¬ (r1 = 0) → ((v3 ≤ (40 : Int32)) → ((0 ≤ v3) → vp_in v1 4 ∧ vp_in v1 4 ∧ G 40 [some (.ref 0), some (.int v1), some (.int v2), some (.int v3), some (.int (0 : Int32))] [] (px_up (px_up σ2 8 v1.toNatClampNeg v2) 9 v1.toNatClampNeg v3)) ∧ (¬ (0 ≤ v3) → po (-14 : Int32) σ2)) ∧ (¬ (v3 ≤ (40 : Int32)) → po (-1 : Int32) σ2))) :
    G 0 (px_ent 5 [.ref 0, .int v1, .int v2, .int v3]) [] σ := by
  refine hG.1 0 _ _ rfl _ _ _ ?_
  refine hG.1 1 _ _ rfl _ _ _ ?_
  refine hG.1 2 _ _ rfl _ _ _ ?_
  obtain ⟨g3, H⟩ := H
  refine ⟨Nat.le_of_ble_eq_true rfl, Nat.le_of_ble_eq_true rfl, g3, ⟨_, _, rfl, H.1⟩, fun r1 σ2 hp4 => ?_⟩
  replace H := H.2 r1 σ2 hp4
  refine hG.1 3 _ _ rfl _ _ _ ?_
  refine ⟨fun h7 => ?_, fun h7 => ?_⟩
  · replace H := H.1 h7
    refine hG.1 7 _ _ rfl _ _ _ ?_
    refine hG.1 8 _ _ rfl _ _ _ ?_
    exact ⟨rfl, H⟩
  · replace H := H.2 h7
    refine hG.1 4 _ _ rfl _ _ _ ?_
    refine hG.1 5 _ _ rfl _ _ _ ?_
    refine hG.1 6 _ _ rfl _ _ _ ?_
    refine ⟨fun h6 => ?_, fun h6 => ?_⟩
    · replace H := H.1 h6
      refine hG.1 9 _ _ rfl _ _ _ ?_
      refine hG.1 10 _ _ rfl _ _ _ ?_
      refine ⟨fun h5 => ?_, fun h5 => ?_⟩
      · replace H := H.1 h5
        refine hG.1 13 _ _ rfl _ _ _ ?_
        refine hG.1 14 _ _ rfl _ _ _ ?_
        refine ⟨⟨rfl, by decide⟩, ?_⟩
        refine hG.1 15 _ _ rfl _ _ _ ?_
        refine hG.1 16 _ _ rfl _ _ _ ?_
        refine hG.1 17 _ _ rfl _ _ _ ?_
        refine ⟨⟨rfl, by decide⟩, H.1, ?_⟩
        replace H := H.2
        refine hG.1 18 _ _ rfl _ _ _ ?_
        refine hG.1 19 _ _ rfl _ _ _ ?_
        refine ⟨⟨rfl, by decide⟩, ?_⟩
        refine hG.1 20 _ _ rfl _ _ _ ?_
        refine hG.1 21 _ _ rfl _ _ _ ?_
        refine hG.1 22 _ _ rfl _ _ _ ?_
        refine ⟨⟨rfl, by decide⟩, H.1, ?_⟩
        replace H := H.2
        refine hG.1 23 _ _ rfl _ _ _ ?_
        refine hG.1 24 _ _ rfl _ _ _ ?_
        show G 40 [some (.ref 0), some (.int v1), some (.int v2), some (.int v3), some (.int (0 : Int32))] [] (px_up (px_up σ2 8 v1.toNatClampNeg v2) 9 v1.toNatClampNeg v3)
        exact H
      · replace H := H.2 h5
        refine hG.1 11 _ _ rfl _ _ _ ?_
        refine hG.1 12 _ _ rfl _ _ _ ?_
        exact ⟨rfl, H⟩
    · replace H := H.2 h6
      refine hG.1 7 _ _ rfl _ _ _ ?_
      refine hG.1 8 _ _ rfl _ _ _ ?_
      exact ⟨rfl, H⟩
set_option maxRecDepth 100000 in
set_option maxHeartbeats 4000000 in
theorem sgX6_sheet_40 {po : Int32 → px_St → Prop} {G : px_K} (hG : px_cl (opX6_sheet po) G) (v1 : Int32) (v2 : Int32) (v3 : Int32) (v4 : Int32) (σ : px_St)
    (H : (((40 : Int32) ≤ v4) → po (1 : Int32) σ) ∧ (¬ ((40 : Int32) ≤ v4) → vp_in (((40 : Int32) * v1) + v4) 160 ∧ G 40 [some (.ref 0), some (.int v1), some (.int v2), some (.int v3), some (.int (v4 + 1))] [] (px_up σ 10 (((40 : Int32) * v1) + v4).toNatClampNeg (0 : Int32)))) :
    G 40 [some (.ref 0), some (.int v1), some (.int v2), some (.int v3), some (.int v4)] [] σ := by
  refine hG.1 25 _ _ rfl _ _ _ ?_
  refine hG.1 26 _ _ rfl _ _ _ ?_
  refine hG.1 27 _ _ rfl _ _ _ ?_
  refine ⟨fun h1 => ?_, fun h1 => ?_⟩
  · replace H := H.1 h1
    refine hG.1 39 _ _ rfl _ _ _ ?_
    refine hG.1 40 _ _ rfl _ _ _ ?_
    exact ⟨rfl, H⟩
  · replace H := H.2 h1
    refine hG.1 28 _ _ rfl _ _ _ ?_
    refine hG.1 29 _ _ rfl _ _ _ ?_
    refine ⟨⟨rfl, by decide⟩, ?_⟩
    refine hG.1 30 _ _ rfl _ _ _ ?_
    refine hG.1 31 _ _ rfl _ _ _ ?_
    refine hG.1 32 _ _ rfl _ _ _ ?_
    refine hG.1 33 _ _ rfl _ _ _ ?_
    refine hG.1 34 _ _ rfl _ _ _ ?_
    refine hG.1 35 _ _ rfl _ _ _ ?_
    refine hG.1 36 _ _ rfl _ _ _ ?_
    refine ⟨⟨rfl, by decide⟩, H.1, ?_⟩
    replace H := H.2
    refine hG.1 37 _ _ rfl _ _ _ ?_
    show G 63 [some (.ref 0), some (.int v1), some (.int v2), some (.int v3), some (.int (v4 + 1))] [] (px_up σ 10 (((40 : Int32) * v1) + v4).toNatClampNeg (0 : Int32))
    refine hG.1 38 _ _ rfl _ _ _ ?_
    exact H
set_option maxRecDepth 100000 in
set_option maxHeartbeats 4000000 in
theorem hhX6_sheet (g : gtX6_sheet) (v1 : Int32) (v2 : Int32) (v3 : Int32) (σ : px_St) (h : qrX6_sheet g v1 v2 v3 σ) (G : px_K) (hG : px_cl (opX6_sheet (qoX6_sheet g v1 v2 v3 σ)) G) : G 0 (px_ent 5 [.ref 0, .int v1, .int v2, .int v3]) [] σ := by
  obtain ⟨hX, hok⟩ := h
  refine sgX6_sheet_0 hG _ _ _ σ ⟨(), trivial, fun r1 σ1 h1 => ?_⟩
  obtain ⟨rfl, b1⟩ := h1
  refine bz2 b1 (fun z => ?_) (fun z => ?_)
  · refine ⟨fun y => ⟨fun x => ?_, fun x => ?_⟩, fun y => ?_⟩
    · obtain ⟨k, hk, rfl⟩ := (rngc 3 3 rfl (by omega)).mp z.1
      obtain ⟨l, hl, rfl⟩ := (rngc 2 2 rfl (by omega)).mp z.2
      obtain ⟨n, hn, rfl⟩ := (rngc 40 40 rfl (by omega)).mp ⟨x, y⟩
      have ex : x_sheet g (nI k) (nI l) (nI n) = (1, xH g (x_upd g.2.2.2.2.2.2 k (some (l, n, fun _ => 0)))) := by
        unfold x_sheet
        rw [xif_t ⟨z.1, z.2, y⟩, xif_t x, nI_clamp (by omega), nI_clamp (by omega), nI_clamp (by omega)]
      have hin : vp_in (nI k) 4 := vp_in_nI (by omega) (by decide)
      refine ⟨hin, hin, ?_⟩
      rw [nI_clamp (by omega)]
      have loop : ∀ m i, i + m = 40 → ∀ σ', (∀ j, j < 8 → σ'.1 j = σ1.1 j) → σ'.1 8 = (px_up σ1 8 k (nI l)).1 8 → σ'.1 9 = (px_up σ1 9 k (nI n)).1 9 → (∀ j, j < 40 * k ∨ 40 * k + 40 ≤ j → σ'.1 10 j = σ1.1 10 j) → (∀ j, j < i → σ'.1 10 (40 * k + j) = 0) → G 40 [some (.ref 0), some (.int (nI k)), some (.int (nI l)), some (.int (nI n)), some (.int (nI i))] [] σ' := by
        intro m
        induction m with
        | zero =>
          intro i hi σ' s1 s2 s3 s4 s5
          refine sgX6_sheet_40 hG _ _ _ _ σ' ⟨fun _ => ?_, fun q => absurd ((nIle 40 i rfl rfl (by omega) (by omega)).mpr (by omega)) q⟩
          unfold qoX6_sheet
          rw [ex]
          refine ⟨rfl, mo_H hX s1 (fun j hj => ?_)⟩
          rw [s2, s3, px_up_at, px_up_at]
          by_cases hjk : j = k
          · subst hjk
            rw [x_upd_s, if_pos ⟨rfl, rfl⟩, if_pos ⟨rfl, rfl⟩]
            refine ⟨fun q => (by cases q), fun w hw => ?_⟩
            have hw := Option.some.inj hw
            subst hw
            exact ⟨rfl, rfl, fun i' hi' => s5 i' (by have : i' < n := hi'; omega)⟩
          · rw [x_upd_n hjk, if_neg (fun q => hjk q.2), if_neg (fun q => hjk q.2)]
            refine ⟨(hX.2.2.2.2.2.2 j hj).1, fun w hw => ?_⟩
            obtain ⟨a1, a2, a3⟩ := (hX.2.2.2.2.2.2 j hj).2 w hw
            have hw2 := (hok.2.2.2.2.2.2 j w hw).2
            exact ⟨a1, a2, fun i' hi' => by rw [s4 _ (by omega)]; exact a3 i' hi'⟩
        | succ m ih =>
          intro i hi σ' s1 s2 s3 s4 s5
          refine sgX6_sheet_40 hG _ _ _ _ σ' ⟨fun q => absurd ((nIle 40 i rfl rfl (by omega) (by omega)).mp q) (by omega), fun _ => ?_⟩
          rw [ix40, nI_1, nI_clamp (by omega)]
          refine ⟨vp_in_nI (by omega) (by decide), ih (i + 1) (by omega) _ (fun j hj => by rw [px_up_n (by omega)]; exact s1 j hj) (by rw [px_up_n (by omega)]; exact s2) (by rw [px_up_n (by omega)]; exact s3) (fun j hj => by rw [px_up_at, if_neg (by omega)]; exact s4 j hj) (fun j hj => ?_)⟩
          rw [px_up_at]
          by_cases hji : j = i
          · rw [if_pos ⟨rfl, by rw [hji]⟩]
          · rw [if_neg (by omega)]; exact s5 j (by omega)
      exact loop 40 0 (by omega) _ (fun j hj => by rw [px_up_n (by omega), px_up_n (by omega)]) (px_up_n (by omega)) (by rw [px_up_s, px_up_s, px_up_n (by omega)]) (fun j _ => by rw [px_up_n (by omega), px_up_n (by omega)]) (fun j hj => absurd hj (Nat.not_lt_zero j))
    · unfold qoX6_sheet x_sheet
      rw [xif_t ⟨z.1, z.2, y⟩, xif_f x]
      exact ⟨rfl, hX⟩
    · unfold qoX6_sheet x_sheet
      rw [xif_f (fun q => y q.2.2)]
      exact ⟨rfl, hX⟩
  · unfold qoX6_sheet x_sheet
    rw [xif_f (fun q => z ⟨q.1, q.2.1⟩)]
    exact ⟨rfl, hX⟩
theorem mX6_sheet (g : gtX6_sheet) : px_Met dM yX6_sheet (Cond.code yX6_sheet cX6_sheet 5 (some .int) :: wdM) rmX6_sheet px_vI (prX6_sheet g) (poX6_sheet g) :=
  px_met (Z := (cX6_sheet, 5, RX6, Cond.code yX6_sheet cX6_sheet 5 (some .int) :: wdM, (some .int), rmX6_sheet, dM)) opX6_sheet (by decide) rfl rfl okX6_sheet (fun As σ h => by obtain ⟨v1, v2, v3, rfl, h⟩ := h; exact Nat.le_of_ble_eq_true rfl) (fun As σ h G hG => by obtain ⟨v1, v2, v3, rfl, h⟩ := h; exact hhX6_sheet g v1 v2 v3 σ h G hG)
abbrev gtX6_lay : Type := pv_X
def qrX6_lay (X : pv_X) (_ _ _ : Int32) (σ : px_St) : Prop := mo_is σ X ∧ xo X
def qoX6_lay (X : pv_X) (k i v : Int32) (_ : px_St) (r : Int32) (σ' : px_St) : Prop := r = (x_lay X k i v).1 ∧ mo_is σ' (x_lay X k i v).2
def prX6_lay (g : gtX6_lay) : List Value → px_St → Prop := fun As σ => ∃ v1 : Int32, ∃ v2 : Int32, ∃ v3 : Int32, As = [.ref 0, .int v1, .int v2, .int v3] ∧ qrX6_lay g v1 v2 v3 σ
def poX6_lay (g : gtX6_lay) : List Value → px_St → Int32 → px_St → Prop
  | [.ref _, .int v1, .int v2, .int v3], σ, r, σ' => qoX6_lay g v1 v2 v3 σ r σ'
  | _, _, _, _ => False
theorem dX6_lay_0 : decode cX6_lay 0 = .ok (.iload_n 1, 1) := by decide +kernel
theorem dX6_lay_1 : decode cX6_lay 1 = .ok (.iconst 0, 1) := by decide +kernel
theorem dX6_lay_2 : decode cX6_lay 2 = .ok (.invokestatic 273, 3) := by decide +kernel
theorem dX6_lay_5 : decode cX6_lay 5 = .ok (.ifCond .ne 5, 3) := by decide +kernel
theorem dX6_lay_8 : decode cX6_lay 8 = .ok (.iconst (-1), 1) := by decide +kernel
theorem dX6_lay_9 : decode cX6_lay 9 = .ok (.ireturn, 1) := by decide +kernel
theorem dX6_lay_10 : decode cX6_lay 10 = .ok (.aload_n 0, 1) := by decide +kernel
theorem dX6_lay_11 : decode cX6_lay 11 = .ok (.getfield 32, 3) := by decide +kernel
theorem dX6_lay_14 : decode cX6_lay 14 = .ok (.iload_n 1, 1) := by decide +kernel
theorem dX6_lay_15 : decode cX6_lay 15 = .ok (.iaload, 1) := by decide +kernel
theorem dX6_lay_16 : decode cX6_lay 16 = .ok (.bipush (-4), 2) := by decide +kernel
theorem dX6_lay_18 : decode cX6_lay 18 = .ok (.if_icmp .ne 6, 3) := by decide +kernel
theorem dX6_lay_21 : decode cX6_lay 21 = .ok (.bipush (-11), 2) := by decide +kernel
theorem dX6_lay_23 : decode cX6_lay 23 = .ok (.ireturn, 1) := by decide +kernel
theorem dX6_lay_24 : decode cX6_lay 24 = .ok (.iload_n 2, 1) := by decide +kernel
theorem dX6_lay_25 : decode cX6_lay 25 = .ok (.i2l, 1) := by decide +kernel
theorem dX6_lay_26 : decode cX6_lay 26 = .ok (.lconst 0, 1) := by decide +kernel
theorem dX6_lay_27 : decode cX6_lay 27 = .ok (.aload_n 0, 1) := by decide +kernel
theorem dX6_lay_28 : decode cX6_lay 28 = .ok (.getfield 35, 3) := by decide +kernel
theorem dX6_lay_31 : decode cX6_lay 31 = .ok (.iload_n 1, 1) := by decide +kernel
theorem dX6_lay_32 : decode cX6_lay 32 = .ok (.iaload, 1) := by decide +kernel
theorem dX6_lay_33 : decode cX6_lay 33 = .ok (.iconst 1, 1) := by decide +kernel
theorem dX6_lay_34 : decode cX6_lay 34 = .ok (.isub, 1) := by decide +kernel
theorem dX6_lay_35 : decode cX6_lay 35 = .ok (.i2l, 1) := by decide +kernel
theorem dX6_lay_36 : decode cX6_lay 36 = .ok (.invokestatic 56, 3) := by decide +kernel
theorem dX6_lay_39 : decode cX6_lay 39 = .ok (.ifCond .ne 6, 3) := by decide +kernel
theorem dX6_lay_42 : decode cX6_lay 42 = .ok (.bipush (-12), 2) := by decide +kernel
theorem dX6_lay_44 : decode cX6_lay 44 = .ok (.ireturn, 1) := by decide +kernel
theorem dX6_lay_45 : decode cX6_lay 45 = .ok (.aload_n 0, 1) := by decide +kernel
theorem dX6_lay_46 : decode cX6_lay 46 = .ok (.getfield 38, 3) := by decide +kernel
theorem dX6_lay_49 : decode cX6_lay 49 = .ok (.bipush 40, 2) := by decide +kernel
theorem dX6_lay_51 : decode cX6_lay 51 = .ok (.iload_n 1, 1) := by decide +kernel
theorem dX6_lay_52 : decode cX6_lay 52 = .ok (.imul, 1) := by decide +kernel
theorem dX6_lay_53 : decode cX6_lay 53 = .ok (.iload_n 2, 1) := by decide +kernel
theorem dX6_lay_54 : decode cX6_lay 54 = .ok (.iadd, 1) := by decide +kernel
theorem dX6_lay_55 : decode cX6_lay 55 = .ok (.aload_n 0, 1) := by decide +kernel
theorem dX6_lay_56 : decode cX6_lay 56 = .ok (.getfield 32, 3) := by decide +kernel
theorem dX6_lay_59 : decode cX6_lay 59 = .ok (.iload_n 1, 1) := by decide +kernel
theorem dX6_lay_60 : decode cX6_lay 60 = .ok (.iaload, 1) := by decide +kernel
theorem dX6_lay_61 : decode cX6_lay 61 = .ok (.ifCond .ne 8, 3) := by decide +kernel
theorem dX6_lay_64 : decode cX6_lay 64 = .ok (.iload_n 3, 1) := by decide +kernel
theorem dX6_lay_65 : decode cX6_lay 65 = .ok (.i2b, 1) := by decide +kernel
theorem dX6_lay_66 : decode cX6_lay 66 = .ok (.goto 19, 3) := by decide +kernel
theorem dX6_lay_69 : decode cX6_lay 69 = .ok (.aload_n 0, 1) := by decide +kernel
theorem dX6_lay_70 : decode cX6_lay 70 = .ok (.getfield 32, 3) := by decide +kernel
theorem dX6_lay_73 : decode cX6_lay 73 = .ok (.iload_n 1, 1) := by decide +kernel
theorem dX6_lay_74 : decode cX6_lay 74 = .ok (.iaload, 1) := by decide +kernel
theorem dX6_lay_75 : decode cX6_lay 75 = .ok (.iconst 1, 1) := by decide +kernel
theorem dX6_lay_76 : decode cX6_lay 76 = .ok (.if_icmp .ne 8, 3) := by decide +kernel
theorem dX6_lay_79 : decode cX6_lay 79 = .ok (.iload_n 3, 1) := by decide +kernel
theorem dX6_lay_80 : decode cX6_lay 80 = .ok (.i2s, 1) := by decide +kernel
theorem dX6_lay_81 : decode cX6_lay 81 = .ok (.goto 4, 3) := by decide +kernel
theorem dX6_lay_84 : decode cX6_lay 84 = .ok (.iload_n 3, 1) := by decide +kernel
theorem dX6_lay_85 : decode cX6_lay 85 = .ok (.iastore, 1) := by decide +kernel
theorem dX6_lay_86 : decode cX6_lay 86 = .ok (.iconst 1, 1) := by decide +kernel
theorem dX6_lay_87 : decode cX6_lay 87 = .ok (.ireturn, 1) := by decide +kernel
abbrev rmX6_lay : Room := { frames := 2, cells := 0, slots := 0, locals := 46 }
def opX6_lay (po : Int32 → px_St → Prop) : List (Nat × px_Op) := [
  (0, px_il 1 1),
  (1, px_push 2 (.int 0)),
  (2, px_callS 5 2 px_vI prX6_isSheet poX6_isSheet),
  (5, px_if 8 10 (fun x => ¬ x = 0)),
  (8, px_push 9 (.int (-1))),
  (9, px_iret (.int) po),
  (10, px_al 11 0),
  (11, px_get dM 14 6 20),
  (14, px_il 15 1),
  (15, px_ald dM 16 0),
  (16, px_push 18 (.int (-4))),
  (18, px_ic 21 24 (fun x y => ¬ x = y)),
  (21, px_push 23 (.int (-11))),
  (23, px_iret (.int) po),
  (24, px_il 25 2),
  (25, px_i2l 26),
  (26, px_push 27 (.long 0)),
  (27, px_al 28 0),
  (28, px_get dM 31 6 21),
  (31, px_il 32 1),
  (32, px_ald dM 33 0),
  (33, px_push 34 (.int 1)),
  (34, px_bin 35 (fun x y => x - y)),
  (35, px_i2l 36),
  (36, px_callS 39 3 px_vI prX6_in poX6_in),
  (39, px_if 42 45 (fun x => ¬ x = 0)),
  (42, px_push 44 (.int (-12))),
  (44, px_iret (.int) po),
  (45, px_al 46 0),
  (46, px_get dM 49 6 22),
  (49, px_push 51 (.int 40)),
  (51, px_il 52 1),
  (52, px_bin 53 (fun x y => x * y)),
  (53, px_il 54 2),
  (54, px_bin 55 (fun x y => x + y)),
  (55, px_al 56 0),
  (56, px_get dM 59 6 20),
  (59, px_il 60 1),
  (60, px_ald dM 61 0),
  (61, px_if 64 69 (fun x => ¬ x = 0)),
  (64, px_il 65 3),
  (65, px_un 66 (fun x => x.toInt8.toInt32)),
  (66, px_go 85),
  (69, px_al 70 0),
  (70, px_get dM 73 6 20),
  (73, px_il 74 1),
  (74, px_ald dM 75 0),
  (75, px_push 76 (.int 1)),
  (76, px_ic 79 84 (fun x y => ¬ x = y)),
  (79, px_il 80 3),
  (80, px_un 81 (fun x => x.toInt16.toInt32)),
  (81, px_go 85),
  (84, px_il 85 3),
  (85, px_ast dM 86 0 (fun x => x)),
  (86, px_push 87 (.int 1)),
  (87, px_iret (.int) po)]
set_option maxRecDepth 100000 in
set_option maxHeartbeats 4000000 in
theorem okX6_lay : ∀ (po : Int32 → px_St → Prop) (i pc : Nat) (op : px_Op), (opX6_lay po)[i]? = some (pc, op) → px_Snd (cX6_lay, 4, RX6, Cond.code yX6_lay cX6_lay 4 (some .int) :: wdM, (some .int), rmX6_lay, dM) px_vI po pc op := by
  intro po
  unfold opX6_lay
  refine px_ok_cons (ps_iload_n dX6_lay_0 rfl) ?_
  refine px_ok_cons (ps_iconst dX6_lay_1 (by decide)) ?_
  refine px_ok_cons (ps_callS mX6_isSheet (fun _ _ => rfl) (fun _ _ ht => px_cwS wgM (wdM_6_in _ (List.mem_of_getElem? (i := 21) rfl)) (wdM_6_in _ (List.mem_of_getElem? (i := 22) rfl)) (wdM_0_in _ (List.mem_of_getElem? (i := 22) rfl)) (wdM_6_in _ (List.mem_of_getElem? (i := 19) rfl)) (by decide +kernel) rfl rfl (by decide) ht) dX6_lay_2) ?_
  refine px_ok_cons (ps_if_ne dX6_lay_5 (by decide)) ?_
  refine px_ok_cons (ps_iconst dX6_lay_8 (by decide)) ?_
  refine px_ok_cons (ps_ireturn rfl dX6_lay_9) ?_
  refine px_ok_cons (ps_aload_n dX6_lay_10 rfl) ?_
  refine px_ok_cons (fgX6_32 dX6_lay_11) ?_
  refine px_ok_cons (ps_iload_n dX6_lay_14 rfl) ?_
  refine px_ok_cons (ps_iaload dX6_lay_15) ?_
  refine px_ok_cons (ps_bipush dX6_lay_16 (by decide)) ?_
  refine px_ok_cons (ps_icmp_ne dX6_lay_18 (by decide)) ?_
  refine px_ok_cons (ps_bipush dX6_lay_21 (by decide)) ?_
  refine px_ok_cons (ps_ireturn rfl dX6_lay_23) ?_
  refine px_ok_cons (ps_iload_n dX6_lay_24 rfl) ?_
  refine px_ok_cons (ps_i2l dX6_lay_25) ?_
  refine px_ok_cons (ps_lconst dX6_lay_26 (by decide)) ?_
  refine px_ok_cons (ps_aload_n dX6_lay_27 rfl) ?_
  refine px_ok_cons (fgX6_35 dX6_lay_28) ?_
  refine px_ok_cons (ps_iload_n dX6_lay_31 rfl) ?_
  refine px_ok_cons (ps_iaload dX6_lay_32) ?_
  refine px_ok_cons (ps_iconst dX6_lay_33 (by decide)) ?_
  refine px_ok_cons (ps_isub dX6_lay_34) ?_
  refine px_ok_cons (ps_i2l dX6_lay_35) ?_
  refine px_ok_cons (ps_callS mX6_in (fun _ _ => rfl) (fun _ _ ht => px_cwS wgM (wdM_0_in _ (List.mem_of_getElem? (i := 32) rfl)) (wdM_0_in _ (List.mem_of_getElem? (i := 33) rfl)) (wdM_0_in _ (List.mem_of_getElem? (i := 22) rfl)) (wdM_0_in _ (List.mem_of_getElem? (i := 27) rfl)) (by decide +kernel) rfl rfl (by decide) ht) dX6_lay_36) ?_
  refine px_ok_cons (ps_if_ne dX6_lay_39 (by decide)) ?_
  refine px_ok_cons (ps_bipush dX6_lay_42 (by decide)) ?_
  refine px_ok_cons (ps_ireturn rfl dX6_lay_44) ?_
  refine px_ok_cons (ps_aload_n dX6_lay_45 rfl) ?_
  refine px_ok_cons (fgX6_38 dX6_lay_46) ?_
  refine px_ok_cons (ps_bipush dX6_lay_49 (by decide)) ?_
  refine px_ok_cons (ps_iload_n dX6_lay_51 rfl) ?_
  refine px_ok_cons (ps_imul dX6_lay_52) ?_
  refine px_ok_cons (ps_iload_n dX6_lay_53 rfl) ?_
  refine px_ok_cons (ps_iadd dX6_lay_54) ?_
  refine px_ok_cons (ps_aload_n dX6_lay_55 rfl) ?_
  refine px_ok_cons (fgX6_32 dX6_lay_56) ?_
  refine px_ok_cons (ps_iload_n dX6_lay_59 rfl) ?_
  refine px_ok_cons (ps_iaload dX6_lay_60) ?_
  refine px_ok_cons (ps_if_ne dX6_lay_61 (by decide)) ?_
  refine px_ok_cons (ps_iload_n dX6_lay_64 rfl) ?_
  refine px_ok_cons (ps_i2b dX6_lay_65) ?_
  refine px_ok_cons (ps_goto dX6_lay_66 (by decide)) ?_
  refine px_ok_cons (ps_aload_n dX6_lay_69 rfl) ?_
  refine px_ok_cons (fgX6_32 dX6_lay_70) ?_
  refine px_ok_cons (ps_iload_n dX6_lay_73 rfl) ?_
  refine px_ok_cons (ps_iaload dX6_lay_74) ?_
  refine px_ok_cons (ps_iconst dX6_lay_75 (by decide)) ?_
  refine px_ok_cons (ps_icmp_ne dX6_lay_76 (by decide)) ?_
  refine px_ok_cons (ps_iload_n dX6_lay_79 rfl) ?_
  refine px_ok_cons (ps_i2s dX6_lay_80) ?_
  refine px_ok_cons (ps_goto dX6_lay_81 (by decide)) ?_
  refine px_ok_cons (ps_iload_n dX6_lay_84 rfl) ?_
  refine px_ok_cons (ps_iastore dX6_lay_85) ?_
  refine px_ok_cons (ps_iconst dX6_lay_86 (by decide)) ?_
  refine px_ok_cons (ps_ireturn rfl dX6_lay_87) ?_
  exact px_ok_nil
set_option maxRecDepth 100000 in
set_option maxHeartbeats 4000000 in
theorem sgX6_lay_0 {po : Int32 → px_St → Prop} {G : px_K} (hG : px_cl (opX6_lay po) G) (v1 : Int32) (v2 : Int32) (v3 : Int32) (σ : px_St)
    (H : ∃ g3 : gtX6_isSheet, qrX6_isSheet g3 v1 (0 : Int32) σ ∧ ∀ (r1 : Int32) (σ2 : px_St), qoX6_isSheet g3 v1 (0 : Int32) σ r1 σ2 → ((¬ r1 = 0) → vp_in v1 4 ∧ ((¬ (σ2.1 8 v1.toNatClampNeg) = (-4 : Int32)) → vp_in v1 4 ∧ ∃ g7 : gtX6_in, qrX6_in g7 v2.toInt64 (0 : Int64) (((σ2.1 9 v1.toNatClampNeg) - (1 : Int32)).toInt64) σ2 ∧ ∀ (r5 : Int32) (σ6 : px_St), qoX6_in g7 v2.toInt64 (0 : Int64) (((σ2.1 9 v1.toNatClampNeg) - (1 : Int32)).toInt64) σ2 r5 σ6 → ((¬ r5 = 0) → vp_in v1 4 ∧ ((¬ (σ6.1 8 v1.toNatClampNeg) = 0) → vp_in v1 4 ∧ ((¬ (σ6.1 8 v1.toNatClampNeg) = (1 : Int32)) → vp_in (((40 : Int32) * v1) + v2) 160 ∧ po (1 : Int32) (px_up σ6 10 (((40 : Int32) * v1) + v2).toNatClampNeg v3)) ∧ (¬ (¬ (σ6.1 8 v1.toNatClampNeg) = (1 : Int32)) → vp_in (((40 : Int32) * v1) + v2) 160 ∧ po (1 : Int32) (px_up σ6 10 (((40 : Int32) * v1) + v2).toNatClampNeg v3.toInt16.toInt32))) ∧ (¬ (¬ (σ6.1 8 v1.toNatClampNeg) = 0) → vp_in (((40 : Int32) * v1) + v2) 160 ∧ po (1 : Int32) (px_up σ6 10 (((40 : Int32) * v1) + v2).toNatClampNeg v3.toInt8.toInt32))) ∧ (¬ (¬ r5 = 0) → po (-12 : Int32) σ6)) ∧ (¬ (¬ (σ2.1 8 v1.toNatClampNeg) = (-4 : Int32)) → po (-11 : Int32) σ2)) ∧ (¬ (¬ r1 = 0) → po (-1 : Int32) σ2)) :
    G 0 (px_ent 4 [.ref 0, .int v1, .int v2, .int v3]) [] σ := by
  refine hG.1 0 _ _ rfl _ _ _ ?_
  refine hG.1 1 _ _ rfl _ _ _ ?_
  refine hG.1 2 _ _ rfl _ _ _ ?_
  obtain ⟨g3, H⟩ := H
  refine ⟨Nat.le_of_ble_eq_true rfl, Nat.le_of_ble_eq_true rfl, g3, ⟨_, _, rfl, H.1⟩, fun r1 σ2 hp4 => ?_⟩
  replace H := H.2 r1 σ2 hp4
  refine hG.1 3 _ _ rfl _ _ _ ?_
  refine ⟨fun h13 => ?_, fun h13 => ?_⟩
  · replace H := H.1 h13
    refine hG.1 6 _ _ rfl _ _ _ ?_
    refine hG.1 7 _ _ rfl _ _ _ ?_
    refine ⟨⟨rfl, by decide⟩, ?_⟩
    refine hG.1 8 _ _ rfl _ _ _ ?_
    refine hG.1 9 _ _ rfl _ _ _ ?_
    refine ⟨⟨rfl, by decide⟩, H.1, ?_⟩
    replace H := H.2
    refine hG.1 10 _ _ rfl _ _ _ ?_
    refine hG.1 11 _ _ rfl _ _ _ ?_
    refine ⟨fun h12 => ?_, fun h12 => ?_⟩
    · replace H := H.1 h12
      refine hG.1 14 _ _ rfl _ _ _ ?_
      refine hG.1 15 _ _ rfl _ _ _ ?_
      refine hG.1 16 _ _ rfl _ _ _ ?_
      refine hG.1 17 _ _ rfl _ _ _ ?_
      refine hG.1 18 _ _ rfl _ _ _ ?_
      refine ⟨⟨rfl, by decide⟩, ?_⟩
      refine hG.1 19 _ _ rfl _ _ _ ?_
      refine hG.1 20 _ _ rfl _ _ _ ?_
      refine ⟨⟨rfl, by decide⟩, H.1, ?_⟩
      replace H := H.2
      refine hG.1 21 _ _ rfl _ _ _ ?_
      refine hG.1 22 _ _ rfl _ _ _ ?_
      refine hG.1 23 _ _ rfl _ _ _ ?_
      refine hG.1 24 _ _ rfl _ _ _ ?_
      obtain ⟨g7, H⟩ := H
      refine ⟨Nat.le_of_ble_eq_true rfl, Nat.le_of_ble_eq_true rfl, g7, ⟨_, _, _, rfl, H.1⟩, fun r5 σ6 hp8 => ?_⟩
      replace H := H.2 r5 σ6 hp8
      refine hG.1 25 _ _ rfl _ _ _ ?_
      refine ⟨fun h11 => ?_, fun h11 => ?_⟩
      · replace H := H.1 h11
        refine hG.1 28 _ _ rfl _ _ _ ?_
        refine hG.1 29 _ _ rfl _ _ _ ?_
        refine ⟨⟨rfl, by decide⟩, ?_⟩
        refine hG.1 30 _ _ rfl _ _ _ ?_
        refine hG.1 31 _ _ rfl _ _ _ ?_
        refine hG.1 32 _ _ rfl _ _ _ ?_
        refine hG.1 33 _ _ rfl _ _ _ ?_
        refine hG.1 34 _ _ rfl _ _ _ ?_
        refine hG.1 35 _ _ rfl _ _ _ ?_
        refine hG.1 36 _ _ rfl _ _ _ ?_
        refine ⟨⟨rfl, by decide⟩, ?_⟩
        refine hG.1 37 _ _ rfl _ _ _ ?_
        refine hG.1 38 _ _ rfl _ _ _ ?_
        refine ⟨⟨rfl, by decide⟩, H.1, ?_⟩
        replace H := H.2
        refine hG.1 39 _ _ rfl _ _ _ ?_
        refine ⟨fun h10 => ?_, fun h10 => ?_⟩
        · replace H := H.1 h10
          refine hG.1 43 _ _ rfl _ _ _ ?_
          refine hG.1 44 _ _ rfl _ _ _ ?_
          refine ⟨⟨rfl, by decide⟩, ?_⟩
          refine hG.1 45 _ _ rfl _ _ _ ?_
          refine hG.1 46 _ _ rfl _ _ _ ?_
          refine ⟨⟨rfl, by decide⟩, H.1, ?_⟩
          replace H := H.2
          refine hG.1 47 _ _ rfl _ _ _ ?_
          refine hG.1 48 _ _ rfl _ _ _ ?_
          refine ⟨fun h9 => ?_, fun h9 => ?_⟩
          · replace H := H.1 h9
            refine hG.1 52 _ _ rfl _ _ _ ?_
            refine hG.1 53 _ _ rfl _ _ _ ?_
            refine ⟨⟨rfl, by decide⟩, H.1, ?_⟩
            replace H := H.2
            refine hG.1 54 _ _ rfl _ _ _ ?_
            refine hG.1 55 _ _ rfl _ _ _ ?_
            exact ⟨rfl, H⟩
          · replace H := H.2 h9
            refine hG.1 49 _ _ rfl _ _ _ ?_
            refine hG.1 50 _ _ rfl _ _ _ ?_
            refine hG.1 51 _ _ rfl _ _ _ ?_
            refine hG.1 53 _ _ rfl _ _ _ ?_
            refine ⟨⟨rfl, by decide⟩, H.1, ?_⟩
            replace H := H.2
            refine hG.1 54 _ _ rfl _ _ _ ?_
            refine hG.1 55 _ _ rfl _ _ _ ?_
            exact ⟨rfl, H⟩
        · replace H := H.2 h10
          refine hG.1 40 _ _ rfl _ _ _ ?_
          refine hG.1 41 _ _ rfl _ _ _ ?_
          refine hG.1 42 _ _ rfl _ _ _ ?_
          refine hG.1 53 _ _ rfl _ _ _ ?_
          refine ⟨⟨rfl, by decide⟩, H.1, ?_⟩
          replace H := H.2
          refine hG.1 54 _ _ rfl _ _ _ ?_
          refine hG.1 55 _ _ rfl _ _ _ ?_
          exact ⟨rfl, H⟩
      · replace H := H.2 h11
        refine hG.1 26 _ _ rfl _ _ _ ?_
        refine hG.1 27 _ _ rfl _ _ _ ?_
        exact ⟨rfl, H⟩
    · replace H := H.2 h12
      refine hG.1 12 _ _ rfl _ _ _ ?_
      refine hG.1 13 _ _ rfl _ _ _ ?_
      exact ⟨rfl, H⟩
  · replace H := H.2 h13
    refine hG.1 4 _ _ rfl _ _ _ ?_
    refine hG.1 5 _ _ rfl _ _ _ ?_
    exact ⟨rfl, H⟩
set_option maxRecDepth 100000 in
set_option maxHeartbeats 4000000 in
theorem hhX6_lay (g : gtX6_lay) (v1 : Int32) (v2 : Int32) (v3 : Int32) (σ : px_St) (h : qrX6_lay g v1 v2 v3 σ) (G : px_K) (hG : px_cl (opX6_lay (qoX6_lay g v1 v2 v3 σ)) G) : G 0 (px_ent 4 [.ref 0, .int v1, .int v2, .int v3]) [] σ := by
  obtain ⟨hX, hok⟩ := h
  refine sgX6_lay_0 hG _ _ _ σ ⟨(), trivial, fun r1 σ1 h1 => ?_⟩
  obtain ⟨rfl, b1⟩ := h1
  unfold qoX6_lay x_lay
  refine bz1 b1 (fun z => ?_) (fun z => ?_)
  · rw [xif_t z.1]
    obtain ⟨k, hk, rfl⟩ := (rngc 3 3 rfl (by omega)).mp z.1
    rw [nI_clamp (show k < 2 ^ 31 by omega)]
    have hin : vp_in (nI k) 4 := vp_in_nI (by omega) (by decide)
    have hsh := hX.2.2.2.2.2.2 k (by omega)
    cases hH : g.2.2.2.2.2.2 k with
    | none =>
      rw [hsh.1 hH]
      exact ⟨hin, fun q => absurd rfl q, fun _ => ⟨rfl, hX⟩⟩
    | some w =>
      obtain ⟨a1, a2, a3⟩ := hsh.2 w hH
      obtain ⟨w1, w2⟩ := hok.2.2.2.2.2.2 k w hH
      have n4 : ¬ nI w.1 = -4 := by
        have : ∀ j, j ≤ 2 → ¬ nI j = -4 := by decide
        exact this _ w1
      rw [a1, a2]
      refine ⟨hin, fun _ => ⟨hin, (), trivial, fun r2 σ2 h2 => ?_⟩, fun q => absurd n4 q⟩
      obtain ⟨rfl, b2⟩ := h2
      unfold x_lay0
      simp only
      refine bz1 (in_c (a := 0) (by decide) rfl b2) (fun y => ?_) (fun y => ?_)
      · rw [xif_t y]
        obtain ⟨i, hi, rfl⟩ := (rng1 (by omega)).mp y
        rw [a1, ix40, nI_clamp (show 40 * k + i < 2 ^ 31 by omega), nI_clamp (show i < 2 ^ 31 by omega)]
        have hin2 : vp_in (nI (40 * k + i)) 160 := vp_in_nI (by omega) (by decide)
        have fin : ∀ v, mo_is (px_up σ2 10 (40 * k + i) v) (xH g (x_upd g.2.2.2.2.2.2 k (some (w.1, w.2.1, upd w.2.2 i v)))) := by
          intro v
          refine mo_H hX (fun j hj => px_up_n (by omega)) (fun j hj => ?_)
          rw [px_up_n (by omega), px_up_n (by omega)]
          by_cases hjk : j = k
          · subst hjk
            rw [x_upd_s]
            refine ⟨fun q => (by cases q), fun w' hw => ?_⟩
            have hw := Option.some.inj hw
            subst hw
            refine ⟨a1, a2, fun i' hi' => ?_⟩
            show (px_up σ2 10 (40 * j + i) v).1 10 (40 * j + i') = upd w.2.2 i v i'
            rw [px_up_at]
            by_cases hii : i' = i
            · rw [if_pos ⟨rfl, by rw [hii]⟩, hii, pk_us]
            · rw [if_neg (by omega), pk_un hii]; exact a3 i' hi'
          · rw [x_upd_n hjk]
            refine ⟨(hX.2.2.2.2.2.2 j hj).1, fun w' hw => ?_⟩
            obtain ⟨f1, f2, f3⟩ := (hX.2.2.2.2.2.2 j hj).2 w' hw
            have hw2 := (hok.2.2.2.2.2.2 j w' hw).2
            exact ⟨f1, f2, fun i' hi' => by rw [px_up_at, if_neg (by omega)]; exact f3 i' hi'⟩
        refine ⟨hin, fun q0 => ⟨hin, fun q1 => ⟨hin2, rfl, ?_⟩, fun q1 => ⟨hin2, rfl, ?_⟩⟩, fun q0 => ⟨hin2, rfl, ?_⟩⟩
        · unfold pv_nar; rw [if_neg q0, if_neg q1]; exact fin _
        · unfold pv_nar; rw [if_neg q0, if_pos (Classical.byContradiction q1)]; exact fin _
        · unfold pv_nar; rw [if_pos (Classical.byContradiction q0)]; exact fin _
      · rw [xif_f y]
        exact ⟨rfl, hX⟩
  · rw [xif_f (fun q => z ⟨q, by decide⟩)]
    exact ⟨rfl, hX⟩
theorem mX6_lay (g : gtX6_lay) : px_Met dM yX6_lay (Cond.code yX6_lay cX6_lay 4 (some .int) :: wdM) rmX6_lay px_vI (prX6_lay g) (poX6_lay g) :=
  px_met (Z := (cX6_lay, 4, RX6, Cond.code yX6_lay cX6_lay 4 (some .int) :: wdM, (some .int), rmX6_lay, dM)) opX6_lay (by decide) rfl rfl okX6_lay (fun As σ h => by obtain ⟨v1, v2, v3, rfl, h⟩ := h; exact Nat.le_of_ble_eq_true rfl) (fun As σ h G hG => by obtain ⟨v1, v2, v3, rfl, h⟩ := h; exact hhX6_lay g v1 v2 v3 σ h G hG)
theorem acc_at {m : List Nat} {b : Int32} {i x : Nat} (h : m[i]? = some x) : pv_acc (m.take (i + 1)) b = pv_acc (m.take i) b + nI x := by
  unfold pv_acc
  rw [List.take_add_one, h, List.foldl_append]
  rfl
abbrev gtX6_count : Type := pv_X
def qrX6_count (X : pv_X) (_ : Int32) (σ : px_St) : Prop := mo_is σ X ∧ xo X
def qoX6_count (X : pv_X) (w : Int32) (_ : px_St) (r : Int32) (σ' : px_St) : Prop := r = (x_count X w).1 ∧ mo_is σ' (x_count X w).2
def prX6_count (g : gtX6_count) : List Value → px_St → Prop := fun As σ => ∃ v1 : Int32, As = [.ref 0, .int v1] ∧ qrX6_count g v1 σ
def poX6_count (g : gtX6_count) : List Value → px_St → Int32 → px_St → Prop
  | [.ref _, .int v1], σ, r, σ' => qoX6_count g v1 σ r σ'
  | _, _, _, _ => False
theorem dX6_count_0 : decode cX6_count 0 = .ok (.iconst 0, 1) := by decide +kernel
theorem dX6_count_1 : decode cX6_count 1 = .ok (.istore_n 2, 1) := by decide +kernel
theorem dX6_count_2 : decode cX6_count 2 = .ok (.iconst 0, 1) := by decide +kernel
theorem dX6_count_3 : decode cX6_count 3 = .ok (.istore_n 3, 1) := by decide +kernel
theorem dX6_count_4 : decode cX6_count 4 = .ok (.aload_n 0, 1) := by decide +kernel
theorem dX6_count_5 : decode cX6_count 5 = .ok (.invokevirtual 163, 3) := by decide +kernel
theorem dX6_count_8 : decode cX6_count 8 = .ok (.iconst 0, 1) := by decide +kernel
theorem dX6_count_9 : decode cX6_count 9 = .ok (.istore 4, 2) := by decide +kernel
theorem dX6_count_11 : decode cX6_count 11 = .ok (.iload 4, 2) := by decide +kernel
theorem dX6_count_13 : decode cX6_count 13 = .ok (.aload_n 0, 1) := by decide +kernel
theorem dX6_count_14 : decode cX6_count 14 = .ok (.getfield 7, 3) := by decide +kernel
theorem dX6_count_17 : decode cX6_count 17 = .ok (.bipush 45, 2) := by decide +kernel
theorem dX6_count_19 : decode cX6_count 19 = .ok (.iaload, 1) := by decide +kernel
theorem dX6_count_20 : decode cX6_count 20 = .ok (.if_icmp .ge 53, 3) := by decide +kernel
theorem dX6_count_23 : decode cX6_count 23 = .ok (.iload_n 3, 1) := by decide +kernel
theorem dX6_count_24 : decode cX6_count 24 = .ok (.aload_n 0, 1) := by decide +kernel
theorem dX6_count_25 : decode cX6_count 25 = .ok (.iload 4, 2) := by decide +kernel
theorem dX6_count_27 : decode cX6_count 27 = .ok (.iconst 2, 1) := by decide +kernel
theorem dX6_count_28 : decode cX6_count 28 = .ok (.invokevirtual 130, 3) := by decide +kernel
theorem dX6_count_31 : decode cX6_count 31 = .ok (.iadd, 1) := by decide +kernel
theorem dX6_count_32 : decode cX6_count 32 = .ok (.istore_n 3, 1) := by decide +kernel
theorem dX6_count_33 : decode cX6_count 33 = .ok (.iconst 0, 1) := by decide +kernel
theorem dX6_count_34 : decode cX6_count 34 = .ok (.istore 5, 2) := by decide +kernel
theorem dX6_count_36 : decode cX6_count 36 = .ok (.iload 5, 2) := by decide +kernel
theorem dX6_count_38 : decode cX6_count 38 = .ok (.aload_n 0, 1) := by decide +kernel
theorem dX6_count_39 : decode cX6_count 39 = .ok (.iload 4, 2) := by decide +kernel
theorem dX6_count_41 : decode cX6_count 41 = .ok (.iconst 1, 1) := by decide +kernel
theorem dX6_count_42 : decode cX6_count 42 = .ok (.invokevirtual 130, 3) := by decide +kernel
theorem dX6_count_45 : decode cX6_count 45 = .ok (.if_icmp .ge 22, 3) := by decide +kernel
theorem dX6_count_48 : decode cX6_count 48 = .ok (.iload_n 2, 1) := by decide +kernel
theorem dX6_count_49 : decode cX6_count 49 = .ok (.aload_n 0, 1) := by decide +kernel
theorem dX6_count_50 : decode cX6_count 50 = .ok (.iload 4, 2) := by decide +kernel
theorem dX6_count_52 : decode cX6_count 52 = .ok (.iconst 3, 1) := by decide +kernel
theorem dX6_count_53 : decode cX6_count 53 = .ok (.iload 5, 2) := by decide +kernel
theorem dX6_count_55 : decode cX6_count 55 = .ok (.iadd, 1) := by decide +kernel
theorem dX6_count_56 : decode cX6_count 56 = .ok (.invokevirtual 130, 3) := by decide +kernel
theorem dX6_count_59 : decode cX6_count 59 = .ok (.iadd, 1) := by decide +kernel
theorem dX6_count_60 : decode cX6_count 60 = .ok (.istore_n 2, 1) := by decide +kernel
theorem dX6_count_61 : decode cX6_count 61 = .ok (.iinc 5 1, 3) := by decide +kernel
theorem dX6_count_64 : decode cX6_count 64 = .ok (.goto (-28), 3) := by decide +kernel
theorem dX6_count_67 : decode cX6_count 67 = .ok (.iinc 4 1, 3) := by decide +kernel
theorem dX6_count_70 : decode cX6_count 70 = .ok (.goto (-59), 3) := by decide +kernel
theorem dX6_count_73 : decode cX6_count 73 = .ok (.iload_n 1, 1) := by decide +kernel
theorem dX6_count_74 : decode cX6_count 74 = .ok (.tableswitch 98 0 5 #[38, 46, 66, 71, 94, 96], 38) := by decide +kernel
theorem dX6_count_112 : decode cX6_count 112 = .ok (.aload_n 0, 1) := by decide +kernel
theorem dX6_count_113 : decode cX6_count 113 = .ok (.getfield 7, 3) := by decide +kernel
theorem dX6_count_116 : decode cX6_count 116 = .ok (.bipush 48, 2) := by decide +kernel
theorem dX6_count_118 : decode cX6_count 118 = .ok (.iaload, 1) := by decide +kernel
theorem dX6_count_119 : decode cX6_count 119 = .ok (.ireturn, 1) := by decide +kernel
theorem dX6_count_120 : decode cX6_count 120 = .ok (.aload_n 0, 1) := by decide +kernel
theorem dX6_count_121 : decode cX6_count 121 = .ok (.getfield 16, 3) := by decide +kernel
theorem dX6_count_124 : decode cX6_count 124 = .ok (.iconst 0, 1) := by decide +kernel
theorem dX6_count_125 : decode cX6_count 125 = .ok (.baload, 1) := by decide +kernel
theorem dX6_count_126 : decode cX6_count 126 = .ok (.invokestatic 159, 3) := by decide +kernel
theorem dX6_count_129 : decode cX6_count 129 = .ok (.aload_n 0, 1) := by decide +kernel
theorem dX6_count_130 : decode cX6_count 130 = .ok (.getfield 16, 3) := by decide +kernel
theorem dX6_count_133 : decode cX6_count 133 = .ok (.iconst 1, 1) := by decide +kernel
theorem dX6_count_134 : decode cX6_count 134 = .ok (.baload, 1) := by decide +kernel
theorem dX6_count_135 : decode cX6_count 135 = .ok (.invokestatic 159, 3) := by decide +kernel
theorem dX6_count_138 : decode cX6_count 138 = .ok (.iadd, 1) := by decide +kernel
theorem dX6_count_139 : decode cX6_count 139 = .ok (.ireturn, 1) := by decide +kernel
theorem dX6_count_140 : decode cX6_count 140 = .ok (.aload_n 0, 1) := by decide +kernel
theorem dX6_count_141 : decode cX6_count 141 = .ok (.getfield 60, 3) := by decide +kernel
theorem dX6_count_144 : decode cX6_count 144 = .ok (.ireturn, 1) := by decide +kernel
theorem dX6_count_145 : decode cX6_count 145 = .ok (.aload_n 0, 1) := by decide +kernel
theorem dX6_count_146 : decode cX6_count 146 = .ok (.getfield 32, 3) := by decide +kernel
theorem dX6_count_149 : decode cX6_count 149 = .ok (.iconst 0, 1) := by decide +kernel
theorem dX6_count_150 : decode cX6_count 150 = .ok (.iaload, 1) := by decide +kernel
theorem dX6_count_151 : decode cX6_count 151 = .ok (.bipush (-4), 2) := by decide +kernel
theorem dX6_count_153 : decode cX6_count 153 = .ok (.if_icmp .ne 8, 3) := by decide +kernel
theorem dX6_count_156 : decode cX6_count 156 = .ok (.bipush (-4), 2) := by decide +kernel
theorem dX6_count_158 : decode cX6_count 158 = .ok (.goto 9, 3) := by decide +kernel
theorem dX6_count_161 : decode cX6_count 161 = .ok (.aload_n 0, 1) := by decide +kernel
theorem dX6_count_162 : decode cX6_count 162 = .ok (.getfield 35, 3) := by decide +kernel
theorem dX6_count_165 : decode cX6_count 165 = .ok (.iconst 0, 1) := by decide +kernel
theorem dX6_count_166 : decode cX6_count 166 = .ok (.iaload, 1) := by decide +kernel
theorem dX6_count_167 : decode cX6_count 167 = .ok (.ireturn, 1) := by decide +kernel
theorem dX6_count_168 : decode cX6_count 168 = .ok (.iload_n 2, 1) := by decide +kernel
theorem dX6_count_169 : decode cX6_count 169 = .ok (.ireturn, 1) := by decide +kernel
theorem dX6_count_170 : decode cX6_count 170 = .ok (.iload_n 3, 1) := by decide +kernel
theorem dX6_count_171 : decode cX6_count 171 = .ok (.ireturn, 1) := by decide +kernel
theorem dX6_count_172 : decode cX6_count 172 = .ok (.iconst (-1), 1) := by decide +kernel
theorem dX6_count_173 : decode cX6_count 173 = .ok (.ireturn, 1) := by decide +kernel
abbrev rmX6_count : Room := { frames := 1, cells := 0, slots := 0, locals := 22 }
def opX6_count (po : Int32 → px_St → Prop) : List (Nat × px_Op) := [
  (0, px_push 1 (.int 0)),
  (1, px_is 2 2),
  (2, px_push 3 (.int 0)),
  (3, px_is 4 3),
  (4, px_al 5 0),
  (5, px_callV dM 8 6 0 px_vV prX6_starts poX6_starts),
  (8, px_push 9 (.int 0)),
  (9, px_is 11 4),
  (11, px_il 13 4),
  (13, px_al 14 0),
  (14, px_get dM 17 6 0),
  (17, px_push 19 (.int 45)),
  (19, px_ald dM 20 0),
  (20, px_ic 23 73 (fun x y => y ≤ x)),
  (23, px_il 24 3),
  (24, px_al 25 0),
  (25, px_il 27 4),
  (27, px_push 28 (.int 2)),
  (28, px_callV dM 31 6 2 px_vI prX6_of poX6_of),
  (31, px_bin 32 (fun x y => x + y)),
  (32, px_is 33 3),
  (33, px_push 34 (.int 0)),
  (34, px_is 36 5),
  (36, px_il 38 5),
  (38, px_al 39 0),
  (39, px_il 41 4),
  (41, px_push 42 (.int 1)),
  (42, px_callV dM 45 6 2 px_vI prX6_of poX6_of),
  (45, px_ic 48 67 (fun x y => y ≤ x)),
  (48, px_il 49 2),
  (49, px_al 50 0),
  (50, px_il 52 4),
  (52, px_push 53 (.int 3)),
  (53, px_il 55 5),
  (55, px_bin 56 (fun x y => x + y)),
  (56, px_callV dM 59 6 2 px_vI prX6_of poX6_of),
  (59, px_bin 60 (fun x y => x + y)),
  (60, px_is 61 2),
  (61, px_inc 64 5 1),
  (64, px_go 36),
  (67, px_inc 70 4 1),
  (70, px_go 11),
  (73, px_il 74 1),
  (74, px_sw [(0, 112), (1, 120), (2, 140), (3, 145), (4, 168), (5, 170)] 172),
  (112, px_al 113 0),
  (113, px_get dM 116 6 0),
  (116, px_push 118 (.int 48)),
  (118, px_ald dM 119 0),
  (119, px_iret (.int) po),
  (120, px_al 121 0),
  (121, px_get dM 124 6 2),
  (124, px_push 125 (.int 0)),
  (125, px_ald dM 126 2),
  (126, px_callS 129 1 px_vI prX6_flag poX6_flag),
  (129, px_al 130 0),
  (130, px_get dM 133 6 2),
  (133, px_push 134 (.int 1)),
  (134, px_ald dM 135 2),
  (135, px_callS 138 1 px_vI prX6_flag poX6_flag),
  (138, px_bin 139 (fun x y => x + y)),
  (139, px_iret (.int) po),
  (140, px_al 141 0),
  (141, px_get dM 144 6 6),
  (144, px_iret (.int) po),
  (145, px_al 146 0),
  (146, px_get dM 149 6 20),
  (149, px_push 150 (.int 0)),
  (150, px_ald dM 151 0),
  (151, px_push 153 (.int (-4))),
  (153, px_ic 156 161 (fun x y => ¬ x = y)),
  (156, px_push 158 (.int (-4))),
  (158, px_go 167),
  (161, px_al 162 0),
  (162, px_get dM 165 6 21),
  (165, px_push 166 (.int 0)),
  (166, px_ald dM 167 0),
  (167, px_iret (.int) po),
  (168, px_il 169 2),
  (169, px_iret (.int) po),
  (170, px_il 171 3),
  (171, px_iret (.int) po),
  (172, px_push 173 (.int (-1))),
  (173, px_iret (.int) po)]
theorem px_tsw_X6_count_74 : px_tswOk 74 98 0 5 #[38, 46, 66, 71, 94, 96] [(0, 112), (1, 120), (2, 140), (3, 145), (4, 168), (5, 170)] 172 := by
  intro x
  refine ⟨fun h1 h2 => ?_, fun h => ?_⟩
  · have hx : x = 0 ∨ x = 1 ∨ x = 2 ∨ x = 3 ∨ x = 4 ∨ x = 5 := by
      simp only [fa_eqI, show ((0 : Int32)).toInt = 0 by decide, show ((1 : Int32)).toInt = 1 by decide, show ((2 : Int32)).toInt = 2 by decide, show ((3 : Int32)).toInt = 3 by decide, show ((4 : Int32)).toInt = 4 by decide, show ((5 : Int32)).toInt = 5 by decide]
      omega
    rcases hx with rfl | rfl | rfl | rfl | rfl | rfl <;> exact ⟨_, rfl, rfl⟩
  · have hn : ¬ x = 0 ∧ ¬ x = 1 ∧ ¬ x = 2 ∧ ¬ x = 3 ∧ ¬ x = 4 ∧ ¬ x = 5 := by
      simp only [fa_eqI, show ((0 : Int32)).toInt = 0 by decide, show ((1 : Int32)).toInt = 1 by decide, show ((2 : Int32)).toInt = 2 by decide, show ((3 : Int32)).toInt = 3 by decide, show ((4 : Int32)).toInt = 4 by decide, show ((5 : Int32)).toInt = 5 by decide]
      omega
    simp [px_swt, hn]
set_option maxRecDepth 100000 in
set_option maxHeartbeats 4000000 in
theorem okX6_count : ∀ (po : Int32 → px_St → Prop) (i pc : Nat) (op : px_Op), (opX6_count po)[i]? = some (pc, op) → px_Snd (cX6_count, 6, RX6, Cond.code yX6_count cX6_count 6 (some .int) :: wdM, (some .int), rmX6_count, dM) px_vI po pc op := by
  intro po
  unfold opX6_count
  refine px_ok_cons (ps_iconst dX6_count_0 (by decide)) ?_
  refine px_ok_cons (ps_istore_n dX6_count_1 rfl (by decide)) ?_
  refine px_ok_cons (ps_iconst dX6_count_2 (by decide)) ?_
  refine px_ok_cons (ps_istore_n dX6_count_3 rfl (by decide)) ?_
  refine px_ok_cons (ps_aload_n dX6_count_4 rfl) ?_
  refine px_ok_cons (ps_callV mX6_starts (fun _ _ => rfl) (C := RX6) rfl (fun _ _ ht => px_cwV wgM (wdM_3_in _ (List.mem_of_getElem? (i := 19) rfl)) (wdM_3_in _ (List.mem_of_getElem? (i := 20) rfl)) (wdM_3_in _ (List.mem_of_getElem? (i := 21) rfl)) (wdM_0_in _ (List.mem_of_getElem? (i := 22) rfl)) (wdM_2_in _ (List.mem_of_getElem? (i := 11) rfl)) (by decide +kernel) rfl rfl (by decide) ht) dX6_count_5) ?_
  refine px_ok_cons (ps_iconst dX6_count_8 (by decide)) ?_
  refine px_ok_cons (ps_istore dX6_count_9 (by decide)) ?_
  refine px_ok_cons (ps_iload dX6_count_11) ?_
  refine px_ok_cons (ps_aload_n dX6_count_13 rfl) ?_
  refine px_ok_cons (fgX6_7 dX6_count_14) ?_
  refine px_ok_cons (ps_bipush dX6_count_17 (by decide)) ?_
  refine px_ok_cons (ps_iaload dX6_count_19) ?_
  refine px_ok_cons (ps_icmp_ge dX6_count_20 (by decide)) ?_
  refine px_ok_cons (ps_iload_n dX6_count_23 rfl) ?_
  refine px_ok_cons (ps_aload_n dX6_count_24 rfl) ?_
  refine px_ok_cons (ps_iload dX6_count_25) ?_
  refine px_ok_cons (ps_iconst dX6_count_27 (by decide)) ?_
  refine px_ok_cons (ps_callV mX6_of (fun _ _ => rfl) (C := RX6) rfl (fun _ _ ht => px_cwV wgM (wdM_2_in _ (List.mem_of_getElem? (i := 16) rfl)) (wdM_2_in _ (List.mem_of_getElem? (i := 17) rfl)) (wdM_2_in _ (List.mem_of_getElem? (i := 18) rfl)) (wdM_0_in _ (List.mem_of_getElem? (i := 22) rfl)) (wdM_2_in _ (List.mem_of_getElem? (i := 13) rfl)) (by decide +kernel) rfl rfl (by decide) ht) dX6_count_28) ?_
  refine px_ok_cons (ps_iadd dX6_count_31) ?_
  refine px_ok_cons (ps_istore_n dX6_count_32 rfl (by decide)) ?_
  refine px_ok_cons (ps_iconst dX6_count_33 (by decide)) ?_
  refine px_ok_cons (ps_istore dX6_count_34 (by decide)) ?_
  refine px_ok_cons (ps_iload dX6_count_36) ?_
  refine px_ok_cons (ps_aload_n dX6_count_38 rfl) ?_
  refine px_ok_cons (ps_iload dX6_count_39) ?_
  refine px_ok_cons (ps_iconst dX6_count_41 (by decide)) ?_
  refine px_ok_cons (ps_callV mX6_of (fun _ _ => rfl) (C := RX6) rfl (fun _ _ ht => px_cwV wgM (wdM_2_in _ (List.mem_of_getElem? (i := 16) rfl)) (wdM_2_in _ (List.mem_of_getElem? (i := 17) rfl)) (wdM_2_in _ (List.mem_of_getElem? (i := 18) rfl)) (wdM_0_in _ (List.mem_of_getElem? (i := 22) rfl)) (wdM_2_in _ (List.mem_of_getElem? (i := 13) rfl)) (by decide +kernel) rfl rfl (by decide) ht) dX6_count_42) ?_
  refine px_ok_cons (ps_icmp_ge dX6_count_45 (by decide)) ?_
  refine px_ok_cons (ps_iload_n dX6_count_48 rfl) ?_
  refine px_ok_cons (ps_aload_n dX6_count_49 rfl) ?_
  refine px_ok_cons (ps_iload dX6_count_50) ?_
  refine px_ok_cons (ps_iconst dX6_count_52 (by decide)) ?_
  refine px_ok_cons (ps_iload dX6_count_53) ?_
  refine px_ok_cons (ps_iadd dX6_count_55) ?_
  refine px_ok_cons (ps_callV mX6_of (fun _ _ => rfl) (C := RX6) rfl (fun _ _ ht => px_cwV wgM (wdM_2_in _ (List.mem_of_getElem? (i := 16) rfl)) (wdM_2_in _ (List.mem_of_getElem? (i := 17) rfl)) (wdM_2_in _ (List.mem_of_getElem? (i := 18) rfl)) (wdM_0_in _ (List.mem_of_getElem? (i := 22) rfl)) (wdM_2_in _ (List.mem_of_getElem? (i := 13) rfl)) (by decide +kernel) rfl rfl (by decide) ht) dX6_count_56) ?_
  refine px_ok_cons (ps_iadd dX6_count_59) ?_
  refine px_ok_cons (ps_istore_n dX6_count_60 rfl (by decide)) ?_
  refine px_ok_cons (ps_iinc dX6_count_61 (by decide) (by decide)) ?_
  refine px_ok_cons (ps_goto dX6_count_64 (by decide)) ?_
  refine px_ok_cons (ps_iinc dX6_count_67 (by decide) (by decide)) ?_
  refine px_ok_cons (ps_goto dX6_count_70 (by decide)) ?_
  refine px_ok_cons (ps_iload_n dX6_count_73 rfl) ?_
  refine px_ok_cons (ps_tsw dX6_count_74 px_tsw_X6_count_74) ?_
  refine px_ok_cons (ps_aload_n dX6_count_112 rfl) ?_
  refine px_ok_cons (fgX6_7 dX6_count_113) ?_
  refine px_ok_cons (ps_bipush dX6_count_116 (by decide)) ?_
  refine px_ok_cons (ps_iaload dX6_count_118) ?_
  refine px_ok_cons (ps_ireturn rfl dX6_count_119) ?_
  refine px_ok_cons (ps_aload_n dX6_count_120 rfl) ?_
  refine px_ok_cons (fgX6_16 dX6_count_121) ?_
  refine px_ok_cons (ps_iconst dX6_count_124 (by decide)) ?_
  refine px_ok_cons (ps_zaload dX6_count_125) ?_
  refine px_ok_cons (ps_callS mX6_flag (fun _ _ => rfl) (fun _ _ ht => px_cwS wgM (wdM_3_in _ (List.mem_of_getElem? (i := 10) rfl)) (wdM_3_in _ (List.mem_of_getElem? (i := 11) rfl)) (wdM_0_in _ (List.mem_of_getElem? (i := 22) rfl)) (wdM_0_in _ (List.mem_of_getElem? (i := 28) rfl)) (by decide +kernel) rfl rfl (by decide) ht) dX6_count_126) ?_
  refine px_ok_cons (ps_aload_n dX6_count_129 rfl) ?_
  refine px_ok_cons (fgX6_16 dX6_count_130) ?_
  refine px_ok_cons (ps_iconst dX6_count_133 (by decide)) ?_
  refine px_ok_cons (ps_zaload dX6_count_134) ?_
  refine px_ok_cons (ps_callS mX6_flag (fun _ _ => rfl) (fun _ _ ht => px_cwS wgM (wdM_3_in _ (List.mem_of_getElem? (i := 10) rfl)) (wdM_3_in _ (List.mem_of_getElem? (i := 11) rfl)) (wdM_0_in _ (List.mem_of_getElem? (i := 22) rfl)) (wdM_0_in _ (List.mem_of_getElem? (i := 28) rfl)) (by decide +kernel) rfl rfl (by decide) ht) dX6_count_135) ?_
  refine px_ok_cons (ps_iadd dX6_count_138) ?_
  refine px_ok_cons (ps_ireturn rfl dX6_count_139) ?_
  refine px_ok_cons (ps_aload_n dX6_count_140 rfl) ?_
  refine px_ok_cons (fgX6_60 dX6_count_141) ?_
  refine px_ok_cons (ps_ireturn rfl dX6_count_144) ?_
  refine px_ok_cons (ps_aload_n dX6_count_145 rfl) ?_
  refine px_ok_cons (fgX6_32 dX6_count_146) ?_
  refine px_ok_cons (ps_iconst dX6_count_149 (by decide)) ?_
  refine px_ok_cons (ps_iaload dX6_count_150) ?_
  refine px_ok_cons (ps_bipush dX6_count_151 (by decide)) ?_
  refine px_ok_cons (ps_icmp_ne dX6_count_153 (by decide)) ?_
  refine px_ok_cons (ps_bipush dX6_count_156 (by decide)) ?_
  refine px_ok_cons (ps_goto dX6_count_158 (by decide)) ?_
  refine px_ok_cons (ps_aload_n dX6_count_161 rfl) ?_
  refine px_ok_cons (fgX6_35 dX6_count_162) ?_
  refine px_ok_cons (ps_iconst dX6_count_165 (by decide)) ?_
  refine px_ok_cons (ps_iaload dX6_count_166) ?_
  refine px_ok_cons (ps_ireturn rfl dX6_count_167) ?_
  refine px_ok_cons (ps_iload_n dX6_count_168 rfl) ?_
  refine px_ok_cons (ps_ireturn rfl dX6_count_169) ?_
  refine px_ok_cons (ps_iload_n dX6_count_170 rfl) ?_
  refine px_ok_cons (ps_ireturn rfl dX6_count_171) ?_
  refine px_ok_cons (ps_iconst dX6_count_172 (by decide)) ?_
  refine px_ok_cons (ps_ireturn rfl dX6_count_173) ?_
  exact px_ok_nil
set_option maxRecDepth 100000 in
set_option maxHeartbeats 4000000 in
theorem sgX6_count_0 {po : Int32 → px_St → Prop} {G : px_K} (hG : px_cl (opX6_count po) G) (v1 : Int32) (σ : px_St)
    (H : ∃ g3 : gtX6_starts, qrX6_starts g3 σ ∧ ∀ (r1 : Unit) (σ2 : px_St), qoX6_starts g3 σ r1 σ2 → G 11 [some (.ref 0), some (.int v1), some (.int (0 : Int32)), some (.int (0 : Int32)), some (.int (0 : Int32)), none] [] σ2) :
    G 0 (px_ent 6 [.ref 0, .int v1]) [] σ := by
  refine hG.1 0 _ _ rfl _ _ _ ?_
  refine hG.1 1 _ _ rfl _ _ _ ?_
  show G 2 [some (.ref 0), some (.int v1), some (.int (0 : Int32)), none, none, none] [] σ
  refine hG.1 2 _ _ rfl _ _ _ ?_
  refine hG.1 3 _ _ rfl _ _ _ ?_
  show G 4 [some (.ref 0), some (.int v1), some (.int (0 : Int32)), some (.int (0 : Int32)), none, none] [] σ
  refine hG.1 4 _ _ rfl _ _ _ ?_
  refine hG.1 5 _ _ rfl _ _ _ ?_
  obtain ⟨g3, H⟩ := H
  refine ⟨⟨rfl, by decide⟩, Nat.le_of_ble_eq_true rfl, g3, ⟨rfl, H.1⟩, fun r1 σ2 hp4 => ?_⟩
  replace H := H.2 r1 σ2 hp4
  refine hG.1 6 _ _ rfl _ _ _ ?_
  refine hG.1 7 _ _ rfl _ _ _ ?_
  show G 11 [some (.ref 0), some (.int v1), some (.int (0 : Int32)), some (.int (0 : Int32)), some (.int (0 : Int32)), none] [] σ2
  exact H
set_option maxRecDepth 100000 in
set_option maxHeartbeats 4000000 in
theorem sgX6_count_11 {po : Int32 → px_St → Prop} {G : px_K} (hG : px_cl (opX6_count po) G) (v1 : Int32) (v2 : Int32) (v3 : Int32) (v4 : Int32) (σ : px_St)
    (H : vp_in (45 : Int32) 183 ∧ (((σ.1 1 (45 : Int32).toNatClampNeg) ≤ v4) → ((v1 = 0) → vp_in (48 : Int32) 183 ∧ po (σ.1 1 (48 : Int32).toNatClampNeg) σ) ∧ (¬ (v1 = 0) → ((v1 = 1) → vp_in (0 : Int32) 2 ∧ ∃ g5 : gtX6_flag, qrX6_flag g5 (σ.1 3 (0 : Int32).toNatClampNeg) σ ∧ ∀ (r3 : Int32) (σ4 : px_St), qoX6_flag g5 (σ.1 3 (0 : Int32).toNatClampNeg) σ r3 σ4 → vp_in (1 : Int32) 2 ∧ ∃ g9 : gtX6_flag, qrX6_flag g9 (σ4.1 3 (1 : Int32).toNatClampNeg) σ4 ∧ ∀ (r7 : Int32) (σ8 : px_St), qoX6_flag g9 (σ4.1 3 (1 : Int32).toNatClampNeg) σ4 r7 σ8 → po (r3 + r7) σ8) ∧ (¬ (v1 = 1) → ((v1 = 2) → po (σ.1 0 6) σ) ∧ (¬ (v1 = 2) → ((v1 = 3) → vp_in (0 : Int32) 4 ∧ ((¬ (σ.1 8 (0 : Int32).toNatClampNeg) = (-4 : Int32)) → vp_in (0 : Int32) 4 ∧ po (σ.1 9 (0 : Int32).toNatClampNeg) σ) ∧ (¬ (¬ (σ.1 8 (0 : Int32).toNatClampNeg) = (-4 : Int32)) → po (-4 : Int32) σ)) ∧ (¬ (v1 = 3) → ((v1 = 4) → po v2 σ) ∧ (¬ (v1 = 4) → ((v1 = 5) → po v3 σ) ∧ (¬ (v1 = 5) → po (-1 : Int32) σ))))))) ∧ (¬ ((σ.1 1 (45 : Int32).toNatClampNeg) ≤ v4) → ∃ g18 : gtX6_of, qrX6_of g18 v4 (2 : Int32) σ ∧ ∀ (r16 : Int32) (σ17 : px_St), qoX6_of g18 v4 (2 : Int32) σ r16 σ17 → G 36 [some (.ref 0), some (.int v1), some (.int v2), some (.int (v3 + r16)), some (.int v4), some (.int (0 : Int32))] [] σ17)) :
    G 11 [some (.ref 0), some (.int v1), some (.int v2), some (.int v3), some (.int v4), none] [] σ := by
  refine hG.1 8 _ _ rfl _ _ _ ?_
  refine hG.1 9 _ _ rfl _ _ _ ?_
  refine hG.1 10 _ _ rfl _ _ _ ?_
  refine ⟨⟨rfl, by decide⟩, ?_⟩
  refine hG.1 11 _ _ rfl _ _ _ ?_
  refine hG.1 12 _ _ rfl _ _ _ ?_
  refine ⟨⟨rfl, by decide⟩, H.1, ?_⟩
  replace H := H.2
  refine hG.1 13 _ _ rfl _ _ _ ?_
  refine ⟨fun h20 => ?_, fun h20 => ?_⟩
  · replace H := H.1 h20
    refine hG.1 42 _ _ rfl _ _ _ ?_
    refine hG.1 43 _ _ rfl _ _ _ ?_
    refine ⟨fun h1 => ?_, fun h1 => ?_⟩
    · replace H := H.1 h1
      refine hG.1 44 _ _ rfl _ _ _ ?_
      refine hG.1 45 _ _ rfl _ _ _ ?_
      refine ⟨⟨rfl, by decide⟩, ?_⟩
      refine hG.1 46 _ _ rfl _ _ _ ?_
      refine hG.1 47 _ _ rfl _ _ _ ?_
      refine ⟨⟨rfl, by decide⟩, H.1, ?_⟩
      replace H := H.2
      refine hG.1 48 _ _ rfl _ _ _ ?_
      exact ⟨rfl, H⟩
    · replace H := H.2 h1
      refine ⟨fun h2 => ?_, fun h2 => ?_⟩
      · replace H := H.1 h2
        refine hG.1 49 _ _ rfl _ _ _ ?_
        refine hG.1 50 _ _ rfl _ _ _ ?_
        refine ⟨⟨rfl, by decide⟩, ?_⟩
        refine hG.1 51 _ _ rfl _ _ _ ?_
        refine hG.1 52 _ _ rfl _ _ _ ?_
        refine ⟨⟨rfl, by decide⟩, H.1, ?_⟩
        replace H := H.2
        refine hG.1 53 _ _ rfl _ _ _ ?_
        obtain ⟨g5, H⟩ := H
        refine ⟨Nat.le_of_ble_eq_true rfl, Nat.le_of_ble_eq_true rfl, g5, ⟨_, rfl, H.1⟩, fun r3 σ4 hp6 => ?_⟩
        replace H := H.2 r3 σ4 hp6
        refine hG.1 54 _ _ rfl _ _ _ ?_
        refine hG.1 55 _ _ rfl _ _ _ ?_
        refine ⟨⟨rfl, by decide⟩, ?_⟩
        refine hG.1 56 _ _ rfl _ _ _ ?_
        refine hG.1 57 _ _ rfl _ _ _ ?_
        refine ⟨⟨rfl, by decide⟩, H.1, ?_⟩
        replace H := H.2
        refine hG.1 58 _ _ rfl _ _ _ ?_
        obtain ⟨g9, H⟩ := H
        refine ⟨Nat.le_of_ble_eq_true rfl, Nat.le_of_ble_eq_true rfl, g9, ⟨_, rfl, H.1⟩, fun r7 σ8 hp10 => ?_⟩
        replace H := H.2 r7 σ8 hp10
        refine hG.1 59 _ _ rfl _ _ _ ?_
        refine hG.1 60 _ _ rfl _ _ _ ?_
        exact ⟨rfl, H⟩
      · replace H := H.2 h2
        refine ⟨fun h11 => ?_, fun h11 => ?_⟩
        · replace H := H.1 h11
          refine hG.1 61 _ _ rfl _ _ _ ?_
          refine hG.1 62 _ _ rfl _ _ _ ?_
          refine ⟨⟨rfl, by decide⟩, ?_⟩
          refine hG.1 63 _ _ rfl _ _ _ ?_
          exact ⟨rfl, H⟩
        · replace H := H.2 h11
          refine ⟨fun h12 => ?_, fun h12 => ?_⟩
          · replace H := H.1 h12
            refine hG.1 64 _ _ rfl _ _ _ ?_
            refine hG.1 65 _ _ rfl _ _ _ ?_
            refine ⟨⟨rfl, by decide⟩, ?_⟩
            refine hG.1 66 _ _ rfl _ _ _ ?_
            refine hG.1 67 _ _ rfl _ _ _ ?_
            refine ⟨⟨rfl, by decide⟩, H.1, ?_⟩
            replace H := H.2
            refine hG.1 68 _ _ rfl _ _ _ ?_
            refine hG.1 69 _ _ rfl _ _ _ ?_
            refine ⟨fun h13 => ?_, fun h13 => ?_⟩
            · replace H := H.1 h13
              refine hG.1 72 _ _ rfl _ _ _ ?_
              refine hG.1 73 _ _ rfl _ _ _ ?_
              refine ⟨⟨rfl, by decide⟩, ?_⟩
              refine hG.1 74 _ _ rfl _ _ _ ?_
              refine hG.1 75 _ _ rfl _ _ _ ?_
              refine ⟨⟨rfl, by decide⟩, H.1, ?_⟩
              replace H := H.2
              refine hG.1 76 _ _ rfl _ _ _ ?_
              exact ⟨rfl, H⟩
            · replace H := H.2 h13
              refine hG.1 70 _ _ rfl _ _ _ ?_
              refine hG.1 71 _ _ rfl _ _ _ ?_
              refine hG.1 76 _ _ rfl _ _ _ ?_
              exact ⟨rfl, H⟩
          · replace H := H.2 h12
            refine ⟨fun h14 => ?_, fun h14 => ?_⟩
            · replace H := H.1 h14
              refine hG.1 77 _ _ rfl _ _ _ ?_
              refine hG.1 78 _ _ rfl _ _ _ ?_
              exact ⟨rfl, H⟩
            · replace H := H.2 h14
              refine ⟨fun h15 => ?_, fun h15 => ?_⟩
              · replace H := H.1 h15
                refine hG.1 79 _ _ rfl _ _ _ ?_
                refine hG.1 80 _ _ rfl _ _ _ ?_
                exact ⟨rfl, H⟩
              · replace H := H.2 h15
                refine hG.1 81 _ _ rfl _ _ _ ?_
                refine hG.1 82 _ _ rfl _ _ _ ?_
                exact ⟨rfl, H⟩
  · replace H := H.2 h20
    refine hG.1 14 _ _ rfl _ _ _ ?_
    refine hG.1 15 _ _ rfl _ _ _ ?_
    refine hG.1 16 _ _ rfl _ _ _ ?_
    refine hG.1 17 _ _ rfl _ _ _ ?_
    refine hG.1 18 _ _ rfl _ _ _ ?_
    obtain ⟨g18, H⟩ := H
    refine ⟨⟨rfl, by decide⟩, Nat.le_of_ble_eq_true rfl, g18, ⟨_, _, rfl, H.1⟩, fun r16 σ17 hp19 => ?_⟩
    replace H := H.2 r16 σ17 hp19
    refine hG.1 19 _ _ rfl _ _ _ ?_
    refine hG.1 20 _ _ rfl _ _ _ ?_
    show G 33 [some (.ref 0), some (.int v1), some (.int v2), some (.int (v3 + r16)), some (.int v4), none] [] σ17
    refine hG.1 21 _ _ rfl _ _ _ ?_
    refine hG.1 22 _ _ rfl _ _ _ ?_
    show G 36 [some (.ref 0), some (.int v1), some (.int v2), some (.int (v3 + r16)), some (.int v4), some (.int (0 : Int32))] [] σ17
    exact H
set_option maxRecDepth 100000 in
set_option maxHeartbeats 4000000 in
theorem sgX6_count_36 {po : Int32 → px_St → Prop} {G : px_K} (hG : px_cl (opX6_count po) G) (v1 : Int32) (v2 : Int32) (v3 : Int32) (v4 : Int32) (v5 : Int32) (σ : px_St)
    (H : ∃ g3 : gtX6_of, qrX6_of g3 v4 (1 : Int32) σ ∧ ∀ (r1 : Int32) (σ2 : px_St), qoX6_of g3 v4 (1 : Int32) σ r1 σ2 → ((r1 ≤ v5) → G 11 [some (.ref 0), some (.int v1), some (.int v2), some (.int v3), some (.int (v4 + 1)), none] [] σ2) ∧ (¬ (r1 ≤ v5) → ∃ g7 : gtX6_of, qrX6_of g7 v4 ((3 : Int32) + v5) σ2 ∧ ∀ (r5 : Int32) (σ6 : px_St), qoX6_of g7 v4 ((3 : Int32) + v5) σ2 r5 σ6 → G 36 [some (.ref 0), some (.int v1), some (.int (v2 + r5)), some (.int v3), some (.int v4), some (.int (v5 + 1))] [] σ6)) :
    G 36 [some (.ref 0), some (.int v1), some (.int v2), some (.int v3), some (.int v4), some (.int v5)] [] σ := by
  refine hG.1 23 _ _ rfl _ _ _ ?_
  refine hG.1 24 _ _ rfl _ _ _ ?_
  refine hG.1 25 _ _ rfl _ _ _ ?_
  refine hG.1 26 _ _ rfl _ _ _ ?_
  refine hG.1 27 _ _ rfl _ _ _ ?_
  obtain ⟨g3, H⟩ := H
  refine ⟨⟨rfl, by decide⟩, Nat.le_of_ble_eq_true rfl, g3, ⟨_, _, rfl, H.1⟩, fun r1 σ2 hp4 => ?_⟩
  replace H := H.2 r1 σ2 hp4
  refine hG.1 28 _ _ rfl _ _ _ ?_
  refine ⟨fun h9 => ?_, fun h9 => ?_⟩
  · replace H := H.1 h9
    refine hG.1 40 _ _ rfl _ _ _ ?_
    show G 70 [some (.ref 0), some (.int v1), some (.int v2), some (.int v3), some (.int (v4 + 1)), some (.int v5)] [] σ2
    refine hG.1 41 _ _ rfl _ _ _ ?_
    refine hG.2 11 [some (.ref 0), some (.int v1), some (.int v2), some (.int v3), some (.int (v4 + 1)), none] _ _ _ ⟨rfl, rfl, rfl, rfl, rfl, trivial⟩ ?_
    exact H
  · replace H := H.2 h9
    refine hG.1 29 _ _ rfl _ _ _ ?_
    refine hG.1 30 _ _ rfl _ _ _ ?_
    refine hG.1 31 _ _ rfl _ _ _ ?_
    refine hG.1 32 _ _ rfl _ _ _ ?_
    refine hG.1 33 _ _ rfl _ _ _ ?_
    refine hG.1 34 _ _ rfl _ _ _ ?_
    refine hG.1 35 _ _ rfl _ _ _ ?_
    obtain ⟨g7, H⟩ := H
    refine ⟨⟨rfl, by decide⟩, Nat.le_of_ble_eq_true rfl, g7, ⟨_, _, rfl, H.1⟩, fun r5 σ6 hp8 => ?_⟩
    replace H := H.2 r5 σ6 hp8
    refine hG.1 36 _ _ rfl _ _ _ ?_
    refine hG.1 37 _ _ rfl _ _ _ ?_
    show G 61 [some (.ref 0), some (.int v1), some (.int (v2 + r5)), some (.int v3), some (.int v4), some (.int v5)] [] σ6
    refine hG.1 38 _ _ rfl _ _ _ ?_
    show G 64 [some (.ref 0), some (.int v1), some (.int (v2 + r5)), some (.int v3), some (.int v4), some (.int (v5 + 1))] [] σ6
    refine hG.1 39 _ _ rfl _ _ _ ?_
    exact H
set_option maxRecDepth 100000 in
set_option maxHeartbeats 4000000 in
theorem hhX6_count (g : gtX6_count) (v1 : Int32) (σ : px_St) (h : qrX6_count g v1 σ) (G : px_K) (hG : px_cl (opX6_count (qoX6_count g v1 σ)) G) : G 0 (px_ent 6 [.ref 0, .int v1]) [] σ := by
  obtain ⟨hX, hok⟩ := h
  have hvk := hok.1.1
  have h5 := hvk.1.1
  refine sgX6_count_0 hG _ σ ⟨(), trivial, fun _ σ1 hs => ?_⟩
  have hX1 := (starts_mk hs).mo hX
  have hV2 := starts_mv hs hX.1 hvk.1
  have loop : ∀ m k, k + m = g.1.1 → G 11 [some (.ref 0), some (.int v1), some (.int (pv_all g.1 k)), some (.int (pv_sum (fun p => nI (g.1.2.2.2 p).2.1) k)), some (.int (nI k)), none] [] σ1 := by
    intro m
    induction m with
    | zero =>
      intro k hk
      have e : k = g.1.1 := by omega
      subst e
      refine sgX6_count_11 hG _ _ _ _ σ1 ?_
      have hI0 := (hX1.2.2.2.1 0 (by omega)).1
      have hI1 := (hX1.2.2.2.1 1 (by omega)).1
      have z0 : (0 : Int32).toNatClampNeg = 0 := by decide
      have z1 : (1 : Int32).toNatClampNeg = 1 := by decide
      rw [c45, c48, hX1.1.1.1, hX1.2.1.1, z0, z1, hI0, hX1.2.2.1.1]
      unfold qoX6_count x_count
      simp only
      refine ⟨i45, fun _ => ⟨fun h0 => ⟨i48, ?_, hX1⟩, fun h0 => ⟨fun h1 => ⟨vpin 0 2 rfl (by omega) (by omega), (), trivial, fun r3 σ3 h3 => ?_⟩, fun h1 => ⟨fun h2 => ⟨?_, hX1⟩, fun h2 => ⟨fun h3 => ?_, fun h3 => ⟨fun h4 => ⟨?_, hX1⟩, fun h4 => ⟨fun h5 => ⟨?_, hX1⟩, fun h5 => ⟨?_, hX1⟩⟩⟩⟩⟩⟩⟩, fun y => absurd (Int32.le_refl _) y⟩
      · rw [if_pos h0]
      · obtain ⟨rfl, rfl⟩ := h3
        refine ⟨vpin 1 2 rfl (by omega) (by omega), (), trivial, fun r4 σ4 h4 => ?_⟩
        obtain ⟨rfl, rfl⟩ := h4
        refine ⟨?_, hX1⟩
        rw [hI1, flag_is1, flag_is1, if_neg h0, if_pos h1, nI_add]
      · rw [if_neg h0, if_neg h1, if_pos h2]
      · rw [if_neg h0, if_neg h1, if_neg h2, if_pos h3]
        have hin : vp_in (0 : Int32) 4 := vpin 0 4 rfl (by omega) (by omega)
        have hsh := hX1.2.2.2.2.2.2 0 (by omega)
        cases hH : g.2.2.2.2.2.2 0 with
        | none =>
          rw [hsh.1 hH]
          exact ⟨hin, fun q => absurd rfl q, fun _ => ⟨rfl, hX1⟩⟩
        | some w =>
          obtain ⟨a1, a2, a3⟩ := hsh.2 w hH
          obtain ⟨w1, w2⟩ := hok.2.2.2.2.2.2 0 w hH
          have n4 : ¬ nI w.1 = -4 := by
            have : ∀ j, j ≤ 2 → ¬ nI j = -4 := by decide
            exact this _ w1
          rw [a1, a2]
          exact ⟨hin, fun _ => ⟨hin, rfl, hX1⟩, fun q => absurd n4 q⟩
      · rw [if_neg h0, if_neg h1, if_neg h2, if_neg h3, if_pos h4]
      · rw [if_neg h0, if_neg h1, if_neg h2, if_neg h3, if_neg h4, if_pos h5]
      · rw [if_neg h0, if_neg h1, if_neg h2, if_neg h3, if_neg h4, if_neg h5]
    | succ m ih =>
      intro k hk
      have hkg : k < g.1.1 := by omega
      obtain ⟨g1, g2, g3, g4⟩ := hV2.2 k hkg
      have hl := (hvk.1.2.2.2 k hkg).2.1
      refine sgX6_count_11 hG _ _ _ _ σ1 ?_
      rw [c45, hX1.1.1.1]
      refine ⟨i45, fun y => absurd y (nI_ge (by omega) (by omega)), fun _ => ⟨9 * k + 2, ⟨by omega, ix9 k 2⟩, fun r σ2 hq => ?_⟩⟩
      obtain ⟨rfl, rfl⟩ := hq
      rw [g3]
      have inner : ∀ l i, i + l = (g.1.2.2.2 k).2.2.length → G 36 [some (.ref 0), some (.int v1), some (.int (pv_acc ((g.1.2.2.2 k).2.2.take i) (pv_all g.1 k))), some (.int (pv_sum (fun p => nI (g.1.2.2.2 p).2.1) k + nI (g.1.2.2.2 k).2.1)), some (.int (nI k)), some (.int (nI i))] [] σ2 := by
        intro l
        induction l with
        | zero =>
          intro i hi
          refine sgX6_count_36 hG _ _ _ _ _ σ2 ⟨9 * k + 1, ⟨by omega, ix9 k 1⟩, fun r σ3 hq => ?_⟩
          obtain ⟨rfl, rfl⟩ := hq
          rw [g2, nI_1]
          refine ⟨fun _ => ?_, fun q => absurd (nI_le (by omega) (by omega)) q⟩
          have e := ih (k + 1) (by omega)
          rw [List.take_of_length_le (by omega)]
          exact e
        | succ l ihl =>
          intro i hi
          have hil : i < (g.1.2.2.2 k).2.2.length := by omega
          refine sgX6_count_36 hG _ _ _ _ _ σ2 ⟨9 * k + 1, ⟨by omega, ix9 k 1⟩, fun r σ3 hq => ?_⟩
          obtain ⟨rfl, rfl⟩ := hq
          rw [g2]
          refine ⟨fun q => absurd q (nI_ge (by omega) (by omega)), fun _ => ⟨9 * k + 3 + i, ⟨by omega, ix93 k i⟩, fun r σ4 hq => ?_⟩⟩
          obtain ⟨rfl, rfl⟩ := hq
          rw [g4 i _ (List.getElem?_eq_getElem hil), ← acc_at (List.getElem?_eq_getElem hil), nI_1]
          exact ihl (i + 1) (by omega)
      exact inner (g.1.2.2.2 k).2.2.length 0 (by omega)
  exact loop g.1.1 0 (by omega)
theorem mX6_count (g : gtX6_count) : px_Met dM yX6_count (Cond.code yX6_count cX6_count 6 (some .int) :: wdM) rmX6_count px_vI (prX6_count g) (poX6_count g) :=
  px_met (Z := (cX6_count, 6, RX6, Cond.code yX6_count cX6_count 6 (some .int) :: wdM, (some .int), rmX6_count, dM)) opX6_count (by decide) rfl rfl okX6_count (fun As σ h => by obtain ⟨v1, rfl, h⟩ := h; exact Nat.le_of_ble_eq_true rfl) (fun As σ h G hG => by obtain ⟨v1, rfl, h⟩ := h; exact hhX6_count g v1 σ h G hG)
