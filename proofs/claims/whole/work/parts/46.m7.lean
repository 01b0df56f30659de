theorem said_no4 {V : pv_V} (h : pv_ok V) : (pv_said V = -4 ↔ V.1 = 0) := by
  unfold pv_said
  by_cases hn : V.1 = 0
  · rw [if_pos hn]; exact ⟨fun _ => hn, fun _ => rfl⟩
  · have hd := pv_due_le h (by omega)
    rw [if_neg hn]
    refine ⟨fun e => ?_, fun e => absurd e hn⟩
    exfalso
    have : ∀ k, k ≤ 9 → ¬ nI k = -4 := by decide
    exact this _ hd e
abbrev gtX6_days : Type := pv_X
def qrX6_days (X : pv_X) (_ : Int32) (σ : px_St) : Prop := mo_is σ X ∧ xo X
def qoX6_days (X : pv_X) (n : Int32) (_ : px_St) (r : Int32) (σ' : px_St) : Prop := r = (x_days X n).1 ∧ mo_is σ' (x_days X n).2
def prX6_days (g : gtX6_days) : List Value → px_St → Prop := fun As σ => ∃ v1 : Int32, As = [.ref 0, .int v1] ∧ qrX6_days g v1 σ
def poX6_days (g : gtX6_days) : List Value → px_St → Int32 → px_St → Prop
  | [.ref _, .int v1], σ, r, σ' => qoX6_days g v1 σ r σ'
  | _, _, _, _ => False
theorem dX6_days_0 : decode cX6_days 0 = .ok (.iload_n 1, 1) := by decide +kernel
theorem dX6_days_1 : decode cX6_days 1 = .ok (.i2l, 1) := by decide +kernel
theorem dX6_days_2 : decode cX6_days 2 = .ok (.lconst 0, 1) := by decide +kernel
theorem dX6_days_3 : decode cX6_days 3 = .ok (.ldc2_w 192, 3) := by decide +kernel
theorem dX6_days_6 : decode cX6_days 6 = .ok (.invokestatic 56, 3) := by decide +kernel
theorem dX6_days_9 : decode cX6_days 9 = .ok (.ifCond .ne 5, 3) := by decide +kernel
theorem dX6_days_12 : decode cX6_days 12 = .ok (.iconst (-1), 1) := by decide +kernel
theorem dX6_days_13 : decode cX6_days 13 = .ok (.ireturn, 1) := by decide +kernel
theorem dX6_days_14 : decode cX6_days 14 = .ok (.aload_n 0, 1) := by decide +kernel
theorem dX6_days_15 : decode cX6_days 15 = .ok (.getfield 7, 3) := by decide +kernel
theorem dX6_days_18 : decode cX6_days 18 = .ok (.bipush 47, 2) := by decide +kernel
theorem dX6_days_20 : decode cX6_days 20 = .ok (.iaload, 1) := by decide +kernel
theorem dX6_days_21 : decode cX6_days 21 = .ok (.iload_n 1, 1) := by decide +kernel
theorem dX6_days_22 : decode cX6_days 22 = .ok (.iadd, 1) := by decide +kernel
theorem dX6_days_23 : decode cX6_days 23 = .ok (.sipush 999, 3) := by decide +kernel
theorem dX6_days_26 : decode cX6_days 26 = .ok (.if_icmp .le 6, 3) := by decide +kernel
theorem dX6_days_29 : decode cX6_days 29 = .ok (.bipush (-3), 2) := by decide +kernel
theorem dX6_days_31 : decode cX6_days 31 = .ok (.ireturn, 1) := by decide +kernel
theorem dX6_days_32 : decode cX6_days 32 = .ok (.iconst 0, 1) := by decide +kernel
theorem dX6_days_33 : decode cX6_days 33 = .ok (.istore_n 2, 1) := by decide +kernel
theorem dX6_days_34 : decode cX6_days 34 = .ok (.aload_n 0, 1) := by decide +kernel
theorem dX6_days_35 : decode cX6_days 35 = .ok (.invokevirtual 163, 3) := by decide +kernel
theorem dX6_days_38 : decode cX6_days 38 = .ok (.iconst 0, 1) := by decide +kernel
theorem dX6_days_39 : decode cX6_days 39 = .ok (.istore_n 3, 1) := by decide +kernel
theorem dX6_days_40 : decode cX6_days 40 = .ok (.iload_n 3, 1) := by decide +kernel
theorem dX6_days_41 : decode cX6_days 41 = .ok (.iload_n 1, 1) := by decide +kernel
theorem dX6_days_42 : decode cX6_days 42 = .ok (.if_icmp .ge 37, 3) := by decide +kernel
theorem dX6_days_45 : decode cX6_days 45 = .ok (.aload_n 0, 1) := by decide +kernel
theorem dX6_days_46 : decode cX6_days 46 = .ok (.invokevirtual 147, 3) := by decide +kernel
theorem dX6_days_49 : decode cX6_days 49 = .ok (.istore 4, 2) := by decide +kernel
theorem dX6_days_51 : decode cX6_days 51 = .ok (.iload_n 2, 1) := by decide +kernel
theorem dX6_days_52 : decode cX6_days 52 = .ok (.iload 4, 2) := by decide +kernel
theorem dX6_days_54 : decode cX6_days 54 = .ok (.bipush (-4), 2) := by decide +kernel
theorem dX6_days_56 : decode cX6_days 56 = .ok (.if_icmp .ne 7, 3) := by decide +kernel
theorem dX6_days_59 : decode cX6_days 59 = .ok (.iconst 0, 1) := by decide +kernel
theorem dX6_days_60 : decode cX6_days 60 = .ok (.goto 7, 3) := by decide +kernel
theorem dX6_days_63 : decode cX6_days 63 = .ok (.iconst 1, 1) := by decide +kernel
theorem dX6_days_64 : decode cX6_days 64 = .ok (.iload 4, 2) := by decide +kernel
theorem dX6_days_66 : decode cX6_days 66 = .ok (.ishl, 1) := by decide +kernel
theorem dX6_days_67 : decode cX6_days 67 = .ok (.ior, 1) := by decide +kernel
theorem dX6_days_68 : decode cX6_days 68 = .ok (.istore_n 2, 1) := by decide +kernel
theorem dX6_days_69 : decode cX6_days 69 = .ok (.aload_n 0, 1) := by decide +kernel
theorem dX6_days_70 : decode cX6_days 70 = .ok (.invokevirtual 156, 3) := by decide +kernel
theorem dX6_days_73 : decode cX6_days 73 = .ok (.iinc 3 1, 3) := by decide +kernel
theorem dX6_days_76 : decode cX6_days 76 = .ok (.goto (-36), 3) := by decide +kernel
theorem dX6_days_79 : decode cX6_days 79 = .ok (.aload_n 0, 1) := by decide +kernel
theorem dX6_days_80 : decode cX6_days 80 = .ok (.invokevirtual 187, 3) := by decide +kernel
theorem dX6_days_83 : decode cX6_days 83 = .ok (.iload_n 2, 1) := by decide +kernel
theorem dX6_days_84 : decode cX6_days 84 = .ok (.invokestatic 194, 3) := by decide +kernel
theorem dX6_days_87 : decode cX6_days 87 = .ok (.ireturn, 1) := by decide +kernel
abbrev rmX6_days : Room := { frames := 4, cells := 0, slots := 0, locals := 93 }
def opX6_days (po : Int32 → px_St → Prop) : List (Nat × px_Op) := [
  (0, px_il 1 1),
  (1, px_i2l 2),
  (2, px_push 3 (.long 0)),
  (3, px_push 6 (.long 30)),
  (6, px_callS 9 3 px_vI prX6_in poX6_in),
  (9, px_if 12 14 (fun x => ¬ x = 0)),
  (12, px_push 13 (.int (-1))),
  (13, px_iret (.int) po),
  (14, px_al 15 0),
  (15, px_get dM 18 6 0),
  (18, px_push 20 (.int 47)),
  (20, px_ald dM 21 0),
  (21, px_il 22 1),
  (22, px_bin 23 (fun x y => x + y)),
  (23, px_push 26 (.int 999)),
  (26, px_ic 29 32 (fun x y => x ≤ y)),
  (29, px_push 31 (.int (-3))),
  (31, px_iret (.int) po),
  (32, px_push 33 (.int 0)),
  (33, px_is 34 2),
  (34, px_al 35 0),
  (35, px_callV dM 38 6 0 px_vV prX6_starts poX6_starts),
  (38, px_push 39 (.int 0)),
  (39, px_is 40 3),
  (40, px_il 41 3),
  (41, px_il 42 1),
  (42, px_ic 45 79 (fun x y => y ≤ x)),
  (45, px_al 46 0),
  (46, px_callV dM 49 6 0 px_vI prX6_saidNow poX6_saidNow),
  (49, px_is 51 4),
  (51, px_il 52 2),
  (52, px_il 54 4),
  (54, px_push 56 (.int (-4))),
  (56, px_ic 59 63 (fun x y => ¬ x = y)),
  (59, px_push 60 (.int 0)),
  (60, px_go 67),
  (63, px_push 64 (.int 1)),
  (64, px_il 66 4),
  (66, px_bin 67 (fun x y => x <<< (y &&& 31))),
  (67, px_bin 68 (fun x y => x ||| y)),
  (68, px_is 69 2),
  (69, px_al 70 0),
  (70, px_callV dM 73 6 0 px_vV prX6_dayGoes poX6_dayGoes),
  (73, px_inc 76 3 1),
  (76, px_go 40),
  (79, px_al 80 0),
  (80, px_callV dM 83 6 0 px_vV prX6_settles poX6_settles),
  (83, px_il 84 2),
  (84, px_callS 87 1 px_vI prX6_bitsOf poX6_bitsOf),
  (87, px_iret (.int) po)]
set_option maxRecDepth 100000 in
set_option maxHeartbeats 4000000 in
theorem okX6_days : ∀ (po : Int32 → px_St → Prop) (i pc : Nat) (op : px_Op), (opX6_days po)[i]? = some (pc, op) → px_Snd (cX6_days, 5, RX6, Cond.code yX6_days cX6_days 5 (some .int) :: wdM, (some .int), rmX6_days, dM) px_vI po pc op := by
  intro po
  unfold opX6_days
  refine px_ok_cons (ps_iload_n dX6_days_0 rfl) ?_
  refine px_ok_cons (ps_i2l dX6_days_1) ?_
  refine px_ok_cons (ps_lconst dX6_days_2 (by decide)) ?_
  refine px_ok_cons (ps_ldc2 (List.mem_cons_of_mem _ (wdM_4_in _ (List.mem_of_getElem? (i := 12) rfl))) dX6_days_3) ?_
  refine px_ok_cons (ps_callS mX6_in (fun _ _ => rfl) (fun _ _ ht => px_cwS wgM (wdM_0_in _ (List.mem_of_getElem? (i := 32) rfl)) (wdM_0_in _ (List.mem_of_getElem? (i := 33) rfl)) (wdM_0_in _ (List.mem_of_getElem? (i := 22) rfl)) (wdM_0_in _ (List.mem_of_getElem? (i := 27) rfl)) (by decide +kernel) rfl rfl (by decide) ht) dX6_days_6) ?_
  refine px_ok_cons (ps_if_ne dX6_days_9 (by decide)) ?_
  refine px_ok_cons (ps_iconst dX6_days_12 (by decide)) ?_
  refine px_ok_cons (ps_ireturn rfl dX6_days_13) ?_
  refine px_ok_cons (ps_aload_n dX6_days_14 rfl) ?_
  refine px_ok_cons (fgX6_7 dX6_days_15) ?_
  refine px_ok_cons (ps_bipush dX6_days_18 (by decide)) ?_
  refine px_ok_cons (ps_iaload dX6_days_20) ?_
  refine px_ok_cons (ps_iload_n dX6_days_21 rfl) ?_
  refine px_ok_cons (ps_iadd dX6_days_22) ?_
  refine px_ok_cons (ps_sipush dX6_days_23 (by decide)) ?_
  refine px_ok_cons (ps_icmp_le dX6_days_26 (by decide)) ?_
  refine px_ok_cons (ps_bipush dX6_days_29 (by decide)) ?_
  refine px_ok_cons (ps_ireturn rfl dX6_days_31) ?_
  refine px_ok_cons (ps_iconst dX6_days_32 (by decide)) ?_
  refine px_ok_cons (ps_istore_n dX6_days_33 rfl (by decide)) ?_
  refine px_ok_cons (ps_aload_n dX6_days_34 rfl) ?_
  refine px_ok_cons (ps_callV mX6_starts (fun _ _ => rfl) (C := RX6) rfl (fun _ _ ht => px_cwV wgM (wdM_3_in _ (List.mem_of_getElem? (i := 19) rfl)) (wdM_3_in _ (List.mem_of_getElem? (i := 20) rfl)) (wdM_3_in _ (List.mem_of_getElem? (i := 21) rfl)) (wdM_0_in _ (List.mem_of_getElem? (i := 22) rfl)) (wdM_2_in _ (List.mem_of_getElem? (i := 11) rfl)) (by decide +kernel) rfl rfl (by decide) ht) dX6_days_35) ?_
  refine px_ok_cons (ps_iconst dX6_days_38 (by decide)) ?_
  refine px_ok_cons (ps_istore_n dX6_days_39 rfl (by decide)) ?_
  refine px_ok_cons (ps_iload_n dX6_days_40 rfl) ?_
  refine px_ok_cons (ps_iload_n dX6_days_41 rfl) ?_
  refine px_ok_cons (ps_icmp_ge dX6_days_42 (by decide)) ?_
  refine px_ok_cons (ps_aload_n dX6_days_45 rfl) ?_
  refine px_ok_cons (ps_callV mX6_saidNow (fun _ _ => rfl) (C := RX6) rfl (fun _ _ ht => px_cwV wgM (wdM_2_in _ (List.mem_of_getElem? (i := 36) rfl)) (wdM_2_in _ (List.mem_of_getElem? (i := 37) rfl)) (wdM_2_in _ (List.mem_of_getElem? (i := 38) rfl)) (wdM_0_in _ (List.mem_of_getElem? (i := 22) rfl)) (wdM_2_in _ (List.mem_of_getElem? (i := 35) rfl)) (by decide +kernel) rfl rfl (by decide) ht) dX6_days_46) ?_
  refine px_ok_cons (ps_istore dX6_days_49 (by decide)) ?_
  refine px_ok_cons (ps_iload_n dX6_days_51 rfl) ?_
  refine px_ok_cons (ps_iload dX6_days_52) ?_
  refine px_ok_cons (ps_bipush dX6_days_54 (by decide)) ?_
  refine px_ok_cons (ps_icmp_ne dX6_days_56 (by decide)) ?_
  refine px_ok_cons (ps_iconst dX6_days_59 (by decide)) ?_
  refine px_ok_cons (ps_goto dX6_days_60 (by decide)) ?_
  refine px_ok_cons (ps_iconst dX6_days_63 (by decide)) ?_
  refine px_ok_cons (ps_iload dX6_days_64) ?_
  refine px_ok_cons (ps_ishl dX6_days_66) ?_
  refine px_ok_cons (ps_ior dX6_days_67) ?_
  refine px_ok_cons (ps_istore_n dX6_days_68 rfl (by decide)) ?_
  refine px_ok_cons (ps_aload_n dX6_days_69 rfl) ?_
  refine px_ok_cons (ps_callV mX6_dayGoes (fun _ _ => rfl) (C := RX6) rfl (fun _ _ ht => px_cwV wgM (wdM_3_in _ (List.mem_of_getElem? (i := 6) rfl)) (wdM_3_in _ (List.mem_of_getElem? (i := 7) rfl)) (wdM_3_in _ (List.mem_of_getElem? (i := 8) rfl)) (wdM_0_in _ (List.mem_of_getElem? (i := 22) rfl)) (wdM_3_in _ (List.mem_of_getElem? (i := 5) rfl)) (by decide +kernel) rfl rfl (by decide) ht) dX6_days_70) ?_
  refine px_ok_cons (ps_iinc dX6_days_73 (by decide) (by decide)) ?_
  refine px_ok_cons (ps_goto dX6_days_76 (by decide)) ?_
  refine px_ok_cons (ps_aload_n dX6_days_79 rfl) ?_
  refine px_ok_cons (ps_callV mX6_settles (fun _ _ => rfl) (C := RX6) rfl (fun _ _ ht => px_cwV wgM (wdM_4_in _ (List.mem_of_getElem? (i := 4) rfl)) (wdM_4_in _ (List.mem_of_getElem? (i := 5) rfl)) (wdM_4_in _ (List.mem_of_getElem? (i := 6) rfl)) (wdM_0_in _ (List.mem_of_getElem? (i := 22) rfl)) (wdM_2_in _ (List.mem_of_getElem? (i := 12) rfl)) (by decide +kernel) rfl rfl (by decide) ht) dX6_days_80) ?_
  refine px_ok_cons (ps_iload_n dX6_days_83 rfl) ?_
  refine px_ok_cons (ps_callS mX6_bitsOf (fun _ _ => rfl) (fun _ _ ht => px_cwS wgM (wdM_4_in _ (List.mem_of_getElem? (i := 13) rfl)) (wdM_4_in _ (List.mem_of_getElem? (i := 14) rfl)) (wdM_0_in _ (List.mem_of_getElem? (i := 22) rfl)) (wdM_3_in _ (List.mem_of_getElem? (i := 17) rfl)) (by decide +kernel) rfl rfl (by decide) ht) dX6_days_84) ?_
  refine px_ok_cons (ps_ireturn rfl dX6_days_87) ?_
  exact px_ok_nil
set_option maxRecDepth 100000 in
set_option maxHeartbeats 4000000 in
theorem sgX6_days_0 {po : Int32 → px_St → Prop} {G : px_K} (hG : px_cl (opX6_days po) G) (v1 : Int32) (σ : px_St)
    (H : ∃ g3 : gtX6_in, qrX6_in g3 v1.toInt64 (0 : Int64) (30 : Int64) σ ∧ ∀ (r1 : Int32) (σ2 : px_St), qoX6_in g3 v1.toInt64 (0 : Int64) (30 : Int64) σ r1 σ2 → ((¬ r1 = 0) → vp_in (47 : Int32) 183 ∧ ((((σ2.1 1 (47 : Int32).toNatClampNeg) + v1) ≤ (999 : Int32)) → ∃ g7 : gtX6_starts, qrX6_starts g7 σ2 ∧ ∀ (r5 : Unit) (σ6 : px_St), qoX6_starts g7 σ2 r5 σ6 → G 40 [some (.ref 0), some (.int v1), some (.int (0 : Int32)), some (.int (0 : Int32)), none] [] σ6) ∧ (¬ (((σ2.1 1 (47 : Int32).toNatClampNeg) + v1) ≤ (999 : Int32)) → po (-3 : Int32) σ2)) ∧ (¬ (¬ r1 = 0) → po (-1 : Int32) σ2)) :
    G 0 (px_ent 5 [.ref 0, .int v1]) [] σ := by
  refine hG.1 0 _ _ rfl _ _ _ ?_
  refine hG.1 1 _ _ rfl _ _ _ ?_
  refine hG.1 2 _ _ rfl _ _ _ ?_
  refine hG.1 3 _ _ rfl _ _ _ ?_
  refine hG.1 4 _ _ rfl _ _ _ ?_
  obtain ⟨g3, H⟩ := H
  refine ⟨Nat.le_of_ble_eq_true rfl, Nat.le_of_ble_eq_true rfl, g3, ⟨_, _, _, rfl, H.1⟩, fun r1 σ2 hp4 => ?_⟩
  replace H := H.2 r1 σ2 hp4
  refine hG.1 5 _ _ rfl _ _ _ ?_
  refine ⟨fun h10 => ?_, fun h10 => ?_⟩
  · replace H := H.1 h10
    refine hG.1 8 _ _ rfl _ _ _ ?_
    refine hG.1 9 _ _ rfl _ _ _ ?_
    refine ⟨⟨rfl, by decide⟩, ?_⟩
    refine hG.1 10 _ _ rfl _ _ _ ?_
    refine hG.1 11 _ _ rfl _ _ _ ?_
    refine ⟨⟨rfl, by decide⟩, H.1, ?_⟩
    replace H := H.2
    refine hG.1 12 _ _ rfl _ _ _ ?_
    refine hG.1 13 _ _ rfl _ _ _ ?_
    refine hG.1 14 _ _ rfl _ _ _ ?_
    refine hG.1 15 _ _ rfl _ _ _ ?_
    refine ⟨fun h9 => ?_, fun h9 => ?_⟩
    · replace H := H.1 h9
      refine hG.1 18 _ _ rfl _ _ _ ?_
      refine hG.1 19 _ _ rfl _ _ _ ?_
      show G 34 [some (.ref 0), some (.int v1), some (.int (0 : Int32)), none, none] [] σ2
      refine hG.1 20 _ _ rfl _ _ _ ?_
      refine hG.1 21 _ _ rfl _ _ _ ?_
      obtain ⟨g7, H⟩ := H
      refine ⟨⟨rfl, by decide⟩, Nat.le_of_ble_eq_true rfl, g7, ⟨rfl, H.1⟩, fun r5 σ6 hp8 => ?_⟩
      replace H := H.2 r5 σ6 hp8
      refine hG.1 22 _ _ rfl _ _ _ ?_
      refine hG.1 23 _ _ rfl _ _ _ ?_
      show G 40 [some (.ref 0), some (.int v1), some (.int (0 : Int32)), some (.int (0 : Int32)), none] [] σ6
      exact H
    · replace H := H.2 h9
      refine hG.1 16 _ _ rfl _ _ _ ?_
      refine hG.1 17 _ _ rfl _ _ _ ?_
      exact ⟨rfl, H⟩
  · replace H := H.2 h10
    refine hG.1 6 _ _ rfl _ _ _ ?_
    refine hG.1 7 _ _ rfl _ _ _ ?_
    exact ⟨rfl, H⟩
set_option maxRecDepth 100000 in
set_option maxHeartbeats 4000000 in
theorem sgX6_days_40 {po : Int32 → px_St → Prop} {G : px_K} (hG : px_cl (opX6_days po) G) (v1 : Int32) (v2 : Int32) (v3 : Int32) (σ : px_St)
    (H : ((v1 ≤ v3) → ∃ g3 : gtX6_settles, qrX6_settles g3 σ ∧ ∀ (r1 : Unit) (σ2 : px_St), qoX6_settles g3 σ r1 σ2 → ∃ g7 : gtX6_bitsOf, qrX6_bitsOf g7 v2 σ2 ∧ ∀ (r5 : Int32) (σ6 : px_St), qoX6_bitsOf g7 v2 σ2 r5 σ6 → po r5 σ6) ∧ (¬ (v1 ≤ v3) → ∃ g11 : gtX6_saidNow, qrX6_saidNow g11 σ ∧ ∀ (r9 : Int32) (σ10 : px_St), qoX6_saidNow g11 σ r9 σ10 → ((¬ r9 = (-4 : Int32)) → ∃ g15 : gtX6_dayGoes, qrX6_dayGoes g15 σ10 ∧ ∀ (r13 : Unit) (σ14 : px_St), qoX6_dayGoes g15 σ10 r13 σ14 → G 40 [some (.ref 0), some (.int v1), some (.int (v2 ||| ((1 : Int32) <<< (r9 &&& 31)))), some (.int (v3 + 1)), none] [] σ14) ∧ (¬ (¬ r9 = (-4 : Int32)) → ∃ g19 : gtX6_dayGoes, qrX6_dayGoes g19 σ10 ∧ ∀ (r17 : Unit) (σ18 : px_St), qoX6_dayGoes g19 σ10 r17 σ18 → G 40 [some (.ref 0), some (.int v1), some (.int (v2 ||| (0 : Int32))), some (.int (v3 + 1)), none] [] σ18))) :
    G 40 [some (.ref 0), some (.int v1), some (.int v2), some (.int v3), none] [] σ := by
  refine hG.1 24 _ _ rfl _ _ _ ?_
  refine hG.1 25 _ _ rfl _ _ _ ?_
  refine hG.1 26 _ _ rfl _ _ _ ?_
  refine ⟨fun h22 => ?_, fun h22 => ?_⟩
  · replace H := H.1 h22
    refine hG.1 45 _ _ rfl _ _ _ ?_
    refine hG.1 46 _ _ rfl _ _ _ ?_
    obtain ⟨g3, H⟩ := H
    refine ⟨⟨rfl, by decide⟩, Nat.le_of_ble_eq_true rfl, g3, ⟨rfl, H.1⟩, fun r1 σ2 hp4 => ?_⟩
    replace H := H.2 r1 σ2 hp4
    refine hG.1 47 _ _ rfl _ _ _ ?_
    refine hG.1 48 _ _ rfl _ _ _ ?_
    obtain ⟨g7, H⟩ := H
    refine ⟨Nat.le_of_ble_eq_true rfl, Nat.le_of_ble_eq_true rfl, g7, ⟨_, rfl, H.1⟩, fun r5 σ6 hp8 => ?_⟩
    replace H := H.2 r5 σ6 hp8
    refine hG.1 49 _ _ rfl _ _ _ ?_
    exact ⟨rfl, H⟩
  · replace H := H.2 h22
    refine hG.1 27 _ _ rfl _ _ _ ?_
    refine hG.1 28 _ _ rfl _ _ _ ?_
    obtain ⟨g11, H⟩ := H
    refine ⟨⟨rfl, by decide⟩, Nat.le_of_ble_eq_true rfl, g11, ⟨rfl, H.1⟩, fun r9 σ10 hp12 => ?_⟩
    replace H := H.2 r9 σ10 hp12
    refine hG.1 29 _ _ rfl _ _ _ ?_
    show G 51 [some (.ref 0), some (.int v1), some (.int v2), some (.int v3), some (.int r9)] [] σ10
    refine hG.1 30 _ _ rfl _ _ _ ?_
    refine hG.1 31 _ _ rfl _ _ _ ?_
    refine hG.1 32 _ _ rfl _ _ _ ?_
    refine hG.1 33 _ _ rfl _ _ _ ?_
    refine ⟨fun h21 => ?_, fun h21 => ?_⟩
    · replace H := H.1 h21
      refine hG.1 36 _ _ rfl _ _ _ ?_
      refine hG.1 37 _ _ rfl _ _ _ ?_
      refine hG.1 38 _ _ rfl _ _ _ ?_
      refine hG.1 39 _ _ rfl _ _ _ ?_
      refine hG.1 40 _ _ rfl _ _ _ ?_
      show G 69 [some (.ref 0), some (.int v1), some (.int (v2 ||| ((1 : Int32) <<< (r9 &&& 31)))), some (.int v3), some (.int r9)] [] σ10
      refine hG.1 41 _ _ rfl _ _ _ ?_
      refine hG.1 42 _ _ rfl _ _ _ ?_
      obtain ⟨g15, H⟩ := H
      refine ⟨⟨rfl, by decide⟩, Nat.le_of_ble_eq_true rfl, g15, ⟨rfl, H.1⟩, fun r13 σ14 hp16 => ?_⟩
      replace H := H.2 r13 σ14 hp16
      refine hG.1 43 _ _ rfl _ _ _ ?_
      show G 76 [some (.ref 0), some (.int v1), some (.int (v2 ||| ((1 : Int32) <<< (r9 &&& 31)))), some (.int (v3 + 1)), some (.int r9)] [] σ14
      refine hG.1 44 _ _ rfl _ _ _ ?_
      refine hG.2 40 [some (.ref 0), some (.int v1), some (.int (v2 ||| ((1 : Int32) <<< (r9 &&& 31)))), some (.int (v3 + 1)), none] _ _ _ ⟨rfl, rfl, rfl, rfl, trivial⟩ ?_
      exact H
    · replace H := H.2 h21
      refine hG.1 34 _ _ rfl _ _ _ ?_
      refine hG.1 35 _ _ rfl _ _ _ ?_
      refine hG.1 39 _ _ rfl _ _ _ ?_
      refine hG.1 40 _ _ rfl _ _ _ ?_
      show G 69 [some (.ref 0), some (.int v1), some (.int (v2 ||| (0 : Int32))), some (.int v3), some (.int r9)] [] σ10
      refine hG.1 41 _ _ rfl _ _ _ ?_
      refine hG.1 42 _ _ rfl _ _ _ ?_
      obtain ⟨g19, H⟩ := H
      refine ⟨⟨rfl, by decide⟩, Nat.le_of_ble_eq_true rfl, g19, ⟨rfl, H.1⟩, fun r17 σ18 hp20 => ?_⟩
      replace H := H.2 r17 σ18 hp20
      refine hG.1 43 _ _ rfl _ _ _ ?_
      show G 76 [some (.ref 0), some (.int v1), some (.int (v2 ||| (0 : Int32))), some (.int (v3 + 1)), some (.int r9)] [] σ18
      refine hG.1 44 _ _ rfl _ _ _ ?_
      refine hG.2 40 [some (.ref 0), some (.int v1), some (.int (v2 ||| (0 : Int32))), some (.int (v3 + 1)), none] _ _ _ ⟨rfl, rfl, rfl, rfl, trivial⟩ ?_
      exact H
set_option maxRecDepth 100000 in
set_option maxHeartbeats 4000000 in
theorem hhX6_days (g : gtX6_days) (v1 : Int32) (σ : px_St) (h : qrX6_days g v1 σ) (G : px_K) (hG : px_cl (opX6_days (qoX6_days g v1 σ)) G) : G 0 (px_ent 5 [.ref 0, .int v1]) [] σ := by
  obtain ⟨hX, hok⟩ := h
  have hV := hX.1
  have hvk := hok.1.1
  have hd := hok.1.2
  refine sgX6_days_0 hG _ σ ⟨(), trivial, fun r1 σ1 h1 => ?_⟩
  obtain ⟨rfl, b1⟩ := h1
  refine bz1 (in_c (a := 0) (b := 30) (by decide) (by decide) b1) (fun z => ?_) (fun z => ?_)
  · obtain ⟨n, hn, rfl⟩ := (rngc 30 30 rfl (by omega)).mp z
    rw [c47, hV.1.2.2, nI_add]
    have c1 : nI (g.1.2.2.1 + n) ≤ 999 ↔ g.1.2.2.1 + n ≤ 999 := nIle _ 999 rfl rfl (by omega) (by omega)
    rw [c1]
    refine ⟨i47, fun hl => ⟨(), trivial, fun _ σ3 h3 => ?_⟩, fun hl => ?_⟩
    · have ex : x_days g (nI n) = (nI (pv_pc (pv_sb g.1 n) 10), xV g (pv_run g.1 n)) := by
        unfold x_days
        rw [xif_t z, nI_clamp (by omega), xif_t (by omega)]
      have loop : ∀ m k, k + m = n → ∀ σ', mv_is (σ'.1 2) (pv_run g.1 k) → mn_only σ3 σ' → pv_sb g.1 k < 1024 → G 40 [some (.ref 0), some (.int (nI n)), some (.int (nI (pv_sb g.1 k))), some (.int (nI k)), none] [] σ' := by
        intro m
        induction m with
        | zero =>
          intro k hk σ' h1 h2 h4
          have e : k = n := by omega
          subst e
          refine sgX6_days_40 hG _ _ _ σ' ⟨fun _ => ⟨(), trivial, fun _ σ2 hs => ⟨pv_sb g.1 k, ⟨h4, rfl⟩, fun r σ5 hq => ?_⟩⟩, fun y => absurd (Int32.le_refl _) y⟩
          obtain ⟨rfl, rfl⟩ := hq
          unfold qoX6_days
          rw [ex]
          exact ⟨rfl, settled hX hok.2.1 (pv_run_ok hvk k (by omega)).1 h3 h2 h1 hs⟩
        | succ m ih =>
          intro k hk σ' h1 h2 h4
          have hrk := pv_run_ok hvk k (by omega)
          have hdk : (pv_run g.1 k).2.2.1 < 1999 := by rw [(pv_run_n g.1 k).2.2]; omega
          refine sgX6_days_40 hG _ _ _ σ' ⟨fun y => absurd y (nI_ge (by omega) (by omega)), fun _ => ⟨pv_run g.1 k, ⟨h1, hrk⟩, fun r σ2 hq => ?_⟩⟩
          obtain ⟨rfl, rfl⟩ := hq
          obtain ⟨e1, e2⟩ := or_said hrk h4
          rw [pv_bit_said hrk] at e1
          rw [said_no4 hrk]
          refine ⟨fun hn => ⟨pv_run g.1 k, ⟨h1, hrk, hdk⟩, fun _ σ5 hq => ?_⟩, fun hn => ⟨pv_run g.1 k, ⟨h1, hrk, hdk⟩, fun _ σ5 hq => ?_⟩⟩
          · obtain ⟨q1, q2⟩ := hq
            have hdl := pv_due_le hrk (by omega)
            have es : (1 : Int32) <<< (pv_said (pv_run g.1 k) &&& 31) = nI (2 ^ pv_due (pv_run g.1 k)) := by
              unfold pv_said
              rw [if_neg hn, sh1 _ (by omega)]
            rw [if_neg hn] at e1 e2
            rw [es, e1, nI_1]
            have es2 : pv_sb g.1 (k + 1) = pv_sb g.1 k ||| 2 ^ pv_due (pv_run g.1 k) := by
              show pv_sb g.1 k ||| (if g.1.1 = 0 then 0 else _) = _
              rw [if_neg (by rw [← (pv_run_n g.1 k).1]; exact hn)]
            rw [← es2] at e2 ⊢
            exact ih (k + 1) (by omega) σ5 q1 (h2.tr q2) e2
          · obtain ⟨q1, q2⟩ := hq
            have hn0 := Classical.byContradiction hn
            have es2 : pv_sb g.1 (k + 1) = pv_sb g.1 k := by
              show pv_sb g.1 k ||| (if g.1.1 = 0 then 0 else _) = _
              rw [if_pos (by rw [← (pv_run_n g.1 k).1]; exact hn0), Nat.or_zero]
            rw [Int32.or_zero, nI_1, ← es2]
            exact ih (k + 1) (by omega) σ5 q1 (h2.tr q2) (by rw [es2]; exact h4)
      exact loop n 0 (by omega) σ3 (starts_mv h3 hX.1 hvk.1) mn_only.rf (by show 0 < 1024; omega)
    · unfold qoX6_days x_days
      rw [xif_t z, nI_clamp (by omega), xif_f (by omega)]
      exact ⟨rfl, hX⟩
  · unfold qoX6_days x_days
    rw [xif_f z]
    exact ⟨rfl, hX⟩
theorem mX6_days (g : gtX6_days) : px_Met dM yX6_days (Cond.code yX6_days cX6_days 5 (some .int) :: wdM) rmX6_days px_vI (prX6_days g) (poX6_days g) :=
  px_met (Z := (cX6_days, 5, RX6, Cond.code yX6_days cX6_days 5 (some .int) :: wdM, (some .int), rmX6_days, dM)) opX6_days (by decide) rfl rfl okX6_days (fun As σ h => by obtain ⟨v1, rfl, h⟩ := h; exact Nat.le_of_ble_eq_true rfl) (fun As σ h G hG => by obtain ⟨v1, rfl, h⟩ := h; exact hhX6_days g v1 σ h G hG)
abbrev gtX6_says : Type := pv_X
def qrX6_says (X : pv_X) (_ : Int32) (σ : px_St) : Prop := mo_is σ X ∧ xo X
def qoX6_says (X : pv_X) (n : Int32) (_ : px_St) (r : Int32) (σ' : px_St) : Prop := r = (x_says X n).1 ∧ mo_is σ' (x_says X n).2
def prX6_says (g : gtX6_says) : List Value → px_St → Prop := fun As σ => ∃ v1 : Int32, As = [.ref 0, .int v1] ∧ qrX6_says g v1 σ
def poX6_says (g : gtX6_says) : List Value → px_St → Int32 → px_St → Prop
  | [.ref _, .int v1], σ, r, σ' => qoX6_says g v1 σ r σ'
  | _, _, _, _ => False
theorem dX6_says_0 : decode cX6_says 0 = .ok (.iload_n 1, 1) := by decide +kernel
theorem dX6_says_1 : decode cX6_says 1 = .ok (.invokestatic 199, 3) := by decide +kernel
theorem dX6_says_4 : decode cX6_says 4 = .ok (.ifCond .ne 5, 3) := by decide +kernel
theorem dX6_says_7 : decode cX6_says 7 = .ok (.iconst (-1), 1) := by decide +kernel
theorem dX6_says_8 : decode cX6_says 8 = .ok (.ireturn, 1) := by decide +kernel
theorem dX6_says_9 : decode cX6_says 9 = .ok (.aload_n 0, 1) := by decide +kernel
theorem dX6_says_10 : decode cX6_says 10 = .ok (.invokevirtual 163, 3) := by decide +kernel
theorem dX6_says_13 : decode cX6_says 13 = .ok (.aload_n 0, 1) := by decide +kernel
theorem dX6_says_14 : decode cX6_says 14 = .ok (.iload_n 1, 1) := by decide +kernel
theorem dX6_says_15 : decode cX6_says 15 = .ok (.invokevirtual 202, 3) := by decide +kernel
theorem dX6_says_18 : decode cX6_says 18 = .ok (.aload_n 0, 1) := by decide +kernel
theorem dX6_says_19 : decode cX6_says 19 = .ok (.invokevirtual 147, 3) := by decide +kernel
theorem dX6_says_22 : decode cX6_says 22 = .ok (.ireturn, 1) := by decide +kernel
abbrev rmX6_says : Room := { frames := 5, cells := 0, slots := 0, locals := 115 }
def opX6_says (po : Int32 → px_St → Prop) : List (Nat × px_Op) := [
  (0, px_il 1 1),
  (1, px_callS 4 1 px_vI prX6_isFar poX6_isFar),
  (4, px_if 7 9 (fun x => ¬ x = 0)),
  (7, px_push 8 (.int (-1))),
  (8, px_iret (.int) po),
  (9, px_al 10 0),
  (10, px_callV dM 13 6 0 px_vV prX6_starts poX6_starts),
  (13, px_al 14 0),
  (14, px_il 15 1),
  (15, px_callV dM 18 6 1 px_vV prX6_daysGo poX6_daysGo),
  (18, px_al 19 0),
  (19, px_callV dM 22 6 0 px_vI prX6_saidNow poX6_saidNow),
  (22, px_iret (.int) po)]
set_option maxRecDepth 100000 in
set_option maxHeartbeats 4000000 in
theorem okX6_says : ∀ (po : Int32 → px_St → Prop) (i pc : Nat) (op : px_Op), (opX6_says po)[i]? = some (pc, op) → px_Snd (cX6_says, 2, RX6, Cond.code yX6_says cX6_says 2 (some .int) :: wdM, (some .int), rmX6_says, dM) px_vI po pc op := by
  intro po
  unfold opX6_says
  refine px_ok_cons (ps_iload_n dX6_says_0 rfl) ?_
  refine px_ok_cons (ps_callS mX6_isFar (fun _ _ => rfl) (fun _ _ ht => px_cwS wgM (wdM_4_in _ (List.mem_of_getElem? (i := 18) rfl)) (wdM_4_in _ (List.mem_of_getElem? (i := 19) rfl)) (wdM_0_in _ (List.mem_of_getElem? (i := 22) rfl)) (wdM_4_in _ (List.mem_of_getElem? (i := 16) rfl)) (by decide +kernel) rfl rfl (by decide) ht) dX6_says_1) ?_
  refine px_ok_cons (ps_if_ne dX6_says_4 (by decide)) ?_
  refine px_ok_cons (ps_iconst dX6_says_7 (by decide)) ?_
  refine px_ok_cons (ps_ireturn rfl dX6_says_8) ?_
  refine px_ok_cons (ps_aload_n dX6_says_9 rfl) ?_
  refine px_ok_cons (ps_callV mX6_starts (fun _ _ => rfl) (C := RX6) rfl (fun _ _ ht => px_cwV wgM (wdM_3_in _ (List.mem_of_getElem? (i := 19) rfl)) (wdM_3_in _ (List.mem_of_getElem? (i := 20) rfl)) (wdM_3_in _ (List.mem_of_getElem? (i := 21) rfl)) (wdM_0_in _ (List.mem_of_getElem? (i := 22) rfl)) (wdM_2_in _ (List.mem_of_getElem? (i := 11) rfl)) (by decide +kernel) rfl rfl (by decide) ht) dX6_says_10) ?_
  refine px_ok_cons (ps_aload_n dX6_says_13 rfl) ?_
  refine px_ok_cons (ps_iload_n dX6_says_14 rfl) ?_
  refine px_ok_cons (ps_callV mX6_daysGo (fun _ _ => rfl) (C := RX6) rfl (fun _ _ ht => px_cwV wgM (wdM_4_in _ (List.mem_of_getElem? (i := 20) rfl)) (wdM_4_in _ (List.mem_of_getElem? (i := 21) rfl)) (wdM_4_in _ (List.mem_of_getElem? (i := 22) rfl)) (wdM_0_in _ (List.mem_of_getElem? (i := 22) rfl)) (wdM_3_in _ (List.mem_of_getElem? (i := 9) rfl)) (by decide +kernel) rfl rfl (by decide) ht) dX6_says_15) ?_
  refine px_ok_cons (ps_aload_n dX6_says_18 rfl) ?_
  refine px_ok_cons (ps_callV mX6_saidNow (fun _ _ => rfl) (C := RX6) rfl (fun _ _ ht => px_cwV wgM (wdM_2_in _ (List.mem_of_getElem? (i := 36) rfl)) (wdM_2_in _ (List.mem_of_getElem? (i := 37) rfl)) (wdM_2_in _ (List.mem_of_getElem? (i := 38) rfl)) (wdM_0_in _ (List.mem_of_getElem? (i := 22) rfl)) (wdM_2_in _ (List.mem_of_getElem? (i := 35) rfl)) (by decide +kernel) rfl rfl (by decide) ht) dX6_says_19) ?_
  refine px_ok_cons (ps_ireturn rfl dX6_says_22) ?_
  exact px_ok_nil
set_option maxRecDepth 100000 in
set_option maxHeartbeats 4000000 in
theorem sgX6_says_0 {po : Int32 → px_St → Prop} {G : px_K} (hG : px_cl (opX6_says po) G) (v1 : Int32) (σ : px_St)
    (H : ∃ g3 : gtX6_isFar, qrX6_isFar g3 v1 σ ∧ ∀ (r1 : Int32) (σ2 : px_St), qoX6_isFar g3 v1 σ r1 σ2 → ((¬ r1 = 0) → ∃ g7 : gtX6_starts, qrX6_starts g7 σ2 ∧ ∀ (r5 : Unit) (σ6 : px_St), qoX6_starts g7 σ2 r5 σ6 → ∃ g11 : gtX6_daysGo, qrX6_daysGo g11 v1 σ6 ∧ ∀ (r9 : Unit) (σ10 : px_St), qoX6_daysGo g11 v1 σ6 r9 σ10 → ∃ g15 : gtX6_saidNow, qrX6_saidNow g15 σ10 ∧ ∀ (r13 : Int32) (σ14 : px_St), qoX6_saidNow g15 σ10 r13 σ14 → po r13 σ14) ∧ (¬ (¬ r1 = 0) → po (-1 : Int32) σ2)) :
    G 0 (px_ent 2 [.ref 0, .int v1]) [] σ := by
  refine hG.1 0 _ _ rfl _ _ _ ?_
  refine hG.1 1 _ _ rfl _ _ _ ?_
  obtain ⟨g3, H⟩ := H
  refine ⟨Nat.le_of_ble_eq_true rfl, Nat.le_of_ble_eq_true rfl, g3, ⟨_, rfl, H.1⟩, fun r1 σ2 hp4 => ?_⟩
  replace H := H.2 r1 σ2 hp4
  refine hG.1 2 _ _ rfl _ _ _ ?_
  refine ⟨fun h17 => ?_, fun h17 => ?_⟩
  · replace H := H.1 h17
    refine hG.1 5 _ _ rfl _ _ _ ?_
    refine hG.1 6 _ _ rfl _ _ _ ?_
    obtain ⟨g7, H⟩ := H
    refine ⟨⟨rfl, by decide⟩, Nat.le_of_ble_eq_true rfl, g7, ⟨rfl, H.1⟩, fun r5 σ6 hp8 => ?_⟩
    replace H := H.2 r5 σ6 hp8
    refine hG.1 7 _ _ rfl _ _ _ ?_
    refine hG.1 8 _ _ rfl _ _ _ ?_
    refine hG.1 9 _ _ rfl _ _ _ ?_
    obtain ⟨g11, H⟩ := H
    refine ⟨⟨rfl, by decide⟩, Nat.le_of_ble_eq_true rfl, g11, ⟨_, rfl, H.1⟩, fun r9 σ10 hp12 => ?_⟩
    replace H := H.2 r9 σ10 hp12
    refine hG.1 10 _ _ rfl _ _ _ ?_
    refine hG.1 11 _ _ rfl _ _ _ ?_
    obtain ⟨g15, H⟩ := H
    refine ⟨⟨rfl, by decide⟩, Nat.le_of_ble_eq_true rfl, g15, ⟨rfl, H.1⟩, fun r13 σ14 hp16 => ?_⟩
    replace H := H.2 r13 σ14 hp16
    refine hG.1 12 _ _ rfl _ _ _ ?_
    exact ⟨rfl, H⟩
  · replace H := H.2 h17
    refine hG.1 3 _ _ rfl _ _ _ ?_
    refine hG.1 4 _ _ rfl _ _ _ ?_
    exact ⟨rfl, H⟩
set_option maxRecDepth 100000 in
set_option maxHeartbeats 4000000 in
theorem hhX6_says (g : gtX6_says) (v1 : Int32) (σ : px_St) (h : qrX6_says g v1 σ) (G : px_K) (hG : px_cl (opX6_says (qoX6_says g v1 σ)) G) : G 0 (px_ent 2 [.ref 0, .int v1]) [] σ := by
  obtain ⟨hX, hok⟩ := h
  have hd := hok.1.2
  have hvk := hok.1.1
  refine sgX6_says_0 hG _ σ ⟨(), trivial, fun r1 σ1 h1 => ?_⟩
  obtain ⟨rfl, b1⟩ := h1
  unfold qoX6_says x_says
  refine bz1 b1 (fun z => ⟨(), trivial, fun _ σ3 h3 => ?_⟩) (fun z => ?_)
  · rw [xif_t z]
    obtain ⟨n, hn, rfl⟩ := (rngc 60 60 rfl (by omega)).mp z
    refine ⟨(g.1, n), ⟨starts_mv h3 hX.1 hvk.1, hvk, by omega, by omega, rfl⟩, fun _ σ4 h4 => ⟨pv_run g.1 n, ⟨h4.1, pv_run_ok hvk n (by omega)⟩, fun r5 σ5 h5 => ?_⟩⟩
    obtain ⟨rfl, rfl⟩ := h5
    rw [nI_clamp (by omega)]
    exact ⟨rfl, ((starts_mk h3).tr h4.2.mk).mo hX⟩
  · rw [xif_f z]
    exact ⟨rfl, hX⟩
theorem mX6_says (g : gtX6_says) : px_Met dM yX6_says (Cond.code yX6_says cX6_says 2 (some .int) :: wdM) rmX6_says px_vI (prX6_says g) (poX6_says g) :=
  px_met (Z := (cX6_says, 2, RX6, Cond.code yX6_says cX6_says 2 (some .int) :: wdM, (some .int), rmX6_says, dM)) opX6_says (by decide) rfl rfl okX6_says (fun As σ h => by obtain ⟨v1, rfl, h⟩ := h; exact Nat.le_of_ble_eq_true rfl) (fun As σ h G hG => by obtain ⟨v1, rfl, h⟩ := h; exact hhX6_says g v1 σ h G hG)
abbrev gtX6_when : Type := pv_X
def qrX6_when (X : pv_X) (_ : Int32) (σ : px_St) : Prop := mo_is σ X ∧ xo X
def qoX6_when (X : pv_X) (s : Int32) (_ : px_St) (r : Int32) (σ' : px_St) : Prop := r = (x_when X s).1 ∧ mo_is σ' (x_when X s).2
def prX6_when (g : gtX6_when) : List Value → px_St → Prop := fun As σ => ∃ v1 : Int32, As = [.ref 0, .int v1] ∧ qrX6_when g v1 σ
def poX6_when (g : gtX6_when) : List Value → px_St → Int32 → px_St → Prop
  | [.ref _, .int v1], σ, r, σ' => qoX6_when g v1 σ r σ'
  | _, _, _, _ => False
theorem dX6_when_0 : decode cX6_when 0 = .ok (.iload_n 1, 1) := by decide +kernel
theorem dX6_when_1 : decode cX6_when 1 = .ok (.invokestatic 175, 3) := by decide +kernel
theorem dX6_when_4 : decode cX6_when 4 = .ok (.ifCond .ne 5, 3) := by decide +kernel
theorem dX6_when_7 : decode cX6_when 7 = .ok (.iconst (-1), 1) := by decide +kernel
theorem dX6_when_8 : decode cX6_when 8 = .ok (.ireturn, 1) := by decide +kernel
theorem dX6_when_9 : decode cX6_when 9 = .ok (.aload_n 0, 1) := by decide +kernel
theorem dX6_when_10 : decode cX6_when 10 = .ok (.invokevirtual 163, 3) := by decide +kernel
theorem dX6_when_13 : decode cX6_when 13 = .ok (.aload_n 0, 1) := by decide +kernel
theorem dX6_when_14 : decode cX6_when 14 = .ok (.iload_n 1, 1) := by decide +kernel
theorem dX6_when_15 : decode cX6_when 15 = .ok (.invokevirtual 205, 3) := by decide +kernel
theorem dX6_when_18 : decode cX6_when 18 = .ok (.ireturn, 1) := by decide +kernel
abbrev rmX6_when : Room := { frames := 5, cells := 0, slots := 0, locals := 115 }
def opX6_when (po : Int32 → px_St → Prop) : List (Nat × px_Op) := [
  (0, px_il 1 1),
  (1, px_callS 4 1 px_vI prX6_isSound poX6_isSound),
  (4, px_if 7 9 (fun x => ¬ x = 0)),
  (7, px_push 8 (.int (-1))),
  (8, px_iret (.int) po),
  (9, px_al 10 0),
  (10, px_callV dM 13 6 0 px_vV prX6_starts poX6_starts),
  (13, px_al 14 0),
  (14, px_il 15 1),
  (15, px_callV dM 18 6 1 px_vI prX6_firstOf poX6_firstOf),
  (18, px_iret (.int) po)]
set_option maxRecDepth 100000 in
set_option maxHeartbeats 4000000 in
theorem okX6_when : ∀ (po : Int32 → px_St → Prop) (i pc : Nat) (op : px_Op), (opX6_when po)[i]? = some (pc, op) → px_Snd (cX6_when, 2, RX6, Cond.code yX6_when cX6_when 2 (some .int) :: wdM, (some .int), rmX6_when, dM) px_vI po pc op := by
  intro po
  unfold opX6_when
  refine px_ok_cons (ps_iload_n dX6_when_0 rfl) ?_
  refine px_ok_cons (ps_callS mX6_isSound (fun _ _ => rfl) (fun _ _ ht => px_cwS wgM (wdM_3_in _ (List.mem_of_getElem? (i := 29) rfl)) (wdM_3_in _ (List.mem_of_getElem? (i := 30) rfl)) (wdM_0_in _ (List.mem_of_getElem? (i := 22) rfl)) (wdM_2_in _ (List.mem_of_getElem? (i := 4) rfl)) (by decide +kernel) rfl rfl (by decide) ht) dX6_when_1) ?_
  refine px_ok_cons (ps_if_ne dX6_when_4 (by decide)) ?_
  refine px_ok_cons (ps_iconst dX6_when_7 (by decide)) ?_
  refine px_ok_cons (ps_ireturn rfl dX6_when_8) ?_
  refine px_ok_cons (ps_aload_n dX6_when_9 rfl) ?_
  refine px_ok_cons (ps_callV mX6_starts (fun _ _ => rfl) (C := RX6) rfl (fun _ _ ht => px_cwV wgM (wdM_3_in _ (List.mem_of_getElem? (i := 19) rfl)) (wdM_3_in _ (List.mem_of_getElem? (i := 20) rfl)) (wdM_3_in _ (List.mem_of_getElem? (i := 21) rfl)) (wdM_0_in _ (List.mem_of_getElem? (i := 22) rfl)) (wdM_2_in _ (List.mem_of_getElem? (i := 11) rfl)) (by decide +kernel) rfl rfl (by decide) ht) dX6_when_10) ?_
  refine px_ok_cons (ps_aload_n dX6_when_13 rfl) ?_
  refine px_ok_cons (ps_iload_n dX6_when_14 rfl) ?_
  refine px_ok_cons (ps_callV mX6_firstOf (fun _ _ => rfl) (C := RX6) rfl (fun _ _ ht => px_cwV wgM (wdM_4_in _ (List.mem_of_getElem? (i := 24) rfl)) (wdM_4_in _ (List.mem_of_getElem? (i := 25) rfl)) (wdM_4_in _ (List.mem_of_getElem? (i := 26) rfl)) (wdM_0_in _ (List.mem_of_getElem? (i := 22) rfl)) (wdM_3_in _ (List.mem_of_getElem? (i := 13) rfl)) (by decide +kernel) rfl rfl (by decide) ht) dX6_when_15) ?_
  refine px_ok_cons (ps_ireturn rfl dX6_when_18) ?_
  exact px_ok_nil
set_option maxRecDepth 100000 in
set_option maxHeartbeats 4000000 in
theorem sgX6_when_0 {po : Int32 → px_St → Prop} {G : px_K} (hG : px_cl (opX6_when po) G) (v1 : Int32) (σ : px_St)
    (H : ∃ g3 : gtX6_isSound, qrX6_isSound g3 v1 σ ∧ ∀ (r1 : Int32) (σ2 : px_St), qoX6_isSound g3 v1 σ r1 σ2 → ((¬ r1 = 0) → ∃ g7 : gtX6_starts, qrX6_starts g7 σ2 ∧ ∀ (r5 : Unit) (σ6 : px_St), qoX6_starts g7 σ2 r5 σ6 → ∃ g11 : gtX6_firstOf, qrX6_firstOf g11 v1 σ6 ∧ ∀ (r9 : Int32) (σ10 : px_St), qoX6_firstOf g11 v1 σ6 r9 σ10 → po r9 σ10) ∧ (¬ (¬ r1 = 0) → po (-1 : Int32) σ2)) :
    G 0 (px_ent 2 [.ref 0, .int v1]) [] σ := by
  refine hG.1 0 _ _ rfl _ _ _ ?_
  refine hG.1 1 _ _ rfl _ _ _ ?_
  obtain ⟨g3, H⟩ := H
  refine ⟨Nat.le_of_ble_eq_true rfl, Nat.le_of_ble_eq_true rfl, g3, ⟨_, rfl, H.1⟩, fun r1 σ2 hp4 => ?_⟩
  replace H := H.2 r1 σ2 hp4
  refine hG.1 2 _ _ rfl _ _ _ ?_
  refine ⟨fun h13 => ?_, fun h13 => ?_⟩
  · replace H := H.1 h13
    refine hG.1 5 _ _ rfl _ _ _ ?_
    refine hG.1 6 _ _ rfl _ _ _ ?_
    obtain ⟨g7, H⟩ := H
    refine ⟨⟨rfl, by decide⟩, Nat.le_of_ble_eq_true rfl, g7, ⟨rfl, H.1⟩, fun r5 σ6 hp8 => ?_⟩
    replace H := H.2 r5 σ6 hp8
    refine hG.1 7 _ _ rfl _ _ _ ?_
    refine hG.1 8 _ _ rfl _ _ _ ?_
    refine hG.1 9 _ _ rfl _ _ _ ?_
    obtain ⟨g11, H⟩ := H
    refine ⟨⟨rfl, by decide⟩, Nat.le_of_ble_eq_true rfl, g11, ⟨_, rfl, H.1⟩, fun r9 σ10 hp12 => ?_⟩
    replace H := H.2 r9 σ10 hp12
    refine hG.1 10 _ _ rfl _ _ _ ?_
    exact ⟨rfl, H⟩
  · replace H := H.2 h13
    refine hG.1 3 _ _ rfl _ _ _ ?_
    refine hG.1 4 _ _ rfl _ _ _ ?_
    exact ⟨rfl, H⟩
set_option maxRecDepth 100000 in
set_option maxHeartbeats 4000000 in
theorem hhX6_when (g : gtX6_when) (v1 : Int32) (σ : px_St) (h : qrX6_when g v1 σ) (G : px_K) (hG : px_cl (opX6_when (qoX6_when g v1 σ)) G) : G 0 (px_ent 2 [.ref 0, .int v1]) [] σ := by
  obtain ⟨hX, hok⟩ := h
  have hd := hok.1.2
  have hvk := hok.1.1
  refine sgX6_when_0 hG _ σ ⟨(), trivial, fun r1 σ1 h1 => ?_⟩
  obtain ⟨rfl, b1⟩ := h1
  unfold qoX6_when x_when
  refine bz1 b1 (fun z => ⟨(), trivial, fun _ σ3 h3 => ?_⟩) (fun z => ?_)
  · rw [xif_t z]
    obtain ⟨s, hs, rfl⟩ := (rngc 9 9 rfl (by omega)).mp z
    refine ⟨(g.1, s), ⟨starts_mv h3 hX.1 hvk.1, hvk, by omega, rfl⟩, fun r σ4 h4 => ?_⟩
    obtain ⟨rfl, q2⟩ := h4
    rw [nI_clamp (by omega)]
    exact ⟨rfl, ((starts_mk h3).tr q2.mk).mo hX⟩
  · rw [xif_f z]
    exact ⟨rfl, hX⟩
theorem mX6_when (g : gtX6_when) : px_Met dM yX6_when (Cond.code yX6_when cX6_when 2 (some .int) :: wdM) rmX6_when px_vI (prX6_when g) (poX6_when g) :=
  px_met (Z := (cX6_when, 2, RX6, Cond.code yX6_when cX6_when 2 (some .int) :: wdM, (some .int), rmX6_when, dM)) opX6_when (by decide) rfl rfl okX6_when (fun As σ h => by obtain ⟨v1, rfl, h⟩ := h; exact Nat.le_of_ble_eq_true rfl) (fun As σ h G hG => by obtain ⟨v1, rfl, h⟩ := h; exact hhX6_when g v1 σ h G hG)
abbrev gtX6_often : Type := pv_X
def qrX6_often (X : pv_X) (_ _ : Int32) (σ : px_St) : Prop := mo_is σ X ∧ xo X
def qoX6_often (X : pv_X) (s n : Int32) (_ : px_St) (r : Int32) (σ' : px_St) : Prop := r = (x_often X s n).1 ∧ mo_is σ' (x_often X s n).2
def prX6_often (g : gtX6_often) : List Value → px_St → Prop := fun As σ => ∃ v1 : Int32, ∃ v2 : Int32, As = [.ref 0, .int v1, .int v2] ∧ qrX6_often g v1 v2 σ
def poX6_often (g : gtX6_often) : List Value → px_St → Int32 → px_St → Prop
  | [.ref _, .int v1, .int v2], σ, r, σ' => qoX6_often g v1 v2 σ r σ'
  | _, _, _, _ => False
theorem dX6_often_0 : decode cX6_often 0 = .ok (.iload_n 1, 1) := by decide +kernel
theorem dX6_often_1 : decode cX6_often 1 = .ok (.invokestatic 175, 3) := by decide +kernel
theorem dX6_often_4 : decode cX6_often 4 = .ok (.ifCond .eq 10, 3) := by decide +kernel
theorem dX6_often_7 : decode cX6_often 7 = .ok (.iload_n 2, 1) := by decide +kernel
theorem dX6_often_8 : decode cX6_often 8 = .ok (.invokestatic 199, 3) := by decide +kernel
theorem dX6_often_11 : decode cX6_often 11 = .ok (.ifCond .ne 5, 3) := by decide +kernel
theorem dX6_often_14 : decode cX6_often 14 = .ok (.iconst (-1), 1) := by decide +kernel
theorem dX6_often_15 : decode cX6_often 15 = .ok (.ireturn, 1) := by decide +kernel
theorem dX6_often_16 : decode cX6_often 16 = .ok (.aload_n 0, 1) := by decide +kernel
theorem dX6_often_17 : decode cX6_often 17 = .ok (.invokevirtual 163, 3) := by decide +kernel
theorem dX6_often_20 : decode cX6_often 20 = .ok (.aload_n 0, 1) := by decide +kernel
theorem dX6_often_21 : decode cX6_often 21 = .ok (.iload_n 1, 1) := by decide +kernel
theorem dX6_often_22 : decode cX6_often 22 = .ok (.iload_n 2, 1) := by decide +kernel
theorem dX6_often_23 : decode cX6_often 23 = .ok (.invokevirtual 208, 3) := by decide +kernel
theorem dX6_often_26 : decode cX6_often 26 = .ok (.ireturn, 1) := by decide +kernel
abbrev rmX6_often : Room := { frames := 5, cells := 0, slots := 0, locals := 117 }
def opX6_often (po : Int32 → px_St → Prop) : List (Nat × px_Op) := [
  (0, px_il 1 1),
  (1, px_callS 4 1 px_vI prX6_isSound poX6_isSound),
  (4, px_if 7 14 (fun x => x = 0)),
  (7, px_il 8 2),
  (8, px_callS 11 1 px_vI prX6_isFar poX6_isFar),
  (11, px_if 14 16 (fun x => ¬ x = 0)),
  (14, px_push 15 (.int (-1))),
  (15, px_iret (.int) po),
  (16, px_al 17 0),
  (17, px_callV dM 20 6 0 px_vV prX6_starts poX6_starts),
  (20, px_al 21 0),
  (21, px_il 22 1),
  (22, px_il 23 2),
  (23, px_callV dM 26 6 2 px_vI prX6_oftenIn poX6_oftenIn),
  (26, px_iret (.int) po)]
set_option maxRecDepth 100000 in
set_option maxHeartbeats 4000000 in
theorem okX6_often : ∀ (po : Int32 → px_St → Prop) (i pc : Nat) (op : px_Op), (opX6_often po)[i]? = some (pc, op) → px_Snd (cX6_often, 3, RX6, Cond.code yX6_often cX6_often 3 (some .int) :: wdM, (some .int), rmX6_often, dM) px_vI po pc op := by
  intro po
  unfold opX6_often
  refine px_ok_cons (ps_iload_n dX6_often_0 rfl) ?_
  refine px_ok_cons (ps_callS mX6_isSound (fun _ _ => rfl) (fun _ _ ht => px_cwS wgM (wdM_3_in _ (List.mem_of_getElem? (i := 29) rfl)) (wdM_3_in _ (List.mem_of_getElem? (i := 30) rfl)) (wdM_0_in _ (List.mem_of_getElem? (i := 22) rfl)) (wdM_2_in _ (List.mem_of_getElem? (i := 4) rfl)) (by decide +kernel) rfl rfl (by decide) ht) dX6_often_1) ?_
  refine px_ok_cons (ps_if_eq dX6_often_4 (by decide)) ?_
  refine px_ok_cons (ps_iload_n dX6_often_7 rfl) ?_
  refine px_ok_cons (ps_callS mX6_isFar (fun _ _ => rfl) (fun _ _ ht => px_cwS wgM (wdM_4_in _ (List.mem_of_getElem? (i := 18) rfl)) (wdM_4_in _ (List.mem_of_getElem? (i := 19) rfl)) (wdM_0_in _ (List.mem_of_getElem? (i := 22) rfl)) (wdM_4_in _ (List.mem_of_getElem? (i := 16) rfl)) (by decide +kernel) rfl rfl (by decide) ht) dX6_often_8) ?_
  refine px_ok_cons (ps_if_ne dX6_often_11 (by decide)) ?_
  refine px_ok_cons (ps_iconst dX6_often_14 (by decide)) ?_
  refine px_ok_cons (ps_ireturn rfl dX6_often_15) ?_
  refine px_ok_cons (ps_aload_n dX6_often_16 rfl) ?_
  refine px_ok_cons (ps_callV mX6_starts (fun _ _ => rfl) (C := RX6) rfl (fun _ _ ht => px_cwV wgM (wdM_3_in _ (List.mem_of_getElem? (i := 19) rfl)) (wdM_3_in _ (List.mem_of_getElem? (i := 20) rfl)) (wdM_3_in _ (List.mem_of_getElem? (i := 21) rfl)) (wdM_0_in _ (List.mem_of_getElem? (i := 22) rfl)) (wdM_2_in _ (List.mem_of_getElem? (i := 11) rfl)) (by decide +kernel) rfl rfl (by decide) ht) dX6_often_17) ?_
  refine px_ok_cons (ps_aload_n dX6_often_20 rfl) ?_
  refine px_ok_cons (ps_iload_n dX6_often_21 rfl) ?_
  refine px_ok_cons (ps_iload_n dX6_often_22 rfl) ?_
  refine px_ok_cons (ps_callV mX6_oftenIn (fun _ _ => rfl) (C := RX6) rfl (fun _ _ ht => px_cwV wgM (wdM_4_in _ (List.mem_of_getElem? (i := 28) rfl)) (wdM_4_in _ (List.mem_of_getElem? (i := 29) rfl)) (wdM_4_in _ (List.mem_of_getElem? (i := 30) rfl)) (wdM_0_in _ (List.mem_of_getElem? (i := 22) rfl)) (wdM_3_in _ (List.mem_of_getElem? (i := 12) rfl)) (by decide +kernel) rfl rfl (by decide) ht) dX6_often_23) ?_
  refine px_ok_cons (ps_ireturn rfl dX6_often_26) ?_
  exact px_ok_nil
set_option maxRecDepth 100000 in
set_option maxHeartbeats 4000000 in
theorem sgX6_often_0 {po : Int32 → px_St → Prop} {G : px_K} (hG : px_cl (opX6_often po) G) (v1 : Int32) (v2 : Int32) (σ : px_St)
    (H : ∃ g3 : gtX6_isSound, qrX6_isSound g3 v1 σ ∧ ∀ (r1 : Int32) (σ2 : px_St), qoX6_isSound g3 v1 σ r1 σ2 → ((r1 = 0) → po (-1 : Int32) σ2) ∧ (¬ (r1 = 0) → ∃ g7 : gtX6_isFar, qrX6_isFar g7 v2 σ2 ∧ ∀ (r5 : Int32) (σ6 : px_St), qoX6_isFar g7 v2 σ2 r5 σ6 → ((¬ r5 = 0) → ∃ g11 : gtX6_starts, qrX6_starts g11 σ6 ∧ ∀ (r9 : Unit) (σ10 : px_St), qoX6_starts g11 σ6 r9 σ10 → ∃ g15 : gtX6_oftenIn, qrX6_oftenIn g15 v1 v2 σ10 ∧ ∀ (r13 : Int32) (σ14 : px_St), qoX6_oftenIn g15 v1 v2 σ10 r13 σ14 → po r13 σ14) ∧ (¬ (¬ r5 = 0) → po (-1 : Int32) σ6))) :
    G 0 (px_ent 3 [.ref 0, .int v1, .int v2]) [] σ := by
  refine hG.1 0 _ _ rfl _ _ _ ?_
  refine hG.1 1 _ _ rfl _ _ _ ?_
  obtain ⟨g3, H⟩ := H
  refine ⟨Nat.le_of_ble_eq_true rfl, Nat.le_of_ble_eq_true rfl, g3, ⟨_, rfl, H.1⟩, fun r1 σ2 hp4 => ?_⟩
  replace H := H.2 r1 σ2 hp4
  refine hG.1 2 _ _ rfl _ _ _ ?_
  refine ⟨fun h18 => ?_, fun h18 => ?_⟩
  · replace H := H.1 h18
    refine hG.1 6 _ _ rfl _ _ _ ?_
    refine hG.1 7 _ _ rfl _ _ _ ?_
    exact ⟨rfl, H⟩
  · replace H := H.2 h18
    refine hG.1 3 _ _ rfl _ _ _ ?_
    refine hG.1 4 _ _ rfl _ _ _ ?_
    obtain ⟨g7, H⟩ := H
    refine ⟨Nat.le_of_ble_eq_true rfl, Nat.le_of_ble_eq_true rfl, g7, ⟨_, rfl, H.1⟩, fun r5 σ6 hp8 => ?_⟩
    replace H := H.2 r5 σ6 hp8
    refine hG.1 5 _ _ rfl _ _ _ ?_
    refine ⟨fun h17 => ?_, fun h17 => ?_⟩
    · replace H := H.1 h17
      refine hG.1 8 _ _ rfl _ _ _ ?_
      refine hG.1 9 _ _ rfl _ _ _ ?_
      obtain ⟨g11, H⟩ := H
      refine ⟨⟨rfl, by decide⟩, Nat.le_of_ble_eq_true rfl, g11, ⟨rfl, H.1⟩, fun r9 σ10 hp12 => ?_⟩
      replace H := H.2 r9 σ10 hp12
      refine hG.1 10 _ _ rfl _ _ _ ?_
      refine hG.1 11 _ _ rfl _ _ _ ?_
      refine hG.1 12 _ _ rfl _ _ _ ?_
      refine hG.1 13 _ _ rfl _ _ _ ?_
      obtain ⟨g15, H⟩ := H
      refine ⟨⟨rfl, by decide⟩, Nat.le_of_ble_eq_true rfl, g15, ⟨_, _, rfl, H.1⟩, fun r13 σ14 hp16 => ?_⟩
      replace H := H.2 r13 σ14 hp16
      refine hG.1 14 _ _ rfl _ _ _ ?_
      exact ⟨rfl, H⟩
    · replace H := H.2 h17
      refine hG.1 6 _ _ rfl _ _ _ ?_
      refine hG.1 7 _ _ rfl _ _ _ ?_
      exact ⟨rfl, H⟩
set_option maxRecDepth 100000 in
set_option maxHeartbeats 4000000 in
theorem hhX6_often (g : gtX6_often) (v1 : Int32) (v2 : Int32) (σ : px_St) (h : qrX6_often g v1 v2 σ) (G : px_K) (hG : px_cl (opX6_often (qoX6_often g v1 v2 σ)) G) : G 0 (px_ent 3 [.ref 0, .int v1, .int v2]) [] σ := by
  obtain ⟨hX, hok⟩ := h
  have hd := hok.1.2
  have hvk := hok.1.1
  refine sgX6_often_0 hG _ _ σ ⟨(), trivial, fun r1 σ1 h1 => ?_⟩
  obtain ⟨rfl, b1⟩ := h1
  unfold qoX6_often x_often
  refine bz2 b1 (fun z => ⟨(), trivial, fun r2 σ2 h2 => ?_⟩) (fun z => ?_)
  · obtain ⟨rfl, b2⟩ := h2
    refine bz1 b2 (fun y => ⟨(), trivial, fun _ σ3 h3 => ?_⟩) (fun y => ?_)
    · rw [xif_t ⟨z, y⟩]
      obtain ⟨s, hs, rfl⟩ := (rngc 9 9 rfl (by omega)).mp z
      obtain ⟨n, hn, rfl⟩ := (rngc 60 60 rfl (by omega)).mp y
      refine ⟨(g.1, s, n), ⟨starts_mv h3 hX.1 hvk.1, hvk, by omega, by omega, rfl, rfl⟩, fun r σ4 h4 => ?_⟩
      obtain ⟨rfl, q2⟩ := h4
      rw [nI_clamp (by omega), nI_clamp (by omega)]
      exact ⟨rfl, ((starts_mk h3).tr q2.mk).mo hX⟩
    · rw [xif_f (fun q => y q.2)]
      exact ⟨rfl, hX⟩
  · rw [xif_f (fun q => z q.1)]
    exact ⟨rfl, hX⟩
theorem mX6_often (g : gtX6_often) : px_Met dM yX6_often (Cond.code yX6_often cX6_often 3 (some .int) :: wdM) rmX6_often px_vI (prX6_often g) (poX6_often g) :=
  px_met (Z := (cX6_often, 3, RX6, Cond.code yX6_often cX6_often 3 (some .int) :: wdM, (some .int), rmX6_often, dM)) opX6_often (by decide) rfl rfl okX6_often (fun As σ h => by obtain ⟨v1, v2, rfl, h⟩ := h; exact Nat.le_of_ble_eq_true rfl) (fun As σ h G hG => by obtain ⟨v1, v2, rfl, h⟩ := h; exact hhX6_often g v1 v2 σ h G hG)
abbrev gtX6_phrase : Type := pv_X
def qrX6_phrase (X : pv_X) (_ _ : Int32) (σ : px_St) : Prop := mo_is σ X ∧ xo X
def qoX6_phrase (X : pv_X) (s t : Int32) (_ : px_St) (r : Int32) (σ' : px_St) : Prop := r = (x_phrase X s t).1 ∧ mo_is σ' (x_phrase X s t).2
def prX6_phrase (g : gtX6_phrase) : List Value → px_St → Prop := fun As σ => ∃ v1 : Int32, ∃ v2 : Int32, As = [.ref 0, .int v1, .int v2] ∧ qrX6_phrase g v1 v2 σ
def poX6_phrase (g : gtX6_phrase) : List Value → px_St → Int32 → px_St → Prop
  | [.ref _, .int v1, .int v2], σ, r, σ' => qoX6_phrase g v1 v2 σ r σ'
  | _, _, _, _ => False
theorem dX6_phrase_0 : decode cX6_phrase 0 = .ok (.iload_n 1, 1) := by decide +kernel
theorem dX6_phrase_1 : decode cX6_phrase 1 = .ok (.invokestatic 175, 3) := by decide +kernel
theorem dX6_phrase_4 : decode cX6_phrase 4 = .ok (.ifCond .eq 10, 3) := by decide +kernel
theorem dX6_phrase_7 : decode cX6_phrase 7 = .ok (.iload_n 2, 1) := by decide +kernel
theorem dX6_phrase_8 : decode cX6_phrase 8 = .ok (.invokestatic 175, 3) := by decide +kernel
theorem dX6_phrase_11 : decode cX6_phrase 11 = .ok (.ifCond .ne 5, 3) := by decide +kernel
theorem dX6_phrase_14 : decode cX6_phrase 14 = .ok (.iconst (-1), 1) := by decide +kernel
theorem dX6_phrase_15 : decode cX6_phrase 15 = .ok (.ireturn, 1) := by decide +kernel
theorem dX6_phrase_16 : decode cX6_phrase 16 = .ok (.aload_n 0, 1) := by decide +kernel
theorem dX6_phrase_17 : decode cX6_phrase 17 = .ok (.invokevirtual 163, 3) := by decide +kernel
theorem dX6_phrase_20 : decode cX6_phrase 20 = .ok (.iconst 0, 1) := by decide +kernel
theorem dX6_phrase_21 : decode cX6_phrase 21 = .ok (.istore_n 3, 1) := by decide +kernel
theorem dX6_phrase_22 : decode cX6_phrase 22 = .ok (.iload_n 3, 1) := by decide +kernel
theorem dX6_phrase_23 : decode cX6_phrase 23 = .ok (.bipush 60, 2) := by decide +kernel
theorem dX6_phrase_25 : decode cX6_phrase 25 = .ok (.if_icmp .gt 43, 3) := by decide +kernel
theorem dX6_phrase_28 : decode cX6_phrase 28 = .ok (.aload_n 0, 1) := by decide +kernel
theorem dX6_phrase_29 : decode cX6_phrase 29 = .ok (.invokevirtual 147, 3) := by decide +kernel
theorem dX6_phrase_32 : decode cX6_phrase 32 = .ok (.iload_n 1, 1) := by decide +kernel
theorem dX6_phrase_33 : decode cX6_phrase 33 = .ok (.if_icmp .ne 7, 3) := by decide +kernel
theorem dX6_phrase_36 : decode cX6_phrase 36 = .ok (.iconst 1, 1) := by decide +kernel
theorem dX6_phrase_37 : decode cX6_phrase 37 = .ok (.goto 4, 3) := by decide +kernel
theorem dX6_phrase_40 : decode cX6_phrase 40 = .ok (.iconst 0, 1) := by decide +kernel
theorem dX6_phrase_41 : decode cX6_phrase 41 = .ok (.istore 4, 2) := by decide +kernel
theorem dX6_phrase_43 : decode cX6_phrase 43 = .ok (.aload_n 0, 1) := by decide +kernel
theorem dX6_phrase_44 : decode cX6_phrase 44 = .ok (.invokevirtual 156, 3) := by decide +kernel
theorem dX6_phrase_47 : decode cX6_phrase 47 = .ok (.iload 4, 2) := by decide +kernel
theorem dX6_phrase_49 : decode cX6_phrase 49 = .ok (.ifCond .eq 13, 3) := by decide +kernel
theorem dX6_phrase_52 : decode cX6_phrase 52 = .ok (.aload_n 0, 1) := by decide +kernel
theorem dX6_phrase_53 : decode cX6_phrase 53 = .ok (.invokevirtual 147, 3) := by decide +kernel
theorem dX6_phrase_56 : decode cX6_phrase 56 = .ok (.iload_n 2, 1) := by decide +kernel
theorem dX6_phrase_57 : decode cX6_phrase 57 = .ok (.if_icmp .ne 5, 3) := by decide +kernel
theorem dX6_phrase_60 : decode cX6_phrase 60 = .ok (.iload_n 3, 1) := by decide +kernel
theorem dX6_phrase_61 : decode cX6_phrase 61 = .ok (.ireturn, 1) := by decide +kernel
theorem dX6_phrase_62 : decode cX6_phrase 62 = .ok (.iinc 3 1, 3) := by decide +kernel
theorem dX6_phrase_65 : decode cX6_phrase 65 = .ok (.goto (-43), 3) := by decide +kernel
theorem dX6_phrase_68 : decode cX6_phrase 68 = .ok (.bipush (-4), 2) := by decide +kernel
theorem dX6_phrase_70 : decode cX6_phrase 70 = .ok (.ireturn, 1) := by decide +kernel
abbrev rmX6_phrase : Room := { frames := 4, cells := 0, slots := 0, locals := 93 }
def opX6_phrase (po : Int32 → px_St → Prop) : List (Nat × px_Op) := [
  (0, px_il 1 1),
  (1, px_callS 4 1 px_vI prX6_isSound poX6_isSound),
  (4, px_if 7 14 (fun x => x = 0)),
  (7, px_il 8 2),
  (8, px_callS 11 1 px_vI prX6_isSound poX6_isSound),
  (11, px_if 14 16 (fun x => ¬ x = 0)),
  (14, px_push 15 (.int (-1))),
  (15, px_iret (.int) po),
  (16, px_al 17 0),
  (17, px_callV dM 20 6 0 px_vV prX6_starts poX6_starts),
  (20, px_push 21 (.int 0)),
  (21, px_is 22 3),
  (22, px_il 23 3),
  (23, px_push 25 (.int 60)),
  (25, px_ic 28 68 (fun x y => y < x)),
  (28, px_al 29 0),
  (29, px_callV dM 32 6 0 px_vI prX6_saidNow poX6_saidNow),
  (32, px_il 33 1),
  (33, px_ic 36 40 (fun x y => ¬ x = y)),
  (36, px_push 37 (.int 1)),
  (37, px_go 41),
  (40, px_push 41 (.int 0)),
  (41, px_is 43 4),
  (43, px_al 44 0),
  (44, px_callV dM 47 6 0 px_vV prX6_dayGoes poX6_dayGoes),
  (47, px_il 49 4),
  (49, px_if 52 62 (fun x => x = 0)),
  (52, px_al 53 0),
  (53, px_callV dM 56 6 0 px_vI prX6_saidNow poX6_saidNow),
  (56, px_il 57 2),
  (57, px_ic 60 62 (fun x y => ¬ x = y)),
  (60, px_il 61 3),
  (61, px_iret (.int) po),
  (62, px_inc 65 3 1),
  (65, px_go 22),
  (68, px_push 70 (.int (-4))),
  (70, px_iret (.int) po)]
set_option maxRecDepth 100000 in
set_option maxHeartbeats 4000000 in
theorem okX6_phrase : ∀ (po : Int32 → px_St → Prop) (i pc : Nat) (op : px_Op), (opX6_phrase po)[i]? = some (pc, op) → px_Snd (cX6_phrase, 5, RX6, Cond.code yX6_phrase cX6_phrase 5 (some .int) :: wdM, (some .int), rmX6_phrase, dM) px_vI po pc op := by
  intro po
  unfold opX6_phrase
  refine px_ok_cons (ps_iload_n dX6_phrase_0 rfl) ?_
  refine px_ok_cons (ps_callS mX6_isSound (fun _ _ => rfl) (fun _ _ ht => px_cwS wgM (wdM_3_in _ (List.mem_of_getElem? (i := 29) rfl)) (wdM_3_in _ (List.mem_of_getElem? (i := 30) rfl)) (wdM_0_in _ (List.mem_of_getElem? (i := 22) rfl)) (wdM_2_in _ (List.mem_of_getElem? (i := 4) rfl)) (by decide +kernel) rfl rfl (by decide) ht) dX6_phrase_1) ?_
  refine px_ok_cons (ps_if_eq dX6_phrase_4 (by decide)) ?_
  refine px_ok_cons (ps_iload_n dX6_phrase_7 rfl) ?_
  refine px_ok_cons (ps_callS mX6_isSound (fun _ _ => rfl) (fun _ _ ht => px_cwS wgM (wdM_3_in _ (List.mem_of_getElem? (i := 29) rfl)) (wdM_3_in _ (List.mem_of_getElem? (i := 30) rfl)) (wdM_0_in _ (List.mem_of_getElem? (i := 22) rfl)) (wdM_2_in _ (List.mem_of_getElem? (i := 4) rfl)) (by decide +kernel) rfl rfl (by decide) ht) dX6_phrase_8) ?_
  refine px_ok_cons (ps_if_ne dX6_phrase_11 (by decide)) ?_
  refine px_ok_cons (ps_iconst dX6_phrase_14 (by decide)) ?_
  refine px_ok_cons (ps_ireturn rfl dX6_phrase_15) ?_
  refine px_ok_cons (ps_aload_n dX6_phrase_16 rfl) ?_
  refine px_ok_cons (ps_callV mX6_starts (fun _ _ => rfl) (C := RX6) rfl (fun _ _ ht => px_cwV wgM (wdM_3_in _ (List.mem_of_getElem? (i := 19) rfl)) (wdM_3_in _ (List.mem_of_getElem? (i := 20) rfl)) (wdM_3_in _ (List.mem_of_getElem? (i := 21) rfl)) (wdM_0_in _ (List.mem_of_getElem? (i := 22) rfl)) (wdM_2_in _ (List.mem_of_getElem? (i := 11) rfl)) (by decide +kernel) rfl rfl (by decide) ht) dX6_phrase_17) ?_
  refine px_ok_cons (ps_iconst dX6_phrase_20 (by decide)) ?_
  refine px_ok_cons (ps_istore_n dX6_phrase_21 rfl (by decide)) ?_
  refine px_ok_cons (ps_iload_n dX6_phrase_22 rfl) ?_
  refine px_ok_cons (ps_bipush dX6_phrase_23 (by decide)) ?_
  refine px_ok_cons (ps_icmp_gt dX6_phrase_25 (by decide)) ?_
  refine px_ok_cons (ps_aload_n dX6_phrase_28 rfl) ?_
  refine px_ok_cons (ps_callV mX6_saidNow (fun _ _ => rfl) (C := RX6) rfl (fun _ _ ht => px_cwV wgM (wdM_2_in _ (List.mem_of_getElem? (i := 36) rfl)) (wdM_2_in _ (List.mem_of_getElem? (i := 37) rfl)) (wdM_2_in _ (List.mem_of_getElem? (i := 38) rfl)) (wdM_0_in _ (List.mem_of_getElem? (i := 22) rfl)) (wdM_2_in _ (List.mem_of_getElem? (i := 35) rfl)) (by decide +kernel) rfl rfl (by decide) ht) dX6_phrase_29) ?_
  refine px_ok_cons (ps_iload_n dX6_phrase_32 rfl) ?_
  refine px_ok_cons (ps_icmp_ne dX6_phrase_33 (by decide)) ?_
  refine px_ok_cons (ps_iconst dX6_phrase_36 (by decide)) ?_
  refine px_ok_cons (ps_goto dX6_phrase_37 (by decide)) ?_
  refine px_ok_cons (ps_iconst dX6_phrase_40 (by decide)) ?_
  refine px_ok_cons (ps_istore dX6_phrase_41 (by decide)) ?_
  refine px_ok_cons (ps_aload_n dX6_phrase_43 rfl) ?_
  refine px_ok_cons (ps_callV mX6_dayGoes (fun _ _ => rfl) (C := RX6) rfl (fun _ _ ht => px_cwV wgM (wdM_3_in _ (List.mem_of_getElem? (i := 6) rfl)) (wdM_3_in _ (List.mem_of_getElem? (i := 7) rfl)) (wdM_3_in _ (List.mem_of_getElem? (i := 8) rfl)) (wdM_0_in _ (List.mem_of_getElem? (i := 22) rfl)) (wdM_3_in _ (List.mem_of_getElem? (i := 5) rfl)) (by decide +kernel) rfl rfl (by decide) ht) dX6_phrase_44) ?_
  refine px_ok_cons (ps_iload dX6_phrase_47) ?_
  refine px_ok_cons (ps_if_eq dX6_phrase_49 (by decide)) ?_
  refine px_ok_cons (ps_aload_n dX6_phrase_52 rfl) ?_
  refine px_ok_cons (ps_callV mX6_saidNow (fun _ _ => rfl) (C := RX6) rfl (fun _ _ ht => px_cwV wgM (wdM_2_in _ (List.mem_of_getElem? (i := 36) rfl)) (wdM_2_in _ (List.mem_of_getElem? (i := 37) rfl)) (wdM_2_in _ (List.mem_of_getElem? (i := 38) rfl)) (wdM_0_in _ (List.mem_of_getElem? (i := 22) rfl)) (wdM_2_in _ (List.mem_of_getElem? (i := 35) rfl)) (by decide +kernel) rfl rfl (by decide) ht) dX6_phrase_53) ?_
  refine px_ok_cons (ps_iload_n dX6_phrase_56 rfl) ?_
  refine px_ok_cons (ps_icmp_ne dX6_phrase_57 (by decide)) ?_
  refine px_ok_cons (ps_iload_n dX6_phrase_60 rfl) ?_
  refine px_ok_cons (ps_ireturn rfl dX6_phrase_61) ?_
  refine px_ok_cons (ps_iinc dX6_phrase_62 (by decide) (by decide)) ?_
  refine px_ok_cons (ps_goto dX6_phrase_65 (by decide)) ?_
  refine px_ok_cons (ps_bipush dX6_phrase_68 (by decide)) ?_
  refine px_ok_cons (ps_ireturn rfl dX6_phrase_70) ?_
  exact px_ok_nil
set_option maxRecDepth 100000 in
set_option maxHeartbeats 4000000 in
theorem sgX6_phrase_0 {po : Int32 → px_St → Prop} {G : px_K} (hG : px_cl (opX6_phrase po) G) (v1 : Int32) (v2 : Int32) (σ : px_St)
    (H : ∃ g3 : gtX6_isSound, qrX6_isSound g3 v1 σ ∧ ∀ (r1 : Int32) (σ2 : px_St), qoX6_isSound g3 v1 σ r1 σ2 → ((r1 = 0) → po (-1 : Int32) σ2) ∧ (¬ (r1 = 0) → ∃ g7 : gtX6_isSound, qrX6_isSound g7 v2 σ2 ∧ ∀ (r5 : Int32) (σ6 : px_St), qoX6_isSound g7 v2 σ2 r5 σ6 → ((¬ r5 = 0) → ∃ g11 : gtX6_starts, qrX6_starts g11 σ6 ∧ ∀ (r9 : Unit) (σ10 : px_St), qoX6_starts g11 σ6 r9 σ10 → G 22 [some (.ref 0), some (.int v1), some (.int v2), some (.int (0 : Int32)), none] [] σ10) ∧ (¬ (¬ r5 = 0) → po (-1 : Int32) σ6))) :
    G 0 (px_ent 5 [.ref 0, .int v1, .int v2]) [] σ := by
  refine hG.1 0 _ _ rfl _ _ _ ?_
  refine hG.1 1 _ _ rfl _ _ _ ?_
  obtain ⟨g3, H⟩ := H
  refine ⟨Nat.le_of_ble_eq_true rfl, Nat.le_of_ble_eq_true rfl, g3, ⟨_, rfl, H.1⟩, fun r1 σ2 hp4 => ?_⟩
  replace H := H.2 r1 σ2 hp4
  refine hG.1 2 _ _ rfl _ _ _ ?_
  refine ⟨fun h14 => ?_, fun h14 => ?_⟩
  · replace H := H.1 h14
    refine hG.1 6 _ _ rfl _ _ _ ?_
    refine hG.1 7 _ _ rfl _ _ _ ?_
    exact ⟨rfl, H⟩
  · replace H := H.2 h14
    refine hG.1 3 _ _ rfl _ _ _ ?_
    refine hG.1 4 _ _ rfl _ _ _ ?_
    obtain ⟨g7, H⟩ := H
    refine ⟨Nat.le_of_ble_eq_true rfl, Nat.le_of_ble_eq_true rfl, g7, ⟨_, rfl, H.1⟩, fun r5 σ6 hp8 => ?_⟩
    replace H := H.2 r5 σ6 hp8
    refine hG.1 5 _ _ rfl _ _ _ ?_
    refine ⟨fun h13 => ?_, fun h13 => ?_⟩
    · replace H := H.1 h13
      refine hG.1 8 _ _ rfl _ _ _ ?_
      refine hG.1 9 _ _ rfl _ _ _ ?_
      obtain ⟨g11, H⟩ := H
      refine ⟨⟨rfl, by decide⟩, Nat.le_of_ble_eq_true rfl, g11, ⟨rfl, H.1⟩, fun r9 σ10 hp12 => ?_⟩
      replace H := H.2 r9 σ10 hp12
      refine hG.1 10 _ _ rfl _ _ _ ?_
      refine hG.1 11 _ _ rfl _ _ _ ?_
      show G 22 [some (.ref 0), some (.int v1), some (.int v2), some (.int (0 : Int32)), none] [] σ10
      exact H
    · replace H := H.2 h13
      refine hG.1 6 _ _ rfl _ _ _ ?_
      refine hG.1 7 _ _ rfl _ _ _ ?_
      exact ⟨rfl, H⟩
set_option maxRecDepth 100000 in
set_option maxHeartbeats 4000000 in
theorem sgX6_phrase_22 {po : Int32 → px_St → Prop} {G : px_K} (hG : px_cl (opX6_phrase po) G) (v1 : Int32) (v2 : Int32) (v3 : Int32) (σ : px_St)
    (H : (((60 : Int32) < v3) → po (-4 : Int32) σ) ∧ (¬ ((60 : Int32) < v3) → ∃ g3 : gtX6_saidNow, qrX6_saidNow g3 σ ∧ ∀ (r1 : Int32) (σ2 : px_St), qoX6_saidNow g3 σ r1 σ2 → ((¬ r1 = v1) → ∃ g7 : gtX6_dayGoes, qrX6_dayGoes g7 σ2 ∧ ∀ (r5 : Unit) (σ6 : px_St), qoX6_dayGoes g7 σ2 r5 σ6 → (((0 : Int32) = 0) → G 22 [some (.ref 0), some (.int v1), some (.int v2), some (.int (v3 + 1)), none] [] σ6) ∧ (¬ ((0 : Int32) = 0) → ∃ g11 : gtX6_saidNow, qrX6_saidNow g11 σ6 ∧ ∀ (r9 : Int32) (σ10 : px_St), qoX6_saidNow g11 σ6 r9 σ10 → ((¬ r9 = v2) → G 22 [some (.ref 0), some (.int v1), some (.int v2), some (.int (v3 + 1)), none] [] σ10) ∧ (¬ (¬ r9 = v2) → po v3 σ10))) ∧ (¬ (¬ r1 = v1) → ∃ g17 : gtX6_dayGoes, qrX6_dayGoes g17 σ2 ∧ ∀ (r15 : Unit) (σ16 : px_St), qoX6_dayGoes g17 σ2 r15 σ16 → (((1 : Int32) = 0) → G 22 [some (.ref 0), some (.int v1), some (.int v2), some (.int (v3 + 1)), none] [] σ16) ∧ (¬ ((1 : Int32) = 0) → ∃ g21 : gtX6_saidNow, qrX6_saidNow g21 σ16 ∧ ∀ (r19 : Int32) (σ20 : px_St), qoX6_saidNow g21 σ16 r19 σ20 → ((¬ r19 = v2) → G 22 [some (.ref 0), some (.int v1), some (.int v2), some (.int (v3 + 1)), none] [] σ20) ∧ (¬ (¬ r19 = v2) → po v3 σ20))))) :
    G 22 [some (.ref 0), some (.int v1), some (.int v2), some (.int v3), none] [] σ := by
  refine hG.1 12 _ _ rfl _ _ _ ?_
  refine hG.1 13 _ _ rfl _ _ _ ?_
  refine hG.1 14 _ _ rfl _ _ _ ?_
  refine ⟨fun h26 => ?_, fun h26 => ?_⟩
  · replace H := H.1 h26
    refine hG.1 35 _ _ rfl _ _ _ ?_
    refine hG.1 36 _ _ rfl _ _ _ ?_
    exact ⟨rfl, H⟩
  · replace H := H.2 h26
    refine hG.1 15 _ _ rfl _ _ _ ?_
    refine hG.1 16 _ _ rfl _ _ _ ?_
    obtain ⟨g3, H⟩ := H
    refine ⟨⟨rfl, by decide⟩, Nat.le_of_ble_eq_true rfl, g3, ⟨rfl, H.1⟩, fun r1 σ2 hp4 => ?_⟩
    replace H := H.2 r1 σ2 hp4
    refine hG.1 17 _ _ rfl _ _ _ ?_
    refine hG.1 18 _ _ rfl _ _ _ ?_
    refine ⟨fun h25 => ?_, fun h25 => ?_⟩
    · replace H := H.1 h25
      refine hG.1 21 _ _ rfl _ _ _ ?_
      refine hG.1 22 _ _ rfl _ _ _ ?_
      show G 43 [some (.ref 0), some (.int v1), some (.int v2), some (.int v3), some (.int (0 : Int32))] [] σ2
      refine hG.1 23 _ _ rfl _ _ _ ?_
      refine hG.1 24 _ _ rfl _ _ _ ?_
      obtain ⟨g7, H⟩ := H
      refine ⟨⟨rfl, by decide⟩, Nat.le_of_ble_eq_true rfl, g7, ⟨rfl, H.1⟩, fun r5 σ6 hp8 => ?_⟩
      replace H := H.2 r5 σ6 hp8
      refine hG.1 25 _ _ rfl _ _ _ ?_
      refine hG.1 26 _ _ rfl _ _ _ ?_
      refine ⟨fun h14 => ?_, fun h14 => ?_⟩
      · replace H := H.1 h14
        refine hG.1 33 _ _ rfl _ _ _ ?_
        show G 65 [some (.ref 0), some (.int v1), some (.int v2), some (.int (v3 + 1)), some (.int (0 : Int32))] [] σ6
        refine hG.1 34 _ _ rfl _ _ _ ?_
        refine hG.2 22 [some (.ref 0), some (.int v1), some (.int v2), some (.int (v3 + 1)), none] _ _ _ ⟨rfl, rfl, rfl, rfl, trivial⟩ ?_
        exact H
      · replace H := H.2 h14
        refine hG.1 27 _ _ rfl _ _ _ ?_
        refine hG.1 28 _ _ rfl _ _ _ ?_
        obtain ⟨g11, H⟩ := H
        refine ⟨⟨rfl, by decide⟩, Nat.le_of_ble_eq_true rfl, g11, ⟨rfl, H.1⟩, fun r9 σ10 hp12 => ?_⟩
        replace H := H.2 r9 σ10 hp12
        refine hG.1 29 _ _ rfl _ _ _ ?_
        refine hG.1 30 _ _ rfl _ _ _ ?_
        refine ⟨fun h13 => ?_, fun h13 => ?_⟩
        · replace H := H.1 h13
          refine hG.1 33 _ _ rfl _ _ _ ?_
          show G 65 [some (.ref 0), some (.int v1), some (.int v2), some (.int (v3 + 1)), some (.int (0 : Int32))] [] σ10
          refine hG.1 34 _ _ rfl _ _ _ ?_
          refine hG.2 22 [some (.ref 0), some (.int v1), some (.int v2), some (.int (v3 + 1)), none] _ _ _ ⟨rfl, rfl, rfl, rfl, trivial⟩ ?_
          exact H
        · replace H := H.2 h13
          refine hG.1 31 _ _ rfl _ _ _ ?_
          refine hG.1 32 _ _ rfl _ _ _ ?_
          exact ⟨rfl, H⟩
    · replace H := H.2 h25
      refine hG.1 19 _ _ rfl _ _ _ ?_
      refine hG.1 20 _ _ rfl _ _ _ ?_
      refine hG.1 22 _ _ rfl _ _ _ ?_
      show G 43 [some (.ref 0), some (.int v1), some (.int v2), some (.int v3), some (.int (1 : Int32))] [] σ2
      refine hG.1 23 _ _ rfl _ _ _ ?_
      refine hG.1 24 _ _ rfl _ _ _ ?_
      obtain ⟨g17, H⟩ := H
      refine ⟨⟨rfl, by decide⟩, Nat.le_of_ble_eq_true rfl, g17, ⟨rfl, H.1⟩, fun r15 σ16 hp18 => ?_⟩
      replace H := H.2 r15 σ16 hp18
      refine hG.1 25 _ _ rfl _ _ _ ?_
      refine hG.1 26 _ _ rfl _ _ _ ?_
      refine ⟨fun h24 => ?_, fun h24 => ?_⟩
      · replace H := H.1 h24
        refine hG.1 33 _ _ rfl _ _ _ ?_
        show G 65 [some (.ref 0), some (.int v1), some (.int v2), some (.int (v3 + 1)), some (.int (1 : Int32))] [] σ16
        refine hG.1 34 _ _ rfl _ _ _ ?_
        refine hG.2 22 [some (.ref 0), some (.int v1), some (.int v2), some (.int (v3 + 1)), none] _ _ _ ⟨rfl, rfl, rfl, rfl, trivial⟩ ?_
        exact H
      · replace H := H.2 h24
        refine hG.1 27 _ _ rfl _ _ _ ?_
        refine hG.1 28 _ _ rfl _ _ _ ?_
        obtain ⟨g21, H⟩ := H
        refine ⟨⟨rfl, by decide⟩, Nat.le_of_ble_eq_true rfl, g21, ⟨rfl, H.1⟩, fun r19 σ20 hp22 => ?_⟩
        replace H := H.2 r19 σ20 hp22
        refine hG.1 29 _ _ rfl _ _ _ ?_
        refine hG.1 30 _ _ rfl _ _ _ ?_
        refine ⟨fun h23 => ?_, fun h23 => ?_⟩
        · replace H := H.1 h23
          refine hG.1 33 _ _ rfl _ _ _ ?_
          show G 65 [some (.ref 0), some (.int v1), some (.int v2), some (.int (v3 + 1)), some (.int (1 : Int32))] [] σ20
          refine hG.1 34 _ _ rfl _ _ _ ?_
          refine hG.2 22 [some (.ref 0), some (.int v1), some (.int v2), some (.int (v3 + 1)), none] _ _ _ ⟨rfl, rfl, rfl, rfl, trivial⟩ ?_
          exact H
        · replace H := H.2 h23
          refine hG.1 31 _ _ rfl _ _ _ ?_
          refine hG.1 32 _ _ rfl _ _ _ ?_
          exact ⟨rfl, H⟩
set_option maxRecDepth 100000 in
set_option maxHeartbeats 4000000 in
theorem hhX6_phrase (g : gtX6_phrase) (v1 : Int32) (v2 : Int32) (σ : px_St) (h : qrX6_phrase g v1 v2 σ) (G : px_K) (hG : px_cl (opX6_phrase (qoX6_phrase g v1 v2 σ)) G) : G 0 (px_ent 5 [.ref 0, .int v1, .int v2]) [] σ := by
  obtain ⟨hX, hok⟩ := h
  have hd := hok.1.2
  have hvk := hok.1.1
  refine sgX6_phrase_0 hG _ _ σ ⟨(), trivial, fun r1 σ1 h1 => ?_⟩
  obtain ⟨rfl, b1⟩ := h1
  refine bz2 b1 (fun z => ⟨(), trivial, fun r2 σ2 h2 => ?_⟩) (fun z => ?_)
  · obtain ⟨rfl, b2⟩ := h2
    refine bz1 b2 (fun y => ⟨(), trivial, fun _ σ3 h3 => ?_⟩) (fun y => ?_)
    · obtain ⟨s, hs, rfl⟩ := (rngc 9 9 rfl (by omega)).mp z
      obtain ⟨t, ht, rfl⟩ := (rngc 9 9 rfl (by omega)).mp y
      have ex : x_phrase g (nI s) (nI t) = (pv_ph g.1 s t 61 0, g) := by
        unfold x_phrase
        rw [xif_t ⟨z, y⟩, nI_clamp (by omega), nI_clamp (by omega)]
      have loop : ∀ m d, d + m = 61 → pv_ph g.1 s t 61 0 = pv_ph g.1 s t m d → ∀ σ', mv_is (σ'.1 2) (pv_run g.1 d) → mk σ2 σ' → G 22 [some (.ref 0), some (.int (nI s)), some (.int (nI t)), some (.int (nI d)), none] [] σ' := by
        intro m
        induction m with
        | zero =>
          intro d hdm he σ' hV ho
          refine sgX6_phrase_22 hG _ _ _ σ' ⟨fun _ => ?_, fun w => absurd ((nIlt 60 d rfl rfl (by omega) (by omega)).mpr (by omega)) w⟩
          unfold qoX6_phrase
          rw [ex]
          exact ⟨he.symm, ho.mo hX⟩
        | succ m ih =>
          intro d hdm he σ' hV ho
          have hrk := pv_run_ok hvk d (by omega)
          have hrk1 := pv_run_ok hvk (d + 1) (by omega)
          have hdk : (pv_run g.1 d).2.2.1 < 1999 := by rw [(pv_run_n g.1 d).2.2]; omega
          change _ = (if pv_said (pv_run g.1 d) = nI s ∧ pv_said (pv_run g.1 (d + 1)) = nI t then nI d else pv_ph g.1 s t m (d + 1)) at he
          refine sgX6_phrase_22 hG _ _ _ σ' ⟨fun w => absurd ((nIlt 60 d rfl rfl (by omega) (by omega)).mp w) (by omega), fun _ => ⟨pv_run g.1 d, ⟨hV, hrk⟩, fun r σ4 h4 => ?_⟩⟩
          obtain ⟨rfl, rfl⟩ := h4
          rw [nI_1]
          refine ⟨fun w => ⟨pv_run g.1 d, ⟨hV, hrk, hdk⟩, fun _ σ5 h5 => ⟨fun _ => ?_, fun q => absurd rfl q⟩⟩, fun w => ⟨pv_run g.1 d, ⟨hV, hrk, hdk⟩, fun _ σ5 h5 => ⟨fun q => absurd q (by decide), fun _ => ⟨pv_run g.1 (d + 1), ⟨h5.1, hrk1⟩, fun r6 σ6 h6 => ?_⟩⟩⟩⟩
          · rw [if_neg (fun q => w q.1)] at he
            exact ih (d + 1) (by omega) he σ5 h5.1 (ho.tr h5.2.mk)
          · obtain ⟨rfl, rfl⟩ := h6
            refine ⟨fun u => ?_, fun u => ?_⟩
            · rw [if_neg (fun q => u q.2)] at he
              exact ih (d + 1) (by omega) he _ h5.1 (ho.tr h5.2.mk)
            · rw [if_pos ⟨Classical.byContradiction w, Classical.byContradiction u⟩] at he
              unfold qoX6_phrase
              rw [ex]
              exact ⟨he.symm, (ho.tr h5.2.mk).mo hX⟩
      exact loop 61 0 (by omega) rfl σ3 (starts_mv h3 hX.1 hvk.1) (starts_mk h3)
    · unfold qoX6_phrase x_phrase
      rw [xif_f (fun q => y q.2)]
      exact ⟨rfl, hX⟩
  · unfold qoX6_phrase x_phrase
    rw [xif_f (fun q => z q.1)]
    exact ⟨rfl, hX⟩
theorem mX6_phrase (g : gtX6_phrase) : px_Met dM yX6_phrase (Cond.code yX6_phrase cX6_phrase 5 (some .int) :: wdM) rmX6_phrase px_vI (prX6_phrase g) (poX6_phrase g) :=
  px_met (Z := (cX6_phrase, 5, RX6, Cond.code yX6_phrase cX6_phrase 5 (some .int) :: wdM, (some .int), rmX6_phrase, dM)) opX6_phrase (by decide) rfl rfl okX6_phrase (fun As σ h => by obtain ⟨v1, v2, rfl, h⟩ := h; exact Nat.le_of_ble_eq_true rfl) (fun As σ h G hG => by obtain ⟨v1, v2, rfl, h⟩ := h; exact hhX6_phrase g v1 v2 σ h G hG)
abbrev gtX6_ahead : Type := pv_X
def qrX6_ahead (X : pv_X) (_ _ _ : Int32) (σ : px_St) : Prop := mo_is σ X ∧ xo X
def qoX6_ahead (X : pv_X) (p n w : Int32) (_ : px_St) (r : Int32) (σ' : px_St) : Prop := r = (x_ahead X p n w).1 ∧ mo_is σ' (x_ahead X p n w).2
def prX6_ahead (g : gtX6_ahead) : List Value → px_St → Prop := fun As σ => ∃ v1 : Int32, ∃ v2 : Int32, ∃ v3 : Int32, As = [.ref 0, .int v1, .int v2, .int v3] ∧ qrX6_ahead g v1 v2 v3 σ
def poX6_ahead (g : gtX6_ahead) : List Value → px_St → Int32 → px_St → Prop
  | [.ref _, .int v1, .int v2, .int v3], σ, r, σ' => qoX6_ahead g v1 v2 v3 σ r σ'
  | _, _, _, _ => False
theorem dX6_ahead_0 : decode cX6_ahead 0 = .ok (.aload_n 0, 1) := by decide +kernel
theorem dX6_ahead_1 : decode cX6_ahead 1 = .ok (.iload_n 1, 1) := by decide +kernel
theorem dX6_ahead_2 : decode cX6_ahead 2 = .ok (.invokevirtual 126, 3) := by decide +kernel
theorem dX6_ahead_5 : decode cX6_ahead 5 = .ok (.ifCond .eq 22, 3) := by decide +kernel
theorem dX6_ahead_8 : decode cX6_ahead 8 = .ok (.iload_n 2, 1) := by decide +kernel
theorem dX6_ahead_9 : decode cX6_ahead 9 = .ok (.invokestatic 199, 3) := by decide +kernel
theorem dX6_ahead_12 : decode cX6_ahead 12 = .ok (.ifCond .eq 15, 3) := by decide +kernel
theorem dX6_ahead_15 : decode cX6_ahead 15 = .ok (.iload_n 3, 1) := by decide +kernel
theorem dX6_ahead_16 : decode cX6_ahead 16 = .ok (.i2l, 1) := by decide +kernel
theorem dX6_ahead_17 : decode cX6_ahead 17 = .ok (.lconst 0, 1) := by decide +kernel
theorem dX6_ahead_18 : decode cX6_ahead 18 = .ok (.ldc2_w 211, 3) := by decide +kernel
theorem dX6_ahead_21 : decode cX6_ahead 21 = .ok (.invokestatic 56, 3) := by decide +kernel
theorem dX6_ahead_24 : decode cX6_ahead 24 = .ok (.ifCond .ne 5, 3) := by decide +kernel
theorem dX6_ahead_27 : decode cX6_ahead 27 = .ok (.iconst (-1), 1) := by decide +kernel
theorem dX6_ahead_28 : decode cX6_ahead 28 = .ok (.ireturn, 1) := by decide +kernel
theorem dX6_ahead_29 : decode cX6_ahead 29 = .ok (.aload_n 0, 1) := by decide +kernel
theorem dX6_ahead_30 : decode cX6_ahead 30 = .ok (.invokevirtual 163, 3) := by decide +kernel
theorem dX6_ahead_33 : decode cX6_ahead 33 = .ok (.aload_n 0, 1) := by decide +kernel
theorem dX6_ahead_34 : decode cX6_ahead 34 = .ok (.iload_n 2, 1) := by decide +kernel
theorem dX6_ahead_35 : decode cX6_ahead 35 = .ok (.invokevirtual 202, 3) := by decide +kernel
theorem dX6_ahead_38 : decode cX6_ahead 38 = .ok (.iload_n 3, 1) := by decide +kernel
theorem dX6_ahead_39 : decode cX6_ahead 39 = .ok (.ifCond .ne 11, 3) := by decide +kernel
theorem dX6_ahead_42 : decode cX6_ahead 42 = .ok (.aload_n 0, 1) := by decide +kernel
theorem dX6_ahead_43 : decode cX6_ahead 43 = .ok (.iload_n 1, 1) := by decide +kernel
theorem dX6_ahead_44 : decode cX6_ahead 44 = .ok (.invokevirtual 172, 3) := by decide +kernel
theorem dX6_ahead_47 : decode cX6_ahead 47 = .ok (.goto 9, 3) := by decide +kernel
theorem dX6_ahead_50 : decode cX6_ahead 50 = .ok (.aload_n 0, 1) := by decide +kernel
theorem dX6_ahead_51 : decode cX6_ahead 51 = .ok (.iload_n 1, 1) := by decide +kernel
theorem dX6_ahead_52 : decode cX6_ahead 52 = .ok (.iload_n 3, 1) := by decide +kernel
theorem dX6_ahead_53 : decode cX6_ahead 53 = .ok (.invokevirtual 130, 3) := by decide +kernel
theorem dX6_ahead_56 : decode cX6_ahead 56 = .ok (.ireturn, 1) := by decide +kernel
abbrev rmX6_ahead : Room := { frames := 5, cells := 0, slots := 0, locals := 115 }
def opX6_ahead (po : Int32 → px_St → Prop) : List (Nat × px_Op) := [
  (0, px_al 1 0),
  (1, px_il 2 1),
  (2, px_callV dM 5 6 1 px_vI prX6_isParrot poX6_isParrot),
  (5, px_if 8 27 (fun x => x = 0)),
  (8, px_il 9 2),
  (9, px_callS 12 1 px_vI prX6_isFar poX6_isFar),
  (12, px_if 15 27 (fun x => x = 0)),
  (15, px_il 16 3),
  (16, px_i2l 17),
  (17, px_push 18 (.long 0)),
  (18, px_push 21 (.long 2)),
  (21, px_callS 24 3 px_vI prX6_in poX6_in),
  (24, px_if 27 29 (fun x => ¬ x = 0)),
  (27, px_push 28 (.int (-1))),
  (28, px_iret (.int) po),
  (29, px_al 30 0),
  (30, px_callV dM 33 6 0 px_vV prX6_starts poX6_starts),
  (33, px_al 34 0),
  (34, px_il 35 2),
  (35, px_callV dM 38 6 1 px_vV prX6_daysGo poX6_daysGo),
  (38, px_il 39 3),
  (39, px_if 42 50 (fun x => ¬ x = 0)),
  (42, px_al 43 0),
  (43, px_il 44 1),
  (44, px_callV dM 47 6 1 px_vI prX6_knownTo poX6_knownTo),
  (47, px_go 56),
  (50, px_al 51 0),
  (51, px_il 52 1),
  (52, px_il 53 3),
  (53, px_callV dM 56 6 2 px_vI prX6_of poX6_of),
  (56, px_iret (.int) po)]
set_option maxRecDepth 100000 in
set_option maxHeartbeats 4000000 in
theorem okX6_ahead : ∀ (po : Int32 → px_St → Prop) (i pc : Nat) (op : px_Op), (opX6_ahead po)[i]? = some (pc, op) → px_Snd (cX6_ahead, 4, RX6, Cond.code yX6_ahead cX6_ahead 4 (some .int) :: wdM, (some .int), rmX6_ahead, dM) px_vI po pc op := by
  intro po
  unfold opX6_ahead
  refine px_ok_cons (ps_aload_n dX6_ahead_0 rfl) ?_
  refine px_ok_cons (ps_iload_n dX6_ahead_1 rfl) ?_
  refine px_ok_cons (ps_callV mX6_isParrot (fun _ _ => rfl) (C := RX6) rfl (fun _ _ ht => px_cwV wgM (wdM_2_in _ (List.mem_of_getElem? (i := 7) rfl)) (wdM_2_in _ (List.mem_of_getElem? (i := 8) rfl)) (wdM_2_in _ (List.mem_of_getElem? (i := 9) rfl)) (wdM_0_in _ (List.mem_of_getElem? (i := 22) rfl)) (wdM_2_in _ (List.mem_of_getElem? (i := 3) rfl)) (by decide +kernel) rfl rfl (by decide) ht) dX6_ahead_2) ?_
  refine px_ok_cons (ps_if_eq dX6_ahead_5 (by decide)) ?_
  refine px_ok_cons (ps_iload_n dX6_ahead_8 rfl) ?_
  refine px_ok_cons (ps_callS mX6_isFar (fun _ _ => rfl) (fun _ _ ht => px_cwS wgM (wdM_4_in _ (List.mem_of_getElem? (i := 18) rfl)) (wdM_4_in _ (List.mem_of_getElem? (i := 19) rfl)) (wdM_0_in _ (List.mem_of_getElem? (i := 22) rfl)) (wdM_4_in _ (List.mem_of_getElem? (i := 16) rfl)) (by decide +kernel) rfl rfl (by decide) ht) dX6_ahead_9) ?_
  refine px_ok_cons (ps_if_eq dX6_ahead_12 (by decide)) ?_
  refine px_ok_cons (ps_iload_n dX6_ahead_15 rfl) ?_
  refine px_ok_cons (ps_i2l dX6_ahead_16) ?_
  refine px_ok_cons (ps_lconst dX6_ahead_17 (by decide)) ?_
  refine px_ok_cons (ps_ldc2 (List.mem_cons_of_mem _ (wdM_4_in _ (List.mem_of_getElem? (i := 33) rfl))) dX6_ahead_18) ?_
  refine px_ok_cons (ps_callS mX6_in (fun _ _ => rfl) (fun _ _ ht => px_cwS wgM (wdM_0_in _ (List.mem_of_getElem? (i := 32) rfl)) (wdM_0_in _ (List.mem_of_getElem? (i := 33) rfl)) (wdM_0_in _ (List.mem_of_getElem? (i := 22) rfl)) (wdM_0_in _ (List.mem_of_getElem? (i := 27) rfl)) (by decide +kernel) rfl rfl (by decide) ht) dX6_ahead_21) ?_
  refine px_ok_cons (ps_if_ne dX6_ahead_24 (by decide)) ?_
  refine px_ok_cons (ps_iconst dX6_ahead_27 (by decide)) ?_
  refine px_ok_cons (ps_ireturn rfl dX6_ahead_28) ?_
  refine px_ok_cons (ps_aload_n dX6_ahead_29 rfl) ?_
  refine px_ok_cons (ps_callV mX6_starts (fun _ _ => rfl) (C := RX6) rfl (fun _ _ ht => px_cwV wgM (wdM_3_in _ (List.mem_of_getElem? (i := 19) rfl)) (wdM_3_in _ (List.mem_of_getElem? (i := 20) rfl)) (wdM_3_in _ (List.mem_of_getElem? (i := 21) rfl)) (wdM_0_in _ (List.mem_of_getElem? (i := 22) rfl)) (wdM_2_in _ (List.mem_of_getElem? (i := 11) rfl)) (by decide +kernel) rfl rfl (by decide) ht) dX6_ahead_30) ?_
  refine px_ok_cons (ps_aload_n dX6_ahead_33 rfl) ?_
  refine px_ok_cons (ps_iload_n dX6_ahead_34 rfl) ?_
  refine px_ok_cons (ps_callV mX6_daysGo (fun _ _ => rfl) (C := RX6) rfl (fun _ _ ht => px_cwV wgM (wdM_4_in _ (List.mem_of_getElem? (i := 20) rfl)) (wdM_4_in _ (List.mem_of_getElem? (i := 21) rfl)) (wdM_4_in _ (List.mem_of_getElem? (i := 22) rfl)) (wdM_0_in _ (List.mem_of_getElem? (i := 22) rfl)) (wdM_3_in _ (List.mem_of_getElem? (i := 9) rfl)) (by decide +kernel) rfl rfl (by decide) ht) dX6_ahead_35) ?_
  refine px_ok_cons (ps_iload_n dX6_ahead_38 rfl) ?_
  refine px_ok_cons (ps_if_ne dX6_ahead_39 (by decide)) ?_
  refine px_ok_cons (ps_aload_n dX6_ahead_42 rfl) ?_
  refine px_ok_cons (ps_iload_n dX6_ahead_43 rfl) ?_
  refine px_ok_cons (ps_callV mX6_knownTo (fun _ _ => rfl) (C := RX6) rfl (fun _ _ ht => px_cwV wgM (wdM_3_in _ (List.mem_of_getElem? (i := 25) rfl)) (wdM_3_in _ (List.mem_of_getElem? (i := 26) rfl)) (wdM_3_in _ (List.mem_of_getElem? (i := 27) rfl)) (wdM_0_in _ (List.mem_of_getElem? (i := 22) rfl)) (wdM_3_in _ (List.mem_of_getElem? (i := 16) rfl)) (by decide +kernel) rfl rfl (by decide) ht) dX6_ahead_44) ?_
  refine px_ok_cons (ps_goto dX6_ahead_47 (by decide)) ?_
  refine px_ok_cons (ps_aload_n dX6_ahead_50 rfl) ?_
  refine px_ok_cons (ps_iload_n dX6_ahead_51 rfl) ?_
  refine px_ok_cons (ps_iload_n dX6_ahead_52 rfl) ?_
  refine px_ok_cons (ps_callV mX6_of (fun _ _ => rfl) (C := RX6) rfl (fun _ _ ht => px_cwV wgM (wdM_2_in _ (List.mem_of_getElem? (i := 16) rfl)) (wdM_2_in _ (List.mem_of_getElem? (i := 17) rfl)) (wdM_2_in _ (List.mem_of_getElem? (i := 18) rfl)) (wdM_0_in _ (List.mem_of_getElem? (i := 22) rfl)) (wdM_2_in _ (List.mem_of_getElem? (i := 13) rfl)) (by decide +kernel) rfl rfl (by decide) ht) dX6_ahead_53) ?_
  refine px_ok_cons (ps_ireturn rfl dX6_ahead_56) ?_
  exact px_ok_nil
set_option maxRecDepth 100000 in
set_option maxHeartbeats 4000000 in
theorem sgX6_ahead_0 {po : Int32 → px_St → Prop} {G : px_K} (hG : px_cl (opX6_ahead po) G) (v1 : Int32) (v2 : Int32) (v3 : Int32) (σ : px_St)
    (H : ∃ g3 : gtX6_isParrot, qrX6_isParrot g3 v1 σ ∧ ∀ (r1 : Int32) (σ2 : px_St), qoX6_isParrot g3 v1 σ r1 σ2 → ((r1 = 0) → po (-1 : Int32) σ2) ∧ (¬ (r1 = 0) → ∃ g7 : gtX6_isFar, qrX6_isFar g7 v2 σ2 ∧ ∀ (r5 : Int32) (σ6 : px_St), qoX6_isFar g7 v2 σ2 r5 σ6 → ((r5 = 0) → po (-1 : Int32) σ6) ∧ (¬ (r5 = 0) → ∃ g11 : gtX6_in, qrX6_in g11 v3.toInt64 (0 : Int64) (2 : Int64) σ6 ∧ ∀ (r9 : Int32) (σ10 : px_St), qoX6_in g11 v3.toInt64 (0 : Int64) (2 : Int64) σ6 r9 σ10 → ((¬ r9 = 0) → ∃ g15 : gtX6_starts, qrX6_starts g15 σ10 ∧ ∀ (r13 : Unit) (σ14 : px_St), qoX6_starts g15 σ10 r13 σ14 → ∃ g19 : gtX6_daysGo, qrX6_daysGo g19 v2 σ14 ∧ ∀ (r17 : Unit) (σ18 : px_St), qoX6_daysGo g19 v2 σ14 r17 σ18 → ((¬ v3 = 0) → ∃ g23 : gtX6_of, qrX6_of g23 v1 v3 σ18 ∧ ∀ (r21 : Int32) (σ22 : px_St), qoX6_of g23 v1 v3 σ18 r21 σ22 → po r21 σ22) ∧ (¬ (¬ v3 = 0) → ∃ g27 : gtX6_knownTo, qrX6_knownTo g27 v1 σ18 ∧ ∀ (r25 : Int32) (σ26 : px_St), qoX6_knownTo g27 v1 σ18 r25 σ26 → po r25 σ26)) ∧ (¬ (¬ r9 = 0) → po (-1 : Int32) σ10)))) :
    G 0 (px_ent 4 [.ref 0, .int v1, .int v2, .int v3]) [] σ := by
  refine hG.1 0 _ _ rfl _ _ _ ?_
  refine hG.1 1 _ _ rfl _ _ _ ?_
  refine hG.1 2 _ _ rfl _ _ _ ?_
  obtain ⟨g3, H⟩ := H
  refine ⟨⟨rfl, by decide⟩, Nat.le_of_ble_eq_true rfl, g3, ⟨_, rfl, H.1⟩, fun r1 σ2 hp4 => ?_⟩
  replace H := H.2 r1 σ2 hp4
  refine hG.1 3 _ _ rfl _ _ _ ?_
  refine ⟨fun h32 => ?_, fun h32 => ?_⟩
  · replace H := H.1 h32
    refine hG.1 13 _ _ rfl _ _ _ ?_
    refine hG.1 14 _ _ rfl _ _ _ ?_
    exact ⟨rfl, H⟩
  · replace H := H.2 h32
    refine hG.1 4 _ _ rfl _ _ _ ?_
    refine hG.1 5 _ _ rfl _ _ _ ?_
    obtain ⟨g7, H⟩ := H
    refine ⟨Nat.le_of_ble_eq_true rfl, Nat.le_of_ble_eq_true rfl, g7, ⟨_, rfl, H.1⟩, fun r5 σ6 hp8 => ?_⟩
    replace H := H.2 r5 σ6 hp8
    refine hG.1 6 _ _ rfl _ _ _ ?_
    refine ⟨fun h31 => ?_, fun h31 => ?_⟩
    · replace H := H.1 h31
      refine hG.1 13 _ _ rfl _ _ _ ?_
      refine hG.1 14 _ _ rfl _ _ _ ?_
      exact ⟨rfl, H⟩
    · replace H := H.2 h31
      refine hG.1 7 _ _ rfl _ _ _ ?_
      refine hG.1 8 _ _ rfl _ _ _ ?_
      refine hG.1 9 _ _ rfl _ _ _ ?_
      refine hG.1 10 _ _ rfl _ _ _ ?_
      refine hG.1 11 _ _ rfl _ _ _ ?_
      obtain ⟨g11, H⟩ := H
      refine ⟨Nat.le_of_ble_eq_true rfl, Nat.le_of_ble_eq_true rfl, g11, ⟨_, _, _, rfl, H.1⟩, fun r9 σ10 hp12 => ?_⟩
      replace H := H.2 r9 σ10 hp12
      refine hG.1 12 _ _ rfl _ _ _ ?_
      refine ⟨fun h30 => ?_, fun h30 => ?_⟩
      · replace H := H.1 h30
        refine hG.1 15 _ _ rfl _ _ _ ?_
        refine hG.1 16 _ _ rfl _ _ _ ?_
        obtain ⟨g15, H⟩ := H
        refine ⟨⟨rfl, by decide⟩, Nat.le_of_ble_eq_true rfl, g15, ⟨rfl, H.1⟩, fun r13 σ14 hp16 => ?_⟩
        replace H := H.2 r13 σ14 hp16
        refine hG.1 17 _ _ rfl _ _ _ ?_
        refine hG.1 18 _ _ rfl _ _ _ ?_
        refine hG.1 19 _ _ rfl _ _ _ ?_
        obtain ⟨g19, H⟩ := H
        refine ⟨⟨rfl, by decide⟩, Nat.le_of_ble_eq_true rfl, g19, ⟨_, rfl, H.1⟩, fun r17 σ18 hp20 => ?_⟩
        replace H := H.2 r17 σ18 hp20
        refine hG.1 20 _ _ rfl _ _ _ ?_
        refine hG.1 21 _ _ rfl _ _ _ ?_
        refine ⟨fun h29 => ?_, fun h29 => ?_⟩
        · replace H := H.1 h29
          refine hG.1 26 _ _ rfl _ _ _ ?_
          refine hG.1 27 _ _ rfl _ _ _ ?_
          refine hG.1 28 _ _ rfl _ _ _ ?_
          refine hG.1 29 _ _ rfl _ _ _ ?_
          obtain ⟨g23, H⟩ := H
          refine ⟨⟨rfl, by decide⟩, Nat.le_of_ble_eq_true rfl, g23, ⟨_, _, rfl, H.1⟩, fun r21 σ22 hp24 => ?_⟩
          replace H := H.2 r21 σ22 hp24
          refine hG.1 30 _ _ rfl _ _ _ ?_
          exact ⟨rfl, H⟩
        · replace H := H.2 h29
          refine hG.1 22 _ _ rfl _ _ _ ?_
          refine hG.1 23 _ _ rfl _ _ _ ?_
          refine hG.1 24 _ _ rfl _ _ _ ?_
          obtain ⟨g27, H⟩ := H
          refine ⟨⟨rfl, by decide⟩, Nat.le_of_ble_eq_true rfl, g27, ⟨_, rfl, H.1⟩, fun r25 σ26 hp28 => ?_⟩
          replace H := H.2 r25 σ26 hp28
          refine hG.1 25 _ _ rfl _ _ _ ?_
          refine hG.1 30 _ _ rfl _ _ _ ?_
          exact ⟨rfl, H⟩
      · replace H := H.2 h30
        refine hG.1 13 _ _ rfl _ _ _ ?_
        refine hG.1 14 _ _ rfl _ _ _ ?_
        exact ⟨rfl, H⟩
set_option maxRecDepth 100000 in
set_option maxHeartbeats 4000000 in
theorem hhX6_ahead (g : gtX6_ahead) (v1 : Int32) (v2 : Int32) (v3 : Int32) (σ : px_St) (h : qrX6_ahead g v1 v2 v3 σ) (G : px_K) (hG : px_cl (opX6_ahead (qoX6_ahead g v1 v2 v3 σ)) G) : G 0 (px_ent 4 [.ref 0, .int v1, .int v2, .int v3]) [] σ := by
  obtain ⟨hX, hok⟩ := h
  have hd := hok.1.2
  have hvk := hok.1.1
  have h5 := hvk.1.1
  refine sgX6_ahead_0 hG _ _ _ σ ⟨g.1, hX.1, fun r1 σ1 h1 => ?_⟩
  obtain ⟨rfl, b1⟩ := h1
  unfold qoX6_ahead x_ahead
  refine bz2 b1 (fun z => ⟨(), trivial, fun r2 σ2 h2 => ?_⟩) (fun z => ?_)
  · obtain ⟨rfl, b2⟩ := h2
    refine bz2 b2 (fun y => ⟨(), trivial, fun r3 σ3 h3 => ?_⟩) (fun y => ?_)
    · obtain ⟨rfl, b3⟩ := h3
      refine bz1 (in_c (a := 0) (b := 2) (by decide) (by decide) b3) (fun x => ⟨(), trivial, fun _ σ4 h4 => ?_⟩) (fun x => ?_)
      · rw [xif_t ⟨z, y, x⟩]
        obtain ⟨p, hp, rfl⟩ := (rng1 (by omega)).mp z
        obtain ⟨n, hn, rfl⟩ := (rngc 60 60 rfl (by omega)).mp y
        obtain ⟨j, hj, rfl⟩ := (rngc 2 2 rfl (by omega)).mp x
        refine ⟨(g.1, n), ⟨starts_mv h4 hX.1 hvk.1, hvk, by omega, by omega, rfl⟩, fun _ σ5 hq => ?_⟩
        obtain ⟨q1, q2⟩ := hq
        have hrk := pv_run_ok hvk n (by omega)
        have hpn : p < (pv_run g.1 n).1 := by rw [(pv_run_n g.1 n).1]; exact hp
        obtain ⟨g1, g2, g3, g4⟩ := q1.2 p hpn
        have hX5 := ((starts_mk h4).tr q2.mk).mo hX
        rw [nI_clamp (by omega), nI_clamp (by omega)]
        refine ⟨fun w0 => ⟨9 * p + j, ⟨by omega, ix9 p j⟩, fun r6 σ6 h6 => ?_⟩, fun w0 => ⟨(pv_run g.1 n, p), ⟨q1, hrk.1, hpn, rfl⟩, fun r6 σ6 h6 => ?_⟩⟩
        · obtain ⟨rfl, rfl⟩ := h6
          refine ⟨?_, hX5⟩
          have c0 : nI j = 0 ↔ j = 0 := nIe _ 0 rfl rfl (by omega) (by omega)
          rw [c0] at w0
          have hj3 : j = 1 ∨ j = 2 := by omega
          show _ = if _ then _ else _
          rcases hj3 with rfl | rfl
          · rw [if_neg (by decide), if_pos (by decide)]; exact g2
          · rw [if_neg (by decide), if_neg (by decide)]; exact g3
        · obtain ⟨rfl, rfl⟩ := h6
          refine ⟨?_, hX5⟩
          show _ = if _ then _ else _
          rw [if_pos (Classical.byContradiction w0)]
      · rw [xif_f (fun q => x q.2.2)]
        exact ⟨rfl, hX⟩
    · rw [xif_f (fun q => y q.2.1)]
      exact ⟨rfl, hX⟩
  · rw [xif_f (fun q => z q.1)]
    exact ⟨rfl, hX⟩
theorem mX6_ahead (g : gtX6_ahead) : px_Met dM yX6_ahead (Cond.code yX6_ahead cX6_ahead 4 (some .int) :: wdM) rmX6_ahead px_vI (prX6_ahead g) (poX6_ahead g) :=
  px_met (Z := (cX6_ahead, 4, RX6, Cond.code yX6_ahead cX6_ahead 4 (some .int) :: wdM, (some .int), rmX6_ahead, dM)) opX6_ahead (by decide) rfl rfl okX6_ahead (fun As σ h => by obtain ⟨v1, v2, v3, rfl, h⟩ := h; exact Nat.le_of_ble_eq_true rfl) (fun As σ h G hG => by obtain ⟨v1, v2, v3, rfl, h⟩ := h; exact hhX6_ahead g v1 v2 v3 σ h G hG)
