abbrev gtX6_luck : Type := pv_X
def qrX6_luck (X : pv_X) (_ _ _ _ _ : Int32) (σ : px_St) : Prop := mo_is σ X ∧ xo X
def qoX6_luck (X : pv_X) (v p s n w : Int32) (_ : px_St) (r : Int64) (σ' : px_St) : Prop := r = (x_luck X v p s n w).1 ∧ mo_is σ' (x_luck X v p s n w).2
def prX6_luck (g : gtX6_luck) : List Value → px_St → Prop := fun As σ => ∃ v1 : Int32, ∃ v2 : Int32, ∃ v3 : Int32, ∃ v4 : Int32, ∃ v5 : Int32, As = [.ref 0, .int v1, .int v2, .int v3, .int v4, .int v5] ∧ qrX6_luck g v1 v2 v3 v4 v5 σ
def poX6_luck (g : gtX6_luck) : List Value → px_St → Int64 → px_St → Prop
  | [.ref _, .int v1, .int v2, .int v3, .int v4, .int v5], σ, r, σ' => qoX6_luck g v1 v2 v3 v4 v5 σ r σ'
  | _, _, _, _ => False
theorem dX6_luck_0 : decode cX6_luck 0 = .ok (.iload_n 1, 1) := by decide +kernel
theorem dX6_luck_1 : decode cX6_luck 1 = .ok (.i2l, 1) := by decide +kernel
theorem dX6_luck_2 : decode cX6_luck 2 = .ok (.lconst 0, 1) := by decide +kernel
theorem dX6_luck_3 : decode cX6_luck 3 = .ok (.ldc2_w 168, 3) := by decide +kernel
theorem dX6_luck_6 : decode cX6_luck 6 = .ok (.invokestatic 56, 3) := by decide +kernel
theorem dX6_luck_9 : decode cX6_luck 9 = .ok (.ifCond .eq 39, 3) := by decide +kernel
theorem dX6_luck_12 : decode cX6_luck 12 = .ok (.aload_n 0, 1) := by decide +kernel
theorem dX6_luck_13 : decode cX6_luck 13 = .ok (.iload_n 2, 1) := by decide +kernel
theorem dX6_luck_14 : decode cX6_luck 14 = .ok (.invokevirtual 126, 3) := by decide +kernel
theorem dX6_luck_17 : decode cX6_luck 17 = .ok (.ifCond .eq 31, 3) := by decide +kernel
theorem dX6_luck_20 : decode cX6_luck 20 = .ok (.iload_n 3, 1) := by decide +kernel
theorem dX6_luck_21 : decode cX6_luck 21 = .ok (.invokestatic 175, 3) := by decide +kernel
theorem dX6_luck_24 : decode cX6_luck 24 = .ok (.ifCond .eq 24, 3) := by decide +kernel
theorem dX6_luck_27 : decode cX6_luck 27 = .ok (.iload 4, 2) := by decide +kernel
theorem dX6_luck_29 : decode cX6_luck 29 = .ok (.i2l, 1) := by decide +kernel
theorem dX6_luck_30 : decode cX6_luck 30 = .ok (.lconst 0, 1) := by decide +kernel
theorem dX6_luck_31 : decode cX6_luck 31 = .ok (.ldc2_w 252, 3) := by decide +kernel
theorem dX6_luck_34 : decode cX6_luck 34 = .ok (.invokestatic 56, 3) := by decide +kernel
theorem dX6_luck_37 : decode cX6_luck 37 = .ok (.ifCond .eq 11, 3) := by decide +kernel
theorem dX6_luck_40 : decode cX6_luck 40 = .ok (.iload 5, 2) := by decide +kernel
theorem dX6_luck_42 : decode cX6_luck 42 = .ok (.invokestatic 219, 3) := by decide +kernel
theorem dX6_luck_45 : decode cX6_luck 45 = .ok (.ifCond .ne 7, 3) := by decide +kernel
theorem dX6_luck_48 : decode cX6_luck 48 = .ok (.ldc2_w 254, 3) := by decide +kernel
theorem dX6_luck_51 : decode cX6_luck 51 = .ok (.lreturn, 1) := by decide +kernel
theorem dX6_luck_52 : decode cX6_luck 52 = .ok (.aload_n 0, 1) := by decide +kernel
theorem dX6_luck_53 : decode cX6_luck 53 = .ok (.iload_n 1, 1) := by decide +kernel
theorem dX6_luck_54 : decode cX6_luck 54 = .ok (.iload_n 2, 1) := by decide +kernel
theorem dX6_luck_55 : decode cX6_luck 55 = .ok (.iload_n 3, 1) := by decide +kernel
theorem dX6_luck_56 : decode cX6_luck 56 = .ok (.iload 4, 2) := by decide +kernel
theorem dX6_luck_58 : decode cX6_luck 58 = .ok (.invokevirtual 256, 3) := by decide +kernel
theorem dX6_luck_61 : decode cX6_luck 61 = .ok (.aload_n 0, 1) := by decide +kernel
theorem dX6_luck_62 : decode cX6_luck 62 = .ok (.getfield 242, 3) := by decide +kernel
theorem dX6_luck_65 : decode cX6_luck 65 = .ok (.aload_n 0, 1) := by decide +kernel
theorem dX6_luck_66 : decode cX6_luck 66 = .ok (.getfield 249, 3) := by decide +kernel
theorem dX6_luck_69 : decode cX6_luck 69 = .ok (.iload 5, 2) := by decide +kernel
theorem dX6_luck_71 : decode cX6_luck 71 = .ok (.invokestatic 260, 3) := by decide +kernel
theorem dX6_luck_74 : decode cX6_luck 74 = .ok (.lreturn, 1) := by decide +kernel
abbrev rmX6_luck : Room := { frames := 5, cells := 0, slots := 0, locals := 122 }
def opX6_luck (po : Int64 → px_St → Prop) : List (Nat × px_Op) := [
  (0, px_il 1 1),
  (1, px_i2l 2),
  (2, px_push 3 (.long 0)),
  (3, px_push 6 (.long 10)),
  (6, px_callS 9 3 px_vI prX6_in poX6_in),
  (9, px_if 12 48 (fun x => x = 0)),
  (12, px_al 13 0),
  (13, px_il 14 2),
  (14, px_callV dM 17 6 1 px_vI prX6_isParrot poX6_isParrot),
  (17, px_if 20 48 (fun x => x = 0)),
  (20, px_il 21 3),
  (21, px_callS 24 1 px_vI prX6_isSound poX6_isSound),
  (24, px_if 27 48 (fun x => x = 0)),
  (27, px_il 29 4),
  (29, px_i2l 30),
  (30, px_push 31 (.long 0)),
  (31, px_push 34 (.long 8)),
  (34, px_callS 37 3 px_vI prX6_in poX6_in),
  (37, px_if 40 48 (fun x => x = 0)),
  (40, px_il 42 5),
  (42, px_callS 45 1 px_vI prX6_isPart poX6_isPart),
  (45, px_if 48 52 (fun x => ¬ x = 0)),
  (48, px_push 51 (.long (-1))),
  (51, px_lret po),
  (52, px_al 53 0),
  (53, px_il 54 1),
  (54, px_il 55 2),
  (55, px_il 56 3),
  (56, px_il 58 4),
  (58, px_callV dM 61 6 4 px_vV prX6_findOdds poX6_findOdds),
  (61, px_al 62 0),
  (62, px_get dM 65 6 15),
  (65, px_al 66 0),
  (66, px_get dM 69 6 17),
  (69, px_il 71 5),
  (71, px_callS 74 3 px_vL prX6_lowest poX6_lowest),
  (74, px_lret po)]
set_option maxRecDepth 100000 in
set_option maxHeartbeats 4000000 in
theorem okX6_luck : ∀ (po : Int64 → px_St → Prop) (i pc : Nat) (op : px_Op), (opX6_luck po)[i]? = some (pc, op) → px_Snd (cX6_luck, 6, RX6, Cond.code yX6_luck cX6_luck 6 (some .long) :: wdM, (some .long), rmX6_luck, dM) px_vL po pc op := by
  intro po
  unfold opX6_luck
  refine px_ok_cons (ps_iload_n dX6_luck_0 rfl) ?_
  refine px_ok_cons (ps_i2l dX6_luck_1) ?_
  refine px_ok_cons (ps_lconst dX6_luck_2 (by decide)) ?_
  refine px_ok_cons (ps_ldc2 (List.mem_cons_of_mem _ (wdM_3_in _ (List.mem_of_getElem? (i := 23) rfl))) dX6_luck_3) ?_
  refine px_ok_cons (ps_callS mX6_in (fun _ _ => rfl) (fun _ _ ht => px_cwS wgM (wdM_0_in _ (List.mem_of_getElem? (i := 32) rfl)) (wdM_0_in _ (List.mem_of_getElem? (i := 33) rfl)) (wdM_0_in _ (List.mem_of_getElem? (i := 22) rfl)) (wdM_0_in _ (List.mem_of_getElem? (i := 27) rfl)) (by decide +kernel) rfl rfl (by decide) ht) dX6_luck_6) ?_
  refine px_ok_cons (ps_if_eq dX6_luck_9 (by decide)) ?_
  refine px_ok_cons (ps_aload_n dX6_luck_12 rfl) ?_
  refine px_ok_cons (ps_iload_n dX6_luck_13 rfl) ?_
  refine px_ok_cons (ps_callV mX6_isParrot (fun _ _ => rfl) (C := RX6) rfl (fun _ _ ht => px_cwV wgM (wdM_2_in _ (List.mem_of_getElem? (i := 7) rfl)) (wdM_2_in _ (List.mem_of_getElem? (i := 8) rfl)) (wdM_2_in _ (List.mem_of_getElem? (i := 9) rfl)) (wdM_0_in _ (List.mem_of_getElem? (i := 22) rfl)) (wdM_2_in _ (List.mem_of_getElem? (i := 3) rfl)) (by decide +kernel) rfl rfl (by decide) ht) dX6_luck_14) ?_
  refine px_ok_cons (ps_if_eq dX6_luck_17 (by decide)) ?_
  refine px_ok_cons (ps_iload_n dX6_luck_20 rfl) ?_
  refine px_ok_cons (ps_callS mX6_isSound (fun _ _ => rfl) (fun _ _ ht => px_cwS wgM (wdM_3_in _ (List.mem_of_getElem? (i := 29) rfl)) (wdM_3_in _ (List.mem_of_getElem? (i := 30) rfl)) (wdM_0_in _ (List.mem_of_getElem? (i := 22) rfl)) (wdM_2_in _ (List.mem_of_getElem? (i := 4) rfl)) (by decide +kernel) rfl rfl (by decide) ht) dX6_luck_21) ?_
  refine px_ok_cons (ps_if_eq dX6_luck_24 (by decide)) ?_
  refine px_ok_cons (ps_iload dX6_luck_27) ?_
  refine px_ok_cons (ps_i2l dX6_luck_29) ?_
  refine px_ok_cons (ps_lconst dX6_luck_30 (by decide)) ?_
  refine px_ok_cons (ps_ldc2 (List.mem_cons_of_mem _ (wdM_5_in _ (List.mem_of_getElem? (i := 32) rfl))) dX6_luck_31) ?_
  refine px_ok_cons (ps_callS mX6_in (fun _ _ => rfl) (fun _ _ ht => px_cwS wgM (wdM_0_in _ (List.mem_of_getElem? (i := 32) rfl)) (wdM_0_in _ (List.mem_of_getElem? (i := 33) rfl)) (wdM_0_in _ (List.mem_of_getElem? (i := 22) rfl)) (wdM_0_in _ (List.mem_of_getElem? (i := 27) rfl)) (by decide +kernel) rfl rfl (by decide) ht) dX6_luck_34) ?_
  refine px_ok_cons (ps_if_eq dX6_luck_37 (by decide)) ?_
  refine px_ok_cons (ps_iload dX6_luck_40) ?_
  refine px_ok_cons (ps_callS mX6_isPart (fun _ _ => rfl) (fun _ _ ht => px_cwS wgM (wdM_4_in _ (List.mem_of_getElem? (i := 39) rfl)) (wdM_5_in _ (List.mem_of_getElem? (i := 0) rfl)) (wdM_0_in _ (List.mem_of_getElem? (i := 22) rfl)) (wdM_2_in _ (List.mem_of_getElem? (i := 10) rfl)) (by decide +kernel) rfl rfl (by decide) ht) dX6_luck_42) ?_
  refine px_ok_cons (ps_if_ne dX6_luck_45 (by decide)) ?_
  refine px_ok_cons (ps_ldc2 (List.mem_cons_of_mem _ (wdM_5_in _ (List.mem_of_getElem? (i := 33) rfl))) dX6_luck_48) ?_
  refine px_ok_cons (ps_lreturn rfl dX6_luck_51) ?_
  refine px_ok_cons (ps_aload_n dX6_luck_52 rfl) ?_
  refine px_ok_cons (ps_iload_n dX6_luck_53 rfl) ?_
  refine px_ok_cons (ps_iload_n dX6_luck_54 rfl) ?_
  refine px_ok_cons (ps_iload_n dX6_luck_55 rfl) ?_
  refine px_ok_cons (ps_iload dX6_luck_56) ?_
  refine px_ok_cons (ps_callV mX6_findOdds (fun _ _ => rfl) (C := RX6) rfl (fun _ _ ht => px_cwV wgM (wdM_5_in _ (List.mem_of_getElem? (i := 34) rfl)) (wdM_5_in _ (List.mem_of_getElem? (i := 35) rfl)) (wdM_5_in _ (List.mem_of_getElem? (i := 36) rfl)) (wdM_0_in _ (List.mem_of_getElem? (i := 22) rfl)) (wdM_5_in _ (List.mem_of_getElem? (i := 31) rfl)) (by decide +kernel) rfl rfl (by decide) ht) dX6_luck_58) ?_
  refine px_ok_cons (ps_aload_n dX6_luck_61 rfl) ?_
  refine px_ok_cons (fgX6_242 dX6_luck_62) ?_
  refine px_ok_cons (ps_aload_n dX6_luck_65 rfl) ?_
  refine px_ok_cons (fgX6_249 dX6_luck_66) ?_
  refine px_ok_cons (ps_iload dX6_luck_69) ?_
  refine px_ok_cons (ps_callS mX6_lowest (fun _ _ => rfl) (fun _ _ ht => px_cwS wgM (wdM_5_in _ (List.mem_of_getElem? (i := 37) rfl)) (wdM_5_in _ (List.mem_of_getElem? (i := 38) rfl)) (wdM_0_in _ (List.mem_of_getElem? (i := 22) rfl)) (wdM_5_in _ (List.mem_of_getElem? (i := 25) rfl)) (by decide +kernel) rfl rfl (by decide) ht) dX6_luck_71) ?_
  refine px_ok_cons (ps_lreturn rfl dX6_luck_74) ?_
  exact px_ok_nil
set_option maxRecDepth 100000 in
set_option maxHeartbeats 4000000 in
theorem sgX6_luck_0 {po : Int64 → px_St → Prop} {G : px_K} (hG : px_cl (opX6_luck po) G) (v1 : Int32) (v2 : Int32) (v3 : Int32) (v4 : Int32) (v5 : Int32) (σ : px_St)
    (H : ∃ g3 : gtX6_in, qrX6_in g3 v1.toInt64 (0 : Int64) (10 : Int64) σ ∧ ∀ (r1 : Int32) (σ2 : px_St), qoX6_in g3 v1.toInt64 (0 : Int64) (10 : Int64) σ r1 σ2 → ((r1 = 0) → po (-1 : Int64) σ2) ∧ (¬ (r1 = 0) → ∃ g7 : gtX6_isParrot, qrX6_isParrot g7 v2 σ2 ∧ ∀ (r5 : Int32) (σ6 : px_St), qoX6_isParrot g7 v2 σ2 r5 σ6 → ((r5 = 0) → po (-1 : Int64) σ6) ∧ (¬ (r5 = 0) → ∃ g11 : gtX6_isSound, qrX6_isSound g11 v3 σ6 ∧ ∀ (r9 : Int32) (σ10 : px_St), qoX6_isSound g11 v3 σ6 r9 σ10 → ((r9 = 0) → po (-1 : Int64) σ10) ∧ (¬ (r9 = 0) → ∃ g15 : gtX6_in, qrX6_in g15 v4.toInt64 (0 : Int64) (8 : Int64) σ10 ∧ ∀ (r13 : Int32) (σ14 : px_St), qoX6_in g15 v4.toInt64 (0 : Int64) (8 : Int64) σ10 r13 σ14 → ((r13 = 0) → po (-1 : Int64) σ14) ∧ (¬ (r13 = 0) → ∃ g19 : gtX6_isPart, qrX6_isPart g19 v5 σ14 ∧ ∀ (r17 : Int32) (σ18 : px_St), qoX6_isPart g19 v5 σ14 r17 σ18 → ((¬ r17 = 0) → ∃ g23 : gtX6_findOdds, qrX6_findOdds g23 v1 v2 v3 v4 σ18 ∧ ∀ (r21 : Unit) (σ22 : px_St), qoX6_findOdds g23 v1 v2 v3 v4 σ18 r21 σ22 → ∃ g27 : gtX6_lowest, qrX6_lowest g27 (σ22.2 0 15) (σ22.2 0 17) v5 σ22 ∧ ∀ (r25 : Int64) (σ26 : px_St), qoX6_lowest g27 (σ22.2 0 15) (σ22.2 0 17) v5 σ22 r25 σ26 → po r25 σ26) ∧ (¬ (¬ r17 = 0) → po (-1 : Int64) σ18)))))) :
    G 0 (px_ent 6 [.ref 0, .int v1, .int v2, .int v3, .int v4, .int v5]) [] σ := by
  refine hG.1 0 _ _ rfl _ _ _ ?_
  refine hG.1 1 _ _ rfl _ _ _ ?_
  refine hG.1 2 _ _ rfl _ _ _ ?_
  refine hG.1 3 _ _ rfl _ _ _ ?_
  refine hG.1 4 _ _ rfl _ _ _ ?_
  obtain ⟨g3, H⟩ := H
  refine ⟨Nat.le_of_ble_eq_true rfl, Nat.le_of_ble_eq_true rfl, g3, ⟨_, _, _, rfl, H.1⟩, fun r1 σ2 hp4 => ?_⟩
  replace H := H.2 r1 σ2 hp4
  refine hG.1 5 _ _ rfl _ _ _ ?_
  refine ⟨fun h33 => ?_, fun h33 => ?_⟩
  · replace H := H.1 h33
    refine hG.1 22 _ _ rfl _ _ _ ?_
    refine hG.1 23 _ _ rfl _ _ _ ?_
    exact H
  · replace H := H.2 h33
    refine hG.1 6 _ _ rfl _ _ _ ?_
    refine hG.1 7 _ _ rfl _ _ _ ?_
    refine hG.1 8 _ _ rfl _ _ _ ?_
    obtain ⟨g7, H⟩ := H
    refine ⟨⟨rfl, by decide⟩, Nat.le_of_ble_eq_true rfl, g7, ⟨_, rfl, H.1⟩, fun r5 σ6 hp8 => ?_⟩
    replace H := H.2 r5 σ6 hp8
    refine hG.1 9 _ _ rfl _ _ _ ?_
    refine ⟨fun h32 => ?_, fun h32 => ?_⟩
    · replace H := H.1 h32
      refine hG.1 22 _ _ rfl _ _ _ ?_
      refine hG.1 23 _ _ rfl _ _ _ ?_
      exact H
    · replace H := H.2 h32
      refine hG.1 10 _ _ rfl _ _ _ ?_
      refine hG.1 11 _ _ rfl _ _ _ ?_
      obtain ⟨g11, H⟩ := H
      refine ⟨Nat.le_of_ble_eq_true rfl, Nat.le_of_ble_eq_true rfl, g11, ⟨_, rfl, H.1⟩, fun r9 σ10 hp12 => ?_⟩
      replace H := H.2 r9 σ10 hp12
      refine hG.1 12 _ _ rfl _ _ _ ?_
      refine ⟨fun h31 => ?_, fun h31 => ?_⟩
      · replace H := H.1 h31
        refine hG.1 22 _ _ rfl _ _ _ ?_
        refine hG.1 23 _ _ rfl _ _ _ ?_
        exact H
      · replace H := H.2 h31
        refine hG.1 13 _ _ rfl _ _ _ ?_
        refine hG.1 14 _ _ rfl _ _ _ ?_
        refine hG.1 15 _ _ rfl _ _ _ ?_
        refine hG.1 16 _ _ rfl _ _ _ ?_
        refine hG.1 17 _ _ rfl _ _ _ ?_
        obtain ⟨g15, H⟩ := H
        refine ⟨Nat.le_of_ble_eq_true rfl, Nat.le_of_ble_eq_true rfl, g15, ⟨_, _, _, rfl, H.1⟩, fun r13 σ14 hp16 => ?_⟩
        replace H := H.2 r13 σ14 hp16
        refine hG.1 18 _ _ rfl _ _ _ ?_
        refine ⟨fun h30 => ?_, fun h30 => ?_⟩
        · replace H := H.1 h30
          refine hG.1 22 _ _ rfl _ _ _ ?_
          refine hG.1 23 _ _ rfl _ _ _ ?_
          exact H
        · replace H := H.2 h30
          refine hG.1 19 _ _ rfl _ _ _ ?_
          refine hG.1 20 _ _ rfl _ _ _ ?_
          obtain ⟨g19, H⟩ := H
          refine ⟨Nat.le_of_ble_eq_true rfl, Nat.le_of_ble_eq_true rfl, g19, ⟨_, rfl, H.1⟩, fun r17 σ18 hp20 => ?_⟩
          replace H := H.2 r17 σ18 hp20
          refine hG.1 21 _ _ rfl _ _ _ ?_
          refine ⟨fun h29 => ?_, fun h29 => ?_⟩
          · replace H := H.1 h29
            refine hG.1 24 _ _ rfl _ _ _ ?_
            refine hG.1 25 _ _ rfl _ _ _ ?_
            refine hG.1 26 _ _ rfl _ _ _ ?_
            refine hG.1 27 _ _ rfl _ _ _ ?_
            refine hG.1 28 _ _ rfl _ _ _ ?_
            refine hG.1 29 _ _ rfl _ _ _ ?_
            obtain ⟨g23, H⟩ := H
            refine ⟨⟨rfl, by decide⟩, Nat.le_of_ble_eq_true rfl, g23, ⟨_, _, _, _, rfl, H.1⟩, fun r21 σ22 hp24 => ?_⟩
            replace H := H.2 r21 σ22 hp24
            refine hG.1 30 _ _ rfl _ _ _ ?_
            refine hG.1 31 _ _ rfl _ _ _ ?_
            refine ⟨⟨rfl, by decide⟩, ?_⟩
            refine hG.1 32 _ _ rfl _ _ _ ?_
            refine hG.1 33 _ _ rfl _ _ _ ?_
            refine ⟨⟨rfl, by decide⟩, ?_⟩
            refine hG.1 34 _ _ rfl _ _ _ ?_
            refine hG.1 35 _ _ rfl _ _ _ ?_
            obtain ⟨g27, H⟩ := H
            refine ⟨Nat.le_of_ble_eq_true rfl, Nat.le_of_ble_eq_true rfl, g27, ⟨_, _, _, rfl, H.1⟩, fun r25 σ26 hp28 => ?_⟩
            replace H := H.2 r25 σ26 hp28
            refine hG.1 36 _ _ rfl _ _ _ ?_
            exact H
          · replace H := H.2 h29
            refine hG.1 22 _ _ rfl _ _ _ ?_
            refine hG.1 23 _ _ rfl _ _ _ ?_
            exact H
set_option maxRecDepth 100000 in
set_option maxHeartbeats 4000000 in
theorem hhX6_luck (g : gtX6_luck) (v1 : Int32) (v2 : Int32) (v3 : Int32) (v4 : Int32) (v5 : Int32) (σ : px_St) (h : qrX6_luck g v1 v2 v3 v4 v5 σ) (G : px_K) (hG : px_cl (opX6_luck (qoX6_luck g v1 v2 v3 v4 v5 σ)) G) : G 0 (px_ent 6 [.ref 0, .int v1, .int v2, .int v3, .int v4, .int v5]) [] σ := by
  obtain ⟨hX, hok⟩ := h
  have hd := hok.1.2
  have hvk := hok.1.1
  have h5 := hvk.1.1
  refine sgX6_luck_0 hG _ _ _ _ _ σ ⟨(), trivial, fun r0 σ0 h0 => ?_⟩
  obtain ⟨rfl, b0⟩ := h0
  unfold qoX6_luck x_luck
  refine bz2 (in_c (a := 0) (b := 10) (by decide) (by decide) b0) (fun zv => ⟨g.1, hX.1, fun r1 σ1 h1 => ?_⟩) (fun zv => ?_)
  · obtain ⟨rfl, b1⟩ := h1
    refine bz2 b1 (fun zp => ⟨(), trivial, fun r2 σ2 h2 => ?_⟩) (fun zp => ?_)
    · obtain ⟨rfl, b2⟩ := h2
      refine bz2 b2 (fun zs => ⟨(), trivial, fun r3 σ3 h3 => ?_⟩) (fun zs => ?_)
      · obtain ⟨rfl, b3⟩ := h3
        refine bz2 (in_c (a := 0) (b := 8) (by decide) (by decide) b3) (fun zn => ⟨(), trivial, fun r4 σ4 h4 => ?_⟩) (fun zn => ?_)
        · obtain ⟨rfl, b4⟩ := h4
          refine bz1 b4 (fun zw => ?_) (fun zw => ?_)
          · rw [xif_t ⟨zp, zv, zs, zn, zw⟩]
            obtain ⟨p, hp, rfl⟩ := (rng1 (by omega)).mp zp
            obtain ⟨v, hv, rfl⟩ := (rngc 10 10 rfl (by omega)).mp zv
            obtain ⟨s, hs, rfl⟩ := (rngc 9 9 rfl (by omega)).mp zs
            obtain ⟨n, hn, rfl⟩ := (rngc 8 8 rfl (by omega)).mp zn
            have h10 : 10 ^ n ≤ 10 ^ 8 := Nat.pow_le_pow_right (by omega) hn
            have h10p : 0 < 10 ^ n := Nat.pow_pos (by omega)
            rw [nI_clamp (show v < 2 ^ 31 by omega), nI_clamp (show s < 2 ^ 31 by omega), nI_clamp (show n < 2 ^ 31 by omega), nI_clamp (show p < 2 ^ 31 by omega)]
            refine ⟨(g.1, v, s, n, some p), ⟨hX.1, hvk, by omega, hv, hs, hn, rfl, rfl, rfl, fun e => (by cases e), fun q hq => (by cases hq; exact ⟨hp, rfl⟩)⟩, fun _ σ5 h5' => ?_⟩
            obtain ⟨o1, o2, o3, o4⟩ := h5'
            refine ⟨(pv_ws g.1 v s n (2 ^ p) (2 ^ n), 10 ^ n), ⟨pv_ws_lt hv hn, h10p, by omega, o2 p rfl, o4⟩, fun r6 σ6 h6 => ?_⟩
            obtain ⟨rfl, rfl⟩ := h6
            exact ⟨rfl, (mk.of2 o1).mo hX⟩
          · rw [xif_f (fun q => zw q.2.2.2.2)]
            exact ⟨rfl, hX⟩
        · rw [xif_f (fun q => zn q.2.2.2.1)]
          exact ⟨rfl, hX⟩
      · rw [xif_f (fun q => zs q.2.2.1)]
        exact ⟨rfl, hX⟩
    · rw [xif_f (fun q => zp q.1)]
      exact ⟨rfl, hX⟩
  · rw [xif_f (fun q => zv q.2.1)]
    exact ⟨rfl, hX⟩
theorem mX6_luck (g : gtX6_luck) : px_Met dM yX6_luck (Cond.code yX6_luck cX6_luck 6 (some .long) :: wdM) rmX6_luck px_vL (prX6_luck g) (poX6_luck g) :=
  px_met (Z := (cX6_luck, 6, RX6, Cond.code yX6_luck cX6_luck 6 (some .long) :: wdM, (some .long), rmX6_luck, dM)) opX6_luck (by decide) rfl rfl okX6_luck (fun As σ h => by obtain ⟨v1, v2, v3, v4, v5, rfl, h⟩ := h; exact Nat.le_of_ble_eq_true rfl) (fun As σ h G hG => by obtain ⟨v1, v2, v3, v4, v5, rfl, h⟩ := h; exact hhX6_luck g v1 v2 v3 v4 v5 σ h G hG)
abbrev gtX6_mean : Type := pv_X
def qrX6_mean (X : pv_X) (_ _ _ _ : Int32) (σ : px_St) : Prop := mo_is σ X ∧ xo X
def qoX6_mean (X : pv_X) (v s n w : Int32) (_ : px_St) (r : Int64) (σ' : px_St) : Prop := r = (x_mean X v s n w).1 ∧ mo_is σ' (x_mean X v s n w).2
def prX6_mean (g : gtX6_mean) : List Value → px_St → Prop := fun As σ => ∃ v1 : Int32, ∃ v2 : Int32, ∃ v3 : Int32, ∃ v4 : Int32, As = [.ref 0, .int v1, .int v2, .int v3, .int v4] ∧ qrX6_mean g v1 v2 v3 v4 σ
def poX6_mean (g : gtX6_mean) : List Value → px_St → Int64 → px_St → Prop
  | [.ref _, .int v1, .int v2, .int v3, .int v4], σ, r, σ' => qoX6_mean g v1 v2 v3 v4 σ r σ'
  | _, _, _, _ => False
theorem dX6_mean_0 : decode cX6_mean 0 = .ok (.iload_n 1, 1) := by decide +kernel
theorem dX6_mean_1 : decode cX6_mean 1 = .ok (.i2l, 1) := by decide +kernel
theorem dX6_mean_2 : decode cX6_mean 2 = .ok (.lconst 0, 1) := by decide +kernel
theorem dX6_mean_3 : decode cX6_mean 3 = .ok (.ldc2_w 168, 3) := by decide +kernel
theorem dX6_mean_6 : decode cX6_mean 6 = .ok (.invokestatic 56, 3) := by decide +kernel
theorem dX6_mean_9 : decode cX6_mean 9 = .ok (.ifCond .eq 30, 3) := by decide +kernel
theorem dX6_mean_12 : decode cX6_mean 12 = .ok (.iload_n 2, 1) := by decide +kernel
theorem dX6_mean_13 : decode cX6_mean 13 = .ok (.invokestatic 175, 3) := by decide +kernel
theorem dX6_mean_16 : decode cX6_mean 16 = .ok (.ifCond .eq 23, 3) := by decide +kernel
theorem dX6_mean_19 : decode cX6_mean 19 = .ok (.iload_n 3, 1) := by decide +kernel
theorem dX6_mean_20 : decode cX6_mean 20 = .ok (.i2l, 1) := by decide +kernel
theorem dX6_mean_21 : decode cX6_mean 21 = .ok (.lconst 0, 1) := by decide +kernel
theorem dX6_mean_22 : decode cX6_mean 22 = .ok (.ldc2_w 252, 3) := by decide +kernel
theorem dX6_mean_25 : decode cX6_mean 25 = .ok (.invokestatic 56, 3) := by decide +kernel
theorem dX6_mean_28 : decode cX6_mean 28 = .ok (.ifCond .eq 11, 3) := by decide +kernel
theorem dX6_mean_31 : decode cX6_mean 31 = .ok (.iload 4, 2) := by decide +kernel
theorem dX6_mean_33 : decode cX6_mean 33 = .ok (.invokestatic 219, 3) := by decide +kernel
theorem dX6_mean_36 : decode cX6_mean 36 = .ok (.ifCond .ne 7, 3) := by decide +kernel
theorem dX6_mean_39 : decode cX6_mean 39 = .ok (.ldc2_w 254, 3) := by decide +kernel
theorem dX6_mean_42 : decode cX6_mean 42 = .ok (.lreturn, 1) := by decide +kernel
theorem dX6_mean_43 : decode cX6_mean 43 = .ok (.aload_n 0, 1) := by decide +kernel
theorem dX6_mean_44 : decode cX6_mean 44 = .ok (.iload_n 1, 1) := by decide +kernel
theorem dX6_mean_45 : decode cX6_mean 45 = .ok (.bipush (-4), 2) := by decide +kernel
theorem dX6_mean_47 : decode cX6_mean 47 = .ok (.iload_n 2, 1) := by decide +kernel
theorem dX6_mean_48 : decode cX6_mean 48 = .ok (.iload_n 3, 1) := by decide +kernel
theorem dX6_mean_49 : decode cX6_mean 49 = .ok (.invokevirtual 256, 3) := by decide +kernel
theorem dX6_mean_52 : decode cX6_mean 52 = .ok (.aload_n 0, 1) := by decide +kernel
theorem dX6_mean_53 : decode cX6_mean 53 = .ok (.getfield 246, 3) := by decide +kernel
theorem dX6_mean_56 : decode cX6_mean 56 = .ok (.aload_n 0, 1) := by decide +kernel
theorem dX6_mean_57 : decode cX6_mean 57 = .ok (.getfield 249, 3) := by decide +kernel
theorem dX6_mean_60 : decode cX6_mean 60 = .ok (.iload 4, 2) := by decide +kernel
theorem dX6_mean_62 : decode cX6_mean 62 = .ok (.invokestatic 260, 3) := by decide +kernel
theorem dX6_mean_65 : decode cX6_mean 65 = .ok (.lreturn, 1) := by decide +kernel
abbrev rmX6_mean : Room := { frames := 5, cells := 0, slots := 0, locals := 122 }
def opX6_mean (po : Int64 → px_St → Prop) : List (Nat × px_Op) := [
  (0, px_il 1 1),
  (1, px_i2l 2),
  (2, px_push 3 (.long 0)),
  (3, px_push 6 (.long 10)),
  (6, px_callS 9 3 px_vI prX6_in poX6_in),
  (9, px_if 12 39 (fun x => x = 0)),
  (12, px_il 13 2),
  (13, px_callS 16 1 px_vI prX6_isSound poX6_isSound),
  (16, px_if 19 39 (fun x => x = 0)),
  (19, px_il 20 3),
  (20, px_i2l 21),
  (21, px_push 22 (.long 0)),
  (22, px_push 25 (.long 8)),
  (25, px_callS 28 3 px_vI prX6_in poX6_in),
  (28, px_if 31 39 (fun x => x = 0)),
  (31, px_il 33 4),
  (33, px_callS 36 1 px_vI prX6_isPart poX6_isPart),
  (36, px_if 39 43 (fun x => ¬ x = 0)),
  (39, px_push 42 (.long (-1))),
  (42, px_lret po),
  (43, px_al 44 0),
  (44, px_il 45 1),
  (45, px_push 47 (.int (-4))),
  (47, px_il 48 2),
  (48, px_il 49 3),
  (49, px_callV dM 52 6 4 px_vV prX6_findOdds poX6_findOdds),
  (52, px_al 53 0),
  (53, px_get dM 56 6 16),
  (56, px_al 57 0),
  (57, px_get dM 60 6 17),
  (60, px_il 62 4),
  (62, px_callS 65 3 px_vL prX6_lowest poX6_lowest),
  (65, px_lret po)]
set_option maxRecDepth 100000 in
set_option maxHeartbeats 4000000 in
theorem okX6_mean : ∀ (po : Int64 → px_St → Prop) (i pc : Nat) (op : px_Op), (opX6_mean po)[i]? = some (pc, op) → px_Snd (cX6_mean, 5, RX6, Cond.code yX6_mean cX6_mean 5 (some .long) :: wdM, (some .long), rmX6_mean, dM) px_vL po pc op := by
  intro po
  unfold opX6_mean
  refine px_ok_cons (ps_iload_n dX6_mean_0 rfl) ?_
  refine px_ok_cons (ps_i2l dX6_mean_1) ?_
  refine px_ok_cons (ps_lconst dX6_mean_2 (by decide)) ?_
  refine px_ok_cons (ps_ldc2 (List.mem_cons_of_mem _ (wdM_3_in _ (List.mem_of_getElem? (i := 23) rfl))) dX6_mean_3) ?_
  refine px_ok_cons (ps_callS mX6_in (fun _ _ => rfl) (fun _ _ ht => px_cwS wgM (wdM_0_in _ (List.mem_of_getElem? (i := 32) rfl)) (wdM_0_in _ (List.mem_of_getElem? (i := 33) rfl)) (wdM_0_in _ (List.mem_of_getElem? (i := 22) rfl)) (wdM_0_in _ (List.mem_of_getElem? (i := 27) rfl)) (by decide +kernel) rfl rfl (by decide) ht) dX6_mean_6) ?_
  refine px_ok_cons (ps_if_eq dX6_mean_9 (by decide)) ?_
  refine px_ok_cons (ps_iload_n dX6_mean_12 rfl) ?_
  refine px_ok_cons (ps_callS mX6_isSound (fun _ _ => rfl) (fun _ _ ht => px_cwS wgM (wdM_3_in _ (List.mem_of_getElem? (i := 29) rfl)) (wdM_3_in _ (List.mem_of_getElem? (i := 30) rfl)) (wdM_0_in _ (List.mem_of_getElem? (i := 22) rfl)) (wdM_2_in _ (List.mem_of_getElem? (i := 4) rfl)) (by decide +kernel) rfl rfl (by decide) ht) dX6_mean_13) ?_
  refine px_ok_cons (ps_if_eq dX6_mean_16 (by decide)) ?_
  refine px_ok_cons (ps_iload_n dX6_mean_19 rfl) ?_
  refine px_ok_cons (ps_i2l dX6_mean_20) ?_
  refine px_ok_cons (ps_lconst dX6_mean_21 (by decide)) ?_
  refine px_ok_cons (ps_ldc2 (List.mem_cons_of_mem _ (wdM_5_in _ (List.mem_of_getElem? (i := 32) rfl))) dX6_mean_22) ?_
  refine px_ok_cons (ps_callS mX6_in (fun _ _ => rfl) (fun _ _ ht => px_cwS wgM (wdM_0_in _ (List.mem_of_getElem? (i := 32) rfl)) (wdM_0_in _ (List.mem_of_getElem? (i := 33) rfl)) (wdM_0_in _ (List.mem_of_getElem? (i := 22) rfl)) (wdM_0_in _ (List.mem_of_getElem? (i := 27) rfl)) (by decide +kernel) rfl rfl (by decide) ht) dX6_mean_25) ?_
  refine px_ok_cons (ps_if_eq dX6_mean_28 (by decide)) ?_
  refine px_ok_cons (ps_iload dX6_mean_31) ?_
  refine px_ok_cons (ps_callS mX6_isPart (fun _ _ => rfl) (fun _ _ ht => px_cwS wgM (wdM_4_in _ (List.mem_of_getElem? (i := 39) rfl)) (wdM_5_in _ (List.mem_of_getElem? (i := 0) rfl)) (wdM_0_in _ (List.mem_of_getElem? (i := 22) rfl)) (wdM_2_in _ (List.mem_of_getElem? (i := 10) rfl)) (by decide +kernel) rfl rfl (by decide) ht) dX6_mean_33) ?_
  refine px_ok_cons (ps_if_ne dX6_mean_36 (by decide)) ?_
  refine px_ok_cons (ps_ldc2 (List.mem_cons_of_mem _ (wdM_5_in _ (List.mem_of_getElem? (i := 33) rfl))) dX6_mean_39) ?_
  refine px_ok_cons (ps_lreturn rfl dX6_mean_42) ?_
  refine px_ok_cons (ps_aload_n dX6_mean_43 rfl) ?_
  refine px_ok_cons (ps_iload_n dX6_mean_44 rfl) ?_
  refine px_ok_cons (ps_bipush dX6_mean_45 (by decide)) ?_
  refine px_ok_cons (ps_iload_n dX6_mean_47 rfl) ?_
  refine px_ok_cons (ps_iload_n dX6_mean_48 rfl) ?_
  refine px_ok_cons (ps_callV mX6_findOdds (fun _ _ => rfl) (C := RX6) rfl (fun _ _ ht => px_cwV wgM (wdM_5_in _ (List.mem_of_getElem? (i := 34) rfl)) (wdM_5_in _ (List.mem_of_getElem? (i := 35) rfl)) (wdM_5_in _ (List.mem_of_getElem? (i := 36) rfl)) (wdM_0_in _ (List.mem_of_getElem? (i := 22) rfl)) (wdM_5_in _ (List.mem_of_getElem? (i := 31) rfl)) (by decide +kernel) rfl rfl (by decide) ht) dX6_mean_49) ?_
  refine px_ok_cons (ps_aload_n dX6_mean_52 rfl) ?_
  refine px_ok_cons (fgX6_246 dX6_mean_53) ?_
  refine px_ok_cons (ps_aload_n dX6_mean_56 rfl) ?_
  refine px_ok_cons (fgX6_249 dX6_mean_57) ?_
  refine px_ok_cons (ps_iload dX6_mean_60) ?_
  refine px_ok_cons (ps_callS mX6_lowest (fun _ _ => rfl) (fun _ _ ht => px_cwS wgM (wdM_5_in _ (List.mem_of_getElem? (i := 37) rfl)) (wdM_5_in _ (List.mem_of_getElem? (i := 38) rfl)) (wdM_0_in _ (List.mem_of_getElem? (i := 22) rfl)) (wdM_5_in _ (List.mem_of_getElem? (i := 25) rfl)) (by decide +kernel) rfl rfl (by decide) ht) dX6_mean_62) ?_
  refine px_ok_cons (ps_lreturn rfl dX6_mean_65) ?_
  exact px_ok_nil
set_option maxRecDepth 100000 in
set_option maxHeartbeats 4000000 in
theorem sgX6_mean_0 {po : Int64 → px_St → Prop} {G : px_K} (hG : px_cl (opX6_mean po) G) (v1 : Int32) (v2 : Int32) (v3 : Int32) (v4 : Int32) (σ : px_St)
    (H : ∃ g3 : gtX6_in, qrX6_in g3 v1.toInt64 (0 : Int64) (10 : Int64) σ ∧ ∀ (r1 : Int32) (σ2 : px_St), qoX6_in g3 v1.toInt64 (0 : Int64) (10 : Int64) σ r1 σ2 → ((r1 = 0) → po (-1 : Int64) σ2) ∧ (¬ (r1 = 0) → ∃ g7 : gtX6_isSound, qrX6_isSound g7 v2 σ2 ∧ ∀ (r5 : Int32) (σ6 : px_St), qoX6_isSound g7 v2 σ2 r5 σ6 → ((r5 = 0) → po (-1 : Int64) σ6) ∧ (¬ (r5 = 0) → ∃ g11 : gtX6_in, qrX6_in g11 v3.toInt64 (0 : Int64) (8 : Int64) σ6 ∧ ∀ (r9 : Int32) (σ10 : px_St), qoX6_in g11 v3.toInt64 (0 : Int64) (8 : Int64) σ6 r9 σ10 → ((r9 = 0) → po (-1 : Int64) σ10) ∧ (¬ (r9 = 0) → ∃ g15 : gtX6_isPart, qrX6_isPart g15 v4 σ10 ∧ ∀ (r13 : Int32) (σ14 : px_St), qoX6_isPart g15 v4 σ10 r13 σ14 → ((¬ r13 = 0) → ∃ g19 : gtX6_findOdds, qrX6_findOdds g19 v1 (-4 : Int32) v2 v3 σ14 ∧ ∀ (r17 : Unit) (σ18 : px_St), qoX6_findOdds g19 v1 (-4 : Int32) v2 v3 σ14 r17 σ18 → ∃ g23 : gtX6_lowest, qrX6_lowest g23 (σ18.2 0 16) (σ18.2 0 17) v4 σ18 ∧ ∀ (r21 : Int64) (σ22 : px_St), qoX6_lowest g23 (σ18.2 0 16) (σ18.2 0 17) v4 σ18 r21 σ22 → po r21 σ22) ∧ (¬ (¬ r13 = 0) → po (-1 : Int64) σ14))))) :
    G 0 (px_ent 5 [.ref 0, .int v1, .int v2, .int v3, .int v4]) [] σ := by
  refine hG.1 0 _ _ rfl _ _ _ ?_
  refine hG.1 1 _ _ rfl _ _ _ ?_
  refine hG.1 2 _ _ rfl _ _ _ ?_
  refine hG.1 3 _ _ rfl _ _ _ ?_
  refine hG.1 4 _ _ rfl _ _ _ ?_
  obtain ⟨g3, H⟩ := H
  refine ⟨Nat.le_of_ble_eq_true rfl, Nat.le_of_ble_eq_true rfl, g3, ⟨_, _, _, rfl, H.1⟩, fun r1 σ2 hp4 => ?_⟩
  replace H := H.2 r1 σ2 hp4
  refine hG.1 5 _ _ rfl _ _ _ ?_
  refine ⟨fun h28 => ?_, fun h28 => ?_⟩
  · replace H := H.1 h28
    refine hG.1 18 _ _ rfl _ _ _ ?_
    refine hG.1 19 _ _ rfl _ _ _ ?_
    exact H
  · replace H := H.2 h28
    refine hG.1 6 _ _ rfl _ _ _ ?_
    refine hG.1 7 _ _ rfl _ _ _ ?_
    obtain ⟨g7, H⟩ := H
    refine ⟨Nat.le_of_ble_eq_true rfl, Nat.le_of_ble_eq_true rfl, g7, ⟨_, rfl, H.1⟩, fun r5 σ6 hp8 => ?_⟩
    replace H := H.2 r5 σ6 hp8
    refine hG.1 8 _ _ rfl _ _ _ ?_
    refine ⟨fun h27 => ?_, fun h27 => ?_⟩
    · replace H := H.1 h27
      refine hG.1 18 _ _ rfl _ _ _ ?_
      refine hG.1 19 _ _ rfl _ _ _ ?_
      exact H
    · replace H := H.2 h27
      refine hG.1 9 _ _ rfl _ _ _ ?_
      refine hG.1 10 _ _ rfl _ _ _ ?_
      refine hG.1 11 _ _ rfl _ _ _ ?_
      refine hG.1 12 _ _ rfl _ _ _ ?_
      refine hG.1 13 _ _ rfl _ _ _ ?_
      obtain ⟨g11, H⟩ := H
      refine ⟨Nat.le_of_ble_eq_true rfl, Nat.le_of_ble_eq_true rfl, g11, ⟨_, _, _, rfl, H.1⟩, fun r9 σ10 hp12 => ?_⟩
      replace H := H.2 r9 σ10 hp12
      refine hG.1 14 _ _ rfl _ _ _ ?_
      refine ⟨fun h26 => ?_, fun h26 => ?_⟩
      · replace H := H.1 h26
        refine hG.1 18 _ _ rfl _ _ _ ?_
        refine hG.1 19 _ _ rfl _ _ _ ?_
        exact H
      · replace H := H.2 h26
        refine hG.1 15 _ _ rfl _ _ _ ?_
        refine hG.1 16 _ _ rfl _ _ _ ?_
        obtain ⟨g15, H⟩ := H
        refine ⟨Nat.le_of_ble_eq_true rfl, Nat.le_of_ble_eq_true rfl, g15, ⟨_, rfl, H.1⟩, fun r13 σ14 hp16 => ?_⟩
        replace H := H.2 r13 σ14 hp16
        refine hG.1 17 _ _ rfl _ _ _ ?_
        refine ⟨fun h25 => ?_, fun h25 => ?_⟩
        · replace H := H.1 h25
          refine hG.1 20 _ _ rfl _ _ _ ?_
          refine hG.1 21 _ _ rfl _ _ _ ?_
          refine hG.1 22 _ _ rfl _ _ _ ?_
          refine hG.1 23 _ _ rfl _ _ _ ?_
          refine hG.1 24 _ _ rfl _ _ _ ?_
          refine hG.1 25 _ _ rfl _ _ _ ?_
          obtain ⟨g19, H⟩ := H
          refine ⟨⟨rfl, by decide⟩, Nat.le_of_ble_eq_true rfl, g19, ⟨_, _, _, _, rfl, H.1⟩, fun r17 σ18 hp20 => ?_⟩
          replace H := H.2 r17 σ18 hp20
          refine hG.1 26 _ _ rfl _ _ _ ?_
          refine hG.1 27 _ _ rfl _ _ _ ?_
          refine ⟨⟨rfl, by decide⟩, ?_⟩
          refine hG.1 28 _ _ rfl _ _ _ ?_
          refine hG.1 29 _ _ rfl _ _ _ ?_
          refine ⟨⟨rfl, by decide⟩, ?_⟩
          refine hG.1 30 _ _ rfl _ _ _ ?_
          refine hG.1 31 _ _ rfl _ _ _ ?_
          obtain ⟨g23, H⟩ := H
          refine ⟨Nat.le_of_ble_eq_true rfl, Nat.le_of_ble_eq_true rfl, g23, ⟨_, _, _, rfl, H.1⟩, fun r21 σ22 hp24 => ?_⟩
          replace H := H.2 r21 σ22 hp24
          refine hG.1 32 _ _ rfl _ _ _ ?_
          exact H
        · replace H := H.2 h25
          refine hG.1 18 _ _ rfl _ _ _ ?_
          refine hG.1 19 _ _ rfl _ _ _ ?_
          exact H
set_option maxRecDepth 100000 in
set_option maxHeartbeats 4000000 in
theorem hhX6_mean (g : gtX6_mean) (v1 : Int32) (v2 : Int32) (v3 : Int32) (v4 : Int32) (σ : px_St) (h : qrX6_mean g v1 v2 v3 v4 σ) (G : px_K) (hG : px_cl (opX6_mean (qoX6_mean g v1 v2 v3 v4 σ)) G) : G 0 (px_ent 5 [.ref 0, .int v1, .int v2, .int v3, .int v4]) [] σ := by
  obtain ⟨hX, hok⟩ := h
  have hd := hok.1.2
  have hvk := hok.1.1
  have h5 := hvk.1.1
  refine sgX6_mean_0 hG _ _ _ _ σ ⟨(), trivial, fun r0 σ0 h0 => ?_⟩
  obtain ⟨rfl, b0⟩ := h0
  unfold qoX6_mean x_mean
  refine bz2 (in_c (a := 0) (b := 10) (by decide) (by decide) b0) (fun zv => ⟨(), trivial, fun r2 σ2 h2 => ?_⟩) (fun zv => ?_)
  · obtain ⟨rfl, b2⟩ := h2
    refine bz2 b2 (fun zs => ⟨(), trivial, fun r3 σ3 h3 => ?_⟩) (fun zs => ?_)
    · obtain ⟨rfl, b3⟩ := h3
      refine bz2 (in_c (a := 0) (b := 8) (by decide) (by decide) b3) (fun zn => ⟨(), trivial, fun r4 σ4 h4 => ?_⟩) (fun zn => ?_)
      · obtain ⟨rfl, b4⟩ := h4
        refine bz1 b4 (fun zw => ?_) (fun zw => ?_)
        · rw [xif_t ⟨zv, zs, zn, zw⟩]
          obtain ⟨v, hv, rfl⟩ := (rngc 10 10 rfl (by omega)).mp zv
          obtain ⟨s, hs, rfl⟩ := (rngc 9 9 rfl (by omega)).mp zs
          obtain ⟨n, hn, rfl⟩ := (rngc 8 8 rfl (by omega)).mp zn
          have h10 : 10 ^ n ≤ 10 ^ 8 := Nat.pow_le_pow_right (by omega) hn
          have h10p : 0 < 10 ^ n := Nat.pow_pos (by omega)
          rw [nI_clamp (show v < 2 ^ 31 by omega), nI_clamp (show s < 2 ^ 31 by omega), nI_clamp (show n < 2 ^ 31 by omega)]
          refine ⟨(g.1, v, s, n, none), ⟨hX.1, hvk, by omega, hv, hs, hn, rfl, rfl, rfl, fun _ => rfl, fun q hq => by cases hq⟩, fun _ σ5 h5' => ?_⟩
          obtain ⟨o1, o2, o3, o4⟩ := h5'
          refine ⟨(pv_ws g.1 v s n 31 (2 ^ n), 10 ^ n), ⟨pv_ws_lt hv hn, h10p, by omega, o3, o4⟩, fun r6 σ6 h6 => ?_⟩
          obtain ⟨rfl, rfl⟩ := h6
          exact ⟨rfl, (mk.of2 o1).mo hX⟩
        · rw [xif_f (fun q => zw q.2.2.2)]
          exact ⟨rfl, hX⟩
      · rw [xif_f (fun q => zn q.2.2.1)]
        exact ⟨rfl, hX⟩
    · rw [xif_f (fun q => zs q.2.1)]
      exact ⟨rfl, hX⟩
  · rw [xif_f (fun q => zv q.1)]
    exact ⟨rfl, hX⟩
theorem mX6_mean (g : gtX6_mean) : px_Met dM yX6_mean (Cond.code yX6_mean cX6_mean 5 (some .long) :: wdM) rmX6_mean px_vL (prX6_mean g) (poX6_mean g) :=
  px_met (Z := (cX6_mean, 5, RX6, Cond.code yX6_mean cX6_mean 5 (some .long) :: wdM, (some .long), rmX6_mean, dM)) opX6_mean (by decide) rfl rfl okX6_mean (fun As σ h => by obtain ⟨v1, v2, v3, v4, rfl, h⟩ := h; exact Nat.le_of_ble_eq_true rfl) (fun As σ h G hG => by obtain ⟨v1, v2, v3, v4, rfl, h⟩ := h; exact hhX6_mean g v1 v2 v3 v4 σ h G hG)
theorem mo_S1 {σ σ' : px_St} {X : pv_X} {S : pv_S} (h : mo_is σ X) (hw : pv_w X.1) (hk : ∀ k, k ≠ 1 → σ'.1 k = σ.1 k) (hS : ms_is (σ'.1 1) S) (hi : ∀ j, j < 48 ∨ 61 ≤ j → σ'.1 1 j = σ.1 1 j) : mo_is σ' (xS X S) :=
  mo_1 (V := X.1) h (fun k hk' => hk k (by omega)) (fun j _ => by rw [hk 0 (by omega)]) (h.1.cg hw (fun j hj => hi j (by omega))) hS (fun j hj => hi j (by omega))
abbrev gtX6_see : Type := pv_X
def qrX6_see (X : pv_X) (_ _ : Int32) (σ : px_St) : Prop := mo_is σ X ∧ xo X
def qoX6_see (X : pv_X) (n s : Int32) (_ : px_St) (r : Int32) (σ' : px_St) : Prop := r = (x_see X n s).1 ∧ mo_is σ' (x_see X n s).2
def prX6_see (g : gtX6_see) : List Value → px_St → Prop := fun As σ => ∃ v1 : Int32, ∃ v2 : Int32, As = [.ref 0, .int v1, .int v2] ∧ qrX6_see g v1 v2 σ
def poX6_see (g : gtX6_see) : List Value → px_St → Int32 → px_St → Prop
  | [.ref _, .int v1, .int v2], σ, r, σ' => qoX6_see g v1 v2 σ r σ'
  | _, _, _, _ => False
theorem dX6_see_0 : decode cX6_see 0 = .ok (.iload_n 1, 1) := by decide +kernel
theorem dX6_see_1 : decode cX6_see 1 = .ok (.i2l, 1) := by decide +kernel
theorem dX6_see_2 : decode cX6_see 2 = .ok (.lconst 0, 1) := by decide +kernel
theorem dX6_see_3 : decode cX6_see 3 = .ok (.ldc2_w 264, 3) := by decide +kernel
theorem dX6_see_6 : decode cX6_see 6 = .ok (.invokestatic 56, 3) := by decide +kernel
theorem dX6_see_9 : decode cX6_see 9 = .ok (.ifCond .eq 10, 3) := by decide +kernel
theorem dX6_see_12 : decode cX6_see 12 = .ok (.iload_n 2, 1) := by decide +kernel
theorem dX6_see_13 : decode cX6_see 13 = .ok (.invokestatic 175, 3) := by decide +kernel
theorem dX6_see_16 : decode cX6_see 16 = .ok (.ifCond .ne 5, 3) := by decide +kernel
theorem dX6_see_19 : decode cX6_see 19 = .ok (.iconst (-1), 1) := by decide +kernel
theorem dX6_see_20 : decode cX6_see 20 = .ok (.ireturn, 1) := by decide +kernel
theorem dX6_see_21 : decode cX6_see 21 = .ok (.aload_n 0, 1) := by decide +kernel
theorem dX6_see_22 : decode cX6_see 22 = .ok (.getfield 7, 3) := by decide +kernel
theorem dX6_see_25 : decode cX6_see 25 = .ok (.bipush 48, 2) := by decide +kernel
theorem dX6_see_27 : decode cX6_see 27 = .ok (.iaload, 1) := by decide +kernel
theorem dX6_see_28 : decode cX6_see 28 = .ok (.bipush 6, 2) := by decide +kernel
theorem dX6_see_30 : decode cX6_see 30 = .ok (.if_icmp .ne 6, 3) := by decide +kernel
theorem dX6_see_33 : decode cX6_see 33 = .ok (.bipush (-3), 2) := by decide +kernel
theorem dX6_see_35 : decode cX6_see 35 = .ok (.ireturn, 1) := by decide +kernel
theorem dX6_see_36 : decode cX6_see 36 = .ok (.bipush 49, 2) := by decide +kernel
theorem dX6_see_38 : decode cX6_see 38 = .ok (.iconst 2, 1) := by decide +kernel
theorem dX6_see_39 : decode cX6_see 39 = .ok (.aload_n 0, 1) := by decide +kernel
theorem dX6_see_40 : decode cX6_see 40 = .ok (.getfield 7, 3) := by decide +kernel
theorem dX6_see_43 : decode cX6_see 43 = .ok (.bipush 48, 2) := by decide +kernel
theorem dX6_see_45 : decode cX6_see 45 = .ok (.iaload, 1) := by decide +kernel
theorem dX6_see_46 : decode cX6_see 46 = .ok (.imul, 1) := by decide +kernel
theorem dX6_see_47 : decode cX6_see 47 = .ok (.iadd, 1) := by decide +kernel
theorem dX6_see_48 : decode cX6_see 48 = .ok (.istore_n 3, 1) := by decide +kernel
theorem dX6_see_49 : decode cX6_see 49 = .ok (.aload_n 0, 1) := by decide +kernel
theorem dX6_see_50 : decode cX6_see 50 = .ok (.getfield 7, 3) := by decide +kernel
theorem dX6_see_53 : decode cX6_see 53 = .ok (.iload_n 3, 1) := by decide +kernel
theorem dX6_see_54 : decode cX6_see 54 = .ok (.iload_n 1, 1) := by decide +kernel
theorem dX6_see_55 : decode cX6_see 55 = .ok (.iastore, 1) := by decide +kernel
theorem dX6_see_56 : decode cX6_see 56 = .ok (.aload_n 0, 1) := by decide +kernel
theorem dX6_see_57 : decode cX6_see 57 = .ok (.getfield 7, 3) := by decide +kernel
theorem dX6_see_60 : decode cX6_see 60 = .ok (.iload_n 3, 1) := by decide +kernel
theorem dX6_see_61 : decode cX6_see 61 = .ok (.iconst 1, 1) := by decide +kernel
theorem dX6_see_62 : decode cX6_see 62 = .ok (.iadd, 1) := by decide +kernel
theorem dX6_see_63 : decode cX6_see 63 = .ok (.iload_n 2, 1) := by decide +kernel
theorem dX6_see_64 : decode cX6_see 64 = .ok (.iastore, 1) := by decide +kernel
theorem dX6_see_65 : decode cX6_see 65 = .ok (.aload_n 0, 1) := by decide +kernel
theorem dX6_see_66 : decode cX6_see 66 = .ok (.getfield 7, 3) := by decide +kernel
theorem dX6_see_69 : decode cX6_see 69 = .ok (.bipush 48, 2) := by decide +kernel
theorem dX6_see_71 : decode cX6_see 71 = .ok (.dup2, 1) := by decide +kernel
theorem dX6_see_72 : decode cX6_see 72 = .ok (.iaload, 1) := by decide +kernel
theorem dX6_see_73 : decode cX6_see 73 = .ok (.iconst 1, 1) := by decide +kernel
theorem dX6_see_74 : decode cX6_see 74 = .ok (.iadd, 1) := by decide +kernel
theorem dX6_see_75 : decode cX6_see 75 = .ok (.iastore, 1) := by decide +kernel
theorem dX6_see_76 : decode cX6_see 76 = .ok (.aload_n 0, 1) := by decide +kernel
theorem dX6_see_77 : decode cX6_see 77 = .ok (.getfield 7, 3) := by decide +kernel
theorem dX6_see_80 : decode cX6_see 80 = .ok (.bipush 48, 2) := by decide +kernel
theorem dX6_see_82 : decode cX6_see 82 = .ok (.iaload, 1) := by decide +kernel
theorem dX6_see_83 : decode cX6_see 83 = .ok (.ireturn, 1) := by decide +kernel
abbrev rmX6_see : Room := { frames := 2, cells := 0, slots := 0, locals := 45 }
def opX6_see (po : Int32 → px_St → Prop) : List (Nat × px_Op) := [
  (0, px_il 1 1),
  (1, px_i2l 2),
  (2, px_push 3 (.long 0)),
  (3, px_push 6 (.long 20)),
  (6, px_callS 9 3 px_vI prX6_in poX6_in),
  (9, px_if 12 19 (fun x => x = 0)),
  (12, px_il 13 2),
  (13, px_callS 16 1 px_vI prX6_isSound poX6_isSound),
  (16, px_if 19 21 (fun x => ¬ x = 0)),
  (19, px_push 20 (.int (-1))),
  (20, px_iret (.int) po),
  (21, px_al 22 0),
  (22, px_get dM 25 6 0),
  (25, px_push 27 (.int 48)),
  (27, px_ald dM 28 0),
  (28, px_push 30 (.int 6)),
  (30, px_ic 33 36 (fun x y => ¬ x = y)),
  (33, px_push 35 (.int (-3))),
  (35, px_iret (.int) po),
  (36, px_push 38 (.int 49)),
  (38, px_push 39 (.int 2)),
  (39, px_al 40 0),
  (40, px_get dM 43 6 0),
  (43, px_push 45 (.int 48)),
  (45, px_ald dM 46 0),
  (46, px_bin 47 (fun x y => x * y)),
  (47, px_bin 48 (fun x y => x + y)),
  (48, px_is 49 3),
  (49, px_al 50 0),
  (50, px_get dM 53 6 0),
  (53, px_il 54 3),
  (54, px_il 55 1),
  (55, px_ast dM 56 0 (fun x => x)),
  (56, px_al 57 0),
  (57, px_get dM 60 6 0),
  (60, px_il 61 3),
  (61, px_push 62 (.int 1)),
  (62, px_bin 63 (fun x y => x + y)),
  (63, px_il 64 2),
  (64, px_ast dM 65 0 (fun x => x)),
  (65, px_al 66 0),
  (66, px_get dM 69 6 0),
  (69, px_push 71 (.int 48)),
  (71, px_dup2 72),
  (72, px_ald dM 73 0),
  (73, px_push 74 (.int 1)),
  (74, px_bin 75 (fun x y => x + y)),
  (75, px_ast dM 76 0 (fun x => x)),
  (76, px_al 77 0),
  (77, px_get dM 80 6 0),
  (80, px_push 82 (.int 48)),
  (82, px_ald dM 83 0),
  (83, px_iret (.int) po)]
set_option maxRecDepth 100000 in
set_option maxHeartbeats 4000000 in
theorem okX6_see : ∀ (po : Int32 → px_St → Prop) (i pc : Nat) (op : px_Op), (opX6_see po)[i]? = some (pc, op) → px_Snd (cX6_see, 4, RX6, Cond.code yX6_see cX6_see 4 (some .int) :: wdM, (some .int), rmX6_see, dM) px_vI po pc op := by
  intro po
  unfold opX6_see
  refine px_ok_cons (ps_iload_n dX6_see_0 rfl) ?_
  refine px_ok_cons (ps_i2l dX6_see_1) ?_
  refine px_ok_cons (ps_lconst dX6_see_2 (by decide)) ?_
  refine px_ok_cons (ps_ldc2 (List.mem_cons_of_mem _ (wdM_6_in _ (List.mem_of_getElem? (i := 2) rfl))) dX6_see_3) ?_
  refine px_ok_cons (ps_callS mX6_in (fun _ _ => rfl) (fun _ _ ht => px_cwS wgM (wdM_0_in _ (List.mem_of_getElem? (i := 32) rfl)) (wdM_0_in _ (List.mem_of_getElem? (i := 33) rfl)) (wdM_0_in _ (List.mem_of_getElem? (i := 22) rfl)) (wdM_0_in _ (List.mem_of_getElem? (i := 27) rfl)) (by decide +kernel) rfl rfl (by decide) ht) dX6_see_6) ?_
  refine px_ok_cons (ps_if_eq dX6_see_9 (by decide)) ?_
  refine px_ok_cons (ps_iload_n dX6_see_12 rfl) ?_
  refine px_ok_cons (ps_callS mX6_isSound (fun _ _ => rfl) (fun _ _ ht => px_cwS wgM (wdM_3_in _ (List.mem_of_getElem? (i := 29) rfl)) (wdM_3_in _ (List.mem_of_getElem? (i := 30) rfl)) (wdM_0_in _ (List.mem_of_getElem? (i := 22) rfl)) (wdM_2_in _ (List.mem_of_getElem? (i := 4) rfl)) (by decide +kernel) rfl rfl (by decide) ht) dX6_see_13) ?_
  refine px_ok_cons (ps_if_ne dX6_see_16 (by decide)) ?_
  refine px_ok_cons (ps_iconst dX6_see_19 (by decide)) ?_
  refine px_ok_cons (ps_ireturn rfl dX6_see_20) ?_
  refine px_ok_cons (ps_aload_n dX6_see_21 rfl) ?_
  refine px_ok_cons (fgX6_7 dX6_see_22) ?_
  refine px_ok_cons (ps_bipush dX6_see_25 (by decide)) ?_
  refine px_ok_cons (ps_iaload dX6_see_27) ?_
  refine px_ok_cons (ps_bipush dX6_see_28 (by decide)) ?_
  refine px_ok_cons (ps_icmp_ne dX6_see_30 (by decide)) ?_
  refine px_ok_cons (ps_bipush dX6_see_33 (by decide)) ?_
  refine px_ok_cons (ps_ireturn rfl dX6_see_35) ?_
  refine px_ok_cons (ps_bipush dX6_see_36 (by decide)) ?_
  refine px_ok_cons (ps_iconst dX6_see_38 (by decide)) ?_
  refine px_ok_cons (ps_aload_n dX6_see_39 rfl) ?_
  refine px_ok_cons (fgX6_7 dX6_see_40) ?_
  refine px_ok_cons (ps_bipush dX6_see_43 (by decide)) ?_
  refine px_ok_cons (ps_iaload dX6_see_45) ?_
  refine px_ok_cons (ps_imul dX6_see_46) ?_
  refine px_ok_cons (ps_iadd dX6_see_47) ?_
  refine px_ok_cons (ps_istore_n dX6_see_48 rfl (by decide)) ?_
  refine px_ok_cons (ps_aload_n dX6_see_49 rfl) ?_
  refine px_ok_cons (fgX6_7 dX6_see_50) ?_
  refine px_ok_cons (ps_iload_n dX6_see_53 rfl) ?_
  refine px_ok_cons (ps_iload_n dX6_see_54 rfl) ?_
  refine px_ok_cons (ps_iastore dX6_see_55) ?_
  refine px_ok_cons (ps_aload_n dX6_see_56 rfl) ?_
  refine px_ok_cons (fgX6_7 dX6_see_57) ?_
  refine px_ok_cons (ps_iload_n dX6_see_60 rfl) ?_
  refine px_ok_cons (ps_iconst dX6_see_61 (by decide)) ?_
  refine px_ok_cons (ps_iadd dX6_see_62) ?_
  refine px_ok_cons (ps_iload_n dX6_see_63 rfl) ?_
  refine px_ok_cons (ps_iastore dX6_see_64) ?_
  refine px_ok_cons (ps_aload_n dX6_see_65 rfl) ?_
  refine px_ok_cons (fgX6_7 dX6_see_66) ?_
  refine px_ok_cons (ps_bipush dX6_see_69 (by decide)) ?_
  refine px_ok_cons (ps_dup2 dX6_see_71) ?_
  refine px_ok_cons (ps_iaload dX6_see_72) ?_
  refine px_ok_cons (ps_iconst dX6_see_73 (by decide)) ?_
  refine px_ok_cons (ps_iadd dX6_see_74) ?_
  refine px_ok_cons (ps_iastore dX6_see_75) ?_
  refine px_ok_cons (ps_aload_n dX6_see_76 rfl) ?_
  refine px_ok_cons (fgX6_7 dX6_see_77) ?_
  refine px_ok_cons (ps_bipush dX6_see_80 (by decide)) ?_
  refine px_ok_cons (ps_iaload dX6_see_82) ?_
  refine px_ok_cons (ps_ireturn rfl dX6_see_83) ?_
  exact px_ok_nil
set_option maxRecDepth 100000 in
set_option maxHeartbeats 4000000 in
theorem sgX6_see_0 {po : Int32 → px_St → Prop} {G : px_K} (hG : px_cl (opX6_see po) G) (v1 : Int32) (v2 : Int32) (σ : px_St)
    (H : ∃ g3 : gtX6_in, qrX6_in g3 v1.toInt64 (0 : Int64) (20 : Int64) σ ∧ ∀ (r1 : Int32) (σ2 : px_St), qoX6_in g3 v1.toInt64 (0 : Int64) (20 : Int64) σ r1 σ2 → ((r1 = 0) → po (-1 : Int32) σ2) ∧ (¬ (r1 = 0) → ∃ g7 : gtX6_isSound, qrX6_isSound g7 v2 σ2 ∧ ∀ (r5 : Int32) (σ6 : px_St), qoX6_isSound g7 v2 σ2 r5 σ6 → ((¬ r5 = 0) → vp_in (48 : Int32) 183 ∧ ((¬ (σ6.1 1 (48 : Int32).toNatClampNeg) = (6 : Int32)) → vp_in (48 : Int32) 183 ∧ vp_in ((49 : Int32) + ((2 : Int32) * (σ6.1 1 (48 : Int32).toNatClampNeg))) 183 ∧ vp_in (((49 : Int32) + ((2 : Int32) * (σ6.1 1 (48 : Int32).toNatClampNeg))) + (1 : Int32)) 183 ∧ vp_in (48 : Int32) 183 ∧ vp_in (48 : Int32) 183 ∧ vp_in (48 : Int32) 183 ∧ po ((px_up (px_up (px_up σ6 1 ((49 : Int32) + ((2 : Int32) * (σ6.1 1 (48 : Int32).toNatClampNeg))).toNatClampNeg v1) 1 (((49 : Int32) + ((2 : Int32) * (σ6.1 1 (48 : Int32).toNatClampNeg))) + (1 : Int32)).toNatClampNeg v2) 1 (48 : Int32).toNatClampNeg (((px_up (px_up σ6 1 ((49 : Int32) + ((2 : Int32) * (σ6.1 1 (48 : Int32).toNatClampNeg))).toNatClampNeg v1) 1 (((49 : Int32) + ((2 : Int32) * (σ6.1 1 (48 : Int32).toNatClampNeg))) + (1 : Int32)).toNatClampNeg v2).1 1 (48 : Int32).toNatClampNeg) + (1 : Int32))).1 1 (48 : Int32).toNatClampNeg) (px_up (px_up (px_up σ6 1 ((49 : Int32) + ((2 : Int32) * (σ6.1 1 (48 : Int32).toNatClampNeg))).toNatClampNeg v1) 1 (((49 : Int32) + ((2 : Int32) * (σ6.1 1 (48 : Int32).toNatClampNeg))) + (1 : Int32)).toNatClampNeg v2) 1 (48 : Int32).toNatClampNeg (((px_up (px_up σ6 1 ((49 : Int32) + ((2 : Int32) * (σ6.1 1 (48 : Int32).toNatClampNeg))).toNatClampNeg v1) 1 (((49 : Int32) + ((2 : Int32) * (σ6.1 1 (48 : Int32).toNatClampNeg))) + (1 : Int32)).toNatClampNeg v2).1 1 (48 : Int32).toNatClampNeg) + (1 : Int32)))) ∧ (¬ (¬ (σ6.1 1 (48 : Int32).toNatClampNeg) = (6 : Int32)) → po (-3 : Int32) σ6)) ∧ (¬ (¬ r5 = 0) → po (-1 : Int32) σ6))) :
    G 0 (px_ent 4 [.ref 0, .int v1, .int v2]) [] σ := by
  refine hG.1 0 _ _ rfl _ _ _ ?_
  refine hG.1 1 _ _ rfl _ _ _ ?_
  refine hG.1 2 _ _ rfl _ _ _ ?_
  refine hG.1 3 _ _ rfl _ _ _ ?_
  refine hG.1 4 _ _ rfl _ _ _ ?_
  obtain ⟨g3, H⟩ := H
  refine ⟨Nat.le_of_ble_eq_true rfl, Nat.le_of_ble_eq_true rfl, g3, ⟨_, _, _, rfl, H.1⟩, fun r1 σ2 hp4 => ?_⟩
  replace H := H.2 r1 σ2 hp4
  refine hG.1 5 _ _ rfl _ _ _ ?_
  refine ⟨fun h11 => ?_, fun h11 => ?_⟩
  · replace H := H.1 h11
    refine hG.1 9 _ _ rfl _ _ _ ?_
    refine hG.1 10 _ _ rfl _ _ _ ?_
    exact ⟨rfl, H⟩
  · replace H := H.2 h11
    refine hG.1 6 _ _ rfl _ _ _ ?_
    refine hG.1 7 _ _ rfl _ _ _ ?_
    obtain ⟨g7, H⟩ := H
    refine ⟨Nat.le_of_ble_eq_true rfl, Nat.le_of_ble_eq_true rfl, g7, ⟨_, rfl, H.1⟩, fun r5 σ6 hp8 => ?_⟩
    replace H := H.2 r5 σ6 hp8
    refine hG.1 8 _ _ rfl _ _ _ ?_
    refine ⟨fun h10 => ?_, fun h10 => ?_⟩
    · replace H := H.1 h10
      refine hG.1 11 _ _ rfl _ _ _ ?_
      refine hG.1 12 _ _ rfl _ _ _ ?_
      refine ⟨⟨rfl, by decide⟩, ?_⟩
      refine hG.1 13 _ _ rfl _ _ _ ?_
      refine hG.1 14 _ _ rfl _ _ _ ?_
      refine ⟨⟨rfl, by decide⟩, H.1, ?_⟩
      replace H := H.2
      refine hG.1 15 _ _ rfl _ _ _ ?_
      refine hG.1 16 _ _ rfl _ _ _ ?_
      refine ⟨fun h9 => ?_, fun h9 => ?_⟩
      · replace H := H.1 h9
        refine hG.1 19 _ _ rfl _ _ _ ?_
        refine hG.1 20 _ _ rfl _ _ _ ?_
        refine hG.1 21 _ _ rfl _ _ _ ?_
        refine hG.1 22 _ _ rfl _ _ _ ?_
        refine ⟨⟨rfl, by decide⟩, ?_⟩
        refine hG.1 23 _ _ rfl _ _ _ ?_
        refine hG.1 24 _ _ rfl _ _ _ ?_
        refine ⟨⟨rfl, by decide⟩, H.1, ?_⟩
        replace H := H.2
        refine hG.1 25 _ _ rfl _ _ _ ?_
        refine hG.1 26 _ _ rfl _ _ _ ?_
        refine hG.1 27 _ _ rfl _ _ _ ?_
        show G 49 [some (.ref 0), some (.int v1), some (.int v2), some (.int ((49 : Int32) + ((2 : Int32) * (σ6.1 1 (48 : Int32).toNatClampNeg))))] [] σ6
        refine hG.1 28 _ _ rfl _ _ _ ?_
        refine hG.1 29 _ _ rfl _ _ _ ?_
        refine ⟨⟨rfl, by decide⟩, ?_⟩
        refine hG.1 30 _ _ rfl _ _ _ ?_
        refine hG.1 31 _ _ rfl _ _ _ ?_
        refine hG.1 32 _ _ rfl _ _ _ ?_
        refine ⟨⟨rfl, by decide⟩, H.1, ?_⟩
        replace H := H.2
        refine hG.1 33 _ _ rfl _ _ _ ?_
        refine hG.1 34 _ _ rfl _ _ _ ?_
        refine ⟨⟨rfl, by decide⟩, ?_⟩
        refine hG.1 35 _ _ rfl _ _ _ ?_
        refine hG.1 36 _ _ rfl _ _ _ ?_
        refine hG.1 37 _ _ rfl _ _ _ ?_
        refine hG.1 38 _ _ rfl _ _ _ ?_
        refine hG.1 39 _ _ rfl _ _ _ ?_
        refine ⟨⟨rfl, by decide⟩, H.1, ?_⟩
        replace H := H.2
        refine hG.1 40 _ _ rfl _ _ _ ?_
        refine hG.1 41 _ _ rfl _ _ _ ?_
        refine ⟨⟨rfl, by decide⟩, ?_⟩
        refine hG.1 42 _ _ rfl _ _ _ ?_
        refine hG.1 43 _ _ rfl _ _ _ ?_
        refine hG.1 44 _ _ rfl _ _ _ ?_
        refine ⟨⟨rfl, by decide⟩, H.1, ?_⟩
        replace H := H.2
        refine hG.1 45 _ _ rfl _ _ _ ?_
        refine hG.1 46 _ _ rfl _ _ _ ?_
        refine hG.1 47 _ _ rfl _ _ _ ?_
        refine ⟨⟨rfl, by decide⟩, H.1, ?_⟩
        replace H := H.2
        refine hG.1 48 _ _ rfl _ _ _ ?_
        refine hG.1 49 _ _ rfl _ _ _ ?_
        refine ⟨⟨rfl, by decide⟩, ?_⟩
        refine hG.1 50 _ _ rfl _ _ _ ?_
        refine hG.1 51 _ _ rfl _ _ _ ?_
        refine ⟨⟨rfl, by decide⟩, H.1, ?_⟩
        replace H := H.2
        refine hG.1 52 _ _ rfl _ _ _ ?_
        exact ⟨rfl, H⟩
      · replace H := H.2 h9
        refine hG.1 17 _ _ rfl _ _ _ ?_
        refine hG.1 18 _ _ rfl _ _ _ ?_
        exact ⟨rfl, H⟩
    · replace H := H.2 h10
      refine hG.1 9 _ _ rfl _ _ _ ?_
      refine hG.1 10 _ _ rfl _ _ _ ?_
      exact ⟨rfl, H⟩
set_option maxRecDepth 100000 in
set_option maxHeartbeats 4000000 in
theorem hhX6_see (g : gtX6_see) (v1 : Int32) (v2 : Int32) (σ : px_St) (h : qrX6_see g v1 v2 σ) (G : px_K) (hG : px_cl (opX6_see (qoX6_see g v1 v2 σ)) G) : G 0 (px_ent 4 [.ref 0, .int v1, .int v2]) [] σ := by
  obtain ⟨hX, hok⟩ := h
  have hvk := hok.1.1
  have hsl := hok.2.1.1
  refine sgX6_see_0 hG _ _ σ ⟨(), trivial, fun r1 σ1 h1 => ?_⟩
  obtain ⟨rfl, b1⟩ := h1
  unfold qoX6_see x_see
  refine bz2 (in_c (a := 0) (b := 20) (by decide) (by decide) b1) (fun z => ⟨(), trivial, fun r2 σ2 h2 => ?_⟩) (fun z => ?_)
  · obtain ⟨rfl, b2⟩ := h2
    refine bz1 b2 (fun y => ?_) (fun y => ?_)
    · rw [xif_t ⟨z, y⟩]
      obtain ⟨n, hn, rfl⟩ := (rngc 20 20 rfl (by omega)).mp z
      obtain ⟨s, hs, rfl⟩ := (rngc 9 9 rfl (by omega)).mp y
      have c6 : nI g.2.1.length = 6 ↔ g.2.1.length = 6 := nIe _ 6 rfl rfl (by omega) (by omega)
      rw [c48, hX.2.1.1, c6, nI_clamp (by omega), nI_clamp (by omega), ix49, show nI (49 + 2 * g.2.1.length) + 1 = nI (50 + 2 * g.2.1.length) by rw [nI_1, show 49 + 2 * g.2.1.length + 1 = 50 + 2 * g.2.1.length by omega]]
      refine ⟨i48, fun hl => ?_, fun hl => ?_⟩
      · rw [nI_clamp (by omega), nI_clamp (by omega)]
        refine ⟨i48, vp_in_nI (by omega) (by decide), vp_in_nI (by omega) (by decide), i48, i48, i48, ?_⟩
        rw [xif_t (by omega)]
        have e48 : (px_up (px_up σ2 1 (49 + 2 * g.2.1.length) (nI n)) 1 (50 + 2 * g.2.1.length) (nI s)).1 1 48 + 1 = nI (g.2.1.length + 1) := by
          rw [px_up_at, if_neg (by omega), px_up_at, if_neg (by omega), hX.2.1.1]
          exact nI_1 _
        rw [e48]
        refine ⟨by rw [px_up_at, if_pos ⟨rfl, rfl⟩], mo_S1 hX hvk.1 (fun j hj => ?_) ⟨?_, fun i x hx => ?_⟩ (fun j hj => ?_)⟩
        · rw [px_up_n hj, px_up_n hj, px_up_n hj]
        · rw [px_up_at, if_pos ⟨rfl, rfl⟩, List.length_append]; rfl
        · by_cases hi : i < g.2.1.length
          · rw [List.getElem?_append_left hi] at hx
            rw [px_up_at, if_neg (by omega), px_up_at, if_neg (by omega), px_up_at, if_neg (by omega), px_up_at, if_neg (by omega), px_up_at, if_neg (by omega), px_up_at, if_neg (by omega)]
            exact hX.2.1.2 i x hx
          · rw [List.getElem?_append_right (by omega)] at hx
            have h0 : i - g.2.1.length < 1 := (List.getElem?_eq_some_iff.mp hx).1
            have hi2 : i = g.2.1.length := by omega
            subst hi2
            rw [Nat.sub_self] at hx
            rw [px_up_at, if_neg (by omega), px_up_at, if_neg (by omega), px_up_at, if_pos ⟨rfl, rfl⟩, px_up_at, if_neg (by omega), px_up_at, if_pos ⟨rfl, rfl⟩, ← Option.some.inj hx]
            exact ⟨rfl, rfl⟩
        · rw [px_up_at, if_neg (by omega), px_up_at, if_neg (by omega), px_up_at, if_neg (by omega)]
      · rw [xif_f (by omega)]
        exact ⟨rfl, hX⟩
    · rw [xif_f (fun q => y q.2)]
      exact ⟨rfl, hX⟩
  · rw [xif_f (fun q => z q.1)]
    exact ⟨rfl, hX⟩
theorem mX6_see (g : gtX6_see) : px_Met dM yX6_see (Cond.code yX6_see cX6_see 4 (some .int) :: wdM) rmX6_see px_vI (prX6_see g) (poX6_see g) :=
  px_met (Z := (cX6_see, 4, RX6, Cond.code yX6_see cX6_see 4 (some .int) :: wdM, (some .int), rmX6_see, dM)) opX6_see (by decide) rfl rfl okX6_see (fun As σ h => by obtain ⟨v1, v2, rfl, h⟩ := h; exact Nat.le_of_ble_eq_true rfl) (fun As σ h G hG => by obtain ⟨v1, v2, rfl, h⟩ := h; exact hhX6_see g v1 v2 σ h G hG)
abbrev gtX6_forget : Type := pv_X
def qrX6_forget (X : pv_X) (_ : Int32) (σ : px_St) : Prop := mo_is σ X ∧ xo X
def qoX6_forget (X : pv_X) (n : Int32) (_ : px_St) (r : Int32) (σ' : px_St) : Prop := r = (x_forget X n).1 ∧ mo_is σ' (x_forget X n).2
def prX6_forget (g : gtX6_forget) : List Value → px_St → Prop := fun As σ => ∃ v1 : Int32, As = [.ref 0, .int v1] ∧ qrX6_forget g v1 σ
def poX6_forget (g : gtX6_forget) : List Value → px_St → Int32 → px_St → Prop
  | [.ref _, .int v1], σ, r, σ' => qoX6_forget g v1 σ r σ'
  | _, _, _, _ => False
theorem dX6_forget_0 : decode cX6_forget 0 = .ok (.iload_n 1, 1) := by decide +kernel
theorem dX6_forget_1 : decode cX6_forget 1 = .ok (.i2l, 1) := by decide +kernel
theorem dX6_forget_2 : decode cX6_forget 2 = .ok (.lconst 0, 1) := by decide +kernel
theorem dX6_forget_3 : decode cX6_forget 3 = .ok (.aload_n 0, 1) := by decide +kernel
theorem dX6_forget_4 : decode cX6_forget 4 = .ok (.getfield 7, 3) := by decide +kernel
theorem dX6_forget_7 : decode cX6_forget 7 = .ok (.bipush 48, 2) := by decide +kernel
theorem dX6_forget_9 : decode cX6_forget 9 = .ok (.iaload, 1) := by decide +kernel
theorem dX6_forget_10 : decode cX6_forget 10 = .ok (.i2l, 1) := by decide +kernel
theorem dX6_forget_11 : decode cX6_forget 11 = .ok (.invokestatic 56, 3) := by decide +kernel
theorem dX6_forget_14 : decode cX6_forget 14 = .ok (.ifCond .eq 13, 3) := by decide +kernel
theorem dX6_forget_17 : decode cX6_forget 17 = .ok (.aload_n 0, 1) := by decide +kernel
theorem dX6_forget_18 : decode cX6_forget 18 = .ok (.bipush 48, 2) := by decide +kernel
theorem dX6_forget_20 : decode cX6_forget 20 = .ok (.iload_n 1, 1) := by decide +kernel
theorem dX6_forget_21 : decode cX6_forget 21 = .ok (.invokevirtual 181, 3) := by decide +kernel
theorem dX6_forget_24 : decode cX6_forget 24 = .ok (.goto 4, 3) := by decide +kernel
theorem dX6_forget_27 : decode cX6_forget 27 = .ok (.iconst (-1), 1) := by decide +kernel
theorem dX6_forget_28 : decode cX6_forget 28 = .ok (.ireturn, 1) := by decide +kernel
abbrev rmX6_forget : Room := { frames := 1, cells := 0, slots := 0, locals := 25 }
def opX6_forget (po : Int32 → px_St → Prop) : List (Nat × px_Op) := [
  (0, px_il 1 1),
  (1, px_i2l 2),
  (2, px_push 3 (.long 0)),
  (3, px_al 4 0),
  (4, px_get dM 7 6 0),
  (7, px_push 9 (.int 48)),
  (9, px_ald dM 10 0),
  (10, px_i2l 11),
  (11, px_callS 14 3 px_vI prX6_in poX6_in),
  (14, px_if 17 27 (fun x => x = 0)),
  (17, px_al 18 0),
  (18, px_push 20 (.int 48)),
  (20, px_il 21 1),
  (21, px_callV dM 24 6 2 px_vI prX6_becomes poX6_becomes),
  (24, px_go 28),
  (27, px_push 28 (.int (-1))),
  (28, px_iret (.int) po)]
set_option maxRecDepth 100000 in
set_option maxHeartbeats 4000000 in
theorem okX6_forget : ∀ (po : Int32 → px_St → Prop) (i pc : Nat) (op : px_Op), (opX6_forget po)[i]? = some (pc, op) → px_Snd (cX6_forget, 2, RX6, Cond.code yX6_forget cX6_forget 2 (some .int) :: wdM, (some .int), rmX6_forget, dM) px_vI po pc op := by
  intro po
  unfold opX6_forget
  refine px_ok_cons (ps_iload_n dX6_forget_0 rfl) ?_
  refine px_ok_cons (ps_i2l dX6_forget_1) ?_
  refine px_ok_cons (ps_lconst dX6_forget_2 (by decide)) ?_
  refine px_ok_cons (ps_aload_n dX6_forget_3 rfl) ?_
  refine px_ok_cons (fgX6_7 dX6_forget_4) ?_
  refine px_ok_cons (ps_bipush dX6_forget_7 (by decide)) ?_
  refine px_ok_cons (ps_iaload dX6_forget_9) ?_
  refine px_ok_cons (ps_i2l dX6_forget_10) ?_
  refine px_ok_cons (ps_callS mX6_in (fun _ _ => rfl) (fun _ _ ht => px_cwS wgM (wdM_0_in _ (List.mem_of_getElem? (i := 32) rfl)) (wdM_0_in _ (List.mem_of_getElem? (i := 33) rfl)) (wdM_0_in _ (List.mem_of_getElem? (i := 22) rfl)) (wdM_0_in _ (List.mem_of_getElem? (i := 27) rfl)) (by decide +kernel) rfl rfl (by decide) ht) dX6_forget_11) ?_
  refine px_ok_cons (ps_if_eq dX6_forget_14 (by decide)) ?_
  refine px_ok_cons (ps_aload_n dX6_forget_17 rfl) ?_
  refine px_ok_cons (ps_bipush dX6_forget_18 (by decide)) ?_
  refine px_ok_cons (ps_iload_n dX6_forget_20 rfl) ?_
  refine px_ok_cons (ps_callV mX6_becomes (fun _ _ => rfl) (C := RX6) rfl (fun _ _ ht => px_cwV wgM (wdM_3_in _ (List.mem_of_getElem? (i := 37) rfl)) (wdM_3_in _ (List.mem_of_getElem? (i := 38) rfl)) (wdM_3_in _ (List.mem_of_getElem? (i := 39) rfl)) (wdM_0_in _ (List.mem_of_getElem? (i := 22) rfl)) (wdM_3_in _ (List.mem_of_getElem? (i := 35) rfl)) (by decide +kernel) rfl rfl (by decide) ht) dX6_forget_21) ?_
  refine px_ok_cons (ps_goto dX6_forget_24 (by decide)) ?_
  refine px_ok_cons (ps_iconst dX6_forget_27 (by decide)) ?_
  refine px_ok_cons (ps_ireturn rfl dX6_forget_28) ?_
  exact px_ok_nil
set_option maxRecDepth 100000 in
set_option maxHeartbeats 4000000 in
theorem sgX6_forget_0 {po : Int32 → px_St → Prop} {G : px_K} (hG : px_cl (opX6_forget po) G) (v1 : Int32) (σ : px_St)
    (H : vp_in (48 : Int32) 183 ∧ ∃ g3 : gtX6_in, qrX6_in g3 v1.toInt64 (0 : Int64) ((σ.1 1 (48 : Int32).toNatClampNeg).toInt64) σ ∧ ∀ (r1 : Int32) (σ2 : px_St), qoX6_in g3 v1.toInt64 (0 : Int64) ((σ.1 1 (48 : Int32).toNatClampNeg).toInt64) σ r1 σ2 → ((r1 = 0) → po (-1 : Int32) σ2) ∧ (¬ (r1 = 0) → ∃ g7 : gtX6_becomes, qrX6_becomes g7 (48 : Int32) v1 σ2 ∧ ∀ (r5 : Int32) (σ6 : px_St), qoX6_becomes g7 (48 : Int32) v1 σ2 r5 σ6 → po r5 σ6)) :
    G 0 (px_ent 2 [.ref 0, .int v1]) [] σ := by
  refine hG.1 0 _ _ rfl _ _ _ ?_
  refine hG.1 1 _ _ rfl _ _ _ ?_
  refine hG.1 2 _ _ rfl _ _ _ ?_
  refine hG.1 3 _ _ rfl _ _ _ ?_
  refine hG.1 4 _ _ rfl _ _ _ ?_
  refine ⟨⟨rfl, by decide⟩, ?_⟩
  refine hG.1 5 _ _ rfl _ _ _ ?_
  refine hG.1 6 _ _ rfl _ _ _ ?_
  refine ⟨⟨rfl, by decide⟩, H.1, ?_⟩
  replace H := H.2
  refine hG.1 7 _ _ rfl _ _ _ ?_
  refine hG.1 8 _ _ rfl _ _ _ ?_
  obtain ⟨g3, H⟩ := H
  refine ⟨Nat.le_of_ble_eq_true rfl, Nat.le_of_ble_eq_true rfl, g3, ⟨_, _, _, rfl, H.1⟩, fun r1 σ2 hp4 => ?_⟩
  replace H := H.2 r1 σ2 hp4
  refine hG.1 9 _ _ rfl _ _ _ ?_
  refine ⟨fun h9 => ?_, fun h9 => ?_⟩
  · replace H := H.1 h9
    refine hG.1 15 _ _ rfl _ _ _ ?_
    refine hG.1 16 _ _ rfl _ _ _ ?_
    exact ⟨rfl, H⟩
  · replace H := H.2 h9
    refine hG.1 10 _ _ rfl _ _ _ ?_
    refine hG.1 11 _ _ rfl _ _ _ ?_
    refine hG.1 12 _ _ rfl _ _ _ ?_
    refine hG.1 13 _ _ rfl _ _ _ ?_
    obtain ⟨g7, H⟩ := H
    refine ⟨⟨rfl, by decide⟩, Nat.le_of_ble_eq_true rfl, g7, ⟨_, _, rfl, H.1⟩, fun r5 σ6 hp8 => ?_⟩
    replace H := H.2 r5 σ6 hp8
    refine hG.1 14 _ _ rfl _ _ _ ?_
    refine hG.1 16 _ _ rfl _ _ _ ?_
    exact ⟨rfl, H⟩
set_option maxRecDepth 100000 in
set_option maxHeartbeats 4000000 in
theorem hhX6_forget (g : gtX6_forget) (v1 : Int32) (σ : px_St) (h : qrX6_forget g v1 σ) (G : px_K) (hG : px_cl (opX6_forget (qoX6_forget g v1 σ)) G) : G 0 (px_ent 2 [.ref 0, .int v1]) [] σ := by
  obtain ⟨hX, hok⟩ := h
  have hvk := hok.1.1
  have hsl := hok.2.1.1
  refine sgX6_forget_0 hG _ σ ⟨i48, (), trivial, fun r1 σ1 h1 => ?_⟩
  obtain ⟨rfl, b1⟩ := h1
  rw [c48, hX.2.1.1] at b1
  unfold qoX6_forget x_forget
  refine bz2 (in_c (a := 0) (by decide) rfl b1) (fun z => ⟨48, ⟨by omega, rfl⟩, fun r2 σ2 h2 => ?_⟩) (fun z => ?_)
  · rw [xif_t z]
    obtain ⟨rfl, rfl⟩ := h2
    obtain ⟨n, hn, rfl⟩ := (rng (by omega)).mp z
    rw [nI_clamp (by omega)]
    refine ⟨hX.2.1.1, mo_S1 hX hvk.1 (fun j hj => px_up_n hj) ⟨?_, fun i x hx => ?_⟩ (fun j hj => by rw [px_up_at, if_neg (by omega)])⟩
    · rw [px_up_at, if_pos ⟨rfl, rfl⟩, List.length_take, Nat.min_eq_left hn]
    · rw [List.getElem?_take] at hx
      by_cases hi : i < n
      · rw [if_pos hi] at hx
        rw [px_up_at, if_neg (by omega), px_up_at, if_neg (by omega)]
        exact hX.2.1.2 i x hx
      · rw [if_neg hi] at hx; cases hx
  · rw [xif_f z]
    exact ⟨rfl, hX⟩
theorem mX6_forget (g : gtX6_forget) : px_Met dM yX6_forget (Cond.code yX6_forget cX6_forget 2 (some .int) :: wdM) rmX6_forget px_vI (prX6_forget g) (poX6_forget g) :=
  px_met (Z := (cX6_forget, 2, RX6, Cond.code yX6_forget cX6_forget 2 (some .int) :: wdM, (some .int), rmX6_forget, dM)) opX6_forget (by decide) rfl rfl okX6_forget (fun As σ h => by obtain ⟨v1, rfl, h⟩ := h; exact Nat.le_of_ble_eq_true rfl) (fun As σ h G hG => by obtain ⟨v1, rfl, h⟩ := h; exact hhX6_forget g v1 σ h G hG)
theorem mv_kndf {f : Nat → Int32} {V : pv_V} {p k : Nat} (hV : mv_is f V) (hw : pv_w V) (hp : p < V.1) : mv_is (fun i => if i = 9 * p then nI k else f i) (pv_knd V p k) := by
  have h5 := hw.1
  obtain ⟨g1, g2, g3, g4⟩ := hV.2 p hp
  refine mv_mod hV (fun q hq => (hw.2.2.2 q hq).2.1) (by omega) (fun j hj => if_neg (by omega)) ⟨if_pos rfl, (if_neg (by omega)).trans g2, (if_neg (by omega)).trans g3, fun i x hx => (if_neg (by omega)).trans (g4 i x hx)⟩
theorem mv_sndf {f : Nat → Int32} {V : pv_V} {p i k : Nat} (hV : mv_is f V) (hw : pv_w V) (hp : p < V.1) (hi : i < (V.2.2.2 p).2.2.length) : mv_is (fun j => if j = 9 * p + 3 + i then nI k else f j) (pv_snd V p i k) := by
  have h5 := hw.1
  have hl := (hw.2.2.2 p hp).2.1
  obtain ⟨g1, g2, g3, g4⟩ := hV.2 p hp
  refine mv_mod hV (fun q hq => (hw.2.2.2 q hq).2.1) (by omega) (fun j hj => if_neg (by omega)) ⟨(if_neg (by omega)).trans g1, (if_neg (by omega)).trans ?_, (if_neg (by omega)).trans g3, fun i' x hx => ?_⟩
  · show _ = nI ((V.2.2.2 p).2.2.set i k).length
    rw [List.length_set]; exact g2
  · have hx : ((V.2.2.2 p).2.2.set i k)[i']? = some x := hx
    show (if 9 * p + 3 + i' = 9 * p + 3 + i then nI k else f (9 * p + 3 + i')) = nI x
    by_cases hii : i' = i
    · subst hii
      rw [List.getElem?_set_self hi] at hx
      rw [if_pos rfl, Option.some.inj hx]
    · rw [List.getElem?_set_ne (by omega)] at hx
      rw [if_neg (by omega)]
      exact g4 i' x hx
theorem or_flag {f : Nat → Bool} {k : Nat} {r : Int32} (hk : k < 10) (hb : px_b (f k = true) r) : nI (pv_ob f k) ||| (r <<< (nI k &&& 31)) = nI (pv_ob f (k + 1)) := by
  have hol := pv_ob_lt f k
  have h2k : 2 ^ k ≤ 2 ^ 9 := Nat.pow_le_pow_right (by omega) (by omega)
  rw [pv_ob]
  rcases hb with ⟨h1, rfl⟩ | ⟨h1, rfl⟩
  · rw [if_pos h1, sh1 k (by omega), or10b k hk _ (by omega) hol]
  · rw [if_neg h1, zsh k (by omega), Int32.or_zero]
abbrev gtX6_kinds : Type := pv_X
def qrX6_kinds (X : pv_X) (_ : Int32) (σ : px_St) : Prop := mo_is σ X ∧ xo X
def qoX6_kinds (X : pv_X) (p : Int32) (_ : px_St) (r : Int32) (σ' : px_St) : Prop := r = (x_kinds X p).1 ∧ mo_is σ' (x_kinds X p).2
def prX6_kinds (g : gtX6_kinds) : List Value → px_St → Prop := fun As σ => ∃ v1 : Int32, As = [.ref 0, .int v1] ∧ qrX6_kinds g v1 σ
def poX6_kinds (g : gtX6_kinds) : List Value → px_St → Int32 → px_St → Prop
  | [.ref _, .int v1], σ, r, σ' => qoX6_kinds g v1 σ r σ'
  | _, _, _, _ => False
theorem dX6_kinds_0 : decode cX6_kinds 0 = .ok (.aload_n 0, 1) := by decide +kernel
theorem dX6_kinds_1 : decode cX6_kinds 1 = .ok (.iload_n 1, 1) := by decide +kernel
theorem dX6_kinds_2 : decode cX6_kinds 2 = .ok (.invokevirtual 126, 3) := by decide +kernel
theorem dX6_kinds_5 : decode cX6_kinds 5 = .ok (.ifCond .ne 5, 3) := by decide +kernel
theorem dX6_kinds_8 : decode cX6_kinds 8 = .ok (.iconst (-1), 1) := by decide +kernel
theorem dX6_kinds_9 : decode cX6_kinds 9 = .ok (.ireturn, 1) := by decide +kernel
theorem dX6_kinds_10 : decode cX6_kinds 10 = .ok (.iconst 0, 1) := by decide +kernel
theorem dX6_kinds_11 : decode cX6_kinds 11 = .ok (.istore_n 2, 1) := by decide +kernel
theorem dX6_kinds_12 : decode cX6_kinds 12 = .ok (.iconst 0, 1) := by decide +kernel
theorem dX6_kinds_13 : decode cX6_kinds 13 = .ok (.istore_n 3, 1) := by decide +kernel
theorem dX6_kinds_14 : decode cX6_kinds 14 = .ok (.iload_n 3, 1) := by decide +kernel
theorem dX6_kinds_15 : decode cX6_kinds 15 = .ok (.iconst 4, 1) := by decide +kernel
theorem dX6_kinds_16 : decode cX6_kinds 16 = .ok (.if_icmp .ge 28, 3) := by decide +kernel
theorem dX6_kinds_19 : decode cX6_kinds 19 = .ok (.iload_n 2, 1) := by decide +kernel
theorem dX6_kinds_20 : decode cX6_kinds 20 = .ok (.aload_n 0, 1) := by decide +kernel
theorem dX6_kinds_21 : decode cX6_kinds 21 = .ok (.bipush 9, 2) := by decide +kernel
theorem dX6_kinds_23 : decode cX6_kinds 23 = .ok (.iload_n 1, 1) := by decide +kernel
theorem dX6_kinds_24 : decode cX6_kinds 24 = .ok (.imul, 1) := by decide +kernel
theorem dX6_kinds_25 : decode cX6_kinds 25 = .ok (.iconst 0, 1) := by decide +kernel
theorem dX6_kinds_26 : decode cX6_kinds 26 = .ok (.iadd, 1) := by decide +kernel
theorem dX6_kinds_27 : decode cX6_kinds 27 = .ok (.iload_n 3, 1) := by decide +kernel
theorem dX6_kinds_28 : decode cX6_kinds 28 = .ok (.invokevirtual 266, 3) := by decide +kernel
theorem dX6_kinds_31 : decode cX6_kinds 31 = .ok (.invokestatic 159, 3) := by decide +kernel
theorem dX6_kinds_34 : decode cX6_kinds 34 = .ok (.iload_n 3, 1) := by decide +kernel
theorem dX6_kinds_35 : decode cX6_kinds 35 = .ok (.ishl, 1) := by decide +kernel
theorem dX6_kinds_36 : decode cX6_kinds 36 = .ok (.ior, 1) := by decide +kernel
theorem dX6_kinds_37 : decode cX6_kinds 37 = .ok (.istore_n 2, 1) := by decide +kernel
theorem dX6_kinds_38 : decode cX6_kinds 38 = .ok (.iinc 3 1, 3) := by decide +kernel
theorem dX6_kinds_41 : decode cX6_kinds 41 = .ok (.goto (-27), 3) := by decide +kernel
theorem dX6_kinds_44 : decode cX6_kinds 44 = .ok (.iload_n 2, 1) := by decide +kernel
theorem dX6_kinds_45 : decode cX6_kinds 45 = .ok (.ireturn, 1) := by decide +kernel
abbrev rmX6_kinds : Room := { frames := 5, cells := 0, slots := 0, locals := 117 }
def opX6_kinds (po : Int32 → px_St → Prop) : List (Nat × px_Op) := [
  (0, px_al 1 0),
  (1, px_il 2 1),
  (2, px_callV dM 5 6 1 px_vI prX6_isParrot poX6_isParrot),
  (5, px_if 8 10 (fun x => ¬ x = 0)),
  (8, px_push 9 (.int (-1))),
  (9, px_iret (.int) po),
  (10, px_push 11 (.int 0)),
  (11, px_is 12 2),
  (12, px_push 13 (.int 0)),
  (13, px_is 14 3),
  (14, px_il 15 3),
  (15, px_push 16 (.int 4)),
  (16, px_ic 19 44 (fun x y => y ≤ x)),
  (19, px_il 20 2),
  (20, px_al 21 0),
  (21, px_push 23 (.int 9)),
  (23, px_il 24 1),
  (24, px_bin 25 (fun x y => x * y)),
  (25, px_push 26 (.int 0)),
  (26, px_bin 27 (fun x y => x + y)),
  (27, px_il 28 3),
  (28, px_callV dM 31 6 2 px_vI prX6_isSoWith poX6_isSoWith),
  (31, px_callS 34 1 px_vI prX6_flag poX6_flag),
  (34, px_il 35 3),
  (35, px_bin 36 (fun x y => x <<< (y &&& 31))),
  (36, px_bin 37 (fun x y => x ||| y)),
  (37, px_is 38 2),
  (38, px_inc 41 3 1),
  (41, px_go 14),
  (44, px_il 45 2),
  (45, px_iret (.int) po)]
set_option maxRecDepth 100000 in
set_option maxHeartbeats 4000000 in
theorem okX6_kinds : ∀ (po : Int32 → px_St → Prop) (i pc : Nat) (op : px_Op), (opX6_kinds po)[i]? = some (pc, op) → px_Snd (cX6_kinds, 4, RX6, Cond.code yX6_kinds cX6_kinds 4 (some .int) :: wdM, (some .int), rmX6_kinds, dM) px_vI po pc op := by
  intro po
  unfold opX6_kinds
  refine px_ok_cons (ps_aload_n dX6_kinds_0 rfl) ?_
  refine px_ok_cons (ps_iload_n dX6_kinds_1 rfl) ?_
  refine px_ok_cons (ps_callV mX6_isParrot (fun _ _ => rfl) (C := RX6) rfl (fun _ _ ht => px_cwV wgM (wdM_2_in _ (List.mem_of_getElem? (i := 7) rfl)) (wdM_2_in _ (List.mem_of_getElem? (i := 8) rfl)) (wdM_2_in _ (List.mem_of_getElem? (i := 9) rfl)) (wdM_0_in _ (List.mem_of_getElem? (i := 22) rfl)) (wdM_2_in _ (List.mem_of_getElem? (i := 3) rfl)) (by decide +kernel) rfl rfl (by decide) ht) dX6_kinds_2) ?_
  refine px_ok_cons (ps_if_ne dX6_kinds_5 (by decide)) ?_
  refine px_ok_cons (ps_iconst dX6_kinds_8 (by decide)) ?_
  refine px_ok_cons (ps_ireturn rfl dX6_kinds_9) ?_
  refine px_ok_cons (ps_iconst dX6_kinds_10 (by decide)) ?_
  refine px_ok_cons (ps_istore_n dX6_kinds_11 rfl (by decide)) ?_
  refine px_ok_cons (ps_iconst dX6_kinds_12 (by decide)) ?_
  refine px_ok_cons (ps_istore_n dX6_kinds_13 rfl (by decide)) ?_
  refine px_ok_cons (ps_iload_n dX6_kinds_14 rfl) ?_
  refine px_ok_cons (ps_iconst dX6_kinds_15 (by decide)) ?_
  refine px_ok_cons (ps_icmp_ge dX6_kinds_16 (by decide)) ?_
  refine px_ok_cons (ps_iload_n dX6_kinds_19 rfl) ?_
  refine px_ok_cons (ps_aload_n dX6_kinds_20 rfl) ?_
  refine px_ok_cons (ps_bipush dX6_kinds_21 (by decide)) ?_
  refine px_ok_cons (ps_iload_n dX6_kinds_23 rfl) ?_
  refine px_ok_cons (ps_imul dX6_kinds_24) ?_
  refine px_ok_cons (ps_iconst dX6_kinds_25 (by decide)) ?_
  refine px_ok_cons (ps_iadd dX6_kinds_26) ?_
  refine px_ok_cons (ps_iload_n dX6_kinds_27 rfl) ?_
  refine px_ok_cons (ps_callV mX6_isSoWith (fun _ _ => rfl) (C := RX6) rfl (fun _ _ ht => px_cwV wgM (wdM_6_in _ (List.mem_of_getElem? (i := 5) rfl)) (wdM_6_in _ (List.mem_of_getElem? (i := 6) rfl)) (wdM_6_in _ (List.mem_of_getElem? (i := 7) rfl)) (wdM_0_in _ (List.mem_of_getElem? (i := 22) rfl)) (wdM_6_in _ (List.mem_of_getElem? (i := 4) rfl)) (by decide +kernel) rfl rfl (by decide) ht) dX6_kinds_28) ?_
  refine px_ok_cons (ps_callS mX6_flag (fun _ _ => rfl) (fun _ _ ht => px_cwS wgM (wdM_3_in _ (List.mem_of_getElem? (i := 10) rfl)) (wdM_3_in _ (List.mem_of_getElem? (i := 11) rfl)) (wdM_0_in _ (List.mem_of_getElem? (i := 22) rfl)) (wdM_0_in _ (List.mem_of_getElem? (i := 28) rfl)) (by decide +kernel) rfl rfl (by decide) ht) dX6_kinds_31) ?_
  refine px_ok_cons (ps_iload_n dX6_kinds_34 rfl) ?_
  refine px_ok_cons (ps_ishl dX6_kinds_35) ?_
  refine px_ok_cons (ps_ior dX6_kinds_36) ?_
  refine px_ok_cons (ps_istore_n dX6_kinds_37 rfl (by decide)) ?_
  refine px_ok_cons (ps_iinc dX6_kinds_38 (by decide) (by decide)) ?_
  refine px_ok_cons (ps_goto dX6_kinds_41 (by decide)) ?_
  refine px_ok_cons (ps_iload_n dX6_kinds_44 rfl) ?_
  refine px_ok_cons (ps_ireturn rfl dX6_kinds_45) ?_
  exact px_ok_nil
set_option maxRecDepth 100000 in
set_option maxHeartbeats 4000000 in
theorem sgX6_kinds_0 {po : Int32 → px_St → Prop} {G : px_K} (hG : px_cl (opX6_kinds po) G) (v1 : Int32) (σ : px_St)
    (H : ∃ g3 : gtX6_isParrot, qrX6_isParrot g3 v1 σ ∧ ∀ (r1 : Int32) (σ2 : px_St), qoX6_isParrot g3 v1 σ r1 σ2 → ((¬ r1 = 0) → G 14 [some (.ref 0), some (.int v1), some (.int (0 : Int32)), some (.int (0 : Int32))] [] σ2) ∧ (¬ (¬ r1 = 0) → po (-1 : Int32) σ2)) :
    G 0 (px_ent 4 [.ref 0, .int v1]) [] σ := by
  refine hG.1 0 _ _ rfl _ _ _ ?_
  refine hG.1 1 _ _ rfl _ _ _ ?_
  refine hG.1 2 _ _ rfl _ _ _ ?_
  obtain ⟨g3, H⟩ := H
  refine ⟨⟨rfl, by decide⟩, Nat.le_of_ble_eq_true rfl, g3, ⟨_, rfl, H.1⟩, fun r1 σ2 hp4 => ?_⟩
  replace H := H.2 r1 σ2 hp4
  refine hG.1 3 _ _ rfl _ _ _ ?_
  refine ⟨fun h5 => ?_, fun h5 => ?_⟩
  · replace H := H.1 h5
    refine hG.1 6 _ _ rfl _ _ _ ?_
    refine hG.1 7 _ _ rfl _ _ _ ?_
    show G 12 [some (.ref 0), some (.int v1), some (.int (0 : Int32)), none] [] σ2
    refine hG.1 8 _ _ rfl _ _ _ ?_
    refine hG.1 9 _ _ rfl _ _ _ ?_
    show G 14 [some (.ref 0), some (.int v1), some (.int (0 : Int32)), some (.int (0 : Int32))] [] σ2
    exact H
  · replace H := H.2 h5
    refine hG.1 4 _ _ rfl _ _ _ ?_
    refine hG.1 5 _ _ rfl _ _ _ ?_
    exact ⟨rfl, H⟩
set_option maxRecDepth 100000 in
set_option maxHeartbeats 4000000 in
theorem sgX6_kinds_14 {po : Int32 → px_St → Prop} {G : px_K} (hG : px_cl (opX6_kinds po) G) (v1 : Int32) (v2 : Int32) (v3 : Int32) (σ : px_St)
    (H : (((4 : Int32) ≤ v3) → po v2 σ) ∧ (¬ ((4 : Int32) ≤ v3) → ∃ g3 : gtX6_isSoWith, qrX6_isSoWith g3 (((9 : Int32) * v1) + (0 : Int32)) v3 σ ∧ ∀ (r1 : Int32) (σ2 : px_St), qoX6_isSoWith g3 (((9 : Int32) * v1) + (0 : Int32)) v3 σ r1 σ2 → ∃ g7 : gtX6_flag, qrX6_flag g7 r1 σ2 ∧ ∀ (r5 : Int32) (σ6 : px_St), qoX6_flag g7 r1 σ2 r5 σ6 → G 14 [some (.ref 0), some (.int v1), some (.int (v2 ||| (r5 <<< (v3 &&& 31)))), some (.int (v3 + 1))] [] σ6)) :
    G 14 [some (.ref 0), some (.int v1), some (.int v2), some (.int v3)] [] σ := by
  refine hG.1 10 _ _ rfl _ _ _ ?_
  refine hG.1 11 _ _ rfl _ _ _ ?_
  refine hG.1 12 _ _ rfl _ _ _ ?_
  refine ⟨fun h9 => ?_, fun h9 => ?_⟩
  · replace H := H.1 h9
    refine hG.1 29 _ _ rfl _ _ _ ?_
    refine hG.1 30 _ _ rfl _ _ _ ?_
    exact ⟨rfl, H⟩
  · replace H := H.2 h9
    refine hG.1 13 _ _ rfl _ _ _ ?_
    refine hG.1 14 _ _ rfl _ _ _ ?_
    refine hG.1 15 _ _ rfl _ _ _ ?_
    refine hG.1 16 _ _ rfl _ _ _ ?_
    refine hG.1 17 _ _ rfl _ _ _ ?_
    refine hG.1 18 _ _ rfl _ _ _ ?_
    refine hG.1 19 _ _ rfl _ _ _ ?_
    refine hG.1 20 _ _ rfl _ _ _ ?_
    refine hG.1 21 _ _ rfl _ _ _ ?_
    obtain ⟨g3, H⟩ := H
    refine ⟨⟨rfl, by decide⟩, Nat.le_of_ble_eq_true rfl, g3, ⟨_, _, rfl, H.1⟩, fun r1 σ2 hp4 => ?_⟩
    replace H := H.2 r1 σ2 hp4
    refine hG.1 22 _ _ rfl _ _ _ ?_
    obtain ⟨g7, H⟩ := H
    refine ⟨Nat.le_of_ble_eq_true rfl, Nat.le_of_ble_eq_true rfl, g7, ⟨_, rfl, H.1⟩, fun r5 σ6 hp8 => ?_⟩
    replace H := H.2 r5 σ6 hp8
    refine hG.1 23 _ _ rfl _ _ _ ?_
    refine hG.1 24 _ _ rfl _ _ _ ?_
    refine hG.1 25 _ _ rfl _ _ _ ?_
    refine hG.1 26 _ _ rfl _ _ _ ?_
    show G 38 [some (.ref 0), some (.int v1), some (.int (v2 ||| (r5 <<< (v3 &&& 31)))), some (.int v3)] [] σ6
    refine hG.1 27 _ _ rfl _ _ _ ?_
    show G 41 [some (.ref 0), some (.int v1), some (.int (v2 ||| (r5 <<< (v3 &&& 31)))), some (.int (v3 + 1))] [] σ6
    refine hG.1 28 _ _ rfl _ _ _ ?_
    exact H
set_option maxRecDepth 100000 in
set_option maxHeartbeats 4000000 in
theorem hhX6_kinds (g : gtX6_kinds) (v1 : Int32) (σ : px_St) (h : qrX6_kinds g v1 σ) (G : px_K) (hG : px_cl (opX6_kinds (qoX6_kinds g v1 σ)) G) : G 0 (px_ent 4 [.ref 0, .int v1]) [] σ := by
  obtain ⟨hX, hok⟩ := h
  have hd := hok.1.2
  have hvk := hok.1.1
  have h5 := hvk.1.1
  refine sgX6_kinds_0 hG _ σ ⟨g.1, hX.1, fun r0 σ0 h0 => ?_⟩
  obtain ⟨rfl, b0⟩ := h0
  refine bz1 b0 (fun zp => ?_) (fun zp => ?_)
  · obtain ⟨p, hp, rfl⟩ := (rng1 (by omega)).mp zp
    obtain ⟨f, hf⟩ : ∃ f : Nat → Bool, f = fun v => pv_asB (pv_knd g.1 p v) g.2.1 := ⟨_, rfl⟩
    have ex : (x_kinds g (nI p)) = (nI (pv_ob f 4), g) := by
      unfold x_kinds
      rw [xif_t zp, nI_clamp (by omega), hf]
    have loop : ∀ m k, k + m = 4 → ∀ σ', mk σ0 σ' → G 14 [some (.ref 0), some (.int (nI p)), some (.int (nI (pv_ob f k))), some (.int (nI k))] [] σ' := by
      intro m
      induction m with
      | zero =>
        intro k hk σ' ho
        have e : k = 4 := by omega
        subst e
        refine sgX6_kinds_14 hG _ _ _ σ' ⟨fun _ => ?_, fun q => absurd (by decide) q⟩
        unfold qoX6_kinds
        rw [ex]
        exact ⟨rfl, ho.mo hX⟩
      | succ m ih =>
        intro k hk σ' ho
        have hX' := ho.mo hX
        refine sgX6_kinds_14 hG _ _ _ σ' ⟨fun q => absurd ((nIle 4 k rfl rfl (by omega) (by omega)).mp q) (by omega), fun _ => ⟨(pv_knd g.1 p k, g.2.1, 9 * p), ⟨by omega, ix9 p 0, mv_kndf hX'.1 hvk.1 hp, pv_knd_ok hvk hp (by omega), Nat.lt_of_le_of_lt hd (by omega), hX'.2.1, hok.2.1⟩, fun r5 σ5 hq5 => ⟨(), trivial, fun r6 σ6 h6 => ?_⟩⟩⟩
        obtain ⟨b5, -, p3⟩ := hq5
        obtain ⟨rfl, rfl⟩ := h6
        have b6 : px_b (f k = true) r5 := by
          rw [hf]
          show px_b (pv_asB (pv_knd g.1 p k) g.2.1 = true) r5
          rw [pv_asB_iff]; exact b5
        rw [px_b_nz b6, or_flag (by omega) b6, nI_1]
        exact ih (k + 1) (by omega) _ (ho.tr (mk.of26 p3))
    exact loop 4 0 (by omega) σ0 mk.rf
  · unfold qoX6_kinds x_kinds
    rw [xif_f zp]
    exact ⟨rfl, hX⟩
theorem mX6_kinds (g : gtX6_kinds) : px_Met dM yX6_kinds (Cond.code yX6_kinds cX6_kinds 4 (some .int) :: wdM) rmX6_kinds px_vI (prX6_kinds g) (poX6_kinds g) :=
  px_met (Z := (cX6_kinds, 4, RX6, Cond.code yX6_kinds cX6_kinds 4 (some .int) :: wdM, (some .int), rmX6_kinds, dM)) opX6_kinds (by decide) rfl rfl okX6_kinds (fun As σ h => by obtain ⟨v1, rfl, h⟩ := h; exact Nat.le_of_ble_eq_true rfl) (fun As σ h G hG => by obtain ⟨v1, rfl, h⟩ := h; exact hhX6_kinds g v1 σ h G hG)
theorem ix93' (p i : Nat) : (9 : Int32) * nI p + 3 + nI i = nI (9 * p + 3 + i) := by
  rw [show (9 : Int32) * nI p + 3 = nI (9 * p + 3) from ix9 p 3, nI_add]
abbrev gtX6_sounds : Type := pv_X
def qrX6_sounds (X : pv_X) (_ _ : Int32) (σ : px_St) : Prop := mo_is σ X ∧ xo X
def qoX6_sounds (X : pv_X) (p i : Int32) (_ : px_St) (r : Int32) (σ' : px_St) : Prop := r = (x_sounds X p i).1 ∧ mo_is σ' (x_sounds X p i).2
def prX6_sounds (g : gtX6_sounds) : List Value → px_St → Prop := fun As σ => ∃ v1 : Int32, ∃ v2 : Int32, As = [.ref 0, .int v1, .int v2] ∧ qrX6_sounds g v1 v2 σ
def poX6_sounds (g : gtX6_sounds) : List Value → px_St → Int32 → px_St → Prop
  | [.ref _, .int v1, .int v2], σ, r, σ' => qoX6_sounds g v1 v2 σ r σ'
  | _, _, _, _ => False
theorem dX6_sounds_0 : decode cX6_sounds 0 = .ok (.aload_n 0, 1) := by decide +kernel
theorem dX6_sounds_1 : decode cX6_sounds 1 = .ok (.iload_n 1, 1) := by decide +kernel
theorem dX6_sounds_2 : decode cX6_sounds 2 = .ok (.iload_n 2, 1) := by decide +kernel
theorem dX6_sounds_3 : decode cX6_sounds 3 = .ok (.invokevirtual 184, 3) := by decide +kernel
theorem dX6_sounds_6 : decode cX6_sounds 6 = .ok (.ifCond .ne 5, 3) := by decide +kernel
theorem dX6_sounds_9 : decode cX6_sounds 9 = .ok (.iconst (-1), 1) := by decide +kernel
theorem dX6_sounds_10 : decode cX6_sounds 10 = .ok (.ireturn, 1) := by decide +kernel
theorem dX6_sounds_11 : decode cX6_sounds 11 = .ok (.iconst 0, 1) := by decide +kernel
theorem dX6_sounds_12 : decode cX6_sounds 12 = .ok (.istore_n 3, 1) := by decide +kernel
theorem dX6_sounds_13 : decode cX6_sounds 13 = .ok (.iconst 0, 1) := by decide +kernel
theorem dX6_sounds_14 : decode cX6_sounds 14 = .ok (.istore 4, 2) := by decide +kernel
theorem dX6_sounds_16 : decode cX6_sounds 16 = .ok (.iload 4, 2) := by decide +kernel
theorem dX6_sounds_18 : decode cX6_sounds 18 = .ok (.bipush 9, 2) := by decide +kernel
theorem dX6_sounds_20 : decode cX6_sounds 20 = .ok (.if_icmp .gt 32, 3) := by decide +kernel
theorem dX6_sounds_23 : decode cX6_sounds 23 = .ok (.iload_n 3, 1) := by decide +kernel
theorem dX6_sounds_24 : decode cX6_sounds 24 = .ok (.aload_n 0, 1) := by decide +kernel
theorem dX6_sounds_25 : decode cX6_sounds 25 = .ok (.bipush 9, 2) := by decide +kernel
theorem dX6_sounds_27 : decode cX6_sounds 27 = .ok (.iload_n 1, 1) := by decide +kernel
theorem dX6_sounds_28 : decode cX6_sounds 28 = .ok (.imul, 1) := by decide +kernel
theorem dX6_sounds_29 : decode cX6_sounds 29 = .ok (.iconst 3, 1) := by decide +kernel
theorem dX6_sounds_30 : decode cX6_sounds 30 = .ok (.iadd, 1) := by decide +kernel
theorem dX6_sounds_31 : decode cX6_sounds 31 = .ok (.iload_n 2, 1) := by decide +kernel
theorem dX6_sounds_32 : decode cX6_sounds 32 = .ok (.iadd, 1) := by decide +kernel
theorem dX6_sounds_33 : decode cX6_sounds 33 = .ok (.iload 4, 2) := by decide +kernel
theorem dX6_sounds_35 : decode cX6_sounds 35 = .ok (.invokevirtual 266, 3) := by decide +kernel
theorem dX6_sounds_38 : decode cX6_sounds 38 = .ok (.invokestatic 159, 3) := by decide +kernel
theorem dX6_sounds_41 : decode cX6_sounds 41 = .ok (.iload 4, 2) := by decide +kernel
theorem dX6_sounds_43 : decode cX6_sounds 43 = .ok (.ishl, 1) := by decide +kernel
theorem dX6_sounds_44 : decode cX6_sounds 44 = .ok (.ior, 1) := by decide +kernel
theorem dX6_sounds_45 : decode cX6_sounds 45 = .ok (.istore_n 3, 1) := by decide +kernel
theorem dX6_sounds_46 : decode cX6_sounds 46 = .ok (.iinc 4 1, 3) := by decide +kernel
theorem dX6_sounds_49 : decode cX6_sounds 49 = .ok (.goto (-33), 3) := by decide +kernel
theorem dX6_sounds_52 : decode cX6_sounds 52 = .ok (.iload_n 3, 1) := by decide +kernel
theorem dX6_sounds_53 : decode cX6_sounds 53 = .ok (.ireturn, 1) := by decide +kernel
abbrev rmX6_sounds : Room := { frames := 5, cells := 0, slots := 0, locals := 117 }
def opX6_sounds (po : Int32 → px_St → Prop) : List (Nat × px_Op) := [
  (0, px_al 1 0),
  (1, px_il 2 1),
  (2, px_il 3 2),
  (3, px_callV dM 6 6 2 px_vI prX6_isOwn poX6_isOwn),
  (6, px_if 9 11 (fun x => ¬ x = 0)),
  (9, px_push 10 (.int (-1))),
  (10, px_iret (.int) po),
  (11, px_push 12 (.int 0)),
  (12, px_is 13 3),
  (13, px_push 14 (.int 0)),
  (14, px_is 16 4),
  (16, px_il 18 4),
  (18, px_push 20 (.int 9)),
  (20, px_ic 23 52 (fun x y => y < x)),
  (23, px_il 24 3),
  (24, px_al 25 0),
  (25, px_push 27 (.int 9)),
  (27, px_il 28 1),
  (28, px_bin 29 (fun x y => x * y)),
  (29, px_push 30 (.int 3)),
  (30, px_bin 31 (fun x y => x + y)),
  (31, px_il 32 2),
  (32, px_bin 33 (fun x y => x + y)),
  (33, px_il 35 4),
  (35, px_callV dM 38 6 2 px_vI prX6_isSoWith poX6_isSoWith),
  (38, px_callS 41 1 px_vI prX6_flag poX6_flag),
  (41, px_il 43 4),
  (43, px_bin 44 (fun x y => x <<< (y &&& 31))),
  (44, px_bin 45 (fun x y => x ||| y)),
  (45, px_is 46 3),
  (46, px_inc 49 4 1),
  (49, px_go 16),
  (52, px_il 53 3),
  (53, px_iret (.int) po)]
set_option maxRecDepth 100000 in
set_option maxHeartbeats 4000000 in
theorem okX6_sounds : ∀ (po : Int32 → px_St → Prop) (i pc : Nat) (op : px_Op), (opX6_sounds po)[i]? = some (pc, op) → px_Snd (cX6_sounds, 5, RX6, Cond.code yX6_sounds cX6_sounds 5 (some .int) :: wdM, (some .int), rmX6_sounds, dM) px_vI po pc op := by
  intro po
  unfold opX6_sounds
  refine px_ok_cons (ps_aload_n dX6_sounds_0 rfl) ?_
  refine px_ok_cons (ps_iload_n dX6_sounds_1 rfl) ?_
  refine px_ok_cons (ps_iload_n dX6_sounds_2 rfl) ?_
  refine px_ok_cons (ps_callV mX6_isOwn (fun _ _ => rfl) (C := RX6) rfl (fun _ _ ht => px_cwV wgM (wdM_4_in _ (List.mem_of_getElem? (i := 1) rfl)) (wdM_4_in _ (List.mem_of_getElem? (i := 2) rfl)) (wdM_4_in _ (List.mem_of_getElem? (i := 3) rfl)) (wdM_0_in _ (List.mem_of_getElem? (i := 22) rfl)) (wdM_2_in _ (List.mem_of_getElem? (i := 6) rfl)) (by decide +kernel) rfl rfl (by decide) ht) dX6_sounds_3) ?_
  refine px_ok_cons (ps_if_ne dX6_sounds_6 (by decide)) ?_
  refine px_ok_cons (ps_iconst dX6_sounds_9 (by decide)) ?_
  refine px_ok_cons (ps_ireturn rfl dX6_sounds_10) ?_
  refine px_ok_cons (ps_iconst dX6_sounds_11 (by decide)) ?_
  refine px_ok_cons (ps_istore_n dX6_sounds_12 rfl (by decide)) ?_
  refine px_ok_cons (ps_iconst dX6_sounds_13 (by decide)) ?_
  refine px_ok_cons (ps_istore dX6_sounds_14 (by decide)) ?_
  refine px_ok_cons (ps_iload dX6_sounds_16) ?_
  refine px_ok_cons (ps_bipush dX6_sounds_18 (by decide)) ?_
  refine px_ok_cons (ps_icmp_gt dX6_sounds_20 (by decide)) ?_
  refine px_ok_cons (ps_iload_n dX6_sounds_23 rfl) ?_
  refine px_ok_cons (ps_aload_n dX6_sounds_24 rfl) ?_
  refine px_ok_cons (ps_bipush dX6_sounds_25 (by decide)) ?_
  refine px_ok_cons (ps_iload_n dX6_sounds_27 rfl) ?_
  refine px_ok_cons (ps_imul dX6_sounds_28) ?_
  refine px_ok_cons (ps_iconst dX6_sounds_29 (by decide)) ?_
  refine px_ok_cons (ps_iadd dX6_sounds_30) ?_
  refine px_ok_cons (ps_iload_n dX6_sounds_31 rfl) ?_
  refine px_ok_cons (ps_iadd dX6_sounds_32) ?_
  refine px_ok_cons (ps_iload dX6_sounds_33) ?_
  refine px_ok_cons (ps_callV mX6_isSoWith (fun _ _ => rfl) (C := RX6) rfl (fun _ _ ht => px_cwV wgM (wdM_6_in _ (List.mem_of_getElem? (i := 5) rfl)) (wdM_6_in _ (List.mem_of_getElem? (i := 6) rfl)) (wdM_6_in _ (List.mem_of_getElem? (i := 7) rfl)) (wdM_0_in _ (List.mem_of_getElem? (i := 22) rfl)) (wdM_6_in _ (List.mem_of_getElem? (i := 4) rfl)) (by decide +kernel) rfl rfl (by decide) ht) dX6_sounds_35) ?_
  refine px_ok_cons (ps_callS mX6_flag (fun _ _ => rfl) (fun _ _ ht => px_cwS wgM (wdM_3_in _ (List.mem_of_getElem? (i := 10) rfl)) (wdM_3_in _ (List.mem_of_getElem? (i := 11) rfl)) (wdM_0_in _ (List.mem_of_getElem? (i := 22) rfl)) (wdM_0_in _ (List.mem_of_getElem? (i := 28) rfl)) (by decide +kernel) rfl rfl (by decide) ht) dX6_sounds_38) ?_
  refine px_ok_cons (ps_iload dX6_sounds_41) ?_
  refine px_ok_cons (ps_ishl dX6_sounds_43) ?_
  refine px_ok_cons (ps_ior dX6_sounds_44) ?_
  refine px_ok_cons (ps_istore_n dX6_sounds_45 rfl (by decide)) ?_
  refine px_ok_cons (ps_iinc dX6_sounds_46 (by decide) (by decide)) ?_
  refine px_ok_cons (ps_goto dX6_sounds_49 (by decide)) ?_
  refine px_ok_cons (ps_iload_n dX6_sounds_52 rfl) ?_
  refine px_ok_cons (ps_ireturn rfl dX6_sounds_53) ?_
  exact px_ok_nil
set_option maxRecDepth 100000 in
set_option maxHeartbeats 4000000 in
theorem sgX6_sounds_0 {po : Int32 → px_St → Prop} {G : px_K} (hG : px_cl (opX6_sounds po) G) (v1 : Int32) (v2 : Int32) (σ : px_St)
    (H : ∃ g3 : gtX6_isOwn, qrX6_isOwn g3 v1 v2 σ ∧ ∀ (r1 : Int32) (σ2 : px_St), qoX6_isOwn g3 v1 v2 σ r1 σ2 → ((¬ r1 = 0) → G 16 [some (.ref 0), some (.int v1), some (.int v2), some (.int (0 : Int32)), some (.int (0 : Int32))] [] σ2) ∧ (¬ (¬ r1 = 0) → po (-1 : Int32) σ2)) :
    G 0 (px_ent 5 [.ref 0, .int v1, .int v2]) [] σ := by
  refine hG.1 0 _ _ rfl _ _ _ ?_
  refine hG.1 1 _ _ rfl _ _ _ ?_
  refine hG.1 2 _ _ rfl _ _ _ ?_
  refine hG.1 3 _ _ rfl _ _ _ ?_
  obtain ⟨g3, H⟩ := H
  refine ⟨⟨rfl, by decide⟩, Nat.le_of_ble_eq_true rfl, g3, ⟨_, _, rfl, H.1⟩, fun r1 σ2 hp4 => ?_⟩
  replace H := H.2 r1 σ2 hp4
  refine hG.1 4 _ _ rfl _ _ _ ?_
  refine ⟨fun h5 => ?_, fun h5 => ?_⟩
  · replace H := H.1 h5
    refine hG.1 7 _ _ rfl _ _ _ ?_
    refine hG.1 8 _ _ rfl _ _ _ ?_
    show G 13 [some (.ref 0), some (.int v1), some (.int v2), some (.int (0 : Int32)), none] [] σ2
    refine hG.1 9 _ _ rfl _ _ _ ?_
    refine hG.1 10 _ _ rfl _ _ _ ?_
    show G 16 [some (.ref 0), some (.int v1), some (.int v2), some (.int (0 : Int32)), some (.int (0 : Int32))] [] σ2
    exact H
  · replace H := H.2 h5
    refine hG.1 5 _ _ rfl _ _ _ ?_
    refine hG.1 6 _ _ rfl _ _ _ ?_
    exact ⟨rfl, H⟩
set_option maxRecDepth 100000 in
set_option maxHeartbeats 4000000 in
theorem sgX6_sounds_16 {po : Int32 → px_St → Prop} {G : px_K} (hG : px_cl (opX6_sounds po) G) (v1 : Int32) (v2 : Int32) (v3 : Int32) (v4 : Int32) (σ : px_St)
    (H : (((9 : Int32) < v4) → po v3 σ) ∧ (¬ ((9 : Int32) < v4) → ∃ g3 : gtX6_isSoWith, qrX6_isSoWith g3 ((((9 : Int32) * v1) + (3 : Int32)) + v2) v4 σ ∧ ∀ (r1 : Int32) (σ2 : px_St), qoX6_isSoWith g3 ((((9 : Int32) * v1) + (3 : Int32)) + v2) v4 σ r1 σ2 → ∃ g7 : gtX6_flag, qrX6_flag g7 r1 σ2 ∧ ∀ (r5 : Int32) (σ6 : px_St), qoX6_flag g7 r1 σ2 r5 σ6 → G 16 [some (.ref 0), some (.int v1), some (.int v2), some (.int (v3 ||| (r5 <<< (v4 &&& 31)))), some (.int (v4 + 1))] [] σ6)) :
    G 16 [some (.ref 0), some (.int v1), some (.int v2), some (.int v3), some (.int v4)] [] σ := by
  refine hG.1 11 _ _ rfl _ _ _ ?_
  refine hG.1 12 _ _ rfl _ _ _ ?_
  refine hG.1 13 _ _ rfl _ _ _ ?_
  refine ⟨fun h9 => ?_, fun h9 => ?_⟩
  · replace H := H.1 h9
    refine hG.1 32 _ _ rfl _ _ _ ?_
    refine hG.1 33 _ _ rfl _ _ _ ?_
    exact ⟨rfl, H⟩
  · replace H := H.2 h9
    refine hG.1 14 _ _ rfl _ _ _ ?_
    refine hG.1 15 _ _ rfl _ _ _ ?_
    refine hG.1 16 _ _ rfl _ _ _ ?_
    refine hG.1 17 _ _ rfl _ _ _ ?_
    refine hG.1 18 _ _ rfl _ _ _ ?_
    refine hG.1 19 _ _ rfl _ _ _ ?_
    refine hG.1 20 _ _ rfl _ _ _ ?_
    refine hG.1 21 _ _ rfl _ _ _ ?_
    refine hG.1 22 _ _ rfl _ _ _ ?_
    refine hG.1 23 _ _ rfl _ _ _ ?_
    refine hG.1 24 _ _ rfl _ _ _ ?_
    obtain ⟨g3, H⟩ := H
    refine ⟨⟨rfl, by decide⟩, Nat.le_of_ble_eq_true rfl, g3, ⟨_, _, rfl, H.1⟩, fun r1 σ2 hp4 => ?_⟩
    replace H := H.2 r1 σ2 hp4
    refine hG.1 25 _ _ rfl _ _ _ ?_
    obtain ⟨g7, H⟩ := H
    refine ⟨Nat.le_of_ble_eq_true rfl, Nat.le_of_ble_eq_true rfl, g7, ⟨_, rfl, H.1⟩, fun r5 σ6 hp8 => ?_⟩
    replace H := H.2 r5 σ6 hp8
    refine hG.1 26 _ _ rfl _ _ _ ?_
    refine hG.1 27 _ _ rfl _ _ _ ?_
    refine hG.1 28 _ _ rfl _ _ _ ?_
    refine hG.1 29 _ _ rfl _ _ _ ?_
    show G 46 [some (.ref 0), some (.int v1), some (.int v2), some (.int (v3 ||| (r5 <<< (v4 &&& 31)))), some (.int v4)] [] σ6
    refine hG.1 30 _ _ rfl _ _ _ ?_
    show G 49 [some (.ref 0), some (.int v1), some (.int v2), some (.int (v3 ||| (r5 <<< (v4 &&& 31)))), some (.int (v4 + 1))] [] σ6
    refine hG.1 31 _ _ rfl _ _ _ ?_
    exact H
set_option maxRecDepth 100000 in
set_option maxHeartbeats 4000000 in
theorem hhX6_sounds (g : gtX6_sounds) (v1 : Int32) (v2 : Int32) (σ : px_St) (h : qrX6_sounds g v1 v2 σ) (G : px_K) (hG : px_cl (opX6_sounds (qoX6_sounds g v1 v2 σ)) G) : G 0 (px_ent 5 [.ref 0, .int v1, .int v2]) [] σ := by
  obtain ⟨hX, hok⟩ := h
  have hd := hok.1.2
  have hvk := hok.1.1
  have h5 := hvk.1.1
  refine sgX6_sounds_0 hG _ _ σ ⟨g.1, ⟨hX.1, hvk.1⟩, fun r0 σ0 h0 => ?_⟩
  obtain ⟨rfl, b0⟩ := h0
  refine bz1 b0 (fun zp => ?_) (fun zp => ?_)
  · obtain ⟨p, i, hp, hi, rfl, rfl⟩ := pv_own_of hvk.1 zp
    have hl := (hvk.1.2.2.2 p hp).2.1
    obtain ⟨f, hf⟩ : ∃ f : Nat → Bool, f = fun s => pv_asB (pv_snd g.1 p i s) g.2.1 := ⟨_, rfl⟩
    have ex : (x_sounds g (nI p) (nI i)) = (nI (pv_ob f 10), g) := by
      unfold x_sounds
      rw [xif_t zp, nI_clamp (by omega), nI_clamp (by omega), hf]
    have loop : ∀ m k, k + m = 10 → ∀ σ', mk σ0 σ' → G 16 [some (.ref 0), some (.int (nI p)), some (.int (nI i)), some (.int (nI (pv_ob f k))), some (.int (nI k))] [] σ' := by
      intro m
      induction m with
      | zero =>
        intro k hk σ' ho
        have e : k = 10 := by omega
        subst e
        refine sgX6_sounds_16 hG _ _ _ _ σ' ⟨fun _ => ?_, fun q => absurd (by decide) q⟩
        unfold qoX6_sounds
        rw [ex]
        exact ⟨rfl, ho.mo hX⟩
      | succ m ih =>
        intro k hk σ' ho
        have hX' := ho.mo hX
        refine sgX6_sounds_16 hG _ _ _ _ σ' ⟨fun q => absurd ((nIlt 9 k rfl rfl (by omega) (by omega)).mp q) (by omega), fun _ => ⟨(pv_snd g.1 p i k, g.2.1, 9 * p + 3 + i), ⟨by omega, ix93' p i, mv_sndf hX'.1 hvk.1 hp hi, pv_snd_ok hvk hp (by omega), Nat.lt_of_le_of_lt hd (by omega), hX'.2.1, hok.2.1⟩, fun r5 σ5 hq5 => ⟨(), trivial, fun r6 σ6 h6 => ?_⟩⟩⟩
        obtain ⟨b5, -, p3⟩ := hq5
        obtain ⟨rfl, rfl⟩ := h6
        have b6 : px_b (f k = true) r5 := by
          rw [hf]
          show px_b (pv_asB (pv_snd g.1 p i k) g.2.1 = true) r5
          rw [pv_asB_iff]; exact b5
        rw [px_b_nz b6, or_flag (by omega) b6, nI_1]
        exact ih (k + 1) (by omega) _ (ho.tr (mk.of26 p3))
    exact loop 10 0 (by omega) σ0 mk.rf
  · unfold qoX6_sounds x_sounds
    rw [xif_f zp]
    exact ⟨rfl, hX⟩
theorem mX6_sounds (g : gtX6_sounds) : px_Met dM yX6_sounds (Cond.code yX6_sounds cX6_sounds 5 (some .int) :: wdM) rmX6_sounds px_vI (prX6_sounds g) (poX6_sounds g) :=
  px_met (Z := (cX6_sounds, 5, RX6, Cond.code yX6_sounds cX6_sounds 5 (some .int) :: wdM, (some .int), rmX6_sounds, dM)) opX6_sounds (by decide) rfl rfl okX6_sounds (fun As σ h => by obtain ⟨v1, v2, rfl, h⟩ := h; exact Nat.le_of_ble_eq_true rfl) (fun As σ h G hG => by obtain ⟨v1, v2, rfl, h⟩ := h; exact hhX6_sounds g v1 v2 σ h G hG)
theorem got_s (v : Int32) : (v >>> ((16 : Int32) &&& 31)) &&& (32767 : Int32) = nI (pv_got v) := by
  rw [pk_and _ 15 (by decide)]
  unfold pv_got
  have h := pk_shr v ((16 : Int32) &&& 31) 16 (by decide)
  generalize v >>> ((16 : Int32) &&& 31) = u at h
  have e1 : u.toInt = if 2 * u.toBitVec.toNat < 2 ^ 32 then (u.toBitVec.toNat : Int) else (u.toBitVec.toNat : Int) - (2 ^ 32 : Nat) := BitVec.toInt_eq_toNat_cond u.toBitVec
  have e2 : v.toInt = if 2 * v.toBitVec.toNat < 2 ^ 32 then (v.toBitVec.toNat : Int) else (v.toBitVec.toNat : Int) - (2 ^ 32 : Nat) := BitVec.toInt_eq_toNat_cond v.toBitVec
  rw [Int.shiftRight_eq_div_pow] at h
  have l1 : u.toBitVec.toNat < 2 ^ 32 := u.toBitVec.isLt
  have l2 : v.toBitVec.toNat < 2 ^ 32 := v.toBitVec.isLt
  generalize u.toBitVec.toNat = a at *
  generalize v.toBitVec.toNat = b at *
  generalize u.toInt = x at *
  generalize v.toInt = y at *
  congr 1
  split at e1 <;> split at e2 <;> omega
abbrev gtX6_drift : Type := pv_X
def qrX6_drift (X : pv_X) (_ _ _ : Int32) (σ : px_St) : Prop := mo_is σ X ∧ xo X
def qoX6_drift (X : pv_X) (seed n w : Int32) (_ : px_St) (r : Int32) (σ' : px_St) : Prop := r = (x_drift X seed n w).1 ∧ mo_is σ' (x_drift X seed n w).2
def prX6_drift (g : gtX6_drift) : List Value → px_St → Prop := fun As σ => ∃ v1 : Int32, ∃ v2 : Int32, ∃ v3 : Int32, As = [.ref 0, .int v1, .int v2, .int v3] ∧ qrX6_drift g v1 v2 v3 σ
def poX6_drift (g : gtX6_drift) : List Value → px_St → Int32 → px_St → Prop
  | [.ref _, .int v1, .int v2, .int v3], σ, r, σ' => qoX6_drift g v1 v2 v3 σ r σ'
  | _, _, _, _ => False
theorem dX6_drift_0 : decode cX6_drift 0 = .ok (.iload_n 2, 1) := by decide +kernel
theorem dX6_drift_1 : decode cX6_drift 1 = .ok (.i2l, 1) := by decide +kernel
theorem dX6_drift_2 : decode cX6_drift 2 = .ok (.lconst 1, 1) := by decide +kernel
theorem dX6_drift_3 : decode cX6_drift 3 = .ok (.ldc2_w 197, 3) := by decide +kernel
theorem dX6_drift_6 : decode cX6_drift 6 = .ok (.invokestatic 56, 3) := by decide +kernel
theorem dX6_drift_9 : decode cX6_drift 9 = .ok (.ifCond .eq 10, 3) := by decide +kernel
theorem dX6_drift_12 : decode cX6_drift 12 = .ok (.iload_n 3, 1) := by decide +kernel
theorem dX6_drift_13 : decode cX6_drift 13 = .ok (.invokestatic 219, 3) := by decide +kernel
theorem dX6_drift_16 : decode cX6_drift 16 = .ok (.ifCond .ne 5, 3) := by decide +kernel
theorem dX6_drift_19 : decode cX6_drift 19 = .ok (.iconst (-1), 1) := by decide +kernel
theorem dX6_drift_20 : decode cX6_drift 20 = .ok (.ireturn, 1) := by decide +kernel
theorem dX6_drift_21 : decode cX6_drift 21 = .ok (.aload_n 0, 1) := by decide +kernel
theorem dX6_drift_22 : decode cX6_drift 22 = .ok (.getfield 7, 3) := by decide +kernel
theorem dX6_drift_25 : decode cX6_drift 25 = .ok (.bipush 45, 2) := by decide +kernel
theorem dX6_drift_27 : decode cX6_drift 27 = .ok (.iaload, 1) := by decide +kernel
theorem dX6_drift_28 : decode cX6_drift 28 = .ok (.ifCond .ne 6, 3) := by decide +kernel
theorem dX6_drift_31 : decode cX6_drift 31 = .ok (.bipush (-2), 2) := by decide +kernel
theorem dX6_drift_33 : decode cX6_drift 33 = .ok (.ireturn, 1) := by decide +kernel
theorem dX6_drift_34 : decode cX6_drift 34 = .ok (.iload_n 1, 1) := by decide +kernel
theorem dX6_drift_35 : decode cX6_drift 35 = .ok (.istore 4, 2) := by decide +kernel
theorem dX6_drift_37 : decode cX6_drift 37 = .ok (.iconst 0, 1) := by decide +kernel
theorem dX6_drift_38 : decode cX6_drift 38 = .ok (.istore 5, 2) := by decide +kernel
theorem dX6_drift_40 : decode cX6_drift 40 = .ok (.iconst 0, 1) := by decide +kernel
theorem dX6_drift_41 : decode cX6_drift 41 = .ok (.istore 6, 2) := by decide +kernel
theorem dX6_drift_43 : decode cX6_drift 43 = .ok (.aload_n 0, 1) := by decide +kernel
theorem dX6_drift_44 : decode cX6_drift 44 = .ok (.invokevirtual 163, 3) := by decide +kernel
theorem dX6_drift_47 : decode cX6_drift 47 = .ok (.iconst 0, 1) := by decide +kernel
theorem dX6_drift_48 : decode cX6_drift 48 = .ok (.istore 7, 2) := by decide +kernel
theorem dX6_drift_50 : decode cX6_drift 50 = .ok (.iload 7, 2) := by decide +kernel
theorem dX6_drift_52 : decode cX6_drift 52 = .ok (.iload_n 2, 1) := by decide +kernel
theorem dX6_drift_53 : decode cX6_drift 53 = .ok (.if_icmp .ge 73, 3) := by decide +kernel
theorem dX6_drift_56 : decode cX6_drift 56 = .ok (.iload 4, 2) := by decide +kernel
theorem dX6_drift_58 : decode cX6_drift 58 = .ok (.ldc_w 269, 3) := by decide +kernel
theorem dX6_drift_61 : decode cX6_drift 61 = .ok (.imul, 1) := by decide +kernel
theorem dX6_drift_62 : decode cX6_drift 62 = .ok (.sipush 12345, 3) := by decide +kernel
theorem dX6_drift_65 : decode cX6_drift 65 = .ok (.iadd, 1) := by decide +kernel
theorem dX6_drift_66 : decode cX6_drift 66 = .ok (.istore 4, 2) := by decide +kernel
theorem dX6_drift_68 : decode cX6_drift 68 = .ok (.iload 4, 2) := by decide +kernel
theorem dX6_drift_70 : decode cX6_drift 70 = .ok (.bipush 16, 2) := by decide +kernel
theorem dX6_drift_72 : decode cX6_drift 72 = .ok (.ishr, 1) := by decide +kernel
theorem dX6_drift_73 : decode cX6_drift 73 = .ok (.sipush 32767, 3) := by decide +kernel
theorem dX6_drift_76 : decode cX6_drift 76 = .ok (.iand, 1) := by decide +kernel
theorem dX6_drift_77 : decode cX6_drift 77 = .ok (.istore 8, 2) := by decide +kernel
theorem dX6_drift_79 : decode cX6_drift 79 = .ok (.aload_n 0, 1) := by decide +kernel
theorem dX6_drift_80 : decode cX6_drift 80 = .ok (.iload 8, 2) := by decide +kernel
theorem dX6_drift_82 : decode cX6_drift 82 = .ok (.aload_n 0, 1) := by decide +kernel
theorem dX6_drift_83 : decode cX6_drift 83 = .ok (.getfield 7, 3) := by decide +kernel
theorem dX6_drift_86 : decode cX6_drift 86 = .ok (.bipush 45, 2) := by decide +kernel
theorem dX6_drift_88 : decode cX6_drift 88 = .ok (.iaload, 1) := by decide +kernel
theorem dX6_drift_89 : decode cX6_drift 89 = .ok (.irem, 1) := by decide +kernel
theorem dX6_drift_90 : decode cX6_drift 90 = .ok (.iload 8, 2) := by decide +kernel
theorem dX6_drift_92 : decode cX6_drift 92 = .ok (.bipush 8, 2) := by decide +kernel
theorem dX6_drift_94 : decode cX6_drift 94 = .ok (.idiv, 1) := by decide +kernel
theorem dX6_drift_95 : decode cX6_drift 95 = .ok (.bipush 10, 2) := by decide +kernel
theorem dX6_drift_97 : decode cX6_drift 97 = .ok (.irem, 1) := by decide +kernel
theorem dX6_drift_98 : decode cX6_drift 98 = .ok (.invokevirtual 153, 3) := by decide +kernel
theorem dX6_drift_101 : decode cX6_drift 101 = .ok (.aload_n 0, 1) := by decide +kernel
theorem dX6_drift_102 : decode cX6_drift 102 = .ok (.invokevirtual 147, 3) := by decide +kernel
theorem dX6_drift_105 : decode cX6_drift 105 = .ok (.istore 6, 2) := by decide +kernel
theorem dX6_drift_107 : decode cX6_drift 107 = .ok (.iload 5, 2) := by decide +kernel
theorem dX6_drift_109 : decode cX6_drift 109 = .ok (.iconst 1, 1) := by decide +kernel
theorem dX6_drift_110 : decode cX6_drift 110 = .ok (.iload 6, 2) := by decide +kernel
theorem dX6_drift_112 : decode cX6_drift 112 = .ok (.ishl, 1) := by decide +kernel
theorem dX6_drift_113 : decode cX6_drift 113 = .ok (.ior, 1) := by decide +kernel
theorem dX6_drift_114 : decode cX6_drift 114 = .ok (.istore 5, 2) := by decide +kernel
theorem dX6_drift_116 : decode cX6_drift 116 = .ok (.aload_n 0, 1) := by decide +kernel
theorem dX6_drift_117 : decode cX6_drift 117 = .ok (.invokevirtual 156, 3) := by decide +kernel
theorem dX6_drift_120 : decode cX6_drift 120 = .ok (.iinc 7 1, 3) := by decide +kernel
theorem dX6_drift_123 : decode cX6_drift 123 = .ok (.goto (-73), 3) := by decide +kernel
theorem dX6_drift_126 : decode cX6_drift 126 = .ok (.iload_n 3, 1) := by decide +kernel
theorem dX6_drift_127 : decode cX6_drift 127 = .ok (.ifCond .ne 8, 3) := by decide +kernel
theorem dX6_drift_130 : decode cX6_drift 130 = .ok (.iload 6, 2) := by decide +kernel
theorem dX6_drift_132 : decode cX6_drift 132 = .ok (.goto 8, 3) := by decide +kernel
theorem dX6_drift_135 : decode cX6_drift 135 = .ok (.iload 5, 2) := by decide +kernel
theorem dX6_drift_137 : decode cX6_drift 137 = .ok (.invokestatic 194, 3) := by decide +kernel
theorem dX6_drift_140 : decode cX6_drift 140 = .ok (.ireturn, 1) := by decide +kernel
abbrev rmX6_drift : Room := { frames := 4, cells := 0, slots := 0, locals := 93 }
def opX6_drift (po : Int32 → px_St → Prop) : List (Nat × px_Op) := [
  (0, px_il 1 2),
  (1, px_i2l 2),
  (2, px_push 3 (.long 1)),
  (3, px_push 6 (.long 60)),
  (6, px_callS 9 3 px_vI prX6_in poX6_in),
  (9, px_if 12 19 (fun x => x = 0)),
  (12, px_il 13 3),
  (13, px_callS 16 1 px_vI prX6_isPart poX6_isPart),
  (16, px_if 19 21 (fun x => ¬ x = 0)),
  (19, px_push 20 (.int (-1))),
  (20, px_iret (.int) po),
  (21, px_al 22 0),
  (22, px_get dM 25 6 0),
  (25, px_push 27 (.int 45)),
  (27, px_ald dM 28 0),
  (28, px_if 31 34 (fun x => ¬ x = 0)),
  (31, px_push 33 (.int (-2))),
  (33, px_iret (.int) po),
  (34, px_il 35 1),
  (35, px_is 37 4),
  (37, px_push 38 (.int 0)),
  (38, px_is 40 5),
  (40, px_push 41 (.int 0)),
  (41, px_is 43 6),
  (43, px_al 44 0),
  (44, px_callV dM 47 6 0 px_vV prX6_starts poX6_starts),
  (47, px_push 48 (.int 0)),
  (48, px_is 50 7),
  (50, px_il 52 7),
  (52, px_il 53 2),
  (53, px_ic 56 126 (fun x y => y ≤ x)),
  (56, px_il 58 4),
  (58, px_push 61 (.int 1103515245)),
  (61, px_bin 62 (fun x y => x * y)),
  (62, px_push 65 (.int 12345)),
  (65, px_bin 66 (fun x y => x + y)),
  (66, px_is 68 4),
  (68, px_il 70 4),
  (70, px_push 72 (.int 16)),
  (72, px_bin 73 (fun x y => x >>> (y &&& 31))),
  (73, px_push 76 (.int 32767)),
  (76, px_bin 77 (fun x y => x &&& y)),
  (77, px_is 79 8),
  (79, px_al 80 0),
  (80, px_il 82 8),
  (82, px_al 83 0),
  (83, px_get dM 86 6 0),
  (86, px_push 88 (.int 45)),
  (88, px_ald dM 89 0),
  (89, px_div 90 (fun x y => x - x / y * y)),
  (90, px_il 92 8),
  (92, px_push 94 (.int 8)),
  (94, px_div 95 (fun x y => x / y)),
  (95, px_push 97 (.int 10)),
  (97, px_div 98 (fun x y => x - x / y * y)),
  (98, px_callV dM 101 6 2 px_vV prX6_learns poX6_learns),
  (101, px_al 102 0),
  (102, px_callV dM 105 6 0 px_vI prX6_saidNow poX6_saidNow),
  (105, px_is 107 6),
  (107, px_il 109 5),
  (109, px_push 110 (.int 1)),
  (110, px_il 112 6),
  (112, px_bin 113 (fun x y => x <<< (y &&& 31))),
  (113, px_bin 114 (fun x y => x ||| y)),
  (114, px_is 116 5),
  (116, px_al 117 0),
  (117, px_callV dM 120 6 0 px_vV prX6_dayGoes poX6_dayGoes),
  (120, px_inc 123 7 1),
  (123, px_go 50),
  (126, px_il 127 3),
  (127, px_if 130 135 (fun x => ¬ x = 0)),
  (130, px_il 132 6),
  (132, px_go 140),
  (135, px_il 137 5),
  (137, px_callS 140 1 px_vI prX6_bitsOf poX6_bitsOf),
  (140, px_iret (.int) po)]
set_option maxRecDepth 100000 in
set_option maxHeartbeats 4000000 in
theorem okX6_drift : ∀ (po : Int32 → px_St → Prop) (i pc : Nat) (op : px_Op), (opX6_drift po)[i]? = some (pc, op) → px_Snd (cX6_drift, 9, RX6, Cond.code yX6_drift cX6_drift 9 (some .int) :: wdM, (some .int), rmX6_drift, dM) px_vI po pc op := by
  intro po
  unfold opX6_drift
  refine px_ok_cons (ps_iload_n dX6_drift_0 rfl) ?_
  refine px_ok_cons (ps_i2l dX6_drift_1) ?_
  refine px_ok_cons (ps_lconst dX6_drift_2 (by decide)) ?_
  refine px_ok_cons (ps_ldc2 (List.mem_cons_of_mem _ (wdM_4_in _ (List.mem_of_getElem? (i := 17) rfl))) dX6_drift_3) ?_
  refine px_ok_cons (ps_callS mX6_in (fun _ _ => rfl) (fun _ _ ht => px_cwS wgM (wdM_0_in _ (List.mem_of_getElem? (i := 32) rfl)) (wdM_0_in _ (List.mem_of_getElem? (i := 33) rfl)) (wdM_0_in _ (List.mem_of_getElem? (i := 22) rfl)) (wdM_0_in _ (List.mem_of_getElem? (i := 27) rfl)) (by decide +kernel) rfl rfl (by decide) ht) dX6_drift_6) ?_
  refine px_ok_cons (ps_if_eq dX6_drift_9 (by decide)) ?_
  refine px_ok_cons (ps_iload_n dX6_drift_12 rfl) ?_
  refine px_ok_cons (ps_callS mX6_isPart (fun _ _ => rfl) (fun _ _ ht => px_cwS wgM (wdM_4_in _ (List.mem_of_getElem? (i := 39) rfl)) (wdM_5_in _ (List.mem_of_getElem? (i := 0) rfl)) (wdM_0_in _ (List.mem_of_getElem? (i := 22) rfl)) (wdM_2_in _ (List.mem_of_getElem? (i := 10) rfl)) (by decide +kernel) rfl rfl (by decide) ht) dX6_drift_13) ?_
  refine px_ok_cons (ps_if_ne dX6_drift_16 (by decide)) ?_
  refine px_ok_cons (ps_iconst dX6_drift_19 (by decide)) ?_
  refine px_ok_cons (ps_ireturn rfl dX6_drift_20) ?_
  refine px_ok_cons (ps_aload_n dX6_drift_21 rfl) ?_
  refine px_ok_cons (fgX6_7 dX6_drift_22) ?_
  refine px_ok_cons (ps_bipush dX6_drift_25 (by decide)) ?_
  refine px_ok_cons (ps_iaload dX6_drift_27) ?_
  refine px_ok_cons (ps_if_ne dX6_drift_28 (by decide)) ?_
  refine px_ok_cons (ps_bipush dX6_drift_31 (by decide)) ?_
  refine px_ok_cons (ps_ireturn rfl dX6_drift_33) ?_
  refine px_ok_cons (ps_iload_n dX6_drift_34 rfl) ?_
  refine px_ok_cons (ps_istore dX6_drift_35 (by decide)) ?_
  refine px_ok_cons (ps_iconst dX6_drift_37 (by decide)) ?_
  refine px_ok_cons (ps_istore dX6_drift_38 (by decide)) ?_
  refine px_ok_cons (ps_iconst dX6_drift_40 (by decide)) ?_
  refine px_ok_cons (ps_istore dX6_drift_41 (by decide)) ?_
  refine px_ok_cons (ps_aload_n dX6_drift_43 rfl) ?_
  refine px_ok_cons (ps_callV mX6_starts (fun _ _ => rfl) (C := RX6) rfl (fun _ _ ht => px_cwV wgM (wdM_3_in _ (List.mem_of_getElem? (i := 19) rfl)) (wdM_3_in _ (List.mem_of_getElem? (i := 20) rfl)) (wdM_3_in _ (List.mem_of_getElem? (i := 21) rfl)) (wdM_0_in _ (List.mem_of_getElem? (i := 22) rfl)) (wdM_2_in _ (List.mem_of_getElem? (i := 11) rfl)) (by decide +kernel) rfl rfl (by decide) ht) dX6_drift_44) ?_
  refine px_ok_cons (ps_iconst dX6_drift_47 (by decide)) ?_
  refine px_ok_cons (ps_istore dX6_drift_48 (by decide)) ?_
  refine px_ok_cons (ps_iload dX6_drift_50) ?_
  refine px_ok_cons (ps_iload_n dX6_drift_52 rfl) ?_
  refine px_ok_cons (ps_icmp_ge dX6_drift_53 (by decide)) ?_
  refine px_ok_cons (ps_iload dX6_drift_56) ?_
  refine px_ok_cons (ps_ldcw (List.mem_cons_of_mem _ (wdM_6_in _ (List.mem_of_getElem? (i := 11) rfl))) dX6_drift_58) ?_
  refine px_ok_cons (ps_imul dX6_drift_61) ?_
  refine px_ok_cons (ps_sipush dX6_drift_62 (by decide)) ?_
  refine px_ok_cons (ps_iadd dX6_drift_65) ?_
  refine px_ok_cons (ps_istore dX6_drift_66 (by decide)) ?_
  refine px_ok_cons (ps_iload dX6_drift_68) ?_
  refine px_ok_cons (ps_bipush dX6_drift_70 (by decide)) ?_
  refine px_ok_cons (ps_ishr dX6_drift_72) ?_
  refine px_ok_cons (ps_sipush dX6_drift_73 (by decide)) ?_
  refine px_ok_cons (ps_iand dX6_drift_76) ?_
  refine px_ok_cons (ps_istore dX6_drift_77 (by decide)) ?_
  refine px_ok_cons (ps_aload_n dX6_drift_79 rfl) ?_
  refine px_ok_cons (ps_iload dX6_drift_80) ?_
  refine px_ok_cons (ps_aload_n dX6_drift_82 rfl) ?_
  refine px_ok_cons (fgX6_7 dX6_drift_83) ?_
  refine px_ok_cons (ps_bipush dX6_drift_86 (by decide)) ?_
  refine px_ok_cons (ps_iaload dX6_drift_88) ?_
  refine px_ok_cons (ps_irem dX6_drift_89) ?_
  refine px_ok_cons (ps_iload dX6_drift_90) ?_
  refine px_ok_cons (ps_bipush dX6_drift_92 (by decide)) ?_
  refine px_ok_cons (ps_idiv dX6_drift_94) ?_
  refine px_ok_cons (ps_bipush dX6_drift_95 (by decide)) ?_
  refine px_ok_cons (ps_irem dX6_drift_97) ?_
  refine px_ok_cons (ps_callV mX6_learns (fun _ _ => rfl) (C := RX6) rfl (fun _ _ ht => px_cwV wgM (wdM_3_in _ (List.mem_of_getElem? (i := 2) rfl)) (wdM_3_in _ (List.mem_of_getElem? (i := 3) rfl)) (wdM_3_in _ (List.mem_of_getElem? (i := 4) rfl)) (wdM_0_in _ (List.mem_of_getElem? (i := 22) rfl)) (wdM_2_in _ (List.mem_of_getElem? (i := 25) rfl)) (by decide +kernel) rfl rfl (by decide) ht) dX6_drift_98) ?_
  refine px_ok_cons (ps_aload_n dX6_drift_101 rfl) ?_
  refine px_ok_cons (ps_callV mX6_saidNow (fun _ _ => rfl) (C := RX6) rfl (fun _ _ ht => px_cwV wgM (wdM_2_in _ (List.mem_of_getElem? (i := 36) rfl)) (wdM_2_in _ (List.mem_of_getElem? (i := 37) rfl)) (wdM_2_in _ (List.mem_of_getElem? (i := 38) rfl)) (wdM_0_in _ (List.mem_of_getElem? (i := 22) rfl)) (wdM_2_in _ (List.mem_of_getElem? (i := 35) rfl)) (by decide +kernel) rfl rfl (by decide) ht) dX6_drift_102) ?_
  refine px_ok_cons (ps_istore dX6_drift_105 (by decide)) ?_
  refine px_ok_cons (ps_iload dX6_drift_107) ?_
  refine px_ok_cons (ps_iconst dX6_drift_109 (by decide)) ?_
  refine px_ok_cons (ps_iload dX6_drift_110) ?_
  refine px_ok_cons (ps_ishl dX6_drift_112) ?_
  refine px_ok_cons (ps_ior dX6_drift_113) ?_
  refine px_ok_cons (ps_istore dX6_drift_114 (by decide)) ?_
  refine px_ok_cons (ps_aload_n dX6_drift_116 rfl) ?_
  refine px_ok_cons (ps_callV mX6_dayGoes (fun _ _ => rfl) (C := RX6) rfl (fun _ _ ht => px_cwV wgM (wdM_3_in _ (List.mem_of_getElem? (i := 6) rfl)) (wdM_3_in _ (List.mem_of_getElem? (i := 7) rfl)) (wdM_3_in _ (List.mem_of_getElem? (i := 8) rfl)) (wdM_0_in _ (List.mem_of_getElem? (i := 22) rfl)) (wdM_3_in _ (List.mem_of_getElem? (i := 5) rfl)) (by decide +kernel) rfl rfl (by decide) ht) dX6_drift_117) ?_
  refine px_ok_cons (ps_iinc dX6_drift_120 (by decide) (by decide)) ?_
  refine px_ok_cons (ps_goto dX6_drift_123 (by decide)) ?_
  refine px_ok_cons (ps_iload_n dX6_drift_126 rfl) ?_
  refine px_ok_cons (ps_if_ne dX6_drift_127 (by decide)) ?_
  refine px_ok_cons (ps_iload dX6_drift_130) ?_
  refine px_ok_cons (ps_goto dX6_drift_132 (by decide)) ?_
  refine px_ok_cons (ps_iload dX6_drift_135) ?_
  refine px_ok_cons (ps_callS mX6_bitsOf (fun _ _ => rfl) (fun _ _ ht => px_cwS wgM (wdM_4_in _ (List.mem_of_getElem? (i := 13) rfl)) (wdM_4_in _ (List.mem_of_getElem? (i := 14) rfl)) (wdM_0_in _ (List.mem_of_getElem? (i := 22) rfl)) (wdM_3_in _ (List.mem_of_getElem? (i := 17) rfl)) (by decide +kernel) rfl rfl (by decide) ht) dX6_drift_137) ?_
  refine px_ok_cons (ps_ireturn rfl dX6_drift_140) ?_
  exact px_ok_nil
set_option maxRecDepth 100000 in
set_option maxHeartbeats 4000000 in
theorem sgX6_drift_0 {po : Int32 → px_St → Prop} {G : px_K} (hG : px_cl (opX6_drift po) G) (v1 : Int32) (v2 : Int32) (v3 : Int32) (σ : px_St)
    (H : ∃ g3 : gtX6_in, qrX6_in g3 v2.toInt64 (1 : Int64) (60 : Int64) σ ∧ ∀ (r1 : Int32) (σ2 : px_St), qoX6_in g3 v2.toInt64 (1 : Int64) (60 : Int64) σ r1 σ2 → ((r1 = 0) → po (-1 : Int32) σ2) ∧ (¬ (r1 = 0) → ∃ g7 : gtX6_isPart, qrX6_isPart g7 v3 σ2 ∧ ∀ (r5 : Int32) (σ6 : px_St), qoX6_isPart g7 v3 σ2 r5 σ6 → ((¬ r5 = 0) → vp_in (45 : Int32) 183 ∧ ((¬ (σ6.1 1 (45 : Int32).toNatClampNeg) = 0) → ∃ g11 : gtX6_starts, qrX6_starts g11 σ6 ∧ ∀ (r9 : Unit) (σ10 : px_St), qoX6_starts g11 σ6 r9 σ10 → G 50 [some (.ref 0), some (.int v1), some (.int v2), some (.int v3), some (.int v1), some (.int (0 : Int32)), some (.int (0 : Int32)), some (.int (0 : Int32)), none] [] σ10) ∧ (¬ (¬ (σ6.1 1 (45 : Int32).toNatClampNeg) = 0) → po (-2 : Int32) σ6)) ∧ (¬ (¬ r5 = 0) → po (-1 : Int32) σ6))) :
    G 0 (px_ent 9 [.ref 0, .int v1, .int v2, .int v3]) [] σ := by
  refine hG.1 0 _ _ rfl _ _ _ ?_
  refine hG.1 1 _ _ rfl _ _ _ ?_
  refine hG.1 2 _ _ rfl _ _ _ ?_
  refine hG.1 3 _ _ rfl _ _ _ ?_
  refine hG.1 4 _ _ rfl _ _ _ ?_
  obtain ⟨g3, H⟩ := H
  refine ⟨Nat.le_of_ble_eq_true rfl, Nat.le_of_ble_eq_true rfl, g3, ⟨_, _, _, rfl, H.1⟩, fun r1 σ2 hp4 => ?_⟩
  replace H := H.2 r1 σ2 hp4
  refine hG.1 5 _ _ rfl _ _ _ ?_
  refine ⟨fun h15 => ?_, fun h15 => ?_⟩
  · replace H := H.1 h15
    refine hG.1 9 _ _ rfl _ _ _ ?_
    refine hG.1 10 _ _ rfl _ _ _ ?_
    exact ⟨rfl, H⟩
  · replace H := H.2 h15
    refine hG.1 6 _ _ rfl _ _ _ ?_
    refine hG.1 7 _ _ rfl _ _ _ ?_
    obtain ⟨g7, H⟩ := H
    refine ⟨Nat.le_of_ble_eq_true rfl, Nat.le_of_ble_eq_true rfl, g7, ⟨_, rfl, H.1⟩, fun r5 σ6 hp8 => ?_⟩
    replace H := H.2 r5 σ6 hp8
    refine hG.1 8 _ _ rfl _ _ _ ?_
    refine ⟨fun h14 => ?_, fun h14 => ?_⟩
    · replace H := H.1 h14
      refine hG.1 11 _ _ rfl _ _ _ ?_
      refine hG.1 12 _ _ rfl _ _ _ ?_
      refine ⟨⟨rfl, by decide⟩, ?_⟩
      refine hG.1 13 _ _ rfl _ _ _ ?_
      refine hG.1 14 _ _ rfl _ _ _ ?_
      refine ⟨⟨rfl, by decide⟩, H.1, ?_⟩
      replace H := H.2
      refine hG.1 15 _ _ rfl _ _ _ ?_
      refine ⟨fun h13 => ?_, fun h13 => ?_⟩
      · replace H := H.1 h13
        refine hG.1 18 _ _ rfl _ _ _ ?_
        refine hG.1 19 _ _ rfl _ _ _ ?_
        show G 37 [some (.ref 0), some (.int v1), some (.int v2), some (.int v3), some (.int v1), none, none, none, none] [] σ6
        refine hG.1 20 _ _ rfl _ _ _ ?_
        refine hG.1 21 _ _ rfl _ _ _ ?_
        show G 40 [some (.ref 0), some (.int v1), some (.int v2), some (.int v3), some (.int v1), some (.int (0 : Int32)), none, none, none] [] σ6
        refine hG.1 22 _ _ rfl _ _ _ ?_
        refine hG.1 23 _ _ rfl _ _ _ ?_
        show G 43 [some (.ref 0), some (.int v1), some (.int v2), some (.int v3), some (.int v1), some (.int (0 : Int32)), some (.int (0 : Int32)), none, none] [] σ6
        refine hG.1 24 _ _ rfl _ _ _ ?_
        refine hG.1 25 _ _ rfl _ _ _ ?_
        obtain ⟨g11, H⟩ := H
        refine ⟨⟨rfl, by decide⟩, Nat.le_of_ble_eq_true rfl, g11, ⟨rfl, H.1⟩, fun r9 σ10 hp12 => ?_⟩
        replace H := H.2 r9 σ10 hp12
        refine hG.1 26 _ _ rfl _ _ _ ?_
        refine hG.1 27 _ _ rfl _ _ _ ?_
        show G 50 [some (.ref 0), some (.int v1), some (.int v2), some (.int v3), some (.int v1), some (.int (0 : Int32)), some (.int (0 : Int32)), some (.int (0 : Int32)), none] [] σ10
        exact H
      · replace H := H.2 h13
        refine hG.1 16 _ _ rfl _ _ _ ?_
        refine hG.1 17 _ _ rfl _ _ _ ?_
        exact ⟨rfl, H⟩
    · replace H := H.2 h14
      refine hG.1 9 _ _ rfl _ _ _ ?_
      refine hG.1 10 _ _ rfl _ _ _ ?_
      exact ⟨rfl, H⟩
set_option maxRecDepth 100000 in
set_option maxHeartbeats 4000000 in
theorem sgX6_drift_50 {po : Int32 → px_St → Prop} {G : px_K} (hG : px_cl (opX6_drift po) G) (v1 : Int32) (v2 : Int32) (v3 : Int32) (v4 : Int32) (v5 : Int32) (v6 : Int32) (v7 : Int32) (σ : px_St)
    (H : ((v2 ≤ v7) → ((¬ v3 = 0) → ∃ g3 : gtX6_bitsOf, qrX6_bitsOf g3 v5 σ ∧ ∀ (r1 : Int32) (σ2 : px_St), qoX6_bitsOf g3 v5 σ r1 σ2 → po r1 σ2) ∧ (¬ (¬ v3 = 0) → po v6 σ)) ∧ (¬ (v2 ≤ v7) → vp_in (45 : Int32) 183 ∧ ¬ (σ.1 1 (45 : Int32).toNatClampNeg) = 0 ∧ ∃ g8 : gtX6_learns, qrX6_learns g8 (((((v4 * (1103515245 : Int32)) + (12345 : Int32)) >>> ((16 : Int32) &&& 31)) &&& (32767 : Int32)) - ((((v4 * (1103515245 : Int32)) + (12345 : Int32)) >>> ((16 : Int32) &&& 31)) &&& (32767 : Int32)) / (σ.1 1 (45 : Int32).toNatClampNeg) * (σ.1 1 (45 : Int32).toNatClampNeg)) ((((((v4 * (1103515245 : Int32)) + (12345 : Int32)) >>> ((16 : Int32) &&& 31)) &&& (32767 : Int32)) / (8 : Int32)) - (((((v4 * (1103515245 : Int32)) + (12345 : Int32)) >>> ((16 : Int32) &&& 31)) &&& (32767 : Int32)) / (8 : Int32)) / (10 : Int32) * (10 : Int32)) σ ∧ ∀ (r6 : Unit) (σ7 : px_St), qoX6_learns g8 (((((v4 * (1103515245 : Int32)) + (12345 : Int32)) >>> ((16 : Int32) &&& 31)) &&& (32767 : Int32)) - ((((v4 * (1103515245 : Int32)) + (12345 : Int32)) >>> ((16 : Int32) &&& 31)) &&& (32767 : Int32)) / (σ.1 1 (45 : Int32).toNatClampNeg) * (σ.1 1 (45 : Int32).toNatClampNeg)) ((((((v4 * (1103515245 : Int32)) + (12345 : Int32)) >>> ((16 : Int32) &&& 31)) &&& (32767 : Int32)) / (8 : Int32)) - (((((v4 * (1103515245 : Int32)) + (12345 : Int32)) >>> ((16 : Int32) &&& 31)) &&& (32767 : Int32)) / (8 : Int32)) / (10 : Int32) * (10 : Int32)) σ r6 σ7 → ∃ g12 : gtX6_saidNow, qrX6_saidNow g12 σ7 ∧ ∀ (r10 : Int32) (σ11 : px_St), qoX6_saidNow g12 σ7 r10 σ11 → ∃ g16 : gtX6_dayGoes, qrX6_dayGoes g16 σ11 ∧ ∀ (r14 : Unit) (σ15 : px_St), qoX6_dayGoes g16 σ11 r14 σ15 → G 50 [some (.ref 0), some (.int v1), some (.int v2), some (.int v3), some (.int ((v4 * (1103515245 : Int32)) + (12345 : Int32))), some (.int (v5 ||| ((1 : Int32) <<< (r10 &&& 31)))), some (.int r10), some (.int (v7 + 1)), none] [] σ15)) :
    G 50 [some (.ref 0), some (.int v1), some (.int v2), some (.int v3), some (.int v4), some (.int v5), some (.int v6), some (.int v7), none] [] σ := by
  refine hG.1 28 _ _ rfl _ _ _ ?_
  refine hG.1 29 _ _ rfl _ _ _ ?_
  refine hG.1 30 _ _ rfl _ _ _ ?_
  refine ⟨fun h18 => ?_, fun h18 => ?_⟩
  · replace H := H.1 h18
    refine hG.1 69 _ _ rfl _ _ _ ?_
    refine hG.1 70 _ _ rfl _ _ _ ?_
    refine ⟨fun h5 => ?_, fun h5 => ?_⟩
    · replace H := H.1 h5
      refine hG.1 73 _ _ rfl _ _ _ ?_
      refine hG.1 74 _ _ rfl _ _ _ ?_
      obtain ⟨g3, H⟩ := H
      refine ⟨Nat.le_of_ble_eq_true rfl, Nat.le_of_ble_eq_true rfl, g3, ⟨_, rfl, H.1⟩, fun r1 σ2 hp4 => ?_⟩
      replace H := H.2 r1 σ2 hp4
      refine hG.1 75 _ _ rfl _ _ _ ?_
      exact ⟨rfl, H⟩
    · replace H := H.2 h5
      refine hG.1 71 _ _ rfl _ _ _ ?_
      refine hG.1 72 _ _ rfl _ _ _ ?_
      refine hG.1 75 _ _ rfl _ _ _ ?_
      exact ⟨rfl, H⟩
  · replace H := H.2 h18
    refine hG.1 31 _ _ rfl _ _ _ ?_
    refine hG.1 32 _ _ rfl _ _ _ ?_
    refine hG.1 33 _ _ rfl _ _ _ ?_
    refine hG.1 34 _ _ rfl _ _ _ ?_
    refine hG.1 35 _ _ rfl _ _ _ ?_
    refine hG.1 36 _ _ rfl _ _ _ ?_
    show G 68 [some (.ref 0), some (.int v1), some (.int v2), some (.int v3), some (.int ((v4 * (1103515245 : Int32)) + (12345 : Int32))), some (.int v5), some (.int v6), some (.int v7), none] [] σ
    refine hG.1 37 _ _ rfl _ _ _ ?_
    refine hG.1 38 _ _ rfl _ _ _ ?_
    refine hG.1 39 _ _ rfl _ _ _ ?_
    refine hG.1 40 _ _ rfl _ _ _ ?_
    refine hG.1 41 _ _ rfl _ _ _ ?_
    refine hG.1 42 _ _ rfl _ _ _ ?_
    show G 79 [some (.ref 0), some (.int v1), some (.int v2), some (.int v3), some (.int ((v4 * (1103515245 : Int32)) + (12345 : Int32))), some (.int v5), some (.int v6), some (.int v7), some (.int ((((v4 * (1103515245 : Int32)) + (12345 : Int32)) >>> ((16 : Int32) &&& 31)) &&& (32767 : Int32)))] [] σ
    refine hG.1 43 _ _ rfl _ _ _ ?_
    refine hG.1 44 _ _ rfl _ _ _ ?_
    refine hG.1 45 _ _ rfl _ _ _ ?_
    refine hG.1 46 _ _ rfl _ _ _ ?_
    refine ⟨⟨rfl, by decide⟩, ?_⟩
    refine hG.1 47 _ _ rfl _ _ _ ?_
    refine hG.1 48 _ _ rfl _ _ _ ?_
    refine ⟨⟨rfl, by decide⟩, H.1, ?_⟩
    replace H := H.2
    refine hG.1 49 _ _ rfl _ _ _ ?_
    refine ⟨H.1, ?_⟩
    replace H := H.2
    refine hG.1 50 _ _ rfl _ _ _ ?_
    refine hG.1 51 _ _ rfl _ _ _ ?_
    refine hG.1 52 _ _ rfl _ _ _ ?_
    refine ⟨by decide, ?_⟩
    refine hG.1 53 _ _ rfl _ _ _ ?_
    refine hG.1 54 _ _ rfl _ _ _ ?_
    refine ⟨by decide, ?_⟩
    refine hG.1 55 _ _ rfl _ _ _ ?_
    obtain ⟨g8, H⟩ := H
    refine ⟨⟨rfl, by decide⟩, Nat.le_of_ble_eq_true rfl, g8, ⟨_, _, rfl, H.1⟩, fun r6 σ7 hp9 => ?_⟩
    replace H := H.2 r6 σ7 hp9
    refine hG.1 56 _ _ rfl _ _ _ ?_
    refine hG.1 57 _ _ rfl _ _ _ ?_
    obtain ⟨g12, H⟩ := H
    refine ⟨⟨rfl, by decide⟩, Nat.le_of_ble_eq_true rfl, g12, ⟨rfl, H.1⟩, fun r10 σ11 hp13 => ?_⟩
    replace H := H.2 r10 σ11 hp13
    refine hG.1 58 _ _ rfl _ _ _ ?_
    show G 107 [some (.ref 0), some (.int v1), some (.int v2), some (.int v3), some (.int ((v4 * (1103515245 : Int32)) + (12345 : Int32))), some (.int v5), some (.int r10), some (.int v7), some (.int ((((v4 * (1103515245 : Int32)) + (12345 : Int32)) >>> ((16 : Int32) &&& 31)) &&& (32767 : Int32)))] [] σ11
    refine hG.1 59 _ _ rfl _ _ _ ?_
    refine hG.1 60 _ _ rfl _ _ _ ?_
    refine hG.1 61 _ _ rfl _ _ _ ?_
    refine hG.1 62 _ _ rfl _ _ _ ?_
    refine hG.1 63 _ _ rfl _ _ _ ?_
    refine hG.1 64 _ _ rfl _ _ _ ?_
    show G 116 [some (.ref 0), some (.int v1), some (.int v2), some (.int v3), some (.int ((v4 * (1103515245 : Int32)) + (12345 : Int32))), some (.int (v5 ||| ((1 : Int32) <<< (r10 &&& 31)))), some (.int r10), some (.int v7), some (.int ((((v4 * (1103515245 : Int32)) + (12345 : Int32)) >>> ((16 : Int32) &&& 31)) &&& (32767 : Int32)))] [] σ11
    refine hG.1 65 _ _ rfl _ _ _ ?_
    refine hG.1 66 _ _ rfl _ _ _ ?_
    obtain ⟨g16, H⟩ := H
    refine ⟨⟨rfl, by decide⟩, Nat.le_of_ble_eq_true rfl, g16, ⟨rfl, H.1⟩, fun r14 σ15 hp17 => ?_⟩
    replace H := H.2 r14 σ15 hp17
    refine hG.1 67 _ _ rfl _ _ _ ?_
    show G 123 [some (.ref 0), some (.int v1), some (.int v2), some (.int v3), some (.int ((v4 * (1103515245 : Int32)) + (12345 : Int32))), some (.int (v5 ||| ((1 : Int32) <<< (r10 &&& 31)))), some (.int r10), some (.int (v7 + 1)), some (.int ((((v4 * (1103515245 : Int32)) + (12345 : Int32)) >>> ((16 : Int32) &&& 31)) &&& (32767 : Int32)))] [] σ15
    refine hG.1 68 _ _ rfl _ _ _ ?_
    refine hG.2 50 [some (.ref 0), some (.int v1), some (.int v2), some (.int v3), some (.int ((v4 * (1103515245 : Int32)) + (12345 : Int32))), some (.int (v5 ||| ((1 : Int32) <<< (r10 &&& 31)))), some (.int r10), some (.int (v7 + 1)), none] _ _ _ ⟨rfl, rfl, rfl, rfl, rfl, rfl, rfl, rfl, trivial⟩ ?_
    exact H
set_option maxRecDepth 100000 in
set_option maxHeartbeats 4000000 in
theorem hhX6_drift (g : gtX6_drift) (v1 : Int32) (v2 : Int32) (v3 : Int32) (σ : px_St) (h : qrX6_drift g v1 v2 v3 σ) (G : px_K) (hG : px_cl (opX6_drift (qoX6_drift g v1 v2 v3 σ)) G) : G 0 (px_ent 9 [.ref 0, .int v1, .int v2, .int v3]) [] σ := by
  obtain ⟨hX, hok⟩ := h
  have hd := hok.1.2
  have hvk := hok.1.1
  have h5 := hvk.1.1
  refine sgX6_drift_0 hG _ _ _ σ ⟨(), trivial, fun r0 σ0 h0 => ?_⟩
  obtain ⟨rfl, b0⟩ := h0
  refine bz2 (in_c (a := 1) (b := 60) (by decide) (by decide) b0) (fun z => ⟨(), trivial, fun r1 σ1 h1 => ?_⟩) (fun z => ?_)
  · obtain ⟨rfl, b1⟩ := h1
    refine bz1 b1 (fun y => ?_) (fun y => ?_)
    · obtain ⟨n, hn, rfl⟩ := (rngc 60 60 rfl (by omega)).mp ⟨Int32.le_trans (by decide) z.1, z.2⟩
      have hn1 : 1 ≤ n := (nIle 1 n rfl rfl (by omega) (by omega)).mp z.1
      rw [c45, hX.1.1.1]
      refine ⟨i45, fun h1 => ⟨(), trivial, fun _ σ4 h4 => ?_⟩, fun h1 => ?_⟩
      · have hg0 : 0 < g.1.1 := Nat.pos_of_ne_zero (fun e => h1 (by rw [e]; rfl))
        have ex : (x_drift g v1 (nI n) v3) = (if v3 = 0 then (pv_dr g.1 v1 n).2.2.2 else nI (pv_pc (pv_dr g.1 v1 n).2.2.1 10), g) := by
          unfold x_drift
          rw [xif_t ⟨z, y⟩, xif_f (by omega), nI_clamp (by omega)]
        have loop : ∀ m k, k + m = n → (pv_dr g.1 v1 k).2.2.1 < 1024 → ∀ l σ', (0 < k → l = (pv_dr g.1 v1 k).2.2.2) → mv_is (σ'.1 2) (pv_dr g.1 v1 k).2.1 → mk σ1 σ' → G 50 [some (.ref 0), some (.int v1), some (.int (nI n)), some (.int v3), some (.int (pv_dr g.1 v1 k).1), some (.int (nI (pv_dr g.1 v1 k).2.2.1)), some (.int l), some (.int (nI k)), none] [] σ' := by
          intro m
          induction m with
          | zero =>
            intro k hk hb l σ' hl hW ho
            have e : k = n := by omega
            subst e
            have hl := hl (by omega)
            subst hl
            refine sgX6_drift_50 hG _ _ _ _ _ _ _ σ' ⟨fun _ => ⟨fun w0 => ⟨_, ⟨hb, rfl⟩, fun r σ5 hq => ?_⟩, fun w0 => ?_⟩, fun q => absurd (Int32.le_refl _) q⟩
            · obtain ⟨rfl, rfl⟩ := hq
              unfold qoX6_drift
              rw [ex]
              refine ⟨?_, ho.mo hX⟩
              show _ = if _ then _ else _
              rw [if_neg w0]
            · unfold qoX6_drift
              rw [ex]
              refine ⟨?_, ho.mo hX⟩
              show _ = if _ then _ else _
              rw [if_pos (Classical.byContradiction w0)]
          | succ m ih =>
            intro k hk hb l σ' hl hW ho
            obtain ⟨d1, d2, d3⟩ := pv_dr_ok hvk hg0 v1 k (by omega)
            have hX' := ho.mo hX
            have hgl : pv_got (pv_lot (pv_dr g.1 v1 k).1) < 32768 := Nat.mod_lt _ (by omega)
            refine sgX6_drift_50 hG _ _ _ _ _ _ _ σ' ⟨fun q => absurd q (nI_ge (by omega) (by omega)), fun _ => ?_⟩
            rw [show (pv_dr g.1 v1 k).1 * 1103515245 + 12345 = pv_lot (pv_dr g.1 v1 k).1 from rfl, got_s, c45, hX'.1.1.1, pk_rem (by omega) hg0 (by omega), show nI (pv_got (pv_lot (pv_dr g.1 v1 k).1)) / 8 = nI (pv_got (pv_lot (pv_dr g.1 v1 k).1) / 8) from pk_div (d := 8) (by omega) (by omega) (by omega), show nI (pv_got (pv_lot (pv_dr g.1 v1 k).1) / 8) - nI (pv_got (pv_lot (pv_dr g.1 v1 k).1) / 8) / 10 * 10 = nI (pv_got (pv_lot (pv_dr g.1 v1 k).1) / 8 % 10) from pk_rem (d := 10) (by omega) (by omega) (by omega)]
            have hpl : pv_got (pv_lot (pv_dr g.1 v1 k).1) % g.1.1 < (pv_dr g.1 v1 k).2.1.1 := by rw [d2]; exact Nat.mod_lt _ hg0
            have hsl : pv_got (pv_lot (pv_dr g.1 v1 k).1) / 8 % 10 ≤ 9 := by have := Nat.mod_lt (pv_got (pv_lot (pv_dr g.1 v1 k).1) / 8) (show 0 < 10 by omega); omega
            refine ⟨i45, nI_ne0 hg0 (by omega), ((pv_dr g.1 v1 k).2.1, pv_got (pv_lot (pv_dr g.1 v1 k).1) % g.1.1, pv_got (pv_lot (pv_dr g.1 v1 k).1) / 8 % 10), ⟨hW, d1.1, hpl, hsl, rfl, rfl⟩, fun _ σ5 hq5 => ?_⟩
            obtain ⟨p1, p2⟩ := hq5
            have hlk := pv_lrn_ok d1 hpl hsl
            refine ⟨_, ⟨p1, hlk⟩, fun r6 σ6 hq6 => ?_⟩
            obtain ⟨rfl, rfl⟩ := hq6
            refine ⟨_, ⟨p1, hlk, by show (pv_dr g.1 v1 k).2.1.2.2.1 < 1999; omega⟩, fun _ σ7 hq7 => ?_⟩
            obtain ⟨p3, p4⟩ := hq7
            obtain ⟨e1, e2⟩ := or_said hlk hb
            rw [pv_bit_said hlk] at e1
            have hne : ¬ (pv_at (pv_dr g.1 v1 k).2.1 (pv_got (pv_lot (pv_dr g.1 v1 k).1) % g.1.1) (pv_learn ((pv_dr g.1 v1 k).2.1.2.2.2 (pv_got (pv_lot (pv_dr g.1 v1 k).1) % g.1.1)) (pv_got (pv_lot (pv_dr g.1 v1 k).1) / 8 % 10))).1 = 0 := by
              show ¬ (pv_dr g.1 v1 k).2.1.1 = 0
              rw [d2]; omega
            rw [if_neg hne] at e1 e2
            have es : (1 : Int32) <<< (pv_said (pv_at (pv_dr g.1 v1 k).2.1 (pv_got (pv_lot (pv_dr g.1 v1 k).1) % g.1.1) (pv_learn ((pv_dr g.1 v1 k).2.1.2.2.2 (pv_got (pv_lot (pv_dr g.1 v1 k).1) % g.1.1)) (pv_got (pv_lot (pv_dr g.1 v1 k).1) / 8 % 10))) &&& 31) = nI (2 ^ pv_due (pv_at (pv_dr g.1 v1 k).2.1 (pv_got (pv_lot (pv_dr g.1 v1 k).1) % g.1.1) (pv_learn ((pv_dr g.1 v1 k).2.1.2.2.2 (pv_got (pv_lot (pv_dr g.1 v1 k).1) % g.1.1)) (pv_got (pv_lot (pv_dr g.1 v1 k).1) / 8 % 10)))) := by
              have hdl := pv_due_le hlk (Nat.pos_of_ne_zero hne)
              unfold pv_said
              rw [if_neg hne, sh1 _ (by omega)]
            rw [es, e1, nI_1]
            exact ih (k + 1) (by omega) e2 _ σ7 (fun _ => rfl) p3 ((ho.tr p2.mk).tr p4.mk)
        exact loop n 0 (by omega) (by show 0 < 1024; omega) 0 σ4 (fun q => absurd q (Nat.lt_irrefl 0)) (starts_mv h4 hX.1 hvk.1) (starts_mk h4)
      · have hg0 : g.1.1 = 0 := (nIe _ 0 rfl rfl (by omega) (by omega)).mp (Classical.byContradiction h1)
        unfold qoX6_drift x_drift
        rw [xif_t ⟨z, y⟩, xif_t hg0]
        exact ⟨rfl, hX⟩
    · unfold qoX6_drift x_drift
      rw [xif_f (fun q => y q.2)]
      exact ⟨rfl, hX⟩
  · unfold qoX6_drift x_drift
    rw [xif_f (fun q => z q.1)]
    exact ⟨rfl, hX⟩
theorem mX6_drift (g : gtX6_drift) : px_Met dM yX6_drift (Cond.code yX6_drift cX6_drift 9 (some .int) :: wdM) rmX6_drift px_vI (prX6_drift g) (poX6_drift g) :=
  px_met (Z := (cX6_drift, 9, RX6, Cond.code yX6_drift cX6_drift 9 (some .int) :: wdM, (some .int), rmX6_drift, dM)) opX6_drift (by decide) rfl rfl okX6_drift (fun As σ h => by obtain ⟨v1, v2, v3, rfl, h⟩ := h; exact Nat.le_of_ble_eq_true rfl) (fun As σ h G hG => by obtain ⟨v1, v2, v3, rfl, h⟩ := h; exact hhX6_drift g v1 v2 v3 σ h G hG)
