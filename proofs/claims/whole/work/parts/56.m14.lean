/-! ===== the reference's text: lines ===== -/
def pt_num (T : List Nat) (lo hi : Nat) (t : pt_K) : Sum (Nat × Nat) (Nat × pt_K) := if t.1 = 2 then (if lo ≤ t.2.2.2 ∧ t.2.2.2 ≤ hi then pt_b (pt_next T t.2.2.1) (fun t' => .inr (t.2.2.2, t')) else .inl (3, t.2.1)) else .inl (2, t.2.1)
theorem rdM.kept {σ σ' : px_St} {t : pt_K} (h : rdM σ t) (e : σ'.1 0 = σ.1 0) : rdM σ' t := by
  unfold rdM
  rw [e]
  exact h
theorem rdM.s {σ : px_St} {t : pt_K} {T : List Nat} (h : rdM σ t) (ht : tk_ok T t) (c : Int32) (n : Nat) (hc : c = nI n) (hn : n < 2 ^ 31) : σ.1 0 9 = c ↔ t.1 = n := by
  have h1 := ht.1
  rw [h.2.1, hc]
  exact nI_eq (by omega) hn
abbrev gtX6_readNumber : Type := List Nat × Nat × Nat × pt_K
def qrX6_readNumber : gtX6_readNumber → Int32 → Int32 → px_St → Prop
  | (T, lo, hi, t), v1, v2, σ => rbM σ T ∧ tx_ok T ∧ rdM σ t ∧ tk_ok T t ∧ v1 = nI lo ∧ v2 = nI hi ∧ lo ≤ 9 ∧ hi ≤ 9
def qoX6_readNumber : gtX6_readNumber → Int32 → Int32 → px_St → Int32 → px_St → Prop
  | (T, lo, hi, t), _, _, σ, r, σ' => rsM σ' (fun w : Nat × pt_K => r = nI w.1 ∧ rdM σ' w.2) (pt_num T lo hi t) ∧ fr0 σ σ'
def prX6_readNumber (g : gtX6_readNumber) : List Value → px_St → Prop := fun As σ => ∃ v1 : Int32, ∃ v2 : Int32, As = [.ref 0, .int v1, .int v2] ∧ qrX6_readNumber g v1 v2 σ
def poX6_readNumber (g : gtX6_readNumber) : List Value → px_St → Int32 → px_St → Prop
  | [.ref _, .int v1, .int v2], σ, r, σ' => qoX6_readNumber g v1 v2 σ r σ'
  | _, _, _, _ => False
theorem dX6_readNumber_0 : decode cX6_readNumber 0 = .ok (.aload_n 0, 1) := by decide +kernel
theorem dX6_readNumber_1 : decode cX6_readNumber 1 = .ok (.getfield 64, 3) := by decide +kernel
theorem dX6_readNumber_4 : decode cX6_readNumber 4 = .ok (.ifCond .ne 21, 3) := by decide +kernel
theorem dX6_readNumber_7 : decode cX6_readNumber 7 = .ok (.aload_n 0, 1) := by decide +kernel
theorem dX6_readNumber_8 : decode cX6_readNumber 8 = .ok (.aload_n 0, 1) := by decide +kernel
theorem dX6_readNumber_9 : decode cX6_readNumber 9 = .ok (.getfield 88, 3) := by decide +kernel
theorem dX6_readNumber_12 : decode cX6_readNumber 12 = .ok (.iconst 2, 1) := by decide +kernel
theorem dX6_readNumber_13 : decode cX6_readNumber 13 = .ok (.if_icmp .ne 7, 3) := by decide +kernel
theorem dX6_readNumber_16 : decode cX6_readNumber 16 = .ok (.iconst 1, 1) := by decide +kernel
theorem dX6_readNumber_17 : decode cX6_readNumber 17 = .ok (.goto 4, 3) := by decide +kernel
theorem dX6_readNumber_20 : decode cX6_readNumber 20 = .ok (.iconst 0, 1) := by decide +kernel
theorem dX6_readNumber_21 : decode cX6_readNumber 21 = .ok (.iconst 2, 1) := by decide +kernel
theorem dX6_readNumber_22 : decode cX6_readNumber 22 = .ok (.invokevirtual 102, 3) := by decide +kernel
theorem dX6_readNumber_25 : decode cX6_readNumber 25 = .ok (.aload_n 0, 1) := by decide +kernel
theorem dX6_readNumber_26 : decode cX6_readNumber 26 = .ok (.getfield 64, 3) := by decide +kernel
theorem dX6_readNumber_29 : decode cX6_readNumber 29 = .ok (.ifCond .ne 20, 3) := by decide +kernel
theorem dX6_readNumber_32 : decode cX6_readNumber 32 = .ok (.aload_n 0, 1) := by decide +kernel
theorem dX6_readNumber_33 : decode cX6_readNumber 33 = .ok (.aload_n 0, 1) := by decide +kernel
theorem dX6_readNumber_34 : decode cX6_readNumber 34 = .ok (.getfield 99, 3) := by decide +kernel
theorem dX6_readNumber_37 : decode cX6_readNumber 37 = .ok (.i2l, 1) := by decide +kernel
theorem dX6_readNumber_38 : decode cX6_readNumber 38 = .ok (.iload_n 1, 1) := by decide +kernel
theorem dX6_readNumber_39 : decode cX6_readNumber 39 = .ok (.i2l, 1) := by decide +kernel
theorem dX6_readNumber_40 : decode cX6_readNumber 40 = .ok (.iload_n 2, 1) := by decide +kernel
theorem dX6_readNumber_41 : decode cX6_readNumber 41 = .ok (.i2l, 1) := by decide +kernel
theorem dX6_readNumber_42 : decode cX6_readNumber 42 = .ok (.invokestatic 56, 3) := by decide +kernel
theorem dX6_readNumber_45 : decode cX6_readNumber 45 = .ok (.iconst 3, 1) := by decide +kernel
theorem dX6_readNumber_46 : decode cX6_readNumber 46 = .ok (.invokevirtual 102, 3) := by decide +kernel
theorem dX6_readNumber_49 : decode cX6_readNumber 49 = .ok (.aload_n 0, 1) := by decide +kernel
theorem dX6_readNumber_50 : decode cX6_readNumber 50 = .ok (.getfield 64, 3) := by decide +kernel
theorem dX6_readNumber_53 : decode cX6_readNumber 53 = .ok (.ifCond .ne 10, 3) := by decide +kernel
theorem dX6_readNumber_56 : decode cX6_readNumber 56 = .ok (.aload_n 0, 1) := by decide +kernel
theorem dX6_readNumber_57 : decode cX6_readNumber 57 = .ok (.getfield 99, 3) := by decide +kernel
theorem dX6_readNumber_60 : decode cX6_readNumber 60 = .ok (.goto 4, 3) := by decide +kernel
theorem dX6_readNumber_63 : decode cX6_readNumber 63 = .ok (.iconst 0, 1) := by decide +kernel
theorem dX6_readNumber_64 : decode cX6_readNumber 64 = .ok (.istore_n 3, 1) := by decide +kernel
theorem dX6_readNumber_65 : decode cX6_readNumber 65 = .ok (.aload_n 0, 1) := by decide +kernel
theorem dX6_readNumber_66 : decode cX6_readNumber 66 = .ok (.invokevirtual 106, 3) := by decide +kernel
theorem dX6_readNumber_69 : decode cX6_readNumber 69 = .ok (.iload_n 3, 1) := by decide +kernel
theorem dX6_readNumber_70 : decode cX6_readNumber 70 = .ok (.ireturn, 1) := by decide +kernel
abbrev rmX6_readNumber : Room := { frames := 2, cells := 0, slots := 0, locals := 46 }
def opX6_readNumber (po : Int32 → px_St → Prop) : List (Nat × px_Op) := [
  (0, px_al 1 0),
  (1, px_get dM 4 6 11),
  (4, px_if 7 25 (fun x => ¬ x = 0)),
  (7, px_al 8 0),
  (8, px_al 9 0),
  (9, px_get dM 12 6 9),
  (12, px_push 13 (.int 2)),
  (13, px_ic 16 20 (fun x y => ¬ x = y)),
  (16, px_push 17 (.int 1)),
  (17, px_go 21),
  (20, px_push 21 (.int 0)),
  (21, px_push 22 (.int 2)),
  (22, px_callV dM 25 6 2 px_vV prX6_requires poX6_requires),
  (25, px_al 26 0),
  (26, px_get dM 29 6 11),
  (29, px_if 32 49 (fun x => ¬ x = 0)),
  (32, px_al 33 0),
  (33, px_al 34 0),
  (34, px_get dM 37 6 10),
  (37, px_i2l 38),
  (38, px_il 39 1),
  (39, px_i2l 40),
  (40, px_il 41 2),
  (41, px_i2l 42),
  (42, px_callS 45 3 px_vI prX6_in poX6_in),
  (45, px_push 46 (.int 3)),
  (46, px_callV dM 49 6 2 px_vV prX6_requires poX6_requires),
  (49, px_al 50 0),
  (50, px_get dM 53 6 11),
  (53, px_if 56 63 (fun x => ¬ x = 0)),
  (56, px_al 57 0),
  (57, px_get dM 60 6 10),
  (60, px_go 64),
  (63, px_push 64 (.int 0)),
  (64, px_is 65 3),
  (65, px_al 66 0),
  (66, px_callV dM 69 6 0 px_vV prX6_reads poX6_reads),
  (69, px_il 70 3),
  (70, px_iret (.int) po)]
set_option maxRecDepth 100000 in
set_option maxHeartbeats 4000000 in
theorem okX6_readNumber : ∀ (po : Int32 → px_St → Prop) (i pc : Nat) (op : px_Op), (opX6_readNumber po)[i]? = some (pc, op) → px_Snd (cX6_readNumber, 4, RX6, Cond.code yX6_readNumber cX6_readNumber 4 (some .int) :: wdM, (some .int), rmX6_readNumber, dM) px_vI po pc op := by
  intro po
  unfold opX6_readNumber
  refine px_ok_cons (ps_aload_n dX6_readNumber_0 rfl) ?_
  refine px_ok_cons (fgX6_64 dX6_readNumber_1) ?_
  refine px_ok_cons (ps_if_ne dX6_readNumber_4 (by decide)) ?_
  refine px_ok_cons (ps_aload_n dX6_readNumber_7 rfl) ?_
  refine px_ok_cons (ps_aload_n dX6_readNumber_8 rfl) ?_
  refine px_ok_cons (fgX6_88 dX6_readNumber_9) ?_
  refine px_ok_cons (ps_iconst dX6_readNumber_12 (by decide)) ?_
  refine px_ok_cons (ps_icmp_ne dX6_readNumber_13 (by decide)) ?_
  refine px_ok_cons (ps_iconst dX6_readNumber_16 (by decide)) ?_
  refine px_ok_cons (ps_goto dX6_readNumber_17 (by decide)) ?_
  refine px_ok_cons (ps_iconst dX6_readNumber_20 (by decide)) ?_
  refine px_ok_cons (ps_iconst dX6_readNumber_21 (by decide)) ?_
  refine px_ok_cons (ps_callV mX6_requires (fun _ _ => rfl) (C := RX6) rfl (fun _ _ ht => px_cwV wgM (wdM_1_in _ (List.mem_of_getElem? (i := 20) rfl)) (wdM_1_in _ (List.mem_of_getElem? (i := 21) rfl)) (wdM_1_in _ (List.mem_of_getElem? (i := 22) rfl)) (wdM_0_in _ (List.mem_of_getElem? (i := 22) rfl)) (wdM_0_in _ (List.mem_of_getElem? (i := 35) rfl)) (by decide +kernel) rfl rfl (by decide) ht) dX6_readNumber_22) ?_
  refine px_ok_cons (ps_aload_n dX6_readNumber_25 rfl) ?_
  refine px_ok_cons (fgX6_64 dX6_readNumber_26) ?_
  refine px_ok_cons (ps_if_ne dX6_readNumber_29 (by decide)) ?_
  refine px_ok_cons (ps_aload_n dX6_readNumber_32 rfl) ?_
  refine px_ok_cons (ps_aload_n dX6_readNumber_33 rfl) ?_
  refine px_ok_cons (fgX6_99 dX6_readNumber_34) ?_
  refine px_ok_cons (ps_i2l dX6_readNumber_37) ?_
  refine px_ok_cons (ps_iload_n dX6_readNumber_38 rfl) ?_
  refine px_ok_cons (ps_i2l dX6_readNumber_39) ?_
  refine px_ok_cons (ps_iload_n dX6_readNumber_40 rfl) ?_
  refine px_ok_cons (ps_i2l dX6_readNumber_41) ?_
  refine px_ok_cons (ps_callS mX6_in (fun _ _ => rfl) (fun _ _ ht => px_cwS wgM (wdM_0_in _ (List.mem_of_getElem? (i := 32) rfl)) (wdM_0_in _ (List.mem_of_getElem? (i := 33) rfl)) (wdM_0_in _ (List.mem_of_getElem? (i := 22) rfl)) (wdM_0_in _ (List.mem_of_getElem? (i := 27) rfl)) (by decide +kernel) rfl rfl (by decide) ht) dX6_readNumber_42) ?_
  refine px_ok_cons (ps_iconst dX6_readNumber_45 (by decide)) ?_
  refine px_ok_cons (ps_callV mX6_requires (fun _ _ => rfl) (C := RX6) rfl (fun _ _ ht => px_cwV wgM (wdM_1_in _ (List.mem_of_getElem? (i := 20) rfl)) (wdM_1_in _ (List.mem_of_getElem? (i := 21) rfl)) (wdM_1_in _ (List.mem_of_getElem? (i := 22) rfl)) (wdM_0_in _ (List.mem_of_getElem? (i := 22) rfl)) (wdM_0_in _ (List.mem_of_getElem? (i := 35) rfl)) (by decide +kernel) rfl rfl (by decide) ht) dX6_readNumber_46) ?_
  refine px_ok_cons (ps_aload_n dX6_readNumber_49 rfl) ?_
  refine px_ok_cons (fgX6_64 dX6_readNumber_50) ?_
  refine px_ok_cons (ps_if_ne dX6_readNumber_53 (by decide)) ?_
  refine px_ok_cons (ps_aload_n dX6_readNumber_56 rfl) ?_
  refine px_ok_cons (fgX6_99 dX6_readNumber_57) ?_
  refine px_ok_cons (ps_goto dX6_readNumber_60 (by decide)) ?_
  refine px_ok_cons (ps_iconst dX6_readNumber_63 (by decide)) ?_
  refine px_ok_cons (ps_istore_n dX6_readNumber_64 rfl (by decide)) ?_
  refine px_ok_cons (ps_aload_n dX6_readNumber_65 rfl) ?_
  refine px_ok_cons (ps_callV mX6_reads (fun _ _ => rfl) (C := RX6) rfl (fun _ _ ht => px_cwV wgM (wdM_1_in _ (List.mem_of_getElem? (i := 23) rfl)) (wdM_1_in _ (List.mem_of_getElem? (i := 24) rfl)) (wdM_1_in _ (List.mem_of_getElem? (i := 25) rfl)) (wdM_0_in _ (List.mem_of_getElem? (i := 22) rfl)) (wdM_1_in _ (List.mem_of_getElem? (i := 13) rfl)) (by decide +kernel) rfl rfl (by decide) ht) dX6_readNumber_66) ?_
  refine px_ok_cons (ps_iload_n dX6_readNumber_69 rfl) ?_
  refine px_ok_cons (ps_ireturn rfl dX6_readNumber_70) ?_
  exact px_ok_nil
set_option maxRecDepth 100000 in
set_option maxHeartbeats 4000000 in
theorem sgX6_readNumber_0 {po : Int32 → px_St → Prop} {G : px_K} (hG : px_cl (opX6_readNumber po) G) (v1 : Int32) (v2 : Int32) (σ : px_St)
    (H : ((¬ (σ.1 0 11) = 0) → G 25 [some (.ref 0), some (.int v1), some (.int v2), none] [] σ) ∧ (¬ (¬ (σ.1 0 11) = 0) → ((¬ (σ.1 0 9) = (2 : Int32)) → ∃ g3 : gtX6_requires, qrX6_requires g3 (0 : Int32) (2 : Int32) σ ∧ ∀ (r1 : Unit) (σ2 : px_St), qoX6_requires g3 (0 : Int32) (2 : Int32) σ r1 σ2 → G 25 [some (.ref 0), some (.int v1), some (.int v2), none] [] σ2) ∧ (¬ (¬ (σ.1 0 9) = (2 : Int32)) → ∃ g7 : gtX6_requires, qrX6_requires g7 (1 : Int32) (2 : Int32) σ ∧ ∀ (r5 : Unit) (σ6 : px_St), qoX6_requires g7 (1 : Int32) (2 : Int32) σ r5 σ6 → G 25 [some (.ref 0), some (.int v1), some (.int v2), none] [] σ6))) :
    G 0 (px_ent 4 [.ref 0, .int v1, .int v2]) [] σ := by
  refine hG.1 0 _ _ rfl _ _ _ ?_
  refine hG.1 1 _ _ rfl _ _ _ ?_
  refine ⟨⟨rfl, by decide⟩, ?_⟩
  refine hG.1 2 _ _ rfl _ _ _ ?_
  refine ⟨fun h10 => ?_, fun h10 => ?_⟩
  · replace H := H.1 h10
    exact H
  · replace H := H.2 h10
    refine hG.1 3 _ _ rfl _ _ _ ?_
    refine hG.1 4 _ _ rfl _ _ _ ?_
    refine hG.1 5 _ _ rfl _ _ _ ?_
    refine ⟨⟨rfl, by decide⟩, ?_⟩
    refine hG.1 6 _ _ rfl _ _ _ ?_
    refine hG.1 7 _ _ rfl _ _ _ ?_
    refine ⟨fun h9 => ?_, fun h9 => ?_⟩
    · replace H := H.1 h9
      refine hG.1 10 _ _ rfl _ _ _ ?_
      refine hG.1 11 _ _ rfl _ _ _ ?_
      refine hG.1 12 _ _ rfl _ _ _ ?_
      obtain ⟨g3, H⟩ := H
      refine ⟨⟨rfl, by decide⟩, Nat.le_of_ble_eq_true rfl, g3, ⟨_, _, rfl, H.1⟩, fun r1 σ2 hp4 => ?_⟩
      replace H := H.2 r1 σ2 hp4
      exact H
    · replace H := H.2 h9
      refine hG.1 8 _ _ rfl _ _ _ ?_
      refine hG.1 9 _ _ rfl _ _ _ ?_
      refine hG.1 11 _ _ rfl _ _ _ ?_
      refine hG.1 12 _ _ rfl _ _ _ ?_
      obtain ⟨g7, H⟩ := H
      refine ⟨⟨rfl, by decide⟩, Nat.le_of_ble_eq_true rfl, g7, ⟨_, _, rfl, H.1⟩, fun r5 σ6 hp8 => ?_⟩
      replace H := H.2 r5 σ6 hp8
      exact H
set_option maxRecDepth 100000 in
set_option maxHeartbeats 4000000 in
theorem sgX6_readNumber_25 {po : Int32 → px_St → Prop} {G : px_K} (hG : px_cl (opX6_readNumber po) G) (v1 : Int32) (v2 : Int32) (σ : px_St)
    (H : ((¬ (σ.1 0 11) = 0) → G 49 [some (.ref 0), some (.int v1), some (.int v2), none] [] σ) ∧ (¬ (¬ (σ.1 0 11) = 0) → ∃ g3 : gtX6_in, qrX6_in g3 ((σ.1 0 10).toInt64) v1.toInt64 v2.toInt64 σ ∧ ∀ (r1 : Int32) (σ2 : px_St), qoX6_in g3 ((σ.1 0 10).toInt64) v1.toInt64 v2.toInt64 σ r1 σ2 → ∃ g7 : gtX6_requires, qrX6_requires g7 r1 (3 : Int32) σ2 ∧ ∀ (r5 : Unit) (σ6 : px_St), qoX6_requires g7 r1 (3 : Int32) σ2 r5 σ6 → G 49 [some (.ref 0), some (.int v1), some (.int v2), none] [] σ6)) :
    G 25 [some (.ref 0), some (.int v1), some (.int v2), none] [] σ := by
  refine hG.1 13 _ _ rfl _ _ _ ?_
  refine hG.1 14 _ _ rfl _ _ _ ?_
  refine ⟨⟨rfl, by decide⟩, ?_⟩
  refine hG.1 15 _ _ rfl _ _ _ ?_
  refine ⟨fun h9 => ?_, fun h9 => ?_⟩
  · replace H := H.1 h9
    exact H
  · replace H := H.2 h9
    refine hG.1 16 _ _ rfl _ _ _ ?_
    refine hG.1 17 _ _ rfl _ _ _ ?_
    refine hG.1 18 _ _ rfl _ _ _ ?_
    refine ⟨⟨rfl, by decide⟩, ?_⟩
    refine hG.1 19 _ _ rfl _ _ _ ?_
    refine hG.1 20 _ _ rfl _ _ _ ?_
    refine hG.1 21 _ _ rfl _ _ _ ?_
    refine hG.1 22 _ _ rfl _ _ _ ?_
    refine hG.1 23 _ _ rfl _ _ _ ?_
    refine hG.1 24 _ _ rfl _ _ _ ?_
    obtain ⟨g3, H⟩ := H
    refine ⟨Nat.le_of_ble_eq_true rfl, Nat.le_of_ble_eq_true rfl, g3, ⟨_, _, _, rfl, H.1⟩, fun r1 σ2 hp4 => ?_⟩
    replace H := H.2 r1 σ2 hp4
    refine hG.1 25 _ _ rfl _ _ _ ?_
    refine hG.1 26 _ _ rfl _ _ _ ?_
    obtain ⟨g7, H⟩ := H
    refine ⟨⟨rfl, by decide⟩, Nat.le_of_ble_eq_true rfl, g7, ⟨_, _, rfl, H.1⟩, fun r5 σ6 hp8 => ?_⟩
    replace H := H.2 r5 σ6 hp8
    exact H
set_option maxRecDepth 100000 in
set_option maxHeartbeats 4000000 in
theorem sgX6_readNumber_49 {po : Int32 → px_St → Prop} {G : px_K} (hG : px_cl (opX6_readNumber po) G) (v1 : Int32) (v2 : Int32) (σ : px_St)
    (H : ((¬ (σ.1 0 11) = 0) → G 65 [some (.ref 0), some (.int v1), some (.int v2), some (.int (0 : Int32))] [] σ) ∧ (¬ (¬ (σ.1 0 11) = 0) → G 65 [some (.ref 0), some (.int v1), some (.int v2), some (.int (σ.1 0 10))] [] σ)) :
    G 49 [some (.ref 0), some (.int v1), some (.int v2), none] [] σ := by
  refine hG.1 27 _ _ rfl _ _ _ ?_
  refine hG.1 28 _ _ rfl _ _ _ ?_
  refine ⟨⟨rfl, by decide⟩, ?_⟩
  refine hG.1 29 _ _ rfl _ _ _ ?_
  refine ⟨fun h1 => ?_, fun h1 => ?_⟩
  · replace H := H.1 h1
    refine hG.1 33 _ _ rfl _ _ _ ?_
    refine hG.1 34 _ _ rfl _ _ _ ?_
    show G 65 [some (.ref 0), some (.int v1), some (.int v2), some (.int (0 : Int32))] [] σ
    exact H
  · replace H := H.2 h1
    refine hG.1 30 _ _ rfl _ _ _ ?_
    refine hG.1 31 _ _ rfl _ _ _ ?_
    refine ⟨⟨rfl, by decide⟩, ?_⟩
    refine hG.1 32 _ _ rfl _ _ _ ?_
    refine hG.1 34 _ _ rfl _ _ _ ?_
    show G 65 [some (.ref 0), some (.int v1), some (.int v2), some (.int (σ.1 0 10))] [] σ
    exact H
set_option maxRecDepth 100000 in
set_option maxHeartbeats 4000000 in
theorem sgX6_readNumber_65 {po : Int32 → px_St → Prop} {G : px_K} (hG : px_cl (opX6_readNumber po) G) (v1 : Int32) (v2 : Int32) (v3 : Int32) (σ : px_St)
    (H : ∃ g3 : gtX6_reads, qrX6_reads g3 σ ∧ ∀ (r1 : Unit) (σ2 : px_St), qoX6_reads g3 σ r1 σ2 → po v3 σ2) :
    G 65 [some (.ref 0), some (.int v1), some (.int v2), some (.int v3)] [] σ := by
  refine hG.1 35 _ _ rfl _ _ _ ?_
  refine hG.1 36 _ _ rfl _ _ _ ?_
  obtain ⟨g3, H⟩ := H
  refine ⟨⟨rfl, by decide⟩, Nat.le_of_ble_eq_true rfl, g3, ⟨rfl, H.1⟩, fun r1 σ2 hp4 => ?_⟩
  replace H := H.2 r1 σ2 hp4
  refine hG.1 37 _ _ rfl _ _ _ ?_
  refine hG.1 38 _ _ rfl _ _ _ ?_
  exact ⟨rfl, H⟩
set_option maxRecDepth 100000 in
set_option maxHeartbeats 4000000 in
theorem hhX6_readNumber (g : gtX6_readNumber) (v1 : Int32) (v2 : Int32) (σ : px_St) (h : qrX6_readNumber g v1 v2 σ) (G : px_K) (hG : px_cl (opX6_readNumber (qoX6_readNumber g v1 v2 σ)) G) : G 0 (px_ent 4 [.ref 0, .int v1, .int v2]) [] σ := by
  obtain ⟨T, lo, hi, t⟩ := g
  obtain ⟨hb, hT, hr, ht, rfl, rfl, hlo, hhi⟩ := h
  have hl := hT.1
  have c2 := hr.s ht 2 2 rfl (by omega)
  obtain ⟨r11, r9, r8, r7, r10⟩ := hr
  have h99 := ht.2.2.2.1
  obtain ⟨R0, hR0⟩ : ∃ R0, R0 = pt_num T lo hi t := ⟨_, rfl⟩
  have po : ∀ r σ', rsM σ' (fun w : Nat × pt_K => r = nI w.1 ∧ rdM σ' w.2) R0 → fr0 σ σ' → qoX6_readNumber (T, lo, hi, t) (nI lo) (nI hi) σ r σ' := fun r σ' a b => ⟨by rw [← hR0]; exact a, b⟩
  have nz : ∀ F, 1 ≤ F → F ≤ 5 → ∀ σ' : px_St, σ'.1 0 11 = nI F → ¬ σ'.1 0 11 = 0 := fun F a b σ' c => by rw [c]; exact nI_ne0 (by omega) (by omega)
  have s65 : ∀ F v σ', 1 ≤ F → F ≤ 5 → R0 = .inl (F, t.2.1) → σ'.1 0 11 = nI F → σ'.1 0 12 = nI t.2.1 → fr0 σ σ' → G 65 [some (.ref 0), some (.int (nI lo)), some (.int (nI hi)), some (.int v)] [] σ' := by
    intro F v σ' h1 h5 he e11 e12 ho
    refine sgX6_readNumber_65 hG _ _ _ σ' ⟨(T, 0, F), ⟨hb.kept ho, hT, e11, h5, fun q => by omega⟩, fun _ σ1 h2 => ?_⟩
    have h2 := h2.1 (by omega)
    subst h2
    exact po _ _ (by rw [he]; exact ⟨e11, e12⟩) ho
  have s49 : ∀ F σ', 1 ≤ F → F ≤ 5 → R0 = .inl (F, t.2.1) → σ'.1 0 11 = nI F → σ'.1 0 12 = nI t.2.1 → fr0 σ σ' → G 49 [some (.ref 0), some (.int (nI lo)), some (.int (nI hi)), none] [] σ' := fun F σ' h1 h5 he e11 e12 ho =>
    sgX6_readNumber_49 hG _ _ σ' ⟨fun _ => s65 F _ σ' h1 h5 he e11 e12 ho, fun q => absurd (nz F h1 h5 σ' e11) q⟩
  have s25 : ∀ F σ', 1 ≤ F → F ≤ 5 → R0 = .inl (F, t.2.1) → σ'.1 0 11 = nI F → σ'.1 0 12 = nI t.2.1 → fr0 σ σ' → G 25 [some (.ref 0), some (.int (nI lo)), some (.int (nI hi)), none] [] σ' := fun F σ' h1 h5 he e11 e12 ho =>
    sgX6_readNumber_25 hG _ _ σ' ⟨fun _ => s49 F σ' h1 h5 he e11 e12 ho, fun q => absurd (nz F h1 h5 σ' e11) q⟩
  refine sgX6_readNumber_0 hG _ _ σ ⟨fun q => absurd r11 q, fun _ => ?_⟩
  rw [c2]
  refine ⟨fun z => ⟨(), trivial, fun _ σ1 h1 => ?_⟩, fun z => ⟨(), trivial, fun _ σ1 h1 => ?_⟩⟩
  · have h1 := h1.2.2 rfl r11
    subst h1
    refine s25 2 _ (by omega) (by omega) ?_ ?_ ?_ ((fr0.up (by omega)).tr (fr0.up (by omega)))
    · rw [hR0]; unfold pt_num; rw [if_neg z]
    · rw [up0n (by omega), up0s]; rfl
    · rw [up0s]; exact r8
  · have h1 := (h1.1 (by decide)).symm
    subst h1
    have z := Classical.byContradiction z
    have e10 := r10 z
    refine sgX6_readNumber_25 hG _ _ σ ⟨fun q => absurd r11 q, fun _ => ⟨(), trivial, fun rr σ2 h2 => ?_⟩⟩
    obtain ⟨e2, b2⟩ := h2
    have e2 := e2.symm
    subst e2
    have b2 := in_c (a := nI lo) (b := nI hi) rfl rfl b2
    rw [e10, nIle lo _ rfl rfl (by omega) (by omega), nIle _ hi rfl rfl (by omega) (by omega)] at b2
    refine ⟨(), trivial, fun _ σ3 h3 => ?_⟩
    rcases b2 with ⟨hP, rfl⟩ | ⟨hP, rfl⟩
    · have h3 := (h3.1 (by decide)).symm
      subst h3
      refine sgX6_readNumber_49 hG _ _ σ ⟨fun q => absurd r11 q, fun _ => ?_⟩
      rw [e10]
      refine sgX6_readNumber_65 hG _ _ _ σ ⟨(T, t.2.2.1, 0), ⟨hb, hT, r11, by omega, fun _ => ⟨ht.2.2.1, r7⟩⟩, fun _ σ4 h4 => ?_⟩
      obtain ⟨-, h5, h6⟩ := h4
      have h5 := h5 rfl
      have hR : R0 = pt_b (pt_next T t.2.2.1) (fun t' => .inr (t.2.2.2, t')) := by
        rw [hR0]; unfold pt_num; rw [if_pos z, if_pos hP]
      refine po _ _ ?_ h6
      rw [hR]
      cases hx : pt_next T t.2.2.1 with
      | inl f => rw [hx] at h5; exact h5
      | inr t' => rw [hx] at h5; exact ⟨rfl, h5⟩
    · have h3 := h3.2.2 rfl r11
      subst h3
      refine s49 3 _ (by omega) (by omega) ?_ ?_ ?_ ((fr0.up (by omega)).tr (fr0.up (by omega)))
      · rw [hR0]; unfold pt_num; rw [if_pos z, if_neg hP]
      · rw [up0n (by omega), up0s]; rfl
      · rw [up0s]; exact r8
theorem mX6_readNumber (g : gtX6_readNumber) : px_Met dM yX6_readNumber (Cond.code yX6_readNumber cX6_readNumber 4 (some .int) :: wdM) rmX6_readNumber px_vI (prX6_readNumber g) (poX6_readNumber g) :=
  px_met (Z := (cX6_readNumber, 4, RX6, Cond.code yX6_readNumber cX6_readNumber 4 (some .int) :: wdM, (some .int), rmX6_readNumber, dM)) opX6_readNumber (by decide) rfl rfl okX6_readNumber (fun As σ h => by obtain ⟨v1, v2, rfl, h⟩ := h; exact Nat.le_of_ble_eq_true rfl) (fun As σ h G hG => by obtain ⟨v1, v2, rfl, h⟩ := h; exact hhX6_readNumber g v1 v2 σ h G hG)
theorem pt_num_good {T : List Nat} {lo hi : Nat} {t : pt_K} (hT : tx_ok T) (ht : tk_ok T t) : pt_good (fun w : Nat × pt_K => (w.1 = t.2.2.2 ∧ lo ≤ w.1 ∧ w.1 ≤ hi ∧ t.1 = 2) ∧ tk_ok T w.2) (pt_num T lo hi t) := by
  have hl := hT.1
  have h3 := ht.2.1
  have h4 := ht.2.2.1
  unfold pt_num
  by_cases h2 : t.1 = 2
  · rw [if_pos h2]
    by_cases hv : lo ≤ t.2.2.2 ∧ t.2.2.2 ≤ hi
    · rw [if_pos hv]
      exact pt_b_good (pt_next_good hT ht.2.2.1) (fun t' ht' => ⟨⟨rfl, hv.1, hv.2, h2⟩, ht'.1⟩)
    · rw [if_neg hv]; exact ⟨⟨by show 1 ≤ 3; omega, by show 3 ≤ 5; omega⟩, by show t.2.1 ≤ 160; omega⟩
  · rw [if_neg h2]; exact ⟨⟨by show 1 ≤ 2; omega, by show 2 ≤ 5; omega⟩, by show t.2.1 ≤ 160; omega⟩
/-- the draft -/
def dr_is (σ : px_St) (V : pv_V) : Prop := mv_is (σ.1 4) V ∧ σ.1 4 48 = 0 ∧ ∀ p, V.1 ≤ p → p < 5 → σ.1 4 (9 * p + 2) = 0
theorem dr_is.kept {σ σ' : px_St} {V : pv_V} (h : dr_is σ V) (e : σ'.1 4 = σ.1 4) : dr_is σ' V := by
  unfold dr_is
  rw [e]
  exact h
def frD (σ σ' : px_St) : Prop := (∀ k, k ≠ 0 → k ≠ 4 → σ'.1 k = σ.1 k) ∧ ∀ j, j < 7 ∨ 12 < j → σ'.1 0 j = σ.1 0 j
theorem frD.rf {σ : px_St} : frD σ σ := ⟨fun _ _ _ => rfl, fun _ _ => rfl⟩
theorem frD.tr {σ σ' σ'' : px_St} (h : frD σ σ') (h' : frD σ' σ'') : frD σ σ'' := ⟨fun k a b => (h'.1 k a b).trans (h.1 k a b), fun j hj => (h'.2 j hj).trans (h.2 j hj)⟩
theorem fr0.D {σ σ' : px_St} (h : fr0 σ σ') : frD σ σ' := ⟨fun k a _ => h.1 k a, h.2⟩
theorem frD.up {σ : px_St} {j : Nat} {x : Int32} : frD σ (px_up σ 4 j x) := ⟨fun k _ b => px_up_n b, fun i _ => by rw [px_up_n (by omega)]⟩
theorem rbM.keptD {σ σ' : px_St} {T : List Nat} (h : rbM σ T) (ho : frD σ σ') : rbM σ' T := ⟨by rw [ho.2 6 (by omega)]; exact h.1, fun i hi => by rw [ho.1 5 (by omega) (by omega)]; exact h.2 i hi⟩
theorem dr_first {σ σ' : px_St} {V : pv_V} {k v : Nat} (h : dr_is σ V) (hw : pv_w V) (hn : V.1 < 5) (e : ∀ j, j ≠ 45 → j ≠ 9 * V.1 → j ≠ 9 * V.1 + 1 → j ≠ 9 * V.1 + 3 → σ'.1 4 j = σ.1 4 j) (h0 : σ'.1 4 (9 * V.1) = nI k) (h1 : σ'.1 4 (9 * V.1 + 1) = 1) (h3 : σ'.1 4 (9 * V.1 + 3) = nI v) (h45 : σ'.1 4 45 = nI (V.1 + 1)) : dr_is σ' (pv_add V (k, 0, [v])) := by
  obtain ⟨⟨⟨a1, a2, a3⟩, a4⟩, a5, a6⟩ := h
  refine ⟨⟨⟨h45, ?_, ?_⟩, fun q hq => ?_⟩, ?_, fun q hq hq5 => ?_⟩
  · rw [e 46 (by omega) (by omega) (by omega) (by omega)]; exact a2
  · rw [e 47 (by omega) (by omega) (by omega) (by omega)]; exact a3
  · have hq : q < V.1 + 1 := hq
    show mv_par (σ'.1 4) q (if q = V.1 then (k, 0, [v]) else V.2.2.2 q)
    by_cases hqe : q = V.1
    · rw [if_pos hqe, hqe]
      refine ⟨h0, h1, ?_, fun i x hx => ?_⟩
      · rw [e _ (by omega) (by omega) (by omega) (by omega)]
        exact a6 V.1 (Nat.le_refl _) hn
      · have hi : i < 1 := (List.getElem?_eq_some_iff.mp hx).1
        have hi : i = 0 := by omega
        subst hi
        cases hx
        exact h3
    · rw [if_neg hqe]
      exact (a4 q (by omega)).cg (hw.2.2.2 q (by omega)).2.1 (fun j b c => e j (by omega) (by omega) (by omega) (by omega))
  · rw [e 48 (by omega) (by omega) (by omega) (by omega)]; exact a5
  · have hq : V.1 + 1 ≤ q := hq
    rw [e _ (by omega) (by omega) (by omega) (by omega)]
    exact a6 q (by omega) hq5
theorem dr_next {σ σ' : px_St} {V : pv_V} {k v : Nat} {m : List Nat} (h : dr_is σ (pv_add V (k, 0, m))) (hw : pv_w (pv_add V (k, 0, m))) (hn : V.1 < 5) (hm : m.length < 6) (e : ∀ j, j ≠ 9 * V.1 + 1 → j ≠ 9 * V.1 + 3 + m.length → σ'.1 4 j = σ.1 4 j) (h1 : σ'.1 4 (9 * V.1 + 1) = nI (m.length + 1)) (h3 : σ'.1 4 (9 * V.1 + 3 + m.length) = nI v) : dr_is σ' (pv_add V (k, 0, m ++ [v])) := by
  obtain ⟨a1, a5, a6⟩ := h
  refine ⟨?_, ?_, fun q hq hq5 => ?_⟩
  · rw [← pv_add_at V (k, 0, m) (k, 0, m ++ [v])]
    have hp := a1.2 V.1 (Nat.lt_succ_self _)
    rw [pv_add_p] at hp
    obtain ⟨p1, p2, p3, p4⟩ := hp
    refine mv_mod a1 (fun q hq => (hw.2.2.2 q hq).2.1) hn (fun j hj => e j (by omega) (by omega)) ⟨?_, ?_, ?_, fun i x hx => ?_⟩
    · rw [e _ (by omega) (by omega)]; exact p1
    · rw [h1, List.length_append]; rfl
    · rw [e _ (by omega) (by omega)]; exact p3
    · have hx : (m ++ [v])[i]? = some x := hx
      have hi := (List.getElem?_eq_some_iff.mp hx).1
      rw [List.length_append] at hi
      have hi : i < m.length + 1 := hi
      by_cases hie : i = m.length
      · subst hie
        rw [List.getElem?_append_right (Nat.le_refl _), Nat.sub_self] at hx
        cases hx
        exact h3
      · rw [List.getElem?_append_left (by omega)] at hx
        rw [e _ (by omega) (by omega)]
        exact p4 i x hx
  · rw [e 48 (by omega) (by omega)]; exact a5
  · have hq : V.1 + 1 ≤ q := hq
    rw [e _ (by omega) (by omega)]
    exact a6 q hq hq5
theorem d45 : vp_in (45 : Int32) 61 := vpin 45 61 rfl (by omega) (by omega)
theorem d46 : vp_in (46 : Int32) 61 := vpin 46 61 rfl (by omega) (by omega)
abbrev gtX6_readParrot : Type := List Nat × pv_V × Nat × pt_K
def qrX6_readParrot : gtX6_readParrot → Int32 → px_St → Prop
  | (T, V, k, t), v1, σ => rbM σ T ∧ tx_ok T ∧ dr_is σ V ∧ pv_w V ∧ V.1 < 5 ∧ k ≤ 3 ∧ v1 = nI k ∧ rdM σ t ∧ tk_ok T t
def qoX6_readParrot : gtX6_readParrot → Int32 → px_St → Unit → px_St → Prop
  | (T, V, k, t), _, σ, _, σ' => rsM σ' (fun w : List Nat × pt_K => rdM σ' w.2 ∧ dr_is σ' (pv_add V (k, 0, w.1))) (if t.1 = 2 then pt_snd T 6 [] t else .inl (2, t.2.1)) ∧ frD σ σ'
def prX6_readParrot (g : gtX6_readParrot) : List Value → px_St → Prop := fun As σ => ∃ v1 : Int32, As = [.ref 0, .int v1] ∧ qrX6_readParrot g v1 σ
def poX6_readParrot (g : gtX6_readParrot) : List Value → px_St → Unit → px_St → Prop
  | [.ref _, .int v1], σ, r, σ' => qoX6_readParrot g v1 σ r σ'
  | _, _, _, _ => False
theorem dX6_readParrot_0 : decode cX6_readParrot 0 = .ok (.bipush 9, 2) := by decide +kernel
theorem dX6_readParrot_2 : decode cX6_readParrot 2 = .ok (.aload_n 0, 1) := by decide +kernel
theorem dX6_readParrot_3 : decode cX6_readParrot 3 = .ok (.getfield 20, 3) := by decide +kernel
theorem dX6_readParrot_6 : decode cX6_readParrot 6 = .ok (.bipush 45, 2) := by decide +kernel
theorem dX6_readParrot_8 : decode cX6_readParrot 8 = .ok (.iaload, 1) := by decide +kernel
theorem dX6_readParrot_9 : decode cX6_readParrot 9 = .ok (.imul, 1) := by decide +kernel
theorem dX6_readParrot_10 : decode cX6_readParrot 10 = .ok (.istore_n 2, 1) := by decide +kernel
theorem dX6_readParrot_11 : decode cX6_readParrot 11 = .ok (.aload_n 0, 1) := by decide +kernel
theorem dX6_readParrot_12 : decode cX6_readParrot 12 = .ok (.getfield 20, 3) := by decide +kernel
theorem dX6_readParrot_15 : decode cX6_readParrot 15 = .ok (.iload_n 2, 1) := by decide +kernel
theorem dX6_readParrot_16 : decode cX6_readParrot 16 = .ok (.iconst 0, 1) := by decide +kernel
theorem dX6_readParrot_17 : decode cX6_readParrot 17 = .ok (.iadd, 1) := by decide +kernel
theorem dX6_readParrot_18 : decode cX6_readParrot 18 = .ok (.iload_n 1, 1) := by decide +kernel
theorem dX6_readParrot_19 : decode cX6_readParrot 19 = .ok (.iastore, 1) := by decide +kernel
theorem dX6_readParrot_20 : decode cX6_readParrot 20 = .ok (.aload_n 0, 1) := by decide +kernel
theorem dX6_readParrot_21 : decode cX6_readParrot 21 = .ok (.getfield 20, 3) := by decide +kernel
theorem dX6_readParrot_24 : decode cX6_readParrot 24 = .ok (.iload_n 2, 1) := by decide +kernel
theorem dX6_readParrot_25 : decode cX6_readParrot 25 = .ok (.iconst 3, 1) := by decide +kernel
theorem dX6_readParrot_26 : decode cX6_readParrot 26 = .ok (.iadd, 1) := by decide +kernel
theorem dX6_readParrot_27 : decode cX6_readParrot 27 = .ok (.aload_n 0, 1) := by decide +kernel
theorem dX6_readParrot_28 : decode cX6_readParrot 28 = .ok (.iconst 0, 1) := by decide +kernel
theorem dX6_readParrot_29 : decode cX6_readParrot 29 = .ok (.bipush 9, 2) := by decide +kernel
theorem dX6_readParrot_31 : decode cX6_readParrot 31 = .ok (.invokevirtual 109, 3) := by decide +kernel
theorem dX6_readParrot_34 : decode cX6_readParrot 34 = .ok (.iastore, 1) := by decide +kernel
theorem dX6_readParrot_35 : decode cX6_readParrot 35 = .ok (.aload_n 0, 1) := by decide +kernel
theorem dX6_readParrot_36 : decode cX6_readParrot 36 = .ok (.getfield 20, 3) := by decide +kernel
theorem dX6_readParrot_39 : decode cX6_readParrot 39 = .ok (.iload_n 2, 1) := by decide +kernel
theorem dX6_readParrot_40 : decode cX6_readParrot 40 = .ok (.iconst 1, 1) := by decide +kernel
theorem dX6_readParrot_41 : decode cX6_readParrot 41 = .ok (.iadd, 1) := by decide +kernel
theorem dX6_readParrot_42 : decode cX6_readParrot 42 = .ok (.iconst 1, 1) := by decide +kernel
theorem dX6_readParrot_43 : decode cX6_readParrot 43 = .ok (.iastore, 1) := by decide +kernel
theorem dX6_readParrot_44 : decode cX6_readParrot 44 = .ok (.aload_n 0, 1) := by decide +kernel
theorem dX6_readParrot_45 : decode cX6_readParrot 45 = .ok (.getfield 20, 3) := by decide +kernel
theorem dX6_readParrot_48 : decode cX6_readParrot 48 = .ok (.bipush 45, 2) := by decide +kernel
theorem dX6_readParrot_50 : decode cX6_readParrot 50 = .ok (.dup2, 1) := by decide +kernel
theorem dX6_readParrot_51 : decode cX6_readParrot 51 = .ok (.iaload, 1) := by decide +kernel
theorem dX6_readParrot_52 : decode cX6_readParrot 52 = .ok (.iconst 1, 1) := by decide +kernel
theorem dX6_readParrot_53 : decode cX6_readParrot 53 = .ok (.iadd, 1) := by decide +kernel
theorem dX6_readParrot_54 : decode cX6_readParrot 54 = .ok (.iastore, 1) := by decide +kernel
theorem dX6_readParrot_55 : decode cX6_readParrot 55 = .ok (.aload_n 0, 1) := by decide +kernel
theorem dX6_readParrot_56 : decode cX6_readParrot 56 = .ok (.getfield 64, 3) := by decide +kernel
theorem dX6_readParrot_59 : decode cX6_readParrot 59 = .ok (.ifCond .ne 80, 3) := by decide +kernel
theorem dX6_readParrot_62 : decode cX6_readParrot 62 = .ok (.aload_n 0, 1) := by decide +kernel
theorem dX6_readParrot_63 : decode cX6_readParrot 63 = .ok (.getfield 88, 3) := by decide +kernel
theorem dX6_readParrot_66 : decode cX6_readParrot 66 = .ok (.iconst 2, 1) := by decide +kernel
theorem dX6_readParrot_67 : decode cX6_readParrot 67 = .ok (.if_icmp .ne 72, 3) := by decide +kernel
theorem dX6_readParrot_70 : decode cX6_readParrot 70 = .ok (.aload_n 0, 1) := by decide +kernel
theorem dX6_readParrot_71 : decode cX6_readParrot 71 = .ok (.aload_n 0, 1) := by decide +kernel
theorem dX6_readParrot_72 : decode cX6_readParrot 72 = .ok (.getfield 20, 3) := by decide +kernel
theorem dX6_readParrot_75 : decode cX6_readParrot 75 = .ok (.iload_n 2, 1) := by decide +kernel
theorem dX6_readParrot_76 : decode cX6_readParrot 76 = .ok (.iconst 1, 1) := by decide +kernel
theorem dX6_readParrot_77 : decode cX6_readParrot 77 = .ok (.iadd, 1) := by decide +kernel
theorem dX6_readParrot_78 : decode cX6_readParrot 78 = .ok (.iaload, 1) := by decide +kernel
theorem dX6_readParrot_79 : decode cX6_readParrot 79 = .ok (.bipush 6, 2) := by decide +kernel
theorem dX6_readParrot_81 : decode cX6_readParrot 81 = .ok (.if_icmp .ge 7, 3) := by decide +kernel
theorem dX6_readParrot_84 : decode cX6_readParrot 84 = .ok (.iconst 1, 1) := by decide +kernel
theorem dX6_readParrot_85 : decode cX6_readParrot 85 = .ok (.goto 4, 3) := by decide +kernel
theorem dX6_readParrot_88 : decode cX6_readParrot 88 = .ok (.iconst 0, 1) := by decide +kernel
theorem dX6_readParrot_89 : decode cX6_readParrot 89 = .ok (.iconst 5, 1) := by decide +kernel
theorem dX6_readParrot_90 : decode cX6_readParrot 90 = .ok (.invokevirtual 102, 3) := by decide +kernel
theorem dX6_readParrot_93 : decode cX6_readParrot 93 = .ok (.aload_n 0, 1) := by decide +kernel
theorem dX6_readParrot_94 : decode cX6_readParrot 94 = .ok (.getfield 64, 3) := by decide +kernel
theorem dX6_readParrot_97 : decode cX6_readParrot 97 = .ok (.ifCond .ne (-42), 3) := by decide +kernel
theorem dX6_readParrot_100 : decode cX6_readParrot 100 = .ok (.aload_n 0, 1) := by decide +kernel
theorem dX6_readParrot_101 : decode cX6_readParrot 101 = .ok (.getfield 20, 3) := by decide +kernel
theorem dX6_readParrot_104 : decode cX6_readParrot 104 = .ok (.iload_n 2, 1) := by decide +kernel
theorem dX6_readParrot_105 : decode cX6_readParrot 105 = .ok (.iconst 3, 1) := by decide +kernel
theorem dX6_readParrot_106 : decode cX6_readParrot 106 = .ok (.iadd, 1) := by decide +kernel
theorem dX6_readParrot_107 : decode cX6_readParrot 107 = .ok (.aload_n 0, 1) := by decide +kernel
theorem dX6_readParrot_108 : decode cX6_readParrot 108 = .ok (.getfield 20, 3) := by decide +kernel
theorem dX6_readParrot_111 : decode cX6_readParrot 111 = .ok (.iload_n 2, 1) := by decide +kernel
theorem dX6_readParrot_112 : decode cX6_readParrot 112 = .ok (.iconst 1, 1) := by decide +kernel
theorem dX6_readParrot_113 : decode cX6_readParrot 113 = .ok (.iadd, 1) := by decide +kernel
theorem dX6_readParrot_114 : decode cX6_readParrot 114 = .ok (.iaload, 1) := by decide +kernel
theorem dX6_readParrot_115 : decode cX6_readParrot 115 = .ok (.iadd, 1) := by decide +kernel
theorem dX6_readParrot_116 : decode cX6_readParrot 116 = .ok (.aload_n 0, 1) := by decide +kernel
theorem dX6_readParrot_117 : decode cX6_readParrot 117 = .ok (.iconst 0, 1) := by decide +kernel
theorem dX6_readParrot_118 : decode cX6_readParrot 118 = .ok (.bipush 9, 2) := by decide +kernel
theorem dX6_readParrot_120 : decode cX6_readParrot 120 = .ok (.invokevirtual 109, 3) := by decide +kernel
theorem dX6_readParrot_123 : decode cX6_readParrot 123 = .ok (.iastore, 1) := by decide +kernel
theorem dX6_readParrot_124 : decode cX6_readParrot 124 = .ok (.aload_n 0, 1) := by decide +kernel
theorem dX6_readParrot_125 : decode cX6_readParrot 125 = .ok (.getfield 20, 3) := by decide +kernel
theorem dX6_readParrot_128 : decode cX6_readParrot 128 = .ok (.iload_n 2, 1) := by decide +kernel
theorem dX6_readParrot_129 : decode cX6_readParrot 129 = .ok (.iconst 1, 1) := by decide +kernel
theorem dX6_readParrot_130 : decode cX6_readParrot 130 = .ok (.iadd, 1) := by decide +kernel
theorem dX6_readParrot_131 : decode cX6_readParrot 131 = .ok (.dup2, 1) := by decide +kernel
theorem dX6_readParrot_132 : decode cX6_readParrot 132 = .ok (.iaload, 1) := by decide +kernel
theorem dX6_readParrot_133 : decode cX6_readParrot 133 = .ok (.iconst 1, 1) := by decide +kernel
theorem dX6_readParrot_134 : decode cX6_readParrot 134 = .ok (.iadd, 1) := by decide +kernel
theorem dX6_readParrot_135 : decode cX6_readParrot 135 = .ok (.iastore, 1) := by decide +kernel
theorem dX6_readParrot_136 : decode cX6_readParrot 136 = .ok (.goto (-81), 3) := by decide +kernel
theorem dX6_readParrot_139 : decode cX6_readParrot 139 = .ok (.return_, 1) := by decide +kernel
abbrev rmX6_readParrot : Room := { frames := 3, cells := 0, slots := 0, locals := 69 }
def opX6_readParrot (po : Unit → px_St → Prop) : List (Nat × px_Op) := [
  (0, px_push 2 (.int 9)),
  (2, px_al 3 0),
  (3, px_get dM 6 6 3),
  (6, px_push 8 (.int 45)),
  (8, px_ald dM 9 0),
  (9, px_bin 10 (fun x y => x * y)),
  (10, px_is 11 2),
  (11, px_al 12 0),
  (12, px_get dM 15 6 3),
  (15, px_il 16 2),
  (16, px_push 17 (.int 0)),
  (17, px_bin 18 (fun x y => x + y)),
  (18, px_il 19 1),
  (19, px_ast dM 20 0 (fun x => x)),
  (20, px_al 21 0),
  (21, px_get dM 24 6 3),
  (24, px_il 25 2),
  (25, px_push 26 (.int 3)),
  (26, px_bin 27 (fun x y => x + y)),
  (27, px_al 28 0),
  (28, px_push 29 (.int 0)),
  (29, px_push 31 (.int 9)),
  (31, px_callV dM 34 6 2 px_vI prX6_readNumber poX6_readNumber),
  (34, px_ast dM 35 0 (fun x => x)),
  (35, px_al 36 0),
  (36, px_get dM 39 6 3),
  (39, px_il 40 2),
  (40, px_push 41 (.int 1)),
  (41, px_bin 42 (fun x y => x + y)),
  (42, px_push 43 (.int 1)),
  (43, px_ast dM 44 0 (fun x => x)),
  (44, px_al 45 0),
  (45, px_get dM 48 6 3),
  (48, px_push 50 (.int 45)),
  (50, px_dup2 51),
  (51, px_ald dM 52 0),
  (52, px_push 53 (.int 1)),
  (53, px_bin 54 (fun x y => x + y)),
  (54, px_ast dM 55 0 (fun x => x)),
  (55, px_al 56 0),
  (56, px_get dM 59 6 11),
  (59, px_if 62 139 (fun x => ¬ x = 0)),
  (62, px_al 63 0),
  (63, px_get dM 66 6 9),
  (66, px_push 67 (.int 2)),
  (67, px_ic 70 139 (fun x y => ¬ x = y)),
  (70, px_al 71 0),
  (71, px_al 72 0),
  (72, px_get dM 75 6 3),
  (75, px_il 76 2),
  (76, px_push 77 (.int 1)),
  (77, px_bin 78 (fun x y => x + y)),
  (78, px_ald dM 79 0),
  (79, px_push 81 (.int 6)),
  (81, px_ic 84 88 (fun x y => y ≤ x)),
  (84, px_push 85 (.int 1)),
  (85, px_go 89),
  (88, px_push 89 (.int 0)),
  (89, px_push 90 (.int 5)),
  (90, px_callV dM 93 6 2 px_vV prX6_requires poX6_requires),
  (93, px_al 94 0),
  (94, px_get dM 97 6 11),
  (97, px_if 100 55 (fun x => ¬ x = 0)),
  (100, px_al 101 0),
  (101, px_get dM 104 6 3),
  (104, px_il 105 2),
  (105, px_push 106 (.int 3)),
  (106, px_bin 107 (fun x y => x + y)),
  (107, px_al 108 0),
  (108, px_get dM 111 6 3),
  (111, px_il 112 2),
  (112, px_push 113 (.int 1)),
  (113, px_bin 114 (fun x y => x + y)),
  (114, px_ald dM 115 0),
  (115, px_bin 116 (fun x y => x + y)),
  (116, px_al 117 0),
  (117, px_push 118 (.int 0)),
  (118, px_push 120 (.int 9)),
  (120, px_callV dM 123 6 2 px_vI prX6_readNumber poX6_readNumber),
  (123, px_ast dM 124 0 (fun x => x)),
  (124, px_al 125 0),
  (125, px_get dM 128 6 3),
  (128, px_il 129 2),
  (129, px_push 130 (.int 1)),
  (130, px_bin 131 (fun x y => x + y)),
  (131, px_dup2 132),
  (132, px_ald dM 133 0),
  (133, px_push 134 (.int 1)),
  (134, px_bin 135 (fun x y => x + y)),
  (135, px_ast dM 136 0 (fun x => x)),
  (136, px_go 55),
  (139, px_vret po)]
set_option maxRecDepth 100000 in
set_option maxHeartbeats 4000000 in
theorem okX6_readParrot : ∀ (po : Unit → px_St → Prop) (i pc : Nat) (op : px_Op), (opX6_readParrot po)[i]? = some (pc, op) → px_Snd (cX6_readParrot, 3, RX6, Cond.code yX6_readParrot cX6_readParrot 3 none :: wdM, none, rmX6_readParrot, dM) px_vV po pc op := by
  intro po
  unfold opX6_readParrot
  refine px_ok_cons (ps_bipush dX6_readParrot_0 (by decide)) ?_
  refine px_ok_cons (ps_aload_n dX6_readParrot_2 rfl) ?_
  refine px_ok_cons (fgX6_20 dX6_readParrot_3) ?_
  refine px_ok_cons (ps_bipush dX6_readParrot_6 (by decide)) ?_
  refine px_ok_cons (ps_iaload dX6_readParrot_8) ?_
  refine px_ok_cons (ps_imul dX6_readParrot_9) ?_
  refine px_ok_cons (ps_istore_n dX6_readParrot_10 rfl (by decide)) ?_
  refine px_ok_cons (ps_aload_n dX6_readParrot_11 rfl) ?_
  refine px_ok_cons (fgX6_20 dX6_readParrot_12) ?_
  refine px_ok_cons (ps_iload_n dX6_readParrot_15 rfl) ?_
  refine px_ok_cons (ps_iconst dX6_readParrot_16 (by decide)) ?_
  refine px_ok_cons (ps_iadd dX6_readParrot_17) ?_
  refine px_ok_cons (ps_iload_n dX6_readParrot_18 rfl) ?_
  refine px_ok_cons (ps_iastore dX6_readParrot_19) ?_
  refine px_ok_cons (ps_aload_n dX6_readParrot_20 rfl) ?_
  refine px_ok_cons (fgX6_20 dX6_readParrot_21) ?_
  refine px_ok_cons (ps_iload_n dX6_readParrot_24 rfl) ?_
  refine px_ok_cons (ps_iconst dX6_readParrot_25 (by decide)) ?_
  refine px_ok_cons (ps_iadd dX6_readParrot_26) ?_
  refine px_ok_cons (ps_aload_n dX6_readParrot_27 rfl) ?_
  refine px_ok_cons (ps_iconst dX6_readParrot_28 (by decide)) ?_
  refine px_ok_cons (ps_bipush dX6_readParrot_29 (by decide)) ?_
  refine px_ok_cons (ps_callV mX6_readNumber (fun _ _ => rfl) (C := RX6) rfl (fun _ _ ht => px_cwV wgM (wdM_1_in _ (List.mem_of_getElem? (i := 27) rfl)) (wdM_1_in _ (List.mem_of_getElem? (i := 28) rfl)) (wdM_1_in _ (List.mem_of_getElem? (i := 29) rfl)) (wdM_0_in _ (List.mem_of_getElem? (i := 22) rfl)) (wdM_1_in _ (List.mem_of_getElem? (i := 26) rfl)) (by decide +kernel) rfl rfl (by decide) ht) dX6_readParrot_31) ?_
  refine px_ok_cons (ps_iastore dX6_readParrot_34) ?_
  refine px_ok_cons (ps_aload_n dX6_readParrot_35 rfl) ?_
  refine px_ok_cons (fgX6_20 dX6_readParrot_36) ?_
  refine px_ok_cons (ps_iload_n dX6_readParrot_39 rfl) ?_
  refine px_ok_cons (ps_iconst dX6_readParrot_40 (by decide)) ?_
  refine px_ok_cons (ps_iadd dX6_readParrot_41) ?_
  refine px_ok_cons (ps_iconst dX6_readParrot_42 (by decide)) ?_
  refine px_ok_cons (ps_iastore dX6_readParrot_43) ?_
  refine px_ok_cons (ps_aload_n dX6_readParrot_44 rfl) ?_
  refine px_ok_cons (fgX6_20 dX6_readParrot_45) ?_
  refine px_ok_cons (ps_bipush dX6_readParrot_48 (by decide)) ?_
  refine px_ok_cons (ps_dup2 dX6_readParrot_50) ?_
  refine px_ok_cons (ps_iaload dX6_readParrot_51) ?_
  refine px_ok_cons (ps_iconst dX6_readParrot_52 (by decide)) ?_
  refine px_ok_cons (ps_iadd dX6_readParrot_53) ?_
  refine px_ok_cons (ps_iastore dX6_readParrot_54) ?_
  refine px_ok_cons (ps_aload_n dX6_readParrot_55 rfl) ?_
  refine px_ok_cons (fgX6_64 dX6_readParrot_56) ?_
  refine px_ok_cons (ps_if_ne dX6_readParrot_59 (by decide)) ?_
  refine px_ok_cons (ps_aload_n dX6_readParrot_62 rfl) ?_
  refine px_ok_cons (fgX6_88 dX6_readParrot_63) ?_
  refine px_ok_cons (ps_iconst dX6_readParrot_66 (by decide)) ?_
  refine px_ok_cons (ps_icmp_ne dX6_readParrot_67 (by decide)) ?_
  refine px_ok_cons (ps_aload_n dX6_readParrot_70 rfl) ?_
  refine px_ok_cons (ps_aload_n dX6_readParrot_71 rfl) ?_
  refine px_ok_cons (fgX6_20 dX6_readParrot_72) ?_
  refine px_ok_cons (ps_iload_n dX6_readParrot_75 rfl) ?_
  refine px_ok_cons (ps_iconst dX6_readParrot_76 (by decide)) ?_
  refine px_ok_cons (ps_iadd dX6_readParrot_77) ?_
  refine px_ok_cons (ps_iaload dX6_readParrot_78) ?_
  refine px_ok_cons (ps_bipush dX6_readParrot_79 (by decide)) ?_
  refine px_ok_cons (ps_icmp_ge dX6_readParrot_81 (by decide)) ?_
  refine px_ok_cons (ps_iconst dX6_readParrot_84 (by decide)) ?_
  refine px_ok_cons (ps_goto dX6_readParrot_85 (by decide)) ?_
  refine px_ok_cons (ps_iconst dX6_readParrot_88 (by decide)) ?_
  refine px_ok_cons (ps_iconst dX6_readParrot_89 (by decide)) ?_
  refine px_ok_cons (ps_callV mX6_requires (fun _ _ => rfl) (C := RX6) rfl (fun _ _ ht => px_cwV wgM (wdM_1_in _ (List.mem_of_getElem? (i := 20) rfl)) (wdM_1_in _ (List.mem_of_getElem? (i := 21) rfl)) (wdM_1_in _ (List.mem_of_getElem? (i := 22) rfl)) (wdM_0_in _ (List.mem_of_getElem? (i := 22) rfl)) (wdM_0_in _ (List.mem_of_getElem? (i := 35) rfl)) (by decide +kernel) rfl rfl (by decide) ht) dX6_readParrot_90) ?_
  refine px_ok_cons (ps_aload_n dX6_readParrot_93 rfl) ?_
  refine px_ok_cons (fgX6_64 dX6_readParrot_94) ?_
  refine px_ok_cons (ps_if_ne dX6_readParrot_97 (by decide)) ?_
  refine px_ok_cons (ps_aload_n dX6_readParrot_100 rfl) ?_
  refine px_ok_cons (fgX6_20 dX6_readParrot_101) ?_
  refine px_ok_cons (ps_iload_n dX6_readParrot_104 rfl) ?_
  refine px_ok_cons (ps_iconst dX6_readParrot_105 (by decide)) ?_
  refine px_ok_cons (ps_iadd dX6_readParrot_106) ?_
  refine px_ok_cons (ps_aload_n dX6_readParrot_107 rfl) ?_
  refine px_ok_cons (fgX6_20 dX6_readParrot_108) ?_
  refine px_ok_cons (ps_iload_n dX6_readParrot_111 rfl) ?_
  refine px_ok_cons (ps_iconst dX6_readParrot_112 (by decide)) ?_
  refine px_ok_cons (ps_iadd dX6_readParrot_113) ?_
  refine px_ok_cons (ps_iaload dX6_readParrot_114) ?_
  refine px_ok_cons (ps_iadd dX6_readParrot_115) ?_
  refine px_ok_cons (ps_aload_n dX6_readParrot_116 rfl) ?_
  refine px_ok_cons (ps_iconst dX6_readParrot_117 (by decide)) ?_
  refine px_ok_cons (ps_bipush dX6_readParrot_118 (by decide)) ?_
  refine px_ok_cons (ps_callV mX6_readNumber (fun _ _ => rfl) (C := RX6) rfl (fun _ _ ht => px_cwV wgM (wdM_1_in _ (List.mem_of_getElem? (i := 27) rfl)) (wdM_1_in _ (List.mem_of_getElem? (i := 28) rfl)) (wdM_1_in _ (List.mem_of_getElem? (i := 29) rfl)) (wdM_0_in _ (List.mem_of_getElem? (i := 22) rfl)) (wdM_1_in _ (List.mem_of_getElem? (i := 26) rfl)) (by decide +kernel) rfl rfl (by decide) ht) dX6_readParrot_120) ?_
  refine px_ok_cons (ps_iastore dX6_readParrot_123) ?_
  refine px_ok_cons (ps_aload_n dX6_readParrot_124 rfl) ?_
  refine px_ok_cons (fgX6_20 dX6_readParrot_125) ?_
  refine px_ok_cons (ps_iload_n dX6_readParrot_128 rfl) ?_
  refine px_ok_cons (ps_iconst dX6_readParrot_129 (by decide)) ?_
  refine px_ok_cons (ps_iadd dX6_readParrot_130) ?_
  refine px_ok_cons (ps_dup2 dX6_readParrot_131) ?_
  refine px_ok_cons (ps_iaload dX6_readParrot_132) ?_
  refine px_ok_cons (ps_iconst dX6_readParrot_133 (by decide)) ?_
  refine px_ok_cons (ps_iadd dX6_readParrot_134) ?_
  refine px_ok_cons (ps_iastore dX6_readParrot_135) ?_
  refine px_ok_cons (ps_goto dX6_readParrot_136 (by decide)) ?_
  refine px_ok_cons (ps_return rfl dX6_readParrot_139) ?_
  exact px_ok_nil
set_option maxRecDepth 100000 in
set_option maxHeartbeats 4000000 in
theorem sgX6_readParrot_0 {po : Unit → px_St → Prop} {G : px_K} (hG : px_cl (opX6_readParrot po) G) (v1 : Int32) (σ : px_St)
    (H : vp_in (45 : Int32) 61 ∧ vp_in (((9 : Int32) * (σ.1 4 (45 : Int32).toNatClampNeg)) + (0 : Int32)) 61 ∧ ∃ g3 : gtX6_readNumber, qrX6_readNumber g3 (0 : Int32) (9 : Int32) (px_up σ 4 (((9 : Int32) * (σ.1 4 (45 : Int32).toNatClampNeg)) + (0 : Int32)).toNatClampNeg v1) ∧ ∀ (r1 : Int32) (σ2 : px_St), qoX6_readNumber g3 (0 : Int32) (9 : Int32) (px_up σ 4 (((9 : Int32) * (σ.1 4 (45 : Int32).toNatClampNeg)) + (0 : Int32)).toNatClampNeg v1) r1 σ2 → vp_in (((9 : Int32) * (σ.1 4 (45 : Int32).toNatClampNeg)) + (3 : Int32)) 61 ∧ vp_in (((9 : Int32) * (σ.1 4 (45 : Int32).toNatClampNeg)) + (1 : Int32)) 61 ∧ vp_in (45 : Int32) 61 ∧ vp_in (45 : Int32) 61 ∧ G 55 [some (.ref 0), some (.int v1), some (.int ((9 : Int32) * (σ.1 4 (45 : Int32).toNatClampNeg)))] [] (px_up (px_up (px_up σ2 4 (((9 : Int32) * (σ.1 4 (45 : Int32).toNatClampNeg)) + (3 : Int32)).toNatClampNeg r1) 4 (((9 : Int32) * (σ.1 4 (45 : Int32).toNatClampNeg)) + (1 : Int32)).toNatClampNeg (1 : Int32)) 4 (45 : Int32).toNatClampNeg (((px_up (px_up σ2 4 (((9 : Int32) * (σ.1 4 (45 : Int32).toNatClampNeg)) + (3 : Int32)).toNatClampNeg r1) 4 (((9 : Int32) * (σ.1 4 (45 : Int32).toNatClampNeg)) + (1 : Int32)).toNatClampNeg (1 : Int32)).1 4 (45 : Int32).toNatClampNeg) + (1 : Int32)))) :
    G 0 (px_ent 3 [.ref 0, .int v1]) [] σ := by
  refine hG.1 0 _ _ rfl _ _ _ ?_
  refine hG.1 1 _ _ rfl _ _ _ ?_
  refine hG.1 2 _ _ rfl _ _ _ ?_
  refine ⟨⟨rfl, by decide⟩, ?_⟩
  refine hG.1 3 _ _ rfl _ _ _ ?_
  refine hG.1 4 _ _ rfl _ _ _ ?_
  refine ⟨⟨rfl, by decide⟩, H.1, ?_⟩
  replace H := H.2
  refine hG.1 5 _ _ rfl _ _ _ ?_
  refine hG.1 6 _ _ rfl _ _ _ ?_
  show G 11 [some (.ref 0), some (.int v1), some (.int ((9 : Int32) * (σ.1 4 (45 : Int32).toNatClampNeg)))] [] σ
  refine hG.1 7 _ _ rfl _ _ _ ?_
  refine hG.1 8 _ _ rfl _ _ _ ?_
  refine ⟨⟨rfl, by decide⟩, ?_⟩
  refine hG.1 9 _ _ rfl _ _ _ ?_
  refine hG.1 10 _ _ rfl _ _ _ ?_
  refine hG.1 11 _ _ rfl _ _ _ ?_
  refine hG.1 12 _ _ rfl _ _ _ ?_
  refine hG.1 13 _ _ rfl _ _ _ ?_
  refine ⟨⟨rfl, by decide⟩, H.1, ?_⟩
  replace H := H.2
  refine hG.1 14 _ _ rfl _ _ _ ?_
  refine hG.1 15 _ _ rfl _ _ _ ?_
  refine ⟨⟨rfl, by decide⟩, ?_⟩
  refine hG.1 16 _ _ rfl _ _ _ ?_
  refine hG.1 17 _ _ rfl _ _ _ ?_
  refine hG.1 18 _ _ rfl _ _ _ ?_
  refine hG.1 19 _ _ rfl _ _ _ ?_
  refine hG.1 20 _ _ rfl _ _ _ ?_
  refine hG.1 21 _ _ rfl _ _ _ ?_
  refine hG.1 22 _ _ rfl _ _ _ ?_
  obtain ⟨g3, H⟩ := H
  refine ⟨⟨rfl, by decide⟩, Nat.le_of_ble_eq_true rfl, g3, ⟨_, _, rfl, H.1⟩, fun r1 σ2 hp4 => ?_⟩
  replace H := H.2 r1 σ2 hp4
  refine hG.1 23 _ _ rfl _ _ _ ?_
  refine ⟨⟨rfl, by decide⟩, H.1, ?_⟩
  replace H := H.2
  refine hG.1 24 _ _ rfl _ _ _ ?_
  refine hG.1 25 _ _ rfl _ _ _ ?_
  refine ⟨⟨rfl, by decide⟩, ?_⟩
  refine hG.1 26 _ _ rfl _ _ _ ?_
  refine hG.1 27 _ _ rfl _ _ _ ?_
  refine hG.1 28 _ _ rfl _ _ _ ?_
  refine hG.1 29 _ _ rfl _ _ _ ?_
  refine hG.1 30 _ _ rfl _ _ _ ?_
  refine ⟨⟨rfl, by decide⟩, H.1, ?_⟩
  replace H := H.2
  refine hG.1 31 _ _ rfl _ _ _ ?_
  refine hG.1 32 _ _ rfl _ _ _ ?_
  refine ⟨⟨rfl, by decide⟩, ?_⟩
  refine hG.1 33 _ _ rfl _ _ _ ?_
  refine hG.1 34 _ _ rfl _ _ _ ?_
  refine hG.1 35 _ _ rfl _ _ _ ?_
  refine ⟨⟨rfl, by decide⟩, H.1, ?_⟩
  replace H := H.2
  refine hG.1 36 _ _ rfl _ _ _ ?_
  refine hG.1 37 _ _ rfl _ _ _ ?_
  refine hG.1 38 _ _ rfl _ _ _ ?_
  refine ⟨⟨rfl, by decide⟩, H.1, ?_⟩
  replace H := H.2
  exact H
set_option maxRecDepth 100000 in
set_option maxHeartbeats 4000000 in
theorem sgX6_readParrot_55 {po : Unit → px_St → Prop} {G : px_K} (hG : px_cl (opX6_readParrot po) G) (v1 : Int32) (v2 : Int32) (σ : px_St)
    (H : ((¬ (σ.1 0 11) = 0) → po () σ) ∧ (¬ (¬ (σ.1 0 11) = 0) → ((¬ (σ.1 0 9) = (2 : Int32)) → po () σ) ∧ (¬ (¬ (σ.1 0 9) = (2 : Int32)) → vp_in (v2 + (1 : Int32)) 61 ∧ (((6 : Int32) ≤ (σ.1 4 (v2 + (1 : Int32)).toNatClampNeg)) → ∃ g3 : gtX6_requires, qrX6_requires g3 (0 : Int32) (5 : Int32) σ ∧ ∀ (r1 : Unit) (σ2 : px_St), qoX6_requires g3 (0 : Int32) (5 : Int32) σ r1 σ2 → G 93 [some (.ref 0), some (.int v1), some (.int v2)] [] σ2) ∧ (¬ ((6 : Int32) ≤ (σ.1 4 (v2 + (1 : Int32)).toNatClampNeg)) → ∃ g7 : gtX6_requires, qrX6_requires g7 (1 : Int32) (5 : Int32) σ ∧ ∀ (r5 : Unit) (σ6 : px_St), qoX6_requires g7 (1 : Int32) (5 : Int32) σ r5 σ6 → G 93 [some (.ref 0), some (.int v1), some (.int v2)] [] σ6)))) :
    G 55 [some (.ref 0), some (.int v1), some (.int v2)] [] σ := by
  refine hG.1 39 _ _ rfl _ _ _ ?_
  refine hG.1 40 _ _ rfl _ _ _ ?_
  refine ⟨⟨rfl, by decide⟩, ?_⟩
  refine hG.1 41 _ _ rfl _ _ _ ?_
  refine ⟨fun h11 => ?_, fun h11 => ?_⟩
  · replace H := H.1 h11
    refine hG.1 91 _ _ rfl _ _ _ ?_
    exact H
  · replace H := H.2 h11
    refine hG.1 42 _ _ rfl _ _ _ ?_
    refine hG.1 43 _ _ rfl _ _ _ ?_
    refine ⟨⟨rfl, by decide⟩, ?_⟩
    refine hG.1 44 _ _ rfl _ _ _ ?_
    refine hG.1 45 _ _ rfl _ _ _ ?_
    refine ⟨fun h10 => ?_, fun h10 => ?_⟩
    · replace H := H.1 h10
      refine hG.1 91 _ _ rfl _ _ _ ?_
      exact H
    · replace H := H.2 h10
      refine hG.1 46 _ _ rfl _ _ _ ?_
      refine hG.1 47 _ _ rfl _ _ _ ?_
      refine hG.1 48 _ _ rfl _ _ _ ?_
      refine ⟨⟨rfl, by decide⟩, ?_⟩
      refine hG.1 49 _ _ rfl _ _ _ ?_
      refine hG.1 50 _ _ rfl _ _ _ ?_
      refine hG.1 51 _ _ rfl _ _ _ ?_
      refine hG.1 52 _ _ rfl _ _ _ ?_
      refine ⟨⟨rfl, by decide⟩, H.1, ?_⟩
      replace H := H.2
      refine hG.1 53 _ _ rfl _ _ _ ?_
      refine hG.1 54 _ _ rfl _ _ _ ?_
      refine ⟨fun h9 => ?_, fun h9 => ?_⟩
      · replace H := H.1 h9
        refine hG.1 57 _ _ rfl _ _ _ ?_
        refine hG.1 58 _ _ rfl _ _ _ ?_
        refine hG.1 59 _ _ rfl _ _ _ ?_
        obtain ⟨g3, H⟩ := H
        refine ⟨⟨rfl, by decide⟩, Nat.le_of_ble_eq_true rfl, g3, ⟨_, _, rfl, H.1⟩, fun r1 σ2 hp4 => ?_⟩
        replace H := H.2 r1 σ2 hp4
        exact H
      · replace H := H.2 h9
        refine hG.1 55 _ _ rfl _ _ _ ?_
        refine hG.1 56 _ _ rfl _ _ _ ?_
        refine hG.1 58 _ _ rfl _ _ _ ?_
        refine hG.1 59 _ _ rfl _ _ _ ?_
        obtain ⟨g7, H⟩ := H
        refine ⟨⟨rfl, by decide⟩, Nat.le_of_ble_eq_true rfl, g7, ⟨_, _, rfl, H.1⟩, fun r5 σ6 hp8 => ?_⟩
        replace H := H.2 r5 σ6 hp8
        exact H
set_option maxRecDepth 100000 in
set_option maxHeartbeats 4000000 in
theorem sgX6_readParrot_93 {po : Unit → px_St → Prop} {G : px_K} (hG : px_cl (opX6_readParrot po) G) (v1 : Int32) (v2 : Int32) (σ : px_St)
    (H : ((¬ (σ.1 0 11) = 0) → G 55 [some (.ref 0), some (.int v1), some (.int v2)] [] σ) ∧ (¬ (¬ (σ.1 0 11) = 0) → vp_in (v2 + (1 : Int32)) 61 ∧ ∃ g3 : gtX6_readNumber, qrX6_readNumber g3 (0 : Int32) (9 : Int32) σ ∧ ∀ (r1 : Int32) (σ2 : px_St), qoX6_readNumber g3 (0 : Int32) (9 : Int32) σ r1 σ2 → vp_in ((v2 + (3 : Int32)) + (σ.1 4 (v2 + (1 : Int32)).toNatClampNeg)) 61 ∧ vp_in (v2 + (1 : Int32)) 61 ∧ vp_in (v2 + (1 : Int32)) 61 ∧ G 55 [some (.ref 0), some (.int v1), some (.int v2)] [] (px_up (px_up σ2 4 ((v2 + (3 : Int32)) + (σ.1 4 (v2 + (1 : Int32)).toNatClampNeg)).toNatClampNeg r1) 4 (v2 + (1 : Int32)).toNatClampNeg (((px_up σ2 4 ((v2 + (3 : Int32)) + (σ.1 4 (v2 + (1 : Int32)).toNatClampNeg)).toNatClampNeg r1).1 4 (v2 + (1 : Int32)).toNatClampNeg) + (1 : Int32))))) :
    G 93 [some (.ref 0), some (.int v1), some (.int v2)] [] σ := by
  refine hG.1 60 _ _ rfl _ _ _ ?_
  refine hG.1 61 _ _ rfl _ _ _ ?_
  refine ⟨⟨rfl, by decide⟩, ?_⟩
  refine hG.1 62 _ _ rfl _ _ _ ?_
  refine ⟨fun h5 => ?_, fun h5 => ?_⟩
  · replace H := H.1 h5
    exact H
  · replace H := H.2 h5
    refine hG.1 63 _ _ rfl _ _ _ ?_
    refine hG.1 64 _ _ rfl _ _ _ ?_
    refine ⟨⟨rfl, by decide⟩, ?_⟩
    refine hG.1 65 _ _ rfl _ _ _ ?_
    refine hG.1 66 _ _ rfl _ _ _ ?_
    refine hG.1 67 _ _ rfl _ _ _ ?_
    refine hG.1 68 _ _ rfl _ _ _ ?_
    refine hG.1 69 _ _ rfl _ _ _ ?_
    refine ⟨⟨rfl, by decide⟩, ?_⟩
    refine hG.1 70 _ _ rfl _ _ _ ?_
    refine hG.1 71 _ _ rfl _ _ _ ?_
    refine hG.1 72 _ _ rfl _ _ _ ?_
    refine hG.1 73 _ _ rfl _ _ _ ?_
    refine ⟨⟨rfl, by decide⟩, H.1, ?_⟩
    replace H := H.2
    refine hG.1 74 _ _ rfl _ _ _ ?_
    refine hG.1 75 _ _ rfl _ _ _ ?_
    refine hG.1 76 _ _ rfl _ _ _ ?_
    refine hG.1 77 _ _ rfl _ _ _ ?_
    refine hG.1 78 _ _ rfl _ _ _ ?_
    obtain ⟨g3, H⟩ := H
    refine ⟨⟨rfl, by decide⟩, Nat.le_of_ble_eq_true rfl, g3, ⟨_, _, rfl, H.1⟩, fun r1 σ2 hp4 => ?_⟩
    replace H := H.2 r1 σ2 hp4
    refine hG.1 79 _ _ rfl _ _ _ ?_
    refine ⟨⟨rfl, by decide⟩, H.1, ?_⟩
    replace H := H.2
    refine hG.1 80 _ _ rfl _ _ _ ?_
    refine hG.1 81 _ _ rfl _ _ _ ?_
    refine ⟨⟨rfl, by decide⟩, ?_⟩
    refine hG.1 82 _ _ rfl _ _ _ ?_
    refine hG.1 83 _ _ rfl _ _ _ ?_
    refine hG.1 84 _ _ rfl _ _ _ ?_
    refine hG.1 85 _ _ rfl _ _ _ ?_
    refine hG.1 86 _ _ rfl _ _ _ ?_
    refine ⟨⟨rfl, by decide⟩, H.1, ?_⟩
    replace H := H.2
    refine hG.1 87 _ _ rfl _ _ _ ?_
    refine hG.1 88 _ _ rfl _ _ _ ?_
    refine hG.1 89 _ _ rfl _ _ _ ?_
    refine ⟨⟨rfl, by decide⟩, H.1, ?_⟩
    replace H := H.2
    refine hG.1 90 _ _ rfl _ _ _ ?_
    exact H
set_option maxRecDepth 100000 in
set_option maxHeartbeats 4000000 in
theorem hhX6_readParrot (g : gtX6_readParrot) (v1 : Int32) (σ : px_St) (h : qrX6_readParrot g v1 σ) (G : px_K) (hG : px_cl (opX6_readParrot (qoX6_readParrot g v1 σ)) G) : G 0 (px_ent 3 [.ref 0, .int v1]) [] σ := by
  obtain ⟨T, V, k, t0⟩ := g
  obtain ⟨hb, hT, hV, hw, hn, hk, rfl, hr, ht0⟩ := h
  have hl := hT.1
  obtain ⟨R0, hR0⟩ : ∃ R0, R0 = (if t0.1 = 2 then pt_snd T 6 [] t0 else .inl (2, t0.2.1)) := ⟨_, rfl⟩
  have po : ∀ σ', rsM σ' (fun w : List Nat × pt_K => rdM σ' w.2 ∧ dr_is σ' (pv_add V (k, 0, w.1))) R0 → frD σ σ' → qoX6_readParrot (T, V, k, t0) (nI k) σ () σ' := fun σ' a b => ⟨by rw [← hR0]; exact a, b⟩
  have stop : ∀ (f : Nat × Nat) σ', 1 ≤ f.1 ∧ f.1 ≤ 5 → R0 = .inl f → σ'.1 0 11 = nI f.1 → σ'.1 0 12 = nI f.2 → frD σ σ' → G 55 [some (.ref 0), some (.int (nI k)), some (.int (nI (9 * V.1)))] [] σ' := fun f σ' h1 he e11 e12 ho =>
    sgX6_readParrot_55 hG _ _ σ' ⟨fun _ => po _ (by rw [he]; exact ⟨e11, e12⟩) ho, fun q => absurd (by rw [e11]; exact nI_ne0 (by omega) (by omega)) q⟩
  have i1 : nI (9 * V.1) + 1 = nI (9 * V.1 + 1) := nI_add _ 1
  have i3 : nI (9 * V.1) + 3 = nI (9 * V.1 + 3) := nI_add _ 3
  have hV5 := hw.1
  have loop : ∀ n i, i + n = 6 → ∀ (m : List Nat) (t : pt_K) σ', m.length = i → (∀ x ∈ m, x ≤ 9) → tk_ok T t → R0 = pt_snd T n m t → rdM σ' t → dr_is σ' (pv_add V (k, 0, m)) → frD σ σ' → G 55 [some (.ref 0), some (.int (nI k)), some (.int (nI (9 * V.1)))] [] σ' := by
    intro n
    induction n with
    | zero =>
      intro i hi m t σ' hm hx ht he hr' hV' ho
      have c2 := hr'.s ht 2 2 rfl (by omega)
      have hp := hV'.1.2 V.1 (Nat.lt_succ_self _)
      rw [pv_add_p] at hp
      have e1 : σ'.1 4 (9 * V.1 + 1) = nI m.length := hp.2.1
      rw [pt_snd] at he
      refine sgX6_readParrot_55 hG _ _ σ' ⟨fun q => absurd hr'.1 q, fun _ => ?_⟩
      rw [c2, i1, nI_clamp (by omega), e1, show (6 : Int32) ≤ nI m.length ↔ 6 ≤ m.length from nIle 6 m.length rfl rfl (by omega) (by omega)]
      refine ⟨fun z => po _ ?_ ho, fun z => ⟨vp_in_nI (by omega) (by decide), fun y => ⟨(), trivial, fun _ σ1 h1 => ?_⟩, fun y => absurd (by omega) y⟩⟩
      · rw [he, if_neg z]; exact ⟨hr', hV'⟩
      · have h1 := h1.2.2 rfl hr'.1
        subst h1
        have e11 : (px_up (px_up σ' 0 11 5) 0 12 (σ'.1 0 8)).1 0 11 = nI 5 := by rw [up0n (by omega), up0s]; rfl
        have e12 : (px_up (px_up σ' 0 11 5) 0 12 (σ'.1 0 8)).1 0 12 = nI t.2.1 := by rw [up0s]; exact hr'.2.2.1
        have oF := ho.tr ((fr0.up (σ := σ') (j := 11) (x := 5) (by omega)).tr (fr0.up (j := 12) (x := σ'.1 0 8) (by omega))).D
        refine sgX6_readParrot_93 hG _ _ _ ⟨fun _ => stop (5, t.2.1) _ ⟨by show 1 ≤ 5; omega, by show 5 ≤ 5; omega⟩ (by rw [he, if_pos (Classical.byContradiction z)]) e11 e12 oF, fun q => absurd (by rw [e11]; decide) q⟩
    | succ n ih =>
      intro i hi m t σ' hm hx ht he hr' hV' ho
      have c2 := hr'.s ht 2 2 rfl (by omega)
      have hp := hV'.1.2 V.1 (Nat.lt_succ_self _)
      rw [pv_add_p] at hp
      have e1 : σ'.1 4 (9 * V.1 + 1) = nI m.length := hp.2.1
      have hwm : pv_w (pv_add V (k, 0, m)) := pv_add_w hw hn ⟨hk, by show m.length ≤ 6; omega, hx⟩
      rw [pt_snd] at he
      refine sgX6_readParrot_55 hG _ _ σ' ⟨fun q => absurd hr'.1 q, fun _ => ?_⟩
      rw [c2, i1, nI_clamp (by omega), e1, show (6 : Int32) ≤ nI m.length ↔ 6 ≤ m.length from nIle 6 m.length rfl rfl (by omega) (by omega)]
      refine ⟨fun z => po _ ?_ ho, fun z => ⟨vp_in_nI (by omega) (by decide), fun y => absurd y (by omega), fun y => ⟨(), trivial, fun _ σ1 h1 => ?_⟩⟩⟩
      · rw [he, if_neg z]; exact ⟨hr', hV'⟩
      · have h1 := (h1.1 (by decide)).symm
        subst h1
        have z := Classical.byContradiction z
        rw [if_pos z] at he
        refine sgX6_readParrot_93 hG _ _ _ ⟨fun q => absurd hr'.1 q, fun _ => ?_⟩
        rw [i1, i3, nI_clamp (by omega), e1, nI_add, nI_clamp (by omega)]
        refine ⟨vp_in_nI (by omega) (by decide), (T, 0, 9, t), ⟨hb.keptD ho, hT, hr', ht, rfl, rfl, by omega, by omega⟩, fun r2 σ2 h2 => ?_⟩
        obtain ⟨h3, h4⟩ := h2
        have hgd := pt_num_good (lo := 0) (hi := 9) hT ht
        refine ⟨vp_in_nI (by omega) (by decide), vp_in_nI (by omega) (by decide), vp_in_nI (by omega) (by decide), ?_⟩
        obtain ⟨σ3, e3⟩ : ∃ σ3, σ3 = px_up (px_up σ2 4 (9 * V.1 + 3 + m.length) r2) 4 (9 * V.1 + 1) ((px_up σ2 4 (9 * V.1 + 3 + m.length) r2).1 4 (9 * V.1 + 1) + 1) := ⟨_, rfl⟩
        rw [← e3]
        have o3 : frD σ σ3 := by rw [e3]; exact ((ho.tr h4.D).tr frD.up).tr frD.up
        have z0 : σ3.1 0 = σ2.1 0 := by rw [e3, px_up_n (by omega), px_up_n (by omega)]
        unfold pt_num at h3 hgd
        rw [if_pos z] at h3 hgd
        by_cases h9 : t.2.2.2 ≤ 9
        · rw [if_pos ⟨Nat.zero_le _, h9⟩] at h3 hgd
          rw [if_pos h9] at he
          cases hy : pt_next T t.2.2.1 with
          | inl f =>
            rw [hy] at h3 he hgd
            rw [pt_bl] at he
            have h3 : σ2.1 0 11 = nI f.1 ∧ σ2.1 0 12 = nI f.2 := h3
            exact stop f _ hgd.1 he (by rw [z0]; exact h3.1) (by rw [z0]; exact h3.2) o3
          | inr t' =>
            rw [hy] at h3 he hgd
            rw [pt_br] at he
            have h3 : r2 = nI t.2.2.2 ∧ rdM σ2 t' := h3
            have hgt : tk_ok T t' := hgd.2
            refine ih (i + 1) (by omega) (m ++ [t.2.2.2]) t' σ3 (by rw [List.length_append]; show m.length + 1 = i + 1; omega) (fun x hx2 => ?_) hgt he (h3.2.kept z0) ?_ o3
            · rcases List.mem_append.mp hx2 with q | q
              · exact hx x q
              · rw [List.mem_singleton.mp q]; exact h9
            · have e42 : σ2.1 4 = σ'.1 4 := h4.1 4 (by omega)
              refine dr_next (hV'.kept e42) hwm hn (by omega) (fun j a b => ?_) ?_ ?_
              · rw [e3, px_up_at, if_neg (by omega), px_up_at, if_neg (by omega)]
              · rw [e3, px_up_at, if_pos ⟨rfl, rfl⟩, px_up_at, if_neg (by omega), e42, e1]; exact nI_1 _
              · rw [e3, px_up_at, if_neg (by omega), px_up_at, if_pos ⟨rfl, rfl⟩]; exact h3.1
        · rw [if_neg (fun q => h9 q.2)] at h3 hgd
          rw [if_neg h9] at he
          have h3 : σ2.1 0 11 = nI 3 ∧ σ2.1 0 12 = nI t.2.1 := h3
          exact stop (3, t.2.1) _ ⟨by show 1 ≤ 3; omega, by show 3 ≤ 5; omega⟩ he (by rw [z0]; exact h3.1) (by rw [z0]; exact h3.2) o3
  have e45 : σ.1 4 45 = nI V.1 := hV.1.1.1
  have j0 : (9 : Int32) * nI V.1 + 0 = nI (9 * V.1) := ix9 V.1 0
  have j1 : (9 : Int32) * nI V.1 + 1 = nI (9 * V.1 + 1) := ix9 V.1 1
  have j3 : (9 : Int32) * nI V.1 + 3 = nI (9 * V.1 + 3) := ix9 V.1 3
  have jj : (9 : Int32) * nI V.1 = nI (9 * V.1) := pk_mul 9 V.1
  refine sgX6_readParrot_0 hG _ σ ?_
  rw [c45, e45, j0, j1, j3, jj, nI_clamp (by omega), nI_clamp (by omega), nI_clamp (by omega)]
  obtain ⟨σA, eA⟩ : ∃ σA, σA = px_up σ 4 (9 * V.1) (nI k) := ⟨_, rfl⟩
  rw [← eA]
  have zA : σA.1 0 = σ.1 0 := by rw [eA, px_up_n (by omega)]
  have oA : frD σ σA := by rw [eA]; exact frD.up
  refine ⟨d45, vp_in_nI (by omega) (by decide), (T, 0, 9, t0), ⟨hb.keptD oA, hT, hr.kept zA, ht0, rfl, rfl, by omega, by omega⟩, fun r2 σ2 h2 => ?_⟩
  obtain ⟨h3, h4⟩ := h2
  have hgd := pt_num_good (lo := 0) (hi := 9) hT ht0
  refine ⟨vp_in_nI (by omega) (by decide), vp_in_nI (by omega) (by decide), d45, d45, ?_⟩
  obtain ⟨σ3, e3⟩ : ∃ σ3, σ3 = px_up (px_up (px_up σ2 4 (9 * V.1 + 3) r2) 4 (9 * V.1 + 1) 1) 4 45 ((px_up (px_up σ2 4 (9 * V.1 + 3) r2) 4 (9 * V.1 + 1) 1).1 4 45 + 1) := ⟨_, rfl⟩
  rw [← e3]
  have o3 : frD σ σ3 := by rw [e3]; exact (((oA.tr h4.D).tr frD.up).tr frD.up).tr frD.up
  have z0 : σ3.1 0 = σ2.1 0 := by rw [e3, px_up_n (by omega), px_up_n (by omega), px_up_n (by omega)]
  unfold pt_num at h3 hgd
  by_cases z : t0.1 = 2
  · rw [if_pos z] at h3 hgd hR0
    rw [pt_snd, if_pos z] at hR0
    by_cases h9 : t0.2.2.2 ≤ 9
    · rw [if_pos ⟨Nat.zero_le _, h9⟩] at h3 hgd
      rw [if_pos h9] at hR0
      cases hy : pt_next T t0.2.2.1 with
      | inl f =>
        rw [hy] at h3 hR0 hgd
        rw [pt_bl] at hR0
        have h3 : σ2.1 0 11 = nI f.1 ∧ σ2.1 0 12 = nI f.2 := h3
        exact stop f _ hgd.1 hR0 (by rw [z0]; exact h3.1) (by rw [z0]; exact h3.2) o3
      | inr t' =>
        rw [hy] at h3 hR0 hgd
        rw [pt_br] at hR0
        have h3 : r2 = nI t0.2.2.2 ∧ rdM σ2 t' := h3
        have hgt : tk_ok T t' := hgd.2
        refine loop 5 1 (by omega) [t0.2.2.2] t' σ3 rfl (fun x hx2 => ?_) hgt hR0 (h3.2.kept z0) ?_ o3
        · rw [List.mem_singleton.mp hx2]; exact h9
        · have e42 : σ2.1 4 = σA.1 4 := h4.1 4 (by omega)
          refine dr_first hV hw hn (fun j a b c d => ?_) ?_ ?_ ?_ ?_
          · rw [e3, px_up_at, if_neg (by omega), px_up_at, if_neg (by omega), px_up_at, if_neg (by omega), e42, eA, px_up_at, if_neg (by omega)]
          · rw [e3, px_up_at, if_neg (by omega), px_up_at, if_neg (by omega), px_up_at, if_neg (by omega), e42, eA, px_up_at, if_pos ⟨rfl, rfl⟩]
          · rw [e3, px_up_at, if_neg (by omega), px_up_at, if_pos ⟨rfl, rfl⟩]
          · rw [e3, px_up_at, if_neg (by omega), px_up_at, if_neg (by omega), px_up_at, if_pos ⟨rfl, rfl⟩]; exact h3.1
          · rw [e3, px_up_at, if_pos ⟨rfl, rfl⟩, px_up_at, if_neg (by omega), px_up_at, if_neg (by omega), e42, eA, px_up_at, if_neg (by omega), e45]; exact nI_1 _
    · rw [if_neg (fun q => h9 q.2)] at h3 hgd
      rw [if_neg h9] at hR0
      have h3 : σ2.1 0 11 = nI 3 ∧ σ2.1 0 12 = nI t0.2.1 := h3
      exact stop (3, t0.2.1) _ ⟨by show 1 ≤ 3; omega, by show 3 ≤ 5; omega⟩ hR0 (by rw [z0]; exact h3.1) (by rw [z0]; exact h3.2) o3
  · rw [if_neg z] at h3 hgd hR0
    have h3 : σ2.1 0 11 = nI 2 ∧ σ2.1 0 12 = nI t0.2.1 := h3
    exact stop (2, t0.2.1) _ ⟨by show 1 ≤ 2; omega, by show 2 ≤ 5; omega⟩ hR0 (by rw [z0]; exact h3.1) (by rw [z0]; exact h3.2) o3
theorem mX6_readParrot (g : gtX6_readParrot) : px_Met dM yX6_readParrot (Cond.code yX6_readParrot cX6_readParrot 3 none :: wdM) rmX6_readParrot px_vV (prX6_readParrot g) (poX6_readParrot g) :=
  px_met (Z := (cX6_readParrot, 3, RX6, Cond.code yX6_readParrot cX6_readParrot 3 none :: wdM, none, rmX6_readParrot, dM)) opX6_readParrot (by decide) rfl rfl okX6_readParrot (fun As σ h => by obtain ⟨v1, rfl, h⟩ := h; exact Nat.le_of_ble_eq_true rfl) (fun As σ h G hG => by obtain ⟨v1, rfl, h⟩ := h; exact hhX6_readParrot g v1 σ h G hG)
