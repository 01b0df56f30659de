abbrev gtX6_daysGo : Type := pv_V × Nat
def qrX6_daysGo : gtX6_daysGo → Int32 → px_St → Prop
  | (V, n), v1, σ => mv_is (σ.1 2) V ∧ pv_ok V ∧ V.2.2.1 < 1900 ∧ n ≤ 62 ∧ v1 = nI n
def qoX6_daysGo : gtX6_daysGo → Int32 → px_St → Unit → px_St → Prop
  | (V, n), _, σ, _, σ' => mv_is (σ'.1 2) (pv_run V n) ∧ mn_only σ σ'
def prX6_daysGo (g : gtX6_daysGo) : List Value → px_St → Prop := fun As σ => ∃ v1 : Int32, As = [.ref 0, .int v1] ∧ qrX6_daysGo g v1 σ
def poX6_daysGo (g : gtX6_daysGo) : List Value → px_St → Unit → px_St → Prop
  | [.ref _, .int v1], σ, r, σ' => qoX6_daysGo g v1 σ r σ'
  | _, _, _, _ => False
theorem dX6_daysGo_0 : decode cX6_daysGo 0 = .ok (.iconst 0, 1) := by decide +kernel
theorem dX6_daysGo_1 : decode cX6_daysGo 1 = .ok (.istore_n 2, 1) := by decide +kernel
theorem dX6_daysGo_2 : decode cX6_daysGo 2 = .ok (.iload_n 2, 1) := by decide +kernel
theorem dX6_daysGo_3 : decode cX6_daysGo 3 = .ok (.iload_n 1, 1) := by decide +kernel
theorem dX6_daysGo_4 : decode cX6_daysGo 4 = .ok (.if_icmp .ge 13, 3) := by decide +kernel
theorem dX6_daysGo_7 : decode cX6_daysGo 7 = .ok (.aload_n 0, 1) := by decide +kernel
theorem dX6_daysGo_8 : decode cX6_daysGo 8 = .ok (.invokevirtual 156, 3) := by decide +kernel
theorem dX6_daysGo_11 : decode cX6_daysGo 11 = .ok (.iinc 2 1, 3) := by decide +kernel
theorem dX6_daysGo_14 : decode cX6_daysGo 14 = .ok (.goto (-12), 3) := by decide +kernel
theorem dX6_daysGo_17 : decode cX6_daysGo 17 = .ok (.return_, 1) := by decide +kernel
abbrev rmX6_daysGo : Room := { frames := 4, cells := 0, slots := 0, locals := 93 }
def opX6_daysGo (po : Unit → px_St → Prop) : List (Nat × px_Op) := [
  (0, px_push 1 (.int 0)),
  (1, px_is 2 2),
  (2, px_il 3 2),
  (3, px_il 4 1),
  (4, px_ic 7 17 (fun x y => y ≤ x)),
  (7, px_al 8 0),
  (8, px_callV dM 11 6 0 px_vV prX6_dayGoes poX6_dayGoes),
  (11, px_inc 14 2 1),
  (14, px_go 2),
  (17, px_vret po)]
set_option maxRecDepth 100000 in
set_option maxHeartbeats 4000000 in
theorem okX6_daysGo : ∀ (po : Unit → px_St → Prop) (i pc : Nat) (op : px_Op), (opX6_daysGo po)[i]? = some (pc, op) → px_Snd (cX6_daysGo, 3, RX6, Cond.code yX6_daysGo cX6_daysGo 3 none :: wdM, none, rmX6_daysGo, dM) px_vV po pc op := by
  intro po
  unfold opX6_daysGo
  refine px_ok_cons (ps_iconst dX6_daysGo_0 (by decide)) ?_
  refine px_ok_cons (ps_istore_n dX6_daysGo_1 rfl (by decide)) ?_
  refine px_ok_cons (ps_iload_n dX6_daysGo_2 rfl) ?_
  refine px_ok_cons (ps_iload_n dX6_daysGo_3 rfl) ?_
  refine px_ok_cons (ps_icmp_ge dX6_daysGo_4 (by decide)) ?_
  refine px_ok_cons (ps_aload_n dX6_daysGo_7 rfl) ?_
  refine px_ok_cons (ps_callV mX6_dayGoes (fun _ _ => rfl) (C := RX6) rfl (fun _ _ ht => px_cwV wgM (wdM_3_in _ (List.mem_of_getElem? (i := 6) rfl)) (wdM_3_in _ (List.mem_of_getElem? (i := 7) rfl)) (wdM_3_in _ (List.mem_of_getElem? (i := 8) rfl)) (wdM_0_in _ (List.mem_of_getElem? (i := 22) rfl)) (wdM_3_in _ (List.mem_of_getElem? (i := 5) rfl)) (by decide +kernel) rfl rfl (by decide) ht) dX6_daysGo_8) ?_
  refine px_ok_cons (ps_iinc dX6_daysGo_11 (by decide) (by decide)) ?_
  refine px_ok_cons (ps_goto dX6_daysGo_14 (by decide)) ?_
  refine px_ok_cons (ps_return rfl dX6_daysGo_17) ?_
  exact px_ok_nil
set_option maxRecDepth 100000 in
set_option maxHeartbeats 4000000 in
theorem sgX6_daysGo_0 {po : Unit → px_St → Prop} {G : px_K} (hG : px_cl (opX6_daysGo po) G) (v1 : Int32) (σ : px_St)
    (H : G 2 [some (.ref 0), some (.int v1), some (.int (0 : Int32))] [] σ) :
    G 0 (px_ent 3 [.ref 0, .int v1]) [] σ := by
  refine hG.1 0 _ _ rfl _ _ _ ?_
  refine hG.1 1 _ _ rfl _ _ _ ?_
  show G 2 [some (.ref 0), some (.int v1), some (.int (0 : Int32))] [] σ
  exact H
set_option maxRecDepth 100000 in
set_option maxHeartbeats 4000000 in
theorem sgX6_daysGo_2 {po : Unit → px_St → Prop} {G : px_K} (hG : px_cl (opX6_daysGo po) G) (v1 : Int32) (v2 : Int32) (σ : px_St)
    (H : ((v1 ≤ v2) → po () σ) ∧ (¬ (v1 ≤ v2) → ∃ g3 : gtX6_dayGoes, qrX6_dayGoes g3 σ ∧ ∀ (r1 : Unit) (σ2 : px_St), qoX6_dayGoes g3 σ r1 σ2 → G 2 [some (.ref 0), some (.int v1), some (.int (v2 + 1))] [] σ2)) :
    G 2 [some (.ref 0), some (.int v1), some (.int v2)] [] σ := by
  refine hG.1 2 _ _ rfl _ _ _ ?_
  refine hG.1 3 _ _ rfl _ _ _ ?_
  refine hG.1 4 _ _ rfl _ _ _ ?_
  refine ⟨fun h5 => ?_, fun h5 => ?_⟩
  · replace H := H.1 h5
    refine hG.1 9 _ _ rfl _ _ _ ?_
    exact H
  · replace H := H.2 h5
    refine hG.1 5 _ _ rfl _ _ _ ?_
    refine hG.1 6 _ _ rfl _ _ _ ?_
    obtain ⟨g3, H⟩ := H
    refine ⟨⟨rfl, by decide⟩, Nat.le_of_ble_eq_true rfl, g3, ⟨rfl, H.1⟩, fun r1 σ2 hp4 => ?_⟩
    replace H := H.2 r1 σ2 hp4
    refine hG.1 7 _ _ rfl _ _ _ ?_
    show G 14 [some (.ref 0), some (.int v1), some (.int (v2 + 1))] [] σ2
    refine hG.1 8 _ _ rfl _ _ _ ?_
    exact H
set_option maxRecDepth 100000 in
set_option maxHeartbeats 4000000 in
theorem hhX6_daysGo (g : gtX6_daysGo) (v1 : Int32) (σ : px_St) (h : qrX6_daysGo g v1 σ) (G : px_K) (hG : px_cl (opX6_daysGo (qoX6_daysGo g v1 σ)) G) : G 0 (px_ent 3 [.ref 0, .int v1]) [] σ := by
  obtain ⟨V, n⟩ := g
  obtain ⟨hV, hok, hd, hn, rfl⟩ := h
  refine sgX6_daysGo_0 hG _ σ ?_
  have loop : ∀ m k, k + m = n → ∀ σ', mv_is (σ'.1 2) (pv_run V k) → mn_only σ σ' → G 2 [some (.ref 0), some (.int (nI n)), some (.int (nI k))] [] σ' := by
    intro m
    induction m with
    | zero =>
      intro k hk σ' h1 h2
      have e : k = n := by omega
      subst e
      exact sgX6_daysGo_2 hG _ _ σ' ⟨fun _ => ⟨h1, h2⟩, fun z => absurd (Int32.le_refl _) z⟩
    | succ m ih =>
      intro k hk σ' h1 h2
      refine sgX6_daysGo_2 hG _ _ σ' ⟨fun z => absurd z (nI_ge (by omega) (by omega)), fun _ => ⟨pv_run V k, ⟨h1, pv_run_ok hok k (by omega), by rw [(pv_run_n V k).2.2]; omega⟩, fun _ σ2 hq => ?_⟩⟩
      rw [nI_1]
      exact ih (k + 1) (by omega) σ2 hq.1 (h2.tr hq.2)
  exact loop n 0 (by omega) σ hV mn_only.rf
theorem mX6_daysGo (g : gtX6_daysGo) : px_Met dM yX6_daysGo (Cond.code yX6_daysGo cX6_daysGo 3 none :: wdM) rmX6_daysGo px_vV (prX6_daysGo g) (poX6_daysGo g) :=
  px_met (Z := (cX6_daysGo, 3, RX6, Cond.code yX6_daysGo cX6_daysGo 3 none :: wdM, none, rmX6_daysGo, dM)) opX6_daysGo (by decide) rfl rfl okX6_daysGo (fun As σ h => by obtain ⟨v1, rfl, h⟩ := h; exact Nat.le_of_ble_eq_true rfl) (fun As σ h G hG => by obtain ⟨v1, rfl, h⟩ := h; exact hhX6_daysGo g v1 σ h G hG)
abbrev gtX6_oftenIn : Type := pv_V × Nat × Nat
def qrX6_oftenIn : gtX6_oftenIn → Int32 → Int32 → px_St → Prop
  | (V, s, n), v1, v2, σ => mv_is (σ.1 2) V ∧ pv_ok V ∧ V.2.2.1 < 1900 ∧ n ≤ 62 ∧ v1 = nI s ∧ v2 = nI n
def qoX6_oftenIn : gtX6_oftenIn → Int32 → Int32 → px_St → Int32 → px_St → Prop
  | (V, s, n), _, _, σ, r, σ' => r = nI (pv_times V s n) ∧ mn_only σ σ'
def prX6_oftenIn (g : gtX6_oftenIn) : List Value → px_St → Prop := fun As σ => ∃ v1 : Int32, ∃ v2 : Int32, As = [.ref 0, .int v1, .int v2] ∧ qrX6_oftenIn g v1 v2 σ
def poX6_oftenIn (g : gtX6_oftenIn) : List Value → px_St → Int32 → px_St → Prop
  | [.ref _, .int v1, .int v2], σ, r, σ' => qoX6_oftenIn g v1 v2 σ r σ'
  | _, _, _, _ => False
theorem dX6_oftenIn_0 : decode cX6_oftenIn 0 = .ok (.iconst 0, 1) := by decide +kernel
theorem dX6_oftenIn_1 : decode cX6_oftenIn 1 = .ok (.istore_n 3, 1) := by decide +kernel
theorem dX6_oftenIn_2 : decode cX6_oftenIn 2 = .ok (.iconst 0, 1) := by decide +kernel
theorem dX6_oftenIn_3 : decode cX6_oftenIn 3 = .ok (.istore 4, 2) := by decide +kernel
theorem dX6_oftenIn_5 : decode cX6_oftenIn 5 = .ok (.iload 4, 2) := by decide +kernel
theorem dX6_oftenIn_7 : decode cX6_oftenIn 7 = .ok (.iload_n 2, 1) := by decide +kernel
theorem dX6_oftenIn_8 : decode cX6_oftenIn 8 = .ok (.if_icmp .ge 32, 3) := by decide +kernel
theorem dX6_oftenIn_11 : decode cX6_oftenIn 11 = .ok (.iload_n 3, 1) := by decide +kernel
theorem dX6_oftenIn_12 : decode cX6_oftenIn 12 = .ok (.aload_n 0, 1) := by decide +kernel
theorem dX6_oftenIn_13 : decode cX6_oftenIn 13 = .ok (.invokevirtual 147, 3) := by decide +kernel
theorem dX6_oftenIn_16 : decode cX6_oftenIn 16 = .ok (.iload_n 1, 1) := by decide +kernel
theorem dX6_oftenIn_17 : decode cX6_oftenIn 17 = .ok (.if_icmp .ne 7, 3) := by decide +kernel
theorem dX6_oftenIn_20 : decode cX6_oftenIn 20 = .ok (.iconst 1, 1) := by decide +kernel
theorem dX6_oftenIn_21 : decode cX6_oftenIn 21 = .ok (.goto 4, 3) := by decide +kernel
theorem dX6_oftenIn_24 : decode cX6_oftenIn 24 = .ok (.iconst 0, 1) := by decide +kernel
theorem dX6_oftenIn_25 : decode cX6_oftenIn 25 = .ok (.invokestatic 159, 3) := by decide +kernel
theorem dX6_oftenIn_28 : decode cX6_oftenIn 28 = .ok (.iadd, 1) := by decide +kernel
theorem dX6_oftenIn_29 : decode cX6_oftenIn 29 = .ok (.istore_n 3, 1) := by decide +kernel
theorem dX6_oftenIn_30 : decode cX6_oftenIn 30 = .ok (.aload_n 0, 1) := by decide +kernel
theorem dX6_oftenIn_31 : decode cX6_oftenIn 31 = .ok (.invokevirtual 156, 3) := by decide +kernel
theorem dX6_oftenIn_34 : decode cX6_oftenIn 34 = .ok (.iinc 4 1, 3) := by decide +kernel
theorem dX6_oftenIn_37 : decode cX6_oftenIn 37 = .ok (.goto (-32), 3) := by decide +kernel
theorem dX6_oftenIn_40 : decode cX6_oftenIn 40 = .ok (.iload_n 3, 1) := by decide +kernel
theorem dX6_oftenIn_41 : decode cX6_oftenIn 41 = .ok (.ireturn, 1) := by decide +kernel
abbrev rmX6_oftenIn : Room := { frames := 4, cells := 0, slots := 0, locals := 93 }
def opX6_oftenIn (po : Int32 → px_St → Prop) : List (Nat × px_Op) := [
  (0, px_push 1 (.int 0)),
  (1, px_is 2 3),
  (2, px_push 3 (.int 0)),
  (3, px_is 5 4),
  (5, px_il 7 4),
  (7, px_il 8 2),
  (8, px_ic 11 40 (fun x y => y ≤ x)),
  (11, px_il 12 3),
  (12, px_al 13 0),
  (13, px_callV dM 16 6 0 px_vI prX6_saidNow poX6_saidNow),
  (16, px_il 17 1),
  (17, px_ic 20 24 (fun x y => ¬ x = y)),
  (20, px_push 21 (.int 1)),
  (21, px_go 25),
  (24, px_push 25 (.int 0)),
  (25, px_callS 28 1 px_vI prX6_flag poX6_flag),
  (28, px_bin 29 (fun x y => x + y)),
  (29, px_is 30 3),
  (30, px_al 31 0),
  (31, px_callV dM 34 6 0 px_vV prX6_dayGoes poX6_dayGoes),
  (34, px_inc 37 4 1),
  (37, px_go 5),
  (40, px_il 41 3),
  (41, px_iret (.int) po)]
set_option maxRecDepth 100000 in
set_option maxHeartbeats 4000000 in
theorem okX6_oftenIn : ∀ (po : Int32 → px_St → Prop) (i pc : Nat) (op : px_Op), (opX6_oftenIn po)[i]? = some (pc, op) → px_Snd (cX6_oftenIn, 5, RX6, Cond.code yX6_oftenIn cX6_oftenIn 5 (some .int) :: wdM, (some .int), rmX6_oftenIn, dM) px_vI po pc op := by
  intro po
  unfold opX6_oftenIn
  refine px_ok_cons (ps_iconst dX6_oftenIn_0 (by decide)) ?_
  refine px_ok_cons (ps_istore_n dX6_oftenIn_1 rfl (by decide)) ?_
  refine px_ok_cons (ps_iconst dX6_oftenIn_2 (by decide)) ?_
  refine px_ok_cons (ps_istore dX6_oftenIn_3 (by decide)) ?_
  refine px_ok_cons (ps_iload dX6_oftenIn_5) ?_
  refine px_ok_cons (ps_iload_n dX6_oftenIn_7 rfl) ?_
  refine px_ok_cons (ps_icmp_ge dX6_oftenIn_8 (by decide)) ?_
  refine px_ok_cons (ps_iload_n dX6_oftenIn_11 rfl) ?_
  refine px_ok_cons (ps_aload_n dX6_oftenIn_12 rfl) ?_
  refine px_ok_cons (ps_callV mX6_saidNow (fun _ _ => rfl) (C := RX6) rfl (fun _ _ ht => px_cwV wgM (wdM_2_in _ (List.mem_of_getElem? (i := 36) rfl)) (wdM_2_in _ (List.mem_of_getElem? (i := 37) rfl)) (wdM_2_in _ (List.mem_of_getElem? (i := 38) rfl)) (wdM_0_in _ (List.mem_of_getElem? (i := 22) rfl)) (wdM_2_in _ (List.mem_of_getElem? (i := 35) rfl)) (by decide +kernel) rfl rfl (by decide) ht) dX6_oftenIn_13) ?_
  refine px_ok_cons (ps_iload_n dX6_oftenIn_16 rfl) ?_
  refine px_ok_cons (ps_icmp_ne dX6_oftenIn_17 (by decide)) ?_
  refine px_ok_cons (ps_iconst dX6_oftenIn_20 (by decide)) ?_
  refine px_ok_cons (ps_goto dX6_oftenIn_21 (by decide)) ?_
  refine px_ok_cons (ps_iconst dX6_oftenIn_24 (by decide)) ?_
  refine px_ok_cons (ps_callS mX6_flag (fun _ _ => rfl) (fun _ _ ht => px_cwS wgM (wdM_3_in _ (List.mem_of_getElem? (i := 10) rfl)) (wdM_3_in _ (List.mem_of_getElem? (i := 11) rfl)) (wdM_0_in _ (List.mem_of_getElem? (i := 22) rfl)) (wdM_0_in _ (List.mem_of_getElem? (i := 28) rfl)) (by decide +kernel) rfl rfl (by decide) ht) dX6_oftenIn_25) ?_
  refine px_ok_cons (ps_iadd dX6_oftenIn_28) ?_
  refine px_ok_cons (ps_istore_n dX6_oftenIn_29 rfl (by decide)) ?_
  refine px_ok_cons (ps_aload_n dX6_oftenIn_30 rfl) ?_
  refine px_ok_cons (ps_callV mX6_dayGoes (fun _ _ => rfl) (C := RX6) rfl (fun _ _ ht => px_cwV wgM (wdM_3_in _ (List.mem_of_getElem? (i := 6) rfl)) (wdM_3_in _ (List.mem_of_getElem? (i := 7) rfl)) (wdM_3_in _ (List.mem_of_getElem? (i := 8) rfl)) (wdM_0_in _ (List.mem_of_getElem? (i := 22) rfl)) (wdM_3_in _ (List.mem_of_getElem? (i := 5) rfl)) (by decide +kernel) rfl rfl (by decide) ht) dX6_oftenIn_31) ?_
  refine px_ok_cons (ps_iinc dX6_oftenIn_34 (by decide) (by decide)) ?_
  refine px_ok_cons (ps_goto dX6_oftenIn_37 (by decide)) ?_
  refine px_ok_cons (ps_iload_n dX6_oftenIn_40 rfl) ?_
  refine px_ok_cons (ps_ireturn rfl dX6_oftenIn_41) ?_
  exact px_ok_nil
set_option maxRecDepth 100000 in
set_option maxHeartbeats 4000000 in
theorem sgX6_oftenIn_0 {po : Int32 → px_St → Prop} {G : px_K} (hG : px_cl (opX6_oftenIn po) G) (v1 : Int32) (v2 : Int32) (σ : px_St)
    (H : G 5 [some (.ref 0), some (.int v1), some (.int v2), some (.int (0 : Int32)), some (.int (0 : Int32))] [] σ) :
    G 0 (px_ent 5 [.ref 0, .int v1, .int v2]) [] σ := by
  refine hG.1 0 _ _ rfl _ _ _ ?_
  refine hG.1 1 _ _ rfl _ _ _ ?_
  show G 2 [some (.ref 0), some (.int v1), some (.int v2), some (.int (0 : Int32)), none] [] σ
  refine hG.1 2 _ _ rfl _ _ _ ?_
  refine hG.1 3 _ _ rfl _ _ _ ?_
  show G 5 [some (.ref 0), some (.int v1), some (.int v2), some (.int (0 : Int32)), some (.int (0 : Int32))] [] σ
  exact H
set_option maxRecDepth 100000 in
set_option maxHeartbeats 4000000 in
theorem sgX6_oftenIn_5 {po : Int32 → px_St → Prop} {G : px_K} (hG : px_cl (opX6_oftenIn po) G) (v1 : Int32) (v2 : Int32) (v3 : Int32) (v4 : Int32) (σ : px_St)
    (H : ((v2 ≤ v4) → po v3 σ) ∧ (¬ (v2 ≤ v4) → ∃ g3 : gtX6_saidNow, qrX6_saidNow g3 σ ∧ ∀ (r1 : Int32) (σ2 : px_St), qoX6_saidNow g3 σ r1 σ2 → ((¬ r1 = v1) → ∃ g7 : gtX6_flag, qrX6_flag g7 (0 : Int32) σ2 ∧ ∀ (r5 : Int32) (σ6 : px_St), qoX6_flag g7 (0 : Int32) σ2 r5 σ6 → ∃ g11 : gtX6_dayGoes, qrX6_dayGoes g11 σ6 ∧ ∀ (r9 : Unit) (σ10 : px_St), qoX6_dayGoes g11 σ6 r9 σ10 → G 5 [some (.ref 0), some (.int v1), some (.int v2), some (.int (v3 + r5)), some (.int (v4 + 1))] [] σ10) ∧ (¬ (¬ r1 = v1) → ∃ g15 : gtX6_flag, qrX6_flag g15 (1 : Int32) σ2 ∧ ∀ (r13 : Int32) (σ14 : px_St), qoX6_flag g15 (1 : Int32) σ2 r13 σ14 → ∃ g19 : gtX6_dayGoes, qrX6_dayGoes g19 σ14 ∧ ∀ (r17 : Unit) (σ18 : px_St), qoX6_dayGoes g19 σ14 r17 σ18 → G 5 [some (.ref 0), some (.int v1), some (.int v2), some (.int (v3 + r13)), some (.int (v4 + 1))] [] σ18))) :
    G 5 [some (.ref 0), some (.int v1), some (.int v2), some (.int v3), some (.int v4)] [] σ := by
  refine hG.1 4 _ _ rfl _ _ _ ?_
  refine hG.1 5 _ _ rfl _ _ _ ?_
  refine hG.1 6 _ _ rfl _ _ _ ?_
  refine ⟨fun h22 => ?_, fun h22 => ?_⟩
  · replace H := H.1 h22
    refine hG.1 22 _ _ rfl _ _ _ ?_
    refine hG.1 23 _ _ rfl _ _ _ ?_
    exact ⟨rfl, H⟩
  · replace H := H.2 h22
    refine hG.1 7 _ _ rfl _ _ _ ?_
    refine hG.1 8 _ _ rfl _ _ _ ?_
    refine hG.1 9 _ _ rfl _ _ _ ?_
    obtain ⟨g3, H⟩ := H
    refine ⟨⟨rfl, by decide⟩, Nat.le_of_ble_eq_true rfl, g3, ⟨rfl, H.1⟩, fun r1 σ2 hp4 => ?_⟩
    replace H := H.2 r1 σ2 hp4
    refine hG.1 10 _ _ rfl _ _ _ ?_
    refine hG.1 11 _ _ rfl _ _ _ ?_
    refine ⟨fun h21 => ?_, fun h21 => ?_⟩
    · replace H := H.1 h21
      refine hG.1 14 _ _ rfl _ _ _ ?_
      refine hG.1 15 _ _ rfl _ _ _ ?_
      obtain ⟨g7, H⟩ := H
      refine ⟨Nat.le_of_ble_eq_true rfl, Nat.le_of_ble_eq_true rfl, g7, ⟨_, rfl, H.1⟩, fun r5 σ6 hp8 => ?_⟩
      replace H := H.2 r5 σ6 hp8
      refine hG.1 16 _ _ rfl _ _ _ ?_
      refine hG.1 17 _ _ rfl _ _ _ ?_
      show G 30 [some (.ref 0), some (.int v1), some (.int v2), some (.int (v3 + r5)), some (.int v4)] [] σ6
      refine hG.1 18 _ _ rfl _ _ _ ?_
      refine hG.1 19 _ _ rfl _ _ _ ?_
      obtain ⟨g11, H⟩ := H
      refine ⟨⟨rfl, by decide⟩, Nat.le_of_ble_eq_true rfl, g11, ⟨rfl, H.1⟩, fun r9 σ10 hp12 => ?_⟩
      replace H := H.2 r9 σ10 hp12
      refine hG.1 20 _ _ rfl _ _ _ ?_
      show G 37 [some (.ref 0), some (.int v1), some (.int v2), some (.int (v3 + r5)), some (.int (v4 + 1))] [] σ10
      refine hG.1 21 _ _ rfl _ _ _ ?_
      exact H
    · replace H := H.2 h21
      refine hG.1 12 _ _ rfl _ _ _ ?_
      refine hG.1 13 _ _ rfl _ _ _ ?_
      refine hG.1 15 _ _ rfl _ _ _ ?_
      obtain ⟨g15, H⟩ := H
      refine ⟨Nat.le_of_ble_eq_true rfl, Nat.le_of_ble_eq_true rfl, g15, ⟨_, rfl, H.1⟩, fun r13 σ14 hp16 => ?_⟩
      replace H := H.2 r13 σ14 hp16
      refine hG.1 16 _ _ rfl _ _ _ ?_
      refine hG.1 17 _ _ rfl _ _ _ ?_
      show G 30 [some (.ref 0), some (.int v1), some (.int v2), some (.int (v3 + r13)), some (.int v4)] [] σ14
      refine hG.1 18 _ _ rfl _ _ _ ?_
      refine hG.1 19 _ _ rfl _ _ _ ?_
      obtain ⟨g19, H⟩ := H
      refine ⟨⟨rfl, by decide⟩, Nat.le_of_ble_eq_true rfl, g19, ⟨rfl, H.1⟩, fun r17 σ18 hp20 => ?_⟩
      replace H := H.2 r17 σ18 hp20
      refine hG.1 20 _ _ rfl _ _ _ ?_
      show G 37 [some (.ref 0), some (.int v1), some (.int v2), some (.int (v3 + r13)), some (.int (v4 + 1))] [] σ18
      refine hG.1 21 _ _ rfl _ _ _ ?_
      exact H
set_option maxRecDepth 100000 in
set_option maxHeartbeats 4000000 in
theorem hhX6_oftenIn (g : gtX6_oftenIn) (v1 : Int32) (v2 : Int32) (σ : px_St) (h : qrX6_oftenIn g v1 v2 σ) (G : px_K) (hG : px_cl (opX6_oftenIn (qoX6_oftenIn g v1 v2 σ)) G) : G 0 (px_ent 5 [.ref 0, .int v1, .int v2]) [] σ := by
  obtain ⟨V, s, n⟩ := g
  obtain ⟨hV, hok, hd, hn, rfl, rfl⟩ := h
  refine sgX6_oftenIn_0 hG _ _ σ ?_
  have loop : ∀ m k, k + m = n → ∀ σ', mv_is (σ'.1 2) (pv_run V k) → mn_only σ σ' → G 5 [some (.ref 0), some (.int (nI s)), some (.int (nI n)), some (.int (nI (pv_times V s k))), some (.int (nI k))] [] σ' := by
    intro m
    induction m with
    | zero =>
      intro k hk σ' h1 h2
      have e : k = n := by omega
      subst e
      exact sgX6_oftenIn_5 hG _ _ _ _ σ' ⟨fun _ => ⟨rfl, h2⟩, fun z => absurd (Int32.le_refl _) z⟩
    | succ m ih =>
      intro k hk σ' h1 h2
      have hrk := pv_run_ok hok k (by omega)
      have hrd : (pv_run V k).2.2.1 < 1999 := by rw [(pv_run_n V k).2.2]; omega
      refine sgX6_oftenIn_5 hG _ _ _ _ σ' ⟨fun z => absurd z (nI_ge (by omega) (by omega)), fun _ => ⟨pv_run V k, ⟨h1, hrk⟩, fun r σ2 hq => ?_⟩⟩
      obtain ⟨rfl, rfl⟩ := hq
      have e := fun σ3 a b => ih (k + 1) (by omega) σ3 a b
      refine ⟨fun z => ⟨(), trivial, fun r σ3 hq => ?_⟩, fun z => ⟨(), trivial, fun r σ3 hq => ?_⟩⟩
      · obtain ⟨rfl, rfl⟩ := hq
        refine ⟨pv_run V k, ⟨h1, hrk, hrd⟩, fun _ σ4 hq => ?_⟩
        have e1 := e σ4 hq.1 (h2.tr hq.2)
        rw [pv_times, if_neg z] at e1
        rw [if_pos rfl, nI_1, show (0 : Int32) = nI 0 from rfl, nI_add]
        exact e1
      · obtain ⟨rfl, rfl⟩ := hq
        refine ⟨pv_run V k, ⟨h1, hrk, hrd⟩, fun _ σ4 hq => ?_⟩
        have e1 := e σ4 hq.1 (h2.tr hq.2)
        rw [pv_times, if_pos (Classical.byContradiction z)] at e1
        rw [if_neg (by decide), nI_1, nI_1]
        exact e1
  exact loop n 0 (by omega) σ hV mn_only.rf
theorem mX6_oftenIn (g : gtX6_oftenIn) : px_Met dM yX6_oftenIn (Cond.code yX6_oftenIn cX6_oftenIn 5 (some .int) :: wdM) rmX6_oftenIn px_vI (prX6_oftenIn g) (poX6_oftenIn g) :=
  px_met (Z := (cX6_oftenIn, 5, RX6, Cond.code yX6_oftenIn cX6_oftenIn 5 (some .int) :: wdM, (some .int), rmX6_oftenIn, dM)) opX6_oftenIn (by decide) rfl rfl okX6_oftenIn (fun As σ h => by obtain ⟨v1, v2, rfl, h⟩ := h; exact Nat.le_of_ble_eq_true rfl) (fun As σ h G hG => by obtain ⟨v1, v2, rfl, h⟩ := h; exact hhX6_oftenIn g v1 v2 σ h G hG)
abbrev gtX6_firstOf : Type := pv_V × Nat
def qrX6_firstOf : gtX6_firstOf → Int32 → px_St → Prop
  | (V, s), v1, σ => mv_is (σ.1 2) V ∧ pv_ok V ∧ V.2.2.1 < 1900 ∧ v1 = nI s
def qoX6_firstOf : gtX6_firstOf → Int32 → px_St → Int32 → px_St → Prop
  | (V, s), _, σ, r, σ' => (r = if pv_ff V s 61 0 ≤ 60 then nI (pv_ff V s 61 0) else -4) ∧ mn_only σ σ'
def prX6_firstOf (g : gtX6_firstOf) : List Value → px_St → Prop := fun As σ => ∃ v1 : Int32, As = [.ref 0, .int v1] ∧ qrX6_firstOf g v1 σ
def poX6_firstOf (g : gtX6_firstOf) : List Value → px_St → Int32 → px_St → Prop
  | [.ref _, .int v1], σ, r, σ' => qoX6_firstOf g v1 σ r σ'
  | _, _, _, _ => False
theorem dX6_firstOf_0 : decode cX6_firstOf 0 = .ok (.iconst 0, 1) := by decide +kernel
theorem dX6_firstOf_1 : decode cX6_firstOf 1 = .ok (.istore_n 2, 1) := by decide +kernel
theorem dX6_firstOf_2 : decode cX6_firstOf 2 = .ok (.iload_n 2, 1) := by decide +kernel
theorem dX6_firstOf_3 : decode cX6_firstOf 3 = .ok (.bipush 60, 2) := by decide +kernel
theorem dX6_firstOf_5 : decode cX6_firstOf 5 = .ok (.if_icmp .gt 23, 3) := by decide +kernel
theorem dX6_firstOf_8 : decode cX6_firstOf 8 = .ok (.aload_n 0, 1) := by decide +kernel
theorem dX6_firstOf_9 : decode cX6_firstOf 9 = .ok (.invokevirtual 147, 3) := by decide +kernel
theorem dX6_firstOf_12 : decode cX6_firstOf 12 = .ok (.iload_n 1, 1) := by decide +kernel
theorem dX6_firstOf_13 : decode cX6_firstOf 13 = .ok (.if_icmp .ne 5, 3) := by decide +kernel
theorem dX6_firstOf_16 : decode cX6_firstOf 16 = .ok (.iload_n 2, 1) := by decide +kernel
theorem dX6_firstOf_17 : decode cX6_firstOf 17 = .ok (.ireturn, 1) := by decide +kernel
theorem dX6_firstOf_18 : decode cX6_firstOf 18 = .ok (.aload_n 0, 1) := by decide +kernel
theorem dX6_firstOf_19 : decode cX6_firstOf 19 = .ok (.invokevirtual 156, 3) := by decide +kernel
theorem dX6_firstOf_22 : decode cX6_firstOf 22 = .ok (.iinc 2 1, 3) := by decide +kernel
theorem dX6_firstOf_25 : decode cX6_firstOf 25 = .ok (.goto (-23), 3) := by decide +kernel
theorem dX6_firstOf_28 : decode cX6_firstOf 28 = .ok (.bipush (-4), 2) := by decide +kernel
theorem dX6_firstOf_30 : decode cX6_firstOf 30 = .ok (.ireturn, 1) := by decide +kernel
abbrev rmX6_firstOf : Room := { frames := 4, cells := 0, slots := 0, locals := 93 }
def opX6_firstOf (po : Int32 → px_St → Prop) : List (Nat × px_Op) := [
  (0, px_push 1 (.int 0)),
  (1, px_is 2 2),
  (2, px_il 3 2),
  (3, px_push 5 (.int 60)),
  (5, px_ic 8 28 (fun x y => y < x)),
  (8, px_al 9 0),
  (9, px_callV dM 12 6 0 px_vI prX6_saidNow poX6_saidNow),
  (12, px_il 13 1),
  (13, px_ic 16 18 (fun x y => ¬ x = y)),
  (16, px_il 17 2),
  (17, px_iret (.int) po),
  (18, px_al 19 0),
  (19, px_callV dM 22 6 0 px_vV prX6_dayGoes poX6_dayGoes),
  (22, px_inc 25 2 1),
  (25, px_go 2),
  (28, px_push 30 (.int (-4))),
  (30, px_iret (.int) po)]
set_option maxRecDepth 100000 in
set_option maxHeartbeats 4000000 in
theorem okX6_firstOf : ∀ (po : Int32 → px_St → Prop) (i pc : Nat) (op : px_Op), (opX6_firstOf po)[i]? = some (pc, op) → px_Snd (cX6_firstOf, 3, RX6, Cond.code yX6_firstOf cX6_firstOf 3 (some .int) :: wdM, (some .int), rmX6_firstOf, dM) px_vI po pc op := by
  intro po
  unfold opX6_firstOf
  refine px_ok_cons (ps_iconst dX6_firstOf_0 (by decide)) ?_
  refine px_ok_cons (ps_istore_n dX6_firstOf_1 rfl (by decide)) ?_
  refine px_ok_cons (ps_iload_n dX6_firstOf_2 rfl) ?_
  refine px_ok_cons (ps_bipush dX6_firstOf_3 (by decide)) ?_
  refine px_ok_cons (ps_icmp_gt dX6_firstOf_5 (by decide)) ?_
  refine px_ok_cons (ps_aload_n dX6_firstOf_8 rfl) ?_
  refine px_ok_cons (ps_callV mX6_saidNow (fun _ _ => rfl) (C := RX6) rfl (fun _ _ ht => px_cwV wgM (wdM_2_in _ (List.mem_of_getElem? (i := 36) rfl)) (wdM_2_in _ (List.mem_of_getElem? (i := 37) rfl)) (wdM_2_in _ (List.mem_of_getElem? (i := 38) rfl)) (wdM_0_in _ (List.mem_of_getElem? (i := 22) rfl)) (wdM_2_in _ (List.mem_of_getElem? (i := 35) rfl)) (by decide +kernel) rfl rfl (by decide) ht) dX6_firstOf_9) ?_
  refine px_ok_cons (ps_iload_n dX6_firstOf_12 rfl) ?_
  refine px_ok_cons (ps_icmp_ne dX6_firstOf_13 (by decide)) ?_
  refine px_ok_cons (ps_iload_n dX6_firstOf_16 rfl) ?_
  refine px_ok_cons (ps_ireturn rfl dX6_firstOf_17) ?_
  refine px_ok_cons (ps_aload_n dX6_firstOf_18 rfl) ?_
  refine px_ok_cons (ps_callV mX6_dayGoes (fun _ _ => rfl) (C := RX6) rfl (fun _ _ ht => px_cwV wgM (wdM_3_in _ (List.mem_of_getElem? (i := 6) rfl)) (wdM_3_in _ (List.mem_of_getElem? (i := 7) rfl)) (wdM_3_in _ (List.mem_of_getElem? (i := 8) rfl)) (wdM_0_in _ (List.mem_of_getElem? (i := 22) rfl)) (wdM_3_in _ (List.mem_of_getElem? (i := 5) rfl)) (by decide +kernel) rfl rfl (by decide) ht) dX6_firstOf_19) ?_
  refine px_ok_cons (ps_iinc dX6_firstOf_22 (by decide) (by decide)) ?_
  refine px_ok_cons (ps_goto dX6_firstOf_25 (by decide)) ?_
  refine px_ok_cons (ps_bipush dX6_firstOf_28 (by decide)) ?_
  refine px_ok_cons (ps_ireturn rfl dX6_firstOf_30) ?_
  exact px_ok_nil
set_option maxRecDepth 100000 in
set_option maxHeartbeats 4000000 in
theorem sgX6_firstOf_0 {po : Int32 → px_St → Prop} {G : px_K} (hG : px_cl (opX6_firstOf po) G) (v1 : Int32) (σ : px_St)
    (H : G 2 [some (.ref 0), some (.int v1), some (.int (0 : Int32))] [] σ) :
    G 0 (px_ent 3 [.ref 0, .int v1]) [] σ := by
  refine hG.1 0 _ _ rfl _ _ _ ?_
  refine hG.1 1 _ _ rfl _ _ _ ?_
  show G 2 [some (.ref 0), some (.int v1), some (.int (0 : Int32))] [] σ
  exact H
set_option maxRecDepth 100000 in
set_option maxHeartbeats 4000000 in
theorem sgX6_firstOf_2 {po : Int32 → px_St → Prop} {G : px_K} (hG : px_cl (opX6_firstOf po) G) (v1 : Int32) (v2 : Int32) (σ : px_St)
    (H : (((60 : Int32) < v2) → po (-4 : Int32) σ) ∧ (¬ ((60 : Int32) < v2) → ∃ g3 : gtX6_saidNow, qrX6_saidNow g3 σ ∧ ∀ (r1 : Int32) (σ2 : px_St), qoX6_saidNow g3 σ r1 σ2 → ((¬ r1 = v1) → ∃ g7 : gtX6_dayGoes, qrX6_dayGoes g7 σ2 ∧ ∀ (r5 : Unit) (σ6 : px_St), qoX6_dayGoes g7 σ2 r5 σ6 → G 2 [some (.ref 0), some (.int v1), some (.int (v2 + 1))] [] σ6) ∧ (¬ (¬ r1 = v1) → po v2 σ2))) :
    G 2 [some (.ref 0), some (.int v1), some (.int v2)] [] σ := by
  refine hG.1 2 _ _ rfl _ _ _ ?_
  refine hG.1 3 _ _ rfl _ _ _ ?_
  refine hG.1 4 _ _ rfl _ _ _ ?_
  refine ⟨fun h10 => ?_, fun h10 => ?_⟩
  · replace H := H.1 h10
    refine hG.1 15 _ _ rfl _ _ _ ?_
    refine hG.1 16 _ _ rfl _ _ _ ?_
    exact ⟨rfl, H⟩
  · replace H := H.2 h10
    refine hG.1 5 _ _ rfl _ _ _ ?_
    refine hG.1 6 _ _ rfl _ _ _ ?_
    obtain ⟨g3, H⟩ := H
    refine ⟨⟨rfl, by decide⟩, Nat.le_of_ble_eq_true rfl, g3, ⟨rfl, H.1⟩, fun r1 σ2 hp4 => ?_⟩
    replace H := H.2 r1 σ2 hp4
    refine hG.1 7 _ _ rfl _ _ _ ?_
    refine hG.1 8 _ _ rfl _ _ _ ?_
    refine ⟨fun h9 => ?_, fun h9 => ?_⟩
    · replace H := H.1 h9
      refine hG.1 11 _ _ rfl _ _ _ ?_
      refine hG.1 12 _ _ rfl _ _ _ ?_
      obtain ⟨g7, H⟩ := H
      refine ⟨⟨rfl, by decide⟩, Nat.le_of_ble_eq_true rfl, g7, ⟨rfl, H.1⟩, fun r5 σ6 hp8 => ?_⟩
      replace H := H.2 r5 σ6 hp8
      refine hG.1 13 _ _ rfl _ _ _ ?_
      show G 25 [some (.ref 0), some (.int v1), some (.int (v2 + 1))] [] σ6
      refine hG.1 14 _ _ rfl _ _ _ ?_
      exact H
    · replace H := H.2 h9
      refine hG.1 9 _ _ rfl _ _ _ ?_
      refine hG.1 10 _ _ rfl _ _ _ ?_
      exact ⟨rfl, H⟩
set_option maxRecDepth 100000 in
set_option maxHeartbeats 4000000 in
theorem hhX6_firstOf (g : gtX6_firstOf) (v1 : Int32) (σ : px_St) (h : qrX6_firstOf g v1 σ) (G : px_K) (hG : px_cl (opX6_firstOf (qoX6_firstOf g v1 σ)) G) : G 0 (px_ent 3 [.ref 0, .int v1]) [] σ := by
  obtain ⟨V, s⟩ := g
  obtain ⟨hV, hok, hd, rfl⟩ := h
  refine sgX6_firstOf_0 hG _ σ ?_
  have loop : ∀ m d, d + m = 61 → pv_ff V s 61 0 = pv_ff V s m d → ∀ σ', mv_is (σ'.1 2) (pv_run V d) → mn_only σ σ' → G 2 [some (.ref 0), some (.int (nI s)), some (.int (nI d))] [] σ' := by
    intro m
    induction m with
    | zero =>
      intro d hdm he σ' h1 h2
      refine sgX6_firstOf_2 hG _ _ σ' ⟨fun _ => ⟨?_, h2⟩, fun z => absurd ((nIlt 60 d rfl rfl (by omega) (by omega)).mpr (by omega)) z⟩
      have e61 : pv_ff V s 61 0 = 61 := he
      rw [e61]
      rfl
    | succ m ih =>
      intro d hdm he σ' h1 h2
      have hrk := pv_run_ok hok d (by omega)
      have hrd : (pv_run V d).2.2.1 < 1999 := by rw [(pv_run_n V d).2.2]; omega
      change _ = (if pv_said (pv_run V d) = nI s then d else pv_ff V s m (d + 1)) at he
      refine sgX6_firstOf_2 hG _ _ σ' ⟨fun z => absurd ((nIlt 60 d rfl rfl (by omega) (by omega)).mp z) (by omega), fun _ => ⟨pv_run V d, ⟨h1, hrk⟩, fun r σ2 hq => ?_⟩⟩
      obtain ⟨rfl, rfl⟩ := hq
      refine ⟨fun z => ⟨pv_run V d, ⟨h1, hrk, hrd⟩, fun _ σ3 hq => ?_⟩, fun z => ⟨?_, h2⟩⟩
      · rw [if_neg z] at he
        rw [nI_1]
        exact ih (d + 1) (by omega) he σ3 hq.1 (h2.tr hq.2)
      · rw [if_pos (Classical.byContradiction z)] at he
        rw [he, if_pos (by omega)]
  exact loop 61 0 (by omega) rfl σ hV mn_only.rf
theorem mX6_firstOf (g : gtX6_firstOf) : px_Met dM yX6_firstOf (Cond.code yX6_firstOf cX6_firstOf 3 (some .int) :: wdM) rmX6_firstOf px_vI (prX6_firstOf g) (poX6_firstOf g) :=
  px_met (Z := (cX6_firstOf, 3, RX6, Cond.code yX6_firstOf cX6_firstOf 3 (some .int) :: wdM, (some .int), rmX6_firstOf, dM)) opX6_firstOf (by decide) rfl rfl okX6_firstOf (fun As σ h => by obtain ⟨v1, rfl, h⟩ := h; exact Nat.le_of_ble_eq_true rfl) (fun As σ h G hG => by obtain ⟨v1, rfl, h⟩ := h; exact hhX6_firstOf g v1 σ h G hG)
abbrev gtX6_knowing : Type := pv_V × Nat
def qrX6_knowing : gtX6_knowing → Int32 → px_St → Prop
  | (V, s), v1, σ => mv_is (σ.1 2) V ∧ pv_w V ∧ s ≤ 9 ∧ v1 = nI s
def qoX6_knowing : gtX6_knowing → Int32 → px_St → Int32 → px_St → Prop
  | (V, s), _, σ, r, σ' => σ' = σ ∧ r = pv_knowers V s V.1
theorem px_b_nz {P : Prop} {r : Int32} (h : px_b P r) : (if r = 0 then (0 : Int32) else 1) = r := by
  rcases h with ⟨_, rfl⟩ | ⟨_, rfl⟩ <;> rfl
theorem zsh : ∀ k, k < 31 → (0 : Int32) <<< (nI k &&& 31) = 0 := by decide
def prX6_knowing (g : gtX6_knowing) : List Value → px_St → Prop := fun As σ => ∃ v1 : Int32, As = [.ref 0, .int v1] ∧ qrX6_knowing g v1 σ
def poX6_knowing (g : gtX6_knowing) : List Value → px_St → Int32 → px_St → Prop
  | [.ref _, .int v1], σ, r, σ' => qoX6_knowing g v1 σ r σ'
  | _, _, _, _ => False
theorem dX6_knowing_0 : decode cX6_knowing 0 = .ok (.iconst 0, 1) := by decide +kernel
theorem dX6_knowing_1 : decode cX6_knowing 1 = .ok (.istore_n 2, 1) := by decide +kernel
theorem dX6_knowing_2 : decode cX6_knowing 2 = .ok (.iconst 0, 1) := by decide +kernel
theorem dX6_knowing_3 : decode cX6_knowing 3 = .ok (.istore_n 3, 1) := by decide +kernel
theorem dX6_knowing_4 : decode cX6_knowing 4 = .ok (.iload_n 3, 1) := by decide +kernel
theorem dX6_knowing_5 : decode cX6_knowing 5 = .ok (.aload_n 0, 1) := by decide +kernel
theorem dX6_knowing_6 : decode cX6_knowing 6 = .ok (.getfield 13, 3) := by decide +kernel
theorem dX6_knowing_9 : decode cX6_knowing 9 = .ok (.bipush 45, 2) := by decide +kernel
theorem dX6_knowing_11 : decode cX6_knowing 11 = .ok (.iaload, 1) := by decide +kernel
theorem dX6_knowing_12 : decode cX6_knowing 12 = .ok (.if_icmp .ge 23, 3) := by decide +kernel
theorem dX6_knowing_15 : decode cX6_knowing 15 = .ok (.iload_n 2, 1) := by decide +kernel
theorem dX6_knowing_16 : decode cX6_knowing 16 = .ok (.aload_n 0, 1) := by decide +kernel
theorem dX6_knowing_17 : decode cX6_knowing 17 = .ok (.iload_n 3, 1) := by decide +kernel
theorem dX6_knowing_18 : decode cX6_knowing 18 = .ok (.iload_n 1, 1) := by decide +kernel
theorem dX6_knowing_19 : decode cX6_knowing 19 = .ok (.invokevirtual 137, 3) := by decide +kernel
theorem dX6_knowing_22 : decode cX6_knowing 22 = .ok (.invokestatic 159, 3) := by decide +kernel
theorem dX6_knowing_25 : decode cX6_knowing 25 = .ok (.iload_n 3, 1) := by decide +kernel
theorem dX6_knowing_26 : decode cX6_knowing 26 = .ok (.ishl, 1) := by decide +kernel
theorem dX6_knowing_27 : decode cX6_knowing 27 = .ok (.ior, 1) := by decide +kernel
theorem dX6_knowing_28 : decode cX6_knowing 28 = .ok (.istore_n 2, 1) := by decide +kernel
theorem dX6_knowing_29 : decode cX6_knowing 29 = .ok (.iinc 3 1, 3) := by decide +kernel
theorem dX6_knowing_32 : decode cX6_knowing 32 = .ok (.goto (-28), 3) := by decide +kernel
theorem dX6_knowing_35 : decode cX6_knowing 35 = .ok (.iload_n 2, 1) := by decide +kernel
theorem dX6_knowing_36 : decode cX6_knowing 36 = .ok (.ireturn, 1) := by decide +kernel
abbrev rmX6_knowing : Room := { frames := 2, cells := 0, slots := 0, locals := 46 }
def opX6_knowing (po : Int32 → px_St → Prop) : List (Nat × px_Op) := [
  (0, px_push 1 (.int 0)),
  (1, px_is 2 2),
  (2, px_push 3 (.int 0)),
  (3, px_is 4 3),
  (4, px_il 5 3),
  (5, px_al 6 0),
  (6, px_get dM 9 6 1),
  (9, px_push 11 (.int 45)),
  (11, px_ald dM 12 0),
  (12, px_ic 15 35 (fun x y => y ≤ x)),
  (15, px_il 16 2),
  (16, px_al 17 0),
  (17, px_il 18 3),
  (18, px_il 19 1),
  (19, px_callV dM 22 6 2 px_vI prX6_hasSound poX6_hasSound),
  (22, px_callS 25 1 px_vI prX6_flag poX6_flag),
  (25, px_il 26 3),
  (26, px_bin 27 (fun x y => x <<< (y &&& 31))),
  (27, px_bin 28 (fun x y => x ||| y)),
  (28, px_is 29 2),
  (29, px_inc 32 3 1),
  (32, px_go 4),
  (35, px_il 36 2),
  (36, px_iret (.int) po)]
set_option maxRecDepth 100000 in
set_option maxHeartbeats 4000000 in
theorem okX6_knowing : ∀ (po : Int32 → px_St → Prop) (i pc : Nat) (op : px_Op), (opX6_knowing po)[i]? = some (pc, op) → px_Snd (cX6_knowing, 4, RX6, Cond.code yX6_knowing cX6_knowing 4 (some .int) :: wdM, (some .int), rmX6_knowing, dM) px_vI po pc op := by
  intro po
  unfold opX6_knowing
  refine px_ok_cons (ps_iconst dX6_knowing_0 (by decide)) ?_
  refine px_ok_cons (ps_istore_n dX6_knowing_1 rfl (by decide)) ?_
  refine px_ok_cons (ps_iconst dX6_knowing_2 (by decide)) ?_
  refine px_ok_cons (ps_istore_n dX6_knowing_3 rfl (by decide)) ?_
  refine px_ok_cons (ps_iload_n dX6_knowing_4 rfl) ?_
  refine px_ok_cons (ps_aload_n dX6_knowing_5 rfl) ?_
  refine px_ok_cons (fgX6_13 dX6_knowing_6) ?_
  refine px_ok_cons (ps_bipush dX6_knowing_9 (by decide)) ?_
  refine px_ok_cons (ps_iaload dX6_knowing_11) ?_
  refine px_ok_cons (ps_icmp_ge dX6_knowing_12 (by decide)) ?_
  refine px_ok_cons (ps_iload_n dX6_knowing_15 rfl) ?_
  refine px_ok_cons (ps_aload_n dX6_knowing_16 rfl) ?_
  refine px_ok_cons (ps_iload_n dX6_knowing_17 rfl) ?_
  refine px_ok_cons (ps_iload_n dX6_knowing_18 rfl) ?_
  refine px_ok_cons (ps_callV mX6_hasSound (fun _ _ => rfl) (C := RX6) rfl (fun _ _ ht => px_cwV wgM (wdM_2_in _ (List.mem_of_getElem? (i := 26) rfl)) (wdM_2_in _ (List.mem_of_getElem? (i := 27) rfl)) (wdM_2_in _ (List.mem_of_getElem? (i := 28) rfl)) (wdM_0_in _ (List.mem_of_getElem? (i := 22) rfl)) (wdM_2_in _ (List.mem_of_getElem? (i := 15) rfl)) (by decide +kernel) rfl rfl (by decide) ht) dX6_knowing_19) ?_
  refine px_ok_cons (ps_callS mX6_flag (fun _ _ => rfl) (fun _ _ ht => px_cwS wgM (wdM_3_in _ (List.mem_of_getElem? (i := 10) rfl)) (wdM_3_in _ (List.mem_of_getElem? (i := 11) rfl)) (wdM_0_in _ (List.mem_of_getElem? (i := 22) rfl)) (wdM_0_in _ (List.mem_of_getElem? (i := 28) rfl)) (by decide +kernel) rfl rfl (by decide) ht) dX6_knowing_22) ?_
  refine px_ok_cons (ps_iload_n dX6_knowing_25 rfl) ?_
  refine px_ok_cons (ps_ishl dX6_knowing_26) ?_
  refine px_ok_cons (ps_ior dX6_knowing_27) ?_
  refine px_ok_cons (ps_istore_n dX6_knowing_28 rfl (by decide)) ?_
  refine px_ok_cons (ps_iinc dX6_knowing_29 (by decide) (by decide)) ?_
  refine px_ok_cons (ps_goto dX6_knowing_32 (by decide)) ?_
  refine px_ok_cons (ps_iload_n dX6_knowing_35 rfl) ?_
  refine px_ok_cons (ps_ireturn rfl dX6_knowing_36) ?_
  exact px_ok_nil
set_option maxRecDepth 100000 in
set_option maxHeartbeats 4000000 in
theorem sgX6_knowing_0 {po : Int32 → px_St → Prop} {G : px_K} (hG : px_cl (opX6_knowing po) G) (v1 : Int32) (σ : px_St)
    (H : G 4 [some (.ref 0), some (.int v1), some (.int (0 : Int32)), some (.int (0 : Int32))] [] σ) :
    G 0 (px_ent 4 [.ref 0, .int v1]) [] σ := by
  refine hG.1 0 _ _ rfl _ _ _ ?_
  refine hG.1 1 _ _ rfl _ _ _ ?_
  show G 2 [some (.ref 0), some (.int v1), some (.int (0 : Int32)), none] [] σ
  refine hG.1 2 _ _ rfl _ _ _ ?_
  refine hG.1 3 _ _ rfl _ _ _ ?_
  show G 4 [some (.ref 0), some (.int v1), some (.int (0 : Int32)), some (.int (0 : Int32))] [] σ
  exact H
set_option maxRecDepth 100000 in
set_option maxHeartbeats 4000000 in
theorem sgX6_knowing_4 {po : Int32 → px_St → Prop} {G : px_K} (hG : px_cl (opX6_knowing po) G) (v1 : Int32) (v2 : Int32) (v3 : Int32) (σ : px_St)
    (H : vp_in (45 : Int32) 61 ∧ (((σ.1 2 (45 : Int32).toNatClampNeg) ≤ v3) → po v2 σ) ∧ (¬ ((σ.1 2 (45 : Int32).toNatClampNeg) ≤ v3) → ∃ g3 : gtX6_hasSound, qrX6_hasSound g3 v3 v1 σ ∧ ∀ (r1 : Int32) (σ2 : px_St), qoX6_hasSound g3 v3 v1 σ r1 σ2 → ∃ g7 : gtX6_flag, qrX6_flag g7 r1 σ2 ∧ ∀ (r5 : Int32) (σ6 : px_St), qoX6_flag g7 r1 σ2 r5 σ6 → G 4 [some (.ref 0), some (.int v1), some (.int (v2 ||| (r5 <<< (v3 &&& 31)))), some (.int (v3 + 1))] [] σ6)) :
    G 4 [some (.ref 0), some (.int v1), some (.int v2), some (.int v3)] [] σ := by
  refine hG.1 4 _ _ rfl _ _ _ ?_
  refine hG.1 5 _ _ rfl _ _ _ ?_
  refine hG.1 6 _ _ rfl _ _ _ ?_
  refine ⟨⟨rfl, by decide⟩, ?_⟩
  refine hG.1 7 _ _ rfl _ _ _ ?_
  refine hG.1 8 _ _ rfl _ _ _ ?_
  refine ⟨⟨rfl, by decide⟩, H.1, ?_⟩
  replace H := H.2
  refine hG.1 9 _ _ rfl _ _ _ ?_
  refine ⟨fun h9 => ?_, fun h9 => ?_⟩
  · replace H := H.1 h9
    refine hG.1 22 _ _ rfl _ _ _ ?_
    refine hG.1 23 _ _ rfl _ _ _ ?_
    exact ⟨rfl, H⟩
  · replace H := H.2 h9
    refine hG.1 10 _ _ rfl _ _ _ ?_
    refine hG.1 11 _ _ rfl _ _ _ ?_
    refine hG.1 12 _ _ rfl _ _ _ ?_
    refine hG.1 13 _ _ rfl _ _ _ ?_
    refine hG.1 14 _ _ rfl _ _ _ ?_
    obtain ⟨g3, H⟩ := H
    refine ⟨⟨rfl, by decide⟩, Nat.le_of_ble_eq_true rfl, g3, ⟨_, _, rfl, H.1⟩, fun r1 σ2 hp4 => ?_⟩
    replace H := H.2 r1 σ2 hp4
    refine hG.1 15 _ _ rfl _ _ _ ?_
    obtain ⟨g7, H⟩ := H
    refine ⟨Nat.le_of_ble_eq_true rfl, Nat.le_of_ble_eq_true rfl, g7, ⟨_, rfl, H.1⟩, fun r5 σ6 hp8 => ?_⟩
    replace H := H.2 r5 σ6 hp8
    refine hG.1 16 _ _ rfl _ _ _ ?_
    refine hG.1 17 _ _ rfl _ _ _ ?_
    refine hG.1 18 _ _ rfl _ _ _ ?_
    refine hG.1 19 _ _ rfl _ _ _ ?_
    show G 29 [some (.ref 0), some (.int v1), some (.int (v2 ||| (r5 <<< (v3 &&& 31)))), some (.int v3)] [] σ6
    refine hG.1 20 _ _ rfl _ _ _ ?_
    show G 32 [some (.ref 0), some (.int v1), some (.int (v2 ||| (r5 <<< (v3 &&& 31)))), some (.int (v3 + 1))] [] σ6
    refine hG.1 21 _ _ rfl _ _ _ ?_
    exact H
set_option maxRecDepth 100000 in
set_option maxHeartbeats 4000000 in
theorem hhX6_knowing (g : gtX6_knowing) (v1 : Int32) (σ : px_St) (h : qrX6_knowing g v1 σ) (G : px_K) (hG : px_cl (opX6_knowing (qoX6_knowing g v1 σ)) G) : G 0 (px_ent 4 [.ref 0, .int v1]) [] σ := by
  obtain ⟨V, s⟩ := g
  obtain ⟨hV, hw, hs, rfl⟩ := h
  have h5 := hw.1
  have hi45 : vp_in (45 : Int32) 61 := vpin 45 61 rfl (by omega) (by omega)
  refine sgX6_knowing_0 hG _ σ ?_
  have loop : ∀ n k, k + n = V.1 → G 4 [some (.ref 0), some (.int (nI s)), some (.int (pv_knowers V s k)), some (.int (nI k))] [] σ := by
    intro n
    induction n with
    | zero =>
      intro k hk
      refine sgX6_knowing_4 hG _ _ _ σ ?_
      rw [c45, hV.1.1]
      exact ⟨hi45, fun _ => ⟨rfl, by rw [show k = V.1 by omega]⟩, fun z => absurd (nI_le (by omega) (by omega)) z⟩
    | succ n ih =>
      intro k hk
      refine sgX6_knowing_4 hG _ _ _ σ ?_
      rw [c45, hV.1.1]
      refine ⟨hi45, fun z => absurd z (nI_ge (by omega) (by omega)), fun _ => ⟨(V, k, s), ⟨hV, hw, by omega, hs, rfl, rfl⟩, fun r σ2 hq => ?_⟩⟩
      obtain ⟨rfl, hb⟩ := hq
      refine ⟨(), trivial, fun r2 σ3 hq => ?_⟩
      obtain ⟨rfl, rfl⟩ := hq
      rw [px_b_nz hb, nI_1]
      have e := ih (k + 1) (by omega)
      rw [pv_knowers] at e
      rcases hb with ⟨hm, rfl⟩ | ⟨hm, rfl⟩
      · rw [if_pos hm] at e; exact e
      · rw [if_neg hm] at e
        rw [zsh k (by omega), Int32.or_zero]
        exact e
  exact loop _ 0 (Nat.zero_add _)
theorem mX6_knowing (g : gtX6_knowing) : px_Met dM yX6_knowing (Cond.code yX6_knowing cX6_knowing 4 (some .int) :: wdM) rmX6_knowing px_vI (prX6_knowing g) (poX6_knowing g) :=
  px_met (Z := (cX6_knowing, 4, RX6, Cond.code yX6_knowing cX6_knowing 4 (some .int) :: wdM, (some .int), rmX6_knowing, dM)) opX6_knowing (by decide) rfl rfl okX6_knowing (fun As σ h => by obtain ⟨v1, rfl, h⟩ := h; exact Nat.le_of_ble_eq_true rfl) (fun As σ h G hG => by obtain ⟨v1, rfl, h⟩ := h; exact hhX6_knowing g v1 σ h G hG)
abbrev gtX6_knowingMany : Type := pv_V × Nat
def qrX6_knowingMany : gtX6_knowingMany → Int32 → px_St → Prop
  | (V, s), v1, σ => mv_is (σ.1 2) V ∧ pv_w V ∧ s ≤ 9 ∧ v1 = nI s
def qoX6_knowingMany : gtX6_knowingMany → Int32 → px_St → Int32 → px_St → Prop
  | (V, s), _, σ, r, σ' => σ' = σ ∧ r = nI (pv_many V s V.1)
def prX6_knowingMany (g : gtX6_knowingMany) : List Value → px_St → Prop := fun As σ => ∃ v1 : Int32, As = [.ref 0, .int v1] ∧ qrX6_knowingMany g v1 σ
def poX6_knowingMany (g : gtX6_knowingMany) : List Value → px_St → Int32 → px_St → Prop
  | [.ref _, .int v1], σ, r, σ' => qoX6_knowingMany g v1 σ r σ'
  | _, _, _, _ => False
theorem dX6_knowingMany_0 : decode cX6_knowingMany 0 = .ok (.iconst 0, 1) := by decide +kernel
theorem dX6_knowingMany_1 : decode cX6_knowingMany 1 = .ok (.istore_n 2, 1) := by decide +kernel
theorem dX6_knowingMany_2 : decode cX6_knowingMany 2 = .ok (.iconst 0, 1) := by decide +kernel
theorem dX6_knowingMany_3 : decode cX6_knowingMany 3 = .ok (.istore_n 3, 1) := by decide +kernel
theorem dX6_knowingMany_4 : decode cX6_knowingMany 4 = .ok (.iload_n 3, 1) := by decide +kernel
theorem dX6_knowingMany_5 : decode cX6_knowingMany 5 = .ok (.aload_n 0, 1) := by decide +kernel
theorem dX6_knowingMany_6 : decode cX6_knowingMany 6 = .ok (.getfield 13, 3) := by decide +kernel
theorem dX6_knowingMany_9 : decode cX6_knowingMany 9 = .ok (.bipush 45, 2) := by decide +kernel
theorem dX6_knowingMany_11 : decode cX6_knowingMany 11 = .ok (.iaload, 1) := by decide +kernel
theorem dX6_knowingMany_12 : decode cX6_knowingMany 12 = .ok (.if_icmp .ge 21, 3) := by decide +kernel
theorem dX6_knowingMany_15 : decode cX6_knowingMany 15 = .ok (.iload_n 2, 1) := by decide +kernel
theorem dX6_knowingMany_16 : decode cX6_knowingMany 16 = .ok (.aload_n 0, 1) := by decide +kernel
theorem dX6_knowingMany_17 : decode cX6_knowingMany 17 = .ok (.iload_n 3, 1) := by decide +kernel
theorem dX6_knowingMany_18 : decode cX6_knowingMany 18 = .ok (.iload_n 1, 1) := by decide +kernel
theorem dX6_knowingMany_19 : decode cX6_knowingMany 19 = .ok (.invokevirtual 137, 3) := by decide +kernel
theorem dX6_knowingMany_22 : decode cX6_knowingMany 22 = .ok (.invokestatic 159, 3) := by decide +kernel
theorem dX6_knowingMany_25 : decode cX6_knowingMany 25 = .ok (.iadd, 1) := by decide +kernel
theorem dX6_knowingMany_26 : decode cX6_knowingMany 26 = .ok (.istore_n 2, 1) := by decide +kernel
theorem dX6_knowingMany_27 : decode cX6_knowingMany 27 = .ok (.iinc 3 1, 3) := by decide +kernel
theorem dX6_knowingMany_30 : decode cX6_knowingMany 30 = .ok (.goto (-26), 3) := by decide +kernel
theorem dX6_knowingMany_33 : decode cX6_knowingMany 33 = .ok (.iload_n 2, 1) := by decide +kernel
theorem dX6_knowingMany_34 : decode cX6_knowingMany 34 = .ok (.ireturn, 1) := by decide +kernel
abbrev rmX6_knowingMany : Room := { frames := 2, cells := 0, slots := 0, locals := 46 }
def opX6_knowingMany (po : Int32 → px_St → Prop) : List (Nat × px_Op) := [
  (0, px_push 1 (.int 0)),
  (1, px_is 2 2),
  (2, px_push 3 (.int 0)),
  (3, px_is 4 3),
  (4, px_il 5 3),
  (5, px_al 6 0),
  (6, px_get dM 9 6 1),
  (9, px_push 11 (.int 45)),
  (11, px_ald dM 12 0),
  (12, px_ic 15 33 (fun x y => y ≤ x)),
  (15, px_il 16 2),
  (16, px_al 17 0),
  (17, px_il 18 3),
  (18, px_il 19 1),
  (19, px_callV dM 22 6 2 px_vI prX6_hasSound poX6_hasSound),
  (22, px_callS 25 1 px_vI prX6_flag poX6_flag),
  (25, px_bin 26 (fun x y => x + y)),
  (26, px_is 27 2),
  (27, px_inc 30 3 1),
  (30, px_go 4),
  (33, px_il 34 2),
  (34, px_iret (.int) po)]
set_option maxRecDepth 100000 in
set_option maxHeartbeats 4000000 in
theorem okX6_knowingMany : ∀ (po : Int32 → px_St → Prop) (i pc : Nat) (op : px_Op), (opX6_knowingMany po)[i]? = some (pc, op) → px_Snd (cX6_knowingMany, 4, RX6, Cond.code yX6_knowingMany cX6_knowingMany 4 (some .int) :: wdM, (some .int), rmX6_knowingMany, dM) px_vI po pc op := by
  intro po
  unfold opX6_knowingMany
  refine px_ok_cons (ps_iconst dX6_knowingMany_0 (by decide)) ?_
  refine px_ok_cons (ps_istore_n dX6_knowingMany_1 rfl (by decide)) ?_
  refine px_ok_cons (ps_iconst dX6_knowingMany_2 (by decide)) ?_
  refine px_ok_cons (ps_istore_n dX6_knowingMany_3 rfl (by decide)) ?_
  refine px_ok_cons (ps_iload_n dX6_knowingMany_4 rfl) ?_
  refine px_ok_cons (ps_aload_n dX6_knowingMany_5 rfl) ?_
  refine px_ok_cons (fgX6_13 dX6_knowingMany_6) ?_
  refine px_ok_cons (ps_bipush dX6_knowingMany_9 (by decide)) ?_
  refine px_ok_cons (ps_iaload dX6_knowingMany_11) ?_
  refine px_ok_cons (ps_icmp_ge dX6_knowingMany_12 (by decide)) ?_
  refine px_ok_cons (ps_iload_n dX6_knowingMany_15 rfl) ?_
  refine px_ok_cons (ps_aload_n dX6_knowingMany_16 rfl) ?_
  refine px_ok_cons (ps_iload_n dX6_knowingMany_17 rfl) ?_
  refine px_ok_cons (ps_iload_n dX6_knowingMany_18 rfl) ?_
  refine px_ok_cons (ps_callV mX6_hasSound (fun _ _ => rfl) (C := RX6) rfl (fun _ _ ht => px_cwV wgM (wdM_2_in _ (List.mem_of_getElem? (i := 26) rfl)) (wdM_2_in _ (List.mem_of_getElem? (i := 27) rfl)) (wdM_2_in _ (List.mem_of_getElem? (i := 28) rfl)) (wdM_0_in _ (List.mem_of_getElem? (i := 22) rfl)) (wdM_2_in _ (List.mem_of_getElem? (i := 15) rfl)) (by decide +kernel) rfl rfl (by decide) ht) dX6_knowingMany_19) ?_
  refine px_ok_cons (ps_callS mX6_flag (fun _ _ => rfl) (fun _ _ ht => px_cwS wgM (wdM_3_in _ (List.mem_of_getElem? (i := 10) rfl)) (wdM_3_in _ (List.mem_of_getElem? (i := 11) rfl)) (wdM_0_in _ (List.mem_of_getElem? (i := 22) rfl)) (wdM_0_in _ (List.mem_of_getElem? (i := 28) rfl)) (by decide +kernel) rfl rfl (by decide) ht) dX6_knowingMany_22) ?_
  refine px_ok_cons (ps_iadd dX6_knowingMany_25) ?_
  refine px_ok_cons (ps_istore_n dX6_knowingMany_26 rfl (by decide)) ?_
  refine px_ok_cons (ps_iinc dX6_knowingMany_27 (by decide) (by decide)) ?_
  refine px_ok_cons (ps_goto dX6_knowingMany_30 (by decide)) ?_
  refine px_ok_cons (ps_iload_n dX6_knowingMany_33 rfl) ?_
  refine px_ok_cons (ps_ireturn rfl dX6_knowingMany_34) ?_
  exact px_ok_nil
set_option maxRecDepth 100000 in
set_option maxHeartbeats 4000000 in
theorem sgX6_knowingMany_0 {po : Int32 → px_St → Prop} {G : px_K} (hG : px_cl (opX6_knowingMany po) G) (v1 : Int32) (σ : px_St)
    (H : G 4 [some (.ref 0), some (.int v1), some (.int (0 : Int32)), some (.int (0 : Int32))] [] σ) :
    G 0 (px_ent 4 [.ref 0, .int v1]) [] σ := by
  refine hG.1 0 _ _ rfl _ _ _ ?_
  refine hG.1 1 _ _ rfl _ _ _ ?_
  show G 2 [some (.ref 0), some (.int v1), some (.int (0 : Int32)), none] [] σ
  refine hG.1 2 _ _ rfl _ _ _ ?_
  refine hG.1 3 _ _ rfl _ _ _ ?_
  show G 4 [some (.ref 0), some (.int v1), some (.int (0 : Int32)), some (.int (0 : Int32))] [] σ
  exact H
set_option maxRecDepth 100000 in
set_option maxHeartbeats 4000000 in
theorem sgX6_knowingMany_4 {po : Int32 → px_St → Prop} {G : px_K} (hG : px_cl (opX6_knowingMany po) G) (v1 : Int32) (v2 : Int32) (v3 : Int32) (σ : px_St)
    (H : vp_in (45 : Int32) 61 ∧ (((σ.1 2 (45 : Int32).toNatClampNeg) ≤ v3) → po v2 σ) ∧ (¬ ((σ.1 2 (45 : Int32).toNatClampNeg) ≤ v3) → ∃ g3 : gtX6_hasSound, qrX6_hasSound g3 v3 v1 σ ∧ ∀ (r1 : Int32) (σ2 : px_St), qoX6_hasSound g3 v3 v1 σ r1 σ2 → ∃ g7 : gtX6_flag, qrX6_flag g7 r1 σ2 ∧ ∀ (r5 : Int32) (σ6 : px_St), qoX6_flag g7 r1 σ2 r5 σ6 → G 4 [some (.ref 0), some (.int v1), some (.int (v2 + r5)), some (.int (v3 + 1))] [] σ6)) :
    G 4 [some (.ref 0), some (.int v1), some (.int v2), some (.int v3)] [] σ := by
  refine hG.1 4 _ _ rfl _ _ _ ?_
  refine hG.1 5 _ _ rfl _ _ _ ?_
  refine hG.1 6 _ _ rfl _ _ _ ?_
  refine ⟨⟨rfl, by decide⟩, ?_⟩
  refine hG.1 7 _ _ rfl _ _ _ ?_
  refine hG.1 8 _ _ rfl _ _ _ ?_
  refine ⟨⟨rfl, by decide⟩, H.1, ?_⟩
  replace H := H.2
  refine hG.1 9 _ _ rfl _ _ _ ?_
  refine ⟨fun h9 => ?_, fun h9 => ?_⟩
  · replace H := H.1 h9
    refine hG.1 20 _ _ rfl _ _ _ ?_
    refine hG.1 21 _ _ rfl _ _ _ ?_
    exact ⟨rfl, H⟩
  · replace H := H.2 h9
    refine hG.1 10 _ _ rfl _ _ _ ?_
    refine hG.1 11 _ _ rfl _ _ _ ?_
    refine hG.1 12 _ _ rfl _ _ _ ?_
    refine hG.1 13 _ _ rfl _ _ _ ?_
    refine hG.1 14 _ _ rfl _ _ _ ?_
    obtain ⟨g3, H⟩ := H
    refine ⟨⟨rfl, by decide⟩, Nat.le_of_ble_eq_true rfl, g3, ⟨_, _, rfl, H.1⟩, fun r1 σ2 hp4 => ?_⟩
    replace H := H.2 r1 σ2 hp4
    refine hG.1 15 _ _ rfl _ _ _ ?_
    obtain ⟨g7, H⟩ := H
    refine ⟨Nat.le_of_ble_eq_true rfl, Nat.le_of_ble_eq_true rfl, g7, ⟨_, rfl, H.1⟩, fun r5 σ6 hp8 => ?_⟩
    replace H := H.2 r5 σ6 hp8
    refine hG.1 16 _ _ rfl _ _ _ ?_
    refine hG.1 17 _ _ rfl _ _ _ ?_
    show G 27 [some (.ref 0), some (.int v1), some (.int (v2 + r5)), some (.int v3)] [] σ6
    refine hG.1 18 _ _ rfl _ _ _ ?_
    show G 30 [some (.ref 0), some (.int v1), some (.int (v2 + r5)), some (.int (v3 + 1))] [] σ6
    refine hG.1 19 _ _ rfl _ _ _ ?_
    exact H
set_option maxRecDepth 100000 in
set_option maxHeartbeats 4000000 in
theorem hhX6_knowingMany (g : gtX6_knowingMany) (v1 : Int32) (σ : px_St) (h : qrX6_knowingMany g v1 σ) (G : px_K) (hG : px_cl (opX6_knowingMany (qoX6_knowingMany g v1 σ)) G) : G 0 (px_ent 4 [.ref 0, .int v1]) [] σ := by
  obtain ⟨V, s⟩ := g
  obtain ⟨hV, hw, hs, rfl⟩ := h
  have h5 := hw.1
  have hi45 : vp_in (45 : Int32) 61 := vpin 45 61 rfl (by omega) (by omega)
  refine sgX6_knowingMany_0 hG _ σ ?_
  have loop : ∀ n k, k + n = V.1 → G 4 [some (.ref 0), some (.int (nI s)), some (.int (nI (pv_many V s k))), some (.int (nI k))] [] σ := by
    intro n
    induction n with
    | zero =>
      intro k hk
      refine sgX6_knowingMany_4 hG _ _ _ σ ?_
      rw [c45, hV.1.1]
      exact ⟨hi45, fun _ => ⟨rfl, by rw [show k = V.1 by omega]⟩, fun z => absurd (nI_le (by omega) (by omega)) z⟩
    | succ n ih =>
      intro k hk
      refine sgX6_knowingMany_4 hG _ _ _ σ ?_
      rw [c45, hV.1.1]
      refine ⟨hi45, fun z => absurd z (nI_ge (by omega) (by omega)), fun _ => ⟨(V, k, s), ⟨hV, hw, by omega, hs, rfl, rfl⟩, fun r σ2 hq => ?_⟩⟩
      obtain ⟨rfl, hb⟩ := hq
      refine ⟨(), trivial, fun r2 σ3 hq => ?_⟩
      obtain ⟨rfl, rfl⟩ := hq
      rw [px_b_nz hb, nI_1]
      have e := ih (k + 1) (by omega)
      rw [pv_many] at e
      rcases hb with ⟨hm, rfl⟩ | ⟨hm, rfl⟩
      · rw [if_pos hm] at e
        rw [nI_1]
        exact e
      · rw [if_neg hm] at e
        rw [show (0 : Int32) = nI 0 from rfl, nI_add]
        exact e
  exact loop _ 0 (Nat.zero_add _)
theorem mX6_knowingMany (g : gtX6_knowingMany) : px_Met dM yX6_knowingMany (Cond.code yX6_knowingMany cX6_knowingMany 4 (some .int) :: wdM) rmX6_knowingMany px_vI (prX6_knowingMany g) (poX6_knowingMany g) :=
  px_met (Z := (cX6_knowingMany, 4, RX6, Cond.code yX6_knowingMany cX6_knowingMany 4 (some .int) :: wdM, (some .int), rmX6_knowingMany, dM)) opX6_knowingMany (by decide) rfl rfl okX6_knowingMany (fun As σ h => by obtain ⟨v1, rfl, h⟩ := h; exact Nat.le_of_ble_eq_true rfl) (fun As σ h G hG => by obtain ⟨v1, rfl, h⟩ := h; exact hhX6_knowingMany g v1 σ h G hG)
abbrev gtX6_knownTo : Type := pv_V × Nat
def qrX6_knownTo : gtX6_knownTo → Int32 → px_St → Prop
  | (V, p), v1, σ => mv_is (σ.1 2) V ∧ pv_w V ∧ p < V.1 ∧ v1 = nI p
def qoX6_knownTo : gtX6_knownTo → Int32 → px_St → Int32 → px_St → Prop
  | (V, p), _, σ, r, σ' => σ' = σ ∧ r = pv_bits (V.2.2.2 p).2.2 0
def prX6_knownTo (g : gtX6_knownTo) : List Value → px_St → Prop := fun As σ => ∃ v1 : Int32, As = [.ref 0, .int v1] ∧ qrX6_knownTo g v1 σ
def poX6_knownTo (g : gtX6_knownTo) : List Value → px_St → Int32 → px_St → Prop
  | [.ref _, .int v1], σ, r, σ' => qoX6_knownTo g v1 σ r σ'
  | _, _, _, _ => False
theorem dX6_knownTo_0 : decode cX6_knownTo 0 = .ok (.iconst 0, 1) := by decide +kernel
theorem dX6_knownTo_1 : decode cX6_knownTo 1 = .ok (.istore_n 2, 1) := by decide +kernel
theorem dX6_knownTo_2 : decode cX6_knownTo 2 = .ok (.iconst 0, 1) := by decide +kernel
theorem dX6_knownTo_3 : decode cX6_knownTo 3 = .ok (.istore_n 3, 1) := by decide +kernel
theorem dX6_knownTo_4 : decode cX6_knownTo 4 = .ok (.iload_n 3, 1) := by decide +kernel
theorem dX6_knownTo_5 : decode cX6_knownTo 5 = .ok (.aload_n 0, 1) := by decide +kernel
theorem dX6_knownTo_6 : decode cX6_knownTo 6 = .ok (.iload_n 1, 1) := by decide +kernel
theorem dX6_knownTo_7 : decode cX6_knownTo 7 = .ok (.iconst 1, 1) := by decide +kernel
theorem dX6_knownTo_8 : decode cX6_knownTo 8 = .ok (.invokevirtual 130, 3) := by decide +kernel
theorem dX6_knownTo_11 : decode cX6_knownTo 11 = .ok (.if_icmp .ge 22, 3) := by decide +kernel
theorem dX6_knownTo_14 : decode cX6_knownTo 14 = .ok (.iload_n 2, 1) := by decide +kernel
theorem dX6_knownTo_15 : decode cX6_knownTo 15 = .ok (.iconst 1, 1) := by decide +kernel
theorem dX6_knownTo_16 : decode cX6_knownTo 16 = .ok (.aload_n 0, 1) := by decide +kernel
theorem dX6_knownTo_17 : decode cX6_knownTo 17 = .ok (.iload_n 1, 1) := by decide +kernel
theorem dX6_knownTo_18 : decode cX6_knownTo 18 = .ok (.iconst 3, 1) := by decide +kernel
theorem dX6_knownTo_19 : decode cX6_knownTo 19 = .ok (.iload_n 3, 1) := by decide +kernel
theorem dX6_knownTo_20 : decode cX6_knownTo 20 = .ok (.iadd, 1) := by decide +kernel
theorem dX6_knownTo_21 : decode cX6_knownTo 21 = .ok (.invokevirtual 130, 3) := by decide +kernel
theorem dX6_knownTo_24 : decode cX6_knownTo 24 = .ok (.ishl, 1) := by decide +kernel
theorem dX6_knownTo_25 : decode cX6_knownTo 25 = .ok (.ior, 1) := by decide +kernel
theorem dX6_knownTo_26 : decode cX6_knownTo 26 = .ok (.istore_n 2, 1) := by decide +kernel
theorem dX6_knownTo_27 : decode cX6_knownTo 27 = .ok (.iinc 3 1, 3) := by decide +kernel
theorem dX6_knownTo_30 : decode cX6_knownTo 30 = .ok (.goto (-26), 3) := by decide +kernel
theorem dX6_knownTo_33 : decode cX6_knownTo 33 = .ok (.iload_n 2, 1) := by decide +kernel
theorem dX6_knownTo_34 : decode cX6_knownTo 34 = .ok (.ireturn, 1) := by decide +kernel
abbrev rmX6_knownTo : Room := { frames := 1, cells := 0, slots := 0, locals := 22 }
def opX6_knownTo (po : Int32 → px_St → Prop) : List (Nat × px_Op) := [
  (0, px_push 1 (.int 0)),
  (1, px_is 2 2),
  (2, px_push 3 (.int 0)),
  (3, px_is 4 3),
  (4, px_il 5 3),
  (5, px_al 6 0),
  (6, px_il 7 1),
  (7, px_push 8 (.int 1)),
  (8, px_callV dM 11 6 2 px_vI prX6_of poX6_of),
  (11, px_ic 14 33 (fun x y => y ≤ x)),
  (14, px_il 15 2),
  (15, px_push 16 (.int 1)),
  (16, px_al 17 0),
  (17, px_il 18 1),
  (18, px_push 19 (.int 3)),
  (19, px_il 20 3),
  (20, px_bin 21 (fun x y => x + y)),
  (21, px_callV dM 24 6 2 px_vI prX6_of poX6_of),
  (24, px_bin 25 (fun x y => x <<< (y &&& 31))),
  (25, px_bin 26 (fun x y => x ||| y)),
  (26, px_is 27 2),
  (27, px_inc 30 3 1),
  (30, px_go 4),
  (33, px_il 34 2),
  (34, px_iret (.int) po)]
set_option maxRecDepth 100000 in
set_option maxHeartbeats 4000000 in
theorem okX6_knownTo : ∀ (po : Int32 → px_St → Prop) (i pc : Nat) (op : px_Op), (opX6_knownTo po)[i]? = some (pc, op) → px_Snd (cX6_knownTo, 4, RX6, Cond.code yX6_knownTo cX6_knownTo 4 (some .int) :: wdM, (some .int), rmX6_knownTo, dM) px_vI po pc op := by
  intro po
  unfold opX6_knownTo
  refine px_ok_cons (ps_iconst dX6_knownTo_0 (by decide)) ?_
  refine px_ok_cons (ps_istore_n dX6_knownTo_1 rfl (by decide)) ?_
  refine px_ok_cons (ps_iconst dX6_knownTo_2 (by decide)) ?_
  refine px_ok_cons (ps_istore_n dX6_knownTo_3 rfl (by decide)) ?_
  refine px_ok_cons (ps_iload_n dX6_knownTo_4 rfl) ?_
  refine px_ok_cons (ps_aload_n dX6_knownTo_5 rfl) ?_
  refine px_ok_cons (ps_iload_n dX6_knownTo_6 rfl) ?_
  refine px_ok_cons (ps_iconst dX6_knownTo_7 (by decide)) ?_
  refine px_ok_cons (ps_callV mX6_of (fun _ _ => rfl) (C := RX6) rfl (fun _ _ ht => px_cwV wgM (wdM_2_in _ (List.mem_of_getElem? (i := 16) rfl)) (wdM_2_in _ (List.mem_of_getElem? (i := 17) rfl)) (wdM_2_in _ (List.mem_of_getElem? (i := 18) rfl)) (wdM_0_in _ (List.mem_of_getElem? (i := 22) rfl)) (wdM_2_in _ (List.mem_of_getElem? (i := 13) rfl)) (by decide +kernel) rfl rfl (by decide) ht) dX6_knownTo_8) ?_
  refine px_ok_cons (ps_icmp_ge dX6_knownTo_11 (by decide)) ?_
  refine px_ok_cons (ps_iload_n dX6_knownTo_14 rfl) ?_
  refine px_ok_cons (ps_iconst dX6_knownTo_15 (by decide)) ?_
  refine px_ok_cons (ps_aload_n dX6_knownTo_16 rfl) ?_
  refine px_ok_cons (ps_iload_n dX6_knownTo_17 rfl) ?_
  refine px_ok_cons (ps_iconst dX6_knownTo_18 (by decide)) ?_
  refine px_ok_cons (ps_iload_n dX6_knownTo_19 rfl) ?_
  refine px_ok_cons (ps_iadd dX6_knownTo_20) ?_
  refine px_ok_cons (ps_callV mX6_of (fun _ _ => rfl) (C := RX6) rfl (fun _ _ ht => px_cwV wgM (wdM_2_in _ (List.mem_of_getElem? (i := 16) rfl)) (wdM_2_in _ (List.mem_of_getElem? (i := 17) rfl)) (wdM_2_in _ (List.mem_of_getElem? (i := 18) rfl)) (wdM_0_in _ (List.mem_of_getElem? (i := 22) rfl)) (wdM_2_in _ (List.mem_of_getElem? (i := 13) rfl)) (by decide +kernel) rfl rfl (by decide) ht) dX6_knownTo_21) ?_
  refine px_ok_cons (ps_ishl dX6_knownTo_24) ?_
  refine px_ok_cons (ps_ior dX6_knownTo_25) ?_
  refine px_ok_cons (ps_istore_n dX6_knownTo_26 rfl (by decide)) ?_
  refine px_ok_cons (ps_iinc dX6_knownTo_27 (by decide) (by decide)) ?_
  refine px_ok_cons (ps_goto dX6_knownTo_30 (by decide)) ?_
  refine px_ok_cons (ps_iload_n dX6_knownTo_33 rfl) ?_
  refine px_ok_cons (ps_ireturn rfl dX6_knownTo_34) ?_
  exact px_ok_nil
set_option maxRecDepth 100000 in
set_option maxHeartbeats 4000000 in
theorem sgX6_knownTo_0 {po : Int32 → px_St → Prop} {G : px_K} (hG : px_cl (opX6_knownTo po) G) (v1 : Int32) (σ : px_St)
    (H : G 4 [some (.ref 0), some (.int v1), some (.int (0 : Int32)), some (.int (0 : Int32))] [] σ) :
    G 0 (px_ent 4 [.ref 0, .int v1]) [] σ := by
  refine hG.1 0 _ _ rfl _ _ _ ?_
  refine hG.1 1 _ _ rfl _ _ _ ?_
  show G 2 [some (.ref 0), some (.int v1), some (.int (0 : Int32)), none] [] σ
  refine hG.1 2 _ _ rfl _ _ _ ?_
  refine hG.1 3 _ _ rfl _ _ _ ?_
  show G 4 [some (.ref 0), some (.int v1), some (.int (0 : Int32)), some (.int (0 : Int32))] [] σ
  exact H
set_option maxRecDepth 100000 in
set_option maxHeartbeats 4000000 in
theorem sgX6_knownTo_4 {po : Int32 → px_St → Prop} {G : px_K} (hG : px_cl (opX6_knownTo po) G) (v1 : Int32) (v2 : Int32) (v3 : Int32) (σ : px_St)
    (H : ∃ g3 : gtX6_of, qrX6_of g3 v1 (1 : Int32) σ ∧ ∀ (r1 : Int32) (σ2 : px_St), qoX6_of g3 v1 (1 : Int32) σ r1 σ2 → ((r1 ≤ v3) → po v2 σ2) ∧ (¬ (r1 ≤ v3) → ∃ g7 : gtX6_of, qrX6_of g7 v1 ((3 : Int32) + v3) σ2 ∧ ∀ (r5 : Int32) (σ6 : px_St), qoX6_of g7 v1 ((3 : Int32) + v3) σ2 r5 σ6 → G 4 [some (.ref 0), some (.int v1), some (.int (v2 ||| ((1 : Int32) <<< (r5 &&& 31)))), some (.int (v3 + 1))] [] σ6)) :
    G 4 [some (.ref 0), some (.int v1), some (.int v2), some (.int v3)] [] σ := by
  refine hG.1 4 _ _ rfl _ _ _ ?_
  refine hG.1 5 _ _ rfl _ _ _ ?_
  refine hG.1 6 _ _ rfl _ _ _ ?_
  refine hG.1 7 _ _ rfl _ _ _ ?_
  refine hG.1 8 _ _ rfl _ _ _ ?_
  obtain ⟨g3, H⟩ := H
  refine ⟨⟨rfl, by decide⟩, Nat.le_of_ble_eq_true rfl, g3, ⟨_, _, rfl, H.1⟩, fun r1 σ2 hp4 => ?_⟩
  replace H := H.2 r1 σ2 hp4
  refine hG.1 9 _ _ rfl _ _ _ ?_
  refine ⟨fun h9 => ?_, fun h9 => ?_⟩
  · replace H := H.1 h9
    refine hG.1 23 _ _ rfl _ _ _ ?_
    refine hG.1 24 _ _ rfl _ _ _ ?_
    exact ⟨rfl, H⟩
  · replace H := H.2 h9
    refine hG.1 10 _ _ rfl _ _ _ ?_
    refine hG.1 11 _ _ rfl _ _ _ ?_
    refine hG.1 12 _ _ rfl _ _ _ ?_
    refine hG.1 13 _ _ rfl _ _ _ ?_
    refine hG.1 14 _ _ rfl _ _ _ ?_
    refine hG.1 15 _ _ rfl _ _ _ ?_
    refine hG.1 16 _ _ rfl _ _ _ ?_
    refine hG.1 17 _ _ rfl _ _ _ ?_
    obtain ⟨g7, H⟩ := H
    refine ⟨⟨rfl, by decide⟩, Nat.le_of_ble_eq_true rfl, g7, ⟨_, _, rfl, H.1⟩, fun r5 σ6 hp8 => ?_⟩
    replace H := H.2 r5 σ6 hp8
    refine hG.1 18 _ _ rfl _ _ _ ?_
    refine hG.1 19 _ _ rfl _ _ _ ?_
    refine hG.1 20 _ _ rfl _ _ _ ?_
    show G 27 [some (.ref 0), some (.int v1), some (.int (v2 ||| ((1 : Int32) <<< (r5 &&& 31)))), some (.int v3)] [] σ6
    refine hG.1 21 _ _ rfl _ _ _ ?_
    show G 30 [some (.ref 0), some (.int v1), some (.int (v2 ||| ((1 : Int32) <<< (r5 &&& 31)))), some (.int (v3 + 1))] [] σ6
    refine hG.1 22 _ _ rfl _ _ _ ?_
    exact H
set_option maxRecDepth 100000 in
set_option maxHeartbeats 4000000 in
theorem hhX6_knownTo (g : gtX6_knownTo) (v1 : Int32) (σ : px_St) (h : qrX6_knownTo g v1 σ) (G : px_K) (hG : px_cl (opX6_knownTo (qoX6_knownTo g v1 σ)) G) : G 0 (px_ent 4 [.ref 0, .int v1]) [] σ := by
  obtain ⟨V, p⟩ := g
  obtain ⟨hV, hw, hp, rfl⟩ := h
  obtain ⟨hk3, hl, hx9⟩ := hw.2.2.2 p hp
  have h5 := hw.1
  obtain ⟨g1, g2, g3, g4⟩ := hV.2 p hp
  refine sgX6_knownTo_0 hG _ σ ?_
  have loop : ∀ n k, k + n = (V.2.2.2 p).2.2.length → G 4 [some (.ref 0), some (.int (nI p)), some (.int (pv_bits ((V.2.2.2 p).2.2.take k) 0)), some (.int (nI k))] [] σ := by
    intro n
    induction n with
    | zero =>
      intro k hk
      refine sgX6_knownTo_4 hG _ _ _ σ ⟨9 * p + 1, ⟨by omega, ix9 p 1⟩, fun r σ2 hq => ?_⟩
      obtain ⟨rfl, rfl⟩ := hq
      rw [g2]
      refine ⟨fun _ => ⟨rfl, ?_⟩, fun z => absurd (nI_le (by omega) (by omega)) z⟩
      rw [List.take_of_length_le (by omega)]
    | succ n ih =>
      intro k hk
      have hkl : k < (V.2.2.2 p).2.2.length := by omega
      refine sgX6_knownTo_4 hG _ _ _ σ ⟨9 * p + 1, ⟨by omega, ix9 p 1⟩, fun r σ2 hq => ?_⟩
      obtain ⟨rfl, rfl⟩ := hq
      rw [g2]
      refine ⟨fun z => absurd z (nI_ge (by omega) (by omega)), fun _ => ⟨9 * p + 3 + k, ⟨by omega, ix93 p k⟩, fun r σ3 hq => ?_⟩⟩
      obtain ⟨rfl, rfl⟩ := hq
      have hx : (V.2.2.2 p).2.2[k]? = some ((V.2.2.2 p).2.2.getD k 0) := by rw [List.getD_eq_getElem?_getD, List.getElem?_eq_getElem hkl]; rfl
      rw [g4 k _ hx]
      have e := ih (k + 1) (by omega)
      unfold pv_bits at e ⊢
      rw [foldl_take _ _ _ _ _ hx, ← nI_1] at e
      exact e
  exact loop _ 0 (Nat.zero_add _)
theorem mX6_knownTo (g : gtX6_knownTo) : px_Met dM yX6_knownTo (Cond.code yX6_knownTo cX6_knownTo 4 (some .int) :: wdM) rmX6_knownTo px_vI (prX6_knownTo g) (poX6_knownTo g) :=
  px_met (Z := (cX6_knownTo, 4, RX6, Cond.code yX6_knownTo cX6_knownTo 4 (some .int) :: wdM, (some .int), rmX6_knownTo, dM)) opX6_knownTo (by decide) rfl rfl okX6_knownTo (fun As σ h => by obtain ⟨v1, rfl, h⟩ := h; exact Nat.le_of_ble_eq_true rfl) (fun As σ h G hG => by obtain ⟨v1, rfl, h⟩ := h; exact hhX6_knownTo g v1 σ h G hG)
abbrev gtX6_bitsOf : Type := Nat
def qrX6_bitsOf (n : Nat) (v : Int32) (_ : px_St) : Prop := n < 1024 ∧ v = nI n
def qoX6_bitsOf (n : Nat) (_ : Int32) (σ : px_St) (r : Int32) (σ' : px_St) : Prop := σ' = σ ∧ r = nI (pv_pc n 10)
def prX6_bitsOf (g : gtX6_bitsOf) : List Value → px_St → Prop := fun As σ => ∃ v0 : Int32, As = [.int v0] ∧ qrX6_bitsOf g v0 σ
def poX6_bitsOf (g : gtX6_bitsOf) : List Value → px_St → Int32 → px_St → Prop
  | [.int v0], σ, r, σ' => qoX6_bitsOf g v0 σ r σ'
  | _, _, _, _ => False
theorem dX6_bitsOf_0 : decode cX6_bitsOf 0 = .ok (.iconst 0, 1) := by decide +kernel
theorem dX6_bitsOf_1 : decode cX6_bitsOf 1 = .ok (.istore_n 1, 1) := by decide +kernel
theorem dX6_bitsOf_2 : decode cX6_bitsOf 2 = .ok (.iconst 0, 1) := by decide +kernel
theorem dX6_bitsOf_3 : decode cX6_bitsOf 3 = .ok (.istore_n 2, 1) := by decide +kernel
theorem dX6_bitsOf_4 : decode cX6_bitsOf 4 = .ok (.iload_n 2, 1) := by decide +kernel
theorem dX6_bitsOf_5 : decode cX6_bitsOf 5 = .ok (.bipush 9, 2) := by decide +kernel
theorem dX6_bitsOf_7 : decode cX6_bitsOf 7 = .ok (.if_icmp .gt 17, 3) := by decide +kernel
theorem dX6_bitsOf_10 : decode cX6_bitsOf 10 = .ok (.iload_n 1, 1) := by decide +kernel
theorem dX6_bitsOf_11 : decode cX6_bitsOf 11 = .ok (.iload_n 0, 1) := by decide +kernel
theorem dX6_bitsOf_12 : decode cX6_bitsOf 12 = .ok (.iload_n 2, 1) := by decide +kernel
theorem dX6_bitsOf_13 : decode cX6_bitsOf 13 = .ok (.ishr, 1) := by decide +kernel
theorem dX6_bitsOf_14 : decode cX6_bitsOf 14 = .ok (.iconst 1, 1) := by decide +kernel
theorem dX6_bitsOf_15 : decode cX6_bitsOf 15 = .ok (.iand, 1) := by decide +kernel
theorem dX6_bitsOf_16 : decode cX6_bitsOf 16 = .ok (.iadd, 1) := by decide +kernel
theorem dX6_bitsOf_17 : decode cX6_bitsOf 17 = .ok (.istore_n 1, 1) := by decide +kernel
theorem dX6_bitsOf_18 : decode cX6_bitsOf 18 = .ok (.iinc 2 1, 3) := by decide +kernel
theorem dX6_bitsOf_21 : decode cX6_bitsOf 21 = .ok (.goto (-17), 3) := by decide +kernel
theorem dX6_bitsOf_24 : decode cX6_bitsOf 24 = .ok (.iload_n 1, 1) := by decide +kernel
theorem dX6_bitsOf_25 : decode cX6_bitsOf 25 = .ok (.ireturn, 1) := by decide +kernel
abbrev rmX6_bitsOf : Room := { frames := 0, cells := 0, slots := 0, locals := 0 }
def opX6_bitsOf (po : Int32 → px_St → Prop) : List (Nat × px_Op) := [
  (0, px_push 1 (.int 0)),
  (1, px_is 2 1),
  (2, px_push 3 (.int 0)),
  (3, px_is 4 2),
  (4, px_il 5 2),
  (5, px_push 7 (.int 9)),
  (7, px_ic 10 24 (fun x y => y < x)),
  (10, px_il 11 1),
  (11, px_il 12 0),
  (12, px_il 13 2),
  (13, px_bin 14 (fun x y => x >>> (y &&& 31))),
  (14, px_push 15 (.int 1)),
  (15, px_bin 16 (fun x y => x &&& y)),
  (16, px_bin 17 (fun x y => x + y)),
  (17, px_is 18 1),
  (18, px_inc 21 2 1),
  (21, px_go 4),
  (24, px_il 25 1),
  (25, px_iret (.int) po)]
set_option maxRecDepth 100000 in
set_option maxHeartbeats 4000000 in
theorem okX6_bitsOf : ∀ (po : Int32 → px_St → Prop) (i pc : Nat) (op : px_Op), (opX6_bitsOf po)[i]? = some (pc, op) → px_Snd (cX6_bitsOf, 3, RX6, Cond.code yX6_bitsOf cX6_bitsOf 3 (some .int) :: wdM, (some .int), rmX6_bitsOf, dM) px_vI po pc op := by
  intro po
  unfold opX6_bitsOf
  refine px_ok_cons (ps_iconst dX6_bitsOf_0 (by decide)) ?_
  refine px_ok_cons (ps_istore_n dX6_bitsOf_1 rfl (by decide)) ?_
  refine px_ok_cons (ps_iconst dX6_bitsOf_2 (by decide)) ?_
  refine px_ok_cons (ps_istore_n dX6_bitsOf_3 rfl (by decide)) ?_
  refine px_ok_cons (ps_iload_n dX6_bitsOf_4 rfl) ?_
  refine px_ok_cons (ps_bipush dX6_bitsOf_5 (by decide)) ?_
  refine px_ok_cons (ps_icmp_gt dX6_bitsOf_7 (by decide)) ?_
  refine px_ok_cons (ps_iload_n dX6_bitsOf_10 rfl) ?_
  refine px_ok_cons (ps_iload_n dX6_bitsOf_11 rfl) ?_
  refine px_ok_cons (ps_iload_n dX6_bitsOf_12 rfl) ?_
  refine px_ok_cons (ps_ishr dX6_bitsOf_13) ?_
  refine px_ok_cons (ps_iconst dX6_bitsOf_14 (by decide)) ?_
  refine px_ok_cons (ps_iand dX6_bitsOf_15) ?_
  refine px_ok_cons (ps_iadd dX6_bitsOf_16) ?_
  refine px_ok_cons (ps_istore_n dX6_bitsOf_17 rfl (by decide)) ?_
  refine px_ok_cons (ps_iinc dX6_bitsOf_18 (by decide) (by decide)) ?_
  refine px_ok_cons (ps_goto dX6_bitsOf_21 (by decide)) ?_
  refine px_ok_cons (ps_iload_n dX6_bitsOf_24 rfl) ?_
  refine px_ok_cons (ps_ireturn rfl dX6_bitsOf_25) ?_
  exact px_ok_nil
set_option maxRecDepth 100000 in
set_option maxHeartbeats 4000000 in
theorem sgX6_bitsOf_0 {po : Int32 → px_St → Prop} {G : px_K} (hG : px_cl (opX6_bitsOf po) G) (v0 : Int32) (σ : px_St)
    (H : G 4 [some (.int v0), some (.int (0 : Int32)), some (.int (0 : Int32))] [] σ) :
    G 0 (px_ent 3 [.int v0]) [] σ := by
  refine hG.1 0 _ _ rfl _ _ _ ?_
  refine hG.1 1 _ _ rfl _ _ _ ?_
  show G 2 [some (.int v0), some (.int (0 : Int32)), none] [] σ
  refine hG.1 2 _ _ rfl _ _ _ ?_
  refine hG.1 3 _ _ rfl _ _ _ ?_
  show G 4 [some (.int v0), some (.int (0 : Int32)), some (.int (0 : Int32))] [] σ
  exact H
set_option maxRecDepth 100000 in
set_option maxHeartbeats 4000000 in
theorem sgX6_bitsOf_4 {po : Int32 → px_St → Prop} {G : px_K} (hG : px_cl (opX6_bitsOf po) G) (v0 : Int32) (v1 : Int32) (v2 : Int32) (σ : px_St)
    (H : (((9 : Int32) < v2) → po v1 σ) ∧ (¬ ((9 : Int32) < v2) → G 4 [some (.int v0), some (.int (v1 + ((v0 >>> (v2 &&& 31)) &&& (1 : Int32)))), some (.int (v2 + 1))] [] σ)) :
    G 4 [some (.int v0), some (.int v1), some (.int v2)] [] σ := by
  refine hG.1 4 _ _ rfl _ _ _ ?_
  refine hG.1 5 _ _ rfl _ _ _ ?_
  refine hG.1 6 _ _ rfl _ _ _ ?_
  refine ⟨fun h1 => ?_, fun h1 => ?_⟩
  · replace H := H.1 h1
    refine hG.1 17 _ _ rfl _ _ _ ?_
    refine hG.1 18 _ _ rfl _ _ _ ?_
    exact ⟨rfl, H⟩
  · replace H := H.2 h1
    refine hG.1 7 _ _ rfl _ _ _ ?_
    refine hG.1 8 _ _ rfl _ _ _ ?_
    refine hG.1 9 _ _ rfl _ _ _ ?_
    refine hG.1 10 _ _ rfl _ _ _ ?_
    refine hG.1 11 _ _ rfl _ _ _ ?_
    refine hG.1 12 _ _ rfl _ _ _ ?_
    refine hG.1 13 _ _ rfl _ _ _ ?_
    refine hG.1 14 _ _ rfl _ _ _ ?_
    show G 18 [some (.int v0), some (.int (v1 + ((v0 >>> (v2 &&& 31)) &&& (1 : Int32)))), some (.int v2)] [] σ
    refine hG.1 15 _ _ rfl _ _ _ ?_
    show G 21 [some (.int v0), some (.int (v1 + ((v0 >>> (v2 &&& 31)) &&& (1 : Int32)))), some (.int (v2 + 1))] [] σ
    refine hG.1 16 _ _ rfl _ _ _ ?_
    exact H
set_option maxRecDepth 100000 in
set_option maxHeartbeats 4000000 in
theorem hhX6_bitsOf (g : gtX6_bitsOf) (v0 : Int32) (σ : px_St) (h : qrX6_bitsOf g v0 σ) (G : px_K) (hG : px_cl (opX6_bitsOf (qoX6_bitsOf g v0 σ)) G) : G 0 (px_ent 3 [.int v0]) [] σ := by
  obtain ⟨hn, rfl⟩ := h
  obtain ⟨N, hN⟩ : ∃ N : Nat, N = 10 := ⟨_, rfl⟩
  refine sgX6_bitsOf_0 hG _ σ ?_
  have loop : ∀ m k, k + m = N → G 4 [some (.int (nI g)), some (.int (nI (pv_pc g k))), some (.int (nI k))] [] σ := by
    intro m
    induction m with
    | zero =>
      intro k hk
      refine sgX6_bitsOf_4 hG _ _ _ σ ⟨fun _ => ?_, fun z => absurd ((nIlt 9 k rfl rfl (by omega) (by omega)).mpr (by omega)) z⟩
      unfold qoX6_bitsOf
      rw [← hN, show k = N by omega]
      exact ⟨rfl, rfl⟩
    | succ m ih =>
      intro k hk
      refine sgX6_bitsOf_4 hG _ _ _ σ ⟨fun z => absurd ((nIlt 9 k rfl rfl (by omega) (by omega)).mp z) (by omega), fun _ => ?_⟩
      rw [bitAt (by omega) (by omega), nI_add, nI_1]
      exact ih (k + 1) (by omega)
  exact loop N 0 (by omega)
theorem mX6_bitsOf (g : gtX6_bitsOf) : px_Met dM yX6_bitsOf (Cond.code yX6_bitsOf cX6_bitsOf 3 (some .int) :: wdM) rmX6_bitsOf px_vI (prX6_bitsOf g) (poX6_bitsOf g) :=
  px_met (Z := (cX6_bitsOf, 3, RX6, Cond.code yX6_bitsOf cX6_bitsOf 3 (some .int) :: wdM, (some .int), rmX6_bitsOf, dM)) opX6_bitsOf (by decide) rfl rfl okX6_bitsOf (fun As σ h => by obtain ⟨v0, rfl, h⟩ := h; exact Nat.le_of_ble_eq_true rfl) (fun As σ h G hG => by obtain ⟨v0, rfl, h⟩ := h; exact hhX6_bitsOf g v0 σ h G hG)
abbrev gtX6_becomes : Type := Nat
def qrX6_becomes (j : Nat) (v1 _ : Int32) (_ : px_St) : Prop := j < 183 ∧ v1 = nI j
def qoX6_becomes (j : Nat) (_ x : Int32) (σ : px_St) (r : Int32) (σ' : px_St) : Prop := σ' = px_up σ 1 j x ∧ r = σ.1 1 j
def prX6_becomes (g : gtX6_becomes) : List Value → px_St → Prop := fun As σ => ∃ v1 : Int32, ∃ v2 : Int32, As = [.ref 0, .int v1, .int v2] ∧ qrX6_becomes g v1 v2 σ
def poX6_becomes (g : gtX6_becomes) : List Value → px_St → Int32 → px_St → Prop
  | [.ref _, .int v1, .int v2], σ, r, σ' => qoX6_becomes g v1 v2 σ r σ'
  | _, _, _, _ => False
theorem dX6_becomes_0 : decode cX6_becomes 0 = .ok (.aload_n 0, 1) := by decide +kernel
theorem dX6_becomes_1 : decode cX6_becomes 1 = .ok (.getfield 7, 3) := by decide +kernel
theorem dX6_becomes_4 : decode cX6_becomes 4 = .ok (.iload_n 1, 1) := by decide +kernel
theorem dX6_becomes_5 : decode cX6_becomes 5 = .ok (.iaload, 1) := by decide +kernel
theorem dX6_becomes_6 : decode cX6_becomes 6 = .ok (.istore_n 3, 1) := by decide +kernel
theorem dX6_becomes_7 : decode cX6_becomes 7 = .ok (.aload_n 0, 1) := by decide +kernel
theorem dX6_becomes_8 : decode cX6_becomes 8 = .ok (.getfield 7, 3) := by decide +kernel
theorem dX6_becomes_11 : decode cX6_becomes 11 = .ok (.iload_n 1, 1) := by decide +kernel
theorem dX6_becomes_12 : decode cX6_becomes 12 = .ok (.iload_n 2, 1) := by decide +kernel
theorem dX6_becomes_13 : decode cX6_becomes 13 = .ok (.iastore, 1) := by decide +kernel
theorem dX6_becomes_14 : decode cX6_becomes 14 = .ok (.iload_n 3, 1) := by decide +kernel
theorem dX6_becomes_15 : decode cX6_becomes 15 = .ok (.ireturn, 1) := by decide +kernel
abbrev rmX6_becomes : Room := { frames := 0, cells := 0, slots := 0, locals := 0 }
def opX6_becomes (po : Int32 → px_St → Prop) : List (Nat × px_Op) := [
  (0, px_al 1 0),
  (1, px_get dM 4 6 0),
  (4, px_il 5 1),
  (5, px_ald dM 6 0),
  (6, px_is 7 3),
  (7, px_al 8 0),
  (8, px_get dM 11 6 0),
  (11, px_il 12 1),
  (12, px_il 13 2),
  (13, px_ast dM 14 0 (fun x => x)),
  (14, px_il 15 3),
  (15, px_iret (.int) po)]
set_option maxRecDepth 100000 in
set_option maxHeartbeats 4000000 in
theorem okX6_becomes : ∀ (po : Int32 → px_St → Prop) (i pc : Nat) (op : px_Op), (opX6_becomes po)[i]? = some (pc, op) → px_Snd (cX6_becomes, 4, RX6, Cond.code yX6_becomes cX6_becomes 4 (some .int) :: wdM, (some .int), rmX6_becomes, dM) px_vI po pc op := by
  intro po
  unfold opX6_becomes
  refine px_ok_cons (ps_aload_n dX6_becomes_0 rfl) ?_
  refine px_ok_cons (fgX6_7 dX6_becomes_1) ?_
  refine px_ok_cons (ps_iload_n dX6_becomes_4 rfl) ?_
  refine px_ok_cons (ps_iaload dX6_becomes_5) ?_
  refine px_ok_cons (ps_istore_n dX6_becomes_6 rfl (by decide)) ?_
  refine px_ok_cons (ps_aload_n dX6_becomes_7 rfl) ?_
  refine px_ok_cons (fgX6_7 dX6_becomes_8) ?_
  refine px_ok_cons (ps_iload_n dX6_becomes_11 rfl) ?_
  refine px_ok_cons (ps_iload_n dX6_becomes_12 rfl) ?_
  refine px_ok_cons (ps_iastore dX6_becomes_13) ?_
  refine px_ok_cons (ps_iload_n dX6_becomes_14 rfl) ?_
  refine px_ok_cons (ps_ireturn rfl dX6_becomes_15) ?_
  exact px_ok_nil
set_option maxRecDepth 100000 in
set_option maxHeartbeats 4000000 in
theorem sgX6_becomes_0 {po : Int32 → px_St → Prop} {G : px_K} (hG : px_cl (opX6_becomes po) G) (v1 : Int32) (v2 : Int32) (σ : px_St)
    (H : vp_in v1 183 ∧ vp_in v1 183 ∧ po (σ.1 1 v1.toNatClampNeg) (px_up σ 1 v1.toNatClampNeg v2)) :
    G 0 (px_ent 4 [.ref 0, .int v1, .int v2]) [] σ := by
  refine hG.1 0 _ _ rfl _ _ _ ?_
  refine hG.1 1 _ _ rfl _ _ _ ?_
  refine ⟨⟨rfl, by decide⟩, ?_⟩
  refine hG.1 2 _ _ rfl _ _ _ ?_
  refine hG.1 3 _ _ rfl _ _ _ ?_
  refine ⟨⟨rfl, by decide⟩, H.1, ?_⟩
  replace H := H.2
  refine hG.1 4 _ _ rfl _ _ _ ?_
  show G 7 [some (.ref 0), some (.int v1), some (.int v2), some (.int (σ.1 1 v1.toNatClampNeg))] [] σ
  refine hG.1 5 _ _ rfl _ _ _ ?_
  refine hG.1 6 _ _ rfl _ _ _ ?_
  refine ⟨⟨rfl, by decide⟩, ?_⟩
  refine hG.1 7 _ _ rfl _ _ _ ?_
  refine hG.1 8 _ _ rfl _ _ _ ?_
  refine hG.1 9 _ _ rfl _ _ _ ?_
  refine ⟨⟨rfl, by decide⟩, H.1, ?_⟩
  replace H := H.2
  refine hG.1 10 _ _ rfl _ _ _ ?_
  refine hG.1 11 _ _ rfl _ _ _ ?_
  exact ⟨rfl, H⟩
set_option maxRecDepth 100000 in
set_option maxHeartbeats 4000000 in
theorem hhX6_becomes (g : gtX6_becomes) (v1 : Int32) (v2 : Int32) (σ : px_St) (h : qrX6_becomes g v1 v2 σ) (G : px_K) (hG : px_cl (opX6_becomes (qoX6_becomes g v1 v2 σ)) G) : G 0 (px_ent 4 [.ref 0, .int v1, .int v2]) [] σ := by
  obtain ⟨hj, rfl⟩ := h
  refine sgX6_becomes_0 hG _ _ σ ?_
  rw [nI_clamp (by omega)]
  exact ⟨vp_in_nI hj (by decide), vp_in_nI hj (by decide), rfl, rfl⟩
theorem mX6_becomes (g : gtX6_becomes) : px_Met dM yX6_becomes (Cond.code yX6_becomes cX6_becomes 4 (some .int) :: wdM) rmX6_becomes px_vI (prX6_becomes g) (poX6_becomes g) :=
  px_met (Z := (cX6_becomes, 4, RX6, Cond.code yX6_becomes cX6_becomes 4 (some .int) :: wdM, (some .int), rmX6_becomes, dM)) opX6_becomes (by decide) rfl rfl okX6_becomes (fun As σ h => by obtain ⟨v1, v2, rfl, h⟩ := h; exact Nat.le_of_ble_eq_true rfl) (fun As σ h G hG => by obtain ⟨v1, v2, rfl, h⟩ := h; exact hhX6_becomes g v1 v2 σ h G hG)
abbrev gtX6_startsJudging : Type := Unit
def qrX6_startsJudging (_ : Unit) (_ : Int32) (_ : px_St) : Prop := True
def qoX6_startsJudging (_ : Unit) (x : Int32) (σ : px_St) (_ : Unit) (σ' : px_St) : Prop := σ' = px_up (px_up σ 0 13 (-4)) 0 14 x
def prX6_startsJudging (g : gtX6_startsJudging) : List Value → px_St → Prop := fun As σ => ∃ v1 : Int32, As = [.ref 0, .int v1] ∧ qrX6_startsJudging g v1 σ
def poX6_startsJudging (g : gtX6_startsJudging) : List Value → px_St → Unit → px_St → Prop
  | [.ref _, .int v1], σ, r, σ' => qoX6_startsJudging g v1 σ r σ'
  | _, _, _, _ => False
theorem dX6_startsJudging_0 : decode cX6_startsJudging 0 = .ok (.aload_n 0, 1) := by decide +kernel
theorem dX6_startsJudging_1 : decode cX6_startsJudging 1 = .ok (.bipush (-4), 2) := by decide +kernel
theorem dX6_startsJudging_3 : decode cX6_startsJudging 3 = .ok (.putfield 213, 3) := by decide +kernel
theorem dX6_startsJudging_6 : decode cX6_startsJudging 6 = .ok (.aload_n 0, 1) := by decide +kernel
theorem dX6_startsJudging_7 : decode cX6_startsJudging 7 = .ok (.iload_n 1, 1) := by decide +kernel
theorem dX6_startsJudging_8 : decode cX6_startsJudging 8 = .ok (.putfield 216, 3) := by decide +kernel
theorem dX6_startsJudging_11 : decode cX6_startsJudging 11 = .ok (.return_, 1) := by decide +kernel
abbrev rmX6_startsJudging : Room := { frames := 0, cells := 0, slots := 0, locals := 0 }
def opX6_startsJudging (po : Unit → px_St → Prop) : List (Nat × px_Op) := [
  (0, px_al 1 0),
  (1, px_push 3 (.int (-4))),
  (3, px_put dM 6 6 13 .int),
  (6, px_al 7 0),
  (7, px_il 8 1),
  (8, px_put dM 11 6 14 .int),
  (11, px_vret po)]
set_option maxRecDepth 100000 in
set_option maxHeartbeats 4000000 in
theorem okX6_startsJudging : ∀ (po : Unit → px_St → Prop) (i pc : Nat) (op : px_Op), (opX6_startsJudging po)[i]? = some (pc, op) → px_Snd (cX6_startsJudging, 2, RX6, Cond.code yX6_startsJudging cX6_startsJudging 2 none :: wdM, none, rmX6_startsJudging, dM) px_vV po pc op := by
  intro po
  unfold opX6_startsJudging
  refine px_ok_cons (ps_aload_n dX6_startsJudging_0 rfl) ?_
  refine px_ok_cons (ps_bipush dX6_startsJudging_1 (by decide)) ?_
  refine px_ok_cons (fpX6_213 dX6_startsJudging_3) ?_
  refine px_ok_cons (ps_aload_n dX6_startsJudging_6 rfl) ?_
  refine px_ok_cons (ps_iload_n dX6_startsJudging_7 rfl) ?_
  refine px_ok_cons (fpX6_216 dX6_startsJudging_8) ?_
  refine px_ok_cons (ps_return rfl dX6_startsJudging_11) ?_
  exact px_ok_nil
set_option maxRecDepth 100000 in
set_option maxHeartbeats 4000000 in
theorem sgX6_startsJudging_0 {po : Unit → px_St → Prop} {G : px_K} (hG : px_cl (opX6_startsJudging po) G) (v1 : Int32) (σ : px_St)
    (H : po () (px_up (px_up σ 0 13 (-4 : Int32)) 0 14 v1)) :
    G 0 (px_ent 2 [.ref 0, .int v1]) [] σ := by
  refine hG.1 0 _ _ rfl _ _ _ ?_
  refine hG.1 1 _ _ rfl _ _ _ ?_
  refine hG.1 2 _ _ rfl _ _ _ ?_
  refine ⟨⟨rfl, by decide⟩, ⟨rfl, rfl⟩, ?_⟩
  refine hG.1 3 _ _ rfl _ _ _ ?_
  refine hG.1 4 _ _ rfl _ _ _ ?_
  refine hG.1 5 _ _ rfl _ _ _ ?_
  refine ⟨⟨rfl, by decide⟩, ⟨rfl, rfl⟩, ?_⟩
  refine hG.1 6 _ _ rfl _ _ _ ?_
  exact H
set_option maxRecDepth 100000 in
set_option maxHeartbeats 4000000 in
theorem hhX6_startsJudging (g : gtX6_startsJudging) (v1 : Int32) (σ : px_St) (h : qrX6_startsJudging g v1 σ) (G : px_K) (hG : px_cl (opX6_startsJudging (qoX6_startsJudging g v1 σ)) G) : G 0 (px_ent 2 [.ref 0, .int v1]) [] σ := by
  exact sgX6_startsJudging_0 hG _ σ rfl
theorem mX6_startsJudging (g : gtX6_startsJudging) : px_Met dM yX6_startsJudging (Cond.code yX6_startsJudging cX6_startsJudging 2 none :: wdM) rmX6_startsJudging px_vV (prX6_startsJudging g) (poX6_startsJudging g) :=
  px_met (Z := (cX6_startsJudging, 2, RX6, Cond.code yX6_startsJudging cX6_startsJudging 2 none :: wdM, none, rmX6_startsJudging, dM)) opX6_startsJudging (by decide) rfl rfl okX6_startsJudging (fun As σ h => by obtain ⟨v1, rfl, h⟩ := h; exact Nat.le_of_ble_eq_true rfl) (fun As σ h G hG => by obtain ⟨v1, rfl, h⟩ := h; exact hhX6_startsJudging g v1 σ h G hG)
abbrev gtX6_judges : Type := Unit
def qrX6_judges (_ : Unit) (_ _ : Int32) (_ : px_St) : Prop := True
def qoX6_judges (_ : Unit) (c x : Int32) (σ : px_St) (_ : Unit) (σ' : px_St) : Prop := σ' = if x < σ.1 0 14 then px_up (px_up σ 0 13 c) 0 14 x else σ
def prX6_judges (g : gtX6_judges) : List Value → px_St → Prop := fun As σ => ∃ v1 : Int32, ∃ v2 : Int32, As = [.ref 0, .int v1, .int v2] ∧ qrX6_judges g v1 v2 σ
def poX6_judges (g : gtX6_judges) : List Value → px_St → Unit → px_St → Prop
  | [.ref _, .int v1, .int v2], σ, r, σ' => qoX6_judges g v1 v2 σ r σ'
  | _, _, _, _ => False
theorem dX6_judges_0 : decode cX6_judges 0 = .ok (.iload_n 2, 1) := by decide +kernel
theorem dX6_judges_1 : decode cX6_judges 1 = .ok (.aload_n 0, 1) := by decide +kernel
theorem dX6_judges_2 : decode cX6_judges 2 = .ok (.getfield 216, 3) := by decide +kernel
theorem dX6_judges_5 : decode cX6_judges 5 = .ok (.if_icmp .ge 13, 3) := by decide +kernel
theorem dX6_judges_8 : decode cX6_judges 8 = .ok (.aload_n 0, 1) := by decide +kernel
theorem dX6_judges_9 : decode cX6_judges 9 = .ok (.iload_n 1, 1) := by decide +kernel
theorem dX6_judges_10 : decode cX6_judges 10 = .ok (.putfield 213, 3) := by decide +kernel
theorem dX6_judges_13 : decode cX6_judges 13 = .ok (.aload_n 0, 1) := by decide +kernel
theorem dX6_judges_14 : decode cX6_judges 14 = .ok (.iload_n 2, 1) := by decide +kernel
theorem dX6_judges_15 : decode cX6_judges 15 = .ok (.putfield 216, 3) := by decide +kernel
theorem dX6_judges_18 : decode cX6_judges 18 = .ok (.return_, 1) := by decide +kernel
abbrev rmX6_judges : Room := { frames := 0, cells := 0, slots := 0, locals := 0 }
def opX6_judges (po : Unit → px_St → Prop) : List (Nat × px_Op) := [
  (0, px_il 1 2),
  (1, px_al 2 0),
  (2, px_get dM 5 6 14),
  (5, px_ic 8 18 (fun x y => y ≤ x)),
  (8, px_al 9 0),
  (9, px_il 10 1),
  (10, px_put dM 13 6 13 .int),
  (13, px_al 14 0),
  (14, px_il 15 2),
  (15, px_put dM 18 6 14 .int),
  (18, px_vret po)]
set_option maxRecDepth 100000 in
set_option maxHeartbeats 4000000 in
theorem okX6_judges : ∀ (po : Unit → px_St → Prop) (i pc : Nat) (op : px_Op), (opX6_judges po)[i]? = some (pc, op) → px_Snd (cX6_judges, 3, RX6, Cond.code yX6_judges cX6_judges 3 none :: wdM, none, rmX6_judges, dM) px_vV po pc op := by
  intro po
  unfold opX6_judges
  refine px_ok_cons (ps_iload_n dX6_judges_0 rfl) ?_
  refine px_ok_cons (ps_aload_n dX6_judges_1 rfl) ?_
  refine px_ok_cons (fgX6_216 dX6_judges_2) ?_
  refine px_ok_cons (ps_icmp_ge dX6_judges_5 (by decide)) ?_
  refine px_ok_cons (ps_aload_n dX6_judges_8 rfl) ?_
  refine px_ok_cons (ps_iload_n dX6_judges_9 rfl) ?_
  refine px_ok_cons (fpX6_213 dX6_judges_10) ?_
  refine px_ok_cons (ps_aload_n dX6_judges_13 rfl) ?_
  refine px_ok_cons (ps_iload_n dX6_judges_14 rfl) ?_
  refine px_ok_cons (fpX6_216 dX6_judges_15) ?_
  refine px_ok_cons (ps_return rfl dX6_judges_18) ?_
  exact px_ok_nil
set_option maxRecDepth 100000 in
set_option maxHeartbeats 4000000 in
theorem sgX6_judges_0 {po : Unit → px_St → Prop} {G : px_K} (hG : px_cl (opX6_judges po) G) (v1 : Int32) (v2 : Int32) (σ : px_St)
    (H : (((σ.1 0 14) ≤ v2) → po () σ) ∧ (¬ ((σ.1 0 14) ≤ v2) → po () (px_up (px_up σ 0 13 v1) 0 14 v2))) :
    G 0 (px_ent 3 [.ref 0, .int v1, .int v2]) [] σ := by
  refine hG.1 0 _ _ rfl _ _ _ ?_
  refine hG.1 1 _ _ rfl _ _ _ ?_
  refine hG.1 2 _ _ rfl _ _ _ ?_
  refine ⟨⟨rfl, by decide⟩, ?_⟩
  refine hG.1 3 _ _ rfl _ _ _ ?_
  refine ⟨fun h1 => ?_, fun h1 => ?_⟩
  · replace H := H.1 h1
    refine hG.1 10 _ _ rfl _ _ _ ?_
    exact H
  · replace H := H.2 h1
    refine hG.1 4 _ _ rfl _ _ _ ?_
    refine hG.1 5 _ _ rfl _ _ _ ?_
    refine hG.1 6 _ _ rfl _ _ _ ?_
    refine ⟨⟨rfl, by decide⟩, ⟨rfl, rfl⟩, ?_⟩
    refine hG.1 7 _ _ rfl _ _ _ ?_
    refine hG.1 8 _ _ rfl _ _ _ ?_
    refine hG.1 9 _ _ rfl _ _ _ ?_
    refine ⟨⟨rfl, by decide⟩, ⟨rfl, rfl⟩, ?_⟩
    refine hG.1 10 _ _ rfl _ _ _ ?_
    exact H
set_option maxRecDepth 100000 in
set_option maxHeartbeats 4000000 in
theorem hhX6_judges (g : gtX6_judges) (v1 : Int32) (v2 : Int32) (σ : px_St) (h : qrX6_judges g v1 v2 σ) (G : px_K) (hG : px_cl (opX6_judges (qoX6_judges g v1 v2 σ)) G) : G 0 (px_ent 3 [.ref 0, .int v1, .int v2]) [] σ := by
  refine sgX6_judges_0 hG _ _ σ ⟨fun z => ?_, fun z => ?_⟩
  · show σ = if _ then _ else _
    rw [if_neg (Int32.not_lt.mpr z)]
  · show _ = if _ then _ else _
    rw [if_pos (Int32.not_le.mp z)]
theorem mX6_judges (g : gtX6_judges) : px_Met dM yX6_judges (Cond.code yX6_judges cX6_judges 3 none :: wdM) rmX6_judges px_vV (prX6_judges g) (poX6_judges g) :=
  px_met (Z := (cX6_judges, 3, RX6, Cond.code yX6_judges cX6_judges 3 none :: wdM, none, rmX6_judges, dM)) opX6_judges (by decide) rfl rfl okX6_judges (fun As σ h => by obtain ⟨v1, v2, rfl, h⟩ := h; exact Nat.le_of_ble_eq_true rfl) (fun As σ h G hG => by obtain ⟨v1, v2, rfl, h⟩ := h; exact hhX6_judges g v1 v2 σ h G hG)
abbrev gtX6_judged : Type := Unit
def qrX6_judged (_ : Unit) (_ : Int32) (_ : px_St) : Prop := True
def qoX6_judged (_ : Unit) (w : Int32) (σ : px_St) (r : Int32) (σ' : px_St) : Prop := σ' = σ ∧ r = pv_choice (σ.1 0 13) (σ.1 0 14) w
def prX6_judged (g : gtX6_judged) : List Value → px_St → Prop := fun As σ => ∃ v1 : Int32, As = [.ref 0, .int v1] ∧ qrX6_judged g v1 σ
def poX6_judged (g : gtX6_judged) : List Value → px_St → Int32 → px_St → Prop
  | [.ref _, .int v1], σ, r, σ' => qoX6_judged g v1 σ r σ'
  | _, _, _, _ => False
theorem dX6_judged_0 : decode cX6_judged 0 = .ok (.aload_n 0, 1) := by decide +kernel
theorem dX6_judged_1 : decode cX6_judged 1 = .ok (.getfield 213, 3) := by decide +kernel
theorem dX6_judged_4 : decode cX6_judged 4 = .ok (.bipush (-4), 2) := by decide +kernel
theorem dX6_judged_6 : decode cX6_judged 6 = .ok (.if_icmp .ne 8, 3) := by decide +kernel
theorem dX6_judged_9 : decode cX6_judged 9 = .ok (.bipush (-4), 2) := by decide +kernel
theorem dX6_judged_11 : decode cX6_judged 11 = .ok (.goto 18, 3) := by decide +kernel
theorem dX6_judged_14 : decode cX6_judged 14 = .ok (.iload_n 1, 1) := by decide +kernel
theorem dX6_judged_15 : decode cX6_judged 15 = .ok (.ifCond .ne 10, 3) := by decide +kernel
theorem dX6_judged_18 : decode cX6_judged 18 = .ok (.aload_n 0, 1) := by decide +kernel
theorem dX6_judged_19 : decode cX6_judged 19 = .ok (.getfield 213, 3) := by decide +kernel
theorem dX6_judged_22 : decode cX6_judged 22 = .ok (.goto 7, 3) := by decide +kernel
theorem dX6_judged_25 : decode cX6_judged 25 = .ok (.aload_n 0, 1) := by decide +kernel
theorem dX6_judged_26 : decode cX6_judged 26 = .ok (.getfield 216, 3) := by decide +kernel
theorem dX6_judged_29 : decode cX6_judged 29 = .ok (.ireturn, 1) := by decide +kernel
abbrev rmX6_judged : Room := { frames := 0, cells := 0, slots := 0, locals := 0 }
def opX6_judged (po : Int32 → px_St → Prop) : List (Nat × px_Op) := [
  (0, px_al 1 0),
  (1, px_get dM 4 6 13),
  (4, px_push 6 (.int (-4))),
  (6, px_ic 9 14 (fun x y => ¬ x = y)),
  (9, px_push 11 (.int (-4))),
  (11, px_go 29),
  (14, px_il 15 1),
  (15, px_if 18 25 (fun x => ¬ x = 0)),
  (18, px_al 19 0),
  (19, px_get dM 22 6 13),
  (22, px_go 29),
  (25, px_al 26 0),
  (26, px_get dM 29 6 14),
  (29, px_iret (.int) po)]
set_option maxRecDepth 100000 in
set_option maxHeartbeats 4000000 in
theorem okX6_judged : ∀ (po : Int32 → px_St → Prop) (i pc : Nat) (op : px_Op), (opX6_judged po)[i]? = some (pc, op) → px_Snd (cX6_judged, 2, RX6, Cond.code yX6_judged cX6_judged 2 (some .int) :: wdM, (some .int), rmX6_judged, dM) px_vI po pc op := by
  intro po
  unfold opX6_judged
  refine px_ok_cons (ps_aload_n dX6_judged_0 rfl) ?_
  refine px_ok_cons (fgX6_213 dX6_judged_1) ?_
  refine px_ok_cons (ps_bipush dX6_judged_4 (by decide)) ?_
  refine px_ok_cons (ps_icmp_ne dX6_judged_6 (by decide)) ?_
  refine px_ok_cons (ps_bipush dX6_judged_9 (by decide)) ?_
  refine px_ok_cons (ps_goto dX6_judged_11 (by decide)) ?_
  refine px_ok_cons (ps_iload_n dX6_judged_14 rfl) ?_
  refine px_ok_cons (ps_if_ne dX6_judged_15 (by decide)) ?_
  refine px_ok_cons (ps_aload_n dX6_judged_18 rfl) ?_
  refine px_ok_cons (fgX6_213 dX6_judged_19) ?_
  refine px_ok_cons (ps_goto dX6_judged_22 (by decide)) ?_
  refine px_ok_cons (ps_aload_n dX6_judged_25 rfl) ?_
  refine px_ok_cons (fgX6_216 dX6_judged_26) ?_
  refine px_ok_cons (ps_ireturn rfl dX6_judged_29) ?_
  exact px_ok_nil
set_option maxRecDepth 100000 in
set_option maxHeartbeats 4000000 in
theorem sgX6_judged_0 {po : Int32 → px_St → Prop} {G : px_K} (hG : px_cl (opX6_judged po) G) (v1 : Int32) (σ : px_St)
    (H : ((¬ (σ.1 0 13) = (-4 : Int32)) → ((¬ v1 = 0) → po (σ.1 0 14) σ) ∧ (¬ (¬ v1 = 0) → po (σ.1 0 13) σ)) ∧ (¬ (¬ (σ.1 0 13) = (-4 : Int32)) → po (-4 : Int32) σ)) :
    G 0 (px_ent 2 [.ref 0, .int v1]) [] σ := by
  refine hG.1 0 _ _ rfl _ _ _ ?_
  refine hG.1 1 _ _ rfl _ _ _ ?_
  refine ⟨⟨rfl, by decide⟩, ?_⟩
  refine hG.1 2 _ _ rfl _ _ _ ?_
  refine hG.1 3 _ _ rfl _ _ _ ?_
  refine ⟨fun h2 => ?_, fun h2 => ?_⟩
  · replace H := H.1 h2
    refine hG.1 6 _ _ rfl _ _ _ ?_
    refine hG.1 7 _ _ rfl _ _ _ ?_
    refine ⟨fun h1 => ?_, fun h1 => ?_⟩
    · replace H := H.1 h1
      refine hG.1 11 _ _ rfl _ _ _ ?_
      refine hG.1 12 _ _ rfl _ _ _ ?_
      refine ⟨⟨rfl, by decide⟩, ?_⟩
      refine hG.1 13 _ _ rfl _ _ _ ?_
      exact ⟨rfl, H⟩
    · replace H := H.2 h1
      refine hG.1 8 _ _ rfl _ _ _ ?_
      refine hG.1 9 _ _ rfl _ _ _ ?_
      refine ⟨⟨rfl, by decide⟩, ?_⟩
      refine hG.1 10 _ _ rfl _ _ _ ?_
      refine hG.1 13 _ _ rfl _ _ _ ?_
      exact ⟨rfl, H⟩
  · replace H := H.2 h2
    refine hG.1 4 _ _ rfl _ _ _ ?_
    refine hG.1 5 _ _ rfl _ _ _ ?_
    refine hG.1 13 _ _ rfl _ _ _ ?_
    exact ⟨rfl, H⟩
set_option maxRecDepth 100000 in
set_option maxHeartbeats 4000000 in
theorem hhX6_judged (g : gtX6_judged) (v1 : Int32) (σ : px_St) (h : qrX6_judged g v1 σ) (G : px_K) (hG : px_cl (opX6_judged (qoX6_judged g v1 σ)) G) : G 0 (px_ent 2 [.ref 0, .int v1]) [] σ := by
  refine sgX6_judged_0 hG _ σ ⟨fun h1 => ⟨fun h2 => ⟨rfl, ?_⟩, fun h2 => ⟨rfl, ?_⟩⟩, fun h1 => ⟨rfl, ?_⟩⟩
  · unfold pv_choice; rw [if_neg h1, if_neg h2]
  · unfold pv_choice; rw [if_neg h1, if_pos (Classical.byContradiction h2)]
  · unfold pv_choice; rw [if_pos (Classical.byContradiction h1)]
theorem mX6_judged (g : gtX6_judged) : px_Met dM yX6_judged (Cond.code yX6_judged cX6_judged 2 (some .int) :: wdM) rmX6_judged px_vI (prX6_judged g) (poX6_judged g) :=
  px_met (Z := (cX6_judged, 2, RX6, Cond.code yX6_judged cX6_judged 2 (some .int) :: wdM, (some .int), rmX6_judged, dM)) opX6_judged (by decide) rfl rfl okX6_judged (fun As σ h => by obtain ⟨v1, rfl, h⟩ := h; exact Nat.le_of_ble_eq_true rfl) (fun As σ h G hG => by obtain ⟨v1, rfl, h⟩ := h; exact hhX6_judged g v1 σ h G hG)
abbrev gtX6_sitsOn : Type := Nat × Nat
def qrX6_sitsOn : gtX6_sitsOn → Int32 → Int32 → px_St → Prop
  | (p, q), v1, v2, _ => p < 5 ∧ q < 5 ∧ v1 = nI p ∧ v2 = nI q
def qoX6_sitsOn : gtX6_sitsOn → Int32 → Int32 → px_St → Unit → px_St → Prop
  | (p, q), _, _, σ, _, σ' => mn_in σ σ' (fun j => if 9 * p ≤ j ∧ j < 9 * p + 9 then σ.1 1 (9 * q + (j - 9 * p)) else σ.1 2 j)
def prX6_sitsOn (g : gtX6_sitsOn) : List Value → px_St → Prop := fun As σ => ∃ v1 : Int32, ∃ v2 : Int32, As = [.ref 0, .int v1, .int v2] ∧ qrX6_sitsOn g v1 v2 σ
def poX6_sitsOn (g : gtX6_sitsOn) : List Value → px_St → Unit → px_St → Prop
  | [.ref _, .int v1, .int v2], σ, r, σ' => qoX6_sitsOn g v1 v2 σ r σ'
  | _, _, _, _ => False
theorem dX6_sitsOn_0 : decode cX6_sitsOn 0 = .ok (.iconst 0, 1) := by decide +kernel
theorem dX6_sitsOn_1 : decode cX6_sitsOn 1 = .ok (.istore_n 3, 1) := by decide +kernel
theorem dX6_sitsOn_2 : decode cX6_sitsOn 2 = .ok (.iload_n 3, 1) := by decide +kernel
theorem dX6_sitsOn_3 : decode cX6_sitsOn 3 = .ok (.bipush 9, 2) := by decide +kernel
theorem dX6_sitsOn_5 : decode cX6_sitsOn 5 = .ok (.if_icmp .ge 31, 3) := by decide +kernel
theorem dX6_sitsOn_8 : decode cX6_sitsOn 8 = .ok (.aload_n 0, 1) := by decide +kernel
theorem dX6_sitsOn_9 : decode cX6_sitsOn 9 = .ok (.getfield 13, 3) := by decide +kernel
theorem dX6_sitsOn_12 : decode cX6_sitsOn 12 = .ok (.bipush 9, 2) := by decide +kernel
theorem dX6_sitsOn_14 : decode cX6_sitsOn 14 = .ok (.iload_n 1, 1) := by decide +kernel
theorem dX6_sitsOn_15 : decode cX6_sitsOn 15 = .ok (.imul, 1) := by decide +kernel
theorem dX6_sitsOn_16 : decode cX6_sitsOn 16 = .ok (.iload_n 3, 1) := by decide +kernel
theorem dX6_sitsOn_17 : decode cX6_sitsOn 17 = .ok (.iadd, 1) := by decide +kernel
theorem dX6_sitsOn_18 : decode cX6_sitsOn 18 = .ok (.aload_n 0, 1) := by decide +kernel
theorem dX6_sitsOn_19 : decode cX6_sitsOn 19 = .ok (.getfield 7, 3) := by decide +kernel
theorem dX6_sitsOn_22 : decode cX6_sitsOn 22 = .ok (.bipush 9, 2) := by decide +kernel
theorem dX6_sitsOn_24 : decode cX6_sitsOn 24 = .ok (.iload_n 2, 1) := by decide +kernel
theorem dX6_sitsOn_25 : decode cX6_sitsOn 25 = .ok (.imul, 1) := by decide +kernel
theorem dX6_sitsOn_26 : decode cX6_sitsOn 26 = .ok (.iload_n 3, 1) := by decide +kernel
theorem dX6_sitsOn_27 : decode cX6_sitsOn 27 = .ok (.iadd, 1) := by decide +kernel
theorem dX6_sitsOn_28 : decode cX6_sitsOn 28 = .ok (.iaload, 1) := by decide +kernel
theorem dX6_sitsOn_29 : decode cX6_sitsOn 29 = .ok (.iastore, 1) := by decide +kernel
theorem dX6_sitsOn_30 : decode cX6_sitsOn 30 = .ok (.iinc 3 1, 3) := by decide +kernel
theorem dX6_sitsOn_33 : decode cX6_sitsOn 33 = .ok (.goto (-31), 3) := by decide +kernel
theorem dX6_sitsOn_36 : decode cX6_sitsOn 36 = .ok (.return_, 1) := by decide +kernel
abbrev rmX6_sitsOn : Room := { frames := 0, cells := 0, slots := 0, locals := 0 }
def opX6_sitsOn (po : Unit → px_St → Prop) : List (Nat × px_Op) := [
  (0, px_push 1 (.int 0)),
  (1, px_is 2 3),
  (2, px_il 3 3),
  (3, px_push 5 (.int 9)),
  (5, px_ic 8 36 (fun x y => y ≤ x)),
  (8, px_al 9 0),
  (9, px_get dM 12 6 1),
  (12, px_push 14 (.int 9)),
  (14, px_il 15 1),
  (15, px_bin 16 (fun x y => x * y)),
  (16, px_il 17 3),
  (17, px_bin 18 (fun x y => x + y)),
  (18, px_al 19 0),
  (19, px_get dM 22 6 0),
  (22, px_push 24 (.int 9)),
  (24, px_il 25 2),
  (25, px_bin 26 (fun x y => x * y)),
  (26, px_il 27 3),
  (27, px_bin 28 (fun x y => x + y)),
  (28, px_ald dM 29 0),
  (29, px_ast dM 30 0 (fun x => x)),
  (30, px_inc 33 3 1),
  (33, px_go 2),
  (36, px_vret po)]
set_option maxRecDepth 100000 in
set_option maxHeartbeats 4000000 in
theorem okX6_sitsOn : ∀ (po : Unit → px_St → Prop) (i pc : Nat) (op : px_Op), (opX6_sitsOn po)[i]? = some (pc, op) → px_Snd (cX6_sitsOn, 4, RX6, Cond.code yX6_sitsOn cX6_sitsOn 4 none :: wdM, none, rmX6_sitsOn, dM) px_vV po pc op := by
  intro po
  unfold opX6_sitsOn
  refine px_ok_cons (ps_iconst dX6_sitsOn_0 (by decide)) ?_
  refine px_ok_cons (ps_istore_n dX6_sitsOn_1 rfl (by decide)) ?_
  refine px_ok_cons (ps_iload_n dX6_sitsOn_2 rfl) ?_
  refine px_ok_cons (ps_bipush dX6_sitsOn_3 (by decide)) ?_
  refine px_ok_cons (ps_icmp_ge dX6_sitsOn_5 (by decide)) ?_
  refine px_ok_cons (ps_aload_n dX6_sitsOn_8 rfl) ?_
  refine px_ok_cons (fgX6_13 dX6_sitsOn_9) ?_
  refine px_ok_cons (ps_bipush dX6_sitsOn_12 (by decide)) ?_
  refine px_ok_cons (ps_iload_n dX6_sitsOn_14 rfl) ?_
  refine px_ok_cons (ps_imul dX6_sitsOn_15) ?_
  refine px_ok_cons (ps_iload_n dX6_sitsOn_16 rfl) ?_
  refine px_ok_cons (ps_iadd dX6_sitsOn_17) ?_
  refine px_ok_cons (ps_aload_n dX6_sitsOn_18 rfl) ?_
  refine px_ok_cons (fgX6_7 dX6_sitsOn_19) ?_
  refine px_ok_cons (ps_bipush dX6_sitsOn_22 (by decide)) ?_
  refine px_ok_cons (ps_iload_n dX6_sitsOn_24 rfl) ?_
  refine px_ok_cons (ps_imul dX6_sitsOn_25) ?_
  refine px_ok_cons (ps_iload_n dX6_sitsOn_26 rfl) ?_
  refine px_ok_cons (ps_iadd dX6_sitsOn_27) ?_
  refine px_ok_cons (ps_iaload dX6_sitsOn_28) ?_
  refine px_ok_cons (ps_iastore dX6_sitsOn_29) ?_
  refine px_ok_cons (ps_iinc dX6_sitsOn_30 (by decide) (by decide)) ?_
  refine px_ok_cons (ps_goto dX6_sitsOn_33 (by decide)) ?_
  refine px_ok_cons (ps_return rfl dX6_sitsOn_36) ?_
  exact px_ok_nil
set_option maxRecDepth 100000 in
set_option maxHeartbeats 4000000 in
theorem sgX6_sitsOn_0 {po : Unit → px_St → Prop} {G : px_K} (hG : px_cl (opX6_sitsOn po) G) (v1 : Int32) (v2 : Int32) (σ : px_St)
    (H : G 2 [some (.ref 0), some (.int v1), some (.int v2), some (.int (0 : Int32))] [] σ) :
    G 0 (px_ent 4 [.ref 0, .int v1, .int v2]) [] σ := by
  refine hG.1 0 _ _ rfl _ _ _ ?_
  refine hG.1 1 _ _ rfl _ _ _ ?_
  show G 2 [some (.ref 0), some (.int v1), some (.int v2), some (.int (0 : Int32))] [] σ
  exact H
set_option maxRecDepth 100000 in
set_option maxHeartbeats 4000000 in
theorem sgX6_sitsOn_2 {po : Unit → px_St → Prop} {G : px_K} (hG : px_cl (opX6_sitsOn po) G) (v1 : Int32) (v2 : Int32) (v3 : Int32) (σ : px_St)
    (H : (((9 : Int32) ≤ v3) → po () σ) ∧ (¬ ((9 : Int32) ≤ v3) → vp_in (((9 : Int32) * v2) + v3) 183 ∧ vp_in (((9 : Int32) * v1) + v3) 61 ∧ G 2 [some (.ref 0), some (.int v1), some (.int v2), some (.int (v3 + 1))] [] (px_up σ 2 (((9 : Int32) * v1) + v3).toNatClampNeg (σ.1 1 (((9 : Int32) * v2) + v3).toNatClampNeg)))) :
    G 2 [some (.ref 0), some (.int v1), some (.int v2), some (.int v3)] [] σ := by
  refine hG.1 2 _ _ rfl _ _ _ ?_
  refine hG.1 3 _ _ rfl _ _ _ ?_
  refine hG.1 4 _ _ rfl _ _ _ ?_
  refine ⟨fun h1 => ?_, fun h1 => ?_⟩
  · replace H := H.1 h1
    refine hG.1 23 _ _ rfl _ _ _ ?_
    exact H
  · replace H := H.2 h1
    refine hG.1 5 _ _ rfl _ _ _ ?_
    refine hG.1 6 _ _ rfl _ _ _ ?_
    refine ⟨⟨rfl, by decide⟩, ?_⟩
    refine hG.1 7 _ _ rfl _ _ _ ?_
    refine hG.1 8 _ _ rfl _ _ _ ?_
    refine hG.1 9 _ _ rfl _ _ _ ?_
    refine hG.1 10 _ _ rfl _ _ _ ?_
    refine hG.1 11 _ _ rfl _ _ _ ?_
    refine hG.1 12 _ _ rfl _ _ _ ?_
    refine hG.1 13 _ _ rfl _ _ _ ?_
    refine ⟨⟨rfl, by decide⟩, ?_⟩
    refine hG.1 14 _ _ rfl _ _ _ ?_
    refine hG.1 15 _ _ rfl _ _ _ ?_
    refine hG.1 16 _ _ rfl _ _ _ ?_
    refine hG.1 17 _ _ rfl _ _ _ ?_
    refine hG.1 18 _ _ rfl _ _ _ ?_
    refine hG.1 19 _ _ rfl _ _ _ ?_
    refine ⟨⟨rfl, by decide⟩, H.1, ?_⟩
    replace H := H.2
    refine hG.1 20 _ _ rfl _ _ _ ?_
    refine ⟨⟨rfl, by decide⟩, H.1, ?_⟩
    replace H := H.2
    refine hG.1 21 _ _ rfl _ _ _ ?_
    show G 33 [some (.ref 0), some (.int v1), some (.int v2), some (.int (v3 + 1))] [] (px_up σ 2 (((9 : Int32) * v1) + v3).toNatClampNeg (σ.1 1 (((9 : Int32) * v2) + v3).toNatClampNeg))
    refine hG.1 22 _ _ rfl _ _ _ ?_
    exact H
set_option maxRecDepth 100000 in
set_option maxHeartbeats 4000000 in
theorem hhX6_sitsOn (g : gtX6_sitsOn) (v1 : Int32) (v2 : Int32) (σ : px_St) (h : qrX6_sitsOn g v1 v2 σ) (G : px_K) (hG : px_cl (opX6_sitsOn (qoX6_sitsOn g v1 v2 σ)) G) : G 0 (px_ent 4 [.ref 0, .int v1, .int v2]) [] σ := by
  obtain ⟨p, q⟩ := g
  obtain ⟨hp, hq, rfl, rfl⟩ := h
  refine sgX6_sitsOn_0 hG _ _ σ ?_
  have loop : ∀ n i, i + n = 9 → ∀ σ', mn_in σ σ' (fun j => if 9 * p ≤ j ∧ j < 9 * p + i then σ.1 1 (9 * q + (j - 9 * p)) else σ.1 2 j) → G 2 [some (.ref 0), some (.int (nI p)), some (.int (nI q)), some (.int (nI i))] [] σ' := by
    intro n
    induction n with
    | zero =>
      intro i hi σ' hI
      have e : i = 9 := by omega
      subst e
      exact sgX6_sitsOn_2 hG _ _ _ σ' ⟨fun _ => hI, fun z => absurd (by decide) z⟩
    | succ n ih =>
      intro i hi σ' hI
      refine sgX6_sitsOn_2 hG _ _ _ σ' ⟨fun z => absurd ((nIle 9 i rfl rfl (by omega) (by omega)).mp z) (by omega), fun _ => ?_⟩
      rw [ix9, ix9, nI_clamp (by omega), nI_clamp (by omega), nI_1, hI.1 1 (by omega)]
      refine ⟨vp_in_nI (by omega) (by decide), vp_in_nI (by omega) (by decide), ih (i + 1) (by omega) _ ((hI.up _ _).cg (fun j => ?_))⟩
      by_cases hj : j = 9 * p + i
      · rw [if_pos hj, if_pos (by omega), hj, show 9 * p + i - 9 * p = i by omega]
      · rw [if_neg hj]
        by_cases hc : 9 * p ≤ j ∧ j < 9 * p + i
        · rw [if_pos hc, if_pos (by omega)]
        · rw [if_neg hc, if_neg (by omega)]
  exact loop 9 0 (by omega) σ (mn_in.rf.cg (fun j => (if_neg (by omega)).symm))
theorem mX6_sitsOn (g : gtX6_sitsOn) : px_Met dM yX6_sitsOn (Cond.code yX6_sitsOn cX6_sitsOn 4 none :: wdM) rmX6_sitsOn px_vV (prX6_sitsOn g) (poX6_sitsOn g) :=
  px_met (Z := (cX6_sitsOn, 4, RX6, Cond.code yX6_sitsOn cX6_sitsOn 4 none :: wdM, none, rmX6_sitsOn, dM)) opX6_sitsOn (by decide) rfl rfl okX6_sitsOn (fun As σ h => by obtain ⟨v1, v2, rfl, h⟩ := h; exact Nat.le_of_ble_eq_true rfl) (fun As σ h G hG => by obtain ⟨v1, v2, rfl, h⟩ := h; exact hhX6_sitsOn g v1 v2 σ h G hG)
abbrev gtX6_common : Type := Nat × Nat
def qrX6_common : gtX6_common → Int64 → Int64 → px_St → Prop
  | (a, b), v0, v2, _ => a < 2 ^ 40 ∧ b < 2 ^ 40 ∧ v0 = lN a ∧ v2 = lN b
def qoX6_common : gtX6_common → Int64 → Int64 → px_St → Int64 → px_St → Prop
  | (a, b), _, _, σ, r, σ' => σ' = σ ∧ r = lN (Nat.gcd a b)
def prX6_common (g : gtX6_common) : List Value → px_St → Prop := fun As σ => ∃ v0 : Int64, ∃ v2 : Int64, As = [.long v0, .long v2] ∧ qrX6_common g v0 v2 σ
def poX6_common (g : gtX6_common) : List Value → px_St → Int64 → px_St → Prop
  | [.long v0, .long v2], σ, r, σ' => qoX6_common g v0 v2 σ r σ'
  | _, _, _, _ => False
theorem dX6_common_0 : decode cX6_common 0 = .ok (.lload_n 0, 1) := by decide +kernel
theorem dX6_common_1 : decode cX6_common 1 = .ok (.lstore 4, 2) := by decide +kernel
theorem dX6_common_3 : decode cX6_common 3 = .ok (.lload_n 2, 1) := by decide +kernel
theorem dX6_common_4 : decode cX6_common 4 = .ok (.lstore 6, 2) := by decide +kernel
theorem dX6_common_6 : decode cX6_common 6 = .ok (.lload 6, 2) := by decide +kernel
theorem dX6_common_8 : decode cX6_common 8 = .ok (.lconst 0, 1) := by decide +kernel
theorem dX6_common_9 : decode cX6_common 9 = .ok (.lcmp, 1) := by decide +kernel
theorem dX6_common_10 : decode cX6_common 10 = .ok (.ifCond .eq 21, 3) := by decide +kernel
theorem dX6_common_13 : decode cX6_common 13 = .ok (.lload 4, 2) := by decide +kernel
theorem dX6_common_15 : decode cX6_common 15 = .ok (.lload 6, 2) := by decide +kernel
theorem dX6_common_17 : decode cX6_common 17 = .ok (.lrem, 1) := by decide +kernel
theorem dX6_common_18 : decode cX6_common 18 = .ok (.lstore 8, 2) := by decide +kernel
theorem dX6_common_20 : decode cX6_common 20 = .ok (.lload 6, 2) := by decide +kernel
theorem dX6_common_22 : decode cX6_common 22 = .ok (.lstore 4, 2) := by decide +kernel
theorem dX6_common_24 : decode cX6_common 24 = .ok (.lload 8, 2) := by decide +kernel
theorem dX6_common_26 : decode cX6_common 26 = .ok (.lstore 6, 2) := by decide +kernel
theorem dX6_common_28 : decode cX6_common 28 = .ok (.goto (-22), 3) := by decide +kernel
theorem dX6_common_31 : decode cX6_common 31 = .ok (.lload 4, 2) := by decide +kernel
theorem dX6_common_33 : decode cX6_common 33 = .ok (.lreturn, 1) := by decide +kernel
abbrev rmX6_common : Room := { frames := 0, cells := 0, slots := 0, locals := 0 }
def opX6_common (po : Int64 → px_St → Prop) : List (Nat × px_Op) := [
  (0, px_ll 1 0),
  (1, px_ls 3 4),
  (3, px_ll 4 2),
  (4, px_ls 6 6),
  (6, px_ll 8 6),
  (8, px_push 9 (.long 0)),
  (9, px_lcmp 10),
  (10, px_if 13 31 (fun x => x = 0)),
  (13, px_ll 15 4),
  (15, px_ll 17 6),
  (17, px_divL 18 (fun x y => x - x / y * y)),
  (18, px_ls 20 8),
  (20, px_ll 22 6),
  (22, px_ls 24 4),
  (24, px_ll 26 8),
  (26, px_ls 28 6),
  (28, px_go 6),
  (31, px_ll 33 4),
  (33, px_lret po)]
set_option maxRecDepth 100000 in
set_option maxHeartbeats 4000000 in
theorem okX6_common : ∀ (po : Int64 → px_St → Prop) (i pc : Nat) (op : px_Op), (opX6_common po)[i]? = some (pc, op) → px_Snd (cX6_common, 10, RX6, Cond.code yX6_common cX6_common 10 (some .long) :: wdM, (some .long), rmX6_common, dM) px_vL po pc op := by
  intro po
  unfold opX6_common
  refine px_ok_cons (ps_lload_n dX6_common_0 rfl) ?_
  refine px_ok_cons (ps_lstore dX6_common_1 (by decide)) ?_
  refine px_ok_cons (ps_lload_n dX6_common_3 rfl) ?_
  refine px_ok_cons (ps_lstore dX6_common_4 (by decide)) ?_
  refine px_ok_cons (ps_lload dX6_common_6) ?_
  refine px_ok_cons (ps_lconst dX6_common_8 (by decide)) ?_
  refine px_ok_cons (ps_lcmp dX6_common_9) ?_
  refine px_ok_cons (ps_if_eq dX6_common_10 (by decide)) ?_
  refine px_ok_cons (ps_lload dX6_common_13) ?_
  refine px_ok_cons (ps_lload dX6_common_15) ?_
  refine px_ok_cons (ps_lrem dX6_common_17) ?_
  refine px_ok_cons (ps_lstore dX6_common_18 (by decide)) ?_
  refine px_ok_cons (ps_lload dX6_common_20) ?_
  refine px_ok_cons (ps_lstore dX6_common_22 (by decide)) ?_
  refine px_ok_cons (ps_lload dX6_common_24) ?_
  refine px_ok_cons (ps_lstore dX6_common_26 (by decide)) ?_
  refine px_ok_cons (ps_goto dX6_common_28 (by decide)) ?_
  refine px_ok_cons (ps_lload dX6_common_31) ?_
  refine px_ok_cons (ps_lreturn rfl dX6_common_33) ?_
  exact px_ok_nil
set_option maxRecDepth 100000 in
set_option maxHeartbeats 4000000 in
theorem sgX6_common_0 {po : Int64 → px_St → Prop} {G : px_K} (hG : px_cl (opX6_common po) G) (v0 : Int64) (v2 : Int64) (σ : px_St)
    (H : G 6 [some (.long v0), none, some (.long v2), none, some (.long v0), none, some (.long v2), none, none, none] [] σ) :
    G 0 (px_ent 10 [.long v0, .long v2]) [] σ := by
  refine hG.1 0 _ _ rfl _ _ _ ?_
  refine hG.1 1 _ _ rfl _ _ _ ?_
  show G 3 [some (.long v0), none, some (.long v2), none, some (.long v0), none, none, none, none, none] [] σ
  refine hG.1 2 _ _ rfl _ _ _ ?_
  refine hG.1 3 _ _ rfl _ _ _ ?_
  show G 6 [some (.long v0), none, some (.long v2), none, some (.long v0), none, some (.long v2), none, none, none] [] σ
  exact H
set_option maxRecDepth 100000 in
set_option maxHeartbeats 4000000 in
theorem sgX6_common_6 {po : Int64 → px_St → Prop} {G : px_K} (hG : px_cl (opX6_common po) G) (v0 : Int64) (v2 : Int64) (v4 : Int64) (v6 : Int64) (σ : px_St)
    (H : (((lg_cmp v6 (0 : Int64)) = 0) → po v4 σ) ∧ (¬ ((lg_cmp v6 (0 : Int64)) = 0) → ¬ v6 = 0 ∧ G 6 [some (.long v0), none, some (.long v2), none, some (.long v6), none, some (.long (v4 - v4 / v6 * v6)), none, none, none] [] σ)) :
    G 6 [some (.long v0), none, some (.long v2), none, some (.long v4), none, some (.long v6), none, none, none] [] σ := by
  refine hG.1 4 _ _ rfl _ _ _ ?_
  refine hG.1 5 _ _ rfl _ _ _ ?_
  refine hG.1 6 _ _ rfl _ _ _ ?_
  refine hG.1 7 _ _ rfl _ _ _ ?_
  refine ⟨fun h1 => ?_, fun h1 => ?_⟩
  · replace H := H.1 h1
    refine hG.1 17 _ _ rfl _ _ _ ?_
    refine hG.1 18 _ _ rfl _ _ _ ?_
    exact H
  · replace H := H.2 h1
    refine hG.1 8 _ _ rfl _ _ _ ?_
    refine hG.1 9 _ _ rfl _ _ _ ?_
    refine hG.1 10 _ _ rfl _ _ _ ?_
    refine ⟨H.1, ?_⟩
    replace H := H.2
    refine hG.1 11 _ _ rfl _ _ _ ?_
    show G 20 [some (.long v0), none, some (.long v2), none, some (.long v4), none, some (.long v6), none, some (.long (v4 - v4 / v6 * v6)), none] [] σ
    refine hG.1 12 _ _ rfl _ _ _ ?_
    refine hG.1 13 _ _ rfl _ _ _ ?_
    show G 24 [some (.long v0), none, some (.long v2), none, some (.long v6), none, some (.long v6), none, some (.long (v4 - v4 / v6 * v6)), none] [] σ
    refine hG.1 14 _ _ rfl _ _ _ ?_
    refine hG.1 15 _ _ rfl _ _ _ ?_
    show G 28 [some (.long v0), none, some (.long v2), none, some (.long v6), none, some (.long (v4 - v4 / v6 * v6)), none, some (.long (v4 - v4 / v6 * v6)), none] [] σ
    refine hG.1 16 _ _ rfl _ _ _ ?_
    refine hG.2 6 [some (.long v0), none, some (.long v2), none, some (.long v6), none, some (.long (v4 - v4 / v6 * v6)), none, none, none] _ _ _ ⟨rfl, rfl, rfl, rfl, trivial⟩ ?_
    exact H
set_option maxRecDepth 100000 in
set_option maxHeartbeats 4000000 in
theorem hhX6_common (g : gtX6_common) (v0 : Int64) (v2 : Int64) (σ : px_St) (h : qrX6_common g v0 v2 σ) (G : px_K) (hG : px_cl (opX6_common (qoX6_common g v0 v2 σ)) G) : G 0 (px_ent 10 [.long v0, .long v2]) [] σ := by
  obtain ⟨a, b⟩ := g
  obtain ⟨ha, hb, rfl, rfl⟩ := h
  refine sgX6_common_0 hG _ _ σ ?_
  have loop : ∀ n x y, y < n → x < 2 ^ 40 → y < 2 ^ 40 → Nat.gcd x y = Nat.gcd a b → G 6 [some (.long (lN a)), none, some (.long (lN b)), none, some (.long (lN x)), none, some (.long (lN y)), none, none, none] [] σ := by
    intro n
    induction n with
    | zero => intro x y h; exact absurd h (Nat.not_lt_zero _)
    | succ n ih =>
      intro x y hy hx hy2 hg
      refine sgX6_common_6 hG _ _ _ _ σ ?_
      rw [lgc0, lN_z (by omega)]
      refine ⟨fun e => ⟨rfl, ?_⟩, fun e => ⟨e, ?_⟩⟩
      · rw [e, Nat.gcd_zero_right] at hg
        rw [hg]
      · have hyp : 0 < y := by omega
        have hm : x % y < y := Nat.mod_lt _ hyp
        rw [pk_lRem (by omega) hyp (by omega)]
        refine ih y (x % y) (by omega) hy2 (by omega) ?_
        rw [Nat.gcd_comm y (x % y), ← Nat.gcd_rec, Nat.gcd_comm]
        exact hg
  exact loop (b + 1) a b (by omega) ha hb rfl
theorem mX6_common (g : gtX6_common) : px_Met dM yX6_common (Cond.code yX6_common cX6_common 10 (some .long) :: wdM) rmX6_common px_vL (prX6_common g) (poX6_common g) :=
  px_met (Z := (cX6_common, 10, RX6, Cond.code yX6_common cX6_common 10 (some .long) :: wdM, (some .long), rmX6_common, dM)) opX6_common (by decide) rfl rfl okX6_common (fun As σ h => by obtain ⟨v0, v2, rfl, h⟩ := h; exact Nat.le_of_ble_eq_true rfl) (fun As σ h G hG => by obtain ⟨v0, v2, rfl, h⟩ := h; exact hhX6_common g v0 v2 σ h G hG)
abbrev gtX6_lowest : Type := Nat × Nat
def qrX6_lowest : gtX6_lowest → Int64 → Int64 → Int32 → px_St → Prop
  | (t, b), v0, v2, _, _ => t < 2 ^ 40 ∧ 0 < b ∧ b < 2 ^ 40 ∧ v0 = lN t ∧ v2 = lN b
def qoX6_lowest : gtX6_lowest → Int64 → Int64 → Int32 → px_St → Int64 → px_St → Prop
  | (t, b), _, _, w, σ, r, σ' => σ' = σ ∧ r = pv_part w t b
def prX6_lowest (g : gtX6_lowest) : List Value → px_St → Prop := fun As σ => ∃ v0 : Int64, ∃ v2 : Int64, ∃ v4 : Int32, As = [.long v0, .long v2, .int v4] ∧ qrX6_lowest g v0 v2 v4 σ
def poX6_lowest (g : gtX6_lowest) : List Value → px_St → Int64 → px_St → Prop
  | [.long v0, .long v2, .int v4], σ, r, σ' => qoX6_lowest g v0 v2 v4 σ r σ'
  | _, _, _, _ => False
theorem dX6_lowest_0 : decode cX6_lowest 0 = .ok (.lload_n 2, 1) := by decide +kernel
theorem dX6_lowest_1 : decode cX6_lowest 1 = .ok (.lload_n 0, 1) := by decide +kernel
theorem dX6_lowest_2 : decode cX6_lowest 2 = .ok (.invokestatic 238, 3) := by decide +kernel
theorem dX6_lowest_5 : decode cX6_lowest 5 = .ok (.lstore 5, 2) := by decide +kernel
theorem dX6_lowest_7 : decode cX6_lowest 7 = .ok (.iload 4, 2) := by decide +kernel
theorem dX6_lowest_9 : decode cX6_lowest 9 = .ok (.ifCond .ne 10, 3) := by decide +kernel
theorem dX6_lowest_12 : decode cX6_lowest 12 = .ok (.lload_n 0, 1) := by decide +kernel
theorem dX6_lowest_13 : decode cX6_lowest 13 = .ok (.lload 5, 2) := by decide +kernel
theorem dX6_lowest_15 : decode cX6_lowest 15 = .ok (.ldiv, 1) := by decide +kernel
theorem dX6_lowest_16 : decode cX6_lowest 16 = .ok (.goto 7, 3) := by decide +kernel
theorem dX6_lowest_19 : decode cX6_lowest 19 = .ok (.lload_n 2, 1) := by decide +kernel
theorem dX6_lowest_20 : decode cX6_lowest 20 = .ok (.lload 5, 2) := by decide +kernel
theorem dX6_lowest_22 : decode cX6_lowest 22 = .ok (.ldiv, 1) := by decide +kernel
theorem dX6_lowest_23 : decode cX6_lowest 23 = .ok (.lreturn, 1) := by decide +kernel
abbrev rmX6_lowest : Room := { frames := 1, cells := 0, slots := 0, locals := 29 }
def opX6_lowest (po : Int64 → px_St → Prop) : List (Nat × px_Op) := [
  (0, px_ll 1 2),
  (1, px_ll 2 0),
  (2, px_callS 5 2 px_vL prX6_common poX6_common),
  (5, px_ls 7 5),
  (7, px_il 9 4),
  (9, px_if 12 19 (fun x => ¬ x = 0)),
  (12, px_ll 13 0),
  (13, px_ll 15 5),
  (15, px_divL 16 (fun x y => x / y)),
  (16, px_go 23),
  (19, px_ll 20 2),
  (20, px_ll 22 5),
  (22, px_divL 23 (fun x y => x / y)),
  (23, px_lret po)]
set_option maxRecDepth 100000 in
set_option maxHeartbeats 4000000 in
theorem okX6_lowest : ∀ (po : Int64 → px_St → Prop) (i pc : Nat) (op : px_Op), (opX6_lowest po)[i]? = some (pc, op) → px_Snd (cX6_lowest, 7, RX6, Cond.code yX6_lowest cX6_lowest 7 (some .long) :: wdM, (some .long), rmX6_lowest, dM) px_vL po pc op := by
  intro po
  unfold opX6_lowest
  refine px_ok_cons (ps_lload_n dX6_lowest_0 rfl) ?_
  refine px_ok_cons (ps_lload_n dX6_lowest_1 rfl) ?_
  refine px_ok_cons (ps_callS mX6_common (fun _ _ => rfl) (fun _ _ ht => px_cwS wgM (wdM_5_in _ (List.mem_of_getElem? (i := 26) rfl)) (wdM_5_in _ (List.mem_of_getElem? (i := 27) rfl)) (wdM_0_in _ (List.mem_of_getElem? (i := 22) rfl)) (wdM_5_in _ (List.mem_of_getElem? (i := 24) rfl)) (by decide +kernel) rfl rfl (by decide) ht) dX6_lowest_2) ?_
  refine px_ok_cons (ps_lstore dX6_lowest_5 (by decide)) ?_
  refine px_ok_cons (ps_iload dX6_lowest_7) ?_
  refine px_ok_cons (ps_if_ne dX6_lowest_9 (by decide)) ?_
  refine px_ok_cons (ps_lload_n dX6_lowest_12 rfl) ?_
  refine px_ok_cons (ps_lload dX6_lowest_13) ?_
  refine px_ok_cons (ps_ldiv dX6_lowest_15) ?_
  refine px_ok_cons (ps_goto dX6_lowest_16 (by decide)) ?_
  refine px_ok_cons (ps_lload_n dX6_lowest_19 rfl) ?_
  refine px_ok_cons (ps_lload dX6_lowest_20) ?_
  refine px_ok_cons (ps_ldiv dX6_lowest_22) ?_
  refine px_ok_cons (ps_lreturn rfl dX6_lowest_23) ?_
  exact px_ok_nil
set_option maxRecDepth 100000 in
set_option maxHeartbeats 4000000 in
theorem sgX6_lowest_0 {po : Int64 → px_St → Prop} {G : px_K} (hG : px_cl (opX6_lowest po) G) (v0 : Int64) (v2 : Int64) (v4 : Int32) (σ : px_St)
    (H : ∃ g3 : gtX6_common, qrX6_common g3 v2 v0 σ ∧ ∀ (r1 : Int64) (σ2 : px_St), qoX6_common g3 v2 v0 σ r1 σ2 → ((¬ v4 = 0) → ¬ r1 = 0 ∧ po (v2 / r1) σ2) ∧ (¬ (¬ v4 = 0) → ¬ r1 = 0 ∧ po (v0 / r1) σ2)) :
    G 0 (px_ent 7 [.long v0, .long v2, .int v4]) [] σ := by
  refine hG.1 0 _ _ rfl _ _ _ ?_
  refine hG.1 1 _ _ rfl _ _ _ ?_
  refine hG.1 2 _ _ rfl _ _ _ ?_
  obtain ⟨g3, H⟩ := H
  refine ⟨Nat.le_of_ble_eq_true rfl, Nat.le_of_ble_eq_true rfl, g3, ⟨_, _, rfl, H.1⟩, fun r1 σ2 hp4 => ?_⟩
  replace H := H.2 r1 σ2 hp4
  refine hG.1 3 _ _ rfl _ _ _ ?_
  show G 7 [some (.long v0), none, some (.long v2), none, some (.int v4), some (.long r1), none] [] σ2
  refine hG.1 4 _ _ rfl _ _ _ ?_
  refine hG.1 5 _ _ rfl _ _ _ ?_
  refine ⟨fun h5 => ?_, fun h5 => ?_⟩
  · replace H := H.1 h5
    refine hG.1 10 _ _ rfl _ _ _ ?_
    refine hG.1 11 _ _ rfl _ _ _ ?_
    refine hG.1 12 _ _ rfl _ _ _ ?_
    refine ⟨H.1, ?_⟩
    replace H := H.2
    refine hG.1 13 _ _ rfl _ _ _ ?_
    exact H
  · replace H := H.2 h5
    refine hG.1 6 _ _ rfl _ _ _ ?_
    refine hG.1 7 _ _ rfl _ _ _ ?_
    refine hG.1 8 _ _ rfl _ _ _ ?_
    refine ⟨H.1, ?_⟩
    replace H := H.2
    refine hG.1 9 _ _ rfl _ _ _ ?_
    refine hG.1 13 _ _ rfl _ _ _ ?_
    exact H
set_option maxRecDepth 100000 in
set_option maxHeartbeats 4000000 in
theorem hhX6_lowest (g : gtX6_lowest) (v0 : Int64) (v2 : Int64) (v4 : Int32) (σ : px_St) (h : qrX6_lowest g v0 v2 v4 σ) (G : px_K) (hG : px_cl (opX6_lowest (qoX6_lowest g v0 v2 v4 σ)) G) : G 0 (px_ent 7 [.long v0, .long v2, .int v4]) [] σ := by
  obtain ⟨t, b⟩ := g
  obtain ⟨ht, hb0, hb, rfl, rfl⟩ := h
  have hgp : 0 < Nat.gcd b t := Nat.gcd_pos_of_pos_left _ hb0
  have hgl : Nat.gcd b t ≤ b := Nat.gcd_le_left _ hb0
  refine sgX6_lowest_0 hG _ _ _ σ ⟨(b, t), ⟨hb, ht, rfl, rfl⟩, fun r σ2 hq => ?_⟩
  obtain ⟨rfl, rfl⟩ := hq
  have hne : ¬ lN (Nat.gcd b t) = 0 := fun z => absurd ((lN_z (by omega)).mp z) (by omega)
  refine ⟨fun w0 => ⟨hne, rfl, ?_⟩, fun w0 => ⟨hne, rfl, ?_⟩⟩
  · unfold pv_part
    rw [if_neg w0, pk_lDiv (by omega) hgp (by omega)]
  · unfold pv_part
    rw [if_pos (Classical.byContradiction w0), pk_lDiv (by omega) hgp (by omega)]
theorem mX6_lowest (g : gtX6_lowest) : px_Met dM yX6_lowest (Cond.code yX6_lowest cX6_lowest 7 (some .long) :: wdM) rmX6_lowest px_vL (prX6_lowest g) (poX6_lowest g) :=
  px_met (Z := (cX6_lowest, 7, RX6, Cond.code yX6_lowest cX6_lowest 7 (some .long) :: wdM, (some .long), rmX6_lowest, dM)) opX6_lowest (by decide) rfl rfl okX6_lowest (fun As σ h => by obtain ⟨v0, v2, v4, rfl, h⟩ := h; exact Nat.le_of_ble_eq_true rfl) (fun As σ h G hG => by obtain ⟨v0, v2, v4, rfl, h⟩ := h; exact hhX6_lowest g v0 v2 v4 σ h G hG)
abbrev gtX6_copies : Type := Nat × Nat
def qrX6_copies : gtX6_copies → Int32 → Int32 → px_St → Prop
  | (a, b), v1, v2, _ => a + 61 ≤ 183 ∧ b + 61 ≤ 183 ∧ (a + 61 ≤ b ∨ b + 61 ≤ a) ∧ v1 = nI a ∧ v2 = nI b
def qoX6_copies : gtX6_copies → Int32 → Int32 → px_St → Unit → px_St → Prop
  | (a, b), _, _, σ, _, σ' => (∀ k, k ≠ 1 → σ'.1 k = σ.1 k) ∧ (∀ j, j < 61 → σ'.1 1 (a + j) = σ.1 1 (b + j)) ∧ ∀ j, j < a ∨ a + 61 ≤ j → σ'.1 1 j = σ.1 1 j
def prX6_copies (g : gtX6_copies) : List Value → px_St → Prop := fun As σ => ∃ v1 : Int32, ∃ v2 : Int32, As = [.ref 0, .int v1, .int v2] ∧ qrX6_copies g v1 v2 σ
def poX6_copies (g : gtX6_copies) : List Value → px_St → Unit → px_St → Prop
  | [.ref _, .int v1, .int v2], σ, r, σ' => qoX6_copies g v1 v2 σ r σ'
  | _, _, _, _ => False
theorem dX6_copies_0 : decode cX6_copies 0 = .ok (.iconst 0, 1) := by decide +kernel
theorem dX6_copies_1 : decode cX6_copies 1 = .ok (.istore_n 3, 1) := by decide +kernel
theorem dX6_copies_2 : decode cX6_copies 2 = .ok (.iload_n 3, 1) := by decide +kernel
theorem dX6_copies_3 : decode cX6_copies 3 = .ok (.bipush 61, 2) := by decide +kernel
theorem dX6_copies_5 : decode cX6_copies 5 = .ok (.if_icmp .ge 25, 3) := by decide +kernel
theorem dX6_copies_8 : decode cX6_copies 8 = .ok (.aload_n 0, 1) := by decide +kernel
theorem dX6_copies_9 : decode cX6_copies 9 = .ok (.getfield 7, 3) := by decide +kernel
theorem dX6_copies_12 : decode cX6_copies 12 = .ok (.iload_n 1, 1) := by decide +kernel
theorem dX6_copies_13 : decode cX6_copies 13 = .ok (.iload_n 3, 1) := by decide +kernel
theorem dX6_copies_14 : decode cX6_copies 14 = .ok (.iadd, 1) := by decide +kernel
theorem dX6_copies_15 : decode cX6_copies 15 = .ok (.aload_n 0, 1) := by decide +kernel
theorem dX6_copies_16 : decode cX6_copies 16 = .ok (.getfield 7, 3) := by decide +kernel
theorem dX6_copies_19 : decode cX6_copies 19 = .ok (.iload_n 2, 1) := by decide +kernel
theorem dX6_copies_20 : decode cX6_copies 20 = .ok (.iload_n 3, 1) := by decide +kernel
theorem dX6_copies_21 : decode cX6_copies 21 = .ok (.iadd, 1) := by decide +kernel
theorem dX6_copies_22 : decode cX6_copies 22 = .ok (.iaload, 1) := by decide +kernel
theorem dX6_copies_23 : decode cX6_copies 23 = .ok (.iastore, 1) := by decide +kernel
theorem dX6_copies_24 : decode cX6_copies 24 = .ok (.iinc 3 1, 3) := by decide +kernel
theorem dX6_copies_27 : decode cX6_copies 27 = .ok (.goto (-25), 3) := by decide +kernel
theorem dX6_copies_30 : decode cX6_copies 30 = .ok (.return_, 1) := by decide +kernel
abbrev rmX6_copies : Room := { frames := 0, cells := 0, slots := 0, locals := 0 }
def opX6_copies (po : Unit → px_St → Prop) : List (Nat × px_Op) := [
  (0, px_push 1 (.int 0)),
  (1, px_is 2 3),
  (2, px_il 3 3),
  (3, px_push 5 (.int 61)),
  (5, px_ic 8 30 (fun x y => y ≤ x)),
  (8, px_al 9 0),
  (9, px_get dM 12 6 0),
  (12, px_il 13 1),
  (13, px_il 14 3),
  (14, px_bin 15 (fun x y => x + y)),
  (15, px_al 16 0),
  (16, px_get dM 19 6 0),
  (19, px_il 20 2),
  (20, px_il 21 3),
  (21, px_bin 22 (fun x y => x + y)),
  (22, px_ald dM 23 0),
  (23, px_ast dM 24 0 (fun x => x)),
  (24, px_inc 27 3 1),
  (27, px_go 2),
  (30, px_vret po)]
set_option maxRecDepth 100000 in
set_option maxHeartbeats 4000000 in
theorem okX6_copies : ∀ (po : Unit → px_St → Prop) (i pc : Nat) (op : px_Op), (opX6_copies po)[i]? = some (pc, op) → px_Snd (cX6_copies, 4, RX6, Cond.code yX6_copies cX6_copies 4 none :: wdM, none, rmX6_copies, dM) px_vV po pc op := by
  intro po
  unfold opX6_copies
  refine px_ok_cons (ps_iconst dX6_copies_0 (by decide)) ?_
  refine px_ok_cons (ps_istore_n dX6_copies_1 rfl (by decide)) ?_
  refine px_ok_cons (ps_iload_n dX6_copies_2 rfl) ?_
  refine px_ok_cons (ps_bipush dX6_copies_3 (by decide)) ?_
  refine px_ok_cons (ps_icmp_ge dX6_copies_5 (by decide)) ?_
  refine px_ok_cons (ps_aload_n dX6_copies_8 rfl) ?_
  refine px_ok_cons (fgX6_7 dX6_copies_9) ?_
  refine px_ok_cons (ps_iload_n dX6_copies_12 rfl) ?_
  refine px_ok_cons (ps_iload_n dX6_copies_13 rfl) ?_
  refine px_ok_cons (ps_iadd dX6_copies_14) ?_
  refine px_ok_cons (ps_aload_n dX6_copies_15 rfl) ?_
  refine px_ok_cons (fgX6_7 dX6_copies_16) ?_
  refine px_ok_cons (ps_iload_n dX6_copies_19 rfl) ?_
  refine px_ok_cons (ps_iload_n dX6_copies_20 rfl) ?_
  refine px_ok_cons (ps_iadd dX6_copies_21) ?_
  refine px_ok_cons (ps_iaload dX6_copies_22) ?_
  refine px_ok_cons (ps_iastore dX6_copies_23) ?_
  refine px_ok_cons (ps_iinc dX6_copies_24 (by decide) (by decide)) ?_
  refine px_ok_cons (ps_goto dX6_copies_27 (by decide)) ?_
  refine px_ok_cons (ps_return rfl dX6_copies_30) ?_
  exact px_ok_nil
set_option maxRecDepth 100000 in
set_option maxHeartbeats 4000000 in
theorem sgX6_copies_0 {po : Unit → px_St → Prop} {G : px_K} (hG : px_cl (opX6_copies po) G) (v1 : Int32) (v2 : Int32) (σ : px_St)
    (H : G 2 [some (.ref 0), some (.int v1), some (.int v2), some (.int (0 : Int32))] [] σ) :
    G 0 (px_ent 4 [.ref 0, .int v1, .int v2]) [] σ := by
  refine hG.1 0 _ _ rfl _ _ _ ?_
  refine hG.1 1 _ _ rfl _ _ _ ?_
  show G 2 [some (.ref 0), some (.int v1), some (.int v2), some (.int (0 : Int32))] [] σ
  exact H
set_option maxRecDepth 100000 in
set_option maxHeartbeats 4000000 in
theorem sgX6_copies_2 {po : Unit → px_St → Prop} {G : px_K} (hG : px_cl (opX6_copies po) G) (v1 : Int32) (v2 : Int32) (v3 : Int32) (σ : px_St)
    (H : (((61 : Int32) ≤ v3) → po () σ) ∧ (¬ ((61 : Int32) ≤ v3) → vp_in (v2 + v3) 183 ∧ vp_in (v1 + v3) 183 ∧ G 2 [some (.ref 0), some (.int v1), some (.int v2), some (.int (v3 + 1))] [] (px_up σ 1 (v1 + v3).toNatClampNeg (σ.1 1 (v2 + v3).toNatClampNeg)))) :
    G 2 [some (.ref 0), some (.int v1), some (.int v2), some (.int v3)] [] σ := by
  refine hG.1 2 _ _ rfl _ _ _ ?_
  refine hG.1 3 _ _ rfl _ _ _ ?_
  refine hG.1 4 _ _ rfl _ _ _ ?_
  refine ⟨fun h1 => ?_, fun h1 => ?_⟩
  · replace H := H.1 h1
    refine hG.1 19 _ _ rfl _ _ _ ?_
    exact H
  · replace H := H.2 h1
    refine hG.1 5 _ _ rfl _ _ _ ?_
    refine hG.1 6 _ _ rfl _ _ _ ?_
    refine ⟨⟨rfl, by decide⟩, ?_⟩
    refine hG.1 7 _ _ rfl _ _ _ ?_
    refine hG.1 8 _ _ rfl _ _ _ ?_
    refine hG.1 9 _ _ rfl _ _ _ ?_
    refine hG.1 10 _ _ rfl _ _ _ ?_
    refine hG.1 11 _ _ rfl _ _ _ ?_
    refine ⟨⟨rfl, by decide⟩, ?_⟩
    refine hG.1 12 _ _ rfl _ _ _ ?_
    refine hG.1 13 _ _ rfl _ _ _ ?_
    refine hG.1 14 _ _ rfl _ _ _ ?_
    refine hG.1 15 _ _ rfl _ _ _ ?_
    refine ⟨⟨rfl, by decide⟩, H.1, ?_⟩
    replace H := H.2
    refine hG.1 16 _ _ rfl _ _ _ ?_
    refine ⟨⟨rfl, by decide⟩, H.1, ?_⟩
    replace H := H.2
    refine hG.1 17 _ _ rfl _ _ _ ?_
    show G 27 [some (.ref 0), some (.int v1), some (.int v2), some (.int (v3 + 1))] [] (px_up σ 1 (v1 + v3).toNatClampNeg (σ.1 1 (v2 + v3).toNatClampNeg))
    refine hG.1 18 _ _ rfl _ _ _ ?_
    exact H
set_option maxRecDepth 100000 in
set_option maxHeartbeats 4000000 in
theorem hhX6_copies (g : gtX6_copies) (v1 : Int32) (v2 : Int32) (σ : px_St) (h : qrX6_copies g v1 v2 σ) (G : px_K) (hG : px_cl (opX6_copies (qoX6_copies g v1 v2 σ)) G) : G 0 (px_ent 4 [.ref 0, .int v1, .int v2]) [] σ := by
  obtain ⟨a, b⟩ := g
  obtain ⟨ha, hb, hab, rfl, rfl⟩ := h
  refine sgX6_copies_0 hG _ _ σ ?_
  have loop : ∀ n i, i + n = 61 → ∀ σ', (∀ k, k ≠ 1 → σ'.1 k = σ.1 k) → (∀ j, j < i → σ'.1 1 (a + j) = σ.1 1 (b + j)) → (∀ j, j < a ∨ a + i ≤ j → σ'.1 1 j = σ.1 1 j) → G 2 [some (.ref 0), some (.int (nI a)), some (.int (nI b)), some (.int (nI i))] [] σ' := by
    intro n
    induction n with
    | zero =>
      intro i hi σ' h1 h2 h3
      exact sgX6_copies_2 hG _ _ _ σ' ⟨fun _ => ⟨h1, fun j hj => h2 j (by omega), fun j hj => h3 j (by omega)⟩, fun z => absurd ((nIle 61 i rfl rfl (by omega) (by omega)).mpr (by omega)) z⟩
    | succ n ih =>
      intro i hi σ' h1 h2 h3
      refine sgX6_copies_2 hG _ _ _ σ' ⟨fun z => absurd ((nIle 61 i rfl rfl (by omega) (by omega)).mp z) (by omega), fun _ => ?_⟩
      rw [nI_add, nI_add, nI_clamp (by omega), nI_clamp (by omega), nI_1, h3 (b + i) (by omega)]
      refine ⟨vp_in_nI (by omega) (by decide), vp_in_nI (by omega) (by decide), ih (i + 1) (by omega) _ (fun k hk => by rw [px_up_n hk]; exact h1 k hk) (fun j hj => ?_) (fun j hj => ?_)⟩
      · rw [px_up_at]
        by_cases hji : j = i
        · rw [if_pos ⟨rfl, by omega⟩, hji]
        · rw [if_neg (by omega)]; exact h2 j (by omega)
      · rw [px_up_at, if_neg (by omega)]; exact h3 j (by omega)
  exact loop 61 0 (by omega) σ (fun _ _ => rfl) (fun j hj => by omega) (fun _ _ => rfl)
theorem mX6_copies (g : gtX6_copies) : px_Met dM yX6_copies (Cond.code yX6_copies cX6_copies 4 none :: wdM) rmX6_copies px_vV (prX6_copies g) (poX6_copies g) :=
  px_met (Z := (cX6_copies, 4, RX6, Cond.code yX6_copies cX6_copies 4 none :: wdM, none, rmX6_copies, dM)) opX6_copies (by decide) rfl rfl okX6_copies (fun As σ h => by obtain ⟨v1, v2, rfl, h⟩ := h; exact Nat.le_of_ble_eq_true rfl) (fun As σ h G hG => by obtain ⟨v1, v2, rfl, h⟩ := h; exact hhX6_copies g v1 v2 σ h G hG)
abbrev gtX6_isSoWith : Type := pv_V × pv_S × Nat
def qrX6_isSoWith : gtX6_isSoWith → Int32 → Int32 → px_St → Prop
  | (W, S, j), v1, v2, σ => j < 48 ∧ v1 = nI j ∧ mv_is (fun i => if i = j then v2 else σ.1 1 i) W ∧ pv_ok W ∧ W.2.2.1 < 1900 ∧ ms_is (σ.1 1) S ∧ sn_ok S
def qoX6_isSoWith : gtX6_isSoWith → Int32 → Int32 → px_St → Int32 → px_St → Prop
  | (W, S, _), _, _, σ, r, σ' => px_b (pv_asSeen W S) r ∧ (∀ d, d < 21 → σ'.1 6 d = pv_said (pv_run W d)) ∧ ∀ k, k ≠ 2 → k ≠ 6 → σ'.1 k = σ.1 k
theorem ix49 (i : Nat) : (49 : Int32) + (2 : Int32) * nI i = nI (49 + 2 * i) := by
  rw [show (2 : Int32) = nI 2 from rfl, show (49 : Int32) = nI 49 from rfl, pk_mul, nI_add]
def prX6_isSoWith (g : gtX6_isSoWith) : List Value → px_St → Prop := fun As σ => ∃ v1 : Int32, ∃ v2 : Int32, As = [.ref 0, .int v1, .int v2] ∧ qrX6_isSoWith g v1 v2 σ
def poX6_isSoWith (g : gtX6_isSoWith) : List Value → px_St → Int32 → px_St → Prop
  | [.ref _, .int v1, .int v2], σ, r, σ' => qoX6_isSoWith g v1 v2 σ r σ'
  | _, _, _, _ => False
theorem dX6_isSoWith_0 : decode cX6_isSoWith 0 = .ok (.aload_n 0, 1) := by decide +kernel
theorem dX6_isSoWith_1 : decode cX6_isSoWith 1 = .ok (.invokevirtual 163, 3) := by decide +kernel
theorem dX6_isSoWith_4 : decode cX6_isSoWith 4 = .ok (.aload_n 0, 1) := by decide +kernel
theorem dX6_isSoWith_5 : decode cX6_isSoWith 5 = .ok (.getfield 13, 3) := by decide +kernel
theorem dX6_isSoWith_8 : decode cX6_isSoWith 8 = .ok (.iload_n 1, 1) := by decide +kernel
theorem dX6_isSoWith_9 : decode cX6_isSoWith 9 = .ok (.iload_n 2, 1) := by decide +kernel
theorem dX6_isSoWith_10 : decode cX6_isSoWith 10 = .ok (.iastore, 1) := by decide +kernel
theorem dX6_isSoWith_11 : decode cX6_isSoWith 11 = .ok (.iconst 0, 1) := by decide +kernel
theorem dX6_isSoWith_12 : decode cX6_isSoWith 12 = .ok (.istore_n 3, 1) := by decide +kernel
theorem dX6_isSoWith_13 : decode cX6_isSoWith 13 = .ok (.iload_n 3, 1) := by decide +kernel
theorem dX6_isSoWith_14 : decode cX6_isSoWith 14 = .ok (.bipush 20, 2) := by decide +kernel
theorem dX6_isSoWith_16 : decode cX6_isSoWith 16 = .ok (.if_icmp .gt 23, 3) := by decide +kernel
theorem dX6_isSoWith_19 : decode cX6_isSoWith 19 = .ok (.aload_n 0, 1) := by decide +kernel
theorem dX6_isSoWith_20 : decode cX6_isSoWith 20 = .ok (.getfield 26, 3) := by decide +kernel
theorem dX6_isSoWith_23 : decode cX6_isSoWith 23 = .ok (.iload_n 3, 1) := by decide +kernel
theorem dX6_isSoWith_24 : decode cX6_isSoWith 24 = .ok (.aload_n 0, 1) := by decide +kernel
theorem dX6_isSoWith_25 : decode cX6_isSoWith 25 = .ok (.invokevirtual 147, 3) := by decide +kernel
theorem dX6_isSoWith_28 : decode cX6_isSoWith 28 = .ok (.iastore, 1) := by decide +kernel
theorem dX6_isSoWith_29 : decode cX6_isSoWith 29 = .ok (.aload_n 0, 1) := by decide +kernel
theorem dX6_isSoWith_30 : decode cX6_isSoWith 30 = .ok (.invokevirtual 156, 3) := by decide +kernel
theorem dX6_isSoWith_33 : decode cX6_isSoWith 33 = .ok (.iinc 3 1, 3) := by decide +kernel
theorem dX6_isSoWith_36 : decode cX6_isSoWith 36 = .ok (.goto (-23), 3) := by decide +kernel
theorem dX6_isSoWith_39 : decode cX6_isSoWith 39 = .ok (.iconst 1, 1) := by decide +kernel
theorem dX6_isSoWith_40 : decode cX6_isSoWith 40 = .ok (.istore_n 3, 1) := by decide +kernel
theorem dX6_isSoWith_41 : decode cX6_isSoWith 41 = .ok (.iconst 0, 1) := by decide +kernel
theorem dX6_isSoWith_42 : decode cX6_isSoWith 42 = .ok (.istore 4, 2) := by decide +kernel
theorem dX6_isSoWith_44 : decode cX6_isSoWith 44 = .ok (.iload 4, 2) := by decide +kernel
theorem dX6_isSoWith_46 : decode cX6_isSoWith 46 = .ok (.aload_n 0, 1) := by decide +kernel
theorem dX6_isSoWith_47 : decode cX6_isSoWith 47 = .ok (.getfield 7, 3) := by decide +kernel
theorem dX6_isSoWith_50 : decode cX6_isSoWith 50 = .ok (.bipush 48, 2) := by decide +kernel
theorem dX6_isSoWith_52 : decode cX6_isSoWith 52 = .ok (.iaload, 1) := by decide +kernel
theorem dX6_isSoWith_53 : decode cX6_isSoWith 53 = .ok (.if_icmp .ge 53, 3) := by decide +kernel
theorem dX6_isSoWith_56 : decode cX6_isSoWith 56 = .ok (.iload_n 3, 1) := by decide +kernel
theorem dX6_isSoWith_57 : decode cX6_isSoWith 57 = .ok (.ifCond .eq 41, 3) := by decide +kernel
theorem dX6_isSoWith_60 : decode cX6_isSoWith 60 = .ok (.aload_n 0, 1) := by decide +kernel
theorem dX6_isSoWith_61 : decode cX6_isSoWith 61 = .ok (.getfield 26, 3) := by decide +kernel
theorem dX6_isSoWith_64 : decode cX6_isSoWith 64 = .ok (.aload_n 0, 1) := by decide +kernel
theorem dX6_isSoWith_65 : decode cX6_isSoWith 65 = .ok (.getfield 7, 3) := by decide +kernel
theorem dX6_isSoWith_68 : decode cX6_isSoWith 68 = .ok (.bipush 49, 2) := by decide +kernel
theorem dX6_isSoWith_70 : decode cX6_isSoWith 70 = .ok (.iconst 2, 1) := by decide +kernel
theorem dX6_isSoWith_71 : decode cX6_isSoWith 71 = .ok (.iload 4, 2) := by decide +kernel
theorem dX6_isSoWith_73 : decode cX6_isSoWith 73 = .ok (.imul, 1) := by decide +kernel
theorem dX6_isSoWith_74 : decode cX6_isSoWith 74 = .ok (.iadd, 1) := by decide +kernel
theorem dX6_isSoWith_75 : decode cX6_isSoWith 75 = .ok (.iaload, 1) := by decide +kernel
theorem dX6_isSoWith_76 : decode cX6_isSoWith 76 = .ok (.iaload, 1) := by decide +kernel
theorem dX6_isSoWith_77 : decode cX6_isSoWith 77 = .ok (.aload_n 0, 1) := by decide +kernel
theorem dX6_isSoWith_78 : decode cX6_isSoWith 78 = .ok (.getfield 7, 3) := by decide +kernel
theorem dX6_isSoWith_81 : decode cX6_isSoWith 81 = .ok (.bipush 49, 2) := by decide +kernel
theorem dX6_isSoWith_83 : decode cX6_isSoWith 83 = .ok (.iconst 2, 1) := by decide +kernel
theorem dX6_isSoWith_84 : decode cX6_isSoWith 84 = .ok (.iload 4, 2) := by decide +kernel
theorem dX6_isSoWith_86 : decode cX6_isSoWith 86 = .ok (.imul, 1) := by decide +kernel
theorem dX6_isSoWith_87 : decode cX6_isSoWith 87 = .ok (.iadd, 1) := by decide +kernel
theorem dX6_isSoWith_88 : decode cX6_isSoWith 88 = .ok (.iconst 1, 1) := by decide +kernel
theorem dX6_isSoWith_89 : decode cX6_isSoWith 89 = .ok (.iadd, 1) := by decide +kernel
theorem dX6_isSoWith_90 : decode cX6_isSoWith 90 = .ok (.iaload, 1) := by decide +kernel
theorem dX6_isSoWith_91 : decode cX6_isSoWith 91 = .ok (.if_icmp .ne 7, 3) := by decide +kernel
theorem dX6_isSoWith_94 : decode cX6_isSoWith 94 = .ok (.iconst 1, 1) := by decide +kernel
theorem dX6_isSoWith_95 : decode cX6_isSoWith 95 = .ok (.goto 4, 3) := by decide +kernel
theorem dX6_isSoWith_98 : decode cX6_isSoWith 98 = .ok (.iconst 0, 1) := by decide +kernel
theorem dX6_isSoWith_99 : decode cX6_isSoWith 99 = .ok (.istore_n 3, 1) := by decide +kernel
theorem dX6_isSoWith_100 : decode cX6_isSoWith 100 = .ok (.iinc 4 1, 3) := by decide +kernel
theorem dX6_isSoWith_103 : decode cX6_isSoWith 103 = .ok (.goto (-59), 3) := by decide +kernel
theorem dX6_isSoWith_106 : decode cX6_isSoWith 106 = .ok (.iload_n 3, 1) := by decide +kernel
theorem dX6_isSoWith_107 : decode cX6_isSoWith 107 = .ok (.ireturn, 1) := by decide +kernel
abbrev rmX6_isSoWith : Room := { frames := 4, cells := 0, slots := 0, locals := 93 }
def opX6_isSoWith (po : Int32 → px_St → Prop) : List (Nat × px_Op) := [
  (0, px_al 1 0),
  (1, px_callV dM 4 6 0 px_vV prX6_starts poX6_starts),
  (4, px_al 5 0),
  (5, px_get dM 8 6 1),
  (8, px_il 9 1),
  (9, px_il 10 2),
  (10, px_ast dM 11 0 (fun x => x)),
  (11, px_push 12 (.int 0)),
  (12, px_is 13 3),
  (13, px_il 14 3),
  (14, px_push 16 (.int 20)),
  (16, px_ic 19 39 (fun x y => y < x)),
  (19, px_al 20 0),
  (20, px_get dM 23 6 18),
  (23, px_il 24 3),
  (24, px_al 25 0),
  (25, px_callV dM 28 6 0 px_vI prX6_saidNow poX6_saidNow),
  (28, px_ast dM 29 0 (fun x => x)),
  (29, px_al 30 0),
  (30, px_callV dM 33 6 0 px_vV prX6_dayGoes poX6_dayGoes),
  (33, px_inc 36 3 1),
  (36, px_go 13),
  (39, px_push 40 (.int 1)),
  (40, px_is 41 3),
  (41, px_push 42 (.int 0)),
  (42, px_is 44 4),
  (44, px_il 46 4),
  (46, px_al 47 0),
  (47, px_get dM 50 6 0),
  (50, px_push 52 (.int 48)),
  (52, px_ald dM 53 0),
  (53, px_ic 56 106 (fun x y => y ≤ x)),
  (56, px_il 57 3),
  (57, px_if 60 98 (fun x => x = 0)),
  (60, px_al 61 0),
  (61, px_get dM 64 6 18),
  (64, px_al 65 0),
  (65, px_get dM 68 6 0),
  (68, px_push 70 (.int 49)),
  (70, px_push 71 (.int 2)),
  (71, px_il 73 4),
  (73, px_bin 74 (fun x y => x * y)),
  (74, px_bin 75 (fun x y => x + y)),
  (75, px_ald dM 76 0),
  (76, px_ald dM 77 0),
  (77, px_al 78 0),
  (78, px_get dM 81 6 0),
  (81, px_push 83 (.int 49)),
  (83, px_push 84 (.int 2)),
  (84, px_il 86 4),
  (86, px_bin 87 (fun x y => x * y)),
  (87, px_bin 88 (fun x y => x + y)),
  (88, px_push 89 (.int 1)),
  (89, px_bin 90 (fun x y => x + y)),
  (90, px_ald dM 91 0),
  (91, px_ic 94 98 (fun x y => ¬ x = y)),
  (94, px_push 95 (.int 1)),
  (95, px_go 99),
  (98, px_push 99 (.int 0)),
  (99, px_is 100 3),
  (100, px_inc 103 4 1),
  (103, px_go 44),
  (106, px_il 107 3),
  (107, px_iret (.boolean) po)]
set_option maxRecDepth 100000 in
set_option maxHeartbeats 4000000 in
theorem okX6_isSoWith : ∀ (po : Int32 → px_St → Prop) (i pc : Nat) (op : px_Op), (opX6_isSoWith po)[i]? = some (pc, op) → px_Snd (cX6_isSoWith, 5, RX6, Cond.code yX6_isSoWith cX6_isSoWith 5 (some .boolean) :: wdM, (some .boolean), rmX6_isSoWith, dM) px_vI po pc op := by
  intro po
  unfold opX6_isSoWith
  refine px_ok_cons (ps_aload_n dX6_isSoWith_0 rfl) ?_
  refine px_ok_cons (ps_callV mX6_starts (fun _ _ => rfl) (C := RX6) rfl (fun _ _ ht => px_cwV wgM (wdM_3_in _ (List.mem_of_getElem? (i := 19) rfl)) (wdM_3_in _ (List.mem_of_getElem? (i := 20) rfl)) (wdM_3_in _ (List.mem_of_getElem? (i := 21) rfl)) (wdM_0_in _ (List.mem_of_getElem? (i := 22) rfl)) (wdM_2_in _ (List.mem_of_getElem? (i := 11) rfl)) (by decide +kernel) rfl rfl (by decide) ht) dX6_isSoWith_1) ?_
  refine px_ok_cons (ps_aload_n dX6_isSoWith_4 rfl) ?_
  refine px_ok_cons (fgX6_13 dX6_isSoWith_5) ?_
  refine px_ok_cons (ps_iload_n dX6_isSoWith_8 rfl) ?_
  refine px_ok_cons (ps_iload_n dX6_isSoWith_9 rfl) ?_
  refine px_ok_cons (ps_iastore dX6_isSoWith_10) ?_
  refine px_ok_cons (ps_iconst dX6_isSoWith_11 (by decide)) ?_
  refine px_ok_cons (ps_istore_n dX6_isSoWith_12 rfl (by decide)) ?_
  refine px_ok_cons (ps_iload_n dX6_isSoWith_13 rfl) ?_
  refine px_ok_cons (ps_bipush dX6_isSoWith_14 (by decide)) ?_
  refine px_ok_cons (ps_icmp_gt dX6_isSoWith_16 (by decide)) ?_
  refine px_ok_cons (ps_aload_n dX6_isSoWith_19 rfl) ?_
  refine px_ok_cons (fgX6_26 dX6_isSoWith_20) ?_
  refine px_ok_cons (ps_iload_n dX6_isSoWith_23 rfl) ?_
  refine px_ok_cons (ps_aload_n dX6_isSoWith_24 rfl) ?_
  refine px_ok_cons (ps_callV mX6_saidNow (fun _ _ => rfl) (C := RX6) rfl (fun _ _ ht => px_cwV wgM (wdM_2_in _ (List.mem_of_getElem? (i := 36) rfl)) (wdM_2_in _ (List.mem_of_getElem? (i := 37) rfl)) (wdM_2_in _ (List.mem_of_getElem? (i := 38) rfl)) (wdM_0_in _ (List.mem_of_getElem? (i := 22) rfl)) (wdM_2_in _ (List.mem_of_getElem? (i := 35) rfl)) (by decide +kernel) rfl rfl (by decide) ht) dX6_isSoWith_25) ?_
  refine px_ok_cons (ps_iastore dX6_isSoWith_28) ?_
  refine px_ok_cons (ps_aload_n dX6_isSoWith_29 rfl) ?_
  refine px_ok_cons (ps_callV mX6_dayGoes (fun _ _ => rfl) (C := RX6) rfl (fun _ _ ht => px_cwV wgM (wdM_3_in _ (List.mem_of_getElem? (i := 6) rfl)) (wdM_3_in _ (List.mem_of_getElem? (i := 7) rfl)) (wdM_3_in _ (List.mem_of_getElem? (i := 8) rfl)) (wdM_0_in _ (List.mem_of_getElem? (i := 22) rfl)) (wdM_3_in _ (List.mem_of_getElem? (i := 5) rfl)) (by decide +kernel) rfl rfl (by decide) ht) dX6_isSoWith_30) ?_
  refine px_ok_cons (ps_iinc dX6_isSoWith_33 (by decide) (by decide)) ?_
  refine px_ok_cons (ps_goto dX6_isSoWith_36 (by decide)) ?_
  refine px_ok_cons (ps_iconst dX6_isSoWith_39 (by decide)) ?_
  refine px_ok_cons (ps_istore_n dX6_isSoWith_40 rfl (by decide)) ?_
  refine px_ok_cons (ps_iconst dX6_isSoWith_41 (by decide)) ?_
  refine px_ok_cons (ps_istore dX6_isSoWith_42 (by decide)) ?_
  refine px_ok_cons (ps_iload dX6_isSoWith_44) ?_
  refine px_ok_cons (ps_aload_n dX6_isSoWith_46 rfl) ?_
  refine px_ok_cons (fgX6_7 dX6_isSoWith_47) ?_
  refine px_ok_cons (ps_bipush dX6_isSoWith_50 (by decide)) ?_
  refine px_ok_cons (ps_iaload dX6_isSoWith_52) ?_
  refine px_ok_cons (ps_icmp_ge dX6_isSoWith_53 (by decide)) ?_
  refine px_ok_cons (ps_iload_n dX6_isSoWith_56 rfl) ?_
  refine px_ok_cons (ps_if_eq dX6_isSoWith_57 (by decide)) ?_
  refine px_ok_cons (ps_aload_n dX6_isSoWith_60 rfl) ?_
  refine px_ok_cons (fgX6_26 dX6_isSoWith_61) ?_
  refine px_ok_cons (ps_aload_n dX6_isSoWith_64 rfl) ?_
  refine px_ok_cons (fgX6_7 dX6_isSoWith_65) ?_
  refine px_ok_cons (ps_bipush dX6_isSoWith_68 (by decide)) ?_
  refine px_ok_cons (ps_iconst dX6_isSoWith_70 (by decide)) ?_
  refine px_ok_cons (ps_iload dX6_isSoWith_71) ?_
  refine px_ok_cons (ps_imul dX6_isSoWith_73) ?_
  refine px_ok_cons (ps_iadd dX6_isSoWith_74) ?_
  refine px_ok_cons (ps_iaload dX6_isSoWith_75) ?_
  refine px_ok_cons (ps_iaload dX6_isSoWith_76) ?_
  refine px_ok_cons (ps_aload_n dX6_isSoWith_77 rfl) ?_
  refine px_ok_cons (fgX6_7 dX6_isSoWith_78) ?_
  refine px_ok_cons (ps_bipush dX6_isSoWith_81 (by decide)) ?_
  refine px_ok_cons (ps_iconst dX6_isSoWith_83 (by decide)) ?_
  refine px_ok_cons (ps_iload dX6_isSoWith_84) ?_
  refine px_ok_cons (ps_imul dX6_isSoWith_86) ?_
  refine px_ok_cons (ps_iadd dX6_isSoWith_87) ?_
  refine px_ok_cons (ps_iconst dX6_isSoWith_88 (by decide)) ?_
  refine px_ok_cons (ps_iadd dX6_isSoWith_89) ?_
  refine px_ok_cons (ps_iaload dX6_isSoWith_90) ?_
  refine px_ok_cons (ps_icmp_ne dX6_isSoWith_91 (by decide)) ?_
  refine px_ok_cons (ps_iconst dX6_isSoWith_94 (by decide)) ?_
  refine px_ok_cons (ps_goto dX6_isSoWith_95 (by decide)) ?_
  refine px_ok_cons (ps_iconst dX6_isSoWith_98 (by decide)) ?_
  refine px_ok_cons (ps_istore_n dX6_isSoWith_99 rfl (by decide)) ?_
  refine px_ok_cons (ps_iinc dX6_isSoWith_100 (by decide) (by decide)) ?_
  refine px_ok_cons (ps_goto dX6_isSoWith_103 (by decide)) ?_
  refine px_ok_cons (ps_iload_n dX6_isSoWith_106 rfl) ?_
  refine px_ok_cons (ps_ireturn rfl dX6_isSoWith_107) ?_
  exact px_ok_nil
set_option maxRecDepth 100000 in
set_option maxHeartbeats 4000000 in
theorem sgX6_isSoWith_0 {po : Int32 → px_St → Prop} {G : px_K} (hG : px_cl (opX6_isSoWith po) G) (v1 : Int32) (v2 : Int32) (σ : px_St)
    (H : ∃ g3 : gtX6_starts, qrX6_starts g3 σ ∧ ∀ (r1 : Unit) (σ2 : px_St), qoX6_starts g3 σ r1 σ2 → vp_in v1 61 ∧ G 13 [some (.ref 0), some (.int v1), some (.int v2), some (.int (0 : Int32)), none] [] (px_up σ2 2 v1.toNatClampNeg v2)) :
    G 0 (px_ent 5 [.ref 0, .int v1, .int v2]) [] σ := by
  refine hG.1 0 _ _ rfl _ _ _ ?_
  refine hG.1 1 _ _ rfl _ _ _ ?_
  obtain ⟨g3, H⟩ := H
  refine ⟨⟨rfl, by decide⟩, Nat.le_of_ble_eq_true rfl, g3, ⟨rfl, H.1⟩, fun r1 σ2 hp4 => ?_⟩
  replace H := H.2 r1 σ2 hp4
  refine hG.1 2 _ _ rfl _ _ _ ?_
  refine hG.1 3 _ _ rfl _ _ _ ?_
  refine ⟨⟨rfl, by decide⟩, ?_⟩
  refine hG.1 4 _ _ rfl _ _ _ ?_
  refine hG.1 5 _ _ rfl _ _ _ ?_
  refine hG.1 6 _ _ rfl _ _ _ ?_
  refine ⟨⟨rfl, by decide⟩, H.1, ?_⟩
  replace H := H.2
  refine hG.1 7 _ _ rfl _ _ _ ?_
  refine hG.1 8 _ _ rfl _ _ _ ?_
  show G 13 [some (.ref 0), some (.int v1), some (.int v2), some (.int (0 : Int32)), none] [] (px_up σ2 2 v1.toNatClampNeg v2)
  exact H
set_option maxRecDepth 100000 in
set_option maxHeartbeats 4000000 in
theorem sgX6_isSoWith_13 {po : Int32 → px_St → Prop} {G : px_K} (hG : px_cl (opX6_isSoWith po) G) (v1 : Int32) (v2 : Int32) (v3 : Int32) (σ : px_St)
    (H : (((20 : Int32) < v3) → G 44 [some (.ref 0), some (.int v1), some (.int v2), some (.int (1 : Int32)), some (.int (0 : Int32))] [] σ) ∧ (¬ ((20 : Int32) < v3) → ∃ g3 : gtX6_saidNow, qrX6_saidNow g3 σ ∧ ∀ (r1 : Int32) (σ2 : px_St), qoX6_saidNow g3 σ r1 σ2 → vp_in v3 21 ∧ ∃ g7 : gtX6_dayGoes, qrX6_dayGoes g7 (px_up σ2 6 v3.toNatClampNeg r1) ∧ ∀ (r5 : Unit) (σ6 : px_St), qoX6_dayGoes g7 (px_up σ2 6 v3.toNatClampNeg r1) r5 σ6 → G 13 [some (.ref 0), some (.int v1), some (.int v2), some (.int (v3 + 1)), none] [] σ6)) :
    G 13 [some (.ref 0), some (.int v1), some (.int v2), some (.int v3), none] [] σ := by
  refine hG.1 9 _ _ rfl _ _ _ ?_
  refine hG.1 10 _ _ rfl _ _ _ ?_
  refine hG.1 11 _ _ rfl _ _ _ ?_
  refine ⟨fun h9 => ?_, fun h9 => ?_⟩
  · replace H := H.1 h9
    refine hG.1 22 _ _ rfl _ _ _ ?_
    refine hG.1 23 _ _ rfl _ _ _ ?_
    show G 41 [some (.ref 0), some (.int v1), some (.int v2), some (.int (1 : Int32)), none] [] σ
    refine hG.1 24 _ _ rfl _ _ _ ?_
    refine hG.1 25 _ _ rfl _ _ _ ?_
    show G 44 [some (.ref 0), some (.int v1), some (.int v2), some (.int (1 : Int32)), some (.int (0 : Int32))] [] σ
    exact H
  · replace H := H.2 h9
    refine hG.1 12 _ _ rfl _ _ _ ?_
    refine hG.1 13 _ _ rfl _ _ _ ?_
    refine ⟨⟨rfl, by decide⟩, ?_⟩
    refine hG.1 14 _ _ rfl _ _ _ ?_
    refine hG.1 15 _ _ rfl _ _ _ ?_
    refine hG.1 16 _ _ rfl _ _ _ ?_
    obtain ⟨g3, H⟩ := H
    refine ⟨⟨rfl, by decide⟩, Nat.le_of_ble_eq_true rfl, g3, ⟨rfl, H.1⟩, fun r1 σ2 hp4 => ?_⟩
    replace H := H.2 r1 σ2 hp4
    refine hG.1 17 _ _ rfl _ _ _ ?_
    refine ⟨⟨rfl, by decide⟩, H.1, ?_⟩
    replace H := H.2
    refine hG.1 18 _ _ rfl _ _ _ ?_
    refine hG.1 19 _ _ rfl _ _ _ ?_
    obtain ⟨g7, H⟩ := H
    refine ⟨⟨rfl, by decide⟩, Nat.le_of_ble_eq_true rfl, g7, ⟨rfl, H.1⟩, fun r5 σ6 hp8 => ?_⟩
    replace H := H.2 r5 σ6 hp8
    refine hG.1 20 _ _ rfl _ _ _ ?_
    show G 36 [some (.ref 0), some (.int v1), some (.int v2), some (.int (v3 + 1)), none] [] σ6
    refine hG.1 21 _ _ rfl _ _ _ ?_
    exact H
set_option maxRecDepth 100000 in
set_option maxHeartbeats 4000000 in
theorem sgX6_isSoWith_44 {po : Int32 → px_St → Prop} {G : px_K} (hG : px_cl (opX6_isSoWith po) G) (v1 : Int32) (v2 : Int32) (v3 : Int32) (v4 : Int32) (σ : px_St)
    (H : vp_in (48 : Int32) 183 ∧ (((σ.1 1 (48 : Int32).toNatClampNeg) ≤ v4) → (v3 = 0 ∨ v3 = 1) ∧ po v3 σ) ∧ (¬ ((σ.1 1 (48 : Int32).toNatClampNeg) ≤ v4) → ((v3 = 0) → G 44 [some (.ref 0), some (.int v1), some (.int v2), some (.int (0 : Int32)), some (.int (v4 + 1))] [] σ) ∧ (¬ (v3 = 0) → vp_in ((49 : Int32) + ((2 : Int32) * v4)) 183 ∧ vp_in (σ.1 1 ((49 : Int32) + ((2 : Int32) * v4)).toNatClampNeg) 21 ∧ vp_in (((49 : Int32) + ((2 : Int32) * v4)) + (1 : Int32)) 183 ∧ ((¬ (σ.1 6 (σ.1 1 ((49 : Int32) + ((2 : Int32) * v4)).toNatClampNeg).toNatClampNeg) = (σ.1 1 (((49 : Int32) + ((2 : Int32) * v4)) + (1 : Int32)).toNatClampNeg)) → G 44 [some (.ref 0), some (.int v1), some (.int v2), some (.int (0 : Int32)), some (.int (v4 + 1))] [] σ) ∧ (¬ (¬ (σ.1 6 (σ.1 1 ((49 : Int32) + ((2 : Int32) * v4)).toNatClampNeg).toNatClampNeg) = (σ.1 1 (((49 : Int32) + ((2 : Int32) * v4)) + (1 : Int32)).toNatClampNeg)) → G 44 [some (.ref 0), some (.int v1), some (.int v2), some (.int (1 : Int32)), some (.int (v4 + 1))] [] σ)))) :
    G 44 [some (.ref 0), some (.int v1), some (.int v2), some (.int v3), some (.int v4)] [] σ := by
  refine hG.1 26 _ _ rfl _ _ _ ?_
  refine hG.1 27 _ _ rfl _ _ _ ?_
  refine hG.1 28 _ _ rfl _ _ _ ?_
  refine ⟨⟨rfl, by decide⟩, ?_⟩
  refine hG.1 29 _ _ rfl _ _ _ ?_
  refine hG.1 30 _ _ rfl _ _ _ ?_
  refine ⟨⟨rfl, by decide⟩, H.1, ?_⟩
  replace H := H.2
  refine hG.1 31 _ _ rfl _ _ _ ?_
  refine ⟨fun h3 => ?_, fun h3 => ?_⟩
  · replace H := H.1 h3
    refine hG.1 62 _ _ rfl _ _ _ ?_
    refine hG.1 63 _ _ rfl _ _ _ ?_
    exact ⟨(px_bo H.1).1, H.2⟩
  · replace H := H.2 h3
    refine hG.1 32 _ _ rfl _ _ _ ?_
    refine hG.1 33 _ _ rfl _ _ _ ?_
    refine ⟨fun h2 => ?_, fun h2 => ?_⟩
    · replace H := H.1 h2
      refine hG.1 58 _ _ rfl _ _ _ ?_
      refine hG.1 59 _ _ rfl _ _ _ ?_
      show G 100 [some (.ref 0), some (.int v1), some (.int v2), some (.int (0 : Int32)), some (.int v4)] [] σ
      refine hG.1 60 _ _ rfl _ _ _ ?_
      show G 103 [some (.ref 0), some (.int v1), some (.int v2), some (.int (0 : Int32)), some (.int (v4 + 1))] [] σ
      refine hG.1 61 _ _ rfl _ _ _ ?_
      exact H
    · replace H := H.2 h2
      refine hG.1 34 _ _ rfl _ _ _ ?_
      refine hG.1 35 _ _ rfl _ _ _ ?_
      refine ⟨⟨rfl, by decide⟩, ?_⟩
      refine hG.1 36 _ _ rfl _ _ _ ?_
      refine hG.1 37 _ _ rfl _ _ _ ?_
      refine ⟨⟨rfl, by decide⟩, ?_⟩
      refine hG.1 38 _ _ rfl _ _ _ ?_
      refine hG.1 39 _ _ rfl _ _ _ ?_
      refine hG.1 40 _ _ rfl _ _ _ ?_
      refine hG.1 41 _ _ rfl _ _ _ ?_
      refine hG.1 42 _ _ rfl _ _ _ ?_
      refine hG.1 43 _ _ rfl _ _ _ ?_
      refine ⟨⟨rfl, by decide⟩, H.1, ?_⟩
      replace H := H.2
      refine hG.1 44 _ _ rfl _ _ _ ?_
      refine ⟨⟨rfl, by decide⟩, H.1, ?_⟩
      replace H := H.2
      refine hG.1 45 _ _ rfl _ _ _ ?_
      refine hG.1 46 _ _ rfl _ _ _ ?_
      refine ⟨⟨rfl, by decide⟩, ?_⟩
      refine hG.1 47 _ _ rfl _ _ _ ?_
      refine hG.1 48 _ _ rfl _ _ _ ?_
      refine hG.1 49 _ _ rfl _ _ _ ?_
      refine hG.1 50 _ _ rfl _ _ _ ?_
      refine hG.1 51 _ _ rfl _ _ _ ?_
      refine hG.1 52 _ _ rfl _ _ _ ?_
      refine hG.1 53 _ _ rfl _ _ _ ?_
      refine hG.1 54 _ _ rfl _ _ _ ?_
      refine ⟨⟨rfl, by decide⟩, H.1, ?_⟩
      replace H := H.2
      refine hG.1 55 _ _ rfl _ _ _ ?_
      refine ⟨fun h1 => ?_, fun h1 => ?_⟩
      · replace H := H.1 h1
        refine hG.1 58 _ _ rfl _ _ _ ?_
        refine hG.1 59 _ _ rfl _ _ _ ?_
        show G 100 [some (.ref 0), some (.int v1), some (.int v2), some (.int (0 : Int32)), some (.int v4)] [] σ
        refine hG.1 60 _ _ rfl _ _ _ ?_
        show G 103 [some (.ref 0), some (.int v1), some (.int v2), some (.int (0 : Int32)), some (.int (v4 + 1))] [] σ
        refine hG.1 61 _ _ rfl _ _ _ ?_
        exact H
      · replace H := H.2 h1
        refine hG.1 56 _ _ rfl _ _ _ ?_
        refine hG.1 57 _ _ rfl _ _ _ ?_
        refine hG.1 59 _ _ rfl _ _ _ ?_
        show G 100 [some (.ref 0), some (.int v1), some (.int v2), some (.int (1 : Int32)), some (.int v4)] [] σ
        refine hG.1 60 _ _ rfl _ _ _ ?_
        show G 103 [some (.ref 0), some (.int v1), some (.int v2), some (.int (1 : Int32)), some (.int (v4 + 1))] [] σ
        refine hG.1 61 _ _ rfl _ _ _ ?_
        exact H
set_option maxRecDepth 100000 in
set_option maxHeartbeats 4000000 in
theorem hhX6_isSoWith (g : gtX6_isSoWith) (v1 : Int32) (v2 : Int32) (σ : px_St) (h : qrX6_isSoWith g v1 v2 σ) (G : px_K) (hG : px_cl (opX6_isSoWith (qoX6_isSoWith g v1 v2 σ)) G) : G 0 (px_ent 5 [.ref 0, .int v1, .int v2]) [] σ := by
  obtain ⟨W, S, j⟩ := g
  obtain ⟨hj, rfl, hW, hok, hd, hS, hl, hx⟩ := h
  refine sgX6_isSoWith_0 hG _ _ σ ⟨(), trivial, fun _ σ2 hq => ?_⟩
  obtain ⟨q1, -, q3⟩ := hq
  rw [nI_clamp (by omega)]
  refine ⟨vp_in_nI (by omega) (by decide), ?_⟩
  have hW2 : mv_is ((px_up σ2 2 j v2).1 2) W := hW.cg hok.1 (fun i hi => by
    rw [px_up_at]
    by_cases hij : i = j
    · rw [if_pos ⟨rfl, hij⟩, if_pos hij]
    · rw [if_neg (by omega), if_neg hij]; exact q3 i (by omega))
  -- what was seen is held against what is said
  have look : ∀ σ', (∀ k, k ≠ 2 → k ≠ 6 → σ'.1 k = σ.1 k) → (∀ d, d < 21 → σ'.1 6 d = pv_said (pv_run W d)) → ∀ m i, i + m = S.length → ∀ v, px_b (∀ k x, k < i → S[k]? = some x → pv_said (pv_run W x.1) = nI x.2) v → G 44 [some (.ref 0), some (.int (nI j)), some (.int v2), some (.int v), some (.int (nI i))] [] σ' := by
    intro σ' ho hs m
    have hi48 : vp_in (48 : Int32) 183 := vpin 48 183 rfl (by omega) (by omega)
    have e1 := ho 1 (by omega) (by omega)
    induction m with
    | zero =>
      intro i hi v hv
      refine sgX6_isSoWith_44 hG _ _ _ _ σ' ?_
      rw [c48, e1, hS.1]
      refine ⟨hi48, fun _ => ⟨px_b_01 hv, px_b_of hv ⟨fun h x hm => ?_, fun h k x _ hk => h x (List.mem_of_getElem? hk)⟩, hs, ho⟩, fun z => absurd (nI_le (by omega) (by omega)) z⟩
      obtain ⟨k, hk⟩ := List.getElem?_of_mem hm
      exact h k x (by have := (List.getElem?_eq_some_iff.mp hk).1; omega) hk
    | succ m ih =>
      intro i hi v hv
      have hil : i < S.length := by omega
      have hix := List.getElem?_eq_getElem hil
      have hx1 := hx _ (List.getElem_mem hil)
      obtain ⟨f1, f2⟩ := hS.2 i _ hix
      refine sgX6_isSoWith_44 hG _ _ _ _ σ' ?_
      rw [c48, e1, hS.1, ix49, nI_1, nI_1, nI_clamp (show 49 + 2 * i < 2 ^ 31 by omega), nI_clamp (show 49 + 2 * i + 1 < 2 ^ 31 by omega), f1, show 49 + 2 * i + 1 = 50 + 2 * i by omega, f2, nI_clamp (by omega), hs _ (by omega)]
      refine ⟨hi48, fun z => absurd z (nI_ge (by omega) (by omega)), fun _ => bz2 hv (fun y => ⟨vp_in_nI (by omega) (by decide), vp_in_nI (by omega) (by decide), vp_in_nI (by omega) (by decide), fun q => ih (i + 1) (by omega) 0 (Or.inr ⟨fun h => q (h i _ (by omega) hix), rfl⟩), fun q => ih (i + 1) (by omega) 1 (Or.inl ⟨fun k x hk hkx => ?_, rfl⟩)⟩) (fun y => ih (i + 1) (by omega) 0 (Or.inr ⟨fun h => y (fun k x hk hkx => h k x (by omega) hkx), rfl⟩))⟩
      by_cases hki : k = i
      · subst hki
        rw [hix] at hkx
        rw [← Option.some.inj hkx]
        exact Classical.byContradiction q
      · exact y k x (by omega) hkx
  have days : ∀ m d, d + m = 21 → ∀ σ', mv_is (σ'.1 2) (pv_run W d) → (∀ k, k ≠ 2 → k ≠ 6 → σ'.1 k = σ.1 k) → (∀ e, e < d → σ'.1 6 e = pv_said (pv_run W e)) → G 13 [some (.ref 0), some (.int (nI j)), some (.int v2), some (.int (nI d)), none] [] σ' := by
    intro m
    induction m with
    | zero =>
      intro d hdm σ' h1 h2 h3
      have e : d = 21 := by omega
      subst e
      refine sgX6_isSoWith_13 hG _ _ _ σ' ⟨fun _ => look σ' h2 h3 S.length 0 (by omega) 1 (Or.inl ⟨fun k x hk => by omega, rfl⟩), fun z => absurd (by decide) z⟩
    | succ m ih =>
      intro d hdm σ' h1 h2 h3
      have hrk := pv_run_ok hok d (by omega)
      refine sgX6_isSoWith_13 hG _ _ _ σ' ⟨fun z => absurd ((nIlt 20 d rfl rfl (by omega) (by omega)).mp z) (by omega), fun _ => ⟨pv_run W d, ⟨h1, hrk⟩, fun r σ3 hq => ?_⟩⟩
      obtain ⟨rfl, rfl⟩ := hq
      rw [nI_clamp (by omega)]
      refine ⟨vp_in_nI (by omega) (by decide), pv_run W d, ⟨by rw [px_up_n (by omega)]; exact h1, hrk, by rw [(pv_run_n W d).2.2]; omega⟩, fun _ σ4 hq => ?_⟩
      obtain ⟨p1, p2⟩ := hq
      rw [nI_1]
      refine ih (d + 1) (by omega) σ4 p1 (fun k hk1 hk2 => by rw [p2.1 k hk1, px_up_n hk2]; exact h2 k hk1 hk2) (fun e he => ?_)
      rw [p2.1 6 (by omega), px_up_at]
      by_cases hed : e = d
      · rw [if_pos ⟨rfl, hed⟩, hed]
      · rw [if_neg (by omega)]; exact h3 e (by omega)
  exact days 21 0 (by omega) _ hW2 (fun k hk1 hk2 => by rw [px_up_n hk1]; exact q1 k hk1) (fun e he => by omega)
theorem mX6_isSoWith (g : gtX6_isSoWith) : px_Met dM yX6_isSoWith (Cond.code yX6_isSoWith cX6_isSoWith 5 (some .boolean) :: wdM) rmX6_isSoWith px_vI (prX6_isSoWith g) (poX6_isSoWith g) :=
  px_met (Z := (cX6_isSoWith, 5, RX6, Cond.code yX6_isSoWith cX6_isSoWith 5 (some .boolean) :: wdM, (some .boolean), rmX6_isSoWith, dM)) opX6_isSoWith (by decide) rfl rfl okX6_isSoWith (fun As σ h => by obtain ⟨v1, v2, rfl, h⟩ := h; exact Nat.le_of_ble_eq_true rfl) (fun As σ h G hG => by obtain ⟨v1, v2, rfl, h⟩ := h; exact hhX6_isSoWith g v1 v2 σ h G hG)
