theorem orb : ∀ a, a < 1024 → ∀ k, k < 10 → (nI a ||| nI (2 ^ k)) = nI (a ||| 2 ^ k) ∧ a ||| 2 ^ k < 1024 := by decide +kernel
theorem pv_bit_said {V : pv_V} (h : pv_ok V) : pv_bit (pv_said V) = nI (if V.1 = 0 then 0 else 2 ^ pv_due V) := by
  unfold pv_said
  by_cases hn : V.1 = 0
  · rw [if_pos hn, if_pos hn]; decide
  · have hd := pv_due_le h (by omega)
    rw [if_neg hn, if_neg hn]
    unfold pv_bit
    rw [if_pos ((rngc 9 9 rfl (by omega)).mpr ⟨_, hd, rfl⟩), sh1 _ (by omega)]
theorem or_said {V : pv_V} (h : pv_ok V) {a : Nat} (ha : a < 1024) : (nI a ||| pv_bit (pv_said V)) = nI (a ||| (if V.1 = 0 then 0 else 2 ^ pv_due V)) ∧ a ||| (if V.1 = 0 then 0 else 2 ^ pv_due V) < 1024 := by
  rw [pv_bit_said h]
  by_cases hn : V.1 = 0
  · rw [if_pos hn]
    refine ⟨?_, by rw [Nat.or_zero]; exact ha⟩
    rw [Nat.or_zero]
    exact Int32.or_zero
  · have hd := pv_due_le h (by omega)
    rw [if_neg hn]
    exact orb a ha _ (by omega)
abbrev gtX5_days : Type := pv_X
def qrX5_days (X : pv_X) (_ : Int32) (σ : px_St) : Prop := cl_is σ X ∧ xo X
def qoX5_days (X : pv_X) (v : Int32) (_ : px_St) (r : Int32) (σ' : px_St) : Prop := r = (x_days X v).1 ∧ cl_is σ' (x_days X v).2
def prX5_days (g : gtX5_days) : List Value → px_St → Prop := fun As σ => ∃ v1 : Int32, As = [.ref 0, .int v1] ∧ qrX5_days g v1 σ
def poX5_days (g : gtX5_days) : List Value → px_St → Int32 → px_St → Prop
  | [.ref _, .int v1], σ, r, σ' => qoX5_days g v1 σ r σ'
  | _, _, _, _ => False
theorem dX5_days_0 : decode cX5_days 0 = .ok (.iload_n 1, 1) := by decide +kernel
theorem dX5_days_1 : decode cX5_days 1 = .ok (.iconst 0, 1) := by decide +kernel
theorem dX5_days_2 : decode cX5_days 2 = .ok (.bipush 30, 2) := by decide +kernel
theorem dX5_days_4 : decode cX5_days 4 = .ok (.invokestatic 61, 3) := by decide +kernel
theorem dX5_days_7 : decode cX5_days 7 = .ok (.ifCond .ne 5, 3) := by decide +kernel
theorem dX5_days_10 : decode cX5_days 10 = .ok (.iconst (-1), 1) := by decide +kernel
theorem dX5_days_11 : decode cX5_days 11 = .ok (.ireturn, 1) := by decide +kernel
theorem dX5_days_12 : decode cX5_days 12 = .ok (.aload_n 0, 1) := by decide +kernel
theorem dX5_days_13 : decode cX5_days 13 = .ok (.getfield 10, 3) := by decide +kernel
theorem dX5_days_16 : decode cX5_days 16 = .ok (.getfield 96, 3) := by decide +kernel
theorem dX5_days_19 : decode cX5_days 19 = .ok (.iload_n 1, 1) := by decide +kernel
theorem dX5_days_20 : decode cX5_days 20 = .ok (.iadd, 1) := by decide +kernel
theorem dX5_days_21 : decode cX5_days 21 = .ok (.sipush 1000, 3) := by decide +kernel
theorem dX5_days_24 : decode cX5_days 24 = .ok (.if_icmp .lt 6, 3) := by decide +kernel
theorem dX5_days_27 : decode cX5_days 27 = .ok (.bipush (-3), 2) := by decide +kernel
theorem dX5_days_29 : decode cX5_days 29 = .ok (.ireturn, 1) := by decide +kernel
theorem dX5_days_30 : decode cX5_days 30 = .ok (.iconst 0, 1) := by decide +kernel
theorem dX5_days_31 : decode cX5_days 31 = .ok (.istore_n 2, 1) := by decide +kernel
theorem dX5_days_32 : decode cX5_days 32 = .ok (.iconst 0, 1) := by decide +kernel
theorem dX5_days_33 : decode cX5_days 33 = .ok (.istore_n 3, 1) := by decide +kernel
theorem dX5_days_34 : decode cX5_days 34 = .ok (.iload_n 3, 1) := by decide +kernel
theorem dX5_days_35 : decode cX5_days 35 = .ok (.iload_n 1, 1) := by decide +kernel
theorem dX5_days_36 : decode cX5_days 36 = .ok (.if_icmp .ge 22, 3) := by decide +kernel
theorem dX5_days_39 : decode cX5_days 39 = .ok (.iload_n 2, 1) := by decide +kernel
theorem dX5_days_40 : decode cX5_days 40 = .ok (.aload_n 0, 1) := by decide +kernel
theorem dX5_days_41 : decode cX5_days 41 = .ok (.getfield 10, 3) := by decide +kernel
theorem dX5_days_44 : decode cX5_days 44 = .ok (.invokevirtual 156, 3) := by decide +kernel
theorem dX5_days_47 : decode cX5_days 47 = .ok (.invokestatic 159, 3) := by decide +kernel
theorem dX5_days_50 : decode cX5_days 50 = .ok (.ior, 1) := by decide +kernel
theorem dX5_days_51 : decode cX5_days 51 = .ok (.istore_n 2, 1) := by decide +kernel
theorem dX5_days_52 : decode cX5_days 52 = .ok (.iinc 3 1, 3) := by decide +kernel
theorem dX5_days_55 : decode cX5_days 55 = .ok (.goto (-21), 3) := by decide +kernel
theorem dX5_days_58 : decode cX5_days 58 = .ok (.iload_n 2, 1) := by decide +kernel
theorem dX5_days_59 : decode cX5_days 59 = .ok (.invokestatic 162, 3) := by decide +kernel
theorem dX5_days_62 : decode cX5_days 62 = .ok (.ireturn, 1) := by decide +kernel
abbrev rmX5_days : Room := { frames := 4, cells := 0, slots := 0, locals := 92 }
def opX5_days (po : Int32 → px_St → Prop) : List (Nat × px_Op) := [
  (0, px_il 1 1),
  (1, px_push 2 (.int 0)),
  (2, px_push 4 (.int 30)),
  (4, px_callS 7 3 px_vI prX5_isWithin poX5_isWithin),
  (7, px_if 10 12 (fun x => ¬ x = 0)),
  (10, px_push 11 (.int (-1))),
  (11, px_iret (.int) po),
  (12, px_al 13 0),
  (13, px_get dC 16 5 0),
  (16, px_get dC 19 0 2),
  (19, px_il 20 1),
  (20, px_bin 21 (fun x y => x + y)),
  (21, px_push 24 (.int 1000)),
  (24, px_ic 27 30 (fun x y => x < y)),
  (27, px_push 29 (.int (-3))),
  (29, px_iret (.int) po),
  (30, px_push 31 (.int 0)),
  (31, px_is 32 2),
  (32, px_push 33 (.int 0)),
  (33, px_is 34 3),
  (34, px_il 35 3),
  (35, px_il 36 1),
  (36, px_ic 39 58 (fun x y => y ≤ x)),
  (39, px_il 40 2),
  (40, px_al 41 0),
  (41, px_get dC 44 5 0),
  (44, px_callV dC 47 0 0 px_vI prX0_passDay poX0_passDay),
  (47, px_callS 50 1 px_vI prX5_soundBit poX5_soundBit),
  (50, px_bin 51 (fun x y => x ||| y)),
  (51, px_is 52 2),
  (52, px_inc 55 3 1),
  (55, px_go 34),
  (58, px_il 59 2),
  (59, px_callS 62 1 px_vI prJ6_bitCount_0f7a4 poJ6_bitCount_0f7a4),
  (62, px_iret (.int) po)]
set_option maxRecDepth 100000 in
set_option maxHeartbeats 4000000 in
theorem okX5_days : ∀ (po : Int32 → px_St → Prop) (i pc : Nat) (op : px_Op), (opX5_days po)[i]? = some (pc, op) → px_Snd (cX5_days, 4, RX5, Cond.code yX5_days cX5_days 4 (some .int) :: wdC, (some .int), rmX5_days, dC) px_vI po pc op := by
  intro po
  unfold opX5_days
  refine px_ok_cons (ps_iload_n dX5_days_0 rfl) ?_
  refine px_ok_cons (ps_iconst dX5_days_1 (by decide)) ?_
  refine px_ok_cons (ps_bipush dX5_days_2 (by decide)) ?_
  refine px_ok_cons (ps_callS mX5_isWithin (fun _ _ => rfl) (fun _ _ ht => px_cwS wgC (wdC_4_in _ (List.mem_of_getElem? (i := 29) rfl)) (wdC_4_in _ (List.mem_of_getElem? (i := 22) rfl)) (wdC_4_in _ (List.mem_of_getElem? (i := 23) rfl)) (wdC_4_in _ (List.mem_of_getElem? (i := 20) rfl)) (by decide +kernel) rfl rfl (by decide) ht) dX5_days_4) ?_
  refine px_ok_cons (ps_if_ne dX5_days_7 (by decide)) ?_
  refine px_ok_cons (ps_iconst dX5_days_10 (by decide)) ?_
  refine px_ok_cons (ps_ireturn rfl dX5_days_11) ?_
  refine px_ok_cons (ps_aload_n dX5_days_12 rfl) ?_
  refine px_ok_cons (fgX5_10 dX5_days_13) ?_
  refine px_ok_cons (fgX5_96 dX5_days_16) ?_
  refine px_ok_cons (ps_iload_n dX5_days_19 rfl) ?_
  refine px_ok_cons (ps_iadd dX5_days_20) ?_
  refine px_ok_cons (ps_sipush dX5_days_21 (by decide)) ?_
  refine px_ok_cons (ps_icmp_lt dX5_days_24 (by decide)) ?_
  refine px_ok_cons (ps_bipush dX5_days_27 (by decide)) ?_
  refine px_ok_cons (ps_ireturn rfl dX5_days_29) ?_
  refine px_ok_cons (ps_iconst dX5_days_30 (by decide)) ?_
  refine px_ok_cons (ps_istore_n dX5_days_31 rfl (by decide)) ?_
  refine px_ok_cons (ps_iconst dX5_days_32 (by decide)) ?_
  refine px_ok_cons (ps_istore_n dX5_days_33 rfl (by decide)) ?_
  refine px_ok_cons (ps_iload_n dX5_days_34 rfl) ?_
  refine px_ok_cons (ps_iload_n dX5_days_35 rfl) ?_
  refine px_ok_cons (ps_icmp_ge dX5_days_36 (by decide)) ?_
  refine px_ok_cons (ps_iload_n dX5_days_39 rfl) ?_
  refine px_ok_cons (ps_aload_n dX5_days_40 rfl) ?_
  refine px_ok_cons (fgX5_10 dX5_days_41) ?_
  refine px_ok_cons (ps_callV mX0_passDay (fun _ _ => rfl) (C := RX0) rfl (fun _ _ ht => px_cwV wgC (wdC_7_in _ (List.mem_of_getElem? (i := 30) rfl)) (wdC_7_in _ (List.mem_of_getElem? (i := 31) rfl)) (wdC_7_in _ (List.mem_of_getElem? (i := 32) rfl)) (wdC_0_in _ (List.mem_of_getElem? (i := 22) rfl)) (wdC_1_in _ (List.mem_of_getElem? (i := 24) rfl)) (by decide +kernel) rfl rfl (by decide) ht) dX5_days_44) ?_
  refine px_ok_cons (ps_callS mX5_soundBit (fun _ _ => rfl) (fun _ _ ht => px_cwS wgC (wdC_7_in _ (List.mem_of_getElem? (i := 33) rfl)) (wdC_7_in _ (List.mem_of_getElem? (i := 34) rfl)) (wdC_4_in _ (List.mem_of_getElem? (i := 23) rfl)) (wdC_7_in _ (List.mem_of_getElem? (i := 25) rfl)) (by decide +kernel) rfl rfl (by decide) ht) dX5_days_47) ?_
  refine px_ok_cons (ps_ior dX5_days_50) ?_
  refine px_ok_cons (ps_istore_n dX5_days_51 rfl (by decide)) ?_
  refine px_ok_cons (ps_iinc dX5_days_52 (by decide) (by decide)) ?_
  refine px_ok_cons (ps_goto dX5_days_55 (by decide)) ?_
  refine px_ok_cons (ps_iload_n dX5_days_58 rfl) ?_
  refine px_ok_cons (ps_callS mJ6_bitCount_0f7a4 (fun _ _ => rfl) (fun _ _ ht => px_cwS wgC (wdC_7_in _ (List.mem_of_getElem? (i := 35) rfl)) (wdC_7_in _ (List.mem_of_getElem? (i := 36) rfl)) (wdC_7_in _ (List.mem_of_getElem? (i := 37) rfl)) (wdC_7_in _ (List.mem_of_getElem? (i := 26) rfl)) (by decide +kernel) rfl rfl (by decide) ht) dX5_days_59) ?_
  refine px_ok_cons (ps_ireturn rfl dX5_days_62) ?_
  exact px_ok_nil
set_option maxRecDepth 100000 in
set_option maxHeartbeats 4000000 in
theorem sgX5_days_0 {po : Int32 → px_St → Prop} {G : px_K} (hG : px_cl (opX5_days po) G) (v1 : Int32) (σ : px_St)
    (H : ∃ g3 : gtX5_isWithin, qrX5_isWithin g3 v1 (0 : Int32) (30 : Int32) σ ∧ ∀ (r1 : Int32) (σ2 : px_St), qoX5_isWithin g3 v1 (0 : Int32) (30 : Int32) σ r1 σ2 → ((¬ r1 = 0) → ((((σ2.1 8 2) + v1) < (1000 : Int32)) → G 34 [some (.ref 0), some (.int v1), some (.int (0 : Int32)), some (.int (0 : Int32))] [] σ2) ∧ (¬ (((σ2.1 8 2) + v1) < (1000 : Int32)) → po (-3 : Int32) σ2)) ∧ (¬ (¬ r1 = 0) → po (-1 : Int32) σ2)) :
    G 0 (px_ent 4 [.ref 0, .int v1]) [] σ := by
  refine hG.1 0 _ _ rfl _ _ _ ?_
  refine hG.1 1 _ _ rfl _ _ _ ?_
  refine hG.1 2 _ _ rfl _ _ _ ?_
  refine hG.1 3 _ _ rfl _ _ _ ?_
  obtain ⟨g3, H⟩ := H
  refine ⟨Nat.le_of_ble_eq_true rfl, Nat.le_of_ble_eq_true rfl, g3, ⟨_, _, _, rfl, H.1⟩, fun r1 σ2 hp4 => ?_⟩
  replace H := H.2 r1 σ2 hp4
  refine hG.1 4 _ _ rfl _ _ _ ?_
  refine ⟨fun h6 => ?_, fun h6 => ?_⟩
  · replace H := H.1 h6
    refine hG.1 7 _ _ rfl _ _ _ ?_
    refine hG.1 8 _ _ rfl _ _ _ ?_
    refine ⟨⟨rfl, by decide⟩, ?_⟩
    refine hG.1 9 _ _ rfl _ _ _ ?_
    refine ⟨⟨rfl, by decide⟩, ?_⟩
    refine hG.1 10 _ _ rfl _ _ _ ?_
    refine hG.1 11 _ _ rfl _ _ _ ?_
    refine hG.1 12 _ _ rfl _ _ _ ?_
    refine hG.1 13 _ _ rfl _ _ _ ?_
    refine ⟨fun h5 => ?_, fun h5 => ?_⟩
    · replace H := H.1 h5
      refine hG.1 16 _ _ rfl _ _ _ ?_
      refine hG.1 17 _ _ rfl _ _ _ ?_
      show G 32 [some (.ref 0), some (.int v1), some (.int (0 : Int32)), none] [] σ2
      refine hG.1 18 _ _ rfl _ _ _ ?_
      refine hG.1 19 _ _ rfl _ _ _ ?_
      show G 34 [some (.ref 0), some (.int v1), some (.int (0 : Int32)), some (.int (0 : Int32))] [] σ2
      exact H
    · replace H := H.2 h5
      refine hG.1 14 _ _ rfl _ _ _ ?_
      refine hG.1 15 _ _ rfl _ _ _ ?_
      exact ⟨rfl, H⟩
  · replace H := H.2 h6
    refine hG.1 5 _ _ rfl _ _ _ ?_
    refine hG.1 6 _ _ rfl _ _ _ ?_
    exact ⟨rfl, H⟩
set_option maxRecDepth 100000 in
set_option maxHeartbeats 4000000 in
theorem sgX5_days_34 {po : Int32 → px_St → Prop} {G : px_K} (hG : px_cl (opX5_days po) G) (v1 : Int32) (v2 : Int32) (v3 : Int32) (σ : px_St)
    (H : ((v1 ≤ v3) → ∃ g3 : gtJ6_bitCount_0f7a4, qrJ6_bitCount_0f7a4 g3 v2 σ ∧ ∀ (r1 : Int32) (σ2 : px_St), qoJ6_bitCount_0f7a4 g3 v2 σ r1 σ2 → po r1 σ2) ∧ (¬ (v1 ≤ v3) → ∃ g7 : gtX0_passDay, qrX0_passDay g7 8 σ ∧ ∀ (r5 : Int32) (σ6 : px_St), qoX0_passDay g7 8 σ r5 σ6 → ∃ g11 : gtX5_soundBit, qrX5_soundBit g11 r5 σ6 ∧ ∀ (r9 : Int32) (σ10 : px_St), qoX5_soundBit g11 r5 σ6 r9 σ10 → G 34 [some (.ref 0), some (.int v1), some (.int (v2 ||| r9)), some (.int (v3 + 1))] [] σ10)) :
    G 34 [some (.ref 0), some (.int v1), some (.int v2), some (.int v3)] [] σ := by
  refine hG.1 20 _ _ rfl _ _ _ ?_
  refine hG.1 21 _ _ rfl _ _ _ ?_
  refine hG.1 22 _ _ rfl _ _ _ ?_
  refine ⟨fun h13 => ?_, fun h13 => ?_⟩
  · replace H := H.1 h13
    refine hG.1 32 _ _ rfl _ _ _ ?_
    refine hG.1 33 _ _ rfl _ _ _ ?_
    obtain ⟨g3, H⟩ := H
    refine ⟨Nat.le_of_ble_eq_true rfl, Nat.le_of_ble_eq_true rfl, g3, ⟨_, rfl, H.1⟩, fun r1 σ2 hp4 => ?_⟩
    replace H := H.2 r1 σ2 hp4
    refine hG.1 34 _ _ rfl _ _ _ ?_
    exact ⟨rfl, H⟩
  · replace H := H.2 h13
    refine hG.1 23 _ _ rfl _ _ _ ?_
    refine hG.1 24 _ _ rfl _ _ _ ?_
    refine hG.1 25 _ _ rfl _ _ _ ?_
    refine ⟨⟨rfl, by decide⟩, ?_⟩
    refine hG.1 26 _ _ rfl _ _ _ ?_
    obtain ⟨g7, H⟩ := H
    refine ⟨⟨rfl, by decide⟩, Nat.le_of_ble_eq_true rfl, g7, ⟨_, rfl, (Or.inl rfl), H.1⟩, fun r5 σ6 hp8 => ?_⟩
    replace H := H.2 r5 σ6 hp8
    refine hG.1 27 _ _ rfl _ _ _ ?_
    obtain ⟨g11, H⟩ := H
    refine ⟨Nat.le_of_ble_eq_true rfl, Nat.le_of_ble_eq_true rfl, g11, ⟨_, rfl, H.1⟩, fun r9 σ10 hp12 => ?_⟩
    replace H := H.2 r9 σ10 hp12
    refine hG.1 28 _ _ rfl _ _ _ ?_
    refine hG.1 29 _ _ rfl _ _ _ ?_
    show G 52 [some (.ref 0), some (.int v1), some (.int (v2 ||| r9)), some (.int v3)] [] σ10
    refine hG.1 30 _ _ rfl _ _ _ ?_
    show G 55 [some (.ref 0), some (.int v1), some (.int (v2 ||| r9)), some (.int (v3 + 1))] [] σ10
    refine hG.1 31 _ _ rfl _ _ _ ?_
    exact H
set_option maxRecDepth 100000 in
set_option maxHeartbeats 4000000 in
theorem hhX5_days (g : gtX5_days) (v1 : Int32) (σ : px_St) (h : qrX5_days g v1 σ) (G : px_K) (hG : px_cl (opX5_days (qoX5_days g v1 σ)) G) : G 0 (px_ent 4 [.ref 0, .int v1]) [] σ := by
  obtain ⟨hX, hok⟩ := h
  have hV := hX.1
  have hvk := hok.1.1
  have hd := hok.1.2
  refine sgX5_days_0 hG _ σ ⟨(), trivial, fun r1 σ1 h1 => ?_⟩
  obtain ⟨rfl, b1⟩ := h1
  refine bz1 b1 (fun z => ?_) (fun z => ?_)
  · obtain ⟨n, hn, rfl⟩ := (rngc 30 30 rfl (by omega)).mp z
    rw [hV.1.2.2, nI_add]
    have c1 : nI (g.1.2.2.1 + n) < 1000 ↔ g.1.2.2.1 + n < 1000 := nIlt _ 1000 rfl rfl (by omega) (by omega)
    rw [c1]
    refine ⟨fun hl => ?_, fun hl => ?_⟩
    · have ex : x_days g (nI n) = (nI (pv_pc (pv_sb g.1 n) 10), xV g (pv_run g.1 n)) := by
        unfold x_days
        rw [xif_t z, nI_clamp (by omega), xif_t hl]
      have loop : ∀ m k, k + m = n → ∀ σ', av_is σ' 8 (pv_run g.1 k) → px_only 8 σ1 σ' → pv_sb g.1 k < 1024 → G 34 [some (.ref 0), some (.int (nI n)), some (.int (nI (pv_sb g.1 k))), some (.int (nI k))] [] σ' := by
        intro m
        induction m with
        | zero =>
          intro k hk σ' h1 h2 h3
          have e : k = n := by omega
          subst e
          refine sgX5_days_34 hG _ _ _ σ' ⟨fun _ => ⟨pv_sb g.1 k, ⟨h3, rfl⟩, fun r σ2 hq => ?_⟩, fun y => absurd (Int32.le_refl _) y⟩
          obtain ⟨rfl, rfl⟩ := hq
          unfold qoX5_days
          rw [ex]
          exact ⟨rfl, h2.cl hX h1⟩
        | succ m ih =>
          intro k hk σ' h1 h2 h3
          have hrk := pv_run_ok hvk k (by omega)
          refine sgX5_days_34 hG _ _ _ σ' ⟨fun y => absurd y (nI_ge (by omega) (by omega)), fun _ => ⟨pv_run g.1 k, ⟨h1, hrk, by rw [(pv_run_n g.1 k).2.2]; omega⟩, fun r σ2 hq => ?_⟩⟩
          obtain ⟨rfl, q2, q3⟩ := hq
          refine ⟨(), trivial, fun r σ3 hq => ?_⟩
          obtain ⟨rfl, rfl⟩ := hq
          obtain ⟨e1, e2⟩ := or_said hrk h3
          rw [(pv_run_n g.1 k).1] at e1 e2
          rw [e1, nI_1]
          exact ih (k + 1) (by omega) σ3 q2 (h2.tr q3) e2
      exact loop n 0 (by omega) σ1 hV px_only.rf (by show 0 < 1024; omega)
    · unfold qoX5_days x_days
      rw [xif_t z, nI_clamp (by omega), xif_f hl]
      exact ⟨rfl, hX⟩
  · unfold qoX5_days x_days
    rw [xif_f z]
    exact ⟨rfl, hX⟩
theorem mX5_days (g : gtX5_days) : px_Met dC yX5_days (Cond.code yX5_days cX5_days 4 (some .int) :: wdC) rmX5_days px_vI (prX5_days g) (poX5_days g) :=
  px_met (Z := (cX5_days, 4, RX5, Cond.code yX5_days cX5_days 4 (some .int) :: wdC, (some .int), rmX5_days, dC)) opX5_days (by decide) rfl rfl okX5_days (fun As σ h => by obtain ⟨v1, rfl, h⟩ := h; exact Nat.le_of_ble_eq_true rfl) (fun As σ h G hG => by obtain ⟨v1, rfl, h⟩ := h; exact hhX5_days g v1 σ h G hG)
abbrev gtX5_says : Type := pv_X
def qrX5_says (X : pv_X) (_ : Int32) (σ : px_St) : Prop := cl_is σ X ∧ xo X
def qoX5_says (X : pv_X) (v : Int32) (_ : px_St) (r : Int32) (σ' : px_St) : Prop := r = (x_says X v).1 ∧ cl_is σ' (x_says X v).2
def prX5_says (g : gtX5_says) : List Value → px_St → Prop := fun As σ => ∃ v1 : Int32, As = [.ref 0, .int v1] ∧ qrX5_says g v1 σ
def poX5_says (g : gtX5_says) : List Value → px_St → Int32 → px_St → Prop
  | [.ref _, .int v1], σ, r, σ' => qoX5_says g v1 σ r σ'
  | _, _, _, _ => False
theorem dX5_says_0 : decode cX5_says 0 = .ok (.iload_n 1, 1) := by decide +kernel
theorem dX5_says_1 : decode cX5_says 1 = .ok (.invokestatic 167, 3) := by decide +kernel
theorem dX5_says_4 : decode cX5_says 4 = .ok (.ifCond .ne 5, 3) := by decide +kernel
theorem dX5_says_7 : decode cX5_says 7 = .ok (.iconst (-1), 1) := by decide +kernel
theorem dX5_says_8 : decode cX5_says 8 = .ok (.ireturn, 1) := by decide +kernel
theorem dX5_says_9 : decode cX5_says 9 = .ok (.aload_n 0, 1) := by decide +kernel
theorem dX5_says_10 : decode cX5_says 10 = .ok (.aload_n 0, 1) := by decide +kernel
theorem dX5_says_11 : decode cX5_says 11 = .ok (.getfield 10, 3) := by decide +kernel
theorem dX5_says_14 : decode cX5_says 14 = .ok (.iload_n 1, 1) := by decide +kernel
theorem dX5_says_15 : decode cX5_says 15 = .ok (.iconst 1, 1) := by decide +kernel
theorem dX5_says_16 : decode cX5_says 16 = .ok (.iadd, 1) := by decide +kernel
theorem dX5_says_17 : decode cX5_says 17 = .ok (.invokevirtual 170, 3) := by decide +kernel
theorem dX5_says_20 : decode cX5_says 20 = .ok (.aload_n 0, 1) := by decide +kernel
theorem dX5_says_21 : decode cX5_says 21 = .ok (.getfield 29, 3) := by decide +kernel
theorem dX5_says_24 : decode cX5_says 24 = .ok (.iload_n 1, 1) := by decide +kernel
theorem dX5_says_25 : decode cX5_says 25 = .ok (.iaload, 1) := by decide +kernel
theorem dX5_says_26 : decode cX5_says 26 = .ok (.ireturn, 1) := by decide +kernel
abbrev rmX5_says : Room := { frames := 5, cells := 0, slots := 0, locals := 128 }
def opX5_says (po : Int32 → px_St → Prop) : List (Nat × px_Op) := [
  (0, px_il 1 1),
  (1, px_callS 4 1 px_vI prX5_isDays poX5_isDays),
  (4, px_if 7 9 (fun x => ¬ x = 0)),
  (7, px_push 8 (.int (-1))),
  (8, px_iret (.int) po),
  (9, px_al 10 0),
  (10, px_al 11 0),
  (11, px_get dC 14 5 0),
  (14, px_il 15 1),
  (15, px_push 16 (.int 1)),
  (16, px_bin 17 (fun x y => x + y)),
  (17, px_callV dC 20 5 2 px_vV prX5_foretell poX5_foretell),
  (20, px_al 21 0),
  (21, px_get dC 24 5 4),
  (24, px_il 25 1),
  (25, px_ald dC 26 0),
  (26, px_iret (.int) po)]
set_option maxRecDepth 100000 in
set_option maxHeartbeats 4000000 in
theorem okX5_says : ∀ (po : Int32 → px_St → Prop) (i pc : Nat) (op : px_Op), (opX5_says po)[i]? = some (pc, op) → px_Snd (cX5_says, 2, RX5, Cond.code yX5_says cX5_says 2 (some .int) :: wdC, (some .int), rmX5_says, dC) px_vI po pc op := by
  intro po
  unfold opX5_says
  refine px_ok_cons (ps_iload_n dX5_says_0 rfl) ?_
  refine px_ok_cons (ps_callS mX5_isDays (fun _ _ => rfl) (fun _ _ ht => px_cwS wgC (wdC_8_in _ (List.mem_of_getElem? (i := 1) rfl)) (wdC_8_in _ (List.mem_of_getElem? (i := 2) rfl)) (wdC_4_in _ (List.mem_of_getElem? (i := 23) rfl)) (wdC_7_in _ (List.mem_of_getElem? (i := 39) rfl)) (by decide +kernel) rfl rfl (by decide) ht) dX5_says_1) ?_
  refine px_ok_cons (ps_if_ne dX5_says_4 (by decide)) ?_
  refine px_ok_cons (ps_iconst dX5_says_7 (by decide)) ?_
  refine px_ok_cons (ps_ireturn rfl dX5_says_8) ?_
  refine px_ok_cons (ps_aload_n dX5_says_9 rfl) ?_
  refine px_ok_cons (ps_aload_n dX5_says_10 rfl) ?_
  refine px_ok_cons (fgX5_10 dX5_says_11) ?_
  refine px_ok_cons (ps_iload_n dX5_says_14 rfl) ?_
  refine px_ok_cons (ps_iconst dX5_says_15 (by decide)) ?_
  refine px_ok_cons (ps_iadd dX5_says_16) ?_
  refine px_ok_cons (ps_callV mX5_foretell (fun _ _ => rfl) (C := RX5) rfl (fun _ _ ht => px_cwV wgC (wdC_8_in _ (List.mem_of_getElem? (i := 3) rfl)) (wdC_8_in _ (List.mem_of_getElem? (i := 4) rfl)) (wdC_8_in _ (List.mem_of_getElem? (i := 5) rfl)) (wdC_4_in _ (List.mem_of_getElem? (i := 23) rfl)) (wdC_8_in _ (List.mem_of_getElem? (i := 0) rfl)) (by decide +kernel) rfl rfl (by decide) ht) dX5_says_17) ?_
  refine px_ok_cons (ps_aload_n dX5_says_20 rfl) ?_
  refine px_ok_cons (fgX5_29 dX5_says_21) ?_
  refine px_ok_cons (ps_iload_n dX5_says_24 rfl) ?_
  refine px_ok_cons (ps_iaload dX5_says_25) ?_
  refine px_ok_cons (ps_ireturn rfl dX5_says_26) ?_
  exact px_ok_nil
set_option maxRecDepth 100000 in
set_option maxHeartbeats 4000000 in
theorem sgX5_says_0 {po : Int32 → px_St → Prop} {G : px_K} (hG : px_cl (opX5_says po) G) (v1 : Int32) (σ : px_St)
    (H : ∃ g3 : gtX5_isDays, qrX5_isDays g3 v1 σ ∧ ∀ (r1 : Int32) (σ2 : px_St), qoX5_isDays g3 v1 σ r1 σ2 → ((¬ r1 = 0) → ∃ g7 : gtX5_foretell, qrX5_foretell g7 8 (v1 + (1 : Int32)) σ2 ∧ ∀ (r5 : Unit) (σ6 : px_St), qoX5_foretell g7 8 (v1 + (1 : Int32)) σ2 r5 σ6 → vp_in v1 62 ∧ po (σ6.1 1 v1.toNatClampNeg) σ6) ∧ (¬ (¬ r1 = 0) → po (-1 : Int32) σ2)) :
    G 0 (px_ent 2 [.ref 0, .int v1]) [] σ := by
  refine hG.1 0 _ _ rfl _ _ _ ?_
  refine hG.1 1 _ _ rfl _ _ _ ?_
  obtain ⟨g3, H⟩ := H
  refine ⟨Nat.le_of_ble_eq_true rfl, Nat.le_of_ble_eq_true rfl, g3, ⟨_, rfl, H.1⟩, fun r1 σ2 hp4 => ?_⟩
  replace H := H.2 r1 σ2 hp4
  refine hG.1 2 _ _ rfl _ _ _ ?_
  refine ⟨fun h9 => ?_, fun h9 => ?_⟩
  · replace H := H.1 h9
    refine hG.1 5 _ _ rfl _ _ _ ?_
    refine hG.1 6 _ _ rfl _ _ _ ?_
    refine hG.1 7 _ _ rfl _ _ _ ?_
    refine ⟨⟨rfl, by decide⟩, ?_⟩
    refine hG.1 8 _ _ rfl _ _ _ ?_
    refine hG.1 9 _ _ rfl _ _ _ ?_
    refine hG.1 10 _ _ rfl _ _ _ ?_
    refine hG.1 11 _ _ rfl _ _ _ ?_
    obtain ⟨g7, H⟩ := H
    refine ⟨⟨rfl, by decide⟩, Nat.le_of_ble_eq_true rfl, g7, ⟨_, _, rfl, (Or.inl rfl), H.1⟩, fun r5 σ6 hp8 => ?_⟩
    replace H := H.2 r5 σ6 hp8
    refine hG.1 12 _ _ rfl _ _ _ ?_
    refine hG.1 13 _ _ rfl _ _ _ ?_
    refine ⟨⟨rfl, by decide⟩, ?_⟩
    refine hG.1 14 _ _ rfl _ _ _ ?_
    refine hG.1 15 _ _ rfl _ _ _ ?_
    refine ⟨⟨rfl, by decide⟩, H.1, ?_⟩
    replace H := H.2
    refine hG.1 16 _ _ rfl _ _ _ ?_
    exact ⟨rfl, H⟩
  · replace H := H.2 h9
    refine hG.1 3 _ _ rfl _ _ _ ?_
    refine hG.1 4 _ _ rfl _ _ _ ?_
    exact ⟨rfl, H⟩
set_option maxRecDepth 100000 in
set_option maxHeartbeats 4000000 in
theorem hhX5_says (g : gtX5_says) (v1 : Int32) (σ : px_St) (h : qrX5_says g v1 σ) (G : px_K) (hG : px_cl (opX5_says (qoX5_says g v1 σ)) G) : G 0 (px_ent 2 [.ref 0, .int v1]) [] σ := by
  obtain ⟨hX, hok⟩ := h
  have hd := hok.1.2
  refine sgX5_says_0 hG _ σ ⟨(), trivial, fun r1 σ1 h1 => ?_⟩
  obtain ⟨rfl, b1⟩ := h1
  unfold qoX5_says x_says
  refine bz1 b1 (fun z => ?_) (fun z => ?_)
  · rw [xif_t z]
    obtain ⟨n, hn, rfl⟩ := (rngc 60 60 rfl (by omega)).mp z
    rw [nI_1]
    refine ⟨(g.1, n + 1), ⟨by omega, hX.1, hok.1.1, by omega, by omega, rfl⟩, fun _ σ2 hq => ?_⟩
    obtain ⟨-, q2, q3⟩ := hq
    rw [nI_clamp (by omega)]
    exact ⟨vp_in_nI (by omega) (by decide), q2 n (by omega), q3.cl hX⟩
  · rw [xif_f z]
    exact ⟨rfl, hX⟩
theorem mX5_says (g : gtX5_says) : px_Met dC yX5_says (Cond.code yX5_says cX5_says 2 (some .int) :: wdC) rmX5_says px_vI (prX5_says g) (poX5_says g) :=
  px_met (Z := (cX5_says, 2, RX5, Cond.code yX5_says cX5_says 2 (some .int) :: wdC, (some .int), rmX5_says, dC)) opX5_says (by decide) rfl rfl okX5_says (fun As σ h => by obtain ⟨v1, rfl, h⟩ := h; exact Nat.le_of_ble_eq_true rfl) (fun As σ h G hG => by obtain ⟨v1, rfl, h⟩ := h; exact hhX5_says g v1 σ h G hG)
abbrev gtX5_when : Type := pv_X
def qrX5_when (X : pv_X) (_ : Int32) (σ : px_St) : Prop := cl_is σ X ∧ xo X
def qoX5_when (X : pv_X) (v : Int32) (_ : px_St) (r : Int32) (σ' : px_St) : Prop := r = (x_when X v).1 ∧ cl_is σ' (x_when X v).2
def prX5_when (g : gtX5_when) : List Value → px_St → Prop := fun As σ => ∃ v1 : Int32, As = [.ref 0, .int v1] ∧ qrX5_when g v1 σ
def poX5_when (g : gtX5_when) : List Value → px_St → Int32 → px_St → Prop
  | [.ref _, .int v1], σ, r, σ' => qoX5_when g v1 σ r σ'
  | _, _, _, _ => False
theorem dX5_when_0 : decode cX5_when 0 = .ok (.iload_n 1, 1) := by decide +kernel
theorem dX5_when_1 : decode cX5_when 1 = .ok (.invokestatic 132, 3) := by decide +kernel
theorem dX5_when_4 : decode cX5_when 4 = .ok (.ifCond .ne 5, 3) := by decide +kernel
theorem dX5_when_7 : decode cX5_when 7 = .ok (.iconst (-1), 1) := by decide +kernel
theorem dX5_when_8 : decode cX5_when 8 = .ok (.ireturn, 1) := by decide +kernel
theorem dX5_when_9 : decode cX5_when 9 = .ok (.aload_n 0, 1) := by decide +kernel
theorem dX5_when_10 : decode cX5_when 10 = .ok (.aload_n 0, 1) := by decide +kernel
theorem dX5_when_11 : decode cX5_when 11 = .ok (.getfield 10, 3) := by decide +kernel
theorem dX5_when_14 : decode cX5_when 14 = .ok (.iload_n 1, 1) := by decide +kernel
theorem dX5_when_15 : decode cX5_when 15 = .ok (.invokevirtual 174, 3) := by decide +kernel
theorem dX5_when_18 : decode cX5_when 18 = .ok (.istore_n 2, 1) := by decide +kernel
theorem dX5_when_19 : decode cX5_when 19 = .ok (.iload_n 2, 1) := by decide +kernel
theorem dX5_when_20 : decode cX5_when 20 = .ok (.bipush 60, 2) := by decide +kernel
theorem dX5_when_22 : decode cX5_when 22 = .ok (.if_icmp .le 8, 3) := by decide +kernel
theorem dX5_when_25 : decode cX5_when 25 = .ok (.bipush (-4), 2) := by decide +kernel
theorem dX5_when_27 : decode cX5_when 27 = .ok (.goto 4, 3) := by decide +kernel
theorem dX5_when_30 : decode cX5_when 30 = .ok (.iload_n 2, 1) := by decide +kernel
theorem dX5_when_31 : decode cX5_when 31 = .ok (.ireturn, 1) := by decide +kernel
abbrev rmX5_when : Room := { frames := 6, cells := 0, slots := 0, locals := 151 }
def opX5_when (po : Int32 → px_St → Prop) : List (Nat × px_Op) := [
  (0, px_il 1 1),
  (1, px_callS 4 1 px_vI prX5_isSound poX5_isSound),
  (4, px_if 7 9 (fun x => ¬ x = 0)),
  (7, px_push 8 (.int (-1))),
  (8, px_iret (.int) po),
  (9, px_al 10 0),
  (10, px_al 11 0),
  (11, px_get dC 14 5 0),
  (14, px_il 15 1),
  (15, px_callV dC 18 5 2 px_vI prX5_firstSaid poX5_firstSaid),
  (18, px_is 19 2),
  (19, px_il 20 2),
  (20, px_push 22 (.int 60)),
  (22, px_ic 25 30 (fun x y => x ≤ y)),
  (25, px_push 27 (.int (-4))),
  (27, px_go 31),
  (30, px_il 31 2),
  (31, px_iret (.int) po)]
set_option maxRecDepth 100000 in
set_option maxHeartbeats 4000000 in
theorem okX5_when : ∀ (po : Int32 → px_St → Prop) (i pc : Nat) (op : px_Op), (opX5_when po)[i]? = some (pc, op) → px_Snd (cX5_when, 3, RX5, Cond.code yX5_when cX5_when 3 (some .int) :: wdC, (some .int), rmX5_when, dC) px_vI po pc op := by
  intro po
  unfold opX5_when
  refine px_ok_cons (ps_iload_n dX5_when_0 rfl) ?_
  refine px_ok_cons (ps_callS mX5_isSound (fun _ _ => rfl) (fun _ _ ht => px_cwS wgC (wdC_7_in _ (List.mem_of_getElem? (i := 5) rfl)) (wdC_4_in _ (List.mem_of_getElem? (i := 32) rfl)) (wdC_4_in _ (List.mem_of_getElem? (i := 23) rfl)) (wdC_4_in _ (List.mem_of_getElem? (i := 28) rfl)) (by decide +kernel) rfl rfl (by decide) ht) dX5_when_1) ?_
  refine px_ok_cons (ps_if_ne dX5_when_4 (by decide)) ?_
  refine px_ok_cons (ps_iconst dX5_when_7 (by decide)) ?_
  refine px_ok_cons (ps_ireturn rfl dX5_when_8) ?_
  refine px_ok_cons (ps_aload_n dX5_when_9 rfl) ?_
  refine px_ok_cons (ps_aload_n dX5_when_10 rfl) ?_
  refine px_ok_cons (fgX5_10 dX5_when_11) ?_
  refine px_ok_cons (ps_iload_n dX5_when_14 rfl) ?_
  refine px_ok_cons (ps_callV mX5_firstSaid (fun _ _ => rfl) (C := RX5) rfl (fun _ _ ht => px_cwV wgC (wdC_8_in _ (List.mem_of_getElem? (i := 8) rfl)) (wdC_8_in _ (List.mem_of_getElem? (i := 9) rfl)) (wdC_8_in _ (List.mem_of_getElem? (i := 10) rfl)) (wdC_4_in _ (List.mem_of_getElem? (i := 23) rfl)) (wdC_8_in _ (List.mem_of_getElem? (i := 7) rfl)) (by decide +kernel) rfl rfl (by decide) ht) dX5_when_15) ?_
  refine px_ok_cons (ps_istore_n dX5_when_18 rfl (by decide)) ?_
  refine px_ok_cons (ps_iload_n dX5_when_19 rfl) ?_
  refine px_ok_cons (ps_bipush dX5_when_20 (by decide)) ?_
  refine px_ok_cons (ps_icmp_le dX5_when_22 (by decide)) ?_
  refine px_ok_cons (ps_bipush dX5_when_25 (by decide)) ?_
  refine px_ok_cons (ps_goto dX5_when_27 (by decide)) ?_
  refine px_ok_cons (ps_iload_n dX5_when_30 rfl) ?_
  refine px_ok_cons (ps_ireturn rfl dX5_when_31) ?_
  exact px_ok_nil
set_option maxRecDepth 100000 in
set_option maxHeartbeats 4000000 in
theorem sgX5_when_0 {po : Int32 → px_St → Prop} {G : px_K} (hG : px_cl (opX5_when po) G) (v1 : Int32) (σ : px_St)
    (H : ∃ g3 : gtX5_isSound, qrX5_isSound g3 v1 σ ∧ ∀ (r1 : Int32) (σ2 : px_St), qoX5_isSound g3 v1 σ r1 σ2 → ((¬ r1 = 0) → ∃ g7 : gtX5_firstSaid, qrX5_firstSaid g7 8 v1 σ2 ∧ ∀ (r5 : Int32) (σ6 : px_St), qoX5_firstSaid g7 8 v1 σ2 r5 σ6 → ((r5 ≤ (60 : Int32)) → po r5 σ6) ∧ (¬ (r5 ≤ (60 : Int32)) → po (-4 : Int32) σ6)) ∧ (¬ (¬ r1 = 0) → po (-1 : Int32) σ2)) :
    G 0 (px_ent 3 [.ref 0, .int v1]) [] σ := by
  refine hG.1 0 _ _ rfl _ _ _ ?_
  refine hG.1 1 _ _ rfl _ _ _ ?_
  obtain ⟨g3, H⟩ := H
  refine ⟨Nat.le_of_ble_eq_true rfl, Nat.le_of_ble_eq_true rfl, g3, ⟨_, rfl, H.1⟩, fun r1 σ2 hp4 => ?_⟩
  replace H := H.2 r1 σ2 hp4
  refine hG.1 2 _ _ rfl _ _ _ ?_
  refine ⟨fun h10 => ?_, fun h10 => ?_⟩
  · replace H := H.1 h10
    refine hG.1 5 _ _ rfl _ _ _ ?_
    refine hG.1 6 _ _ rfl _ _ _ ?_
    refine hG.1 7 _ _ rfl _ _ _ ?_
    refine ⟨⟨rfl, by decide⟩, ?_⟩
    refine hG.1 8 _ _ rfl _ _ _ ?_
    refine hG.1 9 _ _ rfl _ _ _ ?_
    obtain ⟨g7, H⟩ := H
    refine ⟨⟨rfl, by decide⟩, Nat.le_of_ble_eq_true rfl, g7, ⟨_, _, rfl, (Or.inl rfl), H.1⟩, fun r5 σ6 hp8 => ?_⟩
    replace H := H.2 r5 σ6 hp8
    refine hG.1 10 _ _ rfl _ _ _ ?_
    show G 19 [some (.ref 0), some (.int v1), some (.int r5)] [] σ6
    refine hG.1 11 _ _ rfl _ _ _ ?_
    refine hG.1 12 _ _ rfl _ _ _ ?_
    refine hG.1 13 _ _ rfl _ _ _ ?_
    refine ⟨fun h9 => ?_, fun h9 => ?_⟩
    · replace H := H.1 h9
      refine hG.1 16 _ _ rfl _ _ _ ?_
      refine hG.1 17 _ _ rfl _ _ _ ?_
      exact ⟨rfl, H⟩
    · replace H := H.2 h9
      refine hG.1 14 _ _ rfl _ _ _ ?_
      refine hG.1 15 _ _ rfl _ _ _ ?_
      refine hG.1 17 _ _ rfl _ _ _ ?_
      exact ⟨rfl, H⟩
  · replace H := H.2 h10
    refine hG.1 3 _ _ rfl _ _ _ ?_
    refine hG.1 4 _ _ rfl _ _ _ ?_
    exact ⟨rfl, H⟩
set_option maxRecDepth 100000 in
set_option maxHeartbeats 4000000 in
theorem hhX5_when (g : gtX5_when) (v1 : Int32) (σ : px_St) (h : qrX5_when g v1 σ) (G : px_K) (hG : px_cl (opX5_when (qoX5_when g v1 σ)) G) : G 0 (px_ent 3 [.ref 0, .int v1]) [] σ := by
  obtain ⟨hX, hok⟩ := h
  have hd := hok.1.2
  refine sgX5_when_0 hG _ σ ⟨(), trivial, fun r1 σ1 h1 => ?_⟩
  obtain ⟨rfl, b1⟩ := h1
  unfold qoX5_when x_when
  refine bz1 b1 (fun z => ?_) (fun z => ?_)
  · rw [xif_t z]
    obtain ⟨s, hs, rfl⟩ := (rngc 9 9 rfl (by omega)).mp z
    refine ⟨(g.1, s), ⟨by omega, hX.1, hok.1.1, by omega, rfl⟩, fun _ σ2 hq => ?_⟩
    obtain ⟨rfl, q3⟩ := hq
    rw [nI_clamp (by omega)]
    have hf := pv_ff_le g.1 s 61 0 (by omega)
    have c1 : nI (pv_ff g.1 s 61 0) ≤ 60 ↔ pv_ff g.1 s 61 0 ≤ 60 := nIle _ 60 rfl rfl (by omega) (by omega)
    rw [c1]
    refine ⟨fun y => ⟨?_, q3.cl hX⟩, fun y => ⟨?_, q3.cl hX⟩⟩
    · show _ = if _ then _ else _
      rw [if_pos y]
    · show _ = if _ then _ else _
      rw [if_neg y]
  · rw [xif_f z]
    exact ⟨rfl, hX⟩
theorem mX5_when (g : gtX5_when) : px_Met dC yX5_when (Cond.code yX5_when cX5_when 3 (some .int) :: wdC) rmX5_when px_vI (prX5_when g) (poX5_when g) :=
  px_met (Z := (cX5_when, 3, RX5, Cond.code yX5_when cX5_when 3 (some .int) :: wdC, (some .int), rmX5_when, dC)) opX5_when (by decide) rfl rfl okX5_when (fun As σ h => by obtain ⟨v1, rfl, h⟩ := h; exact Nat.le_of_ble_eq_true rfl) (fun As σ h G hG => by obtain ⟨v1, rfl, h⟩ := h; exact hhX5_when g v1 σ h G hG)
abbrev gtX5_often : Type := pv_X
def qrX5_often (X : pv_X) (_ _ : Int32) (σ : px_St) : Prop := cl_is σ X ∧ xo X
def qoX5_often (X : pv_X) (s n : Int32) (_ : px_St) (r : Int32) (σ' : px_St) : Prop := r = (x_often X s n).1 ∧ cl_is σ' (x_often X s n).2
def prX5_often (g : gtX5_often) : List Value → px_St → Prop := fun As σ => ∃ v1 : Int32, ∃ v2 : Int32, As = [.ref 0, .int v1, .int v2] ∧ qrX5_often g v1 v2 σ
def poX5_often (g : gtX5_often) : List Value → px_St → Int32 → px_St → Prop
  | [.ref _, .int v1, .int v2], σ, r, σ' => qoX5_often g v1 v2 σ r σ'
  | _, _, _, _ => False
theorem dX5_often_0 : decode cX5_often 0 = .ok (.iload_n 1, 1) := by decide +kernel
theorem dX5_often_1 : decode cX5_often 1 = .ok (.invokestatic 132, 3) := by decide +kernel
theorem dX5_often_4 : decode cX5_often 4 = .ok (.ifCond .eq 23, 3) := by decide +kernel
theorem dX5_often_7 : decode cX5_often 7 = .ok (.iload_n 2, 1) := by decide +kernel
theorem dX5_often_8 : decode cX5_often 8 = .ok (.invokestatic 167, 3) := by decide +kernel
theorem dX5_often_11 : decode cX5_often 11 = .ok (.ifCond .eq 16, 3) := by decide +kernel
theorem dX5_often_14 : decode cX5_often 14 = .ok (.aload_n 0, 1) := by decide +kernel
theorem dX5_often_15 : decode cX5_often 15 = .ok (.aload_n 0, 1) := by decide +kernel
theorem dX5_often_16 : decode cX5_often 16 = .ok (.getfield 10, 3) := by decide +kernel
theorem dX5_often_19 : decode cX5_often 19 = .ok (.iload_n 1, 1) := by decide +kernel
theorem dX5_often_20 : decode cX5_often 20 = .ok (.iload_n 2, 1) := by decide +kernel
theorem dX5_often_21 : decode cX5_often 21 = .ok (.invokevirtual 178, 3) := by decide +kernel
theorem dX5_often_24 : decode cX5_often 24 = .ok (.goto 4, 3) := by decide +kernel
theorem dX5_often_27 : decode cX5_often 27 = .ok (.iconst (-1), 1) := by decide +kernel
theorem dX5_often_28 : decode cX5_often 28 = .ok (.ireturn, 1) := by decide +kernel
abbrev rmX5_often : Room := { frames := 6, cells := 0, slots := 0, locals := 153 }
def opX5_often (po : Int32 → px_St → Prop) : List (Nat × px_Op) := [
  (0, px_il 1 1),
  (1, px_callS 4 1 px_vI prX5_isSound poX5_isSound),
  (4, px_if 7 27 (fun x => x = 0)),
  (7, px_il 8 2),
  (8, px_callS 11 1 px_vI prX5_isDays poX5_isDays),
  (11, px_if 14 27 (fun x => x = 0)),
  (14, px_al 15 0),
  (15, px_al 16 0),
  (16, px_get dC 19 5 0),
  (19, px_il 20 1),
  (20, px_il 21 2),
  (21, px_callV dC 24 5 3 px_vI prX5_timesSaid poX5_timesSaid),
  (24, px_go 28),
  (27, px_push 28 (.int (-1))),
  (28, px_iret (.int) po)]
set_option maxRecDepth 100000 in
set_option maxHeartbeats 4000000 in
theorem okX5_often : ∀ (po : Int32 → px_St → Prop) (i pc : Nat) (op : px_Op), (opX5_often po)[i]? = some (pc, op) → px_Snd (cX5_often, 3, RX5, Cond.code yX5_often cX5_often 3 (some .int) :: wdC, (some .int), rmX5_often, dC) px_vI po pc op := by
  intro po
  unfold opX5_often
  refine px_ok_cons (ps_iload_n dX5_often_0 rfl) ?_
  refine px_ok_cons (ps_callS mX5_isSound (fun _ _ => rfl) (fun _ _ ht => px_cwS wgC (wdC_7_in _ (List.mem_of_getElem? (i := 5) rfl)) (wdC_4_in _ (List.mem_of_getElem? (i := 32) rfl)) (wdC_4_in _ (List.mem_of_getElem? (i := 23) rfl)) (wdC_4_in _ (List.mem_of_getElem? (i := 28) rfl)) (by decide +kernel) rfl rfl (by decide) ht) dX5_often_1) ?_
  refine px_ok_cons (ps_if_eq dX5_often_4 (by decide)) ?_
  refine px_ok_cons (ps_iload_n dX5_often_7 rfl) ?_
  refine px_ok_cons (ps_callS mX5_isDays (fun _ _ => rfl) (fun _ _ ht => px_cwS wgC (wdC_8_in _ (List.mem_of_getElem? (i := 1) rfl)) (wdC_8_in _ (List.mem_of_getElem? (i := 2) rfl)) (wdC_4_in _ (List.mem_of_getElem? (i := 23) rfl)) (wdC_7_in _ (List.mem_of_getElem? (i := 39) rfl)) (by decide +kernel) rfl rfl (by decide) ht) dX5_often_8) ?_
  refine px_ok_cons (ps_if_eq dX5_often_11 (by decide)) ?_
  refine px_ok_cons (ps_aload_n dX5_often_14 rfl) ?_
  refine px_ok_cons (ps_aload_n dX5_often_15 rfl) ?_
  refine px_ok_cons (fgX5_10 dX5_often_16) ?_
  refine px_ok_cons (ps_iload_n dX5_often_19 rfl) ?_
  refine px_ok_cons (ps_iload_n dX5_often_20 rfl) ?_
  refine px_ok_cons (ps_callV mX5_timesSaid (fun _ _ => rfl) (C := RX5) rfl (fun _ _ ht => px_cwV wgC (wdC_8_in _ (List.mem_of_getElem? (i := 13) rfl)) (wdC_8_in _ (List.mem_of_getElem? (i := 14) rfl)) (wdC_8_in _ (List.mem_of_getElem? (i := 15) rfl)) (wdC_4_in _ (List.mem_of_getElem? (i := 23) rfl)) (wdC_8_in _ (List.mem_of_getElem? (i := 12) rfl)) (by decide +kernel) rfl rfl (by decide) ht) dX5_often_21) ?_
  refine px_ok_cons (ps_goto dX5_often_24 (by decide)) ?_
  refine px_ok_cons (ps_iconst dX5_often_27 (by decide)) ?_
  refine px_ok_cons (ps_ireturn rfl dX5_often_28) ?_
  exact px_ok_nil
set_option maxRecDepth 100000 in
set_option maxHeartbeats 4000000 in
theorem sgX5_often_0 {po : Int32 → px_St → Prop} {G : px_K} (hG : px_cl (opX5_often po) G) (v1 : Int32) (v2 : Int32) (σ : px_St)
    (H : ∃ g3 : gtX5_isSound, qrX5_isSound g3 v1 σ ∧ ∀ (r1 : Int32) (σ2 : px_St), qoX5_isSound g3 v1 σ r1 σ2 → ((r1 = 0) → po (-1 : Int32) σ2) ∧ (¬ (r1 = 0) → ∃ g7 : gtX5_isDays, qrX5_isDays g7 v2 σ2 ∧ ∀ (r5 : Int32) (σ6 : px_St), qoX5_isDays g7 v2 σ2 r5 σ6 → ((r5 = 0) → po (-1 : Int32) σ6) ∧ (¬ (r5 = 0) → ∃ g11 : gtX5_timesSaid, qrX5_timesSaid g11 8 v1 v2 σ6 ∧ ∀ (r9 : Int32) (σ10 : px_St), qoX5_timesSaid g11 8 v1 v2 σ6 r9 σ10 → po r9 σ10))) :
    G 0 (px_ent 3 [.ref 0, .int v1, .int v2]) [] σ := by
  refine hG.1 0 _ _ rfl _ _ _ ?_
  refine hG.1 1 _ _ rfl _ _ _ ?_
  obtain ⟨g3, H⟩ := H
  refine ⟨Nat.le_of_ble_eq_true rfl, Nat.le_of_ble_eq_true rfl, g3, ⟨_, rfl, H.1⟩, fun r1 σ2 hp4 => ?_⟩
  replace H := H.2 r1 σ2 hp4
  refine hG.1 2 _ _ rfl _ _ _ ?_
  refine ⟨fun h14 => ?_, fun h14 => ?_⟩
  · replace H := H.1 h14
    refine hG.1 13 _ _ rfl _ _ _ ?_
    refine hG.1 14 _ _ rfl _ _ _ ?_
    exact ⟨rfl, H⟩
  · replace H := H.2 h14
    refine hG.1 3 _ _ rfl _ _ _ ?_
    refine hG.1 4 _ _ rfl _ _ _ ?_
    obtain ⟨g7, H⟩ := H
    refine ⟨Nat.le_of_ble_eq_true rfl, Nat.le_of_ble_eq_true rfl, g7, ⟨_, rfl, H.1⟩, fun r5 σ6 hp8 => ?_⟩
    replace H := H.2 r5 σ6 hp8
    refine hG.1 5 _ _ rfl _ _ _ ?_
    refine ⟨fun h13 => ?_, fun h13 => ?_⟩
    · replace H := H.1 h13
      refine hG.1 13 _ _ rfl _ _ _ ?_
      refine hG.1 14 _ _ rfl _ _ _ ?_
      exact ⟨rfl, H⟩
    · replace H := H.2 h13
      refine hG.1 6 _ _ rfl _ _ _ ?_
      refine hG.1 7 _ _ rfl _ _ _ ?_
      refine hG.1 8 _ _ rfl _ _ _ ?_
      refine ⟨⟨rfl, by decide⟩, ?_⟩
      refine hG.1 9 _ _ rfl _ _ _ ?_
      refine hG.1 10 _ _ rfl _ _ _ ?_
      refine hG.1 11 _ _ rfl _ _ _ ?_
      obtain ⟨g11, H⟩ := H
      refine ⟨⟨rfl, by decide⟩, Nat.le_of_ble_eq_true rfl, g11, ⟨_, _, _, rfl, (Or.inl rfl), H.1⟩, fun r9 σ10 hp12 => ?_⟩
      replace H := H.2 r9 σ10 hp12
      refine hG.1 12 _ _ rfl _ _ _ ?_
      refine hG.1 14 _ _ rfl _ _ _ ?_
      exact ⟨rfl, H⟩
set_option maxRecDepth 100000 in
set_option maxHeartbeats 4000000 in
theorem hhX5_often (g : gtX5_often) (v1 : Int32) (v2 : Int32) (σ : px_St) (h : qrX5_often g v1 v2 σ) (G : px_K) (hG : px_cl (opX5_often (qoX5_often g v1 v2 σ)) G) : G 0 (px_ent 3 [.ref 0, .int v1, .int v2]) [] σ := by
  obtain ⟨hX, hok⟩ := h
  have hd := hok.1.2
  refine sgX5_often_0 hG _ _ σ ⟨(), trivial, fun r1 σ1 h1 => ?_⟩
  obtain ⟨rfl, b1⟩ := h1
  unfold qoX5_often x_often
  refine bz2 b1 (fun z => ⟨(), trivial, fun r2 σ2 h2 => ?_⟩) (fun z => ?_)
  · obtain ⟨rfl, b2⟩ := h2
    refine bz2 b2 (fun y => ?_) (fun y => ?_)
    · rw [xif_t ⟨z, y⟩]
      obtain ⟨s, hs, rfl⟩ := (rngc 9 9 rfl (by omega)).mp z
      obtain ⟨n, hn, rfl⟩ := (rngc 60 60 rfl (by omega)).mp y
      refine ⟨(g.1, s, n), ⟨by omega, hX.1, hok.1.1, by omega, by omega, rfl, rfl⟩, fun _ σ3 hq => ?_⟩
      obtain ⟨rfl, q3⟩ := hq
      rw [nI_clamp (by omega), nI_clamp (by omega)]
      exact ⟨rfl, q3.cl hX⟩
    · rw [xif_f (fun q => y q.2)]
      exact ⟨rfl, hX⟩
  · rw [xif_f (fun q => z q.1)]
    exact ⟨rfl, hX⟩
theorem mX5_often (g : gtX5_often) : px_Met dC yX5_often (Cond.code yX5_often cX5_often 3 (some .int) :: wdC) rmX5_often px_vI (prX5_often g) (poX5_often g) :=
  px_met (Z := (cX5_often, 3, RX5, Cond.code yX5_often cX5_often 3 (some .int) :: wdC, (some .int), rmX5_often, dC)) opX5_often (by decide) rfl rfl okX5_often (fun As σ h => by obtain ⟨v1, v2, rfl, h⟩ := h; exact Nat.le_of_ble_eq_true rfl) (fun As σ h G hG => by obtain ⟨v1, v2, rfl, h⟩ := h; exact hhX5_often g v1 v2 σ h G hG)
abbrev gtX5_phrase : Type := pv_X
def qrX5_phrase (X : pv_X) (_ _ : Int32) (σ : px_St) : Prop := cl_is σ X ∧ xo X
def qoX5_phrase (X : pv_X) (s n : Int32) (_ : px_St) (r : Int32) (σ' : px_St) : Prop := r = (x_phrase X s n).1 ∧ cl_is σ' (x_phrase X s n).2
def prX5_phrase (g : gtX5_phrase) : List Value → px_St → Prop := fun As σ => ∃ v1 : Int32, ∃ v2 : Int32, As = [.ref 0, .int v1, .int v2] ∧ qrX5_phrase g v1 v2 σ
def poX5_phrase (g : gtX5_phrase) : List Value → px_St → Int32 → px_St → Prop
  | [.ref _, .int v1, .int v2], σ, r, σ' => qoX5_phrase g v1 v2 σ r σ'
  | _, _, _, _ => False
theorem dX5_phrase_0 : decode cX5_phrase 0 = .ok (.iload_n 1, 1) := by decide +kernel
theorem dX5_phrase_1 : decode cX5_phrase 1 = .ok (.invokestatic 132, 3) := by decide +kernel
theorem dX5_phrase_4 : decode cX5_phrase 4 = .ok (.ifCond .eq 10, 3) := by decide +kernel
theorem dX5_phrase_7 : decode cX5_phrase 7 = .ok (.iload_n 2, 1) := by decide +kernel
theorem dX5_phrase_8 : decode cX5_phrase 8 = .ok (.invokestatic 132, 3) := by decide +kernel
theorem dX5_phrase_11 : decode cX5_phrase 11 = .ok (.ifCond .ne 5, 3) := by decide +kernel
theorem dX5_phrase_14 : decode cX5_phrase 14 = .ok (.iconst (-1), 1) := by decide +kernel
theorem dX5_phrase_15 : decode cX5_phrase 15 = .ok (.ireturn, 1) := by decide +kernel
theorem dX5_phrase_16 : decode cX5_phrase 16 = .ok (.aload_n 0, 1) := by decide +kernel
theorem dX5_phrase_17 : decode cX5_phrase 17 = .ok (.aload_n 0, 1) := by decide +kernel
theorem dX5_phrase_18 : decode cX5_phrase 18 = .ok (.getfield 10, 3) := by decide +kernel
theorem dX5_phrase_21 : decode cX5_phrase 21 = .ok (.bipush 62, 2) := by decide +kernel
theorem dX5_phrase_23 : decode cX5_phrase 23 = .ok (.invokevirtual 170, 3) := by decide +kernel
theorem dX5_phrase_26 : decode cX5_phrase 26 = .ok (.iconst 0, 1) := by decide +kernel
theorem dX5_phrase_27 : decode cX5_phrase 27 = .ok (.istore_n 3, 1) := by decide +kernel
theorem dX5_phrase_28 : decode cX5_phrase 28 = .ok (.iload_n 3, 1) := by decide +kernel
theorem dX5_phrase_29 : decode cX5_phrase 29 = .ok (.bipush 60, 2) := by decide +kernel
theorem dX5_phrase_31 : decode cX5_phrase 31 = .ok (.if_icmp .gt 33, 3) := by decide +kernel
theorem dX5_phrase_34 : decode cX5_phrase 34 = .ok (.aload_n 0, 1) := by decide +kernel
theorem dX5_phrase_35 : decode cX5_phrase 35 = .ok (.getfield 29, 3) := by decide +kernel
theorem dX5_phrase_38 : decode cX5_phrase 38 = .ok (.iload_n 3, 1) := by decide +kernel
theorem dX5_phrase_39 : decode cX5_phrase 39 = .ok (.iaload, 1) := by decide +kernel
theorem dX5_phrase_40 : decode cX5_phrase 40 = .ok (.iload_n 1, 1) := by decide +kernel
theorem dX5_phrase_41 : decode cX5_phrase 41 = .ok (.if_icmp .ne 17, 3) := by decide +kernel
theorem dX5_phrase_44 : decode cX5_phrase 44 = .ok (.aload_n 0, 1) := by decide +kernel
theorem dX5_phrase_45 : decode cX5_phrase 45 = .ok (.getfield 29, 3) := by decide +kernel
theorem dX5_phrase_48 : decode cX5_phrase 48 = .ok (.iload_n 3, 1) := by decide +kernel
theorem dX5_phrase_49 : decode cX5_phrase 49 = .ok (.iconst 1, 1) := by decide +kernel
theorem dX5_phrase_50 : decode cX5_phrase 50 = .ok (.iadd, 1) := by decide +kernel
theorem dX5_phrase_51 : decode cX5_phrase 51 = .ok (.iaload, 1) := by decide +kernel
theorem dX5_phrase_52 : decode cX5_phrase 52 = .ok (.iload_n 2, 1) := by decide +kernel
theorem dX5_phrase_53 : decode cX5_phrase 53 = .ok (.if_icmp .ne 5, 3) := by decide +kernel
theorem dX5_phrase_56 : decode cX5_phrase 56 = .ok (.iload_n 3, 1) := by decide +kernel
theorem dX5_phrase_57 : decode cX5_phrase 57 = .ok (.ireturn, 1) := by decide +kernel
theorem dX5_phrase_58 : decode cX5_phrase 58 = .ok (.iinc 3 1, 3) := by decide +kernel
theorem dX5_phrase_61 : decode cX5_phrase 61 = .ok (.goto (-33), 3) := by decide +kernel
theorem dX5_phrase_64 : decode cX5_phrase 64 = .ok (.bipush (-4), 2) := by decide +kernel
theorem dX5_phrase_66 : decode cX5_phrase 66 = .ok (.ireturn, 1) := by decide +kernel
abbrev rmX5_phrase : Room := { frames := 5, cells := 0, slots := 0, locals := 128 }
def opX5_phrase (po : Int32 → px_St → Prop) : List (Nat × px_Op) := [
  (0, px_il 1 1),
  (1, px_callS 4 1 px_vI prX5_isSound poX5_isSound),
  (4, px_if 7 14 (fun x => x = 0)),
  (7, px_il 8 2),
  (8, px_callS 11 1 px_vI prX5_isSound poX5_isSound),
  (11, px_if 14 16 (fun x => ¬ x = 0)),
  (14, px_push 15 (.int (-1))),
  (15, px_iret (.int) po),
  (16, px_al 17 0),
  (17, px_al 18 0),
  (18, px_get dC 21 5 0),
  (21, px_push 23 (.int 62)),
  (23, px_callV dC 26 5 2 px_vV prX5_foretell poX5_foretell),
  (26, px_push 27 (.int 0)),
  (27, px_is 28 3),
  (28, px_il 29 3),
  (29, px_push 31 (.int 60)),
  (31, px_ic 34 64 (fun x y => y < x)),
  (34, px_al 35 0),
  (35, px_get dC 38 5 4),
  (38, px_il 39 3),
  (39, px_ald dC 40 0),
  (40, px_il 41 1),
  (41, px_ic 44 58 (fun x y => ¬ x = y)),
  (44, px_al 45 0),
  (45, px_get dC 48 5 4),
  (48, px_il 49 3),
  (49, px_push 50 (.int 1)),
  (50, px_bin 51 (fun x y => x + y)),
  (51, px_ald dC 52 0),
  (52, px_il 53 2),
  (53, px_ic 56 58 (fun x y => ¬ x = y)),
  (56, px_il 57 3),
  (57, px_iret (.int) po),
  (58, px_inc 61 3 1),
  (61, px_go 28),
  (64, px_push 66 (.int (-4))),
  (66, px_iret (.int) po)]
set_option maxRecDepth 100000 in
set_option maxHeartbeats 4000000 in
theorem okX5_phrase : ∀ (po : Int32 → px_St → Prop) (i pc : Nat) (op : px_Op), (opX5_phrase po)[i]? = some (pc, op) → px_Snd (cX5_phrase, 4, RX5, Cond.code yX5_phrase cX5_phrase 4 (some .int) :: wdC, (some .int), rmX5_phrase, dC) px_vI po pc op := by
  intro po
  unfold opX5_phrase
  refine px_ok_cons (ps_iload_n dX5_phrase_0 rfl) ?_
  refine px_ok_cons (ps_callS mX5_isSound (fun _ _ => rfl) (fun _ _ ht => px_cwS wgC (wdC_7_in _ (List.mem_of_getElem? (i := 5) rfl)) (wdC_4_in _ (List.mem_of_getElem? (i := 32) rfl)) (wdC_4_in _ (List.mem_of_getElem? (i := 23) rfl)) (wdC_4_in _ (List.mem_of_getElem? (i := 28) rfl)) (by decide +kernel) rfl rfl (by decide) ht) dX5_phrase_1) ?_
  refine px_ok_cons (ps_if_eq dX5_phrase_4 (by decide)) ?_
  refine px_ok_cons (ps_iload_n dX5_phrase_7 rfl) ?_
  refine px_ok_cons (ps_callS mX5_isSound (fun _ _ => rfl) (fun _ _ ht => px_cwS wgC (wdC_7_in _ (List.mem_of_getElem? (i := 5) rfl)) (wdC_4_in _ (List.mem_of_getElem? (i := 32) rfl)) (wdC_4_in _ (List.mem_of_getElem? (i := 23) rfl)) (wdC_4_in _ (List.mem_of_getElem? (i := 28) rfl)) (by decide +kernel) rfl rfl (by decide) ht) dX5_phrase_8) ?_
  refine px_ok_cons (ps_if_ne dX5_phrase_11 (by decide)) ?_
  refine px_ok_cons (ps_iconst dX5_phrase_14 (by decide)) ?_
  refine px_ok_cons (ps_ireturn rfl dX5_phrase_15) ?_
  refine px_ok_cons (ps_aload_n dX5_phrase_16 rfl) ?_
  refine px_ok_cons (ps_aload_n dX5_phrase_17 rfl) ?_
  refine px_ok_cons (fgX5_10 dX5_phrase_18) ?_
  refine px_ok_cons (ps_bipush dX5_phrase_21 (by decide)) ?_
  refine px_ok_cons (ps_callV mX5_foretell (fun _ _ => rfl) (C := RX5) rfl (fun _ _ ht => px_cwV wgC (wdC_8_in _ (List.mem_of_getElem? (i := 3) rfl)) (wdC_8_in _ (List.mem_of_getElem? (i := 4) rfl)) (wdC_8_in _ (List.mem_of_getElem? (i := 5) rfl)) (wdC_4_in _ (List.mem_of_getElem? (i := 23) rfl)) (wdC_8_in _ (List.mem_of_getElem? (i := 0) rfl)) (by decide +kernel) rfl rfl (by decide) ht) dX5_phrase_23) ?_
  refine px_ok_cons (ps_iconst dX5_phrase_26 (by decide)) ?_
  refine px_ok_cons (ps_istore_n dX5_phrase_27 rfl (by decide)) ?_
  refine px_ok_cons (ps_iload_n dX5_phrase_28 rfl) ?_
  refine px_ok_cons (ps_bipush dX5_phrase_29 (by decide)) ?_
  refine px_ok_cons (ps_icmp_gt dX5_phrase_31 (by decide)) ?_
  refine px_ok_cons (ps_aload_n dX5_phrase_34 rfl) ?_
  refine px_ok_cons (fgX5_29 dX5_phrase_35) ?_
  refine px_ok_cons (ps_iload_n dX5_phrase_38 rfl) ?_
  refine px_ok_cons (ps_iaload dX5_phrase_39) ?_
  refine px_ok_cons (ps_iload_n dX5_phrase_40 rfl) ?_
  refine px_ok_cons (ps_icmp_ne dX5_phrase_41 (by decide)) ?_
  refine px_ok_cons (ps_aload_n dX5_phrase_44 rfl) ?_
  refine px_ok_cons (fgX5_29 dX5_phrase_45) ?_
  refine px_ok_cons (ps_iload_n dX5_phrase_48 rfl) ?_
  refine px_ok_cons (ps_iconst dX5_phrase_49 (by decide)) ?_
  refine px_ok_cons (ps_iadd dX5_phrase_50) ?_
  refine px_ok_cons (ps_iaload dX5_phrase_51) ?_
  refine px_ok_cons (ps_iload_n dX5_phrase_52 rfl) ?_
  refine px_ok_cons (ps_icmp_ne dX5_phrase_53 (by decide)) ?_
  refine px_ok_cons (ps_iload_n dX5_phrase_56 rfl) ?_
  refine px_ok_cons (ps_ireturn rfl dX5_phrase_57) ?_
  refine px_ok_cons (ps_iinc dX5_phrase_58 (by decide) (by decide)) ?_
  refine px_ok_cons (ps_goto dX5_phrase_61 (by decide)) ?_
  refine px_ok_cons (ps_bipush dX5_phrase_64 (by decide)) ?_
  refine px_ok_cons (ps_ireturn rfl dX5_phrase_66) ?_
  exact px_ok_nil
set_option maxRecDepth 100000 in
set_option maxHeartbeats 4000000 in
theorem sgX5_phrase_0 {po : Int32 → px_St → Prop} {G : px_K} (hG : px_cl (opX5_phrase po) G) (v1 : Int32) (v2 : Int32) (σ : px_St)
    (H : ∃ g3 : gtX5_isSound, qrX5_isSound g3 v1 σ ∧ ∀ (r1 : Int32) (σ2 : px_St), qoX5_isSound g3 v1 σ r1 σ2 → ((r1 = 0) → po (-1 : Int32) σ2) ∧ (¬ (r1 = 0) → ∃ g7 : gtX5_isSound, qrX5_isSound g7 v2 σ2 ∧ ∀ (r5 : Int32) (σ6 : px_St), qoX5_isSound g7 v2 σ2 r5 σ6 → ((¬ r5 = 0) → ∃ g11 : gtX5_foretell, qrX5_foretell g11 8 (62 : Int32) σ6 ∧ ∀ (r9 : Unit) (σ10 : px_St), qoX5_foretell g11 8 (62 : Int32) σ6 r9 σ10 → G 28 [some (.ref 0), some (.int v1), some (.int v2), some (.int (0 : Int32))] [] σ10) ∧ (¬ (¬ r5 = 0) → po (-1 : Int32) σ6))) :
    G 0 (px_ent 4 [.ref 0, .int v1, .int v2]) [] σ := by
  refine hG.1 0 _ _ rfl _ _ _ ?_
  refine hG.1 1 _ _ rfl _ _ _ ?_
  obtain ⟨g3, H⟩ := H
  refine ⟨Nat.le_of_ble_eq_true rfl, Nat.le_of_ble_eq_true rfl, g3, ⟨_, rfl, H.1⟩, fun r1 σ2 hp4 => ?_⟩
  replace H := H.2 r1 σ2 hp4
  refine hG.1 2 _ _ rfl _ _ _ ?_
  refine ⟨fun h14 => ?_, fun h14 => ?_⟩
  · replace H := H.1 h14
    refine hG.1 6 _ _ rfl _ _ _ ?_
    refine hG.1 7 _ _ rfl _ _ _ ?_
    exact ⟨rfl, H⟩
  · replace H := H.2 h14
    refine hG.1 3 _ _ rfl _ _ _ ?_
    refine hG.1 4 _ _ rfl _ _ _ ?_
    obtain ⟨g7, H⟩ := H
    refine ⟨Nat.le_of_ble_eq_true rfl, Nat.le_of_ble_eq_true rfl, g7, ⟨_, rfl, H.1⟩, fun r5 σ6 hp8 => ?_⟩
    replace H := H.2 r5 σ6 hp8
    refine hG.1 5 _ _ rfl _ _ _ ?_
    refine ⟨fun h13 => ?_, fun h13 => ?_⟩
    · replace H := H.1 h13
      refine hG.1 8 _ _ rfl _ _ _ ?_
      refine hG.1 9 _ _ rfl _ _ _ ?_
      refine hG.1 10 _ _ rfl _ _ _ ?_
      refine ⟨⟨rfl, by decide⟩, ?_⟩
      refine hG.1 11 _ _ rfl _ _ _ ?_
      refine hG.1 12 _ _ rfl _ _ _ ?_
      obtain ⟨g11, H⟩ := H
      refine ⟨⟨rfl, by decide⟩, Nat.le_of_ble_eq_true rfl, g11, ⟨_, _, rfl, (Or.inl rfl), H.1⟩, fun r9 σ10 hp12 => ?_⟩
      replace H := H.2 r9 σ10 hp12
      refine hG.1 13 _ _ rfl _ _ _ ?_
      refine hG.1 14 _ _ rfl _ _ _ ?_
      show G 28 [some (.ref 0), some (.int v1), some (.int v2), some (.int (0 : Int32))] [] σ10
      exact H
    · replace H := H.2 h13
      refine hG.1 6 _ _ rfl _ _ _ ?_
      refine hG.1 7 _ _ rfl _ _ _ ?_
      exact ⟨rfl, H⟩
set_option maxRecDepth 100000 in
set_option maxHeartbeats 4000000 in
theorem sgX5_phrase_28 {po : Int32 → px_St → Prop} {G : px_K} (hG : px_cl (opX5_phrase po) G) (v1 : Int32) (v2 : Int32) (v3 : Int32) (σ : px_St)
    (H : (((60 : Int32) < v3) → po (-4 : Int32) σ) ∧ (¬ ((60 : Int32) < v3) → vp_in v3 62 ∧ ((¬ (σ.1 1 v3.toNatClampNeg) = v1) → G 28 [some (.ref 0), some (.int v1), some (.int v2), some (.int (v3 + 1))] [] σ) ∧ (¬ (¬ (σ.1 1 v3.toNatClampNeg) = v1) → vp_in (v3 + (1 : Int32)) 62 ∧ ((¬ (σ.1 1 (v3 + (1 : Int32)).toNatClampNeg) = v2) → G 28 [some (.ref 0), some (.int v1), some (.int v2), some (.int (v3 + 1))] [] σ) ∧ (¬ (¬ (σ.1 1 (v3 + (1 : Int32)).toNatClampNeg) = v2) → po v3 σ)))) :
    G 28 [some (.ref 0), some (.int v1), some (.int v2), some (.int v3)] [] σ := by
  refine hG.1 15 _ _ rfl _ _ _ ?_
  refine hG.1 16 _ _ rfl _ _ _ ?_
  refine hG.1 17 _ _ rfl _ _ _ ?_
  refine ⟨fun h3 => ?_, fun h3 => ?_⟩
  · replace H := H.1 h3
    refine hG.1 36 _ _ rfl _ _ _ ?_
    refine hG.1 37 _ _ rfl _ _ _ ?_
    exact ⟨rfl, H⟩
  · replace H := H.2 h3
    refine hG.1 18 _ _ rfl _ _ _ ?_
    refine hG.1 19 _ _ rfl _ _ _ ?_
    refine ⟨⟨rfl, by decide⟩, ?_⟩
    refine hG.1 20 _ _ rfl _ _ _ ?_
    refine hG.1 21 _ _ rfl _ _ _ ?_
    refine ⟨⟨rfl, by decide⟩, H.1, ?_⟩
    replace H := H.2
    refine hG.1 22 _ _ rfl _ _ _ ?_
    refine hG.1 23 _ _ rfl _ _ _ ?_
    refine ⟨fun h2 => ?_, fun h2 => ?_⟩
    · replace H := H.1 h2
      refine hG.1 34 _ _ rfl _ _ _ ?_
      show G 61 [some (.ref 0), some (.int v1), some (.int v2), some (.int (v3 + 1))] [] σ
      refine hG.1 35 _ _ rfl _ _ _ ?_
      exact H
    · replace H := H.2 h2
      refine hG.1 24 _ _ rfl _ _ _ ?_
      refine hG.1 25 _ _ rfl _ _ _ ?_
      refine ⟨⟨rfl, by decide⟩, ?_⟩
      refine hG.1 26 _ _ rfl _ _ _ ?_
      refine hG.1 27 _ _ rfl _ _ _ ?_
      refine hG.1 28 _ _ rfl _ _ _ ?_
      refine hG.1 29 _ _ rfl _ _ _ ?_
      refine ⟨⟨rfl, by decide⟩, H.1, ?_⟩
      replace H := H.2
      refine hG.1 30 _ _ rfl _ _ _ ?_
      refine hG.1 31 _ _ rfl _ _ _ ?_
      refine ⟨fun h1 => ?_, fun h1 => ?_⟩
      · replace H := H.1 h1
        refine hG.1 34 _ _ rfl _ _ _ ?_
        show G 61 [some (.ref 0), some (.int v1), some (.int v2), some (.int (v3 + 1))] [] σ
        refine hG.1 35 _ _ rfl _ _ _ ?_
        exact H
      · replace H := H.2 h1
        refine hG.1 32 _ _ rfl _ _ _ ?_
        refine hG.1 33 _ _ rfl _ _ _ ?_
        exact ⟨rfl, H⟩
set_option maxRecDepth 100000 in
set_option maxHeartbeats 4000000 in
theorem hhX5_phrase (g : gtX5_phrase) (v1 : Int32) (v2 : Int32) (σ : px_St) (h : qrX5_phrase g v1 v2 σ) (G : px_K) (hG : px_cl (opX5_phrase (qoX5_phrase g v1 v2 σ)) G) : G 0 (px_ent 4 [.ref 0, .int v1, .int v2]) [] σ := by
  obtain ⟨hX, hok⟩ := h
  have hd := hok.1.2
  refine sgX5_phrase_0 hG _ _ σ ⟨(), trivial, fun r1 σ1 h1 => ?_⟩
  obtain ⟨rfl, b1⟩ := h1
  refine bz2 b1 (fun z => ⟨(), trivial, fun r2 σ2 h2 => ?_⟩) (fun z => ?_)
  · obtain ⟨rfl, b2⟩ := h2
    refine bz1 b2 (fun y => ?_) (fun y => ?_)
    · obtain ⟨s, hs, rfl⟩ := (rngc 9 9 rfl (by omega)).mp z
      obtain ⟨t, ht, rfl⟩ := (rngc 9 9 rfl (by omega)).mp y
      have ex : x_phrase g (nI s) (nI t) = (pv_ph g.1 s t 61 0, g) := by
        unfold x_phrase
        rw [xif_t ⟨z, y⟩, nI_clamp (by omega), nI_clamp (by omega)]
      refine ⟨(g.1, 62), ⟨by omega, hX.1, hok.1.1, by omega, by omega, rfl⟩, fun _ σ3 hq => ?_⟩
      obtain ⟨-, q2, q3⟩ := hq
      have loop : ∀ m d, d + m = 61 → pv_ph g.1 s t 61 0 = pv_ph g.1 s t m d → G 28 [some (.ref 0), some (.int (nI s)), some (.int (nI t)), some (.int (nI d))] [] σ3 := by
        intro m
        induction m with
        | zero =>
          intro d hdm he
          refine sgX5_phrase_28 hG _ _ _ σ3 ⟨fun _ => ?_, fun w => absurd ((nIlt 60 d rfl rfl (by omega) (by omega)).mpr (by omega)) w⟩
          unfold qoX5_phrase
          rw [ex]
          exact ⟨he.symm, q3.cl hX⟩
        | succ m ih =>
          intro d hdm he
          refine sgX5_phrase_28 hG _ _ _ σ3 ⟨fun w => absurd ((nIlt 60 d rfl rfl (by omega) (by omega)).mp w) (by omega), fun _ => ?_⟩
          rw [nI_1, nI_clamp (by omega), nI_clamp (by omega), q2 d (by omega), q2 (d + 1) (by omega)]
          change _ = (if pv_said (pv_run g.1 d) = nI s ∧ pv_said (pv_run g.1 (d + 1)) = nI t then nI d else pv_ph g.1 s t m (d + 1)) at he
          refine ⟨vp_in_nI (by omega) (by decide), fun w => ?_, fun w => ⟨vp_in_nI (by omega) (by decide), fun u => ?_, fun u => ?_⟩⟩
          · rw [if_neg (fun q => w q.1)] at he
            exact ih (d + 1) (by omega) he
          · rw [if_neg (fun q => u q.2)] at he
            exact ih (d + 1) (by omega) he
          · rw [if_pos ⟨Classical.byContradiction w, Classical.byContradiction u⟩] at he
            unfold qoX5_phrase
            rw [ex]
            exact ⟨he.symm, q3.cl hX⟩
      exact loop 61 0 (by omega) rfl
    · unfold qoX5_phrase x_phrase
      rw [xif_f (fun q => y q.2)]
      exact ⟨rfl, hX⟩
  · unfold qoX5_phrase x_phrase
    rw [xif_f (fun q => z q.1)]
    exact ⟨rfl, hX⟩
theorem mX5_phrase (g : gtX5_phrase) : px_Met dC yX5_phrase (Cond.code yX5_phrase cX5_phrase 4 (some .int) :: wdC) rmX5_phrase px_vI (prX5_phrase g) (poX5_phrase g) :=
  px_met (Z := (cX5_phrase, 4, RX5, Cond.code yX5_phrase cX5_phrase 4 (some .int) :: wdC, (some .int), rmX5_phrase, dC)) opX5_phrase (by decide) rfl rfl okX5_phrase (fun As σ h => by obtain ⟨v1, v2, rfl, h⟩ := h; exact Nat.le_of_ble_eq_true rfl) (fun As σ h G hG => by obtain ⟨v1, v2, rfl, h⟩ := h; exact hhX5_phrase g v1 v2 σ h G hG)
abbrev gtX5_ahead : Type := pv_X
def qrX5_ahead (X : pv_X) (_ _ _ : Int32) (σ : px_St) : Prop := cl_is σ X ∧ xo X
def qoX5_ahead (X : pv_X) (p n w : Int32) (_ : px_St) (r : Int32) (σ' : px_St) : Prop := r = (x_ahead X p n w).1 ∧ cl_is σ' (x_ahead X p n w).2
def prX5_ahead (g : gtX5_ahead) : List Value → px_St → Prop := fun As σ => ∃ v1 : Int32, ∃ v2 : Int32, ∃ v3 : Int32, As = [.ref 0, .int v1, .int v2, .int v3] ∧ qrX5_ahead g v1 v2 v3 σ
def poX5_ahead (g : gtX5_ahead) : List Value → px_St → Int32 → px_St → Prop
  | [.ref _, .int v1, .int v2, .int v3], σ, r, σ' => qoX5_ahead g v1 v2 v3 σ r σ'
  | _, _, _, _ => False
theorem dX5_ahead_0 : decode cX5_ahead 0 = .ok (.aload_n 0, 1) := by decide +kernel
theorem dX5_ahead_1 : decode cX5_ahead 1 = .ok (.iload_n 1, 1) := by decide +kernel
theorem dX5_ahead_2 : decode cX5_ahead 2 = .ok (.invokevirtual 112, 3) := by decide +kernel
theorem dX5_ahead_5 : decode cX5_ahead 5 = .ok (.ifCond .eq 19, 3) := by decide +kernel
theorem dX5_ahead_8 : decode cX5_ahead 8 = .ok (.iload_n 2, 1) := by decide +kernel
theorem dX5_ahead_9 : decode cX5_ahead 9 = .ok (.invokestatic 167, 3) := by decide +kernel
theorem dX5_ahead_12 : decode cX5_ahead 12 = .ok (.ifCond .eq 12, 3) := by decide +kernel
theorem dX5_ahead_15 : decode cX5_ahead 15 = .ok (.iload_n 3, 1) := by decide +kernel
theorem dX5_ahead_16 : decode cX5_ahead 16 = .ok (.iconst 0, 1) := by decide +kernel
theorem dX5_ahead_17 : decode cX5_ahead 17 = .ok (.iconst 2, 1) := by decide +kernel
theorem dX5_ahead_18 : decode cX5_ahead 18 = .ok (.invokestatic 61, 3) := by decide +kernel
theorem dX5_ahead_21 : decode cX5_ahead 21 = .ok (.ifCond .ne 5, 3) := by decide +kernel
theorem dX5_ahead_24 : decode cX5_ahead 24 = .ok (.iconst (-1), 1) := by decide +kernel
theorem dX5_ahead_25 : decode cX5_ahead 25 = .ok (.ireturn, 1) := by decide +kernel
theorem dX5_ahead_26 : decode cX5_ahead 26 = .ok (.aload_n 0, 1) := by decide +kernel
theorem dX5_ahead_27 : decode cX5_ahead 27 = .ok (.aload_n 0, 1) := by decide +kernel
theorem dX5_ahead_28 : decode cX5_ahead 28 = .ok (.getfield 10, 3) := by decide +kernel
theorem dX5_ahead_31 : decode cX5_ahead 31 = .ok (.iload_n 2, 1) := by decide +kernel
theorem dX5_ahead_32 : decode cX5_ahead 32 = .ok (.invokevirtual 170, 3) := by decide +kernel
theorem dX5_ahead_35 : decode cX5_ahead 35 = .ok (.iload_n 3, 1) := by decide +kernel
theorem dX5_ahead_36 : decode cX5_ahead 36 = .ok (.lookupswitch 47 #[(0, 28), (1, 37)], 28) := by decide +kernel
theorem dX5_ahead_64 : decode cX5_ahead 64 = .ok (.aload_n 0, 1) := by decide +kernel
theorem dX5_ahead_65 : decode cX5_ahead 65 = .ok (.getfield 26, 3) := by decide +kernel
theorem dX5_ahead_68 : decode cX5_ahead 68 = .ok (.iload_n 1, 1) := by decide +kernel
theorem dX5_ahead_69 : decode cX5_ahead 69 = .ok (.invokevirtual 124, 3) := by decide +kernel
theorem dX5_ahead_72 : decode cX5_ahead 72 = .ok (.ireturn, 1) := by decide +kernel
theorem dX5_ahead_73 : decode cX5_ahead 73 = .ok (.aload_n 0, 1) := by decide +kernel
theorem dX5_ahead_74 : decode cX5_ahead 74 = .ok (.getfield 26, 3) := by decide +kernel
theorem dX5_ahead_77 : decode cX5_ahead 77 = .ok (.getfield 119, 3) := by decide +kernel
theorem dX5_ahead_80 : decode cX5_ahead 80 = .ok (.iload_n 1, 1) := by decide +kernel
theorem dX5_ahead_81 : decode cX5_ahead 81 = .ok (.iaload, 1) := by decide +kernel
theorem dX5_ahead_82 : decode cX5_ahead 82 = .ok (.ireturn, 1) := by decide +kernel
theorem dX5_ahead_83 : decode cX5_ahead 83 = .ok (.aload_n 0, 1) := by decide +kernel
theorem dX5_ahead_84 : decode cX5_ahead 84 = .ok (.getfield 26, 3) := by decide +kernel
theorem dX5_ahead_87 : decode cX5_ahead 87 = .ok (.getfield 121, 3) := by decide +kernel
theorem dX5_ahead_90 : decode cX5_ahead 90 = .ok (.iload_n 1, 1) := by decide +kernel
theorem dX5_ahead_91 : decode cX5_ahead 91 = .ok (.iaload, 1) := by decide +kernel
theorem dX5_ahead_92 : decode cX5_ahead 92 = .ok (.ireturn, 1) := by decide +kernel
abbrev rmX5_ahead : Room := { frames := 5, cells := 0, slots := 0, locals := 128 }
def opX5_ahead (po : Int32 → px_St → Prop) : List (Nat × px_Op) := [
  (0, px_al 1 0),
  (1, px_il 2 1),
  (2, px_callV dC 5 5 1 px_vI prX5_isParrot poX5_isParrot),
  (5, px_if 8 24 (fun x => x = 0)),
  (8, px_il 9 2),
  (9, px_callS 12 1 px_vI prX5_isDays poX5_isDays),
  (12, px_if 15 24 (fun x => x = 0)),
  (15, px_il 16 3),
  (16, px_push 17 (.int 0)),
  (17, px_push 18 (.int 2)),
  (18, px_callS 21 3 px_vI prX5_isWithin poX5_isWithin),
  (21, px_if 24 26 (fun x => ¬ x = 0)),
  (24, px_push 25 (.int (-1))),
  (25, px_iret (.int) po),
  (26, px_al 27 0),
  (27, px_al 28 0),
  (28, px_get dC 31 5 0),
  (31, px_il 32 2),
  (32, px_callV dC 35 5 2 px_vV prX5_foretell poX5_foretell),
  (35, px_il 36 3),
  (36, px_sw [(0, 64), (1, 73)] 83),
  (64, px_al 65 0),
  (65, px_get dC 68 5 3),
  (68, px_il 69 1),
  (69, px_callV dC 72 0 1 px_vI prX0_soundsKnown poX0_soundsKnown),
  (72, px_iret (.int) po),
  (73, px_al 74 0),
  (74, px_get dC 77 5 3),
  (77, px_get dC 80 0 4),
  (80, px_il 81 1),
  (81, px_ald dC 82 0),
  (82, px_iret (.int) po),
  (83, px_al 84 0),
  (84, px_get dC 87 5 3),
  (87, px_get dC 90 0 5),
  (90, px_il 91 1),
  (91, px_ald dC 92 0),
  (92, px_iret (.int) po)]
theorem px_lsw_X5_ahead_36 : px_lswOk 36 47 #[(0, 28), (1, 37)] [(0, 64), (1, 73)] 83 := by
  intro x
  by_cases h0 : x = 0 ∨ x = 1
  · rcases h0 with rfl | rfl <;> rfl
  · simp only [not_or] at h0
    have hn : ¬ x.toInt = 0 ∧ ¬ x.toInt = 1 := by
      simp only [fa_eqI] at h0
      simpa using h0
    have hn2 : ¬ 0 = x.toInt ∧ ¬ 1 = x.toInt := by omega
    simp [px_swt, h0, Op.lookupswitch.offset, hn2]
set_option maxRecDepth 100000 in
set_option maxHeartbeats 4000000 in
theorem okX5_ahead : ∀ (po : Int32 → px_St → Prop) (i pc : Nat) (op : px_Op), (opX5_ahead po)[i]? = some (pc, op) → px_Snd (cX5_ahead, 4, RX5, Cond.code yX5_ahead cX5_ahead 4 (some .int) :: wdC, (some .int), rmX5_ahead, dC) px_vI po pc op := by
  intro po
  unfold opX5_ahead
  refine px_ok_cons (ps_aload_n dX5_ahead_0 rfl) ?_
  refine px_ok_cons (ps_iload_n dX5_ahead_1 rfl) ?_
  refine px_ok_cons (ps_callV mX5_isParrot (fun _ _ => rfl) (C := RX5) rfl (fun _ _ ht => px_cwV wgC (wdC_6_in _ (List.mem_of_getElem? (i := 36) rfl)) (wdC_6_in _ (List.mem_of_getElem? (i := 37) rfl)) (wdC_6_in _ (List.mem_of_getElem? (i := 38) rfl)) (wdC_4_in _ (List.mem_of_getElem? (i := 23) rfl)) (wdC_6_in _ (List.mem_of_getElem? (i := 32) rfl)) (by decide +kernel) rfl rfl (by decide) ht) dX5_ahead_2) ?_
  refine px_ok_cons (ps_if_eq dX5_ahead_5 (by decide)) ?_
  refine px_ok_cons (ps_iload_n dX5_ahead_8 rfl) ?_
  refine px_ok_cons (ps_callS mX5_isDays (fun _ _ => rfl) (fun _ _ ht => px_cwS wgC (wdC_8_in _ (List.mem_of_getElem? (i := 1) rfl)) (wdC_8_in _ (List.mem_of_getElem? (i := 2) rfl)) (wdC_4_in _ (List.mem_of_getElem? (i := 23) rfl)) (wdC_7_in _ (List.mem_of_getElem? (i := 39) rfl)) (by decide +kernel) rfl rfl (by decide) ht) dX5_ahead_9) ?_
  refine px_ok_cons (ps_if_eq dX5_ahead_12 (by decide)) ?_
  refine px_ok_cons (ps_iload_n dX5_ahead_15 rfl) ?_
  refine px_ok_cons (ps_iconst dX5_ahead_16 (by decide)) ?_
  refine px_ok_cons (ps_iconst dX5_ahead_17 (by decide)) ?_
  refine px_ok_cons (ps_callS mX5_isWithin (fun _ _ => rfl) (fun _ _ ht => px_cwS wgC (wdC_4_in _ (List.mem_of_getElem? (i := 29) rfl)) (wdC_4_in _ (List.mem_of_getElem? (i := 22) rfl)) (wdC_4_in _ (List.mem_of_getElem? (i := 23) rfl)) (wdC_4_in _ (List.mem_of_getElem? (i := 20) rfl)) (by decide +kernel) rfl rfl (by decide) ht) dX5_ahead_18) ?_
  refine px_ok_cons (ps_if_ne dX5_ahead_21 (by decide)) ?_
  refine px_ok_cons (ps_iconst dX5_ahead_24 (by decide)) ?_
  refine px_ok_cons (ps_ireturn rfl dX5_ahead_25) ?_
  refine px_ok_cons (ps_aload_n dX5_ahead_26 rfl) ?_
  refine px_ok_cons (ps_aload_n dX5_ahead_27 rfl) ?_
  refine px_ok_cons (fgX5_10 dX5_ahead_28) ?_
  refine px_ok_cons (ps_iload_n dX5_ahead_31 rfl) ?_
  refine px_ok_cons (ps_callV mX5_foretell (fun _ _ => rfl) (C := RX5) rfl (fun _ _ ht => px_cwV wgC (wdC_8_in _ (List.mem_of_getElem? (i := 3) rfl)) (wdC_8_in _ (List.mem_of_getElem? (i := 4) rfl)) (wdC_8_in _ (List.mem_of_getElem? (i := 5) rfl)) (wdC_4_in _ (List.mem_of_getElem? (i := 23) rfl)) (wdC_8_in _ (List.mem_of_getElem? (i := 0) rfl)) (by decide +kernel) rfl rfl (by decide) ht) dX5_ahead_32) ?_
  refine px_ok_cons (ps_iload_n dX5_ahead_35 rfl) ?_
  refine px_ok_cons (ps_lsw dX5_ahead_36 rfl px_lsw_X5_ahead_36) ?_
  refine px_ok_cons (ps_aload_n dX5_ahead_64 rfl) ?_
  refine px_ok_cons (fgX5_26 dX5_ahead_65) ?_
  refine px_ok_cons (ps_iload_n dX5_ahead_68 rfl) ?_
  refine px_ok_cons (ps_callV mX0_soundsKnown (fun _ _ => rfl) (C := RX0) rfl (fun _ _ ht => px_cwV wgC (wdC_6_in _ (List.mem_of_getElem? (i := 39) rfl)) (wdC_7_in _ (List.mem_of_getElem? (i := 0) rfl)) (wdC_7_in _ (List.mem_of_getElem? (i := 1) rfl)) (wdC_0_in _ (List.mem_of_getElem? (i := 22) rfl)) (wdC_1_in _ (List.mem_of_getElem? (i := 26) rfl)) (by decide +kernel) rfl rfl (by decide) ht) dX5_ahead_69) ?_
  refine px_ok_cons (ps_ireturn rfl dX5_ahead_72) ?_
  refine px_ok_cons (ps_aload_n dX5_ahead_73 rfl) ?_
  refine px_ok_cons (fgX5_26 dX5_ahead_74) ?_
  refine px_ok_cons (fgX5_119 dX5_ahead_77) ?_
  refine px_ok_cons (ps_iload_n dX5_ahead_80 rfl) ?_
  refine px_ok_cons (ps_iaload dX5_ahead_81) ?_
  refine px_ok_cons (ps_ireturn rfl dX5_ahead_82) ?_
  refine px_ok_cons (ps_aload_n dX5_ahead_83 rfl) ?_
  refine px_ok_cons (fgX5_26 dX5_ahead_84) ?_
  refine px_ok_cons (fgX5_121 dX5_ahead_87) ?_
  refine px_ok_cons (ps_iload_n dX5_ahead_90 rfl) ?_
  refine px_ok_cons (ps_iaload dX5_ahead_91) ?_
  refine px_ok_cons (ps_ireturn rfl dX5_ahead_92) ?_
  exact px_ok_nil
set_option maxRecDepth 100000 in
set_option maxHeartbeats 4000000 in
theorem sgX5_ahead_0 {po : Int32 → px_St → Prop} {G : px_K} (hG : px_cl (opX5_ahead po) G) (v1 : Int32) (v2 : Int32) (v3 : Int32) (σ : px_St)
    (H : ∃ g3 : gtX5_isParrot, qrX5_isParrot g3 v1 σ ∧ ∀ (r1 : Int32) (σ2 : px_St), qoX5_isParrot g3 v1 σ r1 σ2 → ((r1 = 0) → po (-1 : Int32) σ2) ∧ (¬ (r1 = 0) → ∃ g7 : gtX5_isDays, qrX5_isDays g7 v2 σ2 ∧ ∀ (r5 : Int32) (σ6 : px_St), qoX5_isDays g7 v2 σ2 r5 σ6 → ((r5 = 0) → po (-1 : Int32) σ6) ∧ (¬ (r5 = 0) → ∃ g11 : gtX5_isWithin, qrX5_isWithin g11 v3 (0 : Int32) (2 : Int32) σ6 ∧ ∀ (r9 : Int32) (σ10 : px_St), qoX5_isWithin g11 v3 (0 : Int32) (2 : Int32) σ6 r9 σ10 → ((¬ r9 = 0) → ∃ g15 : gtX5_foretell, qrX5_foretell g15 8 v2 σ10 ∧ ∀ (r13 : Unit) (σ14 : px_St), qoX5_foretell g15 8 v2 σ10 r13 σ14 → ((v3 = 0) → ∃ g20 : gtX0_soundsKnown, qrX0_soundsKnown g20 18 v1 σ14 ∧ ∀ (r18 : Int32) (σ19 : px_St), qoX0_soundsKnown g20 18 v1 σ14 r18 σ19 → po r18 σ19) ∧ (¬ (v3 = 0) → ((v3 = 1) → vp_in v1 5 ∧ po (σ14.1 20 v1.toNatClampNeg) σ14) ∧ (¬ (v3 = 1) → vp_in v1 5 ∧ po (σ14.1 21 v1.toNatClampNeg) σ14))) ∧ (¬ (¬ r9 = 0) → po (-1 : Int32) σ10)))) :
    G 0 (px_ent 4 [.ref 0, .int v1, .int v2, .int v3]) [] σ := by
  refine hG.1 0 _ _ rfl _ _ _ ?_
  refine hG.1 1 _ _ rfl _ _ _ ?_
  refine hG.1 2 _ _ rfl _ _ _ ?_
  obtain ⟨g3, H⟩ := H
  refine ⟨⟨rfl, by decide⟩, Nat.le_of_ble_eq_true rfl, g3, ⟨_, rfl, H.1⟩, fun r1 σ2 hp4 => ?_⟩
  replace H := H.2 r1 σ2 hp4
  refine hG.1 3 _ _ rfl _ _ _ ?_
  refine ⟨fun h25 => ?_, fun h25 => ?_⟩
  · replace H := H.1 h25
    refine hG.1 12 _ _ rfl _ _ _ ?_
    refine hG.1 13 _ _ rfl _ _ _ ?_
    exact ⟨rfl, H⟩
  · replace H := H.2 h25
    refine hG.1 4 _ _ rfl _ _ _ ?_
    refine hG.1 5 _ _ rfl _ _ _ ?_
    obtain ⟨g7, H⟩ := H
    refine ⟨Nat.le_of_ble_eq_true rfl, Nat.le_of_ble_eq_true rfl, g7, ⟨_, rfl, H.1⟩, fun r5 σ6 hp8 => ?_⟩
    replace H := H.2 r5 σ6 hp8
    refine hG.1 6 _ _ rfl _ _ _ ?_
    refine ⟨fun h24 => ?_, fun h24 => ?_⟩
    · replace H := H.1 h24
      refine hG.1 12 _ _ rfl _ _ _ ?_
      refine hG.1 13 _ _ rfl _ _ _ ?_
      exact ⟨rfl, H⟩
    · replace H := H.2 h24
      refine hG.1 7 _ _ rfl _ _ _ ?_
      refine hG.1 8 _ _ rfl _ _ _ ?_
      refine hG.1 9 _ _ rfl _ _ _ ?_
      refine hG.1 10 _ _ rfl _ _ _ ?_
      obtain ⟨g11, H⟩ := H
      refine ⟨Nat.le_of_ble_eq_true rfl, Nat.le_of_ble_eq_true rfl, g11, ⟨_, _, _, rfl, H.1⟩, fun r9 σ10 hp12 => ?_⟩
      replace H := H.2 r9 σ10 hp12
      refine hG.1 11 _ _ rfl _ _ _ ?_
      refine ⟨fun h23 => ?_, fun h23 => ?_⟩
      · replace H := H.1 h23
        refine hG.1 14 _ _ rfl _ _ _ ?_
        refine hG.1 15 _ _ rfl _ _ _ ?_
        refine hG.1 16 _ _ rfl _ _ _ ?_
        refine ⟨⟨rfl, by decide⟩, ?_⟩
        refine hG.1 17 _ _ rfl _ _ _ ?_
        refine hG.1 18 _ _ rfl _ _ _ ?_
        obtain ⟨g15, H⟩ := H
        refine ⟨⟨rfl, by decide⟩, Nat.le_of_ble_eq_true rfl, g15, ⟨_, _, rfl, (Or.inl rfl), H.1⟩, fun r13 σ14 hp16 => ?_⟩
        replace H := H.2 r13 σ14 hp16
        refine hG.1 19 _ _ rfl _ _ _ ?_
        refine hG.1 20 _ _ rfl _ _ _ ?_
        refine ⟨fun h17 => ?_, fun h17 => ?_⟩
        · replace H := H.1 h17
          refine hG.1 21 _ _ rfl _ _ _ ?_
          refine hG.1 22 _ _ rfl _ _ _ ?_
          refine ⟨⟨rfl, by decide⟩, ?_⟩
          refine hG.1 23 _ _ rfl _ _ _ ?_
          refine hG.1 24 _ _ rfl _ _ _ ?_
          obtain ⟨g20, H⟩ := H
          refine ⟨⟨rfl, by decide⟩, Nat.le_of_ble_eq_true rfl, g20, ⟨_, _, rfl, (Or.inr (Or.inr (Or.inl rfl))), H.1⟩, fun r18 σ19 hp21 => ?_⟩
          replace H := H.2 r18 σ19 hp21
          refine hG.1 25 _ _ rfl _ _ _ ?_
          exact ⟨rfl, H⟩
        · replace H := H.2 h17
          refine ⟨fun h22 => ?_, fun h22 => ?_⟩
          · replace H := H.1 h22
            refine hG.1 26 _ _ rfl _ _ _ ?_
            refine hG.1 27 _ _ rfl _ _ _ ?_
            refine ⟨⟨rfl, by decide⟩, ?_⟩
            refine hG.1 28 _ _ rfl _ _ _ ?_
            refine ⟨⟨rfl, by decide⟩, ?_⟩
            refine hG.1 29 _ _ rfl _ _ _ ?_
            refine hG.1 30 _ _ rfl _ _ _ ?_
            refine ⟨⟨rfl, by decide⟩, H.1, ?_⟩
            replace H := H.2
            refine hG.1 31 _ _ rfl _ _ _ ?_
            exact ⟨rfl, H⟩
          · replace H := H.2 h22
            refine hG.1 32 _ _ rfl _ _ _ ?_
            refine hG.1 33 _ _ rfl _ _ _ ?_
            refine ⟨⟨rfl, by decide⟩, ?_⟩
            refine hG.1 34 _ _ rfl _ _ _ ?_
            refine ⟨⟨rfl, by decide⟩, ?_⟩
            refine hG.1 35 _ _ rfl _ _ _ ?_
            refine hG.1 36 _ _ rfl _ _ _ ?_
            refine ⟨⟨rfl, by decide⟩, H.1, ?_⟩
            replace H := H.2
            refine hG.1 37 _ _ rfl _ _ _ ?_
            exact ⟨rfl, H⟩
      · replace H := H.2 h23
        refine hG.1 12 _ _ rfl _ _ _ ?_
        refine hG.1 13 _ _ rfl _ _ _ ?_
        exact ⟨rfl, H⟩
set_option maxRecDepth 100000 in
set_option maxHeartbeats 4000000 in
theorem hhX5_ahead (g : gtX5_ahead) (v1 : Int32) (v2 : Int32) (v3 : Int32) (σ : px_St) (h : qrX5_ahead g v1 v2 v3 σ) (G : px_K) (hG : px_cl (opX5_ahead (qoX5_ahead g v1 v2 v3 σ)) G) : G 0 (px_ent 4 [.ref 0, .int v1, .int v2, .int v3]) [] σ := by
  obtain ⟨hX, hok⟩ := h
  have hd := hok.1.2
  have hvk := hok.1.1
  have h5 := hvk.1.1
  refine sgX5_ahead_0 hG _ _ _ σ ⟨g.1, hX.1, fun r1 σ1 h1 => ?_⟩
  obtain ⟨rfl, b1⟩ := h1
  unfold qoX5_ahead x_ahead
  refine bz2 b1 (fun z => ⟨(), trivial, fun r2 σ2 h2 => ?_⟩) (fun z => ?_)
  · obtain ⟨rfl, b2⟩ := h2
    refine bz2 b2 (fun y => ⟨(), trivial, fun r3 σ3 h3 => ?_⟩) (fun y => ?_)
    · obtain ⟨rfl, b3⟩ := h3
      refine bz1 b3 (fun x => ?_) (fun x => ?_)
      · rw [xif_t ⟨z, y, x⟩]
        obtain ⟨p, hp, rfl⟩ := (rng1 (by omega)).mp z
        obtain ⟨n, hn, rfl⟩ := (rngc 60 60 rfl (by omega)).mp y
        refine ⟨(g.1, n), ⟨by omega, hX.1, hvk, by omega, by omega, rfl⟩, fun _ σ4 hq => ?_⟩
        obtain ⟨q1, q2, q3⟩ := hq
        have hrk := pv_run_ok hvk n (by omega)
        have hpn : p < (pv_run g.1 n).1 := by rw [(pv_run_n g.1 n).1]; exact hp
        obtain ⟨g1, g2, g3, g4⟩ := q1.2 p hpn
        have hin : vp_in (nI p) 5 := vp_in_nI (by omega) (by decide)
        rw [nI_clamp (by omega), nI_clamp (by omega)]
        refine ⟨fun w0 => ⟨(pv_run g.1 n, p), ⟨q1, hrk.1, hpn, rfl⟩, fun r5 σ5 h5 => ?_⟩, fun w0 => ⟨fun w1 => ⟨hin, ?_, q3.cl hX⟩, fun w1 => ⟨hin, ?_, q3.cl hX⟩⟩⟩
        · obtain ⟨rfl, rfl⟩ := h5
          refine ⟨?_, q3.cl hX⟩
          show _ = if _ then _ else _
          rw [if_pos w0]
        · show _ = if _ then _ else _
          rw [if_neg w0, if_pos w1]
          exact g2
        · show _ = if _ then _ else _
          rw [if_neg w0, if_neg w1]
          exact g3
      · rw [xif_f (fun q => x q.2.2)]
        exact ⟨rfl, hX⟩
    · rw [xif_f (fun q => y q.2.1)]
      exact ⟨rfl, hX⟩
  · rw [xif_f (fun q => z q.1)]
    exact ⟨rfl, hX⟩
theorem mX5_ahead (g : gtX5_ahead) : px_Met dC yX5_ahead (Cond.code yX5_ahead cX5_ahead 4 (some .int) :: wdC) rmX5_ahead px_vI (prX5_ahead g) (poX5_ahead g) :=
  px_met (Z := (cX5_ahead, 4, RX5, Cond.code yX5_ahead cX5_ahead 4 (some .int) :: wdC, (some .int), rmX5_ahead, dC)) opX5_ahead (by decide) rfl rfl okX5_ahead (fun As σ h => by obtain ⟨v1, v2, v3, rfl, h⟩ := h; exact Nat.le_of_ble_eq_true rfl) (fun As σ h G hG => by obtain ⟨v1, v2, v3, rfl, h⟩ := h; exact hhX5_ahead g v1 v2 v3 σ h G hG)
