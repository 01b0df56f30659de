abbrev xcl (v s n w : Int32) : Prop := (0 ≤ v ∧ v ≤ 10) ∧ (0 ≤ s ∧ s ≤ 9) ∧ (0 ≤ n ∧ n ≤ 8) ∧ (0 ≤ w ∧ w ≤ 1)
noncomputable def pv_part (w : Int32) (t b : Nat) : Int64 := lN ((if w = 0 then t else b) / Nat.gcd b t)
noncomputable def x_luck (X : pv_X) (v p s n w : Int32) : Int64 × pv_X := (xif (xP X p ∧ xcl v s n w) (pv_part w (pv_ws X.1 v.toNatClampNeg s.toNatClampNeg n.toNatClampNeg (2 ^ p.toNatClampNeg) (2 ^ n.toNatClampNeg)) (10 ^ n.toNatClampNeg)) (-1), X)
noncomputable def x_mean (X : pv_X) (v s n w : Int32) : Int64 × pv_X := (xif (xcl v s n w) (pv_part w (pv_ws X.1 v.toNatClampNeg s.toNatClampNeg n.toNatClampNeg 31 (2 ^ n.toNatClampNeg)) (10 ^ n.toNatClampNeg)) (-1), X)
theorem pv_ws_le {V : pv_V} {v s n am : Nat} (hv : v ≤ 10) (c : Nat) : pv_ws V v s n am c ≤ c * (10 ^ n * 10) := by
  induction c with
  | zero => exact Nat.zero_le _
  | succ c ih =>
    rw [pv_ws, Nat.succ_mul]
    exact Nat.add_le_add ih (Nat.mul_le_mul (pv_wt_le hv c n) (pv_pc_le _ 10))
theorem pv_ws_lt {V : pv_V} {v s n am : Nat} (hv : v ≤ 10) (hn : n ≤ 8) : pv_ws V v s n am (2 ^ n) < 2 ^ 40 := by
  have h1 := pv_ws_le (V := V) (s := s) (n := n) (am := am) hv (2 ^ n)
  have h2 : 2 ^ n ≤ 2 ^ 8 := Nat.pow_le_pow_right (by omega) hn
  have h3 : 10 ^ n ≤ 10 ^ 8 := Nat.pow_le_pow_right (by omega) hn
  have h4 : 2 ^ n * (10 ^ n * 10) ≤ 2 ^ 8 * (10 ^ 8 * 10) := Nat.mul_le_mul h2 (Nat.mul_le_mul_right 10 h3)
  omega
abbrev gtX5_luck : Type := pv_X
def qrX5_luck (X : pv_X) (_ _ _ _ _ : Int32) (σ : px_St) : Prop := cl_is σ X ∧ xo X
def qoX5_luck (X : pv_X) (v p s n w : Int32) (_ : px_St) (r : Int64) (σ' : px_St) : Prop := r = (x_luck X v p s n w).1 ∧ cl_is σ' (x_luck X v p s n w).2
theorem px_only18.cl {σ σ' : px_St} {X : pv_X} (ho : px_only 18 σ σ') (h : cl_is σ X) : cl_is σ' X := cl_keep h (fun k hk => ho.1 k (by omega))
def prX5_luck (g : gtX5_luck) : List Value → px_St → Prop := fun As σ => ∃ v1 : Int32, ∃ v2 : Int32, ∃ v3 : Int32, ∃ v4 : Int32, ∃ v5 : Int32, As = [.ref 0, .int v1, .int v2, .int v3, .int v4, .int v5] ∧ qrX5_luck g v1 v2 v3 v4 v5 σ
def poX5_luck (g : gtX5_luck) : List Value → px_St → Int64 → px_St → Prop
  | [.ref _, .int v1, .int v2, .int v3, .int v4, .int v5], σ, r, σ' => qoX5_luck g v1 v2 v3 v4 v5 σ r σ'
  | _, _, _, _ => False
theorem dX5_luck_0 : decode cX5_luck 0 = .ok (.aload_n 0, 1) := by decide +kernel
theorem dX5_luck_1 : decode cX5_luck 1 = .ok (.iload_n 2, 1) := by decide +kernel
theorem dX5_luck_2 : decode cX5_luck 2 = .ok (.invokevirtual 112, 3) := by decide +kernel
theorem dX5_luck_5 : decode cX5_luck 5 = .ok (.ifCond .eq 15, 3) := by decide +kernel
theorem dX5_luck_8 : decode cX5_luck 8 = .ok (.iload_n 1, 1) := by decide +kernel
theorem dX5_luck_9 : decode cX5_luck 9 = .ok (.iload_n 3, 1) := by decide +kernel
theorem dX5_luck_10 : decode cX5_luck 10 = .ok (.iload 4, 2) := by decide +kernel
theorem dX5_luck_12 : decode cX5_luck 12 = .ok (.iload 5, 2) := by decide +kernel
theorem dX5_luck_14 : decode cX5_luck 14 = .ok (.invokestatic 193, 3) := by decide +kernel
theorem dX5_luck_17 : decode cX5_luck 17 = .ok (.ifCond .ne 7, 3) := by decide +kernel
theorem dX5_luck_20 : decode cX5_luck 20 = .ok (.ldc2_w 197, 3) := by decide +kernel
theorem dX5_luck_23 : decode cX5_luck 23 = .ok (.lreturn, 1) := by decide +kernel
theorem dX5_luck_24 : decode cX5_luck 24 = .ok (.aload_n 0, 1) := by decide +kernel
theorem dX5_luck_25 : decode cX5_luck 25 = .ok (.iload_n 1, 1) := by decide +kernel
theorem dX5_luck_26 : decode cX5_luck 26 = .ok (.iload_n 3, 1) := by decide +kernel
theorem dX5_luck_27 : decode cX5_luck 27 = .ok (.iload 4, 2) := by decide +kernel
theorem dX5_luck_29 : decode cX5_luck 29 = .ok (.iconst 1, 1) := by decide +kernel
theorem dX5_luck_30 : decode cX5_luck 30 = .ok (.iload_n 2, 1) := by decide +kernel
theorem dX5_luck_31 : decode cX5_luck 31 = .ok (.ishl, 1) := by decide +kernel
theorem dX5_luck_32 : decode cX5_luck 32 = .ok (.invokevirtual 199, 3) := by decide +kernel
theorem dX5_luck_35 : decode cX5_luck 35 = .ok (.bipush 10, 2) := by decide +kernel
theorem dX5_luck_37 : decode cX5_luck 37 = .ok (.iload 4, 2) := by decide +kernel
theorem dX5_luck_39 : decode cX5_luck 39 = .ok (.invokestatic 203, 3) := by decide +kernel
theorem dX5_luck_42 : decode cX5_luck 42 = .ok (.iload 5, 2) := by decide +kernel
theorem dX5_luck_44 : decode cX5_luck 44 = .ok (.invokestatic 207, 3) := by decide +kernel
theorem dX5_luck_47 : decode cX5_luck 47 = .ok (.lreturn, 1) := by decide +kernel
abbrev rmX5_luck : Room := { frames := 6, cells := 0, slots := 0, locals := 159 }
def opX5_luck (po : Int64 → px_St → Prop) : List (Nat × px_Op) := [
  (0, px_al 1 0),
  (1, px_il 2 2),
  (2, px_callV dC 5 5 1 px_vI prX5_isParrot poX5_isParrot),
  (5, px_if 8 20 (fun x => x = 0)),
  (8, px_il 9 1),
  (9, px_il 10 3),
  (10, px_il 12 4),
  (12, px_il 14 5),
  (14, px_callS 17 4 px_vI prX5_isClothCall poX5_isClothCall),
  (17, px_if 20 24 (fun x => ¬ x = 0)),
  (20, px_push 23 (.long (-1))),
  (23, px_lret po),
  (24, px_al 25 0),
  (25, px_il 26 1),
  (26, px_il 27 3),
  (27, px_il 29 4),
  (29, px_push 30 (.int 1)),
  (30, px_il 31 2),
  (31, px_bin 32 (fun x y => x <<< (y &&& 31))),
  (32, px_callV dC 35 5 4 px_vL prX5_weighedKnowers poX5_weighedKnowers),
  (35, px_push 37 (.int 10)),
  (37, px_il 39 4),
  (39, px_callS 42 2 px_vL prX5_powerOf poX5_powerOf),
  (42, px_il 44 5),
  (44, px_callS 47 3 px_vL prX5_partOf poX5_partOf),
  (47, px_lret po)]
set_option maxRecDepth 100000 in
set_option maxHeartbeats 4000000 in
theorem okX5_luck : ∀ (po : Int64 → px_St → Prop) (i pc : Nat) (op : px_Op), (opX5_luck po)[i]? = some (pc, op) → px_Snd (cX5_luck, 6, RX5, Cond.code yX5_luck cX5_luck 6 (some .long) :: wdC, (some .long), rmX5_luck, dC) px_vL po pc op := by
  intro po
  unfold opX5_luck
  refine px_ok_cons (ps_aload_n dX5_luck_0 rfl) ?_
  refine px_ok_cons (ps_iload_n dX5_luck_1 rfl) ?_
  refine px_ok_cons (ps_callV mX5_isParrot (fun _ _ => rfl) (C := RX5) rfl (fun _ _ ht => px_cwV wgC (wdC_6_in _ (List.mem_of_getElem? (i := 36) rfl)) (wdC_6_in _ (List.mem_of_getElem? (i := 37) rfl)) (wdC_6_in _ (List.mem_of_getElem? (i := 38) rfl)) (wdC_4_in _ (List.mem_of_getElem? (i := 23) rfl)) (wdC_6_in _ (List.mem_of_getElem? (i := 32) rfl)) (by decide +kernel) rfl rfl (by decide) ht) dX5_luck_2) ?_
  refine px_ok_cons (ps_if_eq dX5_luck_5 (by decide)) ?_
  refine px_ok_cons (ps_iload_n dX5_luck_8 rfl) ?_
  refine px_ok_cons (ps_iload_n dX5_luck_9 rfl) ?_
  refine px_ok_cons (ps_iload dX5_luck_10) ?_
  refine px_ok_cons (ps_iload dX5_luck_12) ?_
  refine px_ok_cons (ps_callS mX5_isClothCall (fun _ _ => rfl) (fun _ _ ht => px_cwS wgC (wdC_9_in _ (List.mem_of_getElem? (i := 2) rfl)) (wdC_9_in _ (List.mem_of_getElem? (i := 3) rfl)) (wdC_4_in _ (List.mem_of_getElem? (i := 23) rfl)) (wdC_8_in _ (List.mem_of_getElem? (i := 31) rfl)) (by decide +kernel) rfl rfl (by decide) ht) dX5_luck_14) ?_
  refine px_ok_cons (ps_if_ne dX5_luck_17 (by decide)) ?_
  refine px_ok_cons (ps_ldc2 (List.mem_cons_of_mem _ (wdC_9_in _ (List.mem_of_getElem? (i := 1) rfl))) dX5_luck_20) ?_
  refine px_ok_cons (ps_lreturn rfl dX5_luck_23) ?_
  refine px_ok_cons (ps_aload_n dX5_luck_24 rfl) ?_
  refine px_ok_cons (ps_iload_n dX5_luck_25 rfl) ?_
  refine px_ok_cons (ps_iload_n dX5_luck_26 rfl) ?_
  refine px_ok_cons (ps_iload dX5_luck_27) ?_
  refine px_ok_cons (ps_iconst dX5_luck_29 (by decide)) ?_
  refine px_ok_cons (ps_iload_n dX5_luck_30 rfl) ?_
  refine px_ok_cons (ps_ishl dX5_luck_31) ?_
  refine px_ok_cons (ps_callV mX5_weighedKnowers (fun _ _ => rfl) (C := RX5) rfl (fun _ _ ht => px_cwV wgC (wdC_9_in _ (List.mem_of_getElem? (i := 4) rfl)) (wdC_9_in _ (List.mem_of_getElem? (i := 5) rfl)) (wdC_9_in _ (List.mem_of_getElem? (i := 6) rfl)) (wdC_4_in _ (List.mem_of_getElem? (i := 23) rfl)) (wdC_8_in _ (List.mem_of_getElem? (i := 39) rfl)) (by decide +kernel) rfl rfl (by decide) ht) dX5_luck_32) ?_
  refine px_ok_cons (ps_bipush dX5_luck_35 (by decide)) ?_
  refine px_ok_cons (ps_iload dX5_luck_37) ?_
  refine px_ok_cons (ps_callS mX5_powerOf (fun _ _ => rfl) (fun _ _ ht => px_cwS wgC (wdC_8_in _ (List.mem_of_getElem? (i := 34) rfl)) (wdC_8_in _ (List.mem_of_getElem? (i := 35) rfl)) (wdC_4_in _ (List.mem_of_getElem? (i := 23) rfl)) (wdC_8_in _ (List.mem_of_getElem? (i := 32) rfl)) (by decide +kernel) rfl rfl (by decide) ht) dX5_luck_39) ?_
  refine px_ok_cons (ps_iload dX5_luck_42) ?_
  refine px_ok_cons (ps_callS mX5_partOf (fun _ _ => rfl) (fun _ _ ht => px_cwS wgC (wdC_9_in _ (List.mem_of_getElem? (i := 7) rfl)) (wdC_9_in _ (List.mem_of_getElem? (i := 8) rfl)) (wdC_4_in _ (List.mem_of_getElem? (i := 23) rfl)) (wdC_9_in _ (List.mem_of_getElem? (i := 0) rfl)) (by decide +kernel) rfl rfl (by decide) ht) dX5_luck_44) ?_
  refine px_ok_cons (ps_lreturn rfl dX5_luck_47) ?_
  exact px_ok_nil
set_option maxRecDepth 100000 in
set_option maxHeartbeats 4000000 in
theorem sgX5_luck_0 {po : Int64 → px_St → Prop} {G : px_K} (hG : px_cl (opX5_luck po) G) (v1 : Int32) (v2 : Int32) (v3 : Int32) (v4 : Int32) (v5 : Int32) (σ : px_St)
    (H : ∃ g3 : gtX5_isParrot, qrX5_isParrot g3 v2 σ ∧ ∀ (r1 : Int32) (σ2 : px_St), qoX5_isParrot g3 v2 σ r1 σ2 → ((r1 = 0) → po (-1 : Int64) σ2) ∧ (¬ (r1 = 0) → ∃ g7 : gtX5_isClothCall, qrX5_isClothCall g7 v1 v3 v4 v5 σ2 ∧ ∀ (r5 : Int32) (σ6 : px_St), qoX5_isClothCall g7 v1 v3 v4 v5 σ2 r5 σ6 → ((¬ r5 = 0) → ∃ g11 : gtX5_weighedKnowers, qrX5_weighedKnowers g11 v1 v3 v4 ((1 : Int32) <<< (v2 &&& 31)) σ6 ∧ ∀ (r9 : Int64) (σ10 : px_St), qoX5_weighedKnowers g11 v1 v3 v4 ((1 : Int32) <<< (v2 &&& 31)) σ6 r9 σ10 → ∃ g15 : gtX5_powerOf, qrX5_powerOf g15 (10 : Int32) v4 σ10 ∧ ∀ (r13 : Int64) (σ14 : px_St), qoX5_powerOf g15 (10 : Int32) v4 σ10 r13 σ14 → ∃ g19 : gtX5_partOf, qrX5_partOf g19 r9 r13 v5 σ14 ∧ ∀ (r17 : Int64) (σ18 : px_St), qoX5_partOf g19 r9 r13 v5 σ14 r17 σ18 → po r17 σ18) ∧ (¬ (¬ r5 = 0) → po (-1 : Int64) σ6))) :
    G 0 (px_ent 6 [.ref 0, .int v1, .int v2, .int v3, .int v4, .int v5]) [] σ := by
  refine hG.1 0 _ _ rfl _ _ _ ?_
  refine hG.1 1 _ _ rfl _ _ _ ?_
  refine hG.1 2 _ _ rfl _ _ _ ?_
  obtain ⟨g3, H⟩ := H
  refine ⟨⟨rfl, by decide⟩, Nat.le_of_ble_eq_true rfl, g3, ⟨_, rfl, H.1⟩, fun r1 σ2 hp4 => ?_⟩
  replace H := H.2 r1 σ2 hp4
  refine hG.1 3 _ _ rfl _ _ _ ?_
  refine ⟨fun h22 => ?_, fun h22 => ?_⟩
  · replace H := H.1 h22
    refine hG.1 10 _ _ rfl _ _ _ ?_
    refine hG.1 11 _ _ rfl _ _ _ ?_
    exact H
  · replace H := H.2 h22
    refine hG.1 4 _ _ rfl _ _ _ ?_
    refine hG.1 5 _ _ rfl _ _ _ ?_
    refine hG.1 6 _ _ rfl _ _ _ ?_
    refine hG.1 7 _ _ rfl _ _ _ ?_
    refine hG.1 8 _ _ rfl _ _ _ ?_
    obtain ⟨g7, H⟩ := H
    refine ⟨Nat.le_of_ble_eq_true rfl, Nat.le_of_ble_eq_true rfl, g7, ⟨_, _, _, _, rfl, H.1⟩, fun r5 σ6 hp8 => ?_⟩
    replace H := H.2 r5 σ6 hp8
    refine hG.1 9 _ _ rfl _ _ _ ?_
    refine ⟨fun h21 => ?_, fun h21 => ?_⟩
    · replace H := H.1 h21
      refine hG.1 12 _ _ rfl _ _ _ ?_
      refine hG.1 13 _ _ rfl _ _ _ ?_
      refine hG.1 14 _ _ rfl _ _ _ ?_
      refine hG.1 15 _ _ rfl _ _ _ ?_
      refine hG.1 16 _ _ rfl _ _ _ ?_
      refine hG.1 17 _ _ rfl _ _ _ ?_
      refine hG.1 18 _ _ rfl _ _ _ ?_
      refine hG.1 19 _ _ rfl _ _ _ ?_
      obtain ⟨g11, H⟩ := H
      refine ⟨⟨rfl, by decide⟩, Nat.le_of_ble_eq_true rfl, g11, ⟨_, _, _, _, rfl, H.1⟩, fun r9 σ10 hp12 => ?_⟩
      replace H := H.2 r9 σ10 hp12
      refine hG.1 20 _ _ rfl _ _ _ ?_
      refine hG.1 21 _ _ rfl _ _ _ ?_
      refine hG.1 22 _ _ rfl _ _ _ ?_
      obtain ⟨g15, H⟩ := H
      refine ⟨Nat.le_of_ble_eq_true rfl, Nat.le_of_ble_eq_true rfl, g15, ⟨_, _, rfl, H.1⟩, fun r13 σ14 hp16 => ?_⟩
      replace H := H.2 r13 σ14 hp16
      refine hG.1 23 _ _ rfl _ _ _ ?_
      refine hG.1 24 _ _ rfl _ _ _ ?_
      obtain ⟨g19, H⟩ := H
      refine ⟨Nat.le_of_ble_eq_true rfl, Nat.le_of_ble_eq_true rfl, g19, ⟨_, _, _, rfl, H.1⟩, fun r17 σ18 hp20 => ?_⟩
      replace H := H.2 r17 σ18 hp20
      refine hG.1 25 _ _ rfl _ _ _ ?_
      exact H
    · replace H := H.2 h21
      refine hG.1 10 _ _ rfl _ _ _ ?_
      refine hG.1 11 _ _ rfl _ _ _ ?_
      exact H
set_option maxRecDepth 100000 in
set_option maxHeartbeats 4000000 in
theorem hhX5_luck (g : gtX5_luck) (v1 : Int32) (v2 : Int32) (v3 : Int32) (v4 : Int32) (v5 : Int32) (σ : px_St) (h : qrX5_luck g v1 v2 v3 v4 v5 σ) (G : px_K) (hG : px_cl (opX5_luck (qoX5_luck g v1 v2 v3 v4 v5 σ)) G) : G 0 (px_ent 6 [.ref 0, .int v1, .int v2, .int v3, .int v4, .int v5]) [] σ := by
  obtain ⟨hX, hok⟩ := h
  have hd := hok.1.2
  have hvk := hok.1.1
  have h5 := hvk.1.1
  refine sgX5_luck_0 hG _ _ _ _ _ σ ⟨g.1, hX.1, fun r0 σ0 h0 => ?_⟩
  obtain ⟨rfl, b0⟩ := h0
  unfold qoX5_luck x_luck
  refine bz2 b0 (fun zp => ⟨(), trivial, fun r1 σ1 h1 => ?_⟩) (fun zp => ?_)
  · obtain ⟨rfl, b1⟩ := h1
    refine bz1 b1 (fun z => ?_) (fun z => ?_)
    · rw [xif_t ⟨zp, z⟩]
      obtain ⟨p, hp, rfl⟩ := (rng1 (by omega)).mp zp
      obtain ⟨v, hv, rfl⟩ := (rngc 10 10 rfl (by omega)).mp z.1
      obtain ⟨s, hs, rfl⟩ := (rngc 9 9 rfl (by omega)).mp z.2.1
      obtain ⟨n, hn, rfl⟩ := (rngc 8 8 rfl (by omega)).mp z.2.2.1
      have hp2 : 2 ^ p ≤ 2 ^ 4 := Nat.pow_le_pow_right (by omega) (by omega)
      have h10 : 10 ^ n ≤ 10 ^ 8 := Nat.pow_le_pow_right (by omega) hn
      have h10p : 0 < 10 ^ n := Nat.pow_pos (by omega)
      rw [nI_clamp (show v < 2 ^ 31 by omega), nI_clamp (show s < 2 ^ 31 by omega), nI_clamp (show n < 2 ^ 31 by omega), nI_clamp (show p < 2 ^ 31 by omega), sh1 p (by omega)]
      refine ⟨(g.1, v, s, n, 2 ^ p), ⟨hX.1, hvk, by omega, hv, hs, hn, by omega, rfl, rfl, rfl, rfl⟩, fun r2 σ2 h2 => ?_⟩
      obtain ⟨rfl, o2⟩ := h2
      refine ⟨(10, n), ⟨by omega, by omega, rfl, rfl⟩, fun r3 σ3 h3 => ?_⟩
      obtain ⟨rfl, rfl⟩ := h3
      refine ⟨(pv_ws g.1 v s n (2 ^ p) (2 ^ n), 10 ^ n), ⟨pv_ws_lt hv hn, h10p, by omega, rfl, rfl⟩, fun r4 σ4 h4 => ?_⟩
      obtain ⟨rfl, rfl⟩ := h4
      exact ⟨rfl, px_only18.cl o2 hX⟩
    · rw [xif_f (fun q => z q.2)]
      exact ⟨rfl, hX⟩
  · rw [xif_f (fun q => zp q.1)]
    exact ⟨rfl, hX⟩
theorem mX5_luck (g : gtX5_luck) : px_Met dC yX5_luck (Cond.code yX5_luck cX5_luck 6 (some .long) :: wdC) rmX5_luck px_vL (prX5_luck g) (poX5_luck g) :=
  px_met (Z := (cX5_luck, 6, RX5, Cond.code yX5_luck cX5_luck 6 (some .long) :: wdC, (some .long), rmX5_luck, dC)) opX5_luck (by decide) rfl rfl okX5_luck (fun As σ h => by obtain ⟨v1, v2, v3, v4, v5, rfl, h⟩ := h; exact Nat.le_of_ble_eq_true rfl) (fun As σ h G hG => by obtain ⟨v1, v2, v3, v4, v5, rfl, h⟩ := h; exact hhX5_luck g v1 v2 v3 v4 v5 σ h G hG)
abbrev gtX5_mean : Type := pv_X
def qrX5_mean (X : pv_X) (_ _ _ _ : Int32) (σ : px_St) : Prop := cl_is σ X ∧ xo X
def qoX5_mean (X : pv_X) (v s n w : Int32) (_ : px_St) (r : Int64) (σ' : px_St) : Prop := r = (x_mean X v s n w).1 ∧ cl_is σ' (x_mean X v s n w).2
def prX5_mean (g : gtX5_mean) : List Value → px_St → Prop := fun As σ => ∃ v1 : Int32, ∃ v2 : Int32, ∃ v3 : Int32, ∃ v4 : Int32, As = [.ref 0, .int v1, .int v2, .int v3, .int v4] ∧ qrX5_mean g v1 v2 v3 v4 σ
def poX5_mean (g : gtX5_mean) : List Value → px_St → Int64 → px_St → Prop
  | [.ref _, .int v1, .int v2, .int v3, .int v4], σ, r, σ' => qoX5_mean g v1 v2 v3 v4 σ r σ'
  | _, _, _, _ => False
theorem dX5_mean_0 : decode cX5_mean 0 = .ok (.iload_n 1, 1) := by decide +kernel
theorem dX5_mean_1 : decode cX5_mean 1 = .ok (.iload_n 2, 1) := by decide +kernel
theorem dX5_mean_2 : decode cX5_mean 2 = .ok (.iload_n 3, 1) := by decide +kernel
theorem dX5_mean_3 : decode cX5_mean 3 = .ok (.iload 4, 2) := by decide +kernel
theorem dX5_mean_5 : decode cX5_mean 5 = .ok (.invokestatic 193, 3) := by decide +kernel
theorem dX5_mean_8 : decode cX5_mean 8 = .ok (.ifCond .ne 7, 3) := by decide +kernel
theorem dX5_mean_11 : decode cX5_mean 11 = .ok (.ldc2_w 197, 3) := by decide +kernel
theorem dX5_mean_14 : decode cX5_mean 14 = .ok (.lreturn, 1) := by decide +kernel
theorem dX5_mean_15 : decode cX5_mean 15 = .ok (.aload_n 0, 1) := by decide +kernel
theorem dX5_mean_16 : decode cX5_mean 16 = .ok (.iload_n 1, 1) := by decide +kernel
theorem dX5_mean_17 : decode cX5_mean 17 = .ok (.iload_n 2, 1) := by decide +kernel
theorem dX5_mean_18 : decode cX5_mean 18 = .ok (.iload_n 3, 1) := by decide +kernel
theorem dX5_mean_19 : decode cX5_mean 19 = .ok (.bipush 31, 2) := by decide +kernel
theorem dX5_mean_21 : decode cX5_mean 21 = .ok (.invokevirtual 199, 3) := by decide +kernel
theorem dX5_mean_24 : decode cX5_mean 24 = .ok (.bipush 10, 2) := by decide +kernel
theorem dX5_mean_26 : decode cX5_mean 26 = .ok (.iload_n 3, 1) := by decide +kernel
theorem dX5_mean_27 : decode cX5_mean 27 = .ok (.invokestatic 203, 3) := by decide +kernel
theorem dX5_mean_30 : decode cX5_mean 30 = .ok (.iload 4, 2) := by decide +kernel
theorem dX5_mean_32 : decode cX5_mean 32 = .ok (.invokestatic 207, 3) := by decide +kernel
theorem dX5_mean_35 : decode cX5_mean 35 = .ok (.lreturn, 1) := by decide +kernel
abbrev rmX5_mean : Room := { frames := 6, cells := 0, slots := 0, locals := 159 }
def opX5_mean (po : Int64 → px_St → Prop) : List (Nat × px_Op) := [
  (0, px_il 1 1),
  (1, px_il 2 2),
  (2, px_il 3 3),
  (3, px_il 5 4),
  (5, px_callS 8 4 px_vI prX5_isClothCall poX5_isClothCall),
  (8, px_if 11 15 (fun x => ¬ x = 0)),
  (11, px_push 14 (.long (-1))),
  (14, px_lret po),
  (15, px_al 16 0),
  (16, px_il 17 1),
  (17, px_il 18 2),
  (18, px_il 19 3),
  (19, px_push 21 (.int 31)),
  (21, px_callV dC 24 5 4 px_vL prX5_weighedKnowers poX5_weighedKnowers),
  (24, px_push 26 (.int 10)),
  (26, px_il 27 3),
  (27, px_callS 30 2 px_vL prX5_powerOf poX5_powerOf),
  (30, px_il 32 4),
  (32, px_callS 35 3 px_vL prX5_partOf poX5_partOf),
  (35, px_lret po)]
set_option maxRecDepth 100000 in
set_option maxHeartbeats 4000000 in
theorem okX5_mean : ∀ (po : Int64 → px_St → Prop) (i pc : Nat) (op : px_Op), (opX5_mean po)[i]? = some (pc, op) → px_Snd (cX5_mean, 5, RX5, Cond.code yX5_mean cX5_mean 5 (some .long) :: wdC, (some .long), rmX5_mean, dC) px_vL po pc op := by
  intro po
  unfold opX5_mean
  refine px_ok_cons (ps_iload_n dX5_mean_0 rfl) ?_
  refine px_ok_cons (ps_iload_n dX5_mean_1 rfl) ?_
  refine px_ok_cons (ps_iload_n dX5_mean_2 rfl) ?_
  refine px_ok_cons (ps_iload dX5_mean_3) ?_
  refine px_ok_cons (ps_callS mX5_isClothCall (fun _ _ => rfl) (fun _ _ ht => px_cwS wgC (wdC_9_in _ (List.mem_of_getElem? (i := 2) rfl)) (wdC_9_in _ (List.mem_of_getElem? (i := 3) rfl)) (wdC_4_in _ (List.mem_of_getElem? (i := 23) rfl)) (wdC_8_in _ (List.mem_of_getElem? (i := 31) rfl)) (by decide +kernel) rfl rfl (by decide) ht) dX5_mean_5) ?_
  refine px_ok_cons (ps_if_ne dX5_mean_8 (by decide)) ?_
  refine px_ok_cons (ps_ldc2 (List.mem_cons_of_mem _ (wdC_9_in _ (List.mem_of_getElem? (i := 1) rfl))) dX5_mean_11) ?_
  refine px_ok_cons (ps_lreturn rfl dX5_mean_14) ?_
  refine px_ok_cons (ps_aload_n dX5_mean_15 rfl) ?_
  refine px_ok_cons (ps_iload_n dX5_mean_16 rfl) ?_
  refine px_ok_cons (ps_iload_n dX5_mean_17 rfl) ?_
  refine px_ok_cons (ps_iload_n dX5_mean_18 rfl) ?_
  refine px_ok_cons (ps_bipush dX5_mean_19 (by decide)) ?_
  refine px_ok_cons (ps_callV mX5_weighedKnowers (fun _ _ => rfl) (C := RX5) rfl (fun _ _ ht => px_cwV wgC (wdC_9_in _ (List.mem_of_getElem? (i := 4) rfl)) (wdC_9_in _ (List.mem_of_getElem? (i := 5) rfl)) (wdC_9_in _ (List.mem_of_getElem? (i := 6) rfl)) (wdC_4_in _ (List.mem_of_getElem? (i := 23) rfl)) (wdC_8_in _ (List.mem_of_getElem? (i := 39) rfl)) (by decide +kernel) rfl rfl (by decide) ht) dX5_mean_21) ?_
  refine px_ok_cons (ps_bipush dX5_mean_24 (by decide)) ?_
  refine px_ok_cons (ps_iload_n dX5_mean_26 rfl) ?_
  refine px_ok_cons (ps_callS mX5_powerOf (fun _ _ => rfl) (fun _ _ ht => px_cwS wgC (wdC_8_in _ (List.mem_of_getElem? (i := 34) rfl)) (wdC_8_in _ (List.mem_of_getElem? (i := 35) rfl)) (wdC_4_in _ (List.mem_of_getElem? (i := 23) rfl)) (wdC_8_in _ (List.mem_of_getElem? (i := 32) rfl)) (by decide +kernel) rfl rfl (by decide) ht) dX5_mean_27) ?_
  refine px_ok_cons (ps_iload dX5_mean_30) ?_
  refine px_ok_cons (ps_callS mX5_partOf (fun _ _ => rfl) (fun _ _ ht => px_cwS wgC (wdC_9_in _ (List.mem_of_getElem? (i := 7) rfl)) (wdC_9_in _ (List.mem_of_getElem? (i := 8) rfl)) (wdC_4_in _ (List.mem_of_getElem? (i := 23) rfl)) (wdC_9_in _ (List.mem_of_getElem? (i := 0) rfl)) (by decide +kernel) rfl rfl (by decide) ht) dX5_mean_32) ?_
  refine px_ok_cons (ps_lreturn rfl dX5_mean_35) ?_
  exact px_ok_nil
set_option maxRecDepth 100000 in
set_option maxHeartbeats 4000000 in
theorem sgX5_mean_0 {po : Int64 → px_St → Prop} {G : px_K} (hG : px_cl (opX5_mean po) G) (v1 : Int32) (v2 : Int32) (v3 : Int32) (v4 : Int32) (σ : px_St)
    (H : ∃ g3 : gtX5_isClothCall, qrX5_isClothCall g3 v1 v2 v3 v4 σ ∧ ∀ (r1 : Int32) (σ2 : px_St), qoX5_isClothCall g3 v1 v2 v3 v4 σ r1 σ2 → ((¬ r1 = 0) → ∃ g7 : gtX5_weighedKnowers, qrX5_weighedKnowers g7 v1 v2 v3 (31 : Int32) σ2 ∧ ∀ (r5 : Int64) (σ6 : px_St), qoX5_weighedKnowers g7 v1 v2 v3 (31 : Int32) σ2 r5 σ6 → ∃ g11 : gtX5_powerOf, qrX5_powerOf g11 (10 : Int32) v3 σ6 ∧ ∀ (r9 : Int64) (σ10 : px_St), qoX5_powerOf g11 (10 : Int32) v3 σ6 r9 σ10 → ∃ g15 : gtX5_partOf, qrX5_partOf g15 r5 r9 v4 σ10 ∧ ∀ (r13 : Int64) (σ14 : px_St), qoX5_partOf g15 r5 r9 v4 σ10 r13 σ14 → po r13 σ14) ∧ (¬ (¬ r1 = 0) → po (-1 : Int64) σ2)) :
    G 0 (px_ent 5 [.ref 0, .int v1, .int v2, .int v3, .int v4]) [] σ := by
  refine hG.1 0 _ _ rfl _ _ _ ?_
  refine hG.1 1 _ _ rfl _ _ _ ?_
  refine hG.1 2 _ _ rfl _ _ _ ?_
  refine hG.1 3 _ _ rfl _ _ _ ?_
  refine hG.1 4 _ _ rfl _ _ _ ?_
  obtain ⟨g3, H⟩ := H
  refine ⟨Nat.le_of_ble_eq_true rfl, Nat.le_of_ble_eq_true rfl, g3, ⟨_, _, _, _, rfl, H.1⟩, fun r1 σ2 hp4 => ?_⟩
  replace H := H.2 r1 σ2 hp4
  refine hG.1 5 _ _ rfl _ _ _ ?_
  refine ⟨fun h17 => ?_, fun h17 => ?_⟩
  · replace H := H.1 h17
    refine hG.1 8 _ _ rfl _ _ _ ?_
    refine hG.1 9 _ _ rfl _ _ _ ?_
    refine hG.1 10 _ _ rfl _ _ _ ?_
    refine hG.1 11 _ _ rfl _ _ _ ?_
    refine hG.1 12 _ _ rfl _ _ _ ?_
    refine hG.1 13 _ _ rfl _ _ _ ?_
    obtain ⟨g7, H⟩ := H
    refine ⟨⟨rfl, by decide⟩, Nat.le_of_ble_eq_true rfl, g7, ⟨_, _, _, _, rfl, H.1⟩, fun r5 σ6 hp8 => ?_⟩
    replace H := H.2 r5 σ6 hp8
    refine hG.1 14 _ _ rfl _ _ _ ?_
    refine hG.1 15 _ _ rfl _ _ _ ?_
    refine hG.1 16 _ _ rfl _ _ _ ?_
    obtain ⟨g11, H⟩ := H
    refine ⟨Nat.le_of_ble_eq_true rfl, Nat.le_of_ble_eq_true rfl, g11, ⟨_, _, rfl, H.1⟩, fun r9 σ10 hp12 => ?_⟩
    replace H := H.2 r9 σ10 hp12
    refine hG.1 17 _ _ rfl _ _ _ ?_
    refine hG.1 18 _ _ rfl _ _ _ ?_
    obtain ⟨g15, H⟩ := H
    refine ⟨Nat.le_of_ble_eq_true rfl, Nat.le_of_ble_eq_true rfl, g15, ⟨_, _, _, rfl, H.1⟩, fun r13 σ14 hp16 => ?_⟩
    replace H := H.2 r13 σ14 hp16
    refine hG.1 19 _ _ rfl _ _ _ ?_
    exact H
  · replace H := H.2 h17
    refine hG.1 6 _ _ rfl _ _ _ ?_
    refine hG.1 7 _ _ rfl _ _ _ ?_
    exact H
set_option maxRecDepth 100000 in
set_option maxHeartbeats 4000000 in
theorem hhX5_mean (g : gtX5_mean) (v1 : Int32) (v2 : Int32) (v3 : Int32) (v4 : Int32) (σ : px_St) (h : qrX5_mean g v1 v2 v3 v4 σ) (G : px_K) (hG : px_cl (opX5_mean (qoX5_mean g v1 v2 v3 v4 σ)) G) : G 0 (px_ent 5 [.ref 0, .int v1, .int v2, .int v3, .int v4]) [] σ := by
  obtain ⟨hX, hok⟩ := h
  have hd := hok.1.2
  have hvk := hok.1.1
  refine sgX5_mean_0 hG _ _ _ _ σ ⟨(), trivial, fun r1 σ1 h1 => ?_⟩
  obtain ⟨rfl, b1⟩ := h1
  unfold qoX5_mean x_mean
  refine bz1 b1 (fun z => ?_) (fun z => ?_)
  · rw [xif_t z]
    obtain ⟨v, hv, rfl⟩ := (rngc 10 10 rfl (by omega)).mp z.1
    obtain ⟨s, hs, rfl⟩ := (rngc 9 9 rfl (by omega)).mp z.2.1
    obtain ⟨n, hn, rfl⟩ := (rngc 8 8 rfl (by omega)).mp z.2.2.1
    have h10 : 10 ^ n ≤ 10 ^ 8 := Nat.pow_le_pow_right (by omega) hn
    have h10p : 0 < 10 ^ n := Nat.pow_pos (by omega)
    rw [nI_clamp (show v < 2 ^ 31 by omega), nI_clamp (show s < 2 ^ 31 by omega), nI_clamp (show n < 2 ^ 31 by omega)]
    refine ⟨(g.1, v, s, n, 31), ⟨hX.1, hvk, by omega, hv, hs, hn, by omega, rfl, rfl, rfl, rfl⟩, fun r2 σ2 h2 => ?_⟩
    obtain ⟨rfl, o2⟩ := h2
    refine ⟨(10, n), ⟨by omega, by omega, rfl, rfl⟩, fun r3 σ3 h3 => ?_⟩
    obtain ⟨rfl, rfl⟩ := h3
    refine ⟨(pv_ws g.1 v s n 31 (2 ^ n), 10 ^ n), ⟨pv_ws_lt hv hn, h10p, by omega, rfl, rfl⟩, fun r4 σ4 h4 => ?_⟩
    obtain ⟨rfl, rfl⟩ := h4
    exact ⟨rfl, px_only18.cl o2 hX⟩
  · rw [xif_f z]
    exact ⟨rfl, hX⟩
theorem mX5_mean (g : gtX5_mean) : px_Met dC yX5_mean (Cond.code yX5_mean cX5_mean 5 (some .long) :: wdC) rmX5_mean px_vL (prX5_mean g) (poX5_mean g) :=
  px_met (Z := (cX5_mean, 5, RX5, Cond.code yX5_mean cX5_mean 5 (some .long) :: wdC, (some .long), rmX5_mean, dC)) opX5_mean (by decide) rfl rfl okX5_mean (fun As σ h => by obtain ⟨v1, v2, v3, v4, rfl, h⟩ := h; exact Nat.le_of_ble_eq_true rfl) (fun As σ h G hG => by obtain ⟨v1, v2, v3, v4, rfl, h⟩ := h; exact hhX5_mean g v1 v2 v3 v4 σ h G hG)
noncomputable def x_see (X : pv_X) (n s : Int32) : Int32 × pv_X := xif ((0 ≤ n ∧ n ≤ 20) ∧ (0 ≤ s ∧ s ≤ 9)) (xif (X.2.1.length < 6) (nI (X.2.1.length + 1), xS X (X.2.1 ++ [(n.toNatClampNeg, s.toNatClampNeg)])) (-3, X)) (-1, X)
noncomputable def x_forget (X : pv_X) (n : Int32) : Int32 × pv_X := xif (0 ≤ n ∧ n ≤ nI X.2.1.length) (nI X.2.1.length, xS X (X.2.1.take n.toNatClampNeg)) (-1, X)
abbrev gtX5_see : Type := pv_X
def qrX5_see (X : pv_X) (_ _ : Int32) (σ : px_St) : Prop := cl_is σ X ∧ xo X
def qoX5_see (X : pv_X) (n s : Int32) (_ : px_St) (r : Int32) (σ' : px_St) : Prop := r = (x_see X n s).1 ∧ cl_is σ' (x_see X n s).2
def prX5_see (g : gtX5_see) : List Value → px_St → Prop := fun As σ => ∃ v1 : Int32, ∃ v2 : Int32, As = [.ref 0, .int v1, .int v2] ∧ qrX5_see g v1 v2 σ
def poX5_see (g : gtX5_see) : List Value → px_St → Int32 → px_St → Prop
  | [.ref _, .int v1, .int v2], σ, r, σ' => qoX5_see g v1 v2 σ r σ'
  | _, _, _, _ => False
theorem dX5_see_0 : decode cX5_see 0 = .ok (.iload_n 1, 1) := by decide +kernel
theorem dX5_see_1 : decode cX5_see 1 = .ok (.iconst 0, 1) := by decide +kernel
theorem dX5_see_2 : decode cX5_see 2 = .ok (.bipush 20, 2) := by decide +kernel
theorem dX5_see_4 : decode cX5_see 4 = .ok (.invokestatic 61, 3) := by decide +kernel
theorem dX5_see_7 : decode cX5_see 7 = .ok (.ifCond .eq 10, 3) := by decide +kernel
theorem dX5_see_10 : decode cX5_see 10 = .ok (.iload_n 2, 1) := by decide +kernel
theorem dX5_see_11 : decode cX5_see 11 = .ok (.invokestatic 132, 3) := by decide +kernel
theorem dX5_see_14 : decode cX5_see 14 = .ok (.ifCond .ne 5, 3) := by decide +kernel
theorem dX5_see_17 : decode cX5_see 17 = .ok (.iconst (-1), 1) := by decide +kernel
theorem dX5_see_18 : decode cX5_see 18 = .ok (.ireturn, 1) := by decide +kernel
theorem dX5_see_19 : decode cX5_see 19 = .ok (.aload_n 0, 1) := by decide +kernel
theorem dX5_see_20 : decode cX5_see 20 = .ok (.getfield 19, 3) := by decide +kernel
theorem dX5_see_23 : decode cX5_see 23 = .ok (.getfield 86, 3) := by decide +kernel
theorem dX5_see_26 : decode cX5_see 26 = .ok (.bipush 6, 2) := by decide +kernel
theorem dX5_see_28 : decode cX5_see 28 = .ok (.if_icmp .lt 6, 3) := by decide +kernel
theorem dX5_see_31 : decode cX5_see 31 = .ok (.bipush (-3), 2) := by decide +kernel
theorem dX5_see_33 : decode cX5_see 33 = .ok (.ireturn, 1) := by decide +kernel
theorem dX5_see_34 : decode cX5_see 34 = .ok (.aload_n 0, 1) := by decide +kernel
theorem dX5_see_35 : decode cX5_see 35 = .ok (.getfield 19, 3) := by decide +kernel
theorem dX5_see_38 : decode cX5_see 38 = .ok (.getfield 211, 3) := by decide +kernel
theorem dX5_see_41 : decode cX5_see 41 = .ok (.aload_n 0, 1) := by decide +kernel
theorem dX5_see_42 : decode cX5_see 42 = .ok (.getfield 19, 3) := by decide +kernel
theorem dX5_see_45 : decode cX5_see 45 = .ok (.getfield 86, 3) := by decide +kernel
theorem dX5_see_48 : decode cX5_see 48 = .ok (.iload_n 1, 1) := by decide +kernel
theorem dX5_see_49 : decode cX5_see 49 = .ok (.iastore, 1) := by decide +kernel
theorem dX5_see_50 : decode cX5_see 50 = .ok (.aload_n 0, 1) := by decide +kernel
theorem dX5_see_51 : decode cX5_see 51 = .ok (.getfield 19, 3) := by decide +kernel
theorem dX5_see_54 : decode cX5_see 54 = .ok (.getfield 213, 3) := by decide +kernel
theorem dX5_see_57 : decode cX5_see 57 = .ok (.aload_n 0, 1) := by decide +kernel
theorem dX5_see_58 : decode cX5_see 58 = .ok (.getfield 19, 3) := by decide +kernel
theorem dX5_see_61 : decode cX5_see 61 = .ok (.getfield 86, 3) := by decide +kernel
theorem dX5_see_64 : decode cX5_see 64 = .ok (.iload_n 2, 1) := by decide +kernel
theorem dX5_see_65 : decode cX5_see 65 = .ok (.iastore, 1) := by decide +kernel
theorem dX5_see_66 : decode cX5_see 66 = .ok (.aload_n 0, 1) := by decide +kernel
theorem dX5_see_67 : decode cX5_see 67 = .ok (.getfield 19, 3) := by decide +kernel
theorem dX5_see_70 : decode cX5_see 70 = .ok (.dup, 1) := by decide +kernel
theorem dX5_see_71 : decode cX5_see 71 = .ok (.getfield 86, 3) := by decide +kernel
theorem dX5_see_74 : decode cX5_see 74 = .ok (.iconst 1, 1) := by decide +kernel
theorem dX5_see_75 : decode cX5_see 75 = .ok (.iadd, 1) := by decide +kernel
theorem dX5_see_76 : decode cX5_see 76 = .ok (.putfield 86, 3) := by decide +kernel
theorem dX5_see_79 : decode cX5_see 79 = .ok (.aload_n 0, 1) := by decide +kernel
theorem dX5_see_80 : decode cX5_see 80 = .ok (.getfield 19, 3) := by decide +kernel
theorem dX5_see_83 : decode cX5_see 83 = .ok (.getfield 86, 3) := by decide +kernel
theorem dX5_see_86 : decode cX5_see 86 = .ok (.ireturn, 1) := by decide +kernel
abbrev rmX5_see : Room := { frames := 2, cells := 0, slots := 0, locals := 42 }
def opX5_see (po : Int32 → px_St → Prop) : List (Nat × px_Op) := [
  (0, px_il 1 1),
  (1, px_push 2 (.int 0)),
  (2, px_push 4 (.int 20)),
  (4, px_callS 7 3 px_vI prX5_isWithin poX5_isWithin),
  (7, px_if 10 17 (fun x => x = 0)),
  (10, px_il 11 2),
  (11, px_callS 14 1 px_vI prX5_isSound poX5_isSound),
  (14, px_if 17 19 (fun x => ¬ x = 0)),
  (17, px_push 18 (.int (-1))),
  (18, px_iret (.int) po),
  (19, px_al 20 0),
  (20, px_get dC 23 5 1),
  (23, px_get dC 26 2 0),
  (26, px_push 28 (.int 6)),
  (28, px_ic 31 34 (fun x y => x < y)),
  (31, px_push 33 (.int (-3))),
  (33, px_iret (.int) po),
  (34, px_al 35 0),
  (35, px_get dC 38 5 1),
  (38, px_get dC 41 2 1),
  (41, px_al 42 0),
  (42, px_get dC 45 5 1),
  (45, px_get dC 48 2 0),
  (48, px_il 49 1),
  (49, px_ast dC 50 0 (fun x => x)),
  (50, px_al 51 0),
  (51, px_get dC 54 5 1),
  (54, px_get dC 57 2 2),
  (57, px_al 58 0),
  (58, px_get dC 61 5 1),
  (61, px_get dC 64 2 0),
  (64, px_il 65 2),
  (65, px_ast dC 66 0 (fun x => x)),
  (66, px_al 67 0),
  (67, px_get dC 70 5 1),
  (70, px_dup 71),
  (71, px_get dC 74 2 0),
  (74, px_push 75 (.int 1)),
  (75, px_bin 76 (fun x y => x + y)),
  (76, px_put dC 79 2 0 .int),
  (79, px_al 80 0),
  (80, px_get dC 83 5 1),
  (83, px_get dC 86 2 0),
  (86, px_iret (.int) po)]
set_option maxRecDepth 100000 in
set_option maxHeartbeats 4000000 in
theorem okX5_see : ∀ (po : Int32 → px_St → Prop) (i pc : Nat) (op : px_Op), (opX5_see po)[i]? = some (pc, op) → px_Snd (cX5_see, 3, RX5, Cond.code yX5_see cX5_see 3 (some .int) :: wdC, (some .int), rmX5_see, dC) px_vI po pc op := by
  intro po
  unfold opX5_see
  refine px_ok_cons (ps_iload_n dX5_see_0 rfl) ?_
  refine px_ok_cons (ps_iconst dX5_see_1 (by decide)) ?_
  refine px_ok_cons (ps_bipush dX5_see_2 (by decide)) ?_
  refine px_ok_cons (ps_callS mX5_isWithin (fun _ _ => rfl) (fun _ _ ht => px_cwS wgC (wdC_4_in _ (List.mem_of_getElem? (i := 29) rfl)) (wdC_4_in _ (List.mem_of_getElem? (i := 22) rfl)) (wdC_4_in _ (List.mem_of_getElem? (i := 23) rfl)) (wdC_4_in _ (List.mem_of_getElem? (i := 20) rfl)) (by decide +kernel) rfl rfl (by decide) ht) dX5_see_4) ?_
  refine px_ok_cons (ps_if_eq dX5_see_7 (by decide)) ?_
  refine px_ok_cons (ps_iload_n dX5_see_10 rfl) ?_
  refine px_ok_cons (ps_callS mX5_isSound (fun _ _ => rfl) (fun _ _ ht => px_cwS wgC (wdC_7_in _ (List.mem_of_getElem? (i := 5) rfl)) (wdC_4_in _ (List.mem_of_getElem? (i := 32) rfl)) (wdC_4_in _ (List.mem_of_getElem? (i := 23) rfl)) (wdC_4_in _ (List.mem_of_getElem? (i := 28) rfl)) (by decide +kernel) rfl rfl (by decide) ht) dX5_see_11) ?_
  refine px_ok_cons (ps_if_ne dX5_see_14 (by decide)) ?_
  refine px_ok_cons (ps_iconst dX5_see_17 (by decide)) ?_
  refine px_ok_cons (ps_ireturn rfl dX5_see_18) ?_
  refine px_ok_cons (ps_aload_n dX5_see_19 rfl) ?_
  refine px_ok_cons (fgX5_19 dX5_see_20) ?_
  refine px_ok_cons (fgX5_86 dX5_see_23) ?_
  refine px_ok_cons (ps_bipush dX5_see_26 (by decide)) ?_
  refine px_ok_cons (ps_icmp_lt dX5_see_28 (by decide)) ?_
  refine px_ok_cons (ps_bipush dX5_see_31 (by decide)) ?_
  refine px_ok_cons (ps_ireturn rfl dX5_see_33) ?_
  refine px_ok_cons (ps_aload_n dX5_see_34 rfl) ?_
  refine px_ok_cons (fgX5_19 dX5_see_35) ?_
  refine px_ok_cons (fgX5_211 dX5_see_38) ?_
  refine px_ok_cons (ps_aload_n dX5_see_41 rfl) ?_
  refine px_ok_cons (fgX5_19 dX5_see_42) ?_
  refine px_ok_cons (fgX5_86 dX5_see_45) ?_
  refine px_ok_cons (ps_iload_n dX5_see_48 rfl) ?_
  refine px_ok_cons (ps_iastore dX5_see_49) ?_
  refine px_ok_cons (ps_aload_n dX5_see_50 rfl) ?_
  refine px_ok_cons (fgX5_19 dX5_see_51) ?_
  refine px_ok_cons (fgX5_213 dX5_see_54) ?_
  refine px_ok_cons (ps_aload_n dX5_see_57 rfl) ?_
  refine px_ok_cons (fgX5_19 dX5_see_58) ?_
  refine px_ok_cons (fgX5_86 dX5_see_61) ?_
  refine px_ok_cons (ps_iload_n dX5_see_64 rfl) ?_
  refine px_ok_cons (ps_iastore dX5_see_65) ?_
  refine px_ok_cons (ps_aload_n dX5_see_66 rfl) ?_
  refine px_ok_cons (fgX5_19 dX5_see_67) ?_
  refine px_ok_cons (ps_dup dX5_see_70) ?_
  refine px_ok_cons (fgX5_86 dX5_see_71) ?_
  refine px_ok_cons (ps_iconst dX5_see_74 (by decide)) ?_
  refine px_ok_cons (ps_iadd dX5_see_75) ?_
  refine px_ok_cons (fpX5_86 dX5_see_76) ?_
  refine px_ok_cons (ps_aload_n dX5_see_79 rfl) ?_
  refine px_ok_cons (fgX5_19 dX5_see_80) ?_
  refine px_ok_cons (fgX5_86 dX5_see_83) ?_
  refine px_ok_cons (ps_ireturn rfl dX5_see_86) ?_
  exact px_ok_nil
set_option maxRecDepth 100000 in
set_option maxHeartbeats 4000000 in
theorem sgX5_see_0 {po : Int32 → px_St → Prop} {G : px_K} (hG : px_cl (opX5_see po) G) (v1 : Int32) (v2 : Int32) (σ : px_St)
    (H : ∃ g3 : gtX5_isWithin, qrX5_isWithin g3 v1 (0 : Int32) (20 : Int32) σ ∧ ∀ (r1 : Int32) (σ2 : px_St), qoX5_isWithin g3 v1 (0 : Int32) (20 : Int32) σ r1 σ2 → ((r1 = 0) → po (-1 : Int32) σ2) ∧ (¬ (r1 = 0) → ∃ g7 : gtX5_isSound, qrX5_isSound g7 v2 σ2 ∧ ∀ (r5 : Int32) (σ6 : px_St), qoX5_isSound g7 v2 σ2 r5 σ6 → ((¬ r5 = 0) → (((σ6.1 38 0) < (6 : Int32)) → vp_in (σ6.1 38 0) 6 ∧ vp_in ((px_up σ6 39 (σ6.1 38 0).toNatClampNeg v1).1 38 0) 6 ∧ po ((px_up (px_up (px_up σ6 39 (σ6.1 38 0).toNatClampNeg v1) 40 ((px_up σ6 39 (σ6.1 38 0).toNatClampNeg v1).1 38 0).toNatClampNeg v2) 38 0 (((px_up (px_up σ6 39 (σ6.1 38 0).toNatClampNeg v1) 40 ((px_up σ6 39 (σ6.1 38 0).toNatClampNeg v1).1 38 0).toNatClampNeg v2).1 38 0) + (1 : Int32))).1 38 0) (px_up (px_up (px_up σ6 39 (σ6.1 38 0).toNatClampNeg v1) 40 ((px_up σ6 39 (σ6.1 38 0).toNatClampNeg v1).1 38 0).toNatClampNeg v2) 38 0 (((px_up (px_up σ6 39 (σ6.1 38 0).toNatClampNeg v1) 40 ((px_up σ6 39 (σ6.1 38 0).toNatClampNeg v1).1 38 0).toNatClampNeg v2).1 38 0) + (1 : Int32)))) ∧ (¬ ((σ6.1 38 0) < (6 : Int32)) → po (-3 : Int32) σ6)) ∧ (¬ (¬ r5 = 0) → po (-1 : Int32) σ6))) :
    G 0 (px_ent 3 [.ref 0, .int v1, .int v2]) [] σ := by
  refine hG.1 0 _ _ rfl _ _ _ ?_
  refine hG.1 1 _ _ rfl _ _ _ ?_
  refine hG.1 2 _ _ rfl _ _ _ ?_
  refine hG.1 3 _ _ rfl _ _ _ ?_
  obtain ⟨g3, H⟩ := H
  refine ⟨Nat.le_of_ble_eq_true rfl, Nat.le_of_ble_eq_true rfl, g3, ⟨_, _, _, rfl, H.1⟩, fun r1 σ2 hp4 => ?_⟩
  replace H := H.2 r1 σ2 hp4
  refine hG.1 4 _ _ rfl _ _ _ ?_
  refine ⟨fun h11 => ?_, fun h11 => ?_⟩
  · replace H := H.1 h11
    refine hG.1 8 _ _ rfl _ _ _ ?_
    refine hG.1 9 _ _ rfl _ _ _ ?_
    exact ⟨rfl, H⟩
  · replace H := H.2 h11
    refine hG.1 5 _ _ rfl _ _ _ ?_
    refine hG.1 6 _ _ rfl _ _ _ ?_
    obtain ⟨g7, H⟩ := H
    refine ⟨Nat.le_of_ble_eq_true rfl, Nat.le_of_ble_eq_true rfl, g7, ⟨_, rfl, H.1⟩, fun r5 σ6 hp8 => ?_⟩
    replace H := H.2 r5 σ6 hp8
    refine hG.1 7 _ _ rfl _ _ _ ?_
    refine ⟨fun h10 => ?_, fun h10 => ?_⟩
    · replace H := H.1 h10
      refine hG.1 10 _ _ rfl _ _ _ ?_
      refine hG.1 11 _ _ rfl _ _ _ ?_
      refine ⟨⟨rfl, by decide⟩, ?_⟩
      refine hG.1 12 _ _ rfl _ _ _ ?_
      refine ⟨⟨rfl, by decide⟩, ?_⟩
      refine hG.1 13 _ _ rfl _ _ _ ?_
      refine hG.1 14 _ _ rfl _ _ _ ?_
      refine ⟨fun h9 => ?_, fun h9 => ?_⟩
      · replace H := H.1 h9
        refine hG.1 17 _ _ rfl _ _ _ ?_
        refine hG.1 18 _ _ rfl _ _ _ ?_
        refine ⟨⟨rfl, by decide⟩, ?_⟩
        refine hG.1 19 _ _ rfl _ _ _ ?_
        refine ⟨⟨rfl, by decide⟩, ?_⟩
        refine hG.1 20 _ _ rfl _ _ _ ?_
        refine hG.1 21 _ _ rfl _ _ _ ?_
        refine ⟨⟨rfl, by decide⟩, ?_⟩
        refine hG.1 22 _ _ rfl _ _ _ ?_
        refine ⟨⟨rfl, by decide⟩, ?_⟩
        refine hG.1 23 _ _ rfl _ _ _ ?_
        refine hG.1 24 _ _ rfl _ _ _ ?_
        refine ⟨⟨rfl, by decide⟩, H.1, ?_⟩
        replace H := H.2
        refine hG.1 25 _ _ rfl _ _ _ ?_
        refine hG.1 26 _ _ rfl _ _ _ ?_
        refine ⟨⟨rfl, by decide⟩, ?_⟩
        refine hG.1 27 _ _ rfl _ _ _ ?_
        refine ⟨⟨rfl, by decide⟩, ?_⟩
        refine hG.1 28 _ _ rfl _ _ _ ?_
        refine hG.1 29 _ _ rfl _ _ _ ?_
        refine ⟨⟨rfl, by decide⟩, ?_⟩
        refine hG.1 30 _ _ rfl _ _ _ ?_
        refine ⟨⟨rfl, by decide⟩, ?_⟩
        refine hG.1 31 _ _ rfl _ _ _ ?_
        refine hG.1 32 _ _ rfl _ _ _ ?_
        refine ⟨⟨rfl, by decide⟩, H.1, ?_⟩
        replace H := H.2
        refine hG.1 33 _ _ rfl _ _ _ ?_
        refine hG.1 34 _ _ rfl _ _ _ ?_
        refine ⟨⟨rfl, by decide⟩, ?_⟩
        refine hG.1 35 _ _ rfl _ _ _ ?_
        refine hG.1 36 _ _ rfl _ _ _ ?_
        refine ⟨⟨rfl, by decide⟩, ?_⟩
        refine hG.1 37 _ _ rfl _ _ _ ?_
        refine hG.1 38 _ _ rfl _ _ _ ?_
        refine hG.1 39 _ _ rfl _ _ _ ?_
        refine ⟨⟨rfl, by decide⟩, ⟨rfl, rfl⟩, ?_⟩
        refine hG.1 40 _ _ rfl _ _ _ ?_
        refine hG.1 41 _ _ rfl _ _ _ ?_
        refine ⟨⟨rfl, by decide⟩, ?_⟩
        refine hG.1 42 _ _ rfl _ _ _ ?_
        refine ⟨⟨rfl, by decide⟩, ?_⟩
        refine hG.1 43 _ _ rfl _ _ _ ?_
        exact ⟨rfl, H⟩
      · replace H := H.2 h9
        refine hG.1 15 _ _ rfl _ _ _ ?_
        refine hG.1 16 _ _ rfl _ _ _ ?_
        exact ⟨rfl, H⟩
    · replace H := H.2 h10
      refine hG.1 8 _ _ rfl _ _ _ ?_
      refine hG.1 9 _ _ rfl _ _ _ ?_
      exact ⟨rfl, H⟩
set_option maxRecDepth 100000 in
set_option maxHeartbeats 4000000 in
theorem hhX5_see (g : gtX5_see) (v1 : Int32) (v2 : Int32) (σ : px_St) (h : qrX5_see g v1 v2 σ) (G : px_K) (hG : px_cl (opX5_see (qoX5_see g v1 v2 σ)) G) : G 0 (px_ent 3 [.ref 0, .int v1, .int v2]) [] σ := by
  obtain ⟨hX, hok⟩ := h
  have hl := hok.2.1.1
  have hS := hX.2.1
  refine sgX5_see_0 hG _ _ σ ⟨(), trivial, fun r1 σ1 h1 => ?_⟩
  obtain ⟨rfl, b1⟩ := h1
  unfold qoX5_see x_see
  refine bz2 b1 (fun z => ⟨(), trivial, fun r2 σ2 h2 => ?_⟩) (fun z => ?_)
  · obtain ⟨rfl, b2⟩ := h2
    refine bz1 b2 (fun y => ?_) (fun y => ?_)
    · rw [xif_t ⟨z, y⟩]
      obtain ⟨n, hn, rfl⟩ := (rngc 20 20 rfl (by omega)).mp z
      obtain ⟨s, hs, rfl⟩ := (rngc 9 9 rfl (by omega)).mp y
      have c6 : nI g.2.1.length < 6 ↔ g.2.1.length < 6 := nIlt _ 6 rfl rfl (by omega) (by omega)
      rw [px_up_n (show (38 : Nat) ≠ 39 by omega), px_up_n (show (38 : Nat) ≠ 40 by omega), px_up_n (show (38 : Nat) ≠ 39 by omega), hS.1, px_up_at, if_pos ⟨rfl, rfl⟩, c6, nI_clamp (show g.2.1.length < 2 ^ 31 by omega), nI_clamp (show n < 2 ^ 31 by omega), nI_clamp (show s < 2 ^ 31 by omega), nI_1]
      refine ⟨fun h6 => ?_, fun h6 => ?_⟩
      · rw [xif_t h6]
        have hin : vp_in (nI g.2.1.length) 6 := vp_in_nI h6 (by decide)
        refine ⟨hin, hin, rfl, cl_S hX ⟨?_, fun i x hx => ?_⟩ (fun k hk => ?_)⟩
        · rw [px_up_at, if_pos ⟨rfl, rfl⟩, List.length_append]; rfl
        · rw [px_up_n (by omega), px_up_n (by omega), px_up_at, px_up_n (by omega), px_up_at]
          by_cases hi : i < g.2.1.length
          · rw [List.getElem?_append_left hi] at hx
            rw [if_neg (by omega), if_neg (by omega)]
            exact hS.2 i x hx
          · rw [List.getElem?_append_right (by omega)] at hx
            have h0 : i - g.2.1.length < 1 := (List.getElem?_eq_some_iff.mp hx).1
            have hi2 : i = g.2.1.length := by omega
            subst hi2
            rw [Nat.sub_self] at hx
            rw [if_pos ⟨rfl, rfl⟩, if_pos ⟨rfl, rfl⟩, ← Option.some.inj hx]
            exact ⟨rfl, rfl⟩
        · rw [px_up_n (by omega), px_up_n (by omega), px_up_n (by omega)]
      · rw [xif_f h6]
        exact ⟨rfl, hX⟩
    · rw [xif_f (fun q => y q.2)]
      exact ⟨rfl, hX⟩
  · rw [xif_f (fun q => z q.1)]
    exact ⟨rfl, hX⟩
theorem mX5_see (g : gtX5_see) : px_Met dC yX5_see (Cond.code yX5_see cX5_see 3 (some .int) :: wdC) rmX5_see px_vI (prX5_see g) (poX5_see g) :=
  px_met (Z := (cX5_see, 3, RX5, Cond.code yX5_see cX5_see 3 (some .int) :: wdC, (some .int), rmX5_see, dC)) opX5_see (by decide) rfl rfl okX5_see (fun As σ h => by obtain ⟨v1, v2, rfl, h⟩ := h; exact Nat.le_of_ble_eq_true rfl) (fun As σ h G hG => by obtain ⟨v1, v2, rfl, h⟩ := h; exact hhX5_see g v1 v2 σ h G hG)
abbrev gtX5_forget : Type := pv_X
def qrX5_forget (X : pv_X) (_ : Int32) (σ : px_St) : Prop := cl_is σ X ∧ xo X
def qoX5_forget (X : pv_X) (n : Int32) (_ : px_St) (r : Int32) (σ' : px_St) : Prop := r = (x_forget X n).1 ∧ cl_is σ' (x_forget X n).2
def prX5_forget (g : gtX5_forget) : List Value → px_St → Prop := fun As σ => ∃ v1 : Int32, As = [.ref 0, .int v1] ∧ qrX5_forget g v1 σ
def poX5_forget (g : gtX5_forget) : List Value → px_St → Int32 → px_St → Prop
  | [.ref _, .int v1], σ, r, σ' => qoX5_forget g v1 σ r σ'
  | _, _, _, _ => False
theorem dX5_forget_0 : decode cX5_forget 0 = .ok (.iload_n 1, 1) := by decide +kernel
theorem dX5_forget_1 : decode cX5_forget 1 = .ok (.iconst 0, 1) := by decide +kernel
theorem dX5_forget_2 : decode cX5_forget 2 = .ok (.aload_n 0, 1) := by decide +kernel
theorem dX5_forget_3 : decode cX5_forget 3 = .ok (.getfield 19, 3) := by decide +kernel
theorem dX5_forget_6 : decode cX5_forget 6 = .ok (.getfield 86, 3) := by decide +kernel
theorem dX5_forget_9 : decode cX5_forget 9 = .ok (.invokestatic 61, 3) := by decide +kernel
theorem dX5_forget_12 : decode cX5_forget 12 = .ok (.ifCond .ne 5, 3) := by decide +kernel
theorem dX5_forget_15 : decode cX5_forget 15 = .ok (.iconst (-1), 1) := by decide +kernel
theorem dX5_forget_16 : decode cX5_forget 16 = .ok (.ireturn, 1) := by decide +kernel
theorem dX5_forget_17 : decode cX5_forget 17 = .ok (.aload_n 0, 1) := by decide +kernel
theorem dX5_forget_18 : decode cX5_forget 18 = .ok (.getfield 19, 3) := by decide +kernel
theorem dX5_forget_21 : decode cX5_forget 21 = .ok (.getfield 86, 3) := by decide +kernel
theorem dX5_forget_24 : decode cX5_forget 24 = .ok (.istore_n 2, 1) := by decide +kernel
theorem dX5_forget_25 : decode cX5_forget 25 = .ok (.aload_n 0, 1) := by decide +kernel
theorem dX5_forget_26 : decode cX5_forget 26 = .ok (.getfield 19, 3) := by decide +kernel
theorem dX5_forget_29 : decode cX5_forget 29 = .ok (.iload_n 1, 1) := by decide +kernel
theorem dX5_forget_30 : decode cX5_forget 30 = .ok (.putfield 86, 3) := by decide +kernel
theorem dX5_forget_33 : decode cX5_forget 33 = .ok (.iload_n 2, 1) := by decide +kernel
theorem dX5_forget_34 : decode cX5_forget 34 = .ok (.ireturn, 1) := by decide +kernel
abbrev rmX5_forget : Room := { frames := 1, cells := 0, slots := 0, locals := 22 }
def opX5_forget (po : Int32 → px_St → Prop) : List (Nat × px_Op) := [
  (0, px_il 1 1),
  (1, px_push 2 (.int 0)),
  (2, px_al 3 0),
  (3, px_get dC 6 5 1),
  (6, px_get dC 9 2 0),
  (9, px_callS 12 3 px_vI prX5_isWithin poX5_isWithin),
  (12, px_if 15 17 (fun x => ¬ x = 0)),
  (15, px_push 16 (.int (-1))),
  (16, px_iret (.int) po),
  (17, px_al 18 0),
  (18, px_get dC 21 5 1),
  (21, px_get dC 24 2 0),
  (24, px_is 25 2),
  (25, px_al 26 0),
  (26, px_get dC 29 5 1),
  (29, px_il 30 1),
  (30, px_put dC 33 2 0 .int),
  (33, px_il 34 2),
  (34, px_iret (.int) po)]
set_option maxRecDepth 100000 in
set_option maxHeartbeats 4000000 in
theorem okX5_forget : ∀ (po : Int32 → px_St → Prop) (i pc : Nat) (op : px_Op), (opX5_forget po)[i]? = some (pc, op) → px_Snd (cX5_forget, 3, RX5, Cond.code yX5_forget cX5_forget 3 (some .int) :: wdC, (some .int), rmX5_forget, dC) px_vI po pc op := by
  intro po
  unfold opX5_forget
  refine px_ok_cons (ps_iload_n dX5_forget_0 rfl) ?_
  refine px_ok_cons (ps_iconst dX5_forget_1 (by decide)) ?_
  refine px_ok_cons (ps_aload_n dX5_forget_2 rfl) ?_
  refine px_ok_cons (fgX5_19 dX5_forget_3) ?_
  refine px_ok_cons (fgX5_86 dX5_forget_6) ?_
  refine px_ok_cons (ps_callS mX5_isWithin (fun _ _ => rfl) (fun _ _ ht => px_cwS wgC (wdC_4_in _ (List.mem_of_getElem? (i := 29) rfl)) (wdC_4_in _ (List.mem_of_getElem? (i := 22) rfl)) (wdC_4_in _ (List.mem_of_getElem? (i := 23) rfl)) (wdC_4_in _ (List.mem_of_getElem? (i := 20) rfl)) (by decide +kernel) rfl rfl (by decide) ht) dX5_forget_9) ?_
  refine px_ok_cons (ps_if_ne dX5_forget_12 (by decide)) ?_
  refine px_ok_cons (ps_iconst dX5_forget_15 (by decide)) ?_
  refine px_ok_cons (ps_ireturn rfl dX5_forget_16) ?_
  refine px_ok_cons (ps_aload_n dX5_forget_17 rfl) ?_
  refine px_ok_cons (fgX5_19 dX5_forget_18) ?_
  refine px_ok_cons (fgX5_86 dX5_forget_21) ?_
  refine px_ok_cons (ps_istore_n dX5_forget_24 rfl (by decide)) ?_
  refine px_ok_cons (ps_aload_n dX5_forget_25 rfl) ?_
  refine px_ok_cons (fgX5_19 dX5_forget_26) ?_
  refine px_ok_cons (ps_iload_n dX5_forget_29 rfl) ?_
  refine px_ok_cons (fpX5_86 dX5_forget_30) ?_
  refine px_ok_cons (ps_iload_n dX5_forget_33 rfl) ?_
  refine px_ok_cons (ps_ireturn rfl dX5_forget_34) ?_
  exact px_ok_nil
set_option maxRecDepth 100000 in
set_option maxHeartbeats 4000000 in
theorem sgX5_forget_0 {po : Int32 → px_St → Prop} {G : px_K} (hG : px_cl (opX5_forget po) G) (v1 : Int32) (σ : px_St)
    (H : ∃ g3 : gtX5_isWithin, qrX5_isWithin g3 v1 (0 : Int32) (σ.1 38 0) σ ∧ ∀ (r1 : Int32) (σ2 : px_St), qoX5_isWithin g3 v1 (0 : Int32) (σ.1 38 0) σ r1 σ2 → ((¬ r1 = 0) → po (σ2.1 38 0) (px_up σ2 38 0 v1)) ∧ (¬ (¬ r1 = 0) → po (-1 : Int32) σ2)) :
    G 0 (px_ent 3 [.ref 0, .int v1]) [] σ := by
  refine hG.1 0 _ _ rfl _ _ _ ?_
  refine hG.1 1 _ _ rfl _ _ _ ?_
  refine hG.1 2 _ _ rfl _ _ _ ?_
  refine hG.1 3 _ _ rfl _ _ _ ?_
  refine ⟨⟨rfl, by decide⟩, ?_⟩
  refine hG.1 4 _ _ rfl _ _ _ ?_
  refine ⟨⟨rfl, by decide⟩, ?_⟩
  refine hG.1 5 _ _ rfl _ _ _ ?_
  obtain ⟨g3, H⟩ := H
  refine ⟨Nat.le_of_ble_eq_true rfl, Nat.le_of_ble_eq_true rfl, g3, ⟨_, _, _, rfl, H.1⟩, fun r1 σ2 hp4 => ?_⟩
  replace H := H.2 r1 σ2 hp4
  refine hG.1 6 _ _ rfl _ _ _ ?_
  refine ⟨fun h5 => ?_, fun h5 => ?_⟩
  · replace H := H.1 h5
    refine hG.1 9 _ _ rfl _ _ _ ?_
    refine hG.1 10 _ _ rfl _ _ _ ?_
    refine ⟨⟨rfl, by decide⟩, ?_⟩
    refine hG.1 11 _ _ rfl _ _ _ ?_
    refine ⟨⟨rfl, by decide⟩, ?_⟩
    refine hG.1 12 _ _ rfl _ _ _ ?_
    show G 25 [some (.ref 0), some (.int v1), some (.int (σ2.1 38 0))] [] σ2
    refine hG.1 13 _ _ rfl _ _ _ ?_
    refine hG.1 14 _ _ rfl _ _ _ ?_
    refine ⟨⟨rfl, by decide⟩, ?_⟩
    refine hG.1 15 _ _ rfl _ _ _ ?_
    refine hG.1 16 _ _ rfl _ _ _ ?_
    refine ⟨⟨rfl, by decide⟩, ⟨rfl, rfl⟩, ?_⟩
    refine hG.1 17 _ _ rfl _ _ _ ?_
    refine hG.1 18 _ _ rfl _ _ _ ?_
    exact ⟨rfl, H⟩
  · replace H := H.2 h5
    refine hG.1 7 _ _ rfl _ _ _ ?_
    refine hG.1 8 _ _ rfl _ _ _ ?_
    exact ⟨rfl, H⟩
set_option maxRecDepth 100000 in
set_option maxHeartbeats 4000000 in
theorem hhX5_forget (g : gtX5_forget) (v1 : Int32) (σ : px_St) (h : qrX5_forget g v1 σ) (G : px_K) (hG : px_cl (opX5_forget (qoX5_forget g v1 σ)) G) : G 0 (px_ent 3 [.ref 0, .int v1]) [] σ := by
  obtain ⟨hX, hok⟩ := h
  have hl := hok.2.1.1
  have hS := hX.2.1
  refine sgX5_forget_0 hG _ σ ⟨(), trivial, fun r1 σ1 h1 => ?_⟩
  obtain ⟨rfl, b1⟩ := h1
  rw [hS.1] at b1 ⊢
  unfold qoX5_forget x_forget
  refine bz1 b1 (fun z => ?_) (fun z => ?_)
  · rw [xif_t z]
    obtain ⟨n, hn, rfl⟩ := (rng (by omega)).mp z
    rw [nI_clamp (by omega)]
    refine ⟨rfl, cl_S hX ⟨?_, fun i x hx => ?_⟩ (fun k hk => px_up_n (by omega))⟩
    · rw [px_up_at, if_pos ⟨rfl, rfl⟩, List.length_take, Nat.min_eq_left hn]
    · rw [px_up_n (by omega), px_up_n (by omega)]
      rw [List.getElem?_take] at hx
      by_cases hi : i < n
      · rw [if_pos hi] at hx; exact hS.2 i x hx
      · rw [if_neg hi] at hx; cases hx
  · rw [xif_f z]
    exact ⟨rfl, hX⟩
theorem mX5_forget (g : gtX5_forget) : px_Met dC yX5_forget (Cond.code yX5_forget cX5_forget 3 (some .int) :: wdC) rmX5_forget px_vI (prX5_forget g) (poX5_forget g) :=
  px_met (Z := (cX5_forget, 3, RX5, Cond.code yX5_forget cX5_forget 3 (some .int) :: wdC, (some .int), rmX5_forget, dC)) opX5_forget (by decide) rfl rfl okX5_forget (fun As σ h => by obtain ⟨v1, rfl, h⟩ := h; exact Nat.le_of_ble_eq_true rfl) (fun As σ h G hG => by obtain ⟨v1, rfl, h⟩ := h; exact hhX5_forget g v1 σ h G hG)
/-- the bits k below m of those for which f holds -/
def pv_ob (f : Nat → Bool) : Nat → Nat
  | 0 => 0
  | k + 1 => if f k = true then pv_ob f k + 2 ^ k else pv_ob f k
theorem pv_ob_lt (f : Nat → Bool) (k : Nat) : pv_ob f k < 2 ^ k := by
  induction k with
  | zero => exact Nat.zero_lt_one
  | succ k ih =>
    rw [pv_ob, Nat.pow_succ]
    split <;> omega
theorem or10b : ∀ k, k < 10 → ∀ a, a < 1024 → a < 2 ^ k → (nI a ||| nI (2 ^ k)) = nI (a + 2 ^ k) := by decide +kernel
noncomputable def x_kinds (X : pv_X) (p : Int32) : Int32 × pv_X := (xif (xP X p) (nI (pv_ob (fun v => pv_asB (pv_knd X.1 p.toNatClampNeg v) X.2.1) 4)) (-1), X)
noncomputable def x_sounds (X : pv_X) (p i : Int32) : Int32 × pv_X := (xif (pv_own X.1 p i) (nI (pv_ob (fun s => pv_asB (pv_snd X.1 p.toNatClampNeg i.toNatClampNeg s) X.2.1) 10)) (-1), X)
abbrev gtX5_kinds : Type := pv_X
def qrX5_kinds (X : pv_X) (_ : Int32) (σ : px_St) : Prop := cl_is σ X ∧ xo X
def qoX5_kinds (X : pv_X) (p : Int32) (_ : px_St) (r : Int32) (σ' : px_St) : Prop := r = (x_kinds X p).1 ∧ cl_is σ' (x_kinds X p).2
def prX5_kinds (g : gtX5_kinds) : List Value → px_St → Prop := fun As σ => ∃ v1 : Int32, As = [.ref 0, .int v1] ∧ qrX5_kinds g v1 σ
def poX5_kinds (g : gtX5_kinds) : List Value → px_St → Int32 → px_St → Prop
  | [.ref _, .int v1], σ, r, σ' => qoX5_kinds g v1 σ r σ'
  | _, _, _, _ => False
theorem dX5_kinds_0 : decode cX5_kinds 0 = .ok (.aload_n 0, 1) := by decide +kernel
theorem dX5_kinds_1 : decode cX5_kinds 1 = .ok (.iload_n 1, 1) := by decide +kernel
theorem dX5_kinds_2 : decode cX5_kinds 2 = .ok (.invokevirtual 112, 3) := by decide +kernel
theorem dX5_kinds_5 : decode cX5_kinds 5 = .ok (.ifCond .ne 5, 3) := by decide +kernel
theorem dX5_kinds_8 : decode cX5_kinds 8 = .ok (.iconst (-1), 1) := by decide +kernel
theorem dX5_kinds_9 : decode cX5_kinds 9 = .ok (.ireturn, 1) := by decide +kernel
theorem dX5_kinds_10 : decode cX5_kinds 10 = .ok (.iconst 0, 1) := by decide +kernel
theorem dX5_kinds_11 : decode cX5_kinds 11 = .ok (.istore_n 2, 1) := by decide +kernel
theorem dX5_kinds_12 : decode cX5_kinds 12 = .ok (.aload_n 0, 1) := by decide +kernel
theorem dX5_kinds_13 : decode cX5_kinds 13 = .ok (.getfield 23, 3) := by decide +kernel
theorem dX5_kinds_16 : decode cX5_kinds 16 = .ok (.aload_n 0, 1) := by decide +kernel
theorem dX5_kinds_17 : decode cX5_kinds 17 = .ok (.getfield 10, 3) := by decide +kernel
theorem dX5_kinds_20 : decode cX5_kinds 20 = .ok (.invokevirtual 82, 3) := by decide +kernel
theorem dX5_kinds_23 : decode cX5_kinds 23 = .ok (.iconst 0, 1) := by decide +kernel
theorem dX5_kinds_24 : decode cX5_kinds 24 = .ok (.istore_n 3, 1) := by decide +kernel
theorem dX5_kinds_25 : decode cX5_kinds 25 = .ok (.iload_n 3, 1) := by decide +kernel
theorem dX5_kinds_26 : decode cX5_kinds 26 = .ok (.iconst 4, 1) := by decide +kernel
theorem dX5_kinds_27 : decode cX5_kinds 27 = .ok (.if_icmp .ge 36, 3) := by decide +kernel
theorem dX5_kinds_30 : decode cX5_kinds 30 = .ok (.aload_n 0, 1) := by decide +kernel
theorem dX5_kinds_31 : decode cX5_kinds 31 = .ok (.getfield 23, 3) := by decide +kernel
theorem dX5_kinds_34 : decode cX5_kinds 34 = .ok (.getfield 116, 3) := by decide +kernel
theorem dX5_kinds_37 : decode cX5_kinds 37 = .ok (.iload_n 1, 1) := by decide +kernel
theorem dX5_kinds_38 : decode cX5_kinds 38 = .ok (.iload_n 3, 1) := by decide +kernel
theorem dX5_kinds_39 : decode cX5_kinds 39 = .ok (.iastore, 1) := by decide +kernel
theorem dX5_kinds_40 : decode cX5_kinds 40 = .ok (.aload_n 0, 1) := by decide +kernel
theorem dX5_kinds_41 : decode cX5_kinds 41 = .ok (.aload_n 0, 1) := by decide +kernel
theorem dX5_kinds_42 : decode cX5_kinds 42 = .ok (.getfield 23, 3) := by decide +kernel
theorem dX5_kinds_45 : decode cX5_kinds 45 = .ok (.invokevirtual 216, 3) := by decide +kernel
theorem dX5_kinds_48 : decode cX5_kinds 48 = .ok (.ifCond .eq 9, 3) := by decide +kernel
theorem dX5_kinds_51 : decode cX5_kinds 51 = .ok (.iload_n 2, 1) := by decide +kernel
theorem dX5_kinds_52 : decode cX5_kinds 52 = .ok (.iconst 1, 1) := by decide +kernel
theorem dX5_kinds_53 : decode cX5_kinds 53 = .ok (.iload_n 3, 1) := by decide +kernel
theorem dX5_kinds_54 : decode cX5_kinds 54 = .ok (.ishl, 1) := by decide +kernel
theorem dX5_kinds_55 : decode cX5_kinds 55 = .ok (.ior, 1) := by decide +kernel
theorem dX5_kinds_56 : decode cX5_kinds 56 = .ok (.istore_n 2, 1) := by decide +kernel
theorem dX5_kinds_57 : decode cX5_kinds 57 = .ok (.iinc 3 1, 3) := by decide +kernel
theorem dX5_kinds_60 : decode cX5_kinds 60 = .ok (.goto (-35), 3) := by decide +kernel
theorem dX5_kinds_63 : decode cX5_kinds 63 = .ok (.iload_n 2, 1) := by decide +kernel
theorem dX5_kinds_64 : decode cX5_kinds 64 = .ok (.ireturn, 1) := by decide +kernel
abbrev rmX5_kinds : Room := { frames := 6, cells := 0, slots := 0, locals := 150 }
def opX5_kinds (po : Int32 → px_St → Prop) : List (Nat × px_Op) := [
  (0, px_al 1 0),
  (1, px_il 2 1),
  (2, px_callV dC 5 5 1 px_vI prX5_isParrot poX5_isParrot),
  (5, px_if 8 10 (fun x => ¬ x = 0)),
  (8, px_push 9 (.int (-1))),
  (9, px_iret (.int) po),
  (10, px_push 11 (.int 0)),
  (11, px_is 12 2),
  (12, px_al 13 0),
  (13, px_get dC 16 5 2),
  (16, px_al 17 0),
  (17, px_get dC 20 5 0),
  (20, px_callV dC 23 0 1 px_vV prX0_becomes poX0_becomes),
  (23, px_push 24 (.int 0)),
  (24, px_is 25 3),
  (25, px_il 26 3),
  (26, px_push 27 (.int 4)),
  (27, px_ic 30 63 (fun x y => y ≤ x)),
  (30, px_al 31 0),
  (31, px_get dC 34 5 2),
  (34, px_get dC 37 0 3),
  (37, px_il 38 1),
  (38, px_il 39 3),
  (39, px_ast dC 40 0 (fun x => x)),
  (40, px_al 41 0),
  (41, px_al 42 0),
  (42, px_get dC 45 5 2),
  (45, px_callV dC 48 5 1 px_vI prX5_isAsSeen poX5_isAsSeen),
  (48, px_if 51 57 (fun x => x = 0)),
  (51, px_il 52 2),
  (52, px_push 53 (.int 1)),
  (53, px_il 54 3),
  (54, px_bin 55 (fun x y => x <<< (y &&& 31))),
  (55, px_bin 56 (fun x y => x ||| y)),
  (56, px_is 57 2),
  (57, px_inc 60 3 1),
  (60, px_go 25),
  (63, px_il 64 2),
  (64, px_iret (.int) po)]
set_option maxRecDepth 100000 in
set_option maxHeartbeats 4000000 in
theorem okX5_kinds : ∀ (po : Int32 → px_St → Prop) (i pc : Nat) (op : px_Op), (opX5_kinds po)[i]? = some (pc, op) → px_Snd (cX5_kinds, 4, RX5, Cond.code yX5_kinds cX5_kinds 4 (some .int) :: wdC, (some .int), rmX5_kinds, dC) px_vI po pc op := by
  intro po
  unfold opX5_kinds
  refine px_ok_cons (ps_aload_n dX5_kinds_0 rfl) ?_
  refine px_ok_cons (ps_iload_n dX5_kinds_1 rfl) ?_
  refine px_ok_cons (ps_callV mX5_isParrot (fun _ _ => rfl) (C := RX5) rfl (fun _ _ ht => px_cwV wgC (wdC_6_in _ (List.mem_of_getElem? (i := 36) rfl)) (wdC_6_in _ (List.mem_of_getElem? (i := 37) rfl)) (wdC_6_in _ (List.mem_of_getElem? (i := 38) rfl)) (wdC_4_in _ (List.mem_of_getElem? (i := 23) rfl)) (wdC_6_in _ (List.mem_of_getElem? (i := 32) rfl)) (by decide +kernel) rfl rfl (by decide) ht) dX5_kinds_2) ?_
  refine px_ok_cons (ps_if_ne dX5_kinds_5 (by decide)) ?_
  refine px_ok_cons (ps_iconst dX5_kinds_8 (by decide)) ?_
  refine px_ok_cons (ps_ireturn rfl dX5_kinds_9) ?_
  refine px_ok_cons (ps_iconst dX5_kinds_10 (by decide)) ?_
  refine px_ok_cons (ps_istore_n dX5_kinds_11 rfl (by decide)) ?_
  refine px_ok_cons (ps_aload_n dX5_kinds_12 rfl) ?_
  refine px_ok_cons (fgX5_23 dX5_kinds_13) ?_
  refine px_ok_cons (ps_aload_n dX5_kinds_16 rfl) ?_
  refine px_ok_cons (fgX5_10 dX5_kinds_17) ?_
  refine px_ok_cons (ps_callV mX0_becomes (fun _ _ => rfl) (C := RX0) rfl (fun _ _ ht => px_cwV wgC (wdC_6_in _ (List.mem_of_getElem? (i := 18) rfl)) (wdC_6_in _ (List.mem_of_getElem? (i := 19) rfl)) (wdC_6_in _ (List.mem_of_getElem? (i := 20) rfl)) (wdC_0_in _ (List.mem_of_getElem? (i := 22) rfl)) (wdC_0_in _ (List.mem_of_getElem? (i := 18) rfl)) (by decide +kernel) rfl rfl (by decide) ht) dX5_kinds_20) ?_
  refine px_ok_cons (ps_iconst dX5_kinds_23 (by decide)) ?_
  refine px_ok_cons (ps_istore_n dX5_kinds_24 rfl (by decide)) ?_
  refine px_ok_cons (ps_iload_n dX5_kinds_25 rfl) ?_
  refine px_ok_cons (ps_iconst dX5_kinds_26 (by decide)) ?_
  refine px_ok_cons (ps_icmp_ge dX5_kinds_27 (by decide)) ?_
  refine px_ok_cons (ps_aload_n dX5_kinds_30 rfl) ?_
  refine px_ok_cons (fgX5_23 dX5_kinds_31) ?_
  refine px_ok_cons (fgX5_116 dX5_kinds_34) ?_
  refine px_ok_cons (ps_iload_n dX5_kinds_37 rfl) ?_
  refine px_ok_cons (ps_iload_n dX5_kinds_38 rfl) ?_
  refine px_ok_cons (ps_iastore dX5_kinds_39) ?_
  refine px_ok_cons (ps_aload_n dX5_kinds_40 rfl) ?_
  refine px_ok_cons (ps_aload_n dX5_kinds_41 rfl) ?_
  refine px_ok_cons (fgX5_23 dX5_kinds_42) ?_
  refine px_ok_cons (ps_callV mX5_isAsSeen (fun _ _ => rfl) (C := RX5) rfl (fun _ _ ht => px_cwV wgC (wdC_9_in _ (List.mem_of_getElem? (i := 16) rfl)) (wdC_9_in _ (List.mem_of_getElem? (i := 17) rfl)) (wdC_9_in _ (List.mem_of_getElem? (i := 18) rfl)) (wdC_4_in _ (List.mem_of_getElem? (i := 23) rfl)) (wdC_9_in _ (List.mem_of_getElem? (i := 15) rfl)) (by decide +kernel) rfl rfl (by decide) ht) dX5_kinds_45) ?_
  refine px_ok_cons (ps_if_eq dX5_kinds_48 (by decide)) ?_
  refine px_ok_cons (ps_iload_n dX5_kinds_51 rfl) ?_
  refine px_ok_cons (ps_iconst dX5_kinds_52 (by decide)) ?_
  refine px_ok_cons (ps_iload_n dX5_kinds_53 rfl) ?_
  refine px_ok_cons (ps_ishl dX5_kinds_54) ?_
  refine px_ok_cons (ps_ior dX5_kinds_55) ?_
  refine px_ok_cons (ps_istore_n dX5_kinds_56 rfl (by decide)) ?_
  refine px_ok_cons (ps_iinc dX5_kinds_57 (by decide) (by decide)) ?_
  refine px_ok_cons (ps_goto dX5_kinds_60 (by decide)) ?_
  refine px_ok_cons (ps_iload_n dX5_kinds_63 rfl) ?_
  refine px_ok_cons (ps_ireturn rfl dX5_kinds_64) ?_
  exact px_ok_nil
set_option maxRecDepth 100000 in
set_option maxHeartbeats 4000000 in
theorem sgX5_kinds_0 {po : Int32 → px_St → Prop} {G : px_K} (hG : px_cl (opX5_kinds po) G) (v1 : Int32) (σ : px_St)
    (H : ∃ g3 : gtX5_isParrot, qrX5_isParrot g3 v1 σ ∧ ∀ (r1 : Int32) (σ2 : px_St), qoX5_isParrot g3 v1 σ r1 σ2 → ((¬ r1 = 0) → ∃ g7 : gtX0_becomes, qrX0_becomes g7 13 8 σ2 ∧ ∀ (r5 : Unit) (σ6 : px_St), qoX0_becomes g7 13 8 σ2 r5 σ6 → G 25 [some (.ref 0), some (.int v1), some (.int (0 : Int32)), some (.int (0 : Int32))] [] σ6) ∧ (¬ (¬ r1 = 0) → po (-1 : Int32) σ2)) :
    G 0 (px_ent 4 [.ref 0, .int v1]) [] σ := by
  refine hG.1 0 _ _ rfl _ _ _ ?_
  refine hG.1 1 _ _ rfl _ _ _ ?_
  refine hG.1 2 _ _ rfl _ _ _ ?_
  obtain ⟨g3, H⟩ := H
  refine ⟨⟨rfl, by decide⟩, Nat.le_of_ble_eq_true rfl, g3, ⟨_, rfl, H.1⟩, fun r1 σ2 hp4 => ?_⟩
  replace H := H.2 r1 σ2 hp4
  refine hG.1 3 _ _ rfl _ _ _ ?_
  refine ⟨fun h9 => ?_, fun h9 => ?_⟩
  · replace H := H.1 h9
    refine hG.1 6 _ _ rfl _ _ _ ?_
    refine hG.1 7 _ _ rfl _ _ _ ?_
    show G 12 [some (.ref 0), some (.int v1), some (.int (0 : Int32)), none] [] σ2
    refine hG.1 8 _ _ rfl _ _ _ ?_
    refine hG.1 9 _ _ rfl _ _ _ ?_
    refine ⟨⟨rfl, by decide⟩, ?_⟩
    refine hG.1 10 _ _ rfl _ _ _ ?_
    refine hG.1 11 _ _ rfl _ _ _ ?_
    refine ⟨⟨rfl, by decide⟩, ?_⟩
    refine hG.1 12 _ _ rfl _ _ _ ?_
    obtain ⟨g7, H⟩ := H
    refine ⟨⟨rfl, by decide⟩, Nat.le_of_ble_eq_true rfl, g7, ⟨_, _, rfl, (Or.inr (Or.inl rfl)), (Or.inl rfl), H.1⟩, fun r5 σ6 hp8 => ?_⟩
    replace H := H.2 r5 σ6 hp8
    refine hG.1 13 _ _ rfl _ _ _ ?_
    refine hG.1 14 _ _ rfl _ _ _ ?_
    show G 25 [some (.ref 0), some (.int v1), some (.int (0 : Int32)), some (.int (0 : Int32))] [] σ6
    exact H
  · replace H := H.2 h9
    refine hG.1 4 _ _ rfl _ _ _ ?_
    refine hG.1 5 _ _ rfl _ _ _ ?_
    exact ⟨rfl, H⟩
set_option maxRecDepth 100000 in
set_option maxHeartbeats 4000000 in
theorem sgX5_kinds_25 {po : Int32 → px_St → Prop} {G : px_K} (hG : px_cl (opX5_kinds po) G) (v1 : Int32) (v2 : Int32) (v3 : Int32) (σ : px_St)
    (H : (((4 : Int32) ≤ v3) → po v2 σ) ∧ (¬ ((4 : Int32) ≤ v3) → vp_in v1 5 ∧ ∃ g3 : gtX5_isAsSeen, qrX5_isAsSeen g3 13 (px_up σ 14 v1.toNatClampNeg v3) ∧ ∀ (r1 : Int32) (σ2 : px_St), qoX5_isAsSeen g3 13 (px_up σ 14 v1.toNatClampNeg v3) r1 σ2 → ((r1 = 0) → G 25 [some (.ref 0), some (.int v1), some (.int v2), some (.int (v3 + 1))] [] σ2) ∧ (¬ (r1 = 0) → G 25 [some (.ref 0), some (.int v1), some (.int (v2 ||| ((1 : Int32) <<< (v3 &&& 31)))), some (.int (v3 + 1))] [] σ2))) :
    G 25 [some (.ref 0), some (.int v1), some (.int v2), some (.int v3)] [] σ := by
  refine hG.1 15 _ _ rfl _ _ _ ?_
  refine hG.1 16 _ _ rfl _ _ _ ?_
  refine hG.1 17 _ _ rfl _ _ _ ?_
  refine ⟨fun h6 => ?_, fun h6 => ?_⟩
  · replace H := H.1 h6
    refine hG.1 37 _ _ rfl _ _ _ ?_
    refine hG.1 38 _ _ rfl _ _ _ ?_
    exact ⟨rfl, H⟩
  · replace H := H.2 h6
    refine hG.1 18 _ _ rfl _ _ _ ?_
    refine hG.1 19 _ _ rfl _ _ _ ?_
    refine ⟨⟨rfl, by decide⟩, ?_⟩
    refine hG.1 20 _ _ rfl _ _ _ ?_
    refine ⟨⟨rfl, by decide⟩, ?_⟩
    refine hG.1 21 _ _ rfl _ _ _ ?_
    refine hG.1 22 _ _ rfl _ _ _ ?_
    refine hG.1 23 _ _ rfl _ _ _ ?_
    refine ⟨⟨rfl, by decide⟩, H.1, ?_⟩
    replace H := H.2
    refine hG.1 24 _ _ rfl _ _ _ ?_
    refine hG.1 25 _ _ rfl _ _ _ ?_
    refine hG.1 26 _ _ rfl _ _ _ ?_
    refine ⟨⟨rfl, by decide⟩, ?_⟩
    refine hG.1 27 _ _ rfl _ _ _ ?_
    obtain ⟨g3, H⟩ := H
    refine ⟨⟨rfl, by decide⟩, Nat.le_of_ble_eq_true rfl, g3, ⟨_, rfl, (Or.inr (Or.inl rfl)), H.1⟩, fun r1 σ2 hp4 => ?_⟩
    replace H := H.2 r1 σ2 hp4
    refine hG.1 28 _ _ rfl _ _ _ ?_
    refine ⟨fun h5 => ?_, fun h5 => ?_⟩
    · replace H := H.1 h5
      refine hG.1 35 _ _ rfl _ _ _ ?_
      show G 60 [some (.ref 0), some (.int v1), some (.int v2), some (.int (v3 + 1))] [] σ2
      refine hG.1 36 _ _ rfl _ _ _ ?_
      exact H
    · replace H := H.2 h5
      refine hG.1 29 _ _ rfl _ _ _ ?_
      refine hG.1 30 _ _ rfl _ _ _ ?_
      refine hG.1 31 _ _ rfl _ _ _ ?_
      refine hG.1 32 _ _ rfl _ _ _ ?_
      refine hG.1 33 _ _ rfl _ _ _ ?_
      refine hG.1 34 _ _ rfl _ _ _ ?_
      show G 57 [some (.ref 0), some (.int v1), some (.int (v2 ||| ((1 : Int32) <<< (v3 &&& 31)))), some (.int v3)] [] σ2
      refine hG.1 35 _ _ rfl _ _ _ ?_
      show G 60 [some (.ref 0), some (.int v1), some (.int (v2 ||| ((1 : Int32) <<< (v3 &&& 31)))), some (.int (v3 + 1))] [] σ2
      refine hG.1 36 _ _ rfl _ _ _ ?_
      exact H
set_option maxRecDepth 100000 in
set_option maxHeartbeats 4000000 in
theorem hhX5_kinds (g : gtX5_kinds) (v1 : Int32) (σ : px_St) (h : qrX5_kinds g v1 σ) (G : px_K) (hG : px_cl (opX5_kinds (qoX5_kinds g v1 σ)) G) : G 0 (px_ent 4 [.ref 0, .int v1]) [] σ := by
  obtain ⟨hX, hok⟩ := h
  have hd := hok.1.2
  have hvk := hok.1.1
  have h5 := hvk.1.1
  refine sgX5_kinds_0 hG _ σ ⟨g.1, hX.1, fun r0 σ0 h0 => ?_⟩
  obtain ⟨rfl, b0⟩ := h0
  refine bz1 b0 (fun zp => ?_) (fun zp => ?_)
  · obtain ⟨p, hp, rfl⟩ := (rng1 (by omega)).mp zp
    have ex : (x_kinds g (nI p)) = (nI (pv_ob (fun v => pv_asB (pv_knd g.1 p v) g.2.1) 4), g) := by
      unfold x_kinds
      rw [xif_t zp, nI_clamp (by omega)]
    refine ⟨g.1, ⟨by omega, hX.1, hvk.1⟩, fun _ σ4 hq => ?_⟩
    obtain ⟨q1, q2⟩ := hq
    have hin : vp_in (nI p) 5 := vp_in_nI (by omega) (by decide)
    have loop : ∀ m k, k + m = 4 → ∀ (W : pv_V) σ', av_is σ' 13 W → (W = g.1 ∨ ∃ t, W = pv_knd g.1 p t) → px_tr σ0 σ' → G 25 [some (.ref 0), some (.int (nI p)), some (.int (nI (pv_ob (fun v => pv_asB (pv_knd g.1 p v) g.2.1) k))), some (.int (nI k))] [] σ' := by
      intro m
      induction m with
      | zero =>
        intro k hk W σ' hW hWe ho
        have e : k = 4 := by omega
        subst e
        refine sgX5_kinds_25 hG _ _ _ σ' ⟨fun _ => ?_, fun q => absurd (by decide) q⟩
        unfold qoX5_kinds
        rw [ex]
        exact ⟨rfl, ho.cl hX⟩
      | succ m ih =>
        intro k hk W σ' hW hWe ho
        obtain ⟨w1, w2⟩ := av_knd (v := k) hW hWe hvk.1 hp
        have hX2 := (ho.a w2).cl hX
        refine sgX5_kinds_25 hG _ _ _ σ' ⟨fun q => absurd ((nIle 4 k rfl rfl (by omega) (by omega)).mp q) (by omega), fun _ => ?_⟩
        rw [nI_clamp (by omega)]
        refine ⟨hin, (pv_knd g.1 p k, g.2.1), ⟨by omega, w1, pv_knd_ok hvk hp (by omega), Nat.lt_of_le_of_lt hd (by omega), hX2.2.1, hok.2.1⟩, fun r5 σ5 hq5 => ?_⟩
        obtain ⟨b5, -, p3⟩ := hq5
        have e := ih (k + 1) (by omega) (pv_knd g.1 p k) σ5 (p3.av (Or.inr (Or.inl rfl)) (by omega) w1) (Or.inr ⟨_, rfl⟩) ((ho.a w2).f p3)
        rw [pv_ob] at e
        have hol := pv_ob_lt (fun v => pv_asB (pv_knd g.1 p v) g.2.1) k
        have h2k : 2 ^ k ≤ 2 ^ 3 := Nat.pow_le_pow_right (by omega) (by omega)
        rw [nI_1, sh1 k (by omega), or10b k (by omega) _ (by omega) hol]
        refine bz2 b5 (fun q => ?_) (fun q => ?_)
        · rw [if_pos ((pv_asB_iff _ _).mpr q)] at e; exact e
        · rw [if_neg (fun y => q ((pv_asB_iff _ _).mp y))] at e; exact e
    exact loop 4 0 (by omega) g.1 σ4 q1 (Or.inl rfl) (px_tr.rf.a q2)
  · unfold qoX5_kinds x_kinds
    rw [xif_f zp]
    exact ⟨rfl, hX⟩
theorem mX5_kinds (g : gtX5_kinds) : px_Met dC yX5_kinds (Cond.code yX5_kinds cX5_kinds 4 (some .int) :: wdC) rmX5_kinds px_vI (prX5_kinds g) (poX5_kinds g) :=
  px_met (Z := (cX5_kinds, 4, RX5, Cond.code yX5_kinds cX5_kinds 4 (some .int) :: wdC, (some .int), rmX5_kinds, dC)) opX5_kinds (by decide) rfl rfl okX5_kinds (fun As σ h => by obtain ⟨v1, rfl, h⟩ := h; exact Nat.le_of_ble_eq_true rfl) (fun As σ h G hG => by obtain ⟨v1, rfl, h⟩ := h; exact hhX5_kinds g v1 σ h G hG)
theorem pv_snd_at {V W : pv_V} {p i m : Nat} (hWe : W = V ∨ ∃ t, W = pv_snd V p i t) (hw : pv_w V) (hp : p < V.1) (hi : i < (V.2.2.2 p).2.2.length) (hWw : pv_w W) : p < W.1 ∧ i < (W.2.2.2 p).2.2.length ∧ pv_at W p ((W.2.2.2 p).1, (W.2.2.2 p).2.1, (W.2.2.2 p).2.2.set i m) = pv_snd V p i m := by
  rcases hWe with rfl | ⟨t, rfl⟩
  · exact ⟨hp, hi, rfl⟩
  · refine ⟨hp, ?_, pv_snd_snd V p i t m⟩
    show i < (if p = p then ((V.2.2.2 p).1, (V.2.2.2 p).2.1, (V.2.2.2 p).2.2.set i t) else V.2.2.2 p).2.2.length
    rw [if_pos rfl]
    show i < ((V.2.2.2 p).2.2.set i t).length
    rw [List.length_set]; exact hi
abbrev gtX5_sounds : Type := pv_X
def qrX5_sounds (X : pv_X) (_ _ : Int32) (σ : px_St) : Prop := cl_is σ X ∧ xo X
def qoX5_sounds (X : pv_X) (p i : Int32) (_ : px_St) (r : Int32) (σ' : px_St) : Prop := r = (x_sounds X p i).1 ∧ cl_is σ' (x_sounds X p i).2
def prX5_sounds (g : gtX5_sounds) : List Value → px_St → Prop := fun As σ => ∃ v1 : Int32, ∃ v2 : Int32, As = [.ref 0, .int v1, .int v2] ∧ qrX5_sounds g v1 v2 σ
def poX5_sounds (g : gtX5_sounds) : List Value → px_St → Int32 → px_St → Prop
  | [.ref _, .int v1, .int v2], σ, r, σ' => qoX5_sounds g v1 v2 σ r σ'
  | _, _, _, _ => False
theorem dX5_sounds_0 : decode cX5_sounds 0 = .ok (.aload_n 0, 1) := by decide +kernel
theorem dX5_sounds_1 : decode cX5_sounds 1 = .ok (.iload_n 1, 1) := by decide +kernel
theorem dX5_sounds_2 : decode cX5_sounds 2 = .ok (.iload_n 2, 1) := by decide +kernel
theorem dX5_sounds_3 : decode cX5_sounds 3 = .ok (.invokevirtual 141, 3) := by decide +kernel
theorem dX5_sounds_6 : decode cX5_sounds 6 = .ok (.ifCond .ne 5, 3) := by decide +kernel
theorem dX5_sounds_9 : decode cX5_sounds 9 = .ok (.iconst (-1), 1) := by decide +kernel
theorem dX5_sounds_10 : decode cX5_sounds 10 = .ok (.ireturn, 1) := by decide +kernel
theorem dX5_sounds_11 : decode cX5_sounds 11 = .ok (.iconst 0, 1) := by decide +kernel
theorem dX5_sounds_12 : decode cX5_sounds 12 = .ok (.istore_n 3, 1) := by decide +kernel
theorem dX5_sounds_13 : decode cX5_sounds 13 = .ok (.aload_n 0, 1) := by decide +kernel
theorem dX5_sounds_14 : decode cX5_sounds 14 = .ok (.getfield 23, 3) := by decide +kernel
theorem dX5_sounds_17 : decode cX5_sounds 17 = .ok (.aload_n 0, 1) := by decide +kernel
theorem dX5_sounds_18 : decode cX5_sounds 18 = .ok (.getfield 10, 3) := by decide +kernel
theorem dX5_sounds_21 : decode cX5_sounds 21 = .ok (.invokevirtual 82, 3) := by decide +kernel
theorem dX5_sounds_24 : decode cX5_sounds 24 = .ok (.iconst 0, 1) := by decide +kernel
theorem dX5_sounds_25 : decode cX5_sounds 25 = .ok (.istore 4, 2) := by decide +kernel
theorem dX5_sounds_27 : decode cX5_sounds 27 = .ok (.iload 4, 2) := by decide +kernel
theorem dX5_sounds_29 : decode cX5_sounds 29 = .ok (.bipush 10, 2) := by decide +kernel
theorem dX5_sounds_31 : decode cX5_sounds 31 = .ok (.if_icmp .ge 38, 3) := by decide +kernel
theorem dX5_sounds_34 : decode cX5_sounds 34 = .ok (.aload_n 0, 1) := by decide +kernel
theorem dX5_sounds_35 : decode cX5_sounds 35 = .ok (.getfield 23, 3) := by decide +kernel
theorem dX5_sounds_38 : decode cX5_sounds 38 = .ok (.iload_n 1, 1) := by decide +kernel
theorem dX5_sounds_39 : decode cX5_sounds 39 = .ok (.iload_n 2, 1) := by decide +kernel
theorem dX5_sounds_40 : decode cX5_sounds 40 = .ok (.iload 4, 2) := by decide +kernel
theorem dX5_sounds_42 : decode cX5_sounds 42 = .ok (.invokevirtual 220, 3) := by decide +kernel
theorem dX5_sounds_45 : decode cX5_sounds 45 = .ok (.aload_n 0, 1) := by decide +kernel
theorem dX5_sounds_46 : decode cX5_sounds 46 = .ok (.aload_n 0, 1) := by decide +kernel
theorem dX5_sounds_47 : decode cX5_sounds 47 = .ok (.getfield 23, 3) := by decide +kernel
theorem dX5_sounds_50 : decode cX5_sounds 50 = .ok (.invokevirtual 216, 3) := by decide +kernel
theorem dX5_sounds_53 : decode cX5_sounds 53 = .ok (.ifCond .eq 10, 3) := by decide +kernel
theorem dX5_sounds_56 : decode cX5_sounds 56 = .ok (.iload_n 3, 1) := by decide +kernel
theorem dX5_sounds_57 : decode cX5_sounds 57 = .ok (.iconst 1, 1) := by decide +kernel
theorem dX5_sounds_58 : decode cX5_sounds 58 = .ok (.iload 4, 2) := by decide +kernel
theorem dX5_sounds_60 : decode cX5_sounds 60 = .ok (.ishl, 1) := by decide +kernel
theorem dX5_sounds_61 : decode cX5_sounds 61 = .ok (.ior, 1) := by decide +kernel
theorem dX5_sounds_62 : decode cX5_sounds 62 = .ok (.istore_n 3, 1) := by decide +kernel
theorem dX5_sounds_63 : decode cX5_sounds 63 = .ok (.iinc 4 1, 3) := by decide +kernel
theorem dX5_sounds_66 : decode cX5_sounds 66 = .ok (.goto (-39), 3) := by decide +kernel
theorem dX5_sounds_69 : decode cX5_sounds 69 = .ok (.iload_n 3, 1) := by decide +kernel
theorem dX5_sounds_70 : decode cX5_sounds 70 = .ok (.ireturn, 1) := by decide +kernel
abbrev rmX5_sounds : Room := { frames := 6, cells := 0, slots := 0, locals := 150 }
def opX5_sounds (po : Int32 → px_St → Prop) : List (Nat × px_Op) := [
  (0, px_al 1 0),
  (1, px_il 2 1),
  (2, px_il 3 2),
  (3, px_callV dC 6 5 2 px_vI prX5_hasSound poX5_hasSound),
  (6, px_if 9 11 (fun x => ¬ x = 0)),
  (9, px_push 10 (.int (-1))),
  (10, px_iret (.int) po),
  (11, px_push 12 (.int 0)),
  (12, px_is 13 3),
  (13, px_al 14 0),
  (14, px_get dC 17 5 2),
  (17, px_al 18 0),
  (18, px_get dC 21 5 0),
  (21, px_callV dC 24 0 1 px_vV prX0_becomes poX0_becomes),
  (24, px_push 25 (.int 0)),
  (25, px_is 27 4),
  (27, px_il 29 4),
  (29, px_push 31 (.int 10)),
  (31, px_ic 34 69 (fun x y => y ≤ x)),
  (34, px_al 35 0),
  (35, px_get dC 38 5 2),
  (38, px_il 39 1),
  (39, px_il 40 2),
  (40, px_il 42 4),
  (42, px_callV dC 45 0 3 px_vV prX0_setSound poX0_setSound),
  (45, px_al 46 0),
  (46, px_al 47 0),
  (47, px_get dC 50 5 2),
  (50, px_callV dC 53 5 1 px_vI prX5_isAsSeen poX5_isAsSeen),
  (53, px_if 56 63 (fun x => x = 0)),
  (56, px_il 57 3),
  (57, px_push 58 (.int 1)),
  (58, px_il 60 4),
  (60, px_bin 61 (fun x y => x <<< (y &&& 31))),
  (61, px_bin 62 (fun x y => x ||| y)),
  (62, px_is 63 3),
  (63, px_inc 66 4 1),
  (66, px_go 27),
  (69, px_il 70 3),
  (70, px_iret (.int) po)]
set_option maxRecDepth 100000 in
set_option maxHeartbeats 4000000 in
theorem okX5_sounds : ∀ (po : Int32 → px_St → Prop) (i pc : Nat) (op : px_Op), (opX5_sounds po)[i]? = some (pc, op) → px_Snd (cX5_sounds, 5, RX5, Cond.code yX5_sounds cX5_sounds 5 (some .int) :: wdC, (some .int), rmX5_sounds, dC) px_vI po pc op := by
  intro po
  unfold opX5_sounds
  refine px_ok_cons (ps_aload_n dX5_sounds_0 rfl) ?_
  refine px_ok_cons (ps_iload_n dX5_sounds_1 rfl) ?_
  refine px_ok_cons (ps_iload_n dX5_sounds_2 rfl) ?_
  refine px_ok_cons (ps_callV mX5_hasSound (fun _ _ => rfl) (C := RX5) rfl (fun _ _ ht => px_cwV wgC (wdC_7_in _ (List.mem_of_getElem? (i := 15) rfl)) (wdC_7_in _ (List.mem_of_getElem? (i := 16) rfl)) (wdC_7_in _ (List.mem_of_getElem? (i := 17) rfl)) (wdC_4_in _ (List.mem_of_getElem? (i := 23) rfl)) (wdC_7_in _ (List.mem_of_getElem? (i := 13) rfl)) (by decide +kernel) rfl rfl (by decide) ht) dX5_sounds_3) ?_
  refine px_ok_cons (ps_if_ne dX5_sounds_6 (by decide)) ?_
  refine px_ok_cons (ps_iconst dX5_sounds_9 (by decide)) ?_
  refine px_ok_cons (ps_ireturn rfl dX5_sounds_10) ?_
  refine px_ok_cons (ps_iconst dX5_sounds_11 (by decide)) ?_
  refine px_ok_cons (ps_istore_n dX5_sounds_12 rfl (by decide)) ?_
  refine px_ok_cons (ps_aload_n dX5_sounds_13 rfl) ?_
  refine px_ok_cons (fgX5_23 dX5_sounds_14) ?_
  refine px_ok_cons (ps_aload_n dX5_sounds_17 rfl) ?_
  refine px_ok_cons (fgX5_10 dX5_sounds_18) ?_
  refine px_ok_cons (ps_callV mX0_becomes (fun _ _ => rfl) (C := RX0) rfl (fun _ _ ht => px_cwV wgC (wdC_6_in _ (List.mem_of_getElem? (i := 18) rfl)) (wdC_6_in _ (List.mem_of_getElem? (i := 19) rfl)) (wdC_6_in _ (List.mem_of_getElem? (i := 20) rfl)) (wdC_0_in _ (List.mem_of_getElem? (i := 22) rfl)) (wdC_0_in _ (List.mem_of_getElem? (i := 18) rfl)) (by decide +kernel) rfl rfl (by decide) ht) dX5_sounds_21) ?_
  refine px_ok_cons (ps_iconst dX5_sounds_24 (by decide)) ?_
  refine px_ok_cons (ps_istore dX5_sounds_25 (by decide)) ?_
  refine px_ok_cons (ps_iload dX5_sounds_27) ?_
  refine px_ok_cons (ps_bipush dX5_sounds_29 (by decide)) ?_
  refine px_ok_cons (ps_icmp_ge dX5_sounds_31 (by decide)) ?_
  refine px_ok_cons (ps_aload_n dX5_sounds_34 rfl) ?_
  refine px_ok_cons (fgX5_23 dX5_sounds_35) ?_
  refine px_ok_cons (ps_iload_n dX5_sounds_38 rfl) ?_
  refine px_ok_cons (ps_iload_n dX5_sounds_39 rfl) ?_
  refine px_ok_cons (ps_iload dX5_sounds_40) ?_
  refine px_ok_cons (ps_callV mX0_setSound (fun _ _ => rfl) (C := RX0) rfl (fun _ _ ht => px_cwV wgC (wdC_9_in _ (List.mem_of_getElem? (i := 20) rfl)) (wdC_9_in _ (List.mem_of_getElem? (i := 21) rfl)) (wdC_9_in _ (List.mem_of_getElem? (i := 22) rfl)) (wdC_0_in _ (List.mem_of_getElem? (i := 22) rfl)) (wdC_1_in _ (List.mem_of_getElem? (i := 25) rfl)) (by decide +kernel) rfl rfl (by decide) ht) dX5_sounds_42) ?_
  refine px_ok_cons (ps_aload_n dX5_sounds_45 rfl) ?_
  refine px_ok_cons (ps_aload_n dX5_sounds_46 rfl) ?_
  refine px_ok_cons (fgX5_23 dX5_sounds_47) ?_
  refine px_ok_cons (ps_callV mX5_isAsSeen (fun _ _ => rfl) (C := RX5) rfl (fun _ _ ht => px_cwV wgC (wdC_9_in _ (List.mem_of_getElem? (i := 16) rfl)) (wdC_9_in _ (List.mem_of_getElem? (i := 17) rfl)) (wdC_9_in _ (List.mem_of_getElem? (i := 18) rfl)) (wdC_4_in _ (List.mem_of_getElem? (i := 23) rfl)) (wdC_9_in _ (List.mem_of_getElem? (i := 15) rfl)) (by decide +kernel) rfl rfl (by decide) ht) dX5_sounds_50) ?_
  refine px_ok_cons (ps_if_eq dX5_sounds_53 (by decide)) ?_
  refine px_ok_cons (ps_iload_n dX5_sounds_56 rfl) ?_
  refine px_ok_cons (ps_iconst dX5_sounds_57 (by decide)) ?_
  refine px_ok_cons (ps_iload dX5_sounds_58) ?_
  refine px_ok_cons (ps_ishl dX5_sounds_60) ?_
  refine px_ok_cons (ps_ior dX5_sounds_61) ?_
  refine px_ok_cons (ps_istore_n dX5_sounds_62 rfl (by decide)) ?_
  refine px_ok_cons (ps_iinc dX5_sounds_63 (by decide) (by decide)) ?_
  refine px_ok_cons (ps_goto dX5_sounds_66 (by decide)) ?_
  refine px_ok_cons (ps_iload_n dX5_sounds_69 rfl) ?_
  refine px_ok_cons (ps_ireturn rfl dX5_sounds_70) ?_
  exact px_ok_nil
set_option maxRecDepth 100000 in
set_option maxHeartbeats 4000000 in
theorem sgX5_sounds_0 {po : Int32 → px_St → Prop} {G : px_K} (hG : px_cl (opX5_sounds po) G) (v1 : Int32) (v2 : Int32) (σ : px_St)
    (H : ∃ g3 : gtX5_hasSound, qrX5_hasSound g3 v1 v2 σ ∧ ∀ (r1 : Int32) (σ2 : px_St), qoX5_hasSound g3 v1 v2 σ r1 σ2 → ((¬ r1 = 0) → ∃ g7 : gtX0_becomes, qrX0_becomes g7 13 8 σ2 ∧ ∀ (r5 : Unit) (σ6 : px_St), qoX0_becomes g7 13 8 σ2 r5 σ6 → G 27 [some (.ref 0), some (.int v1), some (.int v2), some (.int (0 : Int32)), some (.int (0 : Int32))] [] σ6) ∧ (¬ (¬ r1 = 0) → po (-1 : Int32) σ2)) :
    G 0 (px_ent 5 [.ref 0, .int v1, .int v2]) [] σ := by
  refine hG.1 0 _ _ rfl _ _ _ ?_
  refine hG.1 1 _ _ rfl _ _ _ ?_
  refine hG.1 2 _ _ rfl _ _ _ ?_
  refine hG.1 3 _ _ rfl _ _ _ ?_
  obtain ⟨g3, H⟩ := H
  refine ⟨⟨rfl, by decide⟩, Nat.le_of_ble_eq_true rfl, g3, ⟨_, _, rfl, H.1⟩, fun r1 σ2 hp4 => ?_⟩
  replace H := H.2 r1 σ2 hp4
  refine hG.1 4 _ _ rfl _ _ _ ?_
  refine ⟨fun h9 => ?_, fun h9 => ?_⟩
  · replace H := H.1 h9
    refine hG.1 7 _ _ rfl _ _ _ ?_
    refine hG.1 8 _ _ rfl _ _ _ ?_
    show G 13 [some (.ref 0), some (.int v1), some (.int v2), some (.int (0 : Int32)), none] [] σ2
    refine hG.1 9 _ _ rfl _ _ _ ?_
    refine hG.1 10 _ _ rfl _ _ _ ?_
    refine ⟨⟨rfl, by decide⟩, ?_⟩
    refine hG.1 11 _ _ rfl _ _ _ ?_
    refine hG.1 12 _ _ rfl _ _ _ ?_
    refine ⟨⟨rfl, by decide⟩, ?_⟩
    refine hG.1 13 _ _ rfl _ _ _ ?_
    obtain ⟨g7, H⟩ := H
    refine ⟨⟨rfl, by decide⟩, Nat.le_of_ble_eq_true rfl, g7, ⟨_, _, rfl, (Or.inr (Or.inl rfl)), (Or.inl rfl), H.1⟩, fun r5 σ6 hp8 => ?_⟩
    replace H := H.2 r5 σ6 hp8
    refine hG.1 14 _ _ rfl _ _ _ ?_
    refine hG.1 15 _ _ rfl _ _ _ ?_
    show G 27 [some (.ref 0), some (.int v1), some (.int v2), some (.int (0 : Int32)), some (.int (0 : Int32))] [] σ6
    exact H
  · replace H := H.2 h9
    refine hG.1 5 _ _ rfl _ _ _ ?_
    refine hG.1 6 _ _ rfl _ _ _ ?_
    exact ⟨rfl, H⟩
set_option maxRecDepth 100000 in
set_option maxHeartbeats 4000000 in
theorem sgX5_sounds_27 {po : Int32 → px_St → Prop} {G : px_K} (hG : px_cl (opX5_sounds po) G) (v1 : Int32) (v2 : Int32) (v3 : Int32) (v4 : Int32) (σ : px_St)
    (H : (((10 : Int32) ≤ v4) → po v3 σ) ∧ (¬ ((10 : Int32) ≤ v4) → ∃ g3 : gtX0_setSound, qrX0_setSound g3 13 v1 v2 v4 σ ∧ ∀ (r1 : Unit) (σ2 : px_St), qoX0_setSound g3 13 v1 v2 v4 σ r1 σ2 → ∃ g7 : gtX5_isAsSeen, qrX5_isAsSeen g7 13 σ2 ∧ ∀ (r5 : Int32) (σ6 : px_St), qoX5_isAsSeen g7 13 σ2 r5 σ6 → ((r5 = 0) → G 27 [some (.ref 0), some (.int v1), some (.int v2), some (.int v3), some (.int (v4 + 1))] [] σ6) ∧ (¬ (r5 = 0) → G 27 [some (.ref 0), some (.int v1), some (.int v2), some (.int (v3 ||| ((1 : Int32) <<< (v4 &&& 31)))), some (.int (v4 + 1))] [] σ6))) :
    G 27 [some (.ref 0), some (.int v1), some (.int v2), some (.int v3), some (.int v4)] [] σ := by
  refine hG.1 16 _ _ rfl _ _ _ ?_
  refine hG.1 17 _ _ rfl _ _ _ ?_
  refine hG.1 18 _ _ rfl _ _ _ ?_
  refine ⟨fun h10 => ?_, fun h10 => ?_⟩
  · replace H := H.1 h10
    refine hG.1 38 _ _ rfl _ _ _ ?_
    refine hG.1 39 _ _ rfl _ _ _ ?_
    exact ⟨rfl, H⟩
  · replace H := H.2 h10
    refine hG.1 19 _ _ rfl _ _ _ ?_
    refine hG.1 20 _ _ rfl _ _ _ ?_
    refine ⟨⟨rfl, by decide⟩, ?_⟩
    refine hG.1 21 _ _ rfl _ _ _ ?_
    refine hG.1 22 _ _ rfl _ _ _ ?_
    refine hG.1 23 _ _ rfl _ _ _ ?_
    refine hG.1 24 _ _ rfl _ _ _ ?_
    obtain ⟨g3, H⟩ := H
    refine ⟨⟨rfl, by decide⟩, Nat.le_of_ble_eq_true rfl, g3, ⟨_, _, _, _, rfl, (Or.inr (Or.inl rfl)), H.1⟩, fun r1 σ2 hp4 => ?_⟩
    replace H := H.2 r1 σ2 hp4
    refine hG.1 25 _ _ rfl _ _ _ ?_
    refine hG.1 26 _ _ rfl _ _ _ ?_
    refine hG.1 27 _ _ rfl _ _ _ ?_
    refine ⟨⟨rfl, by decide⟩, ?_⟩
    refine hG.1 28 _ _ rfl _ _ _ ?_
    obtain ⟨g7, H⟩ := H
    refine ⟨⟨rfl, by decide⟩, Nat.le_of_ble_eq_true rfl, g7, ⟨_, rfl, (Or.inr (Or.inl rfl)), H.1⟩, fun r5 σ6 hp8 => ?_⟩
    replace H := H.2 r5 σ6 hp8
    refine hG.1 29 _ _ rfl _ _ _ ?_
    refine ⟨fun h9 => ?_, fun h9 => ?_⟩
    · replace H := H.1 h9
      refine hG.1 36 _ _ rfl _ _ _ ?_
      show G 66 [some (.ref 0), some (.int v1), some (.int v2), some (.int v3), some (.int (v4 + 1))] [] σ6
      refine hG.1 37 _ _ rfl _ _ _ ?_
      exact H
    · replace H := H.2 h9
      refine hG.1 30 _ _ rfl _ _ _ ?_
      refine hG.1 31 _ _ rfl _ _ _ ?_
      refine hG.1 32 _ _ rfl _ _ _ ?_
      refine hG.1 33 _ _ rfl _ _ _ ?_
      refine hG.1 34 _ _ rfl _ _ _ ?_
      refine hG.1 35 _ _ rfl _ _ _ ?_
      show G 63 [some (.ref 0), some (.int v1), some (.int v2), some (.int (v3 ||| ((1 : Int32) <<< (v4 &&& 31)))), some (.int v4)] [] σ6
      refine hG.1 36 _ _ rfl _ _ _ ?_
      show G 66 [some (.ref 0), some (.int v1), some (.int v2), some (.int (v3 ||| ((1 : Int32) <<< (v4 &&& 31)))), some (.int (v4 + 1))] [] σ6
      refine hG.1 37 _ _ rfl _ _ _ ?_
      exact H
set_option maxRecDepth 100000 in
set_option maxHeartbeats 4000000 in
theorem hhX5_sounds (g : gtX5_sounds) (v1 : Int32) (v2 : Int32) (σ : px_St) (h : qrX5_sounds g v1 v2 σ) (G : px_K) (hG : px_cl (opX5_sounds (qoX5_sounds g v1 v2 σ)) G) : G 0 (px_ent 5 [.ref 0, .int v1, .int v2]) [] σ := by
  obtain ⟨hX, hok⟩ := h
  have hd := hok.1.2
  have hvk := hok.1.1
  have h5 := hvk.1.1
  refine sgX5_sounds_0 hG _ _ σ ⟨g.1, ⟨hX.1, hvk.1⟩, fun r0 σ0 h0 => ?_⟩
  obtain ⟨rfl, b0⟩ := h0
  refine bz1 b0 (fun zp => ?_) (fun zp => ?_)
  · obtain ⟨p, i, hp, hi, rfl, rfl⟩ := pv_own_of hvk.1 zp
    have hl := (hvk.1.2.2.2 p hp).2.1
    have ex : (x_sounds g (nI p) (nI i)) = (nI (pv_ob (fun s => pv_asB (pv_snd g.1 p i s) g.2.1) 10), g) := by
      unfold x_sounds
      rw [xif_t zp, nI_clamp (by omega), nI_clamp (by omega)]
    refine ⟨g.1, ⟨by omega, hX.1, hvk.1⟩, fun _ σ4 hq => ?_⟩
    obtain ⟨q1, q2⟩ := hq
    have loop : ∀ m k, k + m = 10 → ∀ (W : pv_V) σ', av_is σ' 13 W → pv_w W → (W = g.1 ∨ ∃ t, W = pv_snd g.1 p i t) → px_tr σ0 σ' → G 27 [some (.ref 0), some (.int (nI p)), some (.int (nI i)), some (.int (nI (pv_ob (fun s => pv_asB (pv_snd g.1 p i s) g.2.1) k))), some (.int (nI k))] [] σ' := by
      intro m
      induction m with
      | zero =>
        intro k hk W σ' hW hWw hWe ho
        have e : k = 10 := by omega
        subst e
        refine sgX5_sounds_27 hG _ _ _ _ σ' ⟨fun _ => ?_, fun q => absurd (by decide) q⟩
        unfold qoX5_sounds
        rw [ex]
        exact ⟨rfl, ho.cl hX⟩
      | succ m ih =>
        intro k hk W σ' hW hWw hWe ho
        obtain ⟨w1, w2, w3⟩ := pv_snd_at (m := k) hWe hvk.1 hp hi hWw
        refine sgX5_sounds_27 hG _ _ _ _ σ' ⟨fun q => absurd ((nIle 10 k rfl rfl (by omega) (by omega)).mp q) (by omega), fun _ => ⟨(W, p, i, k), ⟨hW, hWw, w1, w2, rfl, rfl, rfl⟩, fun _ σ5 hq5 => ?_⟩⟩
        obtain ⟨a1, a2⟩ := hq5
        rw [w3] at a1
        have hok2 : pv_ok (pv_snd g.1 p i k) := pv_snd_ok hvk hp (by omega)
        have hX2 := (ho.a a2).cl hX
        refine ⟨(pv_snd g.1 p i k, g.2.1), ⟨by omega, a1, hok2, Nat.lt_of_le_of_lt hd (by omega), hX2.2.1, hok.2.1⟩, fun r5 σ6 hq6 => ?_⟩
        obtain ⟨b5, -, p3⟩ := hq6
        have e := ih (k + 1) (by omega) (pv_snd g.1 p i k) σ6 (p3.av (Or.inr (Or.inl rfl)) (by omega) a1) hok2.1 (Or.inr ⟨_, rfl⟩) ((ho.a a2).f p3)
        rw [pv_ob] at e
        have hol := pv_ob_lt (fun s => pv_asB (pv_snd g.1 p i s) g.2.1) k
        have h2k : 2 ^ k ≤ 2 ^ 9 := Nat.pow_le_pow_right (by omega) (by omega)
        rw [nI_1, sh1 k (by omega), or10b k (by omega) _ (by omega) hol]
        refine bz2 b5 (fun q => ?_) (fun q => ?_)
        · rw [if_pos ((pv_asB_iff _ _).mpr q)] at e; exact e
        · rw [if_neg (fun y => q ((pv_asB_iff _ _).mp y))] at e; exact e
    exact loop 10 0 (by omega) g.1 σ4 q1 hvk.1 (Or.inl rfl) (px_tr.rf.a q2)
  · unfold qoX5_sounds x_sounds
    rw [xif_f zp]
    exact ⟨rfl, hX⟩
theorem mX5_sounds (g : gtX5_sounds) : px_Met dC yX5_sounds (Cond.code yX5_sounds cX5_sounds 5 (some .int) :: wdC) rmX5_sounds px_vI (prX5_sounds g) (poX5_sounds g) :=
  px_met (Z := (cX5_sounds, 5, RX5, Cond.code yX5_sounds cX5_sounds 5 (some .int) :: wdC, (some .int), rmX5_sounds, dC)) opX5_sounds (by decide) rfl rfl okX5_sounds (fun As σ h => by obtain ⟨v1, v2, rfl, h⟩ := h; exact Nat.le_of_ble_eq_true rfl) (fun As σ h G hG => by obtain ⟨v1, v2, rfl, h⟩ := h; exact hhX5_sounds g v1 v2 σ h G hG)
noncomputable def pv_askf (V : pv_V) (p i : Nat) (S : pv_S) (d : Nat) : Nat := pv_mx (fun x => pv_hd V p i S d x 10) 10
noncomputable def x_ask (X : pv_X) (p i w : Int32) : Int32 × pv_X := (xif (pv_own X.1 p i ∧ (0 ≤ w ∧ w ≤ 1)) (pv_choice (pv_bmin (pv_askf X.1 p.toNatClampNeg i.toNatClampNeg X.2.1) (pv_cd X.1 p.toNatClampNeg i.toNatClampNeg X.2.1 10) 21).1 (nI (pv_bmin (pv_askf X.1 p.toNatClampNeg i.toNatClampNeg X.2.1) (pv_cd X.1 p.toNatClampNeg i.toNatClampNeg X.2.1 10) 21).2) w) (-1), X)
theorem pv_mx_lt {f : Nat → Nat} {N : Nat} (hN : 0 < N) (hf : ∀ j, f j < N) (k : Nat) : pv_mx f k < N := by
  induction k with
  | zero => exact hN
  | succ k ih => rw [pv_mx]; have := hf k; omega
abbrev gtX5_ask : Type := pv_X
def qrX5_ask (X : pv_X) (_ _ _ : Int32) (σ : px_St) : Prop := cl_is σ X ∧ xo X
def qoX5_ask (X : pv_X) (p i w : Int32) (_ : px_St) (r : Int32) (σ' : px_St) : Prop := r = (x_ask X p i w).1 ∧ cl_is σ' (x_ask X p i w).2
def prX5_ask (g : gtX5_ask) : List Value → px_St → Prop := fun As σ => ∃ v1 : Int32, ∃ v2 : Int32, ∃ v3 : Int32, As = [.ref 0, .int v1, .int v2, .int v3] ∧ qrX5_ask g v1 v2 v3 σ
def poX5_ask (g : gtX5_ask) : List Value → px_St → Int32 → px_St → Prop
  | [.ref _, .int v1, .int v2, .int v3], σ, r, σ' => qoX5_ask g v1 v2 v3 σ r σ'
  | _, _, _, _ => False
theorem dX5_ask_0 : decode cX5_ask 0 = .ok (.aload_n 0, 1) := by decide +kernel
theorem dX5_ask_1 : decode cX5_ask 1 = .ok (.iload_n 1, 1) := by decide +kernel
theorem dX5_ask_2 : decode cX5_ask 2 = .ok (.iload_n 2, 1) := by decide +kernel
theorem dX5_ask_3 : decode cX5_ask 3 = .ok (.invokevirtual 141, 3) := by decide +kernel
theorem dX5_ask_6 : decode cX5_ask 6 = .ok (.ifCond .eq 12, 3) := by decide +kernel
theorem dX5_ask_9 : decode cX5_ask 9 = .ok (.iload_n 3, 1) := by decide +kernel
theorem dX5_ask_10 : decode cX5_ask 10 = .ok (.iconst 0, 1) := by decide +kernel
theorem dX5_ask_11 : decode cX5_ask 11 = .ok (.iconst 1, 1) := by decide +kernel
theorem dX5_ask_12 : decode cX5_ask 12 = .ok (.invokestatic 61, 3) := by decide +kernel
theorem dX5_ask_15 : decode cX5_ask 15 = .ok (.ifCond .ne 5, 3) := by decide +kernel
theorem dX5_ask_18 : decode cX5_ask 18 = .ok (.iconst (-1), 1) := by decide +kernel
theorem dX5_ask_19 : decode cX5_ask 19 = .ok (.ireturn, 1) := by decide +kernel
theorem dX5_ask_20 : decode cX5_ask 20 = .ok (.bipush (-4), 2) := by decide +kernel
theorem dX5_ask_22 : decode cX5_ask 22 = .ok (.istore 4, 2) := by decide +kernel
theorem dX5_ask_24 : decode cX5_ask 24 = .ok (.aload_n 0, 1) := by decide +kernel
theorem dX5_ask_25 : decode cX5_ask 25 = .ok (.iload_n 1, 1) := by decide +kernel
theorem dX5_ask_26 : decode cX5_ask 26 = .ok (.iload_n 2, 1) := by decide +kernel
theorem dX5_ask_27 : decode cX5_ask 27 = .ok (.invokevirtual 224, 3) := by decide +kernel
theorem dX5_ask_30 : decode cX5_ask 30 = .ok (.istore 5, 2) := by decide +kernel
theorem dX5_ask_32 : decode cX5_ask 32 = .ok (.iconst 0, 1) := by decide +kernel
theorem dX5_ask_33 : decode cX5_ask 33 = .ok (.istore 6, 2) := by decide +kernel
theorem dX5_ask_35 : decode cX5_ask 35 = .ok (.iload 6, 2) := by decide +kernel
theorem dX5_ask_37 : decode cX5_ask 37 = .ok (.bipush 20, 2) := by decide +kernel
theorem dX5_ask_39 : decode cX5_ask 39 = .ok (.if_icmp .gt 32, 3) := by decide +kernel
theorem dX5_ask_42 : decode cX5_ask 42 = .ok (.aload_n 0, 1) := by decide +kernel
theorem dX5_ask_43 : decode cX5_ask 43 = .ok (.iload 6, 2) := by decide +kernel
theorem dX5_ask_45 : decode cX5_ask 45 = .ok (.invokevirtual 227, 3) := by decide +kernel
theorem dX5_ask_48 : decode cX5_ask 48 = .ok (.istore 7, 2) := by decide +kernel
theorem dX5_ask_50 : decode cX5_ask 50 = .ok (.iload 7, 2) := by decide +kernel
theorem dX5_ask_52 : decode cX5_ask 52 = .ok (.iload 5, 2) := by decide +kernel
theorem dX5_ask_54 : decode cX5_ask 54 = .ok (.if_icmp .ge 11, 3) := by decide +kernel
theorem dX5_ask_57 : decode cX5_ask 57 = .ok (.iload 7, 2) := by decide +kernel
theorem dX5_ask_59 : decode cX5_ask 59 = .ok (.istore 5, 2) := by decide +kernel
theorem dX5_ask_61 : decode cX5_ask 61 = .ok (.iload 6, 2) := by decide +kernel
theorem dX5_ask_63 : decode cX5_ask 63 = .ok (.istore 4, 2) := by decide +kernel
theorem dX5_ask_65 : decode cX5_ask 65 = .ok (.iinc 6 1, 3) := by decide +kernel
theorem dX5_ask_68 : decode cX5_ask 68 = .ok (.goto (-33), 3) := by decide +kernel
theorem dX5_ask_71 : decode cX5_ask 71 = .ok (.iload 4, 2) := by decide +kernel
theorem dX5_ask_73 : decode cX5_ask 73 = .ok (.iload 5, 2) := by decide +kernel
theorem dX5_ask_75 : decode cX5_ask 75 = .ok (.iload_n 3, 1) := by decide +kernel
theorem dX5_ask_76 : decode cX5_ask 76 = .ok (.invokestatic 182, 3) := by decide +kernel
theorem dX5_ask_79 : decode cX5_ask 79 = .ok (.ireturn, 1) := by decide +kernel
abbrev rmX5_ask : Room := { frames := 7, cells := 0, slots := 0, locals := 175 }
def opX5_ask (po : Int32 → px_St → Prop) : List (Nat × px_Op) := [
  (0, px_al 1 0),
  (1, px_il 2 1),
  (2, px_il 3 2),
  (3, px_callV dC 6 5 2 px_vI prX5_hasSound poX5_hasSound),
  (6, px_if 9 18 (fun x => x = 0)),
  (9, px_il 10 3),
  (10, px_push 11 (.int 0)),
  (11, px_push 12 (.int 1)),
  (12, px_callS 15 3 px_vI prX5_isWithin poX5_isWithin),
  (15, px_if 18 20 (fun x => ¬ x = 0)),
  (18, px_push 19 (.int (-1))),
  (19, px_iret (.int) po),
  (20, px_push 22 (.int (-4))),
  (22, px_is 24 4),
  (24, px_al 25 0),
  (25, px_il 26 1),
  (26, px_il 27 2),
  (27, px_callV dC 30 5 2 px_vI prX5_countHeard poX5_countHeard),
  (30, px_is 32 5),
  (32, px_push 33 (.int 0)),
  (33, px_is 35 6),
  (35, px_il 37 6),
  (37, px_push 39 (.int 20)),
  (39, px_ic 42 71 (fun x y => y < x)),
  (42, px_al 43 0),
  (43, px_il 45 6),
  (45, px_callV dC 48 5 1 px_vI prX5_mostHeard poX5_mostHeard),
  (48, px_is 50 7),
  (50, px_il 52 7),
  (52, px_il 54 5),
  (54, px_ic 57 65 (fun x y => y ≤ x)),
  (57, px_il 59 7),
  (59, px_is 61 5),
  (61, px_il 63 6),
  (63, px_is 65 4),
  (65, px_inc 68 6 1),
  (68, px_go 35),
  (71, px_il 73 4),
  (73, px_il 75 5),
  (75, px_il 76 3),
  (76, px_callS 79 3 px_vI prX5_choice poX5_choice),
  (79, px_iret (.int) po)]
set_option maxRecDepth 100000 in
set_option maxHeartbeats 4000000 in
theorem okX5_ask : ∀ (po : Int32 → px_St → Prop) (i pc : Nat) (op : px_Op), (opX5_ask po)[i]? = some (pc, op) → px_Snd (cX5_ask, 8, RX5, Cond.code yX5_ask cX5_ask 8 (some .int) :: wdC, (some .int), rmX5_ask, dC) px_vI po pc op := by
  intro po
  unfold opX5_ask
  refine px_ok_cons (ps_aload_n dX5_ask_0 rfl) ?_
  refine px_ok_cons (ps_iload_n dX5_ask_1 rfl) ?_
  refine px_ok_cons (ps_iload_n dX5_ask_2 rfl) ?_
  refine px_ok_cons (ps_callV mX5_hasSound (fun _ _ => rfl) (C := RX5) rfl (fun _ _ ht => px_cwV wgC (wdC_7_in _ (List.mem_of_getElem? (i := 15) rfl)) (wdC_7_in _ (List.mem_of_getElem? (i := 16) rfl)) (wdC_7_in _ (List.mem_of_getElem? (i := 17) rfl)) (wdC_4_in _ (List.mem_of_getElem? (i := 23) rfl)) (wdC_7_in _ (List.mem_of_getElem? (i := 13) rfl)) (by decide +kernel) rfl rfl (by decide) ht) dX5_ask_3) ?_
  refine px_ok_cons (ps_if_eq dX5_ask_6 (by decide)) ?_
  refine px_ok_cons (ps_iload_n dX5_ask_9 rfl) ?_
  refine px_ok_cons (ps_iconst dX5_ask_10 (by decide)) ?_
  refine px_ok_cons (ps_iconst dX5_ask_11 (by decide)) ?_
  refine px_ok_cons (ps_callS mX5_isWithin (fun _ _ => rfl) (fun _ _ ht => px_cwS wgC (wdC_4_in _ (List.mem_of_getElem? (i := 29) rfl)) (wdC_4_in _ (List.mem_of_getElem? (i := 22) rfl)) (wdC_4_in _ (List.mem_of_getElem? (i := 23) rfl)) (wdC_4_in _ (List.mem_of_getElem? (i := 20) rfl)) (by decide +kernel) rfl rfl (by decide) ht) dX5_ask_12) ?_
  refine px_ok_cons (ps_if_ne dX5_ask_15 (by decide)) ?_
  refine px_ok_cons (ps_iconst dX5_ask_18 (by decide)) ?_
  refine px_ok_cons (ps_ireturn rfl dX5_ask_19) ?_
  refine px_ok_cons (ps_bipush dX5_ask_20 (by decide)) ?_
  refine px_ok_cons (ps_istore dX5_ask_22 (by decide)) ?_
  refine px_ok_cons (ps_aload_n dX5_ask_24 rfl) ?_
  refine px_ok_cons (ps_iload_n dX5_ask_25 rfl) ?_
  refine px_ok_cons (ps_iload_n dX5_ask_26 rfl) ?_
  refine px_ok_cons (ps_callV mX5_countHeard (fun _ _ => rfl) (C := RX5) rfl (fun _ _ ht => px_cwV wgC (wdC_9_in _ (List.mem_of_getElem? (i := 27) rfl)) (wdC_9_in _ (List.mem_of_getElem? (i := 28) rfl)) (wdC_9_in _ (List.mem_of_getElem? (i := 29) rfl)) (wdC_4_in _ (List.mem_of_getElem? (i := 23) rfl)) (wdC_9_in _ (List.mem_of_getElem? (i := 24) rfl)) (by decide +kernel) rfl rfl (by decide) ht) dX5_ask_27) ?_
  refine px_ok_cons (ps_istore dX5_ask_30 (by decide)) ?_
  refine px_ok_cons (ps_iconst dX5_ask_32 (by decide)) ?_
  refine px_ok_cons (ps_istore dX5_ask_33 (by decide)) ?_
  refine px_ok_cons (ps_iload dX5_ask_35) ?_
  refine px_ok_cons (ps_bipush dX5_ask_37 (by decide)) ?_
  refine px_ok_cons (ps_icmp_gt dX5_ask_39 (by decide)) ?_
  refine px_ok_cons (ps_aload_n dX5_ask_42 rfl) ?_
  refine px_ok_cons (ps_iload dX5_ask_43) ?_
  refine px_ok_cons (ps_callV mX5_mostHeard (fun _ _ => rfl) (C := RX5) rfl (fun _ _ ht => px_cwV wgC (wdC_9_in _ (List.mem_of_getElem? (i := 30) rfl)) (wdC_9_in _ (List.mem_of_getElem? (i := 31) rfl)) (wdC_9_in _ (List.mem_of_getElem? (i := 32) rfl)) (wdC_4_in _ (List.mem_of_getElem? (i := 23) rfl)) (wdC_9_in _ (List.mem_of_getElem? (i := 25) rfl)) (by decide +kernel) rfl rfl (by decide) ht) dX5_ask_45) ?_
  refine px_ok_cons (ps_istore dX5_ask_48 (by decide)) ?_
  refine px_ok_cons (ps_iload dX5_ask_50) ?_
  refine px_ok_cons (ps_iload dX5_ask_52) ?_
  refine px_ok_cons (ps_icmp_ge dX5_ask_54 (by decide)) ?_
  refine px_ok_cons (ps_iload dX5_ask_57) ?_
  refine px_ok_cons (ps_istore dX5_ask_59 (by decide)) ?_
  refine px_ok_cons (ps_iload dX5_ask_61) ?_
  refine px_ok_cons (ps_istore dX5_ask_63 (by decide)) ?_
  refine px_ok_cons (ps_iinc dX5_ask_65 (by decide) (by decide)) ?_
  refine px_ok_cons (ps_goto dX5_ask_68 (by decide)) ?_
  refine px_ok_cons (ps_iload dX5_ask_71) ?_
  refine px_ok_cons (ps_iload dX5_ask_73) ?_
  refine px_ok_cons (ps_iload_n dX5_ask_75 rfl) ?_
  refine px_ok_cons (ps_callS mX5_choice (fun _ _ => rfl) (fun _ _ ht => px_cwS wgC (wdC_8_in _ (List.mem_of_getElem? (i := 20) rfl)) (wdC_8_in _ (List.mem_of_getElem? (i := 21) rfl)) (wdC_4_in _ (List.mem_of_getElem? (i := 23) rfl)) (wdC_8_in _ (List.mem_of_getElem? (i := 19) rfl)) (by decide +kernel) rfl rfl (by decide) ht) dX5_ask_76) ?_
  refine px_ok_cons (ps_ireturn rfl dX5_ask_79) ?_
  exact px_ok_nil
set_option maxRecDepth 100000 in
set_option maxHeartbeats 4000000 in
theorem sgX5_ask_0 {po : Int32 → px_St → Prop} {G : px_K} (hG : px_cl (opX5_ask po) G) (v1 : Int32) (v2 : Int32) (v3 : Int32) (σ : px_St)
    (H : ∃ g3 : gtX5_hasSound, qrX5_hasSound g3 v1 v2 σ ∧ ∀ (r1 : Int32) (σ2 : px_St), qoX5_hasSound g3 v1 v2 σ r1 σ2 → ((r1 = 0) → po (-1 : Int32) σ2) ∧ (¬ (r1 = 0) → ∃ g7 : gtX5_isWithin, qrX5_isWithin g7 v3 (0 : Int32) (1 : Int32) σ2 ∧ ∀ (r5 : Int32) (σ6 : px_St), qoX5_isWithin g7 v3 (0 : Int32) (1 : Int32) σ2 r5 σ6 → ((¬ r5 = 0) → ∃ g11 : gtX5_countHeard, qrX5_countHeard g11 v1 v2 σ6 ∧ ∀ (r9 : Int32) (σ10 : px_St), qoX5_countHeard g11 v1 v2 σ6 r9 σ10 → G 35 [some (.ref 0), some (.int v1), some (.int v2), some (.int v3), some (.int (-4 : Int32)), some (.int r9), some (.int (0 : Int32)), none] [] σ10) ∧ (¬ (¬ r5 = 0) → po (-1 : Int32) σ6))) :
    G 0 (px_ent 8 [.ref 0, .int v1, .int v2, .int v3]) [] σ := by
  refine hG.1 0 _ _ rfl _ _ _ ?_
  refine hG.1 1 _ _ rfl _ _ _ ?_
  refine hG.1 2 _ _ rfl _ _ _ ?_
  refine hG.1 3 _ _ rfl _ _ _ ?_
  obtain ⟨g3, H⟩ := H
  refine ⟨⟨rfl, by decide⟩, Nat.le_of_ble_eq_true rfl, g3, ⟨_, _, rfl, H.1⟩, fun r1 σ2 hp4 => ?_⟩
  replace H := H.2 r1 σ2 hp4
  refine hG.1 4 _ _ rfl _ _ _ ?_
  refine ⟨fun h14 => ?_, fun h14 => ?_⟩
  · replace H := H.1 h14
    refine hG.1 10 _ _ rfl _ _ _ ?_
    refine hG.1 11 _ _ rfl _ _ _ ?_
    exact ⟨rfl, H⟩
  · replace H := H.2 h14
    refine hG.1 5 _ _ rfl _ _ _ ?_
    refine hG.1 6 _ _ rfl _ _ _ ?_
    refine hG.1 7 _ _ rfl _ _ _ ?_
    refine hG.1 8 _ _ rfl _ _ _ ?_
    obtain ⟨g7, H⟩ := H
    refine ⟨Nat.le_of_ble_eq_true rfl, Nat.le_of_ble_eq_true rfl, g7, ⟨_, _, _, rfl, H.1⟩, fun r5 σ6 hp8 => ?_⟩
    replace H := H.2 r5 σ6 hp8
    refine hG.1 9 _ _ rfl _ _ _ ?_
    refine ⟨fun h13 => ?_, fun h13 => ?_⟩
    · replace H := H.1 h13
      refine hG.1 12 _ _ rfl _ _ _ ?_
      refine hG.1 13 _ _ rfl _ _ _ ?_
      show G 24 [some (.ref 0), some (.int v1), some (.int v2), some (.int v3), some (.int (-4 : Int32)), none, none, none] [] σ6
      refine hG.1 14 _ _ rfl _ _ _ ?_
      refine hG.1 15 _ _ rfl _ _ _ ?_
      refine hG.1 16 _ _ rfl _ _ _ ?_
      refine hG.1 17 _ _ rfl _ _ _ ?_
      obtain ⟨g11, H⟩ := H
      refine ⟨⟨rfl, by decide⟩, Nat.le_of_ble_eq_true rfl, g11, ⟨_, _, rfl, H.1⟩, fun r9 σ10 hp12 => ?_⟩
      replace H := H.2 r9 σ10 hp12
      refine hG.1 18 _ _ rfl _ _ _ ?_
      show G 32 [some (.ref 0), some (.int v1), some (.int v2), some (.int v3), some (.int (-4 : Int32)), some (.int r9), none, none] [] σ10
      refine hG.1 19 _ _ rfl _ _ _ ?_
      refine hG.1 20 _ _ rfl _ _ _ ?_
      show G 35 [some (.ref 0), some (.int v1), some (.int v2), some (.int v3), some (.int (-4 : Int32)), some (.int r9), some (.int (0 : Int32)), none] [] σ10
      exact H
    · replace H := H.2 h13
      refine hG.1 10 _ _ rfl _ _ _ ?_
      refine hG.1 11 _ _ rfl _ _ _ ?_
      exact ⟨rfl, H⟩
set_option maxRecDepth 100000 in
set_option maxHeartbeats 4000000 in
theorem sgX5_ask_35 {po : Int32 → px_St → Prop} {G : px_K} (hG : px_cl (opX5_ask po) G) (v1 : Int32) (v2 : Int32) (v3 : Int32) (v4 : Int32) (v5 : Int32) (v6 : Int32) (σ : px_St)
    (H : (((20 : Int32) < v6) → ∃ g3 : gtX5_choice, qrX5_choice g3 v4 v5 v3 σ ∧ ∀ (r1 : Int32) (σ2 : px_St), qoX5_choice g3 v4 v5 v3 σ r1 σ2 → po r1 σ2) ∧ (¬ ((20 : Int32) < v6) → ∃ g7 : gtX5_mostHeard, qrX5_mostHeard g7 v6 σ ∧ ∀ (r5 : Int32) (σ6 : px_St), qoX5_mostHeard g7 v6 σ r5 σ6 → ((v5 ≤ r5) → G 35 [some (.ref 0), some (.int v1), some (.int v2), some (.int v3), some (.int v4), some (.int v5), some (.int (v6 + 1)), none] [] σ6) ∧ (¬ (v5 ≤ r5) → G 35 [some (.ref 0), some (.int v1), some (.int v2), some (.int v3), some (.int v6), some (.int r5), some (.int (v6 + 1)), none] [] σ6))) :
    G 35 [some (.ref 0), some (.int v1), some (.int v2), some (.int v3), some (.int v4), some (.int v5), some (.int v6), none] [] σ := by
  refine hG.1 21 _ _ rfl _ _ _ ?_
  refine hG.1 22 _ _ rfl _ _ _ ?_
  refine hG.1 23 _ _ rfl _ _ _ ?_
  refine ⟨fun h10 => ?_, fun h10 => ?_⟩
  · replace H := H.1 h10
    refine hG.1 37 _ _ rfl _ _ _ ?_
    refine hG.1 38 _ _ rfl _ _ _ ?_
    refine hG.1 39 _ _ rfl _ _ _ ?_
    refine hG.1 40 _ _ rfl _ _ _ ?_
    obtain ⟨g3, H⟩ := H
    refine ⟨Nat.le_of_ble_eq_true rfl, Nat.le_of_ble_eq_true rfl, g3, ⟨_, _, _, rfl, H.1⟩, fun r1 σ2 hp4 => ?_⟩
    replace H := H.2 r1 σ2 hp4
    refine hG.1 41 _ _ rfl _ _ _ ?_
    exact ⟨rfl, H⟩
  · replace H := H.2 h10
    refine hG.1 24 _ _ rfl _ _ _ ?_
    refine hG.1 25 _ _ rfl _ _ _ ?_
    refine hG.1 26 _ _ rfl _ _ _ ?_
    obtain ⟨g7, H⟩ := H
    refine ⟨⟨rfl, by decide⟩, Nat.le_of_ble_eq_true rfl, g7, ⟨_, rfl, H.1⟩, fun r5 σ6 hp8 => ?_⟩
    replace H := H.2 r5 σ6 hp8
    refine hG.1 27 _ _ rfl _ _ _ ?_
    show G 50 [some (.ref 0), some (.int v1), some (.int v2), some (.int v3), some (.int v4), some (.int v5), some (.int v6), some (.int r5)] [] σ6
    refine hG.1 28 _ _ rfl _ _ _ ?_
    refine hG.1 29 _ _ rfl _ _ _ ?_
    refine hG.1 30 _ _ rfl _ _ _ ?_
    refine ⟨fun h9 => ?_, fun h9 => ?_⟩
    · replace H := H.1 h9
      refine hG.1 35 _ _ rfl _ _ _ ?_
      show G 68 [some (.ref 0), some (.int v1), some (.int v2), some (.int v3), some (.int v4), some (.int v5), some (.int (v6 + 1)), some (.int r5)] [] σ6
      refine hG.1 36 _ _ rfl _ _ _ ?_
      refine hG.2 35 [some (.ref 0), some (.int v1), some (.int v2), some (.int v3), some (.int v4), some (.int v5), some (.int (v6 + 1)), none] _ _ _ ⟨rfl, rfl, rfl, rfl, rfl, rfl, rfl, trivial⟩ ?_
      exact H
    · replace H := H.2 h9
      refine hG.1 31 _ _ rfl _ _ _ ?_
      refine hG.1 32 _ _ rfl _ _ _ ?_
      show G 61 [some (.ref 0), some (.int v1), some (.int v2), some (.int v3), some (.int v4), some (.int r5), some (.int v6), some (.int r5)] [] σ6
      refine hG.1 33 _ _ rfl _ _ _ ?_
      refine hG.1 34 _ _ rfl _ _ _ ?_
      show G 65 [some (.ref 0), some (.int v1), some (.int v2), some (.int v3), some (.int v6), some (.int r5), some (.int v6), some (.int r5)] [] σ6
      refine hG.1 35 _ _ rfl _ _ _ ?_
      show G 68 [some (.ref 0), some (.int v1), some (.int v2), some (.int v3), some (.int v6), some (.int r5), some (.int (v6 + 1)), some (.int r5)] [] σ6
      refine hG.1 36 _ _ rfl _ _ _ ?_
      refine hG.2 35 [some (.ref 0), some (.int v1), some (.int v2), some (.int v3), some (.int v6), some (.int r5), some (.int (v6 + 1)), none] _ _ _ ⟨rfl, rfl, rfl, rfl, rfl, rfl, rfl, trivial⟩ ?_
      exact H
set_option maxRecDepth 100000 in
set_option maxHeartbeats 4000000 in
theorem hhX5_ask (g : gtX5_ask) (v1 : Int32) (v2 : Int32) (v3 : Int32) (σ : px_St) (h : qrX5_ask g v1 v2 v3 σ) (G : px_K) (hG : px_cl (opX5_ask (qoX5_ask g v1 v2 v3 σ)) G) : G 0 (px_ent 8 [.ref 0, .int v1, .int v2, .int v3]) [] σ := by
  obtain ⟨hX, hok⟩ := h
  have hd := hok.1.2
  have hvk := hok.1.1
  have h5 := hvk.1.1
  refine sgX5_ask_0 hG _ _ _ σ ⟨g.1, ⟨hX.1, hvk.1⟩, fun r0 σ0 h0 => ?_⟩
  obtain ⟨rfl, b0⟩ := h0
  refine bz2 b0 (fun zp => ⟨(), trivial, fun r1 σ1 h1 => ?_⟩) (fun zp => ?_)
  · obtain ⟨rfl, b1⟩ := h1
    refine bz1 b1 (fun z => ?_) (fun z => ?_)
    · obtain ⟨p, i, hp, hi, rfl, rfl⟩ := pv_own_of hvk.1 zp
      have hl := (hvk.1.2.2.2 p hp).2.1
      obtain ⟨C, hC⟩ : ∃ C, C = pv_cd g.1 p i g.2.1 10 := ⟨_, rfl⟩
      obtain ⟨F, hF⟩ : ∃ F : Nat → Nat, F = pv_askf g.1 p i g.2.1 := ⟨_, rfl⟩
      obtain ⟨N, hN⟩ : ∃ N : Nat, N = 21 := ⟨_, rfl⟩
      have ex : (x_ask g (nI p) (nI i) v3) = (pv_choice (pv_bmin F C N).1 (nI (pv_bmin F C N).2) v3, g) := by
        unfold x_ask
        rw [xif_t ⟨zp, z⟩, nI_clamp (by omega), nI_clamp (by omega), hN, hF, hC]
      refine ⟨(g.1, g.2.1, p, i), ⟨hX.1, hvk, by omega, hX.2.1, hok.2.1, hp, hi, rfl, rfl⟩, fun r4 σ4 hq => ?_⟩
      obtain ⟨hr4, hh, hch⟩ := hq
      rw [← hC] at hr4
      have hX4 : cl_is σ4 g := cl_keep hX (fun k hk => hch k (by omega) (by omega) (by omega))
      have hfl : ∀ d, F d < 100 := fun d => by rw [hF]; exact pv_mx_lt (by omega) (fun x => by have := pv_hd_le g.1 p i g.2.1 d x 10; omega) 10
      have hCl : C < 100 := by rw [hC]; have := pv_cd_le g.1 p i g.2.1 10; omega
      have loop : ∀ m d, d + m = N → G 35 [some (.ref 0), some (.int (nI p)), some (.int (nI i)), some (.int v3), some (.int (pv_bmin F C d).1), some (.int (nI (pv_bmin F C d).2)), some (.int (nI d)), none] [] σ4 := by
        intro m
        induction m with
        | zero =>
          intro d hdm
          refine sgX5_ask_35 hG _ _ _ _ _ _ σ4 ⟨fun _ => ⟨(), trivial, fun r σ5 hq => ?_⟩, fun q => absurd ((nIlt 20 d rfl rfl (by omega) (by omega)).mpr (by omega)) q⟩
          obtain ⟨e1, e2⟩ := hq
          unfold qoX5_ask
          rw [ex, e1, e2, show d = N by omega]
          exact ⟨rfl, hX4⟩
        | succ m ih =>
          intro d hdm
          refine sgX5_ask_35 hG _ _ _ _ _ _ σ4 ⟨fun q => absurd ((nIlt 20 d rfl rfl (by omega) (by omega)).mp q) (by omega), fun _ => ⟨(d, fun x => pv_hd g.1 p i g.2.1 d x 10), ⟨by omega, rfl, fun x hx => ⟨hh d x (by omega) hx, Nat.lt_of_le_of_lt (pv_hd_le g.1 p i g.2.1 d x 10) (by omega)⟩⟩, fun r5 σ5 hq5 => ?_⟩⟩
          obtain ⟨e1, e2⟩ := hq5
          have e3 : r5 = nI (F d) := by rw [e2, hF]; rfl
          rw [e1, e3]
          have hb1 : (pv_bmin F C d).2 < 100 := pv_bmin_lt hCl d (fun j _ => hfl j)
          have hb2 := hfl d
          have e := ih (d + 1) (by omega)
          rw [pv_bmin] at e
          have cl : nI (pv_bmin F C d).2 ≤ nI (F d) ↔ (pv_bmin F C d).2 ≤ F d := nI_leI (by omega) (by omega)
          rw [cl, nI_1]
          refine ⟨fun q => ?_, fun q => ?_⟩
          · rw [if_neg (by omega)] at e; exact e
          · rw [if_pos (by omega)] at e; exact e
      rw [hr4]
      have e0 := loop N 0 (by omega)
      rw [pv_bmin] at e0
      exact e0
    · unfold qoX5_ask x_ask
      rw [xif_f (fun q => z q.2)]
      exact ⟨rfl, hX⟩
  · unfold qoX5_ask x_ask
    rw [xif_f (fun q => zp q.1)]
    exact ⟨rfl, hX⟩
theorem mX5_ask (g : gtX5_ask) : px_Met dC yX5_ask (Cond.code yX5_ask cX5_ask 8 (some .int) :: wdC) rmX5_ask px_vI (prX5_ask g) (poX5_ask g) :=
  px_met (Z := (cX5_ask, 8, RX5, Cond.code yX5_ask cX5_ask 8 (some .int) :: wdC, (some .int), rmX5_ask, dC)) opX5_ask (by decide) rfl rfl okX5_ask (fun As σ h => by obtain ⟨v1, v2, v3, rfl, h⟩ := h; exact Nat.le_of_ble_eq_true rfl) (fun As σ h G hG => by obtain ⟨v1, v2, v3, rfl, h⟩ := h; exact hhX5_ask g v1 v2 v3 σ h G hG)
def pv_lot (v : Int32) : Int32 := v * 1103515245 + 12345
def pv_got (v : Int32) : Nat := v.toBitVec.toNat / 65536 % 32768
/-- days by a seed: the lot, the aviary, the bits of what was said, what was said last -/
noncomputable def pv_dr (V : pv_V) (seed : Int32) : Nat → Int32 × pv_V × Nat × Int32
  | 0 => (seed, V, 0, -4)
  | k + 1 => (pv_lot (pv_dr V seed k).1, pv_day (pv_at (pv_dr V seed k).2.1 (pv_got (pv_lot (pv_dr V seed k).1) % V.1) (pv_learn ((pv_dr V seed k).2.1.2.2.2 (pv_got (pv_lot (pv_dr V seed k).1) % V.1)) (pv_got (pv_lot (pv_dr V seed k).1) / 8 % 10))),
      (pv_dr V seed k).2.2.1 ||| 2 ^ pv_due (pv_at (pv_dr V seed k).2.1 (pv_got (pv_lot (pv_dr V seed k).1) % V.1) (pv_learn ((pv_dr V seed k).2.1.2.2.2 (pv_got (pv_lot (pv_dr V seed k).1) % V.1)) (pv_got (pv_lot (pv_dr V seed k).1) / 8 % 10))),
      pv_said (pv_at (pv_dr V seed k).2.1 (pv_got (pv_lot (pv_dr V seed k).1) % V.1) (pv_learn ((pv_dr V seed k).2.1.2.2.2 (pv_got (pv_lot (pv_dr V seed k).1) % V.1)) (pv_got (pv_lot (pv_dr V seed k).1) / 8 % 10))))
theorem pv_dr_ok {V : pv_V} (h : pv_ok V) (hn : 0 < V.1) (seed : Int32) (k : Nat) (hd : V.2.2.1 + k < 1999) : pv_ok (pv_dr V seed k).2.1 ∧ (pv_dr V seed k).2.1.1 = V.1 ∧ (pv_dr V seed k).2.1.2.2.1 = V.2.2.1 + k := by
  induction k with
  | zero => exact ⟨h, rfl, rfl⟩
  | succ k ih =>
    obtain ⟨h1, h2, h3⟩ := ih (by omega)
    have hl := pv_lrn_ok (p := pv_got (pv_lot (pv_dr V seed k).1) % V.1) (s := pv_got (pv_lot (pv_dr V seed k).1) / 8 % 10) h1 (by rw [h2]; exact Nat.mod_lt _ hn) (by have := Nat.mod_lt (pv_got (pv_lot (pv_dr V seed k).1) / 8) (show 0 < 10 by omega); omega)
    refine ⟨pv_day_ok hl (by show (pv_dr V seed k).2.1.2.2.1 < 1999; omega), h2, ?_⟩
    show (pv_dr V seed k).2.1.2.2.1 + 1 = _
    omega
noncomputable def x_drift (X : pv_X) (seed n w : Int32) : Int32 × pv_X := (xif ((1 ≤ n ∧ n ≤ 60) ∧ (0 ≤ w ∧ w ≤ 1)) (xif (X.1.1 = 0) (-2) (if w = 0 then (pv_dr X.1 seed n.toNatClampNeg).2.2.2 else nI (pv_pc (pv_dr X.1 seed n.toNatClampNeg).2.2.1 10))) (-1), X)
theorem got_u (v : Int32) : ((v.toUInt32 >>> ((16 : Int32).toUInt32 &&& Int32.toUInt32 31)).toInt32) &&& (32767 : Int32) = nI (pv_got v) := by
  rw [pk_and _ 15 (by decide), pk_ushr v 16 16 (by decide)]
  rfl
abbrev gtX5_drift : Type := pv_X
def qrX5_drift (X : pv_X) (_ _ _ : Int32) (σ : px_St) : Prop := cl_is σ X ∧ xo X
def qoX5_drift (X : pv_X) (s n w : Int32) (_ : px_St) (r : Int32) (σ' : px_St) : Prop := r = (x_drift X s n w).1 ∧ cl_is σ' (x_drift X s n w).2
def prX5_drift (g : gtX5_drift) : List Value → px_St → Prop := fun As σ => ∃ v1 : Int32, ∃ v2 : Int32, ∃ v3 : Int32, As = [.ref 0, .int v1, .int v2, .int v3] ∧ qrX5_drift g v1 v2 v3 σ
def poX5_drift (g : gtX5_drift) : List Value → px_St → Int32 → px_St → Prop
  | [.ref _, .int v1, .int v2, .int v3], σ, r, σ' => qoX5_drift g v1 v2 v3 σ r σ'
  | _, _, _, _ => False
theorem dX5_drift_0 : decode cX5_drift 0 = .ok (.iload_n 2, 1) := by decide +kernel
theorem dX5_drift_1 : decode cX5_drift 1 = .ok (.iconst 1, 1) := by decide +kernel
theorem dX5_drift_2 : decode cX5_drift 2 = .ok (.bipush 60, 2) := by decide +kernel
theorem dX5_drift_4 : decode cX5_drift 4 = .ok (.invokestatic 61, 3) := by decide +kernel
theorem dX5_drift_7 : decode cX5_drift 7 = .ok (.ifCond .eq 12, 3) := by decide +kernel
theorem dX5_drift_10 : decode cX5_drift 10 = .ok (.iload_n 3, 1) := by decide +kernel
theorem dX5_drift_11 : decode cX5_drift 11 = .ok (.iconst 0, 1) := by decide +kernel
theorem dX5_drift_12 : decode cX5_drift 12 = .ok (.iconst 1, 1) := by decide +kernel
theorem dX5_drift_13 : decode cX5_drift 13 = .ok (.invokestatic 61, 3) := by decide +kernel
theorem dX5_drift_16 : decode cX5_drift 16 = .ok (.ifCond .ne 5, 3) := by decide +kernel
theorem dX5_drift_19 : decode cX5_drift 19 = .ok (.iconst (-1), 1) := by decide +kernel
theorem dX5_drift_20 : decode cX5_drift 20 = .ok (.ireturn, 1) := by decide +kernel
theorem dX5_drift_21 : decode cX5_drift 21 = .ok (.aload_n 0, 1) := by decide +kernel
theorem dX5_drift_22 : decode cX5_drift 22 = .ok (.getfield 10, 3) := by decide +kernel
theorem dX5_drift_25 : decode cX5_drift 25 = .ok (.getfield 93, 3) := by decide +kernel
theorem dX5_drift_28 : decode cX5_drift 28 = .ok (.iconst 1, 1) := by decide +kernel
theorem dX5_drift_29 : decode cX5_drift 29 = .ok (.if_icmp .ge 6, 3) := by decide +kernel
theorem dX5_drift_32 : decode cX5_drift 32 = .ok (.bipush (-2), 2) := by decide +kernel
theorem dX5_drift_34 : decode cX5_drift 34 = .ok (.ireturn, 1) := by decide +kernel
theorem dX5_drift_35 : decode cX5_drift 35 = .ok (.iconst 0, 1) := by decide +kernel
theorem dX5_drift_36 : decode cX5_drift 36 = .ok (.istore 4, 2) := by decide +kernel
theorem dX5_drift_38 : decode cX5_drift 38 = .ok (.bipush (-4), 2) := by decide +kernel
theorem dX5_drift_40 : decode cX5_drift 40 = .ok (.istore 5, 2) := by decide +kernel
theorem dX5_drift_42 : decode cX5_drift 42 = .ok (.iload_n 1, 1) := by decide +kernel
theorem dX5_drift_43 : decode cX5_drift 43 = .ok (.istore 6, 2) := by decide +kernel
theorem dX5_drift_45 : decode cX5_drift 45 = .ok (.aload_n 0, 1) := by decide +kernel
theorem dX5_drift_46 : decode cX5_drift 46 = .ok (.getfield 26, 3) := by decide +kernel
theorem dX5_drift_49 : decode cX5_drift 49 = .ok (.aload_n 0, 1) := by decide +kernel
theorem dX5_drift_50 : decode cX5_drift 50 = .ok (.getfield 10, 3) := by decide +kernel
theorem dX5_drift_53 : decode cX5_drift 53 = .ok (.invokevirtual 82, 3) := by decide +kernel
theorem dX5_drift_56 : decode cX5_drift 56 = .ok (.iconst 0, 1) := by decide +kernel
theorem dX5_drift_57 : decode cX5_drift 57 = .ok (.istore 7, 2) := by decide +kernel
theorem dX5_drift_59 : decode cX5_drift 59 = .ok (.iload 7, 2) := by decide +kernel
theorem dX5_drift_61 : decode cX5_drift 61 = .ok (.iload_n 2, 1) := by decide +kernel
theorem dX5_drift_62 : decode cX5_drift 62 = .ok (.if_icmp .ge 75, 3) := by decide +kernel
theorem dX5_drift_65 : decode cX5_drift 65 = .ok (.iload 6, 2) := by decide +kernel
theorem dX5_drift_67 : decode cX5_drift 67 = .ok (.ldc 230, 2) := by decide +kernel
theorem dX5_drift_69 : decode cX5_drift 69 = .ok (.imul, 1) := by decide +kernel
theorem dX5_drift_70 : decode cX5_drift 70 = .ok (.sipush 12345, 3) := by decide +kernel
theorem dX5_drift_73 : decode cX5_drift 73 = .ok (.iadd, 1) := by decide +kernel
theorem dX5_drift_74 : decode cX5_drift 74 = .ok (.istore 6, 2) := by decide +kernel
theorem dX5_drift_76 : decode cX5_drift 76 = .ok (.iload 6, 2) := by decide +kernel
theorem dX5_drift_78 : decode cX5_drift 78 = .ok (.bipush 16, 2) := by decide +kernel
theorem dX5_drift_80 : decode cX5_drift 80 = .ok (.iushr, 1) := by decide +kernel
theorem dX5_drift_81 : decode cX5_drift 81 = .ok (.sipush 32767, 3) := by decide +kernel
theorem dX5_drift_84 : decode cX5_drift 84 = .ok (.iand, 1) := by decide +kernel
theorem dX5_drift_85 : decode cX5_drift 85 = .ok (.istore 8, 2) := by decide +kernel
theorem dX5_drift_87 : decode cX5_drift 87 = .ok (.aload_n 0, 1) := by decide +kernel
theorem dX5_drift_88 : decode cX5_drift 88 = .ok (.getfield 26, 3) := by decide +kernel
theorem dX5_drift_91 : decode cX5_drift 91 = .ok (.iload 8, 2) := by decide +kernel
theorem dX5_drift_93 : decode cX5_drift 93 = .ok (.aload_n 0, 1) := by decide +kernel
theorem dX5_drift_94 : decode cX5_drift 94 = .ok (.getfield 10, 3) := by decide +kernel
theorem dX5_drift_97 : decode cX5_drift 97 = .ok (.getfield 93, 3) := by decide +kernel
theorem dX5_drift_100 : decode cX5_drift 100 = .ok (.irem, 1) := by decide +kernel
theorem dX5_drift_101 : decode cX5_drift 101 = .ok (.iload 8, 2) := by decide +kernel
theorem dX5_drift_103 : decode cX5_drift 103 = .ok (.bipush 8, 2) := by decide +kernel
theorem dX5_drift_105 : decode cX5_drift 105 = .ok (.idiv, 1) := by decide +kernel
theorem dX5_drift_106 : decode cX5_drift 106 = .ok (.bipush 10, 2) := by decide +kernel
theorem dX5_drift_108 : decode cX5_drift 108 = .ok (.irem, 1) := by decide +kernel
theorem dX5_drift_109 : decode cX5_drift 109 = .ok (.invokevirtual 145, 3) := by decide +kernel
theorem dX5_drift_112 : decode cX5_drift 112 = .ok (.aload_n 0, 1) := by decide +kernel
theorem dX5_drift_113 : decode cX5_drift 113 = .ok (.getfield 26, 3) := by decide +kernel
theorem dX5_drift_116 : decode cX5_drift 116 = .ok (.invokevirtual 156, 3) := by decide +kernel
theorem dX5_drift_119 : decode cX5_drift 119 = .ok (.istore 5, 2) := by decide +kernel
theorem dX5_drift_121 : decode cX5_drift 121 = .ok (.iload 4, 2) := by decide +kernel
theorem dX5_drift_123 : decode cX5_drift 123 = .ok (.iload 5, 2) := by decide +kernel
theorem dX5_drift_125 : decode cX5_drift 125 = .ok (.invokestatic 159, 3) := by decide +kernel
theorem dX5_drift_128 : decode cX5_drift 128 = .ok (.ior, 1) := by decide +kernel
theorem dX5_drift_129 : decode cX5_drift 129 = .ok (.istore 4, 2) := by decide +kernel
theorem dX5_drift_131 : decode cX5_drift 131 = .ok (.iinc 7 1, 3) := by decide +kernel
theorem dX5_drift_134 : decode cX5_drift 134 = .ok (.goto (-75), 3) := by decide +kernel
theorem dX5_drift_137 : decode cX5_drift 137 = .ok (.iload_n 3, 1) := by decide +kernel
theorem dX5_drift_138 : decode cX5_drift 138 = .ok (.ifCond .ne 8, 3) := by decide +kernel
theorem dX5_drift_141 : decode cX5_drift 141 = .ok (.iload 5, 2) := by decide +kernel
theorem dX5_drift_143 : decode cX5_drift 143 = .ok (.goto 8, 3) := by decide +kernel
theorem dX5_drift_146 : decode cX5_drift 146 = .ok (.iload 4, 2) := by decide +kernel
theorem dX5_drift_148 : decode cX5_drift 148 = .ok (.invokestatic 162, 3) := by decide +kernel
theorem dX5_drift_151 : decode cX5_drift 151 = .ok (.ireturn, 1) := by decide +kernel
abbrev rmX5_drift : Room := { frames := 4, cells := 0, slots := 0, locals := 105 }
def opX5_drift (po : Int32 → px_St → Prop) : List (Nat × px_Op) := [
  (0, px_il 1 2),
  (1, px_push 2 (.int 1)),
  (2, px_push 4 (.int 60)),
  (4, px_callS 7 3 px_vI prX5_isWithin poX5_isWithin),
  (7, px_if 10 19 (fun x => x = 0)),
  (10, px_il 11 3),
  (11, px_push 12 (.int 0)),
  (12, px_push 13 (.int 1)),
  (13, px_callS 16 3 px_vI prX5_isWithin poX5_isWithin),
  (16, px_if 19 21 (fun x => ¬ x = 0)),
  (19, px_push 20 (.int (-1))),
  (20, px_iret (.int) po),
  (21, px_al 22 0),
  (22, px_get dC 25 5 0),
  (25, px_get dC 28 0 0),
  (28, px_push 29 (.int 1)),
  (29, px_ic 32 35 (fun x y => y ≤ x)),
  (32, px_push 34 (.int (-2))),
  (34, px_iret (.int) po),
  (35, px_push 36 (.int 0)),
  (36, px_is 38 4),
  (38, px_push 40 (.int (-4))),
  (40, px_is 42 5),
  (42, px_il 43 1),
  (43, px_is 45 6),
  (45, px_al 46 0),
  (46, px_get dC 49 5 3),
  (49, px_al 50 0),
  (50, px_get dC 53 5 0),
  (53, px_callV dC 56 0 1 px_vV prX0_becomes poX0_becomes),
  (56, px_push 57 (.int 0)),
  (57, px_is 59 7),
  (59, px_il 61 7),
  (61, px_il 62 2),
  (62, px_ic 65 137 (fun x y => y ≤ x)),
  (65, px_il 67 6),
  (67, px_push 69 (.int 1103515245)),
  (69, px_bin 70 (fun x y => x * y)),
  (70, px_push 73 (.int 12345)),
  (73, px_bin 74 (fun x y => x + y)),
  (74, px_is 76 6),
  (76, px_il 78 6),
  (78, px_push 80 (.int 16)),
  (80, px_bin 81 (fun x y => (x.toUInt32 >>> (y.toUInt32 &&& Int32.toUInt32 31)).toInt32)),
  (81, px_push 84 (.int 32767)),
  (84, px_bin 85 (fun x y => x &&& y)),
  (85, px_is 87 8),
  (87, px_al 88 0),
  (88, px_get dC 91 5 3),
  (91, px_il 93 8),
  (93, px_al 94 0),
  (94, px_get dC 97 5 0),
  (97, px_get dC 100 0 0),
  (100, px_div 101 (fun x y => x - x / y * y)),
  (101, px_il 103 8),
  (103, px_push 105 (.int 8)),
  (105, px_div 106 (fun x y => x / y)),
  (106, px_push 108 (.int 10)),
  (108, px_div 109 (fun x y => x - x / y * y)),
  (109, px_callV dC 112 0 2 px_vV prX0_learn poX0_learn),
  (112, px_al 113 0),
  (113, px_get dC 116 5 3),
  (116, px_callV dC 119 0 0 px_vI prX0_passDay poX0_passDay),
  (119, px_is 121 5),
  (121, px_il 123 4),
  (123, px_il 125 5),
  (125, px_callS 128 1 px_vI prX5_soundBit poX5_soundBit),
  (128, px_bin 129 (fun x y => x ||| y)),
  (129, px_is 131 4),
  (131, px_inc 134 7 1),
  (134, px_go 59),
  (137, px_il 138 3),
  (138, px_if 141 146 (fun x => ¬ x = 0)),
  (141, px_il 143 5),
  (143, px_go 151),
  (146, px_il 148 4),
  (148, px_callS 151 1 px_vI prJ6_bitCount_0f7a4 poJ6_bitCount_0f7a4),
  (151, px_iret (.int) po)]
set_option maxRecDepth 100000 in
set_option maxHeartbeats 4000000 in
theorem okX5_drift : ∀ (po : Int32 → px_St → Prop) (i pc : Nat) (op : px_Op), (opX5_drift po)[i]? = some (pc, op) → px_Snd (cX5_drift, 9, RX5, Cond.code yX5_drift cX5_drift 9 (some .int) :: wdC, (some .int), rmX5_drift, dC) px_vI po pc op := by
  intro po
  unfold opX5_drift
  refine px_ok_cons (ps_iload_n dX5_drift_0 rfl) ?_
  refine px_ok_cons (ps_iconst dX5_drift_1 (by decide)) ?_
  refine px_ok_cons (ps_bipush dX5_drift_2 (by decide)) ?_
  refine px_ok_cons (ps_callS mX5_isWithin (fun _ _ => rfl) (fun _ _ ht => px_cwS wgC (wdC_4_in _ (List.mem_of_getElem? (i := 29) rfl)) (wdC_4_in _ (List.mem_of_getElem? (i := 22) rfl)) (wdC_4_in _ (List.mem_of_getElem? (i := 23) rfl)) (wdC_4_in _ (List.mem_of_getElem? (i := 20) rfl)) (by decide +kernel) rfl rfl (by decide) ht) dX5_drift_4) ?_
  refine px_ok_cons (ps_if_eq dX5_drift_7 (by decide)) ?_
  refine px_ok_cons (ps_iload_n dX5_drift_10 rfl) ?_
  refine px_ok_cons (ps_iconst dX5_drift_11 (by decide)) ?_
  refine px_ok_cons (ps_iconst dX5_drift_12 (by decide)) ?_
  refine px_ok_cons (ps_callS mX5_isWithin (fun _ _ => rfl) (fun _ _ ht => px_cwS wgC (wdC_4_in _ (List.mem_of_getElem? (i := 29) rfl)) (wdC_4_in _ (List.mem_of_getElem? (i := 22) rfl)) (wdC_4_in _ (List.mem_of_getElem? (i := 23) rfl)) (wdC_4_in _ (List.mem_of_getElem? (i := 20) rfl)) (by decide +kernel) rfl rfl (by decide) ht) dX5_drift_13) ?_
  refine px_ok_cons (ps_if_ne dX5_drift_16 (by decide)) ?_
  refine px_ok_cons (ps_iconst dX5_drift_19 (by decide)) ?_
  refine px_ok_cons (ps_ireturn rfl dX5_drift_20) ?_
  refine px_ok_cons (ps_aload_n dX5_drift_21 rfl) ?_
  refine px_ok_cons (fgX5_10 dX5_drift_22) ?_
  refine px_ok_cons (fgX5_93 dX5_drift_25) ?_
  refine px_ok_cons (ps_iconst dX5_drift_28 (by decide)) ?_
  refine px_ok_cons (ps_icmp_ge dX5_drift_29 (by decide)) ?_
  refine px_ok_cons (ps_bipush dX5_drift_32 (by decide)) ?_
  refine px_ok_cons (ps_ireturn rfl dX5_drift_34) ?_
  refine px_ok_cons (ps_iconst dX5_drift_35 (by decide)) ?_
  refine px_ok_cons (ps_istore dX5_drift_36 (by decide)) ?_
  refine px_ok_cons (ps_bipush dX5_drift_38 (by decide)) ?_
  refine px_ok_cons (ps_istore dX5_drift_40 (by decide)) ?_
  refine px_ok_cons (ps_iload_n dX5_drift_42 rfl) ?_
  refine px_ok_cons (ps_istore dX5_drift_43 (by decide)) ?_
  refine px_ok_cons (ps_aload_n dX5_drift_45 rfl) ?_
  refine px_ok_cons (fgX5_26 dX5_drift_46) ?_
  refine px_ok_cons (ps_aload_n dX5_drift_49 rfl) ?_
  refine px_ok_cons (fgX5_10 dX5_drift_50) ?_
  refine px_ok_cons (ps_callV mX0_becomes (fun _ _ => rfl) (C := RX0) rfl (fun _ _ ht => px_cwV wgC (wdC_6_in _ (List.mem_of_getElem? (i := 18) rfl)) (wdC_6_in _ (List.mem_of_getElem? (i := 19) rfl)) (wdC_6_in _ (List.mem_of_getElem? (i := 20) rfl)) (wdC_0_in _ (List.mem_of_getElem? (i := 22) rfl)) (wdC_0_in _ (List.mem_of_getElem? (i := 18) rfl)) (by decide +kernel) rfl rfl (by decide) ht) dX5_drift_53) ?_
  refine px_ok_cons (ps_iconst dX5_drift_56 (by decide)) ?_
  refine px_ok_cons (ps_istore dX5_drift_57 (by decide)) ?_
  refine px_ok_cons (ps_iload dX5_drift_59) ?_
  refine px_ok_cons (ps_iload_n dX5_drift_61 rfl) ?_
  refine px_ok_cons (ps_icmp_ge dX5_drift_62 (by decide)) ?_
  refine px_ok_cons (ps_iload dX5_drift_65) ?_
  refine px_ok_cons (ps_ldc (List.mem_cons_of_mem _ (wdC_9_in _ (List.mem_of_getElem? (i := 34) rfl))) dX5_drift_67) ?_
  refine px_ok_cons (ps_imul dX5_drift_69) ?_
  refine px_ok_cons (ps_sipush dX5_drift_70 (by decide)) ?_
  refine px_ok_cons (ps_iadd dX5_drift_73) ?_
  refine px_ok_cons (ps_istore dX5_drift_74 (by decide)) ?_
  refine px_ok_cons (ps_iload dX5_drift_76) ?_
  refine px_ok_cons (ps_bipush dX5_drift_78 (by decide)) ?_
  refine px_ok_cons (ps_iushr dX5_drift_80) ?_
  refine px_ok_cons (ps_sipush dX5_drift_81 (by decide)) ?_
  refine px_ok_cons (ps_iand dX5_drift_84) ?_
  refine px_ok_cons (ps_istore dX5_drift_85 (by decide)) ?_
  refine px_ok_cons (ps_aload_n dX5_drift_87 rfl) ?_
  refine px_ok_cons (fgX5_26 dX5_drift_88) ?_
  refine px_ok_cons (ps_iload dX5_drift_91) ?_
  refine px_ok_cons (ps_aload_n dX5_drift_93 rfl) ?_
  refine px_ok_cons (fgX5_10 dX5_drift_94) ?_
  refine px_ok_cons (fgX5_93 dX5_drift_97) ?_
  refine px_ok_cons (ps_irem dX5_drift_100) ?_
  refine px_ok_cons (ps_iload dX5_drift_101) ?_
  refine px_ok_cons (ps_bipush dX5_drift_103 (by decide)) ?_
  refine px_ok_cons (ps_idiv dX5_drift_105) ?_
  refine px_ok_cons (ps_bipush dX5_drift_106 (by decide)) ?_
  refine px_ok_cons (ps_irem dX5_drift_108) ?_
  refine px_ok_cons (ps_callV mX0_learn (fun _ _ => rfl) (C := RX0) rfl (fun _ _ ht => px_cwV wgC (wdC_7_in _ (List.mem_of_getElem? (i := 18) rfl)) (wdC_1_in _ (List.mem_of_getElem? (i := 22) rfl)) (wdC_1_in _ (List.mem_of_getElem? (i := 23) rfl)) (wdC_0_in _ (List.mem_of_getElem? (i := 22) rfl)) (wdC_1_in _ (List.mem_of_getElem? (i := 2) rfl)) (by decide +kernel) rfl rfl (by decide) ht) dX5_drift_109) ?_
  refine px_ok_cons (ps_aload_n dX5_drift_112 rfl) ?_
  refine px_ok_cons (fgX5_26 dX5_drift_113) ?_
  refine px_ok_cons (ps_callV mX0_passDay (fun _ _ => rfl) (C := RX0) rfl (fun _ _ ht => px_cwV wgC (wdC_7_in _ (List.mem_of_getElem? (i := 30) rfl)) (wdC_7_in _ (List.mem_of_getElem? (i := 31) rfl)) (wdC_7_in _ (List.mem_of_getElem? (i := 32) rfl)) (wdC_0_in _ (List.mem_of_getElem? (i := 22) rfl)) (wdC_1_in _ (List.mem_of_getElem? (i := 24) rfl)) (by decide +kernel) rfl rfl (by decide) ht) dX5_drift_116) ?_
  refine px_ok_cons (ps_istore dX5_drift_119 (by decide)) ?_
  refine px_ok_cons (ps_iload dX5_drift_121) ?_
  refine px_ok_cons (ps_iload dX5_drift_123) ?_
  refine px_ok_cons (ps_callS mX5_soundBit (fun _ _ => rfl) (fun _ _ ht => px_cwS wgC (wdC_7_in _ (List.mem_of_getElem? (i := 33) rfl)) (wdC_7_in _ (List.mem_of_getElem? (i := 34) rfl)) (wdC_4_in _ (List.mem_of_getElem? (i := 23) rfl)) (wdC_7_in _ (List.mem_of_getElem? (i := 25) rfl)) (by decide +kernel) rfl rfl (by decide) ht) dX5_drift_125) ?_
  refine px_ok_cons (ps_ior dX5_drift_128) ?_
  refine px_ok_cons (ps_istore dX5_drift_129 (by decide)) ?_
  refine px_ok_cons (ps_iinc dX5_drift_131 (by decide) (by decide)) ?_
  refine px_ok_cons (ps_goto dX5_drift_134 (by decide)) ?_
  refine px_ok_cons (ps_iload_n dX5_drift_137 rfl) ?_
  refine px_ok_cons (ps_if_ne dX5_drift_138 (by decide)) ?_
  refine px_ok_cons (ps_iload dX5_drift_141) ?_
  refine px_ok_cons (ps_goto dX5_drift_143 (by decide)) ?_
  refine px_ok_cons (ps_iload dX5_drift_146) ?_
  refine px_ok_cons (ps_callS mJ6_bitCount_0f7a4 (fun _ _ => rfl) (fun _ _ ht => px_cwS wgC (wdC_7_in _ (List.mem_of_getElem? (i := 35) rfl)) (wdC_7_in _ (List.mem_of_getElem? (i := 36) rfl)) (wdC_7_in _ (List.mem_of_getElem? (i := 37) rfl)) (wdC_7_in _ (List.mem_of_getElem? (i := 26) rfl)) (by decide +kernel) rfl rfl (by decide) ht) dX5_drift_148) ?_
  refine px_ok_cons (ps_ireturn rfl dX5_drift_151) ?_
  exact px_ok_nil
set_option maxRecDepth 100000 in
set_option maxHeartbeats 4000000 in
theorem sgX5_drift_0 {po : Int32 → px_St → Prop} {G : px_K} (hG : px_cl (opX5_drift po) G) (v1 : Int32) (v2 : Int32) (v3 : Int32) (σ : px_St)
    (H : ∃ g3 : gtX5_isWithin, qrX5_isWithin g3 v2 (1 : Int32) (60 : Int32) σ ∧ ∀ (r1 : Int32) (σ2 : px_St), qoX5_isWithin g3 v2 (1 : Int32) (60 : Int32) σ r1 σ2 → ((r1 = 0) → po (-1 : Int32) σ2) ∧ (¬ (r1 = 0) → ∃ g7 : gtX5_isWithin, qrX5_isWithin g7 v3 (0 : Int32) (1 : Int32) σ2 ∧ ∀ (r5 : Int32) (σ6 : px_St), qoX5_isWithin g7 v3 (0 : Int32) (1 : Int32) σ2 r5 σ6 → ((¬ r5 = 0) → (((1 : Int32) ≤ (σ6.1 8 0)) → ∃ g11 : gtX0_becomes, qrX0_becomes g11 18 8 σ6 ∧ ∀ (r9 : Unit) (σ10 : px_St), qoX0_becomes g11 18 8 σ6 r9 σ10 → G 59 [some (.ref 0), some (.int v1), some (.int v2), some (.int v3), some (.int (0 : Int32)), some (.int (-4 : Int32)), some (.int v1), some (.int (0 : Int32)), none] [] σ10) ∧ (¬ ((1 : Int32) ≤ (σ6.1 8 0)) → po (-2 : Int32) σ6)) ∧ (¬ (¬ r5 = 0) → po (-1 : Int32) σ6))) :
    G 0 (px_ent 9 [.ref 0, .int v1, .int v2, .int v3]) [] σ := by
  refine hG.1 0 _ _ rfl _ _ _ ?_
  refine hG.1 1 _ _ rfl _ _ _ ?_
  refine hG.1 2 _ _ rfl _ _ _ ?_
  refine hG.1 3 _ _ rfl _ _ _ ?_
  obtain ⟨g3, H⟩ := H
  refine ⟨Nat.le_of_ble_eq_true rfl, Nat.le_of_ble_eq_true rfl, g3, ⟨_, _, _, rfl, H.1⟩, fun r1 σ2 hp4 => ?_⟩
  replace H := H.2 r1 σ2 hp4
  refine hG.1 4 _ _ rfl _ _ _ ?_
  refine ⟨fun h15 => ?_, fun h15 => ?_⟩
  · replace H := H.1 h15
    refine hG.1 10 _ _ rfl _ _ _ ?_
    refine hG.1 11 _ _ rfl _ _ _ ?_
    exact ⟨rfl, H⟩
  · replace H := H.2 h15
    refine hG.1 5 _ _ rfl _ _ _ ?_
    refine hG.1 6 _ _ rfl _ _ _ ?_
    refine hG.1 7 _ _ rfl _ _ _ ?_
    refine hG.1 8 _ _ rfl _ _ _ ?_
    obtain ⟨g7, H⟩ := H
    refine ⟨Nat.le_of_ble_eq_true rfl, Nat.le_of_ble_eq_true rfl, g7, ⟨_, _, _, rfl, H.1⟩, fun r5 σ6 hp8 => ?_⟩
    replace H := H.2 r5 σ6 hp8
    refine hG.1 9 _ _ rfl _ _ _ ?_
    refine ⟨fun h14 => ?_, fun h14 => ?_⟩
    · replace H := H.1 h14
      refine hG.1 12 _ _ rfl _ _ _ ?_
      refine hG.1 13 _ _ rfl _ _ _ ?_
      refine ⟨⟨rfl, by decide⟩, ?_⟩
      refine hG.1 14 _ _ rfl _ _ _ ?_
      refine ⟨⟨rfl, by decide⟩, ?_⟩
      refine hG.1 15 _ _ rfl _ _ _ ?_
      refine hG.1 16 _ _ rfl _ _ _ ?_
      refine ⟨fun h13 => ?_, fun h13 => ?_⟩
      · replace H := H.1 h13
        refine hG.1 19 _ _ rfl _ _ _ ?_
        refine hG.1 20 _ _ rfl _ _ _ ?_
        show G 38 [some (.ref 0), some (.int v1), some (.int v2), some (.int v3), some (.int (0 : Int32)), none, none, none, none] [] σ6
        refine hG.1 21 _ _ rfl _ _ _ ?_
        refine hG.1 22 _ _ rfl _ _ _ ?_
        show G 42 [some (.ref 0), some (.int v1), some (.int v2), some (.int v3), some (.int (0 : Int32)), some (.int (-4 : Int32)), none, none, none] [] σ6
        refine hG.1 23 _ _ rfl _ _ _ ?_
        refine hG.1 24 _ _ rfl _ _ _ ?_
        show G 45 [some (.ref 0), some (.int v1), some (.int v2), some (.int v3), some (.int (0 : Int32)), some (.int (-4 : Int32)), some (.int v1), none, none] [] σ6
        refine hG.1 25 _ _ rfl _ _ _ ?_
        refine hG.1 26 _ _ rfl _ _ _ ?_
        refine ⟨⟨rfl, by decide⟩, ?_⟩
        refine hG.1 27 _ _ rfl _ _ _ ?_
        refine hG.1 28 _ _ rfl _ _ _ ?_
        refine ⟨⟨rfl, by decide⟩, ?_⟩
        refine hG.1 29 _ _ rfl _ _ _ ?_
        obtain ⟨g11, H⟩ := H
        refine ⟨⟨rfl, by decide⟩, Nat.le_of_ble_eq_true rfl, g11, ⟨_, _, rfl, (Or.inr (Or.inr (Or.inl rfl))), (Or.inl rfl), H.1⟩, fun r9 σ10 hp12 => ?_⟩
        replace H := H.2 r9 σ10 hp12
        refine hG.1 30 _ _ rfl _ _ _ ?_
        refine hG.1 31 _ _ rfl _ _ _ ?_
        show G 59 [some (.ref 0), some (.int v1), some (.int v2), some (.int v3), some (.int (0 : Int32)), some (.int (-4 : Int32)), some (.int v1), some (.int (0 : Int32)), none] [] σ10
        exact H
      · replace H := H.2 h13
        refine hG.1 17 _ _ rfl _ _ _ ?_
        refine hG.1 18 _ _ rfl _ _ _ ?_
        exact ⟨rfl, H⟩
    · replace H := H.2 h14
      refine hG.1 10 _ _ rfl _ _ _ ?_
      refine hG.1 11 _ _ rfl _ _ _ ?_
      exact ⟨rfl, H⟩
set_option maxRecDepth 100000 in
set_option maxHeartbeats 4000000 in
theorem sgX5_drift_59 {po : Int32 → px_St → Prop} {G : px_K} (hG : px_cl (opX5_drift po) G) (v1 : Int32) (v2 : Int32) (v3 : Int32) (v4 : Int32) (v5 : Int32) (v6 : Int32) (v7 : Int32) (σ : px_St)
    (H : ((v2 ≤ v7) → ((¬ v3 = 0) → ∃ g3 : gtJ6_bitCount_0f7a4, qrJ6_bitCount_0f7a4 g3 v4 σ ∧ ∀ (r1 : Int32) (σ2 : px_St), qoJ6_bitCount_0f7a4 g3 v4 σ r1 σ2 → po r1 σ2) ∧ (¬ (¬ v3 = 0) → po v5 σ)) ∧ (¬ (v2 ≤ v7) → ¬ (σ.1 8 0) = 0 ∧ ∃ g8 : gtX0_learn, qrX0_learn g8 18 ((((((v6 * (1103515245 : Int32)) + (12345 : Int32)).toUInt32 >>> ((16 : Int32).toUInt32 &&& Int32.toUInt32 31)).toInt32) &&& (32767 : Int32)) - (((((v6 * (1103515245 : Int32)) + (12345 : Int32)).toUInt32 >>> ((16 : Int32).toUInt32 &&& Int32.toUInt32 31)).toInt32) &&& (32767 : Int32)) / (σ.1 8 0) * (σ.1 8 0)) (((((((v6 * (1103515245 : Int32)) + (12345 : Int32)).toUInt32 >>> ((16 : Int32).toUInt32 &&& Int32.toUInt32 31)).toInt32) &&& (32767 : Int32)) / (8 : Int32)) - ((((((v6 * (1103515245 : Int32)) + (12345 : Int32)).toUInt32 >>> ((16 : Int32).toUInt32 &&& Int32.toUInt32 31)).toInt32) &&& (32767 : Int32)) / (8 : Int32)) / (10 : Int32) * (10 : Int32)) σ ∧ ∀ (r6 : Unit) (σ7 : px_St), qoX0_learn g8 18 ((((((v6 * (1103515245 : Int32)) + (12345 : Int32)).toUInt32 >>> ((16 : Int32).toUInt32 &&& Int32.toUInt32 31)).toInt32) &&& (32767 : Int32)) - (((((v6 * (1103515245 : Int32)) + (12345 : Int32)).toUInt32 >>> ((16 : Int32).toUInt32 &&& Int32.toUInt32 31)).toInt32) &&& (32767 : Int32)) / (σ.1 8 0) * (σ.1 8 0)) (((((((v6 * (1103515245 : Int32)) + (12345 : Int32)).toUInt32 >>> ((16 : Int32).toUInt32 &&& Int32.toUInt32 31)).toInt32) &&& (32767 : Int32)) / (8 : Int32)) - ((((((v6 * (1103515245 : Int32)) + (12345 : Int32)).toUInt32 >>> ((16 : Int32).toUInt32 &&& Int32.toUInt32 31)).toInt32) &&& (32767 : Int32)) / (8 : Int32)) / (10 : Int32) * (10 : Int32)) σ r6 σ7 → ∃ g12 : gtX0_passDay, qrX0_passDay g12 18 σ7 ∧ ∀ (r10 : Int32) (σ11 : px_St), qoX0_passDay g12 18 σ7 r10 σ11 → ∃ g16 : gtX5_soundBit, qrX5_soundBit g16 r10 σ11 ∧ ∀ (r14 : Int32) (σ15 : px_St), qoX5_soundBit g16 r10 σ11 r14 σ15 → G 59 [some (.ref 0), some (.int v1), some (.int v2), some (.int v3), some (.int (v4 ||| r14)), some (.int r10), some (.int ((v6 * (1103515245 : Int32)) + (12345 : Int32))), some (.int (v7 + 1)), none] [] σ15)) :
    G 59 [some (.ref 0), some (.int v1), some (.int v2), some (.int v3), some (.int v4), some (.int v5), some (.int v6), some (.int v7), none] [] σ := by
  refine hG.1 32 _ _ rfl _ _ _ ?_
  refine hG.1 33 _ _ rfl _ _ _ ?_
  refine hG.1 34 _ _ rfl _ _ _ ?_
  refine ⟨fun h18 => ?_, fun h18 => ?_⟩
  · replace H := H.1 h18
    refine hG.1 71 _ _ rfl _ _ _ ?_
    refine hG.1 72 _ _ rfl _ _ _ ?_
    refine ⟨fun h5 => ?_, fun h5 => ?_⟩
    · replace H := H.1 h5
      refine hG.1 75 _ _ rfl _ _ _ ?_
      refine hG.1 76 _ _ rfl _ _ _ ?_
      obtain ⟨g3, H⟩ := H
      refine ⟨Nat.le_of_ble_eq_true rfl, Nat.le_of_ble_eq_true rfl, g3, ⟨_, rfl, H.1⟩, fun r1 σ2 hp4 => ?_⟩
      replace H := H.2 r1 σ2 hp4
      refine hG.1 77 _ _ rfl _ _ _ ?_
      exact ⟨rfl, H⟩
    · replace H := H.2 h5
      refine hG.1 73 _ _ rfl _ _ _ ?_
      refine hG.1 74 _ _ rfl _ _ _ ?_
      refine hG.1 77 _ _ rfl _ _ _ ?_
      exact ⟨rfl, H⟩
  · replace H := H.2 h18
    refine hG.1 35 _ _ rfl _ _ _ ?_
    refine hG.1 36 _ _ rfl _ _ _ ?_
    refine hG.1 37 _ _ rfl _ _ _ ?_
    refine hG.1 38 _ _ rfl _ _ _ ?_
    refine hG.1 39 _ _ rfl _ _ _ ?_
    refine hG.1 40 _ _ rfl _ _ _ ?_
    show G 76 [some (.ref 0), some (.int v1), some (.int v2), some (.int v3), some (.int v4), some (.int v5), some (.int ((v6 * (1103515245 : Int32)) + (12345 : Int32))), some (.int v7), none] [] σ
    refine hG.1 41 _ _ rfl _ _ _ ?_
    refine hG.1 42 _ _ rfl _ _ _ ?_
    refine hG.1 43 _ _ rfl _ _ _ ?_
    refine hG.1 44 _ _ rfl _ _ _ ?_
    refine hG.1 45 _ _ rfl _ _ _ ?_
    refine hG.1 46 _ _ rfl _ _ _ ?_
    show G 87 [some (.ref 0), some (.int v1), some (.int v2), some (.int v3), some (.int v4), some (.int v5), some (.int ((v6 * (1103515245 : Int32)) + (12345 : Int32))), some (.int v7), some (.int (((((v6 * (1103515245 : Int32)) + (12345 : Int32)).toUInt32 >>> ((16 : Int32).toUInt32 &&& Int32.toUInt32 31)).toInt32) &&& (32767 : Int32)))] [] σ
    refine hG.1 47 _ _ rfl _ _ _ ?_
    refine hG.1 48 _ _ rfl _ _ _ ?_
    refine ⟨⟨rfl, by decide⟩, ?_⟩
    refine hG.1 49 _ _ rfl _ _ _ ?_
    refine hG.1 50 _ _ rfl _ _ _ ?_
    refine hG.1 51 _ _ rfl _ _ _ ?_
    refine ⟨⟨rfl, by decide⟩, ?_⟩
    refine hG.1 52 _ _ rfl _ _ _ ?_
    refine ⟨⟨rfl, by decide⟩, ?_⟩
    refine hG.1 53 _ _ rfl _ _ _ ?_
    refine ⟨H.1, ?_⟩
    replace H := H.2
    refine hG.1 54 _ _ rfl _ _ _ ?_
    refine hG.1 55 _ _ rfl _ _ _ ?_
    refine hG.1 56 _ _ rfl _ _ _ ?_
    refine ⟨by decide, ?_⟩
    refine hG.1 57 _ _ rfl _ _ _ ?_
    refine hG.1 58 _ _ rfl _ _ _ ?_
    refine ⟨by decide, ?_⟩
    refine hG.1 59 _ _ rfl _ _ _ ?_
    obtain ⟨g8, H⟩ := H
    refine ⟨⟨rfl, by decide⟩, Nat.le_of_ble_eq_true rfl, g8, ⟨_, _, _, rfl, (Or.inr (Or.inr (Or.inl rfl))), H.1⟩, fun r6 σ7 hp9 => ?_⟩
    replace H := H.2 r6 σ7 hp9
    refine hG.1 60 _ _ rfl _ _ _ ?_
    refine hG.1 61 _ _ rfl _ _ _ ?_
    refine ⟨⟨rfl, by decide⟩, ?_⟩
    refine hG.1 62 _ _ rfl _ _ _ ?_
    obtain ⟨g12, H⟩ := H
    refine ⟨⟨rfl, by decide⟩, Nat.le_of_ble_eq_true rfl, g12, ⟨_, rfl, (Or.inr (Or.inr (Or.inl rfl))), H.1⟩, fun r10 σ11 hp13 => ?_⟩
    replace H := H.2 r10 σ11 hp13
    refine hG.1 63 _ _ rfl _ _ _ ?_
    show G 121 [some (.ref 0), some (.int v1), some (.int v2), some (.int v3), some (.int v4), some (.int r10), some (.int ((v6 * (1103515245 : Int32)) + (12345 : Int32))), some (.int v7), some (.int (((((v6 * (1103515245 : Int32)) + (12345 : Int32)).toUInt32 >>> ((16 : Int32).toUInt32 &&& Int32.toUInt32 31)).toInt32) &&& (32767 : Int32)))] [] σ11
    refine hG.1 64 _ _ rfl _ _ _ ?_
    refine hG.1 65 _ _ rfl _ _ _ ?_
    refine hG.1 66 _ _ rfl _ _ _ ?_
    obtain ⟨g16, H⟩ := H
    refine ⟨Nat.le_of_ble_eq_true rfl, Nat.le_of_ble_eq_true rfl, g16, ⟨_, rfl, H.1⟩, fun r14 σ15 hp17 => ?_⟩
    replace H := H.2 r14 σ15 hp17
    refine hG.1 67 _ _ rfl _ _ _ ?_
    refine hG.1 68 _ _ rfl _ _ _ ?_
    show G 131 [some (.ref 0), some (.int v1), some (.int v2), some (.int v3), some (.int (v4 ||| r14)), some (.int r10), some (.int ((v6 * (1103515245 : Int32)) + (12345 : Int32))), some (.int v7), some (.int (((((v6 * (1103515245 : Int32)) + (12345 : Int32)).toUInt32 >>> ((16 : Int32).toUInt32 &&& Int32.toUInt32 31)).toInt32) &&& (32767 : Int32)))] [] σ15
    refine hG.1 69 _ _ rfl _ _ _ ?_
    show G 134 [some (.ref 0), some (.int v1), some (.int v2), some (.int v3), some (.int (v4 ||| r14)), some (.int r10), some (.int ((v6 * (1103515245 : Int32)) + (12345 : Int32))), some (.int (v7 + 1)), some (.int (((((v6 * (1103515245 : Int32)) + (12345 : Int32)).toUInt32 >>> ((16 : Int32).toUInt32 &&& Int32.toUInt32 31)).toInt32) &&& (32767 : Int32)))] [] σ15
    refine hG.1 70 _ _ rfl _ _ _ ?_
    refine hG.2 59 [some (.ref 0), some (.int v1), some (.int v2), some (.int v3), some (.int (v4 ||| r14)), some (.int r10), some (.int ((v6 * (1103515245 : Int32)) + (12345 : Int32))), some (.int (v7 + 1)), none] _ _ _ ⟨rfl, rfl, rfl, rfl, rfl, rfl, rfl, rfl, trivial⟩ ?_
    exact H
set_option maxRecDepth 100000 in
set_option maxHeartbeats 4000000 in
theorem hhX5_drift (g : gtX5_drift) (v1 : Int32) (v2 : Int32) (v3 : Int32) (σ : px_St) (h : qrX5_drift g v1 v2 v3 σ) (G : px_K) (hG : px_cl (opX5_drift (qoX5_drift g v1 v2 v3 σ)) G) : G 0 (px_ent 9 [.ref 0, .int v1, .int v2, .int v3]) [] σ := by
  obtain ⟨hX, hok⟩ := h
  have hd := hok.1.2
  have hvk := hok.1.1
  have h5 := hvk.1.1
  refine sgX5_drift_0 hG _ _ _ σ ⟨(), trivial, fun r0 σ0 h0 => ?_⟩
  obtain ⟨rfl, b0⟩ := h0
  refine bz2 b0 (fun z => ⟨(), trivial, fun r1 σ1 h1 => ?_⟩) (fun z => ?_)
  · obtain ⟨rfl, b1⟩ := h1
    refine bz1 b1 (fun y => ?_) (fun y => ?_)
    · obtain ⟨n, hn, rfl⟩ := (rngc 60 60 rfl (by omega)).mp ⟨Int32.le_trans (by decide) z.1, z.2⟩
      rw [hX.1.1.1]
      refine ⟨fun h1 => ?_, fun h1 => ?_⟩
      · have hg0 : 0 < g.1.1 := by
          rcases Nat.eq_zero_or_pos g.1.1 with e | e
          · rw [e] at h1; exact absurd h1 (by decide)
          · exact e
        have ex : (x_drift g v1 (nI n) v3) = (if v3 = 0 then (pv_dr g.1 v1 n).2.2.2 else nI (pv_pc (pv_dr g.1 v1 n).2.2.1 10), g) := by
          unfold x_drift
          rw [xif_t ⟨z, y⟩, xif_f (by omega), nI_clamp (by omega)]
        refine ⟨g.1, ⟨by omega, hX.1, hvk.1⟩, fun _ σ4 hq => ?_⟩
        obtain ⟨q1, q2⟩ := hq
        have loop : ∀ m k, k + m = n → (pv_dr g.1 v1 k).2.2.1 < 1024 → ∀ σ', av_is σ' 18 (pv_dr g.1 v1 k).2.1 → px_only 18 σ1 σ' → G 59 [some (.ref 0), some (.int v1), some (.int (nI n)), some (.int v3), some (.int (nI (pv_dr g.1 v1 k).2.2.1)), some (.int (pv_dr g.1 v1 k).2.2.2), some (.int (pv_dr g.1 v1 k).1), some (.int (nI k)), none] [] σ' := by
          intro m
          induction m with
          | zero =>
            intro k hk hb σ' hW ho
            have e : k = n := by omega
            subst e
            refine sgX5_drift_59 hG _ _ _ _ _ _ _ σ' ⟨fun _ => ⟨fun w0 => ⟨_, ⟨hb, rfl⟩, fun r σ5 hq => ?_⟩, fun w0 => ?_⟩, fun q => absurd (Int32.le_refl _) q⟩
            · obtain ⟨rfl, rfl⟩ := hq
              unfold qoX5_drift
              rw [ex]
              refine ⟨?_, px_only18.cl ho hX⟩
              show _ = if _ then _ else _
              rw [if_neg w0]
            · unfold qoX5_drift
              rw [ex]
              refine ⟨?_, px_only18.cl ho hX⟩
              show _ = if _ then _ else _
              rw [if_pos (Classical.byContradiction w0)]
          | succ m ih =>
            intro k hk hb σ' hW ho
            obtain ⟨d1, d2, d3⟩ := pv_dr_ok hvk hg0 v1 k (by omega)
            have hX' := px_only18.cl ho hX
            have hgl : pv_got (pv_lot (pv_dr g.1 v1 k).1) < 32768 := Nat.mod_lt _ (by omega)
            refine sgX5_drift_59 hG _ _ _ _ _ _ _ σ' ⟨fun q => absurd q (nI_ge (by omega) (by omega)), fun _ => ?_⟩
            rw [show (pv_dr g.1 v1 k).1 * 1103515245 + 12345 = pv_lot (pv_dr g.1 v1 k).1 from rfl, got_u, hX'.1.1.1, pk_rem (by omega) hg0 (by omega), show nI (pv_got (pv_lot (pv_dr g.1 v1 k).1)) / 8 = nI (pv_got (pv_lot (pv_dr g.1 v1 k).1) / 8) from pk_div (d := 8) (by omega) (by omega) (by omega), show nI (pv_got (pv_lot (pv_dr g.1 v1 k).1) / 8) - nI (pv_got (pv_lot (pv_dr g.1 v1 k).1) / 8) / 10 * 10 = nI (pv_got (pv_lot (pv_dr g.1 v1 k).1) / 8 % 10) from pk_rem (d := 10) (by omega) (by omega) (by omega)]
            have hpl : pv_got (pv_lot (pv_dr g.1 v1 k).1) % g.1.1 < (pv_dr g.1 v1 k).2.1.1 := by rw [d2]; exact Nat.mod_lt _ hg0
            have hsl : pv_got (pv_lot (pv_dr g.1 v1 k).1) / 8 % 10 ≤ 9 := by have := Nat.mod_lt (pv_got (pv_lot (pv_dr g.1 v1 k).1) / 8) (show 0 < 10 by omega); omega
            refine ⟨nI_ne0 hg0 (by omega), ((pv_dr g.1 v1 k).2.1, pv_got (pv_lot (pv_dr g.1 v1 k).1) % g.1.1, pv_got (pv_lot (pv_dr g.1 v1 k).1) / 8 % 10), ⟨hW, d1.1, hpl, hsl, rfl, rfl⟩, fun _ σ5 hq5 => ?_⟩
            obtain ⟨p1, p2⟩ := hq5
            have hlk := pv_lrn_ok d1 hpl hsl
            refine ⟨_, ⟨p1, hlk, by show (pv_dr g.1 v1 k).2.1.2.2.1 < 1999; omega⟩, fun r6 σ6 hq6 => ?_⟩
            obtain ⟨rfl, p3, p4⟩ := hq6
            refine ⟨(), trivial, fun r7 σ7 hq7 => ?_⟩
            obtain ⟨rfl, rfl⟩ := hq7
            obtain ⟨e1, e2⟩ := or_said hlk hb
            have hne : ¬ (pv_at (pv_dr g.1 v1 k).2.1 (pv_got (pv_lot (pv_dr g.1 v1 k).1) % g.1.1) (pv_learn ((pv_dr g.1 v1 k).2.1.2.2.2 (pv_got (pv_lot (pv_dr g.1 v1 k).1) % g.1.1)) (pv_got (pv_lot (pv_dr g.1 v1 k).1) / 8 % 10))).1 = 0 := by
              show ¬ (pv_dr g.1 v1 k).2.1.1 = 0
              rw [d2]; omega
            rw [if_neg hne] at e1 e2
            rw [e1, nI_1]
            exact ih (k + 1) (by omega) e2 σ7 p3 ((ho.tr p2).tr p4)
        exact loop n 0 (by omega) (by show 0 < 1024; omega) σ4 q1 q2
      · have hg0 : g.1.1 = 0 := by
          rcases Nat.eq_zero_or_pos g.1.1 with e | e
          · exact e
          · exact absurd (nI_le (a := 1) (by omega) (by omega)) h1
        unfold qoX5_drift x_drift
        rw [xif_t ⟨z, y⟩, xif_t hg0]
        exact ⟨rfl, hX⟩
    · unfold qoX5_drift x_drift
      rw [xif_f (fun q => y q.2)]
      exact ⟨rfl, hX⟩
  · unfold qoX5_drift x_drift
    rw [xif_f (fun q => z q.1)]
    exact ⟨rfl, hX⟩
theorem mX5_drift (g : gtX5_drift) : px_Met dC yX5_drift (Cond.code yX5_drift cX5_drift 9 (some .int) :: wdC) rmX5_drift px_vI (prX5_drift g) (poX5_drift g) :=
  px_met (Z := (cX5_drift, 9, RX5, Cond.code yX5_drift cX5_drift 9 (some .int) :: wdC, (some .int), rmX5_drift, dC)) opX5_drift (by decide) rfl rfl okX5_drift (fun As σ h => by obtain ⟨v1, v2, v3, rfl, h⟩ := h; exact Nat.le_of_ble_eq_true rfl) (fun As σ h G hG => by obtain ⟨v1, v2, v3, rfl, h⟩ := h; exact hhX5_drift g v1 v2 v3 σ h G hG)
