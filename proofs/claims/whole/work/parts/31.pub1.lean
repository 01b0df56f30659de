abbrev gtX5_feed : Type := pv_X
def qrX5_feed (X : pv_X) (_ : Int32) (σ : px_St) : Prop := cl_is σ X ∧ xo X
def qoX5_feed (X : pv_X) (c : Int32) (_ : px_St) (r : Int32) (σ' : px_St) : Prop := r = (x_feed X c).1 ∧ cl_is σ' (x_feed X c).2
def prX5_feed (g : gtX5_feed) : List Value → px_St → Prop := fun As σ => ∃ v1 : Int32, As = [.ref 0, .int v1] ∧ qrX5_feed g v1 σ
def poX5_feed (g : gtX5_feed) : List Value → px_St → Int32 → px_St → Prop
  | [.ref _, .int v1], σ, r, σ' => qoX5_feed g v1 σ r σ'
  | _, _, _, _ => False
theorem dX5_feed_0 : decode cX5_feed 0 = .ok (.iload_n 1, 1) := by decide +kernel
theorem dX5_feed_1 : decode cX5_feed 1 = .ok (.iconst 0, 1) := by decide +kernel
theorem dX5_feed_2 : decode cX5_feed 2 = .ok (.bipush 127, 2) := by decide +kernel
theorem dX5_feed_4 : decode cX5_feed 4 = .ok (.invokestatic 61, 3) := by decide +kernel
theorem dX5_feed_7 : decode cX5_feed 7 = .ok (.ifCond .ne 5, 3) := by decide +kernel
theorem dX5_feed_10 : decode cX5_feed 10 = .ok (.iconst (-1), 1) := by decide +kernel
theorem dX5_feed_11 : decode cX5_feed 11 = .ok (.ireturn, 1) := by decide +kernel
theorem dX5_feed_12 : decode cX5_feed 12 = .ok (.aload_n 0, 1) := by decide +kernel
theorem dX5_feed_13 : decode cX5_feed 13 = .ok (.getfield 65, 3) := by decide +kernel
theorem dX5_feed_16 : decode cX5_feed 16 = .ok (.sipush 160, 3) := by decide +kernel
theorem dX5_feed_19 : decode cX5_feed 19 = .ok (.if_icmp .lt 6, 3) := by decide +kernel
theorem dX5_feed_22 : decode cX5_feed 22 = .ok (.bipush (-3), 2) := by decide +kernel
theorem dX5_feed_24 : decode cX5_feed 24 = .ok (.ireturn, 1) := by decide +kernel
theorem dX5_feed_25 : decode cX5_feed 25 = .ok (.aload_n 0, 1) := by decide +kernel
theorem dX5_feed_26 : decode cX5_feed 26 = .ok (.getfield 36, 3) := by decide +kernel
theorem dX5_feed_29 : decode cX5_feed 29 = .ok (.aload_n 0, 1) := by decide +kernel
theorem dX5_feed_30 : decode cX5_feed 30 = .ok (.getfield 65, 3) := by decide +kernel
theorem dX5_feed_33 : decode cX5_feed 33 = .ok (.iload_n 1, 1) := by decide +kernel
theorem dX5_feed_34 : decode cX5_feed 34 = .ok (.i2b, 1) := by decide +kernel
theorem dX5_feed_35 : decode cX5_feed 35 = .ok (.bastore, 1) := by decide +kernel
theorem dX5_feed_36 : decode cX5_feed 36 = .ok (.aload_n 0, 1) := by decide +kernel
theorem dX5_feed_37 : decode cX5_feed 37 = .ok (.dup, 1) := by decide +kernel
theorem dX5_feed_38 : decode cX5_feed 38 = .ok (.getfield 65, 3) := by decide +kernel
theorem dX5_feed_41 : decode cX5_feed 41 = .ok (.iconst 1, 1) := by decide +kernel
theorem dX5_feed_42 : decode cX5_feed 42 = .ok (.iadd, 1) := by decide +kernel
theorem dX5_feed_43 : decode cX5_feed 43 = .ok (.putfield 65, 3) := by decide +kernel
theorem dX5_feed_46 : decode cX5_feed 46 = .ok (.aload_n 0, 1) := by decide +kernel
theorem dX5_feed_47 : decode cX5_feed 47 = .ok (.getfield 65, 3) := by decide +kernel
theorem dX5_feed_50 : decode cX5_feed 50 = .ok (.ireturn, 1) := by decide +kernel
abbrev rmX5_feed : Room := { frames := 1, cells := 0, slots := 0, locals := 22 }
def opX5_feed (po : Int32 → px_St → Prop) : List (Nat × px_Op) := [
  (0, px_il 1 1),
  (1, px_push 2 (.int 0)),
  (2, px_push 4 (.int 127)),
  (4, px_callS 7 3 px_vI prX5_isWithin poX5_isWithin),
  (7, px_if 10 12 (fun x => ¬ x = 0)),
  (10, px_push 11 (.int (-1))),
  (11, px_iret (.int) po),
  (12, px_al 13 0),
  (13, px_get dC 16 5 10),
  (16, px_push 19 (.int 160)),
  (19, px_ic 22 25 (fun x y => x < y)),
  (22, px_push 24 (.int (-3))),
  (24, px_iret (.int) po),
  (25, px_al 26 0),
  (26, px_get dC 29 5 6),
  (29, px_al 30 0),
  (30, px_get dC 33 5 10),
  (33, px_il 34 1),
  (34, px_un 35 (fun x => x.toInt8.toInt32)),
  (35, px_ast dC 36 1 (fun x => vp_nar .byte x)),
  (36, px_al 37 0),
  (37, px_dup 38),
  (38, px_get dC 41 5 10),
  (41, px_push 42 (.int 1)),
  (42, px_bin 43 (fun x y => x + y)),
  (43, px_put dC 46 5 10 .int),
  (46, px_al 47 0),
  (47, px_get dC 50 5 10),
  (50, px_iret (.int) po)]
set_option maxRecDepth 100000 in
set_option maxHeartbeats 4000000 in
theorem okX5_feed : ∀ (po : Int32 → px_St → Prop) (i pc : Nat) (op : px_Op), (opX5_feed po)[i]? = some (pc, op) → px_Snd (cX5_feed, 2, RX5, Cond.code yX5_feed cX5_feed 2 (some .int) :: wdC, (some .int), rmX5_feed, dC) px_vI po pc op := by
  intro po
  unfold opX5_feed
  refine px_ok_cons (ps_iload_n dX5_feed_0 rfl) ?_
  refine px_ok_cons (ps_iconst dX5_feed_1 (by decide)) ?_
  refine px_ok_cons (ps_bipush dX5_feed_2 (by decide)) ?_
  refine px_ok_cons (ps_callS mX5_isWithin (fun _ _ => rfl) (fun _ _ ht => px_cwS wgC (wdC_4_in _ (List.mem_of_getElem? (i := 29) rfl)) (wdC_4_in _ (List.mem_of_getElem? (i := 22) rfl)) (wdC_4_in _ (List.mem_of_getElem? (i := 23) rfl)) (wdC_4_in _ (List.mem_of_getElem? (i := 20) rfl)) (by decide +kernel) rfl rfl (by decide) ht) dX5_feed_4) ?_
  refine px_ok_cons (ps_if_ne dX5_feed_7 (by decide)) ?_
  refine px_ok_cons (ps_iconst dX5_feed_10 (by decide)) ?_
  refine px_ok_cons (ps_ireturn rfl dX5_feed_11) ?_
  refine px_ok_cons (ps_aload_n dX5_feed_12 rfl) ?_
  refine px_ok_cons (fgX5_65 dX5_feed_13) ?_
  refine px_ok_cons (ps_sipush dX5_feed_16 (by decide)) ?_
  refine px_ok_cons (ps_icmp_lt dX5_feed_19 (by decide)) ?_
  refine px_ok_cons (ps_bipush dX5_feed_22 (by decide)) ?_
  refine px_ok_cons (ps_ireturn rfl dX5_feed_24) ?_
  refine px_ok_cons (ps_aload_n dX5_feed_25 rfl) ?_
  refine px_ok_cons (fgX5_36 dX5_feed_26) ?_
  refine px_ok_cons (ps_aload_n dX5_feed_29 rfl) ?_
  refine px_ok_cons (fgX5_65 dX5_feed_30) ?_
  refine px_ok_cons (ps_iload_n dX5_feed_33 rfl) ?_
  refine px_ok_cons (ps_i2b dX5_feed_34) ?_
  refine px_ok_cons (ps_bastore dX5_feed_35) ?_
  refine px_ok_cons (ps_aload_n dX5_feed_36 rfl) ?_
  refine px_ok_cons (ps_dup dX5_feed_37) ?_
  refine px_ok_cons (fgX5_65 dX5_feed_38) ?_
  refine px_ok_cons (ps_iconst dX5_feed_41 (by decide)) ?_
  refine px_ok_cons (ps_iadd dX5_feed_42) ?_
  refine px_ok_cons (fpX5_65 dX5_feed_43) ?_
  refine px_ok_cons (ps_aload_n dX5_feed_46 rfl) ?_
  refine px_ok_cons (fgX5_65 dX5_feed_47) ?_
  refine px_ok_cons (ps_ireturn rfl dX5_feed_50) ?_
  exact px_ok_nil
set_option maxRecDepth 100000 in
set_option maxHeartbeats 4000000 in
theorem sgX5_feed_0 {po : Int32 → px_St → Prop} {G : px_K} (hG : px_cl (opX5_feed po) G) (v1 : Int32) (σ : px_St)
    (H : ∃ g3 : gtX5_isWithin, qrX5_isWithin g3 v1 (0 : Int32) (127 : Int32) σ ∧ ∀ (r1 : Int32) (σ2 : px_St), qoX5_isWithin g3 v1 (0 : Int32) (127 : Int32) σ r1 σ2 → ((¬ r1 = 0) → (((σ2.1 0 10) < (160 : Int32)) → vp_in (σ2.1 0 10) 160 ∧ po ((px_up (px_up σ2 3 (σ2.1 0 10).toNatClampNeg (vp_nar .byte v1.toInt8.toInt32)) 0 10 (((px_up σ2 3 (σ2.1 0 10).toNatClampNeg (vp_nar .byte v1.toInt8.toInt32)).1 0 10) + (1 : Int32))).1 0 10) (px_up (px_up σ2 3 (σ2.1 0 10).toNatClampNeg (vp_nar .byte v1.toInt8.toInt32)) 0 10 (((px_up σ2 3 (σ2.1 0 10).toNatClampNeg (vp_nar .byte v1.toInt8.toInt32)).1 0 10) + (1 : Int32)))) ∧ (¬ ((σ2.1 0 10) < (160 : Int32)) → po (-3 : Int32) σ2)) ∧ (¬ (¬ r1 = 0) → po (-1 : Int32) σ2)) :
    G 0 (px_ent 2 [.ref 0, .int v1]) [] σ := by
  refine hG.1 0 _ _ rfl _ _ _ ?_
  refine hG.1 1 _ _ rfl _ _ _ ?_
  refine hG.1 2 _ _ rfl _ _ _ ?_
  refine hG.1 3 _ _ rfl _ _ _ ?_
  obtain ⟨g3, H⟩ := H
  refine ⟨Nat.le_of_ble_eq_true rfl, Nat.le_of_ble_eq_true rfl, g3, ⟨_, _, _, rfl, H.1⟩, fun r1 σ2 hp4 => ?_⟩
  replace H := H.2 r1 σ2 hp4
  refine hG.1 4 _ _ rfl _ _ _ ?_
  refine ⟨fun h6 => ?_, fun h6 => ?_⟩
  · replace H := H.1 h6
    refine hG.1 7 _ _ rfl _ _ _ ?_
    refine hG.1 8 _ _ rfl _ _ _ ?_
    refine ⟨⟨rfl, by decide⟩, ?_⟩
    refine hG.1 9 _ _ rfl _ _ _ ?_
    refine hG.1 10 _ _ rfl _ _ _ ?_
    refine ⟨fun h5 => ?_, fun h5 => ?_⟩
    · replace H := H.1 h5
      refine hG.1 13 _ _ rfl _ _ _ ?_
      refine hG.1 14 _ _ rfl _ _ _ ?_
      refine ⟨⟨rfl, by decide⟩, ?_⟩
      refine hG.1 15 _ _ rfl _ _ _ ?_
      refine hG.1 16 _ _ rfl _ _ _ ?_
      refine ⟨⟨rfl, by decide⟩, ?_⟩
      refine hG.1 17 _ _ rfl _ _ _ ?_
      refine hG.1 18 _ _ rfl _ _ _ ?_
      refine hG.1 19 _ _ rfl _ _ _ ?_
      refine ⟨⟨rfl, by decide⟩, H.1, ?_⟩
      replace H := H.2
      refine hG.1 20 _ _ rfl _ _ _ ?_
      refine hG.1 21 _ _ rfl _ _ _ ?_
      refine hG.1 22 _ _ rfl _ _ _ ?_
      refine ⟨⟨rfl, by decide⟩, ?_⟩
      refine hG.1 23 _ _ rfl _ _ _ ?_
      refine hG.1 24 _ _ rfl _ _ _ ?_
      refine hG.1 25 _ _ rfl _ _ _ ?_
      refine ⟨⟨rfl, by decide⟩, ⟨rfl, rfl⟩, ?_⟩
      refine hG.1 26 _ _ rfl _ _ _ ?_
      refine hG.1 27 _ _ rfl _ _ _ ?_
      refine ⟨⟨rfl, by decide⟩, ?_⟩
      refine hG.1 28 _ _ rfl _ _ _ ?_
      exact ⟨rfl, H⟩
    · replace H := H.2 h5
      refine hG.1 11 _ _ rfl _ _ _ ?_
      refine hG.1 12 _ _ rfl _ _ _ ?_
      exact ⟨rfl, H⟩
  · replace H := H.2 h6
    refine hG.1 5 _ _ rfl _ _ _ ?_
    refine hG.1 6 _ _ rfl _ _ _ ?_
    exact ⟨rfl, H⟩
set_option maxRecDepth 100000 in
set_option maxHeartbeats 4000000 in
theorem hhX5_feed (g : gtX5_feed) (v1 : Int32) (σ : px_St) (h : qrX5_feed g v1 σ) (G : px_K) (hG : px_cl (opX5_feed (qoX5_feed g v1 σ)) G) : G 0 (px_ent 2 [.ref 0, .int v1]) [] σ := by
  obtain ⟨hX, hok⟩ := h
  have hl := hok.2.2.1.1
  refine sgX5_feed_0 hG _ σ ⟨(), trivial, fun r1 σ1 h1 => ?_⟩
  obtain ⟨rfl, b1⟩ := h1
  have e0 := hX.2.2.1.1
  unfold qoX5_feed x_feed
  refine bz1 b1 (fun z => ?_) (fun z => ?_)
  · rw [xif_t z]
    obtain ⟨c, hc, rfl⟩ := (rngc 127 127 rfl (by omega)).mp z
    rw [e0, px_up_at, if_pos ⟨rfl, rfl⟩, px_up_n (show (0 : Nat) ≠ 3 by omega), e0, nI_clamp (by omega), nI_clamp (by omega), byte_nar c (by omega), nI_1]
    have c1 : nI g.2.2.1.length < 160 ↔ g.2.2.1.length < 160 := nIlt _ 160 rfl rfl (by omega) (by omega)
    rw [c1]
    refine ⟨fun h2 => ⟨vp_in_nI h2 (by decide), ?_⟩, fun h2 => ?_⟩
    · rw [xif_t h2]
      refine ⟨rfl, cl_T hX ⟨?_, fun i x hx => ?_⟩ ?_ ?_ (fun k hk => ?_)⟩
      · rw [px_up_at, if_pos ⟨rfl, rfl⟩, List.length_append]; rfl
      · rw [px_up_n (by omega), px_up_at]
        by_cases hi : i < g.2.2.1.length
        · rw [List.getElem?_append_left hi] at hx
          rw [if_neg (by omega)]
          exact hX.2.2.1.2 i x hx
        · rw [List.getElem?_append_right (by omega)] at hx
          have h0 : i - g.2.2.1.length < 1 := (List.getElem?_eq_some_iff.mp hx).1
          have hi2 : i = g.2.2.1.length := by omega
          subst hi2
          rw [Nat.sub_self] at hx
          rw [if_pos ⟨rfl, rfl⟩, ← Option.some.inj hx]
      · rw [px_up_at, if_neg (by omega), px_up_n (by omega)]
      · rw [px_up_at, if_neg (by omega), px_up_n (by omega)]
      · rw [px_up_n (by omega), px_up_n (by omega)]
    · rw [xif_f h2]
      exact ⟨rfl, hX⟩
  · rw [xif_f z]
    exact ⟨rfl, hX⟩
theorem mX5_feed (g : gtX5_feed) : px_Met dC yX5_feed (Cond.code yX5_feed cX5_feed 2 (some .int) :: wdC) rmX5_feed px_vI (prX5_feed g) (poX5_feed g) :=
  px_met (Z := (cX5_feed, 2, RX5, Cond.code yX5_feed cX5_feed 2 (some .int) :: wdC, (some .int), rmX5_feed, dC)) opX5_feed (by decide) rfl rfl okX5_feed (fun As σ h => by obtain ⟨v1, rfl, h⟩ := h; exact Nat.le_of_ble_eq_true rfl) (fun As σ h G hG => by obtain ⟨v1, rfl, h⟩ := h; exact hhX5_feed g v1 σ h G hG)
abbrev gtX5_end : Type := pv_X
def qrX5_end (X : pv_X) (_ : Int32) (σ : px_St) : Prop := cl_is σ X ∧ xo X
def qoX5_end (X : pv_X) (c : Int32) (_ : px_St) (r : Int32) (σ' : px_St) : Prop := r = (x_end X c).1 ∧ cl_is σ' (x_end X c).2
def prX5_end (g : gtX5_end) : List Value → px_St → Prop := fun As σ => ∃ v1 : Int32, As = [.ref 0, .int v1] ∧ qrX5_end g v1 σ
def poX5_end (g : gtX5_end) : List Value → px_St → Int32 → px_St → Prop
  | [.ref _, .int v1], σ, r, σ' => qoX5_end g v1 σ r σ'
  | _, _, _, _ => False
theorem dX5_end_0 : decode cX5_end 0 = .ok (.iload_n 1, 1) := by decide +kernel
theorem dX5_end_1 : decode cX5_end 1 = .ok (.iconst 0, 1) := by decide +kernel
theorem dX5_end_2 : decode cX5_end 2 = .ok (.aload_n 0, 1) := by decide +kernel
theorem dX5_end_3 : decode cX5_end 3 = .ok (.getfield 65, 3) := by decide +kernel
theorem dX5_end_6 : decode cX5_end 6 = .ok (.invokestatic 61, 3) := by decide +kernel
theorem dX5_end_9 : decode cX5_end 9 = .ok (.ifCond .ne 5, 3) := by decide +kernel
theorem dX5_end_12 : decode cX5_end 12 = .ok (.iconst (-1), 1) := by decide +kernel
theorem dX5_end_13 : decode cX5_end 13 = .ok (.ireturn, 1) := by decide +kernel
theorem dX5_end_14 : decode cX5_end 14 = .ok (.aload_n 0, 1) := by decide +kernel
theorem dX5_end_15 : decode cX5_end 15 = .ok (.getfield 65, 3) := by decide +kernel
theorem dX5_end_18 : decode cX5_end 18 = .ok (.istore_n 2, 1) := by decide +kernel
theorem dX5_end_19 : decode cX5_end 19 = .ok (.aload_n 0, 1) := by decide +kernel
theorem dX5_end_20 : decode cX5_end 20 = .ok (.iload_n 1, 1) := by decide +kernel
theorem dX5_end_21 : decode cX5_end 21 = .ok (.putfield 65, 3) := by decide +kernel
theorem dX5_end_24 : decode cX5_end 24 = .ok (.iload_n 2, 1) := by decide +kernel
theorem dX5_end_25 : decode cX5_end 25 = .ok (.ireturn, 1) := by decide +kernel
abbrev rmX5_end : Room := { frames := 1, cells := 0, slots := 0, locals := 22 }
def opX5_end (po : Int32 → px_St → Prop) : List (Nat × px_Op) := [
  (0, px_il 1 1),
  (1, px_push 2 (.int 0)),
  (2, px_al 3 0),
  (3, px_get dC 6 5 10),
  (6, px_callS 9 3 px_vI prX5_isWithin poX5_isWithin),
  (9, px_if 12 14 (fun x => ¬ x = 0)),
  (12, px_push 13 (.int (-1))),
  (13, px_iret (.int) po),
  (14, px_al 15 0),
  (15, px_get dC 18 5 10),
  (18, px_is 19 2),
  (19, px_al 20 0),
  (20, px_il 21 1),
  (21, px_put dC 24 5 10 .int),
  (24, px_il 25 2),
  (25, px_iret (.int) po)]
set_option maxRecDepth 100000 in
set_option maxHeartbeats 4000000 in
theorem okX5_end : ∀ (po : Int32 → px_St → Prop) (i pc : Nat) (op : px_Op), (opX5_end po)[i]? = some (pc, op) → px_Snd (cX5_end, 3, RX5, Cond.code yX5_end cX5_end 3 (some .int) :: wdC, (some .int), rmX5_end, dC) px_vI po pc op := by
  intro po
  unfold opX5_end
  refine px_ok_cons (ps_iload_n dX5_end_0 rfl) ?_
  refine px_ok_cons (ps_iconst dX5_end_1 (by decide)) ?_
  refine px_ok_cons (ps_aload_n dX5_end_2 rfl) ?_
  refine px_ok_cons (fgX5_65 dX5_end_3) ?_
  refine px_ok_cons (ps_callS mX5_isWithin (fun _ _ => rfl) (fun _ _ ht => px_cwS wgC (wdC_4_in _ (List.mem_of_getElem? (i := 29) rfl)) (wdC_4_in _ (List.mem_of_getElem? (i := 22) rfl)) (wdC_4_in _ (List.mem_of_getElem? (i := 23) rfl)) (wdC_4_in _ (List.mem_of_getElem? (i := 20) rfl)) (by decide +kernel) rfl rfl (by decide) ht) dX5_end_6) ?_
  refine px_ok_cons (ps_if_ne dX5_end_9 (by decide)) ?_
  refine px_ok_cons (ps_iconst dX5_end_12 (by decide)) ?_
  refine px_ok_cons (ps_ireturn rfl dX5_end_13) ?_
  refine px_ok_cons (ps_aload_n dX5_end_14 rfl) ?_
  refine px_ok_cons (fgX5_65 dX5_end_15) ?_
  refine px_ok_cons (ps_istore_n dX5_end_18 rfl (by decide)) ?_
  refine px_ok_cons (ps_aload_n dX5_end_19 rfl) ?_
  refine px_ok_cons (ps_iload_n dX5_end_20 rfl) ?_
  refine px_ok_cons (fpX5_65 dX5_end_21) ?_
  refine px_ok_cons (ps_iload_n dX5_end_24 rfl) ?_
  refine px_ok_cons (ps_ireturn rfl dX5_end_25) ?_
  exact px_ok_nil
set_option maxRecDepth 100000 in
set_option maxHeartbeats 4000000 in
theorem sgX5_end_0 {po : Int32 → px_St → Prop} {G : px_K} (hG : px_cl (opX5_end po) G) (v1 : Int32) (σ : px_St)
    (H : ∃ g3 : gtX5_isWithin, qrX5_isWithin g3 v1 (0 : Int32) (σ.1 0 10) σ ∧ ∀ (r1 : Int32) (σ2 : px_St), qoX5_isWithin g3 v1 (0 : Int32) (σ.1 0 10) σ r1 σ2 → ((¬ r1 = 0) → po (σ2.1 0 10) (px_up σ2 0 10 v1)) ∧ (¬ (¬ r1 = 0) → po (-1 : Int32) σ2)) :
    G 0 (px_ent 3 [.ref 0, .int v1]) [] σ := by
  refine hG.1 0 _ _ rfl _ _ _ ?_
  refine hG.1 1 _ _ rfl _ _ _ ?_
  refine hG.1 2 _ _ rfl _ _ _ ?_
  refine hG.1 3 _ _ rfl _ _ _ ?_
  refine ⟨⟨rfl, by decide⟩, ?_⟩
  refine hG.1 4 _ _ rfl _ _ _ ?_
  obtain ⟨g3, H⟩ := H
  refine ⟨Nat.le_of_ble_eq_true rfl, Nat.le_of_ble_eq_true rfl, g3, ⟨_, _, _, rfl, H.1⟩, fun r1 σ2 hp4 => ?_⟩
  replace H := H.2 r1 σ2 hp4
  refine hG.1 5 _ _ rfl _ _ _ ?_
  refine ⟨fun h5 => ?_, fun h5 => ?_⟩
  · replace H := H.1 h5
    refine hG.1 8 _ _ rfl _ _ _ ?_
    refine hG.1 9 _ _ rfl _ _ _ ?_
    refine ⟨⟨rfl, by decide⟩, ?_⟩
    refine hG.1 10 _ _ rfl _ _ _ ?_
    show G 19 [some (.ref 0), some (.int v1), some (.int (σ2.1 0 10))] [] σ2
    refine hG.1 11 _ _ rfl _ _ _ ?_
    refine hG.1 12 _ _ rfl _ _ _ ?_
    refine hG.1 13 _ _ rfl _ _ _ ?_
    refine ⟨⟨rfl, by decide⟩, ⟨rfl, rfl⟩, ?_⟩
    refine hG.1 14 _ _ rfl _ _ _ ?_
    refine hG.1 15 _ _ rfl _ _ _ ?_
    exact ⟨rfl, H⟩
  · replace H := H.2 h5
    refine hG.1 6 _ _ rfl _ _ _ ?_
    refine hG.1 7 _ _ rfl _ _ _ ?_
    exact ⟨rfl, H⟩
set_option maxRecDepth 100000 in
set_option maxHeartbeats 4000000 in
theorem hhX5_end (g : gtX5_end) (v1 : Int32) (σ : px_St) (h : qrX5_end g v1 σ) (G : px_K) (hG : px_cl (opX5_end (qoX5_end g v1 σ)) G) : G 0 (px_ent 3 [.ref 0, .int v1]) [] σ := by
  obtain ⟨hX, hok⟩ := h
  have hl := hok.2.2.1.1
  have e0 := hX.2.2.1.1
  refine sgX5_end_0 hG _ σ ⟨(), trivial, fun r1 σ1 h1 => ?_⟩
  obtain ⟨rfl, b1⟩ := h1
  rw [e0] at b1 ⊢
  unfold qoX5_end x_end
  refine bz1 b1 (fun z => ?_) (fun z => ?_)
  · rw [xif_t z]
    obtain ⟨c, hc, rfl⟩ := (rng (by omega)).mp z
    rw [nI_clamp (by omega)]
    refine ⟨rfl, cl_T hX ⟨?_, fun i x hx => ?_⟩ ?_ ?_ (fun k hk => ?_)⟩
    · rw [px_up_at, if_pos ⟨rfl, rfl⟩, List.length_take, Nat.min_eq_left hc]
    · rw [px_up_n (by omega)]
      rw [List.getElem?_take] at hx
      by_cases hi : i < c
      · rw [if_pos hi] at hx; exact hX.2.2.1.2 i x hx
      · rw [if_neg hi] at hx; cases hx
    · rw [px_up_at, if_neg (by omega)]
    · rw [px_up_at, if_neg (by omega)]
    · rw [px_up_n (by omega)]
  · rw [xif_f z]
    exact ⟨rfl, hX⟩
theorem mX5_end (g : gtX5_end) : px_Met dC yX5_end (Cond.code yX5_end cX5_end 3 (some .int) :: wdC) rmX5_end px_vI (prX5_end g) (poX5_end g) :=
  px_met (Z := (cX5_end, 3, RX5, Cond.code yX5_end cX5_end 3 (some .int) :: wdC, (some .int), rmX5_end, dC)) opX5_end (by decide) rfl rfl okX5_end (fun As σ h => by obtain ⟨v1, rfl, h⟩ := h; exact Nat.le_of_ble_eq_true rfl) (fun As σ h G hG => by obtain ⟨v1, rfl, h⟩ := h; exact hhX5_end g v1 σ h G hG)
abbrev gtX5_fault : Type := pv_X
def qrX5_fault (X : pv_X) (σ : px_St) : Prop := cl_is σ X ∧ xo X
def qoX5_fault (X : pv_X) (_ : px_St) (r : Int32) (σ' : px_St) : Prop := r = (x_fault X).1 ∧ cl_is σ' (x_fault X).2
def prX5_fault (g : gtX5_fault) : List Value → px_St → Prop := fun As σ => As = [.ref 0] ∧ qrX5_fault g σ
def poX5_fault (g : gtX5_fault) : List Value → px_St → Int32 → px_St → Prop
  | [.ref _], σ, r, σ' => qoX5_fault g σ r σ'
  | _, _, _, _ => False
theorem dX5_fault_0 : decode cX5_fault 0 = .ok (.aload_n 0, 1) := by decide +kernel
theorem dX5_fault_1 : decode cX5_fault 1 = .ok (.getfield 76, 3) := by decide +kernel
theorem dX5_fault_4 : decode cX5_fault 4 = .ok (.ireturn, 1) := by decide +kernel
abbrev rmX5_fault : Room := { frames := 0, cells := 0, slots := 0, locals := 0 }
def opX5_fault (po : Int32 → px_St → Prop) : List (Nat × px_Op) := [
  (0, px_al 1 0),
  (1, px_get dC 4 5 11),
  (4, px_iret (.int) po)]
set_option maxRecDepth 100000 in
set_option maxHeartbeats 4000000 in
theorem okX5_fault : ∀ (po : Int32 → px_St → Prop) (i pc : Nat) (op : px_Op), (opX5_fault po)[i]? = some (pc, op) → px_Snd (cX5_fault, 1, RX5, Cond.code yX5_fault cX5_fault 1 (some .int) :: wdC, (some .int), rmX5_fault, dC) px_vI po pc op := by
  intro po
  unfold opX5_fault
  refine px_ok_cons (ps_aload_n dX5_fault_0 rfl) ?_
  refine px_ok_cons (fgX5_76 dX5_fault_1) ?_
  refine px_ok_cons (ps_ireturn rfl dX5_fault_4) ?_
  exact px_ok_nil
set_option maxRecDepth 100000 in
set_option maxHeartbeats 4000000 in
theorem sgX5_fault_0 {po : Int32 → px_St → Prop} {G : px_K} (hG : px_cl (opX5_fault po) G) (σ : px_St)
    (H : po (σ.1 0 11) σ) :
    G 0 (px_ent 1 [.ref 0]) [] σ := by
  refine hG.1 0 _ _ rfl _ _ _ ?_
  refine hG.1 1 _ _ rfl _ _ _ ?_
  refine ⟨⟨rfl, by decide⟩, ?_⟩
  refine hG.1 2 _ _ rfl _ _ _ ?_
  exact ⟨rfl, H⟩
set_option maxRecDepth 100000 in
set_option maxHeartbeats 4000000 in
theorem hhX5_fault (g : gtX5_fault) (σ : px_St) (h : qrX5_fault g σ) (G : px_K) (hG : px_cl (opX5_fault (qoX5_fault g σ)) G) : G 0 (px_ent 1 [.ref 0]) [] σ := by
  exact sgX5_fault_0 hG σ ⟨h.1.2.2.2.2.1, h.1⟩
theorem mX5_fault (g : gtX5_fault) : px_Met dC yX5_fault (Cond.code yX5_fault cX5_fault 1 (some .int) :: wdC) rmX5_fault px_vI (prX5_fault g) (poX5_fault g) :=
  px_met (Z := (cX5_fault, 1, RX5, Cond.code yX5_fault cX5_fault 1 (some .int) :: wdC, (some .int), rmX5_fault, dC)) opX5_fault (by decide) rfl rfl okX5_fault (fun As σ h => by obtain ⟨rfl, h⟩ := h; exact Nat.le_of_ble_eq_true rfl) (fun As σ h G hG => by obtain ⟨rfl, h⟩ := h; exact hhX5_fault g σ h G hG)
abbrev gtX5_rule : Type := pv_X
def qrX5_rule (X : pv_X) (_ : Int32) (σ : px_St) : Prop := cl_is σ X ∧ xo X
def qoX5_rule (X : pv_X) (w : Int32) (_ : px_St) (r : Int32) (σ' : px_St) : Prop := r = (x_rule X w).1 ∧ cl_is σ' (x_rule X w).2
def prX5_rule (g : gtX5_rule) : List Value → px_St → Prop := fun As σ => ∃ v1 : Int32, As = [.ref 0, .int v1] ∧ qrX5_rule g v1 σ
def poX5_rule (g : gtX5_rule) : List Value → px_St → Int32 → px_St → Prop
  | [.ref _, .int v1], σ, r, σ' => qoX5_rule g v1 σ r σ'
  | _, _, _, _ => False
theorem dX5_rule_0 : decode cX5_rule 0 = .ok (.iload_n 1, 1) := by decide +kernel
theorem dX5_rule_1 : decode cX5_rule 1 = .ok (.tableswitch 87 0 5 #[39, 47, 55, 63, 71, 79], 39) := by decide +kernel
theorem dX5_rule_40 : decode cX5_rule 40 = .ok (.aload_n 0, 1) := by decide +kernel
theorem dX5_rule_41 : decode cX5_rule 41 = .ok (.getfield 10, 3) := by decide +kernel
theorem dX5_rule_44 : decode cX5_rule 44 = .ok (.getfield 93, 3) := by decide +kernel
theorem dX5_rule_47 : decode cX5_rule 47 = .ok (.ireturn, 1) := by decide +kernel
theorem dX5_rule_48 : decode cX5_rule 48 = .ok (.aload_n 0, 1) := by decide +kernel
theorem dX5_rule_49 : decode cX5_rule 49 = .ok (.getfield 10, 3) := by decide +kernel
theorem dX5_rule_52 : decode cX5_rule 52 = .ok (.getfield 96, 3) := by decide +kernel
theorem dX5_rule_55 : decode cX5_rule 55 = .ok (.ireturn, 1) := by decide +kernel
theorem dX5_rule_56 : decode cX5_rule 56 = .ok (.aload_n 0, 1) := by decide +kernel
theorem dX5_rule_57 : decode cX5_rule 57 = .ok (.getfield 10, 3) := by decide +kernel
theorem dX5_rule_60 : decode cX5_rule 60 = .ok (.getfield 99, 3) := by decide +kernel
theorem dX5_rule_63 : decode cX5_rule 63 = .ok (.ireturn, 1) := by decide +kernel
theorem dX5_rule_64 : decode cX5_rule 64 = .ok (.aload_n 0, 1) := by decide +kernel
theorem dX5_rule_65 : decode cX5_rule 65 = .ok (.getfield 10, 3) := by decide +kernel
theorem dX5_rule_68 : decode cX5_rule 68 = .ok (.invokevirtual 102, 3) := by decide +kernel
theorem dX5_rule_71 : decode cX5_rule 71 = .ok (.ireturn, 1) := by decide +kernel
theorem dX5_rule_72 : decode cX5_rule 72 = .ok (.aload_n 0, 1) := by decide +kernel
theorem dX5_rule_73 : decode cX5_rule 73 = .ok (.getfield 10, 3) := by decide +kernel
theorem dX5_rule_76 : decode cX5_rule 76 = .ok (.invokevirtual 106, 3) := by decide +kernel
theorem dX5_rule_79 : decode cX5_rule 79 = .ok (.ireturn, 1) := by decide +kernel
theorem dX5_rule_80 : decode cX5_rule 80 = .ok (.aload_n 0, 1) := by decide +kernel
theorem dX5_rule_81 : decode cX5_rule 81 = .ok (.getfield 10, 3) := by decide +kernel
theorem dX5_rule_84 : decode cX5_rule 84 = .ok (.invokevirtual 109, 3) := by decide +kernel
theorem dX5_rule_87 : decode cX5_rule 87 = .ok (.ireturn, 1) := by decide +kernel
theorem dX5_rule_88 : decode cX5_rule 88 = .ok (.iconst (-1), 1) := by decide +kernel
theorem dX5_rule_89 : decode cX5_rule 89 = .ok (.ireturn, 1) := by decide +kernel
abbrev rmX5_rule : Room := { frames := 2, cells := 0, slots := 0, locals := 43 }
def opX5_rule (po : Int32 → px_St → Prop) : List (Nat × px_Op) := [
  (0, px_il 1 1),
  (1, px_sw [(0, 40), (1, 48), (2, 56), (3, 64), (4, 72), (5, 80)] 88),
  (40, px_al 41 0),
  (41, px_get dC 44 5 0),
  (44, px_get dC 47 0 0),
  (47, px_iret (.int) po),
  (48, px_al 49 0),
  (49, px_get dC 52 5 0),
  (52, px_get dC 55 0 2),
  (55, px_iret (.int) po),
  (56, px_al 57 0),
  (57, px_get dC 60 5 0),
  (60, px_get dC 63 0 1),
  (63, px_iret (.int) po),
  (64, px_al 65 0),
  (65, px_get dC 68 5 0),
  (68, px_callV dC 71 0 0 px_vI prX0_speaker poX0_speaker),
  (71, px_iret (.int) po),
  (72, px_al 73 0),
  (73, px_get dC 76 5 0),
  (76, px_callV dC 79 0 0 px_vI prX0_soundDue poX0_soundDue),
  (79, px_iret (.int) po),
  (80, px_al 81 0),
  (81, px_get dC 84 5 0),
  (84, px_callV dC 87 0 0 px_vI prX0_allSizes poX0_allSizes),
  (87, px_iret (.int) po),
  (88, px_push 89 (.int (-1))),
  (89, px_iret (.int) po)]
theorem px_tsw_X5_rule_1 : px_tswOk 1 87 0 5 #[39, 47, 55, 63, 71, 79] [(0, 40), (1, 48), (2, 56), (3, 64), (4, 72), (5, 80)] 88 := by
  intro x
  refine ⟨fun h1 h2 => ?_, fun h => ?_⟩
  · have hx : x = 0 ∨ x = 1 ∨ x = 2 ∨ x = 3 ∨ x = 4 ∨ x = 5 := by
      simp only [fa_eqI, show ((0 : Int32)).toInt = 0 by decide, show ((1 : Int32)).toInt = 1 by decide, show ((2 : Int32)).toInt = 2 by decide, show ((3 : Int32)).toInt = 3 by decide, show ((4 : Int32)).toInt = 4 by decide, show ((5 : Int32)).toInt = 5 by decide]
      omega
    rcases hx with rfl | rfl | rfl | rfl | rfl | rfl <;> exact ⟨_, rfl, rfl⟩
  · have hn : ¬ x = 0 ∧ ¬ x = 1 ∧ ¬ x = 2 ∧ ¬ x = 3 ∧ ¬ x = 4 ∧ ¬ x = 5 := by
      simp only [fa_eqI, show ((0 : Int32)).toInt = 0 by decide, show ((1 : Int32)).toInt = 1 by decide, show ((2 : Int32)).toInt = 2 by decide, show ((3 : Int32)).toInt = 3 by decide, show ((4 : Int32)).toInt = 4 by decide, show ((5 : Int32)).toInt = 5 by decide]
      omega
    simp [px_swt, hn]
set_option maxRecDepth 100000 in
set_option maxHeartbeats 4000000 in
theorem okX5_rule : ∀ (po : Int32 → px_St → Prop) (i pc : Nat) (op : px_Op), (opX5_rule po)[i]? = some (pc, op) → px_Snd (cX5_rule, 2, RX5, Cond.code yX5_rule cX5_rule 2 (some .int) :: wdC, (some .int), rmX5_rule, dC) px_vI po pc op := by
  intro po
  unfold opX5_rule
  refine px_ok_cons (ps_iload_n dX5_rule_0 rfl) ?_
  refine px_ok_cons (ps_tsw dX5_rule_1 px_tsw_X5_rule_1) ?_
  refine px_ok_cons (ps_aload_n dX5_rule_40 rfl) ?_
  refine px_ok_cons (fgX5_10 dX5_rule_41) ?_
  refine px_ok_cons (fgX5_93 dX5_rule_44) ?_
  refine px_ok_cons (ps_ireturn rfl dX5_rule_47) ?_
  refine px_ok_cons (ps_aload_n dX5_rule_48 rfl) ?_
  refine px_ok_cons (fgX5_10 dX5_rule_49) ?_
  refine px_ok_cons (fgX5_96 dX5_rule_52) ?_
  refine px_ok_cons (ps_ireturn rfl dX5_rule_55) ?_
  refine px_ok_cons (ps_aload_n dX5_rule_56 rfl) ?_
  refine px_ok_cons (fgX5_10 dX5_rule_57) ?_
  refine px_ok_cons (fgX5_99 dX5_rule_60) ?_
  refine px_ok_cons (ps_ireturn rfl dX5_rule_63) ?_
  refine px_ok_cons (ps_aload_n dX5_rule_64 rfl) ?_
  refine px_ok_cons (fgX5_10 dX5_rule_65) ?_
  refine px_ok_cons (ps_callV mX0_speaker (fun _ _ => rfl) (C := RX0) rfl (fun _ _ ht => px_cwV wgC (wdC_6_in _ (List.mem_of_getElem? (i := 26) rfl)) (wdC_0_in _ (List.mem_of_getElem? (i := 29) rfl)) (wdC_0_in _ (List.mem_of_getElem? (i := 30) rfl)) (wdC_0_in _ (List.mem_of_getElem? (i := 22) rfl)) (wdC_0_in _ (List.mem_of_getElem? (i := 25) rfl)) (by decide +kernel) rfl rfl (by decide) ht) dX5_rule_68) ?_
  refine px_ok_cons (ps_ireturn rfl dX5_rule_71) ?_
  refine px_ok_cons (ps_aload_n dX5_rule_72 rfl) ?_
  refine px_ok_cons (fgX5_10 dX5_rule_73) ?_
  refine px_ok_cons (ps_callV mX0_soundDue (fun _ _ => rfl) (C := RX0) rfl (fun _ _ ht => px_cwV wgC (wdC_6_in _ (List.mem_of_getElem? (i := 27) rfl)) (wdC_1_in _ (List.mem_of_getElem? (i := 16) rfl)) (wdC_1_in _ (List.mem_of_getElem? (i := 17) rfl)) (wdC_0_in _ (List.mem_of_getElem? (i := 22) rfl)) (wdC_0_in _ (List.mem_of_getElem? (i := 27) rfl)) (by decide +kernel) rfl rfl (by decide) ht) dX5_rule_76) ?_
  refine px_ok_cons (ps_ireturn rfl dX5_rule_79) ?_
  refine px_ok_cons (ps_aload_n dX5_rule_80 rfl) ?_
  refine px_ok_cons (fgX5_10 dX5_rule_81) ?_
  refine px_ok_cons (ps_callV mX0_allSizes (fun _ _ => rfl) (C := RX0) rfl (fun _ _ ht => px_cwV wgC (wdC_6_in _ (List.mem_of_getElem? (i := 28) rfl)) (wdC_6_in _ (List.mem_of_getElem? (i := 29) rfl)) (wdC_6_in _ (List.mem_of_getElem? (i := 30) rfl)) (wdC_0_in _ (List.mem_of_getElem? (i := 22) rfl)) (wdC_1_in _ (List.mem_of_getElem? (i := 28) rfl)) (by decide +kernel) rfl rfl (by decide) ht) dX5_rule_84) ?_
  refine px_ok_cons (ps_ireturn rfl dX5_rule_87) ?_
  refine px_ok_cons (ps_iconst dX5_rule_88 (by decide)) ?_
  refine px_ok_cons (ps_ireturn rfl dX5_rule_89) ?_
  exact px_ok_nil
set_option maxRecDepth 100000 in
set_option maxHeartbeats 4000000 in
theorem sgX5_rule_0 {po : Int32 → px_St → Prop} {G : px_K} (hG : px_cl (opX5_rule po) G) (v1 : Int32) (σ : px_St)
    (H : ((v1 = 0) → po (σ.1 8 0) σ) ∧ (¬ (v1 = 0) → ((v1 = 1) → po (σ.1 8 2) σ) ∧ (¬ (v1 = 1) → ((v1 = 2) → po (σ.1 8 1) σ) ∧ (¬ (v1 = 2) → ((v1 = 3) → ∃ g7 : gtX0_speaker, qrX0_speaker g7 8 σ ∧ ∀ (r5 : Int32) (σ6 : px_St), qoX0_speaker g7 8 σ r5 σ6 → po r5 σ6) ∧ (¬ (v1 = 3) → ((v1 = 4) → ∃ g12 : gtX0_soundDue, qrX0_soundDue g12 8 σ ∧ ∀ (r10 : Int32) (σ11 : px_St), qoX0_soundDue g12 8 σ r10 σ11 → po r10 σ11) ∧ (¬ (v1 = 4) → ((v1 = 5) → ∃ g17 : gtX0_allSizes, qrX0_allSizes g17 8 σ ∧ ∀ (r15 : Int32) (σ16 : px_St), qoX0_allSizes g17 8 σ r15 σ16 → po r15 σ16) ∧ (¬ (v1 = 5) → po (-1 : Int32) σ))))))) :
    G 0 (px_ent 2 [.ref 0, .int v1]) [] σ := by
  refine hG.1 0 _ _ rfl _ _ _ ?_
  refine hG.1 1 _ _ rfl _ _ _ ?_
  refine ⟨fun h1 => ?_, fun h1 => ?_⟩
  · replace H := H.1 h1
    refine hG.1 2 _ _ rfl _ _ _ ?_
    refine hG.1 3 _ _ rfl _ _ _ ?_
    refine ⟨⟨rfl, by decide⟩, ?_⟩
    refine hG.1 4 _ _ rfl _ _ _ ?_
    refine ⟨⟨rfl, by decide⟩, ?_⟩
    refine hG.1 5 _ _ rfl _ _ _ ?_
    exact ⟨rfl, H⟩
  · replace H := H.2 h1
    refine ⟨fun h2 => ?_, fun h2 => ?_⟩
    · replace H := H.1 h2
      refine hG.1 6 _ _ rfl _ _ _ ?_
      refine hG.1 7 _ _ rfl _ _ _ ?_
      refine ⟨⟨rfl, by decide⟩, ?_⟩
      refine hG.1 8 _ _ rfl _ _ _ ?_
      refine ⟨⟨rfl, by decide⟩, ?_⟩
      refine hG.1 9 _ _ rfl _ _ _ ?_
      exact ⟨rfl, H⟩
    · replace H := H.2 h2
      refine ⟨fun h3 => ?_, fun h3 => ?_⟩
      · replace H := H.1 h3
        refine hG.1 10 _ _ rfl _ _ _ ?_
        refine hG.1 11 _ _ rfl _ _ _ ?_
        refine ⟨⟨rfl, by decide⟩, ?_⟩
        refine hG.1 12 _ _ rfl _ _ _ ?_
        refine ⟨⟨rfl, by decide⟩, ?_⟩
        refine hG.1 13 _ _ rfl _ _ _ ?_
        exact ⟨rfl, H⟩
      · replace H := H.2 h3
        refine ⟨fun h4 => ?_, fun h4 => ?_⟩
        · replace H := H.1 h4
          refine hG.1 14 _ _ rfl _ _ _ ?_
          refine hG.1 15 _ _ rfl _ _ _ ?_
          refine ⟨⟨rfl, by decide⟩, ?_⟩
          refine hG.1 16 _ _ rfl _ _ _ ?_
          obtain ⟨g7, H⟩ := H
          refine ⟨⟨rfl, by decide⟩, Nat.le_of_ble_eq_true rfl, g7, ⟨_, rfl, (Or.inl rfl), H.1⟩, fun r5 σ6 hp8 => ?_⟩
          replace H := H.2 r5 σ6 hp8
          refine hG.1 17 _ _ rfl _ _ _ ?_
          exact ⟨rfl, H⟩
        · replace H := H.2 h4
          refine ⟨fun h9 => ?_, fun h9 => ?_⟩
          · replace H := H.1 h9
            refine hG.1 18 _ _ rfl _ _ _ ?_
            refine hG.1 19 _ _ rfl _ _ _ ?_
            refine ⟨⟨rfl, by decide⟩, ?_⟩
            refine hG.1 20 _ _ rfl _ _ _ ?_
            obtain ⟨g12, H⟩ := H
            refine ⟨⟨rfl, by decide⟩, Nat.le_of_ble_eq_true rfl, g12, ⟨_, rfl, (Or.inl rfl), H.1⟩, fun r10 σ11 hp13 => ?_⟩
            replace H := H.2 r10 σ11 hp13
            refine hG.1 21 _ _ rfl _ _ _ ?_
            exact ⟨rfl, H⟩
          · replace H := H.2 h9
            refine ⟨fun h14 => ?_, fun h14 => ?_⟩
            · replace H := H.1 h14
              refine hG.1 22 _ _ rfl _ _ _ ?_
              refine hG.1 23 _ _ rfl _ _ _ ?_
              refine ⟨⟨rfl, by decide⟩, ?_⟩
              refine hG.1 24 _ _ rfl _ _ _ ?_
              obtain ⟨g17, H⟩ := H
              refine ⟨⟨rfl, by decide⟩, Nat.le_of_ble_eq_true rfl, g17, ⟨_, rfl, (Or.inl rfl), H.1⟩, fun r15 σ16 hp18 => ?_⟩
              replace H := H.2 r15 σ16 hp18
              refine hG.1 25 _ _ rfl _ _ _ ?_
              exact ⟨rfl, H⟩
            · replace H := H.2 h14
              refine hG.1 26 _ _ rfl _ _ _ ?_
              refine hG.1 27 _ _ rfl _ _ _ ?_
              exact ⟨rfl, H⟩
set_option maxRecDepth 100000 in
set_option maxHeartbeats 4000000 in
theorem hhX5_rule (g : gtX5_rule) (v1 : Int32) (σ : px_St) (h : qrX5_rule g v1 σ) (G : px_K) (hG : px_cl (opX5_rule (qoX5_rule g v1 σ)) G) : G 0 (px_ent 2 [.ref 0, .int v1]) [] σ := by
  obtain ⟨hX, hok⟩ := h
  obtain ⟨⟨e0, e1, e2⟩, -⟩ := hX.1
  have hV := hX.1
  have hvk := hok.1.1
  refine sgX5_rule_0 hG _ σ ?_
  rw [e0, e1, e2]
  unfold qoX5_rule x_rule
  simp only
  refine ⟨fun h0 => ⟨?_, hX⟩, fun h0 => ⟨fun h1 => ⟨?_, hX⟩, fun h1 => ⟨fun h2 => ⟨?_, hX⟩, fun h2 => ⟨fun h3 => ⟨g.1, ⟨hV, hvk.1⟩, fun r σ2 hp => ?_⟩, fun h3 => ⟨fun h4 => ⟨g.1, ⟨hV, hvk⟩, fun r σ2 hp => ?_⟩, fun h4 => ⟨fun h5 => ⟨g.1, ⟨hV, hvk.1⟩, fun r σ2 hp => ?_⟩, fun h5 => ⟨?_, hX⟩⟩⟩⟩⟩⟩⟩
  · rw [if_pos h0]
  · rw [if_neg h0, if_pos h1]
  · rw [if_neg h0, if_neg h1, if_pos h2]
  · obtain ⟨rfl, rfl⟩ := hp
    exact ⟨by rw [if_neg h0, if_neg h1, if_neg h2, if_pos h3], hX⟩
  · obtain ⟨rfl, rfl⟩ := hp
    exact ⟨by rw [if_neg h0, if_neg h1, if_neg h2, if_neg h3, if_pos h4], hX⟩
  · obtain ⟨rfl, rfl⟩ := hp
    exact ⟨by rw [if_neg h0, if_neg h1, if_neg h2, if_neg h3, if_neg h4, if_pos h5], hX⟩
  · rw [if_neg h0, if_neg h1, if_neg h2, if_neg h3, if_neg h4, if_neg h5]
theorem mX5_rule (g : gtX5_rule) : px_Met dC yX5_rule (Cond.code yX5_rule cX5_rule 2 (some .int) :: wdC) rmX5_rule px_vI (prX5_rule g) (poX5_rule g) :=
  px_met (Z := (cX5_rule, 2, RX5, Cond.code yX5_rule cX5_rule 2 (some .int) :: wdC, (some .int), rmX5_rule, dC)) opX5_rule (by decide) rfl rfl okX5_rule (fun As σ h => by obtain ⟨v1, rfl, h⟩ := h; exact Nat.le_of_ble_eq_true rfl) (fun As σ h G hG => by obtain ⟨v1, rfl, h⟩ := h; exact hhX5_rule g v1 σ h G hG)
abbrev gtX5_parrot : Type := pv_X
def qrX5_parrot (X : pv_X) (_ _ : Int32) (σ : px_St) : Prop := cl_is σ X ∧ xo X
def qoX5_parrot (X : pv_X) (p w : Int32) (_ : px_St) (r : Int32) (σ' : px_St) : Prop := r = (x_parrot X p w).1 ∧ cl_is σ' (x_parrot X p w).2
def prX5_parrot (g : gtX5_parrot) : List Value → px_St → Prop := fun As σ => ∃ v1 : Int32, ∃ v2 : Int32, As = [.ref 0, .int v1, .int v2] ∧ qrX5_parrot g v1 v2 σ
def poX5_parrot (g : gtX5_parrot) : List Value → px_St → Int32 → px_St → Prop
  | [.ref _, .int v1, .int v2], σ, r, σ' => qoX5_parrot g v1 v2 σ r σ'
  | _, _, _, _ => False
theorem dX5_parrot_0 : decode cX5_parrot 0 = .ok (.aload_n 0, 1) := by decide +kernel
theorem dX5_parrot_1 : decode cX5_parrot 1 = .ok (.iload_n 1, 1) := by decide +kernel
theorem dX5_parrot_2 : decode cX5_parrot 2 = .ok (.invokevirtual 112, 3) := by decide +kernel
theorem dX5_parrot_5 : decode cX5_parrot 5 = .ok (.ifCond .ne 5, 3) := by decide +kernel
theorem dX5_parrot_8 : decode cX5_parrot 8 = .ok (.iconst (-1), 1) := by decide +kernel
theorem dX5_parrot_9 : decode cX5_parrot 9 = .ok (.ireturn, 1) := by decide +kernel
theorem dX5_parrot_10 : decode cX5_parrot 10 = .ok (.iload_n 2, 1) := by decide +kernel
theorem dX5_parrot_11 : decode cX5_parrot 11 = .ok (.tableswitch 68 0 3 #[29, 39, 49, 59], 29) := by decide +kernel
theorem dX5_parrot_40 : decode cX5_parrot 40 = .ok (.aload_n 0, 1) := by decide +kernel
theorem dX5_parrot_41 : decode cX5_parrot 41 = .ok (.getfield 10, 3) := by decide +kernel
theorem dX5_parrot_44 : decode cX5_parrot 44 = .ok (.getfield 116, 3) := by decide +kernel
theorem dX5_parrot_47 : decode cX5_parrot 47 = .ok (.iload_n 1, 1) := by decide +kernel
theorem dX5_parrot_48 : decode cX5_parrot 48 = .ok (.iaload, 1) := by decide +kernel
theorem dX5_parrot_49 : decode cX5_parrot 49 = .ok (.ireturn, 1) := by decide +kernel
theorem dX5_parrot_50 : decode cX5_parrot 50 = .ok (.aload_n 0, 1) := by decide +kernel
theorem dX5_parrot_51 : decode cX5_parrot 51 = .ok (.getfield 10, 3) := by decide +kernel
theorem dX5_parrot_54 : decode cX5_parrot 54 = .ok (.getfield 119, 3) := by decide +kernel
theorem dX5_parrot_57 : decode cX5_parrot 57 = .ok (.iload_n 1, 1) := by decide +kernel
theorem dX5_parrot_58 : decode cX5_parrot 58 = .ok (.iaload, 1) := by decide +kernel
theorem dX5_parrot_59 : decode cX5_parrot 59 = .ok (.ireturn, 1) := by decide +kernel
theorem dX5_parrot_60 : decode cX5_parrot 60 = .ok (.aload_n 0, 1) := by decide +kernel
theorem dX5_parrot_61 : decode cX5_parrot 61 = .ok (.getfield 10, 3) := by decide +kernel
theorem dX5_parrot_64 : decode cX5_parrot 64 = .ok (.getfield 121, 3) := by decide +kernel
theorem dX5_parrot_67 : decode cX5_parrot 67 = .ok (.iload_n 1, 1) := by decide +kernel
theorem dX5_parrot_68 : decode cX5_parrot 68 = .ok (.iaload, 1) := by decide +kernel
theorem dX5_parrot_69 : decode cX5_parrot 69 = .ok (.ireturn, 1) := by decide +kernel
theorem dX5_parrot_70 : decode cX5_parrot 70 = .ok (.aload_n 0, 1) := by decide +kernel
theorem dX5_parrot_71 : decode cX5_parrot 71 = .ok (.getfield 10, 3) := by decide +kernel
theorem dX5_parrot_74 : decode cX5_parrot 74 = .ok (.iload_n 1, 1) := by decide +kernel
theorem dX5_parrot_75 : decode cX5_parrot 75 = .ok (.invokevirtual 124, 3) := by decide +kernel
theorem dX5_parrot_78 : decode cX5_parrot 78 = .ok (.ireturn, 1) := by decide +kernel
theorem dX5_parrot_79 : decode cX5_parrot 79 = .ok (.iload_n 2, 1) := by decide +kernel
theorem dX5_parrot_80 : decode cX5_parrot 80 = .ok (.bipush 10, 2) := by decide +kernel
theorem dX5_parrot_82 : decode cX5_parrot 82 = .ok (.bipush 15, 2) := by decide +kernel
theorem dX5_parrot_84 : decode cX5_parrot 84 = .ok (.invokestatic 61, 3) := by decide +kernel
theorem dX5_parrot_87 : decode cX5_parrot 87 = .ok (.ifCond .ne 5, 3) := by decide +kernel
theorem dX5_parrot_90 : decode cX5_parrot 90 = .ok (.iconst (-1), 1) := by decide +kernel
theorem dX5_parrot_91 : decode cX5_parrot 91 = .ok (.ireturn, 1) := by decide +kernel
theorem dX5_parrot_92 : decode cX5_parrot 92 = .ok (.iload_n 2, 1) := by decide +kernel
theorem dX5_parrot_93 : decode cX5_parrot 93 = .ok (.bipush 10, 2) := by decide +kernel
theorem dX5_parrot_95 : decode cX5_parrot 95 = .ok (.isub, 1) := by decide +kernel
theorem dX5_parrot_96 : decode cX5_parrot 96 = .ok (.aload_n 0, 1) := by decide +kernel
theorem dX5_parrot_97 : decode cX5_parrot 97 = .ok (.getfield 10, 3) := by decide +kernel
theorem dX5_parrot_100 : decode cX5_parrot 100 = .ok (.getfield 119, 3) := by decide +kernel
theorem dX5_parrot_103 : decode cX5_parrot 103 = .ok (.iload_n 1, 1) := by decide +kernel
theorem dX5_parrot_104 : decode cX5_parrot 104 = .ok (.iaload, 1) := by decide +kernel
theorem dX5_parrot_105 : decode cX5_parrot 105 = .ok (.if_icmp .ge 18, 3) := by decide +kernel
theorem dX5_parrot_108 : decode cX5_parrot 108 = .ok (.aload_n 0, 1) := by decide +kernel
theorem dX5_parrot_109 : decode cX5_parrot 109 = .ok (.getfield 10, 3) := by decide +kernel
theorem dX5_parrot_112 : decode cX5_parrot 112 = .ok (.iload_n 1, 1) := by decide +kernel
theorem dX5_parrot_113 : decode cX5_parrot 113 = .ok (.iload_n 2, 1) := by decide +kernel
theorem dX5_parrot_114 : decode cX5_parrot 114 = .ok (.bipush 10, 2) := by decide +kernel
theorem dX5_parrot_116 : decode cX5_parrot 116 = .ok (.isub, 1) := by decide +kernel
theorem dX5_parrot_117 : decode cX5_parrot 117 = .ok (.invokevirtual 128, 3) := by decide +kernel
theorem dX5_parrot_120 : decode cX5_parrot 120 = .ok (.goto 5, 3) := by decide +kernel
theorem dX5_parrot_123 : decode cX5_parrot 123 = .ok (.bipush (-4), 2) := by decide +kernel
theorem dX5_parrot_125 : decode cX5_parrot 125 = .ok (.ireturn, 1) := by decide +kernel
abbrev rmX5_parrot : Room := { frames := 2, cells := 0, slots := 0, locals := 45 }
def opX5_parrot (po : Int32 → px_St → Prop) : List (Nat × px_Op) := [
  (0, px_al 1 0),
  (1, px_il 2 1),
  (2, px_callV dC 5 5 1 px_vI prX5_isParrot poX5_isParrot),
  (5, px_if 8 10 (fun x => ¬ x = 0)),
  (8, px_push 9 (.int (-1))),
  (9, px_iret (.int) po),
  (10, px_il 11 2),
  (11, px_sw [(0, 40), (1, 50), (2, 60), (3, 70)] 79),
  (40, px_al 41 0),
  (41, px_get dC 44 5 0),
  (44, px_get dC 47 0 3),
  (47, px_il 48 1),
  (48, px_ald dC 49 0),
  (49, px_iret (.int) po),
  (50, px_al 51 0),
  (51, px_get dC 54 5 0),
  (54, px_get dC 57 0 4),
  (57, px_il 58 1),
  (58, px_ald dC 59 0),
  (59, px_iret (.int) po),
  (60, px_al 61 0),
  (61, px_get dC 64 5 0),
  (64, px_get dC 67 0 5),
  (67, px_il 68 1),
  (68, px_ald dC 69 0),
  (69, px_iret (.int) po),
  (70, px_al 71 0),
  (71, px_get dC 74 5 0),
  (74, px_il 75 1),
  (75, px_callV dC 78 0 1 px_vI prX0_soundsKnown poX0_soundsKnown),
  (78, px_iret (.int) po),
  (79, px_il 80 2),
  (80, px_push 82 (.int 10)),
  (82, px_push 84 (.int 15)),
  (84, px_callS 87 3 px_vI prX5_isWithin poX5_isWithin),
  (87, px_if 90 92 (fun x => ¬ x = 0)),
  (90, px_push 91 (.int (-1))),
  (91, px_iret (.int) po),
  (92, px_il 93 2),
  (93, px_push 95 (.int 10)),
  (95, px_bin 96 (fun x y => x - y)),
  (96, px_al 97 0),
  (97, px_get dC 100 5 0),
  (100, px_get dC 103 0 4),
  (103, px_il 104 1),
  (104, px_ald dC 105 0),
  (105, px_ic 108 123 (fun x y => y ≤ x)),
  (108, px_al 109 0),
  (109, px_get dC 112 5 0),
  (112, px_il 113 1),
  (113, px_il 114 2),
  (114, px_push 116 (.int 10)),
  (116, px_bin 117 (fun x y => x - y)),
  (117, px_callV dC 120 0 2 px_vI prX0_soundAt poX0_soundAt),
  (120, px_go 125),
  (123, px_push 125 (.int (-4))),
  (125, px_iret (.int) po)]
theorem px_tsw_X5_parrot_11 : px_tswOk 11 68 0 3 #[29, 39, 49, 59] [(0, 40), (1, 50), (2, 60), (3, 70)] 79 := by
  intro x
  refine ⟨fun h1 h2 => ?_, fun h => ?_⟩
  · have hx : x = 0 ∨ x = 1 ∨ x = 2 ∨ x = 3 := by
      simp only [fa_eqI, show ((0 : Int32)).toInt = 0 by decide, show ((1 : Int32)).toInt = 1 by decide, show ((2 : Int32)).toInt = 2 by decide, show ((3 : Int32)).toInt = 3 by decide]
      omega
    rcases hx with rfl | rfl | rfl | rfl <;> exact ⟨_, rfl, rfl⟩
  · have hn : ¬ x = 0 ∧ ¬ x = 1 ∧ ¬ x = 2 ∧ ¬ x = 3 := by
      simp only [fa_eqI, show ((0 : Int32)).toInt = 0 by decide, show ((1 : Int32)).toInt = 1 by decide, show ((2 : Int32)).toInt = 2 by decide, show ((3 : Int32)).toInt = 3 by decide]
      omega
    simp [px_swt, hn]
set_option maxRecDepth 100000 in
set_option maxHeartbeats 4000000 in
theorem okX5_parrot : ∀ (po : Int32 → px_St → Prop) (i pc : Nat) (op : px_Op), (opX5_parrot po)[i]? = some (pc, op) → px_Snd (cX5_parrot, 3, RX5, Cond.code yX5_parrot cX5_parrot 3 (some .int) :: wdC, (some .int), rmX5_parrot, dC) px_vI po pc op := by
  intro po
  unfold opX5_parrot
  refine px_ok_cons (ps_aload_n dX5_parrot_0 rfl) ?_
  refine px_ok_cons (ps_iload_n dX5_parrot_1 rfl) ?_
  refine px_ok_cons (ps_callV mX5_isParrot (fun _ _ => rfl) (C := RX5) rfl (fun _ _ ht => px_cwV wgC (wdC_6_in _ (List.mem_of_getElem? (i := 36) rfl)) (wdC_6_in _ (List.mem_of_getElem? (i := 37) rfl)) (wdC_6_in _ (List.mem_of_getElem? (i := 38) rfl)) (wdC_4_in _ (List.mem_of_getElem? (i := 23) rfl)) (wdC_6_in _ (List.mem_of_getElem? (i := 32) rfl)) (by decide +kernel) rfl rfl (by decide) ht) dX5_parrot_2) ?_
  refine px_ok_cons (ps_if_ne dX5_parrot_5 (by decide)) ?_
  refine px_ok_cons (ps_iconst dX5_parrot_8 (by decide)) ?_
  refine px_ok_cons (ps_ireturn rfl dX5_parrot_9) ?_
  refine px_ok_cons (ps_iload_n dX5_parrot_10 rfl) ?_
  refine px_ok_cons (ps_tsw dX5_parrot_11 px_tsw_X5_parrot_11) ?_
  refine px_ok_cons (ps_aload_n dX5_parrot_40 rfl) ?_
  refine px_ok_cons (fgX5_10 dX5_parrot_41) ?_
  refine px_ok_cons (fgX5_116 dX5_parrot_44) ?_
  refine px_ok_cons (ps_iload_n dX5_parrot_47 rfl) ?_
  refine px_ok_cons (ps_iaload dX5_parrot_48) ?_
  refine px_ok_cons (ps_ireturn rfl dX5_parrot_49) ?_
  refine px_ok_cons (ps_aload_n dX5_parrot_50 rfl) ?_
  refine px_ok_cons (fgX5_10 dX5_parrot_51) ?_
  refine px_ok_cons (fgX5_119 dX5_parrot_54) ?_
  refine px_ok_cons (ps_iload_n dX5_parrot_57 rfl) ?_
  refine px_ok_cons (ps_iaload dX5_parrot_58) ?_
  refine px_ok_cons (ps_ireturn rfl dX5_parrot_59) ?_
  refine px_ok_cons (ps_aload_n dX5_parrot_60 rfl) ?_
  refine px_ok_cons (fgX5_10 dX5_parrot_61) ?_
  refine px_ok_cons (fgX5_121 dX5_parrot_64) ?_
  refine px_ok_cons (ps_iload_n dX5_parrot_67 rfl) ?_
  refine px_ok_cons (ps_iaload dX5_parrot_68) ?_
  refine px_ok_cons (ps_ireturn rfl dX5_parrot_69) ?_
  refine px_ok_cons (ps_aload_n dX5_parrot_70 rfl) ?_
  refine px_ok_cons (fgX5_10 dX5_parrot_71) ?_
  refine px_ok_cons (ps_iload_n dX5_parrot_74 rfl) ?_
  refine px_ok_cons (ps_callV mX0_soundsKnown (fun _ _ => rfl) (C := RX0) rfl (fun _ _ ht => px_cwV wgC (wdC_6_in _ (List.mem_of_getElem? (i := 39) rfl)) (wdC_7_in _ (List.mem_of_getElem? (i := 0) rfl)) (wdC_7_in _ (List.mem_of_getElem? (i := 1) rfl)) (wdC_0_in _ (List.mem_of_getElem? (i := 22) rfl)) (wdC_1_in _ (List.mem_of_getElem? (i := 26) rfl)) (by decide +kernel) rfl rfl (by decide) ht) dX5_parrot_75) ?_
  refine px_ok_cons (ps_ireturn rfl dX5_parrot_78) ?_
  refine px_ok_cons (ps_iload_n dX5_parrot_79 rfl) ?_
  refine px_ok_cons (ps_bipush dX5_parrot_80 (by decide)) ?_
  refine px_ok_cons (ps_bipush dX5_parrot_82 (by decide)) ?_
  refine px_ok_cons (ps_callS mX5_isWithin (fun _ _ => rfl) (fun _ _ ht => px_cwS wgC (wdC_4_in _ (List.mem_of_getElem? (i := 29) rfl)) (wdC_4_in _ (List.mem_of_getElem? (i := 22) rfl)) (wdC_4_in _ (List.mem_of_getElem? (i := 23) rfl)) (wdC_4_in _ (List.mem_of_getElem? (i := 20) rfl)) (by decide +kernel) rfl rfl (by decide) ht) dX5_parrot_84) ?_
  refine px_ok_cons (ps_if_ne dX5_parrot_87 (by decide)) ?_
  refine px_ok_cons (ps_iconst dX5_parrot_90 (by decide)) ?_
  refine px_ok_cons (ps_ireturn rfl dX5_parrot_91) ?_
  refine px_ok_cons (ps_iload_n dX5_parrot_92 rfl) ?_
  refine px_ok_cons (ps_bipush dX5_parrot_93 (by decide)) ?_
  refine px_ok_cons (ps_isub dX5_parrot_95) ?_
  refine px_ok_cons (ps_aload_n dX5_parrot_96 rfl) ?_
  refine px_ok_cons (fgX5_10 dX5_parrot_97) ?_
  refine px_ok_cons (fgX5_119 dX5_parrot_100) ?_
  refine px_ok_cons (ps_iload_n dX5_parrot_103 rfl) ?_
  refine px_ok_cons (ps_iaload dX5_parrot_104) ?_
  refine px_ok_cons (ps_icmp_ge dX5_parrot_105 (by decide)) ?_
  refine px_ok_cons (ps_aload_n dX5_parrot_108 rfl) ?_
  refine px_ok_cons (fgX5_10 dX5_parrot_109) ?_
  refine px_ok_cons (ps_iload_n dX5_parrot_112 rfl) ?_
  refine px_ok_cons (ps_iload_n dX5_parrot_113 rfl) ?_
  refine px_ok_cons (ps_bipush dX5_parrot_114 (by decide)) ?_
  refine px_ok_cons (ps_isub dX5_parrot_116) ?_
  refine px_ok_cons (ps_callV mX0_soundAt (fun _ _ => rfl) (C := RX0) rfl (fun _ _ ht => px_cwV wgC (wdC_7_in _ (List.mem_of_getElem? (i := 2) rfl)) (wdC_0_in _ (List.mem_of_getElem? (i := 32) rfl)) (wdC_0_in _ (List.mem_of_getElem? (i := 33) rfl)) (wdC_0_in _ (List.mem_of_getElem? (i := 22) rfl)) (wdC_0_in _ (List.mem_of_getElem? (i := 26) rfl)) (by decide +kernel) rfl rfl (by decide) ht) dX5_parrot_117) ?_
  refine px_ok_cons (ps_goto dX5_parrot_120 (by decide)) ?_
  refine px_ok_cons (ps_bipush dX5_parrot_123 (by decide)) ?_
  refine px_ok_cons (ps_ireturn rfl dX5_parrot_125) ?_
  exact px_ok_nil
set_option maxRecDepth 100000 in
set_option maxHeartbeats 4000000 in
theorem sgX5_parrot_0 {po : Int32 → px_St → Prop} {G : px_K} (hG : px_cl (opX5_parrot po) G) (v1 : Int32) (v2 : Int32) (σ : px_St)
    (H : ∃ g3 : gtX5_isParrot, qrX5_isParrot g3 v1 σ ∧ ∀ (r1 : Int32) (σ2 : px_St), qoX5_isParrot g3 v1 σ r1 σ2 → ((¬ r1 = 0) → ((v2 = 0) → vp_in v1 5 ∧ po (σ2.1 9 v1.toNatClampNeg) σ2) ∧ (¬ (v2 = 0) → ((v2 = 1) → vp_in v1 5 ∧ po (σ2.1 10 v1.toNatClampNeg) σ2) ∧ (¬ (v2 = 1) → ((v2 = 2) → vp_in v1 5 ∧ po (σ2.1 11 v1.toNatClampNeg) σ2) ∧ (¬ (v2 = 2) → ((v2 = 3) → ∃ g11 : gtX0_soundsKnown, qrX0_soundsKnown g11 8 v1 σ2 ∧ ∀ (r9 : Int32) (σ10 : px_St), qoX0_soundsKnown g11 8 v1 σ2 r9 σ10 → po r9 σ10) ∧ (¬ (v2 = 3) → ∃ g15 : gtX5_isWithin, qrX5_isWithin g15 v2 (10 : Int32) (15 : Int32) σ2 ∧ ∀ (r13 : Int32) (σ14 : px_St), qoX5_isWithin g15 v2 (10 : Int32) (15 : Int32) σ2 r13 σ14 → ((¬ r13 = 0) → vp_in v1 5 ∧ (((σ14.1 10 v1.toNatClampNeg) ≤ (v2 - (10 : Int32))) → po (-4 : Int32) σ14) ∧ (¬ ((σ14.1 10 v1.toNatClampNeg) ≤ (v2 - (10 : Int32))) → ∃ g19 : gtX0_soundAt, qrX0_soundAt g19 8 v1 (v2 - (10 : Int32)) σ14 ∧ ∀ (r17 : Int32) (σ18 : px_St), qoX0_soundAt g19 8 v1 (v2 - (10 : Int32)) σ14 r17 σ18 → po r17 σ18)) ∧ (¬ (¬ r13 = 0) → po (-1 : Int32) σ14)))))) ∧ (¬ (¬ r1 = 0) → po (-1 : Int32) σ2)) :
    G 0 (px_ent 3 [.ref 0, .int v1, .int v2]) [] σ := by
  refine hG.1 0 _ _ rfl _ _ _ ?_
  refine hG.1 1 _ _ rfl _ _ _ ?_
  refine hG.1 2 _ _ rfl _ _ _ ?_
  obtain ⟨g3, H⟩ := H
  refine ⟨⟨rfl, by decide⟩, Nat.le_of_ble_eq_true rfl, g3, ⟨_, rfl, H.1⟩, fun r1 σ2 hp4 => ?_⟩
  replace H := H.2 r1 σ2 hp4
  refine hG.1 3 _ _ rfl _ _ _ ?_
  refine ⟨fun h23 => ?_, fun h23 => ?_⟩
  · replace H := H.1 h23
    refine hG.1 6 _ _ rfl _ _ _ ?_
    refine hG.1 7 _ _ rfl _ _ _ ?_
    refine ⟨fun h5 => ?_, fun h5 => ?_⟩
    · replace H := H.1 h5
      refine hG.1 8 _ _ rfl _ _ _ ?_
      refine hG.1 9 _ _ rfl _ _ _ ?_
      refine ⟨⟨rfl, by decide⟩, ?_⟩
      refine hG.1 10 _ _ rfl _ _ _ ?_
      refine ⟨⟨rfl, by decide⟩, ?_⟩
      refine hG.1 11 _ _ rfl _ _ _ ?_
      refine hG.1 12 _ _ rfl _ _ _ ?_
      refine ⟨⟨rfl, by decide⟩, H.1, ?_⟩
      replace H := H.2
      refine hG.1 13 _ _ rfl _ _ _ ?_
      exact ⟨rfl, H⟩
    · replace H := H.2 h5
      refine ⟨fun h6 => ?_, fun h6 => ?_⟩
      · replace H := H.1 h6
        refine hG.1 14 _ _ rfl _ _ _ ?_
        refine hG.1 15 _ _ rfl _ _ _ ?_
        refine ⟨⟨rfl, by decide⟩, ?_⟩
        refine hG.1 16 _ _ rfl _ _ _ ?_
        refine ⟨⟨rfl, by decide⟩, ?_⟩
        refine hG.1 17 _ _ rfl _ _ _ ?_
        refine hG.1 18 _ _ rfl _ _ _ ?_
        refine ⟨⟨rfl, by decide⟩, H.1, ?_⟩
        replace H := H.2
        refine hG.1 19 _ _ rfl _ _ _ ?_
        exact ⟨rfl, H⟩
      · replace H := H.2 h6
        refine ⟨fun h7 => ?_, fun h7 => ?_⟩
        · replace H := H.1 h7
          refine hG.1 20 _ _ rfl _ _ _ ?_
          refine hG.1 21 _ _ rfl _ _ _ ?_
          refine ⟨⟨rfl, by decide⟩, ?_⟩
          refine hG.1 22 _ _ rfl _ _ _ ?_
          refine ⟨⟨rfl, by decide⟩, ?_⟩
          refine hG.1 23 _ _ rfl _ _ _ ?_
          refine hG.1 24 _ _ rfl _ _ _ ?_
          refine ⟨⟨rfl, by decide⟩, H.1, ?_⟩
          replace H := H.2
          refine hG.1 25 _ _ rfl _ _ _ ?_
          exact ⟨rfl, H⟩
        · replace H := H.2 h7
          refine ⟨fun h8 => ?_, fun h8 => ?_⟩
          · replace H := H.1 h8
            refine hG.1 26 _ _ rfl _ _ _ ?_
            refine hG.1 27 _ _ rfl _ _ _ ?_
            refine ⟨⟨rfl, by decide⟩, ?_⟩
            refine hG.1 28 _ _ rfl _ _ _ ?_
            refine hG.1 29 _ _ rfl _ _ _ ?_
            obtain ⟨g11, H⟩ := H
            refine ⟨⟨rfl, by decide⟩, Nat.le_of_ble_eq_true rfl, g11, ⟨_, _, rfl, (Or.inl rfl), H.1⟩, fun r9 σ10 hp12 => ?_⟩
            replace H := H.2 r9 σ10 hp12
            refine hG.1 30 _ _ rfl _ _ _ ?_
            exact ⟨rfl, H⟩
          · replace H := H.2 h8
            refine hG.1 31 _ _ rfl _ _ _ ?_
            refine hG.1 32 _ _ rfl _ _ _ ?_
            refine hG.1 33 _ _ rfl _ _ _ ?_
            refine hG.1 34 _ _ rfl _ _ _ ?_
            obtain ⟨g15, H⟩ := H
            refine ⟨Nat.le_of_ble_eq_true rfl, Nat.le_of_ble_eq_true rfl, g15, ⟨_, _, _, rfl, H.1⟩, fun r13 σ14 hp16 => ?_⟩
            replace H := H.2 r13 σ14 hp16
            refine hG.1 35 _ _ rfl _ _ _ ?_
            refine ⟨fun h22 => ?_, fun h22 => ?_⟩
            · replace H := H.1 h22
              refine hG.1 38 _ _ rfl _ _ _ ?_
              refine hG.1 39 _ _ rfl _ _ _ ?_
              refine hG.1 40 _ _ rfl _ _ _ ?_
              refine hG.1 41 _ _ rfl _ _ _ ?_
              refine hG.1 42 _ _ rfl _ _ _ ?_
              refine ⟨⟨rfl, by decide⟩, ?_⟩
              refine hG.1 43 _ _ rfl _ _ _ ?_
              refine ⟨⟨rfl, by decide⟩, ?_⟩
              refine hG.1 44 _ _ rfl _ _ _ ?_
              refine hG.1 45 _ _ rfl _ _ _ ?_
              refine ⟨⟨rfl, by decide⟩, H.1, ?_⟩
              replace H := H.2
              refine hG.1 46 _ _ rfl _ _ _ ?_
              refine ⟨fun h21 => ?_, fun h21 => ?_⟩
              · replace H := H.1 h21
                refine hG.1 55 _ _ rfl _ _ _ ?_
                refine hG.1 56 _ _ rfl _ _ _ ?_
                exact ⟨rfl, H⟩
              · replace H := H.2 h21
                refine hG.1 47 _ _ rfl _ _ _ ?_
                refine hG.1 48 _ _ rfl _ _ _ ?_
                refine ⟨⟨rfl, by decide⟩, ?_⟩
                refine hG.1 49 _ _ rfl _ _ _ ?_
                refine hG.1 50 _ _ rfl _ _ _ ?_
                refine hG.1 51 _ _ rfl _ _ _ ?_
                refine hG.1 52 _ _ rfl _ _ _ ?_
                refine hG.1 53 _ _ rfl _ _ _ ?_
                obtain ⟨g19, H⟩ := H
                refine ⟨⟨rfl, by decide⟩, Nat.le_of_ble_eq_true rfl, g19, ⟨_, _, _, rfl, (Or.inl rfl), H.1⟩, fun r17 σ18 hp20 => ?_⟩
                replace H := H.2 r17 σ18 hp20
                refine hG.1 54 _ _ rfl _ _ _ ?_
                refine hG.1 56 _ _ rfl _ _ _ ?_
                exact ⟨rfl, H⟩
            · replace H := H.2 h22
              refine hG.1 36 _ _ rfl _ _ _ ?_
              refine hG.1 37 _ _ rfl _ _ _ ?_
              exact ⟨rfl, H⟩
  · replace H := H.2 h23
    refine hG.1 4 _ _ rfl _ _ _ ?_
    refine hG.1 5 _ _ rfl _ _ _ ?_
    exact ⟨rfl, H⟩
set_option maxRecDepth 100000 in
set_option maxHeartbeats 4000000 in
theorem hhX5_parrot (g : gtX5_parrot) (v1 : Int32) (v2 : Int32) (σ : px_St) (h : qrX5_parrot g v1 v2 σ) (G : px_K) (hG : px_cl (opX5_parrot (qoX5_parrot g v1 v2 σ)) G) : G 0 (px_ent 3 [.ref 0, .int v1, .int v2]) [] σ := by
  obtain ⟨hX, hok⟩ := h
  have hV := hX.1
  have hvk := hok.1.1
  have h5 := hvk.1.1
  refine sgX5_parrot_0 hG _ _ σ ⟨g.1, hV, fun r1 σ1 h1 => ?_⟩
  obtain ⟨rfl, b1⟩ := h1
  unfold qoX5_parrot x_parrot
  simp only
  refine bz1 b1 (fun z => ?_) (fun z => ?_)
  · rw [xif_t z]
    obtain ⟨p, hp, rfl⟩ := (rng1 (by omega)).mp z
    obtain ⟨hk3, hl, hx9⟩ := hvk.1.2.2.2 p hp
    obtain ⟨g1, g2, g3, g4⟩ := hV.2 p hp
    have hin : vp_in (nI p) 5 := vp_in_nI (by omega) (by decide)
    unfold xp
    rw [nI_clamp (by omega), g1, g2, g3]
    refine ⟨fun h0 => ⟨hin, ?_, hX⟩, fun h0 => ⟨fun h1 => ⟨hin, ?_, hX⟩, fun h1 => ⟨fun h2 => ⟨hin, ?_, hX⟩, fun h2 => ⟨fun h3 => ⟨(g.1, p), ⟨hV, hvk.1, hp, rfl⟩, fun r σ2 hq => ?_⟩, fun h3 => ⟨(), trivial, fun r σ2 hq => ?_⟩⟩⟩⟩⟩
    · rw [if_pos h0]
    · rw [if_neg h0, if_pos h1]
    · rw [if_neg h0, if_neg h1, if_pos h2]
    · obtain ⟨rfl, rfl⟩ := hq
      exact ⟨by rw [if_neg h0, if_neg h1, if_neg h2, if_pos h3], hX⟩
    · obtain ⟨rfl, b2⟩ := hq
      rw [if_neg h0, if_neg h1, if_neg h2, if_neg h3]
      refine bz1 b2 (fun y => ⟨hin, fun h4 => ?_, fun h4 => ?_⟩) (fun y => ?_)
      · rw [g2] at h4
        rw [xif_t y, xif_t h4]
        exact ⟨rfl, hX⟩
      · rw [g2] at h4
        have hw : ∃ i, i ≤ 5 ∧ v2 = nI (i + 10) := by
          obtain ⟨j, hj, e⟩ := (rngc 15 15 rfl (by omega)).mp ⟨Int32.le_trans (by decide) y.1, y.2⟩
          have := (nIle 10 j rfl e (by omega) (by omega)).mp y.1
          exact ⟨j - 10, by omega, by rw [e, show j - 10 + 10 = j by omega]⟩
        obtain ⟨i, hi, rfl⟩ := hw
        have e10 : nI (i + 10) - 10 = nI i := by rw [show (10 : Int32) = nI 10 from rfl, pk_sub (by omega), show i + 10 - 10 = i by omega]
        rw [e10] at h4 ⊢
        have hil : i < (g.1.2.2.2 p).2.2.length := by
          rcases Nat.lt_or_ge i (g.1.2.2.2 p).2.2.length with q | q
          · exact q
          · exact absurd (nI_le q (by omega)) h4
        refine ⟨(g.1, p, i), ⟨hV, hvk.1, hp, hil, rfl, rfl⟩, fun r σ2 hq => ?_⟩
        obtain ⟨rfl, rfl⟩ := hq
        rw [xif_t y, xif_f h4, nI_clamp (by omega)]
        exact ⟨rfl, hX⟩
      · rw [xif_f y]
        exact ⟨rfl, hX⟩
  · rw [xif_f z]
    exact ⟨rfl, hX⟩
theorem mX5_parrot (g : gtX5_parrot) : px_Met dC yX5_parrot (Cond.code yX5_parrot cX5_parrot 3 (some .int) :: wdC) rmX5_parrot px_vI (prX5_parrot g) (poX5_parrot g) :=
  px_met (Z := (cX5_parrot, 3, RX5, Cond.code yX5_parrot cX5_parrot 3 (some .int) :: wdC, (some .int), rmX5_parrot, dC)) opX5_parrot (by decide) rfl rfl okX5_parrot (fun As σ h => by obtain ⟨v1, v2, rfl, h⟩ := h; exact Nat.le_of_ble_eq_true rfl) (fun As σ h G hG => by obtain ⟨v1, v2, rfl, h⟩ := h; exact hhX5_parrot g v1 v2 σ h G hG)
abbrev gtX5_knows : Type := pv_X
def qrX5_knows (X : pv_X) (_ : Int32) (σ : px_St) : Prop := cl_is σ X ∧ xo X
def qoX5_knows (X : pv_X) (s : Int32) (_ : px_St) (r : Int32) (σ' : px_St) : Prop := r = (x_knows X s).1 ∧ cl_is σ' (x_knows X s).2
def prX5_knows (g : gtX5_knows) : List Value → px_St → Prop := fun As σ => ∃ v1 : Int32, As = [.ref 0, .int v1] ∧ qrX5_knows g v1 σ
def poX5_knows (g : gtX5_knows) : List Value → px_St → Int32 → px_St → Prop
  | [.ref _, .int v1], σ, r, σ' => qoX5_knows g v1 σ r σ'
  | _, _, _, _ => False
theorem dX5_knows_0 : decode cX5_knows 0 = .ok (.iload_n 1, 1) := by decide +kernel
theorem dX5_knows_1 : decode cX5_knows 1 = .ok (.invokestatic 132, 3) := by decide +kernel
theorem dX5_knows_4 : decode cX5_knows 4 = .ok (.ifCond .eq 14, 3) := by decide +kernel
theorem dX5_knows_7 : decode cX5_knows 7 = .ok (.aload_n 0, 1) := by decide +kernel
theorem dX5_knows_8 : decode cX5_knows 8 = .ok (.getfield 10, 3) := by decide +kernel
theorem dX5_knows_11 : decode cX5_knows 11 = .ok (.iload_n 1, 1) := by decide +kernel
theorem dX5_knows_12 : decode cX5_knows 12 = .ok (.invokevirtual 135, 3) := by decide +kernel
theorem dX5_knows_15 : decode cX5_knows 15 = .ok (.goto 4, 3) := by decide +kernel
theorem dX5_knows_18 : decode cX5_knows 18 = .ok (.iconst (-1), 1) := by decide +kernel
theorem dX5_knows_19 : decode cX5_knows 19 = .ok (.ireturn, 1) := by decide +kernel
abbrev rmX5_knows : Room := { frames := 2, cells := 0, slots := 0, locals := 47 }
def opX5_knows (po : Int32 → px_St → Prop) : List (Nat × px_Op) := [
  (0, px_il 1 1),
  (1, px_callS 4 1 px_vI prX5_isSound poX5_isSound),
  (4, px_if 7 18 (fun x => x = 0)),
  (7, px_al 8 0),
  (8, px_get dC 11 5 0),
  (11, px_il 12 1),
  (12, px_callV dC 15 0 1 px_vI prX0_knowers poX0_knowers),
  (15, px_go 19),
  (18, px_push 19 (.int (-1))),
  (19, px_iret (.int) po)]
set_option maxRecDepth 100000 in
set_option maxHeartbeats 4000000 in
theorem okX5_knows : ∀ (po : Int32 → px_St → Prop) (i pc : Nat) (op : px_Op), (opX5_knows po)[i]? = some (pc, op) → px_Snd (cX5_knows, 2, RX5, Cond.code yX5_knows cX5_knows 2 (some .int) :: wdC, (some .int), rmX5_knows, dC) px_vI po pc op := by
  intro po
  unfold opX5_knows
  refine px_ok_cons (ps_iload_n dX5_knows_0 rfl) ?_
  refine px_ok_cons (ps_callS mX5_isSound (fun _ _ => rfl) (fun _ _ ht => px_cwS wgC (wdC_7_in _ (List.mem_of_getElem? (i := 5) rfl)) (wdC_4_in _ (List.mem_of_getElem? (i := 32) rfl)) (wdC_4_in _ (List.mem_of_getElem? (i := 23) rfl)) (wdC_4_in _ (List.mem_of_getElem? (i := 28) rfl)) (by decide +kernel) rfl rfl (by decide) ht) dX5_knows_1) ?_
  refine px_ok_cons (ps_if_eq dX5_knows_4 (by decide)) ?_
  refine px_ok_cons (ps_aload_n dX5_knows_7 rfl) ?_
  refine px_ok_cons (fgX5_10 dX5_knows_8) ?_
  refine px_ok_cons (ps_iload_n dX5_knows_11 rfl) ?_
  refine px_ok_cons (ps_callV mX0_knowers (fun _ _ => rfl) (C := RX0) rfl (fun _ _ ht => px_cwV wgC (wdC_7_in _ (List.mem_of_getElem? (i := 6) rfl)) (wdC_7_in _ (List.mem_of_getElem? (i := 7) rfl)) (wdC_7_in _ (List.mem_of_getElem? (i := 8) rfl)) (wdC_0_in _ (List.mem_of_getElem? (i := 22) rfl)) (wdC_1_in _ (List.mem_of_getElem? (i := 27) rfl)) (by decide +kernel) rfl rfl (by decide) ht) dX5_knows_12) ?_
  refine px_ok_cons (ps_goto dX5_knows_15 (by decide)) ?_
  refine px_ok_cons (ps_iconst dX5_knows_18 (by decide)) ?_
  refine px_ok_cons (ps_ireturn rfl dX5_knows_19) ?_
  exact px_ok_nil
set_option maxRecDepth 100000 in
set_option maxHeartbeats 4000000 in
theorem sgX5_knows_0 {po : Int32 → px_St → Prop} {G : px_K} (hG : px_cl (opX5_knows po) G) (v1 : Int32) (σ : px_St)
    (H : ∃ g3 : gtX5_isSound, qrX5_isSound g3 v1 σ ∧ ∀ (r1 : Int32) (σ2 : px_St), qoX5_isSound g3 v1 σ r1 σ2 → ((r1 = 0) → po (-1 : Int32) σ2) ∧ (¬ (r1 = 0) → ∃ g7 : gtX0_knowers, qrX0_knowers g7 8 v1 σ2 ∧ ∀ (r5 : Int32) (σ6 : px_St), qoX0_knowers g7 8 v1 σ2 r5 σ6 → po r5 σ6)) :
    G 0 (px_ent 2 [.ref 0, .int v1]) [] σ := by
  refine hG.1 0 _ _ rfl _ _ _ ?_
  refine hG.1 1 _ _ rfl _ _ _ ?_
  obtain ⟨g3, H⟩ := H
  refine ⟨Nat.le_of_ble_eq_true rfl, Nat.le_of_ble_eq_true rfl, g3, ⟨_, rfl, H.1⟩, fun r1 σ2 hp4 => ?_⟩
  replace H := H.2 r1 σ2 hp4
  refine hG.1 2 _ _ rfl _ _ _ ?_
  refine ⟨fun h9 => ?_, fun h9 => ?_⟩
  · replace H := H.1 h9
    refine hG.1 8 _ _ rfl _ _ _ ?_
    refine hG.1 9 _ _ rfl _ _ _ ?_
    exact ⟨rfl, H⟩
  · replace H := H.2 h9
    refine hG.1 3 _ _ rfl _ _ _ ?_
    refine hG.1 4 _ _ rfl _ _ _ ?_
    refine ⟨⟨rfl, by decide⟩, ?_⟩
    refine hG.1 5 _ _ rfl _ _ _ ?_
    refine hG.1 6 _ _ rfl _ _ _ ?_
    obtain ⟨g7, H⟩ := H
    refine ⟨⟨rfl, by decide⟩, Nat.le_of_ble_eq_true rfl, g7, ⟨_, _, rfl, (Or.inl rfl), H.1⟩, fun r5 σ6 hp8 => ?_⟩
    replace H := H.2 r5 σ6 hp8
    refine hG.1 7 _ _ rfl _ _ _ ?_
    refine hG.1 9 _ _ rfl _ _ _ ?_
    exact ⟨rfl, H⟩
set_option maxRecDepth 100000 in
set_option maxHeartbeats 4000000 in
theorem hhX5_knows (g : gtX5_knows) (v1 : Int32) (σ : px_St) (h : qrX5_knows g v1 σ) (G : px_K) (hG : px_cl (opX5_knows (qoX5_knows g v1 σ)) G) : G 0 (px_ent 2 [.ref 0, .int v1]) [] σ := by
  obtain ⟨hX, hok⟩ := h
  refine sgX5_knows_0 hG _ σ ⟨(), trivial, fun r1 σ1 h1 => ?_⟩
  obtain ⟨rfl, b1⟩ := h1
  unfold qoX5_knows x_knows
  simp only
  refine bz2 b1 (fun z => ?_) (fun z => ?_)
  · rw [xif_t z]
    obtain ⟨s, hs, rfl⟩ := (rngc 9 9 rfl (by omega)).mp z
    refine ⟨(g.1, s), ⟨hX.1, hok.1.1.1, hs, rfl⟩, fun r σ2 hq => ?_⟩
    obtain ⟨rfl, rfl⟩ := hq
    rw [nI_clamp (by omega)]
    exact ⟨rfl, hX⟩
  · rw [xif_f z]
    exact ⟨rfl, hX⟩
theorem mX5_knows (g : gtX5_knows) : px_Met dC yX5_knows (Cond.code yX5_knows cX5_knows 2 (some .int) :: wdC) rmX5_knows px_vI (prX5_knows g) (poX5_knows g) :=
  px_met (Z := (cX5_knows, 2, RX5, Cond.code yX5_knows cX5_knows 2 (some .int) :: wdC, (some .int), rmX5_knows, dC)) opX5_knows (by decide) rfl rfl okX5_knows (fun As σ h => by obtain ⟨v1, rfl, h⟩ := h; exact Nat.le_of_ble_eq_true rfl) (fun As σ h G hG => by obtain ⟨v1, rfl, h⟩ := h; exact hhX5_knows g v1 σ h G hG)
abbrev gtX5_moult : Type := pv_X
def qrX5_moult (X : pv_X) (_ _ : Int32) (σ : px_St) : Prop := cl_is σ X ∧ xo X
def qoX5_moult (X : pv_X) (p v : Int32) (_ : px_St) (r : Int32) (σ' : px_St) : Prop := r = (x_moult X p v).1 ∧ cl_is σ' (x_moult X p v).2
def prX5_moult (g : gtX5_moult) : List Value → px_St → Prop := fun As σ => ∃ v1 : Int32, ∃ v2 : Int32, As = [.ref 0, .int v1, .int v2] ∧ qrX5_moult g v1 v2 σ
def poX5_moult (g : gtX5_moult) : List Value → px_St → Int32 → px_St → Prop
  | [.ref _, .int v1, .int v2], σ, r, σ' => qoX5_moult g v1 v2 σ r σ'
  | _, _, _, _ => False
theorem dX5_moult_0 : decode cX5_moult 0 = .ok (.aload_n 0, 1) := by decide +kernel
theorem dX5_moult_1 : decode cX5_moult 1 = .ok (.iload_n 1, 1) := by decide +kernel
theorem dX5_moult_2 : decode cX5_moult 2 = .ok (.invokevirtual 112, 3) := by decide +kernel
theorem dX5_moult_5 : decode cX5_moult 5 = .ok (.ifCond .eq 10, 3) := by decide +kernel
theorem dX5_moult_8 : decode cX5_moult 8 = .ok (.iload_n 2, 1) := by decide +kernel
theorem dX5_moult_9 : decode cX5_moult 9 = .ok (.invokestatic 138, 3) := by decide +kernel
theorem dX5_moult_12 : decode cX5_moult 12 = .ok (.ifCond .ne 5, 3) := by decide +kernel
theorem dX5_moult_15 : decode cX5_moult 15 = .ok (.iconst (-1), 1) := by decide +kernel
theorem dX5_moult_16 : decode cX5_moult 16 = .ok (.ireturn, 1) := by decide +kernel
theorem dX5_moult_17 : decode cX5_moult 17 = .ok (.aload_n 0, 1) := by decide +kernel
theorem dX5_moult_18 : decode cX5_moult 18 = .ok (.getfield 10, 3) := by decide +kernel
theorem dX5_moult_21 : decode cX5_moult 21 = .ok (.getfield 116, 3) := by decide +kernel
theorem dX5_moult_24 : decode cX5_moult 24 = .ok (.iload_n 1, 1) := by decide +kernel
theorem dX5_moult_25 : decode cX5_moult 25 = .ok (.iaload, 1) := by decide +kernel
theorem dX5_moult_26 : decode cX5_moult 26 = .ok (.istore_n 3, 1) := by decide +kernel
theorem dX5_moult_27 : decode cX5_moult 27 = .ok (.aload_n 0, 1) := by decide +kernel
theorem dX5_moult_28 : decode cX5_moult 28 = .ok (.getfield 10, 3) := by decide +kernel
theorem dX5_moult_31 : decode cX5_moult 31 = .ok (.getfield 116, 3) := by decide +kernel
theorem dX5_moult_34 : decode cX5_moult 34 = .ok (.iload_n 1, 1) := by decide +kernel
theorem dX5_moult_35 : decode cX5_moult 35 = .ok (.iload_n 2, 1) := by decide +kernel
theorem dX5_moult_36 : decode cX5_moult 36 = .ok (.iastore, 1) := by decide +kernel
theorem dX5_moult_37 : decode cX5_moult 37 = .ok (.iload_n 3, 1) := by decide +kernel
theorem dX5_moult_38 : decode cX5_moult 38 = .ok (.ireturn, 1) := by decide +kernel
abbrev rmX5_moult : Room := { frames := 2, cells := 0, slots := 0, locals := 43 }
def opX5_moult (po : Int32 → px_St → Prop) : List (Nat × px_Op) := [
  (0, px_al 1 0),
  (1, px_il 2 1),
  (2, px_callV dC 5 5 1 px_vI prX5_isParrot poX5_isParrot),
  (5, px_if 8 15 (fun x => x = 0)),
  (8, px_il 9 2),
  (9, px_callS 12 1 px_vI prX5_isKind poX5_isKind),
  (12, px_if 15 17 (fun x => ¬ x = 0)),
  (15, px_push 16 (.int (-1))),
  (16, px_iret (.int) po),
  (17, px_al 18 0),
  (18, px_get dC 21 5 0),
  (21, px_get dC 24 0 3),
  (24, px_il 25 1),
  (25, px_ald dC 26 0),
  (26, px_is 27 3),
  (27, px_al 28 0),
  (28, px_get dC 31 5 0),
  (31, px_get dC 34 0 3),
  (34, px_il 35 1),
  (35, px_il 36 2),
  (36, px_ast dC 37 0 (fun x => x)),
  (37, px_il 38 3),
  (38, px_iret (.int) po)]
set_option maxRecDepth 100000 in
set_option maxHeartbeats 4000000 in
theorem okX5_moult : ∀ (po : Int32 → px_St → Prop) (i pc : Nat) (op : px_Op), (opX5_moult po)[i]? = some (pc, op) → px_Snd (cX5_moult, 4, RX5, Cond.code yX5_moult cX5_moult 4 (some .int) :: wdC, (some .int), rmX5_moult, dC) px_vI po pc op := by
  intro po
  unfold opX5_moult
  refine px_ok_cons (ps_aload_n dX5_moult_0 rfl) ?_
  refine px_ok_cons (ps_iload_n dX5_moult_1 rfl) ?_
  refine px_ok_cons (ps_callV mX5_isParrot (fun _ _ => rfl) (C := RX5) rfl (fun _ _ ht => px_cwV wgC (wdC_6_in _ (List.mem_of_getElem? (i := 36) rfl)) (wdC_6_in _ (List.mem_of_getElem? (i := 37) rfl)) (wdC_6_in _ (List.mem_of_getElem? (i := 38) rfl)) (wdC_4_in _ (List.mem_of_getElem? (i := 23) rfl)) (wdC_6_in _ (List.mem_of_getElem? (i := 32) rfl)) (by decide +kernel) rfl rfl (by decide) ht) dX5_moult_2) ?_
  refine px_ok_cons (ps_if_eq dX5_moult_5 (by decide)) ?_
  refine px_ok_cons (ps_iload_n dX5_moult_8 rfl) ?_
  refine px_ok_cons (ps_callS mX5_isKind (fun _ _ => rfl) (fun _ _ ht => px_cwS wgC (wdC_7_in _ (List.mem_of_getElem? (i := 11) rfl)) (wdC_7_in _ (List.mem_of_getElem? (i := 12) rfl)) (wdC_4_in _ (List.mem_of_getElem? (i := 23) rfl)) (wdC_7_in _ (List.mem_of_getElem? (i := 9) rfl)) (by decide +kernel) rfl rfl (by decide) ht) dX5_moult_9) ?_
  refine px_ok_cons (ps_if_ne dX5_moult_12 (by decide)) ?_
  refine px_ok_cons (ps_iconst dX5_moult_15 (by decide)) ?_
  refine px_ok_cons (ps_ireturn rfl dX5_moult_16) ?_
  refine px_ok_cons (ps_aload_n dX5_moult_17 rfl) ?_
  refine px_ok_cons (fgX5_10 dX5_moult_18) ?_
  refine px_ok_cons (fgX5_116 dX5_moult_21) ?_
  refine px_ok_cons (ps_iload_n dX5_moult_24 rfl) ?_
  refine px_ok_cons (ps_iaload dX5_moult_25) ?_
  refine px_ok_cons (ps_istore_n dX5_moult_26 rfl (by decide)) ?_
  refine px_ok_cons (ps_aload_n dX5_moult_27 rfl) ?_
  refine px_ok_cons (fgX5_10 dX5_moult_28) ?_
  refine px_ok_cons (fgX5_116 dX5_moult_31) ?_
  refine px_ok_cons (ps_iload_n dX5_moult_34 rfl) ?_
  refine px_ok_cons (ps_iload_n dX5_moult_35 rfl) ?_
  refine px_ok_cons (ps_iastore dX5_moult_36) ?_
  refine px_ok_cons (ps_iload_n dX5_moult_37 rfl) ?_
  refine px_ok_cons (ps_ireturn rfl dX5_moult_38) ?_
  exact px_ok_nil
set_option maxRecDepth 100000 in
set_option maxHeartbeats 4000000 in
theorem sgX5_moult_0 {po : Int32 → px_St → Prop} {G : px_K} (hG : px_cl (opX5_moult po) G) (v1 : Int32) (v2 : Int32) (σ : px_St)
    (H : ∃ g3 : gtX5_isParrot, qrX5_isParrot g3 v1 σ ∧ ∀ (r1 : Int32) (σ2 : px_St), qoX5_isParrot g3 v1 σ r1 σ2 → ((r1 = 0) → po (-1 : Int32) σ2) ∧ (¬ (r1 = 0) → ∃ g7 : gtX5_isKind, qrX5_isKind g7 v2 σ2 ∧ ∀ (r5 : Int32) (σ6 : px_St), qoX5_isKind g7 v2 σ2 r5 σ6 → ((¬ r5 = 0) → vp_in v1 5 ∧ vp_in v1 5 ∧ po (σ6.1 9 v1.toNatClampNeg) (px_up σ6 9 v1.toNatClampNeg v2)) ∧ (¬ (¬ r5 = 0) → po (-1 : Int32) σ6))) :
    G 0 (px_ent 4 [.ref 0, .int v1, .int v2]) [] σ := by
  refine hG.1 0 _ _ rfl _ _ _ ?_
  refine hG.1 1 _ _ rfl _ _ _ ?_
  refine hG.1 2 _ _ rfl _ _ _ ?_
  obtain ⟨g3, H⟩ := H
  refine ⟨⟨rfl, by decide⟩, Nat.le_of_ble_eq_true rfl, g3, ⟨_, rfl, H.1⟩, fun r1 σ2 hp4 => ?_⟩
  replace H := H.2 r1 σ2 hp4
  refine hG.1 3 _ _ rfl _ _ _ ?_
  refine ⟨fun h10 => ?_, fun h10 => ?_⟩
  · replace H := H.1 h10
    refine hG.1 7 _ _ rfl _ _ _ ?_
    refine hG.1 8 _ _ rfl _ _ _ ?_
    exact ⟨rfl, H⟩
  · replace H := H.2 h10
    refine hG.1 4 _ _ rfl _ _ _ ?_
    refine hG.1 5 _ _ rfl _ _ _ ?_
    obtain ⟨g7, H⟩ := H
    refine ⟨Nat.le_of_ble_eq_true rfl, Nat.le_of_ble_eq_true rfl, g7, ⟨_, rfl, H.1⟩, fun r5 σ6 hp8 => ?_⟩
    replace H := H.2 r5 σ6 hp8
    refine hG.1 6 _ _ rfl _ _ _ ?_
    refine ⟨fun h9 => ?_, fun h9 => ?_⟩
    · replace H := H.1 h9
      refine hG.1 9 _ _ rfl _ _ _ ?_
      refine hG.1 10 _ _ rfl _ _ _ ?_
      refine ⟨⟨rfl, by decide⟩, ?_⟩
      refine hG.1 11 _ _ rfl _ _ _ ?_
      refine ⟨⟨rfl, by decide⟩, ?_⟩
      refine hG.1 12 _ _ rfl _ _ _ ?_
      refine hG.1 13 _ _ rfl _ _ _ ?_
      refine ⟨⟨rfl, by decide⟩, H.1, ?_⟩
      replace H := H.2
      refine hG.1 14 _ _ rfl _ _ _ ?_
      show G 27 [some (.ref 0), some (.int v1), some (.int v2), some (.int (σ6.1 9 v1.toNatClampNeg))] [] σ6
      refine hG.1 15 _ _ rfl _ _ _ ?_
      refine hG.1 16 _ _ rfl _ _ _ ?_
      refine ⟨⟨rfl, by decide⟩, ?_⟩
      refine hG.1 17 _ _ rfl _ _ _ ?_
      refine ⟨⟨rfl, by decide⟩, ?_⟩
      refine hG.1 18 _ _ rfl _ _ _ ?_
      refine hG.1 19 _ _ rfl _ _ _ ?_
      refine hG.1 20 _ _ rfl _ _ _ ?_
      refine ⟨⟨rfl, by decide⟩, H.1, ?_⟩
      replace H := H.2
      refine hG.1 21 _ _ rfl _ _ _ ?_
      refine hG.1 22 _ _ rfl _ _ _ ?_
      exact ⟨rfl, H⟩
    · replace H := H.2 h9
      refine hG.1 7 _ _ rfl _ _ _ ?_
      refine hG.1 8 _ _ rfl _ _ _ ?_
      exact ⟨rfl, H⟩
set_option maxRecDepth 100000 in
set_option maxHeartbeats 4000000 in
theorem hhX5_moult (g : gtX5_moult) (v1 : Int32) (v2 : Int32) (σ : px_St) (h : qrX5_moult g v1 v2 σ) (G : px_K) (hG : px_cl (opX5_moult (qoX5_moult g v1 v2 σ)) G) : G 0 (px_ent 4 [.ref 0, .int v1, .int v2]) [] σ := by
  obtain ⟨hX, hok⟩ := h
  have hV := hX.1
  have hvk := hok.1.1
  have h5 := hvk.1.1
  refine sgX5_moult_0 hG _ _ σ ⟨g.1, hV, fun r1 σ1 h1 => ?_⟩
  obtain ⟨rfl, b1⟩ := h1
  unfold qoX5_moult x_moult
  refine bz2 b1 (fun z => ⟨(), trivial, fun r2 σ2 h2 => ?_⟩) (fun z => ?_)
  · obtain ⟨rfl, b2⟩ := h2
    refine bz1 b2 (fun y => ?_) (fun y => ?_)
    · rw [xif_t ⟨z, y⟩]
      obtain ⟨p, hp, rfl⟩ := (rng1 (by omega)).mp z
      obtain ⟨v, hv, rfl⟩ := (rngc 3 3 rfl (by omega)).mp y
      obtain ⟨g1, g2, g3, g4⟩ := hV.2 p hp
      have hin : vp_in (nI p) 5 := vp_in_nI (by omega) (by decide)
      unfold xp
      rw [nI_clamp (by omega), nI_clamp (by omega), g1]
      have ho : px_onlyP 8 p σ2 (px_up σ2 9 p (nI v)) := px_onlyP.upt (t := 1) (by omega) (by omega)
      refine ⟨hin, hin, rfl, ho.only.cl hX (av_mod hV (fun q hq => (hvk.1.2.2.2 q hq).2.1) ho ⟨?_, ?_, ?_, fun i x hx => ?_⟩)⟩
      · rw [px_up_at, if_pos ⟨rfl, rfl⟩]
      · rw [px_up_n (by omega)]; exact g2
      · rw [px_up_n (by omega)]; exact g3
      · rw [px_up_n (by omega)]; exact g4 i x hx
    · rw [xif_f (fun q => y q.2)]
      exact ⟨rfl, hX⟩
  · rw [xif_f (fun q => z q.1)]
    exact ⟨rfl, hX⟩
theorem mX5_moult (g : gtX5_moult) : px_Met dC yX5_moult (Cond.code yX5_moult cX5_moult 4 (some .int) :: wdC) rmX5_moult px_vI (prX5_moult g) (poX5_moult g) :=
  px_met (Z := (cX5_moult, 4, RX5, Cond.code yX5_moult cX5_moult 4 (some .int) :: wdC, (some .int), rmX5_moult, dC)) opX5_moult (by decide) rfl rfl okX5_moult (fun As σ h => by obtain ⟨v1, v2, rfl, h⟩ := h; exact Nat.le_of_ble_eq_true rfl) (fun As σ h G hG => by obtain ⟨v1, v2, rfl, h⟩ := h; exact hhX5_moult g v1 v2 σ h G hG)
theorem pv_own_of {V : pv_V} {p i : Int32} (hw : pv_w V) (h : pv_own V p i) : ∃ p' i', p' < V.1 ∧ i' < (V.2.2.2 p').2.2.length ∧ p = nI p' ∧ i = nI i' := by
  have h5 := hw.1
  obtain ⟨p', hp, rfl⟩ := (rng1 (by omega)).mp h.1
  have h2 := h.2
  rw [nI_clamp (by omega)] at h2
  have hl := (hw.2.2.2 p' hp).2.1
  obtain ⟨i', hi, rfl⟩ := (rng1 (by omega)).mp h2
  exact ⟨p', i', hp, hi, rfl, rfl⟩
abbrev gtX5_turn : Type := pv_X
def qrX5_turn (X : pv_X) (_ _ : Int32) (σ : px_St) : Prop := cl_is σ X ∧ xo X
def qoX5_turn (X : pv_X) (p v : Int32) (_ : px_St) (r : Int32) (σ' : px_St) : Prop := r = (x_turn X p v).1 ∧ cl_is σ' (x_turn X p v).2
def prX5_turn (g : gtX5_turn) : List Value → px_St → Prop := fun As σ => ∃ v1 : Int32, ∃ v2 : Int32, As = [.ref 0, .int v1, .int v2] ∧ qrX5_turn g v1 v2 σ
def poX5_turn (g : gtX5_turn) : List Value → px_St → Int32 → px_St → Prop
  | [.ref _, .int v1, .int v2], σ, r, σ' => qoX5_turn g v1 v2 σ r σ'
  | _, _, _, _ => False
theorem dX5_turn_0 : decode cX5_turn 0 = .ok (.aload_n 0, 1) := by decide +kernel
theorem dX5_turn_1 : decode cX5_turn 1 = .ok (.iload_n 1, 1) := by decide +kernel
theorem dX5_turn_2 : decode cX5_turn 2 = .ok (.iload_n 2, 1) := by decide +kernel
theorem dX5_turn_3 : decode cX5_turn 3 = .ok (.invokevirtual 141, 3) := by decide +kernel
theorem dX5_turn_6 : decode cX5_turn 6 = .ok (.ifCond .ne 5, 3) := by decide +kernel
theorem dX5_turn_9 : decode cX5_turn 9 = .ok (.iconst (-1), 1) := by decide +kernel
theorem dX5_turn_10 : decode cX5_turn 10 = .ok (.ireturn, 1) := by decide +kernel
theorem dX5_turn_11 : decode cX5_turn 11 = .ok (.aload_n 0, 1) := by decide +kernel
theorem dX5_turn_12 : decode cX5_turn 12 = .ok (.getfield 10, 3) := by decide +kernel
theorem dX5_turn_15 : decode cX5_turn 15 = .ok (.getfield 121, 3) := by decide +kernel
theorem dX5_turn_18 : decode cX5_turn 18 = .ok (.iload_n 1, 1) := by decide +kernel
theorem dX5_turn_19 : decode cX5_turn 19 = .ok (.iaload, 1) := by decide +kernel
theorem dX5_turn_20 : decode cX5_turn 20 = .ok (.istore_n 3, 1) := by decide +kernel
theorem dX5_turn_21 : decode cX5_turn 21 = .ok (.aload_n 0, 1) := by decide +kernel
theorem dX5_turn_22 : decode cX5_turn 22 = .ok (.getfield 10, 3) := by decide +kernel
theorem dX5_turn_25 : decode cX5_turn 25 = .ok (.getfield 121, 3) := by decide +kernel
theorem dX5_turn_28 : decode cX5_turn 28 = .ok (.iload_n 1, 1) := by decide +kernel
theorem dX5_turn_29 : decode cX5_turn 29 = .ok (.iload_n 2, 1) := by decide +kernel
theorem dX5_turn_30 : decode cX5_turn 30 = .ok (.iastore, 1) := by decide +kernel
theorem dX5_turn_31 : decode cX5_turn 31 = .ok (.iload_n 3, 1) := by decide +kernel
theorem dX5_turn_32 : decode cX5_turn 32 = .ok (.ireturn, 1) := by decide +kernel
abbrev rmX5_turn : Room := { frames := 3, cells := 0, slots := 0, locals := 65 }
def opX5_turn (po : Int32 → px_St → Prop) : List (Nat × px_Op) := [
  (0, px_al 1 0),
  (1, px_il 2 1),
  (2, px_il 3 2),
  (3, px_callV dC 6 5 2 px_vI prX5_hasSound poX5_hasSound),
  (6, px_if 9 11 (fun x => ¬ x = 0)),
  (9, px_push 10 (.int (-1))),
  (10, px_iret (.int) po),
  (11, px_al 12 0),
  (12, px_get dC 15 5 0),
  (15, px_get dC 18 0 5),
  (18, px_il 19 1),
  (19, px_ald dC 20 0),
  (20, px_is 21 3),
  (21, px_al 22 0),
  (22, px_get dC 25 5 0),
  (25, px_get dC 28 0 5),
  (28, px_il 29 1),
  (29, px_il 30 2),
  (30, px_ast dC 31 0 (fun x => x)),
  (31, px_il 32 3),
  (32, px_iret (.int) po)]
set_option maxRecDepth 100000 in
set_option maxHeartbeats 4000000 in
theorem okX5_turn : ∀ (po : Int32 → px_St → Prop) (i pc : Nat) (op : px_Op), (opX5_turn po)[i]? = some (pc, op) → px_Snd (cX5_turn, 4, RX5, Cond.code yX5_turn cX5_turn 4 (some .int) :: wdC, (some .int), rmX5_turn, dC) px_vI po pc op := by
  intro po
  unfold opX5_turn
  refine px_ok_cons (ps_aload_n dX5_turn_0 rfl) ?_
  refine px_ok_cons (ps_iload_n dX5_turn_1 rfl) ?_
  refine px_ok_cons (ps_iload_n dX5_turn_2 rfl) ?_
  refine px_ok_cons (ps_callV mX5_hasSound (fun _ _ => rfl) (C := RX5) rfl (fun _ _ ht => px_cwV wgC (wdC_7_in _ (List.mem_of_getElem? (i := 15) rfl)) (wdC_7_in _ (List.mem_of_getElem? (i := 16) rfl)) (wdC_7_in _ (List.mem_of_getElem? (i := 17) rfl)) (wdC_4_in _ (List.mem_of_getElem? (i := 23) rfl)) (wdC_7_in _ (List.mem_of_getElem? (i := 13) rfl)) (by decide +kernel) rfl rfl (by decide) ht) dX5_turn_3) ?_
  refine px_ok_cons (ps_if_ne dX5_turn_6 (by decide)) ?_
  refine px_ok_cons (ps_iconst dX5_turn_9 (by decide)) ?_
  refine px_ok_cons (ps_ireturn rfl dX5_turn_10) ?_
  refine px_ok_cons (ps_aload_n dX5_turn_11 rfl) ?_
  refine px_ok_cons (fgX5_10 dX5_turn_12) ?_
  refine px_ok_cons (fgX5_121 dX5_turn_15) ?_
  refine px_ok_cons (ps_iload_n dX5_turn_18 rfl) ?_
  refine px_ok_cons (ps_iaload dX5_turn_19) ?_
  refine px_ok_cons (ps_istore_n dX5_turn_20 rfl (by decide)) ?_
  refine px_ok_cons (ps_aload_n dX5_turn_21 rfl) ?_
  refine px_ok_cons (fgX5_10 dX5_turn_22) ?_
  refine px_ok_cons (fgX5_121 dX5_turn_25) ?_
  refine px_ok_cons (ps_iload_n dX5_turn_28 rfl) ?_
  refine px_ok_cons (ps_iload_n dX5_turn_29 rfl) ?_
  refine px_ok_cons (ps_iastore dX5_turn_30) ?_
  refine px_ok_cons (ps_iload_n dX5_turn_31 rfl) ?_
  refine px_ok_cons (ps_ireturn rfl dX5_turn_32) ?_
  exact px_ok_nil
set_option maxRecDepth 100000 in
set_option maxHeartbeats 4000000 in
theorem sgX5_turn_0 {po : Int32 → px_St → Prop} {G : px_K} (hG : px_cl (opX5_turn po) G) (v1 : Int32) (v2 : Int32) (σ : px_St)
    (H : ∃ g3 : gtX5_hasSound, qrX5_hasSound g3 v1 v2 σ ∧ ∀ (r1 : Int32) (σ2 : px_St), qoX5_hasSound g3 v1 v2 σ r1 σ2 → ((¬ r1 = 0) → vp_in v1 5 ∧ vp_in v1 5 ∧ po (σ2.1 11 v1.toNatClampNeg) (px_up σ2 11 v1.toNatClampNeg v2)) ∧ (¬ (¬ r1 = 0) → po (-1 : Int32) σ2)) :
    G 0 (px_ent 4 [.ref 0, .int v1, .int v2]) [] σ := by
  refine hG.1 0 _ _ rfl _ _ _ ?_
  refine hG.1 1 _ _ rfl _ _ _ ?_
  refine hG.1 2 _ _ rfl _ _ _ ?_
  refine hG.1 3 _ _ rfl _ _ _ ?_
  obtain ⟨g3, H⟩ := H
  refine ⟨⟨rfl, by decide⟩, Nat.le_of_ble_eq_true rfl, g3, ⟨_, _, rfl, H.1⟩, fun r1 σ2 hp4 => ?_⟩
  replace H := H.2 r1 σ2 hp4
  refine hG.1 4 _ _ rfl _ _ _ ?_
  refine ⟨fun h5 => ?_, fun h5 => ?_⟩
  · replace H := H.1 h5
    refine hG.1 7 _ _ rfl _ _ _ ?_
    refine hG.1 8 _ _ rfl _ _ _ ?_
    refine ⟨⟨rfl, by decide⟩, ?_⟩
    refine hG.1 9 _ _ rfl _ _ _ ?_
    refine ⟨⟨rfl, by decide⟩, ?_⟩
    refine hG.1 10 _ _ rfl _ _ _ ?_
    refine hG.1 11 _ _ rfl _ _ _ ?_
    refine ⟨⟨rfl, by decide⟩, H.1, ?_⟩
    replace H := H.2
    refine hG.1 12 _ _ rfl _ _ _ ?_
    show G 21 [some (.ref 0), some (.int v1), some (.int v2), some (.int (σ2.1 11 v1.toNatClampNeg))] [] σ2
    refine hG.1 13 _ _ rfl _ _ _ ?_
    refine hG.1 14 _ _ rfl _ _ _ ?_
    refine ⟨⟨rfl, by decide⟩, ?_⟩
    refine hG.1 15 _ _ rfl _ _ _ ?_
    refine ⟨⟨rfl, by decide⟩, ?_⟩
    refine hG.1 16 _ _ rfl _ _ _ ?_
    refine hG.1 17 _ _ rfl _ _ _ ?_
    refine hG.1 18 _ _ rfl _ _ _ ?_
    refine ⟨⟨rfl, by decide⟩, H.1, ?_⟩
    replace H := H.2
    refine hG.1 19 _ _ rfl _ _ _ ?_
    refine hG.1 20 _ _ rfl _ _ _ ?_
    exact ⟨rfl, H⟩
  · replace H := H.2 h5
    refine hG.1 5 _ _ rfl _ _ _ ?_
    refine hG.1 6 _ _ rfl _ _ _ ?_
    exact ⟨rfl, H⟩
set_option maxRecDepth 100000 in
set_option maxHeartbeats 4000000 in
theorem hhX5_turn (g : gtX5_turn) (v1 : Int32) (v2 : Int32) (σ : px_St) (h : qrX5_turn g v1 v2 σ) (G : px_K) (hG : px_cl (opX5_turn (qoX5_turn g v1 v2 σ)) G) : G 0 (px_ent 4 [.ref 0, .int v1, .int v2]) [] σ := by
  obtain ⟨hX, hok⟩ := h
  have hV := hX.1
  have hvk := hok.1.1
  have h5 := hvk.1.1
  refine sgX5_turn_0 hG _ _ σ ⟨g.1, ⟨hV, hvk.1⟩, fun r1 σ1 h1 => ?_⟩
  obtain ⟨rfl, b1⟩ := h1
  unfold qoX5_turn x_turn
  refine bz1 b1 (fun z => ?_) (fun z => ?_)
  · rw [xif_t z]
    obtain ⟨p, i, hp, hi, rfl, rfl⟩ := pv_own_of hvk.1 z
    have hl := (hvk.1.2.2.2 p hp).2.1
    obtain ⟨g1, g2, g3, g4⟩ := hV.2 p hp
    have hin : vp_in (nI p) 5 := vp_in_nI (by omega) (by decide)
    unfold xp
    rw [nI_clamp (by omega), nI_clamp (by omega), g3]
    have ho : px_onlyP 8 p σ1 (px_up σ1 11 p (nI i)) := px_onlyP.upt (t := 3) (by omega) (by omega)
    refine ⟨hin, hin, rfl, ho.only.cl hX (av_mod hV (fun q hq => (hvk.1.2.2.2 q hq).2.1) ho ⟨?_, ?_, ?_, fun i x hx => ?_⟩)⟩
    · rw [px_up_n (by omega)]; exact g1
    · rw [px_up_n (by omega)]; exact g2
    · rw [px_up_at, if_pos ⟨rfl, rfl⟩]
    · rw [px_up_n (by omega)]; exact g4 i x hx
  · rw [xif_f z]
    exact ⟨rfl, hX⟩
theorem mX5_turn (g : gtX5_turn) : px_Met dC yX5_turn (Cond.code yX5_turn cX5_turn 4 (some .int) :: wdC) rmX5_turn px_vI (prX5_turn g) (poX5_turn g) :=
  px_met (Z := (cX5_turn, 4, RX5, Cond.code yX5_turn cX5_turn 4 (some .int) :: wdC, (some .int), rmX5_turn, dC)) opX5_turn (by decide) rfl rfl okX5_turn (fun As σ h => by obtain ⟨v1, v2, rfl, h⟩ := h; exact Nat.le_of_ble_eq_true rfl) (fun As σ h G hG => by obtain ⟨v1, v2, rfl, h⟩ := h; exact hhX5_turn g v1 v2 σ h G hG)
abbrev gtX5_teach : Type := pv_X
def qrX5_teach (X : pv_X) (_ _ : Int32) (σ : px_St) : Prop := cl_is σ X ∧ xo X
def qoX5_teach (X : pv_X) (p v : Int32) (_ : px_St) (r : Int32) (σ' : px_St) : Prop := r = (x_teach X p v).1 ∧ cl_is σ' (x_teach X p v).2
def prX5_teach (g : gtX5_teach) : List Value → px_St → Prop := fun As σ => ∃ v1 : Int32, ∃ v2 : Int32, As = [.ref 0, .int v1, .int v2] ∧ qrX5_teach g v1 v2 σ
def poX5_teach (g : gtX5_teach) : List Value → px_St → Int32 → px_St → Prop
  | [.ref _, .int v1, .int v2], σ, r, σ' => qoX5_teach g v1 v2 σ r σ'
  | _, _, _, _ => False
theorem dX5_teach_0 : decode cX5_teach 0 = .ok (.aload_n 0, 1) := by decide +kernel
theorem dX5_teach_1 : decode cX5_teach 1 = .ok (.iload_n 1, 1) := by decide +kernel
theorem dX5_teach_2 : decode cX5_teach 2 = .ok (.invokevirtual 112, 3) := by decide +kernel
theorem dX5_teach_5 : decode cX5_teach 5 = .ok (.ifCond .eq 10, 3) := by decide +kernel
theorem dX5_teach_8 : decode cX5_teach 8 = .ok (.iload_n 2, 1) := by decide +kernel
theorem dX5_teach_9 : decode cX5_teach 9 = .ok (.invokestatic 132, 3) := by decide +kernel
theorem dX5_teach_12 : decode cX5_teach 12 = .ok (.ifCond .ne 5, 3) := by decide +kernel
theorem dX5_teach_15 : decode cX5_teach 15 = .ok (.iconst (-1), 1) := by decide +kernel
theorem dX5_teach_16 : decode cX5_teach 16 = .ok (.ireturn, 1) := by decide +kernel
theorem dX5_teach_17 : decode cX5_teach 17 = .ok (.aload_n 0, 1) := by decide +kernel
theorem dX5_teach_18 : decode cX5_teach 18 = .ok (.getfield 10, 3) := by decide +kernel
theorem dX5_teach_21 : decode cX5_teach 21 = .ok (.iload_n 1, 1) := by decide +kernel
theorem dX5_teach_22 : decode cX5_teach 22 = .ok (.iload_n 2, 1) := by decide +kernel
theorem dX5_teach_23 : decode cX5_teach 23 = .ok (.invokevirtual 145, 3) := by decide +kernel
theorem dX5_teach_26 : decode cX5_teach 26 = .ok (.aload_n 0, 1) := by decide +kernel
theorem dX5_teach_27 : decode cX5_teach 27 = .ok (.getfield 10, 3) := by decide +kernel
theorem dX5_teach_30 : decode cX5_teach 30 = .ok (.getfield 119, 3) := by decide +kernel
theorem dX5_teach_33 : decode cX5_teach 33 = .ok (.iload_n 1, 1) := by decide +kernel
theorem dX5_teach_34 : decode cX5_teach 34 = .ok (.iaload, 1) := by decide +kernel
theorem dX5_teach_35 : decode cX5_teach 35 = .ok (.ireturn, 1) := by decide +kernel
abbrev rmX5_teach : Room := { frames := 3, cells := 0, slots := 0, locals := 68 }
def opX5_teach (po : Int32 → px_St → Prop) : List (Nat × px_Op) := [
  (0, px_al 1 0),
  (1, px_il 2 1),
  (2, px_callV dC 5 5 1 px_vI prX5_isParrot poX5_isParrot),
  (5, px_if 8 15 (fun x => x = 0)),
  (8, px_il 9 2),
  (9, px_callS 12 1 px_vI prX5_isSound poX5_isSound),
  (12, px_if 15 17 (fun x => ¬ x = 0)),
  (15, px_push 16 (.int (-1))),
  (16, px_iret (.int) po),
  (17, px_al 18 0),
  (18, px_get dC 21 5 0),
  (21, px_il 22 1),
  (22, px_il 23 2),
  (23, px_callV dC 26 0 2 px_vV prX0_learn poX0_learn),
  (26, px_al 27 0),
  (27, px_get dC 30 5 0),
  (30, px_get dC 33 0 4),
  (33, px_il 34 1),
  (34, px_ald dC 35 0),
  (35, px_iret (.int) po)]
set_option maxRecDepth 100000 in
set_option maxHeartbeats 4000000 in
theorem okX5_teach : ∀ (po : Int32 → px_St → Prop) (i pc : Nat) (op : px_Op), (opX5_teach po)[i]? = some (pc, op) → px_Snd (cX5_teach, 3, RX5, Cond.code yX5_teach cX5_teach 3 (some .int) :: wdC, (some .int), rmX5_teach, dC) px_vI po pc op := by
  intro po
  unfold opX5_teach
  refine px_ok_cons (ps_aload_n dX5_teach_0 rfl) ?_
  refine px_ok_cons (ps_iload_n dX5_teach_1 rfl) ?_
  refine px_ok_cons (ps_callV mX5_isParrot (fun _ _ => rfl) (C := RX5) rfl (fun _ _ ht => px_cwV wgC (wdC_6_in _ (List.mem_of_getElem? (i := 36) rfl)) (wdC_6_in _ (List.mem_of_getElem? (i := 37) rfl)) (wdC_6_in _ (List.mem_of_getElem? (i := 38) rfl)) (wdC_4_in _ (List.mem_of_getElem? (i := 23) rfl)) (wdC_6_in _ (List.mem_of_getElem? (i := 32) rfl)) (by decide +kernel) rfl rfl (by decide) ht) dX5_teach_2) ?_
  refine px_ok_cons (ps_if_eq dX5_teach_5 (by decide)) ?_
  refine px_ok_cons (ps_iload_n dX5_teach_8 rfl) ?_
  refine px_ok_cons (ps_callS mX5_isSound (fun _ _ => rfl) (fun _ _ ht => px_cwS wgC (wdC_7_in _ (List.mem_of_getElem? (i := 5) rfl)) (wdC_4_in _ (List.mem_of_getElem? (i := 32) rfl)) (wdC_4_in _ (List.mem_of_getElem? (i := 23) rfl)) (wdC_4_in _ (List.mem_of_getElem? (i := 28) rfl)) (by decide +kernel) rfl rfl (by decide) ht) dX5_teach_9) ?_
  refine px_ok_cons (ps_if_ne dX5_teach_12 (by decide)) ?_
  refine px_ok_cons (ps_iconst dX5_teach_15 (by decide)) ?_
  refine px_ok_cons (ps_ireturn rfl dX5_teach_16) ?_
  refine px_ok_cons (ps_aload_n dX5_teach_17 rfl) ?_
  refine px_ok_cons (fgX5_10 dX5_teach_18) ?_
  refine px_ok_cons (ps_iload_n dX5_teach_21 rfl) ?_
  refine px_ok_cons (ps_iload_n dX5_teach_22 rfl) ?_
  refine px_ok_cons (ps_callV mX0_learn (fun _ _ => rfl) (C := RX0) rfl (fun _ _ ht => px_cwV wgC (wdC_7_in _ (List.mem_of_getElem? (i := 18) rfl)) (wdC_1_in _ (List.mem_of_getElem? (i := 22) rfl)) (wdC_1_in _ (List.mem_of_getElem? (i := 23) rfl)) (wdC_0_in _ (List.mem_of_getElem? (i := 22) rfl)) (wdC_1_in _ (List.mem_of_getElem? (i := 2) rfl)) (by decide +kernel) rfl rfl (by decide) ht) dX5_teach_23) ?_
  refine px_ok_cons (ps_aload_n dX5_teach_26 rfl) ?_
  refine px_ok_cons (fgX5_10 dX5_teach_27) ?_
  refine px_ok_cons (fgX5_119 dX5_teach_30) ?_
  refine px_ok_cons (ps_iload_n dX5_teach_33 rfl) ?_
  refine px_ok_cons (ps_iaload dX5_teach_34) ?_
  refine px_ok_cons (ps_ireturn rfl dX5_teach_35) ?_
  exact px_ok_nil
set_option maxRecDepth 100000 in
set_option maxHeartbeats 4000000 in
theorem sgX5_teach_0 {po : Int32 → px_St → Prop} {G : px_K} (hG : px_cl (opX5_teach po) G) (v1 : Int32) (v2 : Int32) (σ : px_St)
    (H : ∃ g3 : gtX5_isParrot, qrX5_isParrot g3 v1 σ ∧ ∀ (r1 : Int32) (σ2 : px_St), qoX5_isParrot g3 v1 σ r1 σ2 → ((r1 = 0) → po (-1 : Int32) σ2) ∧ (¬ (r1 = 0) → ∃ g7 : gtX5_isSound, qrX5_isSound g7 v2 σ2 ∧ ∀ (r5 : Int32) (σ6 : px_St), qoX5_isSound g7 v2 σ2 r5 σ6 → ((¬ r5 = 0) → ∃ g11 : gtX0_learn, qrX0_learn g11 8 v1 v2 σ6 ∧ ∀ (r9 : Unit) (σ10 : px_St), qoX0_learn g11 8 v1 v2 σ6 r9 σ10 → vp_in v1 5 ∧ po (σ10.1 10 v1.toNatClampNeg) σ10) ∧ (¬ (¬ r5 = 0) → po (-1 : Int32) σ6))) :
    G 0 (px_ent 3 [.ref 0, .int v1, .int v2]) [] σ := by
  refine hG.1 0 _ _ rfl _ _ _ ?_
  refine hG.1 1 _ _ rfl _ _ _ ?_
  refine hG.1 2 _ _ rfl _ _ _ ?_
  obtain ⟨g3, H⟩ := H
  refine ⟨⟨rfl, by decide⟩, Nat.le_of_ble_eq_true rfl, g3, ⟨_, rfl, H.1⟩, fun r1 σ2 hp4 => ?_⟩
  replace H := H.2 r1 σ2 hp4
  refine hG.1 3 _ _ rfl _ _ _ ?_
  refine ⟨fun h14 => ?_, fun h14 => ?_⟩
  · replace H := H.1 h14
    refine hG.1 7 _ _ rfl _ _ _ ?_
    refine hG.1 8 _ _ rfl _ _ _ ?_
    exact ⟨rfl, H⟩
  · replace H := H.2 h14
    refine hG.1 4 _ _ rfl _ _ _ ?_
    refine hG.1 5 _ _ rfl _ _ _ ?_
    obtain ⟨g7, H⟩ := H
    refine ⟨Nat.le_of_ble_eq_true rfl, Nat.le_of_ble_eq_true rfl, g7, ⟨_, rfl, H.1⟩, fun r5 σ6 hp8 => ?_⟩
    replace H := H.2 r5 σ6 hp8
    refine hG.1 6 _ _ rfl _ _ _ ?_
    refine ⟨fun h13 => ?_, fun h13 => ?_⟩
    · replace H := H.1 h13
      refine hG.1 9 _ _ rfl _ _ _ ?_
      refine hG.1 10 _ _ rfl _ _ _ ?_
      refine ⟨⟨rfl, by decide⟩, ?_⟩
      refine hG.1 11 _ _ rfl _ _ _ ?_
      refine hG.1 12 _ _ rfl _ _ _ ?_
      refine hG.1 13 _ _ rfl _ _ _ ?_
      obtain ⟨g11, H⟩ := H
      refine ⟨⟨rfl, by decide⟩, Nat.le_of_ble_eq_true rfl, g11, ⟨_, _, _, rfl, (Or.inl rfl), H.1⟩, fun r9 σ10 hp12 => ?_⟩
      replace H := H.2 r9 σ10 hp12
      refine hG.1 14 _ _ rfl _ _ _ ?_
      refine hG.1 15 _ _ rfl _ _ _ ?_
      refine ⟨⟨rfl, by decide⟩, ?_⟩
      refine hG.1 16 _ _ rfl _ _ _ ?_
      refine ⟨⟨rfl, by decide⟩, ?_⟩
      refine hG.1 17 _ _ rfl _ _ _ ?_
      refine hG.1 18 _ _ rfl _ _ _ ?_
      refine ⟨⟨rfl, by decide⟩, H.1, ?_⟩
      replace H := H.2
      refine hG.1 19 _ _ rfl _ _ _ ?_
      exact ⟨rfl, H⟩
    · replace H := H.2 h13
      refine hG.1 7 _ _ rfl _ _ _ ?_
      refine hG.1 8 _ _ rfl _ _ _ ?_
      exact ⟨rfl, H⟩
set_option maxRecDepth 100000 in
set_option maxHeartbeats 4000000 in
theorem hhX5_teach (g : gtX5_teach) (v1 : Int32) (v2 : Int32) (σ : px_St) (h : qrX5_teach g v1 v2 σ) (G : px_K) (hG : px_cl (opX5_teach (qoX5_teach g v1 v2 σ)) G) : G 0 (px_ent 3 [.ref 0, .int v1, .int v2]) [] σ := by
  obtain ⟨hX, hok⟩ := h
  have hV := hX.1
  have hvk := hok.1.1
  have h5 := hvk.1.1
  refine sgX5_teach_0 hG _ _ σ ⟨g.1, hV, fun r1 σ1 h1 => ?_⟩
  obtain ⟨rfl, b1⟩ := h1
  unfold qoX5_teach x_teach
  refine bz2 b1 (fun z => ⟨(), trivial, fun r2 σ2 h2 => ?_⟩) (fun z => ?_)
  · obtain ⟨rfl, b2⟩ := h2
    refine bz1 b2 (fun y => ?_) (fun y => ?_)
    · rw [xif_t ⟨z, y⟩]
      obtain ⟨p, hp, rfl⟩ := (rng1 (by omega)).mp z
      obtain ⟨s, hs, rfl⟩ := (rngc 9 9 rfl (by omega)).mp y
      refine ⟨(g.1, p, s), ⟨hV, hvk.1, hp, hs, rfl, rfl⟩, fun _ σ3 h3 => ?_⟩
      obtain ⟨q1, q2⟩ := h3
      unfold xp
      rw [nI_clamp (by omega), nI_clamp (by omega)]
      refine ⟨vp_in_nI (by omega) (by decide), ?_, q2.cl hX q1⟩
      have e := (q1.2 p hp).2.1
      show σ3.1 10 p = nI (pv_learn (g.1.2.2.2 p) s).2.2.length
      rw [e]
      show nI (if p = p then pv_learn (g.1.2.2.2 p) s else g.1.2.2.2 p).2.2.length = _
      rw [if_pos rfl]
    · rw [xif_f (fun q => y q.2)]
      exact ⟨rfl, hX⟩
  · rw [xif_f (fun q => z q.1)]
    exact ⟨rfl, hX⟩
theorem mX5_teach (g : gtX5_teach) : px_Met dC yX5_teach (Cond.code yX5_teach cX5_teach 3 (some .int) :: wdC) rmX5_teach px_vI (prX5_teach g) (poX5_teach g) :=
  px_met (Z := (cX5_teach, 3, RX5, Cond.code yX5_teach cX5_teach 3 (some .int) :: wdC, (some .int), rmX5_teach, dC)) opX5_teach (by decide) rfl rfl okX5_teach (fun As σ h => by obtain ⟨v1, v2, rfl, h⟩ := h; exact Nat.le_of_ble_eq_true rfl) (fun As σ h G hG => by obtain ⟨v1, v2, rfl, h⟩ := h; exact hhX5_teach g v1 v2 σ h G hG)
abbrev gtX5_ear : Type := pv_X
def qrX5_ear (X : pv_X) (_ : Int32) (σ : px_St) : Prop := cl_is σ X ∧ xo X
def qoX5_ear (X : pv_X) (v : Int32) (_ : px_St) (r : Int32) (σ' : px_St) : Prop := r = (x_ear X v).1 ∧ cl_is σ' (x_ear X v).2
theorem av_obj {σ : px_St} {a j : Nat} {x : Int32} {V : pv_V} {p : Nat} {P : pv_P} (h : av_par σ a p P) : av_par (px_up σ a j x) a p P := by
  obtain ⟨f1, f2, f3, f4⟩ := h
  exact ⟨by rw [px_up_n (by omega)]; exact f1, by rw [px_up_n (by omega)]; exact f2, by rw [px_up_n (by omega)]; exact f3, fun i x hx => by rw [px_up_n (by omega)]; exact f4 i x hx⟩
def prX5_ear (g : gtX5_ear) : List Value → px_St → Prop := fun As σ => ∃ v1 : Int32, As = [.ref 0, .int v1] ∧ qrX5_ear g v1 σ
def poX5_ear (g : gtX5_ear) : List Value → px_St → Int32 → px_St → Prop
  | [.ref _, .int v1], σ, r, σ' => qoX5_ear g v1 σ r σ'
  | _, _, _, _ => False
theorem dX5_ear_0 : decode cX5_ear 0 = .ok (.iload_n 1, 1) := by decide +kernel
theorem dX5_ear_1 : decode cX5_ear 1 = .ok (.iconst 1, 1) := by decide +kernel
theorem dX5_ear_2 : decode cX5_ear 2 = .ok (.iconst 4, 1) := by decide +kernel
theorem dX5_ear_3 : decode cX5_ear 3 = .ok (.invokestatic 61, 3) := by decide +kernel
theorem dX5_ear_6 : decode cX5_ear 6 = .ok (.ifCond .ne 5, 3) := by decide +kernel
theorem dX5_ear_9 : decode cX5_ear 9 = .ok (.iconst (-1), 1) := by decide +kernel
theorem dX5_ear_10 : decode cX5_ear 10 = .ok (.ireturn, 1) := by decide +kernel
theorem dX5_ear_11 : decode cX5_ear 11 = .ok (.aload_n 0, 1) := by decide +kernel
theorem dX5_ear_12 : decode cX5_ear 12 = .ok (.getfield 10, 3) := by decide +kernel
theorem dX5_ear_15 : decode cX5_ear 15 = .ok (.getfield 99, 3) := by decide +kernel
theorem dX5_ear_18 : decode cX5_ear 18 = .ok (.istore_n 2, 1) := by decide +kernel
theorem dX5_ear_19 : decode cX5_ear 19 = .ok (.aload_n 0, 1) := by decide +kernel
theorem dX5_ear_20 : decode cX5_ear 20 = .ok (.getfield 10, 3) := by decide +kernel
theorem dX5_ear_23 : decode cX5_ear 23 = .ok (.iload_n 1, 1) := by decide +kernel
theorem dX5_ear_24 : decode cX5_ear 24 = .ok (.putfield 99, 3) := by decide +kernel
theorem dX5_ear_27 : decode cX5_ear 27 = .ok (.iload_n 2, 1) := by decide +kernel
theorem dX5_ear_28 : decode cX5_ear 28 = .ok (.ireturn, 1) := by decide +kernel
abbrev rmX5_ear : Room := { frames := 1, cells := 0, slots := 0, locals := 22 }
def opX5_ear (po : Int32 → px_St → Prop) : List (Nat × px_Op) := [
  (0, px_il 1 1),
  (1, px_push 2 (.int 1)),
  (2, px_push 3 (.int 4)),
  (3, px_callS 6 3 px_vI prX5_isWithin poX5_isWithin),
  (6, px_if 9 11 (fun x => ¬ x = 0)),
  (9, px_push 10 (.int (-1))),
  (10, px_iret (.int) po),
  (11, px_al 12 0),
  (12, px_get dC 15 5 0),
  (15, px_get dC 18 0 1),
  (18, px_is 19 2),
  (19, px_al 20 0),
  (20, px_get dC 23 5 0),
  (23, px_il 24 1),
  (24, px_put dC 27 0 1 .int),
  (27, px_il 28 2),
  (28, px_iret (.int) po)]
set_option maxRecDepth 100000 in
set_option maxHeartbeats 4000000 in
theorem okX5_ear : ∀ (po : Int32 → px_St → Prop) (i pc : Nat) (op : px_Op), (opX5_ear po)[i]? = some (pc, op) → px_Snd (cX5_ear, 3, RX5, Cond.code yX5_ear cX5_ear 3 (some .int) :: wdC, (some .int), rmX5_ear, dC) px_vI po pc op := by
  intro po
  unfold opX5_ear
  refine px_ok_cons (ps_iload_n dX5_ear_0 rfl) ?_
  refine px_ok_cons (ps_iconst dX5_ear_1 (by decide)) ?_
  refine px_ok_cons (ps_iconst dX5_ear_2 (by decide)) ?_
  refine px_ok_cons (ps_callS mX5_isWithin (fun _ _ => rfl) (fun _ _ ht => px_cwS wgC (wdC_4_in _ (List.mem_of_getElem? (i := 29) rfl)) (wdC_4_in _ (List.mem_of_getElem? (i := 22) rfl)) (wdC_4_in _ (List.mem_of_getElem? (i := 23) rfl)) (wdC_4_in _ (List.mem_of_getElem? (i := 20) rfl)) (by decide +kernel) rfl rfl (by decide) ht) dX5_ear_3) ?_
  refine px_ok_cons (ps_if_ne dX5_ear_6 (by decide)) ?_
  refine px_ok_cons (ps_iconst dX5_ear_9 (by decide)) ?_
  refine px_ok_cons (ps_ireturn rfl dX5_ear_10) ?_
  refine px_ok_cons (ps_aload_n dX5_ear_11 rfl) ?_
  refine px_ok_cons (fgX5_10 dX5_ear_12) ?_
  refine px_ok_cons (fgX5_99 dX5_ear_15) ?_
  refine px_ok_cons (ps_istore_n dX5_ear_18 rfl (by decide)) ?_
  refine px_ok_cons (ps_aload_n dX5_ear_19 rfl) ?_
  refine px_ok_cons (fgX5_10 dX5_ear_20) ?_
  refine px_ok_cons (ps_iload_n dX5_ear_23 rfl) ?_
  refine px_ok_cons (fpX5_99 dX5_ear_24) ?_
  refine px_ok_cons (ps_iload_n dX5_ear_27 rfl) ?_
  refine px_ok_cons (ps_ireturn rfl dX5_ear_28) ?_
  exact px_ok_nil
set_option maxRecDepth 100000 in
set_option maxHeartbeats 4000000 in
theorem sgX5_ear_0 {po : Int32 → px_St → Prop} {G : px_K} (hG : px_cl (opX5_ear po) G) (v1 : Int32) (σ : px_St)
    (H : ∃ g3 : gtX5_isWithin, qrX5_isWithin g3 v1 (1 : Int32) (4 : Int32) σ ∧ ∀ (r1 : Int32) (σ2 : px_St), qoX5_isWithin g3 v1 (1 : Int32) (4 : Int32) σ r1 σ2 → ((¬ r1 = 0) → po (σ2.1 8 1) (px_up σ2 8 1 v1)) ∧ (¬ (¬ r1 = 0) → po (-1 : Int32) σ2)) :
    G 0 (px_ent 3 [.ref 0, .int v1]) [] σ := by
  refine hG.1 0 _ _ rfl _ _ _ ?_
  refine hG.1 1 _ _ rfl _ _ _ ?_
  refine hG.1 2 _ _ rfl _ _ _ ?_
  refine hG.1 3 _ _ rfl _ _ _ ?_
  obtain ⟨g3, H⟩ := H
  refine ⟨Nat.le_of_ble_eq_true rfl, Nat.le_of_ble_eq_true rfl, g3, ⟨_, _, _, rfl, H.1⟩, fun r1 σ2 hp4 => ?_⟩
  replace H := H.2 r1 σ2 hp4
  refine hG.1 4 _ _ rfl _ _ _ ?_
  refine ⟨fun h5 => ?_, fun h5 => ?_⟩
  · replace H := H.1 h5
    refine hG.1 7 _ _ rfl _ _ _ ?_
    refine hG.1 8 _ _ rfl _ _ _ ?_
    refine ⟨⟨rfl, by decide⟩, ?_⟩
    refine hG.1 9 _ _ rfl _ _ _ ?_
    refine ⟨⟨rfl, by decide⟩, ?_⟩
    refine hG.1 10 _ _ rfl _ _ _ ?_
    show G 19 [some (.ref 0), some (.int v1), some (.int (σ2.1 8 1))] [] σ2
    refine hG.1 11 _ _ rfl _ _ _ ?_
    refine hG.1 12 _ _ rfl _ _ _ ?_
    refine ⟨⟨rfl, by decide⟩, ?_⟩
    refine hG.1 13 _ _ rfl _ _ _ ?_
    refine hG.1 14 _ _ rfl _ _ _ ?_
    refine ⟨⟨rfl, by decide⟩, ⟨rfl, rfl⟩, ?_⟩
    refine hG.1 15 _ _ rfl _ _ _ ?_
    refine hG.1 16 _ _ rfl _ _ _ ?_
    exact ⟨rfl, H⟩
  · replace H := H.2 h5
    refine hG.1 5 _ _ rfl _ _ _ ?_
    refine hG.1 6 _ _ rfl _ _ _ ?_
    exact ⟨rfl, H⟩
set_option maxRecDepth 100000 in
set_option maxHeartbeats 4000000 in
theorem hhX5_ear (g : gtX5_ear) (v1 : Int32) (σ : px_St) (h : qrX5_ear g v1 σ) (G : px_K) (hG : px_cl (opX5_ear (qoX5_ear g v1 σ)) G) : G 0 (px_ent 3 [.ref 0, .int v1]) [] σ := by
  obtain ⟨hX, hok⟩ := h
  have hV := hX.1
  refine sgX5_ear_0 hG _ σ ⟨(), trivial, fun r1 σ1 h1 => ?_⟩
  obtain ⟨rfl, b1⟩ := h1
  unfold qoX5_ear x_ear
  refine bz1 b1 (fun z => ?_) (fun z => ?_)
  · rw [xif_t z]
    obtain ⟨v, hv, rfl⟩ := (rngc 4 4 rfl (by omega)).mp ⟨Int32.le_trans (by decide) z.1, z.2⟩
    rw [nI_clamp (by omega)]
    refine ⟨hV.1.2.1, cl_V hX ⟨⟨?_, ?_, ?_⟩, fun p hp => av_obj (V := g.1) (hV.2 p hp)⟩ (fun k hk => px_up_n (by omega))⟩
    · rw [px_up_at, if_neg (by omega)]; exact hV.1.1
    · rw [px_up_at, if_pos ⟨rfl, rfl⟩]
    · rw [px_up_at, if_neg (by omega)]; exact hV.1.2.2
  · rw [xif_f z]
    exact ⟨rfl, hX⟩
theorem mX5_ear (g : gtX5_ear) : px_Met dC yX5_ear (Cond.code yX5_ear cX5_ear 3 (some .int) :: wdC) rmX5_ear px_vI (prX5_ear g) (poX5_ear g) :=
  px_met (Z := (cX5_ear, 3, RX5, Cond.code yX5_ear cX5_ear 3 (some .int) :: wdC, (some .int), rmX5_ear, dC)) opX5_ear (by decide) rfl rfl okX5_ear (fun As σ h => by obtain ⟨v1, rfl, h⟩ := h; exact Nat.le_of_ble_eq_true rfl) (fun As σ h G hG => by obtain ⟨v1, rfl, h⟩ := h; exact hhX5_ear g v1 σ h G hG)
abbrev gtX5_perch : Type := pv_X
def qrX5_perch (X : pv_X) (_ _ : Int32) (σ : px_St) : Prop := cl_is σ X ∧ xo X
def qoX5_perch (X : pv_X) (k v : Int32) (_ : px_St) (r : Int32) (σ' : px_St) : Prop := r = (x_perch X k v).1 ∧ cl_is σ' (x_perch X k v).2
theorem pv_add_w {V : pv_V} {P : pv_P} (h : pv_w V) (hn : V.1 < 5) (hP : pv_okW P) : pv_w (pv_add V P) := by
  obtain ⟨h1, h2, h3, h4⟩ := h
  refine ⟨by show V.1 + 1 ≤ 5; omega, h2, h3, fun q hq => ?_⟩
  have hq' : q < V.1 + 1 := hq
  show pv_okW (if q = V.1 then P else V.2.2.2 q)
  by_cases hqe : q = V.1
  · rw [if_pos hqe]; exact hP
  · rw [if_neg hqe]; exact h4 q (by omega)
theorem pv_add_at (V : pv_V) (P Q : pv_P) : pv_at (pv_add V P) V.1 Q = pv_add V Q := by
  unfold pv_at pv_add
  congr 3
  funext q
  by_cases h : q = V.1
  · rw [if_pos h, if_pos h]
  · rw [if_neg h, if_neg h]; simp only [if_neg h]
theorem pv_add_p (V : pv_V) (P : pv_P) : (pv_add V P).2.2.2 V.1 = P := by
  show (if V.1 = V.1 then P else _) = P
  rw [if_pos rfl]
def prX5_perch (g : gtX5_perch) : List Value → px_St → Prop := fun As σ => ∃ v1 : Int32, ∃ v2 : Int32, As = [.ref 0, .int v1, .int v2] ∧ qrX5_perch g v1 v2 σ
def poX5_perch (g : gtX5_perch) : List Value → px_St → Int32 → px_St → Prop
  | [.ref _, .int v1, .int v2], σ, r, σ' => qoX5_perch g v1 v2 σ r σ'
  | _, _, _, _ => False
theorem dX5_perch_0 : decode cX5_perch 0 = .ok (.iload_n 1, 1) := by decide +kernel
theorem dX5_perch_1 : decode cX5_perch 1 = .ok (.invokestatic 138, 3) := by decide +kernel
theorem dX5_perch_4 : decode cX5_perch 4 = .ok (.ifCond .eq 10, 3) := by decide +kernel
theorem dX5_perch_7 : decode cX5_perch 7 = .ok (.iload_n 2, 1) := by decide +kernel
theorem dX5_perch_8 : decode cX5_perch 8 = .ok (.invokestatic 132, 3) := by decide +kernel
theorem dX5_perch_11 : decode cX5_perch 11 = .ok (.ifCond .ne 5, 3) := by decide +kernel
theorem dX5_perch_14 : decode cX5_perch 14 = .ok (.iconst (-1), 1) := by decide +kernel
theorem dX5_perch_15 : decode cX5_perch 15 = .ok (.ireturn, 1) := by decide +kernel
theorem dX5_perch_16 : decode cX5_perch 16 = .ok (.aload_n 0, 1) := by decide +kernel
theorem dX5_perch_17 : decode cX5_perch 17 = .ok (.getfield 10, 3) := by decide +kernel
theorem dX5_perch_20 : decode cX5_perch 20 = .ok (.getfield 93, 3) := by decide +kernel
theorem dX5_perch_23 : decode cX5_perch 23 = .ok (.iconst 5, 1) := by decide +kernel
theorem dX5_perch_24 : decode cX5_perch 24 = .ok (.if_icmp .lt 6, 3) := by decide +kernel
theorem dX5_perch_27 : decode cX5_perch 27 = .ok (.bipush (-3), 2) := by decide +kernel
theorem dX5_perch_29 : decode cX5_perch 29 = .ok (.ireturn, 1) := by decide +kernel
theorem dX5_perch_30 : decode cX5_perch 30 = .ok (.aload_n 0, 1) := by decide +kernel
theorem dX5_perch_31 : decode cX5_perch 31 = .ok (.getfield 10, 3) := by decide +kernel
theorem dX5_perch_34 : decode cX5_perch 34 = .ok (.iload_n 1, 1) := by decide +kernel
theorem dX5_perch_35 : decode cX5_perch 35 = .ok (.invokevirtual 149, 3) := by decide +kernel
theorem dX5_perch_38 : decode cX5_perch 38 = .ok (.aload_n 0, 1) := by decide +kernel
theorem dX5_perch_39 : decode cX5_perch 39 = .ok (.getfield 10, 3) := by decide +kernel
theorem dX5_perch_42 : decode cX5_perch 42 = .ok (.aload_n 0, 1) := by decide +kernel
theorem dX5_perch_43 : decode cX5_perch 43 = .ok (.getfield 10, 3) := by decide +kernel
theorem dX5_perch_46 : decode cX5_perch 46 = .ok (.getfield 93, 3) := by decide +kernel
theorem dX5_perch_49 : decode cX5_perch 49 = .ok (.iconst 1, 1) := by decide +kernel
theorem dX5_perch_50 : decode cX5_perch 50 = .ok (.isub, 1) := by decide +kernel
theorem dX5_perch_51 : decode cX5_perch 51 = .ok (.iload_n 2, 1) := by decide +kernel
theorem dX5_perch_52 : decode cX5_perch 52 = .ok (.invokevirtual 153, 3) := by decide +kernel
theorem dX5_perch_55 : decode cX5_perch 55 = .ok (.aload_n 0, 1) := by decide +kernel
theorem dX5_perch_56 : decode cX5_perch 56 = .ok (.getfield 10, 3) := by decide +kernel
theorem dX5_perch_59 : decode cX5_perch 59 = .ok (.getfield 93, 3) := by decide +kernel
theorem dX5_perch_62 : decode cX5_perch 62 = .ok (.ireturn, 1) := by decide +kernel
abbrev rmX5_perch : Room := { frames := 2, cells := 0, slots := 0, locals := 42 }
def opX5_perch (po : Int32 → px_St → Prop) : List (Nat × px_Op) := [
  (0, px_il 1 1),
  (1, px_callS 4 1 px_vI prX5_isKind poX5_isKind),
  (4, px_if 7 14 (fun x => x = 0)),
  (7, px_il 8 2),
  (8, px_callS 11 1 px_vI prX5_isSound poX5_isSound),
  (11, px_if 14 16 (fun x => ¬ x = 0)),
  (14, px_push 15 (.int (-1))),
  (15, px_iret (.int) po),
  (16, px_al 17 0),
  (17, px_get dC 20 5 0),
  (20, px_get dC 23 0 0),
  (23, px_push 24 (.int 5)),
  (24, px_ic 27 30 (fun x y => x < y)),
  (27, px_push 29 (.int (-3))),
  (29, px_iret (.int) po),
  (30, px_al 31 0),
  (31, px_get dC 34 5 0),
  (34, px_il 35 1),
  (35, px_callV dC 38 0 1 px_vV prX0_addParrot poX0_addParrot),
  (38, px_al 39 0),
  (39, px_get dC 42 5 0),
  (42, px_al 43 0),
  (43, px_get dC 46 5 0),
  (46, px_get dC 49 0 0),
  (49, px_push 50 (.int 1)),
  (50, px_bin 51 (fun x y => x - y)),
  (51, px_il 52 2),
  (52, px_callV dC 55 0 2 px_vV prX0_putBehind poX0_putBehind),
  (55, px_al 56 0),
  (56, px_get dC 59 5 0),
  (59, px_get dC 62 0 0),
  (62, px_iret (.int) po)]
set_option maxRecDepth 100000 in
set_option maxHeartbeats 4000000 in
theorem okX5_perch : ∀ (po : Int32 → px_St → Prop) (i pc : Nat) (op : px_Op), (opX5_perch po)[i]? = some (pc, op) → px_Snd (cX5_perch, 3, RX5, Cond.code yX5_perch cX5_perch 3 (some .int) :: wdC, (some .int), rmX5_perch, dC) px_vI po pc op := by
  intro po
  unfold opX5_perch
  refine px_ok_cons (ps_iload_n dX5_perch_0 rfl) ?_
  refine px_ok_cons (ps_callS mX5_isKind (fun _ _ => rfl) (fun _ _ ht => px_cwS wgC (wdC_7_in _ (List.mem_of_getElem? (i := 11) rfl)) (wdC_7_in _ (List.mem_of_getElem? (i := 12) rfl)) (wdC_4_in _ (List.mem_of_getElem? (i := 23) rfl)) (wdC_7_in _ (List.mem_of_getElem? (i := 9) rfl)) (by decide +kernel) rfl rfl (by decide) ht) dX5_perch_1) ?_
  refine px_ok_cons (ps_if_eq dX5_perch_4 (by decide)) ?_
  refine px_ok_cons (ps_iload_n dX5_perch_7 rfl) ?_
  refine px_ok_cons (ps_callS mX5_isSound (fun _ _ => rfl) (fun _ _ ht => px_cwS wgC (wdC_7_in _ (List.mem_of_getElem? (i := 5) rfl)) (wdC_4_in _ (List.mem_of_getElem? (i := 32) rfl)) (wdC_4_in _ (List.mem_of_getElem? (i := 23) rfl)) (wdC_4_in _ (List.mem_of_getElem? (i := 28) rfl)) (by decide +kernel) rfl rfl (by decide) ht) dX5_perch_8) ?_
  refine px_ok_cons (ps_if_ne dX5_perch_11 (by decide)) ?_
  refine px_ok_cons (ps_iconst dX5_perch_14 (by decide)) ?_
  refine px_ok_cons (ps_ireturn rfl dX5_perch_15) ?_
  refine px_ok_cons (ps_aload_n dX5_perch_16 rfl) ?_
  refine px_ok_cons (fgX5_10 dX5_perch_17) ?_
  refine px_ok_cons (fgX5_93 dX5_perch_20) ?_
  refine px_ok_cons (ps_iconst dX5_perch_23 (by decide)) ?_
  refine px_ok_cons (ps_icmp_lt dX5_perch_24 (by decide)) ?_
  refine px_ok_cons (ps_bipush dX5_perch_27 (by decide)) ?_
  refine px_ok_cons (ps_ireturn rfl dX5_perch_29) ?_
  refine px_ok_cons (ps_aload_n dX5_perch_30 rfl) ?_
  refine px_ok_cons (fgX5_10 dX5_perch_31) ?_
  refine px_ok_cons (ps_iload_n dX5_perch_34 rfl) ?_
  refine px_ok_cons (ps_callV mX0_addParrot (fun _ _ => rfl) (C := RX0) rfl (fun _ _ ht => px_cwV wgC (wdC_7_in _ (List.mem_of_getElem? (i := 21) rfl)) (wdC_4_in _ (List.mem_of_getElem? (i := 35) rfl)) (wdC_4_in _ (List.mem_of_getElem? (i := 36) rfl)) (wdC_0_in _ (List.mem_of_getElem? (i := 22) rfl)) (wdC_0_in _ (List.mem_of_getElem? (i := 23) rfl)) (by decide +kernel) rfl rfl (by decide) ht) dX5_perch_35) ?_
  refine px_ok_cons (ps_aload_n dX5_perch_38 rfl) ?_
  refine px_ok_cons (fgX5_10 dX5_perch_39) ?_
  refine px_ok_cons (ps_aload_n dX5_perch_42 rfl) ?_
  refine px_ok_cons (fgX5_10 dX5_perch_43) ?_
  refine px_ok_cons (fgX5_93 dX5_perch_46) ?_
  refine px_ok_cons (ps_iconst dX5_perch_49 (by decide)) ?_
  refine px_ok_cons (ps_isub dX5_perch_50) ?_
  refine px_ok_cons (ps_iload_n dX5_perch_51 rfl) ?_
  refine px_ok_cons (ps_callV mX0_putBehind (fun _ _ => rfl) (C := RX0) rfl (fun _ _ ht => px_cwV wgC (wdC_7_in _ (List.mem_of_getElem? (i := 22) rfl)) (wdC_1_in _ (List.mem_of_getElem? (i := 10) rfl)) (wdC_1_in _ (List.mem_of_getElem? (i := 11) rfl)) (wdC_0_in _ (List.mem_of_getElem? (i := 22) rfl)) (wdC_1_in _ (List.mem_of_getElem? (i := 1) rfl)) (by decide +kernel) rfl rfl (by decide) ht) dX5_perch_52) ?_
  refine px_ok_cons (ps_aload_n dX5_perch_55 rfl) ?_
  refine px_ok_cons (fgX5_10 dX5_perch_56) ?_
  refine px_ok_cons (fgX5_93 dX5_perch_59) ?_
  refine px_ok_cons (ps_ireturn rfl dX5_perch_62) ?_
  exact px_ok_nil
set_option maxRecDepth 100000 in
set_option maxHeartbeats 4000000 in
theorem sgX5_perch_0 {po : Int32 → px_St → Prop} {G : px_K} (hG : px_cl (opX5_perch po) G) (v1 : Int32) (v2 : Int32) (σ : px_St)
    (H : ∃ g3 : gtX5_isKind, qrX5_isKind g3 v1 σ ∧ ∀ (r1 : Int32) (σ2 : px_St), qoX5_isKind g3 v1 σ r1 σ2 → ((r1 = 0) → po (-1 : Int32) σ2) ∧ (¬ (r1 = 0) → ∃ g7 : gtX5_isSound, qrX5_isSound g7 v2 σ2 ∧ ∀ (r5 : Int32) (σ6 : px_St), qoX5_isSound g7 v2 σ2 r5 σ6 → ((¬ r5 = 0) → (((σ6.1 8 0) < (5 : Int32)) → ∃ g11 : gtX0_addParrot, qrX0_addParrot g11 8 v1 σ6 ∧ ∀ (r9 : Unit) (σ10 : px_St), qoX0_addParrot g11 8 v1 σ6 r9 σ10 → ∃ g15 : gtX0_putBehind, qrX0_putBehind g15 8 ((σ10.1 8 0) - (1 : Int32)) v2 σ10 ∧ ∀ (r13 : Unit) (σ14 : px_St), qoX0_putBehind g15 8 ((σ10.1 8 0) - (1 : Int32)) v2 σ10 r13 σ14 → po (σ14.1 8 0) σ14) ∧ (¬ ((σ6.1 8 0) < (5 : Int32)) → po (-3 : Int32) σ6)) ∧ (¬ (¬ r5 = 0) → po (-1 : Int32) σ6))) :
    G 0 (px_ent 3 [.ref 0, .int v1, .int v2]) [] σ := by
  refine hG.1 0 _ _ rfl _ _ _ ?_
  refine hG.1 1 _ _ rfl _ _ _ ?_
  obtain ⟨g3, H⟩ := H
  refine ⟨Nat.le_of_ble_eq_true rfl, Nat.le_of_ble_eq_true rfl, g3, ⟨_, rfl, H.1⟩, fun r1 σ2 hp4 => ?_⟩
  replace H := H.2 r1 σ2 hp4
  refine hG.1 2 _ _ rfl _ _ _ ?_
  refine ⟨fun h19 => ?_, fun h19 => ?_⟩
  · replace H := H.1 h19
    refine hG.1 6 _ _ rfl _ _ _ ?_
    refine hG.1 7 _ _ rfl _ _ _ ?_
    exact ⟨rfl, H⟩
  · replace H := H.2 h19
    refine hG.1 3 _ _ rfl _ _ _ ?_
    refine hG.1 4 _ _ rfl _ _ _ ?_
    obtain ⟨g7, H⟩ := H
    refine ⟨Nat.le_of_ble_eq_true rfl, Nat.le_of_ble_eq_true rfl, g7, ⟨_, rfl, H.1⟩, fun r5 σ6 hp8 => ?_⟩
    replace H := H.2 r5 σ6 hp8
    refine hG.1 5 _ _ rfl _ _ _ ?_
    refine ⟨fun h18 => ?_, fun h18 => ?_⟩
    · replace H := H.1 h18
      refine hG.1 8 _ _ rfl _ _ _ ?_
      refine hG.1 9 _ _ rfl _ _ _ ?_
      refine ⟨⟨rfl, by decide⟩, ?_⟩
      refine hG.1 10 _ _ rfl _ _ _ ?_
      refine ⟨⟨rfl, by decide⟩, ?_⟩
      refine hG.1 11 _ _ rfl _ _ _ ?_
      refine hG.1 12 _ _ rfl _ _ _ ?_
      refine ⟨fun h17 => ?_, fun h17 => ?_⟩
      · replace H := H.1 h17
        refine hG.1 15 _ _ rfl _ _ _ ?_
        refine hG.1 16 _ _ rfl _ _ _ ?_
        refine ⟨⟨rfl, by decide⟩, ?_⟩
        refine hG.1 17 _ _ rfl _ _ _ ?_
        refine hG.1 18 _ _ rfl _ _ _ ?_
        obtain ⟨g11, H⟩ := H
        refine ⟨⟨rfl, by decide⟩, Nat.le_of_ble_eq_true rfl, g11, ⟨_, _, rfl, (Or.inl rfl), H.1⟩, fun r9 σ10 hp12 => ?_⟩
        replace H := H.2 r9 σ10 hp12
        refine hG.1 19 _ _ rfl _ _ _ ?_
        refine hG.1 20 _ _ rfl _ _ _ ?_
        refine ⟨⟨rfl, by decide⟩, ?_⟩
        refine hG.1 21 _ _ rfl _ _ _ ?_
        refine hG.1 22 _ _ rfl _ _ _ ?_
        refine ⟨⟨rfl, by decide⟩, ?_⟩
        refine hG.1 23 _ _ rfl _ _ _ ?_
        refine ⟨⟨rfl, by decide⟩, ?_⟩
        refine hG.1 24 _ _ rfl _ _ _ ?_
        refine hG.1 25 _ _ rfl _ _ _ ?_
        refine hG.1 26 _ _ rfl _ _ _ ?_
        refine hG.1 27 _ _ rfl _ _ _ ?_
        obtain ⟨g15, H⟩ := H
        refine ⟨⟨rfl, by decide⟩, Nat.le_of_ble_eq_true rfl, g15, ⟨_, _, _, rfl, (Or.inl rfl), H.1⟩, fun r13 σ14 hp16 => ?_⟩
        replace H := H.2 r13 σ14 hp16
        refine hG.1 28 _ _ rfl _ _ _ ?_
        refine hG.1 29 _ _ rfl _ _ _ ?_
        refine ⟨⟨rfl, by decide⟩, ?_⟩
        refine hG.1 30 _ _ rfl _ _ _ ?_
        refine ⟨⟨rfl, by decide⟩, ?_⟩
        refine hG.1 31 _ _ rfl _ _ _ ?_
        exact ⟨rfl, H⟩
      · replace H := H.2 h17
        refine hG.1 13 _ _ rfl _ _ _ ?_
        refine hG.1 14 _ _ rfl _ _ _ ?_
        exact ⟨rfl, H⟩
    · replace H := H.2 h18
      refine hG.1 6 _ _ rfl _ _ _ ?_
      refine hG.1 7 _ _ rfl _ _ _ ?_
      exact ⟨rfl, H⟩
set_option maxRecDepth 100000 in
set_option maxHeartbeats 4000000 in
theorem hhX5_perch (g : gtX5_perch) (v1 : Int32) (v2 : Int32) (σ : px_St) (h : qrX5_perch g v1 v2 σ) (G : px_K) (hG : px_cl (opX5_perch (qoX5_perch g v1 v2 σ)) G) : G 0 (px_ent 3 [.ref 0, .int v1, .int v2]) [] σ := by
  obtain ⟨hX, hok⟩ := h
  have hV := hX.1
  have hvk := hok.1.1
  have h5 := hvk.1.1
  refine sgX5_perch_0 hG _ _ σ ⟨(), trivial, fun r1 σ1 h1 => ?_⟩
  obtain ⟨rfl, b1⟩ := h1
  unfold qoX5_perch x_perch
  refine bz2 b1 (fun z => ⟨(), trivial, fun r2 σ2 h2 => ?_⟩) (fun z => ?_)
  · obtain ⟨rfl, b2⟩ := h2
    refine bz1 b2 (fun y => ?_) (fun y => ?_)
    · rw [xif_t ⟨z, y⟩]
      obtain ⟨k, hk, rfl⟩ := (rngc 3 3 rfl (by omega)).mp z
      obtain ⟨s, hs, rfl⟩ := (rngc 9 9 rfl (by omega)).mp y
      have c5 : nI g.1.1 < 5 ↔ g.1.1 < 5 := nIlt _ 5 rfl rfl (by omega) (by omega)
      rw [hV.1.1, c5, nI_clamp (by omega), nI_clamp (by omega)]
      refine ⟨fun hn => ⟨(g.1, k), ⟨hV, hvk.1, hn, rfl⟩, fun _ σ3 h3 => ?_⟩, fun hn => ?_⟩
      · obtain ⟨q1, q2⟩ := h3
        have hw3 : pv_w (pv_add g.1 (k, 0, [])) := pv_add_w hvk.1 hn ⟨hk, by simp, by simp⟩
        have en : σ3.1 8 0 = nI (g.1.1 + 1) := q1.1.1
        rw [en, show nI (g.1.1 + 1) - 1 = nI g.1.1 from nI_pred _]
        refine ⟨(pv_add g.1 (k, 0, []), g.1.1, s), ⟨q1, hw3, Nat.lt_succ_self _, hs, rfl, rfl⟩, fun _ σ4 h4 => ?_⟩
        obtain ⟨p1, p2⟩ := h4
        rw [pv_add_p, pv_add_at] at p1
        rw [xif_t hn]
        exact ⟨p1.1.1, (q2.tr p2).cl hX p1⟩
      · rw [xif_f hn]
        exact ⟨rfl, hX⟩
    · rw [xif_f (fun q => y q.2)]
      exact ⟨rfl, hX⟩
  · rw [xif_f (fun q => z q.1)]
    exact ⟨rfl, hX⟩
theorem mX5_perch (g : gtX5_perch) : px_Met dC yX5_perch (Cond.code yX5_perch cX5_perch 3 (some .int) :: wdC) rmX5_perch px_vI (prX5_perch g) (poX5_perch g) :=
  px_met (Z := (cX5_perch, 3, RX5, Cond.code yX5_perch cX5_perch 3 (some .int) :: wdC, (some .int), rmX5_perch, dC)) opX5_perch (by decide) rfl rfl okX5_perch (fun As σ h => by obtain ⟨v1, v2, rfl, h⟩ := h; exact Nat.le_of_ble_eq_true rfl) (fun As σ h G hG => by obtain ⟨v1, v2, rfl, h⟩ := h; exact hhX5_perch g v1 v2 σ h G hG)
abbrev gtX5_sell : Type := pv_X
def qrX5_sell (X : pv_X) (_ : Int32) (σ : px_St) : Prop := cl_is σ X ∧ xo X
def qoX5_sell (X : pv_X) (v : Int32) (_ : px_St) (r : Int32) (σ' : px_St) : Prop := r = (x_sell X v).1 ∧ cl_is σ' (x_sell X v).2
def prX5_sell (g : gtX5_sell) : List Value → px_St → Prop := fun As σ => ∃ v1 : Int32, As = [.ref 0, .int v1] ∧ qrX5_sell g v1 σ
def poX5_sell (g : gtX5_sell) : List Value → px_St → Int32 → px_St → Prop
  | [.ref _, .int v1], σ, r, σ' => qoX5_sell g v1 σ r σ'
  | _, _, _, _ => False
theorem dX5_sell_0 : decode cX5_sell 0 = .ok (.iload_n 1, 1) := by decide +kernel
theorem dX5_sell_1 : decode cX5_sell 1 = .ok (.iconst 0, 1) := by decide +kernel
theorem dX5_sell_2 : decode cX5_sell 2 = .ok (.aload_n 0, 1) := by decide +kernel
theorem dX5_sell_3 : decode cX5_sell 3 = .ok (.getfield 10, 3) := by decide +kernel
theorem dX5_sell_6 : decode cX5_sell 6 = .ok (.getfield 93, 3) := by decide +kernel
theorem dX5_sell_9 : decode cX5_sell 9 = .ok (.invokestatic 61, 3) := by decide +kernel
theorem dX5_sell_12 : decode cX5_sell 12 = .ok (.ifCond .ne 5, 3) := by decide +kernel
theorem dX5_sell_15 : decode cX5_sell 15 = .ok (.iconst (-1), 1) := by decide +kernel
theorem dX5_sell_16 : decode cX5_sell 16 = .ok (.ireturn, 1) := by decide +kernel
theorem dX5_sell_17 : decode cX5_sell 17 = .ok (.aload_n 0, 1) := by decide +kernel
theorem dX5_sell_18 : decode cX5_sell 18 = .ok (.getfield 10, 3) := by decide +kernel
theorem dX5_sell_21 : decode cX5_sell 21 = .ok (.getfield 93, 3) := by decide +kernel
theorem dX5_sell_24 : decode cX5_sell 24 = .ok (.istore_n 2, 1) := by decide +kernel
theorem dX5_sell_25 : decode cX5_sell 25 = .ok (.aload_n 0, 1) := by decide +kernel
theorem dX5_sell_26 : decode cX5_sell 26 = .ok (.getfield 10, 3) := by decide +kernel
theorem dX5_sell_29 : decode cX5_sell 29 = .ok (.iload_n 1, 1) := by decide +kernel
theorem dX5_sell_30 : decode cX5_sell 30 = .ok (.putfield 93, 3) := by decide +kernel
theorem dX5_sell_33 : decode cX5_sell 33 = .ok (.iload_n 2, 1) := by decide +kernel
theorem dX5_sell_34 : decode cX5_sell 34 = .ok (.ireturn, 1) := by decide +kernel
abbrev rmX5_sell : Room := { frames := 1, cells := 0, slots := 0, locals := 22 }
def opX5_sell (po : Int32 → px_St → Prop) : List (Nat × px_Op) := [
  (0, px_il 1 1),
  (1, px_push 2 (.int 0)),
  (2, px_al 3 0),
  (3, px_get dC 6 5 0),
  (6, px_get dC 9 0 0),
  (9, px_callS 12 3 px_vI prX5_isWithin poX5_isWithin),
  (12, px_if 15 17 (fun x => ¬ x = 0)),
  (15, px_push 16 (.int (-1))),
  (16, px_iret (.int) po),
  (17, px_al 18 0),
  (18, px_get dC 21 5 0),
  (21, px_get dC 24 0 0),
  (24, px_is 25 2),
  (25, px_al 26 0),
  (26, px_get dC 29 5 0),
  (29, px_il 30 1),
  (30, px_put dC 33 0 0 .int),
  (33, px_il 34 2),
  (34, px_iret (.int) po)]
set_option maxRecDepth 100000 in
set_option maxHeartbeats 4000000 in
theorem okX5_sell : ∀ (po : Int32 → px_St → Prop) (i pc : Nat) (op : px_Op), (opX5_sell po)[i]? = some (pc, op) → px_Snd (cX5_sell, 3, RX5, Cond.code yX5_sell cX5_sell 3 (some .int) :: wdC, (some .int), rmX5_sell, dC) px_vI po pc op := by
  intro po
  unfold opX5_sell
  refine px_ok_cons (ps_iload_n dX5_sell_0 rfl) ?_
  refine px_ok_cons (ps_iconst dX5_sell_1 (by decide)) ?_
  refine px_ok_cons (ps_aload_n dX5_sell_2 rfl) ?_
  refine px_ok_cons (fgX5_10 dX5_sell_3) ?_
  refine px_ok_cons (fgX5_93 dX5_sell_6) ?_
  refine px_ok_cons (ps_callS mX5_isWithin (fun _ _ => rfl) (fun _ _ ht => px_cwS wgC (wdC_4_in _ (List.mem_of_getElem? (i := 29) rfl)) (wdC_4_in _ (List.mem_of_getElem? (i := 22) rfl)) (wdC_4_in _ (List.mem_of_getElem? (i := 23) rfl)) (wdC_4_in _ (List.mem_of_getElem? (i := 20) rfl)) (by decide +kernel) rfl rfl (by decide) ht) dX5_sell_9) ?_
  refine px_ok_cons (ps_if_ne dX5_sell_12 (by decide)) ?_
  refine px_ok_cons (ps_iconst dX5_sell_15 (by decide)) ?_
  refine px_ok_cons (ps_ireturn rfl dX5_sell_16) ?_
  refine px_ok_cons (ps_aload_n dX5_sell_17 rfl) ?_
  refine px_ok_cons (fgX5_10 dX5_sell_18) ?_
  refine px_ok_cons (fgX5_93 dX5_sell_21) ?_
  refine px_ok_cons (ps_istore_n dX5_sell_24 rfl (by decide)) ?_
  refine px_ok_cons (ps_aload_n dX5_sell_25 rfl) ?_
  refine px_ok_cons (fgX5_10 dX5_sell_26) ?_
  refine px_ok_cons (ps_iload_n dX5_sell_29 rfl) ?_
  refine px_ok_cons (fpX5_93 dX5_sell_30) ?_
  refine px_ok_cons (ps_iload_n dX5_sell_33 rfl) ?_
  refine px_ok_cons (ps_ireturn rfl dX5_sell_34) ?_
  exact px_ok_nil
set_option maxRecDepth 100000 in
set_option maxHeartbeats 4000000 in
theorem sgX5_sell_0 {po : Int32 → px_St → Prop} {G : px_K} (hG : px_cl (opX5_sell po) G) (v1 : Int32) (σ : px_St)
    (H : ∃ g3 : gtX5_isWithin, qrX5_isWithin g3 v1 (0 : Int32) (σ.1 8 0) σ ∧ ∀ (r1 : Int32) (σ2 : px_St), qoX5_isWithin g3 v1 (0 : Int32) (σ.1 8 0) σ r1 σ2 → ((¬ r1 = 0) → po (σ2.1 8 0) (px_up σ2 8 0 v1)) ∧ (¬ (¬ r1 = 0) → po (-1 : Int32) σ2)) :
    G 0 (px_ent 3 [.ref 0, .int v1]) [] σ := by
  refine hG.1 0 _ _ rfl _ _ _ ?_
  refine hG.1 1 _ _ rfl _ _ _ ?_
  refine hG.1 2 _ _ rfl _ _ _ ?_
  refine hG.1 3 _ _ rfl _ _ _ ?_
  refine ⟨⟨rfl, by decide⟩, ?_⟩
  refine hG.1 4 _ _ rfl _ _ _ ?_
  refine ⟨⟨rfl, by decide⟩, ?_⟩
  refine hG.1 5 _ _ rfl _ _ _ ?_
  obtain ⟨g3, H⟩ := H
  refine ⟨Nat.le_of_ble_eq_true rfl, Nat.le_of_ble_eq_true rfl, g3, ⟨_, _, _, rfl, H.1⟩, fun r1 σ2 hp4 => ?_⟩
  replace H := H.2 r1 σ2 hp4
  refine hG.1 6 _ _ rfl _ _ _ ?_
  refine ⟨fun h5 => ?_, fun h5 => ?_⟩
  · replace H := H.1 h5
    refine hG.1 9 _ _ rfl _ _ _ ?_
    refine hG.1 10 _ _ rfl _ _ _ ?_
    refine ⟨⟨rfl, by decide⟩, ?_⟩
    refine hG.1 11 _ _ rfl _ _ _ ?_
    refine ⟨⟨rfl, by decide⟩, ?_⟩
    refine hG.1 12 _ _ rfl _ _ _ ?_
    show G 25 [some (.ref 0), some (.int v1), some (.int (σ2.1 8 0))] [] σ2
    refine hG.1 13 _ _ rfl _ _ _ ?_
    refine hG.1 14 _ _ rfl _ _ _ ?_
    refine ⟨⟨rfl, by decide⟩, ?_⟩
    refine hG.1 15 _ _ rfl _ _ _ ?_
    refine hG.1 16 _ _ rfl _ _ _ ?_
    refine ⟨⟨rfl, by decide⟩, ⟨rfl, rfl⟩, ?_⟩
    refine hG.1 17 _ _ rfl _ _ _ ?_
    refine hG.1 18 _ _ rfl _ _ _ ?_
    exact ⟨rfl, H⟩
  · replace H := H.2 h5
    refine hG.1 7 _ _ rfl _ _ _ ?_
    refine hG.1 8 _ _ rfl _ _ _ ?_
    exact ⟨rfl, H⟩
set_option maxRecDepth 100000 in
set_option maxHeartbeats 4000000 in
theorem hhX5_sell (g : gtX5_sell) (v1 : Int32) (σ : px_St) (h : qrX5_sell g v1 σ) (G : px_K) (hG : px_cl (opX5_sell (qoX5_sell g v1 σ)) G) : G 0 (px_ent 3 [.ref 0, .int v1]) [] σ := by
  obtain ⟨hX, hok⟩ := h
  have hV := hX.1
  have h5 := hok.1.1.1.1
  refine sgX5_sell_0 hG _ σ ⟨(), trivial, fun r1 σ1 h1 => ?_⟩
  obtain ⟨rfl, b1⟩ := h1
  rw [hV.1.1] at b1
  unfold qoX5_sell x_sell
  refine bz1 b1 (fun z => ?_) (fun z => ?_)
  · rw [xif_t z]
    obtain ⟨n, hn, rfl⟩ := (rng (by omega)).mp z
    rw [nI_clamp (by omega)]
    refine ⟨hV.1.1, cl_V hX ⟨⟨?_, ?_, ?_⟩, fun p hp => av_obj (V := g.1) (hV.2 p (by have : p < n := hp; omega))⟩ (fun k hk => px_up_n (by omega))⟩
    · rw [px_up_at, if_pos ⟨rfl, rfl⟩]
    · rw [px_up_at, if_neg (by omega)]; exact hV.1.2.1
    · rw [px_up_at, if_neg (by omega)]; exact hV.1.2.2
  · rw [xif_f z]
    exact ⟨rfl, hX⟩
theorem mX5_sell (g : gtX5_sell) : px_Met dC yX5_sell (Cond.code yX5_sell cX5_sell 3 (some .int) :: wdC) rmX5_sell px_vI (prX5_sell g) (poX5_sell g) :=
  px_met (Z := (cX5_sell, 3, RX5, Cond.code yX5_sell cX5_sell 3 (some .int) :: wdC, (some .int), rmX5_sell, dC)) opX5_sell (by decide) rfl rfl okX5_sell (fun As σ h => by obtain ⟨v1, rfl, h⟩ := h; exact Nat.le_of_ble_eq_true rfl) (fun As σ h G hG => by obtain ⟨v1, rfl, h⟩ := h; exact hhX5_sell g v1 σ h G hG)
