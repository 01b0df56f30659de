/-! ===== the reference's cells of the whole state ===== -/
def mo_tp (σ : px_St) (T : List Nat) : Prop := σ.1 0 6 = nI T.length ∧ ∀ i x, T[i]? = some x → σ.1 5 i = nI x
def mo_im (σ : px_St) (I : Nat → Option (pv_V × pv_S)) : Prop := ∀ k, k < 2 → σ.1 3 k = nI (x_is1 (I k)) ∧ ∀ w, I k = some w → mv_is (fun j => σ.1 1 (61 * (k + 1) + j)) w.1 ∧ ms_is (fun j => σ.1 1 (61 * (k + 1) + j)) w.2
def mo_sh (σ : px_St) (H : Nat → Option pv_H) : Prop := ∀ k, k < 4 → (H k = none → σ.1 8 k = -4) ∧ ∀ w, H k = some w → σ.1 8 k = nI w.1 ∧ σ.1 9 k = nI w.2.1 ∧ ∀ i, i < w.2.1 → σ.1 10 (40 * k + i) = w.2.2 i
def mo_is (σ : px_St) (X : pv_X) : Prop := mv_is (σ.1 1) X.1 ∧ ms_is (σ.1 1) X.2.1 ∧ mo_tp σ X.2.2.1 ∧ mo_im σ X.2.2.2.1 ∧ σ.1 0 11 = nI X.2.2.2.2.1 ∧ σ.1 0 23 = nI X.2.2.2.2.2.1 ∧ mo_sh σ X.2.2.2.2.2.2
theorem mo_im.kept {σ σ' : px_St} {I : Nat → Option (pv_V × pv_S)} (h : mo_im σ I) (h3 : σ'.1 3 = σ.1 3) (h1 : ∀ j, 61 ≤ j → σ'.1 1 j = σ.1 1 j) : mo_im σ' I := by
  intro k hk
  obtain ⟨a, b⟩ := h k hk
  refine ⟨by rw [h3]; exact a, fun w hw => ?_⟩
  have e : (fun j => σ'.1 1 (61 * (k + 1) + j)) = fun j => σ.1 1 (61 * (k + 1) + j) := by
    funext j
    exact h1 _ (by omega)
  rw [e]
  exact b w hw
theorem mo_sh.kept {σ σ' : px_St} {H : Nat → Option pv_H} (h : mo_sh σ H) (h8 : σ'.1 8 = σ.1 8) (h9 : σ'.1 9 = σ.1 9) (h10 : σ'.1 10 = σ.1 10) : mo_sh σ' H := by
  intro k hk
  rw [h8, h9, h10]
  exact h k hk
theorem mo_tp.kept {σ σ' : px_St} {T : List Nat} (h : mo_tp σ T) (h0 : σ'.1 0 6 = σ.1 0 6) (h5 : σ'.1 5 = σ.1 5) : mo_tp σ' T := by
  unfold mo_tp
  rw [h0, h5]
  exact h
/-- what is no scratch is as it was -/
def mk (σ σ' : px_St) : Prop := (∀ k, k ≠ 0 → k ≠ 2 → k ≠ 4 → k ≠ 6 → k ≠ 7 → k ≠ 11 → σ'.1 k = σ.1 k) ∧ ∀ j, j = 6 ∨ j = 11 ∨ j = 23 → σ'.1 0 j = σ.1 0 j
theorem mk.rf {σ : px_St} : mk σ σ := ⟨fun _ _ _ _ _ _ _ => rfl, fun _ _ => rfl⟩
theorem mk.tr {σ σ' σ'' : px_St} (h : mk σ σ') (h' : mk σ' σ'') : mk σ σ'' := ⟨fun k a b c d e f => (h'.1 k a b c d e f).trans (h.1 k a b c d e f), fun j hj => (h'.2 j hj).trans (h.2 j hj)⟩
theorem mk.mo {σ σ' : px_St} {X : pv_X} (h : mk σ σ') (hX : mo_is σ X) : mo_is σ' X := by
  obtain ⟨h1, h2, h3, h4, h5, h6, h7⟩ := hX
  have e : ∀ k, k ≠ 0 → k ≠ 2 → k ≠ 4 → k ≠ 6 → k ≠ 7 → k ≠ 11 → σ'.1 k = σ.1 k := h.1
  have e1 := e 1 (by omega) (by omega) (by omega) (by omega) (by omega) (by omega)
  refine ⟨by rw [e1]; exact h1, by rw [e1]; exact h2, h3.kept (h.2 6 (by omega)) (e 5 (by omega) (by omega) (by omega) (by omega) (by omega) (by omega)), h4.kept (e 3 (by omega) (by omega) (by omega) (by omega) (by omega) (by omega)) (fun j _ => by rw [e1]), (h.2 11 (by omega)).trans h5, (h.2 23 (by omega)).trans h6, h7.kept (e 8 (by omega) (by omega) (by omega) (by omega) (by omega) (by omega)) (e 9 (by omega) (by omega) (by omega) (by omega) (by omega) (by omega)) (e 10 (by omega) (by omega) (by omega) (by omega) (by omega) (by omega))⟩
theorem mk.n1 {σ σ' : px_St} (h : mk σ σ') : σ'.1 1 = σ.1 1 := h.1 1 (by omega) (by omega) (by omega) (by omega) (by omega) (by omega)
theorem mk.of2 {σ σ' : px_St} (h : ∀ k, k ≠ 2 → σ'.1 k = σ.1 k) : mk σ σ' := ⟨fun k _ b _ _ _ _ => h k b, fun j _ => by rw [h 0 (by omega)]⟩
theorem mk.of26 {σ σ' : px_St} (h : ∀ k, k ≠ 2 → k ≠ 6 → σ'.1 k = σ.1 k) : mk σ σ' := ⟨fun k _ b _ d _ _ => h k b d, fun j _ => by rw [h 0 (by omega) (by omega)]⟩
theorem mn_only.mk {σ σ' : px_St} (h : mn_only σ σ') : mk σ σ' := mk.of2 h.1
theorem mk.up2 {σ : px_St} {j : Nat} {x : Int32} : mk σ (px_up σ 2 j x) := mk.of2 (fun k hk => px_up_n hk)
theorem mk.up0 {σ : px_St} {j : Nat} {x : Int32} (h : j ≠ 6 ∧ j ≠ 11 ∧ j ≠ 23) : mk σ (px_up σ 0 j x) := ⟨fun k a _ _ _ _ _ => px_up_n a, fun i hi => by rw [px_up_at, if_neg (by omega)]⟩
theorem starts_mk {σ σ' : px_St} {r : Unit} (h : qoX6_starts () σ r σ') : mk σ σ' := mk.of2 h.1
theorem starts_mv {σ σ' : px_St} {r : Unit} {V : pv_V} (h : qoX6_starts () σ r σ') (hV : mv_is (σ.1 1) V) (hw : pv_w V) : mv_is (σ'.1 2) V := hV.cg hw (fun j hj => h.2.2 j (by omega))
/-- the aviary, and the seen, have changed -/
theorem mo_1 {σ σ' : px_St} {X : pv_X} {V : pv_V} {S : pv_S} (h : mo_is σ X) (hk : ∀ k, k = 3 ∨ k = 5 ∨ (8 ≤ k ∧ k ≤ 10) → σ'.1 k = σ.1 k) (h0 : ∀ j, j = 6 ∨ j = 11 ∨ j = 23 → σ'.1 0 j = σ.1 0 j) (hV : mv_is (σ'.1 1) V) (hS : ms_is (σ'.1 1) S) (hi : ∀ j, 61 ≤ j → σ'.1 1 j = σ.1 1 j) : mo_is σ' (xV (xS X S) V) := by
  obtain ⟨h1, h2, h3, h4, h5, h6, h7⟩ := h
  exact ⟨hV, hS, h3.kept (h0 6 (by omega)) (hk 5 (by omega)), h4.kept (hk 3 (by omega)) hi, (h0 11 (by omega)).trans h5, (h0 23 (by omega)).trans h6, h7.kept (hk 8 (by omega)) (hk 9 (by omega)) (hk 10 (by omega))⟩
theorem mo_V1 {σ σ' : px_St} {X : pv_X} {V : pv_V} (h : mo_is σ X) (hs : sn_ok X.2.1) (hk : ∀ k, k = 0 ∨ k = 3 ∨ k = 5 ∨ (8 ≤ k ∧ k ≤ 10) → σ'.1 k = σ.1 k) (hV : mv_is (σ'.1 1) V) (hi : ∀ j, 48 ≤ j → σ'.1 1 j = σ.1 1 j) : mo_is σ' (xV X V) :=
  mo_1 (S := X.2.1) h (fun k hk' => hk k (by omega)) (fun j _ => by rw [hk 0 (by omega)]) hV (h.2.1.cg hs.1 (fun j a b => hi j (by omega))) (fun j hj => hi j (by omega))
/-- what was done in 'now' is settled -/
theorem settled {σ σ1 σ2 σ3 : px_St} {X : pv_X} {V : pv_V} {r r' : Unit} (h : mo_is σ X) (hs : sn_ok X.2.1) (hw : pv_w V) (h1 : qoX6_starts () σ r σ1) (h2 : mn_only σ1 σ2) (hV : mv_is (σ2.1 2) V) (h3 : qoX6_settles () σ2 r' σ3) : mo_is σ3 (xV X V) := by
  refine mo_V1 h hs (fun k hk => ?_) ?_ (fun j hj => ?_)
  · rw [h3.1 k (by omega), h2.1 k (by omega), h1.1 k (by omega)]
  · exact hV.cg hw (fun j hj => h3.2.2.1 j (by omega))
  · by_cases hj2 : j < 61
    · rw [h3.2.2.1 j hj2, h2.2.2 j hj, h1.2.2 j hj2]
    · rw [h3.2.2.2 j (by omega), h2.1 1 (by omega), h1.1 1 (by omega)]
abbrev gtX6_feed : Type := pv_X
def qrX6_feed (X : pv_X) (_ : Int32) (σ : px_St) : Prop := mo_is σ X ∧ xo X
def qoX6_feed (X : pv_X) (c : Int32) (_ : px_St) (r : Int32) (σ' : px_St) : Prop := r = (x_feed X c).1 ∧ mo_is σ' (x_feed X c).2
def prX6_feed (g : gtX6_feed) : List Value → px_St → Prop := fun As σ => ∃ v1 : Int32, As = [.ref 0, .int v1] ∧ qrX6_feed g v1 σ
def poX6_feed (g : gtX6_feed) : List Value → px_St → Int32 → px_St → Prop
  | [.ref _, .int v1], σ, r, σ' => qoX6_feed g v1 σ r σ'
  | _, _, _, _ => False
theorem dX6_feed_0 : decode cX6_feed 0 = .ok (.iload_n 1, 1) := by decide +kernel
theorem dX6_feed_1 : decode cX6_feed 1 = .ok (.i2l, 1) := by decide +kernel
theorem dX6_feed_2 : decode cX6_feed 2 = .ok (.lconst 0, 1) := by decide +kernel
theorem dX6_feed_3 : decode cX6_feed 3 = .ok (.ldc2_w 54, 3) := by decide +kernel
theorem dX6_feed_6 : decode cX6_feed 6 = .ok (.invokestatic 56, 3) := by decide +kernel
theorem dX6_feed_9 : decode cX6_feed 9 = .ok (.ifCond .ne 5, 3) := by decide +kernel
theorem dX6_feed_12 : decode cX6_feed 12 = .ok (.iconst (-1), 1) := by decide +kernel
theorem dX6_feed_13 : decode cX6_feed 13 = .ok (.ireturn, 1) := by decide +kernel
theorem dX6_feed_14 : decode cX6_feed 14 = .ok (.aload_n 0, 1) := by decide +kernel
theorem dX6_feed_15 : decode cX6_feed 15 = .ok (.getfield 60, 3) := by decide +kernel
theorem dX6_feed_18 : decode cX6_feed 18 = .ok (.sipush 160, 3) := by decide +kernel
theorem dX6_feed_21 : decode cX6_feed 21 = .ok (.if_icmp .ne 6, 3) := by decide +kernel
theorem dX6_feed_24 : decode cX6_feed 24 = .ok (.bipush (-3), 2) := by decide +kernel
theorem dX6_feed_26 : decode cX6_feed 26 = .ok (.ireturn, 1) := by decide +kernel
theorem dX6_feed_27 : decode cX6_feed 27 = .ok (.aload_n 0, 1) := by decide +kernel
theorem dX6_feed_28 : decode cX6_feed 28 = .ok (.getfield 23, 3) := by decide +kernel
theorem dX6_feed_31 : decode cX6_feed 31 = .ok (.aload_n 0, 1) := by decide +kernel
theorem dX6_feed_32 : decode cX6_feed 32 = .ok (.getfield 60, 3) := by decide +kernel
theorem dX6_feed_35 : decode cX6_feed 35 = .ok (.iload_n 1, 1) := by decide +kernel
theorem dX6_feed_36 : decode cX6_feed 36 = .ok (.iastore, 1) := by decide +kernel
theorem dX6_feed_37 : decode cX6_feed 37 = .ok (.aload_n 0, 1) := by decide +kernel
theorem dX6_feed_38 : decode cX6_feed 38 = .ok (.dup, 1) := by decide +kernel
theorem dX6_feed_39 : decode cX6_feed 39 = .ok (.getfield 60, 3) := by decide +kernel
theorem dX6_feed_42 : decode cX6_feed 42 = .ok (.iconst 1, 1) := by decide +kernel
theorem dX6_feed_43 : decode cX6_feed 43 = .ok (.iadd, 1) := by decide +kernel
theorem dX6_feed_44 : decode cX6_feed 44 = .ok (.putfield 60, 3) := by decide +kernel
theorem dX6_feed_47 : decode cX6_feed 47 = .ok (.aload_n 0, 1) := by decide +kernel
theorem dX6_feed_48 : decode cX6_feed 48 = .ok (.getfield 60, 3) := by decide +kernel
theorem dX6_feed_51 : decode cX6_feed 51 = .ok (.ireturn, 1) := by decide +kernel
abbrev rmX6_feed : Room := { frames := 1, cells := 0, slots := 0, locals := 25 }
def opX6_feed (po : Int32 → px_St → Prop) : List (Nat × px_Op) := [
  (0, px_il 1 1),
  (1, px_i2l 2),
  (2, px_push 3 (.long 0)),
  (3, px_push 6 (.long 127)),
  (6, px_callS 9 3 px_vI prX6_in poX6_in),
  (9, px_if 12 14 (fun x => ¬ x = 0)),
  (12, px_push 13 (.int (-1))),
  (13, px_iret (.int) po),
  (14, px_al 15 0),
  (15, px_get dM 18 6 6),
  (18, px_push 21 (.int 160)),
  (21, px_ic 24 27 (fun x y => ¬ x = y)),
  (24, px_push 26 (.int (-3))),
  (26, px_iret (.int) po),
  (27, px_al 28 0),
  (28, px_get dM 31 6 5),
  (31, px_al 32 0),
  (32, px_get dM 35 6 6),
  (35, px_il 36 1),
  (36, px_ast dM 37 0 (fun x => x)),
  (37, px_al 38 0),
  (38, px_dup 39),
  (39, px_get dM 42 6 6),
  (42, px_push 43 (.int 1)),
  (43, px_bin 44 (fun x y => x + y)),
  (44, px_put dM 47 6 6 .int),
  (47, px_al 48 0),
  (48, px_get dM 51 6 6),
  (51, px_iret (.int) po)]
set_option maxRecDepth 100000 in
set_option maxHeartbeats 4000000 in
theorem okX6_feed : ∀ (po : Int32 → px_St → Prop) (i pc : Nat) (op : px_Op), (opX6_feed po)[i]? = some (pc, op) → px_Snd (cX6_feed, 2, RX6, Cond.code yX6_feed cX6_feed 2 (some .int) :: wdM, (some .int), rmX6_feed, dM) px_vI po pc op := by
  intro po
  unfold opX6_feed
  refine px_ok_cons (ps_iload_n dX6_feed_0 rfl) ?_
  refine px_ok_cons (ps_i2l dX6_feed_1) ?_
  refine px_ok_cons (ps_lconst dX6_feed_2 (by decide)) ?_
  refine px_ok_cons (ps_ldc2 (List.mem_cons_of_mem _ (wdM_0_in _ (List.mem_of_getElem? (i := 30) rfl))) dX6_feed_3) ?_
  refine px_ok_cons (ps_callS mX6_in (fun _ _ => rfl) (fun _ _ ht => px_cwS wgM (wdM_0_in _ (List.mem_of_getElem? (i := 32) rfl)) (wdM_0_in _ (List.mem_of_getElem? (i := 33) rfl)) (wdM_0_in _ (List.mem_of_getElem? (i := 22) rfl)) (wdM_0_in _ (List.mem_of_getElem? (i := 27) rfl)) (by decide +kernel) rfl rfl (by decide) ht) dX6_feed_6) ?_
  refine px_ok_cons (ps_if_ne dX6_feed_9 (by decide)) ?_
  refine px_ok_cons (ps_iconst dX6_feed_12 (by decide)) ?_
  refine px_ok_cons (ps_ireturn rfl dX6_feed_13) ?_
  refine px_ok_cons (ps_aload_n dX6_feed_14 rfl) ?_
  refine px_ok_cons (fgX6_60 dX6_feed_15) ?_
  refine px_ok_cons (ps_sipush dX6_feed_18 (by decide)) ?_
  refine px_ok_cons (ps_icmp_ne dX6_feed_21 (by decide)) ?_
  refine px_ok_cons (ps_bipush dX6_feed_24 (by decide)) ?_
  refine px_ok_cons (ps_ireturn rfl dX6_feed_26) ?_
  refine px_ok_cons (ps_aload_n dX6_feed_27 rfl) ?_
  refine px_ok_cons (fgX6_23 dX6_feed_28) ?_
  refine px_ok_cons (ps_aload_n dX6_feed_31 rfl) ?_
  refine px_ok_cons (fgX6_60 dX6_feed_32) ?_
  refine px_ok_cons (ps_iload_n dX6_feed_35 rfl) ?_
  refine px_ok_cons (ps_iastore dX6_feed_36) ?_
  refine px_ok_cons (ps_aload_n dX6_feed_37 rfl) ?_
  refine px_ok_cons (ps_dup dX6_feed_38) ?_
  refine px_ok_cons (fgX6_60 dX6_feed_39) ?_
  refine px_ok_cons (ps_iconst dX6_feed_42 (by decide)) ?_
  refine px_ok_cons (ps_iadd dX6_feed_43) ?_
  refine px_ok_cons (fpX6_60 dX6_feed_44) ?_
  refine px_ok_cons (ps_aload_n dX6_feed_47 rfl) ?_
  refine px_ok_cons (fgX6_60 dX6_feed_48) ?_
  refine px_ok_cons (ps_ireturn rfl dX6_feed_51) ?_
  exact px_ok_nil
set_option maxRecDepth 100000 in
set_option maxHeartbeats 4000000 in
theorem sgX6_feed_0 {po : Int32 → px_St → Prop} {G : px_K} (hG : px_cl (opX6_feed po) G) (v1 : Int32) (σ : px_St)
    (H : ∃ g3 : gtX6_in, qrX6_in g3 v1.toInt64 (0 : Int64) (127 : Int64) σ ∧ ∀ (r1 : Int32) (σ2 : px_St), qoX6_in g3 v1.toInt64 (0 : Int64) (127 : Int64) σ r1 σ2 → ((¬ r1 = 0) → ((¬ (σ2.1 0 6) = (160 : Int32)) → vp_in (σ2.1 0 6) 160 ∧ po ((px_up (px_up σ2 5 (σ2.1 0 6).toNatClampNeg v1) 0 6 (((px_up σ2 5 (σ2.1 0 6).toNatClampNeg v1).1 0 6) + (1 : Int32))).1 0 6) (px_up (px_up σ2 5 (σ2.1 0 6).toNatClampNeg v1) 0 6 (((px_up σ2 5 (σ2.1 0 6).toNatClampNeg v1).1 0 6) + (1 : Int32)))) ∧ (¬ (¬ (σ2.1 0 6) = (160 : Int32)) → po (-3 : Int32) σ2)) ∧ (¬ (¬ r1 = 0) → po (-1 : Int32) σ2)) :
    G 0 (px_ent 2 [.ref 0, .int v1]) [] σ := by
  refine hG.1 0 _ _ rfl _ _ _ ?_
  refine hG.1 1 _ _ rfl _ _ _ ?_
  refine hG.1 2 _ _ rfl _ _ _ ?_
  refine hG.1 3 _ _ rfl _ _ _ ?_
  refine hG.1 4 _ _ rfl _ _ _ ?_
  obtain ⟨g3, H⟩ := H
  refine ⟨Nat.le_of_ble_eq_true rfl, Nat.le_of_ble_eq_true rfl, g3, ⟨_, _, _, rfl, H.1⟩, fun r1 σ2 hp4 => ?_⟩
  replace H := H.2 r1 σ2 hp4
  refine hG.1 5 _ _ rfl _ _ _ ?_
  refine ⟨fun h6 => ?_, fun h6 => ?_⟩
  · replace H := H.1 h6
    refine hG.1 8 _ _ rfl _ _ _ ?_
    refine hG.1 9 _ _ rfl _ _ _ ?_
    refine ⟨⟨rfl, by decide⟩, ?_⟩
    refine hG.1 10 _ _ rfl _ _ _ ?_
    refine hG.1 11 _ _ rfl _ _ _ ?_
    refine ⟨fun h5 => ?_, fun h5 => ?_⟩
    · replace H := H.1 h5
      refine hG.1 14 _ _ rfl _ _ _ ?_
      refine hG.1 15 _ _ rfl _ _ _ ?_
      refine ⟨⟨rfl, by decide⟩, ?_⟩
      refine hG.1 16 _ _ rfl _ _ _ ?_
      refine hG.1 17 _ _ rfl _ _ _ ?_
      refine ⟨⟨rfl, by decide⟩, ?_⟩
      refine hG.1 18 _ _ rfl _ _ _ ?_
      refine hG.1 19 _ _ rfl _ _ _ ?_
      refine ⟨⟨rfl, by decide⟩, H.1, ?_⟩
      replace H := H.2
      refine hG.1 20 _ _ rfl _ _ _ ?_
      refine hG.1 21 _ _ rfl _ _ _ ?_
      refine hG.1 22 _ _ rfl _ _ _ ?_
      refine ⟨⟨rfl, by decide⟩, ?_⟩
      refine hG.1 23 _ _ rfl _ _ _ ?_
      refine hG.1 24 _ _ rfl _ _ _ ?_
      refine hG.1 25 _ _ rfl _ _ _ ?_
      refine ⟨⟨rfl, by decide⟩, ⟨rfl, rfl⟩, ?_⟩
      refine hG.1 26 _ _ rfl _ _ _ ?_
      refine hG.1 27 _ _ rfl _ _ _ ?_
      refine ⟨⟨rfl, by decide⟩, ?_⟩
      refine hG.1 28 _ _ rfl _ _ _ ?_
      exact ⟨rfl, H⟩
    · replace H := H.2 h5
      refine hG.1 12 _ _ rfl _ _ _ ?_
      refine hG.1 13 _ _ rfl _ _ _ ?_
      exact ⟨rfl, H⟩
  · replace H := H.2 h6
    refine hG.1 6 _ _ rfl _ _ _ ?_
    refine hG.1 7 _ _ rfl _ _ _ ?_
    exact ⟨rfl, H⟩
set_option maxRecDepth 100000 in
set_option maxHeartbeats 4000000 in
theorem hhX6_feed (g : gtX6_feed) (v1 : Int32) (σ : px_St) (h : qrX6_feed g v1 σ) (G : px_K) (hG : px_cl (opX6_feed (qoX6_feed g v1 σ)) G) : G 0 (px_ent 2 [.ref 0, .int v1]) [] σ := by
  obtain ⟨hX, hok⟩ := h
  have hl := hok.2.2.1.1
  refine sgX6_feed_0 hG _ σ ⟨(), trivial, fun r1 σ1 h1 => ?_⟩
  obtain ⟨rfl, b1⟩ := h1
  have e0 := hX.2.2.1.1
  unfold qoX6_feed x_feed
  refine bz1 (in_c (a := 0) (b := 127) (by decide) (by decide) b1) (fun z => ?_) (fun z => ?_)
  · rw [xif_t z]
    obtain ⟨c, hc, rfl⟩ := (rngc 127 127 rfl (by omega)).mp z
    rw [px_up_at, if_pos ⟨rfl, rfl⟩, px_up_n (show (0 : Nat) ≠ 5 by omega), e0, nI_clamp (by omega), nI_clamp (by omega)]
    have c1 : nI g.2.2.1.length = 160 ↔ g.2.2.1.length = 160 := nIe _ 160 rfl rfl (by omega) (by omega)
    rw [c1, show nI g.2.2.1.length + 1 = nI (g.2.2.1.length + 1) from nI_1 _]
    refine ⟨fun h2 => ⟨vp_in_nI (by omega) (by decide), ?_⟩, fun h2 => ?_⟩
    · rw [xif_t (by omega)]
      obtain ⟨g1, g2, g3, g4, g5, g6, g7⟩ := hX
      refine ⟨rfl, ?_, ?_, ⟨?_, fun i x hx => ?_⟩, ?_, ?_, ?_, ?_⟩
      · rw [px_up_n (by omega), px_up_n (by omega)]; exact g1
      · rw [px_up_n (by omega), px_up_n (by omega)]; exact g2
      · rw [px_up_at, if_pos ⟨rfl, rfl⟩]
        show _ = nI (g.2.2.1 ++ [c]).length
        rw [List.length_append]; rfl
      · have hx : (g.2.2.1 ++ [c])[i]? = some x := hx
        rw [px_up_n (by omega), px_up_at]
        by_cases hi : i < g.2.2.1.length
        · rw [List.getElem?_append_left hi] at hx
          rw [if_neg (by omega)]
          exact g3.2 i x hx
        · rw [List.getElem?_append_right (by omega)] at hx
          have h0 : i - g.2.2.1.length < 1 := (List.getElem?_eq_some_iff.mp hx).1
          have hi2 : i = g.2.2.1.length := by omega
          subst hi2
          rw [Nat.sub_self] at hx
          rw [if_pos ⟨rfl, rfl⟩, ← Option.some.inj hx]
      · exact g4.kept (by rw [px_up_n (by omega), px_up_n (by omega)]) (fun j _ => by rw [px_up_n (by omega), px_up_n (by omega)])
      · rw [px_up_at, if_neg (by omega), px_up_n (by omega)]; exact g5
      · rw [px_up_at, if_neg (by omega), px_up_n (by omega)]; exact g6
      · exact g7.kept (by rw [px_up_n (by omega), px_up_n (by omega)]) (by rw [px_up_n (by omega), px_up_n (by omega)]) (by rw [px_up_n (by omega), px_up_n (by omega)])
    · rw [xif_f (by omega)]
      exact ⟨rfl, hX⟩
  · rw [xif_f z]
    exact ⟨rfl, hX⟩
theorem mX6_feed (g : gtX6_feed) : px_Met dM yX6_feed (Cond.code yX6_feed cX6_feed 2 (some .int) :: wdM) rmX6_feed px_vI (prX6_feed g) (poX6_feed g) :=
  px_met (Z := (cX6_feed, 2, RX6, Cond.code yX6_feed cX6_feed 2 (some .int) :: wdM, (some .int), rmX6_feed, dM)) opX6_feed (by decide) rfl rfl okX6_feed (fun As σ h => by obtain ⟨v1, rfl, h⟩ := h; exact Nat.le_of_ble_eq_true rfl) (fun As σ h G hG => by obtain ⟨v1, rfl, h⟩ := h; exact hhX6_feed g v1 σ h G hG)
abbrev gtX6_end : Type := pv_X
def qrX6_end (X : pv_X) (_ : Int32) (σ : px_St) : Prop := mo_is σ X ∧ xo X
def qoX6_end (X : pv_X) (c : Int32) (_ : px_St) (r : Int32) (σ' : px_St) : Prop := r = (x_end X c).1 ∧ mo_is σ' (x_end X c).2
def prX6_end (g : gtX6_end) : List Value → px_St → Prop := fun As σ => ∃ v1 : Int32, As = [.ref 0, .int v1] ∧ qrX6_end g v1 σ
def poX6_end (g : gtX6_end) : List Value → px_St → Int32 → px_St → Prop
  | [.ref _, .int v1], σ, r, σ' => qoX6_end g v1 σ r σ'
  | _, _, _, _ => False
theorem dX6_end_0 : decode cX6_end 0 = .ok (.iload_n 1, 1) := by decide +kernel
theorem dX6_end_1 : decode cX6_end 1 = .ok (.i2l, 1) := by decide +kernel
theorem dX6_end_2 : decode cX6_end 2 = .ok (.lconst 0, 1) := by decide +kernel
theorem dX6_end_3 : decode cX6_end 3 = .ok (.aload_n 0, 1) := by decide +kernel
theorem dX6_end_4 : decode cX6_end 4 = .ok (.getfield 60, 3) := by decide +kernel
theorem dX6_end_7 : decode cX6_end 7 = .ok (.i2l, 1) := by decide +kernel
theorem dX6_end_8 : decode cX6_end 8 = .ok (.invokestatic 56, 3) := by decide +kernel
theorem dX6_end_11 : decode cX6_end 11 = .ok (.ifCond .ne 5, 3) := by decide +kernel
theorem dX6_end_14 : decode cX6_end 14 = .ok (.iconst (-1), 1) := by decide +kernel
theorem dX6_end_15 : decode cX6_end 15 = .ok (.ireturn, 1) := by decide +kernel
theorem dX6_end_16 : decode cX6_end 16 = .ok (.aload_n 0, 1) := by decide +kernel
theorem dX6_end_17 : decode cX6_end 17 = .ok (.getfield 60, 3) := by decide +kernel
theorem dX6_end_20 : decode cX6_end 20 = .ok (.istore_n 2, 1) := by decide +kernel
theorem dX6_end_21 : decode cX6_end 21 = .ok (.aload_n 0, 1) := by decide +kernel
theorem dX6_end_22 : decode cX6_end 22 = .ok (.iload_n 1, 1) := by decide +kernel
theorem dX6_end_23 : decode cX6_end 23 = .ok (.putfield 60, 3) := by decide +kernel
theorem dX6_end_26 : decode cX6_end 26 = .ok (.iload_n 2, 1) := by decide +kernel
theorem dX6_end_27 : decode cX6_end 27 = .ok (.ireturn, 1) := by decide +kernel
abbrev rmX6_end : Room := { frames := 1, cells := 0, slots := 0, locals := 25 }
def opX6_end (po : Int32 → px_St → Prop) : List (Nat × px_Op) := [
  (0, px_il 1 1),
  (1, px_i2l 2),
  (2, px_push 3 (.long 0)),
  (3, px_al 4 0),
  (4, px_get dM 7 6 6),
  (7, px_i2l 8),
  (8, px_callS 11 3 px_vI prX6_in poX6_in),
  (11, px_if 14 16 (fun x => ¬ x = 0)),
  (14, px_push 15 (.int (-1))),
  (15, px_iret (.int) po),
  (16, px_al 17 0),
  (17, px_get dM 20 6 6),
  (20, px_is 21 2),
  (21, px_al 22 0),
  (22, px_il 23 1),
  (23, px_put dM 26 6 6 .int),
  (26, px_il 27 2),
  (27, px_iret (.int) po)]
set_option maxRecDepth 100000 in
set_option maxHeartbeats 4000000 in
theorem okX6_end : ∀ (po : Int32 → px_St → Prop) (i pc : Nat) (op : px_Op), (opX6_end po)[i]? = some (pc, op) → px_Snd (cX6_end, 3, RX6, Cond.code yX6_end cX6_end 3 (some .int) :: wdM, (some .int), rmX6_end, dM) px_vI po pc op := by
  intro po
  unfold opX6_end
  refine px_ok_cons (ps_iload_n dX6_end_0 rfl) ?_
  refine px_ok_cons (ps_i2l dX6_end_1) ?_
  refine px_ok_cons (ps_lconst dX6_end_2 (by decide)) ?_
  refine px_ok_cons (ps_aload_n dX6_end_3 rfl) ?_
  refine px_ok_cons (fgX6_60 dX6_end_4) ?_
  refine px_ok_cons (ps_i2l dX6_end_7) ?_
  refine px_ok_cons (ps_callS mX6_in (fun _ _ => rfl) (fun _ _ ht => px_cwS wgM (wdM_0_in _ (List.mem_of_getElem? (i := 32) rfl)) (wdM_0_in _ (List.mem_of_getElem? (i := 33) rfl)) (wdM_0_in _ (List.mem_of_getElem? (i := 22) rfl)) (wdM_0_in _ (List.mem_of_getElem? (i := 27) rfl)) (by decide +kernel) rfl rfl (by decide) ht) dX6_end_8) ?_
  refine px_ok_cons (ps_if_ne dX6_end_11 (by decide)) ?_
  refine px_ok_cons (ps_iconst dX6_end_14 (by decide)) ?_
  refine px_ok_cons (ps_ireturn rfl dX6_end_15) ?_
  refine px_ok_cons (ps_aload_n dX6_end_16 rfl) ?_
  refine px_ok_cons (fgX6_60 dX6_end_17) ?_
  refine px_ok_cons (ps_istore_n dX6_end_20 rfl (by decide)) ?_
  refine px_ok_cons (ps_aload_n dX6_end_21 rfl) ?_
  refine px_ok_cons (ps_iload_n dX6_end_22 rfl) ?_
  refine px_ok_cons (fpX6_60 dX6_end_23) ?_
  refine px_ok_cons (ps_iload_n dX6_end_26 rfl) ?_
  refine px_ok_cons (ps_ireturn rfl dX6_end_27) ?_
  exact px_ok_nil
set_option maxRecDepth 100000 in
set_option maxHeartbeats 4000000 in
theorem sgX6_end_0 {po : Int32 → px_St → Prop} {G : px_K} (hG : px_cl (opX6_end po) G) (v1 : Int32) (σ : px_St)
    (H : ∃ g3 : gtX6_in, qrX6_in g3 v1.toInt64 (0 : Int64) ((σ.1 0 6).toInt64) σ ∧ ∀ (r1 : Int32) (σ2 : px_St), qoX6_in g3 v1.toInt64 (0 : Int64) ((σ.1 0 6).toInt64) σ r1 σ2 → ((¬ r1 = 0) → po (σ2.1 0 6) (px_up σ2 0 6 v1)) ∧ (¬ (¬ r1 = 0) → po (-1 : Int32) σ2)) :
    G 0 (px_ent 3 [.ref 0, .int v1]) [] σ := by
  refine hG.1 0 _ _ rfl _ _ _ ?_
  refine hG.1 1 _ _ rfl _ _ _ ?_
  refine hG.1 2 _ _ rfl _ _ _ ?_
  refine hG.1 3 _ _ rfl _ _ _ ?_
  refine hG.1 4 _ _ rfl _ _ _ ?_
  refine ⟨⟨rfl, by decide⟩, ?_⟩
  refine hG.1 5 _ _ rfl _ _ _ ?_
  refine hG.1 6 _ _ rfl _ _ _ ?_
  obtain ⟨g3, H⟩ := H
  refine ⟨Nat.le_of_ble_eq_true rfl, Nat.le_of_ble_eq_true rfl, g3, ⟨_, _, _, rfl, H.1⟩, fun r1 σ2 hp4 => ?_⟩
  replace H := H.2 r1 σ2 hp4
  refine hG.1 7 _ _ rfl _ _ _ ?_
  refine ⟨fun h5 => ?_, fun h5 => ?_⟩
  · replace H := H.1 h5
    refine hG.1 10 _ _ rfl _ _ _ ?_
    refine hG.1 11 _ _ rfl _ _ _ ?_
    refine ⟨⟨rfl, by decide⟩, ?_⟩
    refine hG.1 12 _ _ rfl _ _ _ ?_
    show G 21 [some (.ref 0), some (.int v1), some (.int (σ2.1 0 6))] [] σ2
    refine hG.1 13 _ _ rfl _ _ _ ?_
    refine hG.1 14 _ _ rfl _ _ _ ?_
    refine hG.1 15 _ _ rfl _ _ _ ?_
    refine ⟨⟨rfl, by decide⟩, ⟨rfl, rfl⟩, ?_⟩
    refine hG.1 16 _ _ rfl _ _ _ ?_
    refine hG.1 17 _ _ rfl _ _ _ ?_
    exact ⟨rfl, H⟩
  · replace H := H.2 h5
    refine hG.1 8 _ _ rfl _ _ _ ?_
    refine hG.1 9 _ _ rfl _ _ _ ?_
    exact ⟨rfl, H⟩
set_option maxRecDepth 100000 in
set_option maxHeartbeats 4000000 in
theorem hhX6_end (g : gtX6_end) (v1 : Int32) (σ : px_St) (h : qrX6_end g v1 σ) (G : px_K) (hG : px_cl (opX6_end (qoX6_end g v1 σ)) G) : G 0 (px_ent 3 [.ref 0, .int v1]) [] σ := by
  obtain ⟨hX, hok⟩ := h
  have hl := hok.2.2.1.1
  have e0 := hX.2.2.1.1
  refine sgX6_end_0 hG _ σ ⟨(), trivial, fun r1 σ1 h1 => ?_⟩
  obtain ⟨rfl, b1⟩ := h1
  rw [e0] at b1 ⊢
  unfold qoX6_end x_end
  refine bz1 (in_c (a := 0) (by decide) rfl b1) (fun z => ?_) (fun z => ?_)
  · rw [xif_t z]
    obtain ⟨c, hc, rfl⟩ := (rng (by omega)).mp z
    rw [nI_clamp (by omega)]
    obtain ⟨g1, g2, g3, g4, g5, g6, g7⟩ := hX
    refine ⟨rfl, ?_, ?_, ⟨?_, fun i x hx => ?_⟩, ?_, ?_, ?_, ?_⟩
    · rw [px_up_n (by omega)]; exact g1
    · rw [px_up_n (by omega)]; exact g2
    · rw [px_up_at, if_pos ⟨rfl, rfl⟩]
      show _ = nI (g.2.2.1.take c).length
      rw [List.length_take, Nat.min_eq_left hc]
    · rw [px_up_n (by omega)]
      have hx : (g.2.2.1.take c)[i]? = some x := hx
      rw [List.getElem?_take] at hx
      by_cases hi : i < c
      · rw [if_pos hi] at hx; exact g3.2 i x hx
      · rw [if_neg hi] at hx; cases hx
    · exact g4.kept (by rw [px_up_n (by omega)]) (fun j _ => by rw [px_up_n (by omega)])
    · rw [px_up_at, if_neg (by omega)]; exact g5
    · rw [px_up_at, if_neg (by omega)]; exact g6
    · exact g7.kept (by rw [px_up_n (by omega)]) (by rw [px_up_n (by omega)]) (by rw [px_up_n (by omega)])
  · rw [xif_f z]
    exact ⟨rfl, hX⟩
theorem mX6_end (g : gtX6_end) : px_Met dM yX6_end (Cond.code yX6_end cX6_end 3 (some .int) :: wdM) rmX6_end px_vI (prX6_end g) (poX6_end g) :=
  px_met (Z := (cX6_end, 3, RX6, Cond.code yX6_end cX6_end 3 (some .int) :: wdM, (some .int), rmX6_end, dM)) opX6_end (by decide) rfl rfl okX6_end (fun As σ h => by obtain ⟨v1, rfl, h⟩ := h; exact Nat.le_of_ble_eq_true rfl) (fun As σ h G hG => by obtain ⟨v1, rfl, h⟩ := h; exact hhX6_end g v1 σ h G hG)
abbrev gtX6_fault : Type := pv_X
def qrX6_fault (X : pv_X) (σ : px_St) : Prop := mo_is σ X ∧ xo X
def qoX6_fault (X : pv_X) (_ : px_St) (r : Int32) (σ' : px_St) : Prop := r = (x_fault X).1 ∧ mo_is σ' (x_fault X).2
def prX6_fault (g : gtX6_fault) : List Value → px_St → Prop := fun As σ => As = [.ref 0] ∧ qrX6_fault g σ
def poX6_fault (g : gtX6_fault) : List Value → px_St → Int32 → px_St → Prop
  | [.ref _], σ, r, σ' => qoX6_fault g σ r σ'
  | _, _, _, _ => False
theorem dX6_fault_0 : decode cX6_fault 0 = .ok (.aload_n 0, 1) := by decide +kernel
theorem dX6_fault_1 : decode cX6_fault 1 = .ok (.getfield 64, 3) := by decide +kernel
theorem dX6_fault_4 : decode cX6_fault 4 = .ok (.ireturn, 1) := by decide +kernel
abbrev rmX6_fault : Room := { frames := 0, cells := 0, slots := 0, locals := 0 }
def opX6_fault (po : Int32 → px_St → Prop) : List (Nat × px_Op) := [
  (0, px_al 1 0),
  (1, px_get dM 4 6 11),
  (4, px_iret (.int) po)]
set_option maxRecDepth 100000 in
set_option maxHeartbeats 4000000 in
theorem okX6_fault : ∀ (po : Int32 → px_St → Prop) (i pc : Nat) (op : px_Op), (opX6_fault po)[i]? = some (pc, op) → px_Snd (cX6_fault, 1, RX6, Cond.code yX6_fault cX6_fault 1 (some .int) :: wdM, (some .int), rmX6_fault, dM) px_vI po pc op := by
  intro po
  unfold opX6_fault
  refine px_ok_cons (ps_aload_n dX6_fault_0 rfl) ?_
  refine px_ok_cons (fgX6_64 dX6_fault_1) ?_
  refine px_ok_cons (ps_ireturn rfl dX6_fault_4) ?_
  exact px_ok_nil
set_option maxRecDepth 100000 in
set_option maxHeartbeats 4000000 in
theorem sgX6_fault_0 {po : Int32 → px_St → Prop} {G : px_K} (hG : px_cl (opX6_fault po) G) (σ : px_St)
    (H : po (σ.1 0 11) σ) :
    G 0 (px_ent 1 [.ref 0]) [] σ := by
  refine hG.1 0 _ _ rfl _ _ _ ?_
  refine hG.1 1 _ _ rfl _ _ _ ?_
  refine ⟨⟨rfl, by decide⟩, ?_⟩
  refine hG.1 2 _ _ rfl _ _ _ ?_
  exact ⟨rfl, H⟩
set_option maxRecDepth 100000 in
set_option maxHeartbeats 4000000 in
theorem hhX6_fault (g : gtX6_fault) (σ : px_St) (h : qrX6_fault g σ) (G : px_K) (hG : px_cl (opX6_fault (qoX6_fault g σ)) G) : G 0 (px_ent 1 [.ref 0]) [] σ := by
  exact sgX6_fault_0 hG σ ⟨h.1.2.2.2.2.1, h.1⟩
theorem mX6_fault (g : gtX6_fault) : px_Met dM yX6_fault (Cond.code yX6_fault cX6_fault 1 (some .int) :: wdM) rmX6_fault px_vI (prX6_fault g) (poX6_fault g) :=
  px_met (Z := (cX6_fault, 1, RX6, Cond.code yX6_fault cX6_fault 1 (some .int) :: wdM, (some .int), rmX6_fault, dM)) opX6_fault (by decide) rfl rfl okX6_fault (fun As σ h => by obtain ⟨rfl, h⟩ := h; exact Nat.le_of_ble_eq_true rfl) (fun As σ h G hG => by obtain ⟨rfl, h⟩ := h; exact hhX6_fault g σ h G hG)
abbrev gtX6_torn : Type := pv_X
def qrX6_torn (X : pv_X) (σ : px_St) : Prop := mo_is σ X ∧ xo X
def qoX6_torn (X : pv_X) (_ : px_St) (r : Int32) (σ' : px_St) : Prop := r = (x_torn X).1 ∧ mo_is σ' (x_torn X).2
def prX6_torn (g : gtX6_torn) : List Value → px_St → Prop := fun As σ => As = [.ref 0] ∧ qrX6_torn g σ
def poX6_torn (g : gtX6_torn) : List Value → px_St → Int32 → px_St → Prop
  | [.ref _], σ, r, σ' => qoX6_torn g σ r σ'
  | _, _, _, _ => False
theorem dX6_torn_0 : decode cX6_torn 0 = .ok (.aload_n 0, 1) := by decide +kernel
theorem dX6_torn_1 : decode cX6_torn 1 = .ok (.getfield 279, 3) := by decide +kernel
theorem dX6_torn_4 : decode cX6_torn 4 = .ok (.ireturn, 1) := by decide +kernel
abbrev rmX6_torn : Room := { frames := 0, cells := 0, slots := 0, locals := 0 }
def opX6_torn (po : Int32 → px_St → Prop) : List (Nat × px_Op) := [
  (0, px_al 1 0),
  (1, px_get dM 4 6 23),
  (4, px_iret (.int) po)]
set_option maxRecDepth 100000 in
set_option maxHeartbeats 4000000 in
theorem okX6_torn : ∀ (po : Int32 → px_St → Prop) (i pc : Nat) (op : px_Op), (opX6_torn po)[i]? = some (pc, op) → px_Snd (cX6_torn, 1, RX6, Cond.code yX6_torn cX6_torn 1 (some .int) :: wdM, (some .int), rmX6_torn, dM) px_vI po pc op := by
  intro po
  unfold opX6_torn
  refine px_ok_cons (ps_aload_n dX6_torn_0 rfl) ?_
  refine px_ok_cons (fgX6_279 dX6_torn_1) ?_
  refine px_ok_cons (ps_ireturn rfl dX6_torn_4) ?_
  exact px_ok_nil
set_option maxRecDepth 100000 in
set_option maxHeartbeats 4000000 in
theorem sgX6_torn_0 {po : Int32 → px_St → Prop} {G : px_K} (hG : px_cl (opX6_torn po) G) (σ : px_St)
    (H : po (σ.1 0 23) σ) :
    G 0 (px_ent 1 [.ref 0]) [] σ := by
  refine hG.1 0 _ _ rfl _ _ _ ?_
  refine hG.1 1 _ _ rfl _ _ _ ?_
  refine ⟨⟨rfl, by decide⟩, ?_⟩
  refine hG.1 2 _ _ rfl _ _ _ ?_
  exact ⟨rfl, H⟩
set_option maxRecDepth 100000 in
set_option maxHeartbeats 4000000 in
theorem hhX6_torn (g : gtX6_torn) (σ : px_St) (h : qrX6_torn g σ) (G : px_K) (hG : px_cl (opX6_torn (qoX6_torn g σ)) G) : G 0 (px_ent 1 [.ref 0]) [] σ := by
  exact sgX6_torn_0 hG σ ⟨h.1.2.2.2.2.2.1, h.1⟩
theorem mX6_torn (g : gtX6_torn) : px_Met dM yX6_torn (Cond.code yX6_torn cX6_torn 1 (some .int) :: wdM) rmX6_torn px_vI (prX6_torn g) (poX6_torn g) :=
  px_met (Z := (cX6_torn, 1, RX6, Cond.code yX6_torn cX6_torn 1 (some .int) :: wdM, (some .int), rmX6_torn, dM)) opX6_torn (by decide) rfl rfl okX6_torn (fun As σ h => by obtain ⟨rfl, h⟩ := h; exact Nat.le_of_ble_eq_true rfl) (fun As σ h G hG => by obtain ⟨rfl, h⟩ := h; exact hhX6_torn g σ h G hG)
abbrev gtX6_rule : Type := pv_X
def qrX6_rule (X : pv_X) (_ : Int32) (σ : px_St) : Prop := mo_is σ X ∧ xo X
def qoX6_rule (X : pv_X) (w : Int32) (_ : px_St) (r : Int32) (σ' : px_St) : Prop := r = (x_rule X w).1 ∧ mo_is σ' (x_rule X w).2
def prX6_rule (g : gtX6_rule) : List Value → px_St → Prop := fun As σ => ∃ v1 : Int32, As = [.ref 0, .int v1] ∧ qrX6_rule g v1 σ
def poX6_rule (g : gtX6_rule) : List Value → px_St → Int32 → px_St → Prop
  | [.ref _, .int v1], σ, r, σ' => qoX6_rule g v1 σ r σ'
  | _, _, _, _ => False
theorem dX6_rule_0 : decode cX6_rule 0 = .ok (.iconst 0, 1) := by decide +kernel
theorem dX6_rule_1 : decode cX6_rule 1 = .ok (.istore_n 2, 1) := by decide +kernel
theorem dX6_rule_2 : decode cX6_rule 2 = .ok (.aload_n 0, 1) := by decide +kernel
theorem dX6_rule_3 : decode cX6_rule 3 = .ok (.invokevirtual 163, 3) := by decide +kernel
theorem dX6_rule_6 : decode cX6_rule 6 = .ok (.iconst 0, 1) := by decide +kernel
theorem dX6_rule_7 : decode cX6_rule 7 = .ok (.istore_n 3, 1) := by decide +kernel
theorem dX6_rule_8 : decode cX6_rule 8 = .ok (.iload_n 3, 1) := by decide +kernel
theorem dX6_rule_9 : decode cX6_rule 9 = .ok (.aload_n 0, 1) := by decide +kernel
theorem dX6_rule_10 : decode cX6_rule 10 = .ok (.getfield 7, 3) := by decide +kernel
theorem dX6_rule_13 : decode cX6_rule 13 = .ok (.bipush 45, 2) := by decide +kernel
theorem dX6_rule_15 : decode cX6_rule 15 = .ok (.iaload, 1) := by decide +kernel
theorem dX6_rule_16 : decode cX6_rule 16 = .ok (.if_icmp .ge 18, 3) := by decide +kernel
theorem dX6_rule_19 : decode cX6_rule 19 = .ok (.iload_n 2, 1) := by decide +kernel
theorem dX6_rule_20 : decode cX6_rule 20 = .ok (.aload_n 0, 1) := by decide +kernel
theorem dX6_rule_21 : decode cX6_rule 21 = .ok (.iload_n 3, 1) := by decide +kernel
theorem dX6_rule_22 : decode cX6_rule 22 = .ok (.iconst 1, 1) := by decide +kernel
theorem dX6_rule_23 : decode cX6_rule 23 = .ok (.invokevirtual 130, 3) := by decide +kernel
theorem dX6_rule_26 : decode cX6_rule 26 = .ok (.iadd, 1) := by decide +kernel
theorem dX6_rule_27 : decode cX6_rule 27 = .ok (.istore_n 2, 1) := by decide +kernel
theorem dX6_rule_28 : decode cX6_rule 28 = .ok (.iinc 3 1, 3) := by decide +kernel
theorem dX6_rule_31 : decode cX6_rule 31 = .ok (.goto (-23), 3) := by decide +kernel
theorem dX6_rule_34 : decode cX6_rule 34 = .ok (.iload_n 1, 1) := by decide +kernel
theorem dX6_rule_35 : decode cX6_rule 35 = .ok (.tableswitch 99 0 5 #[37, 45, 53, 61, 92, 97], 37) := by decide +kernel
theorem dX6_rule_72 : decode cX6_rule 72 = .ok (.aload_n 0, 1) := by decide +kernel
theorem dX6_rule_73 : decode cX6_rule 73 = .ok (.getfield 7, 3) := by decide +kernel
theorem dX6_rule_76 : decode cX6_rule 76 = .ok (.bipush 45, 2) := by decide +kernel
theorem dX6_rule_78 : decode cX6_rule 78 = .ok (.iaload, 1) := by decide +kernel
theorem dX6_rule_79 : decode cX6_rule 79 = .ok (.ireturn, 1) := by decide +kernel
theorem dX6_rule_80 : decode cX6_rule 80 = .ok (.aload_n 0, 1) := by decide +kernel
theorem dX6_rule_81 : decode cX6_rule 81 = .ok (.getfield 7, 3) := by decide +kernel
theorem dX6_rule_84 : decode cX6_rule 84 = .ok (.bipush 47, 2) := by decide +kernel
theorem dX6_rule_86 : decode cX6_rule 86 = .ok (.iaload, 1) := by decide +kernel
theorem dX6_rule_87 : decode cX6_rule 87 = .ok (.ireturn, 1) := by decide +kernel
theorem dX6_rule_88 : decode cX6_rule 88 = .ok (.aload_n 0, 1) := by decide +kernel
theorem dX6_rule_89 : decode cX6_rule 89 = .ok (.getfield 7, 3) := by decide +kernel
theorem dX6_rule_92 : decode cX6_rule 92 = .ok (.bipush 46, 2) := by decide +kernel
theorem dX6_rule_94 : decode cX6_rule 94 = .ok (.iaload, 1) := by decide +kernel
theorem dX6_rule_95 : decode cX6_rule 95 = .ok (.ireturn, 1) := by decide +kernel
theorem dX6_rule_96 : decode cX6_rule 96 = .ok (.aload_n 0, 1) := by decide +kernel
theorem dX6_rule_97 : decode cX6_rule 97 = .ok (.getfield 7, 3) := by decide +kernel
theorem dX6_rule_100 : decode cX6_rule 100 = .ok (.bipush 45, 2) := by decide +kernel
theorem dX6_rule_102 : decode cX6_rule 102 = .ok (.iaload, 1) := by decide +kernel
theorem dX6_rule_103 : decode cX6_rule 103 = .ok (.ifCond .ne 8, 3) := by decide +kernel
theorem dX6_rule_106 : decode cX6_rule 106 = .ok (.bipush (-4), 2) := by decide +kernel
theorem dX6_rule_108 : decode cX6_rule 108 = .ok (.goto 18, 3) := by decide +kernel
theorem dX6_rule_111 : decode cX6_rule 111 = .ok (.aload_n 0, 1) := by decide +kernel
theorem dX6_rule_112 : decode cX6_rule 112 = .ok (.getfield 7, 3) := by decide +kernel
theorem dX6_rule_115 : decode cX6_rule 115 = .ok (.bipush 47, 2) := by decide +kernel
theorem dX6_rule_117 : decode cX6_rule 117 = .ok (.iaload, 1) := by decide +kernel
theorem dX6_rule_118 : decode cX6_rule 118 = .ok (.aload_n 0, 1) := by decide +kernel
theorem dX6_rule_119 : decode cX6_rule 119 = .ok (.getfield 7, 3) := by decide +kernel
theorem dX6_rule_122 : decode cX6_rule 122 = .ok (.bipush 45, 2) := by decide +kernel
theorem dX6_rule_124 : decode cX6_rule 124 = .ok (.iaload, 1) := by decide +kernel
theorem dX6_rule_125 : decode cX6_rule 125 = .ok (.irem, 1) := by decide +kernel
theorem dX6_rule_126 : decode cX6_rule 126 = .ok (.ireturn, 1) := by decide +kernel
theorem dX6_rule_127 : decode cX6_rule 127 = .ok (.aload_n 0, 1) := by decide +kernel
theorem dX6_rule_128 : decode cX6_rule 128 = .ok (.invokevirtual 147, 3) := by decide +kernel
theorem dX6_rule_131 : decode cX6_rule 131 = .ok (.ireturn, 1) := by decide +kernel
theorem dX6_rule_132 : decode cX6_rule 132 = .ok (.iload_n 2, 1) := by decide +kernel
theorem dX6_rule_133 : decode cX6_rule 133 = .ok (.ireturn, 1) := by decide +kernel
theorem dX6_rule_134 : decode cX6_rule 134 = .ok (.iconst (-1), 1) := by decide +kernel
theorem dX6_rule_135 : decode cX6_rule 135 = .ok (.ireturn, 1) := by decide +kernel
abbrev rmX6_rule : Room := { frames := 2, cells := 0, slots := 0, locals := 43 }
def opX6_rule (po : Int32 → px_St → Prop) : List (Nat × px_Op) := [
  (0, px_push 1 (.int 0)),
  (1, px_is 2 2),
  (2, px_al 3 0),
  (3, px_callV dM 6 6 0 px_vV prX6_starts poX6_starts),
  (6, px_push 7 (.int 0)),
  (7, px_is 8 3),
  (8, px_il 9 3),
  (9, px_al 10 0),
  (10, px_get dM 13 6 0),
  (13, px_push 15 (.int 45)),
  (15, px_ald dM 16 0),
  (16, px_ic 19 34 (fun x y => y ≤ x)),
  (19, px_il 20 2),
  (20, px_al 21 0),
  (21, px_il 22 3),
  (22, px_push 23 (.int 1)),
  (23, px_callV dM 26 6 2 px_vI prX6_of poX6_of),
  (26, px_bin 27 (fun x y => x + y)),
  (27, px_is 28 2),
  (28, px_inc 31 3 1),
  (31, px_go 8),
  (34, px_il 35 1),
  (35, px_sw [(0, 72), (1, 80), (2, 88), (3, 96), (4, 127), (5, 132)] 134),
  (72, px_al 73 0),
  (73, px_get dM 76 6 0),
  (76, px_push 78 (.int 45)),
  (78, px_ald dM 79 0),
  (79, px_iret (.int) po),
  (80, px_al 81 0),
  (81, px_get dM 84 6 0),
  (84, px_push 86 (.int 47)),
  (86, px_ald dM 87 0),
  (87, px_iret (.int) po),
  (88, px_al 89 0),
  (89, px_get dM 92 6 0),
  (92, px_push 94 (.int 46)),
  (94, px_ald dM 95 0),
  (95, px_iret (.int) po),
  (96, px_al 97 0),
  (97, px_get dM 100 6 0),
  (100, px_push 102 (.int 45)),
  (102, px_ald dM 103 0),
  (103, px_if 106 111 (fun x => ¬ x = 0)),
  (106, px_push 108 (.int (-4))),
  (108, px_go 126),
  (111, px_al 112 0),
  (112, px_get dM 115 6 0),
  (115, px_push 117 (.int 47)),
  (117, px_ald dM 118 0),
  (118, px_al 119 0),
  (119, px_get dM 122 6 0),
  (122, px_push 124 (.int 45)),
  (124, px_ald dM 125 0),
  (125, px_div 126 (fun x y => x - x / y * y)),
  (126, px_iret (.int) po),
  (127, px_al 128 0),
  (128, px_callV dM 131 6 0 px_vI prX6_saidNow poX6_saidNow),
  (131, px_iret (.int) po),
  (132, px_il 133 2),
  (133, px_iret (.int) po),
  (134, px_push 135 (.int (-1))),
  (135, px_iret (.int) po)]
theorem px_tsw_X6_rule_35 : px_tswOk 35 99 0 5 #[37, 45, 53, 61, 92, 97] [(0, 72), (1, 80), (2, 88), (3, 96), (4, 127), (5, 132)] 134 := by
  intro x
  refine ⟨fun h1 h2 => ?_, fun h => ?_⟩
  · have hx : x = 0 ∨ x = 1 ∨ x = 2 ∨ x = 3 ∨ x = 4 ∨ x = 5 := by
      simp only [fa_eqI, show ((0 : Int32)).toInt = 0 by decide, show ((1 : Int32)).toInt = 1 by decide, show ((2 : Int32)).toInt = 2 by decide, show ((3 : Int32)).toInt = 3 by decide, show ((4 : Int32)).toInt = 4 by decide, show ((5 : Int32)).toInt = 5 by decide]
      omega
    rcases hx with rfl | rfl | rfl | rfl | rfl | rfl <;> exact ⟨_, rfl, rfl⟩
  · have hn : ¬ x = 0 ∧ ¬ x = 1 ∧ ¬ x = 2 ∧ ¬ x = 3 ∧ ¬ x = 4 ∧ ¬ x = 5 := by
      simp only [fa_eqI, show ((0 : Int32)).toInt = 0 by decide, show ((1 : Int32)).toInt = 1 by decide, show ((2 : Int32)).toInt = 2 by decide, show ((3 : Int32)).toInt = 3 by decide, show ((4 : Int32)).toInt = 4 by decide, show ((5 : Int32)).toInt = 5 by decide]
      omega
    simp [px_swt, hn]
set_option maxRecDepth 100000 in
set_option maxHeartbeats 4000000 in
theorem okX6_rule : ∀ (po : Int32 → px_St → Prop) (i pc : Nat) (op : px_Op), (opX6_rule po)[i]? = some (pc, op) → px_Snd (cX6_rule, 4, RX6, Cond.code yX6_rule cX6_rule 4 (some .int) :: wdM, (some .int), rmX6_rule, dM) px_vI po pc op := by
  intro po
  unfold opX6_rule
  refine px_ok_cons (ps_iconst dX6_rule_0 (by decide)) ?_
  refine px_ok_cons (ps_istore_n dX6_rule_1 rfl (by decide)) ?_
  refine px_ok_cons (ps_aload_n dX6_rule_2 rfl) ?_
  refine px_ok_cons (ps_callV mX6_starts (fun _ _ => rfl) (C := RX6) rfl (fun _ _ ht => px_cwV wgM (wdM_3_in _ (List.mem_of_getElem? (i := 19) rfl)) (wdM_3_in _ (List.mem_of_getElem? (i := 20) rfl)) (wdM_3_in _ (List.mem_of_getElem? (i := 21) rfl)) (wdM_0_in _ (List.mem_of_getElem? (i := 22) rfl)) (wdM_2_in _ (List.mem_of_getElem? (i := 11) rfl)) (by decide +kernel) rfl rfl (by decide) ht) dX6_rule_3) ?_
  refine px_ok_cons (ps_iconst dX6_rule_6 (by decide)) ?_
  refine px_ok_cons (ps_istore_n dX6_rule_7 rfl (by decide)) ?_
  refine px_ok_cons (ps_iload_n dX6_rule_8 rfl) ?_
  refine px_ok_cons (ps_aload_n dX6_rule_9 rfl) ?_
  refine px_ok_cons (fgX6_7 dX6_rule_10) ?_
  refine px_ok_cons (ps_bipush dX6_rule_13 (by decide)) ?_
  refine px_ok_cons (ps_iaload dX6_rule_15) ?_
  refine px_ok_cons (ps_icmp_ge dX6_rule_16 (by decide)) ?_
  refine px_ok_cons (ps_iload_n dX6_rule_19 rfl) ?_
  refine px_ok_cons (ps_aload_n dX6_rule_20 rfl) ?_
  refine px_ok_cons (ps_iload_n dX6_rule_21 rfl) ?_
  refine px_ok_cons (ps_iconst dX6_rule_22 (by decide)) ?_
  refine px_ok_cons (ps_callV mX6_of (fun _ _ => rfl) (C := RX6) rfl (fun _ _ ht => px_cwV wgM (wdM_2_in _ (List.mem_of_getElem? (i := 16) rfl)) (wdM_2_in _ (List.mem_of_getElem? (i := 17) rfl)) (wdM_2_in _ (List.mem_of_getElem? (i := 18) rfl)) (wdM_0_in _ (List.mem_of_getElem? (i := 22) rfl)) (wdM_2_in _ (List.mem_of_getElem? (i := 13) rfl)) (by decide +kernel) rfl rfl (by decide) ht) dX6_rule_23) ?_
  refine px_ok_cons (ps_iadd dX6_rule_26) ?_
  refine px_ok_cons (ps_istore_n dX6_rule_27 rfl (by decide)) ?_
  refine px_ok_cons (ps_iinc dX6_rule_28 (by decide) (by decide)) ?_
  refine px_ok_cons (ps_goto dX6_rule_31 (by decide)) ?_
  refine px_ok_cons (ps_iload_n dX6_rule_34 rfl) ?_
  refine px_ok_cons (ps_tsw dX6_rule_35 px_tsw_X6_rule_35) ?_
  refine px_ok_cons (ps_aload_n dX6_rule_72 rfl) ?_
  refine px_ok_cons (fgX6_7 dX6_rule_73) ?_
  refine px_ok_cons (ps_bipush dX6_rule_76 (by decide)) ?_
  refine px_ok_cons (ps_iaload dX6_rule_78) ?_
  refine px_ok_cons (ps_ireturn rfl dX6_rule_79) ?_
  refine px_ok_cons (ps_aload_n dX6_rule_80 rfl) ?_
  refine px_ok_cons (fgX6_7 dX6_rule_81) ?_
  refine px_ok_cons (ps_bipush dX6_rule_84 (by decide)) ?_
  refine px_ok_cons (ps_iaload dX6_rule_86) ?_
  refine px_ok_cons (ps_ireturn rfl dX6_rule_87) ?_
  refine px_ok_cons (ps_aload_n dX6_rule_88 rfl) ?_
  refine px_ok_cons (fgX6_7 dX6_rule_89) ?_
  refine px_ok_cons (ps_bipush dX6_rule_92 (by decide)) ?_
  refine px_ok_cons (ps_iaload dX6_rule_94) ?_
  refine px_ok_cons (ps_ireturn rfl dX6_rule_95) ?_
  refine px_ok_cons (ps_aload_n dX6_rule_96 rfl) ?_
  refine px_ok_cons (fgX6_7 dX6_rule_97) ?_
  refine px_ok_cons (ps_bipush dX6_rule_100 (by decide)) ?_
  refine px_ok_cons (ps_iaload dX6_rule_102) ?_
  refine px_ok_cons (ps_if_ne dX6_rule_103 (by decide)) ?_
  refine px_ok_cons (ps_bipush dX6_rule_106 (by decide)) ?_
  refine px_ok_cons (ps_goto dX6_rule_108 (by decide)) ?_
  refine px_ok_cons (ps_aload_n dX6_rule_111 rfl) ?_
  refine px_ok_cons (fgX6_7 dX6_rule_112) ?_
  refine px_ok_cons (ps_bipush dX6_rule_115 (by decide)) ?_
  refine px_ok_cons (ps_iaload dX6_rule_117) ?_
  refine px_ok_cons (ps_aload_n dX6_rule_118 rfl) ?_
  refine px_ok_cons (fgX6_7 dX6_rule_119) ?_
  refine px_ok_cons (ps_bipush dX6_rule_122 (by decide)) ?_
  refine px_ok_cons (ps_iaload dX6_rule_124) ?_
  refine px_ok_cons (ps_irem dX6_rule_125) ?_
  refine px_ok_cons (ps_ireturn rfl dX6_rule_126) ?_
  refine px_ok_cons (ps_aload_n dX6_rule_127 rfl) ?_
  refine px_ok_cons (ps_callV mX6_saidNow (fun _ _ => rfl) (C := RX6) rfl (fun _ _ ht => px_cwV wgM (wdM_2_in _ (List.mem_of_getElem? (i := 36) rfl)) (wdM_2_in _ (List.mem_of_getElem? (i := 37) rfl)) (wdM_2_in _ (List.mem_of_getElem? (i := 38) rfl)) (wdM_0_in _ (List.mem_of_getElem? (i := 22) rfl)) (wdM_2_in _ (List.mem_of_getElem? (i := 35) rfl)) (by decide +kernel) rfl rfl (by decide) ht) dX6_rule_128) ?_
  refine px_ok_cons (ps_ireturn rfl dX6_rule_131) ?_
  refine px_ok_cons (ps_iload_n dX6_rule_132 rfl) ?_
  refine px_ok_cons (ps_ireturn rfl dX6_rule_133) ?_
  refine px_ok_cons (ps_iconst dX6_rule_134 (by decide)) ?_
  refine px_ok_cons (ps_ireturn rfl dX6_rule_135) ?_
  exact px_ok_nil
set_option maxRecDepth 100000 in
set_option maxHeartbeats 4000000 in
theorem sgX6_rule_0 {po : Int32 → px_St → Prop} {G : px_K} (hG : px_cl (opX6_rule po) G) (v1 : Int32) (σ : px_St)
    (H : ∃ g3 : gtX6_starts, qrX6_starts g3 σ ∧ ∀ (r1 : Unit) (σ2 : px_St), qoX6_starts g3 σ r1 σ2 → G 8 [some (.ref 0), some (.int v1), some (.int (0 : Int32)), some (.int (0 : Int32))] [] σ2) :
    G 0 (px_ent 4 [.ref 0, .int v1]) [] σ := by
  refine hG.1 0 _ _ rfl _ _ _ ?_
  refine hG.1 1 _ _ rfl _ _ _ ?_
  show G 2 [some (.ref 0), some (.int v1), some (.int (0 : Int32)), none] [] σ
  refine hG.1 2 _ _ rfl _ _ _ ?_
  refine hG.1 3 _ _ rfl _ _ _ ?_
  obtain ⟨g3, H⟩ := H
  refine ⟨⟨rfl, by decide⟩, Nat.le_of_ble_eq_true rfl, g3, ⟨rfl, H.1⟩, fun r1 σ2 hp4 => ?_⟩
  replace H := H.2 r1 σ2 hp4
  refine hG.1 4 _ _ rfl _ _ _ ?_
  refine hG.1 5 _ _ rfl _ _ _ ?_
  show G 8 [some (.ref 0), some (.int v1), some (.int (0 : Int32)), some (.int (0 : Int32))] [] σ2
  exact H
set_option maxRecDepth 100000 in
set_option maxHeartbeats 4000000 in
theorem sgX6_rule_8 {po : Int32 → px_St → Prop} {G : px_K} (hG : px_cl (opX6_rule po) G) (v1 : Int32) (v2 : Int32) (v3 : Int32) (σ : px_St)
    (H : vp_in (45 : Int32) 183 ∧ (((σ.1 1 (45 : Int32).toNatClampNeg) ≤ v3) → ((v1 = 0) → vp_in (45 : Int32) 183 ∧ po (σ.1 1 (45 : Int32).toNatClampNeg) σ) ∧ (¬ (v1 = 0) → ((v1 = 1) → vp_in (47 : Int32) 183 ∧ po (σ.1 1 (47 : Int32).toNatClampNeg) σ) ∧ (¬ (v1 = 1) → ((v1 = 2) → vp_in (46 : Int32) 183 ∧ po (σ.1 1 (46 : Int32).toNatClampNeg) σ) ∧ (¬ (v1 = 2) → ((v1 = 3) → vp_in (45 : Int32) 183 ∧ ((¬ (σ.1 1 (45 : Int32).toNatClampNeg) = 0) → vp_in (47 : Int32) 183 ∧ vp_in (45 : Int32) 183 ∧ ¬ (σ.1 1 (45 : Int32).toNatClampNeg) = 0 ∧ po ((σ.1 1 (47 : Int32).toNatClampNeg) - (σ.1 1 (47 : Int32).toNatClampNeg) / (σ.1 1 (45 : Int32).toNatClampNeg) * (σ.1 1 (45 : Int32).toNatClampNeg)) σ) ∧ (¬ (¬ (σ.1 1 (45 : Int32).toNatClampNeg) = 0) → po (-4 : Int32) σ)) ∧ (¬ (v1 = 3) → ((v1 = 4) → ∃ g9 : gtX6_saidNow, qrX6_saidNow g9 σ ∧ ∀ (r7 : Int32) (σ8 : px_St), qoX6_saidNow g9 σ r7 σ8 → po r7 σ8) ∧ (¬ (v1 = 4) → ((v1 = 5) → po v2 σ) ∧ (¬ (v1 = 5) → po (-1 : Int32) σ))))))) ∧ (¬ ((σ.1 1 (45 : Int32).toNatClampNeg) ≤ v3) → ∃ g14 : gtX6_of, qrX6_of g14 v3 (1 : Int32) σ ∧ ∀ (r12 : Int32) (σ13 : px_St), qoX6_of g14 v3 (1 : Int32) σ r12 σ13 → G 8 [some (.ref 0), some (.int v1), some (.int (v2 + r12)), some (.int (v3 + 1))] [] σ13)) :
    G 8 [some (.ref 0), some (.int v1), some (.int v2), some (.int v3)] [] σ := by
  refine hG.1 6 _ _ rfl _ _ _ ?_
  refine hG.1 7 _ _ rfl _ _ _ ?_
  refine hG.1 8 _ _ rfl _ _ _ ?_
  refine ⟨⟨rfl, by decide⟩, ?_⟩
  refine hG.1 9 _ _ rfl _ _ _ ?_
  refine hG.1 10 _ _ rfl _ _ _ ?_
  refine ⟨⟨rfl, by decide⟩, H.1, ?_⟩
  replace H := H.2
  refine hG.1 11 _ _ rfl _ _ _ ?_
  refine ⟨fun h16 => ?_, fun h16 => ?_⟩
  · replace H := H.1 h16
    refine hG.1 21 _ _ rfl _ _ _ ?_
    refine hG.1 22 _ _ rfl _ _ _ ?_
    refine ⟨fun h1 => ?_, fun h1 => ?_⟩
    · replace H := H.1 h1
      refine hG.1 23 _ _ rfl _ _ _ ?_
      refine hG.1 24 _ _ rfl _ _ _ ?_
      refine ⟨⟨rfl, by decide⟩, ?_⟩
      refine hG.1 25 _ _ rfl _ _ _ ?_
      refine hG.1 26 _ _ rfl _ _ _ ?_
      refine ⟨⟨rfl, by decide⟩, H.1, ?_⟩
      replace H := H.2
      refine hG.1 27 _ _ rfl _ _ _ ?_
      exact ⟨rfl, H⟩
    · replace H := H.2 h1
      refine ⟨fun h2 => ?_, fun h2 => ?_⟩
      · replace H := H.1 h2
        refine hG.1 28 _ _ rfl _ _ _ ?_
        refine hG.1 29 _ _ rfl _ _ _ ?_
        refine ⟨⟨rfl, by decide⟩, ?_⟩
        refine hG.1 30 _ _ rfl _ _ _ ?_
        refine hG.1 31 _ _ rfl _ _ _ ?_
        refine ⟨⟨rfl, by decide⟩, H.1, ?_⟩
        replace H := H.2
        refine hG.1 32 _ _ rfl _ _ _ ?_
        exact ⟨rfl, H⟩
      · replace H := H.2 h2
        refine ⟨fun h3 => ?_, fun h3 => ?_⟩
        · replace H := H.1 h3
          refine hG.1 33 _ _ rfl _ _ _ ?_
          refine hG.1 34 _ _ rfl _ _ _ ?_
          refine ⟨⟨rfl, by decide⟩, ?_⟩
          refine hG.1 35 _ _ rfl _ _ _ ?_
          refine hG.1 36 _ _ rfl _ _ _ ?_
          refine ⟨⟨rfl, by decide⟩, H.1, ?_⟩
          replace H := H.2
          refine hG.1 37 _ _ rfl _ _ _ ?_
          exact ⟨rfl, H⟩
        · replace H := H.2 h3
          refine ⟨fun h4 => ?_, fun h4 => ?_⟩
          · replace H := H.1 h4
            refine hG.1 38 _ _ rfl _ _ _ ?_
            refine hG.1 39 _ _ rfl _ _ _ ?_
            refine ⟨⟨rfl, by decide⟩, ?_⟩
            refine hG.1 40 _ _ rfl _ _ _ ?_
            refine hG.1 41 _ _ rfl _ _ _ ?_
            refine ⟨⟨rfl, by decide⟩, H.1, ?_⟩
            replace H := H.2
            refine hG.1 42 _ _ rfl _ _ _ ?_
            refine ⟨fun h5 => ?_, fun h5 => ?_⟩
            · replace H := H.1 h5
              refine hG.1 45 _ _ rfl _ _ _ ?_
              refine hG.1 46 _ _ rfl _ _ _ ?_
              refine ⟨⟨rfl, by decide⟩, ?_⟩
              refine hG.1 47 _ _ rfl _ _ _ ?_
              refine hG.1 48 _ _ rfl _ _ _ ?_
              refine ⟨⟨rfl, by decide⟩, H.1, ?_⟩
              replace H := H.2
              refine hG.1 49 _ _ rfl _ _ _ ?_
              refine hG.1 50 _ _ rfl _ _ _ ?_
              refine ⟨⟨rfl, by decide⟩, ?_⟩
              refine hG.1 51 _ _ rfl _ _ _ ?_
              refine hG.1 52 _ _ rfl _ _ _ ?_
              refine ⟨⟨rfl, by decide⟩, H.1, ?_⟩
              replace H := H.2
              refine hG.1 53 _ _ rfl _ _ _ ?_
              refine ⟨H.1, ?_⟩
              replace H := H.2
              refine hG.1 54 _ _ rfl _ _ _ ?_
              exact ⟨rfl, H⟩
            · replace H := H.2 h5
              refine hG.1 43 _ _ rfl _ _ _ ?_
              refine hG.1 44 _ _ rfl _ _ _ ?_
              refine hG.1 54 _ _ rfl _ _ _ ?_
              exact ⟨rfl, H⟩
          · replace H := H.2 h4
            refine ⟨fun h6 => ?_, fun h6 => ?_⟩
            · replace H := H.1 h6
              refine hG.1 55 _ _ rfl _ _ _ ?_
              refine hG.1 56 _ _ rfl _ _ _ ?_
              obtain ⟨g9, H⟩ := H
              refine ⟨⟨rfl, by decide⟩, Nat.le_of_ble_eq_true rfl, g9, ⟨rfl, H.1⟩, fun r7 σ8 hp10 => ?_⟩
              replace H := H.2 r7 σ8 hp10
              refine hG.1 57 _ _ rfl _ _ _ ?_
              exact ⟨rfl, H⟩
            · replace H := H.2 h6
              refine ⟨fun h11 => ?_, fun h11 => ?_⟩
              · replace H := H.1 h11
                refine hG.1 58 _ _ rfl _ _ _ ?_
                refine hG.1 59 _ _ rfl _ _ _ ?_
                exact ⟨rfl, H⟩
              · replace H := H.2 h11
                refine hG.1 60 _ _ rfl _ _ _ ?_
                refine hG.1 61 _ _ rfl _ _ _ ?_
                exact ⟨rfl, H⟩
  · replace H := H.2 h16
    refine hG.1 12 _ _ rfl _ _ _ ?_
    refine hG.1 13 _ _ rfl _ _ _ ?_
    refine hG.1 14 _ _ rfl _ _ _ ?_
    refine hG.1 15 _ _ rfl _ _ _ ?_
    refine hG.1 16 _ _ rfl _ _ _ ?_
    obtain ⟨g14, H⟩ := H
    refine ⟨⟨rfl, by decide⟩, Nat.le_of_ble_eq_true rfl, g14, ⟨_, _, rfl, H.1⟩, fun r12 σ13 hp15 => ?_⟩
    replace H := H.2 r12 σ13 hp15
    refine hG.1 17 _ _ rfl _ _ _ ?_
    refine hG.1 18 _ _ rfl _ _ _ ?_
    show G 28 [some (.ref 0), some (.int v1), some (.int (v2 + r12)), some (.int v3)] [] σ13
    refine hG.1 19 _ _ rfl _ _ _ ?_
    show G 31 [some (.ref 0), some (.int v1), some (.int (v2 + r12)), some (.int (v3 + 1))] [] σ13
    refine hG.1 20 _ _ rfl _ _ _ ?_
    exact H
set_option maxRecDepth 100000 in
set_option maxHeartbeats 4000000 in
theorem hhX6_rule (g : gtX6_rule) (v1 : Int32) (σ : px_St) (h : qrX6_rule g v1 σ) (G : px_K) (hG : px_cl (opX6_rule (qoX6_rule g v1 σ)) G) : G 0 (px_ent 4 [.ref 0, .int v1]) [] σ := by
  obtain ⟨hX, hok⟩ := h
  have hvk := hok.1.1
  have h5 := hvk.1.1
  have hd := hok.1.2
  refine sgX6_rule_0 hG _ σ ⟨(), trivial, fun _ σ1 hs => ?_⟩
  have hk := starts_mk hs
  have hX1 := hk.mo hX
  have hV2 := starts_mv hs hX.1 hvk.1
  obtain ⟨⟨e0, e1, e2⟩, -⟩ := hX1.1
  have i45 : vp_in (45 : Int32) 183 := vpin 45 183 rfl (by omega) (by omega)
  have i46 : vp_in (46 : Int32) 183 := vpin 46 183 rfl (by omega) (by omega)
  have i47 : vp_in (47 : Int32) 183 := vpin 47 183 rfl (by omega) (by omega)
  have loop : ∀ m k, k + m = g.1.1 → G 8 [some (.ref 0), some (.int v1), some (.int (pv_sum (fun p => nI (g.1.2.2.2 p).2.2.length) k)), some (.int (nI k))] [] σ1 := by
    intro m
    induction m with
    | zero =>
      intro k hk
      have e : k = g.1.1 := by omega
      subst e
      refine sgX6_rule_8 hG _ _ _ σ1 ?_
      rw [c45, c46, c47, e0, e1, e2]
      unfold qoX6_rule x_rule
      simp only
      refine ⟨i45, fun _ => ⟨fun h0 => ⟨i45, ?_, hX1⟩, fun h0 => ⟨fun h1 => ⟨i47, ?_, hX1⟩, fun h1 => ⟨fun h2 => ⟨i46, ?_, hX1⟩, fun h2 => ⟨fun h3 => ⟨i45, fun hn => ⟨i47, i45, hn, ?_, hX1⟩, fun hn => ⟨?_, hX1⟩⟩, fun h3 => ⟨fun h4 => ⟨g.1, ⟨hV2, hvk⟩, fun r σ2 hp => ?_⟩, fun h4 => ⟨fun h5 => ⟨?_, hX1⟩, fun h5 => ⟨?_, hX1⟩⟩⟩⟩⟩⟩⟩, fun y => absurd (Int32.le_refl _) y⟩
      · rw [if_pos h0]
      · rw [if_neg h0, if_pos h1]
      · rw [if_neg h0, if_neg h1, if_pos h2]
      · rw [if_neg h0, if_neg h1, if_neg h2, if_pos h3]
        unfold pv_spk
        have hz : 0 < g.1.1 := Nat.pos_of_ne_zero (fun z => hn (by rw [z]; rfl))
        rw [if_neg (by omega), pk_rem (by omega) (by omega) (by omega)]
      · rw [if_neg h0, if_neg h1, if_neg h2, if_pos h3]
        unfold pv_spk
        rw [if_pos ((nIe _ 0 rfl rfl (by omega) (by omega)).mp (Classical.byContradiction hn))]
      · obtain ⟨rfl, rfl⟩ := hp
        exact ⟨by rw [if_neg h0, if_neg h1, if_neg h2, if_neg h3, if_pos h4], hX1⟩
      · rw [if_neg h0, if_neg h1, if_neg h2, if_neg h3, if_neg h4, if_pos h5]
      · rw [if_neg h0, if_neg h1, if_neg h2, if_neg h3, if_neg h4, if_neg h5]
    | succ m ih =>
      intro k hk
      refine sgX6_rule_8 hG _ _ _ σ1 ?_
      rw [c45, e0]
      refine ⟨i45, fun y => absurd y (nI_ge (by omega) (by omega)), fun _ => ⟨9 * k + 1, ⟨by omega, ix9 k 1⟩, fun r σ2 hq => ?_⟩⟩
      obtain ⟨rfl, rfl⟩ := hq
      rw [(hV2.2 k (by omega)).2.1, nI_1]
      exact ih (k + 1) (by omega)
  exact loop g.1.1 0 (by omega)
theorem mX6_rule (g : gtX6_rule) : px_Met dM yX6_rule (Cond.code yX6_rule cX6_rule 4 (some .int) :: wdM) rmX6_rule px_vI (prX6_rule g) (poX6_rule g) :=
  px_met (Z := (cX6_rule, 4, RX6, Cond.code yX6_rule cX6_rule 4 (some .int) :: wdM, (some .int), rmX6_rule, dM)) opX6_rule (by decide) rfl rfl okX6_rule (fun As σ h => by obtain ⟨v1, rfl, h⟩ := h; exact Nat.le_of_ble_eq_true rfl) (fun As σ h G hG => by obtain ⟨v1, rfl, h⟩ := h; exact hhX6_rule g v1 σ h G hG)
