def x_upd {α : Type} (f : Nat → Option α) (k : Nat) (w : Option α) : Nat → Option α := fun j => if j = k then w else f j
theorem x_upd_s {α : Type} (f : Nat → Option α) (k : Nat) (w : Option α) : x_upd f k w k = w := if_pos rfl
theorem x_upd_n {α : Type} {f : Nat → Option α} {k j : Nat} {w : Option α} (h : j ≠ k) : x_upd f k w j = f j := if_neg h
def x_is1 {α : Type} : Option α → Nat
  | none => 0
  | some _ => 1
noncomputable def x_keep (X : pv_X) (k : Int32) : Int32 × pv_X := xif (0 ≤ k ∧ k ≤ 1) (nI (x_is1 (X.2.2.2.1 k.toNatClampNeg)), xI X (x_upd X.2.2.2.1 k.toNatClampNeg (some (X.1, X.2.1)))) (-1, X)
def x_back0 (X : pv_X) : Option (pv_V × pv_S) → Int32 × pv_X
  | none => (-2, X)
  | some w => (nI w.1.2.2.1, xS (xV X w.1) w.2)
noncomputable def x_back (X : pv_X) (k : Int32) : Int32 × pv_X := xif (0 ≤ k ∧ k ≤ 1) (x_back0 X (X.2.2.2.1 k.toNatClampNeg)) (-1, X)
noncomputable def x_sheet (X : pv_X) (k l n : Int32) : Int32 × pv_X := xif ((0 ≤ k ∧ k ≤ 3) ∧ (0 ≤ l ∧ l ≤ 2) ∧ n ≤ 40) (xif (0 ≤ n) (1, xH X (x_upd X.2.2.2.2.2.2 k.toNatClampNeg (some (l.toNatClampNeg, n.toNatClampNeg, fun _ => 0)))) (-14, X)) (-1, X)
noncomputable def x_lay0 (X : pv_X) (k : Nat) (i v : Int32) : Option pv_H → Int32 × pv_X
  | none => (-11, X)
  | some w => xif (0 ≤ i ∧ i ≤ nI w.2.1 - 1) (1, xH X (x_upd X.2.2.2.2.2.2 k (some (w.1, w.2.1, upd w.2.2 i.toNatClampNeg (pv_nar (nI w.1) v))))) (-12, X)
noncomputable def x_lay (X : pv_X) (k i v : Int32) : Int32 × pv_X := xif (0 ≤ k ∧ k ≤ 3) (x_lay0 X k.toNatClampNeg i v (X.2.2.2.2.2.2 k.toNatClampNeg)) (-1, X)
noncomputable def x_torn (X : pv_X) : Int32 × pv_X := (nI X.2.2.2.2.2.1, X)
def x_sz : Option pv_H → Int32
  | none => -4
  | some w => nI w.2.1
noncomputable def x_count (X : pv_X) (w : Int32) : Int32 × pv_X := (if w = 0 then nI X.2.1.length else if w = 1 then nI (x_is1 (X.2.2.2.1 0) + x_is1 (X.2.2.2.1 1)) else if w = 2 then nI X.2.2.1.length else if w = 3 then x_sz (X.2.2.2.2.2.2 0) else if w = 4 then pv_all X.1 X.1.1 else if w = 5 then pv_sum (fun p => nI (X.1.2.2.2 p).2.1) X.1.1 else -1, X)
theorem cl_I {σ σ' : px_St} {X : pv_X} {I : Nat → Option (pv_V × pv_S)} (h : cl_is σ X) (hI : cl_im σ' I) (ho : ∀ k, k < 23 ∨ (38 ≤ k ∧ k ≤ 40) ∨ 49 ≤ k → σ'.1 k = σ.1 k) : cl_is σ' (xI X I) := by
  obtain ⟨h1, h2, h3, h4, h5, h6, h7⟩ := h
  have e0 := ho 0 (by omega)
  exact ⟨h1.kept (fun k a b => ho k (by omega)), h2.kept (fun k a b => ho k (by omega)), h3.kept (by rw [e0]) (ho 3 (by omega)), hI, by rw [e0]; exact h5, by rw [e0]; exact h6, h7.kept (fun k a => ho k (by omega))⟩
theorem cl_H {σ σ' : px_St} {X : pv_X} {H : Nat → Option pv_H} (h : cl_is σ X) (hH : cl_sh σ' H) (ho : ∀ k, k < 49 → σ'.1 k = σ.1 k) : cl_is σ' (xH X H) := by
  obtain ⟨h1, h2, h3, h4, h5, h6, h7⟩ := h
  have e0 := ho 0 (by omega)
  exact ⟨h1.kept (fun k a b => ho k (by omega)), h2.kept (fun k a b => ho k (by omega)), h3.kept (by rw [e0]) (ho 3 (by omega)), h4.kept (fun k a => ho k (by omega)), by rw [e0]; exact h5, by rw [e0]; exact h6, hH⟩
abbrev gtX5_keep : Type := pv_X
def qrX5_keep (X : pv_X) (_ : Int32) (σ : px_St) : Prop := cl_is σ X ∧ xo X
def qoX5_keep (X : pv_X) (k : Int32) (_ : px_St) (r : Int32) (σ' : px_St) : Prop := r = (x_keep X k).1 ∧ cl_is σ' (x_keep X k).2
theorem im_id {k : Nat} (hk : k < 2) : dC.2.2.2 5 (nI k).toNatClampNeg = 47 + k := by
  rw [nI_clamp (by omega)]
  rcases (show k = 0 ∨ k = 1 by omega) with rfl | rfl <;> rfl
theorem sh_id {k : Nat} (hk : k < 4) : dC.2.2.2 6 (nI k).toNatClampNeg = 49 + 2 * k := by
  rw [nI_clamp (by omega)]
  rcases (show k = 0 ∨ k = 1 ∨ k = 2 ∨ k = 3 by omega) with rfl | rfl | rfl | rfl <;> rfl
def prX5_keep (g : gtX5_keep) : List Value → px_St → Prop := fun As σ => ∃ v1 : Int32, As = [.ref 0, .int v1] ∧ qrX5_keep g v1 σ
def poX5_keep (g : gtX5_keep) : List Value → px_St → Int32 → px_St → Prop
  | [.ref _, .int v1], σ, r, σ' => qoX5_keep g v1 σ r σ'
  | _, _, _, _ => False
theorem dX5_keep_0 : decode cX5_keep 0 = .ok (.iload_n 1, 1) := by decide +kernel
theorem dX5_keep_1 : decode cX5_keep 1 = .ok (.iconst 0, 1) := by decide +kernel
theorem dX5_keep_2 : decode cX5_keep 2 = .ok (.iconst 1, 1) := by decide +kernel
theorem dX5_keep_3 : decode cX5_keep 3 = .ok (.invokestatic 61, 3) := by decide +kernel
theorem dX5_keep_6 : decode cX5_keep 6 = .ok (.ifCond .ne 5, 3) := by decide +kernel
theorem dX5_keep_9 : decode cX5_keep 9 = .ok (.iconst (-1), 1) := by decide +kernel
theorem dX5_keep_10 : decode cX5_keep 10 = .ok (.ireturn, 1) := by decide +kernel
theorem dX5_keep_11 : decode cX5_keep 11 = .ok (.aload_n 0, 1) := by decide +kernel
theorem dX5_keep_12 : decode cX5_keep 12 = .ok (.getfield 49, 3) := by decide +kernel
theorem dX5_keep_15 : decode cX5_keep 15 = .ok (.iload_n 1, 1) := by decide +kernel
theorem dX5_keep_16 : decode cX5_keep 16 = .ok (.aaload, 1) := by decide +kernel
theorem dX5_keep_17 : decode cX5_keep 17 = .ok (.astore_n 2, 1) := by decide +kernel
theorem dX5_keep_18 : decode cX5_keep 18 = .ok (.aload_n 2, 1) := by decide +kernel
theorem dX5_keep_19 : decode cX5_keep 19 = .ok (.getfield 89, 3) := by decide +kernel
theorem dX5_keep_22 : decode cX5_keep 22 = .ok (.ifCond .eq 7, 3) := by decide +kernel
theorem dX5_keep_25 : decode cX5_keep 25 = .ok (.iconst 1, 1) := by decide +kernel
theorem dX5_keep_26 : decode cX5_keep 26 = .ok (.goto 4, 3) := by decide +kernel
theorem dX5_keep_29 : decode cX5_keep 29 = .ok (.iconst 0, 1) := by decide +kernel
theorem dX5_keep_30 : decode cX5_keep 30 = .ok (.istore_n 3, 1) := by decide +kernel
theorem dX5_keep_31 : decode cX5_keep 31 = .ok (.aload_n 2, 1) := by decide +kernel
theorem dX5_keep_32 : decode cX5_keep 32 = .ok (.iconst 1, 1) := by decide +kernel
theorem dX5_keep_33 : decode cX5_keep 33 = .ok (.putfield 89, 3) := by decide +kernel
theorem dX5_keep_36 : decode cX5_keep 36 = .ok (.aload_n 2, 1) := by decide +kernel
theorem dX5_keep_37 : decode cX5_keep 37 = .ok (.getfield 231, 3) := by decide +kernel
theorem dX5_keep_40 : decode cX5_keep 40 = .ok (.aload_n 0, 1) := by decide +kernel
theorem dX5_keep_41 : decode cX5_keep 41 = .ok (.getfield 10, 3) := by decide +kernel
theorem dX5_keep_44 : decode cX5_keep 44 = .ok (.invokevirtual 82, 3) := by decide +kernel
theorem dX5_keep_47 : decode cX5_keep 47 = .ok (.aload_n 2, 1) := by decide +kernel
theorem dX5_keep_48 : decode cX5_keep 48 = .ok (.getfield 234, 3) := by decide +kernel
theorem dX5_keep_51 : decode cX5_keep 51 = .ok (.aload_n 0, 1) := by decide +kernel
theorem dX5_keep_52 : decode cX5_keep 52 = .ok (.getfield 19, 3) := by decide +kernel
theorem dX5_keep_55 : decode cX5_keep 55 = .ok (.invokevirtual 237, 3) := by decide +kernel
theorem dX5_keep_58 : decode cX5_keep 58 = .ok (.iload_n 3, 1) := by decide +kernel
theorem dX5_keep_59 : decode cX5_keep 59 = .ok (.ireturn, 1) := by decide +kernel
abbrev rmX5_keep : Room := { frames := 3, cells := 0, slots := 0, locals := 105 }
def opX5_keep (po : Int32 → px_St → Prop) : List (Nat × px_Op) := [
  (0, px_il 1 1),
  (1, px_push 2 (.int 0)),
  (2, px_push 3 (.int 1)),
  (3, px_callS 6 3 px_vI prX5_isWithin poX5_isWithin),
  (6, px_if 9 11 (fun x => ¬ x = 0)),
  (9, px_push 10 (.int (-1))),
  (10, px_iret (.int) po),
  (11, px_al 12 0),
  (12, px_get dC 15 5 8),
  (15, px_il 16 1),
  (16, px_aald dC 17 3),
  (17, px_as 18 2),
  (18, px_al 19 2),
  (19, px_get dC 22 1 0),
  (22, px_if 25 29 (fun x => x = 0)),
  (25, px_push 26 (.int 1)),
  (26, px_go 30),
  (29, px_push 30 (.int 0)),
  (30, px_is 31 3),
  (31, px_al 32 2),
  (32, px_push 33 (.int 1)),
  (33, px_put dC 36 1 0 .boolean),
  (36, px_al 37 2),
  (37, px_get dC 40 1 1),
  (40, px_al 41 0),
  (41, px_get dC 44 5 0),
  (44, px_callV dC 47 0 1 px_vV prX0_becomes poX0_becomes),
  (47, px_al 48 2),
  (48, px_get dC 51 1 2),
  (51, px_al 52 0),
  (52, px_get dC 55 5 1),
  (55, px_callV dC 58 2 1 px_vV prX2_becomes poX2_becomes),
  (58, px_il 59 3),
  (59, px_iret (.int) po)]
set_option maxRecDepth 100000 in
set_option maxHeartbeats 4000000 in
theorem okX5_keep : ∀ (po : Int32 → px_St → Prop) (i pc : Nat) (op : px_Op), (opX5_keep po)[i]? = some (pc, op) → px_Snd (cX5_keep, 4, RX5, Cond.code yX5_keep cX5_keep 4 (some .int) :: wdC, (some .int), rmX5_keep, dC) px_vI po pc op := by
  intro po
  unfold opX5_keep
  refine px_ok_cons (ps_iload_n dX5_keep_0 rfl) ?_
  refine px_ok_cons (ps_iconst dX5_keep_1 (by decide)) ?_
  refine px_ok_cons (ps_iconst dX5_keep_2 (by decide)) ?_
  refine px_ok_cons (ps_callS mX5_isWithin (fun _ _ => rfl) (fun _ _ ht => px_cwS wgC (wdC_4_in _ (List.mem_of_getElem? (i := 29) rfl)) (wdC_4_in _ (List.mem_of_getElem? (i := 22) rfl)) (wdC_4_in _ (List.mem_of_getElem? (i := 23) rfl)) (wdC_4_in _ (List.mem_of_getElem? (i := 20) rfl)) (by decide +kernel) rfl rfl (by decide) ht) dX5_keep_3) ?_
  refine px_ok_cons (ps_if_ne dX5_keep_6 (by decide)) ?_
  refine px_ok_cons (ps_iconst dX5_keep_9 (by decide)) ?_
  refine px_ok_cons (ps_ireturn rfl dX5_keep_10) ?_
  refine px_ok_cons (ps_aload_n dX5_keep_11 rfl) ?_
  refine px_ok_cons (fgX5_49 dX5_keep_12) ?_
  refine px_ok_cons (ps_iload_n dX5_keep_15 rfl) ?_
  refine px_ok_cons (ps_aaload3 dX5_keep_16) ?_
  refine px_ok_cons (ps_astore_n dX5_keep_17 rfl (by decide)) ?_
  refine px_ok_cons (ps_aload_n dX5_keep_18 rfl) ?_
  refine px_ok_cons (fgX5_89 dX5_keep_19) ?_
  refine px_ok_cons (ps_if_eq dX5_keep_22 (by decide)) ?_
  refine px_ok_cons (ps_iconst dX5_keep_25 (by decide)) ?_
  refine px_ok_cons (ps_goto dX5_keep_26 (by decide)) ?_
  refine px_ok_cons (ps_iconst dX5_keep_29 (by decide)) ?_
  refine px_ok_cons (ps_istore_n dX5_keep_30 rfl (by decide)) ?_
  refine px_ok_cons (ps_aload_n dX5_keep_31 rfl) ?_
  refine px_ok_cons (ps_iconst dX5_keep_32 (by decide)) ?_
  refine px_ok_cons (fpX5_89 dX5_keep_33) ?_
  refine px_ok_cons (ps_aload_n dX5_keep_36 rfl) ?_
  refine px_ok_cons (fgX5_231 dX5_keep_37) ?_
  refine px_ok_cons (ps_aload_n dX5_keep_40 rfl) ?_
  refine px_ok_cons (fgX5_10 dX5_keep_41) ?_
  refine px_ok_cons (ps_callV mX0_becomes (fun _ _ => rfl) (C := RX0) rfl (fun _ _ ht => px_cwV wgC (wdC_6_in _ (List.mem_of_getElem? (i := 18) rfl)) (wdC_6_in _ (List.mem_of_getElem? (i := 19) rfl)) (wdC_6_in _ (List.mem_of_getElem? (i := 20) rfl)) (wdC_0_in _ (List.mem_of_getElem? (i := 22) rfl)) (wdC_0_in _ (List.mem_of_getElem? (i := 18) rfl)) (by decide +kernel) rfl rfl (by decide) ht) dX5_keep_44) ?_
  refine px_ok_cons (ps_aload_n dX5_keep_47 rfl) ?_
  refine px_ok_cons (fgX5_234 dX5_keep_48) ?_
  refine px_ok_cons (ps_aload_n dX5_keep_51 rfl) ?_
  refine px_ok_cons (fgX5_19 dX5_keep_52) ?_
  refine px_ok_cons (ps_callV mX2_becomes (fun _ _ => rfl) (C := RX2) rfl (fun _ _ ht => px_cwV wgC (wdC_9_in _ (List.mem_of_getElem? (i := 38) rfl)) (wdC_9_in _ (List.mem_of_getElem? (i := 39) rfl)) (wdC_10_in _ (List.mem_of_getElem? (i := 0) rfl)) (wdC_2_in _ (List.mem_of_getElem? (i := 1) rfl)) (wdC_2_in _ (List.mem_of_getElem? (i := 6) rfl)) (by decide +kernel) rfl rfl (by decide) ht) dX5_keep_55) ?_
  refine px_ok_cons (ps_iload_n dX5_keep_58 rfl) ?_
  refine px_ok_cons (ps_ireturn rfl dX5_keep_59) ?_
  exact px_ok_nil
set_option maxRecDepth 100000 in
set_option maxHeartbeats 4000000 in
theorem sgX5_keep_0 {po : Int32 → px_St → Prop} {G : px_K} (hG : px_cl (opX5_keep po) G) (v1 : Int32) (σ : px_St)
    (H : ∃ g3 : gtX5_isWithin, qrX5_isWithin g3 v1 (0 : Int32) (1 : Int32) σ ∧ ∀ (r1 : Int32) (σ2 : px_St), qoX5_isWithin g3 v1 (0 : Int32) (1 : Int32) σ r1 σ2 → ((¬ r1 = 0) → vp_in v1 2 ∧ (((σ2.1 (dC.2.2.2 5 v1.toNatClampNeg) 0) = 0) → ∃ g8 : gtX0_becomes, qrX0_becomes g8 (23 + 5 * ((dC.2.2.2 5 v1.toNatClampNeg) - 47)) 8 (px_up σ2 (dC.2.2.2 5 v1.toNatClampNeg) 0 (1 : Int32)) ∧ ∀ (r6 : Unit) (σ7 : px_St), qoX0_becomes g8 (23 + 5 * ((dC.2.2.2 5 v1.toNatClampNeg) - 47)) 8 (px_up σ2 (dC.2.2.2 5 v1.toNatClampNeg) 0 (1 : Int32)) r6 σ7 → ∃ g12 : gtX2_becomes, qrX2_becomes g12 (41 + 3 * ((dC.2.2.2 5 v1.toNatClampNeg) - 47)) 38 σ7 ∧ ∀ (r10 : Unit) (σ11 : px_St), qoX2_becomes g12 (41 + 3 * ((dC.2.2.2 5 v1.toNatClampNeg) - 47)) 38 σ7 r10 σ11 → po (0 : Int32) σ11) ∧ (¬ ((σ2.1 (dC.2.2.2 5 v1.toNatClampNeg) 0) = 0) → ∃ g16 : gtX0_becomes, qrX0_becomes g16 (23 + 5 * ((dC.2.2.2 5 v1.toNatClampNeg) - 47)) 8 (px_up σ2 (dC.2.2.2 5 v1.toNatClampNeg) 0 (1 : Int32)) ∧ ∀ (r14 : Unit) (σ15 : px_St), qoX0_becomes g16 (23 + 5 * ((dC.2.2.2 5 v1.toNatClampNeg) - 47)) 8 (px_up σ2 (dC.2.2.2 5 v1.toNatClampNeg) 0 (1 : Int32)) r14 σ15 → ∃ g20 : gtX2_becomes, qrX2_becomes g20 (41 + 3 * ((dC.2.2.2 5 v1.toNatClampNeg) - 47)) 38 σ15 ∧ ∀ (r18 : Unit) (σ19 : px_St), qoX2_becomes g20 (41 + 3 * ((dC.2.2.2 5 v1.toNatClampNeg) - 47)) 38 σ15 r18 σ19 → po (1 : Int32) σ19)) ∧ (¬ (¬ r1 = 0) → po (-1 : Int32) σ2)) :
    G 0 (px_ent 4 [.ref 0, .int v1]) [] σ := by
  refine hG.1 0 _ _ rfl _ _ _ ?_
  refine hG.1 1 _ _ rfl _ _ _ ?_
  refine hG.1 2 _ _ rfl _ _ _ ?_
  refine hG.1 3 _ _ rfl _ _ _ ?_
  obtain ⟨g3, H⟩ := H
  refine ⟨Nat.le_of_ble_eq_true rfl, Nat.le_of_ble_eq_true rfl, g3, ⟨_, _, _, rfl, H.1⟩, fun r1 σ2 hp4 => ?_⟩
  replace H := H.2 r1 σ2 hp4
  refine hG.1 4 _ _ rfl _ _ _ ?_
  refine ⟨fun h23 => ?_, fun h23 => ?_⟩
  · replace H := H.1 h23
    refine hG.1 7 _ _ rfl _ _ _ ?_
    refine hG.1 8 _ _ rfl _ _ _ ?_
    refine ⟨⟨rfl, by decide⟩, ?_⟩
    refine hG.1 9 _ _ rfl _ _ _ ?_
    refine hG.1 10 _ _ rfl _ _ _ ?_
    have hz5 := im_of H.1
    refine ⟨⟨rfl, by decide⟩, H.1, ?_⟩
    replace H := H.2
    refine hG.1 11 _ _ rfl _ _ _ ?_
    show G 18 [some (.ref 0), some (.int v1), some (.ref (dC.2.2.2 5 v1.toNatClampNeg)), none] [] σ2
    refine hG.1 12 _ _ rfl _ _ _ ?_
    refine hG.1 13 _ _ rfl _ _ _ ?_
    refine ⟨(im_s0 hz5), ?_⟩
    refine hG.1 14 _ _ rfl _ _ _ ?_
    refine ⟨fun h22 => ?_, fun h22 => ?_⟩
    · replace H := H.1 h22
      refine hG.1 17 _ _ rfl _ _ _ ?_
      refine hG.1 18 _ _ rfl _ _ _ ?_
      show G 31 [some (.ref 0), some (.int v1), some (.ref (dC.2.2.2 5 v1.toNatClampNeg)), some (.int (0 : Int32))] [] σ2
      refine hG.1 19 _ _ rfl _ _ _ ?_
      refine hG.1 20 _ _ rfl _ _ _ ?_
      refine hG.1 21 _ _ rfl _ _ _ ?_
      refine ⟨(im_s0 hz5), ⟨rfl, rfl⟩, ?_⟩
      refine hG.1 22 _ _ rfl _ _ _ ?_
      refine hG.1 23 _ _ rfl _ _ _ ?_
      refine ⟨(im_s0 hz5), ?_⟩
      refine hG.1 24 _ _ rfl _ _ _ ?_
      refine hG.1 25 _ _ rfl _ _ _ ?_
      refine ⟨⟨rfl, by decide⟩, ?_⟩
      refine hG.1 26 _ _ rfl _ _ _ ?_
      obtain ⟨g8, H⟩ := H
      refine ⟨(av_s0 (im_av hz5)), Nat.le_of_ble_eq_true rfl, g8, ⟨_, _, rfl, (im_av hz5), (Or.inl rfl), H.1⟩, fun r6 σ7 hp9 => ?_⟩
      replace H := H.2 r6 σ7 hp9
      refine hG.1 27 _ _ rfl _ _ _ ?_
      refine hG.1 28 _ _ rfl _ _ _ ?_
      refine ⟨(im_s0 hz5), ?_⟩
      refine hG.1 29 _ _ rfl _ _ _ ?_
      refine hG.1 30 _ _ rfl _ _ _ ?_
      refine ⟨⟨rfl, by decide⟩, ?_⟩
      refine hG.1 31 _ _ rfl _ _ _ ?_
      obtain ⟨g12, H⟩ := H
      refine ⟨(sn_s0 (im_sn hz5)), Nat.le_of_ble_eq_true rfl, g12, ⟨_, _, rfl, (im_sn hz5), (Or.inl rfl), H.1⟩, fun r10 σ11 hp13 => ?_⟩
      replace H := H.2 r10 σ11 hp13
      refine hG.1 32 _ _ rfl _ _ _ ?_
      refine hG.1 33 _ _ rfl _ _ _ ?_
      exact ⟨rfl, H⟩
    · replace H := H.2 h22
      refine hG.1 15 _ _ rfl _ _ _ ?_
      refine hG.1 16 _ _ rfl _ _ _ ?_
      refine hG.1 18 _ _ rfl _ _ _ ?_
      show G 31 [some (.ref 0), some (.int v1), some (.ref (dC.2.2.2 5 v1.toNatClampNeg)), some (.int (1 : Int32))] [] σ2
      refine hG.1 19 _ _ rfl _ _ _ ?_
      refine hG.1 20 _ _ rfl _ _ _ ?_
      refine hG.1 21 _ _ rfl _ _ _ ?_
      refine ⟨(im_s0 hz5), ⟨rfl, rfl⟩, ?_⟩
      refine hG.1 22 _ _ rfl _ _ _ ?_
      refine hG.1 23 _ _ rfl _ _ _ ?_
      refine ⟨(im_s0 hz5), ?_⟩
      refine hG.1 24 _ _ rfl _ _ _ ?_
      refine hG.1 25 _ _ rfl _ _ _ ?_
      refine ⟨⟨rfl, by decide⟩, ?_⟩
      refine hG.1 26 _ _ rfl _ _ _ ?_
      obtain ⟨g16, H⟩ := H
      refine ⟨(av_s0 (im_av hz5)), Nat.le_of_ble_eq_true rfl, g16, ⟨_, _, rfl, (im_av hz5), (Or.inl rfl), H.1⟩, fun r14 σ15 hp17 => ?_⟩
      replace H := H.2 r14 σ15 hp17
      refine hG.1 27 _ _ rfl _ _ _ ?_
      refine hG.1 28 _ _ rfl _ _ _ ?_
      refine ⟨(im_s0 hz5), ?_⟩
      refine hG.1 29 _ _ rfl _ _ _ ?_
      refine hG.1 30 _ _ rfl _ _ _ ?_
      refine ⟨⟨rfl, by decide⟩, ?_⟩
      refine hG.1 31 _ _ rfl _ _ _ ?_
      obtain ⟨g20, H⟩ := H
      refine ⟨(sn_s0 (im_sn hz5)), Nat.le_of_ble_eq_true rfl, g20, ⟨_, _, rfl, (im_sn hz5), (Or.inl rfl), H.1⟩, fun r18 σ19 hp21 => ?_⟩
      replace H := H.2 r18 σ19 hp21
      refine hG.1 32 _ _ rfl _ _ _ ?_
      refine hG.1 33 _ _ rfl _ _ _ ?_
      exact ⟨rfl, H⟩
  · replace H := H.2 h23
    refine hG.1 5 _ _ rfl _ _ _ ?_
    refine hG.1 6 _ _ rfl _ _ _ ?_
    exact ⟨rfl, H⟩
set_option maxRecDepth 100000 in
set_option maxHeartbeats 4000000 in
theorem hhX5_keep (g : gtX5_keep) (v1 : Int32) (σ : px_St) (h : qrX5_keep g v1 σ) (G : px_K) (hG : px_cl (opX5_keep (qoX5_keep g v1 σ)) G) : G 0 (px_ent 4 [.ref 0, .int v1]) [] σ := by
  obtain ⟨hX, hok⟩ := h
  have hvk := hok.1.1
  refine sgX5_keep_0 hG _ σ ⟨(), trivial, fun r1 σ1 h1 => ?_⟩
  obtain ⟨rfl, b1⟩ := h1
  unfold qoX5_keep x_keep
  refine bz1 b1 (fun z => ?_) (fun z => ?_)
  · rw [xif_t z]
    obtain ⟨k, hk, rfl⟩ := (rngc 1 1 rfl (by omega)).mp z
    rw [im_id (by omega), nI_clamp (show k < 2 ^ 31 by omega), show 23 + 5 * (47 + k - 47) = 23 + 5 * k by omega, show 41 + 3 * (47 + k - 47) = 41 + 3 * k by omega]
    have hav : px_av (23 + 5 * k) := by unfold px_av; omega
    have hV0 : av_is (px_up σ1 (47 + k) 0 1) 8 g.1 := hX.1.kept (fun j h1 h2 => px_up_n (by omega))
    have hS0 : sn_is (px_up σ1 (47 + k) 0 1) 38 g.2.1 := hX.2.1.kept (fun j h1 h2 => px_up_n (by omega))
    have fin : ∀ σ2 σ3, av_is σ2 (23 + 5 * k) g.1 → px_only (23 + 5 * k) (px_up σ1 (47 + k) 0 1) σ2 → sn_is σ3 (41 + 3 * k) g.2.1 → (∀ j, j < 41 + 3 * k ∨ 41 + 3 * k + 2 < j → σ3.1 j = σ2.1 j) → cl_is σ3 (xI g (x_upd g.2.2.2.1 k (some (g.1, g.2.1)))) := by
      intro σ2 σ3 a1 a2 a3 a4
      refine cl_I hX (fun j hj => ?_) (fun j hj => ?_)
      · by_cases hjk : j = k
        · subst hjk
          rw [x_upd_s]
          refine ⟨fun e => (by cases e), fun w e => ?_⟩
          cases e
          refine ⟨?_, a1.kept (fun i h1 h2 => a4 i (by omega)), a3⟩
          rw [a4 _ (by omega), a2.1 _ (by omega), px_up_at, if_pos ⟨rfl, rfl⟩]
        · rw [x_upd_n hjk]
          have e : ∀ i, ((23 + 5 * j ≤ i ∧ i ≤ 23 + 5 * j + 4) ∨ (41 + 3 * j ≤ i ∧ i ≤ 41 + 3 * j + 2) ∨ i = 47 + j) → σ3.1 i = σ1.1 i := fun i hi => by
            rw [a4 i (by omega), a2.1 i (by omega), px_up_n (by omega)]
          refine ⟨fun e1 => ?_, fun w e1 => ?_⟩
          · rw [e _ (by omega)]; exact (hX.2.2.2.1 j hj).1 e1
          · obtain ⟨f1, f2, f3⟩ := (hX.2.2.2.1 j hj).2 w e1
            exact ⟨by rw [e _ (by omega)]; exact f1, f2.kept (fun i h1 h2 => e i (by omega)), f3.kept (fun i h1 h2 => e i (by omega))⟩
      · rw [a4 j (by omega), a2.1 j (by omega), px_up_n (by omega)]
    have road : ∀ r, r = nI (x_is1 (g.2.2.2.1 k)) → ∃ g8 : gtX0_becomes, qrX0_becomes g8 (23 + 5 * k) 8 (px_up σ1 (47 + k) 0 1) ∧ ∀ (r6 : Unit) (σ7 : px_St), qoX0_becomes g8 (23 + 5 * k) 8 (px_up σ1 (47 + k) 0 1) r6 σ7 → ∃ g12 : gtX2_becomes, qrX2_becomes g12 (41 + 3 * k) 38 σ7 ∧ ∀ (r10 : Unit) (σ11 : px_St), qoX2_becomes g12 (41 + 3 * k) 38 σ7 r10 σ11 → (r = nI (x_is1 (g.2.2.2.1 k)) ∧ cl_is σ11 (xI g (x_upd g.2.2.2.1 k (some (g.1, g.2.1))))) := by
      intro r hr
      refine ⟨g.1, ⟨by omega, hV0, hvk.1⟩, fun _ σ2 h2 => ?_⟩
      obtain ⟨a1, a2⟩ := h2
      refine ⟨g.2.1, ⟨by omega, hS0.kept (fun j h1 h2 => a2.1 j (by omega)), hok.2.1.1⟩, fun _ σ3 h3 => ?_⟩
      exact ⟨hr, fin σ2 σ3 a1 a2 h3.1 h3.2⟩
    have him := hX.2.2.2.1 k (by omega)
    refine ⟨vp_in_nI (by omega) (by decide), fun h0 => road 0 ?_, fun h0 => road 1 ?_⟩
    · cases hi : g.2.2.2.1 k with
      | none => rfl
      | some w =>
        have := (him.2 w hi).1
        rw [this] at h0
        exact absurd h0 (by decide)
    · cases hi : g.2.2.2.1 k with
      | none => exact absurd (him.1 hi) h0
      | some w => rfl
  · rw [xif_f z]
    exact ⟨rfl, hX⟩
theorem mX5_keep (g : gtX5_keep) : px_Met dC yX5_keep (Cond.code yX5_keep cX5_keep 4 (some .int) :: wdC) rmX5_keep px_vI (prX5_keep g) (poX5_keep g) :=
  px_met (Z := (cX5_keep, 4, RX5, Cond.code yX5_keep cX5_keep 4 (some .int) :: wdC, (some .int), rmX5_keep, dC)) opX5_keep (by decide) rfl rfl okX5_keep (fun As σ h => by obtain ⟨v1, rfl, h⟩ := h; exact Nat.le_of_ble_eq_true rfl) (fun As σ h G hG => by obtain ⟨v1, rfl, h⟩ := h; exact hhX5_keep g v1 σ h G hG)
abbrev gtX5_back : Type := pv_X
def qrX5_back (X : pv_X) (_ : Int32) (σ : px_St) : Prop := cl_is σ X ∧ xo X
def qoX5_back (X : pv_X) (k : Int32) (_ : px_St) (r : Int32) (σ' : px_St) : Prop := r = (x_back X k).1 ∧ cl_is σ' (x_back X k).2
def prX5_back (g : gtX5_back) : List Value → px_St → Prop := fun As σ => ∃ v1 : Int32, As = [.ref 0, .int v1] ∧ qrX5_back g v1 σ
def poX5_back (g : gtX5_back) : List Value → px_St → Int32 → px_St → Prop
  | [.ref _, .int v1], σ, r, σ' => qoX5_back g v1 σ r σ'
  | _, _, _, _ => False
theorem dX5_back_0 : decode cX5_back 0 = .ok (.iload_n 1, 1) := by decide +kernel
theorem dX5_back_1 : decode cX5_back 1 = .ok (.iconst 0, 1) := by decide +kernel
theorem dX5_back_2 : decode cX5_back 2 = .ok (.iconst 1, 1) := by decide +kernel
theorem dX5_back_3 : decode cX5_back 3 = .ok (.invokestatic 61, 3) := by decide +kernel
theorem dX5_back_6 : decode cX5_back 6 = .ok (.ifCond .ne 5, 3) := by decide +kernel
theorem dX5_back_9 : decode cX5_back 9 = .ok (.iconst (-1), 1) := by decide +kernel
theorem dX5_back_10 : decode cX5_back 10 = .ok (.ireturn, 1) := by decide +kernel
theorem dX5_back_11 : decode cX5_back 11 = .ok (.aload_n 0, 1) := by decide +kernel
theorem dX5_back_12 : decode cX5_back 12 = .ok (.getfield 49, 3) := by decide +kernel
theorem dX5_back_15 : decode cX5_back 15 = .ok (.iload_n 1, 1) := by decide +kernel
theorem dX5_back_16 : decode cX5_back 16 = .ok (.aaload, 1) := by decide +kernel
theorem dX5_back_17 : decode cX5_back 17 = .ok (.astore_n 2, 1) := by decide +kernel
theorem dX5_back_18 : decode cX5_back 18 = .ok (.aload_n 2, 1) := by decide +kernel
theorem dX5_back_19 : decode cX5_back 19 = .ok (.getfield 89, 3) := by decide +kernel
theorem dX5_back_22 : decode cX5_back 22 = .ok (.ifCond .ne 6, 3) := by decide +kernel
theorem dX5_back_25 : decode cX5_back 25 = .ok (.bipush (-2), 2) := by decide +kernel
theorem dX5_back_27 : decode cX5_back 27 = .ok (.ireturn, 1) := by decide +kernel
theorem dX5_back_28 : decode cX5_back 28 = .ok (.aload_n 0, 1) := by decide +kernel
theorem dX5_back_29 : decode cX5_back 29 = .ok (.getfield 10, 3) := by decide +kernel
theorem dX5_back_32 : decode cX5_back 32 = .ok (.aload_n 2, 1) := by decide +kernel
theorem dX5_back_33 : decode cX5_back 33 = .ok (.getfield 231, 3) := by decide +kernel
theorem dX5_back_36 : decode cX5_back 36 = .ok (.invokevirtual 82, 3) := by decide +kernel
theorem dX5_back_39 : decode cX5_back 39 = .ok (.aload_n 0, 1) := by decide +kernel
theorem dX5_back_40 : decode cX5_back 40 = .ok (.getfield 19, 3) := by decide +kernel
theorem dX5_back_43 : decode cX5_back 43 = .ok (.aload_n 2, 1) := by decide +kernel
theorem dX5_back_44 : decode cX5_back 44 = .ok (.getfield 234, 3) := by decide +kernel
theorem dX5_back_47 : decode cX5_back 47 = .ok (.invokevirtual 237, 3) := by decide +kernel
theorem dX5_back_50 : decode cX5_back 50 = .ok (.aload_n 0, 1) := by decide +kernel
theorem dX5_back_51 : decode cX5_back 51 = .ok (.getfield 10, 3) := by decide +kernel
theorem dX5_back_54 : decode cX5_back 54 = .ok (.getfield 96, 3) := by decide +kernel
theorem dX5_back_57 : decode cX5_back 57 = .ok (.ireturn, 1) := by decide +kernel
abbrev rmX5_back : Room := { frames := 3, cells := 0, slots := 0, locals := 105 }
def opX5_back (po : Int32 → px_St → Prop) : List (Nat × px_Op) := [
  (0, px_il 1 1),
  (1, px_push 2 (.int 0)),
  (2, px_push 3 (.int 1)),
  (3, px_callS 6 3 px_vI prX5_isWithin poX5_isWithin),
  (6, px_if 9 11 (fun x => ¬ x = 0)),
  (9, px_push 10 (.int (-1))),
  (10, px_iret (.int) po),
  (11, px_al 12 0),
  (12, px_get dC 15 5 8),
  (15, px_il 16 1),
  (16, px_aald dC 17 3),
  (17, px_as 18 2),
  (18, px_al 19 2),
  (19, px_get dC 22 1 0),
  (22, px_if 25 28 (fun x => ¬ x = 0)),
  (25, px_push 27 (.int (-2))),
  (27, px_iret (.int) po),
  (28, px_al 29 0),
  (29, px_get dC 32 5 0),
  (32, px_al 33 2),
  (33, px_get dC 36 1 1),
  (36, px_callV dC 39 0 1 px_vV prX0_becomes poX0_becomes),
  (39, px_al 40 0),
  (40, px_get dC 43 5 1),
  (43, px_al 44 2),
  (44, px_get dC 47 1 2),
  (47, px_callV dC 50 2 1 px_vV prX2_becomes poX2_becomes),
  (50, px_al 51 0),
  (51, px_get dC 54 5 0),
  (54, px_get dC 57 0 2),
  (57, px_iret (.int) po)]
set_option maxRecDepth 100000 in
set_option maxHeartbeats 4000000 in
theorem okX5_back : ∀ (po : Int32 → px_St → Prop) (i pc : Nat) (op : px_Op), (opX5_back po)[i]? = some (pc, op) → px_Snd (cX5_back, 3, RX5, Cond.code yX5_back cX5_back 3 (some .int) :: wdC, (some .int), rmX5_back, dC) px_vI po pc op := by
  intro po
  unfold opX5_back
  refine px_ok_cons (ps_iload_n dX5_back_0 rfl) ?_
  refine px_ok_cons (ps_iconst dX5_back_1 (by decide)) ?_
  refine px_ok_cons (ps_iconst dX5_back_2 (by decide)) ?_
  refine px_ok_cons (ps_callS mX5_isWithin (fun _ _ => rfl) (fun _ _ ht => px_cwS wgC (wdC_4_in _ (List.mem_of_getElem? (i := 29) rfl)) (wdC_4_in _ (List.mem_of_getElem? (i := 22) rfl)) (wdC_4_in _ (List.mem_of_getElem? (i := 23) rfl)) (wdC_4_in _ (List.mem_of_getElem? (i := 20) rfl)) (by decide +kernel) rfl rfl (by decide) ht) dX5_back_3) ?_
  refine px_ok_cons (ps_if_ne dX5_back_6 (by decide)) ?_
  refine px_ok_cons (ps_iconst dX5_back_9 (by decide)) ?_
  refine px_ok_cons (ps_ireturn rfl dX5_back_10) ?_
  refine px_ok_cons (ps_aload_n dX5_back_11 rfl) ?_
  refine px_ok_cons (fgX5_49 dX5_back_12) ?_
  refine px_ok_cons (ps_iload_n dX5_back_15 rfl) ?_
  refine px_ok_cons (ps_aaload3 dX5_back_16) ?_
  refine px_ok_cons (ps_astore_n dX5_back_17 rfl (by decide)) ?_
  refine px_ok_cons (ps_aload_n dX5_back_18 rfl) ?_
  refine px_ok_cons (fgX5_89 dX5_back_19) ?_
  refine px_ok_cons (ps_if_ne dX5_back_22 (by decide)) ?_
  refine px_ok_cons (ps_bipush dX5_back_25 (by decide)) ?_
  refine px_ok_cons (ps_ireturn rfl dX5_back_27) ?_
  refine px_ok_cons (ps_aload_n dX5_back_28 rfl) ?_
  refine px_ok_cons (fgX5_10 dX5_back_29) ?_
  refine px_ok_cons (ps_aload_n dX5_back_32 rfl) ?_
  refine px_ok_cons (fgX5_231 dX5_back_33) ?_
  refine px_ok_cons (ps_callV mX0_becomes (fun _ _ => rfl) (C := RX0) rfl (fun _ _ ht => px_cwV wgC (wdC_6_in _ (List.mem_of_getElem? (i := 18) rfl)) (wdC_6_in _ (List.mem_of_getElem? (i := 19) rfl)) (wdC_6_in _ (List.mem_of_getElem? (i := 20) rfl)) (wdC_0_in _ (List.mem_of_getElem? (i := 22) rfl)) (wdC_0_in _ (List.mem_of_getElem? (i := 18) rfl)) (by decide +kernel) rfl rfl (by decide) ht) dX5_back_36) ?_
  refine px_ok_cons (ps_aload_n dX5_back_39 rfl) ?_
  refine px_ok_cons (fgX5_19 dX5_back_40) ?_
  refine px_ok_cons (ps_aload_n dX5_back_43 rfl) ?_
  refine px_ok_cons (fgX5_234 dX5_back_44) ?_
  refine px_ok_cons (ps_callV mX2_becomes (fun _ _ => rfl) (C := RX2) rfl (fun _ _ ht => px_cwV wgC (wdC_9_in _ (List.mem_of_getElem? (i := 38) rfl)) (wdC_9_in _ (List.mem_of_getElem? (i := 39) rfl)) (wdC_10_in _ (List.mem_of_getElem? (i := 0) rfl)) (wdC_2_in _ (List.mem_of_getElem? (i := 1) rfl)) (wdC_2_in _ (List.mem_of_getElem? (i := 6) rfl)) (by decide +kernel) rfl rfl (by decide) ht) dX5_back_47) ?_
  refine px_ok_cons (ps_aload_n dX5_back_50 rfl) ?_
  refine px_ok_cons (fgX5_10 dX5_back_51) ?_
  refine px_ok_cons (fgX5_96 dX5_back_54) ?_
  refine px_ok_cons (ps_ireturn rfl dX5_back_57) ?_
  exact px_ok_nil
set_option maxRecDepth 100000 in
set_option maxHeartbeats 4000000 in
theorem sgX5_back_0 {po : Int32 → px_St → Prop} {G : px_K} (hG : px_cl (opX5_back po) G) (v1 : Int32) (σ : px_St)
    (H : ∃ g3 : gtX5_isWithin, qrX5_isWithin g3 v1 (0 : Int32) (1 : Int32) σ ∧ ∀ (r1 : Int32) (σ2 : px_St), qoX5_isWithin g3 v1 (0 : Int32) (1 : Int32) σ r1 σ2 → ((¬ r1 = 0) → vp_in v1 2 ∧ ((¬ (σ2.1 (dC.2.2.2 5 v1.toNatClampNeg) 0) = 0) → ∃ g8 : gtX0_becomes, qrX0_becomes g8 8 (23 + 5 * ((dC.2.2.2 5 v1.toNatClampNeg) - 47)) σ2 ∧ ∀ (r6 : Unit) (σ7 : px_St), qoX0_becomes g8 8 (23 + 5 * ((dC.2.2.2 5 v1.toNatClampNeg) - 47)) σ2 r6 σ7 → ∃ g12 : gtX2_becomes, qrX2_becomes g12 38 (41 + 3 * ((dC.2.2.2 5 v1.toNatClampNeg) - 47)) σ7 ∧ ∀ (r10 : Unit) (σ11 : px_St), qoX2_becomes g12 38 (41 + 3 * ((dC.2.2.2 5 v1.toNatClampNeg) - 47)) σ7 r10 σ11 → po (σ11.1 8 2) σ11) ∧ (¬ (¬ (σ2.1 (dC.2.2.2 5 v1.toNatClampNeg) 0) = 0) → po (-2 : Int32) σ2)) ∧ (¬ (¬ r1 = 0) → po (-1 : Int32) σ2)) :
    G 0 (px_ent 3 [.ref 0, .int v1]) [] σ := by
  refine hG.1 0 _ _ rfl _ _ _ ?_
  refine hG.1 1 _ _ rfl _ _ _ ?_
  refine hG.1 2 _ _ rfl _ _ _ ?_
  refine hG.1 3 _ _ rfl _ _ _ ?_
  obtain ⟨g3, H⟩ := H
  refine ⟨Nat.le_of_ble_eq_true rfl, Nat.le_of_ble_eq_true rfl, g3, ⟨_, _, _, rfl, H.1⟩, fun r1 σ2 hp4 => ?_⟩
  replace H := H.2 r1 σ2 hp4
  refine hG.1 4 _ _ rfl _ _ _ ?_
  refine ⟨fun h15 => ?_, fun h15 => ?_⟩
  · replace H := H.1 h15
    refine hG.1 7 _ _ rfl _ _ _ ?_
    refine hG.1 8 _ _ rfl _ _ _ ?_
    refine ⟨⟨rfl, by decide⟩, ?_⟩
    refine hG.1 9 _ _ rfl _ _ _ ?_
    refine hG.1 10 _ _ rfl _ _ _ ?_
    have hz5 := im_of H.1
    refine ⟨⟨rfl, by decide⟩, H.1, ?_⟩
    replace H := H.2
    refine hG.1 11 _ _ rfl _ _ _ ?_
    show G 18 [some (.ref 0), some (.int v1), some (.ref (dC.2.2.2 5 v1.toNatClampNeg))] [] σ2
    refine hG.1 12 _ _ rfl _ _ _ ?_
    refine hG.1 13 _ _ rfl _ _ _ ?_
    refine ⟨(im_s0 hz5), ?_⟩
    refine hG.1 14 _ _ rfl _ _ _ ?_
    refine ⟨fun h14 => ?_, fun h14 => ?_⟩
    · replace H := H.1 h14
      refine hG.1 17 _ _ rfl _ _ _ ?_
      refine hG.1 18 _ _ rfl _ _ _ ?_
      refine ⟨⟨rfl, by decide⟩, ?_⟩
      refine hG.1 19 _ _ rfl _ _ _ ?_
      refine hG.1 20 _ _ rfl _ _ _ ?_
      refine ⟨(im_s0 hz5), ?_⟩
      refine hG.1 21 _ _ rfl _ _ _ ?_
      obtain ⟨g8, H⟩ := H
      refine ⟨⟨rfl, by decide⟩, Nat.le_of_ble_eq_true rfl, g8, ⟨_, _, rfl, (Or.inl rfl), (im_av hz5), H.1⟩, fun r6 σ7 hp9 => ?_⟩
      replace H := H.2 r6 σ7 hp9
      refine hG.1 22 _ _ rfl _ _ _ ?_
      refine hG.1 23 _ _ rfl _ _ _ ?_
      refine ⟨⟨rfl, by decide⟩, ?_⟩
      refine hG.1 24 _ _ rfl _ _ _ ?_
      refine hG.1 25 _ _ rfl _ _ _ ?_
      refine ⟨(im_s0 hz5), ?_⟩
      refine hG.1 26 _ _ rfl _ _ _ ?_
      obtain ⟨g12, H⟩ := H
      refine ⟨⟨rfl, by decide⟩, Nat.le_of_ble_eq_true rfl, g12, ⟨_, _, rfl, (Or.inl rfl), (im_sn hz5), H.1⟩, fun r10 σ11 hp13 => ?_⟩
      replace H := H.2 r10 σ11 hp13
      refine hG.1 27 _ _ rfl _ _ _ ?_
      refine hG.1 28 _ _ rfl _ _ _ ?_
      refine ⟨⟨rfl, by decide⟩, ?_⟩
      refine hG.1 29 _ _ rfl _ _ _ ?_
      refine ⟨⟨rfl, by decide⟩, ?_⟩
      refine hG.1 30 _ _ rfl _ _ _ ?_
      exact ⟨rfl, H⟩
    · replace H := H.2 h14
      refine hG.1 15 _ _ rfl _ _ _ ?_
      refine hG.1 16 _ _ rfl _ _ _ ?_
      exact ⟨rfl, H⟩
  · replace H := H.2 h15
    refine hG.1 5 _ _ rfl _ _ _ ?_
    refine hG.1 6 _ _ rfl _ _ _ ?_
    exact ⟨rfl, H⟩
set_option maxRecDepth 100000 in
set_option maxHeartbeats 4000000 in
theorem hhX5_back (g : gtX5_back) (v1 : Int32) (σ : px_St) (h : qrX5_back g v1 σ) (G : px_K) (hG : px_cl (opX5_back (qoX5_back g v1 σ)) G) : G 0 (px_ent 3 [.ref 0, .int v1]) [] σ := by
  obtain ⟨hX, hok⟩ := h
  refine sgX5_back_0 hG _ σ ⟨(), trivial, fun r1 σ1 h1 => ?_⟩
  obtain ⟨rfl, b1⟩ := h1
  unfold qoX5_back x_back
  refine bz1 b1 (fun z => ?_) (fun z => ?_)
  · rw [xif_t z]
    obtain ⟨k, hk, rfl⟩ := (rngc 1 1 rfl (by omega)).mp z
    rw [im_id (by omega), nI_clamp (show k < 2 ^ 31 by omega), show 23 + 5 * (47 + k - 47) = 23 + 5 * k by omega, show 41 + 3 * (47 + k - 47) = 41 + 3 * k by omega]
    have him := hX.2.2.2.1 k (by omega)
    refine ⟨vp_in_nI (by omega) (by decide), fun h0 => ?_, fun h0 => ?_⟩
    · cases hi : g.2.2.2.1 k with
      | none => exact absurd (him.1 hi) h0
      | some w =>
        obtain ⟨f1, f2, f3⟩ := him.2 w hi
        have hwk := hok.2.2.2.1 k w hi
        refine ⟨w.1, ⟨by omega, f2, hwk.1.1.1⟩, fun _ σ2 h2 => ?_⟩
        obtain ⟨a1, a2⟩ := h2
        refine ⟨w.2, ⟨by omega, f3.kept (fun j h1 h2 => a2.1 j (by omega)), hwk.2.1⟩, fun _ σ3 h3 => ?_⟩
        obtain ⟨a3, a4⟩ := h3
        have hX2 : cl_is σ2 (xV g w.1) := a2.cl hX a1
        refine ⟨?_, cl_S hX2 a3 (fun j hj => a4 j (by omega))⟩
        rw [a4 8 (by omega)]
        exact a1.1.2.2
    · cases hi : g.2.2.2.1 k with
      | none => exact ⟨rfl, hX⟩
      | some w =>
        have := (him.2 w hi).1
        rw [this] at h0
        exact absurd (by decide) h0
  · rw [xif_f z]
    exact ⟨rfl, hX⟩
theorem mX5_back (g : gtX5_back) : px_Met dC yX5_back (Cond.code yX5_back cX5_back 3 (some .int) :: wdC) rmX5_back px_vI (prX5_back g) (poX5_back g) :=
  px_met (Z := (cX5_back, 3, RX5, Cond.code yX5_back cX5_back 3 (some .int) :: wdC, (some .int), rmX5_back, dC)) opX5_back (by decide) rfl rfl okX5_back (fun As σ h => by obtain ⟨v1, rfl, h⟩ := h; exact Nat.le_of_ble_eq_true rfl) (fun As σ h G hG => by obtain ⟨v1, rfl, h⟩ := h; exact hhX5_back g v1 σ h G hG)
abbrev gtX5_sheet : Type := pv_X
def qrX5_sheet (X : pv_X) (_ _ _ : Int32) (σ : px_St) : Prop := cl_is σ X ∧ xo X
def qoX5_sheet (X : pv_X) (k l n : Int32) (_ : px_St) (r : Int32) (σ' : px_St) : Prop := r = (x_sheet X k l n).1 ∧ cl_is σ' (x_sheet X k l n).2
def prX5_sheet (g : gtX5_sheet) : List Value → px_St → Prop := fun As σ => ∃ v1 : Int32, ∃ v2 : Int32, ∃ v3 : Int32, As = [.ref 0, .int v1, .int v2, .int v3] ∧ qrX5_sheet g v1 v2 v3 σ
def poX5_sheet (g : gtX5_sheet) : List Value → px_St → Int32 → px_St → Prop
  | [.ref _, .int v1, .int v2, .int v3], σ, r, σ' => qoX5_sheet g v1 v2 v3 σ r σ'
  | _, _, _, _ => False
theorem dX5_sheet_0 : decode cX5_sheet 0 = .ok (.iload_n 1, 1) := by decide +kernel
theorem dX5_sheet_1 : decode cX5_sheet 1 = .ok (.invokestatic 240, 3) := by decide +kernel
theorem dX5_sheet_4 : decode cX5_sheet 4 = .ok (.ifCond .eq 16, 3) := by decide +kernel
theorem dX5_sheet_7 : decode cX5_sheet 7 = .ok (.iload_n 2, 1) := by decide +kernel
theorem dX5_sheet_8 : decode cX5_sheet 8 = .ok (.invokestatic 243, 3) := by decide +kernel
theorem dX5_sheet_11 : decode cX5_sheet 11 = .ok (.ifCond .eq 9, 3) := by decide +kernel
theorem dX5_sheet_14 : decode cX5_sheet 14 = .ok (.iload_n 3, 1) := by decide +kernel
theorem dX5_sheet_15 : decode cX5_sheet 15 = .ok (.bipush 40, 2) := by decide +kernel
theorem dX5_sheet_17 : decode cX5_sheet 17 = .ok (.if_icmp .le 5, 3) := by decide +kernel
theorem dX5_sheet_20 : decode cX5_sheet 20 = .ok (.iconst (-1), 1) := by decide +kernel
theorem dX5_sheet_21 : decode cX5_sheet 21 = .ok (.ireturn, 1) := by decide +kernel
theorem dX5_sheet_22 : decode cX5_sheet 22 = .ok (.iload_n 3, 1) := by decide +kernel
theorem dX5_sheet_23 : decode cX5_sheet 23 = .ok (.ifCond .ge 6, 3) := by decide +kernel
theorem dX5_sheet_26 : decode cX5_sheet 26 = .ok (.bipush (-14), 2) := by decide +kernel
theorem dX5_sheet_28 : decode cX5_sheet 28 = .ok (.ireturn, 1) := by decide +kernel
theorem dX5_sheet_29 : decode cX5_sheet 29 = .ok (.aload_n 0, 1) := by decide +kernel
theorem dX5_sheet_30 : decode cX5_sheet 30 = .ok (.getfield 55, 3) := by decide +kernel
theorem dX5_sheet_33 : decode cX5_sheet 33 = .ok (.iload_n 1, 1) := by decide +kernel
theorem dX5_sheet_34 : decode cX5_sheet 34 = .ok (.aaload, 1) := by decide +kernel
theorem dX5_sheet_35 : decode cX5_sheet 35 = .ok (.iload_n 2, 1) := by decide +kernel
theorem dX5_sheet_36 : decode cX5_sheet 36 = .ok (.iload_n 3, 1) := by decide +kernel
theorem dX5_sheet_37 : decode cX5_sheet 37 = .ok (.invokevirtual 246, 3) := by decide +kernel
theorem dX5_sheet_40 : decode cX5_sheet 40 = .ok (.iconst 1, 1) := by decide +kernel
theorem dX5_sheet_41 : decode cX5_sheet 41 = .ok (.ireturn, 1) := by decide +kernel
abbrev rmX5_sheet : Room := { frames := 2, cells := 0, slots := 0, locals := 42 }
def opX5_sheet (po : Int32 → px_St → Prop) : List (Nat × px_Op) := [
  (0, px_il 1 1),
  (1, px_callS 4 1 px_vI prX5_isSheet poX5_isSheet),
  (4, px_if 7 20 (fun x => x = 0)),
  (7, px_il 8 2),
  (8, px_callS 11 1 px_vI prX5_isLane poX5_isLane),
  (11, px_if 14 20 (fun x => x = 0)),
  (14, px_il 15 3),
  (15, px_push 17 (.int 40)),
  (17, px_ic 20 22 (fun x y => x ≤ y)),
  (20, px_push 21 (.int (-1))),
  (21, px_iret (.int) po),
  (22, px_il 23 3),
  (23, px_if 26 29 (fun x => 0 ≤ x)),
  (26, px_push 28 (.int (-14))),
  (28, px_iret (.int) po),
  (29, px_al 30 0),
  (30, px_get dC 33 5 9),
  (33, px_il 34 1),
  (34, px_aald dC 35 4),
  (35, px_il 36 2),
  (36, px_il 37 3),
  (37, px_callV dC 40 3 2 px_vV prX3_makeNew poX3_makeNew),
  (40, px_push 41 (.int 1)),
  (41, px_iret (.int) po)]
set_option maxRecDepth 100000 in
set_option maxHeartbeats 4000000 in
theorem okX5_sheet : ∀ (po : Int32 → px_St → Prop) (i pc : Nat) (op : px_Op), (opX5_sheet po)[i]? = some (pc, op) → px_Snd (cX5_sheet, 4, RX5, Cond.code yX5_sheet cX5_sheet 4 (some .int) :: wdC, (some .int), rmX5_sheet, dC) px_vI po pc op := by
  intro po
  unfold opX5_sheet
  refine px_ok_cons (ps_iload_n dX5_sheet_0 rfl) ?_
  refine px_ok_cons (ps_callS mX5_isSheet (fun _ _ => rfl) (fun _ _ ht => px_cwS wgC (wdC_10_in _ (List.mem_of_getElem? (i := 6) rfl)) (wdC_10_in _ (List.mem_of_getElem? (i := 7) rfl)) (wdC_4_in _ (List.mem_of_getElem? (i := 23) rfl)) (wdC_10_in _ (List.mem_of_getElem? (i := 3) rfl)) (by decide +kernel) rfl rfl (by decide) ht) dX5_sheet_1) ?_
  refine px_ok_cons (ps_if_eq dX5_sheet_4 (by decide)) ?_
  refine px_ok_cons (ps_iload_n dX5_sheet_7 rfl) ?_
  refine px_ok_cons (ps_callS mX5_isLane (fun _ _ => rfl) (fun _ _ ht => px_cwS wgC (wdC_10_in _ (List.mem_of_getElem? (i := 8) rfl)) (wdC_10_in _ (List.mem_of_getElem? (i := 9) rfl)) (wdC_4_in _ (List.mem_of_getElem? (i := 23) rfl)) (wdC_10_in _ (List.mem_of_getElem? (i := 4) rfl)) (by decide +kernel) rfl rfl (by decide) ht) dX5_sheet_8) ?_
  refine px_ok_cons (ps_if_eq dX5_sheet_11 (by decide)) ?_
  refine px_ok_cons (ps_iload_n dX5_sheet_14 rfl) ?_
  refine px_ok_cons (ps_bipush dX5_sheet_15 (by decide)) ?_
  refine px_ok_cons (ps_icmp_le dX5_sheet_17 (by decide)) ?_
  refine px_ok_cons (ps_iconst dX5_sheet_20 (by decide)) ?_
  refine px_ok_cons (ps_ireturn rfl dX5_sheet_21) ?_
  refine px_ok_cons (ps_iload_n dX5_sheet_22 rfl) ?_
  refine px_ok_cons (ps_if_ge dX5_sheet_23 (by decide)) ?_
  refine px_ok_cons (ps_bipush dX5_sheet_26 (by decide)) ?_
  refine px_ok_cons (ps_ireturn rfl dX5_sheet_28) ?_
  refine px_ok_cons (ps_aload_n dX5_sheet_29 rfl) ?_
  refine px_ok_cons (fgX5_55 dX5_sheet_30) ?_
  refine px_ok_cons (ps_iload_n dX5_sheet_33 rfl) ?_
  refine px_ok_cons (ps_aaload4 dX5_sheet_34) ?_
  refine px_ok_cons (ps_iload_n dX5_sheet_35 rfl) ?_
  refine px_ok_cons (ps_iload_n dX5_sheet_36 rfl) ?_
  refine px_ok_cons (ps_callV mX3_makeNew (fun _ _ => rfl) (C := RX3) rfl (fun _ _ ht => px_cwV wgC (wdC_10_in _ (List.mem_of_getElem? (i := 10) rfl)) (wdC_10_in _ (List.mem_of_getElem? (i := 11) rfl)) (wdC_10_in _ (List.mem_of_getElem? (i := 12) rfl)) (wdC_6_in _ (List.mem_of_getElem? (i := 2) rfl)) (wdC_2_in _ (List.mem_of_getElem? (i := 12) rfl)) (by decide +kernel) rfl rfl (by decide) ht) dX5_sheet_37) ?_
  refine px_ok_cons (ps_iconst dX5_sheet_40 (by decide)) ?_
  refine px_ok_cons (ps_ireturn rfl dX5_sheet_41) ?_
  exact px_ok_nil
set_option maxRecDepth 100000 in
set_option maxHeartbeats 4000000 in
theorem sgX5_sheet_0 {po : Int32 → px_St → Prop} {G : px_K} (hG : px_cl (opX5_sheet po) G) (v1 : Int32) (v2 : Int32) (v3 : Int32) (σ : px_St)
    (H : ∃ g3 : gtX5_isSheet, qrX5_isSheet g3 v1 σ ∧ ∀ (r1 : Int32) (σ2 : px_St), qoX5_isSheet g3 v1 σ r1 σ2 → ((r1 = 0) → po (-1 : Int32) σ2) ∧ (¬ (r1 = 0) → ∃ g7 : gtX5_isLane, qrX5_isLane g7 v2 σ2 ∧ ∀ (r5 : Int32) (σ6 : px_St), qoX5_isLane g7 v2 σ2 r5 σ6 → ((r5 = 0) → po (-1 : Int32) σ6) ∧ (¬ (r5 = 0) → ((v3 ≤ (40 : Int32)) → ((0 ≤ v3) → vp_in v1 4 ∧ ∃ g12 : gtX3_makeNew, qrX3_makeNew g12 (dC.2.2.2 6 v1.toNatClampNeg) v2 v3 σ6 ∧ ∀ (r10 : Unit) (σ11 : px_St), qoX3_makeNew g12 (dC.2.2.2 6 v1.toNatClampNeg) v2 v3 σ6 r10 σ11 → po (1 : Int32) σ11) ∧ (¬ (0 ≤ v3) → po (-14 : Int32) σ6)) ∧ (¬ (v3 ≤ (40 : Int32)) → po (-1 : Int32) σ6)))) :
    G 0 (px_ent 4 [.ref 0, .int v1, .int v2, .int v3]) [] σ := by
  refine hG.1 0 _ _ rfl _ _ _ ?_
  refine hG.1 1 _ _ rfl _ _ _ ?_
  obtain ⟨g3, H⟩ := H
  refine ⟨Nat.le_of_ble_eq_true rfl, Nat.le_of_ble_eq_true rfl, g3, ⟨_, rfl, H.1⟩, fun r1 σ2 hp4 => ?_⟩
  replace H := H.2 r1 σ2 hp4
  refine hG.1 2 _ _ rfl _ _ _ ?_
  refine ⟨fun h17 => ?_, fun h17 => ?_⟩
  · replace H := H.1 h17
    refine hG.1 9 _ _ rfl _ _ _ ?_
    refine hG.1 10 _ _ rfl _ _ _ ?_
    exact ⟨rfl, H⟩
  · replace H := H.2 h17
    refine hG.1 3 _ _ rfl _ _ _ ?_
    refine hG.1 4 _ _ rfl _ _ _ ?_
    obtain ⟨g7, H⟩ := H
    refine ⟨Nat.le_of_ble_eq_true rfl, Nat.le_of_ble_eq_true rfl, g7, ⟨_, rfl, H.1⟩, fun r5 σ6 hp8 => ?_⟩
    replace H := H.2 r5 σ6 hp8
    refine hG.1 5 _ _ rfl _ _ _ ?_
    refine ⟨fun h16 => ?_, fun h16 => ?_⟩
    · replace H := H.1 h16
      refine hG.1 9 _ _ rfl _ _ _ ?_
      refine hG.1 10 _ _ rfl _ _ _ ?_
      exact ⟨rfl, H⟩
    · replace H := H.2 h16
      refine hG.1 6 _ _ rfl _ _ _ ?_
      refine hG.1 7 _ _ rfl _ _ _ ?_
      refine hG.1 8 _ _ rfl _ _ _ ?_
      refine ⟨fun h15 => ?_, fun h15 => ?_⟩
      · replace H := H.1 h15
        refine hG.1 11 _ _ rfl _ _ _ ?_
        refine hG.1 12 _ _ rfl _ _ _ ?_
        refine ⟨fun h14 => ?_, fun h14 => ?_⟩
        · replace H := H.1 h14
          refine hG.1 15 _ _ rfl _ _ _ ?_
          refine hG.1 16 _ _ rfl _ _ _ ?_
          refine ⟨⟨rfl, by decide⟩, ?_⟩
          refine hG.1 17 _ _ rfl _ _ _ ?_
          refine hG.1 18 _ _ rfl _ _ _ ?_
          have hz9 := sh_of H.1
          refine ⟨⟨rfl, by decide⟩, H.1, ?_⟩
          replace H := H.2
          refine hG.1 19 _ _ rfl _ _ _ ?_
          refine hG.1 20 _ _ rfl _ _ _ ?_
          refine hG.1 21 _ _ rfl _ _ _ ?_
          obtain ⟨g12, H⟩ := H
          refine ⟨(sh_s0 hz9), Nat.le_of_ble_eq_true rfl, g12, ⟨_, _, _, rfl, hz9, H.1⟩, fun r10 σ11 hp13 => ?_⟩
          replace H := H.2 r10 σ11 hp13
          refine hG.1 22 _ _ rfl _ _ _ ?_
          refine hG.1 23 _ _ rfl _ _ _ ?_
          exact ⟨rfl, H⟩
        · replace H := H.2 h14
          refine hG.1 13 _ _ rfl _ _ _ ?_
          refine hG.1 14 _ _ rfl _ _ _ ?_
          exact ⟨rfl, H⟩
      · replace H := H.2 h15
        refine hG.1 9 _ _ rfl _ _ _ ?_
        refine hG.1 10 _ _ rfl _ _ _ ?_
        exact ⟨rfl, H⟩
set_option maxRecDepth 100000 in
set_option maxHeartbeats 4000000 in
theorem hhX5_sheet (g : gtX5_sheet) (v1 : Int32) (v2 : Int32) (v3 : Int32) (σ : px_St) (h : qrX5_sheet g v1 v2 v3 σ) (G : px_K) (hG : px_cl (opX5_sheet (qoX5_sheet g v1 v2 v3 σ)) G) : G 0 (px_ent 4 [.ref 0, .int v1, .int v2, .int v3]) [] σ := by
  obtain ⟨hX, hok⟩ := h
  refine sgX5_sheet_0 hG _ _ _ σ ⟨(), trivial, fun r1 σ1 h1 => ?_⟩
  obtain ⟨rfl, b1⟩ := h1
  unfold qoX5_sheet x_sheet
  refine bz2 b1 (fun z => ⟨(), trivial, fun r2 σ2 h2 => ?_⟩) (fun z => ?_)
  · obtain ⟨rfl, b2⟩ := h2
    refine bz2 b2 (fun y => ⟨fun x => ⟨fun h0 => ?_, fun h0 => ?_⟩, fun x => ?_⟩) (fun y => ?_)
    · rw [xif_t ⟨z, y, x⟩, xif_t h0]
      obtain ⟨k, hk, rfl⟩ := (rngc 3 3 rfl (by omega)).mp z
      obtain ⟨l, hl, rfl⟩ := (rngc 2 2 rfl (by omega)).mp y
      obtain ⟨n, hn, rfl⟩ := (rngc 40 40 rfl (by omega)).mp ⟨h0, x⟩
      rw [sh_id (by omega), nI_clamp (show k < 2 ^ 31 by omega), nI_clamp (show l < 2 ^ 31 by omega), nI_clamp (show n < 2 ^ 31 by omega)]
      refine ⟨vp_in_nI (by omega) (by decide), (l, n), ⟨hn, rfl, rfl⟩, fun _ σ3 h3 => ?_⟩
      obtain ⟨a1, a2, a3, a4⟩ := h3
      refine ⟨rfl, cl_H hX (fun j hj => ?_) (fun j hj => a4 j (by omega) (by omega))⟩
      by_cases hjk : j = k
      · subst hjk
        rw [x_upd_s]
        refine ⟨fun e => (by cases e), fun w e => ?_⟩
        cases e
        exact ⟨a1, a2, fun i hi => by rw [show 50 + 2 * j = 49 + 2 * j + 1 by omega]; exact a3 i hi⟩
      · rw [x_upd_n hjk]
        have e : ∀ i, i = 49 + 2 * j ∨ i = 50 + 2 * j → σ3.1 i = σ2.1 i := fun i hi => a4 i (by omega) (by omega)
        refine ⟨fun e1 => ?_, fun w e1 => ?_⟩
        · rw [e _ (by omega)]; exact (hX.2.2.2.2.2.2 j hj).1 e1
        · obtain ⟨f1, f2, f3⟩ := (hX.2.2.2.2.2.2 j hj).2 w e1
          exact ⟨by rw [e _ (by omega)]; exact f1, by rw [e _ (by omega)]; exact f2, fun i hi => by rw [e _ (by omega)]; exact f3 i hi⟩
    · rw [xif_t ⟨z, y, x⟩, xif_f h0]
      exact ⟨rfl, hX⟩
    · rw [xif_f (fun q => x q.2.2)]
      exact ⟨rfl, hX⟩
    · rw [xif_f (fun q => y q.2.1)]
      exact ⟨rfl, hX⟩
  · rw [xif_f (fun q => z q.1)]
    exact ⟨rfl, hX⟩
theorem mX5_sheet (g : gtX5_sheet) : px_Met dC yX5_sheet (Cond.code yX5_sheet cX5_sheet 4 (some .int) :: wdC) rmX5_sheet px_vI (prX5_sheet g) (poX5_sheet g) :=
  px_met (Z := (cX5_sheet, 4, RX5, Cond.code yX5_sheet cX5_sheet 4 (some .int) :: wdC, (some .int), rmX5_sheet, dC)) opX5_sheet (by decide) rfl rfl okX5_sheet (fun As σ h => by obtain ⟨v1, v2, v3, rfl, h⟩ := h; exact Nat.le_of_ble_eq_true rfl) (fun As σ h G hG => by obtain ⟨v1, v2, v3, rfl, h⟩ := h; exact hhX5_sheet g v1 v2 v3 σ h G hG)
abbrev gtX5_lay : Type := pv_X
def qrX5_lay (X : pv_X) (_ _ _ : Int32) (σ : px_St) : Prop := cl_is σ X ∧ xo X
def qoX5_lay (X : pv_X) (k i v : Int32) (_ : px_St) (r : Int32) (σ' : px_St) : Prop := r = (x_lay X k i v).1 ∧ cl_is σ' (x_lay X k i v).2
def prX5_lay (g : gtX5_lay) : List Value → px_St → Prop := fun As σ => ∃ v1 : Int32, ∃ v2 : Int32, ∃ v3 : Int32, As = [.ref 0, .int v1, .int v2, .int v3] ∧ qrX5_lay g v1 v2 v3 σ
def poX5_lay (g : gtX5_lay) : List Value → px_St → Int32 → px_St → Prop
  | [.ref _, .int v1, .int v2, .int v3], σ, r, σ' => qoX5_lay g v1 v2 v3 σ r σ'
  | _, _, _, _ => False
theorem dX5_lay_0 : decode cX5_lay 0 = .ok (.iload_n 1, 1) := by decide +kernel
theorem dX5_lay_1 : decode cX5_lay 1 = .ok (.invokestatic 240, 3) := by decide +kernel
theorem dX5_lay_4 : decode cX5_lay 4 = .ok (.ifCond .ne 5, 3) := by decide +kernel
theorem dX5_lay_7 : decode cX5_lay 7 = .ok (.iconst (-1), 1) := by decide +kernel
theorem dX5_lay_8 : decode cX5_lay 8 = .ok (.ireturn, 1) := by decide +kernel
theorem dX5_lay_9 : decode cX5_lay 9 = .ok (.aload_n 0, 1) := by decide +kernel
theorem dX5_lay_10 : decode cX5_lay 10 = .ok (.getfield 55, 3) := by decide +kernel
theorem dX5_lay_13 : decode cX5_lay 13 = .ok (.iload_n 1, 1) := by decide +kernel
theorem dX5_lay_14 : decode cX5_lay 14 = .ok (.aaload, 1) := by decide +kernel
theorem dX5_lay_15 : decode cX5_lay 15 = .ok (.astore 4, 2) := by decide +kernel
theorem dX5_lay_17 : decode cX5_lay 17 = .ok (.aload 4, 2) := by decide +kernel
theorem dX5_lay_19 : decode cX5_lay 19 = .ok (.getfield 249, 3) := by decide +kernel
theorem dX5_lay_22 : decode cX5_lay 22 = .ok (.iconst (-1), 1) := by decide +kernel
theorem dX5_lay_23 : decode cX5_lay 23 = .ok (.if_icmp .ne 6, 3) := by decide +kernel
theorem dX5_lay_26 : decode cX5_lay 26 = .ok (.bipush (-11), 2) := by decide +kernel
theorem dX5_lay_28 : decode cX5_lay 28 = .ok (.ireturn, 1) := by decide +kernel
theorem dX5_lay_29 : decode cX5_lay 29 = .ok (.iload_n 2, 1) := by decide +kernel
theorem dX5_lay_30 : decode cX5_lay 30 = .ok (.iconst 0, 1) := by decide +kernel
theorem dX5_lay_31 : decode cX5_lay 31 = .ok (.aload 4, 2) := by decide +kernel
theorem dX5_lay_33 : decode cX5_lay 33 = .ok (.getfield 252, 3) := by decide +kernel
theorem dX5_lay_36 : decode cX5_lay 36 = .ok (.iconst 1, 1) := by decide +kernel
theorem dX5_lay_37 : decode cX5_lay 37 = .ok (.isub, 1) := by decide +kernel
theorem dX5_lay_38 : decode cX5_lay 38 = .ok (.invokestatic 61, 3) := by decide +kernel
theorem dX5_lay_41 : decode cX5_lay 41 = .ok (.ifCond .ne 6, 3) := by decide +kernel
theorem dX5_lay_44 : decode cX5_lay 44 = .ok (.bipush (-12), 2) := by decide +kernel
theorem dX5_lay_46 : decode cX5_lay 46 = .ok (.ireturn, 1) := by decide +kernel
theorem dX5_lay_47 : decode cX5_lay 47 = .ok (.aload 4, 2) := by decide +kernel
theorem dX5_lay_49 : decode cX5_lay 49 = .ok (.getfield 253, 3) := by decide +kernel
theorem dX5_lay_52 : decode cX5_lay 52 = .ok (.iload_n 2, 1) := by decide +kernel
theorem dX5_lay_53 : decode cX5_lay 53 = .ok (.aload 4, 2) := by decide +kernel
theorem dX5_lay_55 : decode cX5_lay 55 = .ok (.iload_n 3, 1) := by decide +kernel
theorem dX5_lay_56 : decode cX5_lay 56 = .ok (.invokevirtual 256, 3) := by decide +kernel
theorem dX5_lay_59 : decode cX5_lay 59 = .ok (.iastore, 1) := by decide +kernel
theorem dX5_lay_60 : decode cX5_lay 60 = .ok (.iconst 1, 1) := by decide +kernel
theorem dX5_lay_61 : decode cX5_lay 61 = .ok (.ireturn, 1) := by decide +kernel
abbrev rmX5_lay : Room := { frames := 2, cells := 0, slots := 0, locals := 42 }
def opX5_lay (po : Int32 → px_St → Prop) : List (Nat × px_Op) := [
  (0, px_il 1 1),
  (1, px_callS 4 1 px_vI prX5_isSheet poX5_isSheet),
  (4, px_if 7 9 (fun x => ¬ x = 0)),
  (7, px_push 8 (.int (-1))),
  (8, px_iret (.int) po),
  (9, px_al 10 0),
  (10, px_get dC 13 5 9),
  (13, px_il 14 1),
  (14, px_aald dC 15 4),
  (15, px_as 17 4),
  (17, px_al 19 4),
  (19, px_get dC 22 3 0),
  (22, px_push 23 (.int (-1))),
  (23, px_ic 26 29 (fun x y => ¬ x = y)),
  (26, px_push 28 (.int (-11))),
  (28, px_iret (.int) po),
  (29, px_il 30 2),
  (30, px_push 31 (.int 0)),
  (31, px_al 33 4),
  (33, px_get dC 36 3 1),
  (36, px_push 37 (.int 1)),
  (37, px_bin 38 (fun x y => x - y)),
  (38, px_callS 41 3 px_vI prX5_isWithin poX5_isWithin),
  (41, px_if 44 47 (fun x => ¬ x = 0)),
  (44, px_push 46 (.int (-12))),
  (46, px_iret (.int) po),
  (47, px_al 49 4),
  (49, px_get dC 52 3 2),
  (52, px_il 53 2),
  (53, px_al 55 4),
  (55, px_il 56 3),
  (56, px_callV dC 59 3 1 px_vI prX3_narrowed poX3_narrowed),
  (59, px_ast dC 60 0 (fun x => x)),
  (60, px_push 61 (.int 1)),
  (61, px_iret (.int) po)]
set_option maxRecDepth 100000 in
set_option maxHeartbeats 4000000 in
theorem okX5_lay : ∀ (po : Int32 → px_St → Prop) (i pc : Nat) (op : px_Op), (opX5_lay po)[i]? = some (pc, op) → px_Snd (cX5_lay, 5, RX5, Cond.code yX5_lay cX5_lay 5 (some .int) :: wdC, (some .int), rmX5_lay, dC) px_vI po pc op := by
  intro po
  unfold opX5_lay
  refine px_ok_cons (ps_iload_n dX5_lay_0 rfl) ?_
  refine px_ok_cons (ps_callS mX5_isSheet (fun _ _ => rfl) (fun _ _ ht => px_cwS wgC (wdC_10_in _ (List.mem_of_getElem? (i := 6) rfl)) (wdC_10_in _ (List.mem_of_getElem? (i := 7) rfl)) (wdC_4_in _ (List.mem_of_getElem? (i := 23) rfl)) (wdC_10_in _ (List.mem_of_getElem? (i := 3) rfl)) (by decide +kernel) rfl rfl (by decide) ht) dX5_lay_1) ?_
  refine px_ok_cons (ps_if_ne dX5_lay_4 (by decide)) ?_
  refine px_ok_cons (ps_iconst dX5_lay_7 (by decide)) ?_
  refine px_ok_cons (ps_ireturn rfl dX5_lay_8) ?_
  refine px_ok_cons (ps_aload_n dX5_lay_9 rfl) ?_
  refine px_ok_cons (fgX5_55 dX5_lay_10) ?_
  refine px_ok_cons (ps_iload_n dX5_lay_13 rfl) ?_
  refine px_ok_cons (ps_aaload4 dX5_lay_14) ?_
  refine px_ok_cons (ps_astore dX5_lay_15 (by decide)) ?_
  refine px_ok_cons (ps_aload dX5_lay_17) ?_
  refine px_ok_cons (fgX5_249 dX5_lay_19) ?_
  refine px_ok_cons (ps_iconst dX5_lay_22 (by decide)) ?_
  refine px_ok_cons (ps_icmp_ne dX5_lay_23 (by decide)) ?_
  refine px_ok_cons (ps_bipush dX5_lay_26 (by decide)) ?_
  refine px_ok_cons (ps_ireturn rfl dX5_lay_28) ?_
  refine px_ok_cons (ps_iload_n dX5_lay_29 rfl) ?_
  refine px_ok_cons (ps_iconst dX5_lay_30 (by decide)) ?_
  refine px_ok_cons (ps_aload dX5_lay_31) ?_
  refine px_ok_cons (fgX5_252 dX5_lay_33) ?_
  refine px_ok_cons (ps_iconst dX5_lay_36 (by decide)) ?_
  refine px_ok_cons (ps_isub dX5_lay_37) ?_
  refine px_ok_cons (ps_callS mX5_isWithin (fun _ _ => rfl) (fun _ _ ht => px_cwS wgC (wdC_4_in _ (List.mem_of_getElem? (i := 29) rfl)) (wdC_4_in _ (List.mem_of_getElem? (i := 22) rfl)) (wdC_4_in _ (List.mem_of_getElem? (i := 23) rfl)) (wdC_4_in _ (List.mem_of_getElem? (i := 20) rfl)) (by decide +kernel) rfl rfl (by decide) ht) dX5_lay_38) ?_
  refine px_ok_cons (ps_if_ne dX5_lay_41 (by decide)) ?_
  refine px_ok_cons (ps_bipush dX5_lay_44 (by decide)) ?_
  refine px_ok_cons (ps_ireturn rfl dX5_lay_46) ?_
  refine px_ok_cons (ps_aload dX5_lay_47) ?_
  refine px_ok_cons (fgX5_253 dX5_lay_49) ?_
  refine px_ok_cons (ps_iload_n dX5_lay_52 rfl) ?_
  refine px_ok_cons (ps_aload dX5_lay_53) ?_
  refine px_ok_cons (ps_iload_n dX5_lay_55 rfl) ?_
  refine px_ok_cons (ps_callV mX3_narrowed (fun _ _ => rfl) (C := RX3) rfl (fun _ _ ht => px_cwV wgC (wdC_10_in _ (List.mem_of_getElem? (i := 17) rfl)) (wdC_10_in _ (List.mem_of_getElem? (i := 18) rfl)) (wdC_10_in _ (List.mem_of_getElem? (i := 19) rfl)) (wdC_6_in _ (List.mem_of_getElem? (i := 2) rfl)) (wdC_2_in _ (List.mem_of_getElem? (i := 14) rfl)) (by decide +kernel) rfl rfl (by decide) ht) dX5_lay_56) ?_
  refine px_ok_cons (ps_iastore dX5_lay_59) ?_
  refine px_ok_cons (ps_iconst dX5_lay_60 (by decide)) ?_
  refine px_ok_cons (ps_ireturn rfl dX5_lay_61) ?_
  exact px_ok_nil
set_option maxRecDepth 100000 in
set_option maxHeartbeats 4000000 in
theorem sgX5_lay_0 {po : Int32 → px_St → Prop} {G : px_K} (hG : px_cl (opX5_lay po) G) (v1 : Int32) (v2 : Int32) (v3 : Int32) (σ : px_St)
    (H : ∃ g3 : gtX5_isSheet, qrX5_isSheet g3 v1 σ ∧ ∀ (r1 : Int32) (σ2 : px_St), qoX5_isSheet g3 v1 σ r1 σ2 → ((¬ r1 = 0) → vp_in v1 4 ∧ ((¬ (σ2.1 (dC.2.2.2 6 v1.toNatClampNeg) 0) = (-1 : Int32)) → ∃ g8 : gtX5_isWithin, qrX5_isWithin g8 v2 (0 : Int32) ((σ2.1 (dC.2.2.2 6 v1.toNatClampNeg) 1) - (1 : Int32)) σ2 ∧ ∀ (r6 : Int32) (σ7 : px_St), qoX5_isWithin g8 v2 (0 : Int32) ((σ2.1 (dC.2.2.2 6 v1.toNatClampNeg) 1) - (1 : Int32)) σ2 r6 σ7 → ((¬ r6 = 0) → ∃ g12 : gtX3_narrowed, qrX3_narrowed g12 (dC.2.2.2 6 v1.toNatClampNeg) v3 σ7 ∧ ∀ (r10 : Int32) (σ11 : px_St), qoX3_narrowed g12 (dC.2.2.2 6 v1.toNatClampNeg) v3 σ7 r10 σ11 → vp_in v2 40 ∧ po (1 : Int32) (px_up σ11 ((dC.2.2.2 6 v1.toNatClampNeg) + 1) v2.toNatClampNeg r10)) ∧ (¬ (¬ r6 = 0) → po (-12 : Int32) σ7)) ∧ (¬ (¬ (σ2.1 (dC.2.2.2 6 v1.toNatClampNeg) 0) = (-1 : Int32)) → po (-11 : Int32) σ2)) ∧ (¬ (¬ r1 = 0) → po (-1 : Int32) σ2)) :
    G 0 (px_ent 5 [.ref 0, .int v1, .int v2, .int v3]) [] σ := by
  refine hG.1 0 _ _ rfl _ _ _ ?_
  refine hG.1 1 _ _ rfl _ _ _ ?_
  obtain ⟨g3, H⟩ := H
  refine ⟨Nat.le_of_ble_eq_true rfl, Nat.le_of_ble_eq_true rfl, g3, ⟨_, rfl, H.1⟩, fun r1 σ2 hp4 => ?_⟩
  replace H := H.2 r1 σ2 hp4
  refine hG.1 2 _ _ rfl _ _ _ ?_
  refine ⟨fun h16 => ?_, fun h16 => ?_⟩
  · replace H := H.1 h16
    refine hG.1 5 _ _ rfl _ _ _ ?_
    refine hG.1 6 _ _ rfl _ _ _ ?_
    refine ⟨⟨rfl, by decide⟩, ?_⟩
    refine hG.1 7 _ _ rfl _ _ _ ?_
    refine hG.1 8 _ _ rfl _ _ _ ?_
    have hz5 := sh_of H.1
    refine ⟨⟨rfl, by decide⟩, H.1, ?_⟩
    replace H := H.2
    refine hG.1 9 _ _ rfl _ _ _ ?_
    show G 17 [some (.ref 0), some (.int v1), some (.int v2), some (.int v3), some (.ref (dC.2.2.2 6 v1.toNatClampNeg))] [] σ2
    refine hG.1 10 _ _ rfl _ _ _ ?_
    refine hG.1 11 _ _ rfl _ _ _ ?_
    refine ⟨(sh_s0 hz5), ?_⟩
    refine hG.1 12 _ _ rfl _ _ _ ?_
    refine hG.1 13 _ _ rfl _ _ _ ?_
    refine ⟨fun h15 => ?_, fun h15 => ?_⟩
    · replace H := H.1 h15
      refine hG.1 16 _ _ rfl _ _ _ ?_
      refine hG.1 17 _ _ rfl _ _ _ ?_
      refine hG.1 18 _ _ rfl _ _ _ ?_
      refine hG.1 19 _ _ rfl _ _ _ ?_
      refine ⟨(sh_s0 hz5), ?_⟩
      refine hG.1 20 _ _ rfl _ _ _ ?_
      refine hG.1 21 _ _ rfl _ _ _ ?_
      refine hG.1 22 _ _ rfl _ _ _ ?_
      obtain ⟨g8, H⟩ := H
      refine ⟨Nat.le_of_ble_eq_true rfl, Nat.le_of_ble_eq_true rfl, g8, ⟨_, _, _, rfl, H.1⟩, fun r6 σ7 hp9 => ?_⟩
      replace H := H.2 r6 σ7 hp9
      refine hG.1 23 _ _ rfl _ _ _ ?_
      refine ⟨fun h14 => ?_, fun h14 => ?_⟩
      · replace H := H.1 h14
        refine hG.1 26 _ _ rfl _ _ _ ?_
        refine hG.1 27 _ _ rfl _ _ _ ?_
        refine ⟨(sh_s0 hz5), ?_⟩
        refine hG.1 28 _ _ rfl _ _ _ ?_
        refine hG.1 29 _ _ rfl _ _ _ ?_
        refine hG.1 30 _ _ rfl _ _ _ ?_
        refine hG.1 31 _ _ rfl _ _ _ ?_
        obtain ⟨g12, H⟩ := H
        refine ⟨(sh_s0 hz5), Nat.le_of_ble_eq_true rfl, g12, ⟨_, _, rfl, hz5, H.1⟩, fun r10 σ11 hp13 => ?_⟩
        replace H := H.2 r10 σ11 hp13
        refine hG.1 32 _ _ rfl _ _ _ ?_
        refine ⟨(sh_s1 hz5), by rw [(sh_l1 hz5)]; exact H.1, ?_⟩
        replace H := H.2
        refine hG.1 33 _ _ rfl _ _ _ ?_
        refine hG.1 34 _ _ rfl _ _ _ ?_
        exact ⟨rfl, H⟩
      · replace H := H.2 h14
        refine hG.1 24 _ _ rfl _ _ _ ?_
        refine hG.1 25 _ _ rfl _ _ _ ?_
        exact ⟨rfl, H⟩
    · replace H := H.2 h15
      refine hG.1 14 _ _ rfl _ _ _ ?_
      refine hG.1 15 _ _ rfl _ _ _ ?_
      exact ⟨rfl, H⟩
  · replace H := H.2 h16
    refine hG.1 3 _ _ rfl _ _ _ ?_
    refine hG.1 4 _ _ rfl _ _ _ ?_
    exact ⟨rfl, H⟩
set_option maxRecDepth 100000 in
set_option maxHeartbeats 4000000 in
theorem hhX5_lay (g : gtX5_lay) (v1 : Int32) (v2 : Int32) (v3 : Int32) (σ : px_St) (h : qrX5_lay g v1 v2 v3 σ) (G : px_K) (hG : px_cl (opX5_lay (qoX5_lay g v1 v2 v3 σ)) G) : G 0 (px_ent 5 [.ref 0, .int v1, .int v2, .int v3]) [] σ := by
  obtain ⟨hX, hok⟩ := h
  refine sgX5_lay_0 hG _ _ _ σ ⟨(), trivial, fun r1 σ1 h1 => ?_⟩
  obtain ⟨rfl, b1⟩ := h1
  unfold qoX5_lay x_lay
  refine bz1 b1 (fun z => ?_) (fun z => ?_)
  · rw [xif_t z]
    obtain ⟨k, hk, rfl⟩ := (rngc 3 3 rfl (by omega)).mp z
    rw [sh_id (by omega), nI_clamp (show k < 2 ^ 31 by omega)]
    have hsh := hX.2.2.2.2.2.2 k (by omega)
    cases hi : g.2.2.2.2.2.2 k with
    | none =>
      have e := hsh.1 hi
      rw [e]
      exact ⟨vp_in_nI (by omega) (by decide), fun q => absurd rfl q, fun _ => ⟨rfl, hX⟩⟩
    | some w =>
      obtain ⟨f1, f2, f3⟩ := hsh.2 w hi
      have hwk := hok.2.2.2.2.2.2 k w hi
      rw [f1, f2]
      have hne : ¬ nI w.1 = -1 := fun q => absurd (show nI w.1 < 0 by rw [q]; decide) (nI_pos (by omega))
      refine ⟨vp_in_nI (by omega) (by decide), fun _ => ⟨(), trivial, fun r2 σ2 h2 => ?_⟩, fun q => absurd hne q⟩
      obtain ⟨rfl, b2⟩ := h2
      unfold x_lay0
      refine bz1 b2 (fun y => ⟨(), trivial, fun r3 σ3 h3 => ?_⟩) (fun y => ?_)
      · obtain ⟨rfl, rfl⟩ := h3
        simp only
        rw [xif_t y]
        obtain ⟨i, hi2, rfl⟩ := (rng1 (by omega)).mp y
        rw [nI_clamp (show i < 2 ^ 31 by omega), f1]
        refine ⟨vp_in_nI (by omega) (by decide), rfl, cl_H hX (fun j hj => ?_) (fun j hj => px_up_n (by omega))⟩
        by_cases hjk : j = k
        · subst hjk
          rw [x_upd_s]
          refine ⟨fun e => (by cases e), fun w2 e => ?_⟩
          cases e
          refine ⟨by rw [px_up_n (by omega)]; exact f1, by rw [px_up_n (by omega)]; exact f2, fun i2 hi2 => ?_⟩
          rw [show 50 + 2 * j = 49 + 2 * j + 1 by omega, px_up_at]
          show _ = upd w.2.2 i _ i2
          unfold upd
          by_cases hii : i2 = i
          · rw [if_pos ⟨rfl, hii⟩, if_pos hii]
          · rw [if_neg (by omega), if_neg hii, show 49 + 2 * j + 1 = 50 + 2 * j by omega]
            exact f3 i2 hi2
        · rw [x_upd_n hjk]
          refine ⟨fun e1 => ?_, fun w2 e1 => ?_⟩
          · rw [px_up_n (by omega)]; exact (hX.2.2.2.2.2.2 j hj).1 e1
          · obtain ⟨k1, k2, k3⟩ := (hX.2.2.2.2.2.2 j hj).2 w2 e1
            exact ⟨by rw [px_up_n (by omega)]; exact k1, by rw [px_up_n (by omega)]; exact k2, fun i hi => by rw [px_up_n (by omega)]; exact k3 i hi⟩
      · simp only
        rw [xif_f y]
        exact ⟨rfl, hX⟩
  · rw [xif_f z]
    exact ⟨rfl, hX⟩
theorem mX5_lay (g : gtX5_lay) : px_Met dC yX5_lay (Cond.code yX5_lay cX5_lay 5 (some .int) :: wdC) rmX5_lay px_vI (prX5_lay g) (poX5_lay g) :=
  px_met (Z := (cX5_lay, 5, RX5, Cond.code yX5_lay cX5_lay 5 (some .int) :: wdC, (some .int), rmX5_lay, dC)) opX5_lay (by decide) rfl rfl okX5_lay (fun As σ h => by obtain ⟨v1, v2, v3, rfl, h⟩ := h; exact Nat.le_of_ble_eq_true rfl) (fun As σ h G hG => by obtain ⟨v1, v2, v3, rfl, h⟩ := h; exact hhX5_lay g v1 v2 v3 σ h G hG)
abbrev gtX5_torn : Type := pv_X
def qrX5_torn (X : pv_X) (σ : px_St) : Prop := cl_is σ X ∧ xo X
def qoX5_torn (X : pv_X) (_ : px_St) (r : Int32) (σ' : px_St) : Prop := r = (x_torn X).1 ∧ cl_is σ' (x_torn X).2
def prX5_torn (g : gtX5_torn) : List Value → px_St → Prop := fun As σ => As = [.ref 0] ∧ qrX5_torn g σ
def poX5_torn (g : gtX5_torn) : List Value → px_St → Int32 → px_St → Prop
  | [.ref _], σ, r, σ' => qoX5_torn g σ r σ'
  | _, _, _, _ => False
theorem dX5_torn_0 : decode cX5_torn 0 = .ok (.aload_n 0, 1) := by decide +kernel
theorem dX5_torn_1 : decode cX5_torn 1 = .ok (.getfield 270, 3) := by decide +kernel
theorem dX5_torn_4 : decode cX5_torn 4 = .ok (.ireturn, 1) := by decide +kernel
abbrev rmX5_torn : Room := { frames := 0, cells := 0, slots := 0, locals := 0 }
def opX5_torn (po : Int32 → px_St → Prop) : List (Nat × px_Op) := [
  (0, px_al 1 0),
  (1, px_get dC 4 5 12),
  (4, px_iret (.int) po)]
set_option maxRecDepth 100000 in
set_option maxHeartbeats 4000000 in
theorem okX5_torn : ∀ (po : Int32 → px_St → Prop) (i pc : Nat) (op : px_Op), (opX5_torn po)[i]? = some (pc, op) → px_Snd (cX5_torn, 1, RX5, Cond.code yX5_torn cX5_torn 1 (some .int) :: wdC, (some .int), rmX5_torn, dC) px_vI po pc op := by
  intro po
  unfold opX5_torn
  refine px_ok_cons (ps_aload_n dX5_torn_0 rfl) ?_
  refine px_ok_cons (fgX5_270 dX5_torn_1) ?_
  refine px_ok_cons (ps_ireturn rfl dX5_torn_4) ?_
  exact px_ok_nil
set_option maxRecDepth 100000 in
set_option maxHeartbeats 4000000 in
theorem sgX5_torn_0 {po : Int32 → px_St → Prop} {G : px_K} (hG : px_cl (opX5_torn po) G) (σ : px_St)
    (H : po (σ.1 0 12) σ) :
    G 0 (px_ent 1 [.ref 0]) [] σ := by
  refine hG.1 0 _ _ rfl _ _ _ ?_
  refine hG.1 1 _ _ rfl _ _ _ ?_
  refine ⟨⟨rfl, by decide⟩, ?_⟩
  refine hG.1 2 _ _ rfl _ _ _ ?_
  exact ⟨rfl, H⟩
set_option maxRecDepth 100000 in
set_option maxHeartbeats 4000000 in
theorem hhX5_torn (g : gtX5_torn) (σ : px_St) (h : qrX5_torn g σ) (G : px_K) (hG : px_cl (opX5_torn (qoX5_torn g σ)) G) : G 0 (px_ent 1 [.ref 0]) [] σ := by
  exact sgX5_torn_0 hG σ ⟨h.1.2.2.2.2.2.1, h.1⟩
theorem mX5_torn (g : gtX5_torn) : px_Met dC yX5_torn (Cond.code yX5_torn cX5_torn 1 (some .int) :: wdC) rmX5_torn px_vI (prX5_torn g) (poX5_torn g) :=
  px_met (Z := (cX5_torn, 1, RX5, Cond.code yX5_torn cX5_torn 1 (some .int) :: wdC, (some .int), rmX5_torn, dC)) opX5_torn (by decide) rfl rfl okX5_torn (fun As σ h => by obtain ⟨rfl, h⟩ := h; exact Nat.le_of_ble_eq_true rfl) (fun As σ h G hG => by obtain ⟨rfl, h⟩ := h; exact hhX5_torn g σ h G hG)
abbrev gtX5_count : Type := pv_X
def qrX5_count (X : pv_X) (_ : Int32) (σ : px_St) : Prop := cl_is σ X ∧ xo X
def qoX5_count (X : pv_X) (w : Int32) (_ : px_St) (r : Int32) (σ' : px_St) : Prop := r = (x_count X w).1 ∧ cl_is σ' (x_count X w).2
theorem cl_im1 {σ : px_St} {I : Nat → Option (pv_V × pv_S)} (h : cl_im σ I) {k : Nat} (hk : k < 2) : x_is1 (I k) ≤ 1 ∧ σ.1 (47 + k) 0 = nI (x_is1 (I k)) := by
  cases hi : I k with
  | none => exact ⟨by decide, (h k hk).1 hi⟩
  | some w => exact ⟨Nat.le_refl 1, ((h k hk).2 w hi).1⟩
def prX5_count (g : gtX5_count) : List Value → px_St → Prop := fun As σ => ∃ v1 : Int32, As = [.ref 0, .int v1] ∧ qrX5_count g v1 σ
def poX5_count (g : gtX5_count) : List Value → px_St → Int32 → px_St → Prop
  | [.ref _, .int v1], σ, r, σ' => qoX5_count g v1 σ r σ'
  | _, _, _, _ => False
theorem dX5_count_0 : decode cX5_count 0 = .ok (.iload_n 1, 1) := by decide +kernel
theorem dX5_count_1 : decode cX5_count 1 = .ok (.tableswitch 101 0 5 #[39, 47, 52, 57, 85, 93], 39) := by decide +kernel
theorem dX5_count_40 : decode cX5_count 40 = .ok (.aload_n 0, 1) := by decide +kernel
theorem dX5_count_41 : decode cX5_count 41 = .ok (.getfield 19, 3) := by decide +kernel
theorem dX5_count_44 : decode cX5_count 44 = .ok (.getfield 86, 3) := by decide +kernel
theorem dX5_count_47 : decode cX5_count 47 = .ok (.ireturn, 1) := by decide +kernel
theorem dX5_count_48 : decode cX5_count 48 = .ok (.aload_n 0, 1) := by decide +kernel
theorem dX5_count_49 : decode cX5_count 49 = .ok (.invokevirtual 273, 3) := by decide +kernel
theorem dX5_count_52 : decode cX5_count 52 = .ok (.ireturn, 1) := by decide +kernel
theorem dX5_count_53 : decode cX5_count 53 = .ok (.aload_n 0, 1) := by decide +kernel
theorem dX5_count_54 : decode cX5_count 54 = .ok (.getfield 65, 3) := by decide +kernel
theorem dX5_count_57 : decode cX5_count 57 = .ok (.ireturn, 1) := by decide +kernel
theorem dX5_count_58 : decode cX5_count 58 = .ok (.aload_n 0, 1) := by decide +kernel
theorem dX5_count_59 : decode cX5_count 59 = .ok (.getfield 55, 3) := by decide +kernel
theorem dX5_count_62 : decode cX5_count 62 = .ok (.iconst 0, 1) := by decide +kernel
theorem dX5_count_63 : decode cX5_count 63 = .ok (.aaload, 1) := by decide +kernel
theorem dX5_count_64 : decode cX5_count 64 = .ok (.getfield 249, 3) := by decide +kernel
theorem dX5_count_67 : decode cX5_count 67 = .ok (.iconst (-1), 1) := by decide +kernel
theorem dX5_count_68 : decode cX5_count 68 = .ok (.if_icmp .ne 8, 3) := by decide +kernel
theorem dX5_count_71 : decode cX5_count 71 = .ok (.bipush (-4), 2) := by decide +kernel
theorem dX5_count_73 : decode cX5_count 73 = .ok (.goto 12, 3) := by decide +kernel
theorem dX5_count_76 : decode cX5_count 76 = .ok (.aload_n 0, 1) := by decide +kernel
theorem dX5_count_77 : decode cX5_count 77 = .ok (.getfield 55, 3) := by decide +kernel
theorem dX5_count_80 : decode cX5_count 80 = .ok (.iconst 0, 1) := by decide +kernel
theorem dX5_count_81 : decode cX5_count 81 = .ok (.aaload, 1) := by decide +kernel
theorem dX5_count_82 : decode cX5_count 82 = .ok (.getfield 252, 3) := by decide +kernel
theorem dX5_count_85 : decode cX5_count 85 = .ok (.ireturn, 1) := by decide +kernel
theorem dX5_count_86 : decode cX5_count 86 = .ok (.aload_n 0, 1) := by decide +kernel
theorem dX5_count_87 : decode cX5_count 87 = .ok (.getfield 10, 3) := by decide +kernel
theorem dX5_count_90 : decode cX5_count 90 = .ok (.invokevirtual 276, 3) := by decide +kernel
theorem dX5_count_93 : decode cX5_count 93 = .ok (.ireturn, 1) := by decide +kernel
theorem dX5_count_94 : decode cX5_count 94 = .ok (.aload_n 0, 1) := by decide +kernel
theorem dX5_count_95 : decode cX5_count 95 = .ok (.getfield 10, 3) := by decide +kernel
theorem dX5_count_98 : decode cX5_count 98 = .ok (.invokevirtual 279, 3) := by decide +kernel
theorem dX5_count_101 : decode cX5_count 101 = .ok (.ireturn, 1) := by decide +kernel
theorem dX5_count_102 : decode cX5_count 102 = .ok (.iconst (-1), 1) := by decide +kernel
theorem dX5_count_103 : decode cX5_count 103 = .ok (.ireturn, 1) := by decide +kernel
abbrev rmX5_count : Room := { frames := 2, cells := 0, slots := 0, locals := 45 }
def opX5_count (po : Int32 → px_St → Prop) : List (Nat × px_Op) := [
  (0, px_il 1 1),
  (1, px_sw [(0, 40), (1, 48), (2, 53), (3, 58), (4, 86), (5, 94)] 102),
  (40, px_al 41 0),
  (41, px_get dC 44 5 1),
  (44, px_get dC 47 2 0),
  (47, px_iret (.int) po),
  (48, px_al 49 0),
  (49, px_callV dC 52 5 0 px_vI prX5_imagesThere poX5_imagesThere),
  (52, px_iret (.int) po),
  (53, px_al 54 0),
  (54, px_get dC 57 5 10),
  (57, px_iret (.int) po),
  (58, px_al 59 0),
  (59, px_get dC 62 5 9),
  (62, px_push 63 (.int 0)),
  (63, px_aald dC 64 4),
  (64, px_get dC 67 3 0),
  (67, px_push 68 (.int (-1))),
  (68, px_ic 71 76 (fun x y => ¬ x = y)),
  (71, px_push 73 (.int (-4))),
  (73, px_go 85),
  (76, px_al 77 0),
  (77, px_get dC 80 5 9),
  (80, px_push 81 (.int 0)),
  (81, px_aald dC 82 4),
  (82, px_get dC 85 3 1),
  (85, px_iret (.int) po),
  (86, px_al 87 0),
  (87, px_get dC 90 5 0),
  (90, px_callV dC 93 0 0 px_vI prX0_allSounds poX0_allSounds),
  (93, px_iret (.int) po),
  (94, px_al 95 0),
  (95, px_get dC 98 5 0),
  (98, px_callV dC 101 0 0 px_vI prX0_allPlaces poX0_allPlaces),
  (101, px_iret (.int) po),
  (102, px_push 103 (.int (-1))),
  (103, px_iret (.int) po)]
theorem px_tsw_X5_count_1 : px_tswOk 1 101 0 5 #[39, 47, 52, 57, 85, 93] [(0, 40), (1, 48), (2, 53), (3, 58), (4, 86), (5, 94)] 102 := by
  intro x
  refine ⟨fun h1 h2 => ?_, fun h => ?_⟩
  · have hx : x = 0 ∨ x = 1 ∨ x = 2 ∨ x = 3 ∨ x = 4 ∨ x = 5 := by
      simp only [fa_eqI, show ((0 : Int32)).toInt = 0 by decide, show ((1 : Int32)).toInt = 1 by decide, show ((2 : Int32)).toInt = 2 by decide, show ((3 : Int32)).toInt = 3 by decide, show ((4 : Int32)).toInt = 4 by decide, show ((5 : Int32)).toInt = 5 by decide]
      omega
    rcases hx with rfl | rfl | rfl | rfl | rfl | rfl <;> exact ⟨_, rfl, rfl⟩
  · have hn : ¬ x = 0 ∧ ¬ x = 1 ∧ ¬ x = 2 ∧ ¬ x = 3 ∧ ¬ x = 4 ∧ ¬ x = 5 := by
      simp only [fa_eqI, show ((0 : Int32)).toInt = 0 by decide, show ((1 : Int32)).toInt = 1 by decide, show ((2 : Int32)).toInt = 2 by decide, show ((3 : Int32)).toInt = 3 by decide, show ((4 : Int32)).toInt = 4 by decide, show ((5 : Int32)).toInt = 5 by decide]
      omega
    simp [px_swt, hn]
set_option maxRecDepth 100000 in
set_option maxHeartbeats 4000000 in
theorem okX5_count : ∀ (po : Int32 → px_St → Prop) (i pc : Nat) (op : px_Op), (opX5_count po)[i]? = some (pc, op) → px_Snd (cX5_count, 2, RX5, Cond.code yX5_count cX5_count 2 (some .int) :: wdC, (some .int), rmX5_count, dC) px_vI po pc op := by
  intro po
  unfold opX5_count
  refine px_ok_cons (ps_iload_n dX5_count_0 rfl) ?_
  refine px_ok_cons (ps_tsw dX5_count_1 px_tsw_X5_count_1) ?_
  refine px_ok_cons (ps_aload_n dX5_count_40 rfl) ?_
  refine px_ok_cons (fgX5_19 dX5_count_41) ?_
  refine px_ok_cons (fgX5_86 dX5_count_44) ?_
  refine px_ok_cons (ps_ireturn rfl dX5_count_47) ?_
  refine px_ok_cons (ps_aload_n dX5_count_48 rfl) ?_
  refine px_ok_cons (ps_callV mX5_imagesThere (fun _ _ => rfl) (C := RX5) rfl (fun _ _ ht => px_cwV wgC (wdC_10_in _ (List.mem_of_getElem? (i := 31) rfl)) (wdC_10_in _ (List.mem_of_getElem? (i := 32) rfl)) (wdC_10_in _ (List.mem_of_getElem? (i := 33) rfl)) (wdC_4_in _ (List.mem_of_getElem? (i := 23) rfl)) (wdC_10_in _ (List.mem_of_getElem? (i := 30) rfl)) (by decide +kernel) rfl rfl (by decide) ht) dX5_count_49) ?_
  refine px_ok_cons (ps_ireturn rfl dX5_count_52) ?_
  refine px_ok_cons (ps_aload_n dX5_count_53 rfl) ?_
  refine px_ok_cons (fgX5_65 dX5_count_54) ?_
  refine px_ok_cons (ps_ireturn rfl dX5_count_57) ?_
  refine px_ok_cons (ps_aload_n dX5_count_58 rfl) ?_
  refine px_ok_cons (fgX5_55 dX5_count_59) ?_
  refine px_ok_cons (ps_iconst dX5_count_62 (by decide)) ?_
  refine px_ok_cons (ps_aaload4 dX5_count_63) ?_
  refine px_ok_cons (fgX5_249 dX5_count_64) ?_
  refine px_ok_cons (ps_iconst dX5_count_67 (by decide)) ?_
  refine px_ok_cons (ps_icmp_ne dX5_count_68 (by decide)) ?_
  refine px_ok_cons (ps_bipush dX5_count_71 (by decide)) ?_
  refine px_ok_cons (ps_goto dX5_count_73 (by decide)) ?_
  refine px_ok_cons (ps_aload_n dX5_count_76 rfl) ?_
  refine px_ok_cons (fgX5_55 dX5_count_77) ?_
  refine px_ok_cons (ps_iconst dX5_count_80 (by decide)) ?_
  refine px_ok_cons (ps_aaload4 dX5_count_81) ?_
  refine px_ok_cons (fgX5_252 dX5_count_82) ?_
  refine px_ok_cons (ps_ireturn rfl dX5_count_85) ?_
  refine px_ok_cons (ps_aload_n dX5_count_86 rfl) ?_
  refine px_ok_cons (fgX5_10 dX5_count_87) ?_
  refine px_ok_cons (ps_callV mX0_allSounds (fun _ _ => rfl) (C := RX0) rfl (fun _ _ ht => px_cwV wgC (wdC_10_in _ (List.mem_of_getElem? (i := 34) rfl)) (wdC_10_in _ (List.mem_of_getElem? (i := 35) rfl)) (wdC_10_in _ (List.mem_of_getElem? (i := 36) rfl)) (wdC_0_in _ (List.mem_of_getElem? (i := 22) rfl)) (wdC_1_in _ (List.mem_of_getElem? (i := 29) rfl)) (by decide +kernel) rfl rfl (by decide) ht) dX5_count_90) ?_
  refine px_ok_cons (ps_ireturn rfl dX5_count_93) ?_
  refine px_ok_cons (ps_aload_n dX5_count_94 rfl) ?_
  refine px_ok_cons (fgX5_10 dX5_count_95) ?_
  refine px_ok_cons (ps_callV mX0_allPlaces (fun _ _ => rfl) (C := RX0) rfl (fun _ _ ht => px_cwV wgC (wdC_10_in _ (List.mem_of_getElem? (i := 37) rfl)) (wdC_10_in _ (List.mem_of_getElem? (i := 38) rfl)) (wdC_10_in _ (List.mem_of_getElem? (i := 39) rfl)) (wdC_0_in _ (List.mem_of_getElem? (i := 22) rfl)) (wdC_1_in _ (List.mem_of_getElem? (i := 30) rfl)) (by decide +kernel) rfl rfl (by decide) ht) dX5_count_98) ?_
  refine px_ok_cons (ps_ireturn rfl dX5_count_101) ?_
  refine px_ok_cons (ps_iconst dX5_count_102 (by decide)) ?_
  refine px_ok_cons (ps_ireturn rfl dX5_count_103) ?_
  exact px_ok_nil
set_option maxRecDepth 100000 in
set_option maxHeartbeats 4000000 in
theorem sgX5_count_0 {po : Int32 → px_St → Prop} {G : px_K} (hG : px_cl (opX5_count po) G) (v1 : Int32) (σ : px_St)
    (H : ((v1 = 0) → po (σ.1 38 0) σ) ∧ (¬ (v1 = 0) → ((v1 = 1) → ∃ g5 : gtX5_imagesThere, qrX5_imagesThere g5 σ ∧ ∀ (r3 : Int32) (σ4 : px_St), qoX5_imagesThere g5 σ r3 σ4 → po r3 σ4) ∧ (¬ (v1 = 1) → ((v1 = 2) → po (σ.1 0 10) σ) ∧ (¬ (v1 = 2) → ((v1 = 3) → vp_in (0 : Int32) 4 ∧ ((¬ (σ.1 (dC.2.2.2 6 (0 : Int32).toNatClampNeg) 0) = (-1 : Int32)) → vp_in (0 : Int32) 4 ∧ po (σ.1 (dC.2.2.2 6 (0 : Int32).toNatClampNeg) 1) σ) ∧ (¬ (¬ (σ.1 (dC.2.2.2 6 (0 : Int32).toNatClampNeg) 0) = (-1 : Int32)) → po (-4 : Int32) σ)) ∧ (¬ (v1 = 3) → ((v1 = 4) → ∃ g15 : gtX0_allSounds, qrX0_allSounds g15 8 σ ∧ ∀ (r13 : Int32) (σ14 : px_St), qoX0_allSounds g15 8 σ r13 σ14 → po r13 σ14) ∧ (¬ (v1 = 4) → ((v1 = 5) → ∃ g20 : gtX0_allPlaces, qrX0_allPlaces g20 8 σ ∧ ∀ (r18 : Int32) (σ19 : px_St), qoX0_allPlaces g20 8 σ r18 σ19 → po r18 σ19) ∧ (¬ (v1 = 5) → po (-1 : Int32) σ))))))) :
    G 0 (px_ent 2 [.ref 0, .int v1]) [] σ := by
  refine hG.1 0 _ _ rfl _ _ _ ?_
  refine hG.1 1 _ _ rfl _ _ _ ?_
  refine ⟨fun h1 => ?_, fun h1 => ?_⟩
  · replace H := H.1 h1
    refine hG.1 2 _ _ rfl _ _ _ ?_
    refine hG.1 3 _ _ rfl _ _ _ ?_
    refine ⟨⟨rfl, by decide⟩, ?_⟩
    refine hG.1 4 _ _ rfl _ _ _ ?_
    refine ⟨⟨rfl, by decide⟩, ?_⟩
    refine hG.1 5 _ _ rfl _ _ _ ?_
    exact ⟨rfl, H⟩
  · replace H := H.2 h1
    refine ⟨fun h2 => ?_, fun h2 => ?_⟩
    · replace H := H.1 h2
      refine hG.1 6 _ _ rfl _ _ _ ?_
      refine hG.1 7 _ _ rfl _ _ _ ?_
      obtain ⟨g5, H⟩ := H
      refine ⟨⟨rfl, by decide⟩, Nat.le_of_ble_eq_true rfl, g5, ⟨rfl, H.1⟩, fun r3 σ4 hp6 => ?_⟩
      replace H := H.2 r3 σ4 hp6
      refine hG.1 8 _ _ rfl _ _ _ ?_
      exact ⟨rfl, H⟩
    · replace H := H.2 h2
      refine ⟨fun h7 => ?_, fun h7 => ?_⟩
      · replace H := H.1 h7
        refine hG.1 9 _ _ rfl _ _ _ ?_
        refine hG.1 10 _ _ rfl _ _ _ ?_
        refine ⟨⟨rfl, by decide⟩, ?_⟩
        refine hG.1 11 _ _ rfl _ _ _ ?_
        exact ⟨rfl, H⟩
      · replace H := H.2 h7
        refine ⟨fun h8 => ?_, fun h8 => ?_⟩
        · replace H := H.1 h8
          refine hG.1 12 _ _ rfl _ _ _ ?_
          refine hG.1 13 _ _ rfl _ _ _ ?_
          refine ⟨⟨rfl, by decide⟩, ?_⟩
          refine hG.1 14 _ _ rfl _ _ _ ?_
          refine hG.1 15 _ _ rfl _ _ _ ?_
          have hz9 := sh_of H.1
          refine ⟨⟨rfl, by decide⟩, H.1, ?_⟩
          replace H := H.2
          refine hG.1 16 _ _ rfl _ _ _ ?_
          refine ⟨(sh_s0 hz9), ?_⟩
          refine hG.1 17 _ _ rfl _ _ _ ?_
          refine hG.1 18 _ _ rfl _ _ _ ?_
          refine ⟨fun h11 => ?_, fun h11 => ?_⟩
          · replace H := H.1 h11
            refine hG.1 21 _ _ rfl _ _ _ ?_
            refine hG.1 22 _ _ rfl _ _ _ ?_
            refine ⟨⟨rfl, by decide⟩, ?_⟩
            refine hG.1 23 _ _ rfl _ _ _ ?_
            refine hG.1 24 _ _ rfl _ _ _ ?_
            have hz10 := sh_of H.1
            refine ⟨⟨rfl, by decide⟩, H.1, ?_⟩
            replace H := H.2
            refine hG.1 25 _ _ rfl _ _ _ ?_
            refine ⟨(sh_s0 hz10), ?_⟩
            refine hG.1 26 _ _ rfl _ _ _ ?_
            exact ⟨rfl, H⟩
          · replace H := H.2 h11
            refine hG.1 19 _ _ rfl _ _ _ ?_
            refine hG.1 20 _ _ rfl _ _ _ ?_
            refine hG.1 26 _ _ rfl _ _ _ ?_
            exact ⟨rfl, H⟩
        · replace H := H.2 h8
          refine ⟨fun h12 => ?_, fun h12 => ?_⟩
          · replace H := H.1 h12
            refine hG.1 27 _ _ rfl _ _ _ ?_
            refine hG.1 28 _ _ rfl _ _ _ ?_
            refine ⟨⟨rfl, by decide⟩, ?_⟩
            refine hG.1 29 _ _ rfl _ _ _ ?_
            obtain ⟨g15, H⟩ := H
            refine ⟨⟨rfl, by decide⟩, Nat.le_of_ble_eq_true rfl, g15, ⟨_, rfl, (Or.inl rfl), H.1⟩, fun r13 σ14 hp16 => ?_⟩
            replace H := H.2 r13 σ14 hp16
            refine hG.1 30 _ _ rfl _ _ _ ?_
            exact ⟨rfl, H⟩
          · replace H := H.2 h12
            refine ⟨fun h17 => ?_, fun h17 => ?_⟩
            · replace H := H.1 h17
              refine hG.1 31 _ _ rfl _ _ _ ?_
              refine hG.1 32 _ _ rfl _ _ _ ?_
              refine ⟨⟨rfl, by decide⟩, ?_⟩
              refine hG.1 33 _ _ rfl _ _ _ ?_
              obtain ⟨g20, H⟩ := H
              refine ⟨⟨rfl, by decide⟩, Nat.le_of_ble_eq_true rfl, g20, ⟨_, rfl, (Or.inl rfl), H.1⟩, fun r18 σ19 hp21 => ?_⟩
              replace H := H.2 r18 σ19 hp21
              refine hG.1 34 _ _ rfl _ _ _ ?_
              exact ⟨rfl, H⟩
            · replace H := H.2 h17
              refine hG.1 35 _ _ rfl _ _ _ ?_
              refine hG.1 36 _ _ rfl _ _ _ ?_
              exact ⟨rfl, H⟩
set_option maxRecDepth 100000 in
set_option maxHeartbeats 4000000 in
theorem hhX5_count (g : gtX5_count) (v1 : Int32) (σ : px_St) (h : qrX5_count g v1 σ) (G : px_K) (hG : px_cl (opX5_count (qoX5_count g v1 σ)) G) : G 0 (px_ent 2 [.ref 0, .int v1]) [] σ := by
  obtain ⟨hX, hok⟩ := h
  have hvk := hok.1.1
  have i1 : dC.2.2.2 6 (0 : Int32).toNatClampNeg = 49 := by decide
  refine sgX5_count_0 hG _ σ ?_
  rw [hX.2.1.1, hX.2.2.1.1, i1]
  unfold qoX5_count x_count
  simp only
  have hin : vp_in (0 : Int32) 4 := vp_in_nI (n := 0) (by omega) (by decide)
  refine ⟨fun h0 => ⟨?_, hX⟩, fun h0 => ⟨fun h1 => ⟨(x_is1 (g.2.2.2.1 0), x_is1 (g.2.2.2.1 1)), ⟨(cl_im1 hX.2.2.2.1 (k := 0) (by omega)).1, (cl_im1 hX.2.2.2.1 (k := 1) (by omega)).1, (cl_im1 hX.2.2.2.1 (k := 0) (by omega)).2, (cl_im1 hX.2.2.2.1 (k := 1) (by omega)).2⟩, fun r σ2 hq => ?_⟩, fun h1 => ⟨fun h2 => ⟨?_, hX⟩, fun h2 => ⟨fun h3 => ⟨hin, fun y => ⟨hin, ?_, hX⟩, fun y => ⟨?_, hX⟩⟩, fun h3 => ⟨fun h4 => ⟨g.1, ⟨hX.1, hvk.1⟩, fun r σ2 hq => ?_⟩, fun h4 => ⟨fun h5 => ⟨g.1, ⟨hX.1, hvk.1⟩, fun r σ2 hq => ?_⟩, fun h5 => ⟨?_, hX⟩⟩⟩⟩⟩⟩⟩
  · rw [if_pos h0]
  · obtain ⟨rfl, rfl⟩ := hq
    exact ⟨by rw [if_neg h0, if_pos h1], hX⟩
  · rw [if_neg h0, if_neg h1, if_pos h2]
  · rw [if_neg h0, if_neg h1, if_neg h2, if_pos h3]
    cases hi : g.2.2.2.2.2.2 0 with
    | none => exact absurd ((hX.2.2.2.2.2.2 0 (by omega)).1 hi) y
    | some w => exact ((hX.2.2.2.2.2.2 0 (by omega)).2 w hi).2.1
  · rw [if_neg h0, if_neg h1, if_neg h2, if_pos h3]
    cases hi : g.2.2.2.2.2.2 0 with
    | none => rfl
    | some w =>
      have e := ((hX.2.2.2.2.2.2 0 (by omega)).2 w hi).1
      have hwk := hok.2.2.2.2.2.2 0 w hi
      have hne : ¬ nI w.1 = -1 := fun q => absurd (show nI w.1 < 0 by rw [q]; decide) (nI_pos (by omega))
      have e' : σ.1 49 0 = nI w.1 := e
      rw [e'] at y
      exact absurd hne y
  · obtain ⟨rfl, rfl⟩ := hq
    exact ⟨by rw [if_neg h0, if_neg h1, if_neg h2, if_neg h3, if_pos h4], hX⟩
  · obtain ⟨rfl, rfl⟩ := hq
    exact ⟨by rw [if_neg h0, if_neg h1, if_neg h2, if_neg h3, if_neg h4, if_pos h5], hX⟩
  · rw [if_neg h0, if_neg h1, if_neg h2, if_neg h3, if_neg h4, if_neg h5]
theorem mX5_count (g : gtX5_count) : px_Met dC yX5_count (Cond.code yX5_count cX5_count 2 (some .int) :: wdC) rmX5_count px_vI (prX5_count g) (poX5_count g) :=
  px_met (Z := (cX5_count, 2, RX5, Cond.code yX5_count cX5_count 2 (some .int) :: wdC, (some .int), rmX5_count, dC)) opX5_count (by decide) rfl rfl okX5_count (fun As σ h => by obtain ⟨v1, rfl, h⟩ := h; exact Nat.le_of_ble_eq_true rfl) (fun As σ h G hG => by obtain ⟨v1, rfl, h⟩ := h; exact hhX5_count g v1 σ h G hG)
