/-! ===== the class's text ===== -/
abbrev gtX4_readText : Type := List Nat
def qrX4_readText (T : List Nat) (v2 : Int32) (σ : px_St) : Prop := tx_ok T ∧ v2 = nI T.length ∧ ∀ i, i < T.length → σ.1 3 i = nI (ch T i)
def qoX4_readText (T : List Nat) (_ : Int32) (σ : px_St) (r : Int32) (σ' : px_St) : Prop := rsC σ' (fun w : pv_V × Nat => σ'.1 4 4 = 0 ∧ r = nI w.2 ∧ av_is σ' 13 w.1) (pt_text T) ∧ ∀ k, k ≠ 4 → (k < 13 ∨ 17 < k) → σ'.1 k = σ.1 k
def prX4_readText (g : gtX4_readText) : List Value → px_St → Prop := fun As σ => ∃ v2 : Int32, As = [.ref 4, .ref 3, .int v2, .ref 13] ∧ qrX4_readText g v2 σ
def poX4_readText (g : gtX4_readText) : List Value → px_St → Int32 → px_St → Prop
  | [.ref _, .ref _, .int v2, .ref _], σ, r, σ' => qoX4_readText g v2 σ r σ'
  | _, _, _, _ => False
theorem dX4_readText_0 : decode cX4_readText 0 = .ok (.aload_n 0, 1) := by decide +kernel
theorem dX4_readText_1 : decode cX4_readText 1 = .ok (.aload_n 1, 1) := by decide +kernel
theorem dX4_readText_2 : decode cX4_readText 2 = .ok (.putfield 9, 3) := by decide +kernel
theorem dX4_readText_5 : decode cX4_readText 5 = .ok (.aload_n 0, 1) := by decide +kernel
theorem dX4_readText_6 : decode cX4_readText 6 = .ok (.iload_n 2, 1) := by decide +kernel
theorem dX4_readText_7 : decode cX4_readText 7 = .ok (.aload_n 1, 1) := by decide +kernel
theorem dX4_readText_8 : decode cX4_readText 8 = .ok (.arraylength, 1) := by decide +kernel
theorem dX4_readText_9 : decode cX4_readText 9 = .ok (.invokestatic 22, 3) := by decide +kernel
theorem dX4_readText_12 : decode cX4_readText 12 = .ok (.putfield 28, 3) := by decide +kernel
theorem dX4_readText_15 : decode cX4_readText 15 = .ok (.aload_n 0, 1) := by decide +kernel
theorem dX4_readText_16 : decode cX4_readText 16 = .ok (.aload_n 3, 1) := by decide +kernel
theorem dX4_readText_17 : decode cX4_readText 17 = .ok (.putfield 18, 3) := by decide +kernel
theorem dX4_readText_20 : decode cX4_readText 20 = .ok (.aload_n 0, 1) := by decide +kernel
theorem dX4_readText_21 : decode cX4_readText 21 = .ok (.getfield 18, 3) := by decide +kernel
theorem dX4_readText_24 : decode cX4_readText 24 = .ok (.invokevirtual 32, 3) := by decide +kernel
theorem dX4_readText_27 : decode cX4_readText 27 = .ok (.aload_n 0, 1) := by decide +kernel
theorem dX4_readText_28 : decode cX4_readText 28 = .ok (.iconst 0, 1) := by decide +kernel
theorem dX4_readText_29 : decode cX4_readText 29 = .ok (.putfield 35, 3) := by decide +kernel
theorem dX4_readText_32 : decode cX4_readText 32 = .ok (.aload_n 0, 1) := by decide +kernel
theorem dX4_readText_33 : decode cX4_readText 33 = .ok (.iconst 0, 1) := by decide +kernel
theorem dX4_readText_34 : decode cX4_readText 34 = .ok (.putfield 39, 3) := by decide +kernel
theorem dX4_readText_37 : decode cX4_readText 37 = .ok (.aload_n 0, 1) := by decide +kernel
theorem dX4_readText_38 : decode cX4_readText 38 = .ok (.iconst 0, 1) := by decide +kernel
theorem dX4_readText_39 : decode cX4_readText 39 = .ok (.putfield 42, 3) := by decide +kernel
theorem dX4_readText_42 : decode cX4_readText 42 = .ok (.iconst 0, 1) := by decide +kernel
theorem dX4_readText_43 : decode cX4_readText 43 = .ok (.istore 4, 2) := by decide +kernel
theorem dX4_readText_45 : decode cX4_readText 45 = .ok (.aload_n 0, 1) := by decide +kernel
theorem dX4_readText_46 : decode cX4_readText 46 = .ok (.invokevirtual 45, 3) := by decide +kernel
theorem dX4_readText_49 : decode cX4_readText 49 = .ok (.aload_n 0, 1) := by decide +kernel
theorem dX4_readText_50 : decode cX4_readText 50 = .ok (.getfield 39, 3) := by decide +kernel
theorem dX4_readText_53 : decode cX4_readText 53 = .ok (.ifCond .ne 33, 3) := by decide +kernel
theorem dX4_readText_56 : decode cX4_readText 56 = .ok (.aload_n 0, 1) := by decide +kernel
theorem dX4_readText_57 : decode cX4_readText 57 = .ok (.getfield 48, 3) := by decide +kernel
theorem dX4_readText_60 : decode cX4_readText 60 = .ok (.iconst 4, 1) := by decide +kernel
theorem dX4_readText_61 : decode cX4_readText 61 = .ok (.if_icmp .eq 25, 3) := by decide +kernel
theorem dX4_readText_64 : decode cX4_readText 64 = .ok (.iload 4, 2) := by decide +kernel
theorem dX4_readText_66 : decode cX4_readText 66 = .ok (.sipush 160, 3) := by decide +kernel
theorem dX4_readText_69 : decode cX4_readText 69 = .ok (.if_icmp .gt 17, 3) := by decide +kernel
theorem dX4_readText_72 : decode cX4_readText 72 = .ok (.aload_n 0, 1) := by decide +kernel
theorem dX4_readText_73 : decode cX4_readText 73 = .ok (.invokevirtual 51, 3) := by decide +kernel
theorem dX4_readText_76 : decode cX4_readText 76 = .ok (.iinc 4 1, 3) := by decide +kernel
theorem dX4_readText_79 : decode cX4_readText 79 = .ok (.aload_n 0, 1) := by decide +kernel
theorem dX4_readText_80 : decode cX4_readText 80 = .ok (.invokevirtual 45, 3) := by decide +kernel
theorem dX4_readText_83 : decode cX4_readText 83 = .ok (.goto (-34), 3) := by decide +kernel
theorem dX4_readText_86 : decode cX4_readText 86 = .ok (.iload 4, 2) := by decide +kernel
theorem dX4_readText_88 : decode cX4_readText 88 = .ok (.ireturn, 1) := by decide +kernel
abbrev rmX4_readText : Room := { frames := 7, cells := 0, slots := 0, locals := 148 }
def opX4_readText (po : Int32 → px_St → Prop) : List (Nat × px_Op) := [
  (0, px_al 1 0),
  (1, px_al 2 1),
  (2, px_putr dC 5 4 0),
  (5, px_al 6 0),
  (6, px_il 7 2),
  (7, px_al 8 1),
  (8, px_alen dC 9 1),
  (9, px_mm 12 (fun x y => if y < x then y else x)),
  (12, px_put dC 15 4 1 .int),
  (15, px_al 16 0),
  (16, px_al 17 3),
  (17, px_putr dC 20 4 2),
  (20, px_al 21 0),
  (21, px_get dC 24 4 2),
  (24, px_callV dC 27 0 0 px_vV prX0_makeEmpty poX0_makeEmpty),
  (27, px_al 28 0),
  (28, px_push 29 (.int 0)),
  (29, px_put dC 32 4 3 .boolean),
  (32, px_al 33 0),
  (33, px_push 34 (.int 0)),
  (34, px_put dC 37 4 4 .int),
  (37, px_al 38 0),
  (38, px_push 39 (.int 0)),
  (39, px_put dC 42 4 7 .int),
  (42, px_push 43 (.int 0)),
  (43, px_is 45 4),
  (45, px_al 46 0),
  (46, px_callV dC 49 4 0 px_vV prX4_nextToken poX4_nextToken),
  (49, px_al 50 0),
  (50, px_get dC 53 4 4),
  (53, px_if 56 86 (fun x => ¬ x = 0)),
  (56, px_al 57 0),
  (57, px_get dC 60 4 5),
  (60, px_push 61 (.int 4)),
  (61, px_ic 64 86 (fun x y => x = y)),
  (64, px_il 66 4),
  (66, px_push 69 (.int 160)),
  (69, px_ic 72 86 (fun x y => y < x)),
  (72, px_al 73 0),
  (73, px_callV dC 76 4 0 px_vV prX4_takeLine poX4_takeLine),
  (76, px_inc 79 4 1),
  (79, px_al 80 0),
  (80, px_callV dC 83 4 0 px_vV prX4_nextToken poX4_nextToken),
  (83, px_go 49),
  (86, px_il 88 4),
  (88, px_iret (.int) po)]
set_option maxRecDepth 100000 in
set_option maxHeartbeats 4000000 in
theorem okX4_readText : ∀ (po : Int32 → px_St → Prop) (i pc : Nat) (op : px_Op), (opX4_readText po)[i]? = some (pc, op) → px_Snd (cX4_readText, 5, RX4, Cond.code yX4_readText cX4_readText 5 (some .int) :: wdC, (some .int), rmX4_readText, dC) px_vI po pc op := by
  intro po
  unfold opX4_readText
  refine px_ok_cons (ps_aload_n dX4_readText_0 rfl) ?_
  refine px_ok_cons (ps_aload_n dX4_readText_1 rfl) ?_
  refine px_ok_cons (fpX4_9 dX4_readText_2) ?_
  refine px_ok_cons (ps_aload_n dX4_readText_5 rfl) ?_
  refine px_ok_cons (ps_iload_n dX4_readText_6 rfl) ?_
  refine px_ok_cons (ps_aload_n dX4_readText_7 rfl) ?_
  refine px_ok_cons (ps_alen1 dX4_readText_8) ?_
  refine px_ok_cons (ps_mmin (List.mem_cons_of_mem _ (wdC_5_in _ (List.mem_of_getElem? (i := 14) rfl))) (List.mem_cons_of_mem _ (wdC_0_in _ (List.mem_of_getElem? (i := 38) rfl))) (List.mem_cons_of_mem _ (wdC_0_in _ (List.mem_of_getElem? (i := 39) rfl))) (List.mem_cons_of_mem _ (wdC_1_in _ (List.mem_of_getElem? (i := 0) rfl))) (by decide) dX4_readText_9) ?_
  refine px_ok_cons (fpX4_28 dX4_readText_12) ?_
  refine px_ok_cons (ps_aload_n dX4_readText_15 rfl) ?_
  refine px_ok_cons (ps_aload_n dX4_readText_16 rfl) ?_
  refine px_ok_cons (fpX4_18 dX4_readText_17) ?_
  refine px_ok_cons (ps_aload_n dX4_readText_20 rfl) ?_
  refine px_ok_cons (fgX4_18 dX4_readText_21) ?_
  refine px_ok_cons (ps_callV mX0_makeEmpty (fun _ _ => rfl) (C := RX0) rfl (fun _ _ ht => px_cwV wgC (wdC_5_in _ (List.mem_of_getElem? (i := 15) rfl)) (wdC_5_in _ (List.mem_of_getElem? (i := 16) rfl)) (wdC_5_in _ (List.mem_of_getElem? (i := 17) rfl)) (wdC_0_in _ (List.mem_of_getElem? (i := 22) rfl)) (wdC_0_in _ (List.mem_of_getElem? (i := 10) rfl)) (by decide +kernel) rfl rfl (by decide) ht) dX4_readText_24) ?_
  refine px_ok_cons (ps_aload_n dX4_readText_27 rfl) ?_
  refine px_ok_cons (ps_iconst dX4_readText_28 (by decide)) ?_
  refine px_ok_cons (fpX4_35 dX4_readText_29) ?_
  refine px_ok_cons (ps_aload_n dX4_readText_32 rfl) ?_
  refine px_ok_cons (ps_iconst dX4_readText_33 (by decide)) ?_
  refine px_ok_cons (fpX4_39 dX4_readText_34) ?_
  refine px_ok_cons (ps_aload_n dX4_readText_37 rfl) ?_
  refine px_ok_cons (ps_iconst dX4_readText_38 (by decide)) ?_
  refine px_ok_cons (fpX4_42 dX4_readText_39) ?_
  refine px_ok_cons (ps_iconst dX4_readText_42 (by decide)) ?_
  refine px_ok_cons (ps_istore dX4_readText_43 (by decide)) ?_
  refine px_ok_cons (ps_aload_n dX4_readText_45 rfl) ?_
  refine px_ok_cons (ps_callV mX4_nextToken (fun _ _ => rfl) (C := RX4) rfl (fun _ _ ht => px_cwV wgC (wdC_4_in _ (List.mem_of_getElem? (i := 24) rfl)) (wdC_4_in _ (List.mem_of_getElem? (i := 25) rfl)) (wdC_4_in _ (List.mem_of_getElem? (i := 26) rfl)) (wdC_2_in _ (List.mem_of_getElem? (i := 35) rfl)) (wdC_2_in _ (List.mem_of_getElem? (i := 36) rfl)) (by decide +kernel) rfl rfl (by decide) ht) dX4_readText_46) ?_
  refine px_ok_cons (ps_aload_n dX4_readText_49 rfl) ?_
  refine px_ok_cons (fgX4_39 dX4_readText_50) ?_
  refine px_ok_cons (ps_if_ne dX4_readText_53 (by decide)) ?_
  refine px_ok_cons (ps_aload_n dX4_readText_56 rfl) ?_
  refine px_ok_cons (fgX4_48 dX4_readText_57) ?_
  refine px_ok_cons (ps_iconst dX4_readText_60 (by decide)) ?_
  refine px_ok_cons (ps_icmp_eq dX4_readText_61 (by decide)) ?_
  refine px_ok_cons (ps_iload dX4_readText_64) ?_
  refine px_ok_cons (ps_sipush dX4_readText_66 (by decide)) ?_
  refine px_ok_cons (ps_icmp_gt dX4_readText_69 (by decide)) ?_
  refine px_ok_cons (ps_aload_n dX4_readText_72 rfl) ?_
  refine px_ok_cons (ps_callV mX4_takeLine (fun _ _ => rfl) (C := RX4) rfl (fun _ _ ht => px_cwV wgC (wdC_5_in _ (List.mem_of_getElem? (i := 18) rfl)) (wdC_5_in _ (List.mem_of_getElem? (i := 19) rfl)) (wdC_5_in _ (List.mem_of_getElem? (i := 20) rfl)) (wdC_2_in _ (List.mem_of_getElem? (i := 35) rfl)) (wdC_5_in _ (List.mem_of_getElem? (i := 13) rfl)) (by decide +kernel) rfl rfl (by decide) ht) dX4_readText_73) ?_
  refine px_ok_cons (ps_iinc dX4_readText_76 (by decide) (by decide)) ?_
  refine px_ok_cons (ps_aload_n dX4_readText_79 rfl) ?_
  refine px_ok_cons (ps_callV mX4_nextToken (fun _ _ => rfl) (C := RX4) rfl (fun _ _ ht => px_cwV wgC (wdC_4_in _ (List.mem_of_getElem? (i := 24) rfl)) (wdC_4_in _ (List.mem_of_getElem? (i := 25) rfl)) (wdC_4_in _ (List.mem_of_getElem? (i := 26) rfl)) (wdC_2_in _ (List.mem_of_getElem? (i := 35) rfl)) (wdC_2_in _ (List.mem_of_getElem? (i := 36) rfl)) (by decide +kernel) rfl rfl (by decide) ht) dX4_readText_80) ?_
  refine px_ok_cons (ps_goto dX4_readText_83 (by decide)) ?_
  refine px_ok_cons (ps_iload dX4_readText_86) ?_
  refine px_ok_cons (ps_ireturn rfl dX4_readText_88) ?_
  exact px_ok_nil
set_option maxRecDepth 100000 in
set_option maxHeartbeats 4000000 in
theorem sgX4_readText_0 {po : Int32 → px_St → Prop} {G : px_K} (hG : px_cl (opX4_readText po) G) (v2 : Int32) (σ : px_St)
    (H : ((px_up (px_up (px_up σ 4 0 (nI 3)) 4 1 (if (nI 160) < v2 then (nI 160) else v2)) 4 2 (nI 13)).1 4 2).toNatClampNeg = 13 ∧ ∃ g4 : gtX0_makeEmpty, qrX0_makeEmpty g4 13 (px_up (px_up (px_up σ 4 0 (nI 3)) 4 1 (if (nI 160) < v2 then (nI 160) else v2)) 4 2 (nI 13)) ∧ ∀ (r2 : Unit) (σ3 : px_St), qoX0_makeEmpty g4 13 (px_up (px_up (px_up σ 4 0 (nI 3)) 4 1 (if (nI 160) < v2 then (nI 160) else v2)) 4 2 (nI 13)) r2 σ3 → ∃ g8 : gtX4_nextToken, qrX4_nextToken g8 (px_up (px_up (px_up σ3 4 3 (0 : Int32)) 4 4 (0 : Int32)) 4 7 (0 : Int32)) ∧ ∀ (r6 : Unit) (σ7 : px_St), qoX4_nextToken g8 (px_up (px_up (px_up σ3 4 3 (0 : Int32)) 4 4 (0 : Int32)) 4 7 (0 : Int32)) r6 σ7 → G 49 [some (.ref 4), some (.ref 3), some (.int v2), some (.ref 13), some (.int (0 : Int32))] [] σ7) :
    G 0 (px_ent 5 [.ref 4, .ref 3, .int v2, .ref 13]) [] σ := by
  refine hG.1 0 _ _ rfl _ _ _ ?_
  refine hG.1 1 _ _ rfl _ _ _ ?_
  refine hG.1 2 _ _ rfl _ _ _ ?_
  refine ⟨⟨rfl, by decide⟩, ⟨by decide, trivial⟩, ?_⟩
  refine hG.1 3 _ _ rfl _ _ _ ?_
  refine hG.1 4 _ _ rfl _ _ _ ?_
  refine hG.1 5 _ _ rfl _ _ _ ?_
  refine hG.1 6 _ _ rfl _ _ _ ?_
  refine ⟨⟨rfl, by decide⟩, ?_⟩
  refine hG.1 7 _ _ rfl _ _ _ ?_
  refine ⟨Nat.le_of_ble_eq_true rfl, ?_⟩
  refine hG.1 8 _ _ rfl _ _ _ ?_
  refine ⟨⟨rfl, by decide⟩, ⟨rfl, rfl⟩, ?_⟩
  refine hG.1 9 _ _ rfl _ _ _ ?_
  refine hG.1 10 _ _ rfl _ _ _ ?_
  refine hG.1 11 _ _ rfl _ _ _ ?_
  refine ⟨⟨rfl, by decide⟩, ⟨by decide, trivial⟩, ?_⟩
  refine hG.1 12 _ _ rfl _ _ _ ?_
  refine hG.1 13 _ _ rfl _ _ _ ?_
  refine ⟨⟨rfl, by decide⟩, ?_⟩
  obtain ⟨hz1, H⟩ := H
  show G 24 [some (.ref 4), some (.ref 3), some (.int v2), some (.ref 13), none] [(.ref ((px_up (px_up (px_up σ 4 0 (nI 3)) 4 1 (if (nI 160) < v2 then (nI 160) else v2)) 4 2 (nI 13)).1 4 2).toNatClampNeg)] (px_up (px_up (px_up σ 4 0 (nI 3)) 4 1 (if (nI 160) < v2 then (nI 160) else v2)) 4 2 (nI 13))
  rw [hz1]
  refine hG.1 14 _ _ rfl _ _ _ ?_
  obtain ⟨g4, H⟩ := H
  refine ⟨⟨rfl, by decide⟩, Nat.le_of_ble_eq_true rfl, g4, ⟨_, rfl, (Or.inr (Or.inl rfl)), H.1⟩, fun r2 σ3 hp5 => ?_⟩
  replace H := H.2 r2 σ3 hp5
  refine hG.1 15 _ _ rfl _ _ _ ?_
  refine hG.1 16 _ _ rfl _ _ _ ?_
  refine hG.1 17 _ _ rfl _ _ _ ?_
  refine ⟨⟨rfl, by decide⟩, ⟨rfl, rfl⟩, ?_⟩
  refine hG.1 18 _ _ rfl _ _ _ ?_
  refine hG.1 19 _ _ rfl _ _ _ ?_
  refine hG.1 20 _ _ rfl _ _ _ ?_
  refine ⟨⟨rfl, by decide⟩, ⟨rfl, rfl⟩, ?_⟩
  refine hG.1 21 _ _ rfl _ _ _ ?_
  refine hG.1 22 _ _ rfl _ _ _ ?_
  refine hG.1 23 _ _ rfl _ _ _ ?_
  refine ⟨⟨rfl, by decide⟩, ⟨rfl, rfl⟩, ?_⟩
  refine hG.1 24 _ _ rfl _ _ _ ?_
  refine hG.1 25 _ _ rfl _ _ _ ?_
  show G 45 [some (.ref 4), some (.ref 3), some (.int v2), some (.ref 13), some (.int (0 : Int32))] [] (px_up (px_up (px_up σ3 4 3 (0 : Int32)) 4 4 (0 : Int32)) 4 7 (0 : Int32))
  refine hG.1 26 _ _ rfl _ _ _ ?_
  refine hG.1 27 _ _ rfl _ _ _ ?_
  obtain ⟨g8, H⟩ := H
  refine ⟨⟨rfl, by decide⟩, Nat.le_of_ble_eq_true rfl, g8, ⟨rfl, H.1⟩, fun r6 σ7 hp9 => ?_⟩
  replace H := H.2 r6 σ7 hp9
  exact H
set_option maxRecDepth 100000 in
set_option maxHeartbeats 4000000 in
theorem sgX4_readText_49 {po : Int32 → px_St → Prop} {G : px_K} (hG : px_cl (opX4_readText po) G) (v2 : Int32) (v4 : Int32) (σ : px_St)
    (H : ((¬ (σ.1 4 4) = 0) → po v4 σ) ∧ (¬ (¬ (σ.1 4 4) = 0) → (((σ.1 4 5) = (4 : Int32)) → po v4 σ) ∧ (¬ ((σ.1 4 5) = (4 : Int32)) → (((160 : Int32) < v4) → po v4 σ) ∧ (¬ ((160 : Int32) < v4) → ∃ g3 : gtX4_takeLine, qrX4_takeLine g3 σ ∧ ∀ (r1 : Unit) (σ2 : px_St), qoX4_takeLine g3 σ r1 σ2 → ∃ g7 : gtX4_nextToken, qrX4_nextToken g7 σ2 ∧ ∀ (r5 : Unit) (σ6 : px_St), qoX4_nextToken g7 σ2 r5 σ6 → G 49 [some (.ref 4), some (.ref 3), some (.int v2), some (.ref 13), some (.int (v4 + 1))] [] σ6)))) :
    G 49 [some (.ref 4), some (.ref 3), some (.int v2), some (.ref 13), some (.int v4)] [] σ := by
  refine hG.1 28 _ _ rfl _ _ _ ?_
  refine hG.1 29 _ _ rfl _ _ _ ?_
  refine ⟨⟨rfl, by decide⟩, ?_⟩
  refine hG.1 30 _ _ rfl _ _ _ ?_
  refine ⟨fun h11 => ?_, fun h11 => ?_⟩
  · replace H := H.1 h11
    refine hG.1 44 _ _ rfl _ _ _ ?_
    refine hG.1 45 _ _ rfl _ _ _ ?_
    exact ⟨rfl, H⟩
  · replace H := H.2 h11
    refine hG.1 31 _ _ rfl _ _ _ ?_
    refine hG.1 32 _ _ rfl _ _ _ ?_
    refine ⟨⟨rfl, by decide⟩, ?_⟩
    refine hG.1 33 _ _ rfl _ _ _ ?_
    refine hG.1 34 _ _ rfl _ _ _ ?_
    refine ⟨fun h10 => ?_, fun h10 => ?_⟩
    · replace H := H.1 h10
      refine hG.1 44 _ _ rfl _ _ _ ?_
      refine hG.1 45 _ _ rfl _ _ _ ?_
      exact ⟨rfl, H⟩
    · replace H := H.2 h10
      refine hG.1 35 _ _ rfl _ _ _ ?_
      refine hG.1 36 _ _ rfl _ _ _ ?_
      refine hG.1 37 _ _ rfl _ _ _ ?_
      refine ⟨fun h9 => ?_, fun h9 => ?_⟩
      · replace H := H.1 h9
        refine hG.1 44 _ _ rfl _ _ _ ?_
        refine hG.1 45 _ _ rfl _ _ _ ?_
        exact ⟨rfl, H⟩
      · replace H := H.2 h9
        refine hG.1 38 _ _ rfl _ _ _ ?_
        refine hG.1 39 _ _ rfl _ _ _ ?_
        obtain ⟨g3, H⟩ := H
        refine ⟨⟨rfl, by decide⟩, Nat.le_of_ble_eq_true rfl, g3, ⟨rfl, H.1⟩, fun r1 σ2 hp4 => ?_⟩
        replace H := H.2 r1 σ2 hp4
        refine hG.1 40 _ _ rfl _ _ _ ?_
        show G 79 [some (.ref 4), some (.ref 3), some (.int v2), some (.ref 13), some (.int (v4 + 1))] [] σ2
        refine hG.1 41 _ _ rfl _ _ _ ?_
        refine hG.1 42 _ _ rfl _ _ _ ?_
        obtain ⟨g7, H⟩ := H
        refine ⟨⟨rfl, by decide⟩, Nat.le_of_ble_eq_true rfl, g7, ⟨rfl, H.1⟩, fun r5 σ6 hp8 => ?_⟩
        replace H := H.2 r5 σ6 hp8
        refine hG.1 43 _ _ rfl _ _ _ ?_
        exact H
set_option maxRecDepth 100000 in
set_option maxHeartbeats 4000000 in
theorem hhX4_readText (g : gtX4_readText) (v2 : Int32) (σ : px_St) (h : qrX4_readText g v2 σ) (G : px_K) (hG : px_cl (opX4_readText (qoX4_readText g v2 σ)) G) : G 0 (px_ent 5 [.ref 4, .ref 3, .int v2, .ref 13]) [] σ := by
  obtain ⟨hT, rfl, h3⟩ := h
  have hl := hT.1
  refine sgX4_readText_0 hG _ σ ?_
  rw [if_neg (show ¬ nI 160 < nI g.length from fun q => absurd ((nIlt 160 g.length rfl rfl (by omega) (by omega)).mp q) (by omega))]
  obtain ⟨σ0, e0⟩ : ∃ σ0, σ0 = px_up (px_up (px_up σ 4 0 (nI 3)) 4 1 (nI g.length)) 4 2 (nI 13) := ⟨_, rfl⟩
  rw [← e0]
  have a0 : σ0.1 4 0 = nI 3 := by rw [e0, up4n (by omega), up4n (by omega), up4s]
  have a1 : σ0.1 4 1 = nI g.length := by rw [e0, up4n (by omega), up4s]
  have a2 : σ0.1 4 2 = nI 13 := by rw [e0, up4s]
  have ak : ∀ k, k ≠ 4 → σ0.1 k = σ.1 k := fun k hk => by rw [e0, px_up_n hk, px_up_n hk, px_up_n hk]
  refine ⟨by rw [a2]; exact nI_clamp (by omega), (), trivial, fun _ σ1 h1 => ?_⟩
  obtain ⟨q1, q2⟩ := h1
  obtain ⟨σ2, e2⟩ : ∃ σ2, σ2 = px_up (px_up (px_up σ1 4 3 0) 4 4 0) 4 7 0 := ⟨_, rfl⟩
  rw [← e2]
  have oL : frL σ1 σ2 := by rw [e2]; exact ((frL.up (by omega)).tr (frL.up (by omega))).tr (frL.up (by omega))
  have o1 : ∀ k, k ≠ 4 → (k < 13 ∨ 17 < k) → σ1.1 k = σ.1 k := fun k a b => (q2.1 k (by omega)).trans (ak k a)
  have o41 : σ1.1 4 = σ0.1 4 := q2.1 4 (by omega)
  have hb : rb σ2 g := (show rb σ1 g from ⟨by rw [o41, a0]; exact nI_clamp (by omega), by rw [o41]; exact a1, fun i hi => by rw [o1 3 (by omega) (by omega)]; exact h3 i hi⟩).keptL oL
  have hd : td σ2 := (show td σ1 from by unfold td; rw [o41, a2]; exact nI_clamp (by omega)).kept oL
  have hV : av_is σ2 13 pv_0 := by rw [e2]; exact av13.up4 (av13.up4 (av13.up4 q1))
  have he0 : σ2.1 4 3 = nI 0 := by rw [e2, up4n (by omega), up4n (by omega), up4s]; rfl
  refine ⟨(g, 0), ⟨hb, hT, fun _ => ⟨Nat.zero_le _, by rw [e2, up4s]; rfl⟩⟩, fun _ σ3 h4 => ?_⟩
  obtain ⟨-, h5, h6⟩ := h4
  have h5 := h5 (by rw [e2, up4n (by omega), up4s])
  obtain ⟨R0, hR0⟩ : ∃ R0, R0 = pt_text g := ⟨_, rfl⟩
  have o3 : ∀ k, k ≠ 4 → (k < 13 ∨ 17 < k) → σ3.1 k = σ.1 k := fun k a b => by rw [h6.1 k a, oL.1 k a b]; exact o1 k a b
  have po : ∀ r σ', rsC σ' (fun w : pv_V × Nat => σ'.1 4 4 = 0 ∧ r = nI w.2 ∧ av_is σ' 13 w.1) R0 → frL σ3 σ' → qoX4_readText g (nI g.length) σ r σ' := fun r σ' h1 h2 => ⟨by rw [← hR0]; exact h1, fun k a b => (h2.1 k a b).trans (o3 k a b)⟩
  have stop : ∀ v σ' (f : Nat × Nat), R0 = .inl f → (1 ≤ f.1 ∧ f.1 ≤ 5) → σ'.1 4 4 = nI f.1 → σ'.1 4 6 = nI f.2 → frL σ3 σ' → G 49 [some (.ref 4), some (.ref 3), some (.int (nI g.length)), some (.ref 13), some (.int v)] [] σ' := fun v σ' f h1 h2 h3 h4 h5 =>
    sgX4_readText_49 hG _ _ σ' ⟨fun _ => po _ _ (by rw [h1]; exact ⟨h3, h4⟩) h5, fun q => absurd (by rw [h3]; exact nI_ne0 (by omega) (by omega)) q⟩
  have hb3 := hb.kept h6
  have hd3 := hd.kept h6.L
  have loop : ∀ (m : Nat) (V : pv_V) (e : Nat) (t : pt_K) (n : Nat) (σ' : px_St), 160 < m + t.2.1 → n ≤ t.2.1 → pv_ok V → e ≤ 1 → tk_ok g t → R0 = pt_lines g m V e t n → rdC σ' t → av_is σ' 13 V → σ'.1 4 3 = nI e → frL σ3 σ' → G 49 [some (.ref 4), some (.ref 3), some (.int (nI g.length)), some (.ref 13), some (.int (nI n))] [] σ' := by
    intro m
    induction m with
    | zero =>
      intro V e t n σ' hm hn hok he1 ht
      have b1 := ht.2.1
      have b2 := ht.2.2.1
      omega
    | succ m ih =>
      intro V e t n σ' hm hn hok he1 ht he hr hV' he3 ho
      have b1 := ht.2.1
      have b2 := ht.2.2.1
      have b3 := ht.1
      rw [pt_lines] at he
      have c4 : σ'.1 4 5 = 4 ↔ t.1 = 0 := by
        rw [hr.2.1]
        by_cases h0 : t.1 = 0
        · rw [if_pos h0]; exact ⟨fun _ => h0, fun _ => rfl⟩
        · rw [if_neg h0]
          exact ⟨fun q => absurd ((nIe _ 4 rfl rfl (by omega) (by omega)).mp q) (by omega), fun q => absurd q h0⟩
      refine sgX4_readText_49 hG _ _ σ' ⟨fun q => absurd hr.1 q, fun _ => ⟨fun q => ?_, fun q => ⟨fun q2 => absurd ((nIlt 160 n rfl rfl (by omega) (by omega)).mp q2) (by omega), fun _ => ⟨(g, V, e, t), ⟨hb3.keptL ho, hT, hd3.kept ho, hV', hok, he3, he1, hr, ht⟩, fun _ σ4 h7 => ?_⟩⟩⟩⟩
      · rw [if_pos (c4.mp q)] at he
        exact po _ _ (by rw [he]; exact ⟨hr.1, rfl, hV'⟩) ho
      · rw [if_neg (fun z => q (c4.mpr z))] at he
        obtain ⟨h8, h9⟩ := h7
        have hgd := pt_line_good hT hok he1 ht
        have hb4 := (hb3.keptL ho).keptL h9
        cases hx : pt_line g V e t with
        | inl f =>
          rw [hx] at h8 he hgd
          rw [pt_bl] at he
          have h8 : σ4.1 4 4 = nI f.1 ∧ σ4.1 4 6 = nI f.2 := h8
          have hfl : 1 ≤ f.1 ∧ f.1 ≤ 5 := hgd.1
          have hfn : ¬ σ4.1 4 4 = 0 := by rw [h8.1]; exact nI_ne0 (by omega) (by omega)
          refine ⟨(g, 0), ⟨hb4, hT, fun q => absurd q hfn⟩, fun _ σ5 h10 => ?_⟩
          have h10 := h10.1 hfn
          subst h10
          exact stop _ _ f he hfl h8.1 h8.2 (ho.tr h9)
        | inr w =>
          rw [hx] at h8 he hgd
          rw [pt_br] at he
          obtain ⟨⟨⟨w1, w1'⟩, w2, w3, w4⟩, w5⟩ := hgd
          obtain ⟨r1, r2, r3⟩ := h8
          refine ⟨(g, w.2.2.2.2.1), ⟨hb4, hT, fun _ => ⟨w3.2.2.1, r1.2.2.2.1⟩⟩, fun _ σ5 h10 => ?_⟩
          obtain ⟨-, h11, h12⟩ := h10
          have h11 := h11 r1.1
          have hg2 := pt_next_good (p := w.2.2.2.2.1) hT w3.2.2.1
          cases hy : pt_next g w.2.2.2.2.1 with
          | inl f =>
            rw [hy] at h11 he hg2
            rw [pt_bl] at he
            have h11 : σ5.1 4 4 = nI f.1 ∧ σ5.1 4 6 = nI f.2 := h11
            exact stop _ _ f he hg2.1 h11.1 h11.2 (ho.tr (h9.tr h12.L))
          | inr t' =>
            rw [hy] at h11 he hg2
            rw [pt_br] at he
            have h13 := w3.2.2.2.2 (by omega)
            have h14 := hg2.2
            rw [show nI n + 1 = nI (n + 1) from nI_1 _]
            exact ih w.1 w.2.1 t' (n + 1) σ5 (by omega) (by omega) w1 w2 hg2.1 he h11 (av13.fr4 r2 h12) (by rw [h12.2 3 (by omega)]; exact r3) (ho.tr (h9.tr h12.L))
  have hR : R0 = pt_b (pt_next g 0) (fun t => pt_lines g 161 pv_0 0 t 0) := hR0
  have hg1 := pt_next_good (p := 0) hT (Nat.zero_le _)
  cases hz : pt_next g 0 with
  | inl f =>
    rw [hz] at h5 hR hg1
    rw [pt_bl] at hR
    have h5 : σ3.1 4 4 = nI f.1 ∧ σ3.1 4 6 = nI f.2 := h5
    exact stop _ _ f hR hg1.1 h5.1 h5.2 frL.rf
  | inr t =>
    rw [hz] at h5 hR hg1
    rw [pt_br] at hR
    exact loop 161 pv_0 0 t 0 σ3 (by omega) (Nat.zero_le _) pv_0_ok (Nat.zero_le _) hg1.1 hR h5 (av13.fr4 hV h6) (by rw [h6.2 3 (by omega)]; exact he0) frL.rf
theorem mX4_readText (g : gtX4_readText) : px_Met dC yX4_readText (Cond.code yX4_readText cX4_readText 5 (some .int) :: wdC) rmX4_readText px_vI (prX4_readText g) (poX4_readText g) :=
  px_met (Z := (cX4_readText, 5, RX4, Cond.code yX4_readText cX4_readText 5 (some .int) :: wdC, (some .int), rmX4_readText, dC)) opX4_readText (by decide) rfl rfl okX4_readText (fun As σ h => by obtain ⟨v2, rfl, h⟩ := h; exact Nat.le_of_ble_eq_true rfl) (fun As σ h G hG => by obtain ⟨v2, rfl, h⟩ := h; exact hhX4_readText g v2 σ h G hG)
theorem noat {α : Type} {i : Nat} {x : α} (h : ([] : List α)[i]? = some x) : False := by
  rw [List.getElem?_nil] at h
  cases h
abbrev gtX5_text : Type := pv_X
def qrX5_text (X : pv_X) (σ : px_St) : Prop := cl_is σ X ∧ xo X
def qoX5_text (X : pv_X) (_ : px_St) (r : Int32) (σ' : px_St) : Prop := r = (x_text X).1 ∧ cl_is σ' (x_text X).2
def prX5_text (g : gtX5_text) : List Value → px_St → Prop := fun As σ => As = [.ref 0] ∧ qrX5_text g σ
def poX5_text (g : gtX5_text) : List Value → px_St → Int32 → px_St → Prop
  | [.ref _], σ, r, σ' => qoX5_text g σ r σ'
  | _, _, _, _ => False
theorem dX5_text_0 : decode cX5_text 0 = .ok (.aload_n 0, 1) := by decide +kernel
theorem dX5_text_1 : decode cX5_text 1 = .ok (.getfield 43, 3) := by decide +kernel
theorem dX5_text_4 : decode cX5_text 4 = .ok (.aload_n 0, 1) := by decide +kernel
theorem dX5_text_5 : decode cX5_text 5 = .ok (.getfield 36, 3) := by decide +kernel
theorem dX5_text_8 : decode cX5_text 8 = .ok (.aload_n 0, 1) := by decide +kernel
theorem dX5_text_9 : decode cX5_text 9 = .ok (.getfield 65, 3) := by decide +kernel
theorem dX5_text_12 : decode cX5_text 12 = .ok (.aload_n 0, 1) := by decide +kernel
theorem dX5_text_13 : decode cX5_text 13 = .ok (.getfield 23, 3) := by decide +kernel
theorem dX5_text_16 : decode cX5_text 16 = .ok (.invokevirtual 69, 3) := by decide +kernel
theorem dX5_text_19 : decode cX5_text 19 = .ok (.istore_n 1, 1) := by decide +kernel
theorem dX5_text_20 : decode cX5_text 20 = .ok (.aload_n 0, 1) := by decide +kernel
theorem dX5_text_21 : decode cX5_text 21 = .ok (.iconst 0, 1) := by decide +kernel
theorem dX5_text_22 : decode cX5_text 22 = .ok (.putfield 65, 3) := by decide +kernel
theorem dX5_text_25 : decode cX5_text 25 = .ok (.aload_n 0, 1) := by decide +kernel
theorem dX5_text_26 : decode cX5_text 26 = .ok (.aload_n 0, 1) := by decide +kernel
theorem dX5_text_27 : decode cX5_text 27 = .ok (.getfield 43, 3) := by decide +kernel
theorem dX5_text_30 : decode cX5_text 30 = .ok (.getfield 73, 3) := by decide +kernel
theorem dX5_text_33 : decode cX5_text 33 = .ok (.putfield 76, 3) := by decide +kernel
theorem dX5_text_36 : decode cX5_text 36 = .ok (.aload_n 0, 1) := by decide +kernel
theorem dX5_text_37 : decode cX5_text 37 = .ok (.getfield 76, 3) := by decide +kernel
theorem dX5_text_40 : decode cX5_text 40 = .ok (.ifCond .eq 14, 3) := by decide +kernel
theorem dX5_text_43 : decode cX5_text 43 = .ok (.bipush (-10), 2) := by decide +kernel
theorem dX5_text_45 : decode cX5_text 45 = .ok (.aload_n 0, 1) := by decide +kernel
theorem dX5_text_46 : decode cX5_text 46 = .ok (.getfield 43, 3) := by decide +kernel
theorem dX5_text_49 : decode cX5_text 49 = .ok (.getfield 79, 3) := by decide +kernel
theorem dX5_text_52 : decode cX5_text 52 = .ok (.isub, 1) := by decide +kernel
theorem dX5_text_53 : decode cX5_text 53 = .ok (.ireturn, 1) := by decide +kernel
theorem dX5_text_54 : decode cX5_text 54 = .ok (.aload_n 0, 1) := by decide +kernel
theorem dX5_text_55 : decode cX5_text 55 = .ok (.getfield 10, 3) := by decide +kernel
theorem dX5_text_58 : decode cX5_text 58 = .ok (.aload_n 0, 1) := by decide +kernel
theorem dX5_text_59 : decode cX5_text 59 = .ok (.getfield 23, 3) := by decide +kernel
theorem dX5_text_62 : decode cX5_text 62 = .ok (.invokevirtual 82, 3) := by decide +kernel
theorem dX5_text_65 : decode cX5_text 65 = .ok (.aload_n 0, 1) := by decide +kernel
theorem dX5_text_66 : decode cX5_text 66 = .ok (.getfield 19, 3) := by decide +kernel
theorem dX5_text_69 : decode cX5_text 69 = .ok (.iconst 0, 1) := by decide +kernel
theorem dX5_text_70 : decode cX5_text 70 = .ok (.putfield 86, 3) := by decide +kernel
theorem dX5_text_73 : decode cX5_text 73 = .ok (.iconst 0, 1) := by decide +kernel
theorem dX5_text_74 : decode cX5_text 74 = .ok (.istore_n 2, 1) := by decide +kernel
theorem dX5_text_75 : decode cX5_text 75 = .ok (.iload_n 2, 1) := by decide +kernel
theorem dX5_text_76 : decode cX5_text 76 = .ok (.iconst 2, 1) := by decide +kernel
theorem dX5_text_77 : decode cX5_text 77 = .ok (.if_icmp .ge 19, 3) := by decide +kernel
theorem dX5_text_80 : decode cX5_text 80 = .ok (.aload_n 0, 1) := by decide +kernel
theorem dX5_text_81 : decode cX5_text 81 = .ok (.getfield 49, 3) := by decide +kernel
theorem dX5_text_84 : decode cX5_text 84 = .ok (.iload_n 2, 1) := by decide +kernel
theorem dX5_text_85 : decode cX5_text 85 = .ok (.aaload, 1) := by decide +kernel
theorem dX5_text_86 : decode cX5_text 86 = .ok (.iconst 0, 1) := by decide +kernel
theorem dX5_text_87 : decode cX5_text 87 = .ok (.putfield 89, 3) := by decide +kernel
theorem dX5_text_90 : decode cX5_text 90 = .ok (.iinc 2 1, 3) := by decide +kernel
theorem dX5_text_93 : decode cX5_text 93 = .ok (.goto (-18), 3) := by decide +kernel
theorem dX5_text_96 : decode cX5_text 96 = .ok (.iload_n 1, 1) := by decide +kernel
theorem dX5_text_97 : decode cX5_text 97 = .ok (.ireturn, 1) := by decide +kernel
abbrev rmX5_text : Room := { frames := 8, cells := 0, slots := 0, locals := 172 }
def opX5_text (po : Int32 → px_St → Prop) : List (Nat × px_Op) := [
  (0, px_al 1 0),
  (1, px_get dC 4 5 7),
  (4, px_al 5 0),
  (5, px_get dC 8 5 6),
  (8, px_al 9 0),
  (9, px_get dC 12 5 10),
  (12, px_al 13 0),
  (13, px_get dC 16 5 2),
  (16, px_callV dC 19 4 3 px_vI prX4_readText poX4_readText),
  (19, px_is 20 1),
  (20, px_al 21 0),
  (21, px_push 22 (.int 0)),
  (22, px_put dC 25 5 10 .int),
  (25, px_al 26 0),
  (26, px_al 27 0),
  (27, px_get dC 30 5 7),
  (30, px_get dC 33 4 4),
  (33, px_put dC 36 5 11 .int),
  (36, px_al 37 0),
  (37, px_get dC 40 5 11),
  (40, px_if 43 54 (fun x => x = 0)),
  (43, px_push 45 (.int (-10))),
  (45, px_al 46 0),
  (46, px_get dC 49 5 7),
  (49, px_get dC 52 4 6),
  (52, px_bin 53 (fun x y => x - y)),
  (53, px_iret (.int) po),
  (54, px_al 55 0),
  (55, px_get dC 58 5 0),
  (58, px_al 59 0),
  (59, px_get dC 62 5 2),
  (62, px_callV dC 65 0 1 px_vV prX0_becomes poX0_becomes),
  (65, px_al 66 0),
  (66, px_get dC 69 5 1),
  (69, px_push 70 (.int 0)),
  (70, px_put dC 73 2 0 .int),
  (73, px_push 74 (.int 0)),
  (74, px_is 75 2),
  (75, px_il 76 2),
  (76, px_push 77 (.int 2)),
  (77, px_ic 80 96 (fun x y => y ≤ x)),
  (80, px_al 81 0),
  (81, px_get dC 84 5 8),
  (84, px_il 85 2),
  (85, px_aald dC 86 3),
  (86, px_push 87 (.int 0)),
  (87, px_put dC 90 1 0 .boolean),
  (90, px_inc 93 2 1),
  (93, px_go 75),
  (96, px_il 97 1),
  (97, px_iret (.int) po)]
set_option maxRecDepth 100000 in
set_option maxHeartbeats 4000000 in
theorem okX5_text : ∀ (po : Int32 → px_St → Prop) (i pc : Nat) (op : px_Op), (opX5_text po)[i]? = some (pc, op) → px_Snd (cX5_text, 3, RX5, Cond.code yX5_text cX5_text 3 (some .int) :: wdC, (some .int), rmX5_text, dC) px_vI po pc op := by
  intro po
  unfold opX5_text
  refine px_ok_cons (ps_aload_n dX5_text_0 rfl) ?_
  refine px_ok_cons (fgX5_43 dX5_text_1) ?_
  refine px_ok_cons (ps_aload_n dX5_text_4 rfl) ?_
  refine px_ok_cons (fgX5_36 dX5_text_5) ?_
  refine px_ok_cons (ps_aload_n dX5_text_8 rfl) ?_
  refine px_ok_cons (fgX5_65 dX5_text_9) ?_
  refine px_ok_cons (ps_aload_n dX5_text_12 rfl) ?_
  refine px_ok_cons (fgX5_23 dX5_text_13) ?_
  refine px_ok_cons (ps_callV mX4_readText (fun _ _ => rfl) (C := RX4) rfl (fun _ _ ht => px_cwV wgC (wdC_6_in _ (List.mem_of_getElem? (i := 15) rfl)) (wdC_6_in _ (List.mem_of_getElem? (i := 16) rfl)) (wdC_6_in _ (List.mem_of_getElem? (i := 17) rfl)) (wdC_2_in _ (List.mem_of_getElem? (i := 35) rfl)) (wdC_5_in _ (List.mem_of_getElem? (i := 21) rfl)) (by decide +kernel) rfl rfl (by decide) ht) dX5_text_16) ?_
  refine px_ok_cons (ps_istore_n dX5_text_19 rfl (by decide)) ?_
  refine px_ok_cons (ps_aload_n dX5_text_20 rfl) ?_
  refine px_ok_cons (ps_iconst dX5_text_21 (by decide)) ?_
  refine px_ok_cons (fpX5_65 dX5_text_22) ?_
  refine px_ok_cons (ps_aload_n dX5_text_25 rfl) ?_
  refine px_ok_cons (ps_aload_n dX5_text_26 rfl) ?_
  refine px_ok_cons (fgX5_43 dX5_text_27) ?_
  refine px_ok_cons (fgX5_73 dX5_text_30) ?_
  refine px_ok_cons (fpX5_76 dX5_text_33) ?_
  refine px_ok_cons (ps_aload_n dX5_text_36 rfl) ?_
  refine px_ok_cons (fgX5_76 dX5_text_37) ?_
  refine px_ok_cons (ps_if_eq dX5_text_40 (by decide)) ?_
  refine px_ok_cons (ps_bipush dX5_text_43 (by decide)) ?_
  refine px_ok_cons (ps_aload_n dX5_text_45 rfl) ?_
  refine px_ok_cons (fgX5_43 dX5_text_46) ?_
  refine px_ok_cons (fgX5_79 dX5_text_49) ?_
  refine px_ok_cons (ps_isub dX5_text_52) ?_
  refine px_ok_cons (ps_ireturn rfl dX5_text_53) ?_
  refine px_ok_cons (ps_aload_n dX5_text_54 rfl) ?_
  refine px_ok_cons (fgX5_10 dX5_text_55) ?_
  refine px_ok_cons (ps_aload_n dX5_text_58 rfl) ?_
  refine px_ok_cons (fgX5_23 dX5_text_59) ?_
  refine px_ok_cons (ps_callV mX0_becomes (fun _ _ => rfl) (C := RX0) rfl (fun _ _ ht => px_cwV wgC (wdC_6_in _ (List.mem_of_getElem? (i := 18) rfl)) (wdC_6_in _ (List.mem_of_getElem? (i := 19) rfl)) (wdC_6_in _ (List.mem_of_getElem? (i := 20) rfl)) (wdC_0_in _ (List.mem_of_getElem? (i := 22) rfl)) (wdC_0_in _ (List.mem_of_getElem? (i := 18) rfl)) (by decide +kernel) rfl rfl (by decide) ht) dX5_text_62) ?_
  refine px_ok_cons (ps_aload_n dX5_text_65 rfl) ?_
  refine px_ok_cons (fgX5_19 dX5_text_66) ?_
  refine px_ok_cons (ps_iconst dX5_text_69 (by decide)) ?_
  refine px_ok_cons (fpX5_86 dX5_text_70) ?_
  refine px_ok_cons (ps_iconst dX5_text_73 (by decide)) ?_
  refine px_ok_cons (ps_istore_n dX5_text_74 rfl (by decide)) ?_
  refine px_ok_cons (ps_iload_n dX5_text_75 rfl) ?_
  refine px_ok_cons (ps_iconst dX5_text_76 (by decide)) ?_
  refine px_ok_cons (ps_icmp_ge dX5_text_77 (by decide)) ?_
  refine px_ok_cons (ps_aload_n dX5_text_80 rfl) ?_
  refine px_ok_cons (fgX5_49 dX5_text_81) ?_
  refine px_ok_cons (ps_iload_n dX5_text_84 rfl) ?_
  refine px_ok_cons (ps_aaload3 dX5_text_85) ?_
  refine px_ok_cons (ps_iconst dX5_text_86 (by decide)) ?_
  refine px_ok_cons (fpX5_89 dX5_text_87) ?_
  refine px_ok_cons (ps_iinc dX5_text_90 (by decide) (by decide)) ?_
  refine px_ok_cons (ps_goto dX5_text_93 (by decide)) ?_
  refine px_ok_cons (ps_iload_n dX5_text_96 rfl) ?_
  refine px_ok_cons (ps_ireturn rfl dX5_text_97) ?_
  exact px_ok_nil
set_option maxRecDepth 100000 in
set_option maxHeartbeats 4000000 in
theorem sgX5_text_0 {po : Int32 → px_St → Prop} {G : px_K} (hG : px_cl (opX5_text po) G) (σ : px_St)
    (H : ∃ g3 : gtX4_readText, qrX4_readText g3 (σ.1 0 10) σ ∧ ∀ (r1 : Int32) (σ2 : px_St), qoX4_readText g3 (σ.1 0 10) σ r1 σ2 → ((((px_up (px_up σ2 0 10 (0 : Int32)) 0 11 ((px_up σ2 0 10 (0 : Int32)).1 4 4)).1 0 11) = 0) → ∃ g7 : gtX0_becomes, qrX0_becomes g7 8 13 (px_up (px_up σ2 0 10 (0 : Int32)) 0 11 ((px_up σ2 0 10 (0 : Int32)).1 4 4)) ∧ ∀ (r5 : Unit) (σ6 : px_St), qoX0_becomes g7 8 13 (px_up (px_up σ2 0 10 (0 : Int32)) 0 11 ((px_up σ2 0 10 (0 : Int32)).1 4 4)) r5 σ6 → G 75 [some (.ref 0), some (.int r1), some (.int (0 : Int32))] [] (px_up σ6 38 0 (0 : Int32))) ∧ (¬ (((px_up (px_up σ2 0 10 (0 : Int32)) 0 11 ((px_up σ2 0 10 (0 : Int32)).1 4 4)).1 0 11) = 0) → po ((-10 : Int32) - ((px_up (px_up σ2 0 10 (0 : Int32)) 0 11 ((px_up σ2 0 10 (0 : Int32)).1 4 4)).1 4 6)) (px_up (px_up σ2 0 10 (0 : Int32)) 0 11 ((px_up σ2 0 10 (0 : Int32)).1 4 4)))) :
    G 0 (px_ent 3 [.ref 0]) [] σ := by
  refine hG.1 0 _ _ rfl _ _ _ ?_
  refine hG.1 1 _ _ rfl _ _ _ ?_
  refine ⟨⟨rfl, by decide⟩, ?_⟩
  refine hG.1 2 _ _ rfl _ _ _ ?_
  refine hG.1 3 _ _ rfl _ _ _ ?_
  refine ⟨⟨rfl, by decide⟩, ?_⟩
  refine hG.1 4 _ _ rfl _ _ _ ?_
  refine hG.1 5 _ _ rfl _ _ _ ?_
  refine ⟨⟨rfl, by decide⟩, ?_⟩
  refine hG.1 6 _ _ rfl _ _ _ ?_
  refine hG.1 7 _ _ rfl _ _ _ ?_
  refine ⟨⟨rfl, by decide⟩, ?_⟩
  refine hG.1 8 _ _ rfl _ _ _ ?_
  obtain ⟨g3, H⟩ := H
  refine ⟨⟨rfl, by decide⟩, Nat.le_of_ble_eq_true rfl, g3, ⟨_, rfl, H.1⟩, fun r1 σ2 hp4 => ?_⟩
  replace H := H.2 r1 σ2 hp4
  refine hG.1 9 _ _ rfl _ _ _ ?_
  show G 20 [some (.ref 0), some (.int r1), none] [] σ2
  refine hG.1 10 _ _ rfl _ _ _ ?_
  refine hG.1 11 _ _ rfl _ _ _ ?_
  refine hG.1 12 _ _ rfl _ _ _ ?_
  refine ⟨⟨rfl, by decide⟩, ⟨rfl, rfl⟩, ?_⟩
  refine hG.1 13 _ _ rfl _ _ _ ?_
  refine hG.1 14 _ _ rfl _ _ _ ?_
  refine hG.1 15 _ _ rfl _ _ _ ?_
  refine ⟨⟨rfl, by decide⟩, ?_⟩
  refine hG.1 16 _ _ rfl _ _ _ ?_
  refine ⟨⟨rfl, by decide⟩, ?_⟩
  refine hG.1 17 _ _ rfl _ _ _ ?_
  refine ⟨⟨rfl, by decide⟩, ⟨rfl, rfl⟩, ?_⟩
  refine hG.1 18 _ _ rfl _ _ _ ?_
  refine hG.1 19 _ _ rfl _ _ _ ?_
  refine ⟨⟨rfl, by decide⟩, ?_⟩
  refine hG.1 20 _ _ rfl _ _ _ ?_
  refine ⟨fun h9 => ?_, fun h9 => ?_⟩
  · replace H := H.1 h9
    refine hG.1 27 _ _ rfl _ _ _ ?_
    refine hG.1 28 _ _ rfl _ _ _ ?_
    refine ⟨⟨rfl, by decide⟩, ?_⟩
    refine hG.1 29 _ _ rfl _ _ _ ?_
    refine hG.1 30 _ _ rfl _ _ _ ?_
    refine ⟨⟨rfl, by decide⟩, ?_⟩
    refine hG.1 31 _ _ rfl _ _ _ ?_
    obtain ⟨g7, H⟩ := H
    refine ⟨⟨rfl, by decide⟩, Nat.le_of_ble_eq_true rfl, g7, ⟨_, _, rfl, (Or.inl rfl), (Or.inr (Or.inl rfl)), H.1⟩, fun r5 σ6 hp8 => ?_⟩
    replace H := H.2 r5 σ6 hp8
    refine hG.1 32 _ _ rfl _ _ _ ?_
    refine hG.1 33 _ _ rfl _ _ _ ?_
    refine ⟨⟨rfl, by decide⟩, ?_⟩
    refine hG.1 34 _ _ rfl _ _ _ ?_
    refine hG.1 35 _ _ rfl _ _ _ ?_
    refine ⟨⟨rfl, by decide⟩, ⟨rfl, rfl⟩, ?_⟩
    refine hG.1 36 _ _ rfl _ _ _ ?_
    refine hG.1 37 _ _ rfl _ _ _ ?_
    show G 75 [some (.ref 0), some (.int r1), some (.int (0 : Int32))] [] (px_up σ6 38 0 (0 : Int32))
    exact H
  · replace H := H.2 h9
    refine hG.1 21 _ _ rfl _ _ _ ?_
    refine hG.1 22 _ _ rfl _ _ _ ?_
    refine hG.1 23 _ _ rfl _ _ _ ?_
    refine ⟨⟨rfl, by decide⟩, ?_⟩
    refine hG.1 24 _ _ rfl _ _ _ ?_
    refine ⟨⟨rfl, by decide⟩, ?_⟩
    refine hG.1 25 _ _ rfl _ _ _ ?_
    refine hG.1 26 _ _ rfl _ _ _ ?_
    exact ⟨rfl, H⟩
set_option maxRecDepth 100000 in
set_option maxHeartbeats 4000000 in
theorem sgX5_text_75 {po : Int32 → px_St → Prop} {G : px_K} (hG : px_cl (opX5_text po) G) (v1 : Int32) (v2 : Int32) (σ : px_St)
    (H : (((2 : Int32) ≤ v2) → po v1 σ) ∧ (¬ ((2 : Int32) ≤ v2) → vp_in v2 2 ∧ G 75 [some (.ref 0), some (.int v1), some (.int (v2 + 1))] [] (px_up σ (dC.2.2.2 5 v2.toNatClampNeg) 0 (0 : Int32)))) :
    G 75 [some (.ref 0), some (.int v1), some (.int v2)] [] σ := by
  refine hG.1 38 _ _ rfl _ _ _ ?_
  refine hG.1 39 _ _ rfl _ _ _ ?_
  refine hG.1 40 _ _ rfl _ _ _ ?_
  refine ⟨fun h2 => ?_, fun h2 => ?_⟩
  · replace H := H.1 h2
    refine hG.1 49 _ _ rfl _ _ _ ?_
    refine hG.1 50 _ _ rfl _ _ _ ?_
    exact ⟨rfl, H⟩
  · replace H := H.2 h2
    refine hG.1 41 _ _ rfl _ _ _ ?_
    refine hG.1 42 _ _ rfl _ _ _ ?_
    refine ⟨⟨rfl, by decide⟩, ?_⟩
    refine hG.1 43 _ _ rfl _ _ _ ?_
    refine hG.1 44 _ _ rfl _ _ _ ?_
    have hz1 := im_of H.1
    refine ⟨⟨rfl, by decide⟩, H.1, ?_⟩
    replace H := H.2
    refine hG.1 45 _ _ rfl _ _ _ ?_
    refine hG.1 46 _ _ rfl _ _ _ ?_
    refine ⟨(im_s0 hz1), ⟨rfl, rfl⟩, ?_⟩
    refine hG.1 47 _ _ rfl _ _ _ ?_
    show G 93 [some (.ref 0), some (.int v1), some (.int (v2 + 1))] [] (px_up σ (dC.2.2.2 5 v2.toNatClampNeg) 0 (0 : Int32))
    refine hG.1 48 _ _ rfl _ _ _ ?_
    exact H
set_option maxRecDepth 100000 in
set_option maxHeartbeats 4000000 in
theorem hhX5_text (g : gtX5_text) (σ : px_St) (h : qrX5_text g σ) (G : px_K) (hG : px_cl (opX5_text (qoX5_text g σ)) G) : G 0 (px_ent 3 [.ref 0]) [] σ := by
  obtain ⟨hX, hok⟩ := h
  have hT : tx_ok g.2.2.1 := hok.2.2.1
  have htp := hX.2.2.1
  have hl := hT.1
  obtain ⟨R0, hR0⟩ : ∃ R0, R0 = pt_text g.2.2.1 := ⟨_, rfl⟩
  have hq : ∀ r σ', r = (x_text0 g R0).1 ∧ cl_is σ' (x_text0 g R0).2 → qoX5_text g σ r σ' := fun r σ' h => by
    rw [hR0] at h
    exact h
  have hgd := pt_text_good hT
  rw [← hR0] at hgd
  have ech : ∀ i, i < g.2.2.1.length → σ.1 3 i = nI (ch g.2.2.1 i) := fun i hi => by
    have h1 := htp.2 i _ (List.getElem?_eq_getElem hi)
    rw [h1]
    unfold ch
    rw [List.getD_eq_getElem?_getD, List.getElem?_eq_getElem hi]
    rfl
  refine sgX5_text_0 hG σ ⟨g.2.2.1, ⟨hT, htp.1, ech⟩, fun r1 σ2 h1 => ?_⟩
  obtain ⟨h2, h3⟩ := h1
  rw [← hR0] at h2
  obtain ⟨σA, eA⟩ : ∃ σA, σA = px_up (px_up σ2 0 10 0) 0 11 ((px_up σ2 0 10 0).1 4 4) := ⟨_, rfl⟩
  rw [← eA]
  have ek : ∀ k, k ≠ 0 → σA.1 k = σ2.1 k := fun k hk => by rw [eA, px_up_n hk, px_up_n hk]
  have e11 : σA.1 0 11 = σ2.1 4 4 := by rw [eA, px_up_at, if_pos ⟨rfl, rfl⟩, px_up_n (by omega)]
  have e10 : σA.1 0 10 = 0 := by rw [eA, px_up_at, if_neg (by omega), px_up_at, if_pos ⟨rfl, rfl⟩]
  have e12 : σA.1 0 12 = σ.1 0 12 := by rw [eA, px_up_at, if_neg (by omega), px_up_at, if_neg (by omega), h3 0 (by omega) (by omega)]
  have eo : ∀ k, k ≠ 0 → k ≠ 4 → (k < 13 ∨ 17 < k) → σA.1 k = σ.1 k := fun k a b c => (ek k a).trans (h3 k b c)
  rw [e11, ek 4 (by omega)]
  obtain ⟨x1, x2, x3, x4, x5, x6, x7⟩ := hX
  cases R0 with
  | inl f =>
    have h2 : σ2.1 4 4 = nI f.1 ∧ σ2.1 4 6 = nI f.2 := h2
    have hf : 1 ≤ f.1 ∧ f.1 ≤ 5 := hgd.1
    rw [h2.1, h2.2]
    refine ⟨fun q => absurd q (nI_ne0 (by omega) (by omega)), fun _ => hq _ _ ⟨rfl, ?_⟩⟩
    exact ⟨x1.kept (fun k a b => eo k (by omega) (by omega) (by omega)), x2.kept (fun k a b => eo k (by omega) (by omega) (by omega)), ⟨e10, fun i x hx => (noat hx).elim⟩, x4.kept (fun k a => eo k (by omega) (by omega) (by omega)), e11.trans h2.1, e12.trans x6, x7.kept (fun k a => eo k (by omega) (by omega) (by omega))⟩
  | inr w =>
    have h2 : σ2.1 4 4 = 0 ∧ r1 = nI w.2 ∧ av_is σ2 13 w.1 := h2
    have hw : pv_ok w.1 := hgd.1.1
    refine ⟨fun _ => ⟨w.1, ⟨by omega, h2.2.2.kept (fun k a b => ek k (by omega)), hw.1⟩, fun _ σ6 h6 => ?_⟩, fun q => absurd h2.1 q⟩
    obtain ⟨h7, h8⟩ := h6
    obtain ⟨σB, eB⟩ : ∃ σB, σB = px_up σ6 38 0 0 := ⟨_, rfl⟩
    rw [← eB]
    have kB : ∀ k, k ≠ 0 → k ≠ 4 → (k < 8 ∨ 17 < k) → k ≠ 38 → σB.1 k = σ.1 k := fun k a b c d => by rw [eB, px_up_n d, h8.1 k (by omega)]; exact eo k a b (by omega)
    have k0 : σB.1 0 = σA.1 0 := by rw [eB, px_up_n (by omega), h8.1 0 (by omega)]
    have k38 : σB.1 38 0 = 0 := by rw [eB, px_up_at, if_pos ⟨rfl, rfl⟩]
    have k8 : av_is σB 8 w.1 := h7.kept (fun k a b => by rw [eB, px_up_n (by omega)])
    have loop : ∀ n k, k + n = 2 → ∀ σ' : px_St, (∀ j, j < k → σ'.1 (47 + j) 0 = 0) → (∀ j, j ≠ 47 → j ≠ 48 → σ'.1 j = σB.1 j) → G 75 [some (.ref 0), some (.int r1), some (.int (nI k))] [] σ' := by
      intro n
      induction n with
      | zero =>
        intro k hk σ' h9 ho
        refine sgX5_text_75 hG _ _ σ' ⟨fun _ => hq _ _ ⟨h2.2.1, ?_⟩, fun q => absurd ((nIle 2 k rfl rfl (by omega) (by omega)).mpr (by omega)) q⟩
        have kk : ∀ k, k ≠ 0 → k ≠ 4 → (k < 8 ∨ 17 < k) → k ≠ 38 → k ≠ 47 → k ≠ 48 → σ'.1 k = σ.1 k := fun k a b c d e f => (ho k e f).trans (kB k a b c d)
        have z0 : σ'.1 0 = σA.1 0 := (ho 0 (by omega) (by omega)).trans k0
        refine ⟨k8.kept (fun k a b => ho k (by omega) (by omega)), ⟨by rw [ho 38 (by omega) (by omega)]; exact k38, fun i x hx => (noat hx).elim⟩, ⟨by rw [z0]; exact e10, fun i x hx => (noat hx).elim⟩, fun j hj => ⟨fun _ => h9 j (by omega), fun w hw => by cases hw⟩, by rw [z0, e11]; exact h2.1, by rw [z0, e12]; exact x6, x7.kept (fun k a => kk k (by omega) (by omega) (by omega) (by omega) (by omega) (by omega))⟩
      | succ n ih =>
        intro k hk σ' h9 ho
        refine sgX5_text_75 hG _ _ σ' ⟨fun q => absurd ((nIle 2 k rfl rfl (by omega) (by omega)).mp q) (by omega), fun _ => ⟨vp_in_nI (by omega) (by decide), ?_⟩⟩
        rw [im_id (by omega), show nI k + 1 = nI (k + 1) from nI_1 _]
        refine ih (k + 1) (by omega) _ (fun j hj => ?_) (fun j a b => ?_)
        · by_cases hjk : j = k
          · rw [hjk, px_up_at, if_pos ⟨rfl, rfl⟩]
          · rw [px_up_n (by omega)]; exact h9 j (by omega)
        · rw [px_up_n (by omega)]; exact ho j a b
    exact loop 2 0 rfl σB (fun j hj => absurd hj (Nat.not_lt_zero j)) (fun _ _ _ => rfl)
theorem mX5_text (g : gtX5_text) : px_Met dC yX5_text (Cond.code yX5_text cX5_text 3 (some .int) :: wdC) rmX5_text px_vI (prX5_text g) (poX5_text g) :=
  px_met (Z := (cX5_text, 3, RX5, Cond.code yX5_text cX5_text 3 (some .int) :: wdC, (some .int), rmX5_text, dC)) opX5_text (by decide) rfl rfl okX5_text (fun As σ h => by obtain ⟨rfl, h⟩ := h; exact Nat.le_of_ble_eq_true rfl) (fun As σ h G hG => by obtain ⟨rfl, h⟩ := h; exact hhX5_text g σ h G hG)
