/-- 'now' is f, all else is as it was -/
def mn_in (σ σ' : px_St) (f : Nat → Int32) : Prop := (∀ k, k ≠ 2 → σ'.1 k = σ.1 k) ∧ σ'.2 = σ.2 ∧ ∀ j, σ'.1 2 j = f j
theorem mn_in.rf {σ : px_St} : mn_in σ σ (σ.1 2) := ⟨fun _ _ => rfl, rfl, fun _ => rfl⟩
theorem mn_in.cg {σ σ' : px_St} {f f' : Nat → Int32} (h : mn_in σ σ' f) (e : ∀ j, f j = f' j) : mn_in σ σ' f' := ⟨h.1, h.2.1, fun j => (h.2.2 j).trans (e j)⟩
theorem mn_in.up {σ σ' : px_St} {f : Nat → Int32} (h : mn_in σ σ' f) (j : Nat) (x : Int32) : mn_in σ (px_up σ' 2 j x) (fun i => if i = j then x else f i) := by
  refine ⟨fun k hk => by rw [px_up_n hk]; exact h.1 k hk, h.2.1, fun i => ?_⟩
  rw [px_up_at]
  by_cases hi : i = j
  · rw [if_pos ⟨rfl, hi⟩]; exact (if_pos hi).symm
  · rw [if_neg (fun z => hi z.2)]; exact (h.2.2 i).trans (if_neg hi).symm
theorem mn_in.only {σ σ' : px_St} {f : Nat → Int32} (h : mn_in σ σ' f) (e : ∀ j, 48 ≤ j → f j = σ.1 2 j) : mn_only σ σ' := ⟨h.1, h.2.1, fun j hj => (h.2.2 j).trans (e j hj)⟩
abbrev gtX6_growsBehind : Type := pv_V × Nat × Nat
def qrX6_growsBehind : gtX6_growsBehind → Int32 → Int32 → px_St → Prop
  | (V, p, s), v1, v2, σ => mv_is (σ.1 2) V ∧ pv_w V ∧ p < V.1 ∧ v1 = nI p ∧ v2 = nI s
def qoX6_growsBehind : gtX6_growsBehind → Int32 → Int32 → px_St → Unit → px_St → Prop
  | (V, p, s), _, _, σ, _, σ' => mv_is (σ'.1 2) (pv_at V p ((V.2.2.2 p).1, (V.2.2.2 p).2.1, pv_put (V.2.2.2 p).2.2 s)) ∧ mn_only σ σ'
def prX6_growsBehind (g : gtX6_growsBehind) : List Value → px_St → Prop := fun As σ => ∃ v1 : Int32, ∃ v2 : Int32, As = [.ref 0, .int v1, .int v2] ∧ qrX6_growsBehind g v1 v2 σ
def poX6_growsBehind (g : gtX6_growsBehind) : List Value → px_St → Unit → px_St → Prop
  | [.ref _, .int v1, .int v2], σ, r, σ' => qoX6_growsBehind g v1 v2 σ r σ'
  | _, _, _, _ => False
theorem dX6_growsBehind_0 : decode cX6_growsBehind 0 = .ok (.aload_n 0, 1) := by decide +kernel
theorem dX6_growsBehind_1 : decode cX6_growsBehind 1 = .ok (.iload_n 1, 1) := by decide +kernel
theorem dX6_growsBehind_2 : decode cX6_growsBehind 2 = .ok (.iconst 1, 1) := by decide +kernel
theorem dX6_growsBehind_3 : decode cX6_growsBehind 3 = .ok (.invokevirtual 130, 3) := by decide +kernel
theorem dX6_growsBehind_6 : decode cX6_growsBehind 6 = .ok (.bipush 6, 2) := by decide +kernel
theorem dX6_growsBehind_8 : decode cX6_growsBehind 8 = .ok (.if_icmp .ne 41, 3) := by decide +kernel
theorem dX6_growsBehind_11 : decode cX6_growsBehind 11 = .ok (.iconst 0, 1) := by decide +kernel
theorem dX6_growsBehind_12 : decode cX6_growsBehind 12 = .ok (.istore_n 3, 1) := by decide +kernel
theorem dX6_growsBehind_13 : decode cX6_growsBehind 13 = .ok (.iload_n 3, 1) := by decide +kernel
theorem dX6_growsBehind_14 : decode cX6_growsBehind 14 = .ok (.iconst 5, 1) := by decide +kernel
theorem dX6_growsBehind_15 : decode cX6_growsBehind 15 = .ok (.if_icmp .ge 27, 3) := by decide +kernel
theorem dX6_growsBehind_18 : decode cX6_growsBehind 18 = .ok (.aload_n 0, 1) := by decide +kernel
theorem dX6_growsBehind_19 : decode cX6_growsBehind 19 = .ok (.iload_n 1, 1) := by decide +kernel
theorem dX6_growsBehind_20 : decode cX6_growsBehind 20 = .ok (.iconst 3, 1) := by decide +kernel
theorem dX6_growsBehind_21 : decode cX6_growsBehind 21 = .ok (.iload_n 3, 1) := by decide +kernel
theorem dX6_growsBehind_22 : decode cX6_growsBehind 22 = .ok (.iadd, 1) := by decide +kernel
theorem dX6_growsBehind_23 : decode cX6_growsBehind 23 = .ok (.aload_n 0, 1) := by decide +kernel
theorem dX6_growsBehind_24 : decode cX6_growsBehind 24 = .ok (.iload_n 1, 1) := by decide +kernel
theorem dX6_growsBehind_25 : decode cX6_growsBehind 25 = .ok (.iconst 3, 1) := by decide +kernel
theorem dX6_growsBehind_26 : decode cX6_growsBehind 26 = .ok (.iload_n 3, 1) := by decide +kernel
theorem dX6_growsBehind_27 : decode cX6_growsBehind 27 = .ok (.iadd, 1) := by decide +kernel
theorem dX6_growsBehind_28 : decode cX6_growsBehind 28 = .ok (.iconst 1, 1) := by decide +kernel
theorem dX6_growsBehind_29 : decode cX6_growsBehind 29 = .ok (.iadd, 1) := by decide +kernel
theorem dX6_growsBehind_30 : decode cX6_growsBehind 30 = .ok (.invokevirtual 130, 3) := by decide +kernel
theorem dX6_growsBehind_33 : decode cX6_growsBehind 33 = .ok (.invokevirtual 133, 3) := by decide +kernel
theorem dX6_growsBehind_36 : decode cX6_growsBehind 36 = .ok (.iinc 3 1, 3) := by decide +kernel
theorem dX6_growsBehind_39 : decode cX6_growsBehind 39 = .ok (.goto (-26), 3) := by decide +kernel
theorem dX6_growsBehind_42 : decode cX6_growsBehind 42 = .ok (.aload_n 0, 1) := by decide +kernel
theorem dX6_growsBehind_43 : decode cX6_growsBehind 43 = .ok (.iload_n 1, 1) := by decide +kernel
theorem dX6_growsBehind_44 : decode cX6_growsBehind 44 = .ok (.iconst 1, 1) := by decide +kernel
theorem dX6_growsBehind_45 : decode cX6_growsBehind 45 = .ok (.iconst 5, 1) := by decide +kernel
theorem dX6_growsBehind_46 : decode cX6_growsBehind 46 = .ok (.invokevirtual 133, 3) := by decide +kernel
theorem dX6_growsBehind_49 : decode cX6_growsBehind 49 = .ok (.aload_n 0, 1) := by decide +kernel
theorem dX6_growsBehind_50 : decode cX6_growsBehind 50 = .ok (.iload_n 1, 1) := by decide +kernel
theorem dX6_growsBehind_51 : decode cX6_growsBehind 51 = .ok (.iconst 3, 1) := by decide +kernel
theorem dX6_growsBehind_52 : decode cX6_growsBehind 52 = .ok (.aload_n 0, 1) := by decide +kernel
theorem dX6_growsBehind_53 : decode cX6_growsBehind 53 = .ok (.iload_n 1, 1) := by decide +kernel
theorem dX6_growsBehind_54 : decode cX6_growsBehind 54 = .ok (.iconst 1, 1) := by decide +kernel
theorem dX6_growsBehind_55 : decode cX6_growsBehind 55 = .ok (.invokevirtual 130, 3) := by decide +kernel
theorem dX6_growsBehind_58 : decode cX6_growsBehind 58 = .ok (.iadd, 1) := by decide +kernel
theorem dX6_growsBehind_59 : decode cX6_growsBehind 59 = .ok (.iload_n 2, 1) := by decide +kernel
theorem dX6_growsBehind_60 : decode cX6_growsBehind 60 = .ok (.invokevirtual 133, 3) := by decide +kernel
theorem dX6_growsBehind_63 : decode cX6_growsBehind 63 = .ok (.aload_n 0, 1) := by decide +kernel
theorem dX6_growsBehind_64 : decode cX6_growsBehind 64 = .ok (.iload_n 1, 1) := by decide +kernel
theorem dX6_growsBehind_65 : decode cX6_growsBehind 65 = .ok (.iconst 1, 1) := by decide +kernel
theorem dX6_growsBehind_66 : decode cX6_growsBehind 66 = .ok (.aload_n 0, 1) := by decide +kernel
theorem dX6_growsBehind_67 : decode cX6_growsBehind 67 = .ok (.iload_n 1, 1) := by decide +kernel
theorem dX6_growsBehind_68 : decode cX6_growsBehind 68 = .ok (.iconst 1, 1) := by decide +kernel
theorem dX6_growsBehind_69 : decode cX6_growsBehind 69 = .ok (.invokevirtual 130, 3) := by decide +kernel
theorem dX6_growsBehind_72 : decode cX6_growsBehind 72 = .ok (.iconst 1, 1) := by decide +kernel
theorem dX6_growsBehind_73 : decode cX6_growsBehind 73 = .ok (.iadd, 1) := by decide +kernel
theorem dX6_growsBehind_74 : decode cX6_growsBehind 74 = .ok (.invokevirtual 133, 3) := by decide +kernel
theorem dX6_growsBehind_77 : decode cX6_growsBehind 77 = .ok (.return_, 1) := by decide +kernel
abbrev rmX6_growsBehind : Room := { frames := 1, cells := 0, slots := 0, locals := 23 }
def opX6_growsBehind (po : Unit → px_St → Prop) : List (Nat × px_Op) := [
  (0, px_al 1 0),
  (1, px_il 2 1),
  (2, px_push 3 (.int 1)),
  (3, px_callV dM 6 6 2 px_vI prX6_of poX6_of),
  (6, px_push 8 (.int 6)),
  (8, px_ic 11 49 (fun x y => ¬ x = y)),
  (11, px_push 12 (.int 0)),
  (12, px_is 13 3),
  (13, px_il 14 3),
  (14, px_push 15 (.int 5)),
  (15, px_ic 18 42 (fun x y => y ≤ x)),
  (18, px_al 19 0),
  (19, px_il 20 1),
  (20, px_push 21 (.int 3)),
  (21, px_il 22 3),
  (22, px_bin 23 (fun x y => x + y)),
  (23, px_al 24 0),
  (24, px_il 25 1),
  (25, px_push 26 (.int 3)),
  (26, px_il 27 3),
  (27, px_bin 28 (fun x y => x + y)),
  (28, px_push 29 (.int 1)),
  (29, px_bin 30 (fun x y => x + y)),
  (30, px_callV dM 33 6 2 px_vI prX6_of poX6_of),
  (33, px_callV dM 36 6 3 px_vV prX6_becomesOf poX6_becomesOf),
  (36, px_inc 39 3 1),
  (39, px_go 13),
  (42, px_al 43 0),
  (43, px_il 44 1),
  (44, px_push 45 (.int 1)),
  (45, px_push 46 (.int 5)),
  (46, px_callV dM 49 6 3 px_vV prX6_becomesOf poX6_becomesOf),
  (49, px_al 50 0),
  (50, px_il 51 1),
  (51, px_push 52 (.int 3)),
  (52, px_al 53 0),
  (53, px_il 54 1),
  (54, px_push 55 (.int 1)),
  (55, px_callV dM 58 6 2 px_vI prX6_of poX6_of),
  (58, px_bin 59 (fun x y => x + y)),
  (59, px_il 60 2),
  (60, px_callV dM 63 6 3 px_vV prX6_becomesOf poX6_becomesOf),
  (63, px_al 64 0),
  (64, px_il 65 1),
  (65, px_push 66 (.int 1)),
  (66, px_al 67 0),
  (67, px_il 68 1),
  (68, px_push 69 (.int 1)),
  (69, px_callV dM 72 6 2 px_vI prX6_of poX6_of),
  (72, px_push 73 (.int 1)),
  (73, px_bin 74 (fun x y => x + y)),
  (74, px_callV dM 77 6 3 px_vV prX6_becomesOf poX6_becomesOf),
  (77, px_vret po)]
set_option maxRecDepth 100000 in
set_option maxHeartbeats 4000000 in
theorem okX6_growsBehind : ∀ (po : Unit → px_St → Prop) (i pc : Nat) (op : px_Op), (opX6_growsBehind po)[i]? = some (pc, op) → px_Snd (cX6_growsBehind, 4, RX6, Cond.code yX6_growsBehind cX6_growsBehind 4 none :: wdM, none, rmX6_growsBehind, dM) px_vV po pc op := by
  intro po
  unfold opX6_growsBehind
  refine px_ok_cons (ps_aload_n dX6_growsBehind_0 rfl) ?_
  refine px_ok_cons (ps_iload_n dX6_growsBehind_1 rfl) ?_
  refine px_ok_cons (ps_iconst dX6_growsBehind_2 (by decide)) ?_
  refine px_ok_cons (ps_callV mX6_of (fun _ _ => rfl) (C := RX6) rfl (fun _ _ ht => px_cwV wgM (wdM_2_in _ (List.mem_of_getElem? (i := 16) rfl)) (wdM_2_in _ (List.mem_of_getElem? (i := 17) rfl)) (wdM_2_in _ (List.mem_of_getElem? (i := 18) rfl)) (wdM_0_in _ (List.mem_of_getElem? (i := 22) rfl)) (wdM_2_in _ (List.mem_of_getElem? (i := 13) rfl)) (by decide +kernel) rfl rfl (by decide) ht) dX6_growsBehind_3) ?_
  refine px_ok_cons (ps_bipush dX6_growsBehind_6 (by decide)) ?_
  refine px_ok_cons (ps_icmp_ne dX6_growsBehind_8 (by decide)) ?_
  refine px_ok_cons (ps_iconst dX6_growsBehind_11 (by decide)) ?_
  refine px_ok_cons (ps_istore_n dX6_growsBehind_12 rfl (by decide)) ?_
  refine px_ok_cons (ps_iload_n dX6_growsBehind_13 rfl) ?_
  refine px_ok_cons (ps_iconst dX6_growsBehind_14 (by decide)) ?_
  refine px_ok_cons (ps_icmp_ge dX6_growsBehind_15 (by decide)) ?_
  refine px_ok_cons (ps_aload_n dX6_growsBehind_18 rfl) ?_
  refine px_ok_cons (ps_iload_n dX6_growsBehind_19 rfl) ?_
  refine px_ok_cons (ps_iconst dX6_growsBehind_20 (by decide)) ?_
  refine px_ok_cons (ps_iload_n dX6_growsBehind_21 rfl) ?_
  refine px_ok_cons (ps_iadd dX6_growsBehind_22) ?_
  refine px_ok_cons (ps_aload_n dX6_growsBehind_23 rfl) ?_
  refine px_ok_cons (ps_iload_n dX6_growsBehind_24 rfl) ?_
  refine px_ok_cons (ps_iconst dX6_growsBehind_25 (by decide)) ?_
  refine px_ok_cons (ps_iload_n dX6_growsBehind_26 rfl) ?_
  refine px_ok_cons (ps_iadd dX6_growsBehind_27) ?_
  refine px_ok_cons (ps_iconst dX6_growsBehind_28 (by decide)) ?_
  refine px_ok_cons (ps_iadd dX6_growsBehind_29) ?_
  refine px_ok_cons (ps_callV mX6_of (fun _ _ => rfl) (C := RX6) rfl (fun _ _ ht => px_cwV wgM (wdM_2_in _ (List.mem_of_getElem? (i := 16) rfl)) (wdM_2_in _ (List.mem_of_getElem? (i := 17) rfl)) (wdM_2_in _ (List.mem_of_getElem? (i := 18) rfl)) (wdM_0_in _ (List.mem_of_getElem? (i := 22) rfl)) (wdM_2_in _ (List.mem_of_getElem? (i := 13) rfl)) (by decide +kernel) rfl rfl (by decide) ht) dX6_growsBehind_30) ?_
  refine px_ok_cons (ps_callV mX6_becomesOf (fun _ _ => rfl) (C := RX6) rfl (fun _ _ ht => px_cwV wgM (wdM_2_in _ (List.mem_of_getElem? (i := 21) rfl)) (wdM_2_in _ (List.mem_of_getElem? (i := 22) rfl)) (wdM_2_in _ (List.mem_of_getElem? (i := 23) rfl)) (wdM_0_in _ (List.mem_of_getElem? (i := 22) rfl)) (wdM_2_in _ (List.mem_of_getElem? (i := 14) rfl)) (by decide +kernel) rfl rfl (by decide) ht) dX6_growsBehind_33) ?_
  refine px_ok_cons (ps_iinc dX6_growsBehind_36 (by decide) (by decide)) ?_
  refine px_ok_cons (ps_goto dX6_growsBehind_39 (by decide)) ?_
  refine px_ok_cons (ps_aload_n dX6_growsBehind_42 rfl) ?_
  refine px_ok_cons (ps_iload_n dX6_growsBehind_43 rfl) ?_
  refine px_ok_cons (ps_iconst dX6_growsBehind_44 (by decide)) ?_
  refine px_ok_cons (ps_iconst dX6_growsBehind_45 (by decide)) ?_
  refine px_ok_cons (ps_callV mX6_becomesOf (fun _ _ => rfl) (C := RX6) rfl (fun _ _ ht => px_cwV wgM (wdM_2_in _ (List.mem_of_getElem? (i := 21) rfl)) (wdM_2_in _ (List.mem_of_getElem? (i := 22) rfl)) (wdM_2_in _ (List.mem_of_getElem? (i := 23) rfl)) (wdM_0_in _ (List.mem_of_getElem? (i := 22) rfl)) (wdM_2_in _ (List.mem_of_getElem? (i := 14) rfl)) (by decide +kernel) rfl rfl (by decide) ht) dX6_growsBehind_46) ?_
  refine px_ok_cons (ps_aload_n dX6_growsBehind_49 rfl) ?_
  refine px_ok_cons (ps_iload_n dX6_growsBehind_50 rfl) ?_
  refine px_ok_cons (ps_iconst dX6_growsBehind_51 (by decide)) ?_
  refine px_ok_cons (ps_aload_n dX6_growsBehind_52 rfl) ?_
  refine px_ok_cons (ps_iload_n dX6_growsBehind_53 rfl) ?_
  refine px_ok_cons (ps_iconst dX6_growsBehind_54 (by decide)) ?_
  refine px_ok_cons (ps_callV mX6_of (fun _ _ => rfl) (C := RX6) rfl (fun _ _ ht => px_cwV wgM (wdM_2_in _ (List.mem_of_getElem? (i := 16) rfl)) (wdM_2_in _ (List.mem_of_getElem? (i := 17) rfl)) (wdM_2_in _ (List.mem_of_getElem? (i := 18) rfl)) (wdM_0_in _ (List.mem_of_getElem? (i := 22) rfl)) (wdM_2_in _ (List.mem_of_getElem? (i := 13) rfl)) (by decide +kernel) rfl rfl (by decide) ht) dX6_growsBehind_55) ?_
  refine px_ok_cons (ps_iadd dX6_growsBehind_58) ?_
  refine px_ok_cons (ps_iload_n dX6_growsBehind_59 rfl) ?_
  refine px_ok_cons (ps_callV mX6_becomesOf (fun _ _ => rfl) (C := RX6) rfl (fun _ _ ht => px_cwV wgM (wdM_2_in _ (List.mem_of_getElem? (i := 21) rfl)) (wdM_2_in _ (List.mem_of_getElem? (i := 22) rfl)) (wdM_2_in _ (List.mem_of_getElem? (i := 23) rfl)) (wdM_0_in _ (List.mem_of_getElem? (i := 22) rfl)) (wdM_2_in _ (List.mem_of_getElem? (i := 14) rfl)) (by decide +kernel) rfl rfl (by decide) ht) dX6_growsBehind_60) ?_
  refine px_ok_cons (ps_aload_n dX6_growsBehind_63 rfl) ?_
  refine px_ok_cons (ps_iload_n dX6_growsBehind_64 rfl) ?_
  refine px_ok_cons (ps_iconst dX6_growsBehind_65 (by decide)) ?_
  refine px_ok_cons (ps_aload_n dX6_growsBehind_66 rfl) ?_
  refine px_ok_cons (ps_iload_n dX6_growsBehind_67 rfl) ?_
  refine px_ok_cons (ps_iconst dX6_growsBehind_68 (by decide)) ?_
  refine px_ok_cons (ps_callV mX6_of (fun _ _ => rfl) (C := RX6) rfl (fun _ _ ht => px_cwV wgM (wdM_2_in _ (List.mem_of_getElem? (i := 16) rfl)) (wdM_2_in _ (List.mem_of_getElem? (i := 17) rfl)) (wdM_2_in _ (List.mem_of_getElem? (i := 18) rfl)) (wdM_0_in _ (List.mem_of_getElem? (i := 22) rfl)) (wdM_2_in _ (List.mem_of_getElem? (i := 13) rfl)) (by decide +kernel) rfl rfl (by decide) ht) dX6_growsBehind_69) ?_
  refine px_ok_cons (ps_iconst dX6_growsBehind_72 (by decide)) ?_
  refine px_ok_cons (ps_iadd dX6_growsBehind_73) ?_
  refine px_ok_cons (ps_callV mX6_becomesOf (fun _ _ => rfl) (C := RX6) rfl (fun _ _ ht => px_cwV wgM (wdM_2_in _ (List.mem_of_getElem? (i := 21) rfl)) (wdM_2_in _ (List.mem_of_getElem? (i := 22) rfl)) (wdM_2_in _ (List.mem_of_getElem? (i := 23) rfl)) (wdM_0_in _ (List.mem_of_getElem? (i := 22) rfl)) (wdM_2_in _ (List.mem_of_getElem? (i := 14) rfl)) (by decide +kernel) rfl rfl (by decide) ht) dX6_growsBehind_74) ?_
  refine px_ok_cons (ps_return rfl dX6_growsBehind_77) ?_
  exact px_ok_nil
set_option maxRecDepth 100000 in
set_option maxHeartbeats 4000000 in
theorem sgX6_growsBehind_0 {po : Unit → px_St → Prop} {G : px_K} (hG : px_cl (opX6_growsBehind po) G) (v1 : Int32) (v2 : Int32) (σ : px_St)
    (H : ∃ g3 : gtX6_of, qrX6_of g3 v1 (1 : Int32) σ ∧ ∀ (r1 : Int32) (σ2 : px_St), qoX6_of g3 v1 (1 : Int32) σ r1 σ2 → ((¬ r1 = (6 : Int32)) → ∃ g7 : gtX6_of, qrX6_of g7 v1 (1 : Int32) σ2 ∧ ∀ (r5 : Int32) (σ6 : px_St), qoX6_of g7 v1 (1 : Int32) σ2 r5 σ6 → ∃ g11 : gtX6_becomesOf, qrX6_becomesOf g11 v1 ((3 : Int32) + r5) v2 σ6 ∧ ∀ (r9 : Unit) (σ10 : px_St), qoX6_becomesOf g11 v1 ((3 : Int32) + r5) v2 σ6 r9 σ10 → ∃ g15 : gtX6_of, qrX6_of g15 v1 (1 : Int32) σ10 ∧ ∀ (r13 : Int32) (σ14 : px_St), qoX6_of g15 v1 (1 : Int32) σ10 r13 σ14 → ∃ g19 : gtX6_becomesOf, qrX6_becomesOf g19 v1 (1 : Int32) (r13 + (1 : Int32)) σ14 ∧ ∀ (r17 : Unit) (σ18 : px_St), qoX6_becomesOf g19 v1 (1 : Int32) (r13 + (1 : Int32)) σ14 r17 σ18 → po () σ18) ∧ (¬ (¬ r1 = (6 : Int32)) → G 13 [some (.ref 0), some (.int v1), some (.int v2), some (.int (0 : Int32))] [] σ2)) :
    G 0 (px_ent 4 [.ref 0, .int v1, .int v2]) [] σ := by
  refine hG.1 0 _ _ rfl _ _ _ ?_
  refine hG.1 1 _ _ rfl _ _ _ ?_
  refine hG.1 2 _ _ rfl _ _ _ ?_
  refine hG.1 3 _ _ rfl _ _ _ ?_
  obtain ⟨g3, H⟩ := H
  refine ⟨⟨rfl, by decide⟩, Nat.le_of_ble_eq_true rfl, g3, ⟨_, _, rfl, H.1⟩, fun r1 σ2 hp4 => ?_⟩
  replace H := H.2 r1 σ2 hp4
  refine hG.1 4 _ _ rfl _ _ _ ?_
  refine hG.1 5 _ _ rfl _ _ _ ?_
  refine ⟨fun h21 => ?_, fun h21 => ?_⟩
  · replace H := H.1 h21
    refine hG.1 32 _ _ rfl _ _ _ ?_
    refine hG.1 33 _ _ rfl _ _ _ ?_
    refine hG.1 34 _ _ rfl _ _ _ ?_
    refine hG.1 35 _ _ rfl _ _ _ ?_
    refine hG.1 36 _ _ rfl _ _ _ ?_
    refine hG.1 37 _ _ rfl _ _ _ ?_
    refine hG.1 38 _ _ rfl _ _ _ ?_
    obtain ⟨g7, H⟩ := H
    refine ⟨⟨rfl, by decide⟩, Nat.le_of_ble_eq_true rfl, g7, ⟨_, _, rfl, H.1⟩, fun r5 σ6 hp8 => ?_⟩
    replace H := H.2 r5 σ6 hp8
    refine hG.1 39 _ _ rfl _ _ _ ?_
    refine hG.1 40 _ _ rfl _ _ _ ?_
    refine hG.1 41 _ _ rfl _ _ _ ?_
    obtain ⟨g11, H⟩ := H
    refine ⟨⟨rfl, by decide⟩, Nat.le_of_ble_eq_true rfl, g11, ⟨_, _, _, rfl, H.1⟩, fun r9 σ10 hp12 => ?_⟩
    replace H := H.2 r9 σ10 hp12
    refine hG.1 42 _ _ rfl _ _ _ ?_
    refine hG.1 43 _ _ rfl _ _ _ ?_
    refine hG.1 44 _ _ rfl _ _ _ ?_
    refine hG.1 45 _ _ rfl _ _ _ ?_
    refine hG.1 46 _ _ rfl _ _ _ ?_
    refine hG.1 47 _ _ rfl _ _ _ ?_
    refine hG.1 48 _ _ rfl _ _ _ ?_
    obtain ⟨g15, H⟩ := H
    refine ⟨⟨rfl, by decide⟩, Nat.le_of_ble_eq_true rfl, g15, ⟨_, _, rfl, H.1⟩, fun r13 σ14 hp16 => ?_⟩
    replace H := H.2 r13 σ14 hp16
    refine hG.1 49 _ _ rfl _ _ _ ?_
    refine hG.1 50 _ _ rfl _ _ _ ?_
    refine hG.1 51 _ _ rfl _ _ _ ?_
    obtain ⟨g19, H⟩ := H
    refine ⟨⟨rfl, by decide⟩, Nat.le_of_ble_eq_true rfl, g19, ⟨_, _, _, rfl, H.1⟩, fun r17 σ18 hp20 => ?_⟩
    replace H := H.2 r17 σ18 hp20
    refine hG.1 52 _ _ rfl _ _ _ ?_
    exact H
  · replace H := H.2 h21
    refine hG.1 6 _ _ rfl _ _ _ ?_
    refine hG.1 7 _ _ rfl _ _ _ ?_
    show G 13 [some (.ref 0), some (.int v1), some (.int v2), some (.int (0 : Int32))] [] σ2
    exact H
set_option maxRecDepth 100000 in
set_option maxHeartbeats 4000000 in
theorem sgX6_growsBehind_13 {po : Unit → px_St → Prop} {G : px_K} (hG : px_cl (opX6_growsBehind po) G) (v1 : Int32) (v2 : Int32) (v3 : Int32) (σ : px_St)
    (H : (((5 : Int32) ≤ v3) → ∃ g3 : gtX6_becomesOf, qrX6_becomesOf g3 v1 (1 : Int32) (5 : Int32) σ ∧ ∀ (r1 : Unit) (σ2 : px_St), qoX6_becomesOf g3 v1 (1 : Int32) (5 : Int32) σ r1 σ2 → ∃ g7 : gtX6_of, qrX6_of g7 v1 (1 : Int32) σ2 ∧ ∀ (r5 : Int32) (σ6 : px_St), qoX6_of g7 v1 (1 : Int32) σ2 r5 σ6 → ∃ g11 : gtX6_becomesOf, qrX6_becomesOf g11 v1 ((3 : Int32) + r5) v2 σ6 ∧ ∀ (r9 : Unit) (σ10 : px_St), qoX6_becomesOf g11 v1 ((3 : Int32) + r5) v2 σ6 r9 σ10 → ∃ g15 : gtX6_of, qrX6_of g15 v1 (1 : Int32) σ10 ∧ ∀ (r13 : Int32) (σ14 : px_St), qoX6_of g15 v1 (1 : Int32) σ10 r13 σ14 → ∃ g19 : gtX6_becomesOf, qrX6_becomesOf g19 v1 (1 : Int32) (r13 + (1 : Int32)) σ14 ∧ ∀ (r17 : Unit) (σ18 : px_St), qoX6_becomesOf g19 v1 (1 : Int32) (r13 + (1 : Int32)) σ14 r17 σ18 → po () σ18) ∧ (¬ ((5 : Int32) ≤ v3) → ∃ g23 : gtX6_of, qrX6_of g23 v1 (((3 : Int32) + v3) + (1 : Int32)) σ ∧ ∀ (r21 : Int32) (σ22 : px_St), qoX6_of g23 v1 (((3 : Int32) + v3) + (1 : Int32)) σ r21 σ22 → ∃ g27 : gtX6_becomesOf, qrX6_becomesOf g27 v1 ((3 : Int32) + v3) r21 σ22 ∧ ∀ (r25 : Unit) (σ26 : px_St), qoX6_becomesOf g27 v1 ((3 : Int32) + v3) r21 σ22 r25 σ26 → G 13 [some (.ref 0), some (.int v1), some (.int v2), some (.int (v3 + 1))] [] σ26)) :
    G 13 [some (.ref 0), some (.int v1), some (.int v2), some (.int v3)] [] σ := by
  refine hG.1 8 _ _ rfl _ _ _ ?_
  refine hG.1 9 _ _ rfl _ _ _ ?_
  refine hG.1 10 _ _ rfl _ _ _ ?_
  refine ⟨fun h29 => ?_, fun h29 => ?_⟩
  · replace H := H.1 h29
    refine hG.1 27 _ _ rfl _ _ _ ?_
    refine hG.1 28 _ _ rfl _ _ _ ?_
    refine hG.1 29 _ _ rfl _ _ _ ?_
    refine hG.1 30 _ _ rfl _ _ _ ?_
    refine hG.1 31 _ _ rfl _ _ _ ?_
    obtain ⟨g3, H⟩ := H
    refine ⟨⟨rfl, by decide⟩, Nat.le_of_ble_eq_true rfl, g3, ⟨_, _, _, rfl, H.1⟩, fun r1 σ2 hp4 => ?_⟩
    replace H := H.2 r1 σ2 hp4
    refine hG.1 32 _ _ rfl _ _ _ ?_
    refine hG.1 33 _ _ rfl _ _ _ ?_
    refine hG.1 34 _ _ rfl _ _ _ ?_
    refine hG.1 35 _ _ rfl _ _ _ ?_
    refine hG.1 36 _ _ rfl _ _ _ ?_
    refine hG.1 37 _ _ rfl _ _ _ ?_
    refine hG.1 38 _ _ rfl _ _ _ ?_
    obtain ⟨g7, H⟩ := H
    refine ⟨⟨rfl, by decide⟩, Nat.le_of_ble_eq_true rfl, g7, ⟨_, _, rfl, H.1⟩, fun r5 σ6 hp8 => ?_⟩
    replace H := H.2 r5 σ6 hp8
    refine hG.1 39 _ _ rfl _ _ _ ?_
    refine hG.1 40 _ _ rfl _ _ _ ?_
    refine hG.1 41 _ _ rfl _ _ _ ?_
    obtain ⟨g11, H⟩ := H
    refine ⟨⟨rfl, by decide⟩, Nat.le_of_ble_eq_true rfl, g11, ⟨_, _, _, rfl, H.1⟩, fun r9 σ10 hp12 => ?_⟩
    replace H := H.2 r9 σ10 hp12
    refine hG.1 42 _ _ rfl _ _ _ ?_
    refine hG.1 43 _ _ rfl _ _ _ ?_
    refine hG.1 44 _ _ rfl _ _ _ ?_
    refine hG.1 45 _ _ rfl _ _ _ ?_
    refine hG.1 46 _ _ rfl _ _ _ ?_
    refine hG.1 47 _ _ rfl _ _ _ ?_
    refine hG.1 48 _ _ rfl _ _ _ ?_
    obtain ⟨g15, H⟩ := H
    refine ⟨⟨rfl, by decide⟩, Nat.le_of_ble_eq_true rfl, g15, ⟨_, _, rfl, H.1⟩, fun r13 σ14 hp16 => ?_⟩
    replace H := H.2 r13 σ14 hp16
    refine hG.1 49 _ _ rfl _ _ _ ?_
    refine hG.1 50 _ _ rfl _ _ _ ?_
    refine hG.1 51 _ _ rfl _ _ _ ?_
    obtain ⟨g19, H⟩ := H
    refine ⟨⟨rfl, by decide⟩, Nat.le_of_ble_eq_true rfl, g19, ⟨_, _, _, rfl, H.1⟩, fun r17 σ18 hp20 => ?_⟩
    replace H := H.2 r17 σ18 hp20
    refine hG.1 52 _ _ rfl _ _ _ ?_
    exact H
  · replace H := H.2 h29
    refine hG.1 11 _ _ rfl _ _ _ ?_
    refine hG.1 12 _ _ rfl _ _ _ ?_
    refine hG.1 13 _ _ rfl _ _ _ ?_
    refine hG.1 14 _ _ rfl _ _ _ ?_
    refine hG.1 15 _ _ rfl _ _ _ ?_
    refine hG.1 16 _ _ rfl _ _ _ ?_
    refine hG.1 17 _ _ rfl _ _ _ ?_
    refine hG.1 18 _ _ rfl _ _ _ ?_
    refine hG.1 19 _ _ rfl _ _ _ ?_
    refine hG.1 20 _ _ rfl _ _ _ ?_
    refine hG.1 21 _ _ rfl _ _ _ ?_
    refine hG.1 22 _ _ rfl _ _ _ ?_
    refine hG.1 23 _ _ rfl _ _ _ ?_
    obtain ⟨g23, H⟩ := H
    refine ⟨⟨rfl, by decide⟩, Nat.le_of_ble_eq_true rfl, g23, ⟨_, _, rfl, H.1⟩, fun r21 σ22 hp24 => ?_⟩
    replace H := H.2 r21 σ22 hp24
    refine hG.1 24 _ _ rfl _ _ _ ?_
    obtain ⟨g27, H⟩ := H
    refine ⟨⟨rfl, by decide⟩, Nat.le_of_ble_eq_true rfl, g27, ⟨_, _, _, rfl, H.1⟩, fun r25 σ26 hp28 => ?_⟩
    replace H := H.2 r25 σ26 hp28
    refine hG.1 25 _ _ rfl _ _ _ ?_
    show G 39 [some (.ref 0), some (.int v1), some (.int v2), some (.int (v3 + 1))] [] σ26
    refine hG.1 26 _ _ rfl _ _ _ ?_
    exact H
set_option maxRecDepth 100000 in
set_option maxHeartbeats 4000000 in
theorem hhX6_growsBehind (g : gtX6_growsBehind) (v1 : Int32) (v2 : Int32) (σ : px_St) (h : qrX6_growsBehind g v1 v2 σ) (G : px_K) (hG : px_cl (opX6_growsBehind (qoX6_growsBehind g v1 v2 σ)) G) : G 0 (px_ent 4 [.ref 0, .int v1, .int v2]) [] σ := by
  obtain ⟨V, p, s⟩ := g
  obtain ⟨hV, hw, hp, rfl, rfl⟩ := h
  obtain ⟨hk3, hl, hx9⟩ := hw.2.2.2 p hp
  have h5 := hw.1
  obtain ⟨g1, g2, g3, g4⟩ := hV.2 p hp
  have o1 : ∀ τ, qrX6_of (9 * p + 1) (nI p) 1 τ := fun τ => ⟨by omega, ix9 p 1⟩
  have b1 : ∀ x τ, qrX6_becomesOf (9 * p + 1) (nI p) 1 x τ := fun x τ => ⟨by omega, ix9 p 1⟩
  refine sgX6_growsBehind_0 hG _ _ σ ⟨9 * p + 1, o1 σ, fun r σ2 hq => ?_⟩
  obtain ⟨rfl, rfl⟩ := hq
  rw [g2]
  have c6 : nI (V.2.2.2 p).2.2.length = 6 ↔ (V.2.2.2 p).2.2.length = 6 := nIe _ 6 rfl rfl (by omega) (by omega)
  rw [c6]
  refine ⟨fun h6 => ⟨9 * p + 1, o1 σ2, fun r σ3 hq => ?_⟩, fun h6 => ?_⟩
  · obtain ⟨rfl, rfl⟩ := hq
    rw [g2]
    have hl6 : (V.2.2.2 p).2.2.length < 6 := by omega
    refine ⟨9 * p + 3 + (V.2.2.2 p).2.2.length, ⟨by omega, ix93 p _⟩, fun _ σ4 hq => ?_⟩
    have e4 : σ4 = px_up σ3 2 (9 * p + 3 + (V.2.2.2 p).2.2.length) (nI s) := hq
    subst e4
    refine ⟨9 * p + 1, o1 _, fun r σ5 hq => ?_⟩
    obtain ⟨rfl, rfl⟩ := hq
    rw [px_up_at, if_neg (by omega), g2, nI_1]
    refine ⟨9 * p + 1, b1 _ _, fun _ σ6 hq => ?_⟩
    have e6 : σ6 = px_up (px_up σ3 2 (9 * p + 3 + (V.2.2.2 p).2.2.length) (nI s)) 2 (9 * p + 1) (nI ((V.2.2.2 p).2.2.length + 1)) := hq
    subst e6
    refine ⟨mv_mod hV (fun q hq => (hw.2.2.2 q hq).2.1) (by omega) (fun j hj => ?_) ⟨?_, ?_, ?_, fun i x hx => ?_⟩, (mn_only.up (by omega)).tr (mn_only.up (by omega))⟩
    · rw [px_up_at, if_neg (by omega), px_up_at, if_neg (by omega)]
    · rw [px_up_at, if_neg (by omega), px_up_at, if_neg (by omega)]; exact g1
    · rw [px_up_at, if_pos ⟨rfl, rfl⟩]
      simp [pv_put, hl6]
    · rw [px_up_at, if_neg (by omega), px_up_at, if_neg (by omega)]; exact g3
    · rw [px_up_at, if_neg (by omega), px_up_at]
      simp only [pv_put, if_pos hl6] at hx
      by_cases hi : i < (V.2.2.2 p).2.2.length
      · rw [List.getElem?_append_left hi] at hx
        rw [if_neg (by omega)]
        exact g4 i x hx
      · rw [List.getElem?_append_right (by omega)] at hx
        have h0 : i - (V.2.2.2 p).2.2.length < 1 := (List.getElem?_eq_some_iff.mp hx).1
        have hi2 : i = (V.2.2.2 p).2.2.length := by omega
        subst hi2
        rw [Nat.sub_self] at hx
        rw [if_pos ⟨rfl, rfl⟩, Option.some.inj hx]
  · have hl6 : (V.2.2.2 p).2.2.length = 6 := Classical.byContradiction h6
    have loop : ∀ n i, i + n = 5 → ∀ σ', mn_in σ2 σ' (fun j => if 9 * p + 3 ≤ j ∧ j < 9 * p + 3 + i then σ2.1 2 (j + 1) else σ2.1 2 j) →
        G 13 [some (.ref 0), some (.int (nI p)), some (.int (nI s)), some (.int (nI i))] [] σ' := by
      intro n
      induction n with
      | zero =>
        intro i hi σ' hI
        have h5i : i = 5 := by omega
        subst h5i
        refine sgX6_growsBehind_13 hG _ _ _ σ' ⟨fun _ => ⟨9 * p + 1, b1 _ _, fun _ σ3 hq => ?_⟩, fun z => absurd (by decide) z⟩
        have e3 : σ3 = px_up σ' 2 (9 * p + 1) 5 := hq
        subst e3
        refine ⟨9 * p + 1, o1 _, fun r σ4 hq => ?_⟩
        obtain ⟨rfl, rfl⟩ := hq
        rw [px_up_at, if_pos ⟨rfl, rfl⟩]
        refine ⟨9 * p + 3 + 5, ⟨by omega, ix93 p 5⟩, fun _ σ5 hq => ?_⟩
        have e5 : σ5 = px_up (px_up σ' 2 (9 * p + 1) 5) 2 (9 * p + 3 + 5) (nI s) := hq
        subst e5
        refine ⟨9 * p + 1, o1 _, fun r σ6 hq => ?_⟩
        obtain ⟨rfl, rfl⟩ := hq
        rw [px_up_at, if_neg (by omega), px_up_at, if_pos ⟨rfl, rfl⟩]
        refine ⟨9 * p + 1, b1 _ _, fun _ σ7 hq => ?_⟩
        have e7 : σ7 = px_up (px_up (px_up σ' 2 (9 * p + 1) 5) 2 (9 * p + 3 + 5) (nI s)) 2 (9 * p + 1) (5 + 1) := hq
        subst e7
        have hI3 := ((hI.up (9 * p + 1) 5).up (9 * p + 3 + 5) (nI s)).up (9 * p + 1) (5 + 1)
        have rd : ∀ j, (px_up (px_up (px_up σ' 2 (9 * p + 1) 5) 2 (9 * p + 3 + 5) (nI s)) 2 (9 * p + 1) (5 + 1)).1 2 j = if j = 9 * p + 1 then 5 + 1 else if j = 9 * p + 3 + 5 then nI s else if 9 * p + 3 ≤ j ∧ j < 9 * p + 3 + 5 then σ2.1 2 (j + 1) else σ2.1 2 j := by
          intro j
          refine (hI3.2.2 j).trans ?_
          by_cases h1 : j = 9 * p + 1
          · simp only [if_pos h1]
          · simp only [if_neg h1]
        have hpp : pv_put (V.2.2.2 p).2.2 s = (V.2.2.2 p).2.2.drop 1 ++ [s] := by unfold pv_put; rw [if_neg (by omega)]
        refine ⟨mv_mod hV (fun q hq => (hw.2.2.2 q hq).2.1) (by omega) (fun j hj => ?_) ⟨?_, ?_, ?_, fun i x hx => ?_⟩, hI3.1, hI3.2.1, fun j hj => ?_⟩
        · rw [rd, if_neg (by omega), if_neg (by omega), if_neg (by omega)]
        · rw [rd, if_neg (by omega), if_neg (by omega), if_neg (by omega)]; exact g1
        · rw [rd, if_pos rfl]
          show (5 + 1 : Int32) = nI (pv_put (V.2.2.2 p).2.2 s).length
          rw [hpp, List.length_append, List.length_drop, hl6]
          rfl
        · rw [rd, if_neg (by omega), if_neg (by omega), if_neg (by omega)]; exact g3
        · have hx2 : ((V.2.2.2 p).2.2.drop 1 ++ [s])[i]? = some x := by rw [← hpp]; exact hx
          rw [rd, if_neg (by omega)]
          by_cases hi5 : i < 5
          · rw [List.getElem?_append_left (by rw [List.length_drop]; omega), List.getElem?_drop] at hx2
            rw [if_neg (by omega), if_pos (by omega), show 9 * p + 3 + i + 1 = 9 * p + 3 + (1 + i) by omega]
            exact g4 _ x hx2
          · rw [List.getElem?_append_right (by rw [List.length_drop]; omega)] at hx2
            have h0 : i - (List.drop 1 (V.2.2.2 p).2.2).length < 1 := (List.getElem?_eq_some_iff.mp hx2).1
            rw [List.length_drop] at h0 hx2
            have hi2 : i = 5 := by omega
            subst hi2
            rw [hl6] at hx2
            rw [if_pos rfl, Option.some.inj hx2]
        · rw [rd, if_neg (by omega), if_neg (by omega), if_neg (by omega)]
      | succ n ih =>
        intro i hi σ' hI
        have e1 : (9 : Int32) * nI p + (3 + nI i + 1) = nI (9 * p + 3 + i + 1) := by
          rw [show (3 : Int32) + nI i + 1 = nI (3 + i + 1) by rw [show (3 : Int32) = nI 3 from rfl, nI_add, nI_1], ix9]
          congr 1
          omega
        refine sgX6_growsBehind_13 hG _ _ _ σ' ⟨fun z => absurd ((nIle 5 i rfl rfl (by omega) (by omega)).mp z) (by omega), fun _ => ⟨9 * p + 3 + i + 1, ⟨by omega, e1⟩, fun r σ3 hq => ?_⟩⟩
        obtain ⟨rfl, rfl⟩ := hq
        refine ⟨9 * p + 3 + i, ⟨by omega, ix93 p i⟩, fun _ σ4 hq => ?_⟩
        have e4 : σ4 = px_up σ3 2 (9 * p + 3 + i) (σ3.1 2 (9 * p + 3 + i + 1)) := hq
        subst e4
        rw [nI_1]
        refine ih (i + 1) (by omega) _ ((hI.up _ _).cg (fun j => ?_))
        by_cases hj : j = 9 * p + 3 + i
        · rw [if_pos hj, if_pos (by omega), (hI.2.2 _).trans (if_neg (by omega)), hj]
        · rw [if_neg hj]
          by_cases hc : 9 * p + 3 ≤ j ∧ j < 9 * p + 3 + i
          · rw [if_pos hc, if_pos (by omega)]
          · rw [if_neg hc, if_neg (by omega)]
    exact loop 5 0 rfl σ2 (mn_in.rf.cg (fun j => (if_neg (by omega)).symm))
theorem mX6_growsBehind (g : gtX6_growsBehind) : px_Met dM yX6_growsBehind (Cond.code yX6_growsBehind cX6_growsBehind 4 none :: wdM) rmX6_growsBehind px_vV (prX6_growsBehind g) (poX6_growsBehind g) :=
  px_met (Z := (cX6_growsBehind, 4, RX6, Cond.code yX6_growsBehind cX6_growsBehind 4 none :: wdM, none, rmX6_growsBehind, dM)) opX6_growsBehind (by decide) rfl rfl okX6_growsBehind (fun As σ h => by obtain ⟨v1, v2, rfl, h⟩ := h; exact Nat.le_of_ble_eq_true rfl) (fun As σ h G hG => by obtain ⟨v1, v2, rfl, h⟩ := h; exact hhX6_growsBehind g v1 v2 σ h G hG)
abbrev gtX6_growsAhead : Type := pv_V × Nat × Nat
def qrX6_growsAhead : gtX6_growsAhead → Int32 → Int32 → px_St → Prop
  | (V, p, s), v1, v2, σ => mv_is (σ.1 2) V ∧ pv_w V ∧ p < V.1 ∧ v1 = nI p ∧ v2 = nI s
def qoX6_growsAhead : gtX6_growsAhead → Int32 → Int32 → px_St → Unit → px_St → Prop
  | (V, p, s), _, _, σ, _, σ' => mv_is (σ'.1 2) (pv_at V p ((V.2.2.2 p).1, (V.2.2.2 p).2.1, pv_ahead (V.2.2.2 p).2.2 s)) ∧ mn_only σ σ'
def prX6_growsAhead (g : gtX6_growsAhead) : List Value → px_St → Prop := fun As σ => ∃ v1 : Int32, ∃ v2 : Int32, As = [.ref 0, .int v1, .int v2] ∧ qrX6_growsAhead g v1 v2 σ
def poX6_growsAhead (g : gtX6_growsAhead) : List Value → px_St → Unit → px_St → Prop
  | [.ref _, .int v1, .int v2], σ, r, σ' => qoX6_growsAhead g v1 v2 σ r σ'
  | _, _, _, _ => False
theorem dX6_growsAhead_0 : decode cX6_growsAhead 0 = .ok (.aload_n 0, 1) := by decide +kernel
theorem dX6_growsAhead_1 : decode cX6_growsAhead 1 = .ok (.iload_n 1, 1) := by decide +kernel
theorem dX6_growsAhead_2 : decode cX6_growsAhead 2 = .ok (.iconst 1, 1) := by decide +kernel
theorem dX6_growsAhead_3 : decode cX6_growsAhead 3 = .ok (.invokevirtual 130, 3) := by decide +kernel
theorem dX6_growsAhead_6 : decode cX6_growsAhead 6 = .ok (.bipush 6, 2) := by decide +kernel
theorem dX6_growsAhead_8 : decode cX6_growsAhead 8 = .ok (.if_icmp .ne 8, 3) := by decide +kernel
theorem dX6_growsAhead_11 : decode cX6_growsAhead 11 = .ok (.bipush 6, 2) := by decide +kernel
theorem dX6_growsAhead_13 : decode cX6_growsAhead 13 = .ok (.goto 11, 3) := by decide +kernel
theorem dX6_growsAhead_16 : decode cX6_growsAhead 16 = .ok (.aload_n 0, 1) := by decide +kernel
theorem dX6_growsAhead_17 : decode cX6_growsAhead 17 = .ok (.iload_n 1, 1) := by decide +kernel
theorem dX6_growsAhead_18 : decode cX6_growsAhead 18 = .ok (.iconst 1, 1) := by decide +kernel
theorem dX6_growsAhead_19 : decode cX6_growsAhead 19 = .ok (.invokevirtual 130, 3) := by decide +kernel
theorem dX6_growsAhead_22 : decode cX6_growsAhead 22 = .ok (.iconst 1, 1) := by decide +kernel
theorem dX6_growsAhead_23 : decode cX6_growsAhead 23 = .ok (.iadd, 1) := by decide +kernel
theorem dX6_growsAhead_24 : decode cX6_growsAhead 24 = .ok (.istore_n 3, 1) := by decide +kernel
theorem dX6_growsAhead_25 : decode cX6_growsAhead 25 = .ok (.iload_n 3, 1) := by decide +kernel
theorem dX6_growsAhead_26 : decode cX6_growsAhead 26 = .ok (.iconst 1, 1) := by decide +kernel
theorem dX6_growsAhead_27 : decode cX6_growsAhead 27 = .ok (.isub, 1) := by decide +kernel
theorem dX6_growsAhead_28 : decode cX6_growsAhead 28 = .ok (.istore 4, 2) := by decide +kernel
theorem dX6_growsAhead_30 : decode cX6_growsAhead 30 = .ok (.iload 4, 2) := by decide +kernel
theorem dX6_growsAhead_32 : decode cX6_growsAhead 32 = .ok (.ifCond .le 29, 3) := by decide +kernel
theorem dX6_growsAhead_35 : decode cX6_growsAhead 35 = .ok (.aload_n 0, 1) := by decide +kernel
theorem dX6_growsAhead_36 : decode cX6_growsAhead 36 = .ok (.iload_n 1, 1) := by decide +kernel
theorem dX6_growsAhead_37 : decode cX6_growsAhead 37 = .ok (.iconst 3, 1) := by decide +kernel
theorem dX6_growsAhead_38 : decode cX6_growsAhead 38 = .ok (.iload 4, 2) := by decide +kernel
theorem dX6_growsAhead_40 : decode cX6_growsAhead 40 = .ok (.iadd, 1) := by decide +kernel
theorem dX6_growsAhead_41 : decode cX6_growsAhead 41 = .ok (.aload_n 0, 1) := by decide +kernel
theorem dX6_growsAhead_42 : decode cX6_growsAhead 42 = .ok (.iload_n 1, 1) := by decide +kernel
theorem dX6_growsAhead_43 : decode cX6_growsAhead 43 = .ok (.iconst 3, 1) := by decide +kernel
theorem dX6_growsAhead_44 : decode cX6_growsAhead 44 = .ok (.iload 4, 2) := by decide +kernel
theorem dX6_growsAhead_46 : decode cX6_growsAhead 46 = .ok (.iadd, 1) := by decide +kernel
theorem dX6_growsAhead_47 : decode cX6_growsAhead 47 = .ok (.iconst 1, 1) := by decide +kernel
theorem dX6_growsAhead_48 : decode cX6_growsAhead 48 = .ok (.isub, 1) := by decide +kernel
theorem dX6_growsAhead_49 : decode cX6_growsAhead 49 = .ok (.invokevirtual 130, 3) := by decide +kernel
theorem dX6_growsAhead_52 : decode cX6_growsAhead 52 = .ok (.invokevirtual 133, 3) := by decide +kernel
theorem dX6_growsAhead_55 : decode cX6_growsAhead 55 = .ok (.iinc 4 (-1), 3) := by decide +kernel
theorem dX6_growsAhead_58 : decode cX6_growsAhead 58 = .ok (.goto (-28), 3) := by decide +kernel
theorem dX6_growsAhead_61 : decode cX6_growsAhead 61 = .ok (.aload_n 0, 1) := by decide +kernel
theorem dX6_growsAhead_62 : decode cX6_growsAhead 62 = .ok (.iload_n 1, 1) := by decide +kernel
theorem dX6_growsAhead_63 : decode cX6_growsAhead 63 = .ok (.iconst 3, 1) := by decide +kernel
theorem dX6_growsAhead_64 : decode cX6_growsAhead 64 = .ok (.iload_n 2, 1) := by decide +kernel
theorem dX6_growsAhead_65 : decode cX6_growsAhead 65 = .ok (.invokevirtual 133, 3) := by decide +kernel
theorem dX6_growsAhead_68 : decode cX6_growsAhead 68 = .ok (.aload_n 0, 1) := by decide +kernel
theorem dX6_growsAhead_69 : decode cX6_growsAhead 69 = .ok (.iload_n 1, 1) := by decide +kernel
theorem dX6_growsAhead_70 : decode cX6_growsAhead 70 = .ok (.iconst 1, 1) := by decide +kernel
theorem dX6_growsAhead_71 : decode cX6_growsAhead 71 = .ok (.iload_n 3, 1) := by decide +kernel
theorem dX6_growsAhead_72 : decode cX6_growsAhead 72 = .ok (.invokevirtual 133, 3) := by decide +kernel
theorem dX6_growsAhead_75 : decode cX6_growsAhead 75 = .ok (.return_, 1) := by decide +kernel
abbrev rmX6_growsAhead : Room := { frames := 1, cells := 0, slots := 0, locals := 23 }
def opX6_growsAhead (po : Unit → px_St → Prop) : List (Nat × px_Op) := [
  (0, px_al 1 0),
  (1, px_il 2 1),
  (2, px_push 3 (.int 1)),
  (3, px_callV dM 6 6 2 px_vI prX6_of poX6_of),
  (6, px_push 8 (.int 6)),
  (8, px_ic 11 16 (fun x y => ¬ x = y)),
  (11, px_push 13 (.int 6)),
  (13, px_go 24),
  (16, px_al 17 0),
  (17, px_il 18 1),
  (18, px_push 19 (.int 1)),
  (19, px_callV dM 22 6 2 px_vI prX6_of poX6_of),
  (22, px_push 23 (.int 1)),
  (23, px_bin 24 (fun x y => x + y)),
  (24, px_is 25 3),
  (25, px_il 26 3),
  (26, px_push 27 (.int 1)),
  (27, px_bin 28 (fun x y => x - y)),
  (28, px_is 30 4),
  (30, px_il 32 4),
  (32, px_if 35 61 (fun x => x ≤ 0)),
  (35, px_al 36 0),
  (36, px_il 37 1),
  (37, px_push 38 (.int 3)),
  (38, px_il 40 4),
  (40, px_bin 41 (fun x y => x + y)),
  (41, px_al 42 0),
  (42, px_il 43 1),
  (43, px_push 44 (.int 3)),
  (44, px_il 46 4),
  (46, px_bin 47 (fun x y => x + y)),
  (47, px_push 48 (.int 1)),
  (48, px_bin 49 (fun x y => x - y)),
  (49, px_callV dM 52 6 2 px_vI prX6_of poX6_of),
  (52, px_callV dM 55 6 3 px_vV prX6_becomesOf poX6_becomesOf),
  (55, px_inc 58 4 (-1)),
  (58, px_go 30),
  (61, px_al 62 0),
  (62, px_il 63 1),
  (63, px_push 64 (.int 3)),
  (64, px_il 65 2),
  (65, px_callV dM 68 6 3 px_vV prX6_becomesOf poX6_becomesOf),
  (68, px_al 69 0),
  (69, px_il 70 1),
  (70, px_push 71 (.int 1)),
  (71, px_il 72 3),
  (72, px_callV dM 75 6 3 px_vV prX6_becomesOf poX6_becomesOf),
  (75, px_vret po)]
set_option maxRecDepth 100000 in
set_option maxHeartbeats 4000000 in
theorem okX6_growsAhead : ∀ (po : Unit → px_St → Prop) (i pc : Nat) (op : px_Op), (opX6_growsAhead po)[i]? = some (pc, op) → px_Snd (cX6_growsAhead, 5, RX6, Cond.code yX6_growsAhead cX6_growsAhead 5 none :: wdM, none, rmX6_growsAhead, dM) px_vV po pc op := by
  intro po
  unfold opX6_growsAhead
  refine px_ok_cons (ps_aload_n dX6_growsAhead_0 rfl) ?_
  refine px_ok_cons (ps_iload_n dX6_growsAhead_1 rfl) ?_
  refine px_ok_cons (ps_iconst dX6_growsAhead_2 (by decide)) ?_
  refine px_ok_cons (ps_callV mX6_of (fun _ _ => rfl) (C := RX6) rfl (fun _ _ ht => px_cwV wgM (wdM_2_in _ (List.mem_of_getElem? (i := 16) rfl)) (wdM_2_in _ (List.mem_of_getElem? (i := 17) rfl)) (wdM_2_in _ (List.mem_of_getElem? (i := 18) rfl)) (wdM_0_in _ (List.mem_of_getElem? (i := 22) rfl)) (wdM_2_in _ (List.mem_of_getElem? (i := 13) rfl)) (by decide +kernel) rfl rfl (by decide) ht) dX6_growsAhead_3) ?_
  refine px_ok_cons (ps_bipush dX6_growsAhead_6 (by decide)) ?_
  refine px_ok_cons (ps_icmp_ne dX6_growsAhead_8 (by decide)) ?_
  refine px_ok_cons (ps_bipush dX6_growsAhead_11 (by decide)) ?_
  refine px_ok_cons (ps_goto dX6_growsAhead_13 (by decide)) ?_
  refine px_ok_cons (ps_aload_n dX6_growsAhead_16 rfl) ?_
  refine px_ok_cons (ps_iload_n dX6_growsAhead_17 rfl) ?_
  refine px_ok_cons (ps_iconst dX6_growsAhead_18 (by decide)) ?_
  refine px_ok_cons (ps_callV mX6_of (fun _ _ => rfl) (C := RX6) rfl (fun _ _ ht => px_cwV wgM (wdM_2_in _ (List.mem_of_getElem? (i := 16) rfl)) (wdM_2_in _ (List.mem_of_getElem? (i := 17) rfl)) (wdM_2_in _ (List.mem_of_getElem? (i := 18) rfl)) (wdM_0_in _ (List.mem_of_getElem? (i := 22) rfl)) (wdM_2_in _ (List.mem_of_getElem? (i := 13) rfl)) (by decide +kernel) rfl rfl (by decide) ht) dX6_growsAhead_19) ?_
  refine px_ok_cons (ps_iconst dX6_growsAhead_22 (by decide)) ?_
  refine px_ok_cons (ps_iadd dX6_growsAhead_23) ?_
  refine px_ok_cons (ps_istore_n dX6_growsAhead_24 rfl (by decide)) ?_
  refine px_ok_cons (ps_iload_n dX6_growsAhead_25 rfl) ?_
  refine px_ok_cons (ps_iconst dX6_growsAhead_26 (by decide)) ?_
  refine px_ok_cons (ps_isub dX6_growsAhead_27) ?_
  refine px_ok_cons (ps_istore dX6_growsAhead_28 (by decide)) ?_
  refine px_ok_cons (ps_iload dX6_growsAhead_30) ?_
  refine px_ok_cons (ps_if_le dX6_growsAhead_32 (by decide)) ?_
  refine px_ok_cons (ps_aload_n dX6_growsAhead_35 rfl) ?_
  refine px_ok_cons (ps_iload_n dX6_growsAhead_36 rfl) ?_
  refine px_ok_cons (ps_iconst dX6_growsAhead_37 (by decide)) ?_
  refine px_ok_cons (ps_iload dX6_growsAhead_38) ?_
  refine px_ok_cons (ps_iadd dX6_growsAhead_40) ?_
  refine px_ok_cons (ps_aload_n dX6_growsAhead_41 rfl) ?_
  refine px_ok_cons (ps_iload_n dX6_growsAhead_42 rfl) ?_
  refine px_ok_cons (ps_iconst dX6_growsAhead_43 (by decide)) ?_
  refine px_ok_cons (ps_iload dX6_growsAhead_44) ?_
  refine px_ok_cons (ps_iadd dX6_growsAhead_46) ?_
  refine px_ok_cons (ps_iconst dX6_growsAhead_47 (by decide)) ?_
  refine px_ok_cons (ps_isub dX6_growsAhead_48) ?_
  refine px_ok_cons (ps_callV mX6_of (fun _ _ => rfl) (C := RX6) rfl (fun _ _ ht => px_cwV wgM (wdM_2_in _ (List.mem_of_getElem? (i := 16) rfl)) (wdM_2_in _ (List.mem_of_getElem? (i := 17) rfl)) (wdM_2_in _ (List.mem_of_getElem? (i := 18) rfl)) (wdM_0_in _ (List.mem_of_getElem? (i := 22) rfl)) (wdM_2_in _ (List.mem_of_getElem? (i := 13) rfl)) (by decide +kernel) rfl rfl (by decide) ht) dX6_growsAhead_49) ?_
  refine px_ok_cons (ps_callV mX6_becomesOf (fun _ _ => rfl) (C := RX6) rfl (fun _ _ ht => px_cwV wgM (wdM_2_in _ (List.mem_of_getElem? (i := 21) rfl)) (wdM_2_in _ (List.mem_of_getElem? (i := 22) rfl)) (wdM_2_in _ (List.mem_of_getElem? (i := 23) rfl)) (wdM_0_in _ (List.mem_of_getElem? (i := 22) rfl)) (wdM_2_in _ (List.mem_of_getElem? (i := 14) rfl)) (by decide +kernel) rfl rfl (by decide) ht) dX6_growsAhead_52) ?_
  refine px_ok_cons (ps_iinc dX6_growsAhead_55 (by decide) (by decide)) ?_
  refine px_ok_cons (ps_goto dX6_growsAhead_58 (by decide)) ?_
  refine px_ok_cons (ps_aload_n dX6_growsAhead_61 rfl) ?_
  refine px_ok_cons (ps_iload_n dX6_growsAhead_62 rfl) ?_
  refine px_ok_cons (ps_iconst dX6_growsAhead_63 (by decide)) ?_
  refine px_ok_cons (ps_iload_n dX6_growsAhead_64 rfl) ?_
  refine px_ok_cons (ps_callV mX6_becomesOf (fun _ _ => rfl) (C := RX6) rfl (fun _ _ ht => px_cwV wgM (wdM_2_in _ (List.mem_of_getElem? (i := 21) rfl)) (wdM_2_in _ (List.mem_of_getElem? (i := 22) rfl)) (wdM_2_in _ (List.mem_of_getElem? (i := 23) rfl)) (wdM_0_in _ (List.mem_of_getElem? (i := 22) rfl)) (wdM_2_in _ (List.mem_of_getElem? (i := 14) rfl)) (by decide +kernel) rfl rfl (by decide) ht) dX6_growsAhead_65) ?_
  refine px_ok_cons (ps_aload_n dX6_growsAhead_68 rfl) ?_
  refine px_ok_cons (ps_iload_n dX6_growsAhead_69 rfl) ?_
  refine px_ok_cons (ps_iconst dX6_growsAhead_70 (by decide)) ?_
  refine px_ok_cons (ps_iload_n dX6_growsAhead_71 rfl) ?_
  refine px_ok_cons (ps_callV mX6_becomesOf (fun _ _ => rfl) (C := RX6) rfl (fun _ _ ht => px_cwV wgM (wdM_2_in _ (List.mem_of_getElem? (i := 21) rfl)) (wdM_2_in _ (List.mem_of_getElem? (i := 22) rfl)) (wdM_2_in _ (List.mem_of_getElem? (i := 23) rfl)) (wdM_0_in _ (List.mem_of_getElem? (i := 22) rfl)) (wdM_2_in _ (List.mem_of_getElem? (i := 14) rfl)) (by decide +kernel) rfl rfl (by decide) ht) dX6_growsAhead_72) ?_
  refine px_ok_cons (ps_return rfl dX6_growsAhead_75) ?_
  exact px_ok_nil
set_option maxRecDepth 100000 in
set_option maxHeartbeats 4000000 in
theorem sgX6_growsAhead_0 {po : Unit → px_St → Prop} {G : px_K} (hG : px_cl (opX6_growsAhead po) G) (v1 : Int32) (v2 : Int32) (σ : px_St)
    (H : ∃ g3 : gtX6_of, qrX6_of g3 v1 (1 : Int32) σ ∧ ∀ (r1 : Int32) (σ2 : px_St), qoX6_of g3 v1 (1 : Int32) σ r1 σ2 → ((¬ r1 = (6 : Int32)) → ∃ g7 : gtX6_of, qrX6_of g7 v1 (1 : Int32) σ2 ∧ ∀ (r5 : Int32) (σ6 : px_St), qoX6_of g7 v1 (1 : Int32) σ2 r5 σ6 → G 30 [some (.ref 0), some (.int v1), some (.int v2), some (.int (r5 + (1 : Int32))), some (.int ((r5 + (1 : Int32)) - (1 : Int32)))] [] σ6) ∧ (¬ (¬ r1 = (6 : Int32)) → G 30 [some (.ref 0), some (.int v1), some (.int v2), some (.int (6 : Int32)), some (.int ((6 : Int32) - (1 : Int32)))] [] σ2)) :
    G 0 (px_ent 5 [.ref 0, .int v1, .int v2]) [] σ := by
  refine hG.1 0 _ _ rfl _ _ _ ?_
  refine hG.1 1 _ _ rfl _ _ _ ?_
  refine hG.1 2 _ _ rfl _ _ _ ?_
  refine hG.1 3 _ _ rfl _ _ _ ?_
  obtain ⟨g3, H⟩ := H
  refine ⟨⟨rfl, by decide⟩, Nat.le_of_ble_eq_true rfl, g3, ⟨_, _, rfl, H.1⟩, fun r1 σ2 hp4 => ?_⟩
  replace H := H.2 r1 σ2 hp4
  refine hG.1 4 _ _ rfl _ _ _ ?_
  refine hG.1 5 _ _ rfl _ _ _ ?_
  refine ⟨fun h9 => ?_, fun h9 => ?_⟩
  · replace H := H.1 h9
    refine hG.1 8 _ _ rfl _ _ _ ?_
    refine hG.1 9 _ _ rfl _ _ _ ?_
    refine hG.1 10 _ _ rfl _ _ _ ?_
    refine hG.1 11 _ _ rfl _ _ _ ?_
    obtain ⟨g7, H⟩ := H
    refine ⟨⟨rfl, by decide⟩, Nat.le_of_ble_eq_true rfl, g7, ⟨_, _, rfl, H.1⟩, fun r5 σ6 hp8 => ?_⟩
    replace H := H.2 r5 σ6 hp8
    refine hG.1 12 _ _ rfl _ _ _ ?_
    refine hG.1 13 _ _ rfl _ _ _ ?_
    refine hG.1 14 _ _ rfl _ _ _ ?_
    show G 25 [some (.ref 0), some (.int v1), some (.int v2), some (.int (r5 + (1 : Int32))), none] [] σ6
    refine hG.1 15 _ _ rfl _ _ _ ?_
    refine hG.1 16 _ _ rfl _ _ _ ?_
    refine hG.1 17 _ _ rfl _ _ _ ?_
    refine hG.1 18 _ _ rfl _ _ _ ?_
    show G 30 [some (.ref 0), some (.int v1), some (.int v2), some (.int (r5 + (1 : Int32))), some (.int ((r5 + (1 : Int32)) - (1 : Int32)))] [] σ6
    exact H
  · replace H := H.2 h9
    refine hG.1 6 _ _ rfl _ _ _ ?_
    refine hG.1 7 _ _ rfl _ _ _ ?_
    refine hG.1 14 _ _ rfl _ _ _ ?_
    show G 25 [some (.ref 0), some (.int v1), some (.int v2), some (.int (6 : Int32)), none] [] σ2
    refine hG.1 15 _ _ rfl _ _ _ ?_
    refine hG.1 16 _ _ rfl _ _ _ ?_
    refine hG.1 17 _ _ rfl _ _ _ ?_
    refine hG.1 18 _ _ rfl _ _ _ ?_
    show G 30 [some (.ref 0), some (.int v1), some (.int v2), some (.int (6 : Int32)), some (.int ((6 : Int32) - (1 : Int32)))] [] σ2
    exact H
set_option maxRecDepth 100000 in
set_option maxHeartbeats 4000000 in
theorem sgX6_growsAhead_30 {po : Unit → px_St → Prop} {G : px_K} (hG : px_cl (opX6_growsAhead po) G) (v1 : Int32) (v2 : Int32) (v3 : Int32) (v4 : Int32) (σ : px_St)
    (H : ((v4 ≤ 0) → ∃ g3 : gtX6_becomesOf, qrX6_becomesOf g3 v1 (3 : Int32) v2 σ ∧ ∀ (r1 : Unit) (σ2 : px_St), qoX6_becomesOf g3 v1 (3 : Int32) v2 σ r1 σ2 → ∃ g7 : gtX6_becomesOf, qrX6_becomesOf g7 v1 (1 : Int32) v3 σ2 ∧ ∀ (r5 : Unit) (σ6 : px_St), qoX6_becomesOf g7 v1 (1 : Int32) v3 σ2 r5 σ6 → po () σ6) ∧ (¬ (v4 ≤ 0) → ∃ g11 : gtX6_of, qrX6_of g11 v1 (((3 : Int32) + v4) - (1 : Int32)) σ ∧ ∀ (r9 : Int32) (σ10 : px_St), qoX6_of g11 v1 (((3 : Int32) + v4) - (1 : Int32)) σ r9 σ10 → ∃ g15 : gtX6_becomesOf, qrX6_becomesOf g15 v1 ((3 : Int32) + v4) r9 σ10 ∧ ∀ (r13 : Unit) (σ14 : px_St), qoX6_becomesOf g15 v1 ((3 : Int32) + v4) r9 σ10 r13 σ14 → G 30 [some (.ref 0), some (.int v1), some (.int v2), some (.int v3), some (.int (v4 + (-1)))] [] σ14)) :
    G 30 [some (.ref 0), some (.int v1), some (.int v2), some (.int v3), some (.int v4)] [] σ := by
  refine hG.1 19 _ _ rfl _ _ _ ?_
  refine hG.1 20 _ _ rfl _ _ _ ?_
  refine ⟨fun h17 => ?_, fun h17 => ?_⟩
  · replace H := H.1 h17
    refine hG.1 37 _ _ rfl _ _ _ ?_
    refine hG.1 38 _ _ rfl _ _ _ ?_
    refine hG.1 39 _ _ rfl _ _ _ ?_
    refine hG.1 40 _ _ rfl _ _ _ ?_
    refine hG.1 41 _ _ rfl _ _ _ ?_
    obtain ⟨g3, H⟩ := H
    refine ⟨⟨rfl, by decide⟩, Nat.le_of_ble_eq_true rfl, g3, ⟨_, _, _, rfl, H.1⟩, fun r1 σ2 hp4 => ?_⟩
    replace H := H.2 r1 σ2 hp4
    refine hG.1 42 _ _ rfl _ _ _ ?_
    refine hG.1 43 _ _ rfl _ _ _ ?_
    refine hG.1 44 _ _ rfl _ _ _ ?_
    refine hG.1 45 _ _ rfl _ _ _ ?_
    refine hG.1 46 _ _ rfl _ _ _ ?_
    obtain ⟨g7, H⟩ := H
    refine ⟨⟨rfl, by decide⟩, Nat.le_of_ble_eq_true rfl, g7, ⟨_, _, _, rfl, H.1⟩, fun r5 σ6 hp8 => ?_⟩
    replace H := H.2 r5 σ6 hp8
    refine hG.1 47 _ _ rfl _ _ _ ?_
    exact H
  · replace H := H.2 h17
    refine hG.1 21 _ _ rfl _ _ _ ?_
    refine hG.1 22 _ _ rfl _ _ _ ?_
    refine hG.1 23 _ _ rfl _ _ _ ?_
    refine hG.1 24 _ _ rfl _ _ _ ?_
    refine hG.1 25 _ _ rfl _ _ _ ?_
    refine hG.1 26 _ _ rfl _ _ _ ?_
    refine hG.1 27 _ _ rfl _ _ _ ?_
    refine hG.1 28 _ _ rfl _ _ _ ?_
    refine hG.1 29 _ _ rfl _ _ _ ?_
    refine hG.1 30 _ _ rfl _ _ _ ?_
    refine hG.1 31 _ _ rfl _ _ _ ?_
    refine hG.1 32 _ _ rfl _ _ _ ?_
    refine hG.1 33 _ _ rfl _ _ _ ?_
    obtain ⟨g11, H⟩ := H
    refine ⟨⟨rfl, by decide⟩, Nat.le_of_ble_eq_true rfl, g11, ⟨_, _, rfl, H.1⟩, fun r9 σ10 hp12 => ?_⟩
    replace H := H.2 r9 σ10 hp12
    refine hG.1 34 _ _ rfl _ _ _ ?_
    obtain ⟨g15, H⟩ := H
    refine ⟨⟨rfl, by decide⟩, Nat.le_of_ble_eq_true rfl, g15, ⟨_, _, _, rfl, H.1⟩, fun r13 σ14 hp16 => ?_⟩
    replace H := H.2 r13 σ14 hp16
    refine hG.1 35 _ _ rfl _ _ _ ?_
    show G 58 [some (.ref 0), some (.int v1), some (.int v2), some (.int v3), some (.int (v4 + (-1)))] [] σ14
    refine hG.1 36 _ _ rfl _ _ _ ?_
    exact H
set_option maxRecDepth 100000 in
set_option maxHeartbeats 4000000 in
theorem hhX6_growsAhead (g : gtX6_growsAhead) (v1 : Int32) (v2 : Int32) (σ : px_St) (h : qrX6_growsAhead g v1 v2 σ) (G : px_K) (hG : px_cl (opX6_growsAhead (qoX6_growsAhead g v1 v2 σ)) G) : G 0 (px_ent 5 [.ref 0, .int v1, .int v2]) [] σ := by
  obtain ⟨V, p, s⟩ := g
  obtain ⟨hV, hw, hp, rfl, rfl⟩ := h
  obtain ⟨hk3, hl, hx9⟩ := hw.2.2.2 p hp
  have h5 := hw.1
  obtain ⟨g1, g2, g3, g4⟩ := hV.2 p hp
  have o1 : ∀ τ, qrX6_of (9 * p + 1) (nI p) 1 τ := fun τ => ⟨by omega, ix9 p 1⟩
  obtain ⟨K, hK⟩ : ∃ K, K = min (V.2.2.2 p).2.2.length 5 := ⟨_, rfl⟩
  have loop : ∀ i, i ≤ K → ∀ σ', mn_in σ σ' (fun j => if 9 * p + 3 + i < j ∧ j ≤ 9 * p + 3 + K then σ.1 2 (j - 1) else σ.1 2 j) →
      G 30 [some (.ref 0), some (.int (nI p)), some (.int (nI s)), some (.int (nI (K + 1))), some (.int (nI i))] [] σ' := by
    intro i
    induction i with
    | zero =>
      intro _ σ' hI
      refine sgX6_growsAhead_30 hG _ _ _ _ σ' ⟨fun _ => ⟨9 * p + 3, ⟨by omega, ix9 p 3⟩, fun _ σ3 hq => ?_⟩, fun z => absurd (by decide) z⟩
      have e3 : σ3 = px_up σ' 2 (9 * p + 3) (nI s) := hq
      subst e3
      refine ⟨9 * p + 1, ⟨by omega, ix9 p 1⟩, fun _ σ4 hq => ?_⟩
      have e4 : σ4 = px_up (px_up σ' 2 (9 * p + 3) (nI s)) 2 (9 * p + 1) (nI (K + 1)) := hq
      subst e4
      have hI2 := (hI.up (9 * p + 3) (nI s)).up (9 * p + 1) (nI (K + 1))
      have rd : ∀ j, (px_up (px_up σ' 2 (9 * p + 3) (nI s)) 2 (9 * p + 1) (nI (K + 1))).1 2 j = if j = 9 * p + 1 then nI (K + 1) else if j = 9 * p + 3 then nI s else if 9 * p + 3 < j ∧ j ≤ 9 * p + 3 + K then σ.1 2 (j - 1) else σ.1 2 j := fun j => hI2.2.2 j
      refine ⟨mv_mod hV (fun q hq => (hw.2.2.2 q hq).2.1) (by omega) (fun j hj => ?_) ⟨?_, ?_, ?_, fun i x hx => ?_⟩, hI2.1, hI2.2.1, fun j hj => ?_⟩
      · rw [rd, if_neg (by omega), if_neg (by omega), if_neg (by omega)]
      · rw [rd, if_neg (by omega), if_neg (by omega), if_neg (by omega)]; exact g1
      · rw [rd, if_pos rfl]
        simp only [pv_ahead, List.length_cons, List.length_take]
        rw [hK, Nat.min_comm]
      · rw [rd, if_neg (by omega), if_neg (by omega), if_neg (by omega)]; exact g3
      · rw [rd, if_neg (by omega)]
        simp only [pv_ahead] at hx
        cases i with
        | zero =>
          rw [List.getElem?_cons_zero] at hx
          rw [if_pos (by omega), Option.some.inj hx]
        | succ i =>
          rw [List.getElem?_cons_succ, List.getElem?_take] at hx
          by_cases hi5 : i < 5
          · rw [if_pos hi5] at hx
            have hlt := (List.getElem?_eq_some_iff.mp hx).1
            rw [if_neg (by omega), if_pos (by omega), show 9 * p + 3 + (i + 1) - 1 = 9 * p + 3 + i by omega]
            exact g4 i x hx
          · rw [if_neg hi5] at hx
            cases hx
      · rw [rd, if_neg (by omega), if_neg (by omega), if_neg (by omega)]
    | succ i ih =>
      intro hi σ' hI
      have e1 : (9 : Int32) * nI p + (3 + nI (i + 1) - 1) = nI (9 * p + 3 + i) := by
        rw [show (3 : Int32) + nI (i + 1) - 1 = nI (3 + i) by rw [show (3 : Int32) = nI 3 from rfl, nI_add, show 3 + (i + 1) = (3 + i) + 1 by omega, nI_pred], ix9]
        congr 1
        omega
      refine sgX6_growsAhead_30 hG _ _ _ _ σ' ⟨fun z => absurd ((nIle (i + 1) 0 rfl rfl (by omega) (by omega)).mp z) (by omega), fun _ => ⟨9 * p + 3 + i, ⟨by omega, e1⟩, fun r σ3 hq => ?_⟩⟩
      obtain ⟨rfl, rfl⟩ := hq
      refine ⟨9 * p + 3 + (i + 1), ⟨by omega, ix93 p _⟩, fun _ σ4 hq => ?_⟩
      have e4 : σ4 = px_up σ3 2 (9 * p + 3 + (i + 1)) (σ3.1 2 (9 * p + 3 + i)) := hq
      subst e4
      rw [pk_m1]
      refine ih (by omega) _ ((hI.up _ _).cg (fun j => ?_))
      by_cases hj : j = 9 * p + 3 + (i + 1)
      · rw [if_pos hj, if_pos (by omega), (hI.2.2 _).trans (if_neg (by omega)), hj]
        rfl
      · rw [if_neg hj]
        by_cases hc : 9 * p + 3 + (i + 1) < j ∧ j ≤ 9 * p + 3 + K
        · rw [if_pos hc, if_pos (by omega)]
        · rw [if_neg hc, if_neg (by omega)]
  refine sgX6_growsAhead_0 hG _ _ σ ⟨9 * p + 1, o1 σ, fun r σ2 hq => ?_⟩
  obtain ⟨rfl, rfl⟩ := hq
  rw [g2]
  have c6 : nI (V.2.2.2 p).2.2.length = 6 ↔ (V.2.2.2 p).2.2.length = 6 := nIe _ 6 rfl rfl (by omega) (by omega)
  rw [c6]
  have start := loop K (Nat.le_refl _) σ2 (mn_in.rf.cg (fun j => (if_neg (by omega)).symm))
  refine ⟨fun h6 => ⟨9 * p + 1, o1 σ2, fun r σ3 hq => ?_⟩, fun h6 => ?_⟩
  · obtain ⟨rfl, rfl⟩ := hq
    rw [g2, nI_1, nI_pred]
    rw [show (V.2.2.2 p).2.2.length = K by omega]
    exact start
  · have hl6 : (V.2.2.2 p).2.2.length = 6 := Classical.byContradiction h6
    have hK5 : K = 5 := by omega
    rw [hK5] at start
    exact start
theorem mX6_growsAhead (g : gtX6_growsAhead) : px_Met dM yX6_growsAhead (Cond.code yX6_growsAhead cX6_growsAhead 5 none :: wdM) rmX6_growsAhead px_vV (prX6_growsAhead g) (poX6_growsAhead g) :=
  px_met (Z := (cX6_growsAhead, 5, RX6, Cond.code yX6_growsAhead cX6_growsAhead 5 none :: wdM, none, rmX6_growsAhead, dM)) opX6_growsAhead (by decide) rfl rfl okX6_growsAhead (fun As σ h => by obtain ⟨v1, v2, rfl, h⟩ := h; exact Nat.le_of_ble_eq_true rfl) (fun As σ h G hG => by obtain ⟨v1, v2, rfl, h⟩ := h; exact hhX6_growsAhead g v1 v2 σ h G hG)
abbrev gtX6_learns : Type := pv_V × Nat × Nat
def qrX6_learns : gtX6_learns → Int32 → Int32 → px_St → Prop
  | (V, p, s), v1, v2, σ => mv_is (σ.1 2) V ∧ pv_w V ∧ p < V.1 ∧ s ≤ 9 ∧ v1 = nI p ∧ v2 = nI s
def qoX6_learns : gtX6_learns → Int32 → Int32 → px_St → Unit → px_St → Prop
  | (V, p, s), _, _, σ, _, σ' => mv_is (σ'.1 2) (pv_at V p (pv_learn (V.2.2.2 p) s)) ∧ mn_only σ σ'
def prX6_learns (g : gtX6_learns) : List Value → px_St → Prop := fun As σ => ∃ v1 : Int32, ∃ v2 : Int32, As = [.ref 0, .int v1, .int v2] ∧ qrX6_learns g v1 v2 σ
def poX6_learns (g : gtX6_learns) : List Value → px_St → Unit → px_St → Prop
  | [.ref _, .int v1, .int v2], σ, r, σ' => qoX6_learns g v1 v2 σ r σ'
  | _, _, _, _ => False
theorem dX6_learns_0 : decode cX6_learns 0 = .ok (.aload_n 0, 1) := by decide +kernel
theorem dX6_learns_1 : decode cX6_learns 1 = .ok (.iload_n 1, 1) := by decide +kernel
theorem dX6_learns_2 : decode cX6_learns 2 = .ok (.iconst 0, 1) := by decide +kernel
theorem dX6_learns_3 : decode cX6_learns 3 = .ok (.invokevirtual 130, 3) := by decide +kernel
theorem dX6_learns_6 : decode cX6_learns 6 = .ok (.istore_n 3, 1) := by decide +kernel
theorem dX6_learns_7 : decode cX6_learns 7 = .ok (.iload_n 3, 1) := by decide +kernel
theorem dX6_learns_8 : decode cX6_learns 8 = .ok (.iconst 2, 1) := by decide +kernel
theorem dX6_learns_9 : decode cX6_learns 9 = .ok (.if_icmp .eq 16, 3) := by decide +kernel
theorem dX6_learns_12 : decode cX6_learns 12 = .ok (.iload_n 3, 1) := by decide +kernel
theorem dX6_learns_13 : decode cX6_learns 13 = .ok (.ifCond .ne 21, 3) := by decide +kernel
theorem dX6_learns_16 : decode cX6_learns 16 = .ok (.aload_n 0, 1) := by decide +kernel
theorem dX6_learns_17 : decode cX6_learns 17 = .ok (.iload_n 1, 1) := by decide +kernel
theorem dX6_learns_18 : decode cX6_learns 18 = .ok (.iload_n 2, 1) := by decide +kernel
theorem dX6_learns_19 : decode cX6_learns 19 = .ok (.invokevirtual 137, 3) := by decide +kernel
theorem dX6_learns_22 : decode cX6_learns 22 = .ok (.ifCond .ne 12, 3) := by decide +kernel
theorem dX6_learns_25 : decode cX6_learns 25 = .ok (.aload_n 0, 1) := by decide +kernel
theorem dX6_learns_26 : decode cX6_learns 26 = .ok (.iload_n 1, 1) := by decide +kernel
theorem dX6_learns_27 : decode cX6_learns 27 = .ok (.iload_n 2, 1) := by decide +kernel
theorem dX6_learns_28 : decode cX6_learns 28 = .ok (.invokevirtual 140, 3) := by decide +kernel
theorem dX6_learns_31 : decode cX6_learns 31 = .ok (.goto 23, 3) := by decide +kernel
theorem dX6_learns_34 : decode cX6_learns 34 = .ok (.iload_n 3, 1) := by decide +kernel
theorem dX6_learns_35 : decode cX6_learns 35 = .ok (.iconst 3, 1) := by decide +kernel
theorem dX6_learns_36 : decode cX6_learns 36 = .ok (.if_icmp .ne 18, 3) := by decide +kernel
theorem dX6_learns_39 : decode cX6_learns 39 = .ok (.aload_n 0, 1) := by decide +kernel
theorem dX6_learns_40 : decode cX6_learns 40 = .ok (.iload_n 1, 1) := by decide +kernel
theorem dX6_learns_41 : decode cX6_learns 41 = .ok (.iload_n 2, 1) := by decide +kernel
theorem dX6_learns_42 : decode cX6_learns 42 = .ok (.invokevirtual 137, 3) := by decide +kernel
theorem dX6_learns_45 : decode cX6_learns 45 = .ok (.ifCond .ne 9, 3) := by decide +kernel
theorem dX6_learns_48 : decode cX6_learns 48 = .ok (.aload_n 0, 1) := by decide +kernel
theorem dX6_learns_49 : decode cX6_learns 49 = .ok (.iload_n 1, 1) := by decide +kernel
theorem dX6_learns_50 : decode cX6_learns 50 = .ok (.iload_n 2, 1) := by decide +kernel
theorem dX6_learns_51 : decode cX6_learns 51 = .ok (.invokevirtual 144, 3) := by decide +kernel
theorem dX6_learns_54 : decode cX6_learns 54 = .ok (.return_, 1) := by decide +kernel
abbrev rmX6_learns : Room := { frames := 2, cells := 0, slots := 0, locals := 47 }
def opX6_learns (po : Unit → px_St → Prop) : List (Nat × px_Op) := [
  (0, px_al 1 0),
  (1, px_il 2 1),
  (2, px_push 3 (.int 0)),
  (3, px_callV dM 6 6 2 px_vI prX6_of poX6_of),
  (6, px_is 7 3),
  (7, px_il 8 3),
  (8, px_push 9 (.int 2)),
  (9, px_ic 12 25 (fun x y => x = y)),
  (12, px_il 13 3),
  (13, px_if 16 34 (fun x => ¬ x = 0)),
  (16, px_al 17 0),
  (17, px_il 18 1),
  (18, px_il 19 2),
  (19, px_callV dM 22 6 2 px_vI prX6_hasSound poX6_hasSound),
  (22, px_if 25 34 (fun x => ¬ x = 0)),
  (25, px_al 26 0),
  (26, px_il 27 1),
  (27, px_il 28 2),
  (28, px_callV dM 31 6 2 px_vV prX6_growsBehind poX6_growsBehind),
  (31, px_go 54),
  (34, px_il 35 3),
  (35, px_push 36 (.int 3)),
  (36, px_ic 39 54 (fun x y => ¬ x = y)),
  (39, px_al 40 0),
  (40, px_il 41 1),
  (41, px_il 42 2),
  (42, px_callV dM 45 6 2 px_vI prX6_hasSound poX6_hasSound),
  (45, px_if 48 54 (fun x => ¬ x = 0)),
  (48, px_al 49 0),
  (49, px_il 50 1),
  (50, px_il 51 2),
  (51, px_callV dM 54 6 2 px_vV prX6_growsAhead poX6_growsAhead),
  (54, px_vret po)]
set_option maxRecDepth 100000 in
set_option maxHeartbeats 4000000 in
theorem okX6_learns : ∀ (po : Unit → px_St → Prop) (i pc : Nat) (op : px_Op), (opX6_learns po)[i]? = some (pc, op) → px_Snd (cX6_learns, 4, RX6, Cond.code yX6_learns cX6_learns 4 none :: wdM, none, rmX6_learns, dM) px_vV po pc op := by
  intro po
  unfold opX6_learns
  refine px_ok_cons (ps_aload_n dX6_learns_0 rfl) ?_
  refine px_ok_cons (ps_iload_n dX6_learns_1 rfl) ?_
  refine px_ok_cons (ps_iconst dX6_learns_2 (by decide)) ?_
  refine px_ok_cons (ps_callV mX6_of (fun _ _ => rfl) (C := RX6) rfl (fun _ _ ht => px_cwV wgM (wdM_2_in _ (List.mem_of_getElem? (i := 16) rfl)) (wdM_2_in _ (List.mem_of_getElem? (i := 17) rfl)) (wdM_2_in _ (List.mem_of_getElem? (i := 18) rfl)) (wdM_0_in _ (List.mem_of_getElem? (i := 22) rfl)) (wdM_2_in _ (List.mem_of_getElem? (i := 13) rfl)) (by decide +kernel) rfl rfl (by decide) ht) dX6_learns_3) ?_
  refine px_ok_cons (ps_istore_n dX6_learns_6 rfl (by decide)) ?_
  refine px_ok_cons (ps_iload_n dX6_learns_7 rfl) ?_
  refine px_ok_cons (ps_iconst dX6_learns_8 (by decide)) ?_
  refine px_ok_cons (ps_icmp_eq dX6_learns_9 (by decide)) ?_
  refine px_ok_cons (ps_iload_n dX6_learns_12 rfl) ?_
  refine px_ok_cons (ps_if_ne dX6_learns_13 (by decide)) ?_
  refine px_ok_cons (ps_aload_n dX6_learns_16 rfl) ?_
  refine px_ok_cons (ps_iload_n dX6_learns_17 rfl) ?_
  refine px_ok_cons (ps_iload_n dX6_learns_18 rfl) ?_
  refine px_ok_cons (ps_callV mX6_hasSound (fun _ _ => rfl) (C := RX6) rfl (fun _ _ ht => px_cwV wgM (wdM_2_in _ (List.mem_of_getElem? (i := 26) rfl)) (wdM_2_in _ (List.mem_of_getElem? (i := 27) rfl)) (wdM_2_in _ (List.mem_of_getElem? (i := 28) rfl)) (wdM_0_in _ (List.mem_of_getElem? (i := 22) rfl)) (wdM_2_in _ (List.mem_of_getElem? (i := 15) rfl)) (by decide +kernel) rfl rfl (by decide) ht) dX6_learns_19) ?_
  refine px_ok_cons (ps_if_ne dX6_learns_22 (by decide)) ?_
  refine px_ok_cons (ps_aload_n dX6_learns_25 rfl) ?_
  refine px_ok_cons (ps_iload_n dX6_learns_26 rfl) ?_
  refine px_ok_cons (ps_iload_n dX6_learns_27 rfl) ?_
  refine px_ok_cons (ps_callV mX6_growsBehind (fun _ _ => rfl) (C := RX6) rfl (fun _ _ ht => px_cwV wgM (wdM_2_in _ (List.mem_of_getElem? (i := 29) rfl)) (wdM_2_in _ (List.mem_of_getElem? (i := 30) rfl)) (wdM_2_in _ (List.mem_of_getElem? (i := 31) rfl)) (wdM_0_in _ (List.mem_of_getElem? (i := 22) rfl)) (wdM_2_in _ (List.mem_of_getElem? (i := 20) rfl)) (by decide +kernel) rfl rfl (by decide) ht) dX6_learns_28) ?_
  refine px_ok_cons (ps_goto dX6_learns_31 (by decide)) ?_
  refine px_ok_cons (ps_iload_n dX6_learns_34 rfl) ?_
  refine px_ok_cons (ps_iconst dX6_learns_35 (by decide)) ?_
  refine px_ok_cons (ps_icmp_ne dX6_learns_36 (by decide)) ?_
  refine px_ok_cons (ps_aload_n dX6_learns_39 rfl) ?_
  refine px_ok_cons (ps_iload_n dX6_learns_40 rfl) ?_
  refine px_ok_cons (ps_iload_n dX6_learns_41 rfl) ?_
  refine px_ok_cons (ps_callV mX6_hasSound (fun _ _ => rfl) (C := RX6) rfl (fun _ _ ht => px_cwV wgM (wdM_2_in _ (List.mem_of_getElem? (i := 26) rfl)) (wdM_2_in _ (List.mem_of_getElem? (i := 27) rfl)) (wdM_2_in _ (List.mem_of_getElem? (i := 28) rfl)) (wdM_0_in _ (List.mem_of_getElem? (i := 22) rfl)) (wdM_2_in _ (List.mem_of_getElem? (i := 15) rfl)) (by decide +kernel) rfl rfl (by decide) ht) dX6_learns_42) ?_
  refine px_ok_cons (ps_if_ne dX6_learns_45 (by decide)) ?_
  refine px_ok_cons (ps_aload_n dX6_learns_48 rfl) ?_
  refine px_ok_cons (ps_iload_n dX6_learns_49 rfl) ?_
  refine px_ok_cons (ps_iload_n dX6_learns_50 rfl) ?_
  refine px_ok_cons (ps_callV mX6_growsAhead (fun _ _ => rfl) (C := RX6) rfl (fun _ _ ht => px_cwV wgM (wdM_2_in _ (List.mem_of_getElem? (i := 32) rfl)) (wdM_2_in _ (List.mem_of_getElem? (i := 33) rfl)) (wdM_2_in _ (List.mem_of_getElem? (i := 34) rfl)) (wdM_0_in _ (List.mem_of_getElem? (i := 22) rfl)) (wdM_2_in _ (List.mem_of_getElem? (i := 24) rfl)) (by decide +kernel) rfl rfl (by decide) ht) dX6_learns_51) ?_
  refine px_ok_cons (ps_return rfl dX6_learns_54) ?_
  exact px_ok_nil
set_option maxRecDepth 100000 in
set_option maxHeartbeats 4000000 in
theorem sgX6_learns_0 {po : Unit → px_St → Prop} {G : px_K} (hG : px_cl (opX6_learns po) G) (v1 : Int32) (v2 : Int32) (σ : px_St)
    (H : ∃ g3 : gtX6_of, qrX6_of g3 v1 (0 : Int32) σ ∧ ∀ (r1 : Int32) (σ2 : px_St), qoX6_of g3 v1 (0 : Int32) σ r1 σ2 → ((r1 = (2 : Int32)) → ∃ g7 : gtX6_growsBehind, qrX6_growsBehind g7 v1 v2 σ2 ∧ ∀ (r5 : Unit) (σ6 : px_St), qoX6_growsBehind g7 v1 v2 σ2 r5 σ6 → po () σ6) ∧ (¬ (r1 = (2 : Int32)) → ((¬ r1 = 0) → ((¬ r1 = (3 : Int32)) → po () σ2) ∧ (¬ (¬ r1 = (3 : Int32)) → ∃ g11 : gtX6_hasSound, qrX6_hasSound g11 v1 v2 σ2 ∧ ∀ (r9 : Int32) (σ10 : px_St), qoX6_hasSound g11 v1 v2 σ2 r9 σ10 → ((¬ r9 = 0) → po () σ10) ∧ (¬ (¬ r9 = 0) → ∃ g15 : gtX6_growsAhead, qrX6_growsAhead g15 v1 v2 σ10 ∧ ∀ (r13 : Unit) (σ14 : px_St), qoX6_growsAhead g15 v1 v2 σ10 r13 σ14 → po () σ14))) ∧ (¬ (¬ r1 = 0) → ∃ g21 : gtX6_hasSound, qrX6_hasSound g21 v1 v2 σ2 ∧ ∀ (r19 : Int32) (σ20 : px_St), qoX6_hasSound g21 v1 v2 σ2 r19 σ20 → ((¬ r19 = 0) → ((¬ r1 = (3 : Int32)) → po () σ20) ∧ (¬ (¬ r1 = (3 : Int32)) → ∃ g25 : gtX6_hasSound, qrX6_hasSound g25 v1 v2 σ20 ∧ ∀ (r23 : Int32) (σ24 : px_St), qoX6_hasSound g25 v1 v2 σ20 r23 σ24 → ((¬ r23 = 0) → po () σ24) ∧ (¬ (¬ r23 = 0) → ∃ g29 : gtX6_growsAhead, qrX6_growsAhead g29 v1 v2 σ24 ∧ ∀ (r27 : Unit) (σ28 : px_St), qoX6_growsAhead g29 v1 v2 σ24 r27 σ28 → po () σ28))) ∧ (¬ (¬ r19 = 0) → ∃ g35 : gtX6_growsBehind, qrX6_growsBehind g35 v1 v2 σ20 ∧ ∀ (r33 : Unit) (σ34 : px_St), qoX6_growsBehind g35 v1 v2 σ20 r33 σ34 → po () σ34)))) :
    G 0 (px_ent 4 [.ref 0, .int v1, .int v2]) [] σ := by
  refine hG.1 0 _ _ rfl _ _ _ ?_
  refine hG.1 1 _ _ rfl _ _ _ ?_
  refine hG.1 2 _ _ rfl _ _ _ ?_
  refine hG.1 3 _ _ rfl _ _ _ ?_
  obtain ⟨g3, H⟩ := H
  refine ⟨⟨rfl, by decide⟩, Nat.le_of_ble_eq_true rfl, g3, ⟨_, _, rfl, H.1⟩, fun r1 σ2 hp4 => ?_⟩
  replace H := H.2 r1 σ2 hp4
  refine hG.1 4 _ _ rfl _ _ _ ?_
  show G 7 [some (.ref 0), some (.int v1), some (.int v2), some (.int r1)] [] σ2
  refine hG.1 5 _ _ rfl _ _ _ ?_
  refine hG.1 6 _ _ rfl _ _ _ ?_
  refine hG.1 7 _ _ rfl _ _ _ ?_
  refine ⟨fun h39 => ?_, fun h39 => ?_⟩
  · replace H := H.1 h39
    refine hG.1 15 _ _ rfl _ _ _ ?_
    refine hG.1 16 _ _ rfl _ _ _ ?_
    refine hG.1 17 _ _ rfl _ _ _ ?_
    refine hG.1 18 _ _ rfl _ _ _ ?_
    obtain ⟨g7, H⟩ := H
    refine ⟨⟨rfl, by decide⟩, Nat.le_of_ble_eq_true rfl, g7, ⟨_, _, rfl, H.1⟩, fun r5 σ6 hp8 => ?_⟩
    replace H := H.2 r5 σ6 hp8
    refine hG.1 19 _ _ rfl _ _ _ ?_
    refine hG.1 32 _ _ rfl _ _ _ ?_
    exact H
  · replace H := H.2 h39
    refine hG.1 8 _ _ rfl _ _ _ ?_
    refine hG.1 9 _ _ rfl _ _ _ ?_
    refine ⟨fun h38 => ?_, fun h38 => ?_⟩
    · replace H := H.1 h38
      refine hG.1 20 _ _ rfl _ _ _ ?_
      refine hG.1 21 _ _ rfl _ _ _ ?_
      refine hG.1 22 _ _ rfl _ _ _ ?_
      refine ⟨fun h18 => ?_, fun h18 => ?_⟩
      · replace H := H.1 h18
        refine hG.1 32 _ _ rfl _ _ _ ?_
        exact H
      · replace H := H.2 h18
        refine hG.1 23 _ _ rfl _ _ _ ?_
        refine hG.1 24 _ _ rfl _ _ _ ?_
        refine hG.1 25 _ _ rfl _ _ _ ?_
        refine hG.1 26 _ _ rfl _ _ _ ?_
        obtain ⟨g11, H⟩ := H
        refine ⟨⟨rfl, by decide⟩, Nat.le_of_ble_eq_true rfl, g11, ⟨_, _, rfl, H.1⟩, fun r9 σ10 hp12 => ?_⟩
        replace H := H.2 r9 σ10 hp12
        refine hG.1 27 _ _ rfl _ _ _ ?_
        refine ⟨fun h17 => ?_, fun h17 => ?_⟩
        · replace H := H.1 h17
          refine hG.1 32 _ _ rfl _ _ _ ?_
          exact H
        · replace H := H.2 h17
          refine hG.1 28 _ _ rfl _ _ _ ?_
          refine hG.1 29 _ _ rfl _ _ _ ?_
          refine hG.1 30 _ _ rfl _ _ _ ?_
          refine hG.1 31 _ _ rfl _ _ _ ?_
          obtain ⟨g15, H⟩ := H
          refine ⟨⟨rfl, by decide⟩, Nat.le_of_ble_eq_true rfl, g15, ⟨_, _, rfl, H.1⟩, fun r13 σ14 hp16 => ?_⟩
          replace H := H.2 r13 σ14 hp16
          refine hG.1 32 _ _ rfl _ _ _ ?_
          exact H
    · replace H := H.2 h38
      refine hG.1 10 _ _ rfl _ _ _ ?_
      refine hG.1 11 _ _ rfl _ _ _ ?_
      refine hG.1 12 _ _ rfl _ _ _ ?_
      refine hG.1 13 _ _ rfl _ _ _ ?_
      obtain ⟨g21, H⟩ := H
      refine ⟨⟨rfl, by decide⟩, Nat.le_of_ble_eq_true rfl, g21, ⟨_, _, rfl, H.1⟩, fun r19 σ20 hp22 => ?_⟩
      replace H := H.2 r19 σ20 hp22
      refine hG.1 14 _ _ rfl _ _ _ ?_
      refine ⟨fun h37 => ?_, fun h37 => ?_⟩
      · replace H := H.1 h37
        refine hG.1 20 _ _ rfl _ _ _ ?_
        refine hG.1 21 _ _ rfl _ _ _ ?_
        refine hG.1 22 _ _ rfl _ _ _ ?_
        refine ⟨fun h32 => ?_, fun h32 => ?_⟩
        · replace H := H.1 h32
          refine hG.1 32 _ _ rfl _ _ _ ?_
          exact H
        · replace H := H.2 h32
          refine hG.1 23 _ _ rfl _ _ _ ?_
          refine hG.1 24 _ _ rfl _ _ _ ?_
          refine hG.1 25 _ _ rfl _ _ _ ?_
          refine hG.1 26 _ _ rfl _ _ _ ?_
          obtain ⟨g25, H⟩ := H
          refine ⟨⟨rfl, by decide⟩, Nat.le_of_ble_eq_true rfl, g25, ⟨_, _, rfl, H.1⟩, fun r23 σ24 hp26 => ?_⟩
          replace H := H.2 r23 σ24 hp26
          refine hG.1 27 _ _ rfl _ _ _ ?_
          refine ⟨fun h31 => ?_, fun h31 => ?_⟩
          · replace H := H.1 h31
            refine hG.1 32 _ _ rfl _ _ _ ?_
            exact H
          · replace H := H.2 h31
            refine hG.1 28 _ _ rfl _ _ _ ?_
            refine hG.1 29 _ _ rfl _ _ _ ?_
            refine hG.1 30 _ _ rfl _ _ _ ?_
            refine hG.1 31 _ _ rfl _ _ _ ?_
            obtain ⟨g29, H⟩ := H
            refine ⟨⟨rfl, by decide⟩, Nat.le_of_ble_eq_true rfl, g29, ⟨_, _, rfl, H.1⟩, fun r27 σ28 hp30 => ?_⟩
            replace H := H.2 r27 σ28 hp30
            refine hG.1 32 _ _ rfl _ _ _ ?_
            exact H
      · replace H := H.2 h37
        refine hG.1 15 _ _ rfl _ _ _ ?_
        refine hG.1 16 _ _ rfl _ _ _ ?_
        refine hG.1 17 _ _ rfl _ _ _ ?_
        refine hG.1 18 _ _ rfl _ _ _ ?_
        obtain ⟨g35, H⟩ := H
        refine ⟨⟨rfl, by decide⟩, Nat.le_of_ble_eq_true rfl, g35, ⟨_, _, rfl, H.1⟩, fun r33 σ34 hp36 => ?_⟩
        replace H := H.2 r33 σ34 hp36
        refine hG.1 19 _ _ rfl _ _ _ ?_
        refine hG.1 32 _ _ rfl _ _ _ ?_
        exact H
set_option maxRecDepth 100000 in
set_option maxHeartbeats 4000000 in
theorem hhX6_learns (g : gtX6_learns) (v1 : Int32) (v2 : Int32) (σ : px_St) (h : qrX6_learns g v1 v2 σ) (G : px_K) (hG : px_cl (opX6_learns (qoX6_learns g v1 v2 σ)) G) : G 0 (px_ent 4 [.ref 0, .int v1, .int v2]) [] σ := by
  obtain ⟨V, p, s⟩ := g
  obtain ⟨hV, hw, hp, hs, rfl, rfl⟩ := h
  obtain ⟨hk3, hl, hx9⟩ := hw.2.2.2 p hp
  have h5 := hw.1
  obtain ⟨g1, g2, g3, g4⟩ := hV.2 p hp
  have same : pv_learn (V.2.2.2 p) s = V.2.2.2 p → ∀ τ : px_St, τ = σ → qoX6_learns (V, p, s) (nI p) (nI s) σ () τ := by
    intro e τ ht
    subst ht
    refine ⟨?_, mn_only.rf⟩
    rw [e, pv_at_same]
    exact hV
  refine sgX6_learns_0 hG _ _ σ ⟨9 * p, ⟨by omega, ix9 p 0⟩, fun r σ2 hq => ?_⟩
  obtain ⟨rfl, rfl⟩ := hq
  rw [g1]
  have c3 : nI (V.2.2.2 p).1 = 3 ↔ (V.2.2.2 p).1 = 3 := nIe _ 3 rfl rfl (by omega) (by omega)
  have c2 : nI (V.2.2.2 p).1 = 2 ↔ (V.2.2.2 p).1 = 2 := nIe _ 2 rfl rfl (by omega) (by omega)
  have c0 : nI (V.2.2.2 p).1 = 0 ↔ (V.2.2.2 p).1 = 0 := nIe _ 0 rfl rfl (by omega) (by omega)
  rw [c3, c2, c0]
  refine ⟨fun k2 => ⟨(V, p, s), ⟨hV, hw, hp, rfl, rfl⟩, fun _ σ3 hq => ?_⟩, fun k2 => ⟨fun k0 => ⟨fun k3 => same ?_ _ rfl, fun k3 => ⟨(V, p, s), ⟨hV, hw, hp, hs, rfl, rfl⟩, fun r σ3 hq => ?_⟩⟩, fun k0 => ⟨(V, p, s), ⟨hV, hw, hp, hs, rfl, rfl⟩, fun r σ3 hq => ?_⟩⟩⟩
  · have e : pv_learn (V.2.2.2 p) s = ((V.2.2.2 p).1, (V.2.2.2 p).2.1, pv_put (V.2.2.2 p).2.2 s) := by unfold pv_learn; rw [if_neg (by omega), if_pos k2]
    show mv_is (σ3.1 2) (pv_at V p (pv_learn (V.2.2.2 p) s)) ∧ mn_only σ2 σ3
    rw [e]
    exact hq
  · unfold pv_learn
    rw [if_pos (by omega)]
  · obtain ⟨rfl, hb⟩ := hq
    refine bz1 hb (fun hm => same ?_ _ rfl) (fun hm => ⟨(V, p, s), ⟨hV, hw, hp, rfl, rfl⟩, fun _ σ4 hq => ?_⟩)
    · unfold pv_learn
      rw [if_neg (by omega), if_neg k2, if_pos hm]
    · have e : pv_learn (V.2.2.2 p) s = ((V.2.2.2 p).1, (V.2.2.2 p).2.1, pv_ahead (V.2.2.2 p).2.2 s) := by unfold pv_learn; rw [if_neg (by omega), if_neg k2, if_neg hm, if_pos (by omega)]
      show mv_is (σ4.1 2) (pv_at V p (pv_learn (V.2.2.2 p) s)) ∧ mn_only _ σ4
      rw [e]
      exact hq
  · obtain ⟨rfl, hb⟩ := hq
    refine bz1 hb (fun hm => ⟨fun _ => same ?_ _ rfl, fun k3 => absurd (fun z => by omega) k3⟩) (fun hm => ⟨(V, p, s), ⟨hV, hw, hp, rfl, rfl⟩, fun _ σ4 hq => ?_⟩)
    · unfold pv_learn
      rw [if_neg (by omega), if_neg k2, if_pos hm]
    · have e : pv_learn (V.2.2.2 p) s = ((V.2.2.2 p).1, (V.2.2.2 p).2.1, pv_put (V.2.2.2 p).2.2 s) := by unfold pv_learn; rw [if_neg (by omega), if_neg k2, if_neg hm, if_neg (by omega)]
      show mv_is (σ4.1 2) (pv_at V p (pv_learn (V.2.2.2 p) s)) ∧ mn_only _ σ4
      rw [e]
      exact hq
theorem mX6_learns (g : gtX6_learns) : px_Met dM yX6_learns (Cond.code yX6_learns cX6_learns 4 none :: wdM) rmX6_learns px_vV (prX6_learns g) (poX6_learns g) :=
  px_met (Z := (cX6_learns, 4, RX6, Cond.code yX6_learns cX6_learns 4 none :: wdM, none, rmX6_learns, dM)) opX6_learns (by decide) rfl rfl okX6_learns (fun As σ h => by obtain ⟨v1, v2, rfl, h⟩ := h; exact Nat.le_of_ble_eq_true rfl) (fun As σ h G hG => by obtain ⟨v1, v2, rfl, h⟩ := h; exact hhX6_learns g v1 v2 σ h G hG)
abbrev gtX6_saidNow : Type := pv_V
def qrX6_saidNow (V : pv_V) (σ : px_St) : Prop := mv_is (σ.1 2) V ∧ pv_ok V
def qoX6_saidNow (V : pv_V) (σ : px_St) (r : Int32) (σ' : px_St) : Prop := σ' = σ ∧ r = pv_said V
def prX6_saidNow (g : gtX6_saidNow) : List Value → px_St → Prop := fun As σ => As = [.ref 0] ∧ qrX6_saidNow g σ
def poX6_saidNow (g : gtX6_saidNow) : List Value → px_St → Int32 → px_St → Prop
  | [.ref _], σ, r, σ' => qoX6_saidNow g σ r σ'
  | _, _, _, _ => False
theorem dX6_saidNow_0 : decode cX6_saidNow 0 = .ok (.aload_n 0, 1) := by decide +kernel
theorem dX6_saidNow_1 : decode cX6_saidNow 1 = .ok (.getfield 13, 3) := by decide +kernel
theorem dX6_saidNow_4 : decode cX6_saidNow 4 = .ok (.bipush 45, 2) := by decide +kernel
theorem dX6_saidNow_6 : decode cX6_saidNow 6 = .ok (.iaload, 1) := by decide +kernel
theorem dX6_saidNow_7 : decode cX6_saidNow 7 = .ok (.ifCond .ne 6, 3) := by decide +kernel
theorem dX6_saidNow_10 : decode cX6_saidNow 10 = .ok (.bipush (-4), 2) := by decide +kernel
theorem dX6_saidNow_12 : decode cX6_saidNow 12 = .ok (.ireturn, 1) := by decide +kernel
theorem dX6_saidNow_13 : decode cX6_saidNow 13 = .ok (.aload_n 0, 1) := by decide +kernel
theorem dX6_saidNow_14 : decode cX6_saidNow 14 = .ok (.getfield 13, 3) := by decide +kernel
theorem dX6_saidNow_17 : decode cX6_saidNow 17 = .ok (.bipush 47, 2) := by decide +kernel
theorem dX6_saidNow_19 : decode cX6_saidNow 19 = .ok (.iaload, 1) := by decide +kernel
theorem dX6_saidNow_20 : decode cX6_saidNow 20 = .ok (.aload_n 0, 1) := by decide +kernel
theorem dX6_saidNow_21 : decode cX6_saidNow 21 = .ok (.getfield 13, 3) := by decide +kernel
theorem dX6_saidNow_24 : decode cX6_saidNow 24 = .ok (.bipush 45, 2) := by decide +kernel
theorem dX6_saidNow_26 : decode cX6_saidNow 26 = .ok (.iaload, 1) := by decide +kernel
theorem dX6_saidNow_27 : decode cX6_saidNow 27 = .ok (.irem, 1) := by decide +kernel
theorem dX6_saidNow_28 : decode cX6_saidNow 28 = .ok (.istore_n 1, 1) := by decide +kernel
theorem dX6_saidNow_29 : decode cX6_saidNow 29 = .ok (.aload_n 0, 1) := by decide +kernel
theorem dX6_saidNow_30 : decode cX6_saidNow 30 = .ok (.iload_n 1, 1) := by decide +kernel
theorem dX6_saidNow_31 : decode cX6_saidNow 31 = .ok (.iconst 3, 1) := by decide +kernel
theorem dX6_saidNow_32 : decode cX6_saidNow 32 = .ok (.aload_n 0, 1) := by decide +kernel
theorem dX6_saidNow_33 : decode cX6_saidNow 33 = .ok (.iload_n 1, 1) := by decide +kernel
theorem dX6_saidNow_34 : decode cX6_saidNow 34 = .ok (.iconst 2, 1) := by decide +kernel
theorem dX6_saidNow_35 : decode cX6_saidNow 35 = .ok (.invokevirtual 130, 3) := by decide +kernel
theorem dX6_saidNow_38 : decode cX6_saidNow 38 = .ok (.iadd, 1) := by decide +kernel
theorem dX6_saidNow_39 : decode cX6_saidNow 39 = .ok (.invokevirtual 130, 3) := by decide +kernel
theorem dX6_saidNow_42 : decode cX6_saidNow 42 = .ok (.ireturn, 1) := by decide +kernel
abbrev rmX6_saidNow : Room := { frames := 1, cells := 0, slots := 0, locals := 22 }
def opX6_saidNow (po : Int32 → px_St → Prop) : List (Nat × px_Op) := [
  (0, px_al 1 0),
  (1, px_get dM 4 6 1),
  (4, px_push 6 (.int 45)),
  (6, px_ald dM 7 0),
  (7, px_if 10 13 (fun x => ¬ x = 0)),
  (10, px_push 12 (.int (-4))),
  (12, px_iret (.int) po),
  (13, px_al 14 0),
  (14, px_get dM 17 6 1),
  (17, px_push 19 (.int 47)),
  (19, px_ald dM 20 0),
  (20, px_al 21 0),
  (21, px_get dM 24 6 1),
  (24, px_push 26 (.int 45)),
  (26, px_ald dM 27 0),
  (27, px_div 28 (fun x y => x - x / y * y)),
  (28, px_is 29 1),
  (29, px_al 30 0),
  (30, px_il 31 1),
  (31, px_push 32 (.int 3)),
  (32, px_al 33 0),
  (33, px_il 34 1),
  (34, px_push 35 (.int 2)),
  (35, px_callV dM 38 6 2 px_vI prX6_of poX6_of),
  (38, px_bin 39 (fun x y => x + y)),
  (39, px_callV dM 42 6 2 px_vI prX6_of poX6_of),
  (42, px_iret (.int) po)]
set_option maxRecDepth 100000 in
set_option maxHeartbeats 4000000 in
theorem okX6_saidNow : ∀ (po : Int32 → px_St → Prop) (i pc : Nat) (op : px_Op), (opX6_saidNow po)[i]? = some (pc, op) → px_Snd (cX6_saidNow, 2, RX6, Cond.code yX6_saidNow cX6_saidNow 2 (some .int) :: wdM, (some .int), rmX6_saidNow, dM) px_vI po pc op := by
  intro po
  unfold opX6_saidNow
  refine px_ok_cons (ps_aload_n dX6_saidNow_0 rfl) ?_
  refine px_ok_cons (fgX6_13 dX6_saidNow_1) ?_
  refine px_ok_cons (ps_bipush dX6_saidNow_4 (by decide)) ?_
  refine px_ok_cons (ps_iaload dX6_saidNow_6) ?_
  refine px_ok_cons (ps_if_ne dX6_saidNow_7 (by decide)) ?_
  refine px_ok_cons (ps_bipush dX6_saidNow_10 (by decide)) ?_
  refine px_ok_cons (ps_ireturn rfl dX6_saidNow_12) ?_
  refine px_ok_cons (ps_aload_n dX6_saidNow_13 rfl) ?_
  refine px_ok_cons (fgX6_13 dX6_saidNow_14) ?_
  refine px_ok_cons (ps_bipush dX6_saidNow_17 (by decide)) ?_
  refine px_ok_cons (ps_iaload dX6_saidNow_19) ?_
  refine px_ok_cons (ps_aload_n dX6_saidNow_20 rfl) ?_
  refine px_ok_cons (fgX6_13 dX6_saidNow_21) ?_
  refine px_ok_cons (ps_bipush dX6_saidNow_24 (by decide)) ?_
  refine px_ok_cons (ps_iaload dX6_saidNow_26) ?_
  refine px_ok_cons (ps_irem dX6_saidNow_27) ?_
  refine px_ok_cons (ps_istore_n dX6_saidNow_28 rfl (by decide)) ?_
  refine px_ok_cons (ps_aload_n dX6_saidNow_29 rfl) ?_
  refine px_ok_cons (ps_iload_n dX6_saidNow_30 rfl) ?_
  refine px_ok_cons (ps_iconst dX6_saidNow_31 (by decide)) ?_
  refine px_ok_cons (ps_aload_n dX6_saidNow_32 rfl) ?_
  refine px_ok_cons (ps_iload_n dX6_saidNow_33 rfl) ?_
  refine px_ok_cons (ps_iconst dX6_saidNow_34 (by decide)) ?_
  refine px_ok_cons (ps_callV mX6_of (fun _ _ => rfl) (C := RX6) rfl (fun _ _ ht => px_cwV wgM (wdM_2_in _ (List.mem_of_getElem? (i := 16) rfl)) (wdM_2_in _ (List.mem_of_getElem? (i := 17) rfl)) (wdM_2_in _ (List.mem_of_getElem? (i := 18) rfl)) (wdM_0_in _ (List.mem_of_getElem? (i := 22) rfl)) (wdM_2_in _ (List.mem_of_getElem? (i := 13) rfl)) (by decide +kernel) rfl rfl (by decide) ht) dX6_saidNow_35) ?_
  refine px_ok_cons (ps_iadd dX6_saidNow_38) ?_
  refine px_ok_cons (ps_callV mX6_of (fun _ _ => rfl) (C := RX6) rfl (fun _ _ ht => px_cwV wgM (wdM_2_in _ (List.mem_of_getElem? (i := 16) rfl)) (wdM_2_in _ (List.mem_of_getElem? (i := 17) rfl)) (wdM_2_in _ (List.mem_of_getElem? (i := 18) rfl)) (wdM_0_in _ (List.mem_of_getElem? (i := 22) rfl)) (wdM_2_in _ (List.mem_of_getElem? (i := 13) rfl)) (by decide +kernel) rfl rfl (by decide) ht) dX6_saidNow_39) ?_
  refine px_ok_cons (ps_ireturn rfl dX6_saidNow_42) ?_
  exact px_ok_nil
set_option maxRecDepth 100000 in
set_option maxHeartbeats 4000000 in
theorem sgX6_saidNow_0 {po : Int32 → px_St → Prop} {G : px_K} (hG : px_cl (opX6_saidNow po) G) (σ : px_St)
    (H : vp_in (45 : Int32) 61 ∧ ((¬ (σ.1 2 (45 : Int32).toNatClampNeg) = 0) → vp_in (47 : Int32) 61 ∧ vp_in (45 : Int32) 61 ∧ ¬ (σ.1 2 (45 : Int32).toNatClampNeg) = 0 ∧ ∃ g3 : gtX6_of, qrX6_of g3 ((σ.1 2 (47 : Int32).toNatClampNeg) - (σ.1 2 (47 : Int32).toNatClampNeg) / (σ.1 2 (45 : Int32).toNatClampNeg) * (σ.1 2 (45 : Int32).toNatClampNeg)) (2 : Int32) σ ∧ ∀ (r1 : Int32) (σ2 : px_St), qoX6_of g3 ((σ.1 2 (47 : Int32).toNatClampNeg) - (σ.1 2 (47 : Int32).toNatClampNeg) / (σ.1 2 (45 : Int32).toNatClampNeg) * (σ.1 2 (45 : Int32).toNatClampNeg)) (2 : Int32) σ r1 σ2 → ∃ g7 : gtX6_of, qrX6_of g7 ((σ.1 2 (47 : Int32).toNatClampNeg) - (σ.1 2 (47 : Int32).toNatClampNeg) / (σ.1 2 (45 : Int32).toNatClampNeg) * (σ.1 2 (45 : Int32).toNatClampNeg)) ((3 : Int32) + r1) σ2 ∧ ∀ (r5 : Int32) (σ6 : px_St), qoX6_of g7 ((σ.1 2 (47 : Int32).toNatClampNeg) - (σ.1 2 (47 : Int32).toNatClampNeg) / (σ.1 2 (45 : Int32).toNatClampNeg) * (σ.1 2 (45 : Int32).toNatClampNeg)) ((3 : Int32) + r1) σ2 r5 σ6 → po r5 σ6) ∧ (¬ (¬ (σ.1 2 (45 : Int32).toNatClampNeg) = 0) → po (-4 : Int32) σ)) :
    G 0 (px_ent 2 [.ref 0]) [] σ := by
  refine hG.1 0 _ _ rfl _ _ _ ?_
  refine hG.1 1 _ _ rfl _ _ _ ?_
  refine ⟨⟨rfl, by decide⟩, ?_⟩
  refine hG.1 2 _ _ rfl _ _ _ ?_
  refine hG.1 3 _ _ rfl _ _ _ ?_
  refine ⟨⟨rfl, by decide⟩, H.1, ?_⟩
  replace H := H.2
  refine hG.1 4 _ _ rfl _ _ _ ?_
  refine ⟨fun h9 => ?_, fun h9 => ?_⟩
  · replace H := H.1 h9
    refine hG.1 7 _ _ rfl _ _ _ ?_
    refine hG.1 8 _ _ rfl _ _ _ ?_
    refine ⟨⟨rfl, by decide⟩, ?_⟩
    refine hG.1 9 _ _ rfl _ _ _ ?_
    refine hG.1 10 _ _ rfl _ _ _ ?_
    refine ⟨⟨rfl, by decide⟩, H.1, ?_⟩
    replace H := H.2
    refine hG.1 11 _ _ rfl _ _ _ ?_
    refine hG.1 12 _ _ rfl _ _ _ ?_
    refine ⟨⟨rfl, by decide⟩, ?_⟩
    refine hG.1 13 _ _ rfl _ _ _ ?_
    refine hG.1 14 _ _ rfl _ _ _ ?_
    refine ⟨⟨rfl, by decide⟩, H.1, ?_⟩
    replace H := H.2
    refine hG.1 15 _ _ rfl _ _ _ ?_
    refine ⟨H.1, ?_⟩
    replace H := H.2
    refine hG.1 16 _ _ rfl _ _ _ ?_
    show G 29 [some (.ref 0), some (.int ((σ.1 2 (47 : Int32).toNatClampNeg) - (σ.1 2 (47 : Int32).toNatClampNeg) / (σ.1 2 (45 : Int32).toNatClampNeg) * (σ.1 2 (45 : Int32).toNatClampNeg)))] [] σ
    refine hG.1 17 _ _ rfl _ _ _ ?_
    refine hG.1 18 _ _ rfl _ _ _ ?_
    refine hG.1 19 _ _ rfl _ _ _ ?_
    refine hG.1 20 _ _ rfl _ _ _ ?_
    refine hG.1 21 _ _ rfl _ _ _ ?_
    refine hG.1 22 _ _ rfl _ _ _ ?_
    refine hG.1 23 _ _ rfl _ _ _ ?_
    obtain ⟨g3, H⟩ := H
    refine ⟨⟨rfl, by decide⟩, Nat.le_of_ble_eq_true rfl, g3, ⟨_, _, rfl, H.1⟩, fun r1 σ2 hp4 => ?_⟩
    replace H := H.2 r1 σ2 hp4
    refine hG.1 24 _ _ rfl _ _ _ ?_
    refine hG.1 25 _ _ rfl _ _ _ ?_
    obtain ⟨g7, H⟩ := H
    refine ⟨⟨rfl, by decide⟩, Nat.le_of_ble_eq_true rfl, g7, ⟨_, _, rfl, H.1⟩, fun r5 σ6 hp8 => ?_⟩
    replace H := H.2 r5 σ6 hp8
    refine hG.1 26 _ _ rfl _ _ _ ?_
    exact ⟨rfl, H⟩
  · replace H := H.2 h9
    refine hG.1 5 _ _ rfl _ _ _ ?_
    refine hG.1 6 _ _ rfl _ _ _ ?_
    exact ⟨rfl, H⟩
set_option maxRecDepth 100000 in
set_option maxHeartbeats 4000000 in
theorem hhX6_saidNow (g : gtX6_saidNow) (σ : px_St) (h : qrX6_saidNow g σ) (G : px_K) (hG : px_cl (opX6_saidNow (qoX6_saidNow g σ)) G) : G 0 (px_ent 2 [.ref 0]) [] σ := by
  obtain ⟨hV, hok⟩ := h
  have hw := hok.1
  have h5 := hw.1
  have hd := hw.2.2.1
  refine sgX6_saidNow_0 hG σ ?_
  rw [c45, c47, hV.1.1, hV.1.2.2]
  have hi45 : vp_in (45 : Int32) 61 := vpin 45 61 rfl (by omega) (by omega)
  have hi47 : vp_in (47 : Int32) 61 := vpin 47 61 rfl (by omega) (by omega)
  have c0 : nI g.1 = 0 ↔ g.1 = 0 := nIe _ 0 rfl rfl (by omega) (by omega)
  rw [c0]
  refine ⟨hi45, fun hn => ?_, fun hn => ?_⟩
  · have hlt := pv_spk_lt (V := g) (by omega)
    rw [pk_rem (by omega) (by omega) (by omega)]
    obtain ⟨g1, g2, g3, g4⟩ := hV.2 _ hlt
    have hpl := hok.2 _ hlt
    have hl := (hw.2.2.2 _ hlt).2.1
    refine ⟨hi47, hi45, hn, 9 * (g.2.2.1 % g.1) + 2, ⟨by omega, ix9 _ 2⟩, fun r σ2 hq => ?_⟩
    obtain ⟨rfl, rfl⟩ := hq
    rw [g3]
    refine ⟨9 * (g.2.2.1 % g.1) + 3 + (g.2.2.2 (g.2.2.1 % g.1)).2.1, ⟨by omega, ix93 _ _⟩, fun r σ3 hq => ?_⟩
    obtain ⟨rfl, rfl⟩ := hq
    refine ⟨rfl, ?_⟩
    unfold pv_said
    rw [if_neg hn]
    exact g4 _ _ (by unfold pv_due; rw [List.getD_eq_getElem?_getD, List.getElem?_eq_getElem hpl]; rfl)
  · refine ⟨rfl, ?_⟩
    unfold pv_said
    rw [if_pos (Classical.byContradiction hn)]
theorem mX6_saidNow (g : gtX6_saidNow) : px_Met dM yX6_saidNow (Cond.code yX6_saidNow cX6_saidNow 2 (some .int) :: wdM) rmX6_saidNow px_vI (prX6_saidNow g) (poX6_saidNow g) :=
  px_met (Z := (cX6_saidNow, 2, RX6, Cond.code yX6_saidNow cX6_saidNow 2 (some .int) :: wdM, (some .int), rmX6_saidNow, dM)) opX6_saidNow (by decide) rfl rfl okX6_saidNow (fun As σ h => by obtain ⟨rfl, h⟩ := h; exact Nat.le_of_ble_eq_true rfl) (fun As σ h G hG => by obtain ⟨rfl, h⟩ := h; exact hhX6_saidNow g σ h G hG)
theorem pv_mid_n {V : pv_V} {i : Nat} (h : ¬ (i ≤ V.2.2.1 % V.1 + V.2.1 ∧ V.2.2.1 % V.1 ≤ i + V.2.1)) : pv_mid V (i + 1) = pv_mid V i := by
  unfold pv_mid
  congr 3
  funext q
  by_cases hq : q = V.2.2.1 % V.1
  · rw [if_pos hq, if_pos hq]
  · rw [if_neg hq, if_neg hq]
    by_cases h2 : q < i ∧ q ≤ V.2.2.1 % V.1 + V.2.1 ∧ V.2.2.1 % V.1 ≤ q + V.2.1
    · rw [if_pos h2, if_pos (by omega)]
    · rw [if_neg h2, if_neg (fun z => ?_)]
      by_cases hqi : q = i
      · subst hqi; exact h z.2
      · exact h2 ⟨by omega, z.2⟩
theorem in_ear {i p e : Nat} (hi : i < 100) (hp : p < 100) (he : e < 100) : (-nI e ≤ nI i - nI p ∧ nI i - nI p ≤ nI e) ↔ (i ≤ p + e ∧ p ≤ i + e) := by
  rw [Int32.le_iff_toInt_le, Int32.le_iff_toInt_le, sb_negT (by omega), pk_sub_toInt (by omega) (by omega), nI_toInt (by omega)]
  omega
abbrev gtX6_dayGoes : Type := pv_V
def qrX6_dayGoes (V : pv_V) (σ : px_St) : Prop := mv_is (σ.1 2) V ∧ pv_ok V ∧ V.2.2.1 < 1999
def qoX6_dayGoes (V : pv_V) (σ : px_St) (_ : Unit) (σ' : px_St) : Prop := mv_is (σ'.1 2) (pv_day V) ∧ mn_only σ σ'
def prX6_dayGoes (g : gtX6_dayGoes) : List Value → px_St → Prop := fun As σ => As = [.ref 0] ∧ qrX6_dayGoes g σ
def poX6_dayGoes (g : gtX6_dayGoes) : List Value → px_St → Unit → px_St → Prop
  | [.ref _], σ, r, σ' => qoX6_dayGoes g σ r σ'
  | _, _, _, _ => False
theorem dX6_dayGoes_0 : decode cX6_dayGoes 0 = .ok (.aload_n 0, 1) := by decide +kernel
theorem dX6_dayGoes_1 : decode cX6_dayGoes 1 = .ok (.invokevirtual 147, 3) := by decide +kernel
theorem dX6_dayGoes_4 : decode cX6_dayGoes 4 = .ok (.istore_n 1, 1) := by decide +kernel
theorem dX6_dayGoes_5 : decode cX6_dayGoes 5 = .ok (.iload_n 1, 1) := by decide +kernel
theorem dX6_dayGoes_6 : decode cX6_dayGoes 6 = .ok (.bipush (-4), 2) := by decide +kernel
theorem dX6_dayGoes_8 : decode cX6_dayGoes 8 = .ok (.if_icmp .ne 8, 3) := by decide +kernel
theorem dX6_dayGoes_11 : decode cX6_dayGoes 11 = .ok (.bipush (-4), 2) := by decide +kernel
theorem dX6_dayGoes_13 : decode cX6_dayGoes 13 = .ok (.goto 18, 3) := by decide +kernel
theorem dX6_dayGoes_16 : decode cX6_dayGoes 16 = .ok (.aload_n 0, 1) := by decide +kernel
theorem dX6_dayGoes_17 : decode cX6_dayGoes 17 = .ok (.getfield 13, 3) := by decide +kernel
theorem dX6_dayGoes_20 : decode cX6_dayGoes 20 = .ok (.bipush 47, 2) := by decide +kernel
theorem dX6_dayGoes_22 : decode cX6_dayGoes 22 = .ok (.iaload, 1) := by decide +kernel
theorem dX6_dayGoes_23 : decode cX6_dayGoes 23 = .ok (.aload_n 0, 1) := by decide +kernel
theorem dX6_dayGoes_24 : decode cX6_dayGoes 24 = .ok (.getfield 13, 3) := by decide +kernel
theorem dX6_dayGoes_27 : decode cX6_dayGoes 27 = .ok (.bipush 45, 2) := by decide +kernel
theorem dX6_dayGoes_29 : decode cX6_dayGoes 29 = .ok (.iaload, 1) := by decide +kernel
theorem dX6_dayGoes_30 : decode cX6_dayGoes 30 = .ok (.irem, 1) := by decide +kernel
theorem dX6_dayGoes_31 : decode cX6_dayGoes 31 = .ok (.istore_n 2, 1) := by decide +kernel
theorem dX6_dayGoes_32 : decode cX6_dayGoes 32 = .ok (.iload_n 2, 1) := by decide +kernel
theorem dX6_dayGoes_33 : decode cX6_dayGoes 33 = .ok (.bipush (-4), 2) := by decide +kernel
theorem dX6_dayGoes_35 : decode cX6_dayGoes 35 = .ok (.if_icmp .eq 14, 3) := by decide +kernel
theorem dX6_dayGoes_38 : decode cX6_dayGoes 38 = .ok (.aload_n 0, 1) := by decide +kernel
theorem dX6_dayGoes_39 : decode cX6_dayGoes 39 = .ok (.iload_n 2, 1) := by decide +kernel
theorem dX6_dayGoes_40 : decode cX6_dayGoes 40 = .ok (.iconst 2, 1) := by decide +kernel
theorem dX6_dayGoes_41 : decode cX6_dayGoes 41 = .ok (.aload_n 0, 1) := by decide +kernel
theorem dX6_dayGoes_42 : decode cX6_dayGoes 42 = .ok (.iload_n 2, 1) := by decide +kernel
theorem dX6_dayGoes_43 : decode cX6_dayGoes 43 = .ok (.invokevirtual 150, 3) := by decide +kernel
theorem dX6_dayGoes_46 : decode cX6_dayGoes 46 = .ok (.invokevirtual 133, 3) := by decide +kernel
theorem dX6_dayGoes_49 : decode cX6_dayGoes 49 = .ok (.iconst 0, 1) := by decide +kernel
theorem dX6_dayGoes_50 : decode cX6_dayGoes 50 = .ok (.istore_n 3, 1) := by decide +kernel
theorem dX6_dayGoes_51 : decode cX6_dayGoes 51 = .ok (.iload_n 3, 1) := by decide +kernel
theorem dX6_dayGoes_52 : decode cX6_dayGoes 52 = .ok (.aload_n 0, 1) := by decide +kernel
theorem dX6_dayGoes_53 : decode cX6_dayGoes 53 = .ok (.getfield 13, 3) := by decide +kernel
theorem dX6_dayGoes_56 : decode cX6_dayGoes 56 = .ok (.bipush 45, 2) := by decide +kernel
theorem dX6_dayGoes_58 : decode cX6_dayGoes 58 = .ok (.iaload, 1) := by decide +kernel
theorem dX6_dayGoes_59 : decode cX6_dayGoes 59 = .ok (.if_icmp .ge 47, 3) := by decide +kernel
theorem dX6_dayGoes_62 : decode cX6_dayGoes 62 = .ok (.iload_n 3, 1) := by decide +kernel
theorem dX6_dayGoes_63 : decode cX6_dayGoes 63 = .ok (.iload_n 2, 1) := by decide +kernel
theorem dX6_dayGoes_64 : decode cX6_dayGoes 64 = .ok (.if_icmp .eq 36, 3) := by decide +kernel
theorem dX6_dayGoes_67 : decode cX6_dayGoes 67 = .ok (.iload_n 3, 1) := by decide +kernel
theorem dX6_dayGoes_68 : decode cX6_dayGoes 68 = .ok (.iload_n 2, 1) := by decide +kernel
theorem dX6_dayGoes_69 : decode cX6_dayGoes 69 = .ok (.isub, 1) := by decide +kernel
theorem dX6_dayGoes_70 : decode cX6_dayGoes 70 = .ok (.i2l, 1) := by decide +kernel
theorem dX6_dayGoes_71 : decode cX6_dayGoes 71 = .ok (.aload_n 0, 1) := by decide +kernel
theorem dX6_dayGoes_72 : decode cX6_dayGoes 72 = .ok (.getfield 13, 3) := by decide +kernel
theorem dX6_dayGoes_75 : decode cX6_dayGoes 75 = .ok (.bipush 46, 2) := by decide +kernel
theorem dX6_dayGoes_77 : decode cX6_dayGoes 77 = .ok (.iaload, 1) := by decide +kernel
theorem dX6_dayGoes_78 : decode cX6_dayGoes 78 = .ok (.ineg, 1) := by decide +kernel
theorem dX6_dayGoes_79 : decode cX6_dayGoes 79 = .ok (.i2l, 1) := by decide +kernel
theorem dX6_dayGoes_80 : decode cX6_dayGoes 80 = .ok (.aload_n 0, 1) := by decide +kernel
theorem dX6_dayGoes_81 : decode cX6_dayGoes 81 = .ok (.getfield 13, 3) := by decide +kernel
theorem dX6_dayGoes_84 : decode cX6_dayGoes 84 = .ok (.bipush 46, 2) := by decide +kernel
theorem dX6_dayGoes_86 : decode cX6_dayGoes 86 = .ok (.iaload, 1) := by decide +kernel
theorem dX6_dayGoes_87 : decode cX6_dayGoes 87 = .ok (.i2l, 1) := by decide +kernel
theorem dX6_dayGoes_88 : decode cX6_dayGoes 88 = .ok (.invokestatic 56, 3) := by decide +kernel
theorem dX6_dayGoes_91 : decode cX6_dayGoes 91 = .ok (.ifCond .eq 9, 3) := by decide +kernel
theorem dX6_dayGoes_94 : decode cX6_dayGoes 94 = .ok (.aload_n 0, 1) := by decide +kernel
theorem dX6_dayGoes_95 : decode cX6_dayGoes 95 = .ok (.iload_n 3, 1) := by decide +kernel
theorem dX6_dayGoes_96 : decode cX6_dayGoes 96 = .ok (.iload_n 1, 1) := by decide +kernel
theorem dX6_dayGoes_97 : decode cX6_dayGoes 97 = .ok (.invokevirtual 153, 3) := by decide +kernel
theorem dX6_dayGoes_100 : decode cX6_dayGoes 100 = .ok (.iinc 3 1, 3) := by decide +kernel
theorem dX6_dayGoes_103 : decode cX6_dayGoes 103 = .ok (.goto (-52), 3) := by decide +kernel
theorem dX6_dayGoes_106 : decode cX6_dayGoes 106 = .ok (.aload_n 0, 1) := by decide +kernel
theorem dX6_dayGoes_107 : decode cX6_dayGoes 107 = .ok (.getfield 13, 3) := by decide +kernel
theorem dX6_dayGoes_110 : decode cX6_dayGoes 110 = .ok (.bipush 47, 2) := by decide +kernel
theorem dX6_dayGoes_112 : decode cX6_dayGoes 112 = .ok (.dup2, 1) := by decide +kernel
theorem dX6_dayGoes_113 : decode cX6_dayGoes 113 = .ok (.iaload, 1) := by decide +kernel
theorem dX6_dayGoes_114 : decode cX6_dayGoes 114 = .ok (.iconst 1, 1) := by decide +kernel
theorem dX6_dayGoes_115 : decode cX6_dayGoes 115 = .ok (.iadd, 1) := by decide +kernel
theorem dX6_dayGoes_116 : decode cX6_dayGoes 116 = .ok (.iastore, 1) := by decide +kernel
theorem dX6_dayGoes_117 : decode cX6_dayGoes 117 = .ok (.return_, 1) := by decide +kernel
abbrev rmX6_dayGoes : Room := { frames := 3, cells := 0, slots := 0, locals := 70 }
def opX6_dayGoes (po : Unit → px_St → Prop) : List (Nat × px_Op) := [
  (0, px_al 1 0),
  (1, px_callV dM 4 6 0 px_vI prX6_saidNow poX6_saidNow),
  (4, px_is 5 1),
  (5, px_il 6 1),
  (6, px_push 8 (.int (-4))),
  (8, px_ic 11 16 (fun x y => ¬ x = y)),
  (11, px_push 13 (.int (-4))),
  (13, px_go 31),
  (16, px_al 17 0),
  (17, px_get dM 20 6 1),
  (20, px_push 22 (.int 47)),
  (22, px_ald dM 23 0),
  (23, px_al 24 0),
  (24, px_get dM 27 6 1),
  (27, px_push 29 (.int 45)),
  (29, px_ald dM 30 0),
  (30, px_div 31 (fun x y => x - x / y * y)),
  (31, px_is 32 2),
  (32, px_il 33 2),
  (33, px_push 35 (.int (-4))),
  (35, px_ic 38 49 (fun x y => x = y)),
  (38, px_al 39 0),
  (39, px_il 40 2),
  (40, px_push 41 (.int 2)),
  (41, px_al 42 0),
  (42, px_il 43 2),
  (43, px_callV dM 46 6 1 px_vI prX6_placeBehind poX6_placeBehind),
  (46, px_callV dM 49 6 3 px_vV prX6_becomesOf poX6_becomesOf),
  (49, px_push 50 (.int 0)),
  (50, px_is 51 3),
  (51, px_il 52 3),
  (52, px_al 53 0),
  (53, px_get dM 56 6 1),
  (56, px_push 58 (.int 45)),
  (58, px_ald dM 59 0),
  (59, px_ic 62 106 (fun x y => y ≤ x)),
  (62, px_il 63 3),
  (63, px_il 64 2),
  (64, px_ic 67 100 (fun x y => x = y)),
  (67, px_il 68 3),
  (68, px_il 69 2),
  (69, px_bin 70 (fun x y => x - y)),
  (70, px_i2l 71),
  (71, px_al 72 0),
  (72, px_get dM 75 6 1),
  (75, px_push 77 (.int 46)),
  (77, px_ald dM 78 0),
  (78, px_un 79 (fun x => -x)),
  (79, px_i2l 80),
  (80, px_al 81 0),
  (81, px_get dM 84 6 1),
  (84, px_push 86 (.int 46)),
  (86, px_ald dM 87 0),
  (87, px_i2l 88),
  (88, px_callS 91 3 px_vI prX6_in poX6_in),
  (91, px_if 94 100 (fun x => x = 0)),
  (94, px_al 95 0),
  (95, px_il 96 3),
  (96, px_il 97 1),
  (97, px_callV dM 100 6 2 px_vV prX6_learns poX6_learns),
  (100, px_inc 103 3 1),
  (103, px_go 51),
  (106, px_al 107 0),
  (107, px_get dM 110 6 1),
  (110, px_push 112 (.int 47)),
  (112, px_dup2 113),
  (113, px_ald dM 114 0),
  (114, px_push 115 (.int 1)),
  (115, px_bin 116 (fun x y => x + y)),
  (116, px_ast dM 117 0 (fun x => x)),
  (117, px_vret po)]
set_option maxRecDepth 100000 in
set_option maxHeartbeats 4000000 in
theorem okX6_dayGoes : ∀ (po : Unit → px_St → Prop) (i pc : Nat) (op : px_Op), (opX6_dayGoes po)[i]? = some (pc, op) → px_Snd (cX6_dayGoes, 4, RX6, Cond.code yX6_dayGoes cX6_dayGoes 4 none :: wdM, none, rmX6_dayGoes, dM) px_vV po pc op := by
  intro po
  unfold opX6_dayGoes
  refine px_ok_cons (ps_aload_n dX6_dayGoes_0 rfl) ?_
  refine px_ok_cons (ps_callV mX6_saidNow (fun _ _ => rfl) (C := RX6) rfl (fun _ _ ht => px_cwV wgM (wdM_2_in _ (List.mem_of_getElem? (i := 36) rfl)) (wdM_2_in _ (List.mem_of_getElem? (i := 37) rfl)) (wdM_2_in _ (List.mem_of_getElem? (i := 38) rfl)) (wdM_0_in _ (List.mem_of_getElem? (i := 22) rfl)) (wdM_2_in _ (List.mem_of_getElem? (i := 35) rfl)) (by decide +kernel) rfl rfl (by decide) ht) dX6_dayGoes_1) ?_
  refine px_ok_cons (ps_istore_n dX6_dayGoes_4 rfl (by decide)) ?_
  refine px_ok_cons (ps_iload_n dX6_dayGoes_5 rfl) ?_
  refine px_ok_cons (ps_bipush dX6_dayGoes_6 (by decide)) ?_
  refine px_ok_cons (ps_icmp_ne dX6_dayGoes_8 (by decide)) ?_
  refine px_ok_cons (ps_bipush dX6_dayGoes_11 (by decide)) ?_
  refine px_ok_cons (ps_goto dX6_dayGoes_13 (by decide)) ?_
  refine px_ok_cons (ps_aload_n dX6_dayGoes_16 rfl) ?_
  refine px_ok_cons (fgX6_13 dX6_dayGoes_17) ?_
  refine px_ok_cons (ps_bipush dX6_dayGoes_20 (by decide)) ?_
  refine px_ok_cons (ps_iaload dX6_dayGoes_22) ?_
  refine px_ok_cons (ps_aload_n dX6_dayGoes_23 rfl) ?_
  refine px_ok_cons (fgX6_13 dX6_dayGoes_24) ?_
  refine px_ok_cons (ps_bipush dX6_dayGoes_27 (by decide)) ?_
  refine px_ok_cons (ps_iaload dX6_dayGoes_29) ?_
  refine px_ok_cons (ps_irem dX6_dayGoes_30) ?_
  refine px_ok_cons (ps_istore_n dX6_dayGoes_31 rfl (by decide)) ?_
  refine px_ok_cons (ps_iload_n dX6_dayGoes_32 rfl) ?_
  refine px_ok_cons (ps_bipush dX6_dayGoes_33 (by decide)) ?_
  refine px_ok_cons (ps_icmp_eq dX6_dayGoes_35 (by decide)) ?_
  refine px_ok_cons (ps_aload_n dX6_dayGoes_38 rfl) ?_
  refine px_ok_cons (ps_iload_n dX6_dayGoes_39 rfl) ?_
  refine px_ok_cons (ps_iconst dX6_dayGoes_40 (by decide)) ?_
  refine px_ok_cons (ps_aload_n dX6_dayGoes_41 rfl) ?_
  refine px_ok_cons (ps_iload_n dX6_dayGoes_42 rfl) ?_
  refine px_ok_cons (ps_callV mX6_placeBehind (fun _ _ => rfl) (C := RX6) rfl (fun _ _ ht => px_cwV wgM (wdM_2_in _ (List.mem_of_getElem? (i := 39) rfl)) (wdM_3_in _ (List.mem_of_getElem? (i := 0) rfl)) (wdM_3_in _ (List.mem_of_getElem? (i := 1) rfl)) (wdM_0_in _ (List.mem_of_getElem? (i := 22) rfl)) (wdM_2_in _ (List.mem_of_getElem? (i := 19) rfl)) (by decide +kernel) rfl rfl (by decide) ht) dX6_dayGoes_43) ?_
  refine px_ok_cons (ps_callV mX6_becomesOf (fun _ _ => rfl) (C := RX6) rfl (fun _ _ ht => px_cwV wgM (wdM_2_in _ (List.mem_of_getElem? (i := 21) rfl)) (wdM_2_in _ (List.mem_of_getElem? (i := 22) rfl)) (wdM_2_in _ (List.mem_of_getElem? (i := 23) rfl)) (wdM_0_in _ (List.mem_of_getElem? (i := 22) rfl)) (wdM_2_in _ (List.mem_of_getElem? (i := 14) rfl)) (by decide +kernel) rfl rfl (by decide) ht) dX6_dayGoes_46) ?_
  refine px_ok_cons (ps_iconst dX6_dayGoes_49 (by decide)) ?_
  refine px_ok_cons (ps_istore_n dX6_dayGoes_50 rfl (by decide)) ?_
  refine px_ok_cons (ps_iload_n dX6_dayGoes_51 rfl) ?_
  refine px_ok_cons (ps_aload_n dX6_dayGoes_52 rfl) ?_
  refine px_ok_cons (fgX6_13 dX6_dayGoes_53) ?_
  refine px_ok_cons (ps_bipush dX6_dayGoes_56 (by decide)) ?_
  refine px_ok_cons (ps_iaload dX6_dayGoes_58) ?_
  refine px_ok_cons (ps_icmp_ge dX6_dayGoes_59 (by decide)) ?_
  refine px_ok_cons (ps_iload_n dX6_dayGoes_62 rfl) ?_
  refine px_ok_cons (ps_iload_n dX6_dayGoes_63 rfl) ?_
  refine px_ok_cons (ps_icmp_eq dX6_dayGoes_64 (by decide)) ?_
  refine px_ok_cons (ps_iload_n dX6_dayGoes_67 rfl) ?_
  refine px_ok_cons (ps_iload_n dX6_dayGoes_68 rfl) ?_
  refine px_ok_cons (ps_isub dX6_dayGoes_69) ?_
  refine px_ok_cons (ps_i2l dX6_dayGoes_70) ?_
  refine px_ok_cons (ps_aload_n dX6_dayGoes_71 rfl) ?_
  refine px_ok_cons (fgX6_13 dX6_dayGoes_72) ?_
  refine px_ok_cons (ps_bipush dX6_dayGoes_75 (by decide)) ?_
  refine px_ok_cons (ps_iaload dX6_dayGoes_77) ?_
  refine px_ok_cons (ps_ineg dX6_dayGoes_78) ?_
  refine px_ok_cons (ps_i2l dX6_dayGoes_79) ?_
  refine px_ok_cons (ps_aload_n dX6_dayGoes_80 rfl) ?_
  refine px_ok_cons (fgX6_13 dX6_dayGoes_81) ?_
  refine px_ok_cons (ps_bipush dX6_dayGoes_84 (by decide)) ?_
  refine px_ok_cons (ps_iaload dX6_dayGoes_86) ?_
  refine px_ok_cons (ps_i2l dX6_dayGoes_87) ?_
  refine px_ok_cons (ps_callS mX6_in (fun _ _ => rfl) (fun _ _ ht => px_cwS wgM (wdM_0_in _ (List.mem_of_getElem? (i := 32) rfl)) (wdM_0_in _ (List.mem_of_getElem? (i := 33) rfl)) (wdM_0_in _ (List.mem_of_getElem? (i := 22) rfl)) (wdM_0_in _ (List.mem_of_getElem? (i := 27) rfl)) (by decide +kernel) rfl rfl (by decide) ht) dX6_dayGoes_88) ?_
  refine px_ok_cons (ps_if_eq dX6_dayGoes_91 (by decide)) ?_
  refine px_ok_cons (ps_aload_n dX6_dayGoes_94 rfl) ?_
  refine px_ok_cons (ps_iload_n dX6_dayGoes_95 rfl) ?_
  refine px_ok_cons (ps_iload_n dX6_dayGoes_96 rfl) ?_
  refine px_ok_cons (ps_callV mX6_learns (fun _ _ => rfl) (C := RX6) rfl (fun _ _ ht => px_cwV wgM (wdM_3_in _ (List.mem_of_getElem? (i := 2) rfl)) (wdM_3_in _ (List.mem_of_getElem? (i := 3) rfl)) (wdM_3_in _ (List.mem_of_getElem? (i := 4) rfl)) (wdM_0_in _ (List.mem_of_getElem? (i := 22) rfl)) (wdM_2_in _ (List.mem_of_getElem? (i := 25) rfl)) (by decide +kernel) rfl rfl (by decide) ht) dX6_dayGoes_97) ?_
  refine px_ok_cons (ps_iinc dX6_dayGoes_100 (by decide) (by decide)) ?_
  refine px_ok_cons (ps_goto dX6_dayGoes_103 (by decide)) ?_
  refine px_ok_cons (ps_aload_n dX6_dayGoes_106 rfl) ?_
  refine px_ok_cons (fgX6_13 dX6_dayGoes_107) ?_
  refine px_ok_cons (ps_bipush dX6_dayGoes_110 (by decide)) ?_
  refine px_ok_cons (ps_dup2 dX6_dayGoes_112) ?_
  refine px_ok_cons (ps_iaload dX6_dayGoes_113) ?_
  refine px_ok_cons (ps_iconst dX6_dayGoes_114 (by decide)) ?_
  refine px_ok_cons (ps_iadd dX6_dayGoes_115) ?_
  refine px_ok_cons (ps_iastore dX6_dayGoes_116) ?_
  refine px_ok_cons (ps_return rfl dX6_dayGoes_117) ?_
  exact px_ok_nil
set_option maxRecDepth 100000 in
set_option maxHeartbeats 4000000 in
theorem sgX6_dayGoes_0 {po : Unit → px_St → Prop} {G : px_K} (hG : px_cl (opX6_dayGoes po) G) (σ : px_St)
    (H : ∃ g3 : gtX6_saidNow, qrX6_saidNow g3 σ ∧ ∀ (r1 : Int32) (σ2 : px_St), qoX6_saidNow g3 σ r1 σ2 → ((¬ r1 = (-4 : Int32)) → vp_in (47 : Int32) 61 ∧ vp_in (45 : Int32) 61 ∧ ¬ (σ2.1 2 (45 : Int32).toNatClampNeg) = 0 ∧ ((((σ2.1 2 (47 : Int32).toNatClampNeg) - (σ2.1 2 (47 : Int32).toNatClampNeg) / (σ2.1 2 (45 : Int32).toNatClampNeg) * (σ2.1 2 (45 : Int32).toNatClampNeg)) = (-4 : Int32)) → G 51 [some (.ref 0), some (.int r1), some (.int ((σ2.1 2 (47 : Int32).toNatClampNeg) - (σ2.1 2 (47 : Int32).toNatClampNeg) / (σ2.1 2 (45 : Int32).toNatClampNeg) * (σ2.1 2 (45 : Int32).toNatClampNeg))), some (.int (0 : Int32))] [] σ2) ∧ (¬ (((σ2.1 2 (47 : Int32).toNatClampNeg) - (σ2.1 2 (47 : Int32).toNatClampNeg) / (σ2.1 2 (45 : Int32).toNatClampNeg) * (σ2.1 2 (45 : Int32).toNatClampNeg)) = (-4 : Int32)) → ∃ g7 : gtX6_placeBehind, qrX6_placeBehind g7 ((σ2.1 2 (47 : Int32).toNatClampNeg) - (σ2.1 2 (47 : Int32).toNatClampNeg) / (σ2.1 2 (45 : Int32).toNatClampNeg) * (σ2.1 2 (45 : Int32).toNatClampNeg)) σ2 ∧ ∀ (r5 : Int32) (σ6 : px_St), qoX6_placeBehind g7 ((σ2.1 2 (47 : Int32).toNatClampNeg) - (σ2.1 2 (47 : Int32).toNatClampNeg) / (σ2.1 2 (45 : Int32).toNatClampNeg) * (σ2.1 2 (45 : Int32).toNatClampNeg)) σ2 r5 σ6 → ∃ g11 : gtX6_becomesOf, qrX6_becomesOf g11 ((σ2.1 2 (47 : Int32).toNatClampNeg) - (σ2.1 2 (47 : Int32).toNatClampNeg) / (σ2.1 2 (45 : Int32).toNatClampNeg) * (σ2.1 2 (45 : Int32).toNatClampNeg)) (2 : Int32) r5 σ6 ∧ ∀ (r9 : Unit) (σ10 : px_St), qoX6_becomesOf g11 ((σ2.1 2 (47 : Int32).toNatClampNeg) - (σ2.1 2 (47 : Int32).toNatClampNeg) / (σ2.1 2 (45 : Int32).toNatClampNeg) * (σ2.1 2 (45 : Int32).toNatClampNeg)) (2 : Int32) r5 σ6 r9 σ10 → G 51 [some (.ref 0), some (.int r1), some (.int ((σ2.1 2 (47 : Int32).toNatClampNeg) - (σ2.1 2 (47 : Int32).toNatClampNeg) / (σ2.1 2 (45 : Int32).toNatClampNeg) * (σ2.1 2 (45 : Int32).toNatClampNeg))), some (.int (0 : Int32))] [] σ10)) ∧ (¬ (¬ r1 = (-4 : Int32)) → (((-4 : Int32) = (-4 : Int32)) → G 51 [some (.ref 0), some (.int r1), some (.int (-4 : Int32)), some (.int (0 : Int32))] [] σ2) ∧ (¬ ((-4 : Int32) = (-4 : Int32)) → ∃ g16 : gtX6_placeBehind, qrX6_placeBehind g16 (-4 : Int32) σ2 ∧ ∀ (r14 : Int32) (σ15 : px_St), qoX6_placeBehind g16 (-4 : Int32) σ2 r14 σ15 → ∃ g20 : gtX6_becomesOf, qrX6_becomesOf g20 (-4 : Int32) (2 : Int32) r14 σ15 ∧ ∀ (r18 : Unit) (σ19 : px_St), qoX6_becomesOf g20 (-4 : Int32) (2 : Int32) r14 σ15 r18 σ19 → G 51 [some (.ref 0), some (.int r1), some (.int (-4 : Int32)), some (.int (0 : Int32))] [] σ19))) :
    G 0 (px_ent 4 [.ref 0]) [] σ := by
  refine hG.1 0 _ _ rfl _ _ _ ?_
  refine hG.1 1 _ _ rfl _ _ _ ?_
  obtain ⟨g3, H⟩ := H
  refine ⟨⟨rfl, by decide⟩, Nat.le_of_ble_eq_true rfl, g3, ⟨rfl, H.1⟩, fun r1 σ2 hp4 => ?_⟩
  replace H := H.2 r1 σ2 hp4
  refine hG.1 2 _ _ rfl _ _ _ ?_
  show G 5 [some (.ref 0), some (.int r1), none, none] [] σ2
  refine hG.1 3 _ _ rfl _ _ _ ?_
  refine hG.1 4 _ _ rfl _ _ _ ?_
  refine hG.1 5 _ _ rfl _ _ _ ?_
  refine ⟨fun h23 => ?_, fun h23 => ?_⟩
  · replace H := H.1 h23
    refine hG.1 8 _ _ rfl _ _ _ ?_
    refine hG.1 9 _ _ rfl _ _ _ ?_
    refine ⟨⟨rfl, by decide⟩, ?_⟩
    refine hG.1 10 _ _ rfl _ _ _ ?_
    refine hG.1 11 _ _ rfl _ _ _ ?_
    refine ⟨⟨rfl, by decide⟩, H.1, ?_⟩
    replace H := H.2
    refine hG.1 12 _ _ rfl _ _ _ ?_
    refine hG.1 13 _ _ rfl _ _ _ ?_
    refine ⟨⟨rfl, by decide⟩, ?_⟩
    refine hG.1 14 _ _ rfl _ _ _ ?_
    refine hG.1 15 _ _ rfl _ _ _ ?_
    refine ⟨⟨rfl, by decide⟩, H.1, ?_⟩
    replace H := H.2
    refine hG.1 16 _ _ rfl _ _ _ ?_
    refine ⟨H.1, ?_⟩
    replace H := H.2
    refine hG.1 17 _ _ rfl _ _ _ ?_
    show G 32 [some (.ref 0), some (.int r1), some (.int ((σ2.1 2 (47 : Int32).toNatClampNeg) - (σ2.1 2 (47 : Int32).toNatClampNeg) / (σ2.1 2 (45 : Int32).toNatClampNeg) * (σ2.1 2 (45 : Int32).toNatClampNeg))), none] [] σ2
    refine hG.1 18 _ _ rfl _ _ _ ?_
    refine hG.1 19 _ _ rfl _ _ _ ?_
    refine hG.1 20 _ _ rfl _ _ _ ?_
    refine ⟨fun h13 => ?_, fun h13 => ?_⟩
    · replace H := H.1 h13
      refine hG.1 28 _ _ rfl _ _ _ ?_
      refine hG.1 29 _ _ rfl _ _ _ ?_
      show G 51 [some (.ref 0), some (.int r1), some (.int ((σ2.1 2 (47 : Int32).toNatClampNeg) - (σ2.1 2 (47 : Int32).toNatClampNeg) / (σ2.1 2 (45 : Int32).toNatClampNeg) * (σ2.1 2 (45 : Int32).toNatClampNeg))), some (.int (0 : Int32))] [] σ2
      exact H
    · replace H := H.2 h13
      refine hG.1 21 _ _ rfl _ _ _ ?_
      refine hG.1 22 _ _ rfl _ _ _ ?_
      refine hG.1 23 _ _ rfl _ _ _ ?_
      refine hG.1 24 _ _ rfl _ _ _ ?_
      refine hG.1 25 _ _ rfl _ _ _ ?_
      refine hG.1 26 _ _ rfl _ _ _ ?_
      obtain ⟨g7, H⟩ := H
      refine ⟨⟨rfl, by decide⟩, Nat.le_of_ble_eq_true rfl, g7, ⟨_, rfl, H.1⟩, fun r5 σ6 hp8 => ?_⟩
      replace H := H.2 r5 σ6 hp8
      refine hG.1 27 _ _ rfl _ _ _ ?_
      obtain ⟨g11, H⟩ := H
      refine ⟨⟨rfl, by decide⟩, Nat.le_of_ble_eq_true rfl, g11, ⟨_, _, _, rfl, H.1⟩, fun r9 σ10 hp12 => ?_⟩
      replace H := H.2 r9 σ10 hp12
      refine hG.1 28 _ _ rfl _ _ _ ?_
      refine hG.1 29 _ _ rfl _ _ _ ?_
      show G 51 [some (.ref 0), some (.int r1), some (.int ((σ2.1 2 (47 : Int32).toNatClampNeg) - (σ2.1 2 (47 : Int32).toNatClampNeg) / (σ2.1 2 (45 : Int32).toNatClampNeg) * (σ2.1 2 (45 : Int32).toNatClampNeg))), some (.int (0 : Int32))] [] σ10
      exact H
  · replace H := H.2 h23
    refine hG.1 6 _ _ rfl _ _ _ ?_
    refine hG.1 7 _ _ rfl _ _ _ ?_
    refine hG.1 17 _ _ rfl _ _ _ ?_
    show G 32 [some (.ref 0), some (.int r1), some (.int (-4 : Int32)), none] [] σ2
    refine hG.1 18 _ _ rfl _ _ _ ?_
    refine hG.1 19 _ _ rfl _ _ _ ?_
    refine hG.1 20 _ _ rfl _ _ _ ?_
    refine ⟨fun h22 => ?_, fun h22 => ?_⟩
    · replace H := H.1 h22
      refine hG.1 28 _ _ rfl _ _ _ ?_
      refine hG.1 29 _ _ rfl _ _ _ ?_
      show G 51 [some (.ref 0), some (.int r1), some (.int (-4 : Int32)), some (.int (0 : Int32))] [] σ2
      exact H
    · replace H := H.2 h22
      refine hG.1 21 _ _ rfl _ _ _ ?_
      refine hG.1 22 _ _ rfl _ _ _ ?_
      refine hG.1 23 _ _ rfl _ _ _ ?_
      refine hG.1 24 _ _ rfl _ _ _ ?_
      refine hG.1 25 _ _ rfl _ _ _ ?_
      refine hG.1 26 _ _ rfl _ _ _ ?_
      obtain ⟨g16, H⟩ := H
      refine ⟨⟨rfl, by decide⟩, Nat.le_of_ble_eq_true rfl, g16, ⟨_, rfl, H.1⟩, fun r14 σ15 hp17 => ?_⟩
      replace H := H.2 r14 σ15 hp17
      refine hG.1 27 _ _ rfl _ _ _ ?_
      obtain ⟨g20, H⟩ := H
      refine ⟨⟨rfl, by decide⟩, Nat.le_of_ble_eq_true rfl, g20, ⟨_, _, _, rfl, H.1⟩, fun r18 σ19 hp21 => ?_⟩
      replace H := H.2 r18 σ19 hp21
      refine hG.1 28 _ _ rfl _ _ _ ?_
      refine hG.1 29 _ _ rfl _ _ _ ?_
      show G 51 [some (.ref 0), some (.int r1), some (.int (-4 : Int32)), some (.int (0 : Int32))] [] σ19
      exact H
set_option maxRecDepth 100000 in
set_option maxHeartbeats 4000000 in
theorem sgX6_dayGoes_51 {po : Unit → px_St → Prop} {G : px_K} (hG : px_cl (opX6_dayGoes po) G) (v1 : Int32) (v2 : Int32) (v3 : Int32) (σ : px_St)
    (H : vp_in (45 : Int32) 61 ∧ (((σ.1 2 (45 : Int32).toNatClampNeg) ≤ v3) → vp_in (47 : Int32) 61 ∧ vp_in (47 : Int32) 61 ∧ po () (px_up σ 2 (47 : Int32).toNatClampNeg ((σ.1 2 (47 : Int32).toNatClampNeg) + (1 : Int32)))) ∧ (¬ ((σ.1 2 (45 : Int32).toNatClampNeg) ≤ v3) → ((v3 = v2) → G 51 [some (.ref 0), some (.int v1), some (.int v2), some (.int (v3 + 1))] [] σ) ∧ (¬ (v3 = v2) → vp_in (46 : Int32) 61 ∧ vp_in (46 : Int32) 61 ∧ ∃ g3 : gtX6_in, qrX6_in g3 ((v3 - v2).toInt64) ((-(σ.1 2 (46 : Int32).toNatClampNeg)).toInt64) ((σ.1 2 (46 : Int32).toNatClampNeg).toInt64) σ ∧ ∀ (r1 : Int32) (σ2 : px_St), qoX6_in g3 ((v3 - v2).toInt64) ((-(σ.1 2 (46 : Int32).toNatClampNeg)).toInt64) ((σ.1 2 (46 : Int32).toNatClampNeg).toInt64) σ r1 σ2 → ((r1 = 0) → G 51 [some (.ref 0), some (.int v1), some (.int v2), some (.int (v3 + 1))] [] σ2) ∧ (¬ (r1 = 0) → ∃ g7 : gtX6_learns, qrX6_learns g7 v3 v1 σ2 ∧ ∀ (r5 : Unit) (σ6 : px_St), qoX6_learns g7 v3 v1 σ2 r5 σ6 → G 51 [some (.ref 0), some (.int v1), some (.int v2), some (.int (v3 + 1))] [] σ6)))) :
    G 51 [some (.ref 0), some (.int v1), some (.int v2), some (.int v3)] [] σ := by
  refine hG.1 30 _ _ rfl _ _ _ ?_
  refine hG.1 31 _ _ rfl _ _ _ ?_
  refine hG.1 32 _ _ rfl _ _ _ ?_
  refine ⟨⟨rfl, by decide⟩, ?_⟩
  refine hG.1 33 _ _ rfl _ _ _ ?_
  refine hG.1 34 _ _ rfl _ _ _ ?_
  refine ⟨⟨rfl, by decide⟩, H.1, ?_⟩
  replace H := H.2
  refine hG.1 35 _ _ rfl _ _ _ ?_
  refine ⟨fun h11 => ?_, fun h11 => ?_⟩
  · replace H := H.1 h11
    refine hG.1 62 _ _ rfl _ _ _ ?_
    refine hG.1 63 _ _ rfl _ _ _ ?_
    refine ⟨⟨rfl, by decide⟩, ?_⟩
    refine hG.1 64 _ _ rfl _ _ _ ?_
    refine hG.1 65 _ _ rfl _ _ _ ?_
    refine hG.1 66 _ _ rfl _ _ _ ?_
    refine ⟨⟨rfl, by decide⟩, H.1, ?_⟩
    replace H := H.2
    refine hG.1 67 _ _ rfl _ _ _ ?_
    refine hG.1 68 _ _ rfl _ _ _ ?_
    refine hG.1 69 _ _ rfl _ _ _ ?_
    refine ⟨⟨rfl, by decide⟩, H.1, ?_⟩
    replace H := H.2
    refine hG.1 70 _ _ rfl _ _ _ ?_
    exact H
  · replace H := H.2 h11
    refine hG.1 36 _ _ rfl _ _ _ ?_
    refine hG.1 37 _ _ rfl _ _ _ ?_
    refine hG.1 38 _ _ rfl _ _ _ ?_
    refine ⟨fun h10 => ?_, fun h10 => ?_⟩
    · replace H := H.1 h10
      refine hG.1 60 _ _ rfl _ _ _ ?_
      show G 103 [some (.ref 0), some (.int v1), some (.int v2), some (.int (v3 + 1))] [] σ
      refine hG.1 61 _ _ rfl _ _ _ ?_
      exact H
    · replace H := H.2 h10
      refine hG.1 39 _ _ rfl _ _ _ ?_
      refine hG.1 40 _ _ rfl _ _ _ ?_
      refine hG.1 41 _ _ rfl _ _ _ ?_
      refine hG.1 42 _ _ rfl _ _ _ ?_
      refine hG.1 43 _ _ rfl _ _ _ ?_
      refine hG.1 44 _ _ rfl _ _ _ ?_
      refine ⟨⟨rfl, by decide⟩, ?_⟩
      refine hG.1 45 _ _ rfl _ _ _ ?_
      refine hG.1 46 _ _ rfl _ _ _ ?_
      refine ⟨⟨rfl, by decide⟩, H.1, ?_⟩
      replace H := H.2
      refine hG.1 47 _ _ rfl _ _ _ ?_
      refine hG.1 48 _ _ rfl _ _ _ ?_
      refine hG.1 49 _ _ rfl _ _ _ ?_
      refine hG.1 50 _ _ rfl _ _ _ ?_
      refine ⟨⟨rfl, by decide⟩, ?_⟩
      refine hG.1 51 _ _ rfl _ _ _ ?_
      refine hG.1 52 _ _ rfl _ _ _ ?_
      refine ⟨⟨rfl, by decide⟩, H.1, ?_⟩
      replace H := H.2
      refine hG.1 53 _ _ rfl _ _ _ ?_
      refine hG.1 54 _ _ rfl _ _ _ ?_
      obtain ⟨g3, H⟩ := H
      refine ⟨Nat.le_of_ble_eq_true rfl, Nat.le_of_ble_eq_true rfl, g3, ⟨_, _, _, rfl, H.1⟩, fun r1 σ2 hp4 => ?_⟩
      replace H := H.2 r1 σ2 hp4
      refine hG.1 55 _ _ rfl _ _ _ ?_
      refine ⟨fun h9 => ?_, fun h9 => ?_⟩
      · replace H := H.1 h9
        refine hG.1 60 _ _ rfl _ _ _ ?_
        show G 103 [some (.ref 0), some (.int v1), some (.int v2), some (.int (v3 + 1))] [] σ2
        refine hG.1 61 _ _ rfl _ _ _ ?_
        exact H
      · replace H := H.2 h9
        refine hG.1 56 _ _ rfl _ _ _ ?_
        refine hG.1 57 _ _ rfl _ _ _ ?_
        refine hG.1 58 _ _ rfl _ _ _ ?_
        refine hG.1 59 _ _ rfl _ _ _ ?_
        obtain ⟨g7, H⟩ := H
        refine ⟨⟨rfl, by decide⟩, Nat.le_of_ble_eq_true rfl, g7, ⟨_, _, rfl, H.1⟩, fun r5 σ6 hp8 => ?_⟩
        replace H := H.2 r5 σ6 hp8
        refine hG.1 60 _ _ rfl _ _ _ ?_
        show G 103 [some (.ref 0), some (.int v1), some (.int v2), some (.int (v3 + 1))] [] σ6
        refine hG.1 61 _ _ rfl _ _ _ ?_
        exact H
set_option maxRecDepth 100000 in
set_option maxHeartbeats 4000000 in
theorem hhX6_dayGoes (g : gtX6_dayGoes) (σ : px_St) (h : qrX6_dayGoes g σ) (G : px_K) (hG : px_cl (opX6_dayGoes (qoX6_dayGoes g σ)) G) : G 0 (px_ent 4 [.ref 0]) [] σ := by
  obtain ⟨hV, hok, hd⟩ := h
  have hw := hok.1
  have h5 := hw.1
  have hear := hw.2.1
  have hi45 : vp_in (45 : Int32) 61 := vpin 45 61 rfl (by omega) (by omega)
  have hi46 : vp_in (46 : Int32) 61 := vpin 46 61 rfl (by omega) (by omega)
  have hi47 : vp_in (47 : Int32) 61 := vpin 47 61 rfl (by omega) (by omega)
  refine sgX6_dayGoes_0 hG σ ⟨g, ⟨hV, hok⟩, fun r σ2 hq => ?_⟩
  obtain ⟨rfl, rfl⟩ := hq
  rcases Nat.eq_zero_or_pos g.1 with hn | hn
  · have es : pv_said g = -4 := by unfold pv_said; rw [if_pos hn]
    refine ⟨fun z => absurd es z, fun _ => ⟨fun _ => ?_, fun z => absurd rfl z⟩⟩
    refine sgX6_dayGoes_51 hG _ _ _ σ2 ?_
    rw [c45, c47, hV.1.1, hV.1.2.2, nI_1, hn]
    refine ⟨hi45, fun _ => ⟨hi47, hi47, ⟨⟨?_, ?_, ?_⟩, fun q hq => ?_⟩, mn_only.up (by omega)⟩, fun z => absurd (by decide) z⟩
    · rw [px_up_at, if_neg (by omega)]; exact hV.1.1
    · rw [px_up_at, if_neg (by omega)]; exact hV.1.2.1
    · rw [px_up_at, if_pos ⟨rfl, rfl⟩]; rfl
    · have hq' : q < g.1 := hq
      omega
  · have hlt := pv_spk_lt hn
    have es : pv_said g = nI (pv_due g) := by unfold pv_said; rw [if_neg (by omega)]
    have hdue := pv_due_le hok hn
    have hne : ¬ pv_said g = -4 := fun z => absurd (show nI (pv_due g) < 0 by rw [← es, z]; decide) (nI_pos (by omega))
    have hne2 : ¬ nI (g.2.2.1 % g.1) = -4 := fun z => absurd (show nI (g.2.2.1 % g.1) < 0 by rw [z]; decide) (nI_pos (by omega))
    refine ⟨fun _ => ?_, fun z => absurd hne z⟩
    rw [c45, c47, hV.1.1, hV.1.2.2, pk_rem (by omega) hn (by omega)]
    refine ⟨hi47, hi45, nI_ne0 hn (by omega), fun z => absurd z hne2, fun _ => ⟨(g, g.2.2.1 % g.1), ⟨hV, hok, hlt, rfl⟩, fun r σ3 hq => ?_⟩⟩
    obtain ⟨rfl, rfl⟩ := hq
    refine ⟨9 * (g.2.2.1 % g.1) + 2, ⟨by omega, ix9 _ 2⟩, fun _ σ4 hq => ?_⟩
    have e4 : σ4 = px_up σ3 2 (9 * (g.2.2.1 % g.1) + 2) (nI (pv_next (g.2.2.2 (g.2.2.1 % g.1)))) := hq
    subst e4
    obtain ⟨g1, g2, g3, g4⟩ := hV.2 _ hlt
    have hl := (hw.2.2.2 _ hlt).2.1
    have hV1 : mv_is ((px_up σ3 2 (9 * (g.2.2.1 % g.1) + 2) (nI (pv_next (g.2.2.2 (g.2.2.1 % g.1))))).1 2) (pv_mid g 0) := by
      rw [← pv_mid_0 (Nat.zero_le _)]
      refine mv_mod hV (fun q hq => (hw.2.2.2 q hq).2.1) (by omega) (fun j hj => by rw [px_up_at, if_neg (by omega)]) ⟨?_, ?_, ?_, fun i x hx => ?_⟩
      · rw [px_up_at, if_neg (by omega)]; exact g1
      · rw [px_up_at, if_neg (by omega)]; exact g2
      · rw [px_up_at, if_pos ⟨rfl, rfl⟩]
      · rw [px_up_at, if_neg (by omega)]; exact g4 i x hx
    have loop : ∀ n i, i + n = g.1 → ∀ σ', mv_is (σ'.1 2) (pv_mid g i) → mn_only σ3 σ' → G 51 [some (.ref 0), some (.int (pv_said g)), some (.int (nI (g.2.2.1 % g.1))), some (.int (nI i))] [] σ' := by
      intro n
      induction n with
      | zero =>
        intro i hi σ' hm ho
        have hmw := pv_mid_w hok hn i
        refine sgX6_dayGoes_51 hG _ _ _ σ' ?_
        rw [c45, c47, hm.1.1, hm.1.2.2, nI_1]
        refine ⟨hi45, fun _ => ⟨hi47, hi47, ⟨⟨?_, ?_, ?_⟩, fun q hq => ?_⟩, ho.tr (mn_only.up (by omega))⟩, fun z => absurd (nI_le (show g.1 ≤ i by omega) (by omega)) z⟩
        · rw [px_up_at, if_neg (by omega)]; exact hm.1.1
        · rw [px_up_at, if_neg (by omega)]; exact hm.1.2.1
        · rw [px_up_at, if_pos ⟨rfl, rfl⟩]; rfl
        · have hq' : q < g.1 := hq
          have e1 : (pv_day g).2.2.2 q = (pv_mid g i).2.2.2 q := by
            show (if g.1 = 0 then g.2.2.2 q else if q = g.2.2.1 % g.1 then ((g.2.2.2 q).1, pv_next (g.2.2.2 q), (g.2.2.2 q).2.2) else if q ≤ g.2.2.1 % g.1 + g.2.1 ∧ g.2.2.1 % g.1 ≤ q + g.2.1 then pv_learn (g.2.2.2 q) (pv_due g) else g.2.2.2 q) = (if q = g.2.2.1 % g.1 then ((g.2.2.2 q).1, pv_next (g.2.2.2 q), (g.2.2.2 q).2.2) else if q < i ∧ q ≤ g.2.2.1 % g.1 + g.2.1 ∧ g.2.2.1 % g.1 ≤ q + g.2.1 then pv_learn (g.2.2.2 q) (pv_due g) else g.2.2.2 q)
            rw [if_neg (by omega)]
            by_cases hqp : q = g.2.2.1 % g.1
            · rw [if_pos hqp, if_pos hqp]
            · rw [if_neg hqp, if_neg hqp]
              by_cases h3 : q ≤ g.2.2.1 % g.1 + g.2.1 ∧ g.2.2.1 % g.1 ≤ q + g.2.1
              · rw [if_pos h3, if_pos (by omega)]
              · rw [if_neg h3, if_neg (by omega)]
          rw [e1]
          exact (hm.2 q hq').cg (hmw.2.2.2 q hq').2.1 (fun j a b => by rw [px_up_at, if_neg (by omega)])
      | succ n ih =>
        intro i hi σ' hm ho
        have hig : i < g.1 := by omega
        refine sgX6_dayGoes_51 hG _ _ _ σ' ?_
        rw [c45, c46, hm.1.1, hm.1.2.1, nI_1]
        refine ⟨hi45, fun z => absurd z (nI_ge (show i < g.1 from hig) (by show g.1 < 2 ^ 31; omega)), fun _ => ⟨fun hip => ?_, fun hip => ⟨hi46, hi46, (), trivial, fun r σ5 hq => ?_⟩⟩⟩
        · have hi2 : i = g.2.2.1 % g.1 := (nI_eq (by omega) (by omega)).mp hip
          refine ih (i + 1) (by omega) σ' ?_ ho
          rw [hi2, pv_mid_p, ← hi2]
          exact hm
        · have hi2 : i ≠ g.2.2.1 % g.1 := fun z => hip (by rw [z])
          obtain ⟨rfl, b5⟩ := hq
          have b6 := in_c (v := nI i - nI (g.2.2.1 % g.1)) (a := -nI g.2.1) (b := nI g.2.1) rfl rfl b5
          rw [in_ear (by omega) (by omega) (by omega)] at b6
          refine bz2 b6 (fun y => ⟨(pv_mid g i, i, pv_due g), ⟨hm, pv_mid_w hok hn i, hig, hdue, rfl, es⟩, fun _ σ6 hq => ?_⟩) (fun y => ?_)
          · obtain ⟨q1, q2⟩ := hq
            rw [pv_mid_s hi2 y.1 y.2] at q1
            exact ih (i + 1) (by omega) σ6 q1 (ho.tr q2)
          · refine ih (i + 1) (by omega) _ ?_ ho
            rw [pv_mid_n y]
            exact hm
    exact loop g.1 0 (by omega) _ hV1 (mn_only.up (by omega))
theorem mX6_dayGoes (g : gtX6_dayGoes) : px_Met dM yX6_dayGoes (Cond.code yX6_dayGoes cX6_dayGoes 4 none :: wdM) rmX6_dayGoes px_vV (prX6_dayGoes g) (poX6_dayGoes g) :=
  px_met (Z := (cX6_dayGoes, 4, RX6, Cond.code yX6_dayGoes cX6_dayGoes 4 none :: wdM, none, rmX6_dayGoes, dM)) opX6_dayGoes (by decide) rfl rfl okX6_dayGoes (fun As σ h => by obtain ⟨rfl, h⟩ := h; exact Nat.le_of_ble_eq_true rfl) (fun As σ h G hG => by obtain ⟨rfl, h⟩ := h; exact hhX6_dayGoes g σ h G hG)
