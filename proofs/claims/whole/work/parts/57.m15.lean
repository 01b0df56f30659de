/-! ===== the reference's text ===== -/
def frE (σ σ' : px_St) : Prop := (∀ k, k ≠ 0 → k ≠ 4 → σ'.1 k = σ.1 k) ∧ ∀ j, j ≠ 4 → (j < 7 ∨ 12 < j) → σ'.1 0 j = σ.1 0 j
theorem frE.rf {σ : px_St} : frE σ σ := ⟨fun _ _ _ => rfl, fun _ _ _ => rfl⟩
theorem frE.tr {σ σ' σ'' : px_St} (h : frE σ σ') (h' : frE σ' σ'') : frE σ σ'' := ⟨fun k a b => (h'.1 k a b).trans (h.1 k a b), fun j h4 hj => (h'.2 j h4 hj).trans (h.2 j h4 hj)⟩
theorem frD.E {σ σ' : px_St} (h : frD σ σ') : frE σ σ' := ⟨h.1, fun j _ b => h.2 j b⟩
theorem frE.up4 {σ : px_St} {x : Int32} : frE σ (px_up σ 0 4 x) := ⟨fun k a _ => px_up_n a, fun i a _ => up0n a⟩
theorem rbM.keptE {σ σ' : px_St} {T : List Nat} (h : rbM σ T) (ho : frE σ σ') : rbM σ' T := ⟨by rw [ho.2 6 (by omega) (by omega)]; exact h.1, fun i hi => by rw [ho.1 5 (by omega) (by omega)]; exact h.2 i hi⟩
/-- a line, and the token behind it -/
noncomputable def pt_lnx (T : List Nat) (V : pv_V) (e : Nat) (t : pt_K) : Sum (Nat × Nat) (pv_V × Nat × pt_K) := pt_b (pt_line T V e t) (fun w => pt_b (pt_next T w.2.2.2.2.1) (fun t' => .inr (w.1, w.2.1, t')))
abbrev gtX6_readLine : Type := List Nat × pv_V × Nat × pt_K
def qrX6_readLine : gtX6_readLine → px_St → Prop
  | (T, V, e, t), σ => rbM σ T ∧ tx_ok T ∧ dr_is σ V ∧ pv_ok V ∧ σ.1 0 4 = nI e ∧ e ≤ 1 ∧ rdM σ t ∧ tk_ok T t
def qoX6_readLine : gtX6_readLine → px_St → Unit → px_St → Prop
  | (T, V, e, t), σ, _, σ' => rsM σ' (fun w : pv_V × Nat × pt_K => rdM σ' w.2.2 ∧ dr_is σ' w.1 ∧ σ'.1 0 4 = nI w.2.1) (pt_lnx T V e t) ∧ frE σ σ'
def prX6_readLine (g : gtX6_readLine) : List Value → px_St → Prop := fun As σ => As = [.ref 0] ∧ qrX6_readLine g σ
def poX6_readLine (g : gtX6_readLine) : List Value → px_St → Unit → px_St → Prop
  | [.ref _], σ, r, σ' => qoX6_readLine g σ r σ'
  | _, _, _, _ => False
theorem dX6_readLine_0 : decode cX6_readLine 0 = .ok (.aload_n 0, 1) := by decide +kernel
theorem dX6_readLine_1 : decode cX6_readLine 1 = .ok (.getfield 88, 3) := by decide +kernel
theorem dX6_readLine_4 : decode cX6_readLine 4 = .ok (.iconst 1, 1) := by decide +kernel
theorem dX6_readLine_5 : decode cX6_readLine 5 = .ok (.if_icmp .ne 10, 3) := by decide +kernel
theorem dX6_readLine_8 : decode cX6_readLine 8 = .ok (.aload_n 0, 1) := by decide +kernel
theorem dX6_readLine_9 : decode cX6_readLine 9 = .ok (.invokevirtual 113, 3) := by decide +kernel
theorem dX6_readLine_12 : decode cX6_readLine 12 = .ok (.goto 5, 3) := by decide +kernel
theorem dX6_readLine_15 : decode cX6_readLine 15 = .ok (.bipush (-4), 2) := by decide +kernel
theorem dX6_readLine_17 : decode cX6_readLine 17 = .ok (.istore_n 1, 1) := by decide +kernel
theorem dX6_readLine_18 : decode cX6_readLine 18 = .ok (.aload_n 0, 1) := by decide +kernel
theorem dX6_readLine_19 : decode cX6_readLine 19 = .ok (.iload_n 1, 1) := by decide +kernel
theorem dX6_readLine_20 : decode cX6_readLine 20 = .ok (.bipush (-4), 2) := by decide +kernel
theorem dX6_readLine_22 : decode cX6_readLine 22 = .ok (.if_icmp .eq 7, 3) := by decide +kernel
theorem dX6_readLine_25 : decode cX6_readLine 25 = .ok (.iconst 1, 1) := by decide +kernel
theorem dX6_readLine_26 : decode cX6_readLine 26 = .ok (.goto 4, 3) := by decide +kernel
theorem dX6_readLine_29 : decode cX6_readLine 29 = .ok (.iconst 0, 1) := by decide +kernel
theorem dX6_readLine_30 : decode cX6_readLine 30 = .ok (.iconst 2, 1) := by decide +kernel
theorem dX6_readLine_31 : decode cX6_readLine 31 = .ok (.invokevirtual 102, 3) := by decide +kernel
theorem dX6_readLine_34 : decode cX6_readLine 34 = .ok (.aload_n 0, 1) := by decide +kernel
theorem dX6_readLine_35 : decode cX6_readLine 35 = .ok (.iload_n 1, 1) := by decide +kernel
theorem dX6_readLine_36 : decode cX6_readLine 36 = .ok (.iconst 4, 1) := by decide +kernel
theorem dX6_readLine_37 : decode cX6_readLine 37 = .ok (.if_icmp .ge 14, 3) := by decide +kernel
theorem dX6_readLine_40 : decode cX6_readLine 40 = .ok (.aload_n 0, 1) := by decide +kernel
theorem dX6_readLine_41 : decode cX6_readLine 41 = .ok (.getfield 20, 3) := by decide +kernel
theorem dX6_readLine_44 : decode cX6_readLine 44 = .ok (.bipush 45, 2) := by decide +kernel
theorem dX6_readLine_46 : decode cX6_readLine 46 = .ok (.iaload, 1) := by decide +kernel
theorem dX6_readLine_47 : decode cX6_readLine 47 = .ok (.iconst 5, 1) := by decide +kernel
theorem dX6_readLine_48 : decode cX6_readLine 48 = .ok (.if_icmp .ge 7, 3) := by decide +kernel
theorem dX6_readLine_51 : decode cX6_readLine 51 = .ok (.iconst 1, 1) := by decide +kernel
theorem dX6_readLine_52 : decode cX6_readLine 52 = .ok (.goto 4, 3) := by decide +kernel
theorem dX6_readLine_55 : decode cX6_readLine 55 = .ok (.iconst 0, 1) := by decide +kernel
theorem dX6_readLine_56 : decode cX6_readLine 56 = .ok (.iconst 5, 1) := by decide +kernel
theorem dX6_readLine_57 : decode cX6_readLine 57 = .ok (.invokevirtual 102, 3) := by decide +kernel
theorem dX6_readLine_60 : decode cX6_readLine 60 = .ok (.aload_n 0, 1) := by decide +kernel
theorem dX6_readLine_61 : decode cX6_readLine 61 = .ok (.iload_n 1, 1) := by decide +kernel
theorem dX6_readLine_62 : decode cX6_readLine 62 = .ok (.iconst 4, 1) := by decide +kernel
theorem dX6_readLine_63 : decode cX6_readLine 63 = .ok (.if_icmp .ne 10, 3) := by decide +kernel
theorem dX6_readLine_66 : decode cX6_readLine 66 = .ok (.aload_n 0, 1) := by decide +kernel
theorem dX6_readLine_67 : decode cX6_readLine 67 = .ok (.getfield 50, 3) := by decide +kernel
theorem dX6_readLine_70 : decode cX6_readLine 70 = .ok (.ifCond .ne 7, 3) := by decide +kernel
theorem dX6_readLine_73 : decode cX6_readLine 73 = .ok (.iconst 1, 1) := by decide +kernel
theorem dX6_readLine_74 : decode cX6_readLine 74 = .ok (.goto 4, 3) := by decide +kernel
theorem dX6_readLine_77 : decode cX6_readLine 77 = .ok (.iconst 0, 1) := by decide +kernel
theorem dX6_readLine_78 : decode cX6_readLine 78 = .ok (.iconst 4, 1) := by decide +kernel
theorem dX6_readLine_79 : decode cX6_readLine 79 = .ok (.invokevirtual 102, 3) := by decide +kernel
theorem dX6_readLine_82 : decode cX6_readLine 82 = .ok (.aload_n 0, 1) := by decide +kernel
theorem dX6_readLine_83 : decode cX6_readLine 83 = .ok (.aload_n 0, 1) := by decide +kernel
theorem dX6_readLine_84 : decode cX6_readLine 84 = .ok (.getfield 50, 3) := by decide +kernel
theorem dX6_readLine_87 : decode cX6_readLine 87 = .ok (.ifCond .ne 8, 3) := by decide +kernel
theorem dX6_readLine_90 : decode cX6_readLine 90 = .ok (.iload_n 1, 1) := by decide +kernel
theorem dX6_readLine_91 : decode cX6_readLine 91 = .ok (.iconst 4, 1) := by decide +kernel
theorem dX6_readLine_92 : decode cX6_readLine 92 = .ok (.if_icmp .ne 7, 3) := by decide +kernel
theorem dX6_readLine_95 : decode cX6_readLine 95 = .ok (.iconst 1, 1) := by decide +kernel
theorem dX6_readLine_96 : decode cX6_readLine 96 = .ok (.goto 4, 3) := by decide +kernel
theorem dX6_readLine_99 : decode cX6_readLine 99 = .ok (.iconst 0, 1) := by decide +kernel
theorem dX6_readLine_100 : decode cX6_readLine 100 = .ok (.putfield 50, 3) := by decide +kernel
theorem dX6_readLine_103 : decode cX6_readLine 103 = .ok (.aload_n 0, 1) := by decide +kernel
theorem dX6_readLine_104 : decode cX6_readLine 104 = .ok (.invokevirtual 106, 3) := by decide +kernel
theorem dX6_readLine_107 : decode cX6_readLine 107 = .ok (.aload_n 0, 1) := by decide +kernel
theorem dX6_readLine_108 : decode cX6_readLine 108 = .ok (.getfield 64, 3) := by decide +kernel
theorem dX6_readLine_111 : decode cX6_readLine 111 = .ok (.ifCond .le 4, 3) := by decide +kernel
theorem dX6_readLine_114 : decode cX6_readLine 114 = .ok (.return_, 1) := by decide +kernel
theorem dX6_readLine_115 : decode cX6_readLine 115 = .ok (.iload_n 1, 1) := by decide +kernel
theorem dX6_readLine_116 : decode cX6_readLine 116 = .ok (.iconst 4, 1) := by decide +kernel
theorem dX6_readLine_117 : decode cX6_readLine 117 = .ok (.if_icmp .ne 19, 3) := by decide +kernel
theorem dX6_readLine_120 : decode cX6_readLine 120 = .ok (.aload_n 0, 1) := by decide +kernel
theorem dX6_readLine_121 : decode cX6_readLine 121 = .ok (.getfield 20, 3) := by decide +kernel
theorem dX6_readLine_124 : decode cX6_readLine 124 = .ok (.bipush 46, 2) := by decide +kernel
theorem dX6_readLine_126 : decode cX6_readLine 126 = .ok (.aload_n 0, 1) := by decide +kernel
theorem dX6_readLine_127 : decode cX6_readLine 127 = .ok (.iconst 1, 1) := by decide +kernel
theorem dX6_readLine_128 : decode cX6_readLine 128 = .ok (.iconst 4, 1) := by decide +kernel
theorem dX6_readLine_129 : decode cX6_readLine 129 = .ok (.invokevirtual 109, 3) := by decide +kernel
theorem dX6_readLine_132 : decode cX6_readLine 132 = .ok (.iastore, 1) := by decide +kernel
theorem dX6_readLine_133 : decode cX6_readLine 133 = .ok (.goto 8, 3) := by decide +kernel
theorem dX6_readLine_136 : decode cX6_readLine 136 = .ok (.aload_n 0, 1) := by decide +kernel
theorem dX6_readLine_137 : decode cX6_readLine 137 = .ok (.iload_n 1, 1) := by decide +kernel
theorem dX6_readLine_138 : decode cX6_readLine 138 = .ok (.invokevirtual 117, 3) := by decide +kernel
theorem dX6_readLine_141 : decode cX6_readLine 141 = .ok (.aload_n 0, 1) := by decide +kernel
theorem dX6_readLine_142 : decode cX6_readLine 142 = .ok (.getfield 64, 3) := by decide +kernel
theorem dX6_readLine_145 : decode cX6_readLine 145 = .ok (.ifCond .ne 21, 3) := by decide +kernel
theorem dX6_readLine_148 : decode cX6_readLine 148 = .ok (.aload_n 0, 1) := by decide +kernel
theorem dX6_readLine_149 : decode cX6_readLine 149 = .ok (.aload_n 0, 1) := by decide +kernel
theorem dX6_readLine_150 : decode cX6_readLine 150 = .ok (.getfield 88, 3) := by decide +kernel
theorem dX6_readLine_153 : decode cX6_readLine 153 = .ok (.iconst 3, 1) := by decide +kernel
theorem dX6_readLine_154 : decode cX6_readLine 154 = .ok (.if_icmp .ne 7, 3) := by decide +kernel
theorem dX6_readLine_157 : decode cX6_readLine 157 = .ok (.iconst 1, 1) := by decide +kernel
theorem dX6_readLine_158 : decode cX6_readLine 158 = .ok (.goto 4, 3) := by decide +kernel
theorem dX6_readLine_161 : decode cX6_readLine 161 = .ok (.iconst 0, 1) := by decide +kernel
theorem dX6_readLine_162 : decode cX6_readLine 162 = .ok (.iconst 2, 1) := by decide +kernel
theorem dX6_readLine_163 : decode cX6_readLine 163 = .ok (.invokevirtual 102, 3) := by decide +kernel
theorem dX6_readLine_166 : decode cX6_readLine 166 = .ok (.aload_n 0, 1) := by decide +kernel
theorem dX6_readLine_167 : decode cX6_readLine 167 = .ok (.invokevirtual 106, 3) := by decide +kernel
theorem dX6_readLine_170 : decode cX6_readLine 170 = .ok (.return_, 1) := by decide +kernel
abbrev rmX6_readLine : Room := { frames := 4, cells := 0, slots := 0, locals := 91 }
def opX6_readLine (po : Unit → px_St → Prop) : List (Nat × px_Op) := [
  (0, px_al 1 0),
  (1, px_get dM 4 6 9),
  (4, px_push 5 (.int 1)),
  (5, px_ic 8 15 (fun x y => ¬ x = y)),
  (8, px_al 9 0),
  (9, px_callV dM 12 6 0 px_vI prX6_lineNow poX6_lineNow),
  (12, px_go 17),
  (15, px_push 17 (.int (-4))),
  (17, px_is 18 1),
  (18, px_al 19 0),
  (19, px_il 20 1),
  (20, px_push 22 (.int (-4))),
  (22, px_ic 25 29 (fun x y => x = y)),
  (25, px_push 26 (.int 1)),
  (26, px_go 30),
  (29, px_push 30 (.int 0)),
  (30, px_push 31 (.int 2)),
  (31, px_callV dM 34 6 2 px_vV prX6_requires poX6_requires),
  (34, px_al 35 0),
  (35, px_il 36 1),
  (36, px_push 37 (.int 4)),
  (37, px_ic 40 51 (fun x y => y ≤ x)),
  (40, px_al 41 0),
  (41, px_get dM 44 6 3),
  (44, px_push 46 (.int 45)),
  (46, px_ald dM 47 0),
  (47, px_push 48 (.int 5)),
  (48, px_ic 51 55 (fun x y => y ≤ x)),
  (51, px_push 52 (.int 1)),
  (52, px_go 56),
  (55, px_push 56 (.int 0)),
  (56, px_push 57 (.int 5)),
  (57, px_callV dM 60 6 2 px_vV prX6_requires poX6_requires),
  (60, px_al 61 0),
  (61, px_il 62 1),
  (62, px_push 63 (.int 4)),
  (63, px_ic 66 73 (fun x y => ¬ x = y)),
  (66, px_al 67 0),
  (67, px_get dM 70 6 4),
  (70, px_if 73 77 (fun x => ¬ x = 0)),
  (73, px_push 74 (.int 1)),
  (74, px_go 78),
  (77, px_push 78 (.int 0)),
  (78, px_push 79 (.int 4)),
  (79, px_callV dM 82 6 2 px_vV prX6_requires poX6_requires),
  (82, px_al 83 0),
  (83, px_al 84 0),
  (84, px_get dM 87 6 4),
  (87, px_if 90 95 (fun x => ¬ x = 0)),
  (90, px_il 91 1),
  (91, px_push 92 (.int 4)),
  (92, px_ic 95 99 (fun x y => ¬ x = y)),
  (95, px_push 96 (.int 1)),
  (96, px_go 100),
  (99, px_push 100 (.int 0)),
  (100, px_put dM 103 6 4 .boolean),
  (103, px_al 104 0),
  (104, px_callV dM 107 6 0 px_vV prX6_reads poX6_reads),
  (107, px_al 108 0),
  (108, px_get dM 111 6 11),
  (111, px_if 114 115 (fun x => x ≤ 0)),
  (114, px_vret po),
  (115, px_il 116 1),
  (116, px_push 117 (.int 4)),
  (117, px_ic 120 136 (fun x y => ¬ x = y)),
  (120, px_al 121 0),
  (121, px_get dM 124 6 3),
  (124, px_push 126 (.int 46)),
  (126, px_al 127 0),
  (127, px_push 128 (.int 1)),
  (128, px_push 129 (.int 4)),
  (129, px_callV dM 132 6 2 px_vI prX6_readNumber poX6_readNumber),
  (132, px_ast dM 133 0 (fun x => x)),
  (133, px_go 141),
  (136, px_al 137 0),
  (137, px_il 138 1),
  (138, px_callV dM 141 6 1 px_vV prX6_readParrot poX6_readParrot),
  (141, px_al 142 0),
  (142, px_get dM 145 6 11),
  (145, px_if 148 166 (fun x => ¬ x = 0)),
  (148, px_al 149 0),
  (149, px_al 150 0),
  (150, px_get dM 153 6 9),
  (153, px_push 154 (.int 3)),
  (154, px_ic 157 161 (fun x y => ¬ x = y)),
  (157, px_push 158 (.int 1)),
  (158, px_go 162),
  (161, px_push 162 (.int 0)),
  (162, px_push 163 (.int 2)),
  (163, px_callV dM 166 6 2 px_vV prX6_requires poX6_requires),
  (166, px_al 167 0),
  (167, px_callV dM 170 6 0 px_vV prX6_reads poX6_reads),
  (170, px_vret po)]
set_option maxRecDepth 100000 in
set_option maxHeartbeats 4000000 in
theorem okX6_readLine : ∀ (po : Unit → px_St → Prop) (i pc : Nat) (op : px_Op), (opX6_readLine po)[i]? = some (pc, op) → px_Snd (cX6_readLine, 2, RX6, Cond.code yX6_readLine cX6_readLine 2 none :: wdM, none, rmX6_readLine, dM) px_vV po pc op := by
  intro po
  unfold opX6_readLine
  refine px_ok_cons (ps_aload_n dX6_readLine_0 rfl) ?_
  refine px_ok_cons (fgX6_88 dX6_readLine_1) ?_
  refine px_ok_cons (ps_iconst dX6_readLine_4 (by decide)) ?_
  refine px_ok_cons (ps_icmp_ne dX6_readLine_5 (by decide)) ?_
  refine px_ok_cons (ps_aload_n dX6_readLine_8 rfl) ?_
  refine px_ok_cons (ps_callV mX6_lineNow (fun _ _ => rfl) (C := RX6) rfl (fun _ _ ht => px_cwV wgM (wdM_1_in _ (List.mem_of_getElem? (i := 31) rfl)) (wdM_1_in _ (List.mem_of_getElem? (i := 32) rfl)) (wdM_1_in _ (List.mem_of_getElem? (i := 33) rfl)) (wdM_0_in _ (List.mem_of_getElem? (i := 22) rfl)) (wdM_1_in _ (List.mem_of_getElem? (i := 6) rfl)) (by decide +kernel) rfl rfl (by decide) ht) dX6_readLine_9) ?_
  refine px_ok_cons (ps_goto dX6_readLine_12 (by decide)) ?_
  refine px_ok_cons (ps_bipush dX6_readLine_15 (by decide)) ?_
  refine px_ok_cons (ps_istore_n dX6_readLine_17 rfl (by decide)) ?_
  refine px_ok_cons (ps_aload_n dX6_readLine_18 rfl) ?_
  refine px_ok_cons (ps_iload_n dX6_readLine_19 rfl) ?_
  refine px_ok_cons (ps_bipush dX6_readLine_20 (by decide)) ?_
  refine px_ok_cons (ps_icmp_eq dX6_readLine_22 (by decide)) ?_
  refine px_ok_cons (ps_iconst dX6_readLine_25 (by decide)) ?_
  refine px_ok_cons (ps_goto dX6_readLine_26 (by decide)) ?_
  refine px_ok_cons (ps_iconst dX6_readLine_29 (by decide)) ?_
  refine px_ok_cons (ps_iconst dX6_readLine_30 (by decide)) ?_
  refine px_ok_cons (ps_callV mX6_requires (fun _ _ => rfl) (C := RX6) rfl (fun _ _ ht => px_cwV wgM (wdM_1_in _ (List.mem_of_getElem? (i := 20) rfl)) (wdM_1_in _ (List.mem_of_getElem? (i := 21) rfl)) (wdM_1_in _ (List.mem_of_getElem? (i := 22) rfl)) (wdM_0_in _ (List.mem_of_getElem? (i := 22) rfl)) (wdM_0_in _ (List.mem_of_getElem? (i := 35) rfl)) (by decide +kernel) rfl rfl (by decide) ht) dX6_readLine_31) ?_
  refine px_ok_cons (ps_aload_n dX6_readLine_34 rfl) ?_
  refine px_ok_cons (ps_iload_n dX6_readLine_35 rfl) ?_
  refine px_ok_cons (ps_iconst dX6_readLine_36 (by decide)) ?_
  refine px_ok_cons (ps_icmp_ge dX6_readLine_37 (by decide)) ?_
  refine px_ok_cons (ps_aload_n dX6_readLine_40 rfl) ?_
  refine px_ok_cons (fgX6_20 dX6_readLine_41) ?_
  refine px_ok_cons (ps_bipush dX6_readLine_44 (by decide)) ?_
  refine px_ok_cons (ps_iaload dX6_readLine_46) ?_
  refine px_ok_cons (ps_iconst dX6_readLine_47 (by decide)) ?_
  refine px_ok_cons (ps_icmp_ge dX6_readLine_48 (by decide)) ?_
  refine px_ok_cons (ps_iconst dX6_readLine_51 (by decide)) ?_
  refine px_ok_cons (ps_goto dX6_readLine_52 (by decide)) ?_
  refine px_ok_cons (ps_iconst dX6_readLine_55 (by decide)) ?_
  refine px_ok_cons (ps_iconst dX6_readLine_56 (by decide)) ?_
  refine px_ok_cons (ps_callV mX6_requires (fun _ _ => rfl) (C := RX6) rfl (fun _ _ ht => px_cwV wgM (wdM_1_in _ (List.mem_of_getElem? (i := 20) rfl)) (wdM_1_in _ (List.mem_of_getElem? (i := 21) rfl)) (wdM_1_in _ (List.mem_of_getElem? (i := 22) rfl)) (wdM_0_in _ (List.mem_of_getElem? (i := 22) rfl)) (wdM_0_in _ (List.mem_of_getElem? (i := 35) rfl)) (by decide +kernel) rfl rfl (by decide) ht) dX6_readLine_57) ?_
  refine px_ok_cons (ps_aload_n dX6_readLine_60 rfl) ?_
  refine px_ok_cons (ps_iload_n dX6_readLine_61 rfl) ?_
  refine px_ok_cons (ps_iconst dX6_readLine_62 (by decide)) ?_
  refine px_ok_cons (ps_icmp_ne dX6_readLine_63 (by decide)) ?_
  refine px_ok_cons (ps_aload_n dX6_readLine_66 rfl) ?_
  refine px_ok_cons (fgX6_50 dX6_readLine_67) ?_
  refine px_ok_cons (ps_if_ne dX6_readLine_70 (by decide)) ?_
  refine px_ok_cons (ps_iconst dX6_readLine_73 (by decide)) ?_
  refine px_ok_cons (ps_goto dX6_readLine_74 (by decide)) ?_
  refine px_ok_cons (ps_iconst dX6_readLine_77 (by decide)) ?_
  refine px_ok_cons (ps_iconst dX6_readLine_78 (by decide)) ?_
  refine px_ok_cons (ps_callV mX6_requires (fun _ _ => rfl) (C := RX6) rfl (fun _ _ ht => px_cwV wgM (wdM_1_in _ (List.mem_of_getElem? (i := 20) rfl)) (wdM_1_in _ (List.mem_of_getElem? (i := 21) rfl)) (wdM_1_in _ (List.mem_of_getElem? (i := 22) rfl)) (wdM_0_in _ (List.mem_of_getElem? (i := 22) rfl)) (wdM_0_in _ (List.mem_of_getElem? (i := 35) rfl)) (by decide +kernel) rfl rfl (by decide) ht) dX6_readLine_79) ?_
  refine px_ok_cons (ps_aload_n dX6_readLine_82 rfl) ?_
  refine px_ok_cons (ps_aload_n dX6_readLine_83 rfl) ?_
  refine px_ok_cons (fgX6_50 dX6_readLine_84) ?_
  refine px_ok_cons (ps_if_ne dX6_readLine_87 (by decide)) ?_
  refine px_ok_cons (ps_iload_n dX6_readLine_90 rfl) ?_
  refine px_ok_cons (ps_iconst dX6_readLine_91 (by decide)) ?_
  refine px_ok_cons (ps_icmp_ne dX6_readLine_92 (by decide)) ?_
  refine px_ok_cons (ps_iconst dX6_readLine_95 (by decide)) ?_
  refine px_ok_cons (ps_goto dX6_readLine_96 (by decide)) ?_
  refine px_ok_cons (ps_iconst dX6_readLine_99 (by decide)) ?_
  refine px_ok_cons (fpX6_50 dX6_readLine_100) ?_
  refine px_ok_cons (ps_aload_n dX6_readLine_103 rfl) ?_
  refine px_ok_cons (ps_callV mX6_reads (fun _ _ => rfl) (C := RX6) rfl (fun _ _ ht => px_cwV wgM (wdM_1_in _ (List.mem_of_getElem? (i := 23) rfl)) (wdM_1_in _ (List.mem_of_getElem? (i := 24) rfl)) (wdM_1_in _ (List.mem_of_getElem? (i := 25) rfl)) (wdM_0_in _ (List.mem_of_getElem? (i := 22) rfl)) (wdM_1_in _ (List.mem_of_getElem? (i := 13) rfl)) (by decide +kernel) rfl rfl (by decide) ht) dX6_readLine_104) ?_
  refine px_ok_cons (ps_aload_n dX6_readLine_107 rfl) ?_
  refine px_ok_cons (fgX6_64 dX6_readLine_108) ?_
  refine px_ok_cons (ps_if_le dX6_readLine_111 (by decide)) ?_
  refine px_ok_cons (ps_return rfl dX6_readLine_114) ?_
  refine px_ok_cons (ps_iload_n dX6_readLine_115 rfl) ?_
  refine px_ok_cons (ps_iconst dX6_readLine_116 (by decide)) ?_
  refine px_ok_cons (ps_icmp_ne dX6_readLine_117 (by decide)) ?_
  refine px_ok_cons (ps_aload_n dX6_readLine_120 rfl) ?_
  refine px_ok_cons (fgX6_20 dX6_readLine_121) ?_
  refine px_ok_cons (ps_bipush dX6_readLine_124 (by decide)) ?_
  refine px_ok_cons (ps_aload_n dX6_readLine_126 rfl) ?_
  refine px_ok_cons (ps_iconst dX6_readLine_127 (by decide)) ?_
  refine px_ok_cons (ps_iconst dX6_readLine_128 (by decide)) ?_
  refine px_ok_cons (ps_callV mX6_readNumber (fun _ _ => rfl) (C := RX6) rfl (fun _ _ ht => px_cwV wgM (wdM_1_in _ (List.mem_of_getElem? (i := 27) rfl)) (wdM_1_in _ (List.mem_of_getElem? (i := 28) rfl)) (wdM_1_in _ (List.mem_of_getElem? (i := 29) rfl)) (wdM_0_in _ (List.mem_of_getElem? (i := 22) rfl)) (wdM_1_in _ (List.mem_of_getElem? (i := 26) rfl)) (by decide +kernel) rfl rfl (by decide) ht) dX6_readLine_129) ?_
  refine px_ok_cons (ps_iastore dX6_readLine_132) ?_
  refine px_ok_cons (ps_goto dX6_readLine_133 (by decide)) ?_
  refine px_ok_cons (ps_aload_n dX6_readLine_136 rfl) ?_
  refine px_ok_cons (ps_iload_n dX6_readLine_137 rfl) ?_
  refine px_ok_cons (ps_callV mX6_readParrot (fun _ _ => rfl) (C := RX6) rfl (fun _ _ ht => px_cwV wgM (wdM_1_in _ (List.mem_of_getElem? (i := 34) rfl)) (wdM_1_in _ (List.mem_of_getElem? (i := 35) rfl)) (wdM_1_in _ (List.mem_of_getElem? (i := 36) rfl)) (wdM_0_in _ (List.mem_of_getElem? (i := 22) rfl)) (wdM_1_in _ (List.mem_of_getElem? (i := 30) rfl)) (by decide +kernel) rfl rfl (by decide) ht) dX6_readLine_138) ?_
  refine px_ok_cons (ps_aload_n dX6_readLine_141 rfl) ?_
  refine px_ok_cons (fgX6_64 dX6_readLine_142) ?_
  refine px_ok_cons (ps_if_ne dX6_readLine_145 (by decide)) ?_
  refine px_ok_cons (ps_aload_n dX6_readLine_148 rfl) ?_
  refine px_ok_cons (ps_aload_n dX6_readLine_149 rfl) ?_
  refine px_ok_cons (fgX6_88 dX6_readLine_150) ?_
  refine px_ok_cons (ps_iconst dX6_readLine_153 (by decide)) ?_
  refine px_ok_cons (ps_icmp_ne dX6_readLine_154 (by decide)) ?_
  refine px_ok_cons (ps_iconst dX6_readLine_157 (by decide)) ?_
  refine px_ok_cons (ps_goto dX6_readLine_158 (by decide)) ?_
  refine px_ok_cons (ps_iconst dX6_readLine_161 (by decide)) ?_
  refine px_ok_cons (ps_iconst dX6_readLine_162 (by decide)) ?_
  refine px_ok_cons (ps_callV mX6_requires (fun _ _ => rfl) (C := RX6) rfl (fun _ _ ht => px_cwV wgM (wdM_1_in _ (List.mem_of_getElem? (i := 20) rfl)) (wdM_1_in _ (List.mem_of_getElem? (i := 21) rfl)) (wdM_1_in _ (List.mem_of_getElem? (i := 22) rfl)) (wdM_0_in _ (List.mem_of_getElem? (i := 22) rfl)) (wdM_0_in _ (List.mem_of_getElem? (i := 35) rfl)) (by decide +kernel) rfl rfl (by decide) ht) dX6_readLine_163) ?_
  refine px_ok_cons (ps_aload_n dX6_readLine_166 rfl) ?_
  refine px_ok_cons (ps_callV mX6_reads (fun _ _ => rfl) (C := RX6) rfl (fun _ _ ht => px_cwV wgM (wdM_1_in _ (List.mem_of_getElem? (i := 23) rfl)) (wdM_1_in _ (List.mem_of_getElem? (i := 24) rfl)) (wdM_1_in _ (List.mem_of_getElem? (i := 25) rfl)) (wdM_0_in _ (List.mem_of_getElem? (i := 22) rfl)) (wdM_1_in _ (List.mem_of_getElem? (i := 13) rfl)) (by decide +kernel) rfl rfl (by decide) ht) dX6_readLine_167) ?_
  refine px_ok_cons (ps_return rfl dX6_readLine_170) ?_
  exact px_ok_nil
set_option maxRecDepth 100000 in
set_option maxHeartbeats 4000000 in
theorem sgX6_readLine_0 {po : Unit → px_St → Prop} {G : px_K} (hG : px_cl (opX6_readLine po) G) (σ : px_St)
    (H : ((¬ (σ.1 0 9) = (1 : Int32)) → G 18 [some (.ref 0), some (.int (-4 : Int32))] [] σ) ∧ (¬ (¬ (σ.1 0 9) = (1 : Int32)) → ∃ g3 : gtX6_lineNow, qrX6_lineNow g3 σ ∧ ∀ (r1 : Int32) (σ2 : px_St), qoX6_lineNow g3 σ r1 σ2 → G 18 [some (.ref 0), some (.int r1)] [] σ2)) :
    G 0 (px_ent 2 [.ref 0]) [] σ := by
  refine hG.1 0 _ _ rfl _ _ _ ?_
  refine hG.1 1 _ _ rfl _ _ _ ?_
  refine ⟨⟨rfl, by decide⟩, ?_⟩
  refine hG.1 2 _ _ rfl _ _ _ ?_
  refine hG.1 3 _ _ rfl _ _ _ ?_
  refine ⟨fun h5 => ?_, fun h5 => ?_⟩
  · replace H := H.1 h5
    refine hG.1 7 _ _ rfl _ _ _ ?_
    refine hG.1 8 _ _ rfl _ _ _ ?_
    show G 18 [some (.ref 0), some (.int (-4 : Int32))] [] σ
    exact H
  · replace H := H.2 h5
    refine hG.1 4 _ _ rfl _ _ _ ?_
    refine hG.1 5 _ _ rfl _ _ _ ?_
    obtain ⟨g3, H⟩ := H
    refine ⟨⟨rfl, by decide⟩, Nat.le_of_ble_eq_true rfl, g3, ⟨rfl, H.1⟩, fun r1 σ2 hp4 => ?_⟩
    replace H := H.2 r1 σ2 hp4
    refine hG.1 6 _ _ rfl _ _ _ ?_
    refine hG.1 8 _ _ rfl _ _ _ ?_
    show G 18 [some (.ref 0), some (.int r1)] [] σ2
    exact H
set_option maxRecDepth 100000 in
set_option maxHeartbeats 4000000 in
theorem sgX6_readLine_18 {po : Unit → px_St → Prop} {G : px_K} (hG : px_cl (opX6_readLine po) G) (v1 : Int32) (σ : px_St)
    (H : ((v1 = (-4 : Int32)) → ∃ g3 : gtX6_requires, qrX6_requires g3 (0 : Int32) (2 : Int32) σ ∧ ∀ (r1 : Unit) (σ2 : px_St), qoX6_requires g3 (0 : Int32) (2 : Int32) σ r1 σ2 → G 34 [some (.ref 0), some (.int v1)] [] σ2) ∧ (¬ (v1 = (-4 : Int32)) → ∃ g7 : gtX6_requires, qrX6_requires g7 (1 : Int32) (2 : Int32) σ ∧ ∀ (r5 : Unit) (σ6 : px_St), qoX6_requires g7 (1 : Int32) (2 : Int32) σ r5 σ6 → G 34 [some (.ref 0), some (.int v1)] [] σ6)) :
    G 18 [some (.ref 0), some (.int v1)] [] σ := by
  refine hG.1 9 _ _ rfl _ _ _ ?_
  refine hG.1 10 _ _ rfl _ _ _ ?_
  refine hG.1 11 _ _ rfl _ _ _ ?_
  refine hG.1 12 _ _ rfl _ _ _ ?_
  refine ⟨fun h9 => ?_, fun h9 => ?_⟩
  · replace H := H.1 h9
    refine hG.1 15 _ _ rfl _ _ _ ?_
    refine hG.1 16 _ _ rfl _ _ _ ?_
    refine hG.1 17 _ _ rfl _ _ _ ?_
    obtain ⟨g3, H⟩ := H
    refine ⟨⟨rfl, by decide⟩, Nat.le_of_ble_eq_true rfl, g3, ⟨_, _, rfl, H.1⟩, fun r1 σ2 hp4 => ?_⟩
    replace H := H.2 r1 σ2 hp4
    exact H
  · replace H := H.2 h9
    refine hG.1 13 _ _ rfl _ _ _ ?_
    refine hG.1 14 _ _ rfl _ _ _ ?_
    refine hG.1 16 _ _ rfl _ _ _ ?_
    refine hG.1 17 _ _ rfl _ _ _ ?_
    obtain ⟨g7, H⟩ := H
    refine ⟨⟨rfl, by decide⟩, Nat.le_of_ble_eq_true rfl, g7, ⟨_, _, rfl, H.1⟩, fun r5 σ6 hp8 => ?_⟩
    replace H := H.2 r5 σ6 hp8
    exact H
set_option maxRecDepth 100000 in
set_option maxHeartbeats 4000000 in
theorem sgX6_readLine_34 {po : Unit → px_St → Prop} {G : px_K} (hG : px_cl (opX6_readLine po) G) (v1 : Int32) (σ : px_St)
    (H : (((4 : Int32) ≤ v1) → ∃ g3 : gtX6_requires, qrX6_requires g3 (1 : Int32) (5 : Int32) σ ∧ ∀ (r1 : Unit) (σ2 : px_St), qoX6_requires g3 (1 : Int32) (5 : Int32) σ r1 σ2 → G 60 [some (.ref 0), some (.int v1)] [] σ2) ∧ (¬ ((4 : Int32) ≤ v1) → vp_in (45 : Int32) 61 ∧ (((5 : Int32) ≤ (σ.1 4 (45 : Int32).toNatClampNeg)) → ∃ g7 : gtX6_requires, qrX6_requires g7 (0 : Int32) (5 : Int32) σ ∧ ∀ (r5 : Unit) (σ6 : px_St), qoX6_requires g7 (0 : Int32) (5 : Int32) σ r5 σ6 → G 60 [some (.ref 0), some (.int v1)] [] σ6) ∧ (¬ ((5 : Int32) ≤ (σ.1 4 (45 : Int32).toNatClampNeg)) → ∃ g11 : gtX6_requires, qrX6_requires g11 (1 : Int32) (5 : Int32) σ ∧ ∀ (r9 : Unit) (σ10 : px_St), qoX6_requires g11 (1 : Int32) (5 : Int32) σ r9 σ10 → G 60 [some (.ref 0), some (.int v1)] [] σ10))) :
    G 34 [some (.ref 0), some (.int v1)] [] σ := by
  refine hG.1 18 _ _ rfl _ _ _ ?_
  refine hG.1 19 _ _ rfl _ _ _ ?_
  refine hG.1 20 _ _ rfl _ _ _ ?_
  refine hG.1 21 _ _ rfl _ _ _ ?_
  refine ⟨fun h14 => ?_, fun h14 => ?_⟩
  · replace H := H.1 h14
    refine hG.1 28 _ _ rfl _ _ _ ?_
    refine hG.1 29 _ _ rfl _ _ _ ?_
    refine hG.1 31 _ _ rfl _ _ _ ?_
    refine hG.1 32 _ _ rfl _ _ _ ?_
    obtain ⟨g3, H⟩ := H
    refine ⟨⟨rfl, by decide⟩, Nat.le_of_ble_eq_true rfl, g3, ⟨_, _, rfl, H.1⟩, fun r1 σ2 hp4 => ?_⟩
    replace H := H.2 r1 σ2 hp4
    exact H
  · replace H := H.2 h14
    refine hG.1 22 _ _ rfl _ _ _ ?_
    refine hG.1 23 _ _ rfl _ _ _ ?_
    refine ⟨⟨rfl, by decide⟩, ?_⟩
    refine hG.1 24 _ _ rfl _ _ _ ?_
    refine hG.1 25 _ _ rfl _ _ _ ?_
    refine ⟨⟨rfl, by decide⟩, H.1, ?_⟩
    replace H := H.2
    refine hG.1 26 _ _ rfl _ _ _ ?_
    refine hG.1 27 _ _ rfl _ _ _ ?_
    refine ⟨fun h13 => ?_, fun h13 => ?_⟩
    · replace H := H.1 h13
      refine hG.1 30 _ _ rfl _ _ _ ?_
      refine hG.1 31 _ _ rfl _ _ _ ?_
      refine hG.1 32 _ _ rfl _ _ _ ?_
      obtain ⟨g7, H⟩ := H
      refine ⟨⟨rfl, by decide⟩, Nat.le_of_ble_eq_true rfl, g7, ⟨_, _, rfl, H.1⟩, fun r5 σ6 hp8 => ?_⟩
      replace H := H.2 r5 σ6 hp8
      exact H
    · replace H := H.2 h13
      refine hG.1 28 _ _ rfl _ _ _ ?_
      refine hG.1 29 _ _ rfl _ _ _ ?_
      refine hG.1 31 _ _ rfl _ _ _ ?_
      refine hG.1 32 _ _ rfl _ _ _ ?_
      obtain ⟨g11, H⟩ := H
      refine ⟨⟨rfl, by decide⟩, Nat.le_of_ble_eq_true rfl, g11, ⟨_, _, rfl, H.1⟩, fun r9 σ10 hp12 => ?_⟩
      replace H := H.2 r9 σ10 hp12
      exact H
set_option maxRecDepth 100000 in
set_option maxHeartbeats 4000000 in
theorem sgX6_readLine_60 {po : Unit → px_St → Prop} {G : px_K} (hG : px_cl (opX6_readLine po) G) (v1 : Int32) (σ : px_St)
    (H : ((¬ v1 = (4 : Int32)) → ∃ g3 : gtX6_requires, qrX6_requires g3 (1 : Int32) (4 : Int32) σ ∧ ∀ (r1 : Unit) (σ2 : px_St), qoX6_requires g3 (1 : Int32) (4 : Int32) σ r1 σ2 → G 82 [some (.ref 0), some (.int v1)] [] σ2) ∧ (¬ (¬ v1 = (4 : Int32)) → ((¬ (σ.1 0 4) = 0) → ∃ g7 : gtX6_requires, qrX6_requires g7 (0 : Int32) (4 : Int32) σ ∧ ∀ (r5 : Unit) (σ6 : px_St), qoX6_requires g7 (0 : Int32) (4 : Int32) σ r5 σ6 → G 82 [some (.ref 0), some (.int v1)] [] σ6) ∧ (¬ (¬ (σ.1 0 4) = 0) → ∃ g11 : gtX6_requires, qrX6_requires g11 (1 : Int32) (4 : Int32) σ ∧ ∀ (r9 : Unit) (σ10 : px_St), qoX6_requires g11 (1 : Int32) (4 : Int32) σ r9 σ10 → G 82 [some (.ref 0), some (.int v1)] [] σ10))) :
    G 60 [some (.ref 0), some (.int v1)] [] σ := by
  refine hG.1 33 _ _ rfl _ _ _ ?_
  refine hG.1 34 _ _ rfl _ _ _ ?_
  refine hG.1 35 _ _ rfl _ _ _ ?_
  refine hG.1 36 _ _ rfl _ _ _ ?_
  refine ⟨fun h14 => ?_, fun h14 => ?_⟩
  · replace H := H.1 h14
    refine hG.1 40 _ _ rfl _ _ _ ?_
    refine hG.1 41 _ _ rfl _ _ _ ?_
    refine hG.1 43 _ _ rfl _ _ _ ?_
    refine hG.1 44 _ _ rfl _ _ _ ?_
    obtain ⟨g3, H⟩ := H
    refine ⟨⟨rfl, by decide⟩, Nat.le_of_ble_eq_true rfl, g3, ⟨_, _, rfl, H.1⟩, fun r1 σ2 hp4 => ?_⟩
    replace H := H.2 r1 σ2 hp4
    exact H
  · replace H := H.2 h14
    refine hG.1 37 _ _ rfl _ _ _ ?_
    refine hG.1 38 _ _ rfl _ _ _ ?_
    refine ⟨⟨rfl, by decide⟩, ?_⟩
    refine hG.1 39 _ _ rfl _ _ _ ?_
    refine ⟨fun h13 => ?_, fun h13 => ?_⟩
    · replace H := H.1 h13
      refine hG.1 42 _ _ rfl _ _ _ ?_
      refine hG.1 43 _ _ rfl _ _ _ ?_
      refine hG.1 44 _ _ rfl _ _ _ ?_
      obtain ⟨g7, H⟩ := H
      refine ⟨⟨rfl, by decide⟩, Nat.le_of_ble_eq_true rfl, g7, ⟨_, _, rfl, H.1⟩, fun r5 σ6 hp8 => ?_⟩
      replace H := H.2 r5 σ6 hp8
      exact H
    · replace H := H.2 h13
      refine hG.1 40 _ _ rfl _ _ _ ?_
      refine hG.1 41 _ _ rfl _ _ _ ?_
      refine hG.1 43 _ _ rfl _ _ _ ?_
      refine hG.1 44 _ _ rfl _ _ _ ?_
      obtain ⟨g11, H⟩ := H
      refine ⟨⟨rfl, by decide⟩, Nat.le_of_ble_eq_true rfl, g11, ⟨_, _, rfl, H.1⟩, fun r9 σ10 hp12 => ?_⟩
      replace H := H.2 r9 σ10 hp12
      exact H
set_option maxRecDepth 100000 in
set_option maxHeartbeats 4000000 in
theorem sgX6_readLine_82 {po : Unit → px_St → Prop} {G : px_K} (hG : px_cl (opX6_readLine po) G) (v1 : Int32) (σ : px_St)
    (H : ((¬ (σ.1 0 4) = 0) → ∃ g3 : gtX6_reads, qrX6_reads g3 (px_up σ 0 4 (1 : Int32)) ∧ ∀ (r1 : Unit) (σ2 : px_St), qoX6_reads g3 (px_up σ 0 4 (1 : Int32)) r1 σ2 → G 107 [some (.ref 0), some (.int v1)] [] σ2) ∧ (¬ (¬ (σ.1 0 4) = 0) → ((¬ v1 = (4 : Int32)) → ∃ g7 : gtX6_reads, qrX6_reads g7 (px_up σ 0 4 (0 : Int32)) ∧ ∀ (r5 : Unit) (σ6 : px_St), qoX6_reads g7 (px_up σ 0 4 (0 : Int32)) r5 σ6 → G 107 [some (.ref 0), some (.int v1)] [] σ6) ∧ (¬ (¬ v1 = (4 : Int32)) → ∃ g11 : gtX6_reads, qrX6_reads g11 (px_up σ 0 4 (1 : Int32)) ∧ ∀ (r9 : Unit) (σ10 : px_St), qoX6_reads g11 (px_up σ 0 4 (1 : Int32)) r9 σ10 → G 107 [some (.ref 0), some (.int v1)] [] σ10))) :
    G 82 [some (.ref 0), some (.int v1)] [] σ := by
  refine hG.1 45 _ _ rfl _ _ _ ?_
  refine hG.1 46 _ _ rfl _ _ _ ?_
  refine hG.1 47 _ _ rfl _ _ _ ?_
  refine ⟨⟨rfl, by decide⟩, ?_⟩
  refine hG.1 48 _ _ rfl _ _ _ ?_
  refine ⟨fun h14 => ?_, fun h14 => ?_⟩
  · replace H := H.1 h14
    refine hG.1 52 _ _ rfl _ _ _ ?_
    refine hG.1 53 _ _ rfl _ _ _ ?_
    refine hG.1 55 _ _ rfl _ _ _ ?_
    refine ⟨⟨rfl, by decide⟩, ⟨rfl, rfl⟩, ?_⟩
    refine hG.1 56 _ _ rfl _ _ _ ?_
    refine hG.1 57 _ _ rfl _ _ _ ?_
    obtain ⟨g3, H⟩ := H
    refine ⟨⟨rfl, by decide⟩, Nat.le_of_ble_eq_true rfl, g3, ⟨rfl, H.1⟩, fun r1 σ2 hp4 => ?_⟩
    replace H := H.2 r1 σ2 hp4
    exact H
  · replace H := H.2 h14
    refine hG.1 49 _ _ rfl _ _ _ ?_
    refine hG.1 50 _ _ rfl _ _ _ ?_
    refine hG.1 51 _ _ rfl _ _ _ ?_
    refine ⟨fun h13 => ?_, fun h13 => ?_⟩
    · replace H := H.1 h13
      refine hG.1 54 _ _ rfl _ _ _ ?_
      refine hG.1 55 _ _ rfl _ _ _ ?_
      refine ⟨⟨rfl, by decide⟩, ⟨rfl, rfl⟩, ?_⟩
      refine hG.1 56 _ _ rfl _ _ _ ?_
      refine hG.1 57 _ _ rfl _ _ _ ?_
      obtain ⟨g7, H⟩ := H
      refine ⟨⟨rfl, by decide⟩, Nat.le_of_ble_eq_true rfl, g7, ⟨rfl, H.1⟩, fun r5 σ6 hp8 => ?_⟩
      replace H := H.2 r5 σ6 hp8
      exact H
    · replace H := H.2 h13
      refine hG.1 52 _ _ rfl _ _ _ ?_
      refine hG.1 53 _ _ rfl _ _ _ ?_
      refine hG.1 55 _ _ rfl _ _ _ ?_
      refine ⟨⟨rfl, by decide⟩, ⟨rfl, rfl⟩, ?_⟩
      refine hG.1 56 _ _ rfl _ _ _ ?_
      refine hG.1 57 _ _ rfl _ _ _ ?_
      obtain ⟨g11, H⟩ := H
      refine ⟨⟨rfl, by decide⟩, Nat.le_of_ble_eq_true rfl, g11, ⟨rfl, H.1⟩, fun r9 σ10 hp12 => ?_⟩
      replace H := H.2 r9 σ10 hp12
      exact H
set_option maxRecDepth 100000 in
set_option maxHeartbeats 4000000 in
theorem sgX6_readLine_107 {po : Unit → px_St → Prop} {G : px_K} (hG : px_cl (opX6_readLine po) G) (v1 : Int32) (σ : px_St)
    (H : (((σ.1 0 11) ≤ 0) → ((¬ v1 = (4 : Int32)) → ∃ g3 : gtX6_readParrot, qrX6_readParrot g3 v1 σ ∧ ∀ (r1 : Unit) (σ2 : px_St), qoX6_readParrot g3 v1 σ r1 σ2 → G 141 [some (.ref 0), some (.int v1)] [] σ2) ∧ (¬ (¬ v1 = (4 : Int32)) → ∃ g7 : gtX6_readNumber, qrX6_readNumber g7 (1 : Int32) (4 : Int32) σ ∧ ∀ (r5 : Int32) (σ6 : px_St), qoX6_readNumber g7 (1 : Int32) (4 : Int32) σ r5 σ6 → vp_in (46 : Int32) 61 ∧ G 141 [some (.ref 0), some (.int v1)] [] (px_up σ6 4 (46 : Int32).toNatClampNeg r5))) ∧ (¬ ((σ.1 0 11) ≤ 0) → po () σ)) :
    G 107 [some (.ref 0), some (.int v1)] [] σ := by
  refine hG.1 58 _ _ rfl _ _ _ ?_
  refine hG.1 59 _ _ rfl _ _ _ ?_
  refine ⟨⟨rfl, by decide⟩, ?_⟩
  refine hG.1 60 _ _ rfl _ _ _ ?_
  refine ⟨fun h10 => ?_, fun h10 => ?_⟩
  · replace H := H.1 h10
    refine hG.1 62 _ _ rfl _ _ _ ?_
    refine hG.1 63 _ _ rfl _ _ _ ?_
    refine hG.1 64 _ _ rfl _ _ _ ?_
    refine ⟨fun h9 => ?_, fun h9 => ?_⟩
    · replace H := H.1 h9
      refine hG.1 74 _ _ rfl _ _ _ ?_
      refine hG.1 75 _ _ rfl _ _ _ ?_
      refine hG.1 76 _ _ rfl _ _ _ ?_
      obtain ⟨g3, H⟩ := H
      refine ⟨⟨rfl, by decide⟩, Nat.le_of_ble_eq_true rfl, g3, ⟨_, rfl, H.1⟩, fun r1 σ2 hp4 => ?_⟩
      replace H := H.2 r1 σ2 hp4
      exact H
    · replace H := H.2 h9
      refine hG.1 65 _ _ rfl _ _ _ ?_
      refine hG.1 66 _ _ rfl _ _ _ ?_
      refine ⟨⟨rfl, by decide⟩, ?_⟩
      refine hG.1 67 _ _ rfl _ _ _ ?_
      refine hG.1 68 _ _ rfl _ _ _ ?_
      refine hG.1 69 _ _ rfl _ _ _ ?_
      refine hG.1 70 _ _ rfl _ _ _ ?_
      refine hG.1 71 _ _ rfl _ _ _ ?_
      obtain ⟨g7, H⟩ := H
      refine ⟨⟨rfl, by decide⟩, Nat.le_of_ble_eq_true rfl, g7, ⟨_, _, rfl, H.1⟩, fun r5 σ6 hp8 => ?_⟩
      replace H := H.2 r5 σ6 hp8
      refine hG.1 72 _ _ rfl _ _ _ ?_
      refine ⟨⟨rfl, by decide⟩, H.1, ?_⟩
      replace H := H.2
      refine hG.1 73 _ _ rfl _ _ _ ?_
      exact H
  · replace H := H.2 h10
    refine hG.1 61 _ _ rfl _ _ _ ?_
    exact H
set_option maxRecDepth 100000 in
set_option maxHeartbeats 4000000 in
theorem sgX6_readLine_141 {po : Unit → px_St → Prop} {G : px_K} (hG : px_cl (opX6_readLine po) G) (v1 : Int32) (σ : px_St)
    (H : ((¬ (σ.1 0 11) = 0) → G 166 [some (.ref 0), some (.int v1)] [] σ) ∧ (¬ (¬ (σ.1 0 11) = 0) → ((¬ (σ.1 0 9) = (3 : Int32)) → ∃ g3 : gtX6_requires, qrX6_requires g3 (0 : Int32) (2 : Int32) σ ∧ ∀ (r1 : Unit) (σ2 : px_St), qoX6_requires g3 (0 : Int32) (2 : Int32) σ r1 σ2 → G 166 [some (.ref 0), some (.int v1)] [] σ2) ∧ (¬ (¬ (σ.1 0 9) = (3 : Int32)) → ∃ g7 : gtX6_requires, qrX6_requires g7 (1 : Int32) (2 : Int32) σ ∧ ∀ (r5 : Unit) (σ6 : px_St), qoX6_requires g7 (1 : Int32) (2 : Int32) σ r5 σ6 → G 166 [some (.ref 0), some (.int v1)] [] σ6))) :
    G 141 [some (.ref 0), some (.int v1)] [] σ := by
  refine hG.1 77 _ _ rfl _ _ _ ?_
  refine hG.1 78 _ _ rfl _ _ _ ?_
  refine ⟨⟨rfl, by decide⟩, ?_⟩
  refine hG.1 79 _ _ rfl _ _ _ ?_
  refine ⟨fun h10 => ?_, fun h10 => ?_⟩
  · replace H := H.1 h10
    exact H
  · replace H := H.2 h10
    refine hG.1 80 _ _ rfl _ _ _ ?_
    refine hG.1 81 _ _ rfl _ _ _ ?_
    refine hG.1 82 _ _ rfl _ _ _ ?_
    refine ⟨⟨rfl, by decide⟩, ?_⟩
    refine hG.1 83 _ _ rfl _ _ _ ?_
    refine hG.1 84 _ _ rfl _ _ _ ?_
    refine ⟨fun h9 => ?_, fun h9 => ?_⟩
    · replace H := H.1 h9
      refine hG.1 87 _ _ rfl _ _ _ ?_
      refine hG.1 88 _ _ rfl _ _ _ ?_
      refine hG.1 89 _ _ rfl _ _ _ ?_
      obtain ⟨g3, H⟩ := H
      refine ⟨⟨rfl, by decide⟩, Nat.le_of_ble_eq_true rfl, g3, ⟨_, _, rfl, H.1⟩, fun r1 σ2 hp4 => ?_⟩
      replace H := H.2 r1 σ2 hp4
      exact H
    · replace H := H.2 h9
      refine hG.1 85 _ _ rfl _ _ _ ?_
      refine hG.1 86 _ _ rfl _ _ _ ?_
      refine hG.1 88 _ _ rfl _ _ _ ?_
      refine hG.1 89 _ _ rfl _ _ _ ?_
      obtain ⟨g7, H⟩ := H
      refine ⟨⟨rfl, by decide⟩, Nat.le_of_ble_eq_true rfl, g7, ⟨_, _, rfl, H.1⟩, fun r5 σ6 hp8 => ?_⟩
      replace H := H.2 r5 σ6 hp8
      exact H
set_option maxRecDepth 100000 in
set_option maxHeartbeats 4000000 in
theorem sgX6_readLine_166 {po : Unit → px_St → Prop} {G : px_K} (hG : px_cl (opX6_readLine po) G) (v1 : Int32) (σ : px_St)
    (H : ∃ g3 : gtX6_reads, qrX6_reads g3 σ ∧ ∀ (r1 : Unit) (σ2 : px_St), qoX6_reads g3 σ r1 σ2 → po () σ2) :
    G 166 [some (.ref 0), some (.int v1)] [] σ := by
  refine hG.1 90 _ _ rfl _ _ _ ?_
  refine hG.1 91 _ _ rfl _ _ _ ?_
  obtain ⟨g3, H⟩ := H
  refine ⟨⟨rfl, by decide⟩, Nat.le_of_ble_eq_true rfl, g3, ⟨rfl, H.1⟩, fun r1 σ2 hp4 => ?_⟩
  replace H := H.2 r1 σ2 hp4
  refine hG.1 92 _ _ rfl _ _ _ ?_
  exact H
set_option maxRecDepth 100000 in
set_option maxHeartbeats 4000000 in
theorem hhX6_readLine (g : gtX6_readLine) (σ : px_St) (h : qrX6_readLine g σ) (G : px_K) (hG : px_cl (opX6_readLine (qoX6_readLine g σ)) G) : G 0 (px_ent 2 [.ref 0]) [] σ := by
  obtain ⟨T, V, e, t⟩ := g
  obtain ⟨hb, hT, hV, hok, he, he1, hr, ht⟩ := h
  have hl := hT.1
  have hV5 := hok.1.1
  obtain ⟨K, hK⟩ : ∃ K, K = pt_key T t := ⟨_, rfl⟩
  have hKl := pt_key_le T t
  rw [← hK] at hKl
  obtain ⟨R0, hR0⟩ : ∃ R0, R0 = pt_lnx T V e t := ⟨_, rfl⟩
  have po : ∀ σ', rsM σ' (fun w : pv_V × Nat × pt_K => rdM σ' w.2.2 ∧ dr_is σ' w.1 ∧ σ'.1 0 4 = nI w.2.1) R0 → frE σ σ' → qoX6_readLine (T, V, e, t) σ () σ' := fun σ' a b => ⟨by rw [← hR0]; exact a, b⟩
  have nz : ∀ F, 1 ≤ F → F ≤ 5 → ∀ σ' : px_St, σ'.1 0 11 = nI F → ¬ σ'.1 0 11 = 0 := fun F a b σ' c => by rw [c]; exact nI_ne0 (by omega) (by omega)
  have s166 : ∀ (f : Nat × Nat) v σ', 1 ≤ f.1 ∧ f.1 ≤ 5 → R0 = .inl f → σ'.1 0 11 = nI f.1 → σ'.1 0 12 = nI f.2 → frE σ σ' → G 166 [some (.ref 0), some (.int v)] [] σ' := by
    intro f v σ' h1 hf e11 e12 ho
    refine sgX6_readLine_166 hG _ σ' ⟨(T, 0, f.1), ⟨hb.keptE ho, hT, e11, h1.2, fun q => by omega⟩, fun _ σ1 h2 => ?_⟩
    have h2 := h2.1 (by omega)
    subst h2
    exact po _ (by rw [hf]; exact ⟨e11, e12⟩) ho
  have s141 : ∀ (f : Nat × Nat) v σ', 1 ≤ f.1 ∧ f.1 ≤ 5 → R0 = .inl f → σ'.1 0 11 = nI f.1 → σ'.1 0 12 = nI f.2 → frE σ σ' → G 141 [some (.ref 0), some (.int v)] [] σ' := fun f v σ' h1 hf e11 e12 ho =>
    sgX6_readLine_141 hG _ σ' ⟨fun _ => s166 f v σ' h1 hf e11 e12 ho, fun q => absurd (nz f.1 h1.1 h1.2 σ' e11) q⟩
  have ok141 : ∀ (w : pv_V × Nat × pt_K) v σ', R0 = pt_b (if w.2.2.1 = 3 then .inr w else .inl (2, w.2.2.2.1)) (fun w : pv_V × Nat × pt_K => pt_b (pt_next T w.2.2.2.2.1) (fun t' => .inr (w.1, w.2.1, t'))) → rdM σ' w.2.2 → tk_ok T w.2.2 → dr_is σ' w.1 → σ'.1 0 4 = nI w.2.1 → frE σ σ' → G 141 [some (.ref 0), some (.int v)] [] σ' := by
    intro w v σ' hw hr' ht' hV' h4' ho'
    have c3 := hr'.s ht' 3 3 rfl (by omega)
    refine sgX6_readLine_141 hG _ σ' ⟨fun q => absurd hr'.1 q, fun _ => ?_⟩
    rw [c3]
    refine ⟨fun z => ⟨(), trivial, fun _ σ1 h1 => ?_⟩, fun z => ⟨(), trivial, fun _ σ1 h1 => ?_⟩⟩
    · have h1 := h1.2.2 rfl hr'.1
      subst h1
      rw [if_neg z, pt_bl] at hw
      refine s166 (2, w.2.2.2.1) _ _ ⟨by show 1 ≤ 2; omega, by show 2 ≤ 5; omega⟩ hw ?_ ?_ (ho'.tr ((fr0.up (by omega)).tr (fr0.up (by omega))).D.E)
      · rw [up0n (by omega), up0s]; rfl
      · rw [up0s]; exact hr'.2.2.1
    · have h1 := (h1.1 (by decide)).symm
      subst h1
      rw [if_pos (Classical.byContradiction z), pt_br] at hw
      refine sgX6_readLine_166 hG _ σ' ⟨(T, w.2.2.2.2.1, 0), ⟨hb.keptE ho', hT, hr'.1, by omega, fun _ => ⟨ht'.2.2.1, hr'.2.2.2.1⟩⟩, fun _ σ1 h2 => ?_⟩
      obtain ⟨-, h3, h4⟩ := h2
      have h3 := h3 rfl
      refine po _ ?_ (ho'.tr h4.D.E)
      rw [hw]
      cases hx : pt_next T w.2.2.2.2.1 with
      | inl f => rw [hx] at h3; exact h3
      | inr t' =>
        rw [hx] at h3
        exact ⟨h3, hV'.kept (h4.1 4 (by omega)), by rw [h4.2 4 (by omega)]; exact h4'⟩
  -- a fault of the name
  have hR : R0 = pt_b (if pt_flt V K e = 0 then pt_b (pt_next T t.2.2.1) (fun t1 => if t1.1 = 2 then pt_b (pt_body T V e K t1) (fun w => if w.2.2.1 = 3 then .inr w else .inl (2, w.2.2.2.1)) else .inl (2, t1.2.1)) else .inl (pt_flt V K e, t.2.1)) (fun w => pt_b (pt_next T w.2.2.2.2.1) (fun t' => .inr (w.1, w.2.1, t'))) := by
    rw [hR0, hK]; rfl
  have f82 : ∀ F v σ', 1 ≤ F → F ≤ 5 → R0 = .inl (F, t.2.1) → σ'.1 0 11 = nI F → σ'.1 0 12 = nI t.2.1 → frE σ σ' → G 82 [some (.ref 0), some (.int v)] [] σ' := by
    intro F v σ' h1 h5 hf e11 e12 ho
    have road : ∀ x, ∃ g3 : gtX6_reads, qrX6_reads g3 (px_up σ' 0 4 x) ∧ ∀ (r1 : Unit) (σ2 : px_St), qoX6_reads g3 (px_up σ' 0 4 x) r1 σ2 → G 107 [some (.ref 0), some (.int v)] [] σ2 := fun x => by
      refine ⟨(T, 0, F), ⟨(hb.keptE ho).keptE frE.up4, hT, by rw [up0n (by omega)]; exact e11, h5, fun q => by omega⟩, fun _ σ1 h2 => ?_⟩
      have h2 := h2.1 (by omega)
      subst h2
      refine sgX6_readLine_107 hG _ _ ⟨fun q => ?_, fun _ => po _ ?_ (ho.tr frE.up4)⟩
      · rw [up0n (by omega), e11, show nI F ≤ 0 ↔ F ≤ 0 from nIle F 0 rfl rfl (by omega) (by omega)] at q
        omega
      · rw [hf]
        exact ⟨by rw [up0n (by omega)]; exact e11, by rw [up0n (by omega)]; exact e12⟩
    exact sgX6_readLine_82 hG _ σ' ⟨fun _ => road 1, fun _ => ⟨fun _ => road 0, fun _ => road 1⟩⟩
  have ff : ∀ (F : Nat) (c : Int32), c = nI F → (px_up (px_up σ 0 11 c) 0 12 (σ.1 0 8)).1 0 11 = nI F ∧ (px_up (px_up σ 0 11 c) 0 12 (σ.1 0 8)).1 0 12 = nI t.2.1 ∧ frE σ (px_up (px_up σ 0 11 c) 0 12 (σ.1 0 8)) := fun F c hc => ⟨by rw [up0n (by omega), up0s]; exact hc, by rw [up0s]; exact hr.2.2.1, ((fr0.up (by omega)).tr (fr0.up (by omega))).D.E⟩
  have hRf : ∀ F, F ≠ 0 → pt_flt V K e = F → R0 = .inl (F, t.2.1) := fun F h0 h1 => by rw [hR, h1, if_neg h0, pt_bl]
  have g82 : pt_flt V K e = 0 → K ≤ 4 → G 82 [some (.ref 0), some (.int (nI K))] [] σ := by
    intro hf hK4
    rw [if_pos hf] at hR
    have hn5 : K ≠ 4 → V.1 < 5 := fun q => by
      unfold pt_flt at hf
      rw [if_neg (by omega), if_neg q] at hf
      by_cases h8 : V.1 < 5
      · exact h8
      · rw [if_neg h8] at hf; omega
    have c4 : nI K = 4 ↔ K = 4 := nIe _ 4 rfl rfl (by omega) (by omega)
    have road : ∀ (x : Int32) (e' : Nat), x = nI e' → (K = 4 → e' = 1) → (K ≠ 4 → e' = e) → ∃ g3 : gtX6_reads, qrX6_reads g3 (px_up σ 0 4 x) ∧ ∀ (r1 : Unit) (σ2 : px_St), qoX6_reads g3 (px_up σ 0 4 x) r1 σ2 → G 107 [some (.ref 0), some (.int (nI K))] [] σ2 := by
      intro x e' hx hx1 hx2
      refine ⟨(T, t.2.2.1, 0), ⟨hb.keptE frE.up4, hT, by rw [up0n (by omega)]; exact hr.1, by omega, fun _ => ⟨ht.2.2.1, by rw [up0n (by omega)]; exact hr.2.2.2.1⟩⟩, fun _ σ1 h2 => ?_⟩
      obtain ⟨-, h3, h4⟩ := h2
      have h3 := h3 rfl
      have o1 : frE σ σ1 := frE.up4.tr h4.D.E
      have hb1 := hb.keptE o1
      have hV1 : dr_is σ1 V := hV.kept ((h4.1 4 (by omega)).trans (px_up_n (by omega)))
      have h41 : σ1.1 0 4 = nI e' := by rw [h4.2 4 (by omega), up0s]; exact hx
      have hgd := pt_next_good (p := t.2.2.1) hT ht.2.2.1
      cases hy : pt_next T t.2.2.1 with
      | inl f =>
        rw [hy] at h3 hR hgd
        rw [pt_bl, pt_bl] at hR
        have h3 : σ1.1 0 11 = nI f.1 ∧ σ1.1 0 12 = nI f.2 := h3
        have hf1 : 1 ≤ f.1 ∧ f.1 ≤ 5 := hgd.1
        refine sgX6_readLine_107 hG _ _ ⟨fun q => ?_, fun _ => po _ (by rw [hR]; exact h3) o1⟩
        rw [h3.1, show nI f.1 ≤ 0 ↔ f.1 ≤ 0 from nIle f.1 0 rfl rfl (by omega) (by omega)] at q
        omega
      | inr t1 =>
        rw [hy] at h3 hR hgd
        rw [pt_br] at hR
        have h3 : rdM σ1 t1 := h3
        have ht1 : tk_ok T t1 := hgd.1
        refine sgX6_readLine_107 hG _ _ ⟨fun _ => ?_, fun q => absurd (by rw [h3.1]; decide) q⟩
        rw [c4]
        refine ⟨fun q4 => ⟨(T, V, K, t1), ⟨hb1, hT, hV1, hok.1, hn5 q4, by omega, rfl, h3, ht1⟩, fun _ σ2 h5 => ?_⟩, fun q4 => ⟨(T, 1, 4, t1), ⟨hb1, hT, h3, ht1, rfl, rfl, by omega, by omega⟩, fun r2 σ2 h5 => ⟨d46, ?_⟩⟩⟩
        · obtain ⟨h6, h7⟩ := h5
          by_cases z : t1.1 = 2
          · rw [if_pos z] at h6 hR
            unfold pt_body at hR
            rw [if_neg q4] at hR
            have hg2 := pt_snd_good hT 6 [] t1 ht1 rfl (fun x hx => absurd hx List.not_mem_nil)
            cases hu : pt_snd T 6 [] t1 with
            | inl f =>
              rw [hu] at h6 hR hg2
              rw [pt_bl, pt_bl, pt_bl] at hR
              have h6 : σ2.1 0 11 = nI f.1 ∧ σ2.1 0 12 = nI f.2 := h6
              exact s141 f _ _ hg2.1 hR h6.1 h6.2 (o1.tr h7.E)
            | inr w =>
              rw [hu] at h6 hR hg2
              rw [pt_br, pt_br] at hR
              exact ok141 (pv_add V (K, 0, w.1), e, w.2) _ σ2 hR h6.1 hg2.2.1 h6.2 (by rw [h7.2 4 (by omega), h41, hx2 q4]) (o1.tr h7.E)
          · rw [if_neg z] at h6 hR
            rw [pt_bl] at hR
            have h6 : σ2.1 0 11 = nI 2 ∧ σ2.1 0 12 = nI t1.2.1 := h6
            exact s141 (2, t1.2.1) _ _ ⟨by show 1 ≤ 2; omega, by show 2 ≤ 5; omega⟩ hR h6.1 h6.2 (o1.tr h7.E)
        · have q4 := Classical.byContradiction q4
          obtain ⟨h6, h7⟩ := h5
          rw [c46]
          have o2 : frE σ (px_up σ2 4 46 r2) := (o1.tr h7.D.E).tr frD.up.E
          have z0 : (px_up σ2 4 46 r2).1 0 = σ2.1 0 := px_up_n (by omega)
          unfold pt_num at h6
          by_cases z : t1.1 = 2
          · rw [if_pos z] at h6 hR
            unfold pt_body at hR
            rw [if_pos q4] at hR
            by_cases hv : 1 ≤ t1.2.2.2 ∧ t1.2.2.2 ≤ 4
            · rw [if_pos hv] at h6 hR
              have hg2 := pt_next_good (p := t1.2.2.1) hT ht1.2.2.1
              cases hu : pt_next T t1.2.2.1 with
              | inl f =>
                rw [hu] at h6 hR hg2
                rw [pt_bl, pt_bl, pt_bl] at hR
                have h6 : σ2.1 0 11 = nI f.1 ∧ σ2.1 0 12 = nI f.2 := h6
                exact s141 f _ _ hg2.1 hR (by rw [z0]; exact h6.1) (by rw [z0]; exact h6.2) o2
              | inr t2 =>
                rw [hu] at h6 hR hg2
                rw [pt_br, pt_br] at hR
                have h6 : r2 = nI t1.2.2.2 ∧ rdM σ2 t2 := h6
                refine ok141 (pv_ear V t1.2.2.2, 1, t2) _ _ hR (h6.2.kept z0) hg2.1 ?_ (by rw [z0, h7.2 4 (by omega), h41, hx1 q4]) o2
                have hV2 : dr_is σ2 V := hV1.kept (h7.1 4 (by omega))
                obtain ⟨⟨⟨a1, a2, a3⟩, a4⟩, a5, a6⟩ := hV2
                have en : ∀ j, j ≠ 46 → (px_up σ2 4 46 r2).1 4 j = σ2.1 4 j := fun j hj => by rw [px_up_at, if_neg (by omega)]
                refine ⟨⟨⟨(en 45 (by omega)).trans a1, ?_, (en 47 (by omega)).trans a3⟩, fun p hp => ?_⟩, (en 48 (by omega)).trans a5, fun p hp hp5 => (en _ (by omega)).trans (a6 p hp hp5)⟩
                · rw [px_up_at, if_pos ⟨rfl, rfl⟩]; exact h6.1
                · have hp : p < V.1 := hp
                  exact (a4 p hp).cg (hok.1.2.2.2 p hp).2.1 (fun j b c => en j (by omega))
            · rw [if_neg hv] at h6 hR
              rw [pt_bl, pt_bl] at hR
              have h6 : σ2.1 0 11 = nI 3 ∧ σ2.1 0 12 = nI t1.2.1 := h6
              exact s141 (3, t1.2.1) _ _ ⟨by show 1 ≤ 3; omega, by show 3 ≤ 5; omega⟩ hR (by rw [z0]; exact h6.1) (by rw [z0]; exact h6.2) o2
          · rw [if_neg z] at h6 hR
            rw [pt_bl] at hR
            have h6 : σ2.1 0 11 = nI 2 ∧ σ2.1 0 12 = nI t1.2.1 := h6
            exact s141 (2, t1.2.1) _ _ ⟨by show 1 ≤ 2; omega, by show 2 ≤ 5; omega⟩ hR (by rw [z0]; exact h6.1) (by rw [z0]; exact h6.2) o2
    have ce : nI e = 0 ↔ e = 0 := nIe _ 0 rfl rfl (by omega) (by omega)
    refine sgX6_readLine_82 hG _ σ ?_
    rw [c4, he, ce]
    refine ⟨fun z => road 1 1 rfl (fun _ => rfl) (fun _ => by omega), fun z => ⟨fun y => road 0 0 rfl (fun q => absurd q y) (fun _ => by omega), fun y => road 1 1 rfl (fun _ => rfl) (fun q => absurd q y)⟩⟩
  have m60f : ∀ F v σ', 1 ≤ F → F ≤ 5 → R0 = .inl (F, t.2.1) → σ'.1 0 11 = nI F → σ'.1 0 12 = nI t.2.1 → frE σ σ' → G 60 [some (.ref 0), some (.int v)] [] σ' := by
    intro F v σ' h1 h5 hf e11 e12 ho
    have road : ∀ x, ∃ g3 : gtX6_requires, qrX6_requires g3 x 4 σ' ∧ ∀ (r1 : Unit) (σ2 : px_St), qoX6_requires g3 x 4 σ' r1 σ2 → G 82 [some (.ref 0), some (.int v)] [] σ2 := fun x => ⟨(), trivial, fun _ σ2 h2 => by
      have h2 := (h2.2.1 (nz F h1 h5 σ' e11)).symm
      subst h2
      exact f82 F v σ' h1 h5 hf e11 e12 ho⟩
    exact sgX6_readLine_60 hG _ σ' ⟨fun _ => road 1, fun _ => ⟨fun _ => road 0, fun _ => road 1⟩⟩
  have m34f : ∀ F v σ', 1 ≤ F → F ≤ 5 → R0 = .inl (F, t.2.1) → σ'.1 0 11 = nI F → σ'.1 0 12 = nI t.2.1 → frE σ σ' → G 34 [some (.ref 0), some (.int v)] [] σ' := by
    intro F v σ' h1 h5 hf e11 e12 ho
    have road : ∀ x, ∃ g3 : gtX6_requires, qrX6_requires g3 x 5 σ' ∧ ∀ (r1 : Unit) (σ2 : px_St), qoX6_requires g3 x 5 σ' r1 σ2 → G 60 [some (.ref 0), some (.int v)] [] σ2 := fun x => ⟨(), trivial, fun _ σ2 h2 => by
      have h2 := (h2.2.1 (nz F h1 h5 σ' e11)).symm
      subst h2
      exact m60f F v σ' h1 h5 hf e11 e12 ho⟩
    exact sgX6_readLine_34 hG _ σ' ⟨fun _ => road 1, fun _ => ⟨d45, fun _ => road 0, fun _ => road 1⟩⟩
  have mid : G 18 [some (.ref 0), some (.int (if K = 9 then -4 else nI K))] [] σ := by
    by_cases h9 : K = 9
    · rw [if_pos h9]
      have hf : R0 = .inl (2, t.2.1) := hRf 2 (by omega) (by unfold pt_flt; rw [if_pos h9])
      obtain ⟨f1, f2, f3⟩ := ff 2 2 rfl
      refine sgX6_readLine_18 hG _ σ ⟨fun _ => ⟨(), trivial, fun _ σ1 h1 => ?_⟩, fun q => absurd rfl q⟩
      have h1 := h1.2.2 rfl hr.1
      subst h1
      exact m34f 2 _ _ (by omega) (by omega) hf f1 f2 f3
    · rw [if_neg h9]
      have hK4 : K ≤ 4 := by omega
      have cm : ¬ nI K = -4 := by
        have : ∀ k, k ≤ 4 → ¬ nI k = -4 := by decide
        exact this K hK4
      refine sgX6_readLine_18 hG _ σ ⟨fun q => absurd q cm, fun _ => ⟨(), trivial, fun _ σ1 h1 => ?_⟩⟩
      have h1 := (h1.1 (by decide)).symm
      subst h1
      have e45 : σ.1 4 45 = nI V.1 := hV.1.1.1
      have ce : nI e = 0 ↔ e = 0 := nIe _ 0 rfl rfl (by omega) (by omega)
      have c4 : nI K = 4 ↔ K = 4 := nIe _ 4 rfl rfl (by omega) (by omega)
      have c4l : 4 ≤ nI K ↔ 4 ≤ K := nIle 4 _ rfl rfl (by omega) (by omega)
      have c5l : 5 ≤ nI V.1 ↔ 5 ≤ V.1 := nIle 5 _ rfl rfl (by omega) (by omega)
      have s60 : (K ≠ 4 → V.1 < 5) → G 60 [some (.ref 0), some (.int (nI K))] [] σ := by
        intro hn
        refine sgX6_readLine_60 hG _ σ ?_
        rw [c4, he, ce]
        refine ⟨fun q4 => ⟨(), trivial, fun _ σ1 h1 => ?_⟩, fun q4 => ⟨fun q0 => ⟨(), trivial, fun _ σ1 h1 => ?_⟩, fun q0 => ⟨(), trivial, fun _ σ1 h1 => ?_⟩⟩⟩
        · have h1 := (h1.1 (by decide)).symm
          subst h1
          exact g82 (by unfold pt_flt; rw [if_neg h9, if_neg q4, if_pos (hn q4)]) hK4
        · have h1 := h1.2.2 rfl hr.1
          subst h1
          obtain ⟨f1, f2, f3⟩ := ff 4 4 rfl
          exact f82 4 _ _ (by omega) (by omega) (hRf 4 (by omega) (by unfold pt_flt; rw [if_neg h9, if_pos (Classical.byContradiction q4), if_pos (by omega)])) f1 f2 f3
        · have h1 := (h1.1 (by decide)).symm
          subst h1
          exact g82 (by unfold pt_flt; rw [if_neg h9, if_pos (Classical.byContradiction q4), if_neg (by omega)]) hK4
      refine sgX6_readLine_34 hG _ σ ?_
      rw [c45, e45, c4l, c5l]
      refine ⟨fun q4 => ⟨(), trivial, fun _ σ1 h1 => ?_⟩, fun q4 => ⟨d45, fun q5 => ⟨(), trivial, fun _ σ1 h1 => ?_⟩, fun q5 => ⟨(), trivial, fun _ σ1 h1 => ?_⟩⟩⟩
      · have h1 := (h1.1 (by decide)).symm
        subst h1
        exact s60 (fun q => by omega)
      · have h1 := h1.2.2 rfl hr.1
        subst h1
        obtain ⟨f1, f2, f3⟩ := ff 5 5 rfl
        exact m60f 5 _ _ (by omega) (by omega) (hRf 5 (by omega) (by unfold pt_flt; rw [if_neg h9, if_neg (by omega), if_neg (by omega)])) f1 f2 f3
      · have h1 := (h1.1 (by decide)).symm
        subst h1
        exact s60 (fun q => by omega)
  have c1 := hr.s ht 1 1 rfl (by omega)
  refine sgX6_readLine_0 hG σ ?_
  rw [c1]
  refine ⟨fun q => ?_, fun q => ⟨(T, t.2.1, t.2.2.1), ⟨hb, hT, hr.2.2.1, hr.2.2.2.1, ht.2.1, ht.2.2.1⟩, fun r1 σ1 h1 => ?_⟩⟩
  · have ek : K = 9 := by rw [hK]; unfold pt_key; rw [if_neg q]
    rw [ek, if_pos rfl] at mid
    exact mid
  · obtain ⟨e1, rfl⟩ := h1
    subst e1
    have ek : K = pt_name T t.2.1 t.2.2.1 := by rw [hK]; unfold pt_key; rw [if_pos (Classical.byContradiction q)]
    rw [ek] at mid
    exact mid
theorem mX6_readLine (g : gtX6_readLine) : px_Met dM yX6_readLine (Cond.code yX6_readLine cX6_readLine 2 none :: wdM) rmX6_readLine px_vV (prX6_readLine g) (poX6_readLine g) :=
  px_met (Z := (cX6_readLine, 2, RX6, Cond.code yX6_readLine cX6_readLine 2 none :: wdM, none, rmX6_readLine, dM)) opX6_readLine (by decide) rfl rfl okX6_readLine (fun As σ h => by obtain ⟨rfl, h⟩ := h; exact Nat.le_of_ble_eq_true rfl) (fun As σ h G hG => by obtain ⟨rfl, h⟩ := h; exact hhX6_readLine g σ h G hG)
abbrev gtX6_firstDraft : Type := Unit
def qrX6_firstDraft (_ : Unit) (_ : px_St) : Prop := True
def qoX6_firstDraft (_ : Unit) (σ : px_St) (_ : Unit) (σ' : px_St) : Prop := (∀ k, k ≠ 0 → k ≠ 4 → σ'.1 k = σ.1 k) ∧ (∀ j, j ≠ 4 → σ'.1 0 j = σ.1 0 j) ∧ σ'.1 0 4 = 0 ∧ dr_is σ' pv_0
def prX6_firstDraft (g : gtX6_firstDraft) : List Value → px_St → Prop := fun As σ => As = [.ref 0] ∧ qrX6_firstDraft g σ
def poX6_firstDraft (g : gtX6_firstDraft) : List Value → px_St → Unit → px_St → Prop
  | [.ref _], σ, r, σ' => qoX6_firstDraft g σ r σ'
  | _, _, _, _ => False
theorem dX6_firstDraft_0 : decode cX6_firstDraft 0 = .ok (.iconst 0, 1) := by decide +kernel
theorem dX6_firstDraft_1 : decode cX6_firstDraft 1 = .ok (.istore_n 1, 1) := by decide +kernel
theorem dX6_firstDraft_2 : decode cX6_firstDraft 2 = .ok (.iload_n 1, 1) := by decide +kernel
theorem dX6_firstDraft_3 : decode cX6_firstDraft 3 = .ok (.bipush 61, 2) := by decide +kernel
theorem dX6_firstDraft_5 : decode cX6_firstDraft 5 = .ok (.if_icmp .ge 16, 3) := by decide +kernel
theorem dX6_firstDraft_8 : decode cX6_firstDraft 8 = .ok (.aload_n 0, 1) := by decide +kernel
theorem dX6_firstDraft_9 : decode cX6_firstDraft 9 = .ok (.getfield 20, 3) := by decide +kernel
theorem dX6_firstDraft_12 : decode cX6_firstDraft 12 = .ok (.iload_n 1, 1) := by decide +kernel
theorem dX6_firstDraft_13 : decode cX6_firstDraft 13 = .ok (.iconst 0, 1) := by decide +kernel
theorem dX6_firstDraft_14 : decode cX6_firstDraft 14 = .ok (.iastore, 1) := by decide +kernel
theorem dX6_firstDraft_15 : decode cX6_firstDraft 15 = .ok (.iinc 1 1, 3) := by decide +kernel
theorem dX6_firstDraft_18 : decode cX6_firstDraft 18 = .ok (.goto (-16), 3) := by decide +kernel
theorem dX6_firstDraft_21 : decode cX6_firstDraft 21 = .ok (.aload_n 0, 1) := by decide +kernel
theorem dX6_firstDraft_22 : decode cX6_firstDraft 22 = .ok (.getfield 20, 3) := by decide +kernel
theorem dX6_firstDraft_25 : decode cX6_firstDraft 25 = .ok (.bipush 46, 2) := by decide +kernel
theorem dX6_firstDraft_27 : decode cX6_firstDraft 27 = .ok (.iconst 1, 1) := by decide +kernel
theorem dX6_firstDraft_28 : decode cX6_firstDraft 28 = .ok (.iastore, 1) := by decide +kernel
theorem dX6_firstDraft_29 : decode cX6_firstDraft 29 = .ok (.aload_n 0, 1) := by decide +kernel
theorem dX6_firstDraft_30 : decode cX6_firstDraft 30 = .ok (.iconst 0, 1) := by decide +kernel
theorem dX6_firstDraft_31 : decode cX6_firstDraft 31 = .ok (.putfield 50, 3) := by decide +kernel
theorem dX6_firstDraft_34 : decode cX6_firstDraft 34 = .ok (.return_, 1) := by decide +kernel
abbrev rmX6_firstDraft : Room := { frames := 0, cells := 0, slots := 0, locals := 0 }
def opX6_firstDraft (po : Unit → px_St → Prop) : List (Nat × px_Op) := [
  (0, px_push 1 (.int 0)),
  (1, px_is 2 1),
  (2, px_il 3 1),
  (3, px_push 5 (.int 61)),
  (5, px_ic 8 21 (fun x y => y ≤ x)),
  (8, px_al 9 0),
  (9, px_get dM 12 6 3),
  (12, px_il 13 1),
  (13, px_push 14 (.int 0)),
  (14, px_ast dM 15 0 (fun x => x)),
  (15, px_inc 18 1 1),
  (18, px_go 2),
  (21, px_al 22 0),
  (22, px_get dM 25 6 3),
  (25, px_push 27 (.int 46)),
  (27, px_push 28 (.int 1)),
  (28, px_ast dM 29 0 (fun x => x)),
  (29, px_al 30 0),
  (30, px_push 31 (.int 0)),
  (31, px_put dM 34 6 4 .boolean),
  (34, px_vret po)]
set_option maxRecDepth 100000 in
set_option maxHeartbeats 4000000 in
theorem okX6_firstDraft : ∀ (po : Unit → px_St → Prop) (i pc : Nat) (op : px_Op), (opX6_firstDraft po)[i]? = some (pc, op) → px_Snd (cX6_firstDraft, 2, RX6, Cond.code yX6_firstDraft cX6_firstDraft 2 none :: wdM, none, rmX6_firstDraft, dM) px_vV po pc op := by
  intro po
  unfold opX6_firstDraft
  refine px_ok_cons (ps_iconst dX6_firstDraft_0 (by decide)) ?_
  refine px_ok_cons (ps_istore_n dX6_firstDraft_1 rfl (by decide)) ?_
  refine px_ok_cons (ps_iload_n dX6_firstDraft_2 rfl) ?_
  refine px_ok_cons (ps_bipush dX6_firstDraft_3 (by decide)) ?_
  refine px_ok_cons (ps_icmp_ge dX6_firstDraft_5 (by decide)) ?_
  refine px_ok_cons (ps_aload_n dX6_firstDraft_8 rfl) ?_
  refine px_ok_cons (fgX6_20 dX6_firstDraft_9) ?_
  refine px_ok_cons (ps_iload_n dX6_firstDraft_12 rfl) ?_
  refine px_ok_cons (ps_iconst dX6_firstDraft_13 (by decide)) ?_
  refine px_ok_cons (ps_iastore dX6_firstDraft_14) ?_
  refine px_ok_cons (ps_iinc dX6_firstDraft_15 (by decide) (by decide)) ?_
  refine px_ok_cons (ps_goto dX6_firstDraft_18 (by decide)) ?_
  refine px_ok_cons (ps_aload_n dX6_firstDraft_21 rfl) ?_
  refine px_ok_cons (fgX6_20 dX6_firstDraft_22) ?_
  refine px_ok_cons (ps_bipush dX6_firstDraft_25 (by decide)) ?_
  refine px_ok_cons (ps_iconst dX6_firstDraft_27 (by decide)) ?_
  refine px_ok_cons (ps_iastore dX6_firstDraft_28) ?_
  refine px_ok_cons (ps_aload_n dX6_firstDraft_29 rfl) ?_
  refine px_ok_cons (ps_iconst dX6_firstDraft_30 (by decide)) ?_
  refine px_ok_cons (fpX6_50 dX6_firstDraft_31) ?_
  refine px_ok_cons (ps_return rfl dX6_firstDraft_34) ?_
  exact px_ok_nil
set_option maxRecDepth 100000 in
set_option maxHeartbeats 4000000 in
theorem sgX6_firstDraft_0 {po : Unit → px_St → Prop} {G : px_K} (hG : px_cl (opX6_firstDraft po) G) (σ : px_St)
    (H : G 2 [some (.ref 0), some (.int (0 : Int32))] [] σ) :
    G 0 (px_ent 2 [.ref 0]) [] σ := by
  refine hG.1 0 _ _ rfl _ _ _ ?_
  refine hG.1 1 _ _ rfl _ _ _ ?_
  show G 2 [some (.ref 0), some (.int (0 : Int32))] [] σ
  exact H
set_option maxRecDepth 100000 in
set_option maxHeartbeats 4000000 in
theorem sgX6_firstDraft_2 {po : Unit → px_St → Prop} {G : px_K} (hG : px_cl (opX6_firstDraft po) G) (v1 : Int32) (σ : px_St)
    (H : (((61 : Int32) ≤ v1) → vp_in (46 : Int32) 61 ∧ po () (px_up (px_up σ 4 (46 : Int32).toNatClampNeg (1 : Int32)) 0 4 (0 : Int32))) ∧ (¬ ((61 : Int32) ≤ v1) → vp_in v1 61 ∧ G 2 [some (.ref 0), some (.int (v1 + 1))] [] (px_up σ 4 v1.toNatClampNeg (0 : Int32)))) :
    G 2 [some (.ref 0), some (.int v1)] [] σ := by
  refine hG.1 2 _ _ rfl _ _ _ ?_
  refine hG.1 3 _ _ rfl _ _ _ ?_
  refine hG.1 4 _ _ rfl _ _ _ ?_
  refine ⟨fun h1 => ?_, fun h1 => ?_⟩
  · replace H := H.1 h1
    refine hG.1 12 _ _ rfl _ _ _ ?_
    refine hG.1 13 _ _ rfl _ _ _ ?_
    refine ⟨⟨rfl, by decide⟩, ?_⟩
    refine hG.1 14 _ _ rfl _ _ _ ?_
    refine hG.1 15 _ _ rfl _ _ _ ?_
    refine hG.1 16 _ _ rfl _ _ _ ?_
    refine ⟨⟨rfl, by decide⟩, H.1, ?_⟩
    replace H := H.2
    refine hG.1 17 _ _ rfl _ _ _ ?_
    refine hG.1 18 _ _ rfl _ _ _ ?_
    refine hG.1 19 _ _ rfl _ _ _ ?_
    refine ⟨⟨rfl, by decide⟩, ⟨rfl, rfl⟩, ?_⟩
    refine hG.1 20 _ _ rfl _ _ _ ?_
    exact H
  · replace H := H.2 h1
    refine hG.1 5 _ _ rfl _ _ _ ?_
    refine hG.1 6 _ _ rfl _ _ _ ?_
    refine ⟨⟨rfl, by decide⟩, ?_⟩
    refine hG.1 7 _ _ rfl _ _ _ ?_
    refine hG.1 8 _ _ rfl _ _ _ ?_
    refine hG.1 9 _ _ rfl _ _ _ ?_
    refine ⟨⟨rfl, by decide⟩, H.1, ?_⟩
    replace H := H.2
    refine hG.1 10 _ _ rfl _ _ _ ?_
    show G 18 [some (.ref 0), some (.int (v1 + 1))] [] (px_up σ 4 v1.toNatClampNeg (0 : Int32))
    refine hG.1 11 _ _ rfl _ _ _ ?_
    exact H
set_option maxRecDepth 100000 in
set_option maxHeartbeats 4000000 in
theorem hhX6_firstDraft (g : gtX6_firstDraft) (σ : px_St) (h : qrX6_firstDraft g σ) (G : px_K) (hG : px_cl (opX6_firstDraft (qoX6_firstDraft g σ)) G) : G 0 (px_ent 2 [.ref 0]) [] σ := by
  have loop : ∀ n i, i + n = 61 → ∀ σ', (∀ k, k ≠ 4 → σ'.1 k = σ.1 k) → (∀ j, j < i → σ'.1 4 j = 0) → G 2 [some (.ref 0), some (.int (nI i))] [] σ' := by
    intro n
    induction n with
    | zero =>
      intro i hi σ' ho hz
      refine sgX6_firstDraft_2 hG _ σ' ⟨fun _ => ⟨d46, ?_⟩, fun q => absurd ((nIle 61 i rfl rfl (by omega) (by omega)).mpr (by omega)) q⟩
      rw [c46]
      have en : ∀ j, j ≠ 46 → j < 61 → (px_up (px_up σ' 4 46 1) 0 4 0).1 4 j = 0 := fun j a b => by rw [px_up_n (by omega), px_up_at, if_neg (by omega)]; exact hz j (by omega)
      refine ⟨fun k a b => by rw [px_up_n a, px_up_n b]; exact ho k b, fun j a => by rw [up0n a, px_up_n (by omega), ho 0 (by omega)], up0s, ⟨⟨?_, ?_, ?_⟩, fun p hp => absurd hp (Nat.not_lt_zero p)⟩, en 48 (by omega) (by omega), fun p _ hp => en _ (by omega) (by omega)⟩
      · exact en 45 (by omega) (by omega)
      · rw [px_up_n (by omega), px_up_at, if_pos ⟨rfl, rfl⟩]; rfl
      · exact en 47 (by omega) (by omega)
    | succ n ih =>
      intro i hi σ' ho hz
      refine sgX6_firstDraft_2 hG _ σ' ⟨fun q => absurd ((nIle 61 i rfl rfl (by omega) (by omega)).mp q) (by omega), fun _ => ⟨vp_in_nI (by omega) (by decide), ?_⟩⟩
      rw [nI_clamp (by omega), show nI i + 1 = nI (i + 1) from nI_1 _]
      refine ih (i + 1) (by omega) _ (fun k a => by rw [px_up_n a]; exact ho k a) (fun j hj => ?_)
      rw [px_up_at]
      by_cases hji : j = i
      · rw [if_pos ⟨rfl, hji⟩]
      · rw [if_neg (by omega)]; exact hz j (by omega)
  exact sgX6_firstDraft_0 hG σ (loop 61 0 rfl σ (fun _ _ => rfl) (fun j hj => absurd hj (Nat.not_lt_zero j)))
theorem mX6_firstDraft (g : gtX6_firstDraft) : px_Met dM yX6_firstDraft (Cond.code yX6_firstDraft cX6_firstDraft 2 none :: wdM) rmX6_firstDraft px_vV (prX6_firstDraft g) (poX6_firstDraft g) :=
  px_met (Z := (cX6_firstDraft, 2, RX6, Cond.code yX6_firstDraft cX6_firstDraft 2 none :: wdM, none, rmX6_firstDraft, dM)) opX6_firstDraft (by decide) rfl rfl okX6_firstDraft (fun As σ h => by obtain ⟨rfl, h⟩ := h; exact Nat.le_of_ble_eq_true rfl) (fun As σ h G hG => by obtain ⟨rfl, h⟩ := h; exact hhX6_firstDraft g σ h G hG)
abbrev gtX6_keepDraft : Type := Unit
def qrX6_keepDraft (_ : Unit) (_ : px_St) : Prop := True
def qoX6_keepDraft (_ : Unit) (σ : px_St) (_ : Unit) (σ' : px_St) : Prop := (∀ k, k ≠ 1 → k ≠ 3 → σ'.1 k = σ.1 k) ∧ (∀ j, j < 61 → σ'.1 1 j = σ.1 4 j) ∧ σ'.1 3 0 = 0 ∧ σ'.1 3 1 = 0
def prX6_keepDraft (g : gtX6_keepDraft) : List Value → px_St → Prop := fun As σ => As = [.ref 0] ∧ qrX6_keepDraft g σ
def poX6_keepDraft (g : gtX6_keepDraft) : List Value → px_St → Unit → px_St → Prop
  | [.ref _], σ, r, σ' => qoX6_keepDraft g σ r σ'
  | _, _, _, _ => False
theorem dX6_keepDraft_0 : decode cX6_keepDraft 0 = .ok (.iconst 0, 1) := by decide +kernel
theorem dX6_keepDraft_1 : decode cX6_keepDraft 1 = .ok (.istore_n 1, 1) := by decide +kernel
theorem dX6_keepDraft_2 : decode cX6_keepDraft 2 = .ok (.iload_n 1, 1) := by decide +kernel
theorem dX6_keepDraft_3 : decode cX6_keepDraft 3 = .ok (.bipush 61, 2) := by decide +kernel
theorem dX6_keepDraft_5 : decode cX6_keepDraft 5 = .ok (.if_icmp .ge 21, 3) := by decide +kernel
theorem dX6_keepDraft_8 : decode cX6_keepDraft 8 = .ok (.aload_n 0, 1) := by decide +kernel
theorem dX6_keepDraft_9 : decode cX6_keepDraft 9 = .ok (.getfield 7, 3) := by decide +kernel
theorem dX6_keepDraft_12 : decode cX6_keepDraft 12 = .ok (.iload_n 1, 1) := by decide +kernel
theorem dX6_keepDraft_13 : decode cX6_keepDraft 13 = .ok (.aload_n 0, 1) := by decide +kernel
theorem dX6_keepDraft_14 : decode cX6_keepDraft 14 = .ok (.getfield 20, 3) := by decide +kernel
theorem dX6_keepDraft_17 : decode cX6_keepDraft 17 = .ok (.iload_n 1, 1) := by decide +kernel
theorem dX6_keepDraft_18 : decode cX6_keepDraft 18 = .ok (.iaload, 1) := by decide +kernel
theorem dX6_keepDraft_19 : decode cX6_keepDraft 19 = .ok (.iastore, 1) := by decide +kernel
theorem dX6_keepDraft_20 : decode cX6_keepDraft 20 = .ok (.iinc 1 1, 3) := by decide +kernel
theorem dX6_keepDraft_23 : decode cX6_keepDraft 23 = .ok (.goto (-21), 3) := by decide +kernel
theorem dX6_keepDraft_26 : decode cX6_keepDraft 26 = .ok (.aload_n 0, 1) := by decide +kernel
theorem dX6_keepDraft_27 : decode cX6_keepDraft 27 = .ok (.getfield 16, 3) := by decide +kernel
theorem dX6_keepDraft_30 : decode cX6_keepDraft 30 = .ok (.iconst 0, 1) := by decide +kernel
theorem dX6_keepDraft_31 : decode cX6_keepDraft 31 = .ok (.iconst 0, 1) := by decide +kernel
theorem dX6_keepDraft_32 : decode cX6_keepDraft 32 = .ok (.bastore, 1) := by decide +kernel
theorem dX6_keepDraft_33 : decode cX6_keepDraft 33 = .ok (.aload_n 0, 1) := by decide +kernel
theorem dX6_keepDraft_34 : decode cX6_keepDraft 34 = .ok (.getfield 16, 3) := by decide +kernel
theorem dX6_keepDraft_37 : decode cX6_keepDraft 37 = .ok (.iconst 1, 1) := by decide +kernel
theorem dX6_keepDraft_38 : decode cX6_keepDraft 38 = .ok (.iconst 0, 1) := by decide +kernel
theorem dX6_keepDraft_39 : decode cX6_keepDraft 39 = .ok (.bastore, 1) := by decide +kernel
theorem dX6_keepDraft_40 : decode cX6_keepDraft 40 = .ok (.return_, 1) := by decide +kernel
abbrev rmX6_keepDraft : Room := { frames := 0, cells := 0, slots := 0, locals := 0 }
def opX6_keepDraft (po : Unit → px_St → Prop) : List (Nat × px_Op) := [
  (0, px_push 1 (.int 0)),
  (1, px_is 2 1),
  (2, px_il 3 1),
  (3, px_push 5 (.int 61)),
  (5, px_ic 8 26 (fun x y => y ≤ x)),
  (8, px_al 9 0),
  (9, px_get dM 12 6 0),
  (12, px_il 13 1),
  (13, px_al 14 0),
  (14, px_get dM 17 6 3),
  (17, px_il 18 1),
  (18, px_ald dM 19 0),
  (19, px_ast dM 20 0 (fun x => x)),
  (20, px_inc 23 1 1),
  (23, px_go 2),
  (26, px_al 27 0),
  (27, px_get dM 30 6 2),
  (30, px_push 31 (.int 0)),
  (31, px_push 32 (.int 0)),
  (32, px_ast dM 33 2 (fun x => vp_nar .boolean x)),
  (33, px_al 34 0),
  (34, px_get dM 37 6 2),
  (37, px_push 38 (.int 1)),
  (38, px_push 39 (.int 0)),
  (39, px_ast dM 40 2 (fun x => vp_nar .boolean x)),
  (40, px_vret po)]
set_option maxRecDepth 100000 in
set_option maxHeartbeats 4000000 in
theorem okX6_keepDraft : ∀ (po : Unit → px_St → Prop) (i pc : Nat) (op : px_Op), (opX6_keepDraft po)[i]? = some (pc, op) → px_Snd (cX6_keepDraft, 2, RX6, Cond.code yX6_keepDraft cX6_keepDraft 2 none :: wdM, none, rmX6_keepDraft, dM) px_vV po pc op := by
  intro po
  unfold opX6_keepDraft
  refine px_ok_cons (ps_iconst dX6_keepDraft_0 (by decide)) ?_
  refine px_ok_cons (ps_istore_n dX6_keepDraft_1 rfl (by decide)) ?_
  refine px_ok_cons (ps_iload_n dX6_keepDraft_2 rfl) ?_
  refine px_ok_cons (ps_bipush dX6_keepDraft_3 (by decide)) ?_
  refine px_ok_cons (ps_icmp_ge dX6_keepDraft_5 (by decide)) ?_
  refine px_ok_cons (ps_aload_n dX6_keepDraft_8 rfl) ?_
  refine px_ok_cons (fgX6_7 dX6_keepDraft_9) ?_
  refine px_ok_cons (ps_iload_n dX6_keepDraft_12 rfl) ?_
  refine px_ok_cons (ps_aload_n dX6_keepDraft_13 rfl) ?_
  refine px_ok_cons (fgX6_20 dX6_keepDraft_14) ?_
  refine px_ok_cons (ps_iload_n dX6_keepDraft_17 rfl) ?_
  refine px_ok_cons (ps_iaload dX6_keepDraft_18) ?_
  refine px_ok_cons (ps_iastore dX6_keepDraft_19) ?_
  refine px_ok_cons (ps_iinc dX6_keepDraft_20 (by decide) (by decide)) ?_
  refine px_ok_cons (ps_goto dX6_keepDraft_23 (by decide)) ?_
  refine px_ok_cons (ps_aload_n dX6_keepDraft_26 rfl) ?_
  refine px_ok_cons (fgX6_16 dX6_keepDraft_27) ?_
  refine px_ok_cons (ps_iconst dX6_keepDraft_30 (by decide)) ?_
  refine px_ok_cons (ps_iconst dX6_keepDraft_31 (by decide)) ?_
  refine px_ok_cons (ps_zastore dX6_keepDraft_32) ?_
  refine px_ok_cons (ps_aload_n dX6_keepDraft_33 rfl) ?_
  refine px_ok_cons (fgX6_16 dX6_keepDraft_34) ?_
  refine px_ok_cons (ps_iconst dX6_keepDraft_37 (by decide)) ?_
  refine px_ok_cons (ps_iconst dX6_keepDraft_38 (by decide)) ?_
  refine px_ok_cons (ps_zastore dX6_keepDraft_39) ?_
  refine px_ok_cons (ps_return rfl dX6_keepDraft_40) ?_
  exact px_ok_nil
set_option maxRecDepth 100000 in
set_option maxHeartbeats 4000000 in
theorem sgX6_keepDraft_0 {po : Unit → px_St → Prop} {G : px_K} (hG : px_cl (opX6_keepDraft po) G) (σ : px_St)
    (H : G 2 [some (.ref 0), some (.int (0 : Int32))] [] σ) :
    G 0 (px_ent 2 [.ref 0]) [] σ := by
  refine hG.1 0 _ _ rfl _ _ _ ?_
  refine hG.1 1 _ _ rfl _ _ _ ?_
  show G 2 [some (.ref 0), some (.int (0 : Int32))] [] σ
  exact H
set_option maxRecDepth 100000 in
set_option maxHeartbeats 4000000 in
theorem sgX6_keepDraft_2 {po : Unit → px_St → Prop} {G : px_K} (hG : px_cl (opX6_keepDraft po) G) (v1 : Int32) (σ : px_St)
    (H : (((61 : Int32) ≤ v1) → vp_in (0 : Int32) 2 ∧ vp_in (1 : Int32) 2 ∧ po () (px_up (px_up σ 3 (0 : Int32).toNatClampNeg (vp_nar .boolean (0 : Int32))) 3 (1 : Int32).toNatClampNeg (vp_nar .boolean (0 : Int32)))) ∧ (¬ ((61 : Int32) ≤ v1) → vp_in v1 61 ∧ vp_in v1 183 ∧ G 2 [some (.ref 0), some (.int (v1 + 1))] [] (px_up σ 1 v1.toNatClampNeg (σ.1 4 v1.toNatClampNeg)))) :
    G 2 [some (.ref 0), some (.int v1)] [] σ := by
  refine hG.1 2 _ _ rfl _ _ _ ?_
  refine hG.1 3 _ _ rfl _ _ _ ?_
  refine hG.1 4 _ _ rfl _ _ _ ?_
  refine ⟨fun h1 => ?_, fun h1 => ?_⟩
  · replace H := H.1 h1
    refine hG.1 15 _ _ rfl _ _ _ ?_
    refine hG.1 16 _ _ rfl _ _ _ ?_
    refine ⟨⟨rfl, by decide⟩, ?_⟩
    refine hG.1 17 _ _ rfl _ _ _ ?_
    refine hG.1 18 _ _ rfl _ _ _ ?_
    refine hG.1 19 _ _ rfl _ _ _ ?_
    refine ⟨⟨rfl, by decide⟩, H.1, ?_⟩
    replace H := H.2
    refine hG.1 20 _ _ rfl _ _ _ ?_
    refine hG.1 21 _ _ rfl _ _ _ ?_
    refine ⟨⟨rfl, by decide⟩, ?_⟩
    refine hG.1 22 _ _ rfl _ _ _ ?_
    refine hG.1 23 _ _ rfl _ _ _ ?_
    refine hG.1 24 _ _ rfl _ _ _ ?_
    refine ⟨⟨rfl, by decide⟩, H.1, ?_⟩
    replace H := H.2
    refine hG.1 25 _ _ rfl _ _ _ ?_
    exact H
  · replace H := H.2 h1
    refine hG.1 5 _ _ rfl _ _ _ ?_
    refine hG.1 6 _ _ rfl _ _ _ ?_
    refine ⟨⟨rfl, by decide⟩, ?_⟩
    refine hG.1 7 _ _ rfl _ _ _ ?_
    refine hG.1 8 _ _ rfl _ _ _ ?_
    refine hG.1 9 _ _ rfl _ _ _ ?_
    refine ⟨⟨rfl, by decide⟩, ?_⟩
    refine hG.1 10 _ _ rfl _ _ _ ?_
    refine hG.1 11 _ _ rfl _ _ _ ?_
    refine ⟨⟨rfl, by decide⟩, H.1, ?_⟩
    replace H := H.2
    refine hG.1 12 _ _ rfl _ _ _ ?_
    refine ⟨⟨rfl, by decide⟩, H.1, ?_⟩
    replace H := H.2
    refine hG.1 13 _ _ rfl _ _ _ ?_
    show G 23 [some (.ref 0), some (.int (v1 + 1))] [] (px_up σ 1 v1.toNatClampNeg (σ.1 4 v1.toNatClampNeg))
    refine hG.1 14 _ _ rfl _ _ _ ?_
    exact H
set_option maxRecDepth 100000 in
set_option maxHeartbeats 4000000 in
theorem hhX6_keepDraft (g : gtX6_keepDraft) (σ : px_St) (h : qrX6_keepDraft g σ) (G : px_K) (hG : px_cl (opX6_keepDraft (qoX6_keepDraft g σ)) G) : G 0 (px_ent 2 [.ref 0]) [] σ := by
  have loop : ∀ n i, i + n = 61 → ∀ σ', (∀ k, k ≠ 1 → σ'.1 k = σ.1 k) → (∀ j, j < i → σ'.1 1 j = σ.1 4 j) → G 2 [some (.ref 0), some (.int (nI i))] [] σ' := by
    intro n
    induction n with
    | zero =>
      intro i hi σ' ho hz
      refine sgX6_keepDraft_2 hG _ σ' ⟨fun _ => ⟨vpin 0 2 rfl (by omega) (by omega), vpin 1 2 rfl (by omega) (by omega), ?_⟩, fun q => absurd ((nIle 61 i rfl rfl (by omega) (by omega)).mpr (by omega)) q⟩
      rw [show vp_nar .boolean (0 : Int32) = 0 from rfl, show (0 : Int32).toNatClampNeg = 0 from rfl, show (1 : Int32).toNatClampNeg = 1 from rfl]
      exact ⟨fun k a b => by rw [px_up_n b, px_up_n b]; exact ho k a, fun j hj => by rw [px_up_n (by omega), px_up_n (by omega)]; exact hz j (by omega), by rw [px_up_at, if_neg (by omega), px_up_at, if_pos ⟨rfl, rfl⟩], by rw [px_up_at, if_pos ⟨rfl, rfl⟩]⟩
    | succ n ih =>
      intro i hi σ' ho hz
      refine sgX6_keepDraft_2 hG _ σ' ⟨fun q => absurd ((nIle 61 i rfl rfl (by omega) (by omega)).mp q) (by omega), fun _ => ⟨vp_in_nI (by omega) (by decide), vp_in_nI (by omega) (by decide), ?_⟩⟩
      rw [nI_clamp (by omega), show nI i + 1 = nI (i + 1) from nI_1 _]
      refine ih (i + 1) (by omega) _ (fun k a => by rw [px_up_n a]; exact ho k a) (fun j hj => ?_)
      rw [px_up_at]
      by_cases hji : j = i
      · rw [if_pos ⟨rfl, hji⟩, hji, ho 4 (by omega)]
      · rw [if_neg (by omega)]; exact hz j (by omega)
  exact sgX6_keepDraft_0 hG σ (loop 61 0 rfl σ (fun _ _ => rfl) (fun j hj => absurd hj (Nat.not_lt_zero j)))
theorem mX6_keepDraft (g : gtX6_keepDraft) : px_Met dM yX6_keepDraft (Cond.code yX6_keepDraft cX6_keepDraft 2 none :: wdM) rmX6_keepDraft px_vV (prX6_keepDraft g) (poX6_keepDraft g) :=
  px_met (Z := (cX6_keepDraft, 2, RX6, Cond.code yX6_keepDraft cX6_keepDraft 2 none :: wdM, none, rmX6_keepDraft, dM)) opX6_keepDraft (by decide) rfl rfl okX6_keepDraft (fun As σ h => by obtain ⟨rfl, h⟩ := h; exact Nat.le_of_ble_eq_true rfl) (fun As σ h G hG => by obtain ⟨rfl, h⟩ := h; exact hhX6_keepDraft g σ h G hG)
abbrev gtX6_text : Type := pv_X
def qrX6_text (X : pv_X) (σ : px_St) : Prop := mo_is σ X ∧ xo X
def qoX6_text (X : pv_X) (_ : px_St) (r : Int32) (σ' : px_St) : Prop := r = (x_text X).1 ∧ mo_is σ' (x_text X).2
def prX6_text (g : gtX6_text) : List Value → px_St → Prop := fun As σ => As = [.ref 0] ∧ qrX6_text g σ
def poX6_text (g : gtX6_text) : List Value → px_St → Int32 → px_St → Prop
  | [.ref _], σ, r, σ' => qoX6_text g σ r σ'
  | _, _, _, _ => False
theorem dX6_text_0 : decode cX6_text 0 = .ok (.iconst 0, 1) := by decide +kernel
theorem dX6_text_1 : decode cX6_text 1 = .ok (.istore_n 1, 1) := by decide +kernel
theorem dX6_text_2 : decode cX6_text 2 = .ok (.aload_n 0, 1) := by decide +kernel
theorem dX6_text_3 : decode cX6_text 3 = .ok (.iconst 0, 1) := by decide +kernel
theorem dX6_text_4 : decode cX6_text 4 = .ok (.putfield 64, 3) := by decide +kernel
theorem dX6_text_7 : decode cX6_text 7 = .ok (.aload_n 0, 1) := by decide +kernel
theorem dX6_text_8 : decode cX6_text 8 = .ok (.iconst 0, 1) := by decide +kernel
theorem dX6_text_9 : decode cX6_text 9 = .ok (.putfield 73, 3) := by decide +kernel
theorem dX6_text_12 : decode cX6_text 12 = .ok (.aload_n 0, 1) := by decide +kernel
theorem dX6_text_13 : decode cX6_text 13 = .ok (.invokevirtual 44, 3) := by decide +kernel
theorem dX6_text_16 : decode cX6_text 16 = .ok (.aload_n 0, 1) := by decide +kernel
theorem dX6_text_17 : decode cX6_text 17 = .ok (.invokevirtual 106, 3) := by decide +kernel
theorem dX6_text_20 : decode cX6_text 20 = .ok (.aload_n 0, 1) := by decide +kernel
theorem dX6_text_21 : decode cX6_text 21 = .ok (.getfield 64, 3) := by decide +kernel
theorem dX6_text_24 : decode cX6_text 24 = .ok (.ifCond .ne 20, 3) := by decide +kernel
theorem dX6_text_27 : decode cX6_text 27 = .ok (.aload_n 0, 1) := by decide +kernel
theorem dX6_text_28 : decode cX6_text 28 = .ok (.getfield 88, 3) := by decide +kernel
theorem dX6_text_31 : decode cX6_text 31 = .ok (.ifCond .eq 13, 3) := by decide +kernel
theorem dX6_text_34 : decode cX6_text 34 = .ok (.aload_n 0, 1) := by decide +kernel
theorem dX6_text_35 : decode cX6_text 35 = .ok (.invokevirtual 121, 3) := by decide +kernel
theorem dX6_text_38 : decode cX6_text 38 = .ok (.iinc 1 1, 3) := by decide +kernel
theorem dX6_text_41 : decode cX6_text 41 = .ok (.goto (-21), 3) := by decide +kernel
theorem dX6_text_44 : decode cX6_text 44 = .ok (.aload_n 0, 1) := by decide +kernel
theorem dX6_text_45 : decode cX6_text 45 = .ok (.iconst 0, 1) := by decide +kernel
theorem dX6_text_46 : decode cX6_text 46 = .ok (.putfield 60, 3) := by decide +kernel
theorem dX6_text_49 : decode cX6_text 49 = .ok (.aload_n 0, 1) := by decide +kernel
theorem dX6_text_50 : decode cX6_text 50 = .ok (.getfield 64, 3) := by decide +kernel
theorem dX6_text_53 : decode cX6_text 53 = .ok (.ifCond .le 11, 3) := by decide +kernel
theorem dX6_text_56 : decode cX6_text 56 = .ok (.bipush (-10), 2) := by decide +kernel
theorem dX6_text_58 : decode cX6_text 58 = .ok (.aload_n 0, 1) := by decide +kernel
theorem dX6_text_59 : decode cX6_text 59 = .ok (.getfield 70, 3) := by decide +kernel
theorem dX6_text_62 : decode cX6_text 62 = .ok (.isub, 1) := by decide +kernel
theorem dX6_text_63 : decode cX6_text 63 = .ok (.ireturn, 1) := by decide +kernel
theorem dX6_text_64 : decode cX6_text 64 = .ok (.aload_n 0, 1) := by decide +kernel
theorem dX6_text_65 : decode cX6_text 65 = .ok (.invokevirtual 47, 3) := by decide +kernel
theorem dX6_text_68 : decode cX6_text 68 = .ok (.iload_n 1, 1) := by decide +kernel
theorem dX6_text_69 : decode cX6_text 69 = .ok (.ireturn, 1) := by decide +kernel
abbrev rmX6_text : Room := { frames := 5, cells := 0, slots := 0, locals := 112 }
def opX6_text (po : Int32 → px_St → Prop) : List (Nat × px_Op) := [
  (0, px_push 1 (.int 0)),
  (1, px_is 2 1),
  (2, px_al 3 0),
  (3, px_push 4 (.int 0)),
  (4, px_put dM 7 6 11 .int),
  (7, px_al 8 0),
  (8, px_push 9 (.int 0)),
  (9, px_put dM 12 6 7 .int),
  (12, px_al 13 0),
  (13, px_callV dM 16 6 0 px_vV prX6_firstDraft poX6_firstDraft),
  (16, px_al 17 0),
  (17, px_callV dM 20 6 0 px_vV prX6_reads poX6_reads),
  (20, px_al 21 0),
  (21, px_get dM 24 6 11),
  (24, px_if 27 44 (fun x => ¬ x = 0)),
  (27, px_al 28 0),
  (28, px_get dM 31 6 9),
  (31, px_if 34 44 (fun x => x = 0)),
  (34, px_al 35 0),
  (35, px_callV dM 38 6 0 px_vV prX6_readLine poX6_readLine),
  (38, px_inc 41 1 1),
  (41, px_go 20),
  (44, px_al 45 0),
  (45, px_push 46 (.int 0)),
  (46, px_put dM 49 6 6 .int),
  (49, px_al 50 0),
  (50, px_get dM 53 6 11),
  (53, px_if 56 64 (fun x => x ≤ 0)),
  (56, px_push 58 (.int (-10))),
  (58, px_al 59 0),
  (59, px_get dM 62 6 12),
  (62, px_bin 63 (fun x y => x - y)),
  (63, px_iret (.int) po),
  (64, px_al 65 0),
  (65, px_callV dM 68 6 0 px_vV prX6_keepDraft poX6_keepDraft),
  (68, px_il 69 1),
  (69, px_iret (.int) po)]
set_option maxRecDepth 100000 in
set_option maxHeartbeats 4000000 in
theorem okX6_text : ∀ (po : Int32 → px_St → Prop) (i pc : Nat) (op : px_Op), (opX6_text po)[i]? = some (pc, op) → px_Snd (cX6_text, 2, RX6, Cond.code yX6_text cX6_text 2 (some .int) :: wdM, (some .int), rmX6_text, dM) px_vI po pc op := by
  intro po
  unfold opX6_text
  refine px_ok_cons (ps_iconst dX6_text_0 (by decide)) ?_
  refine px_ok_cons (ps_istore_n dX6_text_1 rfl (by decide)) ?_
  refine px_ok_cons (ps_aload_n dX6_text_2 rfl) ?_
  refine px_ok_cons (ps_iconst dX6_text_3 (by decide)) ?_
  refine px_ok_cons (fpX6_64 dX6_text_4) ?_
  refine px_ok_cons (ps_aload_n dX6_text_7 rfl) ?_
  refine px_ok_cons (ps_iconst dX6_text_8 (by decide)) ?_
  refine px_ok_cons (fpX6_73 dX6_text_9) ?_
  refine px_ok_cons (ps_aload_n dX6_text_12 rfl) ?_
  refine px_ok_cons (ps_callV mX6_firstDraft (fun _ _ => rfl) (C := RX6) rfl (fun _ _ ht => px_cwV wgM (wdM_0_in _ (List.mem_of_getElem? (i := 19) rfl)) (wdM_0_in _ (List.mem_of_getElem? (i := 20) rfl)) (wdM_0_in _ (List.mem_of_getElem? (i := 21) rfl)) (wdM_0_in _ (List.mem_of_getElem? (i := 22) rfl)) (wdM_0_in _ (List.mem_of_getElem? (i := 0) rfl)) (by decide +kernel) rfl rfl (by decide) ht) dX6_text_13) ?_
  refine px_ok_cons (ps_aload_n dX6_text_16 rfl) ?_
  refine px_ok_cons (ps_callV mX6_reads (fun _ _ => rfl) (C := RX6) rfl (fun _ _ ht => px_cwV wgM (wdM_1_in _ (List.mem_of_getElem? (i := 23) rfl)) (wdM_1_in _ (List.mem_of_getElem? (i := 24) rfl)) (wdM_1_in _ (List.mem_of_getElem? (i := 25) rfl)) (wdM_0_in _ (List.mem_of_getElem? (i := 22) rfl)) (wdM_1_in _ (List.mem_of_getElem? (i := 13) rfl)) (by decide +kernel) rfl rfl (by decide) ht) dX6_text_17) ?_
  refine px_ok_cons (ps_aload_n dX6_text_20 rfl) ?_
  refine px_ok_cons (fgX6_64 dX6_text_21) ?_
  refine px_ok_cons (ps_if_ne dX6_text_24 (by decide)) ?_
  refine px_ok_cons (ps_aload_n dX6_text_27 rfl) ?_
  refine px_ok_cons (fgX6_88 dX6_text_28) ?_
  refine px_ok_cons (ps_if_eq dX6_text_31 (by decide)) ?_
  refine px_ok_cons (ps_aload_n dX6_text_34 rfl) ?_
  refine px_ok_cons (ps_callV mX6_readLine (fun _ _ => rfl) (C := RX6) rfl (fun _ _ ht => px_cwV wgM (wdM_1_in _ (List.mem_of_getElem? (i := 38) rfl)) (wdM_1_in _ (List.mem_of_getElem? (i := 39) rfl)) (wdM_2_in _ (List.mem_of_getElem? (i := 0) rfl)) (wdM_0_in _ (List.mem_of_getElem? (i := 22) rfl)) (wdM_1_in _ (List.mem_of_getElem? (i := 37) rfl)) (by decide +kernel) rfl rfl (by decide) ht) dX6_text_35) ?_
  refine px_ok_cons (ps_iinc dX6_text_38 (by decide) (by decide)) ?_
  refine px_ok_cons (ps_goto dX6_text_41 (by decide)) ?_
  refine px_ok_cons (ps_aload_n dX6_text_44 rfl) ?_
  refine px_ok_cons (ps_iconst dX6_text_45 (by decide)) ?_
  refine px_ok_cons (fpX6_60 dX6_text_46) ?_
  refine px_ok_cons (ps_aload_n dX6_text_49 rfl) ?_
  refine px_ok_cons (fgX6_64 dX6_text_50) ?_
  refine px_ok_cons (ps_if_le dX6_text_53 (by decide)) ?_
  refine px_ok_cons (ps_bipush dX6_text_56 (by decide)) ?_
  refine px_ok_cons (ps_aload_n dX6_text_58 rfl) ?_
  refine px_ok_cons (fgX6_70 dX6_text_59) ?_
  refine px_ok_cons (ps_isub dX6_text_62) ?_
  refine px_ok_cons (ps_ireturn rfl dX6_text_63) ?_
  refine px_ok_cons (ps_aload_n dX6_text_64 rfl) ?_
  refine px_ok_cons (ps_callV mX6_keepDraft (fun _ _ => rfl) (C := RX6) rfl (fun _ _ ht => px_cwV wgM (wdM_0_in _ (List.mem_of_getElem? (i := 23) rfl)) (wdM_0_in _ (List.mem_of_getElem? (i := 24) rfl)) (wdM_0_in _ (List.mem_of_getElem? (i := 25) rfl)) (wdM_0_in _ (List.mem_of_getElem? (i := 22) rfl)) (wdM_0_in _ (List.mem_of_getElem? (i := 3) rfl)) (by decide +kernel) rfl rfl (by decide) ht) dX6_text_65) ?_
  refine px_ok_cons (ps_iload_n dX6_text_68 rfl) ?_
  refine px_ok_cons (ps_ireturn rfl dX6_text_69) ?_
  exact px_ok_nil
set_option maxRecDepth 100000 in
set_option maxHeartbeats 4000000 in
theorem sgX6_text_0 {po : Int32 → px_St → Prop} {G : px_K} (hG : px_cl (opX6_text po) G) (σ : px_St)
    (H : ∃ g3 : gtX6_firstDraft, qrX6_firstDraft g3 (px_up (px_up σ 0 11 (0 : Int32)) 0 7 (0 : Int32)) ∧ ∀ (r1 : Unit) (σ2 : px_St), qoX6_firstDraft g3 (px_up (px_up σ 0 11 (0 : Int32)) 0 7 (0 : Int32)) r1 σ2 → ∃ g7 : gtX6_reads, qrX6_reads g7 σ2 ∧ ∀ (r5 : Unit) (σ6 : px_St), qoX6_reads g7 σ2 r5 σ6 → G 20 [some (.ref 0), some (.int (0 : Int32))] [] σ6) :
    G 0 (px_ent 2 [.ref 0]) [] σ := by
  refine hG.1 0 _ _ rfl _ _ _ ?_
  refine hG.1 1 _ _ rfl _ _ _ ?_
  show G 2 [some (.ref 0), some (.int (0 : Int32))] [] σ
  refine hG.1 2 _ _ rfl _ _ _ ?_
  refine hG.1 3 _ _ rfl _ _ _ ?_
  refine hG.1 4 _ _ rfl _ _ _ ?_
  refine ⟨⟨rfl, by decide⟩, ⟨rfl, rfl⟩, ?_⟩
  refine hG.1 5 _ _ rfl _ _ _ ?_
  refine hG.1 6 _ _ rfl _ _ _ ?_
  refine hG.1 7 _ _ rfl _ _ _ ?_
  refine ⟨⟨rfl, by decide⟩, ⟨rfl, rfl⟩, ?_⟩
  refine hG.1 8 _ _ rfl _ _ _ ?_
  refine hG.1 9 _ _ rfl _ _ _ ?_
  obtain ⟨g3, H⟩ := H
  refine ⟨⟨rfl, by decide⟩, Nat.le_of_ble_eq_true rfl, g3, ⟨rfl, H.1⟩, fun r1 σ2 hp4 => ?_⟩
  replace H := H.2 r1 σ2 hp4
  refine hG.1 10 _ _ rfl _ _ _ ?_
  refine hG.1 11 _ _ rfl _ _ _ ?_
  obtain ⟨g7, H⟩ := H
  refine ⟨⟨rfl, by decide⟩, Nat.le_of_ble_eq_true rfl, g7, ⟨rfl, H.1⟩, fun r5 σ6 hp8 => ?_⟩
  replace H := H.2 r5 σ6 hp8
  exact H
set_option maxRecDepth 100000 in
set_option maxHeartbeats 4000000 in
theorem sgX6_text_20 {po : Int32 → px_St → Prop} {G : px_K} (hG : px_cl (opX6_text po) G) (v1 : Int32) (σ : px_St)
    (H : ((¬ (σ.1 0 11) = 0) → G 44 [some (.ref 0), some (.int v1)] [] σ) ∧ (¬ (¬ (σ.1 0 11) = 0) → (((σ.1 0 9) = 0) → G 44 [some (.ref 0), some (.int v1)] [] σ) ∧ (¬ ((σ.1 0 9) = 0) → ∃ g3 : gtX6_readLine, qrX6_readLine g3 σ ∧ ∀ (r1 : Unit) (σ2 : px_St), qoX6_readLine g3 σ r1 σ2 → G 20 [some (.ref 0), some (.int (v1 + 1))] [] σ2))) :
    G 20 [some (.ref 0), some (.int v1)] [] σ := by
  refine hG.1 12 _ _ rfl _ _ _ ?_
  refine hG.1 13 _ _ rfl _ _ _ ?_
  refine ⟨⟨rfl, by decide⟩, ?_⟩
  refine hG.1 14 _ _ rfl _ _ _ ?_
  refine ⟨fun h6 => ?_, fun h6 => ?_⟩
  · replace H := H.1 h6
    exact H
  · replace H := H.2 h6
    refine hG.1 15 _ _ rfl _ _ _ ?_
    refine hG.1 16 _ _ rfl _ _ _ ?_
    refine ⟨⟨rfl, by decide⟩, ?_⟩
    refine hG.1 17 _ _ rfl _ _ _ ?_
    refine ⟨fun h5 => ?_, fun h5 => ?_⟩
    · replace H := H.1 h5
      exact H
    · replace H := H.2 h5
      refine hG.1 18 _ _ rfl _ _ _ ?_
      refine hG.1 19 _ _ rfl _ _ _ ?_
      obtain ⟨g3, H⟩ := H
      refine ⟨⟨rfl, by decide⟩, Nat.le_of_ble_eq_true rfl, g3, ⟨rfl, H.1⟩, fun r1 σ2 hp4 => ?_⟩
      replace H := H.2 r1 σ2 hp4
      refine hG.1 20 _ _ rfl _ _ _ ?_
      show G 41 [some (.ref 0), some (.int (v1 + 1))] [] σ2
      refine hG.1 21 _ _ rfl _ _ _ ?_
      exact H
set_option maxRecDepth 100000 in
set_option maxHeartbeats 4000000 in
theorem sgX6_text_44 {po : Int32 → px_St → Prop} {G : px_K} (hG : px_cl (opX6_text po) G) (v1 : Int32) (σ : px_St)
    (H : ((((px_up σ 0 6 (0 : Int32)).1 0 11) ≤ 0) → ∃ g3 : gtX6_keepDraft, qrX6_keepDraft g3 (px_up σ 0 6 (0 : Int32)) ∧ ∀ (r1 : Unit) (σ2 : px_St), qoX6_keepDraft g3 (px_up σ 0 6 (0 : Int32)) r1 σ2 → po v1 σ2) ∧ (¬ (((px_up σ 0 6 (0 : Int32)).1 0 11) ≤ 0) → po ((-10 : Int32) - ((px_up σ 0 6 (0 : Int32)).1 0 12)) (px_up σ 0 6 (0 : Int32)))) :
    G 44 [some (.ref 0), some (.int v1)] [] σ := by
  refine hG.1 22 _ _ rfl _ _ _ ?_
  refine hG.1 23 _ _ rfl _ _ _ ?_
  refine hG.1 24 _ _ rfl _ _ _ ?_
  refine ⟨⟨rfl, by decide⟩, ⟨rfl, rfl⟩, ?_⟩
  refine hG.1 25 _ _ rfl _ _ _ ?_
  refine hG.1 26 _ _ rfl _ _ _ ?_
  refine ⟨⟨rfl, by decide⟩, ?_⟩
  refine hG.1 27 _ _ rfl _ _ _ ?_
  refine ⟨fun h5 => ?_, fun h5 => ?_⟩
  · replace H := H.1 h5
    refine hG.1 33 _ _ rfl _ _ _ ?_
    refine hG.1 34 _ _ rfl _ _ _ ?_
    obtain ⟨g3, H⟩ := H
    refine ⟨⟨rfl, by decide⟩, Nat.le_of_ble_eq_true rfl, g3, ⟨rfl, H.1⟩, fun r1 σ2 hp4 => ?_⟩
    replace H := H.2 r1 σ2 hp4
    refine hG.1 35 _ _ rfl _ _ _ ?_
    refine hG.1 36 _ _ rfl _ _ _ ?_
    exact ⟨rfl, H⟩
  · replace H := H.2 h5
    refine hG.1 28 _ _ rfl _ _ _ ?_
    refine hG.1 29 _ _ rfl _ _ _ ?_
    refine hG.1 30 _ _ rfl _ _ _ ?_
    refine ⟨⟨rfl, by decide⟩, ?_⟩
    refine hG.1 31 _ _ rfl _ _ _ ?_
    refine hG.1 32 _ _ rfl _ _ _ ?_
    exact ⟨rfl, H⟩
set_option maxRecDepth 100000 in
set_option maxHeartbeats 4000000 in
theorem hhX6_text (g : gtX6_text) (σ : px_St) (h : qrX6_text g σ) (G : px_K) (hG : px_cl (opX6_text (qoX6_text g σ)) G) : G 0 (px_ent 2 [.ref 0]) [] σ := by
  obtain ⟨hX, hok⟩ := h
  have hT : tx_ok g.2.2.1 := hok.2.2.1
  have htp := hX.2.2.1
  obtain ⟨T, eT⟩ : ∃ T, T = g.2.2.1 := ⟨_, rfl⟩
  rw [← eT] at hT htp
  have hl := hT.1
  obtain ⟨R0, hR0⟩ : ∃ R0, R0 = pt_text T := ⟨_, rfl⟩
  have hq : ∀ r σ', r = (x_text0 g R0).1 ∧ mo_is σ' (x_text0 g R0).2 → qoX6_text g σ r σ' := fun r σ' h => by
    rw [hR0, eT] at h
    exact h
  have hgd := pt_text_good hT
  rw [← hR0] at hgd
  have hb : rbM σ T := ⟨htp.1, fun i hi => by
    have h1 := htp.2 i _ (List.getElem?_eq_getElem hi)
    rw [h1]
    unfold ch
    rw [List.getD_eq_getElem?_getD, List.getElem?_eq_getElem hi]
    rfl⟩
  obtain ⟨x1, x2, x3, x4, x5, x6, x7⟩ := hX
  -- at the end
  have fin : ∀ n σ', rsM σ' (fun w : pv_V × Nat => σ'.1 0 11 = 0 ∧ n = nI w.2 ∧ dr_is σ' w.1) R0 → frE σ σ' → G 44 [some (.ref 0), some (.int n)] [] σ' := by
    intro n σ' hs ho
    refine sgX6_text_44 hG _ σ' ?_
    rw [up0n (show 11 ≠ 6 by omega), up0n (show 12 ≠ 6 by omega)]
    obtain ⟨σA, eA⟩ : ∃ σA, σA = px_up σ' 0 6 0 := ⟨_, rfl⟩
    rw [← eA]
    have k6 : σA.1 0 6 = 0 := by rw [eA, up0s]
    have k0 : ∀ j, j ≠ 6 → σA.1 0 j = σ'.1 0 j := fun j hj => by rw [eA, up0n hj]
    have kk : ∀ k, k ≠ 0 → σA.1 k = σ'.1 k := fun k hk => by rw [eA, px_up_n hk]
    have ko : ∀ k, k ≠ 0 → k ≠ 4 → σA.1 k = σ.1 k := fun k a b => (kk k a).trans (ho.1 k a b)
    have k23 : σA.1 0 23 = σ.1 0 23 := (k0 23 (by omega)).trans (ho.2 23 (by omega) (by omega))
    cases R0 with
    | inl f =>
      have hs : σ'.1 0 11 = nI f.1 ∧ σ'.1 0 12 = nI f.2 := hs
      have hf : 1 ≤ f.1 ∧ f.1 ≤ 5 := hgd.1
      rw [hs.1, hs.2]
      refine ⟨fun q => ?_, fun _ => hq _ _ ⟨rfl, ?_⟩⟩
      · exact absurd ((nIle f.1 0 rfl rfl (by omega) (by omega)).mp q) (by omega)
      · have e1 := ko 1 (by omega) (by omega)
        exact ⟨by rw [e1]; exact x1, by rw [e1]; exact x2, ⟨k6, fun i x hx => (noat hx).elim⟩, x4.kept (ko 3 (by omega) (by omega)) (fun j _ => by rw [e1]), by rw [k0 11 (by omega)]; exact hs.1, by rw [k23]; exact x6, x7.kept (ko 8 (by omega) (by omega)) (ko 9 (by omega) (by omega)) (ko 10 (by omega) (by omega))⟩
    | inr w =>
      have hs : σ'.1 0 11 = 0 ∧ n = nI w.2 ∧ dr_is σ' w.1 := hs
      have hw : pv_ok w.1 := hgd.1.1
      rw [hs.1]
      refine ⟨fun _ => ⟨(), trivial, fun _ σ2 h2 => hq _ _ ⟨hs.2.1, ?_⟩⟩, fun q => absurd (by decide) q⟩
      obtain ⟨h3, h4, h5, h6⟩ := h2
      have e4 : σA.1 4 = σ'.1 4 := kk 4 (by omega)
      have e0 : σ2.1 0 = σA.1 0 := h3 0 (by omega) (by omega)
      refine ⟨hs.2.2.1.cg hw.1 (fun j hj => by rw [h4 j (by omega), e4]), ⟨by rw [h4 48 (by omega), e4]; exact hs.2.2.2.1, fun i x hx => (noat hx).elim⟩, ⟨by rw [e0]; exact k6, fun i x hx => (noat hx).elim⟩, fun j hj => ⟨?_, fun w hw => by cases hw⟩, by rw [e0, k0 11 (by omega)]; exact hs.1, by rw [e0, k23]; exact x6, x7.kept ((h3 8 (by omega) (by omega)).trans (ko 8 (by omega) (by omega))) ((h3 9 (by omega) (by omega)).trans (ko 9 (by omega) (by omega))) ((h3 10 (by omega) (by omega)).trans (ko 10 (by omega) (by omega)))⟩
      rcases (show j = 0 ∨ j = 1 by omega) with rfl | rfl
      · exact h5
      · exact h6
  have stop : ∀ (f : Nat × Nat) n σ', 1 ≤ f.1 ∧ f.1 ≤ 5 → R0 = .inl f → σ'.1 0 11 = nI f.1 → σ'.1 0 12 = nI f.2 → frE σ σ' → G 20 [some (.ref 0), some (.int n)] [] σ' := fun f n σ' h1 hf e11 e12 ho =>
    sgX6_text_20 hG _ σ' ⟨fun _ => fin n σ' (by rw [hf]; exact ⟨e11, e12⟩) ho, fun q => absurd (by rw [e11]; exact nI_ne0 (by omega) (by omega)) q⟩
  have loop : ∀ (m : Nat) (V : pv_V) (e : Nat) (t : pt_K) (n : Nat) (σ' : px_St), 160 < m + t.2.1 → n ≤ t.2.1 → pv_ok V → e ≤ 1 → tk_ok T t → R0 = pt_lines T m V e t n → rdM σ' t → dr_is σ' V → σ'.1 0 4 = nI e → frE σ σ' → G 20 [some (.ref 0), some (.int (nI n))] [] σ' := by
    intro m
    induction m with
    | zero =>
      intro V e t n σ' hm hn hokV he1 ht
      have b1 := ht.2.1
      have b2 := ht.2.2.1
      omega
    | succ m ih =>
      intro V e t n σ' hm hn hokV he1 ht he hr hV he4 ho
      have b1 := ht.2.1
      have b2 := ht.2.2.1
      rw [pt_lines] at he
      have c0 := hr.s ht 0 0 rfl (by omega)
      refine sgX6_text_20 hG _ σ' ⟨fun q => absurd hr.1 q, fun _ => ?_⟩
      rw [c0]
      refine ⟨fun q => ?_, fun q => ⟨(T, V, e, t), ⟨hb.keptE ho, hT, hV, hokV, he4, he1, hr, ht⟩, fun _ σ1 h1 => ?_⟩⟩
      · rw [if_pos q] at he
        exact fin _ _ (by rw [he]; exact ⟨hr.1, rfl, hV⟩) ho
      · rw [if_neg q] at he
        obtain ⟨h2, h3⟩ := h1
        have hgl := pt_line_good hT hokV he1 ht
        unfold pt_lnx at h2
        rw [show nI n + 1 = nI (n + 1) from nI_1 _]
        cases hx : pt_line T V e t with
        | inl f =>
          rw [hx] at h2 he hgl
          rw [pt_bl] at he h2
          have h2 : σ1.1 0 11 = nI f.1 ∧ σ1.1 0 12 = nI f.2 := h2
          exact stop f _ _ hgl.1 he h2.1 h2.2 (ho.tr h3)
        | inr w =>
          rw [hx] at h2 he hgl
          rw [pt_br] at he h2
          obtain ⟨⟨⟨w1, w1'⟩, w2, w3, w4⟩, w5⟩ := hgl
          have hg2 := pt_next_good (p := w.2.2.2.2.1) hT w3.2.2.1
          cases hy : pt_next T w.2.2.2.2.1 with
          | inl f =>
            rw [hy] at h2 he hg2
            rw [pt_bl] at he h2
            have h2 : σ1.1 0 11 = nI f.1 ∧ σ1.1 0 12 = nI f.2 := h2
            exact stop f _ _ hg2.1 he h2.1 h2.2 (ho.tr h3)
          | inr t' =>
            rw [hy] at h2 he hg2
            rw [pt_br] at he h2
            have h2 : rdM σ1 t' ∧ dr_is σ1 w.1 ∧ σ1.1 0 4 = nI w.2.1 := h2
            have h13 := w3.2.2.2.2 (by omega)
            have h14 := hg2.2
            exact ih w.1 w.2.1 t' (n + 1) σ1 (by omega) (by omega) w1 w2 hg2.1 he h2.1 h2.2.1 h2.2.2 (ho.tr h3)
  obtain ⟨σ0, e0⟩ : ∃ σ0, σ0 = px_up (px_up σ 0 11 0) 0 7 0 := ⟨_, rfl⟩
  have o0 : frE σ σ0 := by rw [e0]; exact ((fr0.up (by omega)).tr (fr0.up (by omega))).D.E
  refine sgX6_text_0 hG σ ?_
  rw [← e0]
  refine ⟨(), trivial, fun _ σ1 h1 => ?_⟩
  obtain ⟨h2, h3, h4, h5⟩ := h1
  have o1 : frE σ σ1 := o0.tr ⟨h2, fun j a _ => h3 j a⟩
  refine ⟨(T, 0, 0), ⟨hb.keptE o1, hT, ?_, by omega, fun _ => ⟨Nat.zero_le _, ?_⟩⟩, fun _ σ2 h6 => ?_⟩
  · rw [h3 11 (by omega), e0, up0n (by omega), up0s]; rfl
  · rw [h3 7 (by omega), e0, up0s]; rfl
  · obtain ⟨-, h7, h8⟩ := h6
    have h7 := h7 rfl
    have o2 := o1.tr h8.D.E
    have hR : R0 = pt_b (pt_next T 0) (fun t => pt_lines T 161 pv_0 0 t 0) := hR0
    have hg1 := pt_next_good (p := 0) hT (Nat.zero_le _)
    cases hz : pt_next T 0 with
    | inl f =>
      rw [hz] at h7 hR hg1
      rw [pt_bl] at hR
      have h7 : σ2.1 0 11 = nI f.1 ∧ σ2.1 0 12 = nI f.2 := h7
      exact stop f _ _ hg1.1 hR h7.1 h7.2 o2
    | inr t =>
      rw [hz] at h7 hR hg1
      rw [pt_br] at hR
      exact loop 161 pv_0 0 t 0 σ2 (by omega) (Nat.zero_le _) pv_0_ok (Nat.zero_le _) hg1.1 hR h7 (h5.kept (h8.1 4 (by omega))) (by rw [h8.2 4 (by omega)]; exact h4) o2
theorem mX6_text (g : gtX6_text) : px_Met dM yX6_text (Cond.code yX6_text cX6_text 2 (some .int) :: wdM) rmX6_text px_vI (prX6_text g) (poX6_text g) :=
  px_met (Z := (cX6_text, 2, RX6, Cond.code yX6_text cX6_text 2 (some .int) :: wdM, (some .int), rmX6_text, dM)) opX6_text (by decide) rfl rfl okX6_text (fun As σ h => by obtain ⟨rfl, h⟩ := h; exact Nat.le_of_ble_eq_true rfl) (fun As σ h G hG => by obtain ⟨rfl, h⟩ := h; exact hhX6_text g σ h G hG)
