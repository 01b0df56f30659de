theorem said_pos {V : pv_V} (h : pv_ok V) (hn : 0 < V.1) : ∃ x, x ≤ 9 ∧ pv_said V = nI x := ⟨pv_due V, pv_due_le h hn, if_neg (by omega)⟩
theorem mk.of7 {σ σ' : px_St} (h : ∀ k, k ≠ 7 → σ'.1 k = σ.1 k) : mk σ σ' := ⟨fun k _ _ _ _ e _ => h k e, fun j _ => by rw [h 0 (by omega)]⟩
theorem ixm10 (d x : Nat) : (10 : Int32) * nI d + nI x = nI (10 * d + x) := by rw [show (10 : Int32) = nI 10 from rfl, pk_mul, nI_add]
abbrev gtX6_ask : Type := pv_X
def qrX6_ask (X : pv_X) (_ _ _ : Int32) (σ : px_St) : Prop := mo_is σ X ∧ xo X
def qoX6_ask (X : pv_X) (p i w : Int32) (_ : px_St) (r : Int32) (σ' : px_St) : Prop := r = (x_ask X p i w).1 ∧ mo_is σ' (x_ask X p i w).2
def prX6_ask (g : gtX6_ask) : List Value → px_St → Prop := fun As σ => ∃ v1 : Int32, ∃ v2 : Int32, ∃ v3 : Int32, As = [.ref 0, .int v1, .int v2, .int v3] ∧ qrX6_ask g v1 v2 v3 σ
def poX6_ask (g : gtX6_ask) : List Value → px_St → Int32 → px_St → Prop
  | [.ref _, .int v1, .int v2, .int v3], σ, r, σ' => qoX6_ask g v1 v2 v3 σ r σ'
  | _, _, _, _ => False
theorem dX6_ask_0 : decode cX6_ask 0 = .ok (.aload_n 0, 1) := by decide +kernel
theorem dX6_ask_1 : decode cX6_ask 1 = .ok (.iload_n 1, 1) := by decide +kernel
theorem dX6_ask_2 : decode cX6_ask 2 = .ok (.iload_n 2, 1) := by decide +kernel
theorem dX6_ask_3 : decode cX6_ask 3 = .ok (.invokevirtual 184, 3) := by decide +kernel
theorem dX6_ask_6 : decode cX6_ask 6 = .ok (.ifCond .eq 10, 3) := by decide +kernel
theorem dX6_ask_9 : decode cX6_ask 9 = .ok (.iload_n 3, 1) := by decide +kernel
theorem dX6_ask_10 : decode cX6_ask 10 = .ok (.invokestatic 219, 3) := by decide +kernel
theorem dX6_ask_13 : decode cX6_ask 13 = .ok (.ifCond .ne 5, 3) := by decide +kernel
theorem dX6_ask_16 : decode cX6_ask 16 = .ok (.iconst (-1), 1) := by decide +kernel
theorem dX6_ask_17 : decode cX6_ask 17 = .ok (.ireturn, 1) := by decide +kernel
theorem dX6_ask_18 : decode cX6_ask 18 = .ok (.iconst 0, 1) := by decide +kernel
theorem dX6_ask_19 : decode cX6_ask 19 = .ok (.istore 4, 2) := by decide +kernel
theorem dX6_ask_21 : decode cX6_ask 21 = .ok (.iconst 0, 1) := by decide +kernel
theorem dX6_ask_22 : decode cX6_ask 22 = .ok (.istore 5, 2) := by decide +kernel
theorem dX6_ask_24 : decode cX6_ask 24 = .ok (.iload 5, 2) := by decide +kernel
theorem dX6_ask_26 : decode cX6_ask 26 = .ok (.sipush 210, 3) := by decide +kernel
theorem dX6_ask_29 : decode cX6_ask 29 = .ok (.if_icmp .ge 17, 3) := by decide +kernel
theorem dX6_ask_32 : decode cX6_ask 32 = .ok (.aload_n 0, 1) := by decide +kernel
theorem dX6_ask_33 : decode cX6_ask 33 = .ok (.getfield 29, 3) := by decide +kernel
theorem dX6_ask_36 : decode cX6_ask 36 = .ok (.iload 5, 2) := by decide +kernel
theorem dX6_ask_38 : decode cX6_ask 38 = .ok (.iconst 0, 1) := by decide +kernel
theorem dX6_ask_39 : decode cX6_ask 39 = .ok (.iastore, 1) := by decide +kernel
theorem dX6_ask_40 : decode cX6_ask 40 = .ok (.iinc 5 1, 3) := by decide +kernel
theorem dX6_ask_43 : decode cX6_ask 43 = .ok (.goto (-19), 3) := by decide +kernel
theorem dX6_ask_46 : decode cX6_ask 46 = .ok (.iconst 0, 1) := by decide +kernel
theorem dX6_ask_47 : decode cX6_ask 47 = .ok (.istore 5, 2) := by decide +kernel
theorem dX6_ask_49 : decode cX6_ask 49 = .ok (.iload 5, 2) := by decide +kernel
theorem dX6_ask_51 : decode cX6_ask 51 = .ok (.bipush 9, 2) := by decide +kernel
theorem dX6_ask_53 : decode cX6_ask 53 = .ok (.if_icmp .gt 67, 3) := by decide +kernel
theorem dX6_ask_56 : decode cX6_ask 56 = .ok (.aload_n 0, 1) := by decide +kernel
theorem dX6_ask_57 : decode cX6_ask 57 = .ok (.bipush 9, 2) := by decide +kernel
theorem dX6_ask_59 : decode cX6_ask 59 = .ok (.iload_n 1, 1) := by decide +kernel
theorem dX6_ask_60 : decode cX6_ask 60 = .ok (.imul, 1) := by decide +kernel
theorem dX6_ask_61 : decode cX6_ask 61 = .ok (.iconst 3, 1) := by decide +kernel
theorem dX6_ask_62 : decode cX6_ask 62 = .ok (.iadd, 1) := by decide +kernel
theorem dX6_ask_63 : decode cX6_ask 63 = .ok (.iload_n 2, 1) := by decide +kernel
theorem dX6_ask_64 : decode cX6_ask 64 = .ok (.iadd, 1) := by decide +kernel
theorem dX6_ask_65 : decode cX6_ask 65 = .ok (.iload 5, 2) := by decide +kernel
theorem dX6_ask_67 : decode cX6_ask 67 = .ok (.invokevirtual 266, 3) := by decide +kernel
theorem dX6_ask_70 : decode cX6_ask 70 = .ok (.ifCond .eq 44, 3) := by decide +kernel
theorem dX6_ask_73 : decode cX6_ask 73 = .ok (.iconst 0, 1) := by decide +kernel
theorem dX6_ask_74 : decode cX6_ask 74 = .ok (.istore 6, 2) := by decide +kernel
theorem dX6_ask_76 : decode cX6_ask 76 = .ok (.iload 6, 2) := by decide +kernel
theorem dX6_ask_78 : decode cX6_ask 78 = .ok (.bipush 20, 2) := by decide +kernel
theorem dX6_ask_80 : decode cX6_ask 80 = .ok (.if_icmp .gt 31, 3) := by decide +kernel
theorem dX6_ask_83 : decode cX6_ask 83 = .ok (.aload_n 0, 1) := by decide +kernel
theorem dX6_ask_84 : decode cX6_ask 84 = .ok (.getfield 29, 3) := by decide +kernel
theorem dX6_ask_87 : decode cX6_ask 87 = .ok (.bipush 10, 2) := by decide +kernel
theorem dX6_ask_89 : decode cX6_ask 89 = .ok (.iload 6, 2) := by decide +kernel
theorem dX6_ask_91 : decode cX6_ask 91 = .ok (.imul, 1) := by decide +kernel
theorem dX6_ask_92 : decode cX6_ask 92 = .ok (.aload_n 0, 1) := by decide +kernel
theorem dX6_ask_93 : decode cX6_ask 93 = .ok (.getfield 26, 3) := by decide +kernel
theorem dX6_ask_96 : decode cX6_ask 96 = .ok (.iload 6, 2) := by decide +kernel
theorem dX6_ask_98 : decode cX6_ask 98 = .ok (.iaload, 1) := by decide +kernel
theorem dX6_ask_99 : decode cX6_ask 99 = .ok (.iadd, 1) := by decide +kernel
theorem dX6_ask_100 : decode cX6_ask 100 = .ok (.dup2, 1) := by decide +kernel
theorem dX6_ask_101 : decode cX6_ask 101 = .ok (.iaload, 1) := by decide +kernel
theorem dX6_ask_102 : decode cX6_ask 102 = .ok (.iconst 1, 1) := by decide +kernel
theorem dX6_ask_103 : decode cX6_ask 103 = .ok (.iadd, 1) := by decide +kernel
theorem dX6_ask_104 : decode cX6_ask 104 = .ok (.iastore, 1) := by decide +kernel
theorem dX6_ask_105 : decode cX6_ask 105 = .ok (.iinc 6 1, 3) := by decide +kernel
theorem dX6_ask_108 : decode cX6_ask 108 = .ok (.goto (-32), 3) := by decide +kernel
theorem dX6_ask_111 : decode cX6_ask 111 = .ok (.iinc 4 1, 3) := by decide +kernel
theorem dX6_ask_114 : decode cX6_ask 114 = .ok (.iinc 5 1, 3) := by decide +kernel
theorem dX6_ask_117 : decode cX6_ask 117 = .ok (.goto (-68), 3) := by decide +kernel
theorem dX6_ask_120 : decode cX6_ask 120 = .ok (.aload_n 0, 1) := by decide +kernel
theorem dX6_ask_121 : decode cX6_ask 121 = .ok (.iload 4, 2) := by decide +kernel
theorem dX6_ask_123 : decode cX6_ask 123 = .ok (.invokevirtual 222, 3) := by decide +kernel
theorem dX6_ask_126 : decode cX6_ask 126 = .ok (.iconst 0, 1) := by decide +kernel
theorem dX6_ask_127 : decode cX6_ask 127 = .ok (.istore 5, 2) := by decide +kernel
theorem dX6_ask_129 : decode cX6_ask 129 = .ok (.iload 5, 2) := by decide +kernel
theorem dX6_ask_131 : decode cX6_ask 131 = .ok (.bipush 20, 2) := by decide +kernel
theorem dX6_ask_133 : decode cX6_ask 133 = .ok (.if_icmp .gt 74, 3) := by decide +kernel
theorem dX6_ask_136 : decode cX6_ask 136 = .ok (.iconst 0, 1) := by decide +kernel
theorem dX6_ask_137 : decode cX6_ask 137 = .ok (.istore 6, 2) := by decide +kernel
theorem dX6_ask_139 : decode cX6_ask 139 = .ok (.iconst 0, 1) := by decide +kernel
theorem dX6_ask_140 : decode cX6_ask 140 = .ok (.istore 7, 2) := by decide +kernel
theorem dX6_ask_142 : decode cX6_ask 142 = .ok (.iload 7, 2) := by decide +kernel
theorem dX6_ask_144 : decode cX6_ask 144 = .ok (.bipush 9, 2) := by decide +kernel
theorem dX6_ask_146 : decode cX6_ask 146 = .ok (.if_icmp .gt 47, 3) := by decide +kernel
theorem dX6_ask_149 : decode cX6_ask 149 = .ok (.aload_n 0, 1) := by decide +kernel
theorem dX6_ask_150 : decode cX6_ask 150 = .ok (.getfield 29, 3) := by decide +kernel
theorem dX6_ask_153 : decode cX6_ask 153 = .ok (.bipush 10, 2) := by decide +kernel
theorem dX6_ask_155 : decode cX6_ask 155 = .ok (.iload 5, 2) := by decide +kernel
theorem dX6_ask_157 : decode cX6_ask 157 = .ok (.imul, 1) := by decide +kernel
theorem dX6_ask_158 : decode cX6_ask 158 = .ok (.iload 7, 2) := by decide +kernel
theorem dX6_ask_160 : decode cX6_ask 160 = .ok (.iadd, 1) := by decide +kernel
theorem dX6_ask_161 : decode cX6_ask 161 = .ok (.iaload, 1) := by decide +kernel
theorem dX6_ask_162 : decode cX6_ask 162 = .ok (.iload 6, 2) := by decide +kernel
theorem dX6_ask_164 : decode cX6_ask 164 = .ok (.if_icmp .le 19, 3) := by decide +kernel
theorem dX6_ask_167 : decode cX6_ask 167 = .ok (.aload_n 0, 1) := by decide +kernel
theorem dX6_ask_168 : decode cX6_ask 168 = .ok (.getfield 29, 3) := by decide +kernel
theorem dX6_ask_171 : decode cX6_ask 171 = .ok (.bipush 10, 2) := by decide +kernel
theorem dX6_ask_173 : decode cX6_ask 173 = .ok (.iload 5, 2) := by decide +kernel
theorem dX6_ask_175 : decode cX6_ask 175 = .ok (.imul, 1) := by decide +kernel
theorem dX6_ask_176 : decode cX6_ask 176 = .ok (.iload 7, 2) := by decide +kernel
theorem dX6_ask_178 : decode cX6_ask 178 = .ok (.iadd, 1) := by decide +kernel
theorem dX6_ask_179 : decode cX6_ask 179 = .ok (.iaload, 1) := by decide +kernel
theorem dX6_ask_180 : decode cX6_ask 180 = .ok (.goto 5, 3) := by decide +kernel
theorem dX6_ask_183 : decode cX6_ask 183 = .ok (.iload 6, 2) := by decide +kernel
theorem dX6_ask_185 : decode cX6_ask 185 = .ok (.istore 6, 2) := by decide +kernel
theorem dX6_ask_187 : decode cX6_ask 187 = .ok (.iinc 7 1, 3) := by decide +kernel
theorem dX6_ask_190 : decode cX6_ask 190 = .ok (.goto (-48), 3) := by decide +kernel
theorem dX6_ask_193 : decode cX6_ask 193 = .ok (.aload_n 0, 1) := by decide +kernel
theorem dX6_ask_194 : decode cX6_ask 194 = .ok (.iload 5, 2) := by decide +kernel
theorem dX6_ask_196 : decode cX6_ask 196 = .ok (.iload 6, 2) := by decide +kernel
theorem dX6_ask_198 : decode cX6_ask 198 = .ok (.invokevirtual 225, 3) := by decide +kernel
theorem dX6_ask_201 : decode cX6_ask 201 = .ok (.iinc 5 1, 3) := by decide +kernel
theorem dX6_ask_204 : decode cX6_ask 204 = .ok (.goto (-75), 3) := by decide +kernel
theorem dX6_ask_207 : decode cX6_ask 207 = .ok (.aload_n 0, 1) := by decide +kernel
theorem dX6_ask_208 : decode cX6_ask 208 = .ok (.iload_n 3, 1) := by decide +kernel
theorem dX6_ask_209 : decode cX6_ask 209 = .ok (.invokevirtual 231, 3) := by decide +kernel
theorem dX6_ask_212 : decode cX6_ask 212 = .ok (.ireturn, 1) := by decide +kernel
abbrev rmX6_ask : Room := { frames := 5, cells := 0, slots := 0, locals := 117 }
def opX6_ask (po : Int32 → px_St → Prop) : List (Nat × px_Op) := [
  (0, px_al 1 0),
  (1, px_il 2 1),
  (2, px_il 3 2),
  (3, px_callV dM 6 6 2 px_vI prX6_isOwn poX6_isOwn),
  (6, px_if 9 16 (fun x => x = 0)),
  (9, px_il 10 3),
  (10, px_callS 13 1 px_vI prX6_isPart poX6_isPart),
  (13, px_if 16 18 (fun x => ¬ x = 0)),
  (16, px_push 17 (.int (-1))),
  (17, px_iret (.int) po),
  (18, px_push 19 (.int 0)),
  (19, px_is 21 4),
  (21, px_push 22 (.int 0)),
  (22, px_is 24 5),
  (24, px_il 26 5),
  (26, px_push 29 (.int 210)),
  (29, px_ic 32 46 (fun x y => y ≤ x)),
  (32, px_al 33 0),
  (33, px_get dM 36 6 19),
  (36, px_il 38 5),
  (38, px_push 39 (.int 0)),
  (39, px_ast dM 40 0 (fun x => x)),
  (40, px_inc 43 5 1),
  (43, px_go 24),
  (46, px_push 47 (.int 0)),
  (47, px_is 49 5),
  (49, px_il 51 5),
  (51, px_push 53 (.int 9)),
  (53, px_ic 56 120 (fun x y => y < x)),
  (56, px_al 57 0),
  (57, px_push 59 (.int 9)),
  (59, px_il 60 1),
  (60, px_bin 61 (fun x y => x * y)),
  (61, px_push 62 (.int 3)),
  (62, px_bin 63 (fun x y => x + y)),
  (63, px_il 64 2),
  (64, px_bin 65 (fun x y => x + y)),
  (65, px_il 67 5),
  (67, px_callV dM 70 6 2 px_vI prX6_isSoWith poX6_isSoWith),
  (70, px_if 73 114 (fun x => x = 0)),
  (73, px_push 74 (.int 0)),
  (74, px_is 76 6),
  (76, px_il 78 6),
  (78, px_push 80 (.int 20)),
  (80, px_ic 83 111 (fun x y => y < x)),
  (83, px_al 84 0),
  (84, px_get dM 87 6 19),
  (87, px_push 89 (.int 10)),
  (89, px_il 91 6),
  (91, px_bin 92 (fun x y => x * y)),
  (92, px_al 93 0),
  (93, px_get dM 96 6 18),
  (96, px_il 98 6),
  (98, px_ald dM 99 0),
  (99, px_bin 100 (fun x y => x + y)),
  (100, px_dup2 101),
  (101, px_ald dM 102 0),
  (102, px_push 103 (.int 1)),
  (103, px_bin 104 (fun x y => x + y)),
  (104, px_ast dM 105 0 (fun x => x)),
  (105, px_inc 108 6 1),
  (108, px_go 76),
  (111, px_inc 114 4 1),
  (114, px_inc 117 5 1),
  (117, px_go 49),
  (120, px_al 121 0),
  (121, px_il 123 4),
  (123, px_callV dM 126 6 1 px_vV prX6_startsJudging poX6_startsJudging),
  (126, px_push 127 (.int 0)),
  (127, px_is 129 5),
  (129, px_il 131 5),
  (131, px_push 133 (.int 20)),
  (133, px_ic 136 207 (fun x y => y < x)),
  (136, px_push 137 (.int 0)),
  (137, px_is 139 6),
  (139, px_push 140 (.int 0)),
  (140, px_is 142 7),
  (142, px_il 144 7),
  (144, px_push 146 (.int 9)),
  (146, px_ic 149 193 (fun x y => y < x)),
  (149, px_al 150 0),
  (150, px_get dM 153 6 19),
  (153, px_push 155 (.int 10)),
  (155, px_il 157 5),
  (157, px_bin 158 (fun x y => x * y)),
  (158, px_il 160 7),
  (160, px_bin 161 (fun x y => x + y)),
  (161, px_ald dM 162 0),
  (162, px_il 164 6),
  (164, px_ic 167 183 (fun x y => x ≤ y)),
  (167, px_al 168 0),
  (168, px_get dM 171 6 19),
  (171, px_push 173 (.int 10)),
  (173, px_il 175 5),
  (175, px_bin 176 (fun x y => x * y)),
  (176, px_il 178 7),
  (178, px_bin 179 (fun x y => x + y)),
  (179, px_ald dM 180 0),
  (180, px_go 185),
  (183, px_il 185 6),
  (185, px_is 187 6),
  (187, px_inc 190 7 1),
  (190, px_go 142),
  (193, px_al 194 0),
  (194, px_il 196 5),
  (196, px_il 198 6),
  (198, px_callV dM 201 6 2 px_vV prX6_judges poX6_judges),
  (201, px_inc 204 5 1),
  (204, px_go 129),
  (207, px_al 208 0),
  (208, px_il 209 3),
  (209, px_callV dM 212 6 1 px_vI prX6_judged poX6_judged),
  (212, px_iret (.int) po)]
set_option maxRecDepth 100000 in
set_option maxHeartbeats 4000000 in
theorem okX6_ask : ∀ (po : Int32 → px_St → Prop) (i pc : Nat) (op : px_Op), (opX6_ask po)[i]? = some (pc, op) → px_Snd (cX6_ask, 8, RX6, Cond.code yX6_ask cX6_ask 8 (some .int) :: wdM, (some .int), rmX6_ask, dM) px_vI po pc op := by
  intro po
  unfold opX6_ask
  refine px_ok_cons (ps_aload_n dX6_ask_0 rfl) ?_
  refine px_ok_cons (ps_iload_n dX6_ask_1 rfl) ?_
  refine px_ok_cons (ps_iload_n dX6_ask_2 rfl) ?_
  refine px_ok_cons (ps_callV mX6_isOwn (fun _ _ => rfl) (C := RX6) rfl (fun _ _ ht => px_cwV wgM (wdM_4_in _ (List.mem_of_getElem? (i := 1) rfl)) (wdM_4_in _ (List.mem_of_getElem? (i := 2) rfl)) (wdM_4_in _ (List.mem_of_getElem? (i := 3) rfl)) (wdM_0_in _ (List.mem_of_getElem? (i := 22) rfl)) (wdM_2_in _ (List.mem_of_getElem? (i := 6) rfl)) (by decide +kernel) rfl rfl (by decide) ht) dX6_ask_3) ?_
  refine px_ok_cons (ps_if_eq dX6_ask_6 (by decide)) ?_
  refine px_ok_cons (ps_iload_n dX6_ask_9 rfl) ?_
  refine px_ok_cons (ps_callS mX6_isPart (fun _ _ => rfl) (fun _ _ ht => px_cwS wgM (wdM_4_in _ (List.mem_of_getElem? (i := 39) rfl)) (wdM_5_in _ (List.mem_of_getElem? (i := 0) rfl)) (wdM_0_in _ (List.mem_of_getElem? (i := 22) rfl)) (wdM_2_in _ (List.mem_of_getElem? (i := 10) rfl)) (by decide +kernel) rfl rfl (by decide) ht) dX6_ask_10) ?_
  refine px_ok_cons (ps_if_ne dX6_ask_13 (by decide)) ?_
  refine px_ok_cons (ps_iconst dX6_ask_16 (by decide)) ?_
  refine px_ok_cons (ps_ireturn rfl dX6_ask_17) ?_
  refine px_ok_cons (ps_iconst dX6_ask_18 (by decide)) ?_
  refine px_ok_cons (ps_istore dX6_ask_19 (by decide)) ?_
  refine px_ok_cons (ps_iconst dX6_ask_21 (by decide)) ?_
  refine px_ok_cons (ps_istore dX6_ask_22 (by decide)) ?_
  refine px_ok_cons (ps_iload dX6_ask_24) ?_
  refine px_ok_cons (ps_sipush dX6_ask_26 (by decide)) ?_
  refine px_ok_cons (ps_icmp_ge dX6_ask_29 (by decide)) ?_
  refine px_ok_cons (ps_aload_n dX6_ask_32 rfl) ?_
  refine px_ok_cons (fgX6_29 dX6_ask_33) ?_
  refine px_ok_cons (ps_iload dX6_ask_36) ?_
  refine px_ok_cons (ps_iconst dX6_ask_38 (by decide)) ?_
  refine px_ok_cons (ps_iastore dX6_ask_39) ?_
  refine px_ok_cons (ps_iinc dX6_ask_40 (by decide) (by decide)) ?_
  refine px_ok_cons (ps_goto dX6_ask_43 (by decide)) ?_
  refine px_ok_cons (ps_iconst dX6_ask_46 (by decide)) ?_
  refine px_ok_cons (ps_istore dX6_ask_47 (by decide)) ?_
  refine px_ok_cons (ps_iload dX6_ask_49) ?_
  refine px_ok_cons (ps_bipush dX6_ask_51 (by decide)) ?_
  refine px_ok_cons (ps_icmp_gt dX6_ask_53 (by decide)) ?_
  refine px_ok_cons (ps_aload_n dX6_ask_56 rfl) ?_
  refine px_ok_cons (ps_bipush dX6_ask_57 (by decide)) ?_
  refine px_ok_cons (ps_iload_n dX6_ask_59 rfl) ?_
  refine px_ok_cons (ps_imul dX6_ask_60) ?_
  refine px_ok_cons (ps_iconst dX6_ask_61 (by decide)) ?_
  refine px_ok_cons (ps_iadd dX6_ask_62) ?_
  refine px_ok_cons (ps_iload_n dX6_ask_63 rfl) ?_
  refine px_ok_cons (ps_iadd dX6_ask_64) ?_
  refine px_ok_cons (ps_iload dX6_ask_65) ?_
  refine px_ok_cons (ps_callV mX6_isSoWith (fun _ _ => rfl) (C := RX6) rfl (fun _ _ ht => px_cwV wgM (wdM_6_in _ (List.mem_of_getElem? (i := 5) rfl)) (wdM_6_in _ (List.mem_of_getElem? (i := 6) rfl)) (wdM_6_in _ (List.mem_of_getElem? (i := 7) rfl)) (wdM_0_in _ (List.mem_of_getElem? (i := 22) rfl)) (wdM_6_in _ (List.mem_of_getElem? (i := 4) rfl)) (by decide +kernel) rfl rfl (by decide) ht) dX6_ask_67) ?_
  refine px_ok_cons (ps_if_eq dX6_ask_70 (by decide)) ?_
  refine px_ok_cons (ps_iconst dX6_ask_73 (by decide)) ?_
  refine px_ok_cons (ps_istore dX6_ask_74 (by decide)) ?_
  refine px_ok_cons (ps_iload dX6_ask_76) ?_
  refine px_ok_cons (ps_bipush dX6_ask_78 (by decide)) ?_
  refine px_ok_cons (ps_icmp_gt dX6_ask_80 (by decide)) ?_
  refine px_ok_cons (ps_aload_n dX6_ask_83 rfl) ?_
  refine px_ok_cons (fgX6_29 dX6_ask_84) ?_
  refine px_ok_cons (ps_bipush dX6_ask_87 (by decide)) ?_
  refine px_ok_cons (ps_iload dX6_ask_89) ?_
  refine px_ok_cons (ps_imul dX6_ask_91) ?_
  refine px_ok_cons (ps_aload_n dX6_ask_92 rfl) ?_
  refine px_ok_cons (fgX6_26 dX6_ask_93) ?_
  refine px_ok_cons (ps_iload dX6_ask_96) ?_
  refine px_ok_cons (ps_iaload dX6_ask_98) ?_
  refine px_ok_cons (ps_iadd dX6_ask_99) ?_
  refine px_ok_cons (ps_dup2 dX6_ask_100) ?_
  refine px_ok_cons (ps_iaload dX6_ask_101) ?_
  refine px_ok_cons (ps_iconst dX6_ask_102 (by decide)) ?_
  refine px_ok_cons (ps_iadd dX6_ask_103) ?_
  refine px_ok_cons (ps_iastore dX6_ask_104) ?_
  refine px_ok_cons (ps_iinc dX6_ask_105 (by decide) (by decide)) ?_
  refine px_ok_cons (ps_goto dX6_ask_108 (by decide)) ?_
  refine px_ok_cons (ps_iinc dX6_ask_111 (by decide) (by decide)) ?_
  refine px_ok_cons (ps_iinc dX6_ask_114 (by decide) (by decide)) ?_
  refine px_ok_cons (ps_goto dX6_ask_117 (by decide)) ?_
  refine px_ok_cons (ps_aload_n dX6_ask_120 rfl) ?_
  refine px_ok_cons (ps_iload dX6_ask_121) ?_
  refine px_ok_cons (ps_callV mX6_startsJudging (fun _ _ => rfl) (C := RX6) rfl (fun _ _ ht => px_cwV wgM (wdM_5_in _ (List.mem_of_getElem? (i := 1) rfl)) (wdM_5_in _ (List.mem_of_getElem? (i := 2) rfl)) (wdM_5_in _ (List.mem_of_getElem? (i := 3) rfl)) (wdM_0_in _ (List.mem_of_getElem? (i := 22) rfl)) (wdM_4_in _ (List.mem_of_getElem? (i := 35) rfl)) (by decide +kernel) rfl rfl (by decide) ht) dX6_ask_123) ?_
  refine px_ok_cons (ps_iconst dX6_ask_126 (by decide)) ?_
  refine px_ok_cons (ps_istore dX6_ask_127 (by decide)) ?_
  refine px_ok_cons (ps_iload dX6_ask_129) ?_
  refine px_ok_cons (ps_bipush dX6_ask_131 (by decide)) ?_
  refine px_ok_cons (ps_icmp_gt dX6_ask_133 (by decide)) ?_
  refine px_ok_cons (ps_iconst dX6_ask_136 (by decide)) ?_
  refine px_ok_cons (ps_istore dX6_ask_137 (by decide)) ?_
  refine px_ok_cons (ps_iconst dX6_ask_139 (by decide)) ?_
  refine px_ok_cons (ps_istore dX6_ask_140 (by decide)) ?_
  refine px_ok_cons (ps_iload dX6_ask_142) ?_
  refine px_ok_cons (ps_bipush dX6_ask_144 (by decide)) ?_
  refine px_ok_cons (ps_icmp_gt dX6_ask_146 (by decide)) ?_
  refine px_ok_cons (ps_aload_n dX6_ask_149 rfl) ?_
  refine px_ok_cons (fgX6_29 dX6_ask_150) ?_
  refine px_ok_cons (ps_bipush dX6_ask_153 (by decide)) ?_
  refine px_ok_cons (ps_iload dX6_ask_155) ?_
  refine px_ok_cons (ps_imul dX6_ask_157) ?_
  refine px_ok_cons (ps_iload dX6_ask_158) ?_
  refine px_ok_cons (ps_iadd dX6_ask_160) ?_
  refine px_ok_cons (ps_iaload dX6_ask_161) ?_
  refine px_ok_cons (ps_iload dX6_ask_162) ?_
  refine px_ok_cons (ps_icmp_le dX6_ask_164 (by decide)) ?_
  refine px_ok_cons (ps_aload_n dX6_ask_167 rfl) ?_
  refine px_ok_cons (fgX6_29 dX6_ask_168) ?_
  refine px_ok_cons (ps_bipush dX6_ask_171 (by decide)) ?_
  refine px_ok_cons (ps_iload dX6_ask_173) ?_
  refine px_ok_cons (ps_imul dX6_ask_175) ?_
  refine px_ok_cons (ps_iload dX6_ask_176) ?_
  refine px_ok_cons (ps_iadd dX6_ask_178) ?_
  refine px_ok_cons (ps_iaload dX6_ask_179) ?_
  refine px_ok_cons (ps_goto dX6_ask_180 (by decide)) ?_
  refine px_ok_cons (ps_iload dX6_ask_183) ?_
  refine px_ok_cons (ps_istore dX6_ask_185 (by decide)) ?_
  refine px_ok_cons (ps_iinc dX6_ask_187 (by decide) (by decide)) ?_
  refine px_ok_cons (ps_goto dX6_ask_190 (by decide)) ?_
  refine px_ok_cons (ps_aload_n dX6_ask_193 rfl) ?_
  refine px_ok_cons (ps_iload dX6_ask_194) ?_
  refine px_ok_cons (ps_iload dX6_ask_196) ?_
  refine px_ok_cons (ps_callV mX6_judges (fun _ _ => rfl) (C := RX6) rfl (fun _ _ ht => px_cwV wgM (wdM_5_in _ (List.mem_of_getElem? (i := 4) rfl)) (wdM_5_in _ (List.mem_of_getElem? (i := 5) rfl)) (wdM_5_in _ (List.mem_of_getElem? (i := 6) rfl)) (wdM_0_in _ (List.mem_of_getElem? (i := 22) rfl)) (wdM_4_in _ (List.mem_of_getElem? (i := 38) rfl)) (by decide +kernel) rfl rfl (by decide) ht) dX6_ask_198) ?_
  refine px_ok_cons (ps_iinc dX6_ask_201 (by decide) (by decide)) ?_
  refine px_ok_cons (ps_goto dX6_ask_204 (by decide)) ?_
  refine px_ok_cons (ps_aload_n dX6_ask_207 rfl) ?_
  refine px_ok_cons (ps_iload_n dX6_ask_208 rfl) ?_
  refine px_ok_cons (ps_callV mX6_judged (fun _ _ => rfl) (C := RX6) rfl (fun _ _ ht => px_cwV wgM (wdM_5_in _ (List.mem_of_getElem? (i := 13) rfl)) (wdM_5_in _ (List.mem_of_getElem? (i := 14) rfl)) (wdM_5_in _ (List.mem_of_getElem? (i := 15) rfl)) (wdM_0_in _ (List.mem_of_getElem? (i := 22) rfl)) (wdM_5_in _ (List.mem_of_getElem? (i := 8) rfl)) (by decide +kernel) rfl rfl (by decide) ht) dX6_ask_209) ?_
  refine px_ok_cons (ps_ireturn rfl dX6_ask_212) ?_
  exact px_ok_nil
set_option maxRecDepth 100000 in
set_option maxHeartbeats 4000000 in
theorem sgX6_ask_0 {po : Int32 → px_St → Prop} {G : px_K} (hG : px_cl (opX6_ask po) G) (v1 : Int32) (v2 : Int32) (v3 : Int32) (σ : px_St)
    (H : ∃ g3 : gtX6_isOwn, qrX6_isOwn g3 v1 v2 σ ∧ ∀ (r1 : Int32) (σ2 : px_St), qoX6_isOwn g3 v1 v2 σ r1 σ2 → ((r1 = 0) → po (-1 : Int32) σ2) ∧ (¬ (r1 = 0) → ∃ g7 : gtX6_isPart, qrX6_isPart g7 v3 σ2 ∧ ∀ (r5 : Int32) (σ6 : px_St), qoX6_isPart g7 v3 σ2 r5 σ6 → ((¬ r5 = 0) → G 24 [some (.ref 0), some (.int v1), some (.int v2), some (.int v3), some (.int (0 : Int32)), some (.int (0 : Int32)), none, none] [] σ6) ∧ (¬ (¬ r5 = 0) → po (-1 : Int32) σ6))) :
    G 0 (px_ent 8 [.ref 0, .int v1, .int v2, .int v3]) [] σ := by
  refine hG.1 0 _ _ rfl _ _ _ ?_
  refine hG.1 1 _ _ rfl _ _ _ ?_
  refine hG.1 2 _ _ rfl _ _ _ ?_
  refine hG.1 3 _ _ rfl _ _ _ ?_
  obtain ⟨g3, H⟩ := H
  refine ⟨⟨rfl, by decide⟩, Nat.le_of_ble_eq_true rfl, g3, ⟨_, _, rfl, H.1⟩, fun r1 σ2 hp4 => ?_⟩
  replace H := H.2 r1 σ2 hp4
  refine hG.1 4 _ _ rfl _ _ _ ?_
  refine ⟨fun h10 => ?_, fun h10 => ?_⟩
  · replace H := H.1 h10
    refine hG.1 8 _ _ rfl _ _ _ ?_
    refine hG.1 9 _ _ rfl _ _ _ ?_
    exact ⟨rfl, H⟩
  · replace H := H.2 h10
    refine hG.1 5 _ _ rfl _ _ _ ?_
    refine hG.1 6 _ _ rfl _ _ _ ?_
    obtain ⟨g7, H⟩ := H
    refine ⟨Nat.le_of_ble_eq_true rfl, Nat.le_of_ble_eq_true rfl, g7, ⟨_, rfl, H.1⟩, fun r5 σ6 hp8 => ?_⟩
    replace H := H.2 r5 σ6 hp8
    refine hG.1 7 _ _ rfl _ _ _ ?_
    refine ⟨fun h9 => ?_, fun h9 => ?_⟩
    · replace H := H.1 h9
      refine hG.1 10 _ _ rfl _ _ _ ?_
      refine hG.1 11 _ _ rfl _ _ _ ?_
      show G 21 [some (.ref 0), some (.int v1), some (.int v2), some (.int v3), some (.int (0 : Int32)), none, none, none] [] σ6
      refine hG.1 12 _ _ rfl _ _ _ ?_
      refine hG.1 13 _ _ rfl _ _ _ ?_
      show G 24 [some (.ref 0), some (.int v1), some (.int v2), some (.int v3), some (.int (0 : Int32)), some (.int (0 : Int32)), none, none] [] σ6
      exact H
    · replace H := H.2 h9
      refine hG.1 8 _ _ rfl _ _ _ ?_
      refine hG.1 9 _ _ rfl _ _ _ ?_
      exact ⟨rfl, H⟩
set_option maxRecDepth 100000 in
set_option maxHeartbeats 4000000 in
theorem sgX6_ask_24 {po : Int32 → px_St → Prop} {G : px_K} (hG : px_cl (opX6_ask po) G) (v1 : Int32) (v2 : Int32) (v3 : Int32) (v4 : Int32) (v5 : Int32) (σ : px_St)
    (H : (((210 : Int32) ≤ v5) → G 49 [some (.ref 0), some (.int v1), some (.int v2), some (.int v3), some (.int v4), some (.int (0 : Int32)), none, none] [] σ) ∧ (¬ ((210 : Int32) ≤ v5) → vp_in v5 210 ∧ G 24 [some (.ref 0), some (.int v1), some (.int v2), some (.int v3), some (.int v4), some (.int (v5 + 1)), none, none] [] (px_up σ 7 v5.toNatClampNeg (0 : Int32)))) :
    G 24 [some (.ref 0), some (.int v1), some (.int v2), some (.int v3), some (.int v4), some (.int v5), none, none] [] σ := by
  refine hG.1 14 _ _ rfl _ _ _ ?_
  refine hG.1 15 _ _ rfl _ _ _ ?_
  refine hG.1 16 _ _ rfl _ _ _ ?_
  refine ⟨fun h1 => ?_, fun h1 => ?_⟩
  · replace H := H.1 h1
    refine hG.1 24 _ _ rfl _ _ _ ?_
    refine hG.1 25 _ _ rfl _ _ _ ?_
    show G 49 [some (.ref 0), some (.int v1), some (.int v2), some (.int v3), some (.int v4), some (.int (0 : Int32)), none, none] [] σ
    exact H
  · replace H := H.2 h1
    refine hG.1 17 _ _ rfl _ _ _ ?_
    refine hG.1 18 _ _ rfl _ _ _ ?_
    refine ⟨⟨rfl, by decide⟩, ?_⟩
    refine hG.1 19 _ _ rfl _ _ _ ?_
    refine hG.1 20 _ _ rfl _ _ _ ?_
    refine hG.1 21 _ _ rfl _ _ _ ?_
    refine ⟨⟨rfl, by decide⟩, H.1, ?_⟩
    replace H := H.2
    refine hG.1 22 _ _ rfl _ _ _ ?_
    show G 43 [some (.ref 0), some (.int v1), some (.int v2), some (.int v3), some (.int v4), some (.int (v5 + 1)), none, none] [] (px_up σ 7 v5.toNatClampNeg (0 : Int32))
    refine hG.1 23 _ _ rfl _ _ _ ?_
    exact H
set_option maxRecDepth 100000 in
set_option maxHeartbeats 4000000 in
theorem sgX6_ask_49 {po : Int32 → px_St → Prop} {G : px_K} (hG : px_cl (opX6_ask po) G) (v1 : Int32) (v2 : Int32) (v3 : Int32) (v4 : Int32) (v5 : Int32) (σ : px_St)
    (H : (((9 : Int32) < v5) → ∃ g3 : gtX6_startsJudging, qrX6_startsJudging g3 v4 σ ∧ ∀ (r1 : Unit) (σ2 : px_St), qoX6_startsJudging g3 v4 σ r1 σ2 → G 129 [some (.ref 0), some (.int v1), some (.int v2), some (.int v3), some (.int v4), some (.int (0 : Int32)), none, none] [] σ2) ∧ (¬ ((9 : Int32) < v5) → ∃ g7 : gtX6_isSoWith, qrX6_isSoWith g7 ((((9 : Int32) * v1) + (3 : Int32)) + v2) v5 σ ∧ ∀ (r5 : Int32) (σ6 : px_St), qoX6_isSoWith g7 ((((9 : Int32) * v1) + (3 : Int32)) + v2) v5 σ r5 σ6 → ((r5 = 0) → G 49 [some (.ref 0), some (.int v1), some (.int v2), some (.int v3), some (.int v4), some (.int (v5 + 1)), none, none] [] σ6) ∧ (¬ (r5 = 0) → G 76 [some (.ref 0), some (.int v1), some (.int v2), some (.int v3), some (.int v4), some (.int v5), some (.int (0 : Int32)), none] [] σ6))) :
    G 49 [some (.ref 0), some (.int v1), some (.int v2), some (.int v3), some (.int v4), some (.int v5), none, none] [] σ := by
  refine hG.1 26 _ _ rfl _ _ _ ?_
  refine hG.1 27 _ _ rfl _ _ _ ?_
  refine hG.1 28 _ _ rfl _ _ _ ?_
  refine ⟨fun h10 => ?_, fun h10 => ?_⟩
  · replace H := H.1 h10
    refine hG.1 65 _ _ rfl _ _ _ ?_
    refine hG.1 66 _ _ rfl _ _ _ ?_
    refine hG.1 67 _ _ rfl _ _ _ ?_
    obtain ⟨g3, H⟩ := H
    refine ⟨⟨rfl, by decide⟩, Nat.le_of_ble_eq_true rfl, g3, ⟨_, rfl, H.1⟩, fun r1 σ2 hp4 => ?_⟩
    replace H := H.2 r1 σ2 hp4
    refine hG.1 68 _ _ rfl _ _ _ ?_
    refine hG.1 69 _ _ rfl _ _ _ ?_
    show G 129 [some (.ref 0), some (.int v1), some (.int v2), some (.int v3), some (.int v4), some (.int (0 : Int32)), none, none] [] σ2
    exact H
  · replace H := H.2 h10
    refine hG.1 29 _ _ rfl _ _ _ ?_
    refine hG.1 30 _ _ rfl _ _ _ ?_
    refine hG.1 31 _ _ rfl _ _ _ ?_
    refine hG.1 32 _ _ rfl _ _ _ ?_
    refine hG.1 33 _ _ rfl _ _ _ ?_
    refine hG.1 34 _ _ rfl _ _ _ ?_
    refine hG.1 35 _ _ rfl _ _ _ ?_
    refine hG.1 36 _ _ rfl _ _ _ ?_
    refine hG.1 37 _ _ rfl _ _ _ ?_
    refine hG.1 38 _ _ rfl _ _ _ ?_
    obtain ⟨g7, H⟩ := H
    refine ⟨⟨rfl, by decide⟩, Nat.le_of_ble_eq_true rfl, g7, ⟨_, _, rfl, H.1⟩, fun r5 σ6 hp8 => ?_⟩
    replace H := H.2 r5 σ6 hp8
    refine hG.1 39 _ _ rfl _ _ _ ?_
    refine ⟨fun h9 => ?_, fun h9 => ?_⟩
    · replace H := H.1 h9
      refine hG.1 63 _ _ rfl _ _ _ ?_
      show G 117 [some (.ref 0), some (.int v1), some (.int v2), some (.int v3), some (.int v4), some (.int (v5 + 1)), none, none] [] σ6
      refine hG.1 64 _ _ rfl _ _ _ ?_
      exact H
    · replace H := H.2 h9
      refine hG.1 40 _ _ rfl _ _ _ ?_
      refine hG.1 41 _ _ rfl _ _ _ ?_
      show G 76 [some (.ref 0), some (.int v1), some (.int v2), some (.int v3), some (.int v4), some (.int v5), some (.int (0 : Int32)), none] [] σ6
      exact H
set_option maxRecDepth 100000 in
set_option maxHeartbeats 4000000 in
theorem sgX6_ask_76 {po : Int32 → px_St → Prop} {G : px_K} (hG : px_cl (opX6_ask po) G) (v1 : Int32) (v2 : Int32) (v3 : Int32) (v4 : Int32) (v5 : Int32) (v6 : Int32) (σ : px_St)
    (H : (((20 : Int32) < v6) → G 49 [some (.ref 0), some (.int v1), some (.int v2), some (.int v3), some (.int (v4 + 1)), some (.int (v5 + 1)), none, none] [] σ) ∧ (¬ ((20 : Int32) < v6) → vp_in v6 21 ∧ vp_in (((10 : Int32) * v6) + (σ.1 6 v6.toNatClampNeg)) 210 ∧ vp_in (((10 : Int32) * v6) + (σ.1 6 v6.toNatClampNeg)) 210 ∧ G 76 [some (.ref 0), some (.int v1), some (.int v2), some (.int v3), some (.int v4), some (.int v5), some (.int (v6 + 1)), none] [] (px_up σ 7 (((10 : Int32) * v6) + (σ.1 6 v6.toNatClampNeg)).toNatClampNeg ((σ.1 7 (((10 : Int32) * v6) + (σ.1 6 v6.toNatClampNeg)).toNatClampNeg) + (1 : Int32))))) :
    G 76 [some (.ref 0), some (.int v1), some (.int v2), some (.int v3), some (.int v4), some (.int v5), some (.int v6), none] [] σ := by
  refine hG.1 42 _ _ rfl _ _ _ ?_
  refine hG.1 43 _ _ rfl _ _ _ ?_
  refine hG.1 44 _ _ rfl _ _ _ ?_
  refine ⟨fun h1 => ?_, fun h1 => ?_⟩
  · replace H := H.1 h1
    refine hG.1 62 _ _ rfl _ _ _ ?_
    show G 114 [some (.ref 0), some (.int v1), some (.int v2), some (.int v3), some (.int (v4 + 1)), some (.int v5), some (.int v6), none] [] σ
    refine hG.1 63 _ _ rfl _ _ _ ?_
    show G 117 [some (.ref 0), some (.int v1), some (.int v2), some (.int v3), some (.int (v4 + 1)), some (.int (v5 + 1)), some (.int v6), none] [] σ
    refine hG.1 64 _ _ rfl _ _ _ ?_
    refine hG.2 49 [some (.ref 0), some (.int v1), some (.int v2), some (.int v3), some (.int (v4 + 1)), some (.int (v5 + 1)), none, none] _ _ _ ⟨rfl, rfl, rfl, rfl, rfl, rfl, trivial⟩ ?_
    exact H
  · replace H := H.2 h1
    refine hG.1 45 _ _ rfl _ _ _ ?_
    refine hG.1 46 _ _ rfl _ _ _ ?_
    refine ⟨⟨rfl, by decide⟩, ?_⟩
    refine hG.1 47 _ _ rfl _ _ _ ?_
    refine hG.1 48 _ _ rfl _ _ _ ?_
    refine hG.1 49 _ _ rfl _ _ _ ?_
    refine hG.1 50 _ _ rfl _ _ _ ?_
    refine hG.1 51 _ _ rfl _ _ _ ?_
    refine ⟨⟨rfl, by decide⟩, ?_⟩
    refine hG.1 52 _ _ rfl _ _ _ ?_
    refine hG.1 53 _ _ rfl _ _ _ ?_
    refine ⟨⟨rfl, by decide⟩, H.1, ?_⟩
    replace H := H.2
    refine hG.1 54 _ _ rfl _ _ _ ?_
    refine hG.1 55 _ _ rfl _ _ _ ?_
    refine hG.1 56 _ _ rfl _ _ _ ?_
    refine ⟨⟨rfl, by decide⟩, H.1, ?_⟩
    replace H := H.2
    refine hG.1 57 _ _ rfl _ _ _ ?_
    refine hG.1 58 _ _ rfl _ _ _ ?_
    refine hG.1 59 _ _ rfl _ _ _ ?_
    refine ⟨⟨rfl, by decide⟩, H.1, ?_⟩
    replace H := H.2
    refine hG.1 60 _ _ rfl _ _ _ ?_
    show G 108 [some (.ref 0), some (.int v1), some (.int v2), some (.int v3), some (.int v4), some (.int v5), some (.int (v6 + 1)), none] [] (px_up σ 7 (((10 : Int32) * v6) + (σ.1 6 v6.toNatClampNeg)).toNatClampNeg ((σ.1 7 (((10 : Int32) * v6) + (σ.1 6 v6.toNatClampNeg)).toNatClampNeg) + (1 : Int32)))
    refine hG.1 61 _ _ rfl _ _ _ ?_
    exact H
set_option maxRecDepth 100000 in
set_option maxHeartbeats 4000000 in
theorem sgX6_ask_129 {po : Int32 → px_St → Prop} {G : px_K} (hG : px_cl (opX6_ask po) G) (v1 : Int32) (v2 : Int32) (v3 : Int32) (v4 : Int32) (v5 : Int32) (σ : px_St)
    (H : (((20 : Int32) < v5) → ∃ g3 : gtX6_judged, qrX6_judged g3 v3 σ ∧ ∀ (r1 : Int32) (σ2 : px_St), qoX6_judged g3 v3 σ r1 σ2 → po r1 σ2) ∧ (¬ ((20 : Int32) < v5) → G 142 [some (.ref 0), some (.int v1), some (.int v2), some (.int v3), some (.int v4), some (.int v5), some (.int (0 : Int32)), some (.int (0 : Int32))] [] σ)) :
    G 129 [some (.ref 0), some (.int v1), some (.int v2), some (.int v3), some (.int v4), some (.int v5), none, none] [] σ := by
  refine hG.1 70 _ _ rfl _ _ _ ?_
  refine hG.1 71 _ _ rfl _ _ _ ?_
  refine hG.1 72 _ _ rfl _ _ _ ?_
  refine ⟨fun h5 => ?_, fun h5 => ?_⟩
  · replace H := H.1 h5
    refine hG.1 109 _ _ rfl _ _ _ ?_
    refine hG.1 110 _ _ rfl _ _ _ ?_
    refine hG.1 111 _ _ rfl _ _ _ ?_
    obtain ⟨g3, H⟩ := H
    refine ⟨⟨rfl, by decide⟩, Nat.le_of_ble_eq_true rfl, g3, ⟨_, rfl, H.1⟩, fun r1 σ2 hp4 => ?_⟩
    replace H := H.2 r1 σ2 hp4
    refine hG.1 112 _ _ rfl _ _ _ ?_
    exact ⟨rfl, H⟩
  · replace H := H.2 h5
    refine hG.1 73 _ _ rfl _ _ _ ?_
    refine hG.1 74 _ _ rfl _ _ _ ?_
    show G 139 [some (.ref 0), some (.int v1), some (.int v2), some (.int v3), some (.int v4), some (.int v5), some (.int (0 : Int32)), none] [] σ
    refine hG.1 75 _ _ rfl _ _ _ ?_
    refine hG.1 76 _ _ rfl _ _ _ ?_
    show G 142 [some (.ref 0), some (.int v1), some (.int v2), some (.int v3), some (.int v4), some (.int v5), some (.int (0 : Int32)), some (.int (0 : Int32))] [] σ
    exact H
set_option maxRecDepth 100000 in
set_option maxHeartbeats 4000000 in
theorem sgX6_ask_142 {po : Int32 → px_St → Prop} {G : px_K} (hG : px_cl (opX6_ask po) G) (v1 : Int32) (v2 : Int32) (v3 : Int32) (v4 : Int32) (v5 : Int32) (v6 : Int32) (v7 : Int32) (σ : px_St)
    (H : (((9 : Int32) < v7) → ∃ g3 : gtX6_judges, qrX6_judges g3 v5 v6 σ ∧ ∀ (r1 : Unit) (σ2 : px_St), qoX6_judges g3 v5 v6 σ r1 σ2 → G 129 [some (.ref 0), some (.int v1), some (.int v2), some (.int v3), some (.int v4), some (.int (v5 + 1)), none, none] [] σ2) ∧ (¬ ((9 : Int32) < v7) → vp_in (((10 : Int32) * v5) + v7) 210 ∧ (((σ.1 7 (((10 : Int32) * v5) + v7).toNatClampNeg) ≤ v6) → G 142 [some (.ref 0), some (.int v1), some (.int v2), some (.int v3), some (.int v4), some (.int v5), some (.int v6), some (.int (v7 + 1))] [] σ) ∧ (¬ ((σ.1 7 (((10 : Int32) * v5) + v7).toNatClampNeg) ≤ v6) → vp_in (((10 : Int32) * v5) + v7) 210 ∧ G 142 [some (.ref 0), some (.int v1), some (.int v2), some (.int v3), some (.int v4), some (.int v5), some (.int (σ.1 7 (((10 : Int32) * v5) + v7).toNatClampNeg)), some (.int (v7 + 1))] [] σ))) :
    G 142 [some (.ref 0), some (.int v1), some (.int v2), some (.int v3), some (.int v4), some (.int v5), some (.int v6), some (.int v7)] [] σ := by
  refine hG.1 77 _ _ rfl _ _ _ ?_
  refine hG.1 78 _ _ rfl _ _ _ ?_
  refine hG.1 79 _ _ rfl _ _ _ ?_
  refine ⟨fun h6 => ?_, fun h6 => ?_⟩
  · replace H := H.1 h6
    refine hG.1 103 _ _ rfl _ _ _ ?_
    refine hG.1 104 _ _ rfl _ _ _ ?_
    refine hG.1 105 _ _ rfl _ _ _ ?_
    refine hG.1 106 _ _ rfl _ _ _ ?_
    obtain ⟨g3, H⟩ := H
    refine ⟨⟨rfl, by decide⟩, Nat.le_of_ble_eq_true rfl, g3, ⟨_, _, rfl, H.1⟩, fun r1 σ2 hp4 => ?_⟩
    replace H := H.2 r1 σ2 hp4
    refine hG.1 107 _ _ rfl _ _ _ ?_
    show G 204 [some (.ref 0), some (.int v1), some (.int v2), some (.int v3), some (.int v4), some (.int (v5 + 1)), some (.int v6), some (.int v7)] [] σ2
    refine hG.1 108 _ _ rfl _ _ _ ?_
    refine hG.2 129 [some (.ref 0), some (.int v1), some (.int v2), some (.int v3), some (.int v4), some (.int (v5 + 1)), none, none] _ _ _ ⟨rfl, rfl, rfl, rfl, rfl, rfl, trivial⟩ ?_
    exact H
  · replace H := H.2 h6
    refine hG.1 80 _ _ rfl _ _ _ ?_
    refine hG.1 81 _ _ rfl _ _ _ ?_
    refine ⟨⟨rfl, by decide⟩, ?_⟩
    refine hG.1 82 _ _ rfl _ _ _ ?_
    refine hG.1 83 _ _ rfl _ _ _ ?_
    refine hG.1 84 _ _ rfl _ _ _ ?_
    refine hG.1 85 _ _ rfl _ _ _ ?_
    refine hG.1 86 _ _ rfl _ _ _ ?_
    refine hG.1 87 _ _ rfl _ _ _ ?_
    refine ⟨⟨rfl, by decide⟩, H.1, ?_⟩
    replace H := H.2
    refine hG.1 88 _ _ rfl _ _ _ ?_
    refine hG.1 89 _ _ rfl _ _ _ ?_
    refine ⟨fun h5 => ?_, fun h5 => ?_⟩
    · replace H := H.1 h5
      refine hG.1 99 _ _ rfl _ _ _ ?_
      refine hG.1 100 _ _ rfl _ _ _ ?_
      show G 187 [some (.ref 0), some (.int v1), some (.int v2), some (.int v3), some (.int v4), some (.int v5), some (.int v6), some (.int v7)] [] σ
      refine hG.1 101 _ _ rfl _ _ _ ?_
      show G 190 [some (.ref 0), some (.int v1), some (.int v2), some (.int v3), some (.int v4), some (.int v5), some (.int v6), some (.int (v7 + 1))] [] σ
      refine hG.1 102 _ _ rfl _ _ _ ?_
      exact H
    · replace H := H.2 h5
      refine hG.1 90 _ _ rfl _ _ _ ?_
      refine hG.1 91 _ _ rfl _ _ _ ?_
      refine ⟨⟨rfl, by decide⟩, ?_⟩
      refine hG.1 92 _ _ rfl _ _ _ ?_
      refine hG.1 93 _ _ rfl _ _ _ ?_
      refine hG.1 94 _ _ rfl _ _ _ ?_
      refine hG.1 95 _ _ rfl _ _ _ ?_
      refine hG.1 96 _ _ rfl _ _ _ ?_
      refine hG.1 97 _ _ rfl _ _ _ ?_
      refine ⟨⟨rfl, by decide⟩, H.1, ?_⟩
      replace H := H.2
      refine hG.1 98 _ _ rfl _ _ _ ?_
      refine hG.1 100 _ _ rfl _ _ _ ?_
      show G 187 [some (.ref 0), some (.int v1), some (.int v2), some (.int v3), some (.int v4), some (.int v5), some (.int (σ.1 7 (((10 : Int32) * v5) + v7).toNatClampNeg)), some (.int v7)] [] σ
      refine hG.1 101 _ _ rfl _ _ _ ?_
      show G 190 [some (.ref 0), some (.int v1), some (.int v2), some (.int v3), some (.int v4), some (.int v5), some (.int (σ.1 7 (((10 : Int32) * v5) + v7).toNatClampNeg)), some (.int (v7 + 1))] [] σ
      refine hG.1 102 _ _ rfl _ _ _ ?_
      exact H
set_option maxRecDepth 100000 in
set_option maxHeartbeats 4000000 in
theorem hhX6_ask (g : gtX6_ask) (v1 : Int32) (v2 : Int32) (v3 : Int32) (σ : px_St) (h : qrX6_ask g v1 v2 v3 σ) (G : px_K) (hG : px_cl (opX6_ask (qoX6_ask g v1 v2 v3 σ)) G) : G 0 (px_ent 8 [.ref 0, .int v1, .int v2, .int v3]) [] σ := by
  obtain ⟨hX, hok⟩ := h
  have hd := hok.1.2
  have hvk := hok.1.1
  have h5 := hvk.1.1
  refine sgX6_ask_0 hG _ _ _ σ ⟨g.1, ⟨hX.1, hvk.1⟩, fun r0 σ0 h0 => ?_⟩
  obtain ⟨rfl, b0⟩ := h0
  refine bz2 b0 (fun zp => ⟨(), trivial, fun r1 σ1 h1 => ?_⟩) (fun zp => ?_)
  · obtain ⟨rfl, b1⟩ := h1
    refine bz1 b1 (fun z => ?_) (fun z => ?_)
    · obtain ⟨p, i, hp, hi, rfl, rfl⟩ := pv_own_of hvk.1 zp
      have hl := (hvk.1.2.2.2 p hp).2.1
      obtain ⟨T, hT⟩ : ∃ T : Nat, T = 10 := ⟨_, rfl⟩
      obtain ⟨C, hC⟩ : ∃ C, C = pv_cd g.1 p i g.2.1 T := ⟨_, rfl⟩
      obtain ⟨F, hF⟩ : ∃ F : Nat → Nat, F = fun d => pv_mx (fun x => pv_hd g.1 p i g.2.1 d x T) T := ⟨_, rfl⟩
      obtain ⟨N, hN⟩ : ∃ N : Nat, N = 21 := ⟨_, rfl⟩
      have ex : (x_ask g (nI p) (nI i) v3) = (pv_choice (pv_bmin F C N).1 (nI (pv_bmin F C N).2) v3, g) := by
        unfold x_ask
        rw [xif_t ⟨zp, z⟩, nI_clamp (by omega), nI_clamp (by omega), hN, hF, hC, hT]
        rfl
      have hhl : ∀ d x m, m ≤ 10 → pv_hd g.1 p i g.2.1 d x m < 100 := fun d x m hm => by have := pv_hd_le g.1 p i g.2.1 d x m; omega
      have hfl : ∀ d, F d < 100 := fun d => by rw [hF]; exact pv_mx_lt (by omega) (fun x => hhl d x T (by omega)) T
      have hCl : C < 100 := by rw [hC]; have := pv_cd_le g.1 p i g.2.1 T; omega
      -- the judging
      have judge : ∀ many m d, d + m = N → ∀ σ', mk σ1 σ' → (∀ d x, d ≤ 20 → x ≤ 9 → σ'.1 7 (10 * d + x) = nI (pv_hd g.1 p i g.2.1 d x T)) → jd σ' (pv_bmin F C d).1 (nI (pv_bmin F C d).2) → G 129 [some (.ref 0), some (.int (nI p)), some (.int (nI i)), some (.int v3), some (.int many), some (.int (nI d)), none, none] [] σ' := by
        intro many m
        induction m with
        | zero =>
          intro d hdm σ' ho hh hj
          refine sgX6_ask_129 hG _ _ _ _ _ σ' ⟨fun _ => ⟨(), trivial, fun r σ5 hq => ?_⟩, fun q => absurd ((nIlt 20 d rfl rfl (by omega) (by omega)).mpr (by omega)) q⟩
          obtain ⟨e1, e2⟩ := hq
          unfold qoX6_ask
          rw [ex, e1, e2, hj.1, hj.2, show d = N by omega]
          exact ⟨rfl, ho.mo hX⟩
        | succ m ih =>
          intro d hdm σ' ho hh hj
          refine sgX6_ask_129 hG _ _ _ _ _ σ' ⟨fun q => absurd ((nIlt 20 d rfl rfl (by omega) (by omega)).mp q) (by omega), fun _ => ?_⟩
          have worst : ∀ l x, x + l = T → G 142 [some (.ref 0), some (.int (nI p)), some (.int (nI i)), some (.int v3), some (.int many), some (.int (nI d)), some (.int (nI (pv_mx (fun x => pv_hd g.1 p i g.2.1 d x T) x))), some (.int (nI x))] [] σ' := by
            intro l
            induction l with
            | zero =>
              intro x hx
              have e : x = T := by omega
              refine sgX6_ask_142 hG _ _ _ _ _ _ _ σ' ⟨fun _ => ⟨(), trivial, fun _ σ5 hq => ?_⟩, fun q => absurd ((nIlt 9 x rfl rfl (by omega) (by omega)).mpr (by omega)) q⟩
              have ef : pv_mx (fun x => pv_hd g.1 p i g.2.1 d x T) x = F d := by rw [hF, e]
              rw [ef] at hq
              have hb1 : (pv_bmin F C d).2 < 100 := pv_bmin_lt hCl d (fun j _ => hfl j)
              have hb2 := hfl d
              obtain ⟨⟨d1, d2⟩, d3⟩ := jd_judge hq hj
              have cl : nI (F d) < nI (pv_bmin F C d).2 ↔ F d < (pv_bmin F C d).2 := nIlt _ _ rfl rfl (by omega) (by omega)
              rw [cl] at d1 d2
              rw [nI_1]
              have e7 : σ5.1 7 = σ'.1 7 := by
                have hq : σ5 = _ := hq
                rw [hq]
                split
                · rw [px_up_n (by omega), px_up_n (by omega)]
                · rfl
              refine ih (d + 1) (by omega) σ5 (ho.tr d3) (fun d' x' h1 h2 => by rw [e7]; exact hh d' x' h1 h2) ?_
              rw [pv_bmin]
              by_cases hlt : F d < (pv_bmin F C d).2
              · rw [if_pos hlt]; exact d1 hlt
              · rw [if_neg hlt]; exact d2 hlt
            | succ l ihl =>
              intro x hx
              have hml := pv_mx_lt (f := fun x => pv_hd g.1 p i g.2.1 d x T) (N := 100) (by omega) (fun x => hhl d x T (by omega)) x
              have hhx := hhl d x T (by omega)
              have e := ihl (x + 1) (by omega)
              rw [pv_mx] at e
              refine sgX6_ask_142 hG _ _ _ _ _ _ _ σ' ⟨fun q => absurd ((nIlt 9 x rfl rfl (by omega) (by omega)).mp q) (by omega), fun _ => ?_⟩
              rw [ixm10, nI_clamp (by omega), hh d x (by omega) (by omega), nI_1]
              have cl : nI (pv_hd g.1 p i g.2.1 d x T) ≤ nI (pv_mx (fun x => pv_hd g.1 p i g.2.1 d x T) x) ↔ pv_hd g.1 p i g.2.1 d x T ≤ pv_mx (fun x => pv_hd g.1 p i g.2.1 d x T) x := nI_leI (by omega) (by omega)
              rw [cl]
              refine ⟨vp_in_nI (by omega) (by decide), fun q => ?_, fun q => ⟨vp_in_nI (by omega) (by decide), ?_⟩⟩
              · rw [Nat.max_eq_left q] at e; exact e
              · rw [Nat.max_eq_right (by omega)] at e; exact e
          exact worst T 0 (by omega)
      -- the counting
      have count : ∀ m s, s + m = T → ∀ σ', mk σ1 σ' → (∀ d x, d ≤ 20 → x ≤ 9 → σ'.1 7 (10 * d + x) = nI (pv_hd g.1 p i g.2.1 d x s)) → G 49 [some (.ref 0), some (.int (nI p)), some (.int (nI i)), some (.int v3), some (.int (nI (pv_cd g.1 p i g.2.1 s))), some (.int (nI s)), none, none] [] σ' := by
        intro m
        induction m with
        | zero =>
          intro s hs σ' ho hh
          have e : s = T := by omega
          subst e
          refine sgX6_ask_49 hG _ _ _ _ _ σ' ⟨fun _ => ⟨(), trivial, fun _ σ5 hq => ?_⟩, fun q => absurd ((nIlt 9 s rfl rfl (by omega) (by omega)).mpr (by omega)) q⟩
          obtain ⟨j5, k5⟩ := jd_start hq
          have e7 : σ5.1 7 = σ'.1 7 := by
            have hq : σ5 = _ := hq
            rw [hq, px_up_n (by omega), px_up_n (by omega)]
          refine judge _ N 0 (by omega) σ5 (ho.tr k5) (fun d' x' h1 h2 => by rw [e7]; exact hh d' x' h1 h2) ?_
          rw [pv_bmin, hC]
          exact j5
        | succ m ih =>
          intro s hs σ' ho hh
          have hX' := ho.mo hX
          have hsk : pv_ok (pv_snd g.1 p i s) := pv_snd_ok hvk hp (by omega)
          refine sgX6_ask_49 hG _ _ _ _ _ σ' ⟨fun q => absurd ((nIlt 9 s rfl rfl (by omega) (by omega)).mp q) (by omega), fun _ => ⟨(pv_snd g.1 p i s, g.2.1, 9 * p + 3 + i), ⟨by omega, ix93' p i, mv_sndf hX'.1 hvk.1 hp hi, hsk, Nat.lt_of_le_of_lt hd (by omega), hX'.2.1, hok.2.1⟩, fun r5 σ5 hq5 => ?_⟩⟩
          obtain ⟨b5, hsd, p3⟩ := hq5
          have e7 : σ5.1 7 = σ'.1 7 := p3 7 (by omega) (by omega)
          refine bz2 b5 (fun q => ?_) (fun q => ?_)
          · have hq := (pv_asB_iff _ _).mpr q
            have inc : ∀ l n, n + l = N → ∀ τ, (∀ k, k ≠ 7 → τ.1 k = σ5.1 k) → (∀ d x, d ≤ 20 → x ≤ 9 → τ.1 7 (10 * d + x) = nI (if d < n then pv_hd g.1 p i g.2.1 d x (s + 1) else pv_hd g.1 p i g.2.1 d x s)) → G 76 [some (.ref 0), some (.int (nI p)), some (.int (nI i)), some (.int v3), some (.int (nI (pv_cd g.1 p i g.2.1 s))), some (.int (nI s)), some (.int (nI n)), none] [] τ := by
              intro l
              induction l with
              | zero =>
                intro n hn τ ht h7
                refine sgX6_ask_76 hG _ _ _ _ _ _ τ ⟨fun _ => ?_, fun q => absurd ((nIlt 20 n rfl rfl (by omega) (by omega)).mpr (by omega)) q⟩
                have e := ih (s + 1) (by omega) τ ((ho.tr (mk.of26 p3)).tr (mk.of7 ht)) (fun d x h1 h2 => by rw [h7 d x h1 h2, if_pos (by omega)])
                rw [pv_cd, if_pos hq] at e
                rw [nI_1, nI_1]
                exact e
              | succ l ihl =>
                intro n hn τ ht h7
                have hrk : pv_ok (pv_run (pv_snd g.1 p i s) n) := pv_run_ok hsk n (show g.1.2.2.1 + n < 2000 by omega)
                obtain ⟨y, hy, ey⟩ := said_pos hrk (by rw [(pv_run_n (pv_snd g.1 p i s) n).1]; show 0 < g.1.1; omega)
                refine sgX6_ask_76 hG _ _ _ _ _ _ τ ⟨fun q => absurd ((nIlt 20 n rfl rfl (by omega) (by omega)).mp q) (by omega), fun _ => ?_⟩
                rw [nI_clamp (show n < 2 ^ 31 by omega), ht 6 (by omega), hsd n (by omega), ey, ixm10, nI_clamp (by omega), h7 n y (by omega) hy, if_neg (by omega), nI_1, nI_1]
                refine ⟨vp_in_nI (by omega) (by decide), vp_in_nI (by omega) (by decide), vp_in_nI (by omega) (by decide), ihl (n + 1) (by omega) _ (fun k hk => by rw [px_up_n hk]; exact ht k hk) (fun d x h1 h2 => ?_)⟩
                rw [px_up_at]
                by_cases hdx : 10 * d + x = 10 * n + y
                · have hdn : d = n := by omega
                  have hxy : x = y := by omega
                  subst hdn
                  subst hxy
                  rw [if_pos ⟨rfl, rfl⟩, if_pos (by omega), pv_hd, if_pos ⟨hq, ey⟩]
                · rw [if_neg (fun w => hdx w.2), h7 d x h1 h2]
                  by_cases hdn : d = n
                  · subst hdn
                    rw [if_neg (by omega), if_pos (by omega), pv_hd, if_neg (fun w => ?_)]
                    have w2 := w.2
                    rw [ey] at w2
                    have := (nI_eq (show y < 2 ^ 31 by omega) (show x < 2 ^ 31 by omega)).mp w2
                    omega
                  · by_cases hlt : d < n
                    · rw [if_pos hlt, if_pos (by omega)]
                    · rw [if_neg hlt, if_neg (by omega)]
            exact inc N 0 (by omega) σ5 (fun _ _ => rfl) (fun d x h1 h2 => by rw [if_neg (by omega), e7]; exact hh d x h1 h2)
          · have hq : ¬ pv_asB (pv_snd g.1 p i s) g.2.1 = true := fun w => q ((pv_asB_iff _ _).mp w)
            have e := ih (s + 1) (by omega) σ5 (ho.tr (mk.of26 p3)) (fun d x h1 h2 => by rw [e7, hh d x h1 h2, pv_hd, if_neg (fun w => hq w.1)])
            rw [pv_cd, if_neg hq] at e
            rw [nI_1]
            exact e
      have zero : ∀ m c, c + m = 210 → ∀ σ', (∀ k, k ≠ 7 → σ'.1 k = σ1.1 k) → (∀ j, j < c → σ'.1 7 j = 0) → G 24 [some (.ref 0), some (.int (nI p)), some (.int (nI i)), some (.int v3), some (.int (0 : Int32)), some (.int (nI c)), none, none] [] σ' := by
        intro m
        induction m with
        | zero =>
          intro c hc σ' ht h7
          refine sgX6_ask_24 hG _ _ _ _ _ σ' ⟨fun _ => ?_, fun q => absurd ((nIle 210 c rfl rfl (by omega) (by omega)).mpr (by omega)) q⟩
          exact count T 0 (by omega) σ' (mk.of7 ht) (fun d x h1 h2 => by rw [h7 _ (by omega), pv_hd]; rfl)
        | succ m ih =>
          intro c hc σ' ht h7
          refine sgX6_ask_24 hG _ _ _ _ _ σ' ⟨fun q => absurd ((nIle 210 c rfl rfl (by omega) (by omega)).mp q) (by omega), fun _ => ⟨vp_in_nI (by omega) (by decide), ?_⟩⟩
          rw [nI_1, nI_clamp (by omega)]
          refine ih (c + 1) (by omega) _ (fun k hk => by rw [px_up_n hk]; exact ht k hk) (fun j hj => ?_)
          rw [px_up_at]
          by_cases hjc : j = c
          · rw [if_pos ⟨rfl, hjc⟩]
          · rw [if_neg (fun w => hjc w.2)]; exact h7 j (by omega)
      exact zero 210 0 (by omega) σ1 (fun _ _ => rfl) (fun j hj => absurd hj (Nat.not_lt_zero j))
    · unfold qoX6_ask x_ask
      rw [xif_f (fun q => z q.2)]
      exact ⟨rfl, hX⟩
  · unfold qoX6_ask x_ask
    rw [xif_f (fun q => zp q.1)]
    exact ⟨rfl, hX⟩
theorem mX6_ask (g : gtX6_ask) : px_Met dM yX6_ask (Cond.code yX6_ask cX6_ask 8 (some .int) :: wdM) rmX6_ask px_vI (prX6_ask g) (poX6_ask g) :=
  px_met (Z := (cX6_ask, 8, RX6, Cond.code yX6_ask cX6_ask 8 (some .int) :: wdM, (some .int), rmX6_ask, dM)) opX6_ask (by decide) rfl rfl okX6_ask (fun As σ h => by obtain ⟨v1, v2, v3, rfl, h⟩ := h; exact Nat.le_of_ble_eq_true rfl) (fun As σ h G hG => by obtain ⟨v1, v2, v3, rfl, h⟩ := h; exact hhX6_ask g v1 v2 v3 σ h G hG)
