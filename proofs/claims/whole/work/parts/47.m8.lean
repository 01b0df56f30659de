/-- how the judging stands -/
def jd (σ : px_St) (c m : Int32) : Prop := σ.1 0 13 = c ∧ σ.1 0 14 = m
theorem jd.kept {σ σ' : px_St} {c m : Int32} (h : jd σ c m) (e : σ'.1 0 = σ.1 0) : jd σ' c m := ⟨by rw [e]; exact h.1, by rw [e]; exact h.2⟩
theorem jd_start {σ σ' : px_St} {x : Int32} {r : Unit} (h : qoX6_startsJudging () x σ r σ') : jd σ' (-4) x ∧ mk σ σ' := by
  have h : σ' = px_up (px_up σ 0 13 (-4)) 0 14 x := h
  subst h
  exact ⟨⟨by rw [px_up_at, if_neg (by omega), px_up_at, if_pos ⟨rfl, rfl⟩], by rw [px_up_at, if_pos ⟨rfl, rfl⟩]⟩, (mk.up0 (by omega)).tr (mk.up0 (by omega))⟩
theorem jd_judge {σ σ' : px_St} {c x c0 m0 : Int32} {r : Unit} (h : qoX6_judges () c x σ r σ') (hj : jd σ c0 m0) : ((x < m0 → jd σ' c x) ∧ (¬ x < m0 → jd σ' c0 m0)) ∧ mk σ σ' := by
  have h : σ' = if x < σ.1 0 14 then px_up (px_up σ 0 13 c) 0 14 x else σ := h
  rw [hj.2] at h
  by_cases hx : x < m0
  · rw [if_pos hx] at h
    subst h
    exact ⟨⟨fun _ => ⟨by rw [px_up_at, if_neg (by omega), px_up_at, if_pos ⟨rfl, rfl⟩], by rw [px_up_at, if_pos ⟨rfl, rfl⟩]⟩, fun q => absurd hx q⟩, (mk.up0 (by omega)).tr (mk.up0 (by omega))⟩
  · rw [if_neg hx] at h
    subst h
    exact ⟨⟨fun q => absurd q hx, fun _ => hj⟩, mk.rf⟩
theorem ng_lt : ∀ a, a < 100 → ∀ b, b < 100 → (-nI a < -nI b ↔ b < a) := by decide +kernel
theorem ng_1 : ∀ a, a < 100 → -nI a < 1 := by decide +kernel
abbrev gtX6_lesson : Type := pv_X
def qrX6_lesson (X : pv_X) (_ _ _ : Int32) (σ : px_St) : Prop := mo_is σ X ∧ xo X
def qoX6_lesson (X : pv_X) (s n w : Int32) (_ : px_St) (r : Int32) (σ' : px_St) : Prop := r = (x_lesson X s n w).1 ∧ mo_is σ' (x_lesson X s n w).2
def prX6_lesson (g : gtX6_lesson) : List Value → px_St → Prop := fun As σ => ∃ v1 : Int32, ∃ v2 : Int32, ∃ v3 : Int32, As = [.ref 0, .int v1, .int v2, .int v3] ∧ qrX6_lesson g v1 v2 v3 σ
def poX6_lesson (g : gtX6_lesson) : List Value → px_St → Int32 → px_St → Prop
  | [.ref _, .int v1, .int v2, .int v3], σ, r, σ' => qoX6_lesson g v1 v2 v3 σ r σ'
  | _, _, _, _ => False
theorem dX6_lesson_0 : decode cX6_lesson 0 = .ok (.iload_n 1, 1) := by decide +kernel
theorem dX6_lesson_1 : decode cX6_lesson 1 = .ok (.invokestatic 175, 3) := by decide +kernel
theorem dX6_lesson_4 : decode cX6_lesson 4 = .ok (.ifCond .eq 17, 3) := by decide +kernel
theorem dX6_lesson_7 : decode cX6_lesson 7 = .ok (.iload_n 2, 1) := by decide +kernel
theorem dX6_lesson_8 : decode cX6_lesson 8 = .ok (.invokestatic 199, 3) := by decide +kernel
theorem dX6_lesson_11 : decode cX6_lesson 11 = .ok (.ifCond .eq 10, 3) := by decide +kernel
theorem dX6_lesson_14 : decode cX6_lesson 14 = .ok (.iload_n 3, 1) := by decide +kernel
theorem dX6_lesson_15 : decode cX6_lesson 15 = .ok (.invokestatic 219, 3) := by decide +kernel
theorem dX6_lesson_18 : decode cX6_lesson 18 = .ok (.ifCond .ne 5, 3) := by decide +kernel
theorem dX6_lesson_21 : decode cX6_lesson 21 = .ok (.iconst (-1), 1) := by decide +kernel
theorem dX6_lesson_22 : decode cX6_lesson 22 = .ok (.ireturn, 1) := by decide +kernel
theorem dX6_lesson_23 : decode cX6_lesson 23 = .ok (.aload_n 0, 1) := by decide +kernel
theorem dX6_lesson_24 : decode cX6_lesson 24 = .ok (.invokevirtual 163, 3) := by decide +kernel
theorem dX6_lesson_27 : decode cX6_lesson 27 = .ok (.aload_n 0, 1) := by decide +kernel
theorem dX6_lesson_28 : decode cX6_lesson 28 = .ok (.aload_n 0, 1) := by decide +kernel
theorem dX6_lesson_29 : decode cX6_lesson 29 = .ok (.iload_n 1, 1) := by decide +kernel
theorem dX6_lesson_30 : decode cX6_lesson 30 = .ok (.iload_n 2, 1) := by decide +kernel
theorem dX6_lesson_31 : decode cX6_lesson 31 = .ok (.invokevirtual 208, 3) := by decide +kernel
theorem dX6_lesson_34 : decode cX6_lesson 34 = .ok (.ineg, 1) := by decide +kernel
theorem dX6_lesson_35 : decode cX6_lesson 35 = .ok (.invokevirtual 222, 3) := by decide +kernel
theorem dX6_lesson_38 : decode cX6_lesson 38 = .ok (.iconst 0, 1) := by decide +kernel
theorem dX6_lesson_39 : decode cX6_lesson 39 = .ok (.istore 4, 2) := by decide +kernel
theorem dX6_lesson_41 : decode cX6_lesson 41 = .ok (.iload 4, 2) := by decide +kernel
theorem dX6_lesson_43 : decode cX6_lesson 43 = .ok (.aload_n 0, 1) := by decide +kernel
theorem dX6_lesson_44 : decode cX6_lesson 44 = .ok (.getfield 7, 3) := by decide +kernel
theorem dX6_lesson_47 : decode cX6_lesson 47 = .ok (.bipush 45, 2) := by decide +kernel
theorem dX6_lesson_49 : decode cX6_lesson 49 = .ok (.iaload, 1) := by decide +kernel
theorem dX6_lesson_50 : decode cX6_lesson 50 = .ok (.if_icmp .ge 33, 3) := by decide +kernel
theorem dX6_lesson_53 : decode cX6_lesson 53 = .ok (.aload_n 0, 1) := by decide +kernel
theorem dX6_lesson_54 : decode cX6_lesson 54 = .ok (.invokevirtual 163, 3) := by decide +kernel
theorem dX6_lesson_57 : decode cX6_lesson 57 = .ok (.aload_n 0, 1) := by decide +kernel
theorem dX6_lesson_58 : decode cX6_lesson 58 = .ok (.iload 4, 2) := by decide +kernel
theorem dX6_lesson_60 : decode cX6_lesson 60 = .ok (.iload_n 1, 1) := by decide +kernel
theorem dX6_lesson_61 : decode cX6_lesson 61 = .ok (.invokevirtual 153, 3) := by decide +kernel
theorem dX6_lesson_64 : decode cX6_lesson 64 = .ok (.aload_n 0, 1) := by decide +kernel
theorem dX6_lesson_65 : decode cX6_lesson 65 = .ok (.iload 4, 2) := by decide +kernel
theorem dX6_lesson_67 : decode cX6_lesson 67 = .ok (.aload_n 0, 1) := by decide +kernel
theorem dX6_lesson_68 : decode cX6_lesson 68 = .ok (.iload_n 1, 1) := by decide +kernel
theorem dX6_lesson_69 : decode cX6_lesson 69 = .ok (.iload_n 2, 1) := by decide +kernel
theorem dX6_lesson_70 : decode cX6_lesson 70 = .ok (.invokevirtual 208, 3) := by decide +kernel
theorem dX6_lesson_73 : decode cX6_lesson 73 = .ok (.ineg, 1) := by decide +kernel
theorem dX6_lesson_74 : decode cX6_lesson 74 = .ok (.invokevirtual 225, 3) := by decide +kernel
theorem dX6_lesson_77 : decode cX6_lesson 77 = .ok (.iinc 4 1, 3) := by decide +kernel
theorem dX6_lesson_80 : decode cX6_lesson 80 = .ok (.goto (-39), 3) := by decide +kernel
theorem dX6_lesson_83 : decode cX6_lesson 83 = .ok (.aload_n 0, 1) := by decide +kernel
theorem dX6_lesson_84 : decode cX6_lesson 84 = .ok (.getfield 213, 3) := by decide +kernel
theorem dX6_lesson_87 : decode cX6_lesson 87 = .ok (.bipush (-4), 2) := by decide +kernel
theorem dX6_lesson_89 : decode cX6_lesson 89 = .ok (.if_icmp .ne 8, 3) := by decide +kernel
theorem dX6_lesson_92 : decode cX6_lesson 92 = .ok (.bipush (-4), 2) := by decide +kernel
theorem dX6_lesson_94 : decode cX6_lesson 94 = .ok (.goto 19, 3) := by decide +kernel
theorem dX6_lesson_97 : decode cX6_lesson 97 = .ok (.iload_n 3, 1) := by decide +kernel
theorem dX6_lesson_98 : decode cX6_lesson 98 = .ok (.ifCond .ne 10, 3) := by decide +kernel
theorem dX6_lesson_101 : decode cX6_lesson 101 = .ok (.aload_n 0, 1) := by decide +kernel
theorem dX6_lesson_102 : decode cX6_lesson 102 = .ok (.getfield 213, 3) := by decide +kernel
theorem dX6_lesson_105 : decode cX6_lesson 105 = .ok (.goto 8, 3) := by decide +kernel
theorem dX6_lesson_108 : decode cX6_lesson 108 = .ok (.aload_n 0, 1) := by decide +kernel
theorem dX6_lesson_109 : decode cX6_lesson 109 = .ok (.getfield 216, 3) := by decide +kernel
theorem dX6_lesson_112 : decode cX6_lesson 112 = .ok (.ineg, 1) := by decide +kernel
theorem dX6_lesson_113 : decode cX6_lesson 113 = .ok (.ireturn, 1) := by decide +kernel
abbrev rmX6_lesson : Room := { frames := 5, cells := 0, slots := 0, locals := 117 }
def opX6_lesson (po : Int32 → px_St → Prop) : List (Nat × px_Op) := [
  (0, px_il 1 1),
  (1, px_callS 4 1 px_vI prX6_isSound poX6_isSound),
  (4, px_if 7 21 (fun x => x = 0)),
  (7, px_il 8 2),
  (8, px_callS 11 1 px_vI prX6_isFar poX6_isFar),
  (11, px_if 14 21 (fun x => x = 0)),
  (14, px_il 15 3),
  (15, px_callS 18 1 px_vI prX6_isPart poX6_isPart),
  (18, px_if 21 23 (fun x => ¬ x = 0)),
  (21, px_push 22 (.int (-1))),
  (22, px_iret (.int) po),
  (23, px_al 24 0),
  (24, px_callV dM 27 6 0 px_vV prX6_starts poX6_starts),
  (27, px_al 28 0),
  (28, px_al 29 0),
  (29, px_il 30 1),
  (30, px_il 31 2),
  (31, px_callV dM 34 6 2 px_vI prX6_oftenIn poX6_oftenIn),
  (34, px_un 35 (fun x => -x)),
  (35, px_callV dM 38 6 1 px_vV prX6_startsJudging poX6_startsJudging),
  (38, px_push 39 (.int 0)),
  (39, px_is 41 4),
  (41, px_il 43 4),
  (43, px_al 44 0),
  (44, px_get dM 47 6 0),
  (47, px_push 49 (.int 45)),
  (49, px_ald dM 50 0),
  (50, px_ic 53 83 (fun x y => y ≤ x)),
  (53, px_al 54 0),
  (54, px_callV dM 57 6 0 px_vV prX6_starts poX6_starts),
  (57, px_al 58 0),
  (58, px_il 60 4),
  (60, px_il 61 1),
  (61, px_callV dM 64 6 2 px_vV prX6_learns poX6_learns),
  (64, px_al 65 0),
  (65, px_il 67 4),
  (67, px_al 68 0),
  (68, px_il 69 1),
  (69, px_il 70 2),
  (70, px_callV dM 73 6 2 px_vI prX6_oftenIn poX6_oftenIn),
  (73, px_un 74 (fun x => -x)),
  (74, px_callV dM 77 6 2 px_vV prX6_judges poX6_judges),
  (77, px_inc 80 4 1),
  (80, px_go 41),
  (83, px_al 84 0),
  (84, px_get dM 87 6 13),
  (87, px_push 89 (.int (-4))),
  (89, px_ic 92 97 (fun x y => ¬ x = y)),
  (92, px_push 94 (.int (-4))),
  (94, px_go 113),
  (97, px_il 98 3),
  (98, px_if 101 108 (fun x => ¬ x = 0)),
  (101, px_al 102 0),
  (102, px_get dM 105 6 13),
  (105, px_go 113),
  (108, px_al 109 0),
  (109, px_get dM 112 6 14),
  (112, px_un 113 (fun x => -x)),
  (113, px_iret (.int) po)]
set_option maxRecDepth 100000 in
set_option maxHeartbeats 4000000 in
theorem okX6_lesson : ∀ (po : Int32 → px_St → Prop) (i pc : Nat) (op : px_Op), (opX6_lesson po)[i]? = some (pc, op) → px_Snd (cX6_lesson, 5, RX6, Cond.code yX6_lesson cX6_lesson 5 (some .int) :: wdM, (some .int), rmX6_lesson, dM) px_vI po pc op := by
  intro po
  unfold opX6_lesson
  refine px_ok_cons (ps_iload_n dX6_lesson_0 rfl) ?_
  refine px_ok_cons (ps_callS mX6_isSound (fun _ _ => rfl) (fun _ _ ht => px_cwS wgM (wdM_3_in _ (List.mem_of_getElem? (i := 29) rfl)) (wdM_3_in _ (List.mem_of_getElem? (i := 30) rfl)) (wdM_0_in _ (List.mem_of_getElem? (i := 22) rfl)) (wdM_2_in _ (List.mem_of_getElem? (i := 4) rfl)) (by decide +kernel) rfl rfl (by decide) ht) dX6_lesson_1) ?_
  refine px_ok_cons (ps_if_eq dX6_lesson_4 (by decide)) ?_
  refine px_ok_cons (ps_iload_n dX6_lesson_7 rfl) ?_
  refine px_ok_cons (ps_callS mX6_isFar (fun _ _ => rfl) (fun _ _ ht => px_cwS wgM (wdM_4_in _ (List.mem_of_getElem? (i := 18) rfl)) (wdM_4_in _ (List.mem_of_getElem? (i := 19) rfl)) (wdM_0_in _ (List.mem_of_getElem? (i := 22) rfl)) (wdM_4_in _ (List.mem_of_getElem? (i := 16) rfl)) (by decide +kernel) rfl rfl (by decide) ht) dX6_lesson_8) ?_
  refine px_ok_cons (ps_if_eq dX6_lesson_11 (by decide)) ?_
  refine px_ok_cons (ps_iload_n dX6_lesson_14 rfl) ?_
  refine px_ok_cons (ps_callS mX6_isPart (fun _ _ => rfl) (fun _ _ ht => px_cwS wgM (wdM_4_in _ (List.mem_of_getElem? (i := 39) rfl)) (wdM_5_in _ (List.mem_of_getElem? (i := 0) rfl)) (wdM_0_in _ (List.mem_of_getElem? (i := 22) rfl)) (wdM_2_in _ (List.mem_of_getElem? (i := 10) rfl)) (by decide +kernel) rfl rfl (by decide) ht) dX6_lesson_15) ?_
  refine px_ok_cons (ps_if_ne dX6_lesson_18 (by decide)) ?_
  refine px_ok_cons (ps_iconst dX6_lesson_21 (by decide)) ?_
  refine px_ok_cons (ps_ireturn rfl dX6_lesson_22) ?_
  refine px_ok_cons (ps_aload_n dX6_lesson_23 rfl) ?_
  refine px_ok_cons (ps_callV mX6_starts (fun _ _ => rfl) (C := RX6) rfl (fun _ _ ht => px_cwV wgM (wdM_3_in _ (List.mem_of_getElem? (i := 19) rfl)) (wdM_3_in _ (List.mem_of_getElem? (i := 20) rfl)) (wdM_3_in _ (List.mem_of_getElem? (i := 21) rfl)) (wdM_0_in _ (List.mem_of_getElem? (i := 22) rfl)) (wdM_2_in _ (List.mem_of_getElem? (i := 11) rfl)) (by decide +kernel) rfl rfl (by decide) ht) dX6_lesson_24) ?_
  refine px_ok_cons (ps_aload_n dX6_lesson_27 rfl) ?_
  refine px_ok_cons (ps_aload_n dX6_lesson_28 rfl) ?_
  refine px_ok_cons (ps_iload_n dX6_lesson_29 rfl) ?_
  refine px_ok_cons (ps_iload_n dX6_lesson_30 rfl) ?_
  refine px_ok_cons (ps_callV mX6_oftenIn (fun _ _ => rfl) (C := RX6) rfl (fun _ _ ht => px_cwV wgM (wdM_4_in _ (List.mem_of_getElem? (i := 28) rfl)) (wdM_4_in _ (List.mem_of_getElem? (i := 29) rfl)) (wdM_4_in _ (List.mem_of_getElem? (i := 30) rfl)) (wdM_0_in _ (List.mem_of_getElem? (i := 22) rfl)) (wdM_3_in _ (List.mem_of_getElem? (i := 12) rfl)) (by decide +kernel) rfl rfl (by decide) ht) dX6_lesson_31) ?_
  refine px_ok_cons (ps_ineg dX6_lesson_34) ?_
  refine px_ok_cons (ps_callV mX6_startsJudging (fun _ _ => rfl) (C := RX6) rfl (fun _ _ ht => px_cwV wgM (wdM_5_in _ (List.mem_of_getElem? (i := 1) rfl)) (wdM_5_in _ (List.mem_of_getElem? (i := 2) rfl)) (wdM_5_in _ (List.mem_of_getElem? (i := 3) rfl)) (wdM_0_in _ (List.mem_of_getElem? (i := 22) rfl)) (wdM_4_in _ (List.mem_of_getElem? (i := 35) rfl)) (by decide +kernel) rfl rfl (by decide) ht) dX6_lesson_35) ?_
  refine px_ok_cons (ps_iconst dX6_lesson_38 (by decide)) ?_
  refine px_ok_cons (ps_istore dX6_lesson_39 (by decide)) ?_
  refine px_ok_cons (ps_iload dX6_lesson_41) ?_
  refine px_ok_cons (ps_aload_n dX6_lesson_43 rfl) ?_
  refine px_ok_cons (fgX6_7 dX6_lesson_44) ?_
  refine px_ok_cons (ps_bipush dX6_lesson_47 (by decide)) ?_
  refine px_ok_cons (ps_iaload dX6_lesson_49) ?_
  refine px_ok_cons (ps_icmp_ge dX6_lesson_50 (by decide)) ?_
  refine px_ok_cons (ps_aload_n dX6_lesson_53 rfl) ?_
  refine px_ok_cons (ps_callV mX6_starts (fun _ _ => rfl) (C := RX6) rfl (fun _ _ ht => px_cwV wgM (wdM_3_in _ (List.mem_of_getElem? (i := 19) rfl)) (wdM_3_in _ (List.mem_of_getElem? (i := 20) rfl)) (wdM_3_in _ (List.mem_of_getElem? (i := 21) rfl)) (wdM_0_in _ (List.mem_of_getElem? (i := 22) rfl)) (wdM_2_in _ (List.mem_of_getElem? (i := 11) rfl)) (by decide +kernel) rfl rfl (by decide) ht) dX6_lesson_54) ?_
  refine px_ok_cons (ps_aload_n dX6_lesson_57 rfl) ?_
  refine px_ok_cons (ps_iload dX6_lesson_58) ?_
  refine px_ok_cons (ps_iload_n dX6_lesson_60 rfl) ?_
  refine px_ok_cons (ps_callV mX6_learns (fun _ _ => rfl) (C := RX6) rfl (fun _ _ ht => px_cwV wgM (wdM_3_in _ (List.mem_of_getElem? (i := 2) rfl)) (wdM_3_in _ (List.mem_of_getElem? (i := 3) rfl)) (wdM_3_in _ (List.mem_of_getElem? (i := 4) rfl)) (wdM_0_in _ (List.mem_of_getElem? (i := 22) rfl)) (wdM_2_in _ (List.mem_of_getElem? (i := 25) rfl)) (by decide +kernel) rfl rfl (by decide) ht) dX6_lesson_61) ?_
  refine px_ok_cons (ps_aload_n dX6_lesson_64 rfl) ?_
  refine px_ok_cons (ps_iload dX6_lesson_65) ?_
  refine px_ok_cons (ps_aload_n dX6_lesson_67 rfl) ?_
  refine px_ok_cons (ps_iload_n dX6_lesson_68 rfl) ?_
  refine px_ok_cons (ps_iload_n dX6_lesson_69 rfl) ?_
  refine px_ok_cons (ps_callV mX6_oftenIn (fun _ _ => rfl) (C := RX6) rfl (fun _ _ ht => px_cwV wgM (wdM_4_in _ (List.mem_of_getElem? (i := 28) rfl)) (wdM_4_in _ (List.mem_of_getElem? (i := 29) rfl)) (wdM_4_in _ (List.mem_of_getElem? (i := 30) rfl)) (wdM_0_in _ (List.mem_of_getElem? (i := 22) rfl)) (wdM_3_in _ (List.mem_of_getElem? (i := 12) rfl)) (by decide +kernel) rfl rfl (by decide) ht) dX6_lesson_70) ?_
  refine px_ok_cons (ps_ineg dX6_lesson_73) ?_
  refine px_ok_cons (ps_callV mX6_judges (fun _ _ => rfl) (C := RX6) rfl (fun _ _ ht => px_cwV wgM (wdM_5_in _ (List.mem_of_getElem? (i := 4) rfl)) (wdM_5_in _ (List.mem_of_getElem? (i := 5) rfl)) (wdM_5_in _ (List.mem_of_getElem? (i := 6) rfl)) (wdM_0_in _ (List.mem_of_getElem? (i := 22) rfl)) (wdM_4_in _ (List.mem_of_getElem? (i := 38) rfl)) (by decide +kernel) rfl rfl (by decide) ht) dX6_lesson_74) ?_
  refine px_ok_cons (ps_iinc dX6_lesson_77 (by decide) (by decide)) ?_
  refine px_ok_cons (ps_goto dX6_lesson_80 (by decide)) ?_
  refine px_ok_cons (ps_aload_n dX6_lesson_83 rfl) ?_
  refine px_ok_cons (fgX6_213 dX6_lesson_84) ?_
  refine px_ok_cons (ps_bipush dX6_lesson_87 (by decide)) ?_
  refine px_ok_cons (ps_icmp_ne dX6_lesson_89 (by decide)) ?_
  refine px_ok_cons (ps_bipush dX6_lesson_92 (by decide)) ?_
  refine px_ok_cons (ps_goto dX6_lesson_94 (by decide)) ?_
  refine px_ok_cons (ps_iload_n dX6_lesson_97 rfl) ?_
  refine px_ok_cons (ps_if_ne dX6_lesson_98 (by decide)) ?_
  refine px_ok_cons (ps_aload_n dX6_lesson_101 rfl) ?_
  refine px_ok_cons (fgX6_213 dX6_lesson_102) ?_
  refine px_ok_cons (ps_goto dX6_lesson_105 (by decide)) ?_
  refine px_ok_cons (ps_aload_n dX6_lesson_108 rfl) ?_
  refine px_ok_cons (fgX6_216 dX6_lesson_109) ?_
  refine px_ok_cons (ps_ineg dX6_lesson_112) ?_
  refine px_ok_cons (ps_ireturn rfl dX6_lesson_113) ?_
  exact px_ok_nil
set_option maxRecDepth 100000 in
set_option maxHeartbeats 4000000 in
theorem sgX6_lesson_0 {po : Int32 → px_St → Prop} {G : px_K} (hG : px_cl (opX6_lesson po) G) (v1 : Int32) (v2 : Int32) (v3 : Int32) (σ : px_St)
    (H : ∃ g3 : gtX6_isSound, qrX6_isSound g3 v1 σ ∧ ∀ (r1 : Int32) (σ2 : px_St), qoX6_isSound g3 v1 σ r1 σ2 → ((r1 = 0) → po (-1 : Int32) σ2) ∧ (¬ (r1 = 0) → ∃ g7 : gtX6_isFar, qrX6_isFar g7 v2 σ2 ∧ ∀ (r5 : Int32) (σ6 : px_St), qoX6_isFar g7 v2 σ2 r5 σ6 → ((r5 = 0) → po (-1 : Int32) σ6) ∧ (¬ (r5 = 0) → ∃ g11 : gtX6_isPart, qrX6_isPart g11 v3 σ6 ∧ ∀ (r9 : Int32) (σ10 : px_St), qoX6_isPart g11 v3 σ6 r9 σ10 → ((¬ r9 = 0) → ∃ g15 : gtX6_starts, qrX6_starts g15 σ10 ∧ ∀ (r13 : Unit) (σ14 : px_St), qoX6_starts g15 σ10 r13 σ14 → ∃ g19 : gtX6_oftenIn, qrX6_oftenIn g19 v1 v2 σ14 ∧ ∀ (r17 : Int32) (σ18 : px_St), qoX6_oftenIn g19 v1 v2 σ14 r17 σ18 → ∃ g23 : gtX6_startsJudging, qrX6_startsJudging g23 (-r17) σ18 ∧ ∀ (r21 : Unit) (σ22 : px_St), qoX6_startsJudging g23 (-r17) σ18 r21 σ22 → G 41 [some (.ref 0), some (.int v1), some (.int v2), some (.int v3), some (.int (0 : Int32))] [] σ22) ∧ (¬ (¬ r9 = 0) → po (-1 : Int32) σ10)))) :
    G 0 (px_ent 5 [.ref 0, .int v1, .int v2, .int v3]) [] σ := by
  refine hG.1 0 _ _ rfl _ _ _ ?_
  refine hG.1 1 _ _ rfl _ _ _ ?_
  obtain ⟨g3, H⟩ := H
  refine ⟨Nat.le_of_ble_eq_true rfl, Nat.le_of_ble_eq_true rfl, g3, ⟨_, rfl, H.1⟩, fun r1 σ2 hp4 => ?_⟩
  replace H := H.2 r1 σ2 hp4
  refine hG.1 2 _ _ rfl _ _ _ ?_
  refine ⟨fun h27 => ?_, fun h27 => ?_⟩
  · replace H := H.1 h27
    refine hG.1 9 _ _ rfl _ _ _ ?_
    refine hG.1 10 _ _ rfl _ _ _ ?_
    exact ⟨rfl, H⟩
  · replace H := H.2 h27
    refine hG.1 3 _ _ rfl _ _ _ ?_
    refine hG.1 4 _ _ rfl _ _ _ ?_
    obtain ⟨g7, H⟩ := H
    refine ⟨Nat.le_of_ble_eq_true rfl, Nat.le_of_ble_eq_true rfl, g7, ⟨_, rfl, H.1⟩, fun r5 σ6 hp8 => ?_⟩
    replace H := H.2 r5 σ6 hp8
    refine hG.1 5 _ _ rfl _ _ _ ?_
    refine ⟨fun h26 => ?_, fun h26 => ?_⟩
    · replace H := H.1 h26
      refine hG.1 9 _ _ rfl _ _ _ ?_
      refine hG.1 10 _ _ rfl _ _ _ ?_
      exact ⟨rfl, H⟩
    · replace H := H.2 h26
      refine hG.1 6 _ _ rfl _ _ _ ?_
      refine hG.1 7 _ _ rfl _ _ _ ?_
      obtain ⟨g11, H⟩ := H
      refine ⟨Nat.le_of_ble_eq_true rfl, Nat.le_of_ble_eq_true rfl, g11, ⟨_, rfl, H.1⟩, fun r9 σ10 hp12 => ?_⟩
      replace H := H.2 r9 σ10 hp12
      refine hG.1 8 _ _ rfl _ _ _ ?_
      refine ⟨fun h25 => ?_, fun h25 => ?_⟩
      · replace H := H.1 h25
        refine hG.1 11 _ _ rfl _ _ _ ?_
        refine hG.1 12 _ _ rfl _ _ _ ?_
        obtain ⟨g15, H⟩ := H
        refine ⟨⟨rfl, by decide⟩, Nat.le_of_ble_eq_true rfl, g15, ⟨rfl, H.1⟩, fun r13 σ14 hp16 => ?_⟩
        replace H := H.2 r13 σ14 hp16
        refine hG.1 13 _ _ rfl _ _ _ ?_
        refine hG.1 14 _ _ rfl _ _ _ ?_
        refine hG.1 15 _ _ rfl _ _ _ ?_
        refine hG.1 16 _ _ rfl _ _ _ ?_
        refine hG.1 17 _ _ rfl _ _ _ ?_
        obtain ⟨g19, H⟩ := H
        refine ⟨⟨rfl, by decide⟩, Nat.le_of_ble_eq_true rfl, g19, ⟨_, _, rfl, H.1⟩, fun r17 σ18 hp20 => ?_⟩
        replace H := H.2 r17 σ18 hp20
        refine hG.1 18 _ _ rfl _ _ _ ?_
        refine hG.1 19 _ _ rfl _ _ _ ?_
        obtain ⟨g23, H⟩ := H
        refine ⟨⟨rfl, by decide⟩, Nat.le_of_ble_eq_true rfl, g23, ⟨_, rfl, H.1⟩, fun r21 σ22 hp24 => ?_⟩
        replace H := H.2 r21 σ22 hp24
        refine hG.1 20 _ _ rfl _ _ _ ?_
        refine hG.1 21 _ _ rfl _ _ _ ?_
        show G 41 [some (.ref 0), some (.int v1), some (.int v2), some (.int v3), some (.int (0 : Int32))] [] σ22
        exact H
      · replace H := H.2 h25
        refine hG.1 9 _ _ rfl _ _ _ ?_
        refine hG.1 10 _ _ rfl _ _ _ ?_
        exact ⟨rfl, H⟩
set_option maxRecDepth 100000 in
set_option maxHeartbeats 4000000 in
theorem sgX6_lesson_41 {po : Int32 → px_St → Prop} {G : px_K} (hG : px_cl (opX6_lesson po) G) (v1 : Int32) (v2 : Int32) (v3 : Int32) (v4 : Int32) (σ : px_St)
    (H : vp_in (45 : Int32) 183 ∧ (((σ.1 1 (45 : Int32).toNatClampNeg) ≤ v4) → ((¬ (σ.1 0 13) = (-4 : Int32)) → ((¬ v3 = 0) → po (-(σ.1 0 14)) σ) ∧ (¬ (¬ v3 = 0) → po (σ.1 0 13) σ)) ∧ (¬ (¬ (σ.1 0 13) = (-4 : Int32)) → po (-4 : Int32) σ)) ∧ (¬ ((σ.1 1 (45 : Int32).toNatClampNeg) ≤ v4) → ∃ g5 : gtX6_starts, qrX6_starts g5 σ ∧ ∀ (r3 : Unit) (σ4 : px_St), qoX6_starts g5 σ r3 σ4 → ∃ g9 : gtX6_learns, qrX6_learns g9 v4 v1 σ4 ∧ ∀ (r7 : Unit) (σ8 : px_St), qoX6_learns g9 v4 v1 σ4 r7 σ8 → ∃ g13 : gtX6_oftenIn, qrX6_oftenIn g13 v1 v2 σ8 ∧ ∀ (r11 : Int32) (σ12 : px_St), qoX6_oftenIn g13 v1 v2 σ8 r11 σ12 → ∃ g17 : gtX6_judges, qrX6_judges g17 v4 (-r11) σ12 ∧ ∀ (r15 : Unit) (σ16 : px_St), qoX6_judges g17 v4 (-r11) σ12 r15 σ16 → G 41 [some (.ref 0), some (.int v1), some (.int v2), some (.int v3), some (.int (v4 + 1))] [] σ16)) :
    G 41 [some (.ref 0), some (.int v1), some (.int v2), some (.int v3), some (.int v4)] [] σ := by
  refine hG.1 22 _ _ rfl _ _ _ ?_
  refine hG.1 23 _ _ rfl _ _ _ ?_
  refine hG.1 24 _ _ rfl _ _ _ ?_
  refine ⟨⟨rfl, by decide⟩, ?_⟩
  refine hG.1 25 _ _ rfl _ _ _ ?_
  refine hG.1 26 _ _ rfl _ _ _ ?_
  refine ⟨⟨rfl, by decide⟩, H.1, ?_⟩
  replace H := H.2
  refine hG.1 27 _ _ rfl _ _ _ ?_
  refine ⟨fun h19 => ?_, fun h19 => ?_⟩
  · replace H := H.1 h19
    refine hG.1 44 _ _ rfl _ _ _ ?_
    refine hG.1 45 _ _ rfl _ _ _ ?_
    refine ⟨⟨rfl, by decide⟩, ?_⟩
    refine hG.1 46 _ _ rfl _ _ _ ?_
    refine hG.1 47 _ _ rfl _ _ _ ?_
    refine ⟨fun h2 => ?_, fun h2 => ?_⟩
    · replace H := H.1 h2
      refine hG.1 50 _ _ rfl _ _ _ ?_
      refine hG.1 51 _ _ rfl _ _ _ ?_
      refine ⟨fun h1 => ?_, fun h1 => ?_⟩
      · replace H := H.1 h1
        refine hG.1 55 _ _ rfl _ _ _ ?_
        refine hG.1 56 _ _ rfl _ _ _ ?_
        refine ⟨⟨rfl, by decide⟩, ?_⟩
        refine hG.1 57 _ _ rfl _ _ _ ?_
        refine hG.1 58 _ _ rfl _ _ _ ?_
        exact ⟨rfl, H⟩
      · replace H := H.2 h1
        refine hG.1 52 _ _ rfl _ _ _ ?_
        refine hG.1 53 _ _ rfl _ _ _ ?_
        refine ⟨⟨rfl, by decide⟩, ?_⟩
        refine hG.1 54 _ _ rfl _ _ _ ?_
        refine hG.1 58 _ _ rfl _ _ _ ?_
        exact ⟨rfl, H⟩
    · replace H := H.2 h2
      refine hG.1 48 _ _ rfl _ _ _ ?_
      refine hG.1 49 _ _ rfl _ _ _ ?_
      refine hG.1 58 _ _ rfl _ _ _ ?_
      exact ⟨rfl, H⟩
  · replace H := H.2 h19
    refine hG.1 28 _ _ rfl _ _ _ ?_
    refine hG.1 29 _ _ rfl _ _ _ ?_
    obtain ⟨g5, H⟩ := H
    refine ⟨⟨rfl, by decide⟩, Nat.le_of_ble_eq_true rfl, g5, ⟨rfl, H.1⟩, fun r3 σ4 hp6 => ?_⟩
    replace H := H.2 r3 σ4 hp6
    refine hG.1 30 _ _ rfl _ _ _ ?_
    refine hG.1 31 _ _ rfl _ _ _ ?_
    refine hG.1 32 _ _ rfl _ _ _ ?_
    refine hG.1 33 _ _ rfl _ _ _ ?_
    obtain ⟨g9, H⟩ := H
    refine ⟨⟨rfl, by decide⟩, Nat.le_of_ble_eq_true rfl, g9, ⟨_, _, rfl, H.1⟩, fun r7 σ8 hp10 => ?_⟩
    replace H := H.2 r7 σ8 hp10
    refine hG.1 34 _ _ rfl _ _ _ ?_
    refine hG.1 35 _ _ rfl _ _ _ ?_
    refine hG.1 36 _ _ rfl _ _ _ ?_
    refine hG.1 37 _ _ rfl _ _ _ ?_
    refine hG.1 38 _ _ rfl _ _ _ ?_
    refine hG.1 39 _ _ rfl _ _ _ ?_
    obtain ⟨g13, H⟩ := H
    refine ⟨⟨rfl, by decide⟩, Nat.le_of_ble_eq_true rfl, g13, ⟨_, _, rfl, H.1⟩, fun r11 σ12 hp14 => ?_⟩
    replace H := H.2 r11 σ12 hp14
    refine hG.1 40 _ _ rfl _ _ _ ?_
    refine hG.1 41 _ _ rfl _ _ _ ?_
    obtain ⟨g17, H⟩ := H
    refine ⟨⟨rfl, by decide⟩, Nat.le_of_ble_eq_true rfl, g17, ⟨_, _, rfl, H.1⟩, fun r15 σ16 hp18 => ?_⟩
    replace H := H.2 r15 σ16 hp18
    refine hG.1 42 _ _ rfl _ _ _ ?_
    show G 80 [some (.ref 0), some (.int v1), some (.int v2), some (.int v3), some (.int (v4 + 1))] [] σ16
    refine hG.1 43 _ _ rfl _ _ _ ?_
    exact H
set_option maxRecDepth 100000 in
set_option maxHeartbeats 4000000 in
theorem hhX6_lesson (g : gtX6_lesson) (v1 : Int32) (v2 : Int32) (v3 : Int32) (σ : px_St) (h : qrX6_lesson g v1 v2 v3 σ) (G : px_K) (hG : px_cl (opX6_lesson (qoX6_lesson g v1 v2 v3 σ)) G) : G 0 (px_ent 5 [.ref 0, .int v1, .int v2, .int v3]) [] σ := by
  obtain ⟨hX, hok⟩ := h
  have hd := hok.1.2
  have hvk := hok.1.1
  have h5 := hvk.1.1
  refine sgX6_lesson_0 hG _ _ _ σ ⟨(), trivial, fun r1 σ1 h1 => ?_⟩
  obtain ⟨rfl, b1⟩ := h1
  refine bz2 b1 (fun z => ⟨(), trivial, fun r2 σ2 h2 => ?_⟩) (fun z => ?_)
  · obtain ⟨rfl, b2⟩ := h2
    refine bz2 b2 (fun y => ⟨(), trivial, fun r3 σ3 h3 => ?_⟩) (fun y => ?_)
    · obtain ⟨rfl, b3⟩ := h3
      refine bz1 b3 (fun x => ⟨(), trivial, fun _ σ4 h4 => ?_⟩) (fun x => ?_)
      · obtain ⟨s, hs, rfl⟩ := (rngc 9 9 rfl (by omega)).mp z
        obtain ⟨n, hn, rfl⟩ := (rngc 60 60 rfl (by omega)).mp y
        obtain ⟨f, hf⟩ : ∃ f : Nat → Nat, f = fun p => pv_times (pv_at g.1 p (pv_learn (g.1.2.2.2 p) s)) s n := ⟨_, rfl⟩
        have ex : (x_lesson g (nI s) (nI n) v3) = (pv_choice (pv_bmax f (pv_times g.1 s n) g.1.1).1 (nI (pv_bmax f (pv_times g.1 s n) g.1.1).2) v3, g) := by
          unfold x_lesson
          rw [xif_t ⟨z, y, x⟩, nI_clamp (by omega), nI_clamp (by omega), hf]
        have hfl : ∀ j, f j < 100 := fun j => by
          rw [hf]
          have := pv_times_le (pv_at g.1 j (pv_learn (g.1.2.2.2 j) s)) s n
          show pv_times (pv_at g.1 j (pv_learn (g.1.2.2.2 j) s)) s n < 100
          omega
        have hbl : ∀ k, (pv_bmax f (pv_times g.1 s n) k).2 < 100 := fun k => pv_bmax_lt (by have := pv_times_le g.1 s n; omega) k (fun j _ => hfl j)
        refine ⟨(g.1, s, n), ⟨starts_mv h4 hX.1 hvk.1, hvk, by omega, by omega, rfl, rfl⟩, fun r5 σ5 h5' => ⟨(), trivial, fun _ σ6 h6 => ?_⟩⟩
        obtain ⟨rfl, q3⟩ := h5'
        obtain ⟨j6, k6⟩ := jd_start h6
        have loop : ∀ m k, k + m = g.1.1 → ∀ σ', mk σ3 σ' → jd σ' (pv_bmax f (pv_times g.1 s n) k).1 (-nI (pv_bmax f (pv_times g.1 s n) k).2) → G 41 [some (.ref 0), some (.int (nI s)), some (.int (nI n)), some (.int v3), some (.int (nI k))] [] σ' := by
          intro m
          induction m with
          | zero =>
            intro k hk σ' ho hj
            have e : k = g.1.1 := by omega
            subst e
            have hX' := ho.mo hX
            refine sgX6_lesson_41 hG _ _ _ _ σ' ?_
            rw [c45, hX'.1.1.1, hj.1, hj.2, Int32.neg_neg]
            unfold qoX6_lesson
            rw [ex]
            refine ⟨i45, fun _ => ⟨fun q => ⟨fun w => ⟨?_, hX'⟩, fun w => ⟨?_, hX'⟩⟩, fun q => ⟨?_, hX'⟩⟩, fun q => absurd (Int32.le_refl _) q⟩
            · show _ = pv_choice _ _ _
              unfold pv_choice
              rw [if_neg q, if_neg w]
            · show _ = pv_choice _ _ _
              unfold pv_choice
              rw [if_neg q, if_pos (Classical.byContradiction w)]
            · show _ = pv_choice _ _ _
              unfold pv_choice
              rw [if_pos (Classical.byContradiction q)]
          | succ m ih =>
            intro k hk σ' ho hj
            have hX' := ho.mo hX
            have hkg : k < g.1.1 := by omega
            refine sgX6_lesson_41 hG _ _ _ _ σ' ?_
            rw [c45, hX'.1.1.1, nI_1]
            refine ⟨i45, fun q => absurd q (nI_ge (by omega) (by omega)), fun _ => ⟨(), trivial, fun _ σa ha => ⟨(g.1, k, s), ⟨starts_mv ha hX'.1 hvk.1, hvk.1, hkg, hs, rfl, rfl⟩, fun _ σb hb => ⟨(pv_at g.1 k (pv_learn (g.1.2.2.2 k) s), s, n), ⟨hb.1, pv_lrn_ok hvk hkg hs, Nat.lt_of_le_of_lt hd (by omega), by omega, rfl, rfl⟩, fun rc σc hc => ⟨(), trivial, fun _ σd hd' => ?_⟩⟩⟩⟩⟩
            obtain ⟨rfl, c2⟩ := hc
            have hjc : jd σc _ _ := hj.kept (((c2.1 0 (by omega)).trans (hb.2.1 0 (by omega))).trans (ha.1 0 (by omega)))
            obtain ⟨⟨d1, d2⟩, d3⟩ := jd_judge hd' hjc
            have hod := ((ho.tr ((starts_mk ha).tr hb.2.mk)).tr c2.mk).tr d3
            have e := ih (k + 1) (by omega) σd hod
            have ef : pv_times (pv_at g.1 k (pv_learn (g.1.2.2.2 k) s)) s n = f k := by rw [hf]
            rw [ef, ng_lt _ (hfl k) _ (hbl k)] at d1 d2
            refine e ?_
            rw [pv_bmax]
            by_cases hlt : (pv_bmax f (pv_times g.1 s n) k).2 < f k
            · rw [if_pos hlt]; exact d1 hlt
            · rw [if_neg hlt]; exact d2 hlt
        exact loop g.1.1 0 (by omega) σ6 (((starts_mk h4).tr q3.mk).tr k6) j6
      · unfold qoX6_lesson x_lesson
        rw [xif_f (fun q => x q.2.2)]
        exact ⟨rfl, hX⟩
    · unfold qoX6_lesson x_lesson
      rw [xif_f (fun q => y q.2.1)]
      exact ⟨rfl, hX⟩
  · unfold qoX6_lesson x_lesson
    rw [xif_f (fun q => z q.1)]
    exact ⟨rfl, hX⟩
theorem mX6_lesson (g : gtX6_lesson) : px_Met dM yX6_lesson (Cond.code yX6_lesson cX6_lesson 5 (some .int) :: wdM) rmX6_lesson px_vI (prX6_lesson g) (poX6_lesson g) :=
  px_met (Z := (cX6_lesson, 5, RX6, Cond.code yX6_lesson cX6_lesson 5 (some .int) :: wdM, (some .int), rmX6_lesson, dM)) opX6_lesson (by decide) rfl rfl okX6_lesson (fun As σ h => by obtain ⟨v1, v2, v3, rfl, h⟩ := h; exact Nat.le_of_ble_eq_true rfl) (fun As σ h G hG => by obtain ⟨v1, v2, v3, rfl, h⟩ := h; exact hhX6_lesson g v1 v2 v3 σ h G hG)
theorem i61 (n : Nat) {c : Int32} (hc : c = nI n) (h : n < 61) : vp_in c 61 := vpin n 61 hc h (by omega)
theorem mv_off {f st : Nat → Int32} {V : pv_V} {k : Nat} (hV : mv_is st V) (hw : pv_w V) (hk : k < V.1) (h45 : f 45 = nI (V.1 - 1)) (h : ∀ j, j < 48 → j ≠ 45 → f j = if 9 * k ≤ j ∧ j < 9 * (V.1 - 1) then st (j + 9) else st j) : mv_is f (pv_off V k) := by
  have h5 := hw.1
  obtain ⟨⟨h1, h2, h3⟩, h4⟩ := hV
  refine ⟨⟨h45, ?_, ?_⟩, fun p hp => ?_⟩
  · rw [h 46 (by omega) (by omega), if_neg (by omega)]; exact h2
  · rw [h 47 (by omega) (by omega), if_neg (by omega)]; exact h3
  · have hp' : p < V.1 - 1 := hp
    show mv_par f p (if p < k then V.2.2.2 p else V.2.2.2 (p + 1))
    by_cases hpk : p < k
    · rw [if_pos hpk]
      exact (h4 p (by omega)).cg (hw.2.2.2 p (by omega)).2.1 (fun j a b => by rw [h j (by omega) (by omega), if_neg (by omega)])
    · rw [if_neg hpk]
      obtain ⟨g1, g2, g3, g4⟩ := h4 (p + 1) (by omega)
      have hl := (hw.2.2.2 (p + 1) (by omega)).2.1
      have e : ∀ j, 9 * p ≤ j → j < 9 * p + 9 → f j = st (j + 9) := fun j a b => by rw [h j (by omega) (by omega), if_pos (by omega)]
      refine ⟨?_, ?_, ?_, fun i x hx => ?_⟩
      · rw [e _ (by omega) (by omega)]; exact g1
      · rw [e _ (by omega) (by omega), show 9 * p + 1 + 9 = 9 * (p + 1) + 1 by omega]; exact g2
      · rw [e _ (by omega) (by omega), show 9 * p + 2 + 9 = 9 * (p + 1) + 2 by omega]; exact g3
      · have hlt := (List.getElem?_eq_some_iff.mp hx).1
        rw [e _ (by omega) (by omega), show 9 * p + 3 + i + 9 = 9 * (p + 1) + 3 + i by omega]; exact g4 i x hx
abbrev gtX6_away : Type := pv_X
def qrX6_away (X : pv_X) (_ _ _ : Int32) (σ : px_St) : Prop := mo_is σ X ∧ xo X
def qoX6_away (X : pv_X) (s n w : Int32) (_ : px_St) (r : Int32) (σ' : px_St) : Prop := r = (x_away X s n w).1 ∧ mo_is σ' (x_away X s n w).2
def prX6_away (g : gtX6_away) : List Value → px_St → Prop := fun As σ => ∃ v1 : Int32, ∃ v2 : Int32, ∃ v3 : Int32, As = [.ref 0, .int v1, .int v2, .int v3] ∧ qrX6_away g v1 v2 v3 σ
def poX6_away (g : gtX6_away) : List Value → px_St → Int32 → px_St → Prop
  | [.ref _, .int v1, .int v2, .int v3], σ, r, σ' => qoX6_away g v1 v2 v3 σ r σ'
  | _, _, _, _ => False
theorem dX6_away_0 : decode cX6_away 0 = .ok (.iload_n 1, 1) := by decide +kernel
theorem dX6_away_1 : decode cX6_away 1 = .ok (.invokestatic 175, 3) := by decide +kernel
theorem dX6_away_4 : decode cX6_away 4 = .ok (.ifCond .eq 17, 3) := by decide +kernel
theorem dX6_away_7 : decode cX6_away 7 = .ok (.iload_n 2, 1) := by decide +kernel
theorem dX6_away_8 : decode cX6_away 8 = .ok (.invokestatic 199, 3) := by decide +kernel
theorem dX6_away_11 : decode cX6_away 11 = .ok (.ifCond .eq 10, 3) := by decide +kernel
theorem dX6_away_14 : decode cX6_away 14 = .ok (.iload_n 3, 1) := by decide +kernel
theorem dX6_away_15 : decode cX6_away 15 = .ok (.invokestatic 219, 3) := by decide +kernel
theorem dX6_away_18 : decode cX6_away 18 = .ok (.ifCond .ne 5, 3) := by decide +kernel
theorem dX6_away_21 : decode cX6_away 21 = .ok (.iconst (-1), 1) := by decide +kernel
theorem dX6_away_22 : decode cX6_away 22 = .ok (.ireturn, 1) := by decide +kernel
theorem dX6_away_23 : decode cX6_away 23 = .ok (.aload_n 0, 1) := by decide +kernel
theorem dX6_away_24 : decode cX6_away 24 = .ok (.invokevirtual 163, 3) := by decide +kernel
theorem dX6_away_27 : decode cX6_away 27 = .ok (.aload_n 0, 1) := by decide +kernel
theorem dX6_away_28 : decode cX6_away 28 = .ok (.aload_n 0, 1) := by decide +kernel
theorem dX6_away_29 : decode cX6_away 29 = .ok (.iload_n 1, 1) := by decide +kernel
theorem dX6_away_30 : decode cX6_away 30 = .ok (.iload_n 2, 1) := by decide +kernel
theorem dX6_away_31 : decode cX6_away 31 = .ok (.invokevirtual 208, 3) := by decide +kernel
theorem dX6_away_34 : decode cX6_away 34 = .ok (.invokevirtual 222, 3) := by decide +kernel
theorem dX6_away_37 : decode cX6_away 37 = .ok (.iconst 0, 1) := by decide +kernel
theorem dX6_away_38 : decode cX6_away 38 = .ok (.istore 4, 2) := by decide +kernel
theorem dX6_away_40 : decode cX6_away 40 = .ok (.iload 4, 2) := by decide +kernel
theorem dX6_away_42 : decode cX6_away 42 = .ok (.aload_n 0, 1) := by decide +kernel
theorem dX6_away_43 : decode cX6_away 43 = .ok (.getfield 7, 3) := by decide +kernel
theorem dX6_away_46 : decode cX6_away 46 = .ok (.bipush 45, 2) := by decide +kernel
theorem dX6_away_48 : decode cX6_away 48 = .ok (.iaload, 1) := by decide +kernel
theorem dX6_away_49 : decode cX6_away 49 = .ok (.if_icmp .ge 70, 3) := by decide +kernel
theorem dX6_away_52 : decode cX6_away 52 = .ok (.aload_n 0, 1) := by decide +kernel
theorem dX6_away_53 : decode cX6_away 53 = .ok (.invokevirtual 163, 3) := by decide +kernel
theorem dX6_away_56 : decode cX6_away 56 = .ok (.iload 4, 2) := by decide +kernel
theorem dX6_away_58 : decode cX6_away 58 = .ok (.istore 5, 2) := by decide +kernel
theorem dX6_away_60 : decode cX6_away 60 = .ok (.iload 5, 2) := by decide +kernel
theorem dX6_away_62 : decode cX6_away 62 = .ok (.aload_n 0, 1) := by decide +kernel
theorem dX6_away_63 : decode cX6_away 63 = .ok (.getfield 7, 3) := by decide +kernel
theorem dX6_away_66 : decode cX6_away 66 = .ok (.bipush 45, 2) := by decide +kernel
theorem dX6_away_68 : decode cX6_away 68 = .ok (.iaload, 1) := by decide +kernel
theorem dX6_away_69 : decode cX6_away 69 = .ok (.iconst 1, 1) := by decide +kernel
theorem dX6_away_70 : decode cX6_away 70 = .ok (.isub, 1) := by decide +kernel
theorem dX6_away_71 : decode cX6_away 71 = .ok (.if_icmp .ge 19, 3) := by decide +kernel
theorem dX6_away_74 : decode cX6_away 74 = .ok (.aload_n 0, 1) := by decide +kernel
theorem dX6_away_75 : decode cX6_away 75 = .ok (.iload 5, 2) := by decide +kernel
theorem dX6_away_77 : decode cX6_away 77 = .ok (.iload 5, 2) := by decide +kernel
theorem dX6_away_79 : decode cX6_away 79 = .ok (.iconst 1, 1) := by decide +kernel
theorem dX6_away_80 : decode cX6_away 80 = .ok (.iadd, 1) := by decide +kernel
theorem dX6_away_81 : decode cX6_away 81 = .ok (.invokevirtual 228, 3) := by decide +kernel
theorem dX6_away_84 : decode cX6_away 84 = .ok (.iinc 5 1, 3) := by decide +kernel
theorem dX6_away_87 : decode cX6_away 87 = .ok (.goto (-27), 3) := by decide +kernel
theorem dX6_away_90 : decode cX6_away 90 = .ok (.aload_n 0, 1) := by decide +kernel
theorem dX6_away_91 : decode cX6_away 91 = .ok (.getfield 13, 3) := by decide +kernel
theorem dX6_away_94 : decode cX6_away 94 = .ok (.bipush 45, 2) := by decide +kernel
theorem dX6_away_96 : decode cX6_away 96 = .ok (.dup2, 1) := by decide +kernel
theorem dX6_away_97 : decode cX6_away 97 = .ok (.iaload, 1) := by decide +kernel
theorem dX6_away_98 : decode cX6_away 98 = .ok (.iconst 1, 1) := by decide +kernel
theorem dX6_away_99 : decode cX6_away 99 = .ok (.isub, 1) := by decide +kernel
theorem dX6_away_100 : decode cX6_away 100 = .ok (.iastore, 1) := by decide +kernel
theorem dX6_away_101 : decode cX6_away 101 = .ok (.aload_n 0, 1) := by decide +kernel
theorem dX6_away_102 : decode cX6_away 102 = .ok (.iload 4, 2) := by decide +kernel
theorem dX6_away_104 : decode cX6_away 104 = .ok (.aload_n 0, 1) := by decide +kernel
theorem dX6_away_105 : decode cX6_away 105 = .ok (.iload_n 1, 1) := by decide +kernel
theorem dX6_away_106 : decode cX6_away 106 = .ok (.iload_n 2, 1) := by decide +kernel
theorem dX6_away_107 : decode cX6_away 107 = .ok (.invokevirtual 208, 3) := by decide +kernel
theorem dX6_away_110 : decode cX6_away 110 = .ok (.invokevirtual 225, 3) := by decide +kernel
theorem dX6_away_113 : decode cX6_away 113 = .ok (.iinc 4 1, 3) := by decide +kernel
theorem dX6_away_116 : decode cX6_away 116 = .ok (.goto (-76), 3) := by decide +kernel
theorem dX6_away_119 : decode cX6_away 119 = .ok (.aload_n 0, 1) := by decide +kernel
theorem dX6_away_120 : decode cX6_away 120 = .ok (.iload_n 3, 1) := by decide +kernel
theorem dX6_away_121 : decode cX6_away 121 = .ok (.invokevirtual 231, 3) := by decide +kernel
theorem dX6_away_124 : decode cX6_away 124 = .ok (.ireturn, 1) := by decide +kernel
abbrev rmX6_away : Room := { frames := 5, cells := 0, slots := 0, locals := 117 }
def opX6_away (po : Int32 → px_St → Prop) : List (Nat × px_Op) := [
  (0, px_il 1 1),
  (1, px_callS 4 1 px_vI prX6_isSound poX6_isSound),
  (4, px_if 7 21 (fun x => x = 0)),
  (7, px_il 8 2),
  (8, px_callS 11 1 px_vI prX6_isFar poX6_isFar),
  (11, px_if 14 21 (fun x => x = 0)),
  (14, px_il 15 3),
  (15, px_callS 18 1 px_vI prX6_isPart poX6_isPart),
  (18, px_if 21 23 (fun x => ¬ x = 0)),
  (21, px_push 22 (.int (-1))),
  (22, px_iret (.int) po),
  (23, px_al 24 0),
  (24, px_callV dM 27 6 0 px_vV prX6_starts poX6_starts),
  (27, px_al 28 0),
  (28, px_al 29 0),
  (29, px_il 30 1),
  (30, px_il 31 2),
  (31, px_callV dM 34 6 2 px_vI prX6_oftenIn poX6_oftenIn),
  (34, px_callV dM 37 6 1 px_vV prX6_startsJudging poX6_startsJudging),
  (37, px_push 38 (.int 0)),
  (38, px_is 40 4),
  (40, px_il 42 4),
  (42, px_al 43 0),
  (43, px_get dM 46 6 0),
  (46, px_push 48 (.int 45)),
  (48, px_ald dM 49 0),
  (49, px_ic 52 119 (fun x y => y ≤ x)),
  (52, px_al 53 0),
  (53, px_callV dM 56 6 0 px_vV prX6_starts poX6_starts),
  (56, px_il 58 4),
  (58, px_is 60 5),
  (60, px_il 62 5),
  (62, px_al 63 0),
  (63, px_get dM 66 6 0),
  (66, px_push 68 (.int 45)),
  (68, px_ald dM 69 0),
  (69, px_push 70 (.int 1)),
  (70, px_bin 71 (fun x y => x - y)),
  (71, px_ic 74 90 (fun x y => y ≤ x)),
  (74, px_al 75 0),
  (75, px_il 77 5),
  (77, px_il 79 5),
  (79, px_push 80 (.int 1)),
  (80, px_bin 81 (fun x y => x + y)),
  (81, px_callV dM 84 6 2 px_vV prX6_sitsOn poX6_sitsOn),
  (84, px_inc 87 5 1),
  (87, px_go 60),
  (90, px_al 91 0),
  (91, px_get dM 94 6 1),
  (94, px_push 96 (.int 45)),
  (96, px_dup2 97),
  (97, px_ald dM 98 0),
  (98, px_push 99 (.int 1)),
  (99, px_bin 100 (fun x y => x - y)),
  (100, px_ast dM 101 0 (fun x => x)),
  (101, px_al 102 0),
  (102, px_il 104 4),
  (104, px_al 105 0),
  (105, px_il 106 1),
  (106, px_il 107 2),
  (107, px_callV dM 110 6 2 px_vI prX6_oftenIn poX6_oftenIn),
  (110, px_callV dM 113 6 2 px_vV prX6_judges poX6_judges),
  (113, px_inc 116 4 1),
  (116, px_go 40),
  (119, px_al 120 0),
  (120, px_il 121 3),
  (121, px_callV dM 124 6 1 px_vI prX6_judged poX6_judged),
  (124, px_iret (.int) po)]
set_option maxRecDepth 100000 in
set_option maxHeartbeats 4000000 in
theorem okX6_away : ∀ (po : Int32 → px_St → Prop) (i pc : Nat) (op : px_Op), (opX6_away po)[i]? = some (pc, op) → px_Snd (cX6_away, 6, RX6, Cond.code yX6_away cX6_away 6 (some .int) :: wdM, (some .int), rmX6_away, dM) px_vI po pc op := by
  intro po
  unfold opX6_away
  refine px_ok_cons (ps_iload_n dX6_away_0 rfl) ?_
  refine px_ok_cons (ps_callS mX6_isSound (fun _ _ => rfl) (fun _ _ ht => px_cwS wgM (wdM_3_in _ (List.mem_of_getElem? (i := 29) rfl)) (wdM_3_in _ (List.mem_of_getElem? (i := 30) rfl)) (wdM_0_in _ (List.mem_of_getElem? (i := 22) rfl)) (wdM_2_in _ (List.mem_of_getElem? (i := 4) rfl)) (by decide +kernel) rfl rfl (by decide) ht) dX6_away_1) ?_
  refine px_ok_cons (ps_if_eq dX6_away_4 (by decide)) ?_
  refine px_ok_cons (ps_iload_n dX6_away_7 rfl) ?_
  refine px_ok_cons (ps_callS mX6_isFar (fun _ _ => rfl) (fun _ _ ht => px_cwS wgM (wdM_4_in _ (List.mem_of_getElem? (i := 18) rfl)) (wdM_4_in _ (List.mem_of_getElem? (i := 19) rfl)) (wdM_0_in _ (List.mem_of_getElem? (i := 22) rfl)) (wdM_4_in _ (List.mem_of_getElem? (i := 16) rfl)) (by decide +kernel) rfl rfl (by decide) ht) dX6_away_8) ?_
  refine px_ok_cons (ps_if_eq dX6_away_11 (by decide)) ?_
  refine px_ok_cons (ps_iload_n dX6_away_14 rfl) ?_
  refine px_ok_cons (ps_callS mX6_isPart (fun _ _ => rfl) (fun _ _ ht => px_cwS wgM (wdM_4_in _ (List.mem_of_getElem? (i := 39) rfl)) (wdM_5_in _ (List.mem_of_getElem? (i := 0) rfl)) (wdM_0_in _ (List.mem_of_getElem? (i := 22) rfl)) (wdM_2_in _ (List.mem_of_getElem? (i := 10) rfl)) (by decide +kernel) rfl rfl (by decide) ht) dX6_away_15) ?_
  refine px_ok_cons (ps_if_ne dX6_away_18 (by decide)) ?_
  refine px_ok_cons (ps_iconst dX6_away_21 (by decide)) ?_
  refine px_ok_cons (ps_ireturn rfl dX6_away_22) ?_
  refine px_ok_cons (ps_aload_n dX6_away_23 rfl) ?_
  refine px_ok_cons (ps_callV mX6_starts (fun _ _ => rfl) (C := RX6) rfl (fun _ _ ht => px_cwV wgM (wdM_3_in _ (List.mem_of_getElem? (i := 19) rfl)) (wdM_3_in _ (List.mem_of_getElem? (i := 20) rfl)) (wdM_3_in _ (List.mem_of_getElem? (i := 21) rfl)) (wdM_0_in _ (List.mem_of_getElem? (i := 22) rfl)) (wdM_2_in _ (List.mem_of_getElem? (i := 11) rfl)) (by decide +kernel) rfl rfl (by decide) ht) dX6_away_24) ?_
  refine px_ok_cons (ps_aload_n dX6_away_27 rfl) ?_
  refine px_ok_cons (ps_aload_n dX6_away_28 rfl) ?_
  refine px_ok_cons (ps_iload_n dX6_away_29 rfl) ?_
  refine px_ok_cons (ps_iload_n dX6_away_30 rfl) ?_
  refine px_ok_cons (ps_callV mX6_oftenIn (fun _ _ => rfl) (C := RX6) rfl (fun _ _ ht => px_cwV wgM (wdM_4_in _ (List.mem_of_getElem? (i := 28) rfl)) (wdM_4_in _ (List.mem_of_getElem? (i := 29) rfl)) (wdM_4_in _ (List.mem_of_getElem? (i := 30) rfl)) (wdM_0_in _ (List.mem_of_getElem? (i := 22) rfl)) (wdM_3_in _ (List.mem_of_getElem? (i := 12) rfl)) (by decide +kernel) rfl rfl (by decide) ht) dX6_away_31) ?_
  refine px_ok_cons (ps_callV mX6_startsJudging (fun _ _ => rfl) (C := RX6) rfl (fun _ _ ht => px_cwV wgM (wdM_5_in _ (List.mem_of_getElem? (i := 1) rfl)) (wdM_5_in _ (List.mem_of_getElem? (i := 2) rfl)) (wdM_5_in _ (List.mem_of_getElem? (i := 3) rfl)) (wdM_0_in _ (List.mem_of_getElem? (i := 22) rfl)) (wdM_4_in _ (List.mem_of_getElem? (i := 35) rfl)) (by decide +kernel) rfl rfl (by decide) ht) dX6_away_34) ?_
  refine px_ok_cons (ps_iconst dX6_away_37 (by decide)) ?_
  refine px_ok_cons (ps_istore dX6_away_38 (by decide)) ?_
  refine px_ok_cons (ps_iload dX6_away_40) ?_
  refine px_ok_cons (ps_aload_n dX6_away_42 rfl) ?_
  refine px_ok_cons (fgX6_7 dX6_away_43) ?_
  refine px_ok_cons (ps_bipush dX6_away_46 (by decide)) ?_
  refine px_ok_cons (ps_iaload dX6_away_48) ?_
  refine px_ok_cons (ps_icmp_ge dX6_away_49 (by decide)) ?_
  refine px_ok_cons (ps_aload_n dX6_away_52 rfl) ?_
  refine px_ok_cons (ps_callV mX6_starts (fun _ _ => rfl) (C := RX6) rfl (fun _ _ ht => px_cwV wgM (wdM_3_in _ (List.mem_of_getElem? (i := 19) rfl)) (wdM_3_in _ (List.mem_of_getElem? (i := 20) rfl)) (wdM_3_in _ (List.mem_of_getElem? (i := 21) rfl)) (wdM_0_in _ (List.mem_of_getElem? (i := 22) rfl)) (wdM_2_in _ (List.mem_of_getElem? (i := 11) rfl)) (by decide +kernel) rfl rfl (by decide) ht) dX6_away_53) ?_
  refine px_ok_cons (ps_iload dX6_away_56) ?_
  refine px_ok_cons (ps_istore dX6_away_58 (by decide)) ?_
  refine px_ok_cons (ps_iload dX6_away_60) ?_
  refine px_ok_cons (ps_aload_n dX6_away_62 rfl) ?_
  refine px_ok_cons (fgX6_7 dX6_away_63) ?_
  refine px_ok_cons (ps_bipush dX6_away_66 (by decide)) ?_
  refine px_ok_cons (ps_iaload dX6_away_68) ?_
  refine px_ok_cons (ps_iconst dX6_away_69 (by decide)) ?_
  refine px_ok_cons (ps_isub dX6_away_70) ?_
  refine px_ok_cons (ps_icmp_ge dX6_away_71 (by decide)) ?_
  refine px_ok_cons (ps_aload_n dX6_away_74 rfl) ?_
  refine px_ok_cons (ps_iload dX6_away_75) ?_
  refine px_ok_cons (ps_iload dX6_away_77) ?_
  refine px_ok_cons (ps_iconst dX6_away_79 (by decide)) ?_
  refine px_ok_cons (ps_iadd dX6_away_80) ?_
  refine px_ok_cons (ps_callV mX6_sitsOn (fun _ _ => rfl) (C := RX6) rfl (fun _ _ ht => px_cwV wgM (wdM_5_in _ (List.mem_of_getElem? (i := 10) rfl)) (wdM_5_in _ (List.mem_of_getElem? (i := 11) rfl)) (wdM_5_in _ (List.mem_of_getElem? (i := 12) rfl)) (wdM_0_in _ (List.mem_of_getElem? (i := 22) rfl)) (wdM_5_in _ (List.mem_of_getElem? (i := 9) rfl)) (by decide +kernel) rfl rfl (by decide) ht) dX6_away_81) ?_
  refine px_ok_cons (ps_iinc dX6_away_84 (by decide) (by decide)) ?_
  refine px_ok_cons (ps_goto dX6_away_87 (by decide)) ?_
  refine px_ok_cons (ps_aload_n dX6_away_90 rfl) ?_
  refine px_ok_cons (fgX6_13 dX6_away_91) ?_
  refine px_ok_cons (ps_bipush dX6_away_94 (by decide)) ?_
  refine px_ok_cons (ps_dup2 dX6_away_96) ?_
  refine px_ok_cons (ps_iaload dX6_away_97) ?_
  refine px_ok_cons (ps_iconst dX6_away_98 (by decide)) ?_
  refine px_ok_cons (ps_isub dX6_away_99) ?_
  refine px_ok_cons (ps_iastore dX6_away_100) ?_
  refine px_ok_cons (ps_aload_n dX6_away_101 rfl) ?_
  refine px_ok_cons (ps_iload dX6_away_102) ?_
  refine px_ok_cons (ps_aload_n dX6_away_104 rfl) ?_
  refine px_ok_cons (ps_iload_n dX6_away_105 rfl) ?_
  refine px_ok_cons (ps_iload_n dX6_away_106 rfl) ?_
  refine px_ok_cons (ps_callV mX6_oftenIn (fun _ _ => rfl) (C := RX6) rfl (fun _ _ ht => px_cwV wgM (wdM_4_in _ (List.mem_of_getElem? (i := 28) rfl)) (wdM_4_in _ (List.mem_of_getElem? (i := 29) rfl)) (wdM_4_in _ (List.mem_of_getElem? (i := 30) rfl)) (wdM_0_in _ (List.mem_of_getElem? (i := 22) rfl)) (wdM_3_in _ (List.mem_of_getElem? (i := 12) rfl)) (by decide +kernel) rfl rfl (by decide) ht) dX6_away_107) ?_
  refine px_ok_cons (ps_callV mX6_judges (fun _ _ => rfl) (C := RX6) rfl (fun _ _ ht => px_cwV wgM (wdM_5_in _ (List.mem_of_getElem? (i := 4) rfl)) (wdM_5_in _ (List.mem_of_getElem? (i := 5) rfl)) (wdM_5_in _ (List.mem_of_getElem? (i := 6) rfl)) (wdM_0_in _ (List.mem_of_getElem? (i := 22) rfl)) (wdM_4_in _ (List.mem_of_getElem? (i := 38) rfl)) (by decide +kernel) rfl rfl (by decide) ht) dX6_away_110) ?_
  refine px_ok_cons (ps_iinc dX6_away_113 (by decide) (by decide)) ?_
  refine px_ok_cons (ps_goto dX6_away_116 (by decide)) ?_
  refine px_ok_cons (ps_aload_n dX6_away_119 rfl) ?_
  refine px_ok_cons (ps_iload_n dX6_away_120 rfl) ?_
  refine px_ok_cons (ps_callV mX6_judged (fun _ _ => rfl) (C := RX6) rfl (fun _ _ ht => px_cwV wgM (wdM_5_in _ (List.mem_of_getElem? (i := 13) rfl)) (wdM_5_in _ (List.mem_of_getElem? (i := 14) rfl)) (wdM_5_in _ (List.mem_of_getElem? (i := 15) rfl)) (wdM_0_in _ (List.mem_of_getElem? (i := 22) rfl)) (wdM_5_in _ (List.mem_of_getElem? (i := 8) rfl)) (by decide +kernel) rfl rfl (by decide) ht) dX6_away_121) ?_
  refine px_ok_cons (ps_ireturn rfl dX6_away_124) ?_
  exact px_ok_nil
set_option maxRecDepth 100000 in
set_option maxHeartbeats 4000000 in
theorem sgX6_away_0 {po : Int32 → px_St → Prop} {G : px_K} (hG : px_cl (opX6_away po) G) (v1 : Int32) (v2 : Int32) (v3 : Int32) (σ : px_St)
    (H : ∃ g3 : gtX6_isSound, qrX6_isSound g3 v1 σ ∧ ∀ (r1 : Int32) (σ2 : px_St), qoX6_isSound g3 v1 σ r1 σ2 → ((r1 = 0) → po (-1 : Int32) σ2) ∧ (¬ (r1 = 0) → ∃ g7 : gtX6_isFar, qrX6_isFar g7 v2 σ2 ∧ ∀ (r5 : Int32) (σ6 : px_St), qoX6_isFar g7 v2 σ2 r5 σ6 → ((r5 = 0) → po (-1 : Int32) σ6) ∧ (¬ (r5 = 0) → ∃ g11 : gtX6_isPart, qrX6_isPart g11 v3 σ6 ∧ ∀ (r9 : Int32) (σ10 : px_St), qoX6_isPart g11 v3 σ6 r9 σ10 → ((¬ r9 = 0) → ∃ g15 : gtX6_starts, qrX6_starts g15 σ10 ∧ ∀ (r13 : Unit) (σ14 : px_St), qoX6_starts g15 σ10 r13 σ14 → ∃ g19 : gtX6_oftenIn, qrX6_oftenIn g19 v1 v2 σ14 ∧ ∀ (r17 : Int32) (σ18 : px_St), qoX6_oftenIn g19 v1 v2 σ14 r17 σ18 → ∃ g23 : gtX6_startsJudging, qrX6_startsJudging g23 r17 σ18 ∧ ∀ (r21 : Unit) (σ22 : px_St), qoX6_startsJudging g23 r17 σ18 r21 σ22 → G 40 [some (.ref 0), some (.int v1), some (.int v2), some (.int v3), some (.int (0 : Int32)), none] [] σ22) ∧ (¬ (¬ r9 = 0) → po (-1 : Int32) σ10)))) :
    G 0 (px_ent 6 [.ref 0, .int v1, .int v2, .int v3]) [] σ := by
  refine hG.1 0 _ _ rfl _ _ _ ?_
  refine hG.1 1 _ _ rfl _ _ _ ?_
  obtain ⟨g3, H⟩ := H
  refine ⟨Nat.le_of_ble_eq_true rfl, Nat.le_of_ble_eq_true rfl, g3, ⟨_, rfl, H.1⟩, fun r1 σ2 hp4 => ?_⟩
  replace H := H.2 r1 σ2 hp4
  refine hG.1 2 _ _ rfl _ _ _ ?_
  refine ⟨fun h27 => ?_, fun h27 => ?_⟩
  · replace H := H.1 h27
    refine hG.1 9 _ _ rfl _ _ _ ?_
    refine hG.1 10 _ _ rfl _ _ _ ?_
    exact ⟨rfl, H⟩
  · replace H := H.2 h27
    refine hG.1 3 _ _ rfl _ _ _ ?_
    refine hG.1 4 _ _ rfl _ _ _ ?_
    obtain ⟨g7, H⟩ := H
    refine ⟨Nat.le_of_ble_eq_true rfl, Nat.le_of_ble_eq_true rfl, g7, ⟨_, rfl, H.1⟩, fun r5 σ6 hp8 => ?_⟩
    replace H := H.2 r5 σ6 hp8
    refine hG.1 5 _ _ rfl _ _ _ ?_
    refine ⟨fun h26 => ?_, fun h26 => ?_⟩
    · replace H := H.1 h26
      refine hG.1 9 _ _ rfl _ _ _ ?_
      refine hG.1 10 _ _ rfl _ _ _ ?_
      exact ⟨rfl, H⟩
    · replace H := H.2 h26
      refine hG.1 6 _ _ rfl _ _ _ ?_
      refine hG.1 7 _ _ rfl _ _ _ ?_
      obtain ⟨g11, H⟩ := H
      refine ⟨Nat.le_of_ble_eq_true rfl, Nat.le_of_ble_eq_true rfl, g11, ⟨_, rfl, H.1⟩, fun r9 σ10 hp12 => ?_⟩
      replace H := H.2 r9 σ10 hp12
      refine hG.1 8 _ _ rfl _ _ _ ?_
      refine ⟨fun h25 => ?_, fun h25 => ?_⟩
      · replace H := H.1 h25
        refine hG.1 11 _ _ rfl _ _ _ ?_
        refine hG.1 12 _ _ rfl _ _ _ ?_
        obtain ⟨g15, H⟩ := H
        refine ⟨⟨rfl, by decide⟩, Nat.le_of_ble_eq_true rfl, g15, ⟨rfl, H.1⟩, fun r13 σ14 hp16 => ?_⟩
        replace H := H.2 r13 σ14 hp16
        refine hG.1 13 _ _ rfl _ _ _ ?_
        refine hG.1 14 _ _ rfl _ _ _ ?_
        refine hG.1 15 _ _ rfl _ _ _ ?_
        refine hG.1 16 _ _ rfl _ _ _ ?_
        refine hG.1 17 _ _ rfl _ _ _ ?_
        obtain ⟨g19, H⟩ := H
        refine ⟨⟨rfl, by decide⟩, Nat.le_of_ble_eq_true rfl, g19, ⟨_, _, rfl, H.1⟩, fun r17 σ18 hp20 => ?_⟩
        replace H := H.2 r17 σ18 hp20
        refine hG.1 18 _ _ rfl _ _ _ ?_
        obtain ⟨g23, H⟩ := H
        refine ⟨⟨rfl, by decide⟩, Nat.le_of_ble_eq_true rfl, g23, ⟨_, rfl, H.1⟩, fun r21 σ22 hp24 => ?_⟩
        replace H := H.2 r21 σ22 hp24
        refine hG.1 19 _ _ rfl _ _ _ ?_
        refine hG.1 20 _ _ rfl _ _ _ ?_
        show G 40 [some (.ref 0), some (.int v1), some (.int v2), some (.int v3), some (.int (0 : Int32)), none] [] σ22
        exact H
      · replace H := H.2 h25
        refine hG.1 9 _ _ rfl _ _ _ ?_
        refine hG.1 10 _ _ rfl _ _ _ ?_
        exact ⟨rfl, H⟩
set_option maxRecDepth 100000 in
set_option maxHeartbeats 4000000 in
theorem sgX6_away_40 {po : Int32 → px_St → Prop} {G : px_K} (hG : px_cl (opX6_away po) G) (v1 : Int32) (v2 : Int32) (v3 : Int32) (v4 : Int32) (σ : px_St)
    (H : vp_in (45 : Int32) 183 ∧ (((σ.1 1 (45 : Int32).toNatClampNeg) ≤ v4) → ∃ g3 : gtX6_judged, qrX6_judged g3 v3 σ ∧ ∀ (r1 : Int32) (σ2 : px_St), qoX6_judged g3 v3 σ r1 σ2 → po r1 σ2) ∧ (¬ ((σ.1 1 (45 : Int32).toNatClampNeg) ≤ v4) → ∃ g7 : gtX6_starts, qrX6_starts g7 σ ∧ ∀ (r5 : Unit) (σ6 : px_St), qoX6_starts g7 σ r5 σ6 → G 60 [some (.ref 0), some (.int v1), some (.int v2), some (.int v3), some (.int v4), some (.int v4)] [] σ6)) :
    G 40 [some (.ref 0), some (.int v1), some (.int v2), some (.int v3), some (.int v4), none] [] σ := by
  refine hG.1 21 _ _ rfl _ _ _ ?_
  refine hG.1 22 _ _ rfl _ _ _ ?_
  refine hG.1 23 _ _ rfl _ _ _ ?_
  refine ⟨⟨rfl, by decide⟩, ?_⟩
  refine hG.1 24 _ _ rfl _ _ _ ?_
  refine hG.1 25 _ _ rfl _ _ _ ?_
  refine ⟨⟨rfl, by decide⟩, H.1, ?_⟩
  replace H := H.2
  refine hG.1 26 _ _ rfl _ _ _ ?_
  refine ⟨fun h9 => ?_, fun h9 => ?_⟩
  · replace H := H.1 h9
    refine hG.1 64 _ _ rfl _ _ _ ?_
    refine hG.1 65 _ _ rfl _ _ _ ?_
    refine hG.1 66 _ _ rfl _ _ _ ?_
    obtain ⟨g3, H⟩ := H
    refine ⟨⟨rfl, by decide⟩, Nat.le_of_ble_eq_true rfl, g3, ⟨_, rfl, H.1⟩, fun r1 σ2 hp4 => ?_⟩
    replace H := H.2 r1 σ2 hp4
    refine hG.1 67 _ _ rfl _ _ _ ?_
    exact ⟨rfl, H⟩
  · replace H := H.2 h9
    refine hG.1 27 _ _ rfl _ _ _ ?_
    refine hG.1 28 _ _ rfl _ _ _ ?_
    obtain ⟨g7, H⟩ := H
    refine ⟨⟨rfl, by decide⟩, Nat.le_of_ble_eq_true rfl, g7, ⟨rfl, H.1⟩, fun r5 σ6 hp8 => ?_⟩
    replace H := H.2 r5 σ6 hp8
    refine hG.1 29 _ _ rfl _ _ _ ?_
    refine hG.1 30 _ _ rfl _ _ _ ?_
    show G 60 [some (.ref 0), some (.int v1), some (.int v2), some (.int v3), some (.int v4), some (.int v4)] [] σ6
    exact H
set_option maxRecDepth 100000 in
set_option maxHeartbeats 4000000 in
theorem sgX6_away_60 {po : Int32 → px_St → Prop} {G : px_K} (hG : px_cl (opX6_away po) G) (v1 : Int32) (v2 : Int32) (v3 : Int32) (v4 : Int32) (v5 : Int32) (σ : px_St)
    (H : vp_in (45 : Int32) 183 ∧ ((((σ.1 1 (45 : Int32).toNatClampNeg) - (1 : Int32)) ≤ v5) → vp_in (45 : Int32) 61 ∧ vp_in (45 : Int32) 61 ∧ ∃ g3 : gtX6_oftenIn, qrX6_oftenIn g3 v1 v2 (px_up σ 2 (45 : Int32).toNatClampNeg ((σ.1 2 (45 : Int32).toNatClampNeg) - (1 : Int32))) ∧ ∀ (r1 : Int32) (σ2 : px_St), qoX6_oftenIn g3 v1 v2 (px_up σ 2 (45 : Int32).toNatClampNeg ((σ.1 2 (45 : Int32).toNatClampNeg) - (1 : Int32))) r1 σ2 → ∃ g7 : gtX6_judges, qrX6_judges g7 v4 r1 σ2 ∧ ∀ (r5 : Unit) (σ6 : px_St), qoX6_judges g7 v4 r1 σ2 r5 σ6 → G 40 [some (.ref 0), some (.int v1), some (.int v2), some (.int v3), some (.int (v4 + 1)), none] [] σ6) ∧ (¬ (((σ.1 1 (45 : Int32).toNatClampNeg) - (1 : Int32)) ≤ v5) → ∃ g11 : gtX6_sitsOn, qrX6_sitsOn g11 v5 (v5 + (1 : Int32)) σ ∧ ∀ (r9 : Unit) (σ10 : px_St), qoX6_sitsOn g11 v5 (v5 + (1 : Int32)) σ r9 σ10 → G 60 [some (.ref 0), some (.int v1), some (.int v2), some (.int v3), some (.int v4), some (.int (v5 + 1))] [] σ10)) :
    G 60 [some (.ref 0), some (.int v1), some (.int v2), some (.int v3), some (.int v4), some (.int v5)] [] σ := by
  refine hG.1 31 _ _ rfl _ _ _ ?_
  refine hG.1 32 _ _ rfl _ _ _ ?_
  refine hG.1 33 _ _ rfl _ _ _ ?_
  refine ⟨⟨rfl, by decide⟩, ?_⟩
  refine hG.1 34 _ _ rfl _ _ _ ?_
  refine hG.1 35 _ _ rfl _ _ _ ?_
  refine ⟨⟨rfl, by decide⟩, H.1, ?_⟩
  replace H := H.2
  refine hG.1 36 _ _ rfl _ _ _ ?_
  refine hG.1 37 _ _ rfl _ _ _ ?_
  refine hG.1 38 _ _ rfl _ _ _ ?_
  refine ⟨fun h13 => ?_, fun h13 => ?_⟩
  · replace H := H.1 h13
    refine hG.1 47 _ _ rfl _ _ _ ?_
    refine hG.1 48 _ _ rfl _ _ _ ?_
    refine ⟨⟨rfl, by decide⟩, ?_⟩
    refine hG.1 49 _ _ rfl _ _ _ ?_
    refine hG.1 50 _ _ rfl _ _ _ ?_
    refine hG.1 51 _ _ rfl _ _ _ ?_
    refine ⟨⟨rfl, by decide⟩, H.1, ?_⟩
    replace H := H.2
    refine hG.1 52 _ _ rfl _ _ _ ?_
    refine hG.1 53 _ _ rfl _ _ _ ?_
    refine hG.1 54 _ _ rfl _ _ _ ?_
    refine ⟨⟨rfl, by decide⟩, H.1, ?_⟩
    replace H := H.2
    refine hG.1 55 _ _ rfl _ _ _ ?_
    refine hG.1 56 _ _ rfl _ _ _ ?_
    refine hG.1 57 _ _ rfl _ _ _ ?_
    refine hG.1 58 _ _ rfl _ _ _ ?_
    refine hG.1 59 _ _ rfl _ _ _ ?_
    refine hG.1 60 _ _ rfl _ _ _ ?_
    obtain ⟨g3, H⟩ := H
    refine ⟨⟨rfl, by decide⟩, Nat.le_of_ble_eq_true rfl, g3, ⟨_, _, rfl, H.1⟩, fun r1 σ2 hp4 => ?_⟩
    replace H := H.2 r1 σ2 hp4
    refine hG.1 61 _ _ rfl _ _ _ ?_
    obtain ⟨g7, H⟩ := H
    refine ⟨⟨rfl, by decide⟩, Nat.le_of_ble_eq_true rfl, g7, ⟨_, _, rfl, H.1⟩, fun r5 σ6 hp8 => ?_⟩
    replace H := H.2 r5 σ6 hp8
    refine hG.1 62 _ _ rfl _ _ _ ?_
    show G 116 [some (.ref 0), some (.int v1), some (.int v2), some (.int v3), some (.int (v4 + 1)), some (.int v5)] [] σ6
    refine hG.1 63 _ _ rfl _ _ _ ?_
    refine hG.2 40 [some (.ref 0), some (.int v1), some (.int v2), some (.int v3), some (.int (v4 + 1)), none] _ _ _ ⟨rfl, rfl, rfl, rfl, rfl, trivial⟩ ?_
    exact H
  · replace H := H.2 h13
    refine hG.1 39 _ _ rfl _ _ _ ?_
    refine hG.1 40 _ _ rfl _ _ _ ?_
    refine hG.1 41 _ _ rfl _ _ _ ?_
    refine hG.1 42 _ _ rfl _ _ _ ?_
    refine hG.1 43 _ _ rfl _ _ _ ?_
    refine hG.1 44 _ _ rfl _ _ _ ?_
    obtain ⟨g11, H⟩ := H
    refine ⟨⟨rfl, by decide⟩, Nat.le_of_ble_eq_true rfl, g11, ⟨_, _, rfl, H.1⟩, fun r9 σ10 hp12 => ?_⟩
    replace H := H.2 r9 σ10 hp12
    refine hG.1 45 _ _ rfl _ _ _ ?_
    show G 87 [some (.ref 0), some (.int v1), some (.int v2), some (.int v3), some (.int v4), some (.int (v5 + 1))] [] σ10
    refine hG.1 46 _ _ rfl _ _ _ ?_
    exact H
set_option maxRecDepth 100000 in
set_option maxHeartbeats 4000000 in
theorem hhX6_away (g : gtX6_away) (v1 : Int32) (v2 : Int32) (v3 : Int32) (σ : px_St) (h : qrX6_away g v1 v2 v3 σ) (G : px_K) (hG : px_cl (opX6_away (qoX6_away g v1 v2 v3 σ)) G) : G 0 (px_ent 6 [.ref 0, .int v1, .int v2, .int v3]) [] σ := by
  obtain ⟨hX, hok⟩ := h
  have hd := hok.1.2
  have hvk := hok.1.1
  have h5 := hvk.1.1
  refine sgX6_away_0 hG _ _ _ σ ⟨(), trivial, fun r1 σ1 h1 => ?_⟩
  obtain ⟨rfl, b1⟩ := h1
  refine bz2 b1 (fun z => ⟨(), trivial, fun r2 σ2 h2 => ?_⟩) (fun z => ?_)
  · obtain ⟨rfl, b2⟩ := h2
    refine bz2 b2 (fun y => ⟨(), trivial, fun r3 σ3 h3 => ?_⟩) (fun y => ?_)
    · obtain ⟨rfl, b3⟩ := h3
      refine bz1 b3 (fun x => ⟨(), trivial, fun _ σ4 h4 => ?_⟩) (fun x => ?_)
      · obtain ⟨s, hs, rfl⟩ := (rngc 9 9 rfl (by omega)).mp z
        obtain ⟨n, hn, rfl⟩ := (rngc 60 60 rfl (by omega)).mp y
        obtain ⟨f, hf⟩ : ∃ f : Nat → Nat, f = fun p => pv_times (pv_off g.1 p) s n := ⟨_, rfl⟩
        have ex : (x_away g (nI s) (nI n) v3) = (pv_choice (pv_bmin f (pv_times g.1 s n) g.1.1).1 (nI (pv_bmin f (pv_times g.1 s n) g.1.1).2) v3, g) := by
          unfold x_away
          rw [xif_t ⟨z, y, x⟩, nI_clamp (by omega), nI_clamp (by omega), hf]
        have hfl : ∀ j, f j < 100 := fun j => by
          rw [hf]
          have := pv_times_le (pv_off g.1 j) s n
          show pv_times (pv_off g.1 j) s n < 100
          omega
        have hbl : ∀ k, (pv_bmin f (pv_times g.1 s n) k).2 < 100 := fun k => pv_bmin_lt (by have := pv_times_le g.1 s n; omega) k (fun j _ => hfl j)
        refine ⟨(g.1, s, n), ⟨starts_mv h4 hX.1 hvk.1, hvk, by omega, by omega, rfl, rfl⟩, fun r5 σ5 h5' => ⟨(), trivial, fun _ σ6 h6 => ?_⟩⟩
        obtain ⟨rfl, q3⟩ := h5'
        obtain ⟨j6, k6⟩ := jd_start h6
        have loop : ∀ m k, k + m = g.1.1 → ∀ σ', mk σ3 σ' → jd σ' (pv_bmin f (pv_times g.1 s n) k).1 (nI (pv_bmin f (pv_times g.1 s n) k).2) → G 40 [some (.ref 0), some (.int (nI s)), some (.int (nI n)), some (.int v3), some (.int (nI k)), none] [] σ' := by
          intro m
          induction m with
          | zero =>
            intro k hk σ' ho hj
            have e : k = g.1.1 := by omega
            subst e
            have hX' := ho.mo hX
            refine sgX6_away_40 hG _ _ _ _ σ' ?_
            rw [c45, hX'.1.1.1]
            refine ⟨i45, fun _ => ⟨(), trivial, fun r σa ha => ?_⟩, fun q => absurd (Int32.le_refl _) q⟩
            obtain ⟨rfl, rfl⟩ := ha
            unfold qoX6_away
            rw [ex, hj.1, hj.2]
            exact ⟨rfl, hX'⟩
          | succ m ih =>
            intro k hk σ' ho hj
            have hX' := ho.mo hX
            have hkg : k < g.1.1 := by omega
            refine sgX6_away_40 hG _ _ _ _ σ' ?_
            rw [c45, hX'.1.1.1]
            refine ⟨i45, fun q => absurd q (nI_ge (by omega) (by omega)), fun _ => ⟨(), trivial, fun _ σa ha => ?_⟩⟩
            have inner : ∀ l q, q + l = g.1.1 - 1 → k ≤ q → ∀ τ, (∀ i, i ≠ 2 → τ.1 i = σ'.1 i) → (∀ j, j < 61 → τ.1 2 j = if 9 * k ≤ j ∧ j < 9 * q then σ'.1 1 (j + 9) else σ'.1 1 j) → G 60 [some (.ref 0), some (.int (nI s)), some (.int (nI n)), some (.int v3), some (.int (nI k)), some (.int (nI q))] [] τ := by
              intro l
              induction l with
              | zero =>
                intro q hq hkq τ ht h2
                have e : q = g.1.1 - 1 := by omega
                subst e
                refine sgX6_away_60 hG _ _ _ _ _ τ ?_
                have e45 : τ.1 2 45 - 1 = nI (g.1.1 - 1) := by
                  rw [h2 45 (by omega), if_neg (by omega), hX'.1.1.1]
                  exact pk_sub (b := 1) (by omega)
                rw [c45, ht 1 (by omega), hX'.1.1.1, e45, nI_1, show nI g.1.1 - 1 = nI (g.1.1 - 1) from pk_sub (b := 1) (by omega)]
                have hV2 : mv_is ((px_up τ 2 45 (nI (g.1.1 - 1))).1 2) (pv_off g.1 k) := by
                  refine mv_off hX'.1 hvk.1 hkg ?_ (fun j hj hj2 => ?_)
                  · rw [px_up_at, if_pos ⟨rfl, rfl⟩]
                  · rw [px_up_at, if_neg (by omega), h2 j (by omega)]
                refine ⟨i45, fun _ => ⟨i61 45 rfl (by omega), i61 45 rfl (by omega), (pv_off g.1 k, s, n), ⟨hV2, pv_off_ok hvk hkg, Nat.lt_of_le_of_lt hd (by omega), by omega, rfl, rfl⟩, fun rc σc hc => ⟨(), trivial, fun _ σd hd' => ?_⟩⟩, fun q => absurd (Int32.le_refl _) q⟩
                obtain ⟨rfl, c2⟩ := hc
                have hkt : mk σ' τ := mk.of2 ht
                have hjc : jd σc _ _ := hj.kept (((c2.1 0 (by omega)).trans (px_up_n (by omega))).trans (ht 0 (by omega)))
                obtain ⟨⟨d1, d2⟩, d3⟩ := jd_judge hd' hjc
                have hod := (((ho.tr hkt).tr mk.up2).tr c2.mk).tr d3
                have e := ih (k + 1) (by omega) σd hod
                have ef : pv_times (pv_off g.1 k) s n = f k := by rw [hf]
                have cl : nI (f k) < nI (pv_bmin f (pv_times g.1 s n) k).2 ↔ f k < (pv_bmin f (pv_times g.1 s n) k).2 := nIlt _ _ rfl rfl (by have := hfl k; omega) (by have := hbl k; omega)
                rw [ef, cl] at d1 d2
                refine e ?_
                rw [pv_bmin]
                by_cases hlt : f k < (pv_bmin f (pv_times g.1 s n) k).2
                · rw [if_pos hlt]; exact d1 hlt
                · rw [if_neg hlt]; exact d2 hlt
              | succ l ihl =>
                intro q hq hkq τ ht h2
                refine sgX6_away_60 hG _ _ _ _ _ τ ?_
                rw [c45, ht 1 (by omega), hX'.1.1.1, show nI g.1.1 - 1 = nI (g.1.1 - 1) from pk_sub (b := 1) (by omega), show nI q + 1 = nI (q + 1) from nI_1 q]
                refine ⟨i45, fun q => absurd q (nI_ge (by omega) (by omega)), fun _ => ⟨(q, q + 1), ⟨by omega, by omega, rfl, rfl⟩, fun _ σc hc => ?_⟩⟩
                obtain ⟨c1, c2, c3⟩ := hc
                refine ihl (q + 1) (by omega) (by omega) σc (fun i hi => (c1 i hi).trans (ht i hi)) (fun j hj2 => ?_)
                rw [c3 j]
                show (if 9 * q ≤ j ∧ j < 9 * q + 9 then τ.1 1 (9 * (q + 1) + (j - 9 * q)) else τ.1 2 j) = _
                by_cases hin : 9 * q ≤ j ∧ j < 9 * q + 9
                · rw [if_pos hin, if_pos (by omega), ht 1 (by omega), show 9 * (q + 1) + (j - 9 * q) = j + 9 by omega]
                · rw [if_neg hin, h2 j hj2]
                  by_cases h3 : 9 * k ≤ j ∧ j < 9 * q
                  · rw [if_pos h3, if_pos (by omega)]
                  · rw [if_neg h3, if_neg (by omega)]
            exact inner (g.1.1 - 1 - k) k (by omega) (Nat.le_refl k) σa ha.1 (fun j hj2 => by rw [ha.2.2 j hj2, if_neg (by omega)])
        exact loop g.1.1 0 (by omega) σ6 (((starts_mk h4).tr q3.mk).tr k6) j6
      · unfold qoX6_away x_away
        rw [xif_f (fun q => x q.2.2)]
        exact ⟨rfl, hX⟩
    · unfold qoX6_away x_away
      rw [xif_f (fun q => y q.2.1)]
      exact ⟨rfl, hX⟩
  · unfold qoX6_away x_away
    rw [xif_f (fun q => z q.1)]
    exact ⟨rfl, hX⟩
theorem mX6_away (g : gtX6_away) : px_Met dM yX6_away (Cond.code yX6_away cX6_away 6 (some .int) :: wdM) rmX6_away px_vI (prX6_away g) (poX6_away g) :=
  px_met (Z := (cX6_away, 6, RX6, Cond.code yX6_away cX6_away 6 (some .int) :: wdM, (some .int), rmX6_away, dM)) opX6_away (by decide) rfl rfl okX6_away (fun As σ h => by obtain ⟨v1, v2, v3, rfl, h⟩ := h; exact Nat.le_of_ble_eq_true rfl) (fun As σ h G hG => by obtain ⟨v1, v2, v3, rfl, h⟩ := h; exact hhX6_away g v1 v2 v3 σ h G hG)
theorem sits_mv {f f' st : Nat → Int32} {V : pv_V} {p q : Nat} {P : pv_P} (hV : mv_is f V) (hw : ∀ q, q < V.1 → (V.2.2.2 q).2.2.length ≤ 6) (hp : p < 5) (hP : mv_par st q P) (hl : P.2.2.length ≤ 6) (e : ∀ j, f' j = if 9 * p ≤ j ∧ j < 9 * p + 9 then st (9 * q + (j - 9 * p)) else f j) : mv_is f' (pv_at V p P) := by
  refine mv_mod hV hw hp (fun j hj => by rw [e j, if_neg (by omega)]) ?_
  obtain ⟨g1, g2, g3, g4⟩ := hP
  refine ⟨?_, ?_, ?_, fun i x hx => ?_⟩
  · rw [e, if_pos (by omega), show 9 * q + (9 * p - 9 * p) = 9 * q by omega]; exact g1
  · rw [e, if_pos (by omega), show 9 * q + (9 * p + 1 - 9 * p) = 9 * q + 1 by omega]; exact g2
  · rw [e, if_pos (by omega), show 9 * q + (9 * p + 2 - 9 * p) = 9 * q + 2 by omega]; exact g3
  · have hlt := (List.getElem?_eq_some_iff.mp hx).1
    rw [e, if_pos (by omega), show 9 * q + (9 * p + 3 + i - 9 * p) = 9 * q + 3 + i by omega]; exact g4 i x hx
/-- how far, as the reference has it -/
def frn (m : Nat) : Int32 := if m ≤ 60 then nI m else 1000000
theorem frn_lt : ∀ a, a < 62 → ∀ b, b < 62 → (frn a < frn b ↔ a < b) := by decide +kernel
theorem swi_4 (V : pv_V) (s p : Nat) (x : Int32 × Nat) (hx : x.1 = -4 ∨ x.2 ≤ 60) (hx2 : x.2 ≤ 61) (m : Nat) : (pv_swi V s p x m).1 = -4 ∨ (pv_swi V s p x m).2 ≤ 60 := by
  induction m with
  | zero => exact hx
  | succ m ih =>
    have h1 := pv_swi_le V s p x hx2 m
    rw [pv_swi]
    by_cases h : pv_ff (pv_swp V p (p + 1 + m)) s 61 0 < (pv_swi V s p x m).2
    · rw [if_pos h]; right; show pv_ff (pv_swp V p (p + 1 + m)) s 61 0 ≤ 60; omega
    · rw [if_neg h]; exact ih
theorem swo_4 (V : pv_V) (s k : Nat) : (pv_swo V s k).1 = -4 ∨ (pv_swo V s k).2 ≤ 60 := by
  induction k with
  | zero => exact Or.inl rfl
  | succ k ih => rw [pv_swo]; exact swi_4 V s k _ ih (pv_swo_le V s k) _
theorem ff_r (m : Nat) : ((if m ≤ 60 then nI m else (-4 : Int32)) = -4 ↔ 60 < m) := by
  by_cases h : m ≤ 60
  · rw [if_pos h]
    have : ∀ k, k ≤ 60 → ¬ nI k = -4 := by decide +kernel
    exact ⟨fun e => absurd e (this m h), fun e => by omega⟩
  · rw [if_neg h]; exact ⟨fun _ => by omega, fun _ => rfl⟩
abbrev gtX6_swap : Type := pv_X
def qrX6_swap (X : pv_X) (_ _ : Int32) (σ : px_St) : Prop := mo_is σ X ∧ xo X
def qoX6_swap (X : pv_X) (s w : Int32) (_ : px_St) (r : Int32) (σ' : px_St) : Prop := r = (x_swap X s w).1 ∧ mo_is σ' (x_swap X s w).2
def prX6_swap (g : gtX6_swap) : List Value → px_St → Prop := fun As σ => ∃ v1 : Int32, ∃ v2 : Int32, As = [.ref 0, .int v1, .int v2] ∧ qrX6_swap g v1 v2 σ
def poX6_swap (g : gtX6_swap) : List Value → px_St → Int32 → px_St → Prop
  | [.ref _, .int v1, .int v2], σ, r, σ' => qoX6_swap g v1 v2 σ r σ'
  | _, _, _, _ => False
theorem dX6_swap_0 : decode cX6_swap 0 = .ok (.iload_n 1, 1) := by decide +kernel
theorem dX6_swap_1 : decode cX6_swap 1 = .ok (.invokestatic 175, 3) := by decide +kernel
theorem dX6_swap_4 : decode cX6_swap 4 = .ok (.ifCond .eq 10, 3) := by decide +kernel
theorem dX6_swap_7 : decode cX6_swap 7 = .ok (.iload_n 2, 1) := by decide +kernel
theorem dX6_swap_8 : decode cX6_swap 8 = .ok (.invokestatic 219, 3) := by decide +kernel
theorem dX6_swap_11 : decode cX6_swap 11 = .ok (.ifCond .ne 5, 3) := by decide +kernel
theorem dX6_swap_14 : decode cX6_swap 14 = .ok (.iconst (-1), 1) := by decide +kernel
theorem dX6_swap_15 : decode cX6_swap 15 = .ok (.ireturn, 1) := by decide +kernel
theorem dX6_swap_16 : decode cX6_swap 16 = .ok (.aload_n 0, 1) := by decide +kernel
theorem dX6_swap_17 : decode cX6_swap 17 = .ok (.invokevirtual 163, 3) := by decide +kernel
theorem dX6_swap_20 : decode cX6_swap 20 = .ok (.aload_n 0, 1) := by decide +kernel
theorem dX6_swap_21 : decode cX6_swap 21 = .ok (.iload_n 1, 1) := by decide +kernel
theorem dX6_swap_22 : decode cX6_swap 22 = .ok (.invokevirtual 205, 3) := by decide +kernel
theorem dX6_swap_25 : decode cX6_swap 25 = .ok (.istore_n 3, 1) := by decide +kernel
theorem dX6_swap_26 : decode cX6_swap 26 = .ok (.aload_n 0, 1) := by decide +kernel
theorem dX6_swap_27 : decode cX6_swap 27 = .ok (.iload_n 3, 1) := by decide +kernel
theorem dX6_swap_28 : decode cX6_swap 28 = .ok (.bipush (-4), 2) := by decide +kernel
theorem dX6_swap_30 : decode cX6_swap 30 = .ok (.if_icmp .ne 8, 3) := by decide +kernel
theorem dX6_swap_33 : decode cX6_swap 33 = .ok (.ldc 234, 2) := by decide +kernel
theorem dX6_swap_35 : decode cX6_swap 35 = .ok (.goto 4, 3) := by decide +kernel
theorem dX6_swap_38 : decode cX6_swap 38 = .ok (.iload_n 3, 1) := by decide +kernel
theorem dX6_swap_39 : decode cX6_swap 39 = .ok (.invokevirtual 222, 3) := by decide +kernel
theorem dX6_swap_42 : decode cX6_swap 42 = .ok (.iconst 0, 1) := by decide +kernel
theorem dX6_swap_43 : decode cX6_swap 43 = .ok (.istore 4, 2) := by decide +kernel
theorem dX6_swap_45 : decode cX6_swap 45 = .ok (.iload 4, 2) := by decide +kernel
theorem dX6_swap_47 : decode cX6_swap 47 = .ok (.aload_n 0, 1) := by decide +kernel
theorem dX6_swap_48 : decode cX6_swap 48 = .ok (.getfield 7, 3) := by decide +kernel
theorem dX6_swap_51 : decode cX6_swap 51 = .ok (.bipush 45, 2) := by decide +kernel
theorem dX6_swap_53 : decode cX6_swap 53 = .ok (.iaload, 1) := by decide +kernel
theorem dX6_swap_54 : decode cX6_swap 54 = .ok (.if_icmp .ge 86, 3) := by decide +kernel
theorem dX6_swap_57 : decode cX6_swap 57 = .ok (.iload 4, 2) := by decide +kernel
theorem dX6_swap_59 : decode cX6_swap 59 = .ok (.iconst 1, 1) := by decide +kernel
theorem dX6_swap_60 : decode cX6_swap 60 = .ok (.iadd, 1) := by decide +kernel
theorem dX6_swap_61 : decode cX6_swap 61 = .ok (.istore 5, 2) := by decide +kernel
theorem dX6_swap_63 : decode cX6_swap 63 = .ok (.iload 5, 2) := by decide +kernel
theorem dX6_swap_65 : decode cX6_swap 65 = .ok (.aload_n 0, 1) := by decide +kernel
theorem dX6_swap_66 : decode cX6_swap 66 = .ok (.getfield 7, 3) := by decide +kernel
theorem dX6_swap_69 : decode cX6_swap 69 = .ok (.bipush 45, 2) := by decide +kernel
theorem dX6_swap_71 : decode cX6_swap 71 = .ok (.iaload, 1) := by decide +kernel
theorem dX6_swap_72 : decode cX6_swap 72 = .ok (.if_icmp .ge 62, 3) := by decide +kernel
theorem dX6_swap_75 : decode cX6_swap 75 = .ok (.aload_n 0, 1) := by decide +kernel
theorem dX6_swap_76 : decode cX6_swap 76 = .ok (.invokevirtual 163, 3) := by decide +kernel
theorem dX6_swap_79 : decode cX6_swap 79 = .ok (.aload_n 0, 1) := by decide +kernel
theorem dX6_swap_80 : decode cX6_swap 80 = .ok (.iload 4, 2) := by decide +kernel
theorem dX6_swap_82 : decode cX6_swap 82 = .ok (.iload 5, 2) := by decide +kernel
theorem dX6_swap_84 : decode cX6_swap 84 = .ok (.invokevirtual 228, 3) := by decide +kernel
theorem dX6_swap_87 : decode cX6_swap 87 = .ok (.aload_n 0, 1) := by decide +kernel
theorem dX6_swap_88 : decode cX6_swap 88 = .ok (.iload 5, 2) := by decide +kernel
theorem dX6_swap_90 : decode cX6_swap 90 = .ok (.iload 4, 2) := by decide +kernel
theorem dX6_swap_92 : decode cX6_swap 92 = .ok (.invokevirtual 228, 3) := by decide +kernel
theorem dX6_swap_95 : decode cX6_swap 95 = .ok (.aload_n 0, 1) := by decide +kernel
theorem dX6_swap_96 : decode cX6_swap 96 = .ok (.iload_n 1, 1) := by decide +kernel
theorem dX6_swap_97 : decode cX6_swap 97 = .ok (.invokevirtual 205, 3) := by decide +kernel
theorem dX6_swap_100 : decode cX6_swap 100 = .ok (.istore 6, 2) := by decide +kernel
theorem dX6_swap_102 : decode cX6_swap 102 = .ok (.aload_n 0, 1) := by decide +kernel
theorem dX6_swap_103 : decode cX6_swap 103 = .ok (.bipush 10, 2) := by decide +kernel
theorem dX6_swap_105 : decode cX6_swap 105 = .ok (.iload 4, 2) := by decide +kernel
theorem dX6_swap_107 : decode cX6_swap 107 = .ok (.imul, 1) := by decide +kernel
theorem dX6_swap_108 : decode cX6_swap 108 = .ok (.iload 5, 2) := by decide +kernel
theorem dX6_swap_110 : decode cX6_swap 110 = .ok (.iadd, 1) := by decide +kernel
theorem dX6_swap_111 : decode cX6_swap 111 = .ok (.iload 6, 2) := by decide +kernel
theorem dX6_swap_113 : decode cX6_swap 113 = .ok (.bipush (-4), 2) := by decide +kernel
theorem dX6_swap_115 : decode cX6_swap 115 = .ok (.if_icmp .ne 8, 3) := by decide +kernel
theorem dX6_swap_118 : decode cX6_swap 118 = .ok (.ldc 234, 2) := by decide +kernel
theorem dX6_swap_120 : decode cX6_swap 120 = .ok (.goto 5, 3) := by decide +kernel
theorem dX6_swap_123 : decode cX6_swap 123 = .ok (.iload 6, 2) := by decide +kernel
theorem dX6_swap_125 : decode cX6_swap 125 = .ok (.invokevirtual 225, 3) := by decide +kernel
theorem dX6_swap_128 : decode cX6_swap 128 = .ok (.iinc 5 1, 3) := by decide +kernel
theorem dX6_swap_131 : decode cX6_swap 131 = .ok (.goto (-68), 3) := by decide +kernel
theorem dX6_swap_134 : decode cX6_swap 134 = .ok (.iinc 4 1, 3) := by decide +kernel
theorem dX6_swap_137 : decode cX6_swap 137 = .ok (.goto (-92), 3) := by decide +kernel
theorem dX6_swap_140 : decode cX6_swap 140 = .ok (.aload_n 0, 1) := by decide +kernel
theorem dX6_swap_141 : decode cX6_swap 141 = .ok (.iload_n 2, 1) := by decide +kernel
theorem dX6_swap_142 : decode cX6_swap 142 = .ok (.invokevirtual 231, 3) := by decide +kernel
theorem dX6_swap_145 : decode cX6_swap 145 = .ok (.ireturn, 1) := by decide +kernel
abbrev rmX6_swap : Room := { frames := 5, cells := 0, slots := 0, locals := 115 }
def opX6_swap (po : Int32 → px_St → Prop) : List (Nat × px_Op) := [
  (0, px_il 1 1),
  (1, px_callS 4 1 px_vI prX6_isSound poX6_isSound),
  (4, px_if 7 14 (fun x => x = 0)),
  (7, px_il 8 2),
  (8, px_callS 11 1 px_vI prX6_isPart poX6_isPart),
  (11, px_if 14 16 (fun x => ¬ x = 0)),
  (14, px_push 15 (.int (-1))),
  (15, px_iret (.int) po),
  (16, px_al 17 0),
  (17, px_callV dM 20 6 0 px_vV prX6_starts poX6_starts),
  (20, px_al 21 0),
  (21, px_il 22 1),
  (22, px_callV dM 25 6 1 px_vI prX6_firstOf poX6_firstOf),
  (25, px_is 26 3),
  (26, px_al 27 0),
  (27, px_il 28 3),
  (28, px_push 30 (.int (-4))),
  (30, px_ic 33 38 (fun x y => ¬ x = y)),
  (33, px_push 35 (.int 1000000)),
  (35, px_go 39),
  (38, px_il 39 3),
  (39, px_callV dM 42 6 1 px_vV prX6_startsJudging poX6_startsJudging),
  (42, px_push 43 (.int 0)),
  (43, px_is 45 4),
  (45, px_il 47 4),
  (47, px_al 48 0),
  (48, px_get dM 51 6 0),
  (51, px_push 53 (.int 45)),
  (53, px_ald dM 54 0),
  (54, px_ic 57 140 (fun x y => y ≤ x)),
  (57, px_il 59 4),
  (59, px_push 60 (.int 1)),
  (60, px_bin 61 (fun x y => x + y)),
  (61, px_is 63 5),
  (63, px_il 65 5),
  (65, px_al 66 0),
  (66, px_get dM 69 6 0),
  (69, px_push 71 (.int 45)),
  (71, px_ald dM 72 0),
  (72, px_ic 75 134 (fun x y => y ≤ x)),
  (75, px_al 76 0),
  (76, px_callV dM 79 6 0 px_vV prX6_starts poX6_starts),
  (79, px_al 80 0),
  (80, px_il 82 4),
  (82, px_il 84 5),
  (84, px_callV dM 87 6 2 px_vV prX6_sitsOn poX6_sitsOn),
  (87, px_al 88 0),
  (88, px_il 90 5),
  (90, px_il 92 4),
  (92, px_callV dM 95 6 2 px_vV prX6_sitsOn poX6_sitsOn),
  (95, px_al 96 0),
  (96, px_il 97 1),
  (97, px_callV dM 100 6 1 px_vI prX6_firstOf poX6_firstOf),
  (100, px_is 102 6),
  (102, px_al 103 0),
  (103, px_push 105 (.int 10)),
  (105, px_il 107 4),
  (107, px_bin 108 (fun x y => x * y)),
  (108, px_il 110 5),
  (110, px_bin 111 (fun x y => x + y)),
  (111, px_il 113 6),
  (113, px_push 115 (.int (-4))),
  (115, px_ic 118 123 (fun x y => ¬ x = y)),
  (118, px_push 120 (.int 1000000)),
  (120, px_go 125),
  (123, px_il 125 6),
  (125, px_callV dM 128 6 2 px_vV prX6_judges poX6_judges),
  (128, px_inc 131 5 1),
  (131, px_go 63),
  (134, px_inc 137 4 1),
  (137, px_go 45),
  (140, px_al 141 0),
  (141, px_il 142 2),
  (142, px_callV dM 145 6 1 px_vI prX6_judged poX6_judged),
  (145, px_iret (.int) po)]
set_option maxRecDepth 100000 in
set_option maxHeartbeats 4000000 in
theorem okX6_swap : ∀ (po : Int32 → px_St → Prop) (i pc : Nat) (op : px_Op), (opX6_swap po)[i]? = some (pc, op) → px_Snd (cX6_swap, 7, RX6, Cond.code yX6_swap cX6_swap 7 (some .int) :: wdM, (some .int), rmX6_swap, dM) px_vI po pc op := by
  intro po
  unfold opX6_swap
  refine px_ok_cons (ps_iload_n dX6_swap_0 rfl) ?_
  refine px_ok_cons (ps_callS mX6_isSound (fun _ _ => rfl) (fun _ _ ht => px_cwS wgM (wdM_3_in _ (List.mem_of_getElem? (i := 29) rfl)) (wdM_3_in _ (List.mem_of_getElem? (i := 30) rfl)) (wdM_0_in _ (List.mem_of_getElem? (i := 22) rfl)) (wdM_2_in _ (List.mem_of_getElem? (i := 4) rfl)) (by decide +kernel) rfl rfl (by decide) ht) dX6_swap_1) ?_
  refine px_ok_cons (ps_if_eq dX6_swap_4 (by decide)) ?_
  refine px_ok_cons (ps_iload_n dX6_swap_7 rfl) ?_
  refine px_ok_cons (ps_callS mX6_isPart (fun _ _ => rfl) (fun _ _ ht => px_cwS wgM (wdM_4_in _ (List.mem_of_getElem? (i := 39) rfl)) (wdM_5_in _ (List.mem_of_getElem? (i := 0) rfl)) (wdM_0_in _ (List.mem_of_getElem? (i := 22) rfl)) (wdM_2_in _ (List.mem_of_getElem? (i := 10) rfl)) (by decide +kernel) rfl rfl (by decide) ht) dX6_swap_8) ?_
  refine px_ok_cons (ps_if_ne dX6_swap_11 (by decide)) ?_
  refine px_ok_cons (ps_iconst dX6_swap_14 (by decide)) ?_
  refine px_ok_cons (ps_ireturn rfl dX6_swap_15) ?_
  refine px_ok_cons (ps_aload_n dX6_swap_16 rfl) ?_
  refine px_ok_cons (ps_callV mX6_starts (fun _ _ => rfl) (C := RX6) rfl (fun _ _ ht => px_cwV wgM (wdM_3_in _ (List.mem_of_getElem? (i := 19) rfl)) (wdM_3_in _ (List.mem_of_getElem? (i := 20) rfl)) (wdM_3_in _ (List.mem_of_getElem? (i := 21) rfl)) (wdM_0_in _ (List.mem_of_getElem? (i := 22) rfl)) (wdM_2_in _ (List.mem_of_getElem? (i := 11) rfl)) (by decide +kernel) rfl rfl (by decide) ht) dX6_swap_17) ?_
  refine px_ok_cons (ps_aload_n dX6_swap_20 rfl) ?_
  refine px_ok_cons (ps_iload_n dX6_swap_21 rfl) ?_
  refine px_ok_cons (ps_callV mX6_firstOf (fun _ _ => rfl) (C := RX6) rfl (fun _ _ ht => px_cwV wgM (wdM_4_in _ (List.mem_of_getElem? (i := 24) rfl)) (wdM_4_in _ (List.mem_of_getElem? (i := 25) rfl)) (wdM_4_in _ (List.mem_of_getElem? (i := 26) rfl)) (wdM_0_in _ (List.mem_of_getElem? (i := 22) rfl)) (wdM_3_in _ (List.mem_of_getElem? (i := 13) rfl)) (by decide +kernel) rfl rfl (by decide) ht) dX6_swap_22) ?_
  refine px_ok_cons (ps_istore_n dX6_swap_25 rfl (by decide)) ?_
  refine px_ok_cons (ps_aload_n dX6_swap_26 rfl) ?_
  refine px_ok_cons (ps_iload_n dX6_swap_27 rfl) ?_
  refine px_ok_cons (ps_bipush dX6_swap_28 (by decide)) ?_
  refine px_ok_cons (ps_icmp_ne dX6_swap_30 (by decide)) ?_
  refine px_ok_cons (ps_ldc (List.mem_cons_of_mem _ (wdM_5_in _ (List.mem_of_getElem? (i := 17) rfl))) dX6_swap_33) ?_
  refine px_ok_cons (ps_goto dX6_swap_35 (by decide)) ?_
  refine px_ok_cons (ps_iload_n dX6_swap_38 rfl) ?_
  refine px_ok_cons (ps_callV mX6_startsJudging (fun _ _ => rfl) (C := RX6) rfl (fun _ _ ht => px_cwV wgM (wdM_5_in _ (List.mem_of_getElem? (i := 1) rfl)) (wdM_5_in _ (List.mem_of_getElem? (i := 2) rfl)) (wdM_5_in _ (List.mem_of_getElem? (i := 3) rfl)) (wdM_0_in _ (List.mem_of_getElem? (i := 22) rfl)) (wdM_4_in _ (List.mem_of_getElem? (i := 35) rfl)) (by decide +kernel) rfl rfl (by decide) ht) dX6_swap_39) ?_
  refine px_ok_cons (ps_iconst dX6_swap_42 (by decide)) ?_
  refine px_ok_cons (ps_istore dX6_swap_43 (by decide)) ?_
  refine px_ok_cons (ps_iload dX6_swap_45) ?_
  refine px_ok_cons (ps_aload_n dX6_swap_47 rfl) ?_
  refine px_ok_cons (fgX6_7 dX6_swap_48) ?_
  refine px_ok_cons (ps_bipush dX6_swap_51 (by decide)) ?_
  refine px_ok_cons (ps_iaload dX6_swap_53) ?_
  refine px_ok_cons (ps_icmp_ge dX6_swap_54 (by decide)) ?_
  refine px_ok_cons (ps_iload dX6_swap_57) ?_
  refine px_ok_cons (ps_iconst dX6_swap_59 (by decide)) ?_
  refine px_ok_cons (ps_iadd dX6_swap_60) ?_
  refine px_ok_cons (ps_istore dX6_swap_61 (by decide)) ?_
  refine px_ok_cons (ps_iload dX6_swap_63) ?_
  refine px_ok_cons (ps_aload_n dX6_swap_65 rfl) ?_
  refine px_ok_cons (fgX6_7 dX6_swap_66) ?_
  refine px_ok_cons (ps_bipush dX6_swap_69 (by decide)) ?_
  refine px_ok_cons (ps_iaload dX6_swap_71) ?_
  refine px_ok_cons (ps_icmp_ge dX6_swap_72 (by decide)) ?_
  refine px_ok_cons (ps_aload_n dX6_swap_75 rfl) ?_
  refine px_ok_cons (ps_callV mX6_starts (fun _ _ => rfl) (C := RX6) rfl (fun _ _ ht => px_cwV wgM (wdM_3_in _ (List.mem_of_getElem? (i := 19) rfl)) (wdM_3_in _ (List.mem_of_getElem? (i := 20) rfl)) (wdM_3_in _ (List.mem_of_getElem? (i := 21) rfl)) (wdM_0_in _ (List.mem_of_getElem? (i := 22) rfl)) (wdM_2_in _ (List.mem_of_getElem? (i := 11) rfl)) (by decide +kernel) rfl rfl (by decide) ht) dX6_swap_76) ?_
  refine px_ok_cons (ps_aload_n dX6_swap_79 rfl) ?_
  refine px_ok_cons (ps_iload dX6_swap_80) ?_
  refine px_ok_cons (ps_iload dX6_swap_82) ?_
  refine px_ok_cons (ps_callV mX6_sitsOn (fun _ _ => rfl) (C := RX6) rfl (fun _ _ ht => px_cwV wgM (wdM_5_in _ (List.mem_of_getElem? (i := 10) rfl)) (wdM_5_in _ (List.mem_of_getElem? (i := 11) rfl)) (wdM_5_in _ (List.mem_of_getElem? (i := 12) rfl)) (wdM_0_in _ (List.mem_of_getElem? (i := 22) rfl)) (wdM_5_in _ (List.mem_of_getElem? (i := 9) rfl)) (by decide +kernel) rfl rfl (by decide) ht) dX6_swap_84) ?_
  refine px_ok_cons (ps_aload_n dX6_swap_87 rfl) ?_
  refine px_ok_cons (ps_iload dX6_swap_88) ?_
  refine px_ok_cons (ps_iload dX6_swap_90) ?_
  refine px_ok_cons (ps_callV mX6_sitsOn (fun _ _ => rfl) (C := RX6) rfl (fun _ _ ht => px_cwV wgM (wdM_5_in _ (List.mem_of_getElem? (i := 10) rfl)) (wdM_5_in _ (List.mem_of_getElem? (i := 11) rfl)) (wdM_5_in _ (List.mem_of_getElem? (i := 12) rfl)) (wdM_0_in _ (List.mem_of_getElem? (i := 22) rfl)) (wdM_5_in _ (List.mem_of_getElem? (i := 9) rfl)) (by decide +kernel) rfl rfl (by decide) ht) dX6_swap_92) ?_
  refine px_ok_cons (ps_aload_n dX6_swap_95 rfl) ?_
  refine px_ok_cons (ps_iload_n dX6_swap_96 rfl) ?_
  refine px_ok_cons (ps_callV mX6_firstOf (fun _ _ => rfl) (C := RX6) rfl (fun _ _ ht => px_cwV wgM (wdM_4_in _ (List.mem_of_getElem? (i := 24) rfl)) (wdM_4_in _ (List.mem_of_getElem? (i := 25) rfl)) (wdM_4_in _ (List.mem_of_getElem? (i := 26) rfl)) (wdM_0_in _ (List.mem_of_getElem? (i := 22) rfl)) (wdM_3_in _ (List.mem_of_getElem? (i := 13) rfl)) (by decide +kernel) rfl rfl (by decide) ht) dX6_swap_97) ?_
  refine px_ok_cons (ps_istore dX6_swap_100 (by decide)) ?_
  refine px_ok_cons (ps_aload_n dX6_swap_102 rfl) ?_
  refine px_ok_cons (ps_bipush dX6_swap_103 (by decide)) ?_
  refine px_ok_cons (ps_iload dX6_swap_105) ?_
  refine px_ok_cons (ps_imul dX6_swap_107) ?_
  refine px_ok_cons (ps_iload dX6_swap_108) ?_
  refine px_ok_cons (ps_iadd dX6_swap_110) ?_
  refine px_ok_cons (ps_iload dX6_swap_111) ?_
  refine px_ok_cons (ps_bipush dX6_swap_113 (by decide)) ?_
  refine px_ok_cons (ps_icmp_ne dX6_swap_115 (by decide)) ?_
  refine px_ok_cons (ps_ldc (List.mem_cons_of_mem _ (wdM_5_in _ (List.mem_of_getElem? (i := 17) rfl))) dX6_swap_118) ?_
  refine px_ok_cons (ps_goto dX6_swap_120 (by decide)) ?_
  refine px_ok_cons (ps_iload dX6_swap_123) ?_
  refine px_ok_cons (ps_callV mX6_judges (fun _ _ => rfl) (C := RX6) rfl (fun _ _ ht => px_cwV wgM (wdM_5_in _ (List.mem_of_getElem? (i := 4) rfl)) (wdM_5_in _ (List.mem_of_getElem? (i := 5) rfl)) (wdM_5_in _ (List.mem_of_getElem? (i := 6) rfl)) (wdM_0_in _ (List.mem_of_getElem? (i := 22) rfl)) (wdM_4_in _ (List.mem_of_getElem? (i := 38) rfl)) (by decide +kernel) rfl rfl (by decide) ht) dX6_swap_125) ?_
  refine px_ok_cons (ps_iinc dX6_swap_128 (by decide) (by decide)) ?_
  refine px_ok_cons (ps_goto dX6_swap_131 (by decide)) ?_
  refine px_ok_cons (ps_iinc dX6_swap_134 (by decide) (by decide)) ?_
  refine px_ok_cons (ps_goto dX6_swap_137 (by decide)) ?_
  refine px_ok_cons (ps_aload_n dX6_swap_140 rfl) ?_
  refine px_ok_cons (ps_iload_n dX6_swap_141 rfl) ?_
  refine px_ok_cons (ps_callV mX6_judged (fun _ _ => rfl) (C := RX6) rfl (fun _ _ ht => px_cwV wgM (wdM_5_in _ (List.mem_of_getElem? (i := 13) rfl)) (wdM_5_in _ (List.mem_of_getElem? (i := 14) rfl)) (wdM_5_in _ (List.mem_of_getElem? (i := 15) rfl)) (wdM_0_in _ (List.mem_of_getElem? (i := 22) rfl)) (wdM_5_in _ (List.mem_of_getElem? (i := 8) rfl)) (by decide +kernel) rfl rfl (by decide) ht) dX6_swap_142) ?_
  refine px_ok_cons (ps_ireturn rfl dX6_swap_145) ?_
  exact px_ok_nil
set_option maxRecDepth 100000 in
set_option maxHeartbeats 4000000 in
theorem sgX6_swap_0 {po : Int32 → px_St → Prop} {G : px_K} (hG : px_cl (opX6_swap po) G) (v1 : Int32) (v2 : Int32) (σ : px_St)
    (H : ∃ g3 : gtX6_isSound, qrX6_isSound g3 v1 σ ∧ ∀ (r1 : Int32) (σ2 : px_St), qoX6_isSound g3 v1 σ r1 σ2 → ((r1 = 0) → po (-1 : Int32) σ2) ∧ (¬ (r1 = 0) → ∃ g7 : gtX6_isPart, qrX6_isPart g7 v2 σ2 ∧ ∀ (r5 : Int32) (σ6 : px_St), qoX6_isPart g7 v2 σ2 r5 σ6 → ((¬ r5 = 0) → ∃ g11 : gtX6_starts, qrX6_starts g11 σ6 ∧ ∀ (r9 : Unit) (σ10 : px_St), qoX6_starts g11 σ6 r9 σ10 → ∃ g15 : gtX6_firstOf, qrX6_firstOf g15 v1 σ10 ∧ ∀ (r13 : Int32) (σ14 : px_St), qoX6_firstOf g15 v1 σ10 r13 σ14 → ((¬ r13 = (-4 : Int32)) → ∃ g19 : gtX6_startsJudging, qrX6_startsJudging g19 r13 σ14 ∧ ∀ (r17 : Unit) (σ18 : px_St), qoX6_startsJudging g19 r13 σ14 r17 σ18 → G 45 [some (.ref 0), some (.int v1), some (.int v2), some (.int r13), some (.int (0 : Int32)), none, none] [] σ18) ∧ (¬ (¬ r13 = (-4 : Int32)) → ∃ g23 : gtX6_startsJudging, qrX6_startsJudging g23 (1000000 : Int32) σ14 ∧ ∀ (r21 : Unit) (σ22 : px_St), qoX6_startsJudging g23 (1000000 : Int32) σ14 r21 σ22 → G 45 [some (.ref 0), some (.int v1), some (.int v2), some (.int r13), some (.int (0 : Int32)), none, none] [] σ22)) ∧ (¬ (¬ r5 = 0) → po (-1 : Int32) σ6))) :
    G 0 (px_ent 7 [.ref 0, .int v1, .int v2]) [] σ := by
  refine hG.1 0 _ _ rfl _ _ _ ?_
  refine hG.1 1 _ _ rfl _ _ _ ?_
  obtain ⟨g3, H⟩ := H
  refine ⟨Nat.le_of_ble_eq_true rfl, Nat.le_of_ble_eq_true rfl, g3, ⟨_, rfl, H.1⟩, fun r1 σ2 hp4 => ?_⟩
  replace H := H.2 r1 σ2 hp4
  refine hG.1 2 _ _ rfl _ _ _ ?_
  refine ⟨fun h27 => ?_, fun h27 => ?_⟩
  · replace H := H.1 h27
    refine hG.1 6 _ _ rfl _ _ _ ?_
    refine hG.1 7 _ _ rfl _ _ _ ?_
    exact ⟨rfl, H⟩
  · replace H := H.2 h27
    refine hG.1 3 _ _ rfl _ _ _ ?_
    refine hG.1 4 _ _ rfl _ _ _ ?_
    obtain ⟨g7, H⟩ := H
    refine ⟨Nat.le_of_ble_eq_true rfl, Nat.le_of_ble_eq_true rfl, g7, ⟨_, rfl, H.1⟩, fun r5 σ6 hp8 => ?_⟩
    replace H := H.2 r5 σ6 hp8
    refine hG.1 5 _ _ rfl _ _ _ ?_
    refine ⟨fun h26 => ?_, fun h26 => ?_⟩
    · replace H := H.1 h26
      refine hG.1 8 _ _ rfl _ _ _ ?_
      refine hG.1 9 _ _ rfl _ _ _ ?_
      obtain ⟨g11, H⟩ := H
      refine ⟨⟨rfl, by decide⟩, Nat.le_of_ble_eq_true rfl, g11, ⟨rfl, H.1⟩, fun r9 σ10 hp12 => ?_⟩
      replace H := H.2 r9 σ10 hp12
      refine hG.1 10 _ _ rfl _ _ _ ?_
      refine hG.1 11 _ _ rfl _ _ _ ?_
      refine hG.1 12 _ _ rfl _ _ _ ?_
      obtain ⟨g15, H⟩ := H
      refine ⟨⟨rfl, by decide⟩, Nat.le_of_ble_eq_true rfl, g15, ⟨_, rfl, H.1⟩, fun r13 σ14 hp16 => ?_⟩
      replace H := H.2 r13 σ14 hp16
      refine hG.1 13 _ _ rfl _ _ _ ?_
      show G 26 [some (.ref 0), some (.int v1), some (.int v2), some (.int r13), none, none, none] [] σ14
      refine hG.1 14 _ _ rfl _ _ _ ?_
      refine hG.1 15 _ _ rfl _ _ _ ?_
      refine hG.1 16 _ _ rfl _ _ _ ?_
      refine hG.1 17 _ _ rfl _ _ _ ?_
      refine ⟨fun h25 => ?_, fun h25 => ?_⟩
      · replace H := H.1 h25
        refine hG.1 20 _ _ rfl _ _ _ ?_
        refine hG.1 21 _ _ rfl _ _ _ ?_
        obtain ⟨g19, H⟩ := H
        refine ⟨⟨rfl, by decide⟩, Nat.le_of_ble_eq_true rfl, g19, ⟨_, rfl, H.1⟩, fun r17 σ18 hp20 => ?_⟩
        replace H := H.2 r17 σ18 hp20
        refine hG.1 22 _ _ rfl _ _ _ ?_
        refine hG.1 23 _ _ rfl _ _ _ ?_
        show G 45 [some (.ref 0), some (.int v1), some (.int v2), some (.int r13), some (.int (0 : Int32)), none, none] [] σ18
        exact H
      · replace H := H.2 h25
        refine hG.1 18 _ _ rfl _ _ _ ?_
        refine hG.1 19 _ _ rfl _ _ _ ?_
        refine hG.1 21 _ _ rfl _ _ _ ?_
        obtain ⟨g23, H⟩ := H
        refine ⟨⟨rfl, by decide⟩, Nat.le_of_ble_eq_true rfl, g23, ⟨_, rfl, H.1⟩, fun r21 σ22 hp24 => ?_⟩
        replace H := H.2 r21 σ22 hp24
        refine hG.1 22 _ _ rfl _ _ _ ?_
        refine hG.1 23 _ _ rfl _ _ _ ?_
        show G 45 [some (.ref 0), some (.int v1), some (.int v2), some (.int r13), some (.int (0 : Int32)), none, none] [] σ22
        exact H
    · replace H := H.2 h26
      refine hG.1 6 _ _ rfl _ _ _ ?_
      refine hG.1 7 _ _ rfl _ _ _ ?_
      exact ⟨rfl, H⟩
set_option maxRecDepth 100000 in
set_option maxHeartbeats 4000000 in
theorem sgX6_swap_45 {po : Int32 → px_St → Prop} {G : px_K} (hG : px_cl (opX6_swap po) G) (v1 : Int32) (v2 : Int32) (v3 : Int32) (v4 : Int32) (σ : px_St)
    (H : vp_in (45 : Int32) 183 ∧ (((σ.1 1 (45 : Int32).toNatClampNeg) ≤ v4) → ∃ g3 : gtX6_judged, qrX6_judged g3 v2 σ ∧ ∀ (r1 : Int32) (σ2 : px_St), qoX6_judged g3 v2 σ r1 σ2 → po r1 σ2) ∧ (¬ ((σ.1 1 (45 : Int32).toNatClampNeg) ≤ v4) → G 63 [some (.ref 0), some (.int v1), some (.int v2), some (.int v3), some (.int v4), some (.int (v4 + (1 : Int32))), none] [] σ)) :
    G 45 [some (.ref 0), some (.int v1), some (.int v2), some (.int v3), some (.int v4), none, none] [] σ := by
  refine hG.1 24 _ _ rfl _ _ _ ?_
  refine hG.1 25 _ _ rfl _ _ _ ?_
  refine hG.1 26 _ _ rfl _ _ _ ?_
  refine ⟨⟨rfl, by decide⟩, ?_⟩
  refine hG.1 27 _ _ rfl _ _ _ ?_
  refine hG.1 28 _ _ rfl _ _ _ ?_
  refine ⟨⟨rfl, by decide⟩, H.1, ?_⟩
  replace H := H.2
  refine hG.1 29 _ _ rfl _ _ _ ?_
  refine ⟨fun h5 => ?_, fun h5 => ?_⟩
  · replace H := H.1 h5
    refine hG.1 71 _ _ rfl _ _ _ ?_
    refine hG.1 72 _ _ rfl _ _ _ ?_
    refine hG.1 73 _ _ rfl _ _ _ ?_
    obtain ⟨g3, H⟩ := H
    refine ⟨⟨rfl, by decide⟩, Nat.le_of_ble_eq_true rfl, g3, ⟨_, rfl, H.1⟩, fun r1 σ2 hp4 => ?_⟩
    replace H := H.2 r1 σ2 hp4
    refine hG.1 74 _ _ rfl _ _ _ ?_
    exact ⟨rfl, H⟩
  · replace H := H.2 h5
    refine hG.1 30 _ _ rfl _ _ _ ?_
    refine hG.1 31 _ _ rfl _ _ _ ?_
    refine hG.1 32 _ _ rfl _ _ _ ?_
    refine hG.1 33 _ _ rfl _ _ _ ?_
    show G 63 [some (.ref 0), some (.int v1), some (.int v2), some (.int v3), some (.int v4), some (.int (v4 + (1 : Int32))), none] [] σ
    exact H
set_option maxRecDepth 100000 in
set_option maxHeartbeats 4000000 in
theorem sgX6_swap_63 {po : Int32 → px_St → Prop} {G : px_K} (hG : px_cl (opX6_swap po) G) (v1 : Int32) (v2 : Int32) (v3 : Int32) (v4 : Int32) (v5 : Int32) (σ : px_St)
    (H : vp_in (45 : Int32) 183 ∧ (((σ.1 1 (45 : Int32).toNatClampNeg) ≤ v5) → G 45 [some (.ref 0), some (.int v1), some (.int v2), some (.int v3), some (.int (v4 + 1)), none, none] [] σ) ∧ (¬ ((σ.1 1 (45 : Int32).toNatClampNeg) ≤ v5) → ∃ g3 : gtX6_starts, qrX6_starts g3 σ ∧ ∀ (r1 : Unit) (σ2 : px_St), qoX6_starts g3 σ r1 σ2 → ∃ g7 : gtX6_sitsOn, qrX6_sitsOn g7 v4 v5 σ2 ∧ ∀ (r5 : Unit) (σ6 : px_St), qoX6_sitsOn g7 v4 v5 σ2 r5 σ6 → ∃ g11 : gtX6_sitsOn, qrX6_sitsOn g11 v5 v4 σ6 ∧ ∀ (r9 : Unit) (σ10 : px_St), qoX6_sitsOn g11 v5 v4 σ6 r9 σ10 → ∃ g15 : gtX6_firstOf, qrX6_firstOf g15 v1 σ10 ∧ ∀ (r13 : Int32) (σ14 : px_St), qoX6_firstOf g15 v1 σ10 r13 σ14 → ((¬ r13 = (-4 : Int32)) → ∃ g19 : gtX6_judges, qrX6_judges g19 (((10 : Int32) * v4) + v5) r13 σ14 ∧ ∀ (r17 : Unit) (σ18 : px_St), qoX6_judges g19 (((10 : Int32) * v4) + v5) r13 σ14 r17 σ18 → G 63 [some (.ref 0), some (.int v1), some (.int v2), some (.int v3), some (.int v4), some (.int (v5 + 1)), none] [] σ18) ∧ (¬ (¬ r13 = (-4 : Int32)) → ∃ g23 : gtX6_judges, qrX6_judges g23 (((10 : Int32) * v4) + v5) (1000000 : Int32) σ14 ∧ ∀ (r21 : Unit) (σ22 : px_St), qoX6_judges g23 (((10 : Int32) * v4) + v5) (1000000 : Int32) σ14 r21 σ22 → G 63 [some (.ref 0), some (.int v1), some (.int v2), some (.int v3), some (.int v4), some (.int (v5 + 1)), none] [] σ22))) :
    G 63 [some (.ref 0), some (.int v1), some (.int v2), some (.int v3), some (.int v4), some (.int v5), none] [] σ := by
  refine hG.1 34 _ _ rfl _ _ _ ?_
  refine hG.1 35 _ _ rfl _ _ _ ?_
  refine hG.1 36 _ _ rfl _ _ _ ?_
  refine ⟨⟨rfl, by decide⟩, ?_⟩
  refine hG.1 37 _ _ rfl _ _ _ ?_
  refine hG.1 38 _ _ rfl _ _ _ ?_
  refine ⟨⟨rfl, by decide⟩, H.1, ?_⟩
  replace H := H.2
  refine hG.1 39 _ _ rfl _ _ _ ?_
  refine ⟨fun h26 => ?_, fun h26 => ?_⟩
  · replace H := H.1 h26
    refine hG.1 69 _ _ rfl _ _ _ ?_
    show G 137 [some (.ref 0), some (.int v1), some (.int v2), some (.int v3), some (.int (v4 + 1)), some (.int v5), none] [] σ
    refine hG.1 70 _ _ rfl _ _ _ ?_
    refine hG.2 45 [some (.ref 0), some (.int v1), some (.int v2), some (.int v3), some (.int (v4 + 1)), none, none] _ _ _ ⟨rfl, rfl, rfl, rfl, rfl, trivial⟩ ?_
    exact H
  · replace H := H.2 h26
    refine hG.1 40 _ _ rfl _ _ _ ?_
    refine hG.1 41 _ _ rfl _ _ _ ?_
    obtain ⟨g3, H⟩ := H
    refine ⟨⟨rfl, by decide⟩, Nat.le_of_ble_eq_true rfl, g3, ⟨rfl, H.1⟩, fun r1 σ2 hp4 => ?_⟩
    replace H := H.2 r1 σ2 hp4
    refine hG.1 42 _ _ rfl _ _ _ ?_
    refine hG.1 43 _ _ rfl _ _ _ ?_
    refine hG.1 44 _ _ rfl _ _ _ ?_
    refine hG.1 45 _ _ rfl _ _ _ ?_
    obtain ⟨g7, H⟩ := H
    refine ⟨⟨rfl, by decide⟩, Nat.le_of_ble_eq_true rfl, g7, ⟨_, _, rfl, H.1⟩, fun r5 σ6 hp8 => ?_⟩
    replace H := H.2 r5 σ6 hp8
    refine hG.1 46 _ _ rfl _ _ _ ?_
    refine hG.1 47 _ _ rfl _ _ _ ?_
    refine hG.1 48 _ _ rfl _ _ _ ?_
    refine hG.1 49 _ _ rfl _ _ _ ?_
    obtain ⟨g11, H⟩ := H
    refine ⟨⟨rfl, by decide⟩, Nat.le_of_ble_eq_true rfl, g11, ⟨_, _, rfl, H.1⟩, fun r9 σ10 hp12 => ?_⟩
    replace H := H.2 r9 σ10 hp12
    refine hG.1 50 _ _ rfl _ _ _ ?_
    refine hG.1 51 _ _ rfl _ _ _ ?_
    refine hG.1 52 _ _ rfl _ _ _ ?_
    obtain ⟨g15, H⟩ := H
    refine ⟨⟨rfl, by decide⟩, Nat.le_of_ble_eq_true rfl, g15, ⟨_, rfl, H.1⟩, fun r13 σ14 hp16 => ?_⟩
    replace H := H.2 r13 σ14 hp16
    refine hG.1 53 _ _ rfl _ _ _ ?_
    show G 102 [some (.ref 0), some (.int v1), some (.int v2), some (.int v3), some (.int v4), some (.int v5), some (.int r13)] [] σ14
    refine hG.1 54 _ _ rfl _ _ _ ?_
    refine hG.1 55 _ _ rfl _ _ _ ?_
    refine hG.1 56 _ _ rfl _ _ _ ?_
    refine hG.1 57 _ _ rfl _ _ _ ?_
    refine hG.1 58 _ _ rfl _ _ _ ?_
    refine hG.1 59 _ _ rfl _ _ _ ?_
    refine hG.1 60 _ _ rfl _ _ _ ?_
    refine hG.1 61 _ _ rfl _ _ _ ?_
    refine hG.1 62 _ _ rfl _ _ _ ?_
    refine ⟨fun h25 => ?_, fun h25 => ?_⟩
    · replace H := H.1 h25
      refine hG.1 65 _ _ rfl _ _ _ ?_
      refine hG.1 66 _ _ rfl _ _ _ ?_
      obtain ⟨g19, H⟩ := H
      refine ⟨⟨rfl, by decide⟩, Nat.le_of_ble_eq_true rfl, g19, ⟨_, _, rfl, H.1⟩, fun r17 σ18 hp20 => ?_⟩
      replace H := H.2 r17 σ18 hp20
      refine hG.1 67 _ _ rfl _ _ _ ?_
      show G 131 [some (.ref 0), some (.int v1), some (.int v2), some (.int v3), some (.int v4), some (.int (v5 + 1)), some (.int r13)] [] σ18
      refine hG.1 68 _ _ rfl _ _ _ ?_
      refine hG.2 63 [some (.ref 0), some (.int v1), some (.int v2), some (.int v3), some (.int v4), some (.int (v5 + 1)), none] _ _ _ ⟨rfl, rfl, rfl, rfl, rfl, rfl, trivial⟩ ?_
      exact H
    · replace H := H.2 h25
      refine hG.1 63 _ _ rfl _ _ _ ?_
      refine hG.1 64 _ _ rfl _ _ _ ?_
      refine hG.1 66 _ _ rfl _ _ _ ?_
      obtain ⟨g23, H⟩ := H
      refine ⟨⟨rfl, by decide⟩, Nat.le_of_ble_eq_true rfl, g23, ⟨_, _, rfl, H.1⟩, fun r21 σ22 hp24 => ?_⟩
      replace H := H.2 r21 σ22 hp24
      refine hG.1 67 _ _ rfl _ _ _ ?_
      show G 131 [some (.ref 0), some (.int v1), some (.int v2), some (.int v3), some (.int v4), some (.int (v5 + 1)), some (.int r13)] [] σ22
      refine hG.1 68 _ _ rfl _ _ _ ?_
      refine hG.2 63 [some (.ref 0), some (.int v1), some (.int v2), some (.int v3), some (.int v4), some (.int (v5 + 1)), none] _ _ _ ⟨rfl, rfl, rfl, rfl, rfl, rfl, trivial⟩ ?_
      exact H
set_option maxRecDepth 100000 in
set_option maxHeartbeats 4000000 in
theorem hhX6_swap (g : gtX6_swap) (v1 : Int32) (v2 : Int32) (σ : px_St) (h : qrX6_swap g v1 v2 σ) (G : px_K) (hG : px_cl (opX6_swap (qoX6_swap g v1 v2 σ)) G) : G 0 (px_ent 7 [.ref 0, .int v1, .int v2]) [] σ := by
  obtain ⟨hX, hok⟩ := h
  have hd := hok.1.2
  have hvk := hok.1.1
  have h5 := hvk.1.1
  refine sgX6_swap_0 hG _ _ σ ⟨(), trivial, fun r1 σ1 h1 => ?_⟩
  obtain ⟨rfl, b1⟩ := h1
  refine bz2 b1 (fun z => ⟨(), trivial, fun r2 σ2 h2 => ?_⟩) (fun z => ?_)
  · obtain ⟨rfl, b2⟩ := h2
    refine bz1 b2 (fun x => ⟨(), trivial, fun _ σ3 h3 => ?_⟩) (fun x => ?_)
    · obtain ⟨s, hs, rfl⟩ := (rngc 9 9 rfl (by omega)).mp z
      have ex : (x_swap g (nI s) v2) = (pv_choice (pv_swo g.1 s g.1.1).1 (nI (pv_swo g.1 s g.1.1).2) v2, g) := by
        unfold x_swap
        rw [xif_t ⟨z, x⟩, nI_clamp (by omega)]
      refine ⟨(g.1, s), ⟨starts_mv h3 hX.1 hvk.1, hvk, by omega, rfl⟩, fun r4 σ4 h4 => ?_⟩
      obtain ⟨e4, q4⟩ := h4
      have outer : ∀ had m k, k + m = g.1.1 → ∀ σ', mk σ2 σ' → jd σ' (pv_swo g.1 s k).1 (frn (pv_swo g.1 s k).2) → G 45 [some (.ref 0), some (.int (nI s)), some (.int v2), some (.int had), some (.int (nI k)), none, none] [] σ' := by
        intro had m
        induction m with
        | zero =>
          intro k hk σ' ho hj
          have e : k = g.1.1 := by omega
          subst e
          have hX' := ho.mo hX
          refine sgX6_swap_45 hG _ _ _ _ σ' ?_
          rw [c45, hX'.1.1.1]
          refine ⟨i45, fun _ => ⟨(), trivial, fun r σa ha => ?_⟩, fun q => absurd (Int32.le_refl _) q⟩
          obtain ⟨rfl, rfl⟩ := ha
          unfold qoX6_swap
          rw [ex, hj.1, hj.2]
          refine ⟨?_, hX'⟩
          show pv_choice _ _ _ = pv_choice _ _ _
          rcases swo_4 g.1 s g.1.1 with h4 | h4
          · unfold pv_choice; rw [if_pos h4, if_pos h4]
          · unfold frn; rw [if_pos h4]
        | succ m ih =>
          intro k hk σ' ho hj
          have hX' := ho.mo hX
          have hkg : k < g.1.1 := by omega
          refine sgX6_swap_45 hG _ _ _ _ σ' ?_
          rw [c45, hX'.1.1.1, show nI k + 1 = nI (k + 1) from nI_1 k]
          refine ⟨i45, fun q => absurd q (nI_ge (by omega) (by omega)), fun _ => ?_⟩
          have inner : ∀ l j, j + l = g.1.1 - (k + 1) → ∀ τ, mk σ2 τ → jd τ (pv_swi g.1 s k (pv_swo g.1 s k) j).1 (frn (pv_swi g.1 s k (pv_swo g.1 s k) j).2) → G 63 [some (.ref 0), some (.int (nI s)), some (.int v2), some (.int had), some (.int (nI k)), some (.int (nI (k + 1 + j))), none] [] τ := by
            intro l
            induction l with
            | zero =>
              intro j hj2 τ ht hjt
              have hXt := ht.mo hX
              refine sgX6_swap_63 hG _ _ _ _ _ τ ?_
              rw [c45, hXt.1.1.1, nI_1]
              refine ⟨i45, fun _ => ?_, fun q => absurd (nI_le (by omega) (by omega)) q⟩
              refine ih (k + 1) (by omega) τ ht ?_
              rw [pv_swo]
              rw [show j = g.1.1 - (k + 1) by omega] at hjt
              exact hjt
            | succ l ihl =>
              intro j hj2 τ ht hjt
              have hXt := ht.mo hX
              have hj3 : k + 1 + j < g.1.1 := by omega
              have e10 : (10 : Int32) * nI k + nI (k + 1 + j) = nI (10 * k + (k + 1 + j)) := by rw [show (10 : Int32) = nI 10 from rfl, pk_mul, nI_add]
              refine sgX6_swap_63 hG _ _ _ _ _ τ ?_
              rw [c45, hXt.1.1.1, e10, show nI (k + 1 + j) + 1 = nI (k + 1 + (j + 1)) from nI_1 _]
              refine ⟨i45, fun q => absurd q (nI_ge (by omega) (by omega)), fun _ => ⟨(), trivial, fun _ σa ha => ⟨(k, k + 1 + j), ⟨by omega, by omega, rfl, rfl⟩, fun _ σb hb => ⟨(k + 1 + j, k), ⟨by omega, by omega, rfl, rfl⟩, fun _ σc hc => ?_⟩⟩⟩⟩
              have hVa := starts_mv ha hXt.1 hvk.1
              have e1a : σa.1 1 = τ.1 1 := ha.1 1 (by omega)
              have e1b : σb.1 1 = τ.1 1 := (hb.1 1 (by omega)).trans e1a
              have hw6 : pv_w (pv_at g.1 k (g.1.2.2.2 (k + 1 + j))) := pv_at_w hvk.1 (hvk.1.2.2.2 _ hj3)
              have hVb : mv_is (σb.1 2) (pv_at g.1 k (g.1.2.2.2 (k + 1 + j))) := sits_mv (st := σa.1 1) (q := k + 1 + j) hVa (fun q hq => (hvk.1.2.2.2 q hq).2.1) (by omega) (by rw [e1a]; exact hXt.1.2 _ hj3) (hvk.1.2.2.2 _ hj3).2.1 hb.2.2
              have hVc : mv_is (σc.1 2) (pv_swp g.1 k (k + 1 + j)) := sits_mv (st := σb.1 1) (q := k) hVb (fun q hq => (hw6.2.2.2 q hq).2.1) (by omega) (by rw [e1b]; exact hXt.1.2 _ hkg) (hvk.1.2.2.2 _ hkg).2.1 hc.2.2
              refine ⟨(pv_swp g.1 k (k + 1 + j), s), ⟨hVc, pv_swp_ok hvk hkg hj3, Nat.lt_of_le_of_lt hd (by omega), rfl⟩, fun r8 σ8 hq8 => ?_⟩
              obtain ⟨e8, p7⟩ := hq8
              have hb1 := pv_swi_le g.1 s k _ (pv_swo_le g.1 s k) j
              have hb2 := pv_ff_le (pv_swp g.1 k (k + 1 + j)) s 61 0 (by omega)
              have hj8 : jd σ8 _ _ := hjt.kept ((((p7.1 0 (by omega)).trans (hc.1 0 (by omega))).trans (hb.1 0 (by omega))).trans (ha.1 0 (by omega)))
              have ho8 : mk σ2 σ8 := (((ht.tr (starts_mk ha)).tr (mk.of2 hb.1)).tr (mk.of2 hc.1)).tr p7.mk
              have fin : ∀ x σd rd, x = frn (pv_ff (pv_swp g.1 k (k + 1 + j)) s 61 0) → qoX6_judges () (nI (10 * k + (k + 1 + j))) x σ8 rd σd → G 63 [some (.ref 0), some (.int (nI s)), some (.int v2), some (.int had), some (.int (nI k)), some (.int (nI (k + 1 + (j + 1)))), none] [] σd := by
                intro x σd rd hx hdj
                subst hx
                obtain ⟨⟨d1, d2⟩, d3⟩ := jd_judge hdj hj8
                refine ihl (j + 1) (by omega) σd (ho8.tr d3) ?_
                rw [frn_lt _ (by omega) _ (by omega)] at d1 d2
                rw [pv_swi]
                by_cases hlt : pv_ff (pv_swp g.1 k (k + 1 + j)) s 61 0 < (pv_swi g.1 s k (pv_swo g.1 s k) j).2
                · rw [if_pos hlt]; exact d1 hlt
                · rw [if_neg hlt]; exact d2 hlt
              rw [e8, ff_r]
              refine ⟨fun q => ⟨(), trivial, fun _ σd hdj => fin _ σd () ?_ hdj⟩, fun q => ⟨(), trivial, fun _ σd hdj => fin _ σd () ?_ hdj⟩⟩
              · unfold frn; rw [if_pos (by omega), if_pos (by omega)]
              · unfold frn; rw [if_neg (by omega)]
          exact inner (g.1.1 - (k + 1)) 0 (by omega) σ' ho hj
      have hff := pv_ff_le g.1 s 61 0 (by omega)
      rw [e4, ff_r]
      refine ⟨fun q => ⟨(), trivial, fun _ σ5 hs5 => ?_⟩, fun q => ⟨(), trivial, fun _ σ5 hs5 => ?_⟩⟩
      · obtain ⟨j5, k5⟩ := jd_start hs5
        refine outer _ g.1.1 0 (by omega) σ5 (((starts_mk h3).tr q4.mk).tr k5) ?_
        show jd σ5 (-4) (frn (pv_ff g.1 s 61 0))
        rw [if_pos (by omega)] at j5
        unfold frn
        rw [if_pos (by omega)]
        exact j5
      · obtain ⟨j5, k5⟩ := jd_start hs5
        refine outer _ g.1.1 0 (by omega) σ5 (((starts_mk h3).tr q4.mk).tr k5) ?_
        show jd σ5 (-4) (frn (pv_ff g.1 s 61 0))
        unfold frn
        rw [if_neg (by omega)]
        exact j5
    · unfold qoX6_swap x_swap
      rw [xif_f (fun q => x q.2)]
      exact ⟨rfl, hX⟩
  · unfold qoX6_swap x_swap
    rw [xif_f (fun q => z q.1)]
    exact ⟨rfl, hX⟩
theorem mX6_swap (g : gtX6_swap) : px_Met dM yX6_swap (Cond.code yX6_swap cX6_swap 7 (some .int) :: wdM) rmX6_swap px_vI (prX6_swap g) (poX6_swap g) :=
  px_met (Z := (cX6_swap, 7, RX6, Cond.code yX6_swap cX6_swap 7 (some .int) :: wdM, (some .int), rmX6_swap, dM)) opX6_swap (by decide) rfl rfl okX6_swap (fun As σ h => by obtain ⟨v1, v2, rfl, h⟩ := h; exact Nat.le_of_ble_eq_true rfl) (fun As σ h G hG => by obtain ⟨v1, v2, rfl, h⟩ := h; exact hhX6_swap g v1 v2 σ h G hG)
abbrev gtX6_far : Type := pv_X
def qrX6_far (X : pv_X) (_ _ : Int32) (σ : px_St) : Prop := mo_is σ X ∧ xo X
def qoX6_far (X : pv_X) (s n : Int32) (_ : px_St) (r : Int32) (σ' : px_St) : Prop := r = (x_far X s n).1 ∧ mo_is σ' (x_far X s n).2
def prX6_far (g : gtX6_far) : List Value → px_St → Prop := fun As σ => ∃ v1 : Int32, ∃ v2 : Int32, As = [.ref 0, .int v1, .int v2] ∧ qrX6_far g v1 v2 σ
def poX6_far (g : gtX6_far) : List Value → px_St → Int32 → px_St → Prop
  | [.ref _, .int v1, .int v2], σ, r, σ' => qoX6_far g v1 v2 σ r σ'
  | _, _, _, _ => False
theorem dX6_far_0 : decode cX6_far 0 = .ok (.iload_n 1, 1) := by decide +kernel
theorem dX6_far_1 : decode cX6_far 1 = .ok (.invokestatic 175, 3) := by decide +kernel
theorem dX6_far_4 : decode cX6_far 4 = .ok (.ifCond .eq 10, 3) := by decide +kernel
theorem dX6_far_7 : decode cX6_far 7 = .ok (.iload_n 2, 1) := by decide +kernel
theorem dX6_far_8 : decode cX6_far 8 = .ok (.invokestatic 199, 3) := by decide +kernel
theorem dX6_far_11 : decode cX6_far 11 = .ok (.ifCond .ne 5, 3) := by decide +kernel
theorem dX6_far_14 : decode cX6_far 14 = .ok (.iconst (-1), 1) := by decide +kernel
theorem dX6_far_15 : decode cX6_far 15 = .ok (.ireturn, 1) := by decide +kernel
theorem dX6_far_16 : decode cX6_far 16 = .ok (.iconst 1, 1) := by decide +kernel
theorem dX6_far_17 : decode cX6_far 17 = .ok (.istore_n 3, 1) := by decide +kernel
theorem dX6_far_18 : decode cX6_far 18 = .ok (.iload_n 3, 1) := by decide +kernel
theorem dX6_far_19 : decode cX6_far 19 = .ok (.iconst 4, 1) := by decide +kernel
theorem dX6_far_20 : decode cX6_far 20 = .ok (.if_icmp .gt 43, 3) := by decide +kernel
theorem dX6_far_23 : decode cX6_far 23 = .ok (.aload_n 0, 1) := by decide +kernel
theorem dX6_far_24 : decode cX6_far 24 = .ok (.invokevirtual 163, 3) := by decide +kernel
theorem dX6_far_27 : decode cX6_far 27 = .ok (.aload_n 0, 1) := by decide +kernel
theorem dX6_far_28 : decode cX6_far 28 = .ok (.getfield 13, 3) := by decide +kernel
theorem dX6_far_31 : decode cX6_far 31 = .ok (.bipush 46, 2) := by decide +kernel
theorem dX6_far_33 : decode cX6_far 33 = .ok (.iload_n 3, 1) := by decide +kernel
theorem dX6_far_34 : decode cX6_far 34 = .ok (.iastore, 1) := by decide +kernel
theorem dX6_far_35 : decode cX6_far 35 = .ok (.aload_n 0, 1) := by decide +kernel
theorem dX6_far_36 : decode cX6_far 36 = .ok (.iload_n 2, 1) := by decide +kernel
theorem dX6_far_37 : decode cX6_far 37 = .ok (.invokevirtual 202, 3) := by decide +kernel
theorem dX6_far_40 : decode cX6_far 40 = .ok (.aload_n 0, 1) := by decide +kernel
theorem dX6_far_41 : decode cX6_far 41 = .ok (.iload_n 1, 1) := by decide +kernel
theorem dX6_far_42 : decode cX6_far 42 = .ok (.invokevirtual 235, 3) := by decide +kernel
theorem dX6_far_45 : decode cX6_far 45 = .ok (.aload_n 0, 1) := by decide +kernel
theorem dX6_far_46 : decode cX6_far 46 = .ok (.getfield 13, 3) := by decide +kernel
theorem dX6_far_49 : decode cX6_far 49 = .ok (.bipush 45, 2) := by decide +kernel
theorem dX6_far_51 : decode cX6_far 51 = .ok (.iaload, 1) := by decide +kernel
theorem dX6_far_52 : decode cX6_far 52 = .ok (.if_icmp .ne 5, 3) := by decide +kernel
theorem dX6_far_55 : decode cX6_far 55 = .ok (.iload_n 3, 1) := by decide +kernel
theorem dX6_far_56 : decode cX6_far 56 = .ok (.ireturn, 1) := by decide +kernel
theorem dX6_far_57 : decode cX6_far 57 = .ok (.iinc 3 1, 3) := by decide +kernel
theorem dX6_far_60 : decode cX6_far 60 = .ok (.goto (-42), 3) := by decide +kernel
theorem dX6_far_63 : decode cX6_far 63 = .ok (.bipush (-4), 2) := by decide +kernel
theorem dX6_far_65 : decode cX6_far 65 = .ok (.ireturn, 1) := by decide +kernel
abbrev rmX6_far : Room := { frames := 5, cells := 0, slots := 0, locals := 115 }
def opX6_far (po : Int32 → px_St → Prop) : List (Nat × px_Op) := [
  (0, px_il 1 1),
  (1, px_callS 4 1 px_vI prX6_isSound poX6_isSound),
  (4, px_if 7 14 (fun x => x = 0)),
  (7, px_il 8 2),
  (8, px_callS 11 1 px_vI prX6_isFar poX6_isFar),
  (11, px_if 14 16 (fun x => ¬ x = 0)),
  (14, px_push 15 (.int (-1))),
  (15, px_iret (.int) po),
  (16, px_push 17 (.int 1)),
  (17, px_is 18 3),
  (18, px_il 19 3),
  (19, px_push 20 (.int 4)),
  (20, px_ic 23 63 (fun x y => y < x)),
  (23, px_al 24 0),
  (24, px_callV dM 27 6 0 px_vV prX6_starts poX6_starts),
  (27, px_al 28 0),
  (28, px_get dM 31 6 1),
  (31, px_push 33 (.int 46)),
  (33, px_il 34 3),
  (34, px_ast dM 35 0 (fun x => x)),
  (35, px_al 36 0),
  (36, px_il 37 2),
  (37, px_callV dM 40 6 1 px_vV prX6_daysGo poX6_daysGo),
  (40, px_al 41 0),
  (41, px_il 42 1),
  (42, px_callV dM 45 6 1 px_vI prX6_knowingMany poX6_knowingMany),
  (45, px_al 46 0),
  (46, px_get dM 49 6 1),
  (49, px_push 51 (.int 45)),
  (51, px_ald dM 52 0),
  (52, px_ic 55 57 (fun x y => ¬ x = y)),
  (55, px_il 56 3),
  (56, px_iret (.int) po),
  (57, px_inc 60 3 1),
  (60, px_go 18),
  (63, px_push 65 (.int (-4))),
  (65, px_iret (.int) po)]
set_option maxRecDepth 100000 in
set_option maxHeartbeats 4000000 in
theorem okX6_far : ∀ (po : Int32 → px_St → Prop) (i pc : Nat) (op : px_Op), (opX6_far po)[i]? = some (pc, op) → px_Snd (cX6_far, 4, RX6, Cond.code yX6_far cX6_far 4 (some .int) :: wdM, (some .int), rmX6_far, dM) px_vI po pc op := by
  intro po
  unfold opX6_far
  refine px_ok_cons (ps_iload_n dX6_far_0 rfl) ?_
  refine px_ok_cons (ps_callS mX6_isSound (fun _ _ => rfl) (fun _ _ ht => px_cwS wgM (wdM_3_in _ (List.mem_of_getElem? (i := 29) rfl)) (wdM_3_in _ (List.mem_of_getElem? (i := 30) rfl)) (wdM_0_in _ (List.mem_of_getElem? (i := 22) rfl)) (wdM_2_in _ (List.mem_of_getElem? (i := 4) rfl)) (by decide +kernel) rfl rfl (by decide) ht) dX6_far_1) ?_
  refine px_ok_cons (ps_if_eq dX6_far_4 (by decide)) ?_
  refine px_ok_cons (ps_iload_n dX6_far_7 rfl) ?_
  refine px_ok_cons (ps_callS mX6_isFar (fun _ _ => rfl) (fun _ _ ht => px_cwS wgM (wdM_4_in _ (List.mem_of_getElem? (i := 18) rfl)) (wdM_4_in _ (List.mem_of_getElem? (i := 19) rfl)) (wdM_0_in _ (List.mem_of_getElem? (i := 22) rfl)) (wdM_4_in _ (List.mem_of_getElem? (i := 16) rfl)) (by decide +kernel) rfl rfl (by decide) ht) dX6_far_8) ?_
  refine px_ok_cons (ps_if_ne dX6_far_11 (by decide)) ?_
  refine px_ok_cons (ps_iconst dX6_far_14 (by decide)) ?_
  refine px_ok_cons (ps_ireturn rfl dX6_far_15) ?_
  refine px_ok_cons (ps_iconst dX6_far_16 (by decide)) ?_
  refine px_ok_cons (ps_istore_n dX6_far_17 rfl (by decide)) ?_
  refine px_ok_cons (ps_iload_n dX6_far_18 rfl) ?_
  refine px_ok_cons (ps_iconst dX6_far_19 (by decide)) ?_
  refine px_ok_cons (ps_icmp_gt dX6_far_20 (by decide)) ?_
  refine px_ok_cons (ps_aload_n dX6_far_23 rfl) ?_
  refine px_ok_cons (ps_callV mX6_starts (fun _ _ => rfl) (C := RX6) rfl (fun _ _ ht => px_cwV wgM (wdM_3_in _ (List.mem_of_getElem? (i := 19) rfl)) (wdM_3_in _ (List.mem_of_getElem? (i := 20) rfl)) (wdM_3_in _ (List.mem_of_getElem? (i := 21) rfl)) (wdM_0_in _ (List.mem_of_getElem? (i := 22) rfl)) (wdM_2_in _ (List.mem_of_getElem? (i := 11) rfl)) (by decide +kernel) rfl rfl (by decide) ht) dX6_far_24) ?_
  refine px_ok_cons (ps_aload_n dX6_far_27 rfl) ?_
  refine px_ok_cons (fgX6_13 dX6_far_28) ?_
  refine px_ok_cons (ps_bipush dX6_far_31 (by decide)) ?_
  refine px_ok_cons (ps_iload_n dX6_far_33 rfl) ?_
  refine px_ok_cons (ps_iastore dX6_far_34) ?_
  refine px_ok_cons (ps_aload_n dX6_far_35 rfl) ?_
  refine px_ok_cons (ps_iload_n dX6_far_36 rfl) ?_
  refine px_ok_cons (ps_callV mX6_daysGo (fun _ _ => rfl) (C := RX6) rfl (fun _ _ ht => px_cwV wgM (wdM_4_in _ (List.mem_of_getElem? (i := 20) rfl)) (wdM_4_in _ (List.mem_of_getElem? (i := 21) rfl)) (wdM_4_in _ (List.mem_of_getElem? (i := 22) rfl)) (wdM_0_in _ (List.mem_of_getElem? (i := 22) rfl)) (wdM_3_in _ (List.mem_of_getElem? (i := 9) rfl)) (by decide +kernel) rfl rfl (by decide) ht) dX6_far_37) ?_
  refine px_ok_cons (ps_aload_n dX6_far_40 rfl) ?_
  refine px_ok_cons (ps_iload_n dX6_far_41 rfl) ?_
  refine px_ok_cons (ps_callV mX6_knowingMany (fun _ _ => rfl) (C := RX6) rfl (fun _ _ ht => px_cwV wgM (wdM_5_in _ (List.mem_of_getElem? (i := 19) rfl)) (wdM_5_in _ (List.mem_of_getElem? (i := 20) rfl)) (wdM_5_in _ (List.mem_of_getElem? (i := 21) rfl)) (wdM_0_in _ (List.mem_of_getElem? (i := 22) rfl)) (wdM_3_in _ (List.mem_of_getElem? (i := 15) rfl)) (by decide +kernel) rfl rfl (by decide) ht) dX6_far_42) ?_
  refine px_ok_cons (ps_aload_n dX6_far_45 rfl) ?_
  refine px_ok_cons (fgX6_13 dX6_far_46) ?_
  refine px_ok_cons (ps_bipush dX6_far_49 (by decide)) ?_
  refine px_ok_cons (ps_iaload dX6_far_51) ?_
  refine px_ok_cons (ps_icmp_ne dX6_far_52 (by decide)) ?_
  refine px_ok_cons (ps_iload_n dX6_far_55 rfl) ?_
  refine px_ok_cons (ps_ireturn rfl dX6_far_56) ?_
  refine px_ok_cons (ps_iinc dX6_far_57 (by decide) (by decide)) ?_
  refine px_ok_cons (ps_goto dX6_far_60 (by decide)) ?_
  refine px_ok_cons (ps_bipush dX6_far_63 (by decide)) ?_
  refine px_ok_cons (ps_ireturn rfl dX6_far_65) ?_
  exact px_ok_nil
set_option maxRecDepth 100000 in
set_option maxHeartbeats 4000000 in
theorem sgX6_far_0 {po : Int32 → px_St → Prop} {G : px_K} (hG : px_cl (opX6_far po) G) (v1 : Int32) (v2 : Int32) (σ : px_St)
    (H : ∃ g3 : gtX6_isSound, qrX6_isSound g3 v1 σ ∧ ∀ (r1 : Int32) (σ2 : px_St), qoX6_isSound g3 v1 σ r1 σ2 → ((r1 = 0) → po (-1 : Int32) σ2) ∧ (¬ (r1 = 0) → ∃ g7 : gtX6_isFar, qrX6_isFar g7 v2 σ2 ∧ ∀ (r5 : Int32) (σ6 : px_St), qoX6_isFar g7 v2 σ2 r5 σ6 → ((¬ r5 = 0) → G 18 [some (.ref 0), some (.int v1), some (.int v2), some (.int (1 : Int32))] [] σ6) ∧ (¬ (¬ r5 = 0) → po (-1 : Int32) σ6))) :
    G 0 (px_ent 4 [.ref 0, .int v1, .int v2]) [] σ := by
  refine hG.1 0 _ _ rfl _ _ _ ?_
  refine hG.1 1 _ _ rfl _ _ _ ?_
  obtain ⟨g3, H⟩ := H
  refine ⟨Nat.le_of_ble_eq_true rfl, Nat.le_of_ble_eq_true rfl, g3, ⟨_, rfl, H.1⟩, fun r1 σ2 hp4 => ?_⟩
  replace H := H.2 r1 σ2 hp4
  refine hG.1 2 _ _ rfl _ _ _ ?_
  refine ⟨fun h10 => ?_, fun h10 => ?_⟩
  · replace H := H.1 h10
    refine hG.1 6 _ _ rfl _ _ _ ?_
    refine hG.1 7 _ _ rfl _ _ _ ?_
    exact ⟨rfl, H⟩
  · replace H := H.2 h10
    refine hG.1 3 _ _ rfl _ _ _ ?_
    refine hG.1 4 _ _ rfl _ _ _ ?_
    obtain ⟨g7, H⟩ := H
    refine ⟨Nat.le_of_ble_eq_true rfl, Nat.le_of_ble_eq_true rfl, g7, ⟨_, rfl, H.1⟩, fun r5 σ6 hp8 => ?_⟩
    replace H := H.2 r5 σ6 hp8
    refine hG.1 5 _ _ rfl _ _ _ ?_
    refine ⟨fun h9 => ?_, fun h9 => ?_⟩
    · replace H := H.1 h9
      refine hG.1 8 _ _ rfl _ _ _ ?_
      refine hG.1 9 _ _ rfl _ _ _ ?_
      show G 18 [some (.ref 0), some (.int v1), some (.int v2), some (.int (1 : Int32))] [] σ6
      exact H
    · replace H := H.2 h9
      refine hG.1 6 _ _ rfl _ _ _ ?_
      refine hG.1 7 _ _ rfl _ _ _ ?_
      exact ⟨rfl, H⟩
set_option maxRecDepth 100000 in
set_option maxHeartbeats 4000000 in
theorem sgX6_far_18 {po : Int32 → px_St → Prop} {G : px_K} (hG : px_cl (opX6_far po) G) (v1 : Int32) (v2 : Int32) (v3 : Int32) (σ : px_St)
    (H : (((4 : Int32) < v3) → po (-4 : Int32) σ) ∧ (¬ ((4 : Int32) < v3) → ∃ g3 : gtX6_starts, qrX6_starts g3 σ ∧ ∀ (r1 : Unit) (σ2 : px_St), qoX6_starts g3 σ r1 σ2 → vp_in (46 : Int32) 61 ∧ ∃ g7 : gtX6_daysGo, qrX6_daysGo g7 v2 (px_up σ2 2 (46 : Int32).toNatClampNeg v3) ∧ ∀ (r5 : Unit) (σ6 : px_St), qoX6_daysGo g7 v2 (px_up σ2 2 (46 : Int32).toNatClampNeg v3) r5 σ6 → ∃ g11 : gtX6_knowingMany, qrX6_knowingMany g11 v1 σ6 ∧ ∀ (r9 : Int32) (σ10 : px_St), qoX6_knowingMany g11 v1 σ6 r9 σ10 → vp_in (45 : Int32) 61 ∧ ((¬ r9 = (σ10.1 2 (45 : Int32).toNatClampNeg)) → G 18 [some (.ref 0), some (.int v1), some (.int v2), some (.int (v3 + 1))] [] σ10) ∧ (¬ (¬ r9 = (σ10.1 2 (45 : Int32).toNatClampNeg)) → po v3 σ10))) :
    G 18 [some (.ref 0), some (.int v1), some (.int v2), some (.int v3)] [] σ := by
  refine hG.1 10 _ _ rfl _ _ _ ?_
  refine hG.1 11 _ _ rfl _ _ _ ?_
  refine hG.1 12 _ _ rfl _ _ _ ?_
  refine ⟨fun h14 => ?_, fun h14 => ?_⟩
  · replace H := H.1 h14
    refine hG.1 35 _ _ rfl _ _ _ ?_
    refine hG.1 36 _ _ rfl _ _ _ ?_
    exact ⟨rfl, H⟩
  · replace H := H.2 h14
    refine hG.1 13 _ _ rfl _ _ _ ?_
    refine hG.1 14 _ _ rfl _ _ _ ?_
    obtain ⟨g3, H⟩ := H
    refine ⟨⟨rfl, by decide⟩, Nat.le_of_ble_eq_true rfl, g3, ⟨rfl, H.1⟩, fun r1 σ2 hp4 => ?_⟩
    replace H := H.2 r1 σ2 hp4
    refine hG.1 15 _ _ rfl _ _ _ ?_
    refine hG.1 16 _ _ rfl _ _ _ ?_
    refine ⟨⟨rfl, by decide⟩, ?_⟩
    refine hG.1 17 _ _ rfl _ _ _ ?_
    refine hG.1 18 _ _ rfl _ _ _ ?_
    refine hG.1 19 _ _ rfl _ _ _ ?_
    refine ⟨⟨rfl, by decide⟩, H.1, ?_⟩
    replace H := H.2
    refine hG.1 20 _ _ rfl _ _ _ ?_
    refine hG.1 21 _ _ rfl _ _ _ ?_
    refine hG.1 22 _ _ rfl _ _ _ ?_
    obtain ⟨g7, H⟩ := H
    refine ⟨⟨rfl, by decide⟩, Nat.le_of_ble_eq_true rfl, g7, ⟨_, rfl, H.1⟩, fun r5 σ6 hp8 => ?_⟩
    replace H := H.2 r5 σ6 hp8
    refine hG.1 23 _ _ rfl _ _ _ ?_
    refine hG.1 24 _ _ rfl _ _ _ ?_
    refine hG.1 25 _ _ rfl _ _ _ ?_
    obtain ⟨g11, H⟩ := H
    refine ⟨⟨rfl, by decide⟩, Nat.le_of_ble_eq_true rfl, g11, ⟨_, rfl, H.1⟩, fun r9 σ10 hp12 => ?_⟩
    replace H := H.2 r9 σ10 hp12
    refine hG.1 26 _ _ rfl _ _ _ ?_
    refine hG.1 27 _ _ rfl _ _ _ ?_
    refine ⟨⟨rfl, by decide⟩, ?_⟩
    refine hG.1 28 _ _ rfl _ _ _ ?_
    refine hG.1 29 _ _ rfl _ _ _ ?_
    refine ⟨⟨rfl, by decide⟩, H.1, ?_⟩
    replace H := H.2
    refine hG.1 30 _ _ rfl _ _ _ ?_
    refine ⟨fun h13 => ?_, fun h13 => ?_⟩
    · replace H := H.1 h13
      refine hG.1 33 _ _ rfl _ _ _ ?_
      show G 60 [some (.ref 0), some (.int v1), some (.int v2), some (.int (v3 + 1))] [] σ10
      refine hG.1 34 _ _ rfl _ _ _ ?_
      exact H
    · replace H := H.2 h13
      refine hG.1 31 _ _ rfl _ _ _ ?_
      refine hG.1 32 _ _ rfl _ _ _ ?_
      exact ⟨rfl, H⟩
set_option maxRecDepth 100000 in
set_option maxHeartbeats 4000000 in
theorem hhX6_far (g : gtX6_far) (v1 : Int32) (v2 : Int32) (σ : px_St) (h : qrX6_far g v1 v2 σ) (G : px_K) (hG : px_cl (opX6_far (qoX6_far g v1 v2 σ)) G) : G 0 (px_ent 4 [.ref 0, .int v1, .int v2]) [] σ := by
  obtain ⟨hX, hok⟩ := h
  have hd := hok.1.2
  have hvk := hok.1.1
  have h5 := hvk.1.1
  refine sgX6_far_0 hG _ _ σ ⟨(), trivial, fun r1 σ1 h1 => ?_⟩
  obtain ⟨rfl, b1⟩ := h1
  refine bz2 b1 (fun z => ⟨(), trivial, fun r2 σ2 h2 => ?_⟩) (fun z => ?_)
  · obtain ⟨rfl, b2⟩ := h2
    refine bz1 b2 (fun x => ?_) (fun x => ?_)
    · obtain ⟨s, hs, rfl⟩ := (rngc 9 9 rfl (by omega)).mp z
      obtain ⟨n, hn, rfl⟩ := (rngc 60 60 rfl (by omega)).mp x
      have ex : (x_far g (nI s) (nI n)) = (pv_fr g.1 s n 4 1, g) := by
        unfold x_far
        rw [xif_t ⟨z, x⟩, nI_clamp (by omega), nI_clamp (by omega)]
      have loop : ∀ m v, v + m = 5 → 1 ≤ v → pv_fr g.1 s n 4 1 = pv_fr g.1 s n m v → ∀ σ', mk σ2 σ' → G 18 [some (.ref 0), some (.int (nI s)), some (.int (nI n)), some (.int (nI v))] [] σ' := by
        intro m
        induction m with
        | zero =>
          intro v hv h1 he σ' ho
          refine sgX6_far_18 hG _ _ _ σ' ⟨fun _ => ?_, fun q => absurd ((nIlt 4 v rfl rfl (by omega) (by omega)).mpr (by omega)) q⟩
          unfold qoX6_far
          rw [ex]
          exact ⟨he.symm, ho.mo hX⟩
        | succ m ih =>
          intro v hv h1 he σ' ho
          have hX' := ho.mo hX
          have hek : pv_ok (pv_ear g.1 v) := pv_ear_ok hvk h1 (by omega)
          refine sgX6_far_18 hG _ _ _ σ' ⟨fun q => absurd ((nIlt 4 v rfl rfl (by omega) (by omega)).mp q) (by omega), fun _ => ⟨(), trivial, fun _ σa ha => ?_⟩⟩
          have hVa := starts_mv ha hX'.1 hvk.1
          have hW2 : mv_is ((px_up σa 2 46 (nI v)).1 2) (pv_ear g.1 v) := by
            refine ⟨⟨?_, ?_, ?_⟩, fun p hp => (hVa.2 p hp).cg (hvk.1.2.2.2 p hp).2.1 (fun j a b => ?_)⟩
            · rw [px_up_at, if_neg (by omega)]; exact hVa.1.1
            · rw [px_up_at, if_pos ⟨rfl, rfl⟩]; rfl
            · rw [px_up_at, if_neg (by omega)]; exact hVa.1.2.2
            · have hp' : p < g.1.1 := hp
              rw [px_up_at, if_neg (by omega)]
          rw [c46, c45, nI_1]
          refine ⟨i61 46 rfl (by omega), (pv_ear g.1 v, n), ⟨hW2, hek, Nat.lt_of_le_of_lt hd (by omega), by omega, rfl⟩, fun _ σ5 hq5 => ?_⟩
          obtain ⟨p1, p2⟩ := hq5
          have hrk := pv_run_ok hek n (show g.1.2.2.1 + n < 2000 by omega)
          have hrn : (pv_run (pv_ear g.1 v) n).1 = g.1.1 := (pv_run_n (pv_ear g.1 v) n).1
          refine ⟨(pv_run (pv_ear g.1 v) n, s), ⟨p1, hrk.1, hs, rfl⟩, fun r6 σ6 hq6 => ?_⟩
          obtain ⟨rfl, rfl⟩ := hq6
          have hml := pv_many_le (pv_run (pv_ear g.1 v) n) s g.1.1
          have ho7 : mk σ2 σ6 := ((ho.tr (starts_mk ha)).tr mk.up2).tr p2.mk
          rw [p1.1.1, hrn]
          have ce : nI (pv_many (pv_run (pv_ear g.1 v) n) s g.1.1) = nI g.1.1 ↔ pv_many (pv_run (pv_ear g.1 v) n) s g.1.1 = g.1.1 := nI_eq (by omega) (by omega)
          rw [ce]
          change _ = (if pv_many (pv_run (pv_ear g.1 v) n) s g.1.1 = g.1.1 then nI v else pv_fr g.1 s n m (v + 1)) at he
          refine ⟨i61 45 rfl (by omega), fun q => ?_, fun q => ?_⟩
          · rw [if_neg q] at he
            exact ih (v + 1) (by omega) (by omega) he σ6 ho7
          · rw [if_pos (Classical.byContradiction q)] at he
            unfold qoX6_far
            rw [ex]
            exact ⟨he.symm, ho7.mo hX⟩
      exact loop 4 1 (by omega) (by omega) rfl σ2 mk.rf
    · unfold qoX6_far x_far
      rw [xif_f (fun q => x q.2)]
      exact ⟨rfl, hX⟩
  · unfold qoX6_far x_far
    rw [xif_f (fun q => z q.1)]
    exact ⟨rfl, hX⟩
theorem mX6_far (g : gtX6_far) : px_Met dM yX6_far (Cond.code yX6_far cX6_far 4 (some .int) :: wdM) rmX6_far px_vI (prX6_far g) (poX6_far g) :=
  px_met (Z := (cX6_far, 4, RX6, Cond.code yX6_far cX6_far 4 (some .int) :: wdM, (some .int), rmX6_far, dM)) opX6_far (by decide) rfl rfl okX6_far (fun As σ h => by obtain ⟨v1, v2, rfl, h⟩ := h; exact Nat.le_of_ble_eq_true rfl) (fun As σ h G hG => by obtain ⟨v1, v2, rfl, h⟩ := h; exact hhX6_far g v1 v2 σ h G hG)
abbrev gtX6_kind : Type := pv_X
def qrX6_kind (X : pv_X) (_ _ _ _ : Int32) (σ : px_St) : Prop := mo_is σ X ∧ xo X
def qoX6_kind (X : pv_X) (p s n w : Int32) (_ : px_St) (r : Int32) (σ' : px_St) : Prop := r = (x_kind X p s n w).1 ∧ mo_is σ' (x_kind X p s n w).2
def prX6_kind (g : gtX6_kind) : List Value → px_St → Prop := fun As σ => ∃ v1 : Int32, ∃ v2 : Int32, ∃ v3 : Int32, ∃ v4 : Int32, As = [.ref 0, .int v1, .int v2, .int v3, .int v4] ∧ qrX6_kind g v1 v2 v3 v4 σ
def poX6_kind (g : gtX6_kind) : List Value → px_St → Int32 → px_St → Prop
  | [.ref _, .int v1, .int v2, .int v3, .int v4], σ, r, σ' => qoX6_kind g v1 v2 v3 v4 σ r σ'
  | _, _, _, _ => False
theorem dX6_kind_0 : decode cX6_kind 0 = .ok (.aload_n 0, 1) := by decide +kernel
theorem dX6_kind_1 : decode cX6_kind 1 = .ok (.iload_n 1, 1) := by decide +kernel
theorem dX6_kind_2 : decode cX6_kind 2 = .ok (.invokevirtual 126, 3) := by decide +kernel
theorem dX6_kind_5 : decode cX6_kind 5 = .ok (.ifCond .eq 25, 3) := by decide +kernel
theorem dX6_kind_8 : decode cX6_kind 8 = .ok (.iload_n 2, 1) := by decide +kernel
theorem dX6_kind_9 : decode cX6_kind 9 = .ok (.invokestatic 175, 3) := by decide +kernel
theorem dX6_kind_12 : decode cX6_kind 12 = .ok (.ifCond .eq 18, 3) := by decide +kernel
theorem dX6_kind_15 : decode cX6_kind 15 = .ok (.iload_n 3, 1) := by decide +kernel
theorem dX6_kind_16 : decode cX6_kind 16 = .ok (.invokestatic 199, 3) := by decide +kernel
theorem dX6_kind_19 : decode cX6_kind 19 = .ok (.ifCond .eq 11, 3) := by decide +kernel
theorem dX6_kind_22 : decode cX6_kind 22 = .ok (.iload 4, 2) := by decide +kernel
theorem dX6_kind_24 : decode cX6_kind 24 = .ok (.invokestatic 219, 3) := by decide +kernel
theorem dX6_kind_27 : decode cX6_kind 27 = .ok (.ifCond .ne 5, 3) := by decide +kernel
theorem dX6_kind_30 : decode cX6_kind 30 = .ok (.iconst (-1), 1) := by decide +kernel
theorem dX6_kind_31 : decode cX6_kind 31 = .ok (.ireturn, 1) := by decide +kernel
theorem dX6_kind_32 : decode cX6_kind 32 = .ok (.aload_n 0, 1) := by decide +kernel
theorem dX6_kind_33 : decode cX6_kind 33 = .ok (.iconst 1, 1) := by decide +kernel
theorem dX6_kind_34 : decode cX6_kind 34 = .ok (.invokevirtual 222, 3) := by decide +kernel
theorem dX6_kind_37 : decode cX6_kind 37 = .ok (.iconst 0, 1) := by decide +kernel
theorem dX6_kind_38 : decode cX6_kind 38 = .ok (.istore 5, 2) := by decide +kernel
theorem dX6_kind_40 : decode cX6_kind 40 = .ok (.iload 5, 2) := by decide +kernel
theorem dX6_kind_42 : decode cX6_kind 42 = .ok (.iconst 4, 1) := by decide +kernel
theorem dX6_kind_43 : decode cX6_kind 43 = .ok (.if_icmp .ge 34, 3) := by decide +kernel
theorem dX6_kind_46 : decode cX6_kind 46 = .ok (.aload_n 0, 1) := by decide +kernel
theorem dX6_kind_47 : decode cX6_kind 47 = .ok (.invokevirtual 163, 3) := by decide +kernel
theorem dX6_kind_50 : decode cX6_kind 50 = .ok (.aload_n 0, 1) := by decide +kernel
theorem dX6_kind_51 : decode cX6_kind 51 = .ok (.iload_n 1, 1) := by decide +kernel
theorem dX6_kind_52 : decode cX6_kind 52 = .ok (.iconst 0, 1) := by decide +kernel
theorem dX6_kind_53 : decode cX6_kind 53 = .ok (.iload 5, 2) := by decide +kernel
theorem dX6_kind_55 : decode cX6_kind 55 = .ok (.invokevirtual 133, 3) := by decide +kernel
theorem dX6_kind_58 : decode cX6_kind 58 = .ok (.aload_n 0, 1) := by decide +kernel
theorem dX6_kind_59 : decode cX6_kind 59 = .ok (.iload 5, 2) := by decide +kernel
theorem dX6_kind_61 : decode cX6_kind 61 = .ok (.aload_n 0, 1) := by decide +kernel
theorem dX6_kind_62 : decode cX6_kind 62 = .ok (.iload_n 2, 1) := by decide +kernel
theorem dX6_kind_63 : decode cX6_kind 63 = .ok (.iload_n 3, 1) := by decide +kernel
theorem dX6_kind_64 : decode cX6_kind 64 = .ok (.invokevirtual 208, 3) := by decide +kernel
theorem dX6_kind_67 : decode cX6_kind 67 = .ok (.ineg, 1) := by decide +kernel
theorem dX6_kind_68 : decode cX6_kind 68 = .ok (.invokevirtual 225, 3) := by decide +kernel
theorem dX6_kind_71 : decode cX6_kind 71 = .ok (.iinc 5 1, 3) := by decide +kernel
theorem dX6_kind_74 : decode cX6_kind 74 = .ok (.goto (-34), 3) := by decide +kernel
theorem dX6_kind_77 : decode cX6_kind 77 = .ok (.iload 4, 2) := by decide +kernel
theorem dX6_kind_79 : decode cX6_kind 79 = .ok (.ifCond .ne 10, 3) := by decide +kernel
theorem dX6_kind_82 : decode cX6_kind 82 = .ok (.aload_n 0, 1) := by decide +kernel
theorem dX6_kind_83 : decode cX6_kind 83 = .ok (.getfield 213, 3) := by decide +kernel
theorem dX6_kind_86 : decode cX6_kind 86 = .ok (.goto 8, 3) := by decide +kernel
theorem dX6_kind_89 : decode cX6_kind 89 = .ok (.aload_n 0, 1) := by decide +kernel
theorem dX6_kind_90 : decode cX6_kind 90 = .ok (.getfield 216, 3) := by decide +kernel
theorem dX6_kind_93 : decode cX6_kind 93 = .ok (.ineg, 1) := by decide +kernel
theorem dX6_kind_94 : decode cX6_kind 94 = .ok (.ireturn, 1) := by decide +kernel
abbrev rmX6_kind : Room := { frames := 5, cells := 0, slots := 0, locals := 117 }
def opX6_kind (po : Int32 → px_St → Prop) : List (Nat × px_Op) := [
  (0, px_al 1 0),
  (1, px_il 2 1),
  (2, px_callV dM 5 6 1 px_vI prX6_isParrot poX6_isParrot),
  (5, px_if 8 30 (fun x => x = 0)),
  (8, px_il 9 2),
  (9, px_callS 12 1 px_vI prX6_isSound poX6_isSound),
  (12, px_if 15 30 (fun x => x = 0)),
  (15, px_il 16 3),
  (16, px_callS 19 1 px_vI prX6_isFar poX6_isFar),
  (19, px_if 22 30 (fun x => x = 0)),
  (22, px_il 24 4),
  (24, px_callS 27 1 px_vI prX6_isPart poX6_isPart),
  (27, px_if 30 32 (fun x => ¬ x = 0)),
  (30, px_push 31 (.int (-1))),
  (31, px_iret (.int) po),
  (32, px_al 33 0),
  (33, px_push 34 (.int 1)),
  (34, px_callV dM 37 6 1 px_vV prX6_startsJudging poX6_startsJudging),
  (37, px_push 38 (.int 0)),
  (38, px_is 40 5),
  (40, px_il 42 5),
  (42, px_push 43 (.int 4)),
  (43, px_ic 46 77 (fun x y => y ≤ x)),
  (46, px_al 47 0),
  (47, px_callV dM 50 6 0 px_vV prX6_starts poX6_starts),
  (50, px_al 51 0),
  (51, px_il 52 1),
  (52, px_push 53 (.int 0)),
  (53, px_il 55 5),
  (55, px_callV dM 58 6 3 px_vV prX6_becomesOf poX6_becomesOf),
  (58, px_al 59 0),
  (59, px_il 61 5),
  (61, px_al 62 0),
  (62, px_il 63 2),
  (63, px_il 64 3),
  (64, px_callV dM 67 6 2 px_vI prX6_oftenIn poX6_oftenIn),
  (67, px_un 68 (fun x => -x)),
  (68, px_callV dM 71 6 2 px_vV prX6_judges poX6_judges),
  (71, px_inc 74 5 1),
  (74, px_go 40),
  (77, px_il 79 4),
  (79, px_if 82 89 (fun x => ¬ x = 0)),
  (82, px_al 83 0),
  (83, px_get dM 86 6 13),
  (86, px_go 94),
  (89, px_al 90 0),
  (90, px_get dM 93 6 14),
  (93, px_un 94 (fun x => -x)),
  (94, px_iret (.int) po)]
set_option maxRecDepth 100000 in
set_option maxHeartbeats 4000000 in
theorem okX6_kind : ∀ (po : Int32 → px_St → Prop) (i pc : Nat) (op : px_Op), (opX6_kind po)[i]? = some (pc, op) → px_Snd (cX6_kind, 6, RX6, Cond.code yX6_kind cX6_kind 6 (some .int) :: wdM, (some .int), rmX6_kind, dM) px_vI po pc op := by
  intro po
  unfold opX6_kind
  refine px_ok_cons (ps_aload_n dX6_kind_0 rfl) ?_
  refine px_ok_cons (ps_iload_n dX6_kind_1 rfl) ?_
  refine px_ok_cons (ps_callV mX6_isParrot (fun _ _ => rfl) (C := RX6) rfl (fun _ _ ht => px_cwV wgM (wdM_2_in _ (List.mem_of_getElem? (i := 7) rfl)) (wdM_2_in _ (List.mem_of_getElem? (i := 8) rfl)) (wdM_2_in _ (List.mem_of_getElem? (i := 9) rfl)) (wdM_0_in _ (List.mem_of_getElem? (i := 22) rfl)) (wdM_2_in _ (List.mem_of_getElem? (i := 3) rfl)) (by decide +kernel) rfl rfl (by decide) ht) dX6_kind_2) ?_
  refine px_ok_cons (ps_if_eq dX6_kind_5 (by decide)) ?_
  refine px_ok_cons (ps_iload_n dX6_kind_8 rfl) ?_
  refine px_ok_cons (ps_callS mX6_isSound (fun _ _ => rfl) (fun _ _ ht => px_cwS wgM (wdM_3_in _ (List.mem_of_getElem? (i := 29) rfl)) (wdM_3_in _ (List.mem_of_getElem? (i := 30) rfl)) (wdM_0_in _ (List.mem_of_getElem? (i := 22) rfl)) (wdM_2_in _ (List.mem_of_getElem? (i := 4) rfl)) (by decide +kernel) rfl rfl (by decide) ht) dX6_kind_9) ?_
  refine px_ok_cons (ps_if_eq dX6_kind_12 (by decide)) ?_
  refine px_ok_cons (ps_iload_n dX6_kind_15 rfl) ?_
  refine px_ok_cons (ps_callS mX6_isFar (fun _ _ => rfl) (fun _ _ ht => px_cwS wgM (wdM_4_in _ (List.mem_of_getElem? (i := 18) rfl)) (wdM_4_in _ (List.mem_of_getElem? (i := 19) rfl)) (wdM_0_in _ (List.mem_of_getElem? (i := 22) rfl)) (wdM_4_in _ (List.mem_of_getElem? (i := 16) rfl)) (by decide +kernel) rfl rfl (by decide) ht) dX6_kind_16) ?_
  refine px_ok_cons (ps_if_eq dX6_kind_19 (by decide)) ?_
  refine px_ok_cons (ps_iload dX6_kind_22) ?_
  refine px_ok_cons (ps_callS mX6_isPart (fun _ _ => rfl) (fun _ _ ht => px_cwS wgM (wdM_4_in _ (List.mem_of_getElem? (i := 39) rfl)) (wdM_5_in _ (List.mem_of_getElem? (i := 0) rfl)) (wdM_0_in _ (List.mem_of_getElem? (i := 22) rfl)) (wdM_2_in _ (List.mem_of_getElem? (i := 10) rfl)) (by decide +kernel) rfl rfl (by decide) ht) dX6_kind_24) ?_
  refine px_ok_cons (ps_if_ne dX6_kind_27 (by decide)) ?_
  refine px_ok_cons (ps_iconst dX6_kind_30 (by decide)) ?_
  refine px_ok_cons (ps_ireturn rfl dX6_kind_31) ?_
  refine px_ok_cons (ps_aload_n dX6_kind_32 rfl) ?_
  refine px_ok_cons (ps_iconst dX6_kind_33 (by decide)) ?_
  refine px_ok_cons (ps_callV mX6_startsJudging (fun _ _ => rfl) (C := RX6) rfl (fun _ _ ht => px_cwV wgM (wdM_5_in _ (List.mem_of_getElem? (i := 1) rfl)) (wdM_5_in _ (List.mem_of_getElem? (i := 2) rfl)) (wdM_5_in _ (List.mem_of_getElem? (i := 3) rfl)) (wdM_0_in _ (List.mem_of_getElem? (i := 22) rfl)) (wdM_4_in _ (List.mem_of_getElem? (i := 35) rfl)) (by decide +kernel) rfl rfl (by decide) ht) dX6_kind_34) ?_
  refine px_ok_cons (ps_iconst dX6_kind_37 (by decide)) ?_
  refine px_ok_cons (ps_istore dX6_kind_38 (by decide)) ?_
  refine px_ok_cons (ps_iload dX6_kind_40) ?_
  refine px_ok_cons (ps_iconst dX6_kind_42 (by decide)) ?_
  refine px_ok_cons (ps_icmp_ge dX6_kind_43 (by decide)) ?_
  refine px_ok_cons (ps_aload_n dX6_kind_46 rfl) ?_
  refine px_ok_cons (ps_callV mX6_starts (fun _ _ => rfl) (C := RX6) rfl (fun _ _ ht => px_cwV wgM (wdM_3_in _ (List.mem_of_getElem? (i := 19) rfl)) (wdM_3_in _ (List.mem_of_getElem? (i := 20) rfl)) (wdM_3_in _ (List.mem_of_getElem? (i := 21) rfl)) (wdM_0_in _ (List.mem_of_getElem? (i := 22) rfl)) (wdM_2_in _ (List.mem_of_getElem? (i := 11) rfl)) (by decide +kernel) rfl rfl (by decide) ht) dX6_kind_47) ?_
  refine px_ok_cons (ps_aload_n dX6_kind_50 rfl) ?_
  refine px_ok_cons (ps_iload_n dX6_kind_51 rfl) ?_
  refine px_ok_cons (ps_iconst dX6_kind_52 (by decide)) ?_
  refine px_ok_cons (ps_iload dX6_kind_53) ?_
  refine px_ok_cons (ps_callV mX6_becomesOf (fun _ _ => rfl) (C := RX6) rfl (fun _ _ ht => px_cwV wgM (wdM_2_in _ (List.mem_of_getElem? (i := 21) rfl)) (wdM_2_in _ (List.mem_of_getElem? (i := 22) rfl)) (wdM_2_in _ (List.mem_of_getElem? (i := 23) rfl)) (wdM_0_in _ (List.mem_of_getElem? (i := 22) rfl)) (wdM_2_in _ (List.mem_of_getElem? (i := 14) rfl)) (by decide +kernel) rfl rfl (by decide) ht) dX6_kind_55) ?_
  refine px_ok_cons (ps_aload_n dX6_kind_58 rfl) ?_
  refine px_ok_cons (ps_iload dX6_kind_59) ?_
  refine px_ok_cons (ps_aload_n dX6_kind_61 rfl) ?_
  refine px_ok_cons (ps_iload_n dX6_kind_62 rfl) ?_
  refine px_ok_cons (ps_iload_n dX6_kind_63 rfl) ?_
  refine px_ok_cons (ps_callV mX6_oftenIn (fun _ _ => rfl) (C := RX6) rfl (fun _ _ ht => px_cwV wgM (wdM_4_in _ (List.mem_of_getElem? (i := 28) rfl)) (wdM_4_in _ (List.mem_of_getElem? (i := 29) rfl)) (wdM_4_in _ (List.mem_of_getElem? (i := 30) rfl)) (wdM_0_in _ (List.mem_of_getElem? (i := 22) rfl)) (wdM_3_in _ (List.mem_of_getElem? (i := 12) rfl)) (by decide +kernel) rfl rfl (by decide) ht) dX6_kind_64) ?_
  refine px_ok_cons (ps_ineg dX6_kind_67) ?_
  refine px_ok_cons (ps_callV mX6_judges (fun _ _ => rfl) (C := RX6) rfl (fun _ _ ht => px_cwV wgM (wdM_5_in _ (List.mem_of_getElem? (i := 4) rfl)) (wdM_5_in _ (List.mem_of_getElem? (i := 5) rfl)) (wdM_5_in _ (List.mem_of_getElem? (i := 6) rfl)) (wdM_0_in _ (List.mem_of_getElem? (i := 22) rfl)) (wdM_4_in _ (List.mem_of_getElem? (i := 38) rfl)) (by decide +kernel) rfl rfl (by decide) ht) dX6_kind_68) ?_
  refine px_ok_cons (ps_iinc dX6_kind_71 (by decide) (by decide)) ?_
  refine px_ok_cons (ps_goto dX6_kind_74 (by decide)) ?_
  refine px_ok_cons (ps_iload dX6_kind_77) ?_
  refine px_ok_cons (ps_if_ne dX6_kind_79 (by decide)) ?_
  refine px_ok_cons (ps_aload_n dX6_kind_82 rfl) ?_
  refine px_ok_cons (fgX6_213 dX6_kind_83) ?_
  refine px_ok_cons (ps_goto dX6_kind_86 (by decide)) ?_
  refine px_ok_cons (ps_aload_n dX6_kind_89 rfl) ?_
  refine px_ok_cons (fgX6_216 dX6_kind_90) ?_
  refine px_ok_cons (ps_ineg dX6_kind_93) ?_
  refine px_ok_cons (ps_ireturn rfl dX6_kind_94) ?_
  exact px_ok_nil
set_option maxRecDepth 100000 in
set_option maxHeartbeats 4000000 in
theorem sgX6_kind_0 {po : Int32 → px_St → Prop} {G : px_K} (hG : px_cl (opX6_kind po) G) (v1 : Int32) (v2 : Int32) (v3 : Int32) (v4 : Int32) (σ : px_St)
    (H : ∃ g3 : gtX6_isParrot, qrX6_isParrot g3 v1 σ ∧ ∀ (r1 : Int32) (σ2 : px_St), qoX6_isParrot g3 v1 σ r1 σ2 → ((r1 = 0) → po (-1 : Int32) σ2) ∧ (¬ (r1 = 0) → ∃ g7 : gtX6_isSound, qrX6_isSound g7 v2 σ2 ∧ ∀ (r5 : Int32) (σ6 : px_St), qoX6_isSound g7 v2 σ2 r5 σ6 → ((r5 = 0) → po (-1 : Int32) σ6) ∧ (¬ (r5 = 0) → ∃ g11 : gtX6_isFar, qrX6_isFar g11 v3 σ6 ∧ ∀ (r9 : Int32) (σ10 : px_St), qoX6_isFar g11 v3 σ6 r9 σ10 → ((r9 = 0) → po (-1 : Int32) σ10) ∧ (¬ (r9 = 0) → ∃ g15 : gtX6_isPart, qrX6_isPart g15 v4 σ10 ∧ ∀ (r13 : Int32) (σ14 : px_St), qoX6_isPart g15 v4 σ10 r13 σ14 → ((¬ r13 = 0) → ∃ g19 : gtX6_startsJudging, qrX6_startsJudging g19 (1 : Int32) σ14 ∧ ∀ (r17 : Unit) (σ18 : px_St), qoX6_startsJudging g19 (1 : Int32) σ14 r17 σ18 → G 40 [some (.ref 0), some (.int v1), some (.int v2), some (.int v3), some (.int v4), some (.int (0 : Int32))] [] σ18) ∧ (¬ (¬ r13 = 0) → po (-1 : Int32) σ14))))) :
    G 0 (px_ent 6 [.ref 0, .int v1, .int v2, .int v3, .int v4]) [] σ := by
  refine hG.1 0 _ _ rfl _ _ _ ?_
  refine hG.1 1 _ _ rfl _ _ _ ?_
  refine hG.1 2 _ _ rfl _ _ _ ?_
  obtain ⟨g3, H⟩ := H
  refine ⟨⟨rfl, by decide⟩, Nat.le_of_ble_eq_true rfl, g3, ⟨_, rfl, H.1⟩, fun r1 σ2 hp4 => ?_⟩
  replace H := H.2 r1 σ2 hp4
  refine hG.1 3 _ _ rfl _ _ _ ?_
  refine ⟨fun h24 => ?_, fun h24 => ?_⟩
  · replace H := H.1 h24
    refine hG.1 13 _ _ rfl _ _ _ ?_
    refine hG.1 14 _ _ rfl _ _ _ ?_
    exact ⟨rfl, H⟩
  · replace H := H.2 h24
    refine hG.1 4 _ _ rfl _ _ _ ?_
    refine hG.1 5 _ _ rfl _ _ _ ?_
    obtain ⟨g7, H⟩ := H
    refine ⟨Nat.le_of_ble_eq_true rfl, Nat.le_of_ble_eq_true rfl, g7, ⟨_, rfl, H.1⟩, fun r5 σ6 hp8 => ?_⟩
    replace H := H.2 r5 σ6 hp8
    refine hG.1 6 _ _ rfl _ _ _ ?_
    refine ⟨fun h23 => ?_, fun h23 => ?_⟩
    · replace H := H.1 h23
      refine hG.1 13 _ _ rfl _ _ _ ?_
      refine hG.1 14 _ _ rfl _ _ _ ?_
      exact ⟨rfl, H⟩
    · replace H := H.2 h23
      refine hG.1 7 _ _ rfl _ _ _ ?_
      refine hG.1 8 _ _ rfl _ _ _ ?_
      obtain ⟨g11, H⟩ := H
      refine ⟨Nat.le_of_ble_eq_true rfl, Nat.le_of_ble_eq_true rfl, g11, ⟨_, rfl, H.1⟩, fun r9 σ10 hp12 => ?_⟩
      replace H := H.2 r9 σ10 hp12
      refine hG.1 9 _ _ rfl _ _ _ ?_
      refine ⟨fun h22 => ?_, fun h22 => ?_⟩
      · replace H := H.1 h22
        refine hG.1 13 _ _ rfl _ _ _ ?_
        refine hG.1 14 _ _ rfl _ _ _ ?_
        exact ⟨rfl, H⟩
      · replace H := H.2 h22
        refine hG.1 10 _ _ rfl _ _ _ ?_
        refine hG.1 11 _ _ rfl _ _ _ ?_
        obtain ⟨g15, H⟩ := H
        refine ⟨Nat.le_of_ble_eq_true rfl, Nat.le_of_ble_eq_true rfl, g15, ⟨_, rfl, H.1⟩, fun r13 σ14 hp16 => ?_⟩
        replace H := H.2 r13 σ14 hp16
        refine hG.1 12 _ _ rfl _ _ _ ?_
        refine ⟨fun h21 => ?_, fun h21 => ?_⟩
        · replace H := H.1 h21
          refine hG.1 15 _ _ rfl _ _ _ ?_
          refine hG.1 16 _ _ rfl _ _ _ ?_
          refine hG.1 17 _ _ rfl _ _ _ ?_
          obtain ⟨g19, H⟩ := H
          refine ⟨⟨rfl, by decide⟩, Nat.le_of_ble_eq_true rfl, g19, ⟨_, rfl, H.1⟩, fun r17 σ18 hp20 => ?_⟩
          replace H := H.2 r17 σ18 hp20
          refine hG.1 18 _ _ rfl _ _ _ ?_
          refine hG.1 19 _ _ rfl _ _ _ ?_
          show G 40 [some (.ref 0), some (.int v1), some (.int v2), some (.int v3), some (.int v4), some (.int (0 : Int32))] [] σ18
          exact H
        · replace H := H.2 h21
          refine hG.1 13 _ _ rfl _ _ _ ?_
          refine hG.1 14 _ _ rfl _ _ _ ?_
          exact ⟨rfl, H⟩
set_option maxRecDepth 100000 in
set_option maxHeartbeats 4000000 in
theorem sgX6_kind_40 {po : Int32 → px_St → Prop} {G : px_K} (hG : px_cl (opX6_kind po) G) (v1 : Int32) (v2 : Int32) (v3 : Int32) (v4 : Int32) (v5 : Int32) (σ : px_St)
    (H : (((4 : Int32) ≤ v5) → ((¬ v4 = 0) → po (-(σ.1 0 14)) σ) ∧ (¬ (¬ v4 = 0) → po (σ.1 0 13) σ)) ∧ (¬ ((4 : Int32) ≤ v5) → ∃ g4 : gtX6_starts, qrX6_starts g4 σ ∧ ∀ (r2 : Unit) (σ3 : px_St), qoX6_starts g4 σ r2 σ3 → ∃ g8 : gtX6_becomesOf, qrX6_becomesOf g8 v1 (0 : Int32) v5 σ3 ∧ ∀ (r6 : Unit) (σ7 : px_St), qoX6_becomesOf g8 v1 (0 : Int32) v5 σ3 r6 σ7 → ∃ g12 : gtX6_oftenIn, qrX6_oftenIn g12 v2 v3 σ7 ∧ ∀ (r10 : Int32) (σ11 : px_St), qoX6_oftenIn g12 v2 v3 σ7 r10 σ11 → ∃ g16 : gtX6_judges, qrX6_judges g16 v5 (-r10) σ11 ∧ ∀ (r14 : Unit) (σ15 : px_St), qoX6_judges g16 v5 (-r10) σ11 r14 σ15 → G 40 [some (.ref 0), some (.int v1), some (.int v2), some (.int v3), some (.int v4), some (.int (v5 + 1))] [] σ15)) :
    G 40 [some (.ref 0), some (.int v1), some (.int v2), some (.int v3), some (.int v4), some (.int v5)] [] σ := by
  refine hG.1 20 _ _ rfl _ _ _ ?_
  refine hG.1 21 _ _ rfl _ _ _ ?_
  refine hG.1 22 _ _ rfl _ _ _ ?_
  refine ⟨fun h18 => ?_, fun h18 => ?_⟩
  · replace H := H.1 h18
    refine hG.1 40 _ _ rfl _ _ _ ?_
    refine hG.1 41 _ _ rfl _ _ _ ?_
    refine ⟨fun h1 => ?_, fun h1 => ?_⟩
    · replace H := H.1 h1
      refine hG.1 45 _ _ rfl _ _ _ ?_
      refine hG.1 46 _ _ rfl _ _ _ ?_
      refine ⟨⟨rfl, by decide⟩, ?_⟩
      refine hG.1 47 _ _ rfl _ _ _ ?_
      refine hG.1 48 _ _ rfl _ _ _ ?_
      exact ⟨rfl, H⟩
    · replace H := H.2 h1
      refine hG.1 42 _ _ rfl _ _ _ ?_
      refine hG.1 43 _ _ rfl _ _ _ ?_
      refine ⟨⟨rfl, by decide⟩, ?_⟩
      refine hG.1 44 _ _ rfl _ _ _ ?_
      refine hG.1 48 _ _ rfl _ _ _ ?_
      exact ⟨rfl, H⟩
  · replace H := H.2 h18
    refine hG.1 23 _ _ rfl _ _ _ ?_
    refine hG.1 24 _ _ rfl _ _ _ ?_
    obtain ⟨g4, H⟩ := H
    refine ⟨⟨rfl, by decide⟩, Nat.le_of_ble_eq_true rfl, g4, ⟨rfl, H.1⟩, fun r2 σ3 hp5 => ?_⟩
    replace H := H.2 r2 σ3 hp5
    refine hG.1 25 _ _ rfl _ _ _ ?_
    refine hG.1 26 _ _ rfl _ _ _ ?_
    refine hG.1 27 _ _ rfl _ _ _ ?_
    refine hG.1 28 _ _ rfl _ _ _ ?_
    refine hG.1 29 _ _ rfl _ _ _ ?_
    obtain ⟨g8, H⟩ := H
    refine ⟨⟨rfl, by decide⟩, Nat.le_of_ble_eq_true rfl, g8, ⟨_, _, _, rfl, H.1⟩, fun r6 σ7 hp9 => ?_⟩
    replace H := H.2 r6 σ7 hp9
    refine hG.1 30 _ _ rfl _ _ _ ?_
    refine hG.1 31 _ _ rfl _ _ _ ?_
    refine hG.1 32 _ _ rfl _ _ _ ?_
    refine hG.1 33 _ _ rfl _ _ _ ?_
    refine hG.1 34 _ _ rfl _ _ _ ?_
    refine hG.1 35 _ _ rfl _ _ _ ?_
    obtain ⟨g12, H⟩ := H
    refine ⟨⟨rfl, by decide⟩, Nat.le_of_ble_eq_true rfl, g12, ⟨_, _, rfl, H.1⟩, fun r10 σ11 hp13 => ?_⟩
    replace H := H.2 r10 σ11 hp13
    refine hG.1 36 _ _ rfl _ _ _ ?_
    refine hG.1 37 _ _ rfl _ _ _ ?_
    obtain ⟨g16, H⟩ := H
    refine ⟨⟨rfl, by decide⟩, Nat.le_of_ble_eq_true rfl, g16, ⟨_, _, rfl, H.1⟩, fun r14 σ15 hp17 => ?_⟩
    replace H := H.2 r14 σ15 hp17
    refine hG.1 38 _ _ rfl _ _ _ ?_
    show G 74 [some (.ref 0), some (.int v1), some (.int v2), some (.int v3), some (.int v4), some (.int (v5 + 1))] [] σ15
    refine hG.1 39 _ _ rfl _ _ _ ?_
    exact H
set_option maxRecDepth 100000 in
set_option maxHeartbeats 4000000 in
theorem hhX6_kind (g : gtX6_kind) (v1 : Int32) (v2 : Int32) (v3 : Int32) (v4 : Int32) (σ : px_St) (h : qrX6_kind g v1 v2 v3 v4 σ) (G : px_K) (hG : px_cl (opX6_kind (qoX6_kind g v1 v2 v3 v4 σ)) G) : G 0 (px_ent 6 [.ref 0, .int v1, .int v2, .int v3, .int v4]) [] σ := by
  obtain ⟨hX, hok⟩ := h
  have hd := hok.1.2
  have hvk := hok.1.1
  have h5 := hvk.1.1
  refine sgX6_kind_0 hG _ _ _ _ σ ⟨g.1, hX.1, fun r1 σ1 h1 => ?_⟩
  obtain ⟨rfl, b1⟩ := h1
  refine bz2 b1 (fun t => ⟨(), trivial, fun r2 σ2 h2 => ?_⟩) (fun t => ?_)
  · obtain ⟨rfl, b2⟩ := h2
    refine bz2 b2 (fun z => ⟨(), trivial, fun r3 σ3 h3 => ?_⟩) (fun z => ?_)
    · obtain ⟨rfl, b3⟩ := h3
      refine bz2 b3 (fun y => ⟨(), trivial, fun r4 σ4 h4 => ?_⟩) (fun y => ?_)
      · obtain ⟨rfl, b4⟩ := h4
        refine bz1 b4 (fun x => ⟨(), trivial, fun _ σ5 hs5 => ?_⟩) (fun x => ?_)
        · obtain ⟨p, hp, rfl⟩ := (rng1 (by omega)).mp t
          obtain ⟨s, hs, rfl⟩ := (rngc 9 9 rfl (by omega)).mp z
          obtain ⟨n, hn, rfl⟩ := (rngc 60 60 rfl (by omega)).mp y
          obtain ⟨f, hf⟩ : ∃ f : Nat → Nat, f = fun v => pv_times (pv_knd g.1 p v) s n := ⟨_, rfl⟩
          have ex : (x_kind g (nI p) (nI s) (nI n) v4) = (if v4 = 0 then nI (pv_bk f 3).1 else nI (pv_bk f 3).2, g) := by
            unfold x_kind
            rw [xif_t ⟨t, z, y, x⟩, nI_clamp (by omega), nI_clamp (by omega), nI_clamp (by omega), hf]
          have hfl : ∀ j, f j < 100 := fun j => by
            rw [hf]
            have := pv_times_le (pv_knd g.1 p j) s n
            show pv_times (pv_knd g.1 p j) s n < 100
            omega
          have hbl := fun k => (pv_bk_le f 100 hfl k).1
          obtain ⟨j5, k5⟩ := jd_start hs5
          have body : ∀ k, k < 4 → ∀ σ' c0 m0, mk σ4 σ' → jd σ' c0 m0 → (∀ σ'', mk σ4 σ'' → (-nI (f k) < m0 → jd σ'' (nI k) (-nI (f k))) → (¬ -nI (f k) < m0 → jd σ'' c0 m0) → G 40 [some (.ref 0), some (.int (nI p)), some (.int (nI s)), some (.int (nI n)), some (.int v4), some (.int (nI (k + 1)))] [] σ'') → G 40 [some (.ref 0), some (.int (nI p)), some (.int (nI s)), some (.int (nI n)), some (.int v4), some (.int (nI k))] [] σ' := by
            intro k hk σ' c0 m0 ho hj hn'
            have hX' := ho.mo hX
            refine sgX6_kind_40 hG _ _ _ _ _ σ' ⟨fun q => absurd ((nIle 4 k rfl rfl (by omega) (by omega)).mp q) (by omega), fun _ => ⟨(), trivial, fun _ σa ha => ⟨9 * p, ⟨by omega, ix9 p 0⟩, fun _ σb hb => ?_⟩⟩⟩
            have hb : σb = px_up σa 2 (9 * p) (nI k) := hb
            subst hb
            have hVa := starts_mv ha hX'.1 hvk.1
            have hVb : mv_is ((px_up σa 2 (9 * p) (nI k)).1 2) (pv_knd g.1 p k) := by
              obtain ⟨g1, g2, g3, g4⟩ := hVa.2 p hp
              refine mv_mod hVa (fun q hq => (hvk.1.2.2.2 q hq).2.1) (by omega) (fun j hj2 => by rw [px_up_at, if_neg (by omega)]) ⟨?_, ?_, ?_, fun i x hx => ?_⟩
              · rw [px_up_at, if_pos ⟨rfl, rfl⟩]
              · rw [px_up_at, if_neg (by omega)]; exact g2
              · rw [px_up_at, if_neg (by omega)]; exact g3
              · rw [px_up_at, if_neg (by omega)]; exact g4 i x hx
            rw [nI_1]
            refine ⟨(pv_knd g.1 p k, s, n), ⟨hVb, pv_knd_ok hvk hp (by omega), Nat.lt_of_le_of_lt hd (by omega), by omega, rfl, rfl⟩, fun rc σc hc => ⟨(), trivial, fun _ σd hd' => ?_⟩⟩
            obtain ⟨rfl, c2⟩ := hc
            have hjc : jd σc _ _ := hj.kept (((c2.1 0 (by omega)).trans (px_up_n (by omega))).trans (ha.1 0 (by omega)))
            have ef : pv_times (pv_knd g.1 p k) s n = f k := by rw [hf]
            rw [ef] at hd'
            obtain ⟨⟨d1, d2⟩, d3⟩ := jd_judge hd' hjc
            exact hn' σd ((((ho.tr (starts_mk ha)).tr mk.up2).tr c2.mk).tr d3) d1 d2
          have loop : ∀ m k, k + m = 3 → ∀ σ', mk σ4 σ' → jd σ' (nI (pv_bk f k).1) (-nI (pv_bk f k).2) → G 40 [some (.ref 0), some (.int (nI p)), some (.int (nI s)), some (.int (nI n)), some (.int v4), some (.int (nI (k + 1)))] [] σ' := by
            intro m
            induction m with
            | zero =>
              intro k hk σ' ho hj
              have e : k = 3 := by omega
              subst e
              have hX' := ho.mo hX
              refine sgX6_kind_40 hG _ _ _ _ _ σ' ⟨fun _ => ?_, fun q => absurd ((nIle 4 4 rfl rfl (by omega) (by omega)).mpr (by omega)) q⟩
              unfold qoX6_kind
              rw [ex, hj.1, hj.2, Int32.neg_neg]
              refine ⟨fun w => ⟨?_, hX'⟩, fun w => ⟨?_, hX'⟩⟩
              · show _ = if _ then _ else _
                rw [if_neg w]
              · show _ = if _ then _ else _
                rw [if_pos (Classical.byContradiction w)]
            | succ m ih =>
              intro k hk σ' ho hj
              refine body (k + 1) (by omega) σ' _ _ ho hj (fun σ'' ho2 d1 d2 => ih (k + 1) (by omega) σ'' ho2 ?_)
              rw [ng_lt _ (hfl _) _ (hbl k)] at d1 d2
              rw [pv_bk]
              by_cases hlt : (pv_bk f k).2 < f (k + 1)
              · rw [if_pos hlt]; exact d1 hlt
              · rw [if_neg hlt]; exact d2 hlt
          exact body 0 (by omega) σ5 _ _ k5 j5 (fun σ'' ho2 d1 _ => loop 3 0 (by omega) σ'' ho2 (d1 (ng_1 _ (hfl 0))))
        · unfold qoX6_kind x_kind
          rw [xif_f (fun q => x q.2.2.2)]
          exact ⟨rfl, hX⟩
      · unfold qoX6_kind x_kind
        rw [xif_f (fun q => y q.2.2.1)]
        exact ⟨rfl, hX⟩
    · unfold qoX6_kind x_kind
      rw [xif_f (fun q => z q.2.1)]
      exact ⟨rfl, hX⟩
  · unfold qoX6_kind x_kind
    rw [xif_f (fun q => t q.1)]
    exact ⟨rfl, hX⟩
theorem mX6_kind (g : gtX6_kind) : px_Met dM yX6_kind (Cond.code yX6_kind cX6_kind 6 (some .int) :: wdM) rmX6_kind px_vI (prX6_kind g) (poX6_kind g) :=
  px_met (Z := (cX6_kind, 6, RX6, Cond.code yX6_kind cX6_kind 6 (some .int) :: wdM, (some .int), rmX6_kind, dM)) opX6_kind (by decide) rfl rfl okX6_kind (fun As σ h => by obtain ⟨v1, v2, v3, v4, rfl, h⟩ := h; exact Nat.le_of_ble_eq_true rfl) (fun As σ h G hG => by obtain ⟨v1, v2, v3, v4, rfl, h⟩ := h; exact hhX6_kind g v1 v2 v3 v4 σ h G hG)
