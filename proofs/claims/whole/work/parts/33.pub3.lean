/-- the first of the most, the first of the fewest, against a start -/
noncomputable def pv_bmax (f : Nat → Nat) (b : Nat) : Nat → Int32 × Nat
  | 0 => (-4, b)
  | k + 1 => if (pv_bmax f b k).2 < f k then (nI k, f k) else pv_bmax f b k
noncomputable def pv_bmin (f : Nat → Nat) (b : Nat) : Nat → Int32 × Nat
  | 0 => (-4, b)
  | k + 1 => if f k < (pv_bmin f b k).2 then (nI k, f k) else pv_bmin f b k
theorem pv_bmax_lt {f : Nat → Nat} {b N : Nat} (hb : b < N) (k : Nat) (hf : ∀ j, j < k → f j < N) : (pv_bmax f b k).2 < N := by
  induction k with
  | zero => exact hb
  | succ k ih =>
    rw [pv_bmax]
    split
    · exact hf k (by omega)
    · exact ih (fun j hj => hf j (by omega))
theorem pv_bmin_lt {f : Nat → Nat} {b N : Nat} (hb : b < N) (k : Nat) (hf : ∀ j, j < k → f j < N) : (pv_bmin f b k).2 < N := by
  induction k with
  | zero => exact hb
  | succ k ih =>
    rw [pv_bmin]
    split
    · exact hf k (by omega)
    · exact ih (fun j hj => hf j (by omega))
noncomputable def x_lesson (X : pv_X) (s n w : Int32) : Int32 × pv_X := (xif ((0 ≤ s ∧ s ≤ 9) ∧ (0 ≤ n ∧ n ≤ 60) ∧ (0 ≤ w ∧ w ≤ 1)) (pv_choice (pv_bmax (fun p => pv_times (pv_at X.1 p (pv_learn (X.1.2.2.2 p) s.toNatClampNeg)) s.toNatClampNeg n.toNatClampNeg) (pv_times X.1 s.toNatClampNeg n.toNatClampNeg) X.1.1).1 (nI (pv_bmax (fun p => pv_times (pv_at X.1 p (pv_learn (X.1.2.2.2 p) s.toNatClampNeg)) s.toNatClampNeg n.toNatClampNeg) (pv_times X.1 s.toNatClampNeg n.toNatClampNeg) X.1.1).2) w) (-1), X)
noncomputable def x_away (X : pv_X) (s n w : Int32) : Int32 × pv_X := (xif ((0 ≤ s ∧ s ≤ 9) ∧ (0 ≤ n ∧ n ≤ 60) ∧ (0 ≤ w ∧ w ≤ 1)) (pv_choice (pv_bmin (fun p => pv_times (pv_off X.1 p) s.toNatClampNeg n.toNatClampNeg) (pv_times X.1 s.toNatClampNeg n.toNatClampNeg) X.1.1).1 (nI (pv_bmin (fun p => pv_times (pv_off X.1 p) s.toNatClampNeg n.toNatClampNeg) (pv_times X.1 s.toNatClampNeg n.toNatClampNeg) X.1.1).2) w) (-1), X)
theorem pv_at_ok {V : pv_V} {p : Nat} {P : pv_P} (h : pv_ok V) (hP : pv_okW P) (hl : P.2.1 < P.2.2.length) : pv_ok (pv_at V p P) := by
  refine ⟨pv_at_w h.1 hP, fun q hq => ?_⟩
  have hq' : q < V.1 := hq
  show (if q = p then P else V.2.2.2 q).2.1 < (if q = p then P else V.2.2.2 q).2.2.length
  by_cases hqp : q = p
  · rw [if_pos hqp]; exact hl
  · rw [if_neg hqp]; exact h.2 q hq'
theorem pv_lrn_ok {V : pv_V} {p s : Nat} (h : pv_ok V) (hp : p < V.1) (hs : s ≤ 9) : pv_ok (pv_at V p (pv_learn (V.2.2.2 p) s)) := by
  have hP := h.1.2.2.2 p hp
  obtain ⟨e1, e2⟩ := pv_learn_len (s := s) hP.2.1
  have := h.2 p hp
  exact pv_at_ok h (pv_learn_ok hP hs) (by rw [e1]; omega)
theorem pv_off_ok {V : pv_V} {p : Nat} (h : pv_ok V) (hp : p < V.1) : pv_ok (pv_off V p) := by
  obtain ⟨⟨h1, h2, h3, h4⟩, h5⟩ := h
  refine ⟨⟨by show V.1 - 1 ≤ 5; omega, h2, h3, fun q hq => ?_⟩, fun q hq => ?_⟩
  · have hq' : q < V.1 - 1 := hq
    show pv_okW (if q < p then V.2.2.2 q else V.2.2.2 (q + 1))
    split
    · exact h4 q (by omega)
    · exact h4 (q + 1) (by omega)
  · have hq' : q < V.1 - 1 := hq
    show (if q < p then V.2.2.2 q else V.2.2.2 (q + 1)).2.1 < (if q < p then V.2.2.2 q else V.2.2.2 (q + 1)).2.2.length
    split
    · exact h5 q (by omega)
    · exact h5 (q + 1) (by omega)
/-- only said, trial and runner have changed -/
def px_tr (σ σ' : px_St) : Prop := ∀ k, k ≠ 1 → (k < 13 ∨ 22 < k) → σ'.1 k = σ.1 k
theorem px_tr.cl {σ σ' : px_St} {X : pv_X} (ho : px_tr σ σ') (h : cl_is σ X) : cl_is σ' X := cl_keep h (fun k hk => ho k (by omega) (by omega))
theorem px_tr.a {σ σ' σ'' : px_St} (h : px_tr σ σ') (h' : px_only 13 σ' σ'') : px_tr σ σ'' := fun k h1 h2 => (h'.1 k (by omega)).trans (h k h1 h2)
theorem px_tr.f {σ σ' σ'' : px_St} (h : px_tr σ σ') (h' : px_fs σ' σ'') : px_tr σ σ'' := fun k h1 h2 => (h' k h1 (by omega)).trans (h k h1 h2)
theorem px_fs.t {σ σ' : px_St} (h : px_fs σ σ') : px_tr σ σ' := fun k h1 h2 => h k h1 (by omega)
theorem px_tr.rf {σ : px_St} : px_tr σ σ := fun _ _ _ => rfl
abbrev gtX5_lesson : Type := pv_X
def qrX5_lesson (X : pv_X) (_ _ _ : Int32) (σ : px_St) : Prop := cl_is σ X ∧ xo X
def qoX5_lesson (X : pv_X) (s n w : Int32) (_ : px_St) (r : Int32) (σ' : px_St) : Prop := r = (x_lesson X s n w).1 ∧ cl_is σ' (x_lesson X s n w).2
def prX5_lesson (g : gtX5_lesson) : List Value → px_St → Prop := fun As σ => ∃ v1 : Int32, ∃ v2 : Int32, ∃ v3 : Int32, As = [.ref 0, .int v1, .int v2, .int v3] ∧ qrX5_lesson g v1 v2 v3 σ
def poX5_lesson (g : gtX5_lesson) : List Value → px_St → Int32 → px_St → Prop
  | [.ref _, .int v1, .int v2, .int v3], σ, r, σ' => qoX5_lesson g v1 v2 v3 σ r σ'
  | _, _, _, _ => False
theorem dX5_lesson_0 : decode cX5_lesson 0 = .ok (.iload_n 1, 1) := by decide +kernel
theorem dX5_lesson_1 : decode cX5_lesson 1 = .ok (.invokestatic 132, 3) := by decide +kernel
theorem dX5_lesson_4 : decode cX5_lesson 4 = .ok (.ifCond .eq 19, 3) := by decide +kernel
theorem dX5_lesson_7 : decode cX5_lesson 7 = .ok (.iload_n 2, 1) := by decide +kernel
theorem dX5_lesson_8 : decode cX5_lesson 8 = .ok (.invokestatic 167, 3) := by decide +kernel
theorem dX5_lesson_11 : decode cX5_lesson 11 = .ok (.ifCond .eq 12, 3) := by decide +kernel
theorem dX5_lesson_14 : decode cX5_lesson 14 = .ok (.iload_n 3, 1) := by decide +kernel
theorem dX5_lesson_15 : decode cX5_lesson 15 = .ok (.iconst 0, 1) := by decide +kernel
theorem dX5_lesson_16 : decode cX5_lesson 16 = .ok (.iconst 1, 1) := by decide +kernel
theorem dX5_lesson_17 : decode cX5_lesson 17 = .ok (.invokestatic 61, 3) := by decide +kernel
theorem dX5_lesson_20 : decode cX5_lesson 20 = .ok (.ifCond .ne 5, 3) := by decide +kernel
theorem dX5_lesson_23 : decode cX5_lesson 23 = .ok (.iconst (-1), 1) := by decide +kernel
theorem dX5_lesson_24 : decode cX5_lesson 24 = .ok (.ireturn, 1) := by decide +kernel
theorem dX5_lesson_25 : decode cX5_lesson 25 = .ok (.bipush (-4), 2) := by decide +kernel
theorem dX5_lesson_27 : decode cX5_lesson 27 = .ok (.istore 4, 2) := by decide +kernel
theorem dX5_lesson_29 : decode cX5_lesson 29 = .ok (.aload_n 0, 1) := by decide +kernel
theorem dX5_lesson_30 : decode cX5_lesson 30 = .ok (.aload_n 0, 1) := by decide +kernel
theorem dX5_lesson_31 : decode cX5_lesson 31 = .ok (.getfield 10, 3) := by decide +kernel
theorem dX5_lesson_34 : decode cX5_lesson 34 = .ok (.iload_n 1, 1) := by decide +kernel
theorem dX5_lesson_35 : decode cX5_lesson 35 = .ok (.iload_n 2, 1) := by decide +kernel
theorem dX5_lesson_36 : decode cX5_lesson 36 = .ok (.invokevirtual 178, 3) := by decide +kernel
theorem dX5_lesson_39 : decode cX5_lesson 39 = .ok (.istore 5, 2) := by decide +kernel
theorem dX5_lesson_41 : decode cX5_lesson 41 = .ok (.iconst 0, 1) := by decide +kernel
theorem dX5_lesson_42 : decode cX5_lesson 42 = .ok (.istore 6, 2) := by decide +kernel
theorem dX5_lesson_44 : decode cX5_lesson 44 = .ok (.iload 6, 2) := by decide +kernel
theorem dX5_lesson_46 : decode cX5_lesson 46 = .ok (.aload_n 0, 1) := by decide +kernel
theorem dX5_lesson_47 : decode cX5_lesson 47 = .ok (.getfield 10, 3) := by decide +kernel
theorem dX5_lesson_50 : decode cX5_lesson 50 = .ok (.getfield 93, 3) := by decide +kernel
theorem dX5_lesson_53 : decode cX5_lesson 53 = .ok (.if_icmp .ge 57, 3) := by decide +kernel
theorem dX5_lesson_56 : decode cX5_lesson 56 = .ok (.aload_n 0, 1) := by decide +kernel
theorem dX5_lesson_57 : decode cX5_lesson 57 = .ok (.getfield 23, 3) := by decide +kernel
theorem dX5_lesson_60 : decode cX5_lesson 60 = .ok (.aload_n 0, 1) := by decide +kernel
theorem dX5_lesson_61 : decode cX5_lesson 61 = .ok (.getfield 10, 3) := by decide +kernel
theorem dX5_lesson_64 : decode cX5_lesson 64 = .ok (.invokevirtual 82, 3) := by decide +kernel
theorem dX5_lesson_67 : decode cX5_lesson 67 = .ok (.aload_n 0, 1) := by decide +kernel
theorem dX5_lesson_68 : decode cX5_lesson 68 = .ok (.getfield 23, 3) := by decide +kernel
theorem dX5_lesson_71 : decode cX5_lesson 71 = .ok (.iload 6, 2) := by decide +kernel
theorem dX5_lesson_73 : decode cX5_lesson 73 = .ok (.iload_n 1, 1) := by decide +kernel
theorem dX5_lesson_74 : decode cX5_lesson 74 = .ok (.invokevirtual 145, 3) := by decide +kernel
theorem dX5_lesson_77 : decode cX5_lesson 77 = .ok (.aload_n 0, 1) := by decide +kernel
theorem dX5_lesson_78 : decode cX5_lesson 78 = .ok (.aload_n 0, 1) := by decide +kernel
theorem dX5_lesson_79 : decode cX5_lesson 79 = .ok (.getfield 23, 3) := by decide +kernel
theorem dX5_lesson_82 : decode cX5_lesson 82 = .ok (.iload_n 1, 1) := by decide +kernel
theorem dX5_lesson_83 : decode cX5_lesson 83 = .ok (.iload_n 2, 1) := by decide +kernel
theorem dX5_lesson_84 : decode cX5_lesson 84 = .ok (.invokevirtual 178, 3) := by decide +kernel
theorem dX5_lesson_87 : decode cX5_lesson 87 = .ok (.istore 7, 2) := by decide +kernel
theorem dX5_lesson_89 : decode cX5_lesson 89 = .ok (.iload 7, 2) := by decide +kernel
theorem dX5_lesson_91 : decode cX5_lesson 91 = .ok (.iload 5, 2) := by decide +kernel
theorem dX5_lesson_93 : decode cX5_lesson 93 = .ok (.if_icmp .le 11, 3) := by decide +kernel
theorem dX5_lesson_96 : decode cX5_lesson 96 = .ok (.iload 7, 2) := by decide +kernel
theorem dX5_lesson_98 : decode cX5_lesson 98 = .ok (.istore 5, 2) := by decide +kernel
theorem dX5_lesson_100 : decode cX5_lesson 100 = .ok (.iload 6, 2) := by decide +kernel
theorem dX5_lesson_102 : decode cX5_lesson 102 = .ok (.istore 4, 2) := by decide +kernel
theorem dX5_lesson_104 : decode cX5_lesson 104 = .ok (.iinc 6 1, 3) := by decide +kernel
theorem dX5_lesson_107 : decode cX5_lesson 107 = .ok (.goto (-63), 3) := by decide +kernel
theorem dX5_lesson_110 : decode cX5_lesson 110 = .ok (.iload 4, 2) := by decide +kernel
theorem dX5_lesson_112 : decode cX5_lesson 112 = .ok (.iload 5, 2) := by decide +kernel
theorem dX5_lesson_114 : decode cX5_lesson 114 = .ok (.iload_n 3, 1) := by decide +kernel
theorem dX5_lesson_115 : decode cX5_lesson 115 = .ok (.invokestatic 182, 3) := by decide +kernel
theorem dX5_lesson_118 : decode cX5_lesson 118 = .ok (.ireturn, 1) := by decide +kernel
abbrev rmX5_lesson : Room := { frames := 6, cells := 0, slots := 0, locals := 153 }
def opX5_lesson (po : Int32 → px_St → Prop) : List (Nat × px_Op) := [
  (0, px_il 1 1),
  (1, px_callS 4 1 px_vI prX5_isSound poX5_isSound),
  (4, px_if 7 23 (fun x => x = 0)),
  (7, px_il 8 2),
  (8, px_callS 11 1 px_vI prX5_isDays poX5_isDays),
  (11, px_if 14 23 (fun x => x = 0)),
  (14, px_il 15 3),
  (15, px_push 16 (.int 0)),
  (16, px_push 17 (.int 1)),
  (17, px_callS 20 3 px_vI prX5_isWithin poX5_isWithin),
  (20, px_if 23 25 (fun x => ¬ x = 0)),
  (23, px_push 24 (.int (-1))),
  (24, px_iret (.int) po),
  (25, px_push 27 (.int (-4))),
  (27, px_is 29 4),
  (29, px_al 30 0),
  (30, px_al 31 0),
  (31, px_get dC 34 5 0),
  (34, px_il 35 1),
  (35, px_il 36 2),
  (36, px_callV dC 39 5 3 px_vI prX5_timesSaid poX5_timesSaid),
  (39, px_is 41 5),
  (41, px_push 42 (.int 0)),
  (42, px_is 44 6),
  (44, px_il 46 6),
  (46, px_al 47 0),
  (47, px_get dC 50 5 0),
  (50, px_get dC 53 0 0),
  (53, px_ic 56 110 (fun x y => y ≤ x)),
  (56, px_al 57 0),
  (57, px_get dC 60 5 2),
  (60, px_al 61 0),
  (61, px_get dC 64 5 0),
  (64, px_callV dC 67 0 1 px_vV prX0_becomes poX0_becomes),
  (67, px_al 68 0),
  (68, px_get dC 71 5 2),
  (71, px_il 73 6),
  (73, px_il 74 1),
  (74, px_callV dC 77 0 2 px_vV prX0_learn poX0_learn),
  (77, px_al 78 0),
  (78, px_al 79 0),
  (79, px_get dC 82 5 2),
  (82, px_il 83 1),
  (83, px_il 84 2),
  (84, px_callV dC 87 5 3 px_vI prX5_timesSaid poX5_timesSaid),
  (87, px_is 89 7),
  (89, px_il 91 7),
  (91, px_il 93 5),
  (93, px_ic 96 104 (fun x y => x ≤ y)),
  (96, px_il 98 7),
  (98, px_is 100 5),
  (100, px_il 102 6),
  (102, px_is 104 4),
  (104, px_inc 107 6 1),
  (107, px_go 44),
  (110, px_il 112 4),
  (112, px_il 114 5),
  (114, px_il 115 3),
  (115, px_callS 118 3 px_vI prX5_choice poX5_choice),
  (118, px_iret (.int) po)]
set_option maxRecDepth 100000 in
set_option maxHeartbeats 4000000 in
theorem okX5_lesson : ∀ (po : Int32 → px_St → Prop) (i pc : Nat) (op : px_Op), (opX5_lesson po)[i]? = some (pc, op) → px_Snd (cX5_lesson, 8, RX5, Cond.code yX5_lesson cX5_lesson 8 (some .int) :: wdC, (some .int), rmX5_lesson, dC) px_vI po pc op := by
  intro po
  unfold opX5_lesson
  refine px_ok_cons (ps_iload_n dX5_lesson_0 rfl) ?_
  refine px_ok_cons (ps_callS mX5_isSound (fun _ _ => rfl) (fun _ _ ht => px_cwS wgC (wdC_7_in _ (List.mem_of_getElem? (i := 5) rfl)) (wdC_4_in _ (List.mem_of_getElem? (i := 32) rfl)) (wdC_4_in _ (List.mem_of_getElem? (i := 23) rfl)) (wdC_4_in _ (List.mem_of_getElem? (i := 28) rfl)) (by decide +kernel) rfl rfl (by decide) ht) dX5_lesson_1) ?_
  refine px_ok_cons (ps_if_eq dX5_lesson_4 (by decide)) ?_
  refine px_ok_cons (ps_iload_n dX5_lesson_7 rfl) ?_
  refine px_ok_cons (ps_callS mX5_isDays (fun _ _ => rfl) (fun _ _ ht => px_cwS wgC (wdC_8_in _ (List.mem_of_getElem? (i := 1) rfl)) (wdC_8_in _ (List.mem_of_getElem? (i := 2) rfl)) (wdC_4_in _ (List.mem_of_getElem? (i := 23) rfl)) (wdC_7_in _ (List.mem_of_getElem? (i := 39) rfl)) (by decide +kernel) rfl rfl (by decide) ht) dX5_lesson_8) ?_
  refine px_ok_cons (ps_if_eq dX5_lesson_11 (by decide)) ?_
  refine px_ok_cons (ps_iload_n dX5_lesson_14 rfl) ?_
  refine px_ok_cons (ps_iconst dX5_lesson_15 (by decide)) ?_
  refine px_ok_cons (ps_iconst dX5_lesson_16 (by decide)) ?_
  refine px_ok_cons (ps_callS mX5_isWithin (fun _ _ => rfl) (fun _ _ ht => px_cwS wgC (wdC_4_in _ (List.mem_of_getElem? (i := 29) rfl)) (wdC_4_in _ (List.mem_of_getElem? (i := 22) rfl)) (wdC_4_in _ (List.mem_of_getElem? (i := 23) rfl)) (wdC_4_in _ (List.mem_of_getElem? (i := 20) rfl)) (by decide +kernel) rfl rfl (by decide) ht) dX5_lesson_17) ?_
  refine px_ok_cons (ps_if_ne dX5_lesson_20 (by decide)) ?_
  refine px_ok_cons (ps_iconst dX5_lesson_23 (by decide)) ?_
  refine px_ok_cons (ps_ireturn rfl dX5_lesson_24) ?_
  refine px_ok_cons (ps_bipush dX5_lesson_25 (by decide)) ?_
  refine px_ok_cons (ps_istore dX5_lesson_27 (by decide)) ?_
  refine px_ok_cons (ps_aload_n dX5_lesson_29 rfl) ?_
  refine px_ok_cons (ps_aload_n dX5_lesson_30 rfl) ?_
  refine px_ok_cons (fgX5_10 dX5_lesson_31) ?_
  refine px_ok_cons (ps_iload_n dX5_lesson_34 rfl) ?_
  refine px_ok_cons (ps_iload_n dX5_lesson_35 rfl) ?_
  refine px_ok_cons (ps_callV mX5_timesSaid (fun _ _ => rfl) (C := RX5) rfl (fun _ _ ht => px_cwV wgC (wdC_8_in _ (List.mem_of_getElem? (i := 13) rfl)) (wdC_8_in _ (List.mem_of_getElem? (i := 14) rfl)) (wdC_8_in _ (List.mem_of_getElem? (i := 15) rfl)) (wdC_4_in _ (List.mem_of_getElem? (i := 23) rfl)) (wdC_8_in _ (List.mem_of_getElem? (i := 12) rfl)) (by decide +kernel) rfl rfl (by decide) ht) dX5_lesson_36) ?_
  refine px_ok_cons (ps_istore dX5_lesson_39 (by decide)) ?_
  refine px_ok_cons (ps_iconst dX5_lesson_41 (by decide)) ?_
  refine px_ok_cons (ps_istore dX5_lesson_42 (by decide)) ?_
  refine px_ok_cons (ps_iload dX5_lesson_44) ?_
  refine px_ok_cons (ps_aload_n dX5_lesson_46 rfl) ?_
  refine px_ok_cons (fgX5_10 dX5_lesson_47) ?_
  refine px_ok_cons (fgX5_93 dX5_lesson_50) ?_
  refine px_ok_cons (ps_icmp_ge dX5_lesson_53 (by decide)) ?_
  refine px_ok_cons (ps_aload_n dX5_lesson_56 rfl) ?_
  refine px_ok_cons (fgX5_23 dX5_lesson_57) ?_
  refine px_ok_cons (ps_aload_n dX5_lesson_60 rfl) ?_
  refine px_ok_cons (fgX5_10 dX5_lesson_61) ?_
  refine px_ok_cons (ps_callV mX0_becomes (fun _ _ => rfl) (C := RX0) rfl (fun _ _ ht => px_cwV wgC (wdC_6_in _ (List.mem_of_getElem? (i := 18) rfl)) (wdC_6_in _ (List.mem_of_getElem? (i := 19) rfl)) (wdC_6_in _ (List.mem_of_getElem? (i := 20) rfl)) (wdC_0_in _ (List.mem_of_getElem? (i := 22) rfl)) (wdC_0_in _ (List.mem_of_getElem? (i := 18) rfl)) (by decide +kernel) rfl rfl (by decide) ht) dX5_lesson_64) ?_
  refine px_ok_cons (ps_aload_n dX5_lesson_67 rfl) ?_
  refine px_ok_cons (fgX5_23 dX5_lesson_68) ?_
  refine px_ok_cons (ps_iload dX5_lesson_71) ?_
  refine px_ok_cons (ps_iload_n dX5_lesson_73 rfl) ?_
  refine px_ok_cons (ps_callV mX0_learn (fun _ _ => rfl) (C := RX0) rfl (fun _ _ ht => px_cwV wgC (wdC_7_in _ (List.mem_of_getElem? (i := 18) rfl)) (wdC_1_in _ (List.mem_of_getElem? (i := 22) rfl)) (wdC_1_in _ (List.mem_of_getElem? (i := 23) rfl)) (wdC_0_in _ (List.mem_of_getElem? (i := 22) rfl)) (wdC_1_in _ (List.mem_of_getElem? (i := 2) rfl)) (by decide +kernel) rfl rfl (by decide) ht) dX5_lesson_74) ?_
  refine px_ok_cons (ps_aload_n dX5_lesson_77 rfl) ?_
  refine px_ok_cons (ps_aload_n dX5_lesson_78 rfl) ?_
  refine px_ok_cons (fgX5_23 dX5_lesson_79) ?_
  refine px_ok_cons (ps_iload_n dX5_lesson_82 rfl) ?_
  refine px_ok_cons (ps_iload_n dX5_lesson_83 rfl) ?_
  refine px_ok_cons (ps_callV mX5_timesSaid (fun _ _ => rfl) (C := RX5) rfl (fun _ _ ht => px_cwV wgC (wdC_8_in _ (List.mem_of_getElem? (i := 13) rfl)) (wdC_8_in _ (List.mem_of_getElem? (i := 14) rfl)) (wdC_8_in _ (List.mem_of_getElem? (i := 15) rfl)) (wdC_4_in _ (List.mem_of_getElem? (i := 23) rfl)) (wdC_8_in _ (List.mem_of_getElem? (i := 12) rfl)) (by decide +kernel) rfl rfl (by decide) ht) dX5_lesson_84) ?_
  refine px_ok_cons (ps_istore dX5_lesson_87 (by decide)) ?_
  refine px_ok_cons (ps_iload dX5_lesson_89) ?_
  refine px_ok_cons (ps_iload dX5_lesson_91) ?_
  refine px_ok_cons (ps_icmp_le dX5_lesson_93 (by decide)) ?_
  refine px_ok_cons (ps_iload dX5_lesson_96) ?_
  refine px_ok_cons (ps_istore dX5_lesson_98 (by decide)) ?_
  refine px_ok_cons (ps_iload dX5_lesson_100) ?_
  refine px_ok_cons (ps_istore dX5_lesson_102 (by decide)) ?_
  refine px_ok_cons (ps_iinc dX5_lesson_104 (by decide) (by decide)) ?_
  refine px_ok_cons (ps_goto dX5_lesson_107 (by decide)) ?_
  refine px_ok_cons (ps_iload dX5_lesson_110) ?_
  refine px_ok_cons (ps_iload dX5_lesson_112) ?_
  refine px_ok_cons (ps_iload_n dX5_lesson_114 rfl) ?_
  refine px_ok_cons (ps_callS mX5_choice (fun _ _ => rfl) (fun _ _ ht => px_cwS wgC (wdC_8_in _ (List.mem_of_getElem? (i := 20) rfl)) (wdC_8_in _ (List.mem_of_getElem? (i := 21) rfl)) (wdC_4_in _ (List.mem_of_getElem? (i := 23) rfl)) (wdC_8_in _ (List.mem_of_getElem? (i := 19) rfl)) (by decide +kernel) rfl rfl (by decide) ht) dX5_lesson_115) ?_
  refine px_ok_cons (ps_ireturn rfl dX5_lesson_118) ?_
  exact px_ok_nil
set_option maxRecDepth 100000 in
set_option maxHeartbeats 4000000 in
theorem sgX5_lesson_0 {po : Int32 → px_St → Prop} {G : px_K} (hG : px_cl (opX5_lesson po) G) (v1 : Int32) (v2 : Int32) (v3 : Int32) (σ : px_St)
    (H : ∃ g3 : gtX5_isSound, qrX5_isSound g3 v1 σ ∧ ∀ (r1 : Int32) (σ2 : px_St), qoX5_isSound g3 v1 σ r1 σ2 → ((r1 = 0) → po (-1 : Int32) σ2) ∧ (¬ (r1 = 0) → ∃ g7 : gtX5_isDays, qrX5_isDays g7 v2 σ2 ∧ ∀ (r5 : Int32) (σ6 : px_St), qoX5_isDays g7 v2 σ2 r5 σ6 → ((r5 = 0) → po (-1 : Int32) σ6) ∧ (¬ (r5 = 0) → ∃ g11 : gtX5_isWithin, qrX5_isWithin g11 v3 (0 : Int32) (1 : Int32) σ6 ∧ ∀ (r9 : Int32) (σ10 : px_St), qoX5_isWithin g11 v3 (0 : Int32) (1 : Int32) σ6 r9 σ10 → ((¬ r9 = 0) → ∃ g15 : gtX5_timesSaid, qrX5_timesSaid g15 8 v1 v2 σ10 ∧ ∀ (r13 : Int32) (σ14 : px_St), qoX5_timesSaid g15 8 v1 v2 σ10 r13 σ14 → G 44 [some (.ref 0), some (.int v1), some (.int v2), some (.int v3), some (.int (-4 : Int32)), some (.int r13), some (.int (0 : Int32)), none] [] σ14) ∧ (¬ (¬ r9 = 0) → po (-1 : Int32) σ10)))) :
    G 0 (px_ent 8 [.ref 0, .int v1, .int v2, .int v3]) [] σ := by
  refine hG.1 0 _ _ rfl _ _ _ ?_
  refine hG.1 1 _ _ rfl _ _ _ ?_
  obtain ⟨g3, H⟩ := H
  refine ⟨Nat.le_of_ble_eq_true rfl, Nat.le_of_ble_eq_true rfl, g3, ⟨_, rfl, H.1⟩, fun r1 σ2 hp4 => ?_⟩
  replace H := H.2 r1 σ2 hp4
  refine hG.1 2 _ _ rfl _ _ _ ?_
  refine ⟨fun h19 => ?_, fun h19 => ?_⟩
  · replace H := H.1 h19
    refine hG.1 11 _ _ rfl _ _ _ ?_
    refine hG.1 12 _ _ rfl _ _ _ ?_
    exact ⟨rfl, H⟩
  · replace H := H.2 h19
    refine hG.1 3 _ _ rfl _ _ _ ?_
    refine hG.1 4 _ _ rfl _ _ _ ?_
    obtain ⟨g7, H⟩ := H
    refine ⟨Nat.le_of_ble_eq_true rfl, Nat.le_of_ble_eq_true rfl, g7, ⟨_, rfl, H.1⟩, fun r5 σ6 hp8 => ?_⟩
    replace H := H.2 r5 σ6 hp8
    refine hG.1 5 _ _ rfl _ _ _ ?_
    refine ⟨fun h18 => ?_, fun h18 => ?_⟩
    · replace H := H.1 h18
      refine hG.1 11 _ _ rfl _ _ _ ?_
      refine hG.1 12 _ _ rfl _ _ _ ?_
      exact ⟨rfl, H⟩
    · replace H := H.2 h18
      refine hG.1 6 _ _ rfl _ _ _ ?_
      refine hG.1 7 _ _ rfl _ _ _ ?_
      refine hG.1 8 _ _ rfl _ _ _ ?_
      refine hG.1 9 _ _ rfl _ _ _ ?_
      obtain ⟨g11, H⟩ := H
      refine ⟨Nat.le_of_ble_eq_true rfl, Nat.le_of_ble_eq_true rfl, g11, ⟨_, _, _, rfl, H.1⟩, fun r9 σ10 hp12 => ?_⟩
      replace H := H.2 r9 σ10 hp12
      refine hG.1 10 _ _ rfl _ _ _ ?_
      refine ⟨fun h17 => ?_, fun h17 => ?_⟩
      · replace H := H.1 h17
        refine hG.1 13 _ _ rfl _ _ _ ?_
        refine hG.1 14 _ _ rfl _ _ _ ?_
        show G 29 [some (.ref 0), some (.int v1), some (.int v2), some (.int v3), some (.int (-4 : Int32)), none, none, none] [] σ10
        refine hG.1 15 _ _ rfl _ _ _ ?_
        refine hG.1 16 _ _ rfl _ _ _ ?_
        refine hG.1 17 _ _ rfl _ _ _ ?_
        refine ⟨⟨rfl, by decide⟩, ?_⟩
        refine hG.1 18 _ _ rfl _ _ _ ?_
        refine hG.1 19 _ _ rfl _ _ _ ?_
        refine hG.1 20 _ _ rfl _ _ _ ?_
        obtain ⟨g15, H⟩ := H
        refine ⟨⟨rfl, by decide⟩, Nat.le_of_ble_eq_true rfl, g15, ⟨_, _, _, rfl, (Or.inl rfl), H.1⟩, fun r13 σ14 hp16 => ?_⟩
        replace H := H.2 r13 σ14 hp16
        refine hG.1 21 _ _ rfl _ _ _ ?_
        show G 41 [some (.ref 0), some (.int v1), some (.int v2), some (.int v3), some (.int (-4 : Int32)), some (.int r13), none, none] [] σ14
        refine hG.1 22 _ _ rfl _ _ _ ?_
        refine hG.1 23 _ _ rfl _ _ _ ?_
        show G 44 [some (.ref 0), some (.int v1), some (.int v2), some (.int v3), some (.int (-4 : Int32)), some (.int r13), some (.int (0 : Int32)), none] [] σ14
        exact H
      · replace H := H.2 h17
        refine hG.1 11 _ _ rfl _ _ _ ?_
        refine hG.1 12 _ _ rfl _ _ _ ?_
        exact ⟨rfl, H⟩
set_option maxRecDepth 100000 in
set_option maxHeartbeats 4000000 in
theorem sgX5_lesson_44 {po : Int32 → px_St → Prop} {G : px_K} (hG : px_cl (opX5_lesson po) G) (v1 : Int32) (v2 : Int32) (v3 : Int32) (v4 : Int32) (v5 : Int32) (v6 : Int32) (σ : px_St)
    (H : (((σ.1 8 0) ≤ v6) → ∃ g3 : gtX5_choice, qrX5_choice g3 v4 v5 v3 σ ∧ ∀ (r1 : Int32) (σ2 : px_St), qoX5_choice g3 v4 v5 v3 σ r1 σ2 → po r1 σ2) ∧ (¬ ((σ.1 8 0) ≤ v6) → ∃ g7 : gtX0_becomes, qrX0_becomes g7 13 8 σ ∧ ∀ (r5 : Unit) (σ6 : px_St), qoX0_becomes g7 13 8 σ r5 σ6 → ∃ g11 : gtX0_learn, qrX0_learn g11 13 v6 v1 σ6 ∧ ∀ (r9 : Unit) (σ10 : px_St), qoX0_learn g11 13 v6 v1 σ6 r9 σ10 → ∃ g15 : gtX5_timesSaid, qrX5_timesSaid g15 13 v1 v2 σ10 ∧ ∀ (r13 : Int32) (σ14 : px_St), qoX5_timesSaid g15 13 v1 v2 σ10 r13 σ14 → ((r13 ≤ v5) → G 44 [some (.ref 0), some (.int v1), some (.int v2), some (.int v3), some (.int v4), some (.int v5), some (.int (v6 + 1)), none] [] σ14) ∧ (¬ (r13 ≤ v5) → G 44 [some (.ref 0), some (.int v1), some (.int v2), some (.int v3), some (.int v6), some (.int r13), some (.int (v6 + 1)), none] [] σ14))) :
    G 44 [some (.ref 0), some (.int v1), some (.int v2), some (.int v3), some (.int v4), some (.int v5), some (.int v6), none] [] σ := by
  refine hG.1 24 _ _ rfl _ _ _ ?_
  refine hG.1 25 _ _ rfl _ _ _ ?_
  refine hG.1 26 _ _ rfl _ _ _ ?_
  refine ⟨⟨rfl, by decide⟩, ?_⟩
  refine hG.1 27 _ _ rfl _ _ _ ?_
  refine ⟨⟨rfl, by decide⟩, ?_⟩
  refine hG.1 28 _ _ rfl _ _ _ ?_
  refine ⟨fun h18 => ?_, fun h18 => ?_⟩
  · replace H := H.1 h18
    refine hG.1 55 _ _ rfl _ _ _ ?_
    refine hG.1 56 _ _ rfl _ _ _ ?_
    refine hG.1 57 _ _ rfl _ _ _ ?_
    refine hG.1 58 _ _ rfl _ _ _ ?_
    obtain ⟨g3, H⟩ := H
    refine ⟨Nat.le_of_ble_eq_true rfl, Nat.le_of_ble_eq_true rfl, g3, ⟨_, _, _, rfl, H.1⟩, fun r1 σ2 hp4 => ?_⟩
    replace H := H.2 r1 σ2 hp4
    refine hG.1 59 _ _ rfl _ _ _ ?_
    exact ⟨rfl, H⟩
  · replace H := H.2 h18
    refine hG.1 29 _ _ rfl _ _ _ ?_
    refine hG.1 30 _ _ rfl _ _ _ ?_
    refine ⟨⟨rfl, by decide⟩, ?_⟩
    refine hG.1 31 _ _ rfl _ _ _ ?_
    refine hG.1 32 _ _ rfl _ _ _ ?_
    refine ⟨⟨rfl, by decide⟩, ?_⟩
    refine hG.1 33 _ _ rfl _ _ _ ?_
    obtain ⟨g7, H⟩ := H
    refine ⟨⟨rfl, by decide⟩, Nat.le_of_ble_eq_true rfl, g7, ⟨_, _, rfl, (Or.inr (Or.inl rfl)), (Or.inl rfl), H.1⟩, fun r5 σ6 hp8 => ?_⟩
    replace H := H.2 r5 σ6 hp8
    refine hG.1 34 _ _ rfl _ _ _ ?_
    refine hG.1 35 _ _ rfl _ _ _ ?_
    refine ⟨⟨rfl, by decide⟩, ?_⟩
    refine hG.1 36 _ _ rfl _ _ _ ?_
    refine hG.1 37 _ _ rfl _ _ _ ?_
    refine hG.1 38 _ _ rfl _ _ _ ?_
    obtain ⟨g11, H⟩ := H
    refine ⟨⟨rfl, by decide⟩, Nat.le_of_ble_eq_true rfl, g11, ⟨_, _, _, rfl, (Or.inr (Or.inl rfl)), H.1⟩, fun r9 σ10 hp12 => ?_⟩
    replace H := H.2 r9 σ10 hp12
    refine hG.1 39 _ _ rfl _ _ _ ?_
    refine hG.1 40 _ _ rfl _ _ _ ?_
    refine hG.1 41 _ _ rfl _ _ _ ?_
    refine ⟨⟨rfl, by decide⟩, ?_⟩
    refine hG.1 42 _ _ rfl _ _ _ ?_
    refine hG.1 43 _ _ rfl _ _ _ ?_
    refine hG.1 44 _ _ rfl _ _ _ ?_
    obtain ⟨g15, H⟩ := H
    refine ⟨⟨rfl, by decide⟩, Nat.le_of_ble_eq_true rfl, g15, ⟨_, _, _, rfl, (Or.inr (Or.inl rfl)), H.1⟩, fun r13 σ14 hp16 => ?_⟩
    replace H := H.2 r13 σ14 hp16
    refine hG.1 45 _ _ rfl _ _ _ ?_
    show G 89 [some (.ref 0), some (.int v1), some (.int v2), some (.int v3), some (.int v4), some (.int v5), some (.int v6), some (.int r13)] [] σ14
    refine hG.1 46 _ _ rfl _ _ _ ?_
    refine hG.1 47 _ _ rfl _ _ _ ?_
    refine hG.1 48 _ _ rfl _ _ _ ?_
    refine ⟨fun h17 => ?_, fun h17 => ?_⟩
    · replace H := H.1 h17
      refine hG.1 53 _ _ rfl _ _ _ ?_
      show G 107 [some (.ref 0), some (.int v1), some (.int v2), some (.int v3), some (.int v4), some (.int v5), some (.int (v6 + 1)), some (.int r13)] [] σ14
      refine hG.1 54 _ _ rfl _ _ _ ?_
      refine hG.2 44 [some (.ref 0), some (.int v1), some (.int v2), some (.int v3), some (.int v4), some (.int v5), some (.int (v6 + 1)), none] _ _ _ ⟨rfl, rfl, rfl, rfl, rfl, rfl, rfl, trivial⟩ ?_
      exact H
    · replace H := H.2 h17
      refine hG.1 49 _ _ rfl _ _ _ ?_
      refine hG.1 50 _ _ rfl _ _ _ ?_
      show G 100 [some (.ref 0), some (.int v1), some (.int v2), some (.int v3), some (.int v4), some (.int r13), some (.int v6), some (.int r13)] [] σ14
      refine hG.1 51 _ _ rfl _ _ _ ?_
      refine hG.1 52 _ _ rfl _ _ _ ?_
      show G 104 [some (.ref 0), some (.int v1), some (.int v2), some (.int v3), some (.int v6), some (.int r13), some (.int v6), some (.int r13)] [] σ14
      refine hG.1 53 _ _ rfl _ _ _ ?_
      show G 107 [some (.ref 0), some (.int v1), some (.int v2), some (.int v3), some (.int v6), some (.int r13), some (.int (v6 + 1)), some (.int r13)] [] σ14
      refine hG.1 54 _ _ rfl _ _ _ ?_
      refine hG.2 44 [some (.ref 0), some (.int v1), some (.int v2), some (.int v3), some (.int v6), some (.int r13), some (.int (v6 + 1)), none] _ _ _ ⟨rfl, rfl, rfl, rfl, rfl, rfl, rfl, trivial⟩ ?_
      exact H
set_option maxRecDepth 100000 in
set_option maxHeartbeats 4000000 in
theorem hhX5_lesson (g : gtX5_lesson) (v1 : Int32) (v2 : Int32) (v3 : Int32) (σ : px_St) (h : qrX5_lesson g v1 v2 v3 σ) (G : px_K) (hG : px_cl (opX5_lesson (qoX5_lesson g v1 v2 v3 σ)) G) : G 0 (px_ent 8 [.ref 0, .int v1, .int v2, .int v3]) [] σ := by
  obtain ⟨hX, hok⟩ := h
  have hd := hok.1.2
  have hvk := hok.1.1
  have h5 := hvk.1.1
  refine sgX5_lesson_0 hG _ _ _ σ ⟨(), trivial, fun r1 σ1 h1 => ?_⟩
  obtain ⟨rfl, b1⟩ := h1
  refine bz2 b1 (fun z => ⟨(), trivial, fun r2 σ2 h2 => ?_⟩) (fun z => ?_)
  · obtain ⟨rfl, b2⟩ := h2
    refine bz2 b2 (fun y => ⟨(), trivial, fun r3 σ3 h3 => ?_⟩) (fun y => ?_)
    · obtain ⟨rfl, b3⟩ := h3
      refine bz1 b3 (fun x => ?_) (fun x => ?_)
      · obtain ⟨s, hs, rfl⟩ := (rngc 9 9 rfl (by omega)).mp z
        obtain ⟨n, hn, rfl⟩ := (rngc 60 60 rfl (by omega)).mp y
        have ex : (x_lesson g (nI s) (nI n) v3) = (pv_choice (pv_bmax (fun p => pv_times (pv_at g.1 p (pv_learn (g.1.2.2.2 p) s)) s n) (pv_times g.1 s n) g.1.1).1 (nI (pv_bmax (fun p => pv_times (pv_at g.1 p (pv_learn (g.1.2.2.2 p) s)) s n) (pv_times g.1 s n) g.1.1).2) v3, g) := by
          unfold x_lesson
          rw [xif_t ⟨z, y, x⟩, nI_clamp (by omega), nI_clamp (by omega)]
        refine ⟨(g.1, s, n), ⟨by omega, hX.1, hvk, by omega, by omega, rfl, rfl⟩, fun r4 σ4 hq => ?_⟩
        obtain ⟨rfl, q3⟩ := hq
        have loop : ∀ m k, k + m = g.1.1 → ∀ σ', px_tr σ3 σ' → G 44 [some (.ref 0), some (.int (nI s)), some (.int (nI n)), some (.int v3), some (.int (pv_bmax (fun p => pv_times (pv_at g.1 p (pv_learn (g.1.2.2.2 p) s)) s n) (pv_times g.1 s n) k).1), some (.int (nI (pv_bmax (fun p => pv_times (pv_at g.1 p (pv_learn (g.1.2.2.2 p) s)) s n) (pv_times g.1 s n) k).2)), some (.int (nI k)), none] [] σ' := by
          intro m
          induction m with
          | zero =>
            intro k hk σ' ho
            have e : k = g.1.1 := by omega
            subst e
            have hX' := ho.cl hX
            refine sgX5_lesson_44 hG _ _ _ _ _ _ σ' ?_
            rw [hX'.1.1.1]
            refine ⟨fun _ => ⟨(), trivial, fun r σ5 hq => ?_⟩, fun q => absurd (Int32.le_refl _) q⟩
            obtain ⟨rfl, rfl⟩ := hq
            unfold qoX5_lesson
            rw [ex]
            exact ⟨rfl, hX'⟩
          | succ m ih =>
            intro k hk σ' ho
            have hX' := ho.cl hX
            have hkg : k < g.1.1 := by omega
            refine sgX5_lesson_44 hG _ _ _ _ _ _ σ' ?_
            rw [hX'.1.1.1]
            refine ⟨fun q => absurd q (nI_ge (by omega) (by omega)), fun _ => ⟨g.1, ⟨by omega, hX'.1, hvk.1⟩, fun _ σ5 hq5 => ?_⟩⟩
            obtain ⟨p1, p2⟩ := hq5
            refine ⟨(g.1, k, s), ⟨p1, hvk.1, hkg, hs, rfl, rfl⟩, fun _ σ6 hq6 => ?_⟩
            obtain ⟨p3, p4⟩ := hq6
            refine ⟨(pv_at g.1 k (pv_learn (g.1.2.2.2 k) s), s, n), ⟨by omega, p3, pv_lrn_ok hvk hkg hs, Nat.lt_of_le_of_lt hd (by omega), by omega, rfl, rfl⟩, fun r7 σ7 hq7 => ?_⟩
            obtain ⟨rfl, p5⟩ := hq7
            have ho7 := ((ho.a p2).a p4).f p5
            have hb1 : (pv_bmax (fun p => pv_times (pv_at g.1 p (pv_learn (g.1.2.2.2 p) s)) s n) (pv_times g.1 s n) k).2 < 100 := pv_bmax_lt (by have := pv_times_le g.1 s n; omega) k (fun j _ => by have := pv_times_le (pv_at g.1 j (pv_learn (g.1.2.2.2 j) s)) s n; omega)
            have hb2 := pv_times_le (pv_at g.1 k (pv_learn (g.1.2.2.2 k) s)) s n
            have e := ih (k + 1) (by omega) σ7 ho7
            rw [pv_bmax] at e
            have cl : nI (pv_times (pv_at g.1 k (pv_learn (g.1.2.2.2 k) s)) s n) ≤ nI (pv_bmax (fun p => pv_times (pv_at g.1 p (pv_learn (g.1.2.2.2 p) s)) s n) (pv_times g.1 s n) k).2 ↔ pv_times (pv_at g.1 k (pv_learn (g.1.2.2.2 k) s)) s n ≤ (pv_bmax (fun p => pv_times (pv_at g.1 p (pv_learn (g.1.2.2.2 p) s)) s n) (pv_times g.1 s n) k).2 := nI_leI (by omega) (by omega)
            rw [cl, nI_1]
            refine ⟨fun q => ?_, fun q => ?_⟩
            · rw [if_neg (by omega)] at e; exact e
            · rw [if_pos (by omega)] at e; exact e
        exact loop g.1.1 0 (by omega) σ4 q3.t
      · unfold qoX5_lesson x_lesson
        rw [xif_f (fun q => x q.2.2)]
        exact ⟨rfl, hX⟩
    · unfold qoX5_lesson x_lesson
      rw [xif_f (fun q => y q.2.1)]
      exact ⟨rfl, hX⟩
  · unfold qoX5_lesson x_lesson
    rw [xif_f (fun q => z q.1)]
    exact ⟨rfl, hX⟩
theorem mX5_lesson (g : gtX5_lesson) : px_Met dC yX5_lesson (Cond.code yX5_lesson cX5_lesson 8 (some .int) :: wdC) rmX5_lesson px_vI (prX5_lesson g) (poX5_lesson g) :=
  px_met (Z := (cX5_lesson, 8, RX5, Cond.code yX5_lesson cX5_lesson 8 (some .int) :: wdC, (some .int), rmX5_lesson, dC)) opX5_lesson (by decide) rfl rfl okX5_lesson (fun As σ h => by obtain ⟨v1, v2, v3, rfl, h⟩ := h; exact Nat.le_of_ble_eq_true rfl) (fun As σ h G hG => by obtain ⟨v1, v2, v3, rfl, h⟩ := h; exact hhX5_lesson g v1 v2 v3 σ h G hG)
abbrev gtX5_away : Type := pv_X
def qrX5_away (X : pv_X) (_ _ _ : Int32) (σ : px_St) : Prop := cl_is σ X ∧ xo X
def qoX5_away (X : pv_X) (s n w : Int32) (_ : px_St) (r : Int32) (σ' : px_St) : Prop := r = (x_away X s n w).1 ∧ cl_is σ' (x_away X s n w).2
def prX5_away (g : gtX5_away) : List Value → px_St → Prop := fun As σ => ∃ v1 : Int32, ∃ v2 : Int32, ∃ v3 : Int32, As = [.ref 0, .int v1, .int v2, .int v3] ∧ qrX5_away g v1 v2 v3 σ
def poX5_away (g : gtX5_away) : List Value → px_St → Int32 → px_St → Prop
  | [.ref _, .int v1, .int v2, .int v3], σ, r, σ' => qoX5_away g v1 v2 v3 σ r σ'
  | _, _, _, _ => False
theorem dX5_away_0 : decode cX5_away 0 = .ok (.iload_n 1, 1) := by decide +kernel
theorem dX5_away_1 : decode cX5_away 1 = .ok (.invokestatic 132, 3) := by decide +kernel
theorem dX5_away_4 : decode cX5_away 4 = .ok (.ifCond .eq 19, 3) := by decide +kernel
theorem dX5_away_7 : decode cX5_away 7 = .ok (.iload_n 2, 1) := by decide +kernel
theorem dX5_away_8 : decode cX5_away 8 = .ok (.invokestatic 167, 3) := by decide +kernel
theorem dX5_away_11 : decode cX5_away 11 = .ok (.ifCond .eq 12, 3) := by decide +kernel
theorem dX5_away_14 : decode cX5_away 14 = .ok (.iload_n 3, 1) := by decide +kernel
theorem dX5_away_15 : decode cX5_away 15 = .ok (.iconst 0, 1) := by decide +kernel
theorem dX5_away_16 : decode cX5_away 16 = .ok (.iconst 1, 1) := by decide +kernel
theorem dX5_away_17 : decode cX5_away 17 = .ok (.invokestatic 61, 3) := by decide +kernel
theorem dX5_away_20 : decode cX5_away 20 = .ok (.ifCond .ne 5, 3) := by decide +kernel
theorem dX5_away_23 : decode cX5_away 23 = .ok (.iconst (-1), 1) := by decide +kernel
theorem dX5_away_24 : decode cX5_away 24 = .ok (.ireturn, 1) := by decide +kernel
theorem dX5_away_25 : decode cX5_away 25 = .ok (.bipush (-4), 2) := by decide +kernel
theorem dX5_away_27 : decode cX5_away 27 = .ok (.istore 4, 2) := by decide +kernel
theorem dX5_away_29 : decode cX5_away 29 = .ok (.aload_n 0, 1) := by decide +kernel
theorem dX5_away_30 : decode cX5_away 30 = .ok (.aload_n 0, 1) := by decide +kernel
theorem dX5_away_31 : decode cX5_away 31 = .ok (.getfield 10, 3) := by decide +kernel
theorem dX5_away_34 : decode cX5_away 34 = .ok (.iload_n 1, 1) := by decide +kernel
theorem dX5_away_35 : decode cX5_away 35 = .ok (.iload_n 2, 1) := by decide +kernel
theorem dX5_away_36 : decode cX5_away 36 = .ok (.invokevirtual 178, 3) := by decide +kernel
theorem dX5_away_39 : decode cX5_away 39 = .ok (.istore 5, 2) := by decide +kernel
theorem dX5_away_41 : decode cX5_away 41 = .ok (.iconst 0, 1) := by decide +kernel
theorem dX5_away_42 : decode cX5_away 42 = .ok (.istore 6, 2) := by decide +kernel
theorem dX5_away_44 : decode cX5_away 44 = .ok (.iload 6, 2) := by decide +kernel
theorem dX5_away_46 : decode cX5_away 46 = .ok (.aload_n 0, 1) := by decide +kernel
theorem dX5_away_47 : decode cX5_away 47 = .ok (.getfield 10, 3) := by decide +kernel
theorem dX5_away_50 : decode cX5_away 50 = .ok (.getfield 93, 3) := by decide +kernel
theorem dX5_away_53 : decode cX5_away 53 = .ok (.if_icmp .ge 56, 3) := by decide +kernel
theorem dX5_away_56 : decode cX5_away 56 = .ok (.aload_n 0, 1) := by decide +kernel
theorem dX5_away_57 : decode cX5_away 57 = .ok (.getfield 23, 3) := by decide +kernel
theorem dX5_away_60 : decode cX5_away 60 = .ok (.aload_n 0, 1) := by decide +kernel
theorem dX5_away_61 : decode cX5_away 61 = .ok (.getfield 10, 3) := by decide +kernel
theorem dX5_away_64 : decode cX5_away 64 = .ok (.invokevirtual 82, 3) := by decide +kernel
theorem dX5_away_67 : decode cX5_away 67 = .ok (.aload_n 0, 1) := by decide +kernel
theorem dX5_away_68 : decode cX5_away 68 = .ok (.getfield 23, 3) := by decide +kernel
theorem dX5_away_71 : decode cX5_away 71 = .ok (.iload 6, 2) := by decide +kernel
theorem dX5_away_73 : decode cX5_away 73 = .ok (.invokevirtual 186, 3) := by decide +kernel
theorem dX5_away_76 : decode cX5_away 76 = .ok (.aload_n 0, 1) := by decide +kernel
theorem dX5_away_77 : decode cX5_away 77 = .ok (.aload_n 0, 1) := by decide +kernel
theorem dX5_away_78 : decode cX5_away 78 = .ok (.getfield 23, 3) := by decide +kernel
theorem dX5_away_81 : decode cX5_away 81 = .ok (.iload_n 1, 1) := by decide +kernel
theorem dX5_away_82 : decode cX5_away 82 = .ok (.iload_n 2, 1) := by decide +kernel
theorem dX5_away_83 : decode cX5_away 83 = .ok (.invokevirtual 178, 3) := by decide +kernel
theorem dX5_away_86 : decode cX5_away 86 = .ok (.istore 7, 2) := by decide +kernel
theorem dX5_away_88 : decode cX5_away 88 = .ok (.iload 7, 2) := by decide +kernel
theorem dX5_away_90 : decode cX5_away 90 = .ok (.iload 5, 2) := by decide +kernel
theorem dX5_away_92 : decode cX5_away 92 = .ok (.if_icmp .ge 11, 3) := by decide +kernel
theorem dX5_away_95 : decode cX5_away 95 = .ok (.iload 7, 2) := by decide +kernel
theorem dX5_away_97 : decode cX5_away 97 = .ok (.istore 5, 2) := by decide +kernel
theorem dX5_away_99 : decode cX5_away 99 = .ok (.iload 6, 2) := by decide +kernel
theorem dX5_away_101 : decode cX5_away 101 = .ok (.istore 4, 2) := by decide +kernel
theorem dX5_away_103 : decode cX5_away 103 = .ok (.iinc 6 1, 3) := by decide +kernel
theorem dX5_away_106 : decode cX5_away 106 = .ok (.goto (-62), 3) := by decide +kernel
theorem dX5_away_109 : decode cX5_away 109 = .ok (.iload 4, 2) := by decide +kernel
theorem dX5_away_111 : decode cX5_away 111 = .ok (.iload 5, 2) := by decide +kernel
theorem dX5_away_113 : decode cX5_away 113 = .ok (.iload_n 3, 1) := by decide +kernel
theorem dX5_away_114 : decode cX5_away 114 = .ok (.invokestatic 182, 3) := by decide +kernel
theorem dX5_away_117 : decode cX5_away 117 = .ok (.ireturn, 1) := by decide +kernel
abbrev rmX5_away : Room := { frames := 6, cells := 0, slots := 0, locals := 153 }
def opX5_away (po : Int32 → px_St → Prop) : List (Nat × px_Op) := [
  (0, px_il 1 1),
  (1, px_callS 4 1 px_vI prX5_isSound poX5_isSound),
  (4, px_if 7 23 (fun x => x = 0)),
  (7, px_il 8 2),
  (8, px_callS 11 1 px_vI prX5_isDays poX5_isDays),
  (11, px_if 14 23 (fun x => x = 0)),
  (14, px_il 15 3),
  (15, px_push 16 (.int 0)),
  (16, px_push 17 (.int 1)),
  (17, px_callS 20 3 px_vI prX5_isWithin poX5_isWithin),
  (20, px_if 23 25 (fun x => ¬ x = 0)),
  (23, px_push 24 (.int (-1))),
  (24, px_iret (.int) po),
  (25, px_push 27 (.int (-4))),
  (27, px_is 29 4),
  (29, px_al 30 0),
  (30, px_al 31 0),
  (31, px_get dC 34 5 0),
  (34, px_il 35 1),
  (35, px_il 36 2),
  (36, px_callV dC 39 5 3 px_vI prX5_timesSaid poX5_timesSaid),
  (39, px_is 41 5),
  (41, px_push 42 (.int 0)),
  (42, px_is 44 6),
  (44, px_il 46 6),
  (46, px_al 47 0),
  (47, px_get dC 50 5 0),
  (50, px_get dC 53 0 0),
  (53, px_ic 56 109 (fun x y => y ≤ x)),
  (56, px_al 57 0),
  (57, px_get dC 60 5 2),
  (60, px_al 61 0),
  (61, px_get dC 64 5 0),
  (64, px_callV dC 67 0 1 px_vV prX0_becomes poX0_becomes),
  (67, px_al 68 0),
  (68, px_get dC 71 5 2),
  (71, px_il 73 6),
  (73, px_callV dC 76 0 1 px_vV prX0_removeParrot poX0_removeParrot),
  (76, px_al 77 0),
  (77, px_al 78 0),
  (78, px_get dC 81 5 2),
  (81, px_il 82 1),
  (82, px_il 83 2),
  (83, px_callV dC 86 5 3 px_vI prX5_timesSaid poX5_timesSaid),
  (86, px_is 88 7),
  (88, px_il 90 7),
  (90, px_il 92 5),
  (92, px_ic 95 103 (fun x y => y ≤ x)),
  (95, px_il 97 7),
  (97, px_is 99 5),
  (99, px_il 101 6),
  (101, px_is 103 4),
  (103, px_inc 106 6 1),
  (106, px_go 44),
  (109, px_il 111 4),
  (111, px_il 113 5),
  (113, px_il 114 3),
  (114, px_callS 117 3 px_vI prX5_choice poX5_choice),
  (117, px_iret (.int) po)]
set_option maxRecDepth 100000 in
set_option maxHeartbeats 4000000 in
theorem okX5_away : ∀ (po : Int32 → px_St → Prop) (i pc : Nat) (op : px_Op), (opX5_away po)[i]? = some (pc, op) → px_Snd (cX5_away, 8, RX5, Cond.code yX5_away cX5_away 8 (some .int) :: wdC, (some .int), rmX5_away, dC) px_vI po pc op := by
  intro po
  unfold opX5_away
  refine px_ok_cons (ps_iload_n dX5_away_0 rfl) ?_
  refine px_ok_cons (ps_callS mX5_isSound (fun _ _ => rfl) (fun _ _ ht => px_cwS wgC (wdC_7_in _ (List.mem_of_getElem? (i := 5) rfl)) (wdC_4_in _ (List.mem_of_getElem? (i := 32) rfl)) (wdC_4_in _ (List.mem_of_getElem? (i := 23) rfl)) (wdC_4_in _ (List.mem_of_getElem? (i := 28) rfl)) (by decide +kernel) rfl rfl (by decide) ht) dX5_away_1) ?_
  refine px_ok_cons (ps_if_eq dX5_away_4 (by decide)) ?_
  refine px_ok_cons (ps_iload_n dX5_away_7 rfl) ?_
  refine px_ok_cons (ps_callS mX5_isDays (fun _ _ => rfl) (fun _ _ ht => px_cwS wgC (wdC_8_in _ (List.mem_of_getElem? (i := 1) rfl)) (wdC_8_in _ (List.mem_of_getElem? (i := 2) rfl)) (wdC_4_in _ (List.mem_of_getElem? (i := 23) rfl)) (wdC_7_in _ (List.mem_of_getElem? (i := 39) rfl)) (by decide +kernel) rfl rfl (by decide) ht) dX5_away_8) ?_
  refine px_ok_cons (ps_if_eq dX5_away_11 (by decide)) ?_
  refine px_ok_cons (ps_iload_n dX5_away_14 rfl) ?_
  refine px_ok_cons (ps_iconst dX5_away_15 (by decide)) ?_
  refine px_ok_cons (ps_iconst dX5_away_16 (by decide)) ?_
  refine px_ok_cons (ps_callS mX5_isWithin (fun _ _ => rfl) (fun _ _ ht => px_cwS wgC (wdC_4_in _ (List.mem_of_getElem? (i := 29) rfl)) (wdC_4_in _ (List.mem_of_getElem? (i := 22) rfl)) (wdC_4_in _ (List.mem_of_getElem? (i := 23) rfl)) (wdC_4_in _ (List.mem_of_getElem? (i := 20) rfl)) (by decide +kernel) rfl rfl (by decide) ht) dX5_away_17) ?_
  refine px_ok_cons (ps_if_ne dX5_away_20 (by decide)) ?_
  refine px_ok_cons (ps_iconst dX5_away_23 (by decide)) ?_
  refine px_ok_cons (ps_ireturn rfl dX5_away_24) ?_
  refine px_ok_cons (ps_bipush dX5_away_25 (by decide)) ?_
  refine px_ok_cons (ps_istore dX5_away_27 (by decide)) ?_
  refine px_ok_cons (ps_aload_n dX5_away_29 rfl) ?_
  refine px_ok_cons (ps_aload_n dX5_away_30 rfl) ?_
  refine px_ok_cons (fgX5_10 dX5_away_31) ?_
  refine px_ok_cons (ps_iload_n dX5_away_34 rfl) ?_
  refine px_ok_cons (ps_iload_n dX5_away_35 rfl) ?_
  refine px_ok_cons (ps_callV mX5_timesSaid (fun _ _ => rfl) (C := RX5) rfl (fun _ _ ht => px_cwV wgC (wdC_8_in _ (List.mem_of_getElem? (i := 13) rfl)) (wdC_8_in _ (List.mem_of_getElem? (i := 14) rfl)) (wdC_8_in _ (List.mem_of_getElem? (i := 15) rfl)) (wdC_4_in _ (List.mem_of_getElem? (i := 23) rfl)) (wdC_8_in _ (List.mem_of_getElem? (i := 12) rfl)) (by decide +kernel) rfl rfl (by decide) ht) dX5_away_36) ?_
  refine px_ok_cons (ps_istore dX5_away_39 (by decide)) ?_
  refine px_ok_cons (ps_iconst dX5_away_41 (by decide)) ?_
  refine px_ok_cons (ps_istore dX5_away_42 (by decide)) ?_
  refine px_ok_cons (ps_iload dX5_away_44) ?_
  refine px_ok_cons (ps_aload_n dX5_away_46 rfl) ?_
  refine px_ok_cons (fgX5_10 dX5_away_47) ?_
  refine px_ok_cons (fgX5_93 dX5_away_50) ?_
  refine px_ok_cons (ps_icmp_ge dX5_away_53 (by decide)) ?_
  refine px_ok_cons (ps_aload_n dX5_away_56 rfl) ?_
  refine px_ok_cons (fgX5_23 dX5_away_57) ?_
  refine px_ok_cons (ps_aload_n dX5_away_60 rfl) ?_
  refine px_ok_cons (fgX5_10 dX5_away_61) ?_
  refine px_ok_cons (ps_callV mX0_becomes (fun _ _ => rfl) (C := RX0) rfl (fun _ _ ht => px_cwV wgC (wdC_6_in _ (List.mem_of_getElem? (i := 18) rfl)) (wdC_6_in _ (List.mem_of_getElem? (i := 19) rfl)) (wdC_6_in _ (List.mem_of_getElem? (i := 20) rfl)) (wdC_0_in _ (List.mem_of_getElem? (i := 22) rfl)) (wdC_0_in _ (List.mem_of_getElem? (i := 18) rfl)) (by decide +kernel) rfl rfl (by decide) ht) dX5_away_64) ?_
  refine px_ok_cons (ps_aload_n dX5_away_67 rfl) ?_
  refine px_ok_cons (fgX5_23 dX5_away_68) ?_
  refine px_ok_cons (ps_iload dX5_away_71) ?_
  refine px_ok_cons (ps_callV mX0_removeParrot (fun _ _ => rfl) (C := RX0) rfl (fun _ _ ht => px_cwV wgC (wdC_8_in _ (List.mem_of_getElem? (i := 23) rfl)) (wdC_8_in _ (List.mem_of_getElem? (i := 24) rfl)) (wdC_8_in _ (List.mem_of_getElem? (i := 25) rfl)) (wdC_0_in _ (List.mem_of_getElem? (i := 22) rfl)) (wdC_0_in _ (List.mem_of_getElem? (i := 24) rfl)) (by decide +kernel) rfl rfl (by decide) ht) dX5_away_73) ?_
  refine px_ok_cons (ps_aload_n dX5_away_76 rfl) ?_
  refine px_ok_cons (ps_aload_n dX5_away_77 rfl) ?_
  refine px_ok_cons (fgX5_23 dX5_away_78) ?_
  refine px_ok_cons (ps_iload_n dX5_away_81 rfl) ?_
  refine px_ok_cons (ps_iload_n dX5_away_82 rfl) ?_
  refine px_ok_cons (ps_callV mX5_timesSaid (fun _ _ => rfl) (C := RX5) rfl (fun _ _ ht => px_cwV wgC (wdC_8_in _ (List.mem_of_getElem? (i := 13) rfl)) (wdC_8_in _ (List.mem_of_getElem? (i := 14) rfl)) (wdC_8_in _ (List.mem_of_getElem? (i := 15) rfl)) (wdC_4_in _ (List.mem_of_getElem? (i := 23) rfl)) (wdC_8_in _ (List.mem_of_getElem? (i := 12) rfl)) (by decide +kernel) rfl rfl (by decide) ht) dX5_away_83) ?_
  refine px_ok_cons (ps_istore dX5_away_86 (by decide)) ?_
  refine px_ok_cons (ps_iload dX5_away_88) ?_
  refine px_ok_cons (ps_iload dX5_away_90) ?_
  refine px_ok_cons (ps_icmp_ge dX5_away_92 (by decide)) ?_
  refine px_ok_cons (ps_iload dX5_away_95) ?_
  refine px_ok_cons (ps_istore dX5_away_97 (by decide)) ?_
  refine px_ok_cons (ps_iload dX5_away_99) ?_
  refine px_ok_cons (ps_istore dX5_away_101 (by decide)) ?_
  refine px_ok_cons (ps_iinc dX5_away_103 (by decide) (by decide)) ?_
  refine px_ok_cons (ps_goto dX5_away_106 (by decide)) ?_
  refine px_ok_cons (ps_iload dX5_away_109) ?_
  refine px_ok_cons (ps_iload dX5_away_111) ?_
  refine px_ok_cons (ps_iload_n dX5_away_113 rfl) ?_
  refine px_ok_cons (ps_callS mX5_choice (fun _ _ => rfl) (fun _ _ ht => px_cwS wgC (wdC_8_in _ (List.mem_of_getElem? (i := 20) rfl)) (wdC_8_in _ (List.mem_of_getElem? (i := 21) rfl)) (wdC_4_in _ (List.mem_of_getElem? (i := 23) rfl)) (wdC_8_in _ (List.mem_of_getElem? (i := 19) rfl)) (by decide +kernel) rfl rfl (by decide) ht) dX5_away_114) ?_
  refine px_ok_cons (ps_ireturn rfl dX5_away_117) ?_
  exact px_ok_nil
set_option maxRecDepth 100000 in
set_option maxHeartbeats 4000000 in
theorem sgX5_away_0 {po : Int32 → px_St → Prop} {G : px_K} (hG : px_cl (opX5_away po) G) (v1 : Int32) (v2 : Int32) (v3 : Int32) (σ : px_St)
    (H : ∃ g3 : gtX5_isSound, qrX5_isSound g3 v1 σ ∧ ∀ (r1 : Int32) (σ2 : px_St), qoX5_isSound g3 v1 σ r1 σ2 → ((r1 = 0) → po (-1 : Int32) σ2) ∧ (¬ (r1 = 0) → ∃ g7 : gtX5_isDays, qrX5_isDays g7 v2 σ2 ∧ ∀ (r5 : Int32) (σ6 : px_St), qoX5_isDays g7 v2 σ2 r5 σ6 → ((r5 = 0) → po (-1 : Int32) σ6) ∧ (¬ (r5 = 0) → ∃ g11 : gtX5_isWithin, qrX5_isWithin g11 v3 (0 : Int32) (1 : Int32) σ6 ∧ ∀ (r9 : Int32) (σ10 : px_St), qoX5_isWithin g11 v3 (0 : Int32) (1 : Int32) σ6 r9 σ10 → ((¬ r9 = 0) → ∃ g15 : gtX5_timesSaid, qrX5_timesSaid g15 8 v1 v2 σ10 ∧ ∀ (r13 : Int32) (σ14 : px_St), qoX5_timesSaid g15 8 v1 v2 σ10 r13 σ14 → G 44 [some (.ref 0), some (.int v1), some (.int v2), some (.int v3), some (.int (-4 : Int32)), some (.int r13), some (.int (0 : Int32)), none] [] σ14) ∧ (¬ (¬ r9 = 0) → po (-1 : Int32) σ10)))) :
    G 0 (px_ent 8 [.ref 0, .int v1, .int v2, .int v3]) [] σ := by
  refine hG.1 0 _ _ rfl _ _ _ ?_
  refine hG.1 1 _ _ rfl _ _ _ ?_
  obtain ⟨g3, H⟩ := H
  refine ⟨Nat.le_of_ble_eq_true rfl, Nat.le_of_ble_eq_true rfl, g3, ⟨_, rfl, H.1⟩, fun r1 σ2 hp4 => ?_⟩
  replace H := H.2 r1 σ2 hp4
  refine hG.1 2 _ _ rfl _ _ _ ?_
  refine ⟨fun h19 => ?_, fun h19 => ?_⟩
  · replace H := H.1 h19
    refine hG.1 11 _ _ rfl _ _ _ ?_
    refine hG.1 12 _ _ rfl _ _ _ ?_
    exact ⟨rfl, H⟩
  · replace H := H.2 h19
    refine hG.1 3 _ _ rfl _ _ _ ?_
    refine hG.1 4 _ _ rfl _ _ _ ?_
    obtain ⟨g7, H⟩ := H
    refine ⟨Nat.le_of_ble_eq_true rfl, Nat.le_of_ble_eq_true rfl, g7, ⟨_, rfl, H.1⟩, fun r5 σ6 hp8 => ?_⟩
    replace H := H.2 r5 σ6 hp8
    refine hG.1 5 _ _ rfl _ _ _ ?_
    refine ⟨fun h18 => ?_, fun h18 => ?_⟩
    · replace H := H.1 h18
      refine hG.1 11 _ _ rfl _ _ _ ?_
      refine hG.1 12 _ _ rfl _ _ _ ?_
      exact ⟨rfl, H⟩
    · replace H := H.2 h18
      refine hG.1 6 _ _ rfl _ _ _ ?_
      refine hG.1 7 _ _ rfl _ _ _ ?_
      refine hG.1 8 _ _ rfl _ _ _ ?_
      refine hG.1 9 _ _ rfl _ _ _ ?_
      obtain ⟨g11, H⟩ := H
      refine ⟨Nat.le_of_ble_eq_true rfl, Nat.le_of_ble_eq_true rfl, g11, ⟨_, _, _, rfl, H.1⟩, fun r9 σ10 hp12 => ?_⟩
      replace H := H.2 r9 σ10 hp12
      refine hG.1 10 _ _ rfl _ _ _ ?_
      refine ⟨fun h17 => ?_, fun h17 => ?_⟩
      · replace H := H.1 h17
        refine hG.1 13 _ _ rfl _ _ _ ?_
        refine hG.1 14 _ _ rfl _ _ _ ?_
        show G 29 [some (.ref 0), some (.int v1), some (.int v2), some (.int v3), some (.int (-4 : Int32)), none, none, none] [] σ10
        refine hG.1 15 _ _ rfl _ _ _ ?_
        refine hG.1 16 _ _ rfl _ _ _ ?_
        refine hG.1 17 _ _ rfl _ _ _ ?_
        refine ⟨⟨rfl, by decide⟩, ?_⟩
        refine hG.1 18 _ _ rfl _ _ _ ?_
        refine hG.1 19 _ _ rfl _ _ _ ?_
        refine hG.1 20 _ _ rfl _ _ _ ?_
        obtain ⟨g15, H⟩ := H
        refine ⟨⟨rfl, by decide⟩, Nat.le_of_ble_eq_true rfl, g15, ⟨_, _, _, rfl, (Or.inl rfl), H.1⟩, fun r13 σ14 hp16 => ?_⟩
        replace H := H.2 r13 σ14 hp16
        refine hG.1 21 _ _ rfl _ _ _ ?_
        show G 41 [some (.ref 0), some (.int v1), some (.int v2), some (.int v3), some (.int (-4 : Int32)), some (.int r13), none, none] [] σ14
        refine hG.1 22 _ _ rfl _ _ _ ?_
        refine hG.1 23 _ _ rfl _ _ _ ?_
        show G 44 [some (.ref 0), some (.int v1), some (.int v2), some (.int v3), some (.int (-4 : Int32)), some (.int r13), some (.int (0 : Int32)), none] [] σ14
        exact H
      · replace H := H.2 h17
        refine hG.1 11 _ _ rfl _ _ _ ?_
        refine hG.1 12 _ _ rfl _ _ _ ?_
        exact ⟨rfl, H⟩
set_option maxRecDepth 100000 in
set_option maxHeartbeats 4000000 in
theorem sgX5_away_44 {po : Int32 → px_St → Prop} {G : px_K} (hG : px_cl (opX5_away po) G) (v1 : Int32) (v2 : Int32) (v3 : Int32) (v4 : Int32) (v5 : Int32) (v6 : Int32) (σ : px_St)
    (H : (((σ.1 8 0) ≤ v6) → ∃ g3 : gtX5_choice, qrX5_choice g3 v4 v5 v3 σ ∧ ∀ (r1 : Int32) (σ2 : px_St), qoX5_choice g3 v4 v5 v3 σ r1 σ2 → po r1 σ2) ∧ (¬ ((σ.1 8 0) ≤ v6) → ∃ g7 : gtX0_becomes, qrX0_becomes g7 13 8 σ ∧ ∀ (r5 : Unit) (σ6 : px_St), qoX0_becomes g7 13 8 σ r5 σ6 → ∃ g11 : gtX0_removeParrot, qrX0_removeParrot g11 13 v6 σ6 ∧ ∀ (r9 : Unit) (σ10 : px_St), qoX0_removeParrot g11 13 v6 σ6 r9 σ10 → ∃ g15 : gtX5_timesSaid, qrX5_timesSaid g15 13 v1 v2 σ10 ∧ ∀ (r13 : Int32) (σ14 : px_St), qoX5_timesSaid g15 13 v1 v2 σ10 r13 σ14 → ((v5 ≤ r13) → G 44 [some (.ref 0), some (.int v1), some (.int v2), some (.int v3), some (.int v4), some (.int v5), some (.int (v6 + 1)), none] [] σ14) ∧ (¬ (v5 ≤ r13) → G 44 [some (.ref 0), some (.int v1), some (.int v2), some (.int v3), some (.int v6), some (.int r13), some (.int (v6 + 1)), none] [] σ14))) :
    G 44 [some (.ref 0), some (.int v1), some (.int v2), some (.int v3), some (.int v4), some (.int v5), some (.int v6), none] [] σ := by
  refine hG.1 24 _ _ rfl _ _ _ ?_
  refine hG.1 25 _ _ rfl _ _ _ ?_
  refine hG.1 26 _ _ rfl _ _ _ ?_
  refine ⟨⟨rfl, by decide⟩, ?_⟩
  refine hG.1 27 _ _ rfl _ _ _ ?_
  refine ⟨⟨rfl, by decide⟩, ?_⟩
  refine hG.1 28 _ _ rfl _ _ _ ?_
  refine ⟨fun h18 => ?_, fun h18 => ?_⟩
  · replace H := H.1 h18
    refine hG.1 54 _ _ rfl _ _ _ ?_
    refine hG.1 55 _ _ rfl _ _ _ ?_
    refine hG.1 56 _ _ rfl _ _ _ ?_
    refine hG.1 57 _ _ rfl _ _ _ ?_
    obtain ⟨g3, H⟩ := H
    refine ⟨Nat.le_of_ble_eq_true rfl, Nat.le_of_ble_eq_true rfl, g3, ⟨_, _, _, rfl, H.1⟩, fun r1 σ2 hp4 => ?_⟩
    replace H := H.2 r1 σ2 hp4
    refine hG.1 58 _ _ rfl _ _ _ ?_
    exact ⟨rfl, H⟩
  · replace H := H.2 h18
    refine hG.1 29 _ _ rfl _ _ _ ?_
    refine hG.1 30 _ _ rfl _ _ _ ?_
    refine ⟨⟨rfl, by decide⟩, ?_⟩
    refine hG.1 31 _ _ rfl _ _ _ ?_
    refine hG.1 32 _ _ rfl _ _ _ ?_
    refine ⟨⟨rfl, by decide⟩, ?_⟩
    refine hG.1 33 _ _ rfl _ _ _ ?_
    obtain ⟨g7, H⟩ := H
    refine ⟨⟨rfl, by decide⟩, Nat.le_of_ble_eq_true rfl, g7, ⟨_, _, rfl, (Or.inr (Or.inl rfl)), (Or.inl rfl), H.1⟩, fun r5 σ6 hp8 => ?_⟩
    replace H := H.2 r5 σ6 hp8
    refine hG.1 34 _ _ rfl _ _ _ ?_
    refine hG.1 35 _ _ rfl _ _ _ ?_
    refine ⟨⟨rfl, by decide⟩, ?_⟩
    refine hG.1 36 _ _ rfl _ _ _ ?_
    refine hG.1 37 _ _ rfl _ _ _ ?_
    obtain ⟨g11, H⟩ := H
    refine ⟨⟨rfl, by decide⟩, Nat.le_of_ble_eq_true rfl, g11, ⟨_, _, rfl, (Or.inr (Or.inl rfl)), H.1⟩, fun r9 σ10 hp12 => ?_⟩
    replace H := H.2 r9 σ10 hp12
    refine hG.1 38 _ _ rfl _ _ _ ?_
    refine hG.1 39 _ _ rfl _ _ _ ?_
    refine hG.1 40 _ _ rfl _ _ _ ?_
    refine ⟨⟨rfl, by decide⟩, ?_⟩
    refine hG.1 41 _ _ rfl _ _ _ ?_
    refine hG.1 42 _ _ rfl _ _ _ ?_
    refine hG.1 43 _ _ rfl _ _ _ ?_
    obtain ⟨g15, H⟩ := H
    refine ⟨⟨rfl, by decide⟩, Nat.le_of_ble_eq_true rfl, g15, ⟨_, _, _, rfl, (Or.inr (Or.inl rfl)), H.1⟩, fun r13 σ14 hp16 => ?_⟩
    replace H := H.2 r13 σ14 hp16
    refine hG.1 44 _ _ rfl _ _ _ ?_
    show G 88 [some (.ref 0), some (.int v1), some (.int v2), some (.int v3), some (.int v4), some (.int v5), some (.int v6), some (.int r13)] [] σ14
    refine hG.1 45 _ _ rfl _ _ _ ?_
    refine hG.1 46 _ _ rfl _ _ _ ?_
    refine hG.1 47 _ _ rfl _ _ _ ?_
    refine ⟨fun h17 => ?_, fun h17 => ?_⟩
    · replace H := H.1 h17
      refine hG.1 52 _ _ rfl _ _ _ ?_
      show G 106 [some (.ref 0), some (.int v1), some (.int v2), some (.int v3), some (.int v4), some (.int v5), some (.int (v6 + 1)), some (.int r13)] [] σ14
      refine hG.1 53 _ _ rfl _ _ _ ?_
      refine hG.2 44 [some (.ref 0), some (.int v1), some (.int v2), some (.int v3), some (.int v4), some (.int v5), some (.int (v6 + 1)), none] _ _ _ ⟨rfl, rfl, rfl, rfl, rfl, rfl, rfl, trivial⟩ ?_
      exact H
    · replace H := H.2 h17
      refine hG.1 48 _ _ rfl _ _ _ ?_
      refine hG.1 49 _ _ rfl _ _ _ ?_
      show G 99 [some (.ref 0), some (.int v1), some (.int v2), some (.int v3), some (.int v4), some (.int r13), some (.int v6), some (.int r13)] [] σ14
      refine hG.1 50 _ _ rfl _ _ _ ?_
      refine hG.1 51 _ _ rfl _ _ _ ?_
      show G 103 [some (.ref 0), some (.int v1), some (.int v2), some (.int v3), some (.int v6), some (.int r13), some (.int v6), some (.int r13)] [] σ14
      refine hG.1 52 _ _ rfl _ _ _ ?_
      show G 106 [some (.ref 0), some (.int v1), some (.int v2), some (.int v3), some (.int v6), some (.int r13), some (.int (v6 + 1)), some (.int r13)] [] σ14
      refine hG.1 53 _ _ rfl _ _ _ ?_
      refine hG.2 44 [some (.ref 0), some (.int v1), some (.int v2), some (.int v3), some (.int v6), some (.int r13), some (.int (v6 + 1)), none] _ _ _ ⟨rfl, rfl, rfl, rfl, rfl, rfl, rfl, trivial⟩ ?_
      exact H
set_option maxRecDepth 100000 in
set_option maxHeartbeats 4000000 in
theorem hhX5_away (g : gtX5_away) (v1 : Int32) (v2 : Int32) (v3 : Int32) (σ : px_St) (h : qrX5_away g v1 v2 v3 σ) (G : px_K) (hG : px_cl (opX5_away (qoX5_away g v1 v2 v3 σ)) G) : G 0 (px_ent 8 [.ref 0, .int v1, .int v2, .int v3]) [] σ := by
  obtain ⟨hX, hok⟩ := h
  have hd := hok.1.2
  have hvk := hok.1.1
  have h5 := hvk.1.1
  refine sgX5_away_0 hG _ _ _ σ ⟨(), trivial, fun r1 σ1 h1 => ?_⟩
  obtain ⟨rfl, b1⟩ := h1
  refine bz2 b1 (fun z => ⟨(), trivial, fun r2 σ2 h2 => ?_⟩) (fun z => ?_)
  · obtain ⟨rfl, b2⟩ := h2
    refine bz2 b2 (fun y => ⟨(), trivial, fun r3 σ3 h3 => ?_⟩) (fun y => ?_)
    · obtain ⟨rfl, b3⟩ := h3
      refine bz1 b3 (fun x => ?_) (fun x => ?_)
      · obtain ⟨s, hs, rfl⟩ := (rngc 9 9 rfl (by omega)).mp z
        obtain ⟨n, hn, rfl⟩ := (rngc 60 60 rfl (by omega)).mp y
        have ex : (x_away g (nI s) (nI n) v3) = (pv_choice (pv_bmin (fun p => pv_times (pv_off g.1 p) s n) (pv_times g.1 s n) g.1.1).1 (nI (pv_bmin (fun p => pv_times (pv_off g.1 p) s n) (pv_times g.1 s n) g.1.1).2) v3, g) := by
          unfold x_away
          rw [xif_t ⟨z, y, x⟩, nI_clamp (by omega), nI_clamp (by omega)]
        refine ⟨(g.1, s, n), ⟨by omega, hX.1, hvk, by omega, by omega, rfl, rfl⟩, fun r4 σ4 hq => ?_⟩
        obtain ⟨rfl, q3⟩ := hq
        have loop : ∀ m k, k + m = g.1.1 → ∀ σ', px_tr σ3 σ' → G 44 [some (.ref 0), some (.int (nI s)), some (.int (nI n)), some (.int v3), some (.int (pv_bmin (fun p => pv_times (pv_off g.1 p) s n) (pv_times g.1 s n) k).1), some (.int (nI (pv_bmin (fun p => pv_times (pv_off g.1 p) s n) (pv_times g.1 s n) k).2)), some (.int (nI k)), none] [] σ' := by
          intro m
          induction m with
          | zero =>
            intro k hk σ' ho
            have e : k = g.1.1 := by omega
            subst e
            have hX' := ho.cl hX
            refine sgX5_away_44 hG _ _ _ _ _ _ σ' ?_
            rw [hX'.1.1.1]
            refine ⟨fun _ => ⟨(), trivial, fun r σ5 hq => ?_⟩, fun q => absurd (Int32.le_refl _) q⟩
            obtain ⟨rfl, rfl⟩ := hq
            unfold qoX5_away
            rw [ex]
            exact ⟨rfl, hX'⟩
          | succ m ih =>
            intro k hk σ' ho
            have hX' := ho.cl hX
            have hkg : k < g.1.1 := by omega
            refine sgX5_away_44 hG _ _ _ _ _ _ σ' ?_
            rw [hX'.1.1.1]
            refine ⟨fun q => absurd q (nI_ge (by omega) (by omega)), fun _ => ⟨g.1, ⟨by omega, hX'.1, hvk.1⟩, fun _ σ5 hq5 => ?_⟩⟩
            obtain ⟨p1, p2⟩ := hq5
            refine ⟨(g.1, k), ⟨p1, hvk.1, hkg, rfl⟩, fun _ σ6 hq6 => ?_⟩
            obtain ⟨p3, p4⟩ := hq6
            refine ⟨(pv_off g.1 k, s, n), ⟨by omega, p3, pv_off_ok hvk hkg, Nat.lt_of_le_of_lt hd (by omega), by omega, rfl, rfl⟩, fun r7 σ7 hq7 => ?_⟩
            obtain ⟨rfl, p5⟩ := hq7
            have ho7 := ((ho.a p2).a p4).f p5
            have hb1 : (pv_bmin (fun p => pv_times (pv_off g.1 p) s n) (pv_times g.1 s n) k).2 < 100 := pv_bmin_lt (by have := pv_times_le g.1 s n; omega) k (fun j _ => by have := pv_times_le (pv_off g.1 j) s n; omega)
            have hb2 := pv_times_le (pv_off g.1 k) s n
            have e := ih (k + 1) (by omega) σ7 ho7
            rw [pv_bmin] at e
            have cl : nI (pv_bmin (fun p => pv_times (pv_off g.1 p) s n) (pv_times g.1 s n) k).2 ≤ nI (pv_times (pv_off g.1 k) s n) ↔ (pv_bmin (fun p => pv_times (pv_off g.1 p) s n) (pv_times g.1 s n) k).2 ≤ pv_times (pv_off g.1 k) s n := nI_leI (by omega) (by omega)
            rw [cl, nI_1]
            refine ⟨fun q => ?_, fun q => ?_⟩
            · rw [if_neg (by omega)] at e; exact e
            · rw [if_pos (by omega)] at e; exact e
        exact loop g.1.1 0 (by omega) σ4 q3.t
      · unfold qoX5_away x_away
        rw [xif_f (fun q => x q.2.2)]
        exact ⟨rfl, hX⟩
    · unfold qoX5_away x_away
      rw [xif_f (fun q => y q.2.1)]
      exact ⟨rfl, hX⟩
  · unfold qoX5_away x_away
    rw [xif_f (fun q => z q.1)]
    exact ⟨rfl, hX⟩
theorem mX5_away (g : gtX5_away) : px_Met dC yX5_away (Cond.code yX5_away cX5_away 8 (some .int) :: wdC) rmX5_away px_vI (prX5_away g) (poX5_away g) :=
  px_met (Z := (cX5_away, 8, RX5, Cond.code yX5_away cX5_away 8 (some .int) :: wdC, (some .int), rmX5_away, dC)) opX5_away (by decide) rfl rfl okX5_away (fun As σ h => by obtain ⟨v1, v2, v3, rfl, h⟩ := h; exact Nat.le_of_ble_eq_true rfl) (fun As σ h G hG => by obtain ⟨v1, v2, v3, rfl, h⟩ := h; exact hhX5_away g v1 v2 v3 σ h G hG)
/-- two change perches -/
def pv_swp (V : pv_V) (p q : Nat) : pv_V := pv_at (pv_at V p (V.2.2.2 q)) q (V.2.2.2 p)
noncomputable def pv_swi (V : pv_V) (s p : Nat) (x : Int32 × Nat) : Nat → Int32 × Nat
  | 0 => x
  | m + 1 => if pv_ff (pv_swp V p (p + 1 + m)) s 61 0 < (pv_swi V s p x m).2 then (nI (10 * p + (p + 1 + m)), pv_ff (pv_swp V p (p + 1 + m)) s 61 0) else pv_swi V s p x m
noncomputable def pv_swo (V : pv_V) (s : Nat) : Nat → Int32 × Nat
  | 0 => (-4, pv_ff V s 61 0)
  | k + 1 => pv_swi V s k (pv_swo V s k) (V.1 - (k + 1))
theorem pv_swi_le (V : pv_V) (s p : Nat) (x : Int32 × Nat) (hx : x.2 ≤ 61) (m : Nat) : (pv_swi V s p x m).2 ≤ 61 := by
  induction m with
  | zero => exact hx
  | succ m ih =>
    rw [pv_swi]
    split
    · exact pv_ff_le _ s 61 0 (by omega)
    · exact ih
theorem pv_swo_le (V : pv_V) (s k : Nat) : (pv_swo V s k).2 ≤ 61 := by
  induction k with
  | zero => exact pv_ff_le V s 61 0 (by omega)
  | succ k ih => exact pv_swi_le V s k _ ih _
noncomputable def x_swap (X : pv_X) (s w : Int32) : Int32 × pv_X := (xif ((0 ≤ s ∧ s ≤ 9) ∧ (0 ≤ w ∧ w ≤ 1)) (pv_choice (pv_swo X.1 s.toNatClampNeg X.1.1).1 (nI (pv_swo X.1 s.toNatClampNeg X.1.1).2) w) (-1), X)
theorem pv_swp_ok {V : pv_V} {p q : Nat} (h : pv_ok V) (hp : p < V.1) (hq : q < V.1) : pv_ok (pv_swp V p q) :=
  pv_at_ok (pv_at_ok h (h.1.2.2.2 q hq) (h.2 q hq)) (h.1.2.2.2 p hp) (h.2 p hp)
abbrev gtX5_swap : Type := pv_X
def qrX5_swap (X : pv_X) (_ _ : Int32) (σ : px_St) : Prop := cl_is σ X ∧ xo X
def qoX5_swap (X : pv_X) (s w : Int32) (_ : px_St) (r : Int32) (σ' : px_St) : Prop := r = (x_swap X s w).1 ∧ cl_is σ' (x_swap X s w).2
def prX5_swap (g : gtX5_swap) : List Value → px_St → Prop := fun As σ => ∃ v1 : Int32, ∃ v2 : Int32, As = [.ref 0, .int v1, .int v2] ∧ qrX5_swap g v1 v2 σ
def poX5_swap (g : gtX5_swap) : List Value → px_St → Int32 → px_St → Prop
  | [.ref _, .int v1, .int v2], σ, r, σ' => qoX5_swap g v1 v2 σ r σ'
  | _, _, _, _ => False
theorem dX5_swap_0 : decode cX5_swap 0 = .ok (.iload_n 1, 1) := by decide +kernel
theorem dX5_swap_1 : decode cX5_swap 1 = .ok (.invokestatic 132, 3) := by decide +kernel
theorem dX5_swap_4 : decode cX5_swap 4 = .ok (.ifCond .eq 12, 3) := by decide +kernel
theorem dX5_swap_7 : decode cX5_swap 7 = .ok (.iload_n 2, 1) := by decide +kernel
theorem dX5_swap_8 : decode cX5_swap 8 = .ok (.iconst 0, 1) := by decide +kernel
theorem dX5_swap_9 : decode cX5_swap 9 = .ok (.iconst 1, 1) := by decide +kernel
theorem dX5_swap_10 : decode cX5_swap 10 = .ok (.invokestatic 61, 3) := by decide +kernel
theorem dX5_swap_13 : decode cX5_swap 13 = .ok (.ifCond .ne 5, 3) := by decide +kernel
theorem dX5_swap_16 : decode cX5_swap 16 = .ok (.iconst (-1), 1) := by decide +kernel
theorem dX5_swap_17 : decode cX5_swap 17 = .ok (.ireturn, 1) := by decide +kernel
theorem dX5_swap_18 : decode cX5_swap 18 = .ok (.bipush (-4), 2) := by decide +kernel
theorem dX5_swap_20 : decode cX5_swap 20 = .ok (.istore_n 3, 1) := by decide +kernel
theorem dX5_swap_21 : decode cX5_swap 21 = .ok (.aload_n 0, 1) := by decide +kernel
theorem dX5_swap_22 : decode cX5_swap 22 = .ok (.aload_n 0, 1) := by decide +kernel
theorem dX5_swap_23 : decode cX5_swap 23 = .ok (.getfield 10, 3) := by decide +kernel
theorem dX5_swap_26 : decode cX5_swap 26 = .ok (.iload_n 1, 1) := by decide +kernel
theorem dX5_swap_27 : decode cX5_swap 27 = .ok (.invokevirtual 174, 3) := by decide +kernel
theorem dX5_swap_30 : decode cX5_swap 30 = .ok (.istore 4, 2) := by decide +kernel
theorem dX5_swap_32 : decode cX5_swap 32 = .ok (.iconst 0, 1) := by decide +kernel
theorem dX5_swap_33 : decode cX5_swap 33 = .ok (.istore 5, 2) := by decide +kernel
theorem dX5_swap_35 : decode cX5_swap 35 = .ok (.iload 5, 2) := by decide +kernel
theorem dX5_swap_37 : decode cX5_swap 37 = .ok (.aload_n 0, 1) := by decide +kernel
theorem dX5_swap_38 : decode cX5_swap 38 = .ok (.getfield 10, 3) := by decide +kernel
theorem dX5_swap_41 : decode cX5_swap 41 = .ok (.getfield 93, 3) := by decide +kernel
theorem dX5_swap_44 : decode cX5_swap 44 = .ok (.if_icmp .ge 105, 3) := by decide +kernel
theorem dX5_swap_47 : decode cX5_swap 47 = .ok (.iload 5, 2) := by decide +kernel
theorem dX5_swap_49 : decode cX5_swap 49 = .ok (.iconst 1, 1) := by decide +kernel
theorem dX5_swap_50 : decode cX5_swap 50 = .ok (.iadd, 1) := by decide +kernel
theorem dX5_swap_51 : decode cX5_swap 51 = .ok (.istore 6, 2) := by decide +kernel
theorem dX5_swap_53 : decode cX5_swap 53 = .ok (.iload 6, 2) := by decide +kernel
theorem dX5_swap_55 : decode cX5_swap 55 = .ok (.aload_n 0, 1) := by decide +kernel
theorem dX5_swap_56 : decode cX5_swap 56 = .ok (.getfield 10, 3) := by decide +kernel
theorem dX5_swap_59 : decode cX5_swap 59 = .ok (.getfield 93, 3) := by decide +kernel
theorem dX5_swap_62 : decode cX5_swap 62 = .ok (.if_icmp .ge 81, 3) := by decide +kernel
theorem dX5_swap_65 : decode cX5_swap 65 = .ok (.aload_n 0, 1) := by decide +kernel
theorem dX5_swap_66 : decode cX5_swap 66 = .ok (.getfield 23, 3) := by decide +kernel
theorem dX5_swap_69 : decode cX5_swap 69 = .ok (.aload_n 0, 1) := by decide +kernel
theorem dX5_swap_70 : decode cX5_swap 70 = .ok (.getfield 10, 3) := by decide +kernel
theorem dX5_swap_73 : decode cX5_swap 73 = .ok (.invokevirtual 82, 3) := by decide +kernel
theorem dX5_swap_76 : decode cX5_swap 76 = .ok (.aload_n 0, 1) := by decide +kernel
theorem dX5_swap_77 : decode cX5_swap 77 = .ok (.getfield 23, 3) := by decide +kernel
theorem dX5_swap_80 : decode cX5_swap 80 = .ok (.iload 5, 2) := by decide +kernel
theorem dX5_swap_82 : decode cX5_swap 82 = .ok (.aload_n 0, 1) := by decide +kernel
theorem dX5_swap_83 : decode cX5_swap 83 = .ok (.getfield 10, 3) := by decide +kernel
theorem dX5_swap_86 : decode cX5_swap 86 = .ok (.iload 6, 2) := by decide +kernel
theorem dX5_swap_88 : decode cX5_swap 88 = .ok (.invokevirtual 189, 3) := by decide +kernel
theorem dX5_swap_91 : decode cX5_swap 91 = .ok (.aload_n 0, 1) := by decide +kernel
theorem dX5_swap_92 : decode cX5_swap 92 = .ok (.getfield 23, 3) := by decide +kernel
theorem dX5_swap_95 : decode cX5_swap 95 = .ok (.iload 6, 2) := by decide +kernel
theorem dX5_swap_97 : decode cX5_swap 97 = .ok (.aload_n 0, 1) := by decide +kernel
theorem dX5_swap_98 : decode cX5_swap 98 = .ok (.getfield 10, 3) := by decide +kernel
theorem dX5_swap_101 : decode cX5_swap 101 = .ok (.iload 5, 2) := by decide +kernel
theorem dX5_swap_103 : decode cX5_swap 103 = .ok (.invokevirtual 189, 3) := by decide +kernel
theorem dX5_swap_106 : decode cX5_swap 106 = .ok (.aload_n 0, 1) := by decide +kernel
theorem dX5_swap_107 : decode cX5_swap 107 = .ok (.aload_n 0, 1) := by decide +kernel
theorem dX5_swap_108 : decode cX5_swap 108 = .ok (.getfield 23, 3) := by decide +kernel
theorem dX5_swap_111 : decode cX5_swap 111 = .ok (.iload_n 1, 1) := by decide +kernel
theorem dX5_swap_112 : decode cX5_swap 112 = .ok (.invokevirtual 174, 3) := by decide +kernel
theorem dX5_swap_115 : decode cX5_swap 115 = .ok (.istore 7, 2) := by decide +kernel
theorem dX5_swap_117 : decode cX5_swap 117 = .ok (.iload 7, 2) := by decide +kernel
theorem dX5_swap_119 : decode cX5_swap 119 = .ok (.iload 4, 2) := by decide +kernel
theorem dX5_swap_121 : decode cX5_swap 121 = .ok (.if_icmp .ge 16, 3) := by decide +kernel
theorem dX5_swap_124 : decode cX5_swap 124 = .ok (.iload 7, 2) := by decide +kernel
theorem dX5_swap_126 : decode cX5_swap 126 = .ok (.istore 4, 2) := by decide +kernel
theorem dX5_swap_128 : decode cX5_swap 128 = .ok (.bipush 10, 2) := by decide +kernel
theorem dX5_swap_130 : decode cX5_swap 130 = .ok (.iload 5, 2) := by decide +kernel
theorem dX5_swap_132 : decode cX5_swap 132 = .ok (.imul, 1) := by decide +kernel
theorem dX5_swap_133 : decode cX5_swap 133 = .ok (.iload 6, 2) := by decide +kernel
theorem dX5_swap_135 : decode cX5_swap 135 = .ok (.iadd, 1) := by decide +kernel
theorem dX5_swap_136 : decode cX5_swap 136 = .ok (.istore_n 3, 1) := by decide +kernel
theorem dX5_swap_137 : decode cX5_swap 137 = .ok (.iinc 6 1, 3) := by decide +kernel
theorem dX5_swap_140 : decode cX5_swap 140 = .ok (.goto (-87), 3) := by decide +kernel
theorem dX5_swap_143 : decode cX5_swap 143 = .ok (.iinc 5 1, 3) := by decide +kernel
theorem dX5_swap_146 : decode cX5_swap 146 = .ok (.goto (-111), 3) := by decide +kernel
theorem dX5_swap_149 : decode cX5_swap 149 = .ok (.iload_n 3, 1) := by decide +kernel
theorem dX5_swap_150 : decode cX5_swap 150 = .ok (.iload 4, 2) := by decide +kernel
theorem dX5_swap_152 : decode cX5_swap 152 = .ok (.iload_n 2, 1) := by decide +kernel
theorem dX5_swap_153 : decode cX5_swap 153 = .ok (.invokestatic 182, 3) := by decide +kernel
theorem dX5_swap_156 : decode cX5_swap 156 = .ok (.ireturn, 1) := by decide +kernel
abbrev rmX5_swap : Room := { frames := 6, cells := 0, slots := 0, locals := 151 }
def opX5_swap (po : Int32 → px_St → Prop) : List (Nat × px_Op) := [
  (0, px_il 1 1),
  (1, px_callS 4 1 px_vI prX5_isSound poX5_isSound),
  (4, px_if 7 16 (fun x => x = 0)),
  (7, px_il 8 2),
  (8, px_push 9 (.int 0)),
  (9, px_push 10 (.int 1)),
  (10, px_callS 13 3 px_vI prX5_isWithin poX5_isWithin),
  (13, px_if 16 18 (fun x => ¬ x = 0)),
  (16, px_push 17 (.int (-1))),
  (17, px_iret (.int) po),
  (18, px_push 20 (.int (-4))),
  (20, px_is 21 3),
  (21, px_al 22 0),
  (22, px_al 23 0),
  (23, px_get dC 26 5 0),
  (26, px_il 27 1),
  (27, px_callV dC 30 5 2 px_vI prX5_firstSaid poX5_firstSaid),
  (30, px_is 32 4),
  (32, px_push 33 (.int 0)),
  (33, px_is 35 5),
  (35, px_il 37 5),
  (37, px_al 38 0),
  (38, px_get dC 41 5 0),
  (41, px_get dC 44 0 0),
  (44, px_ic 47 149 (fun x y => y ≤ x)),
  (47, px_il 49 5),
  (49, px_push 50 (.int 1)),
  (50, px_bin 51 (fun x y => x + y)),
  (51, px_is 53 6),
  (53, px_il 55 6),
  (55, px_al 56 0),
  (56, px_get dC 59 5 0),
  (59, px_get dC 62 0 0),
  (62, px_ic 65 143 (fun x y => y ≤ x)),
  (65, px_al 66 0),
  (66, px_get dC 69 5 2),
  (69, px_al 70 0),
  (70, px_get dC 73 5 0),
  (73, px_callV dC 76 0 1 px_vV prX0_becomes poX0_becomes),
  (76, px_al 77 0),
  (77, px_get dC 80 5 2),
  (80, px_il 82 5),
  (82, px_al 83 0),
  (83, px_get dC 86 5 0),
  (86, px_il 88 6),
  (88, px_callV dC 91 0 3 px_vV prX0_copyParrot poX0_copyParrot),
  (91, px_al 92 0),
  (92, px_get dC 95 5 2),
  (95, px_il 97 6),
  (97, px_al 98 0),
  (98, px_get dC 101 5 0),
  (101, px_il 103 5),
  (103, px_callV dC 106 0 3 px_vV prX0_copyParrot poX0_copyParrot),
  (106, px_al 107 0),
  (107, px_al 108 0),
  (108, px_get dC 111 5 2),
  (111, px_il 112 1),
  (112, px_callV dC 115 5 2 px_vI prX5_firstSaid poX5_firstSaid),
  (115, px_is 117 7),
  (117, px_il 119 7),
  (119, px_il 121 4),
  (121, px_ic 124 137 (fun x y => y ≤ x)),
  (124, px_il 126 7),
  (126, px_is 128 4),
  (128, px_push 130 (.int 10)),
  (130, px_il 132 5),
  (132, px_bin 133 (fun x y => x * y)),
  (133, px_il 135 6),
  (135, px_bin 136 (fun x y => x + y)),
  (136, px_is 137 3),
  (137, px_inc 140 6 1),
  (140, px_go 53),
  (143, px_inc 146 5 1),
  (146, px_go 35),
  (149, px_il 150 3),
  (150, px_il 152 4),
  (152, px_il 153 2),
  (153, px_callS 156 3 px_vI prX5_choice poX5_choice),
  (156, px_iret (.int) po)]
set_option maxRecDepth 100000 in
set_option maxHeartbeats 4000000 in
theorem okX5_swap : ∀ (po : Int32 → px_St → Prop) (i pc : Nat) (op : px_Op), (opX5_swap po)[i]? = some (pc, op) → px_Snd (cX5_swap, 8, RX5, Cond.code yX5_swap cX5_swap 8 (some .int) :: wdC, (some .int), rmX5_swap, dC) px_vI po pc op := by
  intro po
  unfold opX5_swap
  refine px_ok_cons (ps_iload_n dX5_swap_0 rfl) ?_
  refine px_ok_cons (ps_callS mX5_isSound (fun _ _ => rfl) (fun _ _ ht => px_cwS wgC (wdC_7_in _ (List.mem_of_getElem? (i := 5) rfl)) (wdC_4_in _ (List.mem_of_getElem? (i := 32) rfl)) (wdC_4_in _ (List.mem_of_getElem? (i := 23) rfl)) (wdC_4_in _ (List.mem_of_getElem? (i := 28) rfl)) (by decide +kernel) rfl rfl (by decide) ht) dX5_swap_1) ?_
  refine px_ok_cons (ps_if_eq dX5_swap_4 (by decide)) ?_
  refine px_ok_cons (ps_iload_n dX5_swap_7 rfl) ?_
  refine px_ok_cons (ps_iconst dX5_swap_8 (by decide)) ?_
  refine px_ok_cons (ps_iconst dX5_swap_9 (by decide)) ?_
  refine px_ok_cons (ps_callS mX5_isWithin (fun _ _ => rfl) (fun _ _ ht => px_cwS wgC (wdC_4_in _ (List.mem_of_getElem? (i := 29) rfl)) (wdC_4_in _ (List.mem_of_getElem? (i := 22) rfl)) (wdC_4_in _ (List.mem_of_getElem? (i := 23) rfl)) (wdC_4_in _ (List.mem_of_getElem? (i := 20) rfl)) (by decide +kernel) rfl rfl (by decide) ht) dX5_swap_10) ?_
  refine px_ok_cons (ps_if_ne dX5_swap_13 (by decide)) ?_
  refine px_ok_cons (ps_iconst dX5_swap_16 (by decide)) ?_
  refine px_ok_cons (ps_ireturn rfl dX5_swap_17) ?_
  refine px_ok_cons (ps_bipush dX5_swap_18 (by decide)) ?_
  refine px_ok_cons (ps_istore_n dX5_swap_20 rfl (by decide)) ?_
  refine px_ok_cons (ps_aload_n dX5_swap_21 rfl) ?_
  refine px_ok_cons (ps_aload_n dX5_swap_22 rfl) ?_
  refine px_ok_cons (fgX5_10 dX5_swap_23) ?_
  refine px_ok_cons (ps_iload_n dX5_swap_26 rfl) ?_
  refine px_ok_cons (ps_callV mX5_firstSaid (fun _ _ => rfl) (C := RX5) rfl (fun _ _ ht => px_cwV wgC (wdC_8_in _ (List.mem_of_getElem? (i := 8) rfl)) (wdC_8_in _ (List.mem_of_getElem? (i := 9) rfl)) (wdC_8_in _ (List.mem_of_getElem? (i := 10) rfl)) (wdC_4_in _ (List.mem_of_getElem? (i := 23) rfl)) (wdC_8_in _ (List.mem_of_getElem? (i := 7) rfl)) (by decide +kernel) rfl rfl (by decide) ht) dX5_swap_27) ?_
  refine px_ok_cons (ps_istore dX5_swap_30 (by decide)) ?_
  refine px_ok_cons (ps_iconst dX5_swap_32 (by decide)) ?_
  refine px_ok_cons (ps_istore dX5_swap_33 (by decide)) ?_
  refine px_ok_cons (ps_iload dX5_swap_35) ?_
  refine px_ok_cons (ps_aload_n dX5_swap_37 rfl) ?_
  refine px_ok_cons (fgX5_10 dX5_swap_38) ?_
  refine px_ok_cons (fgX5_93 dX5_swap_41) ?_
  refine px_ok_cons (ps_icmp_ge dX5_swap_44 (by decide)) ?_
  refine px_ok_cons (ps_iload dX5_swap_47) ?_
  refine px_ok_cons (ps_iconst dX5_swap_49 (by decide)) ?_
  refine px_ok_cons (ps_iadd dX5_swap_50) ?_
  refine px_ok_cons (ps_istore dX5_swap_51 (by decide)) ?_
  refine px_ok_cons (ps_iload dX5_swap_53) ?_
  refine px_ok_cons (ps_aload_n dX5_swap_55 rfl) ?_
  refine px_ok_cons (fgX5_10 dX5_swap_56) ?_
  refine px_ok_cons (fgX5_93 dX5_swap_59) ?_
  refine px_ok_cons (ps_icmp_ge dX5_swap_62 (by decide)) ?_
  refine px_ok_cons (ps_aload_n dX5_swap_65 rfl) ?_
  refine px_ok_cons (fgX5_23 dX5_swap_66) ?_
  refine px_ok_cons (ps_aload_n dX5_swap_69 rfl) ?_
  refine px_ok_cons (fgX5_10 dX5_swap_70) ?_
  refine px_ok_cons (ps_callV mX0_becomes (fun _ _ => rfl) (C := RX0) rfl (fun _ _ ht => px_cwV wgC (wdC_6_in _ (List.mem_of_getElem? (i := 18) rfl)) (wdC_6_in _ (List.mem_of_getElem? (i := 19) rfl)) (wdC_6_in _ (List.mem_of_getElem? (i := 20) rfl)) (wdC_0_in _ (List.mem_of_getElem? (i := 22) rfl)) (wdC_0_in _ (List.mem_of_getElem? (i := 18) rfl)) (by decide +kernel) rfl rfl (by decide) ht) dX5_swap_73) ?_
  refine px_ok_cons (ps_aload_n dX5_swap_76 rfl) ?_
  refine px_ok_cons (fgX5_23 dX5_swap_77) ?_
  refine px_ok_cons (ps_iload dX5_swap_80) ?_
  refine px_ok_cons (ps_aload_n dX5_swap_82 rfl) ?_
  refine px_ok_cons (fgX5_10 dX5_swap_83) ?_
  refine px_ok_cons (ps_iload dX5_swap_86) ?_
  refine px_ok_cons (ps_callV mX0_copyParrot (fun _ _ => rfl) (C := RX0) rfl (fun _ _ ht => px_cwV wgC (wdC_8_in _ (List.mem_of_getElem? (i := 27) rfl)) (wdC_0_in _ (List.mem_of_getElem? (i := 20) rfl)) (wdC_0_in _ (List.mem_of_getElem? (i := 21) rfl)) (wdC_0_in _ (List.mem_of_getElem? (i := 22) rfl)) (wdC_0_in _ (List.mem_of_getElem? (i := 13) rfl)) (by decide +kernel) rfl rfl (by decide) ht) dX5_swap_88) ?_
  refine px_ok_cons (ps_aload_n dX5_swap_91 rfl) ?_
  refine px_ok_cons (fgX5_23 dX5_swap_92) ?_
  refine px_ok_cons (ps_iload dX5_swap_95) ?_
  refine px_ok_cons (ps_aload_n dX5_swap_97 rfl) ?_
  refine px_ok_cons (fgX5_10 dX5_swap_98) ?_
  refine px_ok_cons (ps_iload dX5_swap_101) ?_
  refine px_ok_cons (ps_callV mX0_copyParrot (fun _ _ => rfl) (C := RX0) rfl (fun _ _ ht => px_cwV wgC (wdC_8_in _ (List.mem_of_getElem? (i := 27) rfl)) (wdC_0_in _ (List.mem_of_getElem? (i := 20) rfl)) (wdC_0_in _ (List.mem_of_getElem? (i := 21) rfl)) (wdC_0_in _ (List.mem_of_getElem? (i := 22) rfl)) (wdC_0_in _ (List.mem_of_getElem? (i := 13) rfl)) (by decide +kernel) rfl rfl (by decide) ht) dX5_swap_103) ?_
  refine px_ok_cons (ps_aload_n dX5_swap_106 rfl) ?_
  refine px_ok_cons (ps_aload_n dX5_swap_107 rfl) ?_
  refine px_ok_cons (fgX5_23 dX5_swap_108) ?_
  refine px_ok_cons (ps_iload_n dX5_swap_111 rfl) ?_
  refine px_ok_cons (ps_callV mX5_firstSaid (fun _ _ => rfl) (C := RX5) rfl (fun _ _ ht => px_cwV wgC (wdC_8_in _ (List.mem_of_getElem? (i := 8) rfl)) (wdC_8_in _ (List.mem_of_getElem? (i := 9) rfl)) (wdC_8_in _ (List.mem_of_getElem? (i := 10) rfl)) (wdC_4_in _ (List.mem_of_getElem? (i := 23) rfl)) (wdC_8_in _ (List.mem_of_getElem? (i := 7) rfl)) (by decide +kernel) rfl rfl (by decide) ht) dX5_swap_112) ?_
  refine px_ok_cons (ps_istore dX5_swap_115 (by decide)) ?_
  refine px_ok_cons (ps_iload dX5_swap_117) ?_
  refine px_ok_cons (ps_iload dX5_swap_119) ?_
  refine px_ok_cons (ps_icmp_ge dX5_swap_121 (by decide)) ?_
  refine px_ok_cons (ps_iload dX5_swap_124) ?_
  refine px_ok_cons (ps_istore dX5_swap_126 (by decide)) ?_
  refine px_ok_cons (ps_bipush dX5_swap_128 (by decide)) ?_
  refine px_ok_cons (ps_iload dX5_swap_130) ?_
  refine px_ok_cons (ps_imul dX5_swap_132) ?_
  refine px_ok_cons (ps_iload dX5_swap_133) ?_
  refine px_ok_cons (ps_iadd dX5_swap_135) ?_
  refine px_ok_cons (ps_istore_n dX5_swap_136 rfl (by decide)) ?_
  refine px_ok_cons (ps_iinc dX5_swap_137 (by decide) (by decide)) ?_
  refine px_ok_cons (ps_goto dX5_swap_140 (by decide)) ?_
  refine px_ok_cons (ps_iinc dX5_swap_143 (by decide) (by decide)) ?_
  refine px_ok_cons (ps_goto dX5_swap_146 (by decide)) ?_
  refine px_ok_cons (ps_iload_n dX5_swap_149 rfl) ?_
  refine px_ok_cons (ps_iload dX5_swap_150) ?_
  refine px_ok_cons (ps_iload_n dX5_swap_152 rfl) ?_
  refine px_ok_cons (ps_callS mX5_choice (fun _ _ => rfl) (fun _ _ ht => px_cwS wgC (wdC_8_in _ (List.mem_of_getElem? (i := 20) rfl)) (wdC_8_in _ (List.mem_of_getElem? (i := 21) rfl)) (wdC_4_in _ (List.mem_of_getElem? (i := 23) rfl)) (wdC_8_in _ (List.mem_of_getElem? (i := 19) rfl)) (by decide +kernel) rfl rfl (by decide) ht) dX5_swap_153) ?_
  refine px_ok_cons (ps_ireturn rfl dX5_swap_156) ?_
  exact px_ok_nil
set_option maxRecDepth 100000 in
set_option maxHeartbeats 4000000 in
theorem sgX5_swap_0 {po : Int32 → px_St → Prop} {G : px_K} (hG : px_cl (opX5_swap po) G) (v1 : Int32) (v2 : Int32) (σ : px_St)
    (H : ∃ g3 : gtX5_isSound, qrX5_isSound g3 v1 σ ∧ ∀ (r1 : Int32) (σ2 : px_St), qoX5_isSound g3 v1 σ r1 σ2 → ((r1 = 0) → po (-1 : Int32) σ2) ∧ (¬ (r1 = 0) → ∃ g7 : gtX5_isWithin, qrX5_isWithin g7 v2 (0 : Int32) (1 : Int32) σ2 ∧ ∀ (r5 : Int32) (σ6 : px_St), qoX5_isWithin g7 v2 (0 : Int32) (1 : Int32) σ2 r5 σ6 → ((¬ r5 = 0) → ∃ g11 : gtX5_firstSaid, qrX5_firstSaid g11 8 v1 σ6 ∧ ∀ (r9 : Int32) (σ10 : px_St), qoX5_firstSaid g11 8 v1 σ6 r9 σ10 → G 35 [some (.ref 0), some (.int v1), some (.int v2), some (.int (-4 : Int32)), some (.int r9), some (.int (0 : Int32)), none, none] [] σ10) ∧ (¬ (¬ r5 = 0) → po (-1 : Int32) σ6))) :
    G 0 (px_ent 8 [.ref 0, .int v1, .int v2]) [] σ := by
  refine hG.1 0 _ _ rfl _ _ _ ?_
  refine hG.1 1 _ _ rfl _ _ _ ?_
  obtain ⟨g3, H⟩ := H
  refine ⟨Nat.le_of_ble_eq_true rfl, Nat.le_of_ble_eq_true rfl, g3, ⟨_, rfl, H.1⟩, fun r1 σ2 hp4 => ?_⟩
  replace H := H.2 r1 σ2 hp4
  refine hG.1 2 _ _ rfl _ _ _ ?_
  refine ⟨fun h14 => ?_, fun h14 => ?_⟩
  · replace H := H.1 h14
    refine hG.1 8 _ _ rfl _ _ _ ?_
    refine hG.1 9 _ _ rfl _ _ _ ?_
    exact ⟨rfl, H⟩
  · replace H := H.2 h14
    refine hG.1 3 _ _ rfl _ _ _ ?_
    refine hG.1 4 _ _ rfl _ _ _ ?_
    refine hG.1 5 _ _ rfl _ _ _ ?_
    refine hG.1 6 _ _ rfl _ _ _ ?_
    obtain ⟨g7, H⟩ := H
    refine ⟨Nat.le_of_ble_eq_true rfl, Nat.le_of_ble_eq_true rfl, g7, ⟨_, _, _, rfl, H.1⟩, fun r5 σ6 hp8 => ?_⟩
    replace H := H.2 r5 σ6 hp8
    refine hG.1 7 _ _ rfl _ _ _ ?_
    refine ⟨fun h13 => ?_, fun h13 => ?_⟩
    · replace H := H.1 h13
      refine hG.1 10 _ _ rfl _ _ _ ?_
      refine hG.1 11 _ _ rfl _ _ _ ?_
      show G 21 [some (.ref 0), some (.int v1), some (.int v2), some (.int (-4 : Int32)), none, none, none, none] [] σ6
      refine hG.1 12 _ _ rfl _ _ _ ?_
      refine hG.1 13 _ _ rfl _ _ _ ?_
      refine hG.1 14 _ _ rfl _ _ _ ?_
      refine ⟨⟨rfl, by decide⟩, ?_⟩
      refine hG.1 15 _ _ rfl _ _ _ ?_
      refine hG.1 16 _ _ rfl _ _ _ ?_
      obtain ⟨g11, H⟩ := H
      refine ⟨⟨rfl, by decide⟩, Nat.le_of_ble_eq_true rfl, g11, ⟨_, _, rfl, (Or.inl rfl), H.1⟩, fun r9 σ10 hp12 => ?_⟩
      replace H := H.2 r9 σ10 hp12
      refine hG.1 17 _ _ rfl _ _ _ ?_
      show G 32 [some (.ref 0), some (.int v1), some (.int v2), some (.int (-4 : Int32)), some (.int r9), none, none, none] [] σ10
      refine hG.1 18 _ _ rfl _ _ _ ?_
      refine hG.1 19 _ _ rfl _ _ _ ?_
      show G 35 [some (.ref 0), some (.int v1), some (.int v2), some (.int (-4 : Int32)), some (.int r9), some (.int (0 : Int32)), none, none] [] σ10
      exact H
    · replace H := H.2 h13
      refine hG.1 8 _ _ rfl _ _ _ ?_
      refine hG.1 9 _ _ rfl _ _ _ ?_
      exact ⟨rfl, H⟩
set_option maxRecDepth 100000 in
set_option maxHeartbeats 4000000 in
theorem sgX5_swap_35 {po : Int32 → px_St → Prop} {G : px_K} (hG : px_cl (opX5_swap po) G) (v1 : Int32) (v2 : Int32) (v3 : Int32) (v4 : Int32) (v5 : Int32) (σ : px_St)
    (H : (((σ.1 8 0) ≤ v5) → ∃ g3 : gtX5_choice, qrX5_choice g3 v3 v4 v2 σ ∧ ∀ (r1 : Int32) (σ2 : px_St), qoX5_choice g3 v3 v4 v2 σ r1 σ2 → po r1 σ2) ∧ (¬ ((σ.1 8 0) ≤ v5) → G 53 [some (.ref 0), some (.int v1), some (.int v2), some (.int v3), some (.int v4), some (.int v5), some (.int (v5 + (1 : Int32))), none] [] σ)) :
    G 35 [some (.ref 0), some (.int v1), some (.int v2), some (.int v3), some (.int v4), some (.int v5), none, none] [] σ := by
  refine hG.1 20 _ _ rfl _ _ _ ?_
  refine hG.1 21 _ _ rfl _ _ _ ?_
  refine hG.1 22 _ _ rfl _ _ _ ?_
  refine ⟨⟨rfl, by decide⟩, ?_⟩
  refine hG.1 23 _ _ rfl _ _ _ ?_
  refine ⟨⟨rfl, by decide⟩, ?_⟩
  refine hG.1 24 _ _ rfl _ _ _ ?_
  refine ⟨fun h5 => ?_, fun h5 => ?_⟩
  · replace H := H.1 h5
    refine hG.1 74 _ _ rfl _ _ _ ?_
    refine hG.1 75 _ _ rfl _ _ _ ?_
    refine hG.1 76 _ _ rfl _ _ _ ?_
    refine hG.1 77 _ _ rfl _ _ _ ?_
    obtain ⟨g3, H⟩ := H
    refine ⟨Nat.le_of_ble_eq_true rfl, Nat.le_of_ble_eq_true rfl, g3, ⟨_, _, _, rfl, H.1⟩, fun r1 σ2 hp4 => ?_⟩
    replace H := H.2 r1 σ2 hp4
    refine hG.1 78 _ _ rfl _ _ _ ?_
    exact ⟨rfl, H⟩
  · replace H := H.2 h5
    refine hG.1 25 _ _ rfl _ _ _ ?_
    refine hG.1 26 _ _ rfl _ _ _ ?_
    refine hG.1 27 _ _ rfl _ _ _ ?_
    refine hG.1 28 _ _ rfl _ _ _ ?_
    show G 53 [some (.ref 0), some (.int v1), some (.int v2), some (.int v3), some (.int v4), some (.int v5), some (.int (v5 + (1 : Int32))), none] [] σ
    exact H
set_option maxRecDepth 100000 in
set_option maxHeartbeats 4000000 in
theorem sgX5_swap_53 {po : Int32 → px_St → Prop} {G : px_K} (hG : px_cl (opX5_swap po) G) (v1 : Int32) (v2 : Int32) (v3 : Int32) (v4 : Int32) (v5 : Int32) (v6 : Int32) (σ : px_St)
    (H : (((σ.1 8 0) ≤ v6) → G 35 [some (.ref 0), some (.int v1), some (.int v2), some (.int v3), some (.int v4), some (.int (v5 + 1)), none, none] [] σ) ∧ (¬ ((σ.1 8 0) ≤ v6) → ∃ g3 : gtX0_becomes, qrX0_becomes g3 13 8 σ ∧ ∀ (r1 : Unit) (σ2 : px_St), qoX0_becomes g3 13 8 σ r1 σ2 → ∃ g7 : gtX0_copyParrot, qrX0_copyParrot g7 13 v5 8 v6 σ2 ∧ ∀ (r5 : Unit) (σ6 : px_St), qoX0_copyParrot g7 13 v5 8 v6 σ2 r5 σ6 → ∃ g11 : gtX0_copyParrot, qrX0_copyParrot g11 13 v6 8 v5 σ6 ∧ ∀ (r9 : Unit) (σ10 : px_St), qoX0_copyParrot g11 13 v6 8 v5 σ6 r9 σ10 → ∃ g15 : gtX5_firstSaid, qrX5_firstSaid g15 13 v1 σ10 ∧ ∀ (r13 : Int32) (σ14 : px_St), qoX5_firstSaid g15 13 v1 σ10 r13 σ14 → ((v4 ≤ r13) → G 53 [some (.ref 0), some (.int v1), some (.int v2), some (.int v3), some (.int v4), some (.int v5), some (.int (v6 + 1)), none] [] σ14) ∧ (¬ (v4 ≤ r13) → G 53 [some (.ref 0), some (.int v1), some (.int v2), some (.int (((10 : Int32) * v5) + v6)), some (.int r13), some (.int v5), some (.int (v6 + 1)), none] [] σ14))) :
    G 53 [some (.ref 0), some (.int v1), some (.int v2), some (.int v3), some (.int v4), some (.int v5), some (.int v6), none] [] σ := by
  refine hG.1 29 _ _ rfl _ _ _ ?_
  refine hG.1 30 _ _ rfl _ _ _ ?_
  refine hG.1 31 _ _ rfl _ _ _ ?_
  refine ⟨⟨rfl, by decide⟩, ?_⟩
  refine hG.1 32 _ _ rfl _ _ _ ?_
  refine ⟨⟨rfl, by decide⟩, ?_⟩
  refine hG.1 33 _ _ rfl _ _ _ ?_
  refine ⟨fun h18 => ?_, fun h18 => ?_⟩
  · replace H := H.1 h18
    refine hG.1 72 _ _ rfl _ _ _ ?_
    show G 146 [some (.ref 0), some (.int v1), some (.int v2), some (.int v3), some (.int v4), some (.int (v5 + 1)), some (.int v6), none] [] σ
    refine hG.1 73 _ _ rfl _ _ _ ?_
    refine hG.2 35 [some (.ref 0), some (.int v1), some (.int v2), some (.int v3), some (.int v4), some (.int (v5 + 1)), none, none] _ _ _ ⟨rfl, rfl, rfl, rfl, rfl, rfl, trivial⟩ ?_
    exact H
  · replace H := H.2 h18
    refine hG.1 34 _ _ rfl _ _ _ ?_
    refine hG.1 35 _ _ rfl _ _ _ ?_
    refine ⟨⟨rfl, by decide⟩, ?_⟩
    refine hG.1 36 _ _ rfl _ _ _ ?_
    refine hG.1 37 _ _ rfl _ _ _ ?_
    refine ⟨⟨rfl, by decide⟩, ?_⟩
    refine hG.1 38 _ _ rfl _ _ _ ?_
    obtain ⟨g3, H⟩ := H
    refine ⟨⟨rfl, by decide⟩, Nat.le_of_ble_eq_true rfl, g3, ⟨_, _, rfl, (Or.inr (Or.inl rfl)), (Or.inl rfl), H.1⟩, fun r1 σ2 hp4 => ?_⟩
    replace H := H.2 r1 σ2 hp4
    refine hG.1 39 _ _ rfl _ _ _ ?_
    refine hG.1 40 _ _ rfl _ _ _ ?_
    refine ⟨⟨rfl, by decide⟩, ?_⟩
    refine hG.1 41 _ _ rfl _ _ _ ?_
    refine hG.1 42 _ _ rfl _ _ _ ?_
    refine hG.1 43 _ _ rfl _ _ _ ?_
    refine ⟨⟨rfl, by decide⟩, ?_⟩
    refine hG.1 44 _ _ rfl _ _ _ ?_
    refine hG.1 45 _ _ rfl _ _ _ ?_
    obtain ⟨g7, H⟩ := H
    refine ⟨⟨rfl, by decide⟩, Nat.le_of_ble_eq_true rfl, g7, ⟨_, _, _, _, rfl, (Or.inr (Or.inl rfl)), (Or.inl rfl), H.1⟩, fun r5 σ6 hp8 => ?_⟩
    replace H := H.2 r5 σ6 hp8
    refine hG.1 46 _ _ rfl _ _ _ ?_
    refine hG.1 47 _ _ rfl _ _ _ ?_
    refine ⟨⟨rfl, by decide⟩, ?_⟩
    refine hG.1 48 _ _ rfl _ _ _ ?_
    refine hG.1 49 _ _ rfl _ _ _ ?_
    refine hG.1 50 _ _ rfl _ _ _ ?_
    refine ⟨⟨rfl, by decide⟩, ?_⟩
    refine hG.1 51 _ _ rfl _ _ _ ?_
    refine hG.1 52 _ _ rfl _ _ _ ?_
    obtain ⟨g11, H⟩ := H
    refine ⟨⟨rfl, by decide⟩, Nat.le_of_ble_eq_true rfl, g11, ⟨_, _, _, _, rfl, (Or.inr (Or.inl rfl)), (Or.inl rfl), H.1⟩, fun r9 σ10 hp12 => ?_⟩
    replace H := H.2 r9 σ10 hp12
    refine hG.1 53 _ _ rfl _ _ _ ?_
    refine hG.1 54 _ _ rfl _ _ _ ?_
    refine hG.1 55 _ _ rfl _ _ _ ?_
    refine ⟨⟨rfl, by decide⟩, ?_⟩
    refine hG.1 56 _ _ rfl _ _ _ ?_
    refine hG.1 57 _ _ rfl _ _ _ ?_
    obtain ⟨g15, H⟩ := H
    refine ⟨⟨rfl, by decide⟩, Nat.le_of_ble_eq_true rfl, g15, ⟨_, _, rfl, (Or.inr (Or.inl rfl)), H.1⟩, fun r13 σ14 hp16 => ?_⟩
    replace H := H.2 r13 σ14 hp16
    refine hG.1 58 _ _ rfl _ _ _ ?_
    show G 117 [some (.ref 0), some (.int v1), some (.int v2), some (.int v3), some (.int v4), some (.int v5), some (.int v6), some (.int r13)] [] σ14
    refine hG.1 59 _ _ rfl _ _ _ ?_
    refine hG.1 60 _ _ rfl _ _ _ ?_
    refine hG.1 61 _ _ rfl _ _ _ ?_
    refine ⟨fun h17 => ?_, fun h17 => ?_⟩
    · replace H := H.1 h17
      refine hG.1 70 _ _ rfl _ _ _ ?_
      show G 140 [some (.ref 0), some (.int v1), some (.int v2), some (.int v3), some (.int v4), some (.int v5), some (.int (v6 + 1)), some (.int r13)] [] σ14
      refine hG.1 71 _ _ rfl _ _ _ ?_
      refine hG.2 53 [some (.ref 0), some (.int v1), some (.int v2), some (.int v3), some (.int v4), some (.int v5), some (.int (v6 + 1)), none] _ _ _ ⟨rfl, rfl, rfl, rfl, rfl, rfl, rfl, trivial⟩ ?_
      exact H
    · replace H := H.2 h17
      refine hG.1 62 _ _ rfl _ _ _ ?_
      refine hG.1 63 _ _ rfl _ _ _ ?_
      show G 128 [some (.ref 0), some (.int v1), some (.int v2), some (.int v3), some (.int r13), some (.int v5), some (.int v6), some (.int r13)] [] σ14
      refine hG.1 64 _ _ rfl _ _ _ ?_
      refine hG.1 65 _ _ rfl _ _ _ ?_
      refine hG.1 66 _ _ rfl _ _ _ ?_
      refine hG.1 67 _ _ rfl _ _ _ ?_
      refine hG.1 68 _ _ rfl _ _ _ ?_
      refine hG.1 69 _ _ rfl _ _ _ ?_
      show G 137 [some (.ref 0), some (.int v1), some (.int v2), some (.int (((10 : Int32) * v5) + v6)), some (.int r13), some (.int v5), some (.int v6), some (.int r13)] [] σ14
      refine hG.1 70 _ _ rfl _ _ _ ?_
      show G 140 [some (.ref 0), some (.int v1), some (.int v2), some (.int (((10 : Int32) * v5) + v6)), some (.int r13), some (.int v5), some (.int (v6 + 1)), some (.int r13)] [] σ14
      refine hG.1 71 _ _ rfl _ _ _ ?_
      refine hG.2 53 [some (.ref 0), some (.int v1), some (.int v2), some (.int (((10 : Int32) * v5) + v6)), some (.int r13), some (.int v5), some (.int (v6 + 1)), none] _ _ _ ⟨rfl, rfl, rfl, rfl, rfl, rfl, rfl, trivial⟩ ?_
      exact H
set_option maxRecDepth 100000 in
set_option maxHeartbeats 4000000 in
theorem hhX5_swap (g : gtX5_swap) (v1 : Int32) (v2 : Int32) (σ : px_St) (h : qrX5_swap g v1 v2 σ) (G : px_K) (hG : px_cl (opX5_swap (qoX5_swap g v1 v2 σ)) G) : G 0 (px_ent 8 [.ref 0, .int v1, .int v2]) [] σ := by
  obtain ⟨hX, hok⟩ := h
  have hd := hok.1.2
  have hvk := hok.1.1
  have h5 := hvk.1.1
  refine sgX5_swap_0 hG _ _ σ ⟨(), trivial, fun r1 σ1 h1 => ?_⟩
  obtain ⟨rfl, b1⟩ := h1
  refine bz2 b1 (fun z => ⟨(), trivial, fun r2 σ2 h2 => ?_⟩) (fun z => ?_)
  · obtain ⟨rfl, b2⟩ := h2
    refine bz1 b2 (fun x => ?_) (fun x => ?_)
    · obtain ⟨s, hs, rfl⟩ := (rngc 9 9 rfl (by omega)).mp z
      have ex : (x_swap g (nI s) v2) = (pv_choice (pv_swo g.1 s g.1.1).1 (nI (pv_swo g.1 s g.1.1).2) v2, g) := by
        unfold x_swap
        rw [xif_t ⟨z, x⟩, nI_clamp (by omega)]
      refine ⟨(g.1, s), ⟨by omega, hX.1, hvk, by omega, rfl⟩, fun r4 σ4 hq => ?_⟩
      obtain ⟨rfl, q3⟩ := hq
      have outer : ∀ m k, k + m = g.1.1 → ∀ σ', px_tr σ2 σ' → G 35 [some (.ref 0), some (.int (nI s)), some (.int v2), some (.int (pv_swo g.1 s k).1), some (.int (nI (pv_swo g.1 s k).2)), some (.int (nI k)), none, none] [] σ' := by
        intro m
        induction m with
        | zero =>
          intro k hk σ' ho
          have e : k = g.1.1 := by omega
          subst e
          have hX' := ho.cl hX
          refine sgX5_swap_35 hG _ _ _ _ _ σ' ?_
          rw [hX'.1.1.1]
          refine ⟨fun _ => ⟨(), trivial, fun r σ5 hq => ?_⟩, fun q => absurd (Int32.le_refl _) q⟩
          obtain ⟨rfl, rfl⟩ := hq
          unfold qoX5_swap
          rw [ex]
          exact ⟨rfl, hX'⟩
        | succ m ih =>
          intro k hk σ' ho
          have hX' := ho.cl hX
          have hkg : k < g.1.1 := by omega
          refine sgX5_swap_35 hG _ _ _ _ _ σ' ?_
          rw [hX'.1.1.1, nI_1]
          refine ⟨fun q => absurd q (nI_ge (by omega) (by omega)), fun _ => ?_⟩
          have inner : ∀ l j, j + l = g.1.1 - (k + 1) → ∀ τ, px_tr σ2 τ → G 53 [some (.ref 0), some (.int (nI s)), some (.int v2), some (.int (pv_swi g.1 s k (pv_swo g.1 s k) j).1), some (.int (nI (pv_swi g.1 s k (pv_swo g.1 s k) j).2)), some (.int (nI k)), some (.int (nI (k + 1 + j))), none] [] τ := by
            intro l
            induction l with
            | zero =>
              intro j hj τ ht
              have hXt := ht.cl hX
              refine sgX5_swap_53 hG _ _ _ _ _ _ τ ?_
              rw [hXt.1.1.1, nI_1]
              refine ⟨fun _ => ?_, fun q => absurd (nI_le (by omega) (by omega)) q⟩
              have e := ih (k + 1) (by omega) τ ht
              rw [pv_swo] at e
              rw [show j = g.1.1 - (k + 1) by omega]
              exact e
            | succ l ihl =>
              intro j hj τ ht
              have hXt := ht.cl hX
              have hj2 : k + 1 + j < g.1.1 := by omega
              refine sgX5_swap_53 hG _ _ _ _ _ _ τ ?_
              rw [hXt.1.1.1]
              refine ⟨fun q => absurd q (nI_ge (by omega) (by omega)), fun _ => ⟨g.1, ⟨by omega, hXt.1, hvk.1⟩, fun _ σ5 hq5 => ?_⟩⟩
              obtain ⟨p1, p2⟩ := hq5
              have hX5 := (ht.a p2).cl hX
              refine ⟨(g.1.2.2.2 (k + 1 + j), k, k + 1 + j), ⟨hX5.1.2 _ hj2, (hvk.1.2.2.2 _ hj2).2.1, by omega, by omega, rfl, rfl⟩, fun _ σ6 hq6 => ?_⟩
              obtain ⟨p3, p4⟩ := hq6
              have hX6 := ((ht.a p2).a p4.only).cl hX
              have hV6 : av_is σ6 13 (pv_at g.1 k (g.1.2.2.2 (k + 1 + j))) := av_mod p1 (fun q hq => (hvk.1.2.2.2 q hq).2.1) p4 p3
              refine ⟨(g.1.2.2.2 k, k + 1 + j, k), ⟨hX6.1.2 _ hkg, (hvk.1.2.2.2 _ hkg).2.1, by omega, by omega, rfl, rfl⟩, fun _ σ7 hq7 => ?_⟩
              obtain ⟨p5, p6⟩ := hq7
              have hw6 : pv_w (pv_at g.1 k (g.1.2.2.2 (k + 1 + j))) := pv_at_w hvk.1 (hvk.1.2.2.2 _ hj2)
              have hV7 : av_is σ7 13 (pv_swp g.1 k (k + 1 + j)) := av_mod hV6 (fun q hq => (hw6.2.2.2 q hq).2.1) p6 p5
              refine ⟨(pv_swp g.1 k (k + 1 + j), s), ⟨by omega, hV7, pv_swp_ok hvk hkg hj2, Nat.lt_of_le_of_lt hd (by omega), rfl⟩, fun r8 σ8 hq8 => ?_⟩
              obtain ⟨rfl, p7⟩ := hq8
              have ho8 := (((ht.a p2).a p4.only).a p6.only).f p7
              have e := ihl (j + 1) (by omega) σ8 ho8
              rw [pv_swi] at e
              have hb1 := pv_swi_le g.1 s k _ (pv_swo_le g.1 s k) j
              have hb2 := pv_ff_le (pv_swp g.1 k (k + 1 + j)) s 61 0 (by omega)
              have cl : nI (pv_swi g.1 s k (pv_swo g.1 s k) j).2 ≤ nI (pv_ff (pv_swp g.1 k (k + 1 + j)) s 61 0) ↔ (pv_swi g.1 s k (pv_swo g.1 s k) j).2 ≤ pv_ff (pv_swp g.1 k (k + 1 + j)) s 61 0 := nI_leI (by omega) (by omega)
              have e10 : (10 : Int32) * nI k + nI (k + 1 + j) = nI (10 * k + (k + 1 + j)) := by rw [show (10 : Int32) = nI 10 from rfl, pk_mul, nI_add]
              rw [cl, nI_1, e10]
              refine ⟨fun q => ?_, fun q => ?_⟩
              · rw [if_neg (by omega)] at e; exact e
              · rw [if_pos (by omega)] at e; exact e
          exact inner (g.1.1 - (k + 1)) 0 (by omega) σ' ho
      exact outer g.1.1 0 (by omega) σ4 q3.t
    · unfold qoX5_swap x_swap
      rw [xif_f (fun q => x q.2)]
      exact ⟨rfl, hX⟩
  · unfold qoX5_swap x_swap
    rw [xif_f (fun q => z q.1)]
    exact ⟨rfl, hX⟩
theorem mX5_swap (g : gtX5_swap) : px_Met dC yX5_swap (Cond.code yX5_swap cX5_swap 8 (some .int) :: wdC) rmX5_swap px_vI (prX5_swap g) (poX5_swap g) :=
  px_met (Z := (cX5_swap, 8, RX5, Cond.code yX5_swap cX5_swap 8 (some .int) :: wdC, (some .int), rmX5_swap, dC)) opX5_swap (by decide) rfl rfl okX5_swap (fun As σ h => by obtain ⟨v1, v2, rfl, h⟩ := h; exact Nat.le_of_ble_eq_true rfl) (fun As σ h G hG => by obtain ⟨v1, v2, rfl, h⟩ := h; exact hhX5_swap g v1 v2 σ h G hG)
noncomputable def pv_many (V : pv_V) (s : Nat) : Nat → Nat
  | 0 => 0
  | k + 1 => if s ∈ (V.2.2.2 k).2.2 then pv_many V s k + 1 else pv_many V s k
theorem pc_add : ∀ k, k < 6 → ∀ a, a < 64 → a < 2 ^ k → pv_pc (a + 2 ^ k) 10 = pv_pc a 10 + 1 := by decide +kernel
theorem pv_many_pc (V : pv_V) (s : Nat) : ∀ k, k ≤ 5 → pv_pc (pv_kn V s k) 10 = pv_many V s k
  | 0, _ => by rw [pv_kn, pv_many]; decide
  | k + 1, h => by
    have h1 := pv_kn_lt V s k
    have h2 : 2 ^ k ≤ 2 ^ 4 := Nat.pow_le_pow_right (by omega) (by omega)
    rw [pv_kn, pv_many, ← pv_many_pc V s k (by omega)]
    split
    · exact pc_add k (by omega) _ (by omega) h1
    · rfl
theorem pv_many_le (V : pv_V) (s k : Nat) : pv_many V s k ≤ k := by
  induction k with
  | zero => exact Nat.le_refl _
  | succ k ih => rw [pv_many]; split <;> omega
def pv_ear (V : pv_V) (v : Nat) : pv_V := (V.1, v, V.2.2)
noncomputable def pv_fr (V : pv_V) (s n : Nat) : Nat → Nat → Int32
  | 0, _ => -4
  | k + 1, v => if pv_many (pv_run (pv_ear V v) n) s V.1 = V.1 then nI v else pv_fr V s n k (v + 1)
noncomputable def x_far (X : pv_X) (s n : Int32) : Int32 × pv_X := (xif ((0 ≤ s ∧ s ≤ 9) ∧ (0 ≤ n ∧ n ≤ 60)) (pv_fr X.1 s.toNatClampNeg n.toNatClampNeg 4 1) (-1), X)
theorem pv_ear_ok {V : pv_V} {v : Nat} (h : pv_ok V) (h1 : 1 ≤ v) (h4 : v ≤ 4) : pv_ok (pv_ear V v) := ⟨⟨h.1.1, ⟨h1, h4⟩, h.1.2.2.1, h.1.2.2.2⟩, h.2⟩
abbrev gtX5_far : Type := pv_X
def qrX5_far (X : pv_X) (_ _ : Int32) (σ : px_St) : Prop := cl_is σ X ∧ xo X
def qoX5_far (X : pv_X) (s w : Int32) (_ : px_St) (r : Int32) (σ' : px_St) : Prop := r = (x_far X s w).1 ∧ cl_is σ' (x_far X s w).2
def prX5_far (g : gtX5_far) : List Value → px_St → Prop := fun As σ => ∃ v1 : Int32, ∃ v2 : Int32, As = [.ref 0, .int v1, .int v2] ∧ qrX5_far g v1 v2 σ
def poX5_far (g : gtX5_far) : List Value → px_St → Int32 → px_St → Prop
  | [.ref _, .int v1, .int v2], σ, r, σ' => qoX5_far g v1 v2 σ r σ'
  | _, _, _, _ => False
theorem dX5_far_0 : decode cX5_far 0 = .ok (.iload_n 1, 1) := by decide +kernel
theorem dX5_far_1 : decode cX5_far 1 = .ok (.invokestatic 132, 3) := by decide +kernel
theorem dX5_far_4 : decode cX5_far 4 = .ok (.ifCond .eq 10, 3) := by decide +kernel
theorem dX5_far_7 : decode cX5_far 7 = .ok (.iload_n 2, 1) := by decide +kernel
theorem dX5_far_8 : decode cX5_far 8 = .ok (.invokestatic 167, 3) := by decide +kernel
theorem dX5_far_11 : decode cX5_far 11 = .ok (.ifCond .ne 5, 3) := by decide +kernel
theorem dX5_far_14 : decode cX5_far 14 = .ok (.iconst (-1), 1) := by decide +kernel
theorem dX5_far_15 : decode cX5_far 15 = .ok (.ireturn, 1) := by decide +kernel
theorem dX5_far_16 : decode cX5_far 16 = .ok (.aload_n 0, 1) := by decide +kernel
theorem dX5_far_17 : decode cX5_far 17 = .ok (.getfield 23, 3) := by decide +kernel
theorem dX5_far_20 : decode cX5_far 20 = .ok (.aload_n 0, 1) := by decide +kernel
theorem dX5_far_21 : decode cX5_far 21 = .ok (.getfield 10, 3) := by decide +kernel
theorem dX5_far_24 : decode cX5_far 24 = .ok (.invokevirtual 82, 3) := by decide +kernel
theorem dX5_far_27 : decode cX5_far 27 = .ok (.iconst 1, 1) := by decide +kernel
theorem dX5_far_28 : decode cX5_far 28 = .ok (.istore_n 3, 1) := by decide +kernel
theorem dX5_far_29 : decode cX5_far 29 = .ok (.iload_n 3, 1) := by decide +kernel
theorem dX5_far_30 : decode cX5_far 30 = .ok (.iconst 4, 1) := by decide +kernel
theorem dX5_far_31 : decode cX5_far 31 = .ok (.if_icmp .gt 49, 3) := by decide +kernel
theorem dX5_far_34 : decode cX5_far 34 = .ok (.aload_n 0, 1) := by decide +kernel
theorem dX5_far_35 : decode cX5_far 35 = .ok (.getfield 23, 3) := by decide +kernel
theorem dX5_far_38 : decode cX5_far 38 = .ok (.iload_n 3, 1) := by decide +kernel
theorem dX5_far_39 : decode cX5_far 39 = .ok (.putfield 99, 3) := by decide +kernel
theorem dX5_far_42 : decode cX5_far 42 = .ok (.aload_n 0, 1) := by decide +kernel
theorem dX5_far_43 : decode cX5_far 43 = .ok (.aload_n 0, 1) := by decide +kernel
theorem dX5_far_44 : decode cX5_far 44 = .ok (.getfield 23, 3) := by decide +kernel
theorem dX5_far_47 : decode cX5_far 47 = .ok (.iload_n 2, 1) := by decide +kernel
theorem dX5_far_48 : decode cX5_far 48 = .ok (.invokevirtual 170, 3) := by decide +kernel
theorem dX5_far_51 : decode cX5_far 51 = .ok (.aload_n 0, 1) := by decide +kernel
theorem dX5_far_52 : decode cX5_far 52 = .ok (.getfield 26, 3) := by decide +kernel
theorem dX5_far_55 : decode cX5_far 55 = .ok (.iload_n 1, 1) := by decide +kernel
theorem dX5_far_56 : decode cX5_far 56 = .ok (.invokevirtual 135, 3) := by decide +kernel
theorem dX5_far_59 : decode cX5_far 59 = .ok (.invokestatic 162, 3) := by decide +kernel
theorem dX5_far_62 : decode cX5_far 62 = .ok (.aload_n 0, 1) := by decide +kernel
theorem dX5_far_63 : decode cX5_far 63 = .ok (.getfield 26, 3) := by decide +kernel
theorem dX5_far_66 : decode cX5_far 66 = .ok (.getfield 93, 3) := by decide +kernel
theorem dX5_far_69 : decode cX5_far 69 = .ok (.if_icmp .ne 5, 3) := by decide +kernel
theorem dX5_far_72 : decode cX5_far 72 = .ok (.iload_n 3, 1) := by decide +kernel
theorem dX5_far_73 : decode cX5_far 73 = .ok (.ireturn, 1) := by decide +kernel
theorem dX5_far_74 : decode cX5_far 74 = .ok (.iinc 3 1, 3) := by decide +kernel
theorem dX5_far_77 : decode cX5_far 77 = .ok (.goto (-48), 3) := by decide +kernel
theorem dX5_far_80 : decode cX5_far 80 = .ok (.bipush (-4), 2) := by decide +kernel
theorem dX5_far_82 : decode cX5_far 82 = .ok (.ireturn, 1) := by decide +kernel
abbrev rmX5_far : Room := { frames := 5, cells := 0, slots := 0, locals := 128 }
def opX5_far (po : Int32 → px_St → Prop) : List (Nat × px_Op) := [
  (0, px_il 1 1),
  (1, px_callS 4 1 px_vI prX5_isSound poX5_isSound),
  (4, px_if 7 14 (fun x => x = 0)),
  (7, px_il 8 2),
  (8, px_callS 11 1 px_vI prX5_isDays poX5_isDays),
  (11, px_if 14 16 (fun x => ¬ x = 0)),
  (14, px_push 15 (.int (-1))),
  (15, px_iret (.int) po),
  (16, px_al 17 0),
  (17, px_get dC 20 5 2),
  (20, px_al 21 0),
  (21, px_get dC 24 5 0),
  (24, px_callV dC 27 0 1 px_vV prX0_becomes poX0_becomes),
  (27, px_push 28 (.int 1)),
  (28, px_is 29 3),
  (29, px_il 30 3),
  (30, px_push 31 (.int 4)),
  (31, px_ic 34 80 (fun x y => y < x)),
  (34, px_al 35 0),
  (35, px_get dC 38 5 2),
  (38, px_il 39 3),
  (39, px_put dC 42 0 1 .int),
  (42, px_al 43 0),
  (43, px_al 44 0),
  (44, px_get dC 47 5 2),
  (47, px_il 48 2),
  (48, px_callV dC 51 5 2 px_vV prX5_foretell poX5_foretell),
  (51, px_al 52 0),
  (52, px_get dC 55 5 3),
  (55, px_il 56 1),
  (56, px_callV dC 59 0 1 px_vI prX0_knowers poX0_knowers),
  (59, px_callS 62 1 px_vI prJ6_bitCount_0f7a4 poJ6_bitCount_0f7a4),
  (62, px_al 63 0),
  (63, px_get dC 66 5 3),
  (66, px_get dC 69 0 0),
  (69, px_ic 72 74 (fun x y => ¬ x = y)),
  (72, px_il 73 3),
  (73, px_iret (.int) po),
  (74, px_inc 77 3 1),
  (77, px_go 29),
  (80, px_push 82 (.int (-4))),
  (82, px_iret (.int) po)]
set_option maxRecDepth 100000 in
set_option maxHeartbeats 4000000 in
theorem okX5_far : ∀ (po : Int32 → px_St → Prop) (i pc : Nat) (op : px_Op), (opX5_far po)[i]? = some (pc, op) → px_Snd (cX5_far, 4, RX5, Cond.code yX5_far cX5_far 4 (some .int) :: wdC, (some .int), rmX5_far, dC) px_vI po pc op := by
  intro po
  unfold opX5_far
  refine px_ok_cons (ps_iload_n dX5_far_0 rfl) ?_
  refine px_ok_cons (ps_callS mX5_isSound (fun _ _ => rfl) (fun _ _ ht => px_cwS wgC (wdC_7_in _ (List.mem_of_getElem? (i := 5) rfl)) (wdC_4_in _ (List.mem_of_getElem? (i := 32) rfl)) (wdC_4_in _ (List.mem_of_getElem? (i := 23) rfl)) (wdC_4_in _ (List.mem_of_getElem? (i := 28) rfl)) (by decide +kernel) rfl rfl (by decide) ht) dX5_far_1) ?_
  refine px_ok_cons (ps_if_eq dX5_far_4 (by decide)) ?_
  refine px_ok_cons (ps_iload_n dX5_far_7 rfl) ?_
  refine px_ok_cons (ps_callS mX5_isDays (fun _ _ => rfl) (fun _ _ ht => px_cwS wgC (wdC_8_in _ (List.mem_of_getElem? (i := 1) rfl)) (wdC_8_in _ (List.mem_of_getElem? (i := 2) rfl)) (wdC_4_in _ (List.mem_of_getElem? (i := 23) rfl)) (wdC_7_in _ (List.mem_of_getElem? (i := 39) rfl)) (by decide +kernel) rfl rfl (by decide) ht) dX5_far_8) ?_
  refine px_ok_cons (ps_if_ne dX5_far_11 (by decide)) ?_
  refine px_ok_cons (ps_iconst dX5_far_14 (by decide)) ?_
  refine px_ok_cons (ps_ireturn rfl dX5_far_15) ?_
  refine px_ok_cons (ps_aload_n dX5_far_16 rfl) ?_
  refine px_ok_cons (fgX5_23 dX5_far_17) ?_
  refine px_ok_cons (ps_aload_n dX5_far_20 rfl) ?_
  refine px_ok_cons (fgX5_10 dX5_far_21) ?_
  refine px_ok_cons (ps_callV mX0_becomes (fun _ _ => rfl) (C := RX0) rfl (fun _ _ ht => px_cwV wgC (wdC_6_in _ (List.mem_of_getElem? (i := 18) rfl)) (wdC_6_in _ (List.mem_of_getElem? (i := 19) rfl)) (wdC_6_in _ (List.mem_of_getElem? (i := 20) rfl)) (wdC_0_in _ (List.mem_of_getElem? (i := 22) rfl)) (wdC_0_in _ (List.mem_of_getElem? (i := 18) rfl)) (by decide +kernel) rfl rfl (by decide) ht) dX5_far_24) ?_
  refine px_ok_cons (ps_iconst dX5_far_27 (by decide)) ?_
  refine px_ok_cons (ps_istore_n dX5_far_28 rfl (by decide)) ?_
  refine px_ok_cons (ps_iload_n dX5_far_29 rfl) ?_
  refine px_ok_cons (ps_iconst dX5_far_30 (by decide)) ?_
  refine px_ok_cons (ps_icmp_gt dX5_far_31 (by decide)) ?_
  refine px_ok_cons (ps_aload_n dX5_far_34 rfl) ?_
  refine px_ok_cons (fgX5_23 dX5_far_35) ?_
  refine px_ok_cons (ps_iload_n dX5_far_38 rfl) ?_
  refine px_ok_cons (fpX5_99 dX5_far_39) ?_
  refine px_ok_cons (ps_aload_n dX5_far_42 rfl) ?_
  refine px_ok_cons (ps_aload_n dX5_far_43 rfl) ?_
  refine px_ok_cons (fgX5_23 dX5_far_44) ?_
  refine px_ok_cons (ps_iload_n dX5_far_47 rfl) ?_
  refine px_ok_cons (ps_callV mX5_foretell (fun _ _ => rfl) (C := RX5) rfl (fun _ _ ht => px_cwV wgC (wdC_8_in _ (List.mem_of_getElem? (i := 3) rfl)) (wdC_8_in _ (List.mem_of_getElem? (i := 4) rfl)) (wdC_8_in _ (List.mem_of_getElem? (i := 5) rfl)) (wdC_4_in _ (List.mem_of_getElem? (i := 23) rfl)) (wdC_8_in _ (List.mem_of_getElem? (i := 0) rfl)) (by decide +kernel) rfl rfl (by decide) ht) dX5_far_48) ?_
  refine px_ok_cons (ps_aload_n dX5_far_51 rfl) ?_
  refine px_ok_cons (fgX5_26 dX5_far_52) ?_
  refine px_ok_cons (ps_iload_n dX5_far_55 rfl) ?_
  refine px_ok_cons (ps_callV mX0_knowers (fun _ _ => rfl) (C := RX0) rfl (fun _ _ ht => px_cwV wgC (wdC_7_in _ (List.mem_of_getElem? (i := 6) rfl)) (wdC_7_in _ (List.mem_of_getElem? (i := 7) rfl)) (wdC_7_in _ (List.mem_of_getElem? (i := 8) rfl)) (wdC_0_in _ (List.mem_of_getElem? (i := 22) rfl)) (wdC_1_in _ (List.mem_of_getElem? (i := 27) rfl)) (by decide +kernel) rfl rfl (by decide) ht) dX5_far_56) ?_
  refine px_ok_cons (ps_callS mJ6_bitCount_0f7a4 (fun _ _ => rfl) (fun _ _ ht => px_cwS wgC (wdC_7_in _ (List.mem_of_getElem? (i := 35) rfl)) (wdC_7_in _ (List.mem_of_getElem? (i := 36) rfl)) (wdC_7_in _ (List.mem_of_getElem? (i := 37) rfl)) (wdC_7_in _ (List.mem_of_getElem? (i := 26) rfl)) (by decide +kernel) rfl rfl (by decide) ht) dX5_far_59) ?_
  refine px_ok_cons (ps_aload_n dX5_far_62 rfl) ?_
  refine px_ok_cons (fgX5_26 dX5_far_63) ?_
  refine px_ok_cons (fgX5_93 dX5_far_66) ?_
  refine px_ok_cons (ps_icmp_ne dX5_far_69 (by decide)) ?_
  refine px_ok_cons (ps_iload_n dX5_far_72 rfl) ?_
  refine px_ok_cons (ps_ireturn rfl dX5_far_73) ?_
  refine px_ok_cons (ps_iinc dX5_far_74 (by decide) (by decide)) ?_
  refine px_ok_cons (ps_goto dX5_far_77 (by decide)) ?_
  refine px_ok_cons (ps_bipush dX5_far_80 (by decide)) ?_
  refine px_ok_cons (ps_ireturn rfl dX5_far_82) ?_
  exact px_ok_nil
set_option maxRecDepth 100000 in
set_option maxHeartbeats 4000000 in
theorem sgX5_far_0 {po : Int32 → px_St → Prop} {G : px_K} (hG : px_cl (opX5_far po) G) (v1 : Int32) (v2 : Int32) (σ : px_St)
    (H : ∃ g3 : gtX5_isSound, qrX5_isSound g3 v1 σ ∧ ∀ (r1 : Int32) (σ2 : px_St), qoX5_isSound g3 v1 σ r1 σ2 → ((r1 = 0) → po (-1 : Int32) σ2) ∧ (¬ (r1 = 0) → ∃ g7 : gtX5_isDays, qrX5_isDays g7 v2 σ2 ∧ ∀ (r5 : Int32) (σ6 : px_St), qoX5_isDays g7 v2 σ2 r5 σ6 → ((¬ r5 = 0) → ∃ g11 : gtX0_becomes, qrX0_becomes g11 13 8 σ6 ∧ ∀ (r9 : Unit) (σ10 : px_St), qoX0_becomes g11 13 8 σ6 r9 σ10 → G 29 [some (.ref 0), some (.int v1), some (.int v2), some (.int (1 : Int32))] [] σ10) ∧ (¬ (¬ r5 = 0) → po (-1 : Int32) σ6))) :
    G 0 (px_ent 4 [.ref 0, .int v1, .int v2]) [] σ := by
  refine hG.1 0 _ _ rfl _ _ _ ?_
  refine hG.1 1 _ _ rfl _ _ _ ?_
  obtain ⟨g3, H⟩ := H
  refine ⟨Nat.le_of_ble_eq_true rfl, Nat.le_of_ble_eq_true rfl, g3, ⟨_, rfl, H.1⟩, fun r1 σ2 hp4 => ?_⟩
  replace H := H.2 r1 σ2 hp4
  refine hG.1 2 _ _ rfl _ _ _ ?_
  refine ⟨fun h14 => ?_, fun h14 => ?_⟩
  · replace H := H.1 h14
    refine hG.1 6 _ _ rfl _ _ _ ?_
    refine hG.1 7 _ _ rfl _ _ _ ?_
    exact ⟨rfl, H⟩
  · replace H := H.2 h14
    refine hG.1 3 _ _ rfl _ _ _ ?_
    refine hG.1 4 _ _ rfl _ _ _ ?_
    obtain ⟨g7, H⟩ := H
    refine ⟨Nat.le_of_ble_eq_true rfl, Nat.le_of_ble_eq_true rfl, g7, ⟨_, rfl, H.1⟩, fun r5 σ6 hp8 => ?_⟩
    replace H := H.2 r5 σ6 hp8
    refine hG.1 5 _ _ rfl _ _ _ ?_
    refine ⟨fun h13 => ?_, fun h13 => ?_⟩
    · replace H := H.1 h13
      refine hG.1 8 _ _ rfl _ _ _ ?_
      refine hG.1 9 _ _ rfl _ _ _ ?_
      refine ⟨⟨rfl, by decide⟩, ?_⟩
      refine hG.1 10 _ _ rfl _ _ _ ?_
      refine hG.1 11 _ _ rfl _ _ _ ?_
      refine ⟨⟨rfl, by decide⟩, ?_⟩
      refine hG.1 12 _ _ rfl _ _ _ ?_
      obtain ⟨g11, H⟩ := H
      refine ⟨⟨rfl, by decide⟩, Nat.le_of_ble_eq_true rfl, g11, ⟨_, _, rfl, (Or.inr (Or.inl rfl)), (Or.inl rfl), H.1⟩, fun r9 σ10 hp12 => ?_⟩
      replace H := H.2 r9 σ10 hp12
      refine hG.1 13 _ _ rfl _ _ _ ?_
      refine hG.1 14 _ _ rfl _ _ _ ?_
      show G 29 [some (.ref 0), some (.int v1), some (.int v2), some (.int (1 : Int32))] [] σ10
      exact H
    · replace H := H.2 h13
      refine hG.1 6 _ _ rfl _ _ _ ?_
      refine hG.1 7 _ _ rfl _ _ _ ?_
      exact ⟨rfl, H⟩
set_option maxRecDepth 100000 in
set_option maxHeartbeats 4000000 in
theorem sgX5_far_29 {po : Int32 → px_St → Prop} {G : px_K} (hG : px_cl (opX5_far po) G) (v1 : Int32) (v2 : Int32) (v3 : Int32) (σ : px_St)
    (H : (((4 : Int32) < v3) → po (-4 : Int32) σ) ∧ (¬ ((4 : Int32) < v3) → ∃ g3 : gtX5_foretell, qrX5_foretell g3 13 v2 (px_up σ 13 1 v3) ∧ ∀ (r1 : Unit) (σ2 : px_St), qoX5_foretell g3 13 v2 (px_up σ 13 1 v3) r1 σ2 → ∃ g7 : gtX0_knowers, qrX0_knowers g7 18 v1 σ2 ∧ ∀ (r5 : Int32) (σ6 : px_St), qoX0_knowers g7 18 v1 σ2 r5 σ6 → ∃ g11 : gtJ6_bitCount_0f7a4, qrJ6_bitCount_0f7a4 g11 r5 σ6 ∧ ∀ (r9 : Int32) (σ10 : px_St), qoJ6_bitCount_0f7a4 g11 r5 σ6 r9 σ10 → ((¬ r9 = (σ10.1 18 0)) → G 29 [some (.ref 0), some (.int v1), some (.int v2), some (.int (v3 + 1))] [] σ10) ∧ (¬ (¬ r9 = (σ10.1 18 0)) → po v3 σ10))) :
    G 29 [some (.ref 0), some (.int v1), some (.int v2), some (.int v3)] [] σ := by
  refine hG.1 15 _ _ rfl _ _ _ ?_
  refine hG.1 16 _ _ rfl _ _ _ ?_
  refine hG.1 17 _ _ rfl _ _ _ ?_
  refine ⟨fun h14 => ?_, fun h14 => ?_⟩
  · replace H := H.1 h14
    refine hG.1 40 _ _ rfl _ _ _ ?_
    refine hG.1 41 _ _ rfl _ _ _ ?_
    exact ⟨rfl, H⟩
  · replace H := H.2 h14
    refine hG.1 18 _ _ rfl _ _ _ ?_
    refine hG.1 19 _ _ rfl _ _ _ ?_
    refine ⟨⟨rfl, by decide⟩, ?_⟩
    refine hG.1 20 _ _ rfl _ _ _ ?_
    refine hG.1 21 _ _ rfl _ _ _ ?_
    refine ⟨⟨rfl, by decide⟩, ⟨rfl, rfl⟩, ?_⟩
    refine hG.1 22 _ _ rfl _ _ _ ?_
    refine hG.1 23 _ _ rfl _ _ _ ?_
    refine hG.1 24 _ _ rfl _ _ _ ?_
    refine ⟨⟨rfl, by decide⟩, ?_⟩
    refine hG.1 25 _ _ rfl _ _ _ ?_
    refine hG.1 26 _ _ rfl _ _ _ ?_
    obtain ⟨g3, H⟩ := H
    refine ⟨⟨rfl, by decide⟩, Nat.le_of_ble_eq_true rfl, g3, ⟨_, _, rfl, (Or.inr (Or.inl rfl)), H.1⟩, fun r1 σ2 hp4 => ?_⟩
    replace H := H.2 r1 σ2 hp4
    refine hG.1 27 _ _ rfl _ _ _ ?_
    refine hG.1 28 _ _ rfl _ _ _ ?_
    refine ⟨⟨rfl, by decide⟩, ?_⟩
    refine hG.1 29 _ _ rfl _ _ _ ?_
    refine hG.1 30 _ _ rfl _ _ _ ?_
    obtain ⟨g7, H⟩ := H
    refine ⟨⟨rfl, by decide⟩, Nat.le_of_ble_eq_true rfl, g7, ⟨_, _, rfl, (Or.inr (Or.inr (Or.inl rfl))), H.1⟩, fun r5 σ6 hp8 => ?_⟩
    replace H := H.2 r5 σ6 hp8
    refine hG.1 31 _ _ rfl _ _ _ ?_
    obtain ⟨g11, H⟩ := H
    refine ⟨Nat.le_of_ble_eq_true rfl, Nat.le_of_ble_eq_true rfl, g11, ⟨_, rfl, H.1⟩, fun r9 σ10 hp12 => ?_⟩
    replace H := H.2 r9 σ10 hp12
    refine hG.1 32 _ _ rfl _ _ _ ?_
    refine hG.1 33 _ _ rfl _ _ _ ?_
    refine ⟨⟨rfl, by decide⟩, ?_⟩
    refine hG.1 34 _ _ rfl _ _ _ ?_
    refine ⟨⟨rfl, by decide⟩, ?_⟩
    refine hG.1 35 _ _ rfl _ _ _ ?_
    refine ⟨fun h13 => ?_, fun h13 => ?_⟩
    · replace H := H.1 h13
      refine hG.1 38 _ _ rfl _ _ _ ?_
      show G 77 [some (.ref 0), some (.int v1), some (.int v2), some (.int (v3 + 1))] [] σ10
      refine hG.1 39 _ _ rfl _ _ _ ?_
      exact H
    · replace H := H.2 h13
      refine hG.1 36 _ _ rfl _ _ _ ?_
      refine hG.1 37 _ _ rfl _ _ _ ?_
      exact ⟨rfl, H⟩
set_option maxRecDepth 100000 in
set_option maxHeartbeats 4000000 in
theorem hhX5_far (g : gtX5_far) (v1 : Int32) (v2 : Int32) (σ : px_St) (h : qrX5_far g v1 v2 σ) (G : px_K) (hG : px_cl (opX5_far (qoX5_far g v1 v2 σ)) G) : G 0 (px_ent 4 [.ref 0, .int v1, .int v2]) [] σ := by
  obtain ⟨hX, hok⟩ := h
  have hd := hok.1.2
  have hvk := hok.1.1
  have h5 := hvk.1.1
  refine sgX5_far_0 hG _ _ σ ⟨(), trivial, fun r1 σ1 h1 => ?_⟩
  obtain ⟨rfl, b1⟩ := h1
  refine bz2 b1 (fun z => ⟨(), trivial, fun r2 σ2 h2 => ?_⟩) (fun z => ?_)
  · obtain ⟨rfl, b2⟩ := h2
    refine bz1 b2 (fun x => ?_) (fun x => ?_)
    · obtain ⟨s, hs, rfl⟩ := (rngc 9 9 rfl (by omega)).mp z
      obtain ⟨n, hn, rfl⟩ := (rngc 60 60 rfl (by omega)).mp x
      have ex : (x_far g (nI s) (nI n)) = (pv_fr g.1 s n 4 1, g) := by
        unfold x_far
        rw [xif_t ⟨z, x⟩, nI_clamp (by omega), nI_clamp (by omega)]
      refine ⟨g.1, ⟨by omega, hX.1, hvk.1⟩, fun _ σ4 hq => ?_⟩
      obtain ⟨q1, q2⟩ := hq
      have loop : ∀ m v, v + m = 5 → 1 ≤ v → pv_fr g.1 s n 4 1 = pv_fr g.1 s n m v → ∀ (W : Nat) σ', av_is σ' 13 (pv_ear g.1 W) → px_tr σ2 σ' → G 29 [some (.ref 0), some (.int (nI s)), some (.int (nI n)), some (.int (nI v))] [] σ' := by
        intro m
        induction m with
        | zero =>
          intro v hv h1 he W σ' hW ho
          refine sgX5_far_29 hG _ _ _ σ' ⟨fun _ => ?_, fun q => absurd ((nIlt 4 v rfl rfl (by omega) (by omega)).mpr (by omega)) q⟩
          unfold qoX5_far
          rw [ex]
          exact ⟨he.symm, ho.cl hX⟩
        | succ m ih =>
          intro v hv h1 he W σ' hW ho
          have hW2 : av_is (px_up σ' 13 1 (nI v)) 13 (pv_ear g.1 v) := by
            refine ⟨⟨?_, ?_, ?_⟩, fun p hp => av_obj (V := g.1) (hW.2 p hp)⟩
            · rw [px_up_at, if_neg (by omega)]; exact hW.1.1
            · rw [px_up_at, if_pos ⟨rfl, rfl⟩]; rfl
            · rw [px_up_at, if_neg (by omega)]; exact hW.1.2.2
          have hek : pv_ok (pv_ear g.1 v) := pv_ear_ok hvk h1 (by omega)
          refine sgX5_far_29 hG _ _ _ σ' ⟨fun q => absurd ((nIlt 4 v rfl rfl (by omega) (by omega)).mp q) (by omega), fun _ => ⟨(pv_ear g.1 v, n), ⟨by omega, hW2, hek, Nat.lt_of_le_of_lt hd (by omega), by omega, rfl⟩, fun _ σ5 hq5 => ?_⟩⟩
          obtain ⟨p1, p2, p3⟩ := hq5
          have hrk := pv_run_ok hek n (show g.1.2.2.1 + n < 2000 by omega)
          have hrn := (pv_run_n (pv_ear g.1 v) n).1
          refine ⟨(pv_run (pv_ear g.1 v) n, s), ⟨p1, hrk.1, hs, rfl⟩, fun r6 σ6 hq6 => ?_⟩
          obtain ⟨rfl, rfl⟩ := hq6
          have hrn' : (pv_run (pv_ear g.1 v) n).1 = g.1.1 := hrn
          rw [hrn', pv_kn_eq _ _ _ h5]
          have hkl := pv_kn_lt (pv_run (pv_ear g.1 v) n) s g.1.1
          have hk5 : 2 ^ g.1.1 ≤ 2 ^ 5 := Nat.pow_le_pow_right (by omega) h5
          refine ⟨_, ⟨by omega, rfl⟩, fun r7 σ7 hq7 => ?_⟩
          obtain ⟨rfl, rfl⟩ := hq7
          have ho7 : px_tr σ2 σ7 := fun k k1 k2 => (p3 k k1 (by omega)).trans ((px_up_n (by omega)).trans (ho k k1 k2))
          have hml := pv_many_le (pv_run (pv_ear g.1 v) n) s g.1.1
          rw [p1.1.1, hrn', pv_many_pc _ _ _ h5, nI_1]
          have ce : nI (pv_many (pv_run (pv_ear g.1 v) n) s g.1.1) = nI g.1.1 ↔ pv_many (pv_run (pv_ear g.1 v) n) s g.1.1 = g.1.1 := nI_eq (by omega) (by omega)
          rw [ce]
          change _ = (if pv_many (pv_run (pv_ear g.1 v) n) s g.1.1 = g.1.1 then nI v else pv_fr g.1 s n m (v + 1)) at he
          refine ⟨fun q => ?_, fun q => ?_⟩
          · rw [if_neg q] at he
            exact ih (v + 1) (by omega) (by omega) he v σ7 (p3.av (Or.inr (Or.inl rfl)) (by omega) hW2) ho7
          · rw [if_pos (Classical.byContradiction q)] at he
            unfold qoX5_far
            rw [ex]
            exact ⟨he.symm, ho7.cl hX⟩
      exact loop 4 1 (by omega) (by omega) rfl g.1.2.1 σ4 q1 (px_tr.rf.a q2)
    · unfold qoX5_far x_far
      rw [xif_f (fun q => x q.2)]
      exact ⟨rfl, hX⟩
  · unfold qoX5_far x_far
    rw [xif_f (fun q => z q.1)]
    exact ⟨rfl, hX⟩
theorem mX5_far (g : gtX5_far) : px_Met dC yX5_far (Cond.code yX5_far cX5_far 4 (some .int) :: wdC) rmX5_far px_vI (prX5_far g) (poX5_far g) :=
  px_met (Z := (cX5_far, 4, RX5, Cond.code yX5_far cX5_far 4 (some .int) :: wdC, (some .int), rmX5_far, dC)) opX5_far (by decide) rfl rfl okX5_far (fun As σ h => by obtain ⟨v1, v2, rfl, h⟩ := h; exact Nat.le_of_ble_eq_true rfl) (fun As σ h G hG => by obtain ⟨v1, v2, rfl, h⟩ := h; exact hhX5_far g v1 v2 σ h G hG)
def pv_knd (V : pv_V) (p v : Nat) : pv_V := pv_at V p (v, (V.2.2.2 p).2)
/-- the first of the most among 0 .. k -/
noncomputable def pv_bk (f : Nat → Nat) : Nat → Nat × Nat
  | 0 => (0, f 0)
  | k + 1 => if (pv_bk f k).2 < f (k + 1) then (k + 1, f (k + 1)) else pv_bk f k
noncomputable def x_kind (X : pv_X) (p s n w : Int32) : Int32 × pv_X := (xif (xP X p ∧ (0 ≤ s ∧ s ≤ 9) ∧ (0 ≤ n ∧ n ≤ 60) ∧ (0 ≤ w ∧ w ≤ 1)) (if w = 0 then nI (pv_bk (fun v => pv_times (pv_knd X.1 p.toNatClampNeg v) s.toNatClampNeg n.toNatClampNeg) 3).1 else nI (pv_bk (fun v => pv_times (pv_knd X.1 p.toNatClampNeg v) s.toNatClampNeg n.toNatClampNeg) 3).2) (-1), X)
theorem pv_knd_ok {V : pv_V} {p v : Nat} (h : pv_ok V) (hp : p < V.1) (hv : v ≤ 3) : pv_ok (pv_knd V p v) := pv_at_ok h ⟨hv, (h.1.2.2.2 p hp).2.1, (h.1.2.2.2 p hp).2.2⟩ (h.2 p hp)
theorem pv_bk_le (f : Nat → Nat) (N : Nat) (hf : ∀ j, f j < N) (k : Nat) : (pv_bk f k).2 < N ∧ (pv_bk f k).1 ≤ k := by
  induction k with
  | zero => exact ⟨hf 0, Nat.le_refl _⟩
  | succ k ih =>
    rw [pv_bk]
    split
    · exact ⟨hf _, Nat.le_refl _⟩
    · exact ⟨ih.1, by omega⟩
/-- the kind of one parrot is set, in a copy where it may have been set before -/
theorem av_knd {σ : px_St} {V W : pv_V} {p v : Nat} (hW : av_is σ 13 W) (hWe : W = V ∨ ∃ t, W = pv_knd V p t) (hw : pv_w V) (hp : p < V.1) : av_is (px_up σ 14 p (nI v)) 13 (pv_knd V p v) ∧ px_only 13 σ (px_up σ 14 p (nI v)) := by
  have ho : px_onlyP 13 p σ (px_up σ 14 p (nI v)) := px_onlyP.upt (a := 13) (t := 1) (by omega) (by omega)
  refine ⟨?_, ho.only⟩
  have hlen : ∀ q, q < W.1 → (W.2.2.2 q).2.2.length ≤ 6 := by
    rcases hWe with rfl | ⟨t, rfl⟩
    · exact fun q hq => (hw.2.2.2 q hq).2.1
    · intro q hq
      show (if q = p then (t, (V.2.2.2 p).2) else V.2.2.2 q).2.2.length ≤ 6
      split
      · exact (hw.2.2.2 p hp).2.1
      · exact (hw.2.2.2 q hq).2.1
  have hP2 : (W.2.2.2 p).2 = (V.2.2.2 p).2 := by
    rcases hWe with rfl | ⟨t, rfl⟩
    · rfl
    · show (if p = p then (t, (V.2.2.2 p).2) else V.2.2.2 p).2 = _
      rw [if_pos rfl]
  have hWn : p < W.1 := by
    rcases hWe with rfl | ⟨t, rfl⟩
    · exact hp
    · exact hp
  have e : pv_at W p (v, (V.2.2.2 p).2) = pv_knd V p v := by
    rcases hWe with rfl | ⟨t, rfl⟩
    · rfl
    · unfold pv_knd pv_at
      simp only
      congr 3
      funext q
      by_cases h : q = p
      · rw [if_pos h, if_pos h]
      · rw [if_neg h, if_neg h, if_neg h]
  rw [← e]
  obtain ⟨g1, g2, g3, g4⟩ := hW.2 p hWn
  rw [hP2] at g2 g3 g4
  refine av_mod hW hlen ho ⟨?_, ?_, ?_, fun i x hx => ?_⟩
  · rw [px_up_at, if_pos ⟨rfl, rfl⟩]
  · rw [px_up_n (by omega)]; exact g2
  · rw [px_up_n (by omega)]; exact g3
  · rw [px_up_n (by omega)]; exact g4 i x hx
abbrev gtX5_kind : Type := pv_X
def qrX5_kind (X : pv_X) (_ _ _ _ : Int32) (σ : px_St) : Prop := cl_is σ X ∧ xo X
def qoX5_kind (X : pv_X) (p s n w : Int32) (_ : px_St) (r : Int32) (σ' : px_St) : Prop := r = (x_kind X p s n w).1 ∧ cl_is σ' (x_kind X p s n w).2
def prX5_kind (g : gtX5_kind) : List Value → px_St → Prop := fun As σ => ∃ v1 : Int32, ∃ v2 : Int32, ∃ v3 : Int32, ∃ v4 : Int32, As = [.ref 0, .int v1, .int v2, .int v3, .int v4] ∧ qrX5_kind g v1 v2 v3 v4 σ
def poX5_kind (g : gtX5_kind) : List Value → px_St → Int32 → px_St → Prop
  | [.ref _, .int v1, .int v2, .int v3, .int v4], σ, r, σ' => qoX5_kind g v1 v2 v3 v4 σ r σ'
  | _, _, _, _ => False
theorem dX5_kind_0 : decode cX5_kind 0 = .ok (.aload_n 0, 1) := by decide +kernel
theorem dX5_kind_1 : decode cX5_kind 1 = .ok (.iload_n 1, 1) := by decide +kernel
theorem dX5_kind_2 : decode cX5_kind 2 = .ok (.invokevirtual 112, 3) := by decide +kernel
theorem dX5_kind_5 : decode cX5_kind 5 = .ok (.ifCond .eq 27, 3) := by decide +kernel
theorem dX5_kind_8 : decode cX5_kind 8 = .ok (.iload_n 2, 1) := by decide +kernel
theorem dX5_kind_9 : decode cX5_kind 9 = .ok (.invokestatic 132, 3) := by decide +kernel
theorem dX5_kind_12 : decode cX5_kind 12 = .ok (.ifCond .eq 20, 3) := by decide +kernel
theorem dX5_kind_15 : decode cX5_kind 15 = .ok (.iload_n 3, 1) := by decide +kernel
theorem dX5_kind_16 : decode cX5_kind 16 = .ok (.invokestatic 167, 3) := by decide +kernel
theorem dX5_kind_19 : decode cX5_kind 19 = .ok (.ifCond .eq 13, 3) := by decide +kernel
theorem dX5_kind_22 : decode cX5_kind 22 = .ok (.iload 4, 2) := by decide +kernel
theorem dX5_kind_24 : decode cX5_kind 24 = .ok (.iconst 0, 1) := by decide +kernel
theorem dX5_kind_25 : decode cX5_kind 25 = .ok (.iconst 1, 1) := by decide +kernel
theorem dX5_kind_26 : decode cX5_kind 26 = .ok (.invokestatic 61, 3) := by decide +kernel
theorem dX5_kind_29 : decode cX5_kind 29 = .ok (.ifCond .ne 5, 3) := by decide +kernel
theorem dX5_kind_32 : decode cX5_kind 32 = .ok (.iconst (-1), 1) := by decide +kernel
theorem dX5_kind_33 : decode cX5_kind 33 = .ok (.ireturn, 1) := by decide +kernel
theorem dX5_kind_34 : decode cX5_kind 34 = .ok (.bipush (-4), 2) := by decide +kernel
theorem dX5_kind_36 : decode cX5_kind 36 = .ok (.istore 5, 2) := by decide +kernel
theorem dX5_kind_38 : decode cX5_kind 38 = .ok (.iconst (-1), 1) := by decide +kernel
theorem dX5_kind_39 : decode cX5_kind 39 = .ok (.istore 6, 2) := by decide +kernel
theorem dX5_kind_41 : decode cX5_kind 41 = .ok (.aload_n 0, 1) := by decide +kernel
theorem dX5_kind_42 : decode cX5_kind 42 = .ok (.getfield 23, 3) := by decide +kernel
theorem dX5_kind_45 : decode cX5_kind 45 = .ok (.aload_n 0, 1) := by decide +kernel
theorem dX5_kind_46 : decode cX5_kind 46 = .ok (.getfield 10, 3) := by decide +kernel
theorem dX5_kind_49 : decode cX5_kind 49 = .ok (.invokevirtual 82, 3) := by decide +kernel
theorem dX5_kind_52 : decode cX5_kind 52 = .ok (.iconst 0, 1) := by decide +kernel
theorem dX5_kind_53 : decode cX5_kind 53 = .ok (.istore 7, 2) := by decide +kernel
theorem dX5_kind_55 : decode cX5_kind 55 = .ok (.iload 7, 2) := by decide +kernel
theorem dX5_kind_57 : decode cX5_kind 57 = .ok (.iconst 4, 1) := by decide +kernel
theorem dX5_kind_58 : decode cX5_kind 58 = .ok (.if_icmp .ge 47, 3) := by decide +kernel
theorem dX5_kind_61 : decode cX5_kind 61 = .ok (.aload_n 0, 1) := by decide +kernel
theorem dX5_kind_62 : decode cX5_kind 62 = .ok (.getfield 23, 3) := by decide +kernel
theorem dX5_kind_65 : decode cX5_kind 65 = .ok (.getfield 116, 3) := by decide +kernel
theorem dX5_kind_68 : decode cX5_kind 68 = .ok (.iload_n 1, 1) := by decide +kernel
theorem dX5_kind_69 : decode cX5_kind 69 = .ok (.iload 7, 2) := by decide +kernel
theorem dX5_kind_71 : decode cX5_kind 71 = .ok (.iastore, 1) := by decide +kernel
theorem dX5_kind_72 : decode cX5_kind 72 = .ok (.aload_n 0, 1) := by decide +kernel
theorem dX5_kind_73 : decode cX5_kind 73 = .ok (.aload_n 0, 1) := by decide +kernel
theorem dX5_kind_74 : decode cX5_kind 74 = .ok (.getfield 23, 3) := by decide +kernel
theorem dX5_kind_77 : decode cX5_kind 77 = .ok (.iload_n 2, 1) := by decide +kernel
theorem dX5_kind_78 : decode cX5_kind 78 = .ok (.iload_n 3, 1) := by decide +kernel
theorem dX5_kind_79 : decode cX5_kind 79 = .ok (.invokevirtual 178, 3) := by decide +kernel
theorem dX5_kind_82 : decode cX5_kind 82 = .ok (.istore 8, 2) := by decide +kernel
theorem dX5_kind_84 : decode cX5_kind 84 = .ok (.iload 8, 2) := by decide +kernel
theorem dX5_kind_86 : decode cX5_kind 86 = .ok (.iload 6, 2) := by decide +kernel
theorem dX5_kind_88 : decode cX5_kind 88 = .ok (.if_icmp .le 11, 3) := by decide +kernel
theorem dX5_kind_91 : decode cX5_kind 91 = .ok (.iload 8, 2) := by decide +kernel
theorem dX5_kind_93 : decode cX5_kind 93 = .ok (.istore 6, 2) := by decide +kernel
theorem dX5_kind_95 : decode cX5_kind 95 = .ok (.iload 7, 2) := by decide +kernel
theorem dX5_kind_97 : decode cX5_kind 97 = .ok (.istore 5, 2) := by decide +kernel
theorem dX5_kind_99 : decode cX5_kind 99 = .ok (.iinc 7 1, 3) := by decide +kernel
theorem dX5_kind_102 : decode cX5_kind 102 = .ok (.goto (-47), 3) := by decide +kernel
theorem dX5_kind_105 : decode cX5_kind 105 = .ok (.iload 5, 2) := by decide +kernel
theorem dX5_kind_107 : decode cX5_kind 107 = .ok (.iload 6, 2) := by decide +kernel
theorem dX5_kind_109 : decode cX5_kind 109 = .ok (.iload 4, 2) := by decide +kernel
theorem dX5_kind_111 : decode cX5_kind 111 = .ok (.invokestatic 182, 3) := by decide +kernel
theorem dX5_kind_114 : decode cX5_kind 114 = .ok (.ireturn, 1) := by decide +kernel
abbrev rmX5_kind : Room := { frames := 6, cells := 0, slots := 0, locals := 153 }
def opX5_kind (po : Int32 → px_St → Prop) : List (Nat × px_Op) := [
  (0, px_al 1 0),
  (1, px_il 2 1),
  (2, px_callV dC 5 5 1 px_vI prX5_isParrot poX5_isParrot),
  (5, px_if 8 32 (fun x => x = 0)),
  (8, px_il 9 2),
  (9, px_callS 12 1 px_vI prX5_isSound poX5_isSound),
  (12, px_if 15 32 (fun x => x = 0)),
  (15, px_il 16 3),
  (16, px_callS 19 1 px_vI prX5_isDays poX5_isDays),
  (19, px_if 22 32 (fun x => x = 0)),
  (22, px_il 24 4),
  (24, px_push 25 (.int 0)),
  (25, px_push 26 (.int 1)),
  (26, px_callS 29 3 px_vI prX5_isWithin poX5_isWithin),
  (29, px_if 32 34 (fun x => ¬ x = 0)),
  (32, px_push 33 (.int (-1))),
  (33, px_iret (.int) po),
  (34, px_push 36 (.int (-4))),
  (36, px_is 38 5),
  (38, px_push 39 (.int (-1))),
  (39, px_is 41 6),
  (41, px_al 42 0),
  (42, px_get dC 45 5 2),
  (45, px_al 46 0),
  (46, px_get dC 49 5 0),
  (49, px_callV dC 52 0 1 px_vV prX0_becomes poX0_becomes),
  (52, px_push 53 (.int 0)),
  (53, px_is 55 7),
  (55, px_il 57 7),
  (57, px_push 58 (.int 4)),
  (58, px_ic 61 105 (fun x y => y ≤ x)),
  (61, px_al 62 0),
  (62, px_get dC 65 5 2),
  (65, px_get dC 68 0 3),
  (68, px_il 69 1),
  (69, px_il 71 7),
  (71, px_ast dC 72 0 (fun x => x)),
  (72, px_al 73 0),
  (73, px_al 74 0),
  (74, px_get dC 77 5 2),
  (77, px_il 78 2),
  (78, px_il 79 3),
  (79, px_callV dC 82 5 3 px_vI prX5_timesSaid poX5_timesSaid),
  (82, px_is 84 8),
  (84, px_il 86 8),
  (86, px_il 88 6),
  (88, px_ic 91 99 (fun x y => x ≤ y)),
  (91, px_il 93 8),
  (93, px_is 95 6),
  (95, px_il 97 7),
  (97, px_is 99 5),
  (99, px_inc 102 7 1),
  (102, px_go 55),
  (105, px_il 107 5),
  (107, px_il 109 6),
  (109, px_il 111 4),
  (111, px_callS 114 3 px_vI prX5_choice poX5_choice),
  (114, px_iret (.int) po)]
set_option maxRecDepth 100000 in
set_option maxHeartbeats 4000000 in
theorem okX5_kind : ∀ (po : Int32 → px_St → Prop) (i pc : Nat) (op : px_Op), (opX5_kind po)[i]? = some (pc, op) → px_Snd (cX5_kind, 9, RX5, Cond.code yX5_kind cX5_kind 9 (some .int) :: wdC, (some .int), rmX5_kind, dC) px_vI po pc op := by
  intro po
  unfold opX5_kind
  refine px_ok_cons (ps_aload_n dX5_kind_0 rfl) ?_
  refine px_ok_cons (ps_iload_n dX5_kind_1 rfl) ?_
  refine px_ok_cons (ps_callV mX5_isParrot (fun _ _ => rfl) (C := RX5) rfl (fun _ _ ht => px_cwV wgC (wdC_6_in _ (List.mem_of_getElem? (i := 36) rfl)) (wdC_6_in _ (List.mem_of_getElem? (i := 37) rfl)) (wdC_6_in _ (List.mem_of_getElem? (i := 38) rfl)) (wdC_4_in _ (List.mem_of_getElem? (i := 23) rfl)) (wdC_6_in _ (List.mem_of_getElem? (i := 32) rfl)) (by decide +kernel) rfl rfl (by decide) ht) dX5_kind_2) ?_
  refine px_ok_cons (ps_if_eq dX5_kind_5 (by decide)) ?_
  refine px_ok_cons (ps_iload_n dX5_kind_8 rfl) ?_
  refine px_ok_cons (ps_callS mX5_isSound (fun _ _ => rfl) (fun _ _ ht => px_cwS wgC (wdC_7_in _ (List.mem_of_getElem? (i := 5) rfl)) (wdC_4_in _ (List.mem_of_getElem? (i := 32) rfl)) (wdC_4_in _ (List.mem_of_getElem? (i := 23) rfl)) (wdC_4_in _ (List.mem_of_getElem? (i := 28) rfl)) (by decide +kernel) rfl rfl (by decide) ht) dX5_kind_9) ?_
  refine px_ok_cons (ps_if_eq dX5_kind_12 (by decide)) ?_
  refine px_ok_cons (ps_iload_n dX5_kind_15 rfl) ?_
  refine px_ok_cons (ps_callS mX5_isDays (fun _ _ => rfl) (fun _ _ ht => px_cwS wgC (wdC_8_in _ (List.mem_of_getElem? (i := 1) rfl)) (wdC_8_in _ (List.mem_of_getElem? (i := 2) rfl)) (wdC_4_in _ (List.mem_of_getElem? (i := 23) rfl)) (wdC_7_in _ (List.mem_of_getElem? (i := 39) rfl)) (by decide +kernel) rfl rfl (by decide) ht) dX5_kind_16) ?_
  refine px_ok_cons (ps_if_eq dX5_kind_19 (by decide)) ?_
  refine px_ok_cons (ps_iload dX5_kind_22) ?_
  refine px_ok_cons (ps_iconst dX5_kind_24 (by decide)) ?_
  refine px_ok_cons (ps_iconst dX5_kind_25 (by decide)) ?_
  refine px_ok_cons (ps_callS mX5_isWithin (fun _ _ => rfl) (fun _ _ ht => px_cwS wgC (wdC_4_in _ (List.mem_of_getElem? (i := 29) rfl)) (wdC_4_in _ (List.mem_of_getElem? (i := 22) rfl)) (wdC_4_in _ (List.mem_of_getElem? (i := 23) rfl)) (wdC_4_in _ (List.mem_of_getElem? (i := 20) rfl)) (by decide +kernel) rfl rfl (by decide) ht) dX5_kind_26) ?_
  refine px_ok_cons (ps_if_ne dX5_kind_29 (by decide)) ?_
  refine px_ok_cons (ps_iconst dX5_kind_32 (by decide)) ?_
  refine px_ok_cons (ps_ireturn rfl dX5_kind_33) ?_
  refine px_ok_cons (ps_bipush dX5_kind_34 (by decide)) ?_
  refine px_ok_cons (ps_istore dX5_kind_36 (by decide)) ?_
  refine px_ok_cons (ps_iconst dX5_kind_38 (by decide)) ?_
  refine px_ok_cons (ps_istore dX5_kind_39 (by decide)) ?_
  refine px_ok_cons (ps_aload_n dX5_kind_41 rfl) ?_
  refine px_ok_cons (fgX5_23 dX5_kind_42) ?_
  refine px_ok_cons (ps_aload_n dX5_kind_45 rfl) ?_
  refine px_ok_cons (fgX5_10 dX5_kind_46) ?_
  refine px_ok_cons (ps_callV mX0_becomes (fun _ _ => rfl) (C := RX0) rfl (fun _ _ ht => px_cwV wgC (wdC_6_in _ (List.mem_of_getElem? (i := 18) rfl)) (wdC_6_in _ (List.mem_of_getElem? (i := 19) rfl)) (wdC_6_in _ (List.mem_of_getElem? (i := 20) rfl)) (wdC_0_in _ (List.mem_of_getElem? (i := 22) rfl)) (wdC_0_in _ (List.mem_of_getElem? (i := 18) rfl)) (by decide +kernel) rfl rfl (by decide) ht) dX5_kind_49) ?_
  refine px_ok_cons (ps_iconst dX5_kind_52 (by decide)) ?_
  refine px_ok_cons (ps_istore dX5_kind_53 (by decide)) ?_
  refine px_ok_cons (ps_iload dX5_kind_55) ?_
  refine px_ok_cons (ps_iconst dX5_kind_57 (by decide)) ?_
  refine px_ok_cons (ps_icmp_ge dX5_kind_58 (by decide)) ?_
  refine px_ok_cons (ps_aload_n dX5_kind_61 rfl) ?_
  refine px_ok_cons (fgX5_23 dX5_kind_62) ?_
  refine px_ok_cons (fgX5_116 dX5_kind_65) ?_
  refine px_ok_cons (ps_iload_n dX5_kind_68 rfl) ?_
  refine px_ok_cons (ps_iload dX5_kind_69) ?_
  refine px_ok_cons (ps_iastore dX5_kind_71) ?_
  refine px_ok_cons (ps_aload_n dX5_kind_72 rfl) ?_
  refine px_ok_cons (ps_aload_n dX5_kind_73 rfl) ?_
  refine px_ok_cons (fgX5_23 dX5_kind_74) ?_
  refine px_ok_cons (ps_iload_n dX5_kind_77 rfl) ?_
  refine px_ok_cons (ps_iload_n dX5_kind_78 rfl) ?_
  refine px_ok_cons (ps_callV mX5_timesSaid (fun _ _ => rfl) (C := RX5) rfl (fun _ _ ht => px_cwV wgC (wdC_8_in _ (List.mem_of_getElem? (i := 13) rfl)) (wdC_8_in _ (List.mem_of_getElem? (i := 14) rfl)) (wdC_8_in _ (List.mem_of_getElem? (i := 15) rfl)) (wdC_4_in _ (List.mem_of_getElem? (i := 23) rfl)) (wdC_8_in _ (List.mem_of_getElem? (i := 12) rfl)) (by decide +kernel) rfl rfl (by decide) ht) dX5_kind_79) ?_
  refine px_ok_cons (ps_istore dX5_kind_82 (by decide)) ?_
  refine px_ok_cons (ps_iload dX5_kind_84) ?_
  refine px_ok_cons (ps_iload dX5_kind_86) ?_
  refine px_ok_cons (ps_icmp_le dX5_kind_88 (by decide)) ?_
  refine px_ok_cons (ps_iload dX5_kind_91) ?_
  refine px_ok_cons (ps_istore dX5_kind_93 (by decide)) ?_
  refine px_ok_cons (ps_iload dX5_kind_95) ?_
  refine px_ok_cons (ps_istore dX5_kind_97 (by decide)) ?_
  refine px_ok_cons (ps_iinc dX5_kind_99 (by decide) (by decide)) ?_
  refine px_ok_cons (ps_goto dX5_kind_102 (by decide)) ?_
  refine px_ok_cons (ps_iload dX5_kind_105) ?_
  refine px_ok_cons (ps_iload dX5_kind_107) ?_
  refine px_ok_cons (ps_iload dX5_kind_109) ?_
  refine px_ok_cons (ps_callS mX5_choice (fun _ _ => rfl) (fun _ _ ht => px_cwS wgC (wdC_8_in _ (List.mem_of_getElem? (i := 20) rfl)) (wdC_8_in _ (List.mem_of_getElem? (i := 21) rfl)) (wdC_4_in _ (List.mem_of_getElem? (i := 23) rfl)) (wdC_8_in _ (List.mem_of_getElem? (i := 19) rfl)) (by decide +kernel) rfl rfl (by decide) ht) dX5_kind_111) ?_
  refine px_ok_cons (ps_ireturn rfl dX5_kind_114) ?_
  exact px_ok_nil
set_option maxRecDepth 100000 in
set_option maxHeartbeats 4000000 in
theorem sgX5_kind_0 {po : Int32 → px_St → Prop} {G : px_K} (hG : px_cl (opX5_kind po) G) (v1 : Int32) (v2 : Int32) (v3 : Int32) (v4 : Int32) (σ : px_St)
    (H : ∃ g3 : gtX5_isParrot, qrX5_isParrot g3 v1 σ ∧ ∀ (r1 : Int32) (σ2 : px_St), qoX5_isParrot g3 v1 σ r1 σ2 → ((r1 = 0) → po (-1 : Int32) σ2) ∧ (¬ (r1 = 0) → ∃ g7 : gtX5_isSound, qrX5_isSound g7 v2 σ2 ∧ ∀ (r5 : Int32) (σ6 : px_St), qoX5_isSound g7 v2 σ2 r5 σ6 → ((r5 = 0) → po (-1 : Int32) σ6) ∧ (¬ (r5 = 0) → ∃ g11 : gtX5_isDays, qrX5_isDays g11 v3 σ6 ∧ ∀ (r9 : Int32) (σ10 : px_St), qoX5_isDays g11 v3 σ6 r9 σ10 → ((r9 = 0) → po (-1 : Int32) σ10) ∧ (¬ (r9 = 0) → ∃ g15 : gtX5_isWithin, qrX5_isWithin g15 v4 (0 : Int32) (1 : Int32) σ10 ∧ ∀ (r13 : Int32) (σ14 : px_St), qoX5_isWithin g15 v4 (0 : Int32) (1 : Int32) σ10 r13 σ14 → ((¬ r13 = 0) → ∃ g19 : gtX0_becomes, qrX0_becomes g19 13 8 σ14 ∧ ∀ (r17 : Unit) (σ18 : px_St), qoX0_becomes g19 13 8 σ14 r17 σ18 → G 55 [some (.ref 0), some (.int v1), some (.int v2), some (.int v3), some (.int v4), some (.int (-4 : Int32)), some (.int (-1 : Int32)), some (.int (0 : Int32)), none] [] σ18) ∧ (¬ (¬ r13 = 0) → po (-1 : Int32) σ14))))) :
    G 0 (px_ent 9 [.ref 0, .int v1, .int v2, .int v3, .int v4]) [] σ := by
  refine hG.1 0 _ _ rfl _ _ _ ?_
  refine hG.1 1 _ _ rfl _ _ _ ?_
  refine hG.1 2 _ _ rfl _ _ _ ?_
  obtain ⟨g3, H⟩ := H
  refine ⟨⟨rfl, by decide⟩, Nat.le_of_ble_eq_true rfl, g3, ⟨_, rfl, H.1⟩, fun r1 σ2 hp4 => ?_⟩
  replace H := H.2 r1 σ2 hp4
  refine hG.1 3 _ _ rfl _ _ _ ?_
  refine ⟨fun h24 => ?_, fun h24 => ?_⟩
  · replace H := H.1 h24
    refine hG.1 15 _ _ rfl _ _ _ ?_
    refine hG.1 16 _ _ rfl _ _ _ ?_
    exact ⟨rfl, H⟩
  · replace H := H.2 h24
    refine hG.1 4 _ _ rfl _ _ _ ?_
    refine hG.1 5 _ _ rfl _ _ _ ?_
    obtain ⟨g7, H⟩ := H
    refine ⟨Nat.le_of_ble_eq_true rfl, Nat.le_of_ble_eq_true rfl, g7, ⟨_, rfl, H.1⟩, fun r5 σ6 hp8 => ?_⟩
    replace H := H.2 r5 σ6 hp8
    refine hG.1 6 _ _ rfl _ _ _ ?_
    refine ⟨fun h23 => ?_, fun h23 => ?_⟩
    · replace H := H.1 h23
      refine hG.1 15 _ _ rfl _ _ _ ?_
      refine hG.1 16 _ _ rfl _ _ _ ?_
      exact ⟨rfl, H⟩
    · replace H := H.2 h23
      refine hG.1 7 _ _ rfl _ _ _ ?_
      refine hG.1 8 _ _ rfl _ _ _ ?_
      obtain ⟨g11, H⟩ := H
      refine ⟨Nat.le_of_ble_eq_true rfl, Nat.le_of_ble_eq_true rfl, g11, ⟨_, rfl, H.1⟩, fun r9 σ10 hp12 => ?_⟩
      replace H := H.2 r9 σ10 hp12
      refine hG.1 9 _ _ rfl _ _ _ ?_
      refine ⟨fun h22 => ?_, fun h22 => ?_⟩
      · replace H := H.1 h22
        refine hG.1 15 _ _ rfl _ _ _ ?_
        refine hG.1 16 _ _ rfl _ _ _ ?_
        exact ⟨rfl, H⟩
      · replace H := H.2 h22
        refine hG.1 10 _ _ rfl _ _ _ ?_
        refine hG.1 11 _ _ rfl _ _ _ ?_
        refine hG.1 12 _ _ rfl _ _ _ ?_
        refine hG.1 13 _ _ rfl _ _ _ ?_
        obtain ⟨g15, H⟩ := H
        refine ⟨Nat.le_of_ble_eq_true rfl, Nat.le_of_ble_eq_true rfl, g15, ⟨_, _, _, rfl, H.1⟩, fun r13 σ14 hp16 => ?_⟩
        replace H := H.2 r13 σ14 hp16
        refine hG.1 14 _ _ rfl _ _ _ ?_
        refine ⟨fun h21 => ?_, fun h21 => ?_⟩
        · replace H := H.1 h21
          refine hG.1 17 _ _ rfl _ _ _ ?_
          refine hG.1 18 _ _ rfl _ _ _ ?_
          show G 38 [some (.ref 0), some (.int v1), some (.int v2), some (.int v3), some (.int v4), some (.int (-4 : Int32)), none, none, none] [] σ14
          refine hG.1 19 _ _ rfl _ _ _ ?_
          refine hG.1 20 _ _ rfl _ _ _ ?_
          show G 41 [some (.ref 0), some (.int v1), some (.int v2), some (.int v3), some (.int v4), some (.int (-4 : Int32)), some (.int (-1 : Int32)), none, none] [] σ14
          refine hG.1 21 _ _ rfl _ _ _ ?_
          refine hG.1 22 _ _ rfl _ _ _ ?_
          refine ⟨⟨rfl, by decide⟩, ?_⟩
          refine hG.1 23 _ _ rfl _ _ _ ?_
          refine hG.1 24 _ _ rfl _ _ _ ?_
          refine ⟨⟨rfl, by decide⟩, ?_⟩
          refine hG.1 25 _ _ rfl _ _ _ ?_
          obtain ⟨g19, H⟩ := H
          refine ⟨⟨rfl, by decide⟩, Nat.le_of_ble_eq_true rfl, g19, ⟨_, _, rfl, (Or.inr (Or.inl rfl)), (Or.inl rfl), H.1⟩, fun r17 σ18 hp20 => ?_⟩
          replace H := H.2 r17 σ18 hp20
          refine hG.1 26 _ _ rfl _ _ _ ?_
          refine hG.1 27 _ _ rfl _ _ _ ?_
          show G 55 [some (.ref 0), some (.int v1), some (.int v2), some (.int v3), some (.int v4), some (.int (-4 : Int32)), some (.int (-1 : Int32)), some (.int (0 : Int32)), none] [] σ18
          exact H
        · replace H := H.2 h21
          refine hG.1 15 _ _ rfl _ _ _ ?_
          refine hG.1 16 _ _ rfl _ _ _ ?_
          exact ⟨rfl, H⟩
set_option maxRecDepth 100000 in
set_option maxHeartbeats 4000000 in
theorem sgX5_kind_55 {po : Int32 → px_St → Prop} {G : px_K} (hG : px_cl (opX5_kind po) G) (v1 : Int32) (v2 : Int32) (v3 : Int32) (v4 : Int32) (v5 : Int32) (v6 : Int32) (v7 : Int32) (σ : px_St)
    (H : (((4 : Int32) ≤ v7) → ∃ g3 : gtX5_choice, qrX5_choice g3 v5 v6 v4 σ ∧ ∀ (r1 : Int32) (σ2 : px_St), qoX5_choice g3 v5 v6 v4 σ r1 σ2 → po r1 σ2) ∧ (¬ ((4 : Int32) ≤ v7) → vp_in v1 5 ∧ ∃ g7 : gtX5_timesSaid, qrX5_timesSaid g7 13 v2 v3 (px_up σ 14 v1.toNatClampNeg v7) ∧ ∀ (r5 : Int32) (σ6 : px_St), qoX5_timesSaid g7 13 v2 v3 (px_up σ 14 v1.toNatClampNeg v7) r5 σ6 → ((r5 ≤ v6) → G 55 [some (.ref 0), some (.int v1), some (.int v2), some (.int v3), some (.int v4), some (.int v5), some (.int v6), some (.int (v7 + 1)), none] [] σ6) ∧ (¬ (r5 ≤ v6) → G 55 [some (.ref 0), some (.int v1), some (.int v2), some (.int v3), some (.int v4), some (.int v7), some (.int r5), some (.int (v7 + 1)), none] [] σ6))) :
    G 55 [some (.ref 0), some (.int v1), some (.int v2), some (.int v3), some (.int v4), some (.int v5), some (.int v6), some (.int v7), none] [] σ := by
  refine hG.1 28 _ _ rfl _ _ _ ?_
  refine hG.1 29 _ _ rfl _ _ _ ?_
  refine hG.1 30 _ _ rfl _ _ _ ?_
  refine ⟨fun h10 => ?_, fun h10 => ?_⟩
  · replace H := H.1 h10
    refine hG.1 53 _ _ rfl _ _ _ ?_
    refine hG.1 54 _ _ rfl _ _ _ ?_
    refine hG.1 55 _ _ rfl _ _ _ ?_
    refine hG.1 56 _ _ rfl _ _ _ ?_
    obtain ⟨g3, H⟩ := H
    refine ⟨Nat.le_of_ble_eq_true rfl, Nat.le_of_ble_eq_true rfl, g3, ⟨_, _, _, rfl, H.1⟩, fun r1 σ2 hp4 => ?_⟩
    replace H := H.2 r1 σ2 hp4
    refine hG.1 57 _ _ rfl _ _ _ ?_
    exact ⟨rfl, H⟩
  · replace H := H.2 h10
    refine hG.1 31 _ _ rfl _ _ _ ?_
    refine hG.1 32 _ _ rfl _ _ _ ?_
    refine ⟨⟨rfl, by decide⟩, ?_⟩
    refine hG.1 33 _ _ rfl _ _ _ ?_
    refine ⟨⟨rfl, by decide⟩, ?_⟩
    refine hG.1 34 _ _ rfl _ _ _ ?_
    refine hG.1 35 _ _ rfl _ _ _ ?_
    refine hG.1 36 _ _ rfl _ _ _ ?_
    refine ⟨⟨rfl, by decide⟩, H.1, ?_⟩
    replace H := H.2
    refine hG.1 37 _ _ rfl _ _ _ ?_
    refine hG.1 38 _ _ rfl _ _ _ ?_
    refine hG.1 39 _ _ rfl _ _ _ ?_
    refine ⟨⟨rfl, by decide⟩, ?_⟩
    refine hG.1 40 _ _ rfl _ _ _ ?_
    refine hG.1 41 _ _ rfl _ _ _ ?_
    refine hG.1 42 _ _ rfl _ _ _ ?_
    obtain ⟨g7, H⟩ := H
    refine ⟨⟨rfl, by decide⟩, Nat.le_of_ble_eq_true rfl, g7, ⟨_, _, _, rfl, (Or.inr (Or.inl rfl)), H.1⟩, fun r5 σ6 hp8 => ?_⟩
    replace H := H.2 r5 σ6 hp8
    refine hG.1 43 _ _ rfl _ _ _ ?_
    show G 84 [some (.ref 0), some (.int v1), some (.int v2), some (.int v3), some (.int v4), some (.int v5), some (.int v6), some (.int v7), some (.int r5)] [] σ6
    refine hG.1 44 _ _ rfl _ _ _ ?_
    refine hG.1 45 _ _ rfl _ _ _ ?_
    refine hG.1 46 _ _ rfl _ _ _ ?_
    refine ⟨fun h9 => ?_, fun h9 => ?_⟩
    · replace H := H.1 h9
      refine hG.1 51 _ _ rfl _ _ _ ?_
      show G 102 [some (.ref 0), some (.int v1), some (.int v2), some (.int v3), some (.int v4), some (.int v5), some (.int v6), some (.int (v7 + 1)), some (.int r5)] [] σ6
      refine hG.1 52 _ _ rfl _ _ _ ?_
      refine hG.2 55 [some (.ref 0), some (.int v1), some (.int v2), some (.int v3), some (.int v4), some (.int v5), some (.int v6), some (.int (v7 + 1)), none] _ _ _ ⟨rfl, rfl, rfl, rfl, rfl, rfl, rfl, rfl, trivial⟩ ?_
      exact H
    · replace H := H.2 h9
      refine hG.1 47 _ _ rfl _ _ _ ?_
      refine hG.1 48 _ _ rfl _ _ _ ?_
      show G 95 [some (.ref 0), some (.int v1), some (.int v2), some (.int v3), some (.int v4), some (.int v5), some (.int r5), some (.int v7), some (.int r5)] [] σ6
      refine hG.1 49 _ _ rfl _ _ _ ?_
      refine hG.1 50 _ _ rfl _ _ _ ?_
      show G 99 [some (.ref 0), some (.int v1), some (.int v2), some (.int v3), some (.int v4), some (.int v7), some (.int r5), some (.int v7), some (.int r5)] [] σ6
      refine hG.1 51 _ _ rfl _ _ _ ?_
      show G 102 [some (.ref 0), some (.int v1), some (.int v2), some (.int v3), some (.int v4), some (.int v7), some (.int r5), some (.int (v7 + 1)), some (.int r5)] [] σ6
      refine hG.1 52 _ _ rfl _ _ _ ?_
      refine hG.2 55 [some (.ref 0), some (.int v1), some (.int v2), some (.int v3), some (.int v4), some (.int v7), some (.int r5), some (.int (v7 + 1)), none] _ _ _ ⟨rfl, rfl, rfl, rfl, rfl, rfl, rfl, rfl, trivial⟩ ?_
      exact H
set_option maxRecDepth 100000 in
set_option maxHeartbeats 4000000 in
theorem hhX5_kind (g : gtX5_kind) (v1 : Int32) (v2 : Int32) (v3 : Int32) (v4 : Int32) (σ : px_St) (h : qrX5_kind g v1 v2 v3 v4 σ) (G : px_K) (hG : px_cl (opX5_kind (qoX5_kind g v1 v2 v3 v4 σ)) G) : G 0 (px_ent 9 [.ref 0, .int v1, .int v2, .int v3, .int v4]) [] σ := by
  obtain ⟨hX, hok⟩ := h
  have hd := hok.1.2
  have hvk := hok.1.1
  have h5 := hvk.1.1
  refine sgX5_kind_0 hG _ _ _ _ σ ⟨g.1, hX.1, fun r0 σ0 h0 => ?_⟩
  obtain ⟨rfl, b0⟩ := h0
  refine bz2 b0 (fun zp => ⟨(), trivial, fun r1 σ1 h1 => ?_⟩) (fun zp => ?_)
  · obtain ⟨rfl, b1⟩ := h1
    refine bz2 b1 (fun z => ⟨(), trivial, fun r2 σ2 h2 => ?_⟩) (fun z => ?_)
    · obtain ⟨rfl, b2⟩ := h2
      refine bz2 b2 (fun y => ⟨(), trivial, fun r3 σ3 h3 => ?_⟩) (fun y => ?_)
      · obtain ⟨rfl, b3⟩ := h3
        refine bz1 b3 (fun x => ?_) (fun x => ?_)
        · obtain ⟨p, hp, rfl⟩ := (rng1 (by omega)).mp zp
          obtain ⟨s, hs, rfl⟩ := (rngc 9 9 rfl (by omega)).mp z
          obtain ⟨n, hn, rfl⟩ := (rngc 60 60 rfl (by omega)).mp y
          have ex : (x_kind g (nI p) (nI s) (nI n) v4) = (if v4 = 0 then nI (pv_bk (fun v => pv_times (pv_knd g.1 p v) s n) 3).1 else nI (pv_bk (fun v => pv_times (pv_knd g.1 p v) s n) 3).2, g) := by
            unfold x_kind
            rw [xif_t ⟨zp, z, y, x⟩, nI_clamp (by omega), nI_clamp (by omega), nI_clamp (by omega)]
          refine ⟨g.1, ⟨by omega, hX.1, hvk.1⟩, fun _ σ4 hq => ?_⟩
          obtain ⟨q1, q2⟩ := hq
          have hin : vp_in (nI p) 5 := vp_in_nI (by omega) (by decide)
          have hfl : ∀ j, pv_times (pv_knd g.1 p j) s n < 100 := fun j => by have := pv_times_le (pv_knd g.1 p j) s n; omega
          have loop : ∀ m k, k + m = 3 → ∀ (W : pv_V) σ', av_is σ' 13 W → (W = g.1 ∨ ∃ t, W = pv_knd g.1 p t) → px_tr σ3 σ' → G 55 [some (.ref 0), some (.int (nI p)), some (.int (nI s)), some (.int (nI n)), some (.int v4), some (.int (nI (pv_bk (fun v => pv_times (pv_knd g.1 p v) s n) k).1)), some (.int (nI (pv_bk (fun v => pv_times (pv_knd g.1 p v) s n) k).2)), some (.int (nI (k + 1))), none] [] σ' := by
            intro m
            induction m with
            | zero =>
              intro k hk W σ' hW hWe ho
              have e : k = 3 := by omega
              subst e
              refine sgX5_kind_55 hG _ _ _ _ _ _ _ σ' ⟨fun _ => ⟨(), trivial, fun r σ5 hq => ?_⟩, fun q => absurd (by decide) q⟩
              obtain ⟨rfl, rfl⟩ := hq
              have hb := (pv_bk_le _ _ hfl 3).2
              unfold qoX5_kind
              rw [ex]
              refine ⟨?_, ho.cl hX⟩
              unfold pv_choice
              rw [if_neg (fun q => absurd (show (nI (pv_bk (fun v => pv_times (pv_knd g.1 p v) s n) 3).1) < 0 by rw [q]; decide) (nI_pos (by omega)))]
            | succ m ih =>
              intro k hk W σ' hW hWe ho
              obtain ⟨w1, w2⟩ := av_knd (v := k + 1) hW hWe hvk.1 hp
              refine sgX5_kind_55 hG _ _ _ _ _ _ _ σ' ⟨fun q => absurd ((nIle 4 (k + 1) rfl rfl (by omega) (by omega)).mp q) (by omega), fun _ => ?_⟩
              rw [nI_clamp (by omega)]
              refine ⟨hin, (pv_knd g.1 p (k + 1), s, n), ⟨by omega, w1, pv_knd_ok hvk hp (by omega), Nat.lt_of_le_of_lt hd (by omega), by omega, rfl, rfl⟩, fun r5 σ5 hq5 => ?_⟩
              obtain ⟨rfl, p3⟩ := hq5
              have hb := (pv_bk_le _ _ hfl k).1
              have hb2 := hfl (k + 1)
              have cl : nI (pv_times (pv_knd g.1 p (k + 1)) s n) ≤ nI (pv_bk (fun v => pv_times (pv_knd g.1 p v) s n) k).2 ↔ pv_times (pv_knd g.1 p (k + 1)) s n ≤ (pv_bk (fun v => pv_times (pv_knd g.1 p v) s n) k).2 := nI_leI (by omega) (by omega)
              have e := ih (k + 1) (by omega) (pv_knd g.1 p (k + 1)) σ5 (p3.av (Or.inr (Or.inl rfl)) (by omega) w1) (Or.inr ⟨_, rfl⟩) ((ho.a w2).f p3)
              rw [pv_bk] at e
              rw [cl, nI_1]
              refine ⟨fun q => ?_, fun q => ?_⟩
              · rw [if_neg (by omega)] at e; exact e
              · rw [if_pos (by omega)] at e; exact e
          obtain ⟨w1, w2⟩ := av_knd (v := 0) q1 (Or.inl rfl) hvk.1 hp
          refine sgX5_kind_55 hG _ _ _ _ _ _ _ σ4 ⟨fun q => absurd q (by decide), fun _ => ?_⟩
          rw [nI_clamp (by omega)]
          refine ⟨hin, (pv_knd g.1 p 0, s, n), ⟨by omega, w1, pv_knd_ok hvk hp (by omega), Nat.lt_of_le_of_lt hd (by omega), by omega, rfl, rfl⟩, fun r5 σ5 hq5 => ?_⟩
          obtain ⟨rfl, p3⟩ := hq5
          have hb2 := hfl 0
          refine ⟨fun q => absurd (Int32.le_trans (nI_pos' (by omega)) q) (by decide), fun _ => ?_⟩
          exact loop 3 0 (by omega) (pv_knd g.1 p 0) σ5 (p3.av (Or.inr (Or.inl rfl)) (by omega) w1) (Or.inr ⟨_, rfl⟩) ((px_tr.rf.a q2).a w2 |>.f p3)
        · unfold qoX5_kind x_kind
          rw [xif_f (fun q => x q.2.2.2)]
          exact ⟨rfl, hX⟩
      · unfold qoX5_kind x_kind
        rw [xif_f (fun q => y q.2.2.1)]
        exact ⟨rfl, hX⟩
    · unfold qoX5_kind x_kind
      rw [xif_f (fun q => z q.2.1)]
      exact ⟨rfl, hX⟩
  · unfold qoX5_kind x_kind
    rw [xif_f (fun q => zp q.1)]
    exact ⟨rfl, hX⟩
theorem mX5_kind (g : gtX5_kind) : px_Met dC yX5_kind (Cond.code yX5_kind cX5_kind 9 (some .int) :: wdC) rmX5_kind px_vI (prX5_kind g) (poX5_kind g) :=
  px_met (Z := (cX5_kind, 9, RX5, Cond.code yX5_kind cX5_kind 9 (some .int) :: wdC, (some .int), rmX5_kind, dC)) opX5_kind (by decide) rfl rfl okX5_kind (fun As σ h => by obtain ⟨v1, v2, v3, v4, rfl, h⟩ := h; exact Nat.le_of_ble_eq_true rfl) (fun As σ h G hG => by obtain ⟨v1, v2, v3, v4, rfl, h⟩ := h; exact hhX5_kind g v1 v2 v3 v4 σ h G hG)
