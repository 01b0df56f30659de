/-- in the middle of a day: the parrots below i have heard -/
noncomputable def pv_mid (V : pv_V) (i : Nat) : pv_V := (V.1, V.2.1, V.2.2.1, fun q => if q = V.2.2.1 % V.1 then ((V.2.2.2 q).1, pv_next (V.2.2.2 q), (V.2.2.2 q).2.2) else if q < i ∧ q ≤ V.2.2.1 % V.1 + V.2.1 ∧ V.2.2.1 % V.1 ≤ q + V.2.1 then pv_learn (V.2.2.2 q) (pv_due V) else V.2.2.2 q)
theorem pv_mid_w {V : pv_V} (h : pv_ok V) (hn : 0 < V.1) (i : Nat) : pv_w (pv_mid V i) := by
  obtain ⟨⟨h1, h2, h3, h4⟩, h5⟩ := id h
  refine ⟨h1, h2, h3, fun q hq => ?_⟩
  have hq' : q < V.1 := hq
  show pv_okW (if q = V.2.2.1 % V.1 then ((V.2.2.2 q).1, pv_next (V.2.2.2 q), (V.2.2.2 q).2.2) else if q < i ∧ q ≤ V.2.2.1 % V.1 + V.2.1 ∧ V.2.2.1 % V.1 ≤ q + V.2.1 then pv_learn (V.2.2.2 q) (pv_due V) else V.2.2.2 q)
  repeat' split
  · exact h4 q hq'
  · exact pv_learn_ok (h4 q hq') (pv_due_le h hn)
  · exact h4 q hq'
theorem pv_mid_0 {V : pv_V} {i : Nat} (hi : i ≤ V.2.2.1 % V.1 - V.2.1) : pv_at V (V.2.2.1 % V.1) ((V.2.2.2 (V.2.2.1 % V.1)).1, pv_next (V.2.2.2 (V.2.2.1 % V.1)), (V.2.2.2 (V.2.2.1 % V.1)).2.2) = pv_mid V i := by
  unfold pv_at pv_mid
  have e : (fun q => if q = V.2.2.1 % V.1 then ((V.2.2.2 (V.2.2.1 % V.1)).1, pv_next (V.2.2.2 (V.2.2.1 % V.1)), (V.2.2.2 (V.2.2.1 % V.1)).2.2) else V.2.2.2 q) = fun q => if q = V.2.2.1 % V.1 then ((V.2.2.2 q).1, pv_next (V.2.2.2 q), (V.2.2.2 q).2.2) else if q < i ∧ q ≤ V.2.2.1 % V.1 + V.2.1 ∧ V.2.2.1 % V.1 ≤ q + V.2.1 then pv_learn (V.2.2.2 q) (pv_due V) else V.2.2.2 q := by
    funext q
    by_cases h : q = V.2.2.1 % V.1
    · rw [if_pos h, if_pos h, h]
    · rw [if_neg h, if_neg h, if_neg (by omega)]
  rw [e]
theorem pv_mid_p {V : pv_V} : pv_mid V (V.2.2.1 % V.1 + 1) = pv_mid V (V.2.2.1 % V.1) := by
  unfold pv_mid
  congr 3
  funext q
  by_cases h : q = V.2.2.1 % V.1
  · rw [if_pos h, if_pos h]
  · rw [if_neg h, if_neg h]
    by_cases h2 : q < V.2.2.1 % V.1 ∧ q ≤ V.2.2.1 % V.1 + V.2.1 ∧ V.2.2.1 % V.1 ≤ q + V.2.1
    · rw [if_pos h2, if_pos (by omega)]
    · rw [if_neg h2, if_neg (by omega)]
theorem pv_mid_s {V : pv_V} {i : Nat} (hp : i ≠ V.2.2.1 % V.1) (h1 : i ≤ V.2.2.1 % V.1 + V.2.1) (h2 : V.2.2.1 % V.1 ≤ i + V.2.1) : pv_at (pv_mid V i) i (pv_learn ((pv_mid V i).2.2.2 i) (pv_due V)) = pv_mid V (i + 1) := by
  have e0 : (pv_mid V i).2.2.2 i = V.2.2.2 i := by
    show (if i = V.2.2.1 % V.1 then _ else if i < i ∧ _ then _ else V.2.2.2 i) = V.2.2.2 i
    rw [if_neg hp, if_neg (by omega)]
  rw [e0]
  unfold pv_at pv_mid
  congr 3
  funext q
  simp only
  by_cases h : q = i
  · subst h
    rw [if_pos rfl, if_neg hp, if_pos (by omega)]
  · rw [if_neg h]
    by_cases hq : q = V.2.2.1 % V.1
    · rw [if_pos hq, if_pos hq]
    · rw [if_neg hq, if_neg hq]
      by_cases h3 : q < i ∧ q ≤ V.2.2.1 % V.1 + V.2.1 ∧ V.2.2.1 % V.1 ≤ q + V.2.1
      · rw [if_pos h3, if_pos (by omega)]
      · rw [if_neg h3, if_neg (by omega)]
theorem ni_max0 {p e : Nat} (hp : p < 2 ^ 30) (he : e < 2 ^ 30) : (if (0 : Int32) < nI p - nI e then nI p - nI e else 0) = nI (p - e) := by
  by_cases h : e ≤ p
  · rw [pk_sub h]
    by_cases h0 : p - e = 0
    · rw [h0]; decide
    · exact if_pos ((nIlt (x := 0) 0 (p - e) rfl rfl (by omega) (by omega)).mpr (by omega))
  · have hs := pk_sneg (a := p) he (by omega)
    rw [if_neg (fun z => absurd (Int32.lt_trans z hs) (by decide)), show p - e = 0 by omega]
    rfl
theorem ni_min {a b : Nat} (ha : a < 2 ^ 31) (hb : b < 2 ^ 31) : (if nI a < nI b then nI a else nI b) = nI (min a b) := by
  have e := nI_ltI ha hb
  by_cases h : a < b
  · rw [if_pos (e.mpr h), show min a b = a by omega]
  · rw [if_neg (fun z => h (e.mp z)), show min a b = b by omega]
abbrev gtX0_passDay : Type := pv_V
def qrX0_passDay (V : pv_V) (a : Nat) (σ : px_St) : Prop := av_is σ a V ∧ pv_ok V ∧ V.2.2.1 < 1999
def qoX0_passDay (V : pv_V) (a : Nat) (σ : px_St) (r : Int32) (σ' : px_St) : Prop := r = pv_said V ∧ av_is σ' a (pv_day V) ∧ px_only a σ σ'
def prX0_passDay (g : gtX0_passDay) : List Value → px_St → Prop := fun As σ => ∃ v0 : Nat, As = [.ref v0] ∧ px_av v0 ∧ qrX0_passDay g v0 σ
def poX0_passDay (g : gtX0_passDay) : List Value → px_St → Int32 → px_St → Prop
  | [.ref v0], σ, r, σ' => qoX0_passDay g v0 σ r σ'
  | _, _, _, _ => False
theorem dX0_passDay_0 : decode cX0_passDay 0 = .ok (.aload_n 0, 1) := by decide +kernel
theorem dX0_passDay_1 : decode cX0_passDay 1 = .ok (.invokevirtual 44, 3) := by decide +kernel
theorem dX0_passDay_4 : decode cX0_passDay 4 = .ok (.istore_n 1, 1) := by decide +kernel
theorem dX0_passDay_5 : decode cX0_passDay 5 = .ok (.aload_n 0, 1) := by decide +kernel
theorem dX0_passDay_6 : decode cX0_passDay 6 = .ok (.invokevirtual 52, 3) := by decide +kernel
theorem dX0_passDay_9 : decode cX0_passDay 9 = .ok (.istore_n 2, 1) := by decide +kernel
theorem dX0_passDay_10 : decode cX0_passDay 10 = .ok (.iload_n 1, 1) := by decide +kernel
theorem dX0_passDay_11 : decode cX0_passDay 11 = .ok (.bipush (-4), 2) := by decide +kernel
theorem dX0_passDay_13 : decode cX0_passDay 13 = .ok (.if_icmp .eq 67, 3) := by decide +kernel
theorem dX0_passDay_16 : decode cX0_passDay 16 = .ok (.aload_n 0, 1) := by decide +kernel
theorem dX0_passDay_17 : decode cX0_passDay 17 = .ok (.getfield 22, 3) := by decide +kernel
theorem dX0_passDay_20 : decode cX0_passDay 20 = .ok (.iload_n 1, 1) := by decide +kernel
theorem dX0_passDay_21 : decode cX0_passDay 21 = .ok (.aload_n 0, 1) := by decide +kernel
theorem dX0_passDay_22 : decode cX0_passDay 22 = .ok (.iload_n 1, 1) := by decide +kernel
theorem dX0_passDay_23 : decode cX0_passDay 23 = .ok (.invokevirtual 55, 3) := by decide +kernel
theorem dX0_passDay_26 : decode cX0_passDay 26 = .ok (.iastore, 1) := by decide +kernel
theorem dX0_passDay_27 : decode cX0_passDay 27 = .ok (.aload_n 0, 1) := by decide +kernel
theorem dX0_passDay_28 : decode cX0_passDay 28 = .ok (.getfield 28, 3) := by decide +kernel
theorem dX0_passDay_31 : decode cX0_passDay 31 = .ok (.iconst 1, 1) := by decide +kernel
theorem dX0_passDay_32 : decode cX0_passDay 32 = .ok (.isub, 1) := by decide +kernel
theorem dX0_passDay_33 : decode cX0_passDay 33 = .ok (.iload_n 1, 1) := by decide +kernel
theorem dX0_passDay_34 : decode cX0_passDay 34 = .ok (.aload_n 0, 1) := by decide +kernel
theorem dX0_passDay_35 : decode cX0_passDay 35 = .ok (.getfield 9, 3) := by decide +kernel
theorem dX0_passDay_38 : decode cX0_passDay 38 = .ok (.iadd, 1) := by decide +kernel
theorem dX0_passDay_39 : decode cX0_passDay 39 = .ok (.invokestatic 59, 3) := by decide +kernel
theorem dX0_passDay_42 : decode cX0_passDay 42 = .ok (.istore_n 3, 1) := by decide +kernel
theorem dX0_passDay_43 : decode cX0_passDay 43 = .ok (.iconst 0, 1) := by decide +kernel
theorem dX0_passDay_44 : decode cX0_passDay 44 = .ok (.iload_n 1, 1) := by decide +kernel
theorem dX0_passDay_45 : decode cX0_passDay 45 = .ok (.aload_n 0, 1) := by decide +kernel
theorem dX0_passDay_46 : decode cX0_passDay 46 = .ok (.getfield 9, 3) := by decide +kernel
theorem dX0_passDay_49 : decode cX0_passDay 49 = .ok (.isub, 1) := by decide +kernel
theorem dX0_passDay_50 : decode cX0_passDay 50 = .ok (.invokestatic 64, 3) := by decide +kernel
theorem dX0_passDay_53 : decode cX0_passDay 53 = .ok (.istore 4, 2) := by decide +kernel
theorem dX0_passDay_55 : decode cX0_passDay 55 = .ok (.iload 4, 2) := by decide +kernel
theorem dX0_passDay_57 : decode cX0_passDay 57 = .ok (.iload_n 3, 1) := by decide +kernel
theorem dX0_passDay_58 : decode cX0_passDay 58 = .ok (.if_icmp .gt 22, 3) := by decide +kernel
theorem dX0_passDay_61 : decode cX0_passDay 61 = .ok (.iload 4, 2) := by decide +kernel
theorem dX0_passDay_63 : decode cX0_passDay 63 = .ok (.iload_n 1, 1) := by decide +kernel
theorem dX0_passDay_64 : decode cX0_passDay 64 = .ok (.if_icmp .eq 10, 3) := by decide +kernel
theorem dX0_passDay_67 : decode cX0_passDay 67 = .ok (.aload_n 0, 1) := by decide +kernel
theorem dX0_passDay_68 : decode cX0_passDay 68 = .ok (.iload 4, 2) := by decide +kernel
theorem dX0_passDay_70 : decode cX0_passDay 70 = .ok (.iload_n 2, 1) := by decide +kernel
theorem dX0_passDay_71 : decode cX0_passDay 71 = .ok (.invokevirtual 67, 3) := by decide +kernel
theorem dX0_passDay_74 : decode cX0_passDay 74 = .ok (.iinc 4 1, 3) := by decide +kernel
theorem dX0_passDay_77 : decode cX0_passDay 77 = .ok (.goto (-22), 3) := by decide +kernel
theorem dX0_passDay_80 : decode cX0_passDay 80 = .ok (.aload_n 0, 1) := by decide +kernel
theorem dX0_passDay_81 : decode cX0_passDay 81 = .ok (.dup, 1) := by decide +kernel
theorem dX0_passDay_82 : decode cX0_passDay 82 = .ok (.getfield 31, 3) := by decide +kernel
theorem dX0_passDay_85 : decode cX0_passDay 85 = .ok (.iconst 1, 1) := by decide +kernel
theorem dX0_passDay_86 : decode cX0_passDay 86 = .ok (.iadd, 1) := by decide +kernel
theorem dX0_passDay_87 : decode cX0_passDay 87 = .ok (.putfield 31, 3) := by decide +kernel
theorem dX0_passDay_90 : decode cX0_passDay 90 = .ok (.iload_n 2, 1) := by decide +kernel
theorem dX0_passDay_91 : decode cX0_passDay 91 = .ok (.ireturn, 1) := by decide +kernel
abbrev rmX0_passDay : Room := { frames := 3, cells := 0, slots := 0, locals := 68 }
def opX0_passDay (po : Int32 → px_St → Prop) : List (Nat × px_Op) := [
  (0, px_al 1 0),
  (1, px_callV dC 4 0 0 px_vI prX0_speaker poX0_speaker),
  (4, px_is 5 1),
  (5, px_al 6 0),
  (6, px_callV dC 9 0 0 px_vI prX0_soundDue poX0_soundDue),
  (9, px_is 10 2),
  (10, px_il 11 1),
  (11, px_push 13 (.int (-4))),
  (13, px_ic 16 80 (fun x y => x = y)),
  (16, px_al 17 0),
  (17, px_get dC 20 0 5),
  (20, px_il 21 1),
  (21, px_al 22 0),
  (22, px_il 23 1),
  (23, px_callV dC 26 0 1 px_vI prX0_nextPlace poX0_nextPlace),
  (26, px_ast dC 27 0 (fun x => x)),
  (27, px_al 28 0),
  (28, px_get dC 31 0 0),
  (31, px_push 32 (.int 1)),
  (32, px_bin 33 (fun x y => x - y)),
  (33, px_il 34 1),
  (34, px_al 35 0),
  (35, px_get dC 38 0 1),
  (38, px_bin 39 (fun x y => x + y)),
  (39, px_mm 42 (fun x y => if y < x then y else x)),
  (42, px_is 43 3),
  (43, px_push 44 (.int 0)),
  (44, px_il 45 1),
  (45, px_al 46 0),
  (46, px_get dC 49 0 1),
  (49, px_bin 50 (fun x y => x - y)),
  (50, px_mm 53 (fun x y => if x < y then y else x)),
  (53, px_is 55 4),
  (55, px_il 57 4),
  (57, px_il 58 3),
  (58, px_ic 61 80 (fun x y => y < x)),
  (61, px_il 63 4),
  (63, px_il 64 1),
  (64, px_ic 67 74 (fun x y => x = y)),
  (67, px_al 68 0),
  (68, px_il 70 4),
  (70, px_il 71 2),
  (71, px_callV dC 74 0 2 px_vV prX0_learn poX0_learn),
  (74, px_inc 77 4 1),
  (77, px_go 55),
  (80, px_al 81 0),
  (81, px_dup 82),
  (82, px_get dC 85 0 2),
  (85, px_push 86 (.int 1)),
  (86, px_bin 87 (fun x y => x + y)),
  (87, px_put dC 90 0 2 .int),
  (90, px_il 91 2),
  (91, px_iret (.int) po)]
set_option maxRecDepth 100000 in
set_option maxHeartbeats 4000000 in
theorem okX0_passDay : ∀ (po : Int32 → px_St → Prop) (i pc : Nat) (op : px_Op), (opX0_passDay po)[i]? = some (pc, op) → px_Snd (cX0_passDay, 5, RX0, Cond.code yX0_passDay cX0_passDay 5 (some .int) :: wdC, (some .int), rmX0_passDay, dC) px_vI po pc op := by
  intro po
  unfold opX0_passDay
  refine px_ok_cons (ps_aload_n dX0_passDay_0 rfl) ?_
  refine px_ok_cons (ps_callV mX0_speaker (fun _ _ => rfl) (C := RX0) rfl (fun _ _ ht => px_cwV wgC (wdC_0_in _ (List.mem_of_getElem? (i := 28) rfl)) (wdC_0_in _ (List.mem_of_getElem? (i := 29) rfl)) (wdC_0_in _ (List.mem_of_getElem? (i := 30) rfl)) (wdC_0_in _ (List.mem_of_getElem? (i := 22) rfl)) (wdC_0_in _ (List.mem_of_getElem? (i := 25) rfl)) (by decide +kernel) rfl rfl (by decide) ht) dX0_passDay_1) ?_
  refine px_ok_cons (ps_istore_n dX0_passDay_4 rfl (by decide)) ?_
  refine px_ok_cons (ps_aload_n dX0_passDay_5 rfl) ?_
  refine px_ok_cons (ps_callV mX0_soundDue (fun _ _ => rfl) (C := RX0) rfl (fun _ _ ht => px_cwV wgC (wdC_1_in _ (List.mem_of_getElem? (i := 15) rfl)) (wdC_1_in _ (List.mem_of_getElem? (i := 16) rfl)) (wdC_1_in _ (List.mem_of_getElem? (i := 17) rfl)) (wdC_0_in _ (List.mem_of_getElem? (i := 22) rfl)) (wdC_0_in _ (List.mem_of_getElem? (i := 27) rfl)) (by decide +kernel) rfl rfl (by decide) ht) dX0_passDay_6) ?_
  refine px_ok_cons (ps_istore_n dX0_passDay_9 rfl (by decide)) ?_
  refine px_ok_cons (ps_iload_n dX0_passDay_10 rfl) ?_
  refine px_ok_cons (ps_bipush dX0_passDay_11 (by decide)) ?_
  refine px_ok_cons (ps_icmp_eq dX0_passDay_13 (by decide)) ?_
  refine px_ok_cons (ps_aload_n dX0_passDay_16 rfl) ?_
  refine px_ok_cons (fgX0_22 dX0_passDay_17) ?_
  refine px_ok_cons (ps_iload_n dX0_passDay_20 rfl) ?_
  refine px_ok_cons (ps_aload_n dX0_passDay_21 rfl) ?_
  refine px_ok_cons (ps_iload_n dX0_passDay_22 rfl) ?_
  refine px_ok_cons (ps_callV mX0_nextPlace (fun _ _ => rfl) (C := RX0) rfl (fun _ _ ht => px_cwV wgC (wdC_1_in _ (List.mem_of_getElem? (i := 18) rfl)) (wdC_1_in _ (List.mem_of_getElem? (i := 19) rfl)) (wdC_1_in _ (List.mem_of_getElem? (i := 20) rfl)) (wdC_0_in _ (List.mem_of_getElem? (i := 22) rfl)) (wdC_0_in _ (List.mem_of_getElem? (i := 34) rfl)) (by decide +kernel) rfl rfl (by decide) ht) dX0_passDay_23) ?_
  refine px_ok_cons (ps_iastore dX0_passDay_26) ?_
  refine px_ok_cons (ps_aload_n dX0_passDay_27 rfl) ?_
  refine px_ok_cons (fgX0_28 dX0_passDay_28) ?_
  refine px_ok_cons (ps_iconst dX0_passDay_31 (by decide)) ?_
  refine px_ok_cons (ps_isub dX0_passDay_32) ?_
  refine px_ok_cons (ps_iload_n dX0_passDay_33 rfl) ?_
  refine px_ok_cons (ps_aload_n dX0_passDay_34 rfl) ?_
  refine px_ok_cons (fgX0_9 dX0_passDay_35) ?_
  refine px_ok_cons (ps_iadd dX0_passDay_38) ?_
  refine px_ok_cons (ps_mmin (List.mem_cons_of_mem _ (wdC_0_in _ (List.mem_of_getElem? (i := 37) rfl))) (List.mem_cons_of_mem _ (wdC_0_in _ (List.mem_of_getElem? (i := 38) rfl))) (List.mem_cons_of_mem _ (wdC_0_in _ (List.mem_of_getElem? (i := 39) rfl))) (List.mem_cons_of_mem _ (wdC_1_in _ (List.mem_of_getElem? (i := 0) rfl))) (by decide) dX0_passDay_39) ?_
  refine px_ok_cons (ps_istore_n dX0_passDay_42 rfl (by decide)) ?_
  refine px_ok_cons (ps_iconst dX0_passDay_43 (by decide)) ?_
  refine px_ok_cons (ps_iload_n dX0_passDay_44 rfl) ?_
  refine px_ok_cons (ps_aload_n dX0_passDay_45 rfl) ?_
  refine px_ok_cons (fgX0_9 dX0_passDay_46) ?_
  refine px_ok_cons (ps_isub dX0_passDay_49) ?_
  refine px_ok_cons (ps_mmax (List.mem_cons_of_mem _ (wdC_1_in _ (List.mem_of_getElem? (i := 12) rfl))) (List.mem_cons_of_mem _ (wdC_1_in _ (List.mem_of_getElem? (i := 13) rfl))) (List.mem_cons_of_mem _ (wdC_0_in _ (List.mem_of_getElem? (i := 39) rfl))) (List.mem_cons_of_mem _ (wdC_1_in _ (List.mem_of_getElem? (i := 14) rfl))) (by decide) dX0_passDay_50) ?_
  refine px_ok_cons (ps_istore dX0_passDay_53 (by decide)) ?_
  refine px_ok_cons (ps_iload dX0_passDay_55) ?_
  refine px_ok_cons (ps_iload_n dX0_passDay_57 rfl) ?_
  refine px_ok_cons (ps_icmp_gt dX0_passDay_58 (by decide)) ?_
  refine px_ok_cons (ps_iload dX0_passDay_61) ?_
  refine px_ok_cons (ps_iload_n dX0_passDay_63 rfl) ?_
  refine px_ok_cons (ps_icmp_eq dX0_passDay_64 (by decide)) ?_
  refine px_ok_cons (ps_aload_n dX0_passDay_67 rfl) ?_
  refine px_ok_cons (ps_iload dX0_passDay_68) ?_
  refine px_ok_cons (ps_iload_n dX0_passDay_70 rfl) ?_
  refine px_ok_cons (ps_callV mX0_learn (fun _ _ => rfl) (C := RX0) rfl (fun _ _ ht => px_cwV wgC (wdC_1_in _ (List.mem_of_getElem? (i := 21) rfl)) (wdC_1_in _ (List.mem_of_getElem? (i := 22) rfl)) (wdC_1_in _ (List.mem_of_getElem? (i := 23) rfl)) (wdC_0_in _ (List.mem_of_getElem? (i := 22) rfl)) (wdC_1_in _ (List.mem_of_getElem? (i := 2) rfl)) (by decide +kernel) rfl rfl (by decide) ht) dX0_passDay_71) ?_
  refine px_ok_cons (ps_iinc dX0_passDay_74 (by decide) (by decide)) ?_
  refine px_ok_cons (ps_goto dX0_passDay_77 (by decide)) ?_
  refine px_ok_cons (ps_aload_n dX0_passDay_80 rfl) ?_
  refine px_ok_cons (ps_dup dX0_passDay_81) ?_
  refine px_ok_cons (fgX0_31 dX0_passDay_82) ?_
  refine px_ok_cons (ps_iconst dX0_passDay_85 (by decide)) ?_
  refine px_ok_cons (ps_iadd dX0_passDay_86) ?_
  refine px_ok_cons (fpX0_31 dX0_passDay_87) ?_
  refine px_ok_cons (ps_iload_n dX0_passDay_90 rfl) ?_
  refine px_ok_cons (ps_ireturn rfl dX0_passDay_91) ?_
  exact px_ok_nil
set_option maxRecDepth 100000 in
set_option maxHeartbeats 4000000 in
theorem sgX0_passDay_0 {po : Int32 → px_St → Prop} {G : px_K} (hG : px_cl (opX0_passDay po) G) (v0 : Nat) (hv0 : px_av v0) (σ : px_St)
    (H : ∃ g3 : gtX0_speaker, qrX0_speaker g3 v0 σ ∧ ∀ (r1 : Int32) (σ2 : px_St), qoX0_speaker g3 v0 σ r1 σ2 → ∃ g7 : gtX0_soundDue, qrX0_soundDue g7 v0 σ2 ∧ ∀ (r5 : Int32) (σ6 : px_St), qoX0_soundDue g7 v0 σ2 r5 σ6 → ((r1 = (-4 : Int32)) → po r5 (px_up σ6 v0 2 ((σ6.1 v0 2) + (1 : Int32)))) ∧ (¬ (r1 = (-4 : Int32)) → ∃ g11 : gtX0_nextPlace, qrX0_nextPlace g11 v0 r1 σ6 ∧ ∀ (r9 : Int32) (σ10 : px_St), qoX0_nextPlace g11 v0 r1 σ6 r9 σ10 → vp_in r1 5 ∧ G 55 [some (.ref v0), some (.int r1), some (.int r5), some (.int (if (r1 + ((px_up σ10 (v0 + 3) r1.toNatClampNeg r9).1 v0 1)) < (((px_up σ10 (v0 + 3) r1.toNatClampNeg r9).1 v0 0) - (1 : Int32)) then (r1 + ((px_up σ10 (v0 + 3) r1.toNatClampNeg r9).1 v0 1)) else (((px_up σ10 (v0 + 3) r1.toNatClampNeg r9).1 v0 0) - (1 : Int32)))), some (.int (if (0 : Int32) < (r1 - ((px_up σ10 (v0 + 3) r1.toNatClampNeg r9).1 v0 1)) then (r1 - ((px_up σ10 (v0 + 3) r1.toNatClampNeg r9).1 v0 1)) else (0 : Int32)))] [] (px_up σ10 (v0 + 3) r1.toNatClampNeg r9))) :
    G 0 (px_ent 5 [.ref v0]) [] σ := by
  refine hG.1 0 _ _ rfl _ _ _ ?_
  refine hG.1 1 _ _ rfl _ _ _ ?_
  obtain ⟨g3, H⟩ := H
  refine ⟨(av_s0 hv0), Nat.le_of_ble_eq_true rfl, g3, ⟨_, rfl, hv0, H.1⟩, fun r1 σ2 hp4 => ?_⟩
  replace H := H.2 r1 σ2 hp4
  refine hG.1 2 _ _ rfl _ _ _ ?_
  show G 5 [some (.ref v0), some (.int r1), none, none, none] [] σ2
  refine hG.1 3 _ _ rfl _ _ _ ?_
  refine hG.1 4 _ _ rfl _ _ _ ?_
  obtain ⟨g7, H⟩ := H
  refine ⟨(av_s0 hv0), Nat.le_of_ble_eq_true rfl, g7, ⟨_, rfl, hv0, H.1⟩, fun r5 σ6 hp8 => ?_⟩
  replace H := H.2 r5 σ6 hp8
  refine hG.1 5 _ _ rfl _ _ _ ?_
  show G 10 [some (.ref v0), some (.int r1), some (.int r5), none, none] [] σ6
  refine hG.1 6 _ _ rfl _ _ _ ?_
  refine hG.1 7 _ _ rfl _ _ _ ?_
  refine hG.1 8 _ _ rfl _ _ _ ?_
  refine ⟨fun h13 => ?_, fun h13 => ?_⟩
  · replace H := H.1 h13
    refine hG.1 45 _ _ rfl _ _ _ ?_
    refine hG.1 46 _ _ rfl _ _ _ ?_
    refine hG.1 47 _ _ rfl _ _ _ ?_
    refine ⟨(av_s0 hv0), ?_⟩
    refine hG.1 48 _ _ rfl _ _ _ ?_
    refine hG.1 49 _ _ rfl _ _ _ ?_
    refine hG.1 50 _ _ rfl _ _ _ ?_
    refine ⟨(av_s0 hv0), ⟨rfl, rfl⟩, ?_⟩
    refine hG.1 51 _ _ rfl _ _ _ ?_
    refine hG.1 52 _ _ rfl _ _ _ ?_
    exact ⟨rfl, H⟩
  · replace H := H.2 h13
    refine hG.1 9 _ _ rfl _ _ _ ?_
    refine hG.1 10 _ _ rfl _ _ _ ?_
    refine ⟨(av_s0 hv0), ?_⟩
    refine hG.1 11 _ _ rfl _ _ _ ?_
    refine hG.1 12 _ _ rfl _ _ _ ?_
    refine hG.1 13 _ _ rfl _ _ _ ?_
    refine hG.1 14 _ _ rfl _ _ _ ?_
    obtain ⟨g11, H⟩ := H
    refine ⟨(av_s0 hv0), Nat.le_of_ble_eq_true rfl, g11, ⟨_, _, rfl, hv0, H.1⟩, fun r9 σ10 hp12 => ?_⟩
    replace H := H.2 r9 σ10 hp12
    refine hG.1 15 _ _ rfl _ _ _ ?_
    refine ⟨(av_s3 hv0), by rw [(av_l3 hv0)]; exact H.1, ?_⟩
    replace H := H.2
    refine hG.1 16 _ _ rfl _ _ _ ?_
    refine hG.1 17 _ _ rfl _ _ _ ?_
    refine ⟨(av_s0 hv0), ?_⟩
    refine hG.1 18 _ _ rfl _ _ _ ?_
    refine hG.1 19 _ _ rfl _ _ _ ?_
    refine hG.1 20 _ _ rfl _ _ _ ?_
    refine hG.1 21 _ _ rfl _ _ _ ?_
    refine hG.1 22 _ _ rfl _ _ _ ?_
    refine ⟨(av_s0 hv0), ?_⟩
    refine hG.1 23 _ _ rfl _ _ _ ?_
    refine hG.1 24 _ _ rfl _ _ _ ?_
    refine ⟨Nat.le_of_ble_eq_true rfl, ?_⟩
    refine hG.1 25 _ _ rfl _ _ _ ?_
    show G 43 [some (.ref v0), some (.int r1), some (.int r5), some (.int (if (r1 + ((px_up σ10 (v0 + 3) r1.toNatClampNeg r9).1 v0 1)) < (((px_up σ10 (v0 + 3) r1.toNatClampNeg r9).1 v0 0) - (1 : Int32)) then (r1 + ((px_up σ10 (v0 + 3) r1.toNatClampNeg r9).1 v0 1)) else (((px_up σ10 (v0 + 3) r1.toNatClampNeg r9).1 v0 0) - (1 : Int32)))), none] [] (px_up σ10 (v0 + 3) r1.toNatClampNeg r9)
    refine hG.1 26 _ _ rfl _ _ _ ?_
    refine hG.1 27 _ _ rfl _ _ _ ?_
    refine hG.1 28 _ _ rfl _ _ _ ?_
    refine hG.1 29 _ _ rfl _ _ _ ?_
    refine ⟨(av_s0 hv0), ?_⟩
    refine hG.1 30 _ _ rfl _ _ _ ?_
    refine hG.1 31 _ _ rfl _ _ _ ?_
    refine ⟨Nat.le_of_ble_eq_true rfl, ?_⟩
    refine hG.1 32 _ _ rfl _ _ _ ?_
    show G 55 [some (.ref v0), some (.int r1), some (.int r5), some (.int (if (r1 + ((px_up σ10 (v0 + 3) r1.toNatClampNeg r9).1 v0 1)) < (((px_up σ10 (v0 + 3) r1.toNatClampNeg r9).1 v0 0) - (1 : Int32)) then (r1 + ((px_up σ10 (v0 + 3) r1.toNatClampNeg r9).1 v0 1)) else (((px_up σ10 (v0 + 3) r1.toNatClampNeg r9).1 v0 0) - (1 : Int32)))), some (.int (if (0 : Int32) < (r1 - ((px_up σ10 (v0 + 3) r1.toNatClampNeg r9).1 v0 1)) then (r1 - ((px_up σ10 (v0 + 3) r1.toNatClampNeg r9).1 v0 1)) else (0 : Int32)))] [] (px_up σ10 (v0 + 3) r1.toNatClampNeg r9)
    exact H
set_option maxRecDepth 100000 in
set_option maxHeartbeats 4000000 in
theorem sgX0_passDay_55 {po : Int32 → px_St → Prop} {G : px_K} (hG : px_cl (opX0_passDay po) G) (v0 : Nat) (hv0 : px_av v0) (v1 : Int32) (v2 : Int32) (v3 : Int32) (v4 : Int32) (σ : px_St)
    (H : ((v3 < v4) → po v2 (px_up σ v0 2 ((σ.1 v0 2) + (1 : Int32)))) ∧ (¬ (v3 < v4) → ((v4 = v1) → G 55 [some (.ref v0), some (.int v1), some (.int v2), some (.int v3), some (.int (v4 + 1))] [] σ) ∧ (¬ (v4 = v1) → ∃ g3 : gtX0_learn, qrX0_learn g3 v0 v4 v2 σ ∧ ∀ (r1 : Unit) (σ2 : px_St), qoX0_learn g3 v0 v4 v2 σ r1 σ2 → G 55 [some (.ref v0), some (.int v1), some (.int v2), some (.int v3), some (.int (v4 + 1))] [] σ2))) :
    G 55 [some (.ref v0), some (.int v1), some (.int v2), some (.int v3), some (.int v4)] [] σ := by
  refine hG.1 33 _ _ rfl _ _ _ ?_
  refine hG.1 34 _ _ rfl _ _ _ ?_
  refine hG.1 35 _ _ rfl _ _ _ ?_
  refine ⟨fun h6 => ?_, fun h6 => ?_⟩
  · replace H := H.1 h6
    refine hG.1 45 _ _ rfl _ _ _ ?_
    refine hG.1 46 _ _ rfl _ _ _ ?_
    refine hG.1 47 _ _ rfl _ _ _ ?_
    refine ⟨(av_s0 hv0), ?_⟩
    refine hG.1 48 _ _ rfl _ _ _ ?_
    refine hG.1 49 _ _ rfl _ _ _ ?_
    refine hG.1 50 _ _ rfl _ _ _ ?_
    refine ⟨(av_s0 hv0), ⟨rfl, rfl⟩, ?_⟩
    refine hG.1 51 _ _ rfl _ _ _ ?_
    refine hG.1 52 _ _ rfl _ _ _ ?_
    exact ⟨rfl, H⟩
  · replace H := H.2 h6
    refine hG.1 36 _ _ rfl _ _ _ ?_
    refine hG.1 37 _ _ rfl _ _ _ ?_
    refine hG.1 38 _ _ rfl _ _ _ ?_
    refine ⟨fun h5 => ?_, fun h5 => ?_⟩
    · replace H := H.1 h5
      refine hG.1 43 _ _ rfl _ _ _ ?_
      show G 77 [some (.ref v0), some (.int v1), some (.int v2), some (.int v3), some (.int (v4 + 1))] [] σ
      refine hG.1 44 _ _ rfl _ _ _ ?_
      exact H
    · replace H := H.2 h5
      refine hG.1 39 _ _ rfl _ _ _ ?_
      refine hG.1 40 _ _ rfl _ _ _ ?_
      refine hG.1 41 _ _ rfl _ _ _ ?_
      refine hG.1 42 _ _ rfl _ _ _ ?_
      obtain ⟨g3, H⟩ := H
      refine ⟨(av_s0 hv0), Nat.le_of_ble_eq_true rfl, g3, ⟨_, _, _, rfl, hv0, H.1⟩, fun r1 σ2 hp4 => ?_⟩
      replace H := H.2 r1 σ2 hp4
      refine hG.1 43 _ _ rfl _ _ _ ?_
      show G 77 [some (.ref v0), some (.int v1), some (.int v2), some (.int v3), some (.int (v4 + 1))] [] σ2
      refine hG.1 44 _ _ rfl _ _ _ ?_
      exact H
set_option maxRecDepth 100000 in
set_option maxHeartbeats 4000000 in
theorem hhX0_passDay (g : gtX0_passDay) (v0 : Nat) (hv0 : px_av v0) (σ : px_St) (h : qrX0_passDay g v0 σ) (G : px_K) (hG : px_cl (opX0_passDay (qoX0_passDay g v0 σ)) G) : G 0 (px_ent 5 [.ref v0]) [] σ := by
  obtain ⟨hV, hok, hd⟩ := h
  have hw := hok.1
  have h5 := hw.1
  have hear := hw.2.1
  refine sgX0_passDay_0 hG v0 hv0 σ ⟨g, ⟨hV, hw⟩, fun r σ2 hp => ?_⟩
  obtain ⟨rfl, rfl⟩ := hp
  refine ⟨g, ⟨hV, hok⟩, fun r σ2 hp => ?_⟩
  obtain ⟨rfl, rfl⟩ := hp
  rcases Nat.eq_zero_or_pos g.1 with hn | hn
  · have e : pv_spk g = -4 := by unfold pv_spk; rw [if_pos hn]
    refine ⟨fun _ => ⟨rfl, ⟨⟨?_, ?_, ?_⟩, fun q hq => ?_⟩, fun k hk => px_up_n (by omega), rfl⟩, fun z => absurd e z⟩
    · rw [px_up_at, if_neg (by omega)]; exact hV.1.1
    · rw [px_up_at, if_neg (by omega)]; exact hV.1.2.1
    · rw [px_up_at, if_pos ⟨rfl, rfl⟩, hV.1.2.2, nI_1]; rfl
    · have hq' : q < g.1 := hq
      omega
  · have hlt := pv_spk_lt hn
    have e : pv_spk g = nI (g.2.2.1 % g.1) := by unfold pv_spk; rw [if_neg (by omega)]
    have hne : ¬ nI (g.2.2.1 % g.1) = -4 := fun z => absurd (show (nI (g.2.2.1 % g.1)) < 0 by rw [z]; decide) (nI_pos (by omega))
    have es : pv_said g = nI (pv_due g) := by unfold pv_said; rw [if_neg (by omega)]
    have hdue := pv_due_le hok hn
    rw [e]
    refine ⟨fun z => absurd z hne, fun _ => ⟨(g, g.2.2.1 % g.1), ⟨hV, hok, hlt, rfl⟩, fun r9 σ10 hp => ?_⟩⟩
    obtain ⟨rfl, rfl⟩ := hp
    rw [nI_clamp (by omega)]
    have ho : px_onlyP v0 (g.2.2.1 % g.1) σ10 (px_up σ10 (v0 + 3) (g.2.2.1 % g.1) (nI (pv_next (g.2.2.2 (g.2.2.1 % g.1))))) := px_onlyP.upt (by omega) (by omega)
    obtain ⟨g1, g2, g3, g4⟩ := hV.2 _ hlt
    have hV1 : av_is (px_up σ10 (v0 + 3) (g.2.2.1 % g.1) (nI (pv_next (g.2.2.2 (g.2.2.1 % g.1))))) v0 (pv_mid g (g.2.2.1 % g.1 - g.2.1)) := by
      rw [← pv_mid_0 (Nat.le_refl _)]
      refine av_mod hV (fun q hq => (hw.2.2.2 q hq).2.1) ho ⟨?_, ?_, ?_, fun i x hx => ?_⟩
      · rw [px_up_n (by omega)]; exact g1
      · rw [px_up_n (by omega)]; exact g2
      · rw [px_up_at, if_pos ⟨rfl, rfl⟩]
      · rw [px_up_n (by omega)]; exact g4 i x hx
    rw [hV1.1.1, hV1.1.2.1]
    have em : (if nI (g.2.2.1 % g.1) + nI g.2.1 < nI g.1 - 1 then nI (g.2.2.1 % g.1) + nI g.2.1 else nI g.1 - 1) = nI (min (g.2.2.1 % g.1 + g.2.1) (g.1 - 1)) := by
      rw [nI_add, show nI g.1 - 1 = nI (g.1 - 1) from pk_sub (b := 1) hn]
      exact ni_min (by omega) (by omega)
    have ex : (if (0 : Int32) < nI (g.2.2.1 % g.1) - nI g.2.1 then nI (g.2.2.1 % g.1) - nI g.2.1 else 0) = nI (g.2.2.1 % g.1 - g.2.1) := ni_max0 (by omega) (by omega)
    show vp_in _ 5 ∧ G 55 [some (.ref v0), some (.int (nI (g.2.2.1 % g.1))), some (.int (pv_said g)), some (.int (if nI (g.2.2.1 % g.1) + nI g.2.1 < nI g.1 - 1 then nI (g.2.2.1 % g.1) + nI g.2.1 else nI g.1 - 1)), some (.int (if (0 : Int32) < nI (g.2.2.1 % g.1) - nI g.2.1 then nI (g.2.2.1 % g.1) - nI g.2.1 else 0))] [] _
    rw [em, ex]
    refine ⟨vp_in_nI (by omega) (by decide), ?_⟩
    have loop : ∀ n i, i + n = min (g.2.2.1 % g.1 + g.2.1) (g.1 - 1) + 1 → g.2.2.1 % g.1 - g.2.1 ≤ i → ∀ σ', av_is σ' v0 (pv_mid g i) → px_only v0 σ10 σ' →
        G 55 [some (.ref v0), some (.int (nI (g.2.2.1 % g.1))), some (.int (pv_said g)), some (.int (nI (min (g.2.2.1 % g.1 + g.2.1) (g.1 - 1)))), some (.int (nI i))] [] σ' := by
      intro n
      induction n with
      | zero =>
        intro i hi hlo σ' hm hon
        refine sgX0_passDay_55 hG v0 hv0 _ _ _ _ σ' ⟨fun _ => ⟨rfl, ⟨⟨?_, ?_, ?_⟩, fun q hq => ?_⟩, hon.tr ⟨fun k hk => px_up_n (by omega), rfl⟩⟩, fun z => absurd (nI_lt (by omega) (by omega)) z⟩
        · rw [px_up_at, if_neg (by omega)]; exact hm.1.1
        · rw [px_up_at, if_neg (by omega)]; exact hm.1.2.1
        · rw [px_up_at, if_pos ⟨rfl, rfl⟩, hm.1.2.2, nI_1]; rfl
        · have hq' : q < g.1 := hq
          have h1 := hm.2 q hq'
          have e1 : (pv_day g).2.2.2 q = (pv_mid g i).2.2.2 q := by
            show (if g.1 = 0 then g.2.2.2 q else if q = g.2.2.1 % g.1 then ((g.2.2.2 q).1, pv_next (g.2.2.2 q), (g.2.2.2 q).2.2) else if q ≤ g.2.2.1 % g.1 + g.2.1 ∧ g.2.2.1 % g.1 ≤ q + g.2.1 then pv_learn (g.2.2.2 q) (pv_due g) else g.2.2.2 q) = (if q = g.2.2.1 % g.1 then ((g.2.2.2 q).1, pv_next (g.2.2.2 q), (g.2.2.2 q).2.2) else if q < i ∧ q ≤ g.2.2.1 % g.1 + g.2.1 ∧ g.2.2.1 % g.1 ≤ q + g.2.1 then pv_learn (g.2.2.2 q) (pv_due g) else g.2.2.2 q)
            rw [if_neg (by omega)]
            by_cases hqp : q = g.2.2.1 % g.1
            · rw [if_pos hqp, if_pos hqp]
            · rw [if_neg hqp, if_neg hqp]
              by_cases h3 : q ≤ g.2.2.1 % g.1 + g.2.1 ∧ g.2.2.1 % g.1 ≤ q + g.2.1
              · rw [if_pos h3, if_pos (by omega)]
              · rw [if_neg h3, if_neg (by omega)]
          rw [e1]
          exact h1.kept ((pv_mid_w hok hn i).2.2.2 q hq').2.1 (by rw [px_up_n (by omega)]) (by rw [px_up_n (by omega)]) (by rw [px_up_n (by omega)]) (fun t ht => by rw [px_up_n (by omega)])
      | succ n ih =>
        intro i hi hlo σ' hm hon
        have hig : i < g.1 := by omega
        refine sgX0_passDay_55 hG v0 hv0 _ _ _ _ σ' ⟨fun z => absurd z (nI_nlt (by omega) (by omega)), fun _ => ⟨fun hip => ?_, fun hip => ?_⟩⟩
        · have hi2 : i = g.2.2.1 % g.1 := (nI_eq (by omega) (by omega)).mp hip
          rw [nI_1]
          refine ih (i + 1) (by omega) (by omega) σ' ?_ hon
          rw [hi2, pv_mid_p, ← hi2]
          exact hm
        · have hi2 : i ≠ g.2.2.1 % g.1 := fun z => hip (by rw [z])
          refine ⟨(pv_mid g i, i, pv_due g), ⟨hm, pv_mid_w hok hn i, hig, hdue, rfl, es⟩, fun _ σ2 hq => ?_⟩
          obtain ⟨hq1, hq2⟩ := hq
          rw [pv_mid_s hi2 (by omega) (by omega)] at hq1
          rw [nI_1]
          exact ih (i + 1) (by omega) (by omega) σ2 hq1 (hon.tr hq2)
    exact loop (min (g.2.2.1 % g.1 + g.2.1) (g.1 - 1) + 1 - (g.2.2.1 % g.1 - g.2.1)) _ (by omega) (Nat.le_refl _) _ hV1 ho.only
theorem mX0_passDay (g : gtX0_passDay) : px_Met dC yX0_passDay (Cond.code yX0_passDay cX0_passDay 5 (some .int) :: wdC) rmX0_passDay px_vI (prX0_passDay g) (poX0_passDay g) :=
  px_met (Z := (cX0_passDay, 5, RX0, Cond.code yX0_passDay cX0_passDay 5 (some .int) :: wdC, (some .int), rmX0_passDay, dC)) opX0_passDay (by decide) rfl rfl okX0_passDay (fun As σ h => by obtain ⟨v0, rfl, hv0, h⟩ := h; exact Nat.le_of_ble_eq_true rfl) (fun As σ h G hG => by obtain ⟨v0, rfl, hv0, h⟩ := h; exact hhX0_passDay g v0 hv0 σ h G hG)
abbrev gtX0_copyParrot : Type := pv_P × Nat × Nat
def qrX0_copyParrot : gtX0_copyParrot → Nat → Int32 → Nat → Int32 → px_St → Prop
  | (P, p, q), _, v1, b, v3, σ => av_par σ b q P ∧ P.2.2.length ≤ 6 ∧ p < 5 ∧ q < 5 ∧ v1 = nI p ∧ v3 = nI q
def qoX0_copyParrot : gtX0_copyParrot → Nat → Int32 → Nat → Int32 → px_St → Unit → px_St → Prop
  | (P, p, _), a, _, _, _, σ, _, σ' => av_par σ' a p P ∧ px_onlyP a p σ σ'
def prX0_copyParrot (g : gtX0_copyParrot) : List Value → px_St → Prop := fun As σ => ∃ v0 : Nat, ∃ v1 : Int32, ∃ v2 : Nat, ∃ v3 : Int32, As = [.ref v0, .int v1, .ref v2, .int v3] ∧ px_av v0 ∧ px_av v2 ∧ qrX0_copyParrot g v0 v1 v2 v3 σ
def poX0_copyParrot (g : gtX0_copyParrot) : List Value → px_St → Unit → px_St → Prop
  | [.ref v0, .int v1, .ref v2, .int v3], σ, r, σ' => qoX0_copyParrot g v0 v1 v2 v3 σ r σ'
  | _, _, _, _ => False
theorem dX0_copyParrot_0 : decode cX0_copyParrot 0 = .ok (.aload_n 0, 1) := by decide +kernel
theorem dX0_copyParrot_1 : decode cX0_copyParrot 1 = .ok (.getfield 15, 3) := by decide +kernel
theorem dX0_copyParrot_4 : decode cX0_copyParrot 4 = .ok (.iload_n 1, 1) := by decide +kernel
theorem dX0_copyParrot_5 : decode cX0_copyParrot 5 = .ok (.aload_n 2, 1) := by decide +kernel
theorem dX0_copyParrot_6 : decode cX0_copyParrot 6 = .ok (.getfield 15, 3) := by decide +kernel
theorem dX0_copyParrot_9 : decode cX0_copyParrot 9 = .ok (.iload_n 3, 1) := by decide +kernel
theorem dX0_copyParrot_10 : decode cX0_copyParrot 10 = .ok (.iaload, 1) := by decide +kernel
theorem dX0_copyParrot_11 : decode cX0_copyParrot 11 = .ok (.iastore, 1) := by decide +kernel
theorem dX0_copyParrot_12 : decode cX0_copyParrot 12 = .ok (.aload_n 0, 1) := by decide +kernel
theorem dX0_copyParrot_13 : decode cX0_copyParrot 13 = .ok (.getfield 19, 3) := by decide +kernel
theorem dX0_copyParrot_16 : decode cX0_copyParrot 16 = .ok (.iload_n 1, 1) := by decide +kernel
theorem dX0_copyParrot_17 : decode cX0_copyParrot 17 = .ok (.aload_n 2, 1) := by decide +kernel
theorem dX0_copyParrot_18 : decode cX0_copyParrot 18 = .ok (.getfield 19, 3) := by decide +kernel
theorem dX0_copyParrot_21 : decode cX0_copyParrot 21 = .ok (.iload_n 3, 1) := by decide +kernel
theorem dX0_copyParrot_22 : decode cX0_copyParrot 22 = .ok (.iaload, 1) := by decide +kernel
theorem dX0_copyParrot_23 : decode cX0_copyParrot 23 = .ok (.iastore, 1) := by decide +kernel
theorem dX0_copyParrot_24 : decode cX0_copyParrot 24 = .ok (.aload_n 0, 1) := by decide +kernel
theorem dX0_copyParrot_25 : decode cX0_copyParrot 25 = .ok (.getfield 22, 3) := by decide +kernel
theorem dX0_copyParrot_28 : decode cX0_copyParrot 28 = .ok (.iload_n 1, 1) := by decide +kernel
theorem dX0_copyParrot_29 : decode cX0_copyParrot 29 = .ok (.aload_n 2, 1) := by decide +kernel
theorem dX0_copyParrot_30 : decode cX0_copyParrot 30 = .ok (.getfield 22, 3) := by decide +kernel
theorem dX0_copyParrot_33 : decode cX0_copyParrot 33 = .ok (.iload_n 3, 1) := by decide +kernel
theorem dX0_copyParrot_34 : decode cX0_copyParrot 34 = .ok (.iaload, 1) := by decide +kernel
theorem dX0_copyParrot_35 : decode cX0_copyParrot 35 = .ok (.iastore, 1) := by decide +kernel
theorem dX0_copyParrot_36 : decode cX0_copyParrot 36 = .ok (.aload_n 2, 1) := by decide +kernel
theorem dX0_copyParrot_37 : decode cX0_copyParrot 37 = .ok (.getfield 25, 3) := by decide +kernel
theorem dX0_copyParrot_40 : decode cX0_copyParrot 40 = .ok (.iload_n 3, 1) := by decide +kernel
theorem dX0_copyParrot_41 : decode cX0_copyParrot 41 = .ok (.bipush 6, 2) := by decide +kernel
theorem dX0_copyParrot_43 : decode cX0_copyParrot 43 = .ok (.imul, 1) := by decide +kernel
theorem dX0_copyParrot_44 : decode cX0_copyParrot 44 = .ok (.aload_n 0, 1) := by decide +kernel
theorem dX0_copyParrot_45 : decode cX0_copyParrot 45 = .ok (.getfield 25, 3) := by decide +kernel
theorem dX0_copyParrot_48 : decode cX0_copyParrot 48 = .ok (.iload_n 1, 1) := by decide +kernel
theorem dX0_copyParrot_49 : decode cX0_copyParrot 49 = .ok (.bipush 6, 2) := by decide +kernel
theorem dX0_copyParrot_51 : decode cX0_copyParrot 51 = .ok (.imul, 1) := by decide +kernel
theorem dX0_copyParrot_52 : decode cX0_copyParrot 52 = .ok (.bipush 6, 2) := by decide +kernel
theorem dX0_copyParrot_54 : decode cX0_copyParrot 54 = .ok (.invokestatic 38, 3) := by decide +kernel
theorem dX0_copyParrot_57 : decode cX0_copyParrot 57 = .ok (.return_, 1) := by decide +kernel
abbrev rmX0_copyParrot : Room := { frames := 1, cells := 0, slots := 0, locals := 60 }
def opX0_copyParrot (po : Unit → px_St → Prop) : List (Nat × px_Op) := [
  (0, px_al 1 0),
  (1, px_get dC 4 0 3),
  (4, px_il 5 1),
  (5, px_al 6 2),
  (6, px_get dC 9 0 3),
  (9, px_il 10 3),
  (10, px_ald dC 11 0),
  (11, px_ast dC 12 0 (fun x => x)),
  (12, px_al 13 0),
  (13, px_get dC 16 0 4),
  (16, px_il 17 1),
  (17, px_al 18 2),
  (18, px_get dC 21 0 4),
  (21, px_il 22 3),
  (22, px_ald dC 23 0),
  (23, px_ast dC 24 0 (fun x => x)),
  (24, px_al 25 0),
  (25, px_get dC 28 0 5),
  (28, px_il 29 1),
  (29, px_al 30 2),
  (30, px_get dC 33 0 5),
  (33, px_il 34 3),
  (34, px_ald dC 35 0),
  (35, px_ast dC 36 0 (fun x => x)),
  (36, px_al 37 2),
  (37, px_get dC 40 0 6),
  (40, px_il 41 3),
  (41, px_push 43 (.int 6)),
  (43, px_bin 44 (fun x y => x * y)),
  (44, px_al 45 0),
  (45, px_get dC 48 0 6),
  (48, px_il 49 1),
  (49, px_push 51 (.int 6)),
  (51, px_bin 52 (fun x y => x * y)),
  (52, px_push 54 (.int 6)),
  (54, px_copy dC 57),
  (57, px_vret po)]
set_option maxRecDepth 100000 in
set_option maxHeartbeats 4000000 in
theorem okX0_copyParrot : ∀ (po : Unit → px_St → Prop) (i pc : Nat) (op : px_Op), (opX0_copyParrot po)[i]? = some (pc, op) → px_Snd (cX0_copyParrot, 4, RX0, Cond.code yX0_copyParrot cX0_copyParrot 4 none :: wdC, none, rmX0_copyParrot, dC) px_vV po pc op := by
  intro po
  unfold opX0_copyParrot
  refine px_ok_cons (ps_aload_n dX0_copyParrot_0 rfl) ?_
  refine px_ok_cons (fgX0_15 dX0_copyParrot_1) ?_
  refine px_ok_cons (ps_iload_n dX0_copyParrot_4 rfl) ?_
  refine px_ok_cons (ps_aload_n dX0_copyParrot_5 rfl) ?_
  refine px_ok_cons (fgX0_15 dX0_copyParrot_6) ?_
  refine px_ok_cons (ps_iload_n dX0_copyParrot_9 rfl) ?_
  refine px_ok_cons (ps_iaload dX0_copyParrot_10) ?_
  refine px_ok_cons (ps_iastore dX0_copyParrot_11) ?_
  refine px_ok_cons (ps_aload_n dX0_copyParrot_12 rfl) ?_
  refine px_ok_cons (fgX0_19 dX0_copyParrot_13) ?_
  refine px_ok_cons (ps_iload_n dX0_copyParrot_16 rfl) ?_
  refine px_ok_cons (ps_aload_n dX0_copyParrot_17 rfl) ?_
  refine px_ok_cons (fgX0_19 dX0_copyParrot_18) ?_
  refine px_ok_cons (ps_iload_n dX0_copyParrot_21 rfl) ?_
  refine px_ok_cons (ps_iaload dX0_copyParrot_22) ?_
  refine px_ok_cons (ps_iastore dX0_copyParrot_23) ?_
  refine px_ok_cons (ps_aload_n dX0_copyParrot_24 rfl) ?_
  refine px_ok_cons (fgX0_22 dX0_copyParrot_25) ?_
  refine px_ok_cons (ps_iload_n dX0_copyParrot_28 rfl) ?_
  refine px_ok_cons (ps_aload_n dX0_copyParrot_29 rfl) ?_
  refine px_ok_cons (fgX0_22 dX0_copyParrot_30) ?_
  refine px_ok_cons (ps_iload_n dX0_copyParrot_33 rfl) ?_
  refine px_ok_cons (ps_iaload dX0_copyParrot_34) ?_
  refine px_ok_cons (ps_iastore dX0_copyParrot_35) ?_
  refine px_ok_cons (ps_aload_n dX0_copyParrot_36 rfl) ?_
  refine px_ok_cons (fgX0_25 dX0_copyParrot_37) ?_
  refine px_ok_cons (ps_iload_n dX0_copyParrot_40 rfl) ?_
  refine px_ok_cons (ps_bipush dX0_copyParrot_41 (by decide)) ?_
  refine px_ok_cons (ps_imul dX0_copyParrot_43) ?_
  refine px_ok_cons (ps_aload_n dX0_copyParrot_44 rfl) ?_
  refine px_ok_cons (fgX0_25 dX0_copyParrot_45) ?_
  refine px_ok_cons (ps_iload_n dX0_copyParrot_48 rfl) ?_
  refine px_ok_cons (ps_bipush dX0_copyParrot_49 (by decide)) ?_
  refine px_ok_cons (ps_imul dX0_copyParrot_51) ?_
  refine px_ok_cons (ps_bipush dX0_copyParrot_52 (by decide)) ?_
  refine px_ok_cons (ps_copy (List.mem_cons_of_mem _ (wdC_0_in _ (List.mem_of_getElem? (i := 14) rfl))) (List.mem_cons_of_mem _ (wdC_0_in _ (List.mem_of_getElem? (i := 15) rfl))) (List.mem_cons_of_mem _ (wdC_0_in _ (List.mem_of_getElem? (i := 16) rfl))) (List.mem_cons_of_mem _ (wdC_0_in _ (List.mem_of_getElem? (i := 17) rfl))) (by decide) dX0_copyParrot_54) ?_
  refine px_ok_cons (ps_return rfl dX0_copyParrot_57) ?_
  exact px_ok_nil
set_option maxRecDepth 100000 in
set_option maxHeartbeats 4000000 in
theorem sgX0_copyParrot_0 {po : Unit → px_St → Prop} {G : px_K} (hG : px_cl (opX0_copyParrot po) G) (v0 : Nat) (hv0 : px_av v0) (v1 : Int32) (v2 : Nat) (hv2 : px_av v2) (v3 : Int32) (σ : px_St)
    (H : vp_in v3 5 ∧ vp_in v1 5 ∧ vp_in v3 5 ∧ vp_in v1 5 ∧ vp_in v3 5 ∧ vp_in v1 5 ∧ (¬ (v3 * (6 : Int32)) < 0 ∧ ¬ (v1 * (6 : Int32)) < 0 ∧ ¬ (6 : Int32) < 0 ∧ (v3 * (6 : Int32)).toNatClampNeg + (6 : Int32).toNatClampNeg ≤ 30 ∧ (v1 * (6 : Int32)).toNatClampNeg + (6 : Int32).toNatClampNeg ≤ 30) ∧ po () (px_cpy (px_up (px_up (px_up σ (v0 + 1) v1.toNatClampNeg (σ.1 (v2 + 1) v3.toNatClampNeg)) (v0 + 2) v1.toNatClampNeg ((px_up σ (v0 + 1) v1.toNatClampNeg (σ.1 (v2 + 1) v3.toNatClampNeg)).1 (v2 + 2) v3.toNatClampNeg)) (v0 + 3) v1.toNatClampNeg ((px_up (px_up σ (v0 + 1) v1.toNatClampNeg (σ.1 (v2 + 1) v3.toNatClampNeg)) (v0 + 2) v1.toNatClampNeg ((px_up σ (v0 + 1) v1.toNatClampNeg (σ.1 (v2 + 1) v3.toNatClampNeg)).1 (v2 + 2) v3.toNatClampNeg)).1 (v2 + 3) v3.toNatClampNeg)) (v2 + 4) (v0 + 4) (v3 * (6 : Int32)).toNatClampNeg (v1 * (6 : Int32)).toNatClampNeg (6 : Int32).toNatClampNeg)) :
    G 0 (px_ent 4 [.ref v0, .int v1, .ref v2, .int v3]) [] σ := by
  refine hG.1 0 _ _ rfl _ _ _ ?_
  refine hG.1 1 _ _ rfl _ _ _ ?_
  refine ⟨(av_s0 hv0), ?_⟩
  refine hG.1 2 _ _ rfl _ _ _ ?_
  refine hG.1 3 _ _ rfl _ _ _ ?_
  refine hG.1 4 _ _ rfl _ _ _ ?_
  refine ⟨(av_s0 hv2), ?_⟩
  refine hG.1 5 _ _ rfl _ _ _ ?_
  refine hG.1 6 _ _ rfl _ _ _ ?_
  refine ⟨(av_s1 hv2), by rw [(av_l1 hv2)]; exact H.1, ?_⟩
  replace H := H.2
  refine hG.1 7 _ _ rfl _ _ _ ?_
  refine ⟨(av_s1 hv0), by rw [(av_l1 hv0)]; exact H.1, ?_⟩
  replace H := H.2
  refine hG.1 8 _ _ rfl _ _ _ ?_
  refine hG.1 9 _ _ rfl _ _ _ ?_
  refine ⟨(av_s0 hv0), ?_⟩
  refine hG.1 10 _ _ rfl _ _ _ ?_
  refine hG.1 11 _ _ rfl _ _ _ ?_
  refine hG.1 12 _ _ rfl _ _ _ ?_
  refine ⟨(av_s0 hv2), ?_⟩
  refine hG.1 13 _ _ rfl _ _ _ ?_
  refine hG.1 14 _ _ rfl _ _ _ ?_
  refine ⟨(av_s2 hv2), by rw [(av_l2 hv2)]; exact H.1, ?_⟩
  replace H := H.2
  refine hG.1 15 _ _ rfl _ _ _ ?_
  refine ⟨(av_s2 hv0), by rw [(av_l2 hv0)]; exact H.1, ?_⟩
  replace H := H.2
  refine hG.1 16 _ _ rfl _ _ _ ?_
  refine hG.1 17 _ _ rfl _ _ _ ?_
  refine ⟨(av_s0 hv0), ?_⟩
  refine hG.1 18 _ _ rfl _ _ _ ?_
  refine hG.1 19 _ _ rfl _ _ _ ?_
  refine hG.1 20 _ _ rfl _ _ _ ?_
  refine ⟨(av_s0 hv2), ?_⟩
  refine hG.1 21 _ _ rfl _ _ _ ?_
  refine hG.1 22 _ _ rfl _ _ _ ?_
  refine ⟨(av_s3 hv2), by rw [(av_l3 hv2)]; exact H.1, ?_⟩
  replace H := H.2
  refine hG.1 23 _ _ rfl _ _ _ ?_
  refine ⟨(av_s3 hv0), by rw [(av_l3 hv0)]; exact H.1, ?_⟩
  replace H := H.2
  refine hG.1 24 _ _ rfl _ _ _ ?_
  refine hG.1 25 _ _ rfl _ _ _ ?_
  refine ⟨(av_s0 hv2), ?_⟩
  refine hG.1 26 _ _ rfl _ _ _ ?_
  refine hG.1 27 _ _ rfl _ _ _ ?_
  refine hG.1 28 _ _ rfl _ _ _ ?_
  refine hG.1 29 _ _ rfl _ _ _ ?_
  refine hG.1 30 _ _ rfl _ _ _ ?_
  refine ⟨(av_s0 hv0), ?_⟩
  refine hG.1 31 _ _ rfl _ _ _ ?_
  refine hG.1 32 _ _ rfl _ _ _ ?_
  refine hG.1 33 _ _ rfl _ _ _ ?_
  refine hG.1 34 _ _ rfl _ _ _ ?_
  refine hG.1 35 _ _ rfl _ _ _ ?_
  refine ⟨⟨(av_s4 hv2), (av_s4 hv0)⟩, by rw [(av_l4 hv2), (av_l4 hv0)]; exact H.1, Nat.le_of_ble_eq_true rfl, ?_⟩
  replace H := H.2
  refine hG.1 36 _ _ rfl _ _ _ ?_
  exact H
set_option maxRecDepth 100000 in
set_option maxHeartbeats 4000000 in
theorem hhX0_copyParrot (g : gtX0_copyParrot) (v0 : Nat) (hv0 : px_av v0) (v1 : Int32) (v2 : Nat) (hv2 : px_av v2) (v3 : Int32) (σ : px_St) (h : qrX0_copyParrot g v0 v1 v2 v3 σ) (G : px_K) (hG : px_cl (opX0_copyParrot (qoX0_copyParrot g v0 v1 v2 v3 σ)) G) : G 0 (px_ent 4 [.ref v0, .int v1, .ref v2, .int v3]) [] σ := by
  obtain ⟨P, p, q⟩ := g
  obtain ⟨⟨g1, g2, g3, g4⟩, hl, hp, hq, rfl, rfl⟩ := h
  have hab : v0 = v2 ∨ v0 + 4 < v2 ∨ v2 + 4 < v0 := by
    by_cases h : v0 = v2
    · exact Or.inl h
    · exact Or.inr (av_apart hv0 hv2 h)
  refine sgX0_copyParrot_0 hG v0 hv0 _ v2 hv2 _ σ ?_
  have hip : vp_in (nI p) 5 := vp_in_nI hp (by decide)
  have hiq : vp_in (nI q) 5 := vp_in_nI hq (by decide)
  have e6 : (6 : Int32).toNatClampNeg = 6 := by decide
  rw [ix60, ix60, nI_clamp (show p < 2 ^ 31 by omega), nI_clamp (show q < 2 ^ 31 by omega), nI_clamp (show 6 * p < 2 ^ 31 by omega), nI_clamp (show 6 * q < 2 ^ 31 by omega), e6]
  refine ⟨hiq, hip, hiq, hip, hiq, hip, ⟨nI_pos (by omega), nI_pos (by omega), by decide, by omega, by omega⟩, ?_⟩
  rw [px_up_n (show v2 + 2 ≠ v0 + 1 by omega), px_up_n (show v2 + 3 ≠ v0 + 2 by omega), px_up_n (show v2 + 3 ≠ v0 + 1 by omega), g1, g2, g3]
  have hm : ∀ k, k ≠ v0 + 4 → (px_cpy (px_up (px_up (px_up σ (v0 + 1) p (nI P.1)) (v0 + 2) p (nI P.2.2.length)) (v0 + 3) p (nI P.2.1)) (v2 + 4) (v0 + 4) (6 * q) (6 * p) 6).1 k = (px_up (px_up (px_up σ (v0 + 1) p (nI P.1)) (v0 + 2) p (nI P.2.2.length)) (v0 + 3) p (nI P.2.1)).1 k := fun k hk => by simp [px_cpy, hk]
  have h4 : (px_cpy (px_up (px_up (px_up σ (v0 + 1) p (nI P.1)) (v0 + 2) p (nI P.2.2.length)) (v0 + 3) p (nI P.2.1)) (v2 + 4) (v0 + 4) (6 * q) (6 * p) 6).1 (v0 + 4) = va_cpy (σ.1 (v2 + 4)) (σ.1 (v0 + 4)) (6 * q) (6 * p) 6 := by
    simp only [px_cpy, if_pos]
    rw [px_up_n (by omega), px_up_n (by omega), px_up_n (by omega), px_up_n (by omega), px_up_n (by omega), px_up_n (by omega)]
  refine ⟨⟨?_, ?_, ?_, fun i x hx => ?_⟩, fun k hk => ?_, rfl, fun t h1 h2 j hj => ?_, fun j hj => ?_⟩
  · rw [hm _ (by omega), px_up_n (by omega), px_up_n (by omega), px_up_at, if_pos ⟨rfl, rfl⟩]
  · rw [hm _ (by omega), px_up_n (by omega), px_up_at, if_pos ⟨rfl, rfl⟩]
  · rw [hm _ (by omega), px_up_at, if_pos ⟨rfl, rfl⟩]
  · have hlt := (List.getElem?_eq_some_iff.mp hx).1
    rw [h4, pk_cpy_in (by omega) (by omega), show 6 * q + (6 * p + i - 6 * p) = 6 * q + i by omega]
    exact g4 i x hx
  · rw [hm _ (by omega), px_up_n (by omega), px_up_n (by omega), px_up_n (by omega)]
  · rw [hm _ (by omega), px_up_at, if_neg (by omega), px_up_at, if_neg (by omega), px_up_at, if_neg (by omega)]
  · rw [h4, pk_cpy_out (by omega)]
theorem mX0_copyParrot (g : gtX0_copyParrot) : px_Met dC yX0_copyParrot (Cond.code yX0_copyParrot cX0_copyParrot 4 none :: wdC) rmX0_copyParrot px_vV (prX0_copyParrot g) (poX0_copyParrot g) :=
  px_met (Z := (cX0_copyParrot, 4, RX0, Cond.code yX0_copyParrot cX0_copyParrot 4 none :: wdC, none, rmX0_copyParrot, dC)) opX0_copyParrot (by decide) rfl rfl okX0_copyParrot (fun As σ h => by obtain ⟨v0, v1, v2, v3, rfl, hv0, hv2, h⟩ := h; exact Nat.le_of_ble_eq_true rfl) (fun As σ h G hG => by obtain ⟨v0, v1, v2, v3, rfl, hv0, hv2, h⟩ := h; exact hhX0_copyParrot g v0 hv0 v1 v2 hv2 v3 σ h G hG)
abbrev gtX0_becomes : Type := pv_V
def qrX0_becomes (V : pv_V) (a b : Nat) (σ : px_St) : Prop := a ≠ b ∧ av_is σ b V ∧ pv_w V
def qoX0_becomes (V : pv_V) (a _ : Nat) (σ : px_St) (_ : Unit) (σ' : px_St) : Prop := av_is σ' a V ∧ px_only a σ σ'
def prX0_becomes (g : gtX0_becomes) : List Value → px_St → Prop := fun As σ => ∃ v0 : Nat, ∃ v1 : Nat, As = [.ref v0, .ref v1] ∧ px_av v0 ∧ px_av v1 ∧ qrX0_becomes g v0 v1 σ
def poX0_becomes (g : gtX0_becomes) : List Value → px_St → Unit → px_St → Prop
  | [.ref v0, .ref v1], σ, r, σ' => qoX0_becomes g v0 v1 σ r σ'
  | _, _, _, _ => False
theorem dX0_becomes_0 : decode cX0_becomes 0 = .ok (.aload_n 0, 1) := by decide +kernel
theorem dX0_becomes_1 : decode cX0_becomes 1 = .ok (.aload_n 1, 1) := by decide +kernel
theorem dX0_becomes_2 : decode cX0_becomes 2 = .ok (.getfield 28, 3) := by decide +kernel
theorem dX0_becomes_5 : decode cX0_becomes 5 = .ok (.putfield 28, 3) := by decide +kernel
theorem dX0_becomes_8 : decode cX0_becomes 8 = .ok (.aload_n 0, 1) := by decide +kernel
theorem dX0_becomes_9 : decode cX0_becomes 9 = .ok (.aload_n 1, 1) := by decide +kernel
theorem dX0_becomes_10 : decode cX0_becomes 10 = .ok (.getfield 9, 3) := by decide +kernel
theorem dX0_becomes_13 : decode cX0_becomes 13 = .ok (.putfield 9, 3) := by decide +kernel
theorem dX0_becomes_16 : decode cX0_becomes 16 = .ok (.aload_n 0, 1) := by decide +kernel
theorem dX0_becomes_17 : decode cX0_becomes 17 = .ok (.aload_n 1, 1) := by decide +kernel
theorem dX0_becomes_18 : decode cX0_becomes 18 = .ok (.getfield 31, 3) := by decide +kernel
theorem dX0_becomes_21 : decode cX0_becomes 21 = .ok (.putfield 31, 3) := by decide +kernel
theorem dX0_becomes_24 : decode cX0_becomes 24 = .ok (.iconst 0, 1) := by decide +kernel
theorem dX0_becomes_25 : decode cX0_becomes 25 = .ok (.istore_n 2, 1) := by decide +kernel
theorem dX0_becomes_26 : decode cX0_becomes 26 = .ok (.iload_n 2, 1) := by decide +kernel
theorem dX0_becomes_27 : decode cX0_becomes 27 = .ok (.aload_n 1, 1) := by decide +kernel
theorem dX0_becomes_28 : decode cX0_becomes 28 = .ok (.getfield 28, 3) := by decide +kernel
theorem dX0_becomes_31 : decode cX0_becomes 31 = .ok (.if_icmp .ge 16, 3) := by decide +kernel
theorem dX0_becomes_34 : decode cX0_becomes 34 = .ok (.aload_n 0, 1) := by decide +kernel
theorem dX0_becomes_35 : decode cX0_becomes 35 = .ok (.iload_n 2, 1) := by decide +kernel
theorem dX0_becomes_36 : decode cX0_becomes 36 = .ok (.aload_n 1, 1) := by decide +kernel
theorem dX0_becomes_37 : decode cX0_becomes 37 = .ok (.iload_n 2, 1) := by decide +kernel
theorem dX0_becomes_38 : decode cX0_becomes 38 = .ok (.invokevirtual 34, 3) := by decide +kernel
theorem dX0_becomes_41 : decode cX0_becomes 41 = .ok (.iinc 2 1, 3) := by decide +kernel
theorem dX0_becomes_44 : decode cX0_becomes 44 = .ok (.goto (-18), 3) := by decide +kernel
theorem dX0_becomes_47 : decode cX0_becomes 47 = .ok (.return_, 1) := by decide +kernel
abbrev rmX0_becomes : Room := { frames := 2, cells := 0, slots := 0, locals := 83 }
def opX0_becomes (po : Unit → px_St → Prop) : List (Nat × px_Op) := [
  (0, px_al 1 0),
  (1, px_al 2 1),
  (2, px_get dC 5 0 0),
  (5, px_put dC 8 0 0 .int),
  (8, px_al 9 0),
  (9, px_al 10 1),
  (10, px_get dC 13 0 1),
  (13, px_put dC 16 0 1 .int),
  (16, px_al 17 0),
  (17, px_al 18 1),
  (18, px_get dC 21 0 2),
  (21, px_put dC 24 0 2 .int),
  (24, px_push 25 (.int 0)),
  (25, px_is 26 2),
  (26, px_il 27 2),
  (27, px_al 28 1),
  (28, px_get dC 31 0 0),
  (31, px_ic 34 47 (fun x y => y ≤ x)),
  (34, px_al 35 0),
  (35, px_il 36 2),
  (36, px_al 37 1),
  (37, px_il 38 2),
  (38, px_callV dC 41 0 3 px_vV prX0_copyParrot poX0_copyParrot),
  (41, px_inc 44 2 1),
  (44, px_go 26),
  (47, px_vret po)]
set_option maxRecDepth 100000 in
set_option maxHeartbeats 4000000 in
theorem okX0_becomes : ∀ (po : Unit → px_St → Prop) (i pc : Nat) (op : px_Op), (opX0_becomes po)[i]? = some (pc, op) → px_Snd (cX0_becomes, 3, RX0, Cond.code yX0_becomes cX0_becomes 3 none :: wdC, none, rmX0_becomes, dC) px_vV po pc op := by
  intro po
  unfold opX0_becomes
  refine px_ok_cons (ps_aload_n dX0_becomes_0 rfl) ?_
  refine px_ok_cons (ps_aload_n dX0_becomes_1 rfl) ?_
  refine px_ok_cons (fgX0_28 dX0_becomes_2) ?_
  refine px_ok_cons (fpX0_28 dX0_becomes_5) ?_
  refine px_ok_cons (ps_aload_n dX0_becomes_8 rfl) ?_
  refine px_ok_cons (ps_aload_n dX0_becomes_9 rfl) ?_
  refine px_ok_cons (fgX0_9 dX0_becomes_10) ?_
  refine px_ok_cons (fpX0_9 dX0_becomes_13) ?_
  refine px_ok_cons (ps_aload_n dX0_becomes_16 rfl) ?_
  refine px_ok_cons (ps_aload_n dX0_becomes_17 rfl) ?_
  refine px_ok_cons (fgX0_31 dX0_becomes_18) ?_
  refine px_ok_cons (fpX0_31 dX0_becomes_21) ?_
  refine px_ok_cons (ps_iconst dX0_becomes_24 (by decide)) ?_
  refine px_ok_cons (ps_istore_n dX0_becomes_25 rfl (by decide)) ?_
  refine px_ok_cons (ps_iload_n dX0_becomes_26 rfl) ?_
  refine px_ok_cons (ps_aload_n dX0_becomes_27 rfl) ?_
  refine px_ok_cons (fgX0_28 dX0_becomes_28) ?_
  refine px_ok_cons (ps_icmp_ge dX0_becomes_31 (by decide)) ?_
  refine px_ok_cons (ps_aload_n dX0_becomes_34 rfl) ?_
  refine px_ok_cons (ps_iload_n dX0_becomes_35 rfl) ?_
  refine px_ok_cons (ps_aload_n dX0_becomes_36 rfl) ?_
  refine px_ok_cons (ps_iload_n dX0_becomes_37 rfl) ?_
  refine px_ok_cons (ps_callV mX0_copyParrot (fun _ _ => rfl) (C := RX0) rfl (fun _ _ ht => px_cwV wgC (wdC_0_in _ (List.mem_of_getElem? (i := 19) rfl)) (wdC_0_in _ (List.mem_of_getElem? (i := 20) rfl)) (wdC_0_in _ (List.mem_of_getElem? (i := 21) rfl)) (wdC_0_in _ (List.mem_of_getElem? (i := 22) rfl)) (wdC_0_in _ (List.mem_of_getElem? (i := 13) rfl)) (by decide +kernel) rfl rfl (by decide) ht) dX0_becomes_38) ?_
  refine px_ok_cons (ps_iinc dX0_becomes_41 (by decide) (by decide)) ?_
  refine px_ok_cons (ps_goto dX0_becomes_44 (by decide)) ?_
  refine px_ok_cons (ps_return rfl dX0_becomes_47) ?_
  exact px_ok_nil
set_option maxRecDepth 100000 in
set_option maxHeartbeats 4000000 in
theorem sgX0_becomes_0 {po : Unit → px_St → Prop} {G : px_K} (hG : px_cl (opX0_becomes po) G) (v0 : Nat) (hv0 : px_av v0) (v1 : Nat) (hv1 : px_av v1) (σ : px_St)
    (H : G 26 [some (.ref v0), some (.ref v1), some (.int (0 : Int32))] [] (px_up (px_up (px_up σ v0 0 (σ.1 v1 0)) v0 1 ((px_up σ v0 0 (σ.1 v1 0)).1 v1 1)) v0 2 ((px_up (px_up σ v0 0 (σ.1 v1 0)) v0 1 ((px_up σ v0 0 (σ.1 v1 0)).1 v1 1)).1 v1 2))) :
    G 0 (px_ent 3 [.ref v0, .ref v1]) [] σ := by
  refine hG.1 0 _ _ rfl _ _ _ ?_
  refine hG.1 1 _ _ rfl _ _ _ ?_
  refine hG.1 2 _ _ rfl _ _ _ ?_
  refine ⟨(av_s0 hv1), ?_⟩
  refine hG.1 3 _ _ rfl _ _ _ ?_
  refine ⟨(av_s0 hv0), ⟨rfl, rfl⟩, ?_⟩
  refine hG.1 4 _ _ rfl _ _ _ ?_
  refine hG.1 5 _ _ rfl _ _ _ ?_
  refine hG.1 6 _ _ rfl _ _ _ ?_
  refine ⟨(av_s0 hv1), ?_⟩
  refine hG.1 7 _ _ rfl _ _ _ ?_
  refine ⟨(av_s0 hv0), ⟨rfl, rfl⟩, ?_⟩
  refine hG.1 8 _ _ rfl _ _ _ ?_
  refine hG.1 9 _ _ rfl _ _ _ ?_
  refine hG.1 10 _ _ rfl _ _ _ ?_
  refine ⟨(av_s0 hv1), ?_⟩
  refine hG.1 11 _ _ rfl _ _ _ ?_
  refine ⟨(av_s0 hv0), ⟨rfl, rfl⟩, ?_⟩
  refine hG.1 12 _ _ rfl _ _ _ ?_
  refine hG.1 13 _ _ rfl _ _ _ ?_
  show G 26 [some (.ref v0), some (.ref v1), some (.int (0 : Int32))] [] (px_up (px_up (px_up σ v0 0 (σ.1 v1 0)) v0 1 ((px_up σ v0 0 (σ.1 v1 0)).1 v1 1)) v0 2 ((px_up (px_up σ v0 0 (σ.1 v1 0)) v0 1 ((px_up σ v0 0 (σ.1 v1 0)).1 v1 1)).1 v1 2))
  exact H
set_option maxRecDepth 100000 in
set_option maxHeartbeats 4000000 in
theorem sgX0_becomes_26 {po : Unit → px_St → Prop} {G : px_K} (hG : px_cl (opX0_becomes po) G) (v0 : Nat) (hv0 : px_av v0) (v1 : Nat) (hv1 : px_av v1) (v2 : Int32) (σ : px_St)
    (H : (((σ.1 v1 0) ≤ v2) → po () σ) ∧ (¬ ((σ.1 v1 0) ≤ v2) → ∃ g3 : gtX0_copyParrot, qrX0_copyParrot g3 v0 v2 v1 v2 σ ∧ ∀ (r1 : Unit) (σ2 : px_St), qoX0_copyParrot g3 v0 v2 v1 v2 σ r1 σ2 → G 26 [some (.ref v0), some (.ref v1), some (.int (v2 + 1))] [] σ2)) :
    G 26 [some (.ref v0), some (.ref v1), some (.int v2)] [] σ := by
  refine hG.1 14 _ _ rfl _ _ _ ?_
  refine hG.1 15 _ _ rfl _ _ _ ?_
  refine hG.1 16 _ _ rfl _ _ _ ?_
  refine ⟨(av_s0 hv1), ?_⟩
  refine hG.1 17 _ _ rfl _ _ _ ?_
  refine ⟨fun h5 => ?_, fun h5 => ?_⟩
  · replace H := H.1 h5
    refine hG.1 25 _ _ rfl _ _ _ ?_
    exact H
  · replace H := H.2 h5
    refine hG.1 18 _ _ rfl _ _ _ ?_
    refine hG.1 19 _ _ rfl _ _ _ ?_
    refine hG.1 20 _ _ rfl _ _ _ ?_
    refine hG.1 21 _ _ rfl _ _ _ ?_
    refine hG.1 22 _ _ rfl _ _ _ ?_
    obtain ⟨g3, H⟩ := H
    refine ⟨(av_s0 hv0), Nat.le_of_ble_eq_true rfl, g3, ⟨_, _, _, _, rfl, hv0, hv1, H.1⟩, fun r1 σ2 hp4 => ?_⟩
    replace H := H.2 r1 σ2 hp4
    refine hG.1 23 _ _ rfl _ _ _ ?_
    show G 44 [some (.ref v0), some (.ref v1), some (.int (v2 + 1))] [] σ2
    refine hG.1 24 _ _ rfl _ _ _ ?_
    exact H
set_option maxRecDepth 100000 in
set_option maxHeartbeats 4000000 in
theorem hhX0_becomes (g : gtX0_becomes) (v0 : Nat) (hv0 : px_av v0) (v1 : Nat) (hv1 : px_av v1) (σ : px_St) (h : qrX0_becomes g v0 v1 σ) (G : px_K) (hG : px_cl (opX0_becomes (qoX0_becomes g v0 v1 σ)) G) : G 0 (px_ent 3 [.ref v0, .ref v1]) [] σ := by
  obtain ⟨hne, hV, hw⟩ := h
  have h5 := hw.1
  have hab := av_apart hv0 hv1 hne
  refine sgX0_becomes_0 hG v0 hv0 v1 hv1 σ ?_
  rw [px_up_n (show v1 ≠ v0 by omega), px_up_n (show v1 ≠ v0 by omega), hV.1.1, hV.1.2.1, px_up_n (show v1 ≠ v0 by omega), hV.1.2.2]
  have loop : ∀ n i, i + n = g.1 → ∀ σ', px_only v0 σ σ' → (σ'.1 v0 0 = nI g.1 ∧ σ'.1 v0 1 = nI g.2.1 ∧ σ'.1 v0 2 = nI g.2.2.1) → (∀ p, p < i → av_par σ' v0 p (g.2.2.2 p)) →
      G 26 [some (.ref v0), some (.ref v1), some (.int (nI i))] [] σ' := by
    intro n
    induction n with
    | zero =>
      intro i hi σ' ho h0 hp
      refine sgX0_becomes_26 hG v0 hv0 v1 hv1 _ σ' ⟨fun _ => ⟨⟨h0, fun p hq => hp p (by omega)⟩, ho⟩, fun z => absurd ?_ z⟩
      rw [(hV.only hv0 hv1 hne ho).1.1]
      exact nI_le (by omega) (by omega)
    | succ n ih =>
      intro i hi σ' ho h0 hp
      have hV' := hV.only hv0 hv1 hne ho
      refine sgX0_becomes_26 hG v0 hv0 v1 hv1 _ σ' ⟨fun z => absurd z ?_, fun _ => ?_⟩
      · rw [hV'.1.1]
        exact nI_ge (by omega) (by omega)
      · refine ⟨(g.2.2.2 i, i, i), ⟨hV'.2 i (by omega), (hw.2.2.2 i (by omega)).2.1, by omega, by omega, rfl, rfl⟩, fun _ σ2 hq => ?_⟩
        obtain ⟨q1, q2⟩ := hq
        rw [nI_1]
        have e0 : σ2.1 v0 = σ'.1 v0 := q2.1 v0 (by omega)
        refine ih (i + 1) (by omega) σ2 (ho.tr q2.only) (by rw [e0]; exact h0) (fun p hpi => ?_)
        by_cases hpe : p = i
        · rw [hpe]; exact q1
        · exact (hp p (by omega)).kept (hw.2.2.2 p (by omega)).2.1 (q2.2.2.1 1 (by omega) (by omega) p hpe) (q2.2.2.1 2 (by omega) (by omega) p hpe) (q2.2.2.1 3 (by omega) (by omega) p hpe) (fun t ht => q2.2.2.2 _ (by omega))
  refine loop g.1 0 (by omega) _ ⟨fun k hk => ?_, rfl⟩ ⟨?_, ?_, ?_⟩ (fun p hp => by omega)
  · rw [px_up_n (by omega), px_up_n (by omega), px_up_n (by omega)]
  · rw [px_up_at, if_neg (by omega), px_up_at, if_neg (by omega), px_up_at, if_pos ⟨rfl, rfl⟩]
  · rw [px_up_at, if_neg (by omega), px_up_at, if_pos ⟨rfl, rfl⟩]
  · rw [px_up_at, if_pos ⟨rfl, rfl⟩]
theorem mX0_becomes (g : gtX0_becomes) : px_Met dC yX0_becomes (Cond.code yX0_becomes cX0_becomes 3 none :: wdC) rmX0_becomes px_vV (prX0_becomes g) (poX0_becomes g) :=
  px_met (Z := (cX0_becomes, 3, RX0, Cond.code yX0_becomes cX0_becomes 3 none :: wdC, none, rmX0_becomes, dC)) opX0_becomes (by decide) rfl rfl okX0_becomes (fun As σ h => by obtain ⟨v0, v1, rfl, hv0, hv1, h⟩ := h; exact Nat.le_of_ble_eq_true rfl) (fun As σ h G hG => by obtain ⟨v0, v1, rfl, hv0, hv1, h⟩ := h; exact hhX0_becomes g v0 hv0 v1 hv1 σ h G hG)
abbrev gtX0_makeEmpty : Type := Unit
def qrX0_makeEmpty (_ : Unit) (_ : Nat) (_ : px_St) : Prop := True
def qoX0_makeEmpty (_ : Unit) (a : Nat) (σ : px_St) (_ : Unit) (σ' : px_St) : Prop := av_is σ' a (0, 1, 0, fun _ => (0, 0, [])) ∧ px_only a σ σ'
def prX0_makeEmpty (g : gtX0_makeEmpty) : List Value → px_St → Prop := fun As σ => ∃ v0 : Nat, As = [.ref v0] ∧ px_av v0 ∧ qrX0_makeEmpty g v0 σ
def poX0_makeEmpty (g : gtX0_makeEmpty) : List Value → px_St → Unit → px_St → Prop
  | [.ref v0], σ, r, σ' => qoX0_makeEmpty g v0 σ r σ'
  | _, _, _, _ => False
theorem dX0_makeEmpty_0 : decode cX0_makeEmpty 0 = .ok (.aload_n 0, 1) := by decide +kernel
theorem dX0_makeEmpty_1 : decode cX0_makeEmpty 1 = .ok (.iconst 0, 1) := by decide +kernel
theorem dX0_makeEmpty_2 : decode cX0_makeEmpty 2 = .ok (.putfield 28, 3) := by decide +kernel
theorem dX0_makeEmpty_5 : decode cX0_makeEmpty 5 = .ok (.aload_n 0, 1) := by decide +kernel
theorem dX0_makeEmpty_6 : decode cX0_makeEmpty 6 = .ok (.iconst 1, 1) := by decide +kernel
theorem dX0_makeEmpty_7 : decode cX0_makeEmpty 7 = .ok (.putfield 9, 3) := by decide +kernel
theorem dX0_makeEmpty_10 : decode cX0_makeEmpty 10 = .ok (.aload_n 0, 1) := by decide +kernel
theorem dX0_makeEmpty_11 : decode cX0_makeEmpty 11 = .ok (.iconst 0, 1) := by decide +kernel
theorem dX0_makeEmpty_12 : decode cX0_makeEmpty 12 = .ok (.putfield 31, 3) := by decide +kernel
theorem dX0_makeEmpty_15 : decode cX0_makeEmpty 15 = .ok (.return_, 1) := by decide +kernel
abbrev rmX0_makeEmpty : Room := { frames := 0, cells := 0, slots := 0, locals := 0 }
def opX0_makeEmpty (po : Unit → px_St → Prop) : List (Nat × px_Op) := [
  (0, px_al 1 0),
  (1, px_push 2 (.int 0)),
  (2, px_put dC 5 0 0 .int),
  (5, px_al 6 0),
  (6, px_push 7 (.int 1)),
  (7, px_put dC 10 0 1 .int),
  (10, px_al 11 0),
  (11, px_push 12 (.int 0)),
  (12, px_put dC 15 0 2 .int),
  (15, px_vret po)]
set_option maxRecDepth 100000 in
set_option maxHeartbeats 4000000 in
theorem okX0_makeEmpty : ∀ (po : Unit → px_St → Prop) (i pc : Nat) (op : px_Op), (opX0_makeEmpty po)[i]? = some (pc, op) → px_Snd (cX0_makeEmpty, 1, RX0, Cond.code yX0_makeEmpty cX0_makeEmpty 1 none :: wdC, none, rmX0_makeEmpty, dC) px_vV po pc op := by
  intro po
  unfold opX0_makeEmpty
  refine px_ok_cons (ps_aload_n dX0_makeEmpty_0 rfl) ?_
  refine px_ok_cons (ps_iconst dX0_makeEmpty_1 (by decide)) ?_
  refine px_ok_cons (fpX0_28 dX0_makeEmpty_2) ?_
  refine px_ok_cons (ps_aload_n dX0_makeEmpty_5 rfl) ?_
  refine px_ok_cons (ps_iconst dX0_makeEmpty_6 (by decide)) ?_
  refine px_ok_cons (fpX0_9 dX0_makeEmpty_7) ?_
  refine px_ok_cons (ps_aload_n dX0_makeEmpty_10 rfl) ?_
  refine px_ok_cons (ps_iconst dX0_makeEmpty_11 (by decide)) ?_
  refine px_ok_cons (fpX0_31 dX0_makeEmpty_12) ?_
  refine px_ok_cons (ps_return rfl dX0_makeEmpty_15) ?_
  exact px_ok_nil
set_option maxRecDepth 100000 in
set_option maxHeartbeats 4000000 in
theorem sgX0_makeEmpty_0 {po : Unit → px_St → Prop} {G : px_K} (hG : px_cl (opX0_makeEmpty po) G) (v0 : Nat) (hv0 : px_av v0) (σ : px_St)
    (H : po () (px_up (px_up (px_up σ v0 0 (0 : Int32)) v0 1 (1 : Int32)) v0 2 (0 : Int32))) :
    G 0 (px_ent 1 [.ref v0]) [] σ := by
  refine hG.1 0 _ _ rfl _ _ _ ?_
  refine hG.1 1 _ _ rfl _ _ _ ?_
  refine hG.1 2 _ _ rfl _ _ _ ?_
  refine ⟨(av_s0 hv0), ⟨rfl, rfl⟩, ?_⟩
  refine hG.1 3 _ _ rfl _ _ _ ?_
  refine hG.1 4 _ _ rfl _ _ _ ?_
  refine hG.1 5 _ _ rfl _ _ _ ?_
  refine ⟨(av_s0 hv0), ⟨rfl, rfl⟩, ?_⟩
  refine hG.1 6 _ _ rfl _ _ _ ?_
  refine hG.1 7 _ _ rfl _ _ _ ?_
  refine hG.1 8 _ _ rfl _ _ _ ?_
  refine ⟨(av_s0 hv0), ⟨rfl, rfl⟩, ?_⟩
  refine hG.1 9 _ _ rfl _ _ _ ?_
  exact H
set_option maxRecDepth 100000 in
set_option maxHeartbeats 4000000 in
theorem hhX0_makeEmpty (g : gtX0_makeEmpty) (v0 : Nat) (hv0 : px_av v0) (σ : px_St) (h : qrX0_makeEmpty g v0 σ) (G : px_K) (hG : px_cl (opX0_makeEmpty (qoX0_makeEmpty g v0 σ)) G) : G 0 (px_ent 1 [.ref v0]) [] σ := by
  refine sgX0_makeEmpty_0 hG v0 hv0 σ ⟨⟨⟨?_, ?_, ?_⟩, fun q hq => absurd hq (Nat.not_lt_zero q)⟩, fun k hk => ?_, rfl⟩
  · rw [px_up_at, if_neg (by omega), px_up_at, if_neg (by omega), px_up_at, if_pos ⟨rfl, rfl⟩]; rfl
  · rw [px_up_at, if_neg (by omega), px_up_at, if_pos ⟨rfl, rfl⟩]; rfl
  · rw [px_up_at, if_pos ⟨rfl, rfl⟩]; rfl
  · rw [px_up_n (by omega), px_up_n (by omega), px_up_n (by omega)]
theorem mX0_makeEmpty (g : gtX0_makeEmpty) : px_Met dC yX0_makeEmpty (Cond.code yX0_makeEmpty cX0_makeEmpty 1 none :: wdC) rmX0_makeEmpty px_vV (prX0_makeEmpty g) (poX0_makeEmpty g) :=
  px_met (Z := (cX0_makeEmpty, 1, RX0, Cond.code yX0_makeEmpty cX0_makeEmpty 1 none :: wdC, none, rmX0_makeEmpty, dC)) opX0_makeEmpty (by decide) rfl rfl okX0_makeEmpty (fun As σ h => by obtain ⟨v0, rfl, hv0, h⟩ := h; exact Nat.le_of_ble_eq_true rfl) (fun As σ h G hG => by obtain ⟨v0, rfl, hv0, h⟩ := h; exact hhX0_makeEmpty g v0 hv0 σ h G hG)
abbrev gtX0_addParrot : Type := pv_V × Nat
def qrX0_addParrot : gtX0_addParrot → Nat → Int32 → px_St → Prop
  | (V, kd), a, v1, σ => av_is σ a V ∧ pv_w V ∧ V.1 < 5 ∧ v1 = nI kd
def pv_add (V : pv_V) (P : pv_P) : pv_V := (V.1 + 1, V.2.1, V.2.2.1, fun q => if q = V.1 then P else V.2.2.2 q)
def qoX0_addParrot : gtX0_addParrot → Nat → Int32 → px_St → Unit → px_St → Prop
  | (V, kd), a, _, σ, _, σ' => av_is σ' a (pv_add V (kd, 0, [])) ∧ px_only a σ σ'
def prX0_addParrot (g : gtX0_addParrot) : List Value → px_St → Prop := fun As σ => ∃ v0 : Nat, ∃ v1 : Int32, As = [.ref v0, .int v1] ∧ px_av v0 ∧ qrX0_addParrot g v0 v1 σ
def poX0_addParrot (g : gtX0_addParrot) : List Value → px_St → Unit → px_St → Prop
  | [.ref v0, .int v1], σ, r, σ' => qoX0_addParrot g v0 v1 σ r σ'
  | _, _, _, _ => False
theorem dX0_addParrot_0 : decode cX0_addParrot 0 = .ok (.aload_n 0, 1) := by decide +kernel
theorem dX0_addParrot_1 : decode cX0_addParrot 1 = .ok (.getfield 15, 3) := by decide +kernel
theorem dX0_addParrot_4 : decode cX0_addParrot 4 = .ok (.aload_n 0, 1) := by decide +kernel
theorem dX0_addParrot_5 : decode cX0_addParrot 5 = .ok (.getfield 28, 3) := by decide +kernel
theorem dX0_addParrot_8 : decode cX0_addParrot 8 = .ok (.iload_n 1, 1) := by decide +kernel
theorem dX0_addParrot_9 : decode cX0_addParrot 9 = .ok (.iastore, 1) := by decide +kernel
theorem dX0_addParrot_10 : decode cX0_addParrot 10 = .ok (.aload_n 0, 1) := by decide +kernel
theorem dX0_addParrot_11 : decode cX0_addParrot 11 = .ok (.getfield 19, 3) := by decide +kernel
theorem dX0_addParrot_14 : decode cX0_addParrot 14 = .ok (.aload_n 0, 1) := by decide +kernel
theorem dX0_addParrot_15 : decode cX0_addParrot 15 = .ok (.getfield 28, 3) := by decide +kernel
theorem dX0_addParrot_18 : decode cX0_addParrot 18 = .ok (.iconst 0, 1) := by decide +kernel
theorem dX0_addParrot_19 : decode cX0_addParrot 19 = .ok (.iastore, 1) := by decide +kernel
theorem dX0_addParrot_20 : decode cX0_addParrot 20 = .ok (.aload_n 0, 1) := by decide +kernel
theorem dX0_addParrot_21 : decode cX0_addParrot 21 = .ok (.getfield 22, 3) := by decide +kernel
theorem dX0_addParrot_24 : decode cX0_addParrot 24 = .ok (.aload_n 0, 1) := by decide +kernel
theorem dX0_addParrot_25 : decode cX0_addParrot 25 = .ok (.getfield 28, 3) := by decide +kernel
theorem dX0_addParrot_28 : decode cX0_addParrot 28 = .ok (.iconst 0, 1) := by decide +kernel
theorem dX0_addParrot_29 : decode cX0_addParrot 29 = .ok (.iastore, 1) := by decide +kernel
theorem dX0_addParrot_30 : decode cX0_addParrot 30 = .ok (.aload_n 0, 1) := by decide +kernel
theorem dX0_addParrot_31 : decode cX0_addParrot 31 = .ok (.dup, 1) := by decide +kernel
theorem dX0_addParrot_32 : decode cX0_addParrot 32 = .ok (.getfield 28, 3) := by decide +kernel
theorem dX0_addParrot_35 : decode cX0_addParrot 35 = .ok (.iconst 1, 1) := by decide +kernel
theorem dX0_addParrot_36 : decode cX0_addParrot 36 = .ok (.iadd, 1) := by decide +kernel
theorem dX0_addParrot_37 : decode cX0_addParrot 37 = .ok (.putfield 28, 3) := by decide +kernel
theorem dX0_addParrot_40 : decode cX0_addParrot 40 = .ok (.return_, 1) := by decide +kernel
abbrev rmX0_addParrot : Room := { frames := 0, cells := 0, slots := 0, locals := 0 }
def opX0_addParrot (po : Unit → px_St → Prop) : List (Nat × px_Op) := [
  (0, px_al 1 0),
  (1, px_get dC 4 0 3),
  (4, px_al 5 0),
  (5, px_get dC 8 0 0),
  (8, px_il 9 1),
  (9, px_ast dC 10 0 (fun x => x)),
  (10, px_al 11 0),
  (11, px_get dC 14 0 4),
  (14, px_al 15 0),
  (15, px_get dC 18 0 0),
  (18, px_push 19 (.int 0)),
  (19, px_ast dC 20 0 (fun x => x)),
  (20, px_al 21 0),
  (21, px_get dC 24 0 5),
  (24, px_al 25 0),
  (25, px_get dC 28 0 0),
  (28, px_push 29 (.int 0)),
  (29, px_ast dC 30 0 (fun x => x)),
  (30, px_al 31 0),
  (31, px_dup 32),
  (32, px_get dC 35 0 0),
  (35, px_push 36 (.int 1)),
  (36, px_bin 37 (fun x y => x + y)),
  (37, px_put dC 40 0 0 .int),
  (40, px_vret po)]
set_option maxRecDepth 100000 in
set_option maxHeartbeats 4000000 in
theorem okX0_addParrot : ∀ (po : Unit → px_St → Prop) (i pc : Nat) (op : px_Op), (opX0_addParrot po)[i]? = some (pc, op) → px_Snd (cX0_addParrot, 2, RX0, Cond.code yX0_addParrot cX0_addParrot 2 none :: wdC, none, rmX0_addParrot, dC) px_vV po pc op := by
  intro po
  unfold opX0_addParrot
  refine px_ok_cons (ps_aload_n dX0_addParrot_0 rfl) ?_
  refine px_ok_cons (fgX0_15 dX0_addParrot_1) ?_
  refine px_ok_cons (ps_aload_n dX0_addParrot_4 rfl) ?_
  refine px_ok_cons (fgX0_28 dX0_addParrot_5) ?_
  refine px_ok_cons (ps_iload_n dX0_addParrot_8 rfl) ?_
  refine px_ok_cons (ps_iastore dX0_addParrot_9) ?_
  refine px_ok_cons (ps_aload_n dX0_addParrot_10 rfl) ?_
  refine px_ok_cons (fgX0_19 dX0_addParrot_11) ?_
  refine px_ok_cons (ps_aload_n dX0_addParrot_14 rfl) ?_
  refine px_ok_cons (fgX0_28 dX0_addParrot_15) ?_
  refine px_ok_cons (ps_iconst dX0_addParrot_18 (by decide)) ?_
  refine px_ok_cons (ps_iastore dX0_addParrot_19) ?_
  refine px_ok_cons (ps_aload_n dX0_addParrot_20 rfl) ?_
  refine px_ok_cons (fgX0_22 dX0_addParrot_21) ?_
  refine px_ok_cons (ps_aload_n dX0_addParrot_24 rfl) ?_
  refine px_ok_cons (fgX0_28 dX0_addParrot_25) ?_
  refine px_ok_cons (ps_iconst dX0_addParrot_28 (by decide)) ?_
  refine px_ok_cons (ps_iastore dX0_addParrot_29) ?_
  refine px_ok_cons (ps_aload_n dX0_addParrot_30 rfl) ?_
  refine px_ok_cons (ps_dup dX0_addParrot_31) ?_
  refine px_ok_cons (fgX0_28 dX0_addParrot_32) ?_
  refine px_ok_cons (ps_iconst dX0_addParrot_35 (by decide)) ?_
  refine px_ok_cons (ps_iadd dX0_addParrot_36) ?_
  refine px_ok_cons (fpX0_28 dX0_addParrot_37) ?_
  refine px_ok_cons (ps_return rfl dX0_addParrot_40) ?_
  exact px_ok_nil
set_option maxRecDepth 100000 in
set_option maxHeartbeats 4000000 in
theorem sgX0_addParrot_0 {po : Unit → px_St → Prop} {G : px_K} (hG : px_cl (opX0_addParrot po) G) (v0 : Nat) (hv0 : px_av v0) (v1 : Int32) (σ : px_St)
    (H : vp_in (σ.1 v0 0) 5 ∧ vp_in ((px_up σ (v0 + 1) (σ.1 v0 0).toNatClampNeg v1).1 v0 0) 5 ∧ vp_in ((px_up (px_up σ (v0 + 1) (σ.1 v0 0).toNatClampNeg v1) (v0 + 2) ((px_up σ (v0 + 1) (σ.1 v0 0).toNatClampNeg v1).1 v0 0).toNatClampNeg (0 : Int32)).1 v0 0) 5 ∧ po () (px_up (px_up (px_up (px_up σ (v0 + 1) (σ.1 v0 0).toNatClampNeg v1) (v0 + 2) ((px_up σ (v0 + 1) (σ.1 v0 0).toNatClampNeg v1).1 v0 0).toNatClampNeg (0 : Int32)) (v0 + 3) ((px_up (px_up σ (v0 + 1) (σ.1 v0 0).toNatClampNeg v1) (v0 + 2) ((px_up σ (v0 + 1) (σ.1 v0 0).toNatClampNeg v1).1 v0 0).toNatClampNeg (0 : Int32)).1 v0 0).toNatClampNeg (0 : Int32)) v0 0 (((px_up (px_up (px_up σ (v0 + 1) (σ.1 v0 0).toNatClampNeg v1) (v0 + 2) ((px_up σ (v0 + 1) (σ.1 v0 0).toNatClampNeg v1).1 v0 0).toNatClampNeg (0 : Int32)) (v0 + 3) ((px_up (px_up σ (v0 + 1) (σ.1 v0 0).toNatClampNeg v1) (v0 + 2) ((px_up σ (v0 + 1) (σ.1 v0 0).toNatClampNeg v1).1 v0 0).toNatClampNeg (0 : Int32)).1 v0 0).toNatClampNeg (0 : Int32)).1 v0 0) + (1 : Int32)))) :
    G 0 (px_ent 2 [.ref v0, .int v1]) [] σ := by
  refine hG.1 0 _ _ rfl _ _ _ ?_
  refine hG.1 1 _ _ rfl _ _ _ ?_
  refine ⟨(av_s0 hv0), ?_⟩
  refine hG.1 2 _ _ rfl _ _ _ ?_
  refine hG.1 3 _ _ rfl _ _ _ ?_
  refine ⟨(av_s0 hv0), ?_⟩
  refine hG.1 4 _ _ rfl _ _ _ ?_
  refine hG.1 5 _ _ rfl _ _ _ ?_
  refine ⟨(av_s1 hv0), by rw [(av_l1 hv0)]; exact H.1, ?_⟩
  replace H := H.2
  refine hG.1 6 _ _ rfl _ _ _ ?_
  refine hG.1 7 _ _ rfl _ _ _ ?_
  refine ⟨(av_s0 hv0), ?_⟩
  refine hG.1 8 _ _ rfl _ _ _ ?_
  refine hG.1 9 _ _ rfl _ _ _ ?_
  refine ⟨(av_s0 hv0), ?_⟩
  refine hG.1 10 _ _ rfl _ _ _ ?_
  refine hG.1 11 _ _ rfl _ _ _ ?_
  refine ⟨(av_s2 hv0), by rw [(av_l2 hv0)]; exact H.1, ?_⟩
  replace H := H.2
  refine hG.1 12 _ _ rfl _ _ _ ?_
  refine hG.1 13 _ _ rfl _ _ _ ?_
  refine ⟨(av_s0 hv0), ?_⟩
  refine hG.1 14 _ _ rfl _ _ _ ?_
  refine hG.1 15 _ _ rfl _ _ _ ?_
  refine ⟨(av_s0 hv0), ?_⟩
  refine hG.1 16 _ _ rfl _ _ _ ?_
  refine hG.1 17 _ _ rfl _ _ _ ?_
  refine ⟨(av_s3 hv0), by rw [(av_l3 hv0)]; exact H.1, ?_⟩
  replace H := H.2
  refine hG.1 18 _ _ rfl _ _ _ ?_
  refine hG.1 19 _ _ rfl _ _ _ ?_
  refine hG.1 20 _ _ rfl _ _ _ ?_
  refine ⟨(av_s0 hv0), ?_⟩
  refine hG.1 21 _ _ rfl _ _ _ ?_
  refine hG.1 22 _ _ rfl _ _ _ ?_
  refine hG.1 23 _ _ rfl _ _ _ ?_
  refine ⟨(av_s0 hv0), ⟨rfl, rfl⟩, ?_⟩
  refine hG.1 24 _ _ rfl _ _ _ ?_
  exact H
set_option maxRecDepth 100000 in
set_option maxHeartbeats 4000000 in
theorem hhX0_addParrot (g : gtX0_addParrot) (v0 : Nat) (hv0 : px_av v0) (v1 : Int32) (σ : px_St) (h : qrX0_addParrot g v0 v1 σ) (G : px_K) (hG : px_cl (opX0_addParrot (qoX0_addParrot g v0 v1 σ)) G) : G 0 (px_ent 2 [.ref v0, .int v1]) [] σ := by
  obtain ⟨V, kd⟩ := g
  obtain ⟨hV, hw, h5, rfl⟩ := h
  refine sgX0_addParrot_0 hG v0 hv0 _ σ ?_
  have e1 : ∀ (τ : px_St) (t j : Nat) (x : Int32), 1 ≤ t → (px_up τ (v0 + t) j x).1 v0 = τ.1 v0 := fun τ t j x ht => px_up_n (by omega)
  rw [e1 _ 3 _ _ (by omega), e1 _ 2 _ _ (by omega), e1 _ 1 _ _ (by omega), hV.1.1, nI_clamp (by omega), nI_1]
  have hin : vp_in (nI V.1) 5 := vp_in_nI h5 (by decide)
  refine ⟨hin, hin, hin, ⟨⟨?_, ?_, ?_⟩, fun q hq => ?_⟩, fun k hk => ?_, rfl⟩
  · rw [px_up_at, if_pos ⟨rfl, rfl⟩]; rfl
  · rw [px_up_at, if_neg (by omega), px_up_n (by omega), px_up_n (by omega), px_up_n (by omega)]; exact hV.1.2.1
  · rw [px_up_at, if_neg (by omega), px_up_n (by omega), px_up_n (by omega), px_up_n (by omega)]; exact hV.1.2.2
  · have hq' : q < V.1 + 1 := hq
    show av_par _ v0 q (if q = V.1 then (kd, 0, []) else V.2.2.2 q)
    by_cases hqe : q = V.1
    · rw [if_pos hqe, hqe]
      refine ⟨?_, ?_, ?_, fun i x hx => ?_⟩
      · rw [px_up_n (by omega), px_up_n (by omega), px_up_n (by omega), px_up_at, if_pos ⟨rfl, rfl⟩]
      · rw [px_up_n (by omega), px_up_n (by omega), px_up_at, if_pos ⟨rfl, rfl⟩]; rfl
      · rw [px_up_n (by omega), px_up_at, if_pos ⟨rfl, rfl⟩]; rfl
      · simp at hx
    · rw [if_neg hqe]
      refine (hV.2 q (by omega)).kept (hw.2.2.2 q (by omega)).2.1 ?_ ?_ ?_ (fun t ht => ?_)
      · rw [px_up_n (by omega), px_up_n (by omega), px_up_n (by omega), px_up_at, if_neg (by omega)]
      · rw [px_up_n (by omega), px_up_n (by omega), px_up_at, if_neg (by omega), px_up_n (by omega)]
      · rw [px_up_n (by omega), px_up_at, if_neg (by omega), px_up_n (by omega), px_up_n (by omega)]
      · rw [px_up_n (by omega), px_up_n (by omega), px_up_n (by omega), px_up_n (by omega)]
  · rw [px_up_n (by omega), px_up_n (by omega), px_up_n (by omega), px_up_n (by omega)]
theorem mX0_addParrot (g : gtX0_addParrot) : px_Met dC yX0_addParrot (Cond.code yX0_addParrot cX0_addParrot 2 none :: wdC) rmX0_addParrot px_vV (prX0_addParrot g) (poX0_addParrot g) :=
  px_met (Z := (cX0_addParrot, 2, RX0, Cond.code yX0_addParrot cX0_addParrot 2 none :: wdC, none, rmX0_addParrot, dC)) opX0_addParrot (by decide) rfl rfl okX0_addParrot (fun As σ h => by obtain ⟨v0, v1, rfl, hv0, h⟩ := h; exact Nat.le_of_ble_eq_true rfl) (fun As σ h G hG => by obtain ⟨v0, v1, rfl, hv0, h⟩ := h; exact hhX0_addParrot g v0 hv0 v1 σ h G hG)
def pv_rm (V : pv_V) (p i : Nat) : pv_V := (V.1, V.2.1, V.2.2.1, fun q => if p ≤ q ∧ q + 1 < i then V.2.2.2 (q + 1) else V.2.2.2 q)
/-- a parrot is taken away -/
def pv_off (V : pv_V) (p : Nat) : pv_V := (V.1 - 1, V.2.1, V.2.2.1, fun q => if q < p then V.2.2.2 q else V.2.2.2 (q + 1))
abbrev gtX0_removeParrot : Type := pv_V × Nat
def qrX0_removeParrot : gtX0_removeParrot → Nat → Int32 → px_St → Prop
  | (V, p), a, v1, σ => av_is σ a V ∧ pv_w V ∧ p < V.1 ∧ v1 = nI p
def qoX0_removeParrot : gtX0_removeParrot → Nat → Int32 → px_St → Unit → px_St → Prop
  | (V, p), a, _, σ, _, σ' => av_is σ' a (pv_off V p) ∧ px_only a σ σ'
def prX0_removeParrot (g : gtX0_removeParrot) : List Value → px_St → Prop := fun As σ => ∃ v0 : Nat, ∃ v1 : Int32, As = [.ref v0, .int v1] ∧ px_av v0 ∧ qrX0_removeParrot g v0 v1 σ
def poX0_removeParrot (g : gtX0_removeParrot) : List Value → px_St → Unit → px_St → Prop
  | [.ref v0, .int v1], σ, r, σ' => qoX0_removeParrot g v0 v1 σ r σ'
  | _, _, _, _ => False
theorem dX0_removeParrot_0 : decode cX0_removeParrot 0 = .ok (.iload_n 1, 1) := by decide +kernel
theorem dX0_removeParrot_1 : decode cX0_removeParrot 1 = .ok (.iconst 1, 1) := by decide +kernel
theorem dX0_removeParrot_2 : decode cX0_removeParrot 2 = .ok (.iadd, 1) := by decide +kernel
theorem dX0_removeParrot_3 : decode cX0_removeParrot 3 = .ok (.istore_n 2, 1) := by decide +kernel
theorem dX0_removeParrot_4 : decode cX0_removeParrot 4 = .ok (.iload_n 2, 1) := by decide +kernel
theorem dX0_removeParrot_5 : decode cX0_removeParrot 5 = .ok (.aload_n 0, 1) := by decide +kernel
theorem dX0_removeParrot_6 : decode cX0_removeParrot 6 = .ok (.getfield 28, 3) := by decide +kernel
theorem dX0_removeParrot_9 : decode cX0_removeParrot 9 = .ok (.if_icmp .ge 18, 3) := by decide +kernel
theorem dX0_removeParrot_12 : decode cX0_removeParrot 12 = .ok (.aload_n 0, 1) := by decide +kernel
theorem dX0_removeParrot_13 : decode cX0_removeParrot 13 = .ok (.iload_n 2, 1) := by decide +kernel
theorem dX0_removeParrot_14 : decode cX0_removeParrot 14 = .ok (.iconst 1, 1) := by decide +kernel
theorem dX0_removeParrot_15 : decode cX0_removeParrot 15 = .ok (.isub, 1) := by decide +kernel
theorem dX0_removeParrot_16 : decode cX0_removeParrot 16 = .ok (.aload_n 0, 1) := by decide +kernel
theorem dX0_removeParrot_17 : decode cX0_removeParrot 17 = .ok (.iload_n 2, 1) := by decide +kernel
theorem dX0_removeParrot_18 : decode cX0_removeParrot 18 = .ok (.invokevirtual 34, 3) := by decide +kernel
theorem dX0_removeParrot_21 : decode cX0_removeParrot 21 = .ok (.iinc 2 1, 3) := by decide +kernel
theorem dX0_removeParrot_24 : decode cX0_removeParrot 24 = .ok (.goto (-20), 3) := by decide +kernel
theorem dX0_removeParrot_27 : decode cX0_removeParrot 27 = .ok (.aload_n 0, 1) := by decide +kernel
theorem dX0_removeParrot_28 : decode cX0_removeParrot 28 = .ok (.dup, 1) := by decide +kernel
theorem dX0_removeParrot_29 : decode cX0_removeParrot 29 = .ok (.getfield 28, 3) := by decide +kernel
theorem dX0_removeParrot_32 : decode cX0_removeParrot 32 = .ok (.iconst 1, 1) := by decide +kernel
theorem dX0_removeParrot_33 : decode cX0_removeParrot 33 = .ok (.isub, 1) := by decide +kernel
theorem dX0_removeParrot_34 : decode cX0_removeParrot 34 = .ok (.putfield 28, 3) := by decide +kernel
theorem dX0_removeParrot_37 : decode cX0_removeParrot 37 = .ok (.return_, 1) := by decide +kernel
abbrev rmX0_removeParrot : Room := { frames := 2, cells := 0, slots := 0, locals := 83 }
def opX0_removeParrot (po : Unit → px_St → Prop) : List (Nat × px_Op) := [
  (0, px_il 1 1),
  (1, px_push 2 (.int 1)),
  (2, px_bin 3 (fun x y => x + y)),
  (3, px_is 4 2),
  (4, px_il 5 2),
  (5, px_al 6 0),
  (6, px_get dC 9 0 0),
  (9, px_ic 12 27 (fun x y => y ≤ x)),
  (12, px_al 13 0),
  (13, px_il 14 2),
  (14, px_push 15 (.int 1)),
  (15, px_bin 16 (fun x y => x - y)),
  (16, px_al 17 0),
  (17, px_il 18 2),
  (18, px_callV dC 21 0 3 px_vV prX0_copyParrot poX0_copyParrot),
  (21, px_inc 24 2 1),
  (24, px_go 4),
  (27, px_al 28 0),
  (28, px_dup 29),
  (29, px_get dC 32 0 0),
  (32, px_push 33 (.int 1)),
  (33, px_bin 34 (fun x y => x - y)),
  (34, px_put dC 37 0 0 .int),
  (37, px_vret po)]
set_option maxRecDepth 100000 in
set_option maxHeartbeats 4000000 in
theorem okX0_removeParrot : ∀ (po : Unit → px_St → Prop) (i pc : Nat) (op : px_Op), (opX0_removeParrot po)[i]? = some (pc, op) → px_Snd (cX0_removeParrot, 3, RX0, Cond.code yX0_removeParrot cX0_removeParrot 3 none :: wdC, none, rmX0_removeParrot, dC) px_vV po pc op := by
  intro po
  unfold opX0_removeParrot
  refine px_ok_cons (ps_iload_n dX0_removeParrot_0 rfl) ?_
  refine px_ok_cons (ps_iconst dX0_removeParrot_1 (by decide)) ?_
  refine px_ok_cons (ps_iadd dX0_removeParrot_2) ?_
  refine px_ok_cons (ps_istore_n dX0_removeParrot_3 rfl (by decide)) ?_
  refine px_ok_cons (ps_iload_n dX0_removeParrot_4 rfl) ?_
  refine px_ok_cons (ps_aload_n dX0_removeParrot_5 rfl) ?_
  refine px_ok_cons (fgX0_28 dX0_removeParrot_6) ?_
  refine px_ok_cons (ps_icmp_ge dX0_removeParrot_9 (by decide)) ?_
  refine px_ok_cons (ps_aload_n dX0_removeParrot_12 rfl) ?_
  refine px_ok_cons (ps_iload_n dX0_removeParrot_13 rfl) ?_
  refine px_ok_cons (ps_iconst dX0_removeParrot_14 (by decide)) ?_
  refine px_ok_cons (ps_isub dX0_removeParrot_15) ?_
  refine px_ok_cons (ps_aload_n dX0_removeParrot_16 rfl) ?_
  refine px_ok_cons (ps_iload_n dX0_removeParrot_17 rfl) ?_
  refine px_ok_cons (ps_callV mX0_copyParrot (fun _ _ => rfl) (C := RX0) rfl (fun _ _ ht => px_cwV wgC (wdC_0_in _ (List.mem_of_getElem? (i := 19) rfl)) (wdC_0_in _ (List.mem_of_getElem? (i := 20) rfl)) (wdC_0_in _ (List.mem_of_getElem? (i := 21) rfl)) (wdC_0_in _ (List.mem_of_getElem? (i := 22) rfl)) (wdC_0_in _ (List.mem_of_getElem? (i := 13) rfl)) (by decide +kernel) rfl rfl (by decide) ht) dX0_removeParrot_18) ?_
  refine px_ok_cons (ps_iinc dX0_removeParrot_21 (by decide) (by decide)) ?_
  refine px_ok_cons (ps_goto dX0_removeParrot_24 (by decide)) ?_
  refine px_ok_cons (ps_aload_n dX0_removeParrot_27 rfl) ?_
  refine px_ok_cons (ps_dup dX0_removeParrot_28) ?_
  refine px_ok_cons (fgX0_28 dX0_removeParrot_29) ?_
  refine px_ok_cons (ps_iconst dX0_removeParrot_32 (by decide)) ?_
  refine px_ok_cons (ps_isub dX0_removeParrot_33) ?_
  refine px_ok_cons (fpX0_28 dX0_removeParrot_34) ?_
  refine px_ok_cons (ps_return rfl dX0_removeParrot_37) ?_
  exact px_ok_nil
set_option maxRecDepth 100000 in
set_option maxHeartbeats 4000000 in
theorem sgX0_removeParrot_0 {po : Unit → px_St → Prop} {G : px_K} (hG : px_cl (opX0_removeParrot po) G) (v0 : Nat) (hv0 : px_av v0) (v1 : Int32) (σ : px_St)
    (H : G 4 [some (.ref v0), some (.int v1), some (.int (v1 + (1 : Int32)))] [] σ) :
    G 0 (px_ent 3 [.ref v0, .int v1]) [] σ := by
  refine hG.1 0 _ _ rfl _ _ _ ?_
  refine hG.1 1 _ _ rfl _ _ _ ?_
  refine hG.1 2 _ _ rfl _ _ _ ?_
  refine hG.1 3 _ _ rfl _ _ _ ?_
  show G 4 [some (.ref v0), some (.int v1), some (.int (v1 + (1 : Int32)))] [] σ
  exact H
set_option maxRecDepth 100000 in
set_option maxHeartbeats 4000000 in
theorem sgX0_removeParrot_4 {po : Unit → px_St → Prop} {G : px_K} (hG : px_cl (opX0_removeParrot po) G) (v0 : Nat) (hv0 : px_av v0) (v1 : Int32) (v2 : Int32) (σ : px_St)
    (H : (((σ.1 v0 0) ≤ v2) → po () (px_up σ v0 0 ((σ.1 v0 0) - (1 : Int32)))) ∧ (¬ ((σ.1 v0 0) ≤ v2) → ∃ g3 : gtX0_copyParrot, qrX0_copyParrot g3 v0 (v2 - (1 : Int32)) v0 v2 σ ∧ ∀ (r1 : Unit) (σ2 : px_St), qoX0_copyParrot g3 v0 (v2 - (1 : Int32)) v0 v2 σ r1 σ2 → G 4 [some (.ref v0), some (.int v1), some (.int (v2 + 1))] [] σ2)) :
    G 4 [some (.ref v0), some (.int v1), some (.int v2)] [] σ := by
  refine hG.1 4 _ _ rfl _ _ _ ?_
  refine hG.1 5 _ _ rfl _ _ _ ?_
  refine hG.1 6 _ _ rfl _ _ _ ?_
  refine ⟨(av_s0 hv0), ?_⟩
  refine hG.1 7 _ _ rfl _ _ _ ?_
  refine ⟨fun h5 => ?_, fun h5 => ?_⟩
  · replace H := H.1 h5
    refine hG.1 17 _ _ rfl _ _ _ ?_
    refine hG.1 18 _ _ rfl _ _ _ ?_
    refine hG.1 19 _ _ rfl _ _ _ ?_
    refine ⟨(av_s0 hv0), ?_⟩
    refine hG.1 20 _ _ rfl _ _ _ ?_
    refine hG.1 21 _ _ rfl _ _ _ ?_
    refine hG.1 22 _ _ rfl _ _ _ ?_
    refine ⟨(av_s0 hv0), ⟨rfl, rfl⟩, ?_⟩
    refine hG.1 23 _ _ rfl _ _ _ ?_
    exact H
  · replace H := H.2 h5
    refine hG.1 8 _ _ rfl _ _ _ ?_
    refine hG.1 9 _ _ rfl _ _ _ ?_
    refine hG.1 10 _ _ rfl _ _ _ ?_
    refine hG.1 11 _ _ rfl _ _ _ ?_
    refine hG.1 12 _ _ rfl _ _ _ ?_
    refine hG.1 13 _ _ rfl _ _ _ ?_
    refine hG.1 14 _ _ rfl _ _ _ ?_
    obtain ⟨g3, H⟩ := H
    refine ⟨(av_s0 hv0), Nat.le_of_ble_eq_true rfl, g3, ⟨_, _, _, _, rfl, hv0, hv0, H.1⟩, fun r1 σ2 hp4 => ?_⟩
    replace H := H.2 r1 σ2 hp4
    refine hG.1 15 _ _ rfl _ _ _ ?_
    show G 24 [some (.ref v0), some (.int v1), some (.int (v2 + 1))] [] σ2
    refine hG.1 16 _ _ rfl _ _ _ ?_
    exact H
set_option maxRecDepth 100000 in
set_option maxHeartbeats 4000000 in
theorem hhX0_removeParrot (g : gtX0_removeParrot) (v0 : Nat) (hv0 : px_av v0) (v1 : Int32) (σ : px_St) (h : qrX0_removeParrot g v0 v1 σ) (G : px_K) (hG : px_cl (opX0_removeParrot (qoX0_removeParrot g v0 v1 σ)) G) : G 0 (px_ent 3 [.ref v0, .int v1]) [] σ := by
  obtain ⟨V, p⟩ := g
  obtain ⟨hV, hw, hp, rfl⟩ := h
  have h5 := hw.1
  have hlen : ∀ i q, p < i → i ≤ V.1 → q < V.1 → ((pv_rm V p i).2.2.2 q).2.2.length ≤ 6 := by
    intro i q hi hi2 hq
    show (if p ≤ q ∧ q + 1 < i then V.2.2.2 (q + 1) else V.2.2.2 q).2.2.length ≤ 6
    by_cases hc : p ≤ q ∧ q + 1 < i
    · rw [if_pos hc]; exact (hw.2.2.2 (q + 1) (by omega)).2.1
    · rw [if_neg hc]; exact (hw.2.2.2 q hq).2.1
  refine sgX0_removeParrot_0 hG v0 hv0 _ σ ?_
  rw [nI_1]
  have loop : ∀ n i, i + n = V.1 → p < i → ∀ σ', av_is σ' v0 (pv_rm V p i) → px_only v0 σ σ' → G 4 [some (.ref v0), some (.int (nI p)), some (.int (nI i))] [] σ' := by
    intro n
    induction n with
    | zero =>
      intro i hi hpi σ' hm ho
      have e0 : σ'.1 v0 0 = nI V.1 := hm.1.1
      refine sgX0_removeParrot_4 hG v0 hv0 _ _ σ' ⟨fun _ => ⟨⟨⟨?_, ?_, ?_⟩, fun q hq => ?_⟩, ho.tr ⟨fun k hk => px_up_n (by omega), rfl⟩⟩, fun z => absurd ?_ z⟩
      · rw [px_up_at, if_pos ⟨rfl, rfl⟩, e0]
        exact pk_sub (b := 1) (by omega)
      · rw [px_up_at, if_neg (by omega)]; exact hm.1.2.1
      · rw [px_up_at, if_neg (by omega)]; exact hm.1.2.2
      · have hq' : q < V.1 - 1 := hq
        have h1 := hm.2 q (show q < V.1 by omega)
        have e1 : (pv_off V p).2.2.2 q = (pv_rm V p i).2.2.2 q := by
          show (if q < p then V.2.2.2 q else V.2.2.2 (q + 1)) = (if p ≤ q ∧ q + 1 < i then V.2.2.2 (q + 1) else V.2.2.2 q)
          by_cases hc : q < p
          · rw [if_pos hc, if_neg (by omega)]
          · rw [if_neg hc, if_pos (by omega)]
        rw [e1]
        exact h1.kept (hlen i q hpi (by omega) (by omega)) (by rw [px_up_n (by omega)]) (by rw [px_up_n (by omega)]) (by rw [px_up_n (by omega)]) (fun t ht => by rw [px_up_n (by omega)])
      · rw [e0]; exact nI_le (by omega) (by omega)
    | succ n ih =>
      intro i hi hpi σ' hm ho
      have e0 : σ'.1 v0 0 = nI V.1 := hm.1.1
      refine sgX0_removeParrot_4 hG v0 hv0 _ _ σ' ⟨fun z => absurd z ?_, fun _ => ?_⟩
      · rw [e0]; exact nI_ge (by omega) (by omega)
      · have ei : (pv_rm V p i).2.2.2 i = V.2.2.2 i := by
          show (if p ≤ i ∧ i + 1 < i then V.2.2.2 (i + 1) else V.2.2.2 i) = V.2.2.2 i
          rw [if_neg (by omega)]
        refine ⟨(V.2.2.2 i, i - 1, i), ⟨by rw [← ei]; exact hm.2 i (show i < V.1 by omega), (hw.2.2.2 i (by omega)).2.1, by omega, by omega, pk_sub (b := 1) (by omega), rfl⟩, fun _ σ2 hq => ?_⟩
        obtain ⟨q1, q2⟩ := hq
        have e2 : pv_at (pv_rm V p i) (i - 1) (V.2.2.2 i) = pv_rm V p (i + 1) := by
          unfold pv_at pv_rm
          congr 3
          funext q
          simp only
          by_cases hqe : q = i - 1
          · rw [if_pos hqe, if_pos (by omega), hqe, show i - 1 + 1 = i by omega]
          · rw [if_neg hqe]
            by_cases hc : p ≤ q ∧ q + 1 < i
            · rw [if_pos hc, if_pos (by omega)]
            · rw [if_neg hc, if_neg (by omega)]
        rw [nI_1]
        refine ih (i + 1) (by omega) (by omega) σ2 ?_ (ho.tr q2.only)
        rw [← e2]
        exact av_mod hm (fun q hq => hlen i q hpi (by omega) hq) q2 q1
  refine loop (V.1 - (p + 1)) (p + 1) (by omega) (by omega) σ ?_ px_only.rf
  have e3 : pv_rm V p (p + 1) = V := by
    unfold pv_rm
    have e : (fun q => if p ≤ q ∧ q + 1 < p + 1 then V.2.2.2 (q + 1) else V.2.2.2 q) = V.2.2.2 := by
      funext q
      rw [if_neg (by omega)]
    rw [e]
  rw [e3]
  exact hV
theorem mX0_removeParrot (g : gtX0_removeParrot) : px_Met dC yX0_removeParrot (Cond.code yX0_removeParrot cX0_removeParrot 3 none :: wdC) rmX0_removeParrot px_vV (prX0_removeParrot g) (poX0_removeParrot g) :=
  px_met (Z := (cX0_removeParrot, 3, RX0, Cond.code yX0_removeParrot cX0_removeParrot 3 none :: wdC, none, rmX0_removeParrot, dC)) opX0_removeParrot (by decide) rfl rfl okX0_removeParrot (fun As σ h => by obtain ⟨v0, v1, rfl, hv0, h⟩ := h; exact Nat.le_of_ble_eq_true rfl) (fun As σ h G hG => by obtain ⟨v0, v1, rfl, hv0, h⟩ := h; exact hhX0_removeParrot g v0 hv0 v1 σ h G hG)
theorem foldl_take {β : Type} (f : β → Nat → β) (m : List Nat) (b : β) (k x : Nat) (h : m[k]? = some x) : (m.take (k + 1)).foldl f b = f ((m.take k).foldl f b) x := by
  rw [List.take_add_one, h, List.foldl_append]
  rfl
abbrev gtX0_soundsKnown : Type := pv_V × Nat
def qrX0_soundsKnown : gtX0_soundsKnown → Nat → Int32 → px_St → Prop
  | (V, p), a, v1, σ => av_is σ a V ∧ pv_w V ∧ p < V.1 ∧ v1 = nI p
def qoX0_soundsKnown : gtX0_soundsKnown → Nat → Int32 → px_St → Int32 → px_St → Prop
  | (V, p), _, _, σ, r, σ' => σ' = σ ∧ r = pv_bits (V.2.2.2 p).2.2 0
def prX0_soundsKnown (g : gtX0_soundsKnown) : List Value → px_St → Prop := fun As σ => ∃ v0 : Nat, ∃ v1 : Int32, As = [.ref v0, .int v1] ∧ px_av v0 ∧ qrX0_soundsKnown g v0 v1 σ
def poX0_soundsKnown (g : gtX0_soundsKnown) : List Value → px_St → Int32 → px_St → Prop
  | [.ref v0, .int v1], σ, r, σ' => qoX0_soundsKnown g v0 v1 σ r σ'
  | _, _, _, _ => False
theorem dX0_soundsKnown_0 : decode cX0_soundsKnown 0 = .ok (.iconst 0, 1) := by decide +kernel
theorem dX0_soundsKnown_1 : decode cX0_soundsKnown 1 = .ok (.istore_n 2, 1) := by decide +kernel
theorem dX0_soundsKnown_2 : decode cX0_soundsKnown 2 = .ok (.iconst 0, 1) := by decide +kernel
theorem dX0_soundsKnown_3 : decode cX0_soundsKnown 3 = .ok (.istore_n 3, 1) := by decide +kernel
theorem dX0_soundsKnown_4 : decode cX0_soundsKnown 4 = .ok (.iload_n 3, 1) := by decide +kernel
theorem dX0_soundsKnown_5 : decode cX0_soundsKnown 5 = .ok (.aload_n 0, 1) := by decide +kernel
theorem dX0_soundsKnown_6 : decode cX0_soundsKnown 6 = .ok (.getfield 19, 3) := by decide +kernel
theorem dX0_soundsKnown_9 : decode cX0_soundsKnown 9 = .ok (.iload_n 1, 1) := by decide +kernel
theorem dX0_soundsKnown_10 : decode cX0_soundsKnown 10 = .ok (.iaload, 1) := by decide +kernel
theorem dX0_soundsKnown_11 : decode cX0_soundsKnown 11 = .ok (.if_icmp .ge 20, 3) := by decide +kernel
theorem dX0_soundsKnown_14 : decode cX0_soundsKnown 14 = .ok (.iload_n 2, 1) := by decide +kernel
theorem dX0_soundsKnown_15 : decode cX0_soundsKnown 15 = .ok (.iconst 1, 1) := by decide +kernel
theorem dX0_soundsKnown_16 : decode cX0_soundsKnown 16 = .ok (.aload_n 0, 1) := by decide +kernel
theorem dX0_soundsKnown_17 : decode cX0_soundsKnown 17 = .ok (.iload_n 1, 1) := by decide +kernel
theorem dX0_soundsKnown_18 : decode cX0_soundsKnown 18 = .ok (.iload_n 3, 1) := by decide +kernel
theorem dX0_soundsKnown_19 : decode cX0_soundsKnown 19 = .ok (.invokevirtual 48, 3) := by decide +kernel
theorem dX0_soundsKnown_22 : decode cX0_soundsKnown 22 = .ok (.ishl, 1) := by decide +kernel
theorem dX0_soundsKnown_23 : decode cX0_soundsKnown 23 = .ok (.ior, 1) := by decide +kernel
theorem dX0_soundsKnown_24 : decode cX0_soundsKnown 24 = .ok (.istore_n 2, 1) := by decide +kernel
theorem dX0_soundsKnown_25 : decode cX0_soundsKnown 25 = .ok (.iinc 3 1, 3) := by decide +kernel
theorem dX0_soundsKnown_28 : decode cX0_soundsKnown 28 = .ok (.goto (-24), 3) := by decide +kernel
theorem dX0_soundsKnown_31 : decode cX0_soundsKnown 31 = .ok (.iload_n 2, 1) := by decide +kernel
theorem dX0_soundsKnown_32 : decode cX0_soundsKnown 32 = .ok (.ireturn, 1) := by decide +kernel
abbrev rmX0_soundsKnown : Room := { frames := 1, cells := 0, slots := 0, locals := 22 }
def opX0_soundsKnown (po : Int32 → px_St → Prop) : List (Nat × px_Op) := [
  (0, px_push 1 (.int 0)),
  (1, px_is 2 2),
  (2, px_push 3 (.int 0)),
  (3, px_is 4 3),
  (4, px_il 5 3),
  (5, px_al 6 0),
  (6, px_get dC 9 0 4),
  (9, px_il 10 1),
  (10, px_ald dC 11 0),
  (11, px_ic 14 31 (fun x y => y ≤ x)),
  (14, px_il 15 2),
  (15, px_push 16 (.int 1)),
  (16, px_al 17 0),
  (17, px_il 18 1),
  (18, px_il 19 3),
  (19, px_callV dC 22 0 2 px_vI prX0_soundAt poX0_soundAt),
  (22, px_bin 23 (fun x y => x <<< (y &&& 31))),
  (23, px_bin 24 (fun x y => x ||| y)),
  (24, px_is 25 2),
  (25, px_inc 28 3 1),
  (28, px_go 4),
  (31, px_il 32 2),
  (32, px_iret (.int) po)]
set_option maxRecDepth 100000 in
set_option maxHeartbeats 4000000 in
theorem okX0_soundsKnown : ∀ (po : Int32 → px_St → Prop) (i pc : Nat) (op : px_Op), (opX0_soundsKnown po)[i]? = some (pc, op) → px_Snd (cX0_soundsKnown, 4, RX0, Cond.code yX0_soundsKnown cX0_soundsKnown 4 (some .int) :: wdC, (some .int), rmX0_soundsKnown, dC) px_vI po pc op := by
  intro po
  unfold opX0_soundsKnown
  refine px_ok_cons (ps_iconst dX0_soundsKnown_0 (by decide)) ?_
  refine px_ok_cons (ps_istore_n dX0_soundsKnown_1 rfl (by decide)) ?_
  refine px_ok_cons (ps_iconst dX0_soundsKnown_2 (by decide)) ?_
  refine px_ok_cons (ps_istore_n dX0_soundsKnown_3 rfl (by decide)) ?_
  refine px_ok_cons (ps_iload_n dX0_soundsKnown_4 rfl) ?_
  refine px_ok_cons (ps_aload_n dX0_soundsKnown_5 rfl) ?_
  refine px_ok_cons (fgX0_19 dX0_soundsKnown_6) ?_
  refine px_ok_cons (ps_iload_n dX0_soundsKnown_9 rfl) ?_
  refine px_ok_cons (ps_iaload dX0_soundsKnown_10) ?_
  refine px_ok_cons (ps_icmp_ge dX0_soundsKnown_11 (by decide)) ?_
  refine px_ok_cons (ps_iload_n dX0_soundsKnown_14 rfl) ?_
  refine px_ok_cons (ps_iconst dX0_soundsKnown_15 (by decide)) ?_
  refine px_ok_cons (ps_aload_n dX0_soundsKnown_16 rfl) ?_
  refine px_ok_cons (ps_iload_n dX0_soundsKnown_17 rfl) ?_
  refine px_ok_cons (ps_iload_n dX0_soundsKnown_18 rfl) ?_
  refine px_ok_cons (ps_callV mX0_soundAt (fun _ _ => rfl) (C := RX0) rfl (fun _ _ ht => px_cwV wgC (wdC_0_in _ (List.mem_of_getElem? (i := 31) rfl)) (wdC_0_in _ (List.mem_of_getElem? (i := 32) rfl)) (wdC_0_in _ (List.mem_of_getElem? (i := 33) rfl)) (wdC_0_in _ (List.mem_of_getElem? (i := 22) rfl)) (wdC_0_in _ (List.mem_of_getElem? (i := 26) rfl)) (by decide +kernel) rfl rfl (by decide) ht) dX0_soundsKnown_19) ?_
  refine px_ok_cons (ps_ishl dX0_soundsKnown_22) ?_
  refine px_ok_cons (ps_ior dX0_soundsKnown_23) ?_
  refine px_ok_cons (ps_istore_n dX0_soundsKnown_24 rfl (by decide)) ?_
  refine px_ok_cons (ps_iinc dX0_soundsKnown_25 (by decide) (by decide)) ?_
  refine px_ok_cons (ps_goto dX0_soundsKnown_28 (by decide)) ?_
  refine px_ok_cons (ps_iload_n dX0_soundsKnown_31 rfl) ?_
  refine px_ok_cons (ps_ireturn rfl dX0_soundsKnown_32) ?_
  exact px_ok_nil
set_option maxRecDepth 100000 in
set_option maxHeartbeats 4000000 in
theorem sgX0_soundsKnown_0 {po : Int32 → px_St → Prop} {G : px_K} (hG : px_cl (opX0_soundsKnown po) G) (v0 : Nat) (hv0 : px_av v0) (v1 : Int32) (σ : px_St)
    (H : G 4 [some (.ref v0), some (.int v1), some (.int (0 : Int32)), some (.int (0 : Int32))] [] σ) :
    G 0 (px_ent 4 [.ref v0, .int v1]) [] σ := by
  refine hG.1 0 _ _ rfl _ _ _ ?_
  refine hG.1 1 _ _ rfl _ _ _ ?_
  show G 2 [some (.ref v0), some (.int v1), some (.int (0 : Int32)), none] [] σ
  refine hG.1 2 _ _ rfl _ _ _ ?_
  refine hG.1 3 _ _ rfl _ _ _ ?_
  show G 4 [some (.ref v0), some (.int v1), some (.int (0 : Int32)), some (.int (0 : Int32))] [] σ
  exact H
set_option maxRecDepth 100000 in
set_option maxHeartbeats 4000000 in
theorem sgX0_soundsKnown_4 {po : Int32 → px_St → Prop} {G : px_K} (hG : px_cl (opX0_soundsKnown po) G) (v0 : Nat) (hv0 : px_av v0) (v1 : Int32) (v2 : Int32) (v3 : Int32) (σ : px_St)
    (H : vp_in v1 5 ∧ (((σ.1 (v0 + 2) v1.toNatClampNeg) ≤ v3) → po v2 σ) ∧ (¬ ((σ.1 (v0 + 2) v1.toNatClampNeg) ≤ v3) → ∃ g3 : gtX0_soundAt, qrX0_soundAt g3 v0 v1 v3 σ ∧ ∀ (r1 : Int32) (σ2 : px_St), qoX0_soundAt g3 v0 v1 v3 σ r1 σ2 → G 4 [some (.ref v0), some (.int v1), some (.int (v2 ||| ((1 : Int32) <<< (r1 &&& 31)))), some (.int (v3 + 1))] [] σ2)) :
    G 4 [some (.ref v0), some (.int v1), some (.int v2), some (.int v3)] [] σ := by
  refine hG.1 4 _ _ rfl _ _ _ ?_
  refine hG.1 5 _ _ rfl _ _ _ ?_
  refine hG.1 6 _ _ rfl _ _ _ ?_
  refine ⟨(av_s0 hv0), ?_⟩
  refine hG.1 7 _ _ rfl _ _ _ ?_
  refine hG.1 8 _ _ rfl _ _ _ ?_
  refine ⟨(av_s2 hv0), by rw [(av_l2 hv0)]; exact H.1, ?_⟩
  replace H := H.2
  refine hG.1 9 _ _ rfl _ _ _ ?_
  refine ⟨fun h5 => ?_, fun h5 => ?_⟩
  · replace H := H.1 h5
    refine hG.1 21 _ _ rfl _ _ _ ?_
    refine hG.1 22 _ _ rfl _ _ _ ?_
    exact ⟨rfl, H⟩
  · replace H := H.2 h5
    refine hG.1 10 _ _ rfl _ _ _ ?_
    refine hG.1 11 _ _ rfl _ _ _ ?_
    refine hG.1 12 _ _ rfl _ _ _ ?_
    refine hG.1 13 _ _ rfl _ _ _ ?_
    refine hG.1 14 _ _ rfl _ _ _ ?_
    refine hG.1 15 _ _ rfl _ _ _ ?_
    obtain ⟨g3, H⟩ := H
    refine ⟨(av_s0 hv0), Nat.le_of_ble_eq_true rfl, g3, ⟨_, _, _, rfl, hv0, H.1⟩, fun r1 σ2 hp4 => ?_⟩
    replace H := H.2 r1 σ2 hp4
    refine hG.1 16 _ _ rfl _ _ _ ?_
    refine hG.1 17 _ _ rfl _ _ _ ?_
    refine hG.1 18 _ _ rfl _ _ _ ?_
    show G 25 [some (.ref v0), some (.int v1), some (.int (v2 ||| ((1 : Int32) <<< (r1 &&& 31)))), some (.int v3)] [] σ2
    refine hG.1 19 _ _ rfl _ _ _ ?_
    show G 28 [some (.ref v0), some (.int v1), some (.int (v2 ||| ((1 : Int32) <<< (r1 &&& 31)))), some (.int (v3 + 1))] [] σ2
    refine hG.1 20 _ _ rfl _ _ _ ?_
    exact H
set_option maxRecDepth 100000 in
set_option maxHeartbeats 4000000 in
theorem hhX0_soundsKnown (g : gtX0_soundsKnown) (v0 : Nat) (hv0 : px_av v0) (v1 : Int32) (σ : px_St) (h : qrX0_soundsKnown g v0 v1 σ) (G : px_K) (hG : px_cl (opX0_soundsKnown (qoX0_soundsKnown g v0 v1 σ)) G) : G 0 (px_ent 4 [.ref v0, .int v1]) [] σ := by
  obtain ⟨V, p⟩ := g
  obtain ⟨hV, hw, hp, rfl⟩ := h
  obtain ⟨hk3, hl, hx9⟩ := hw.2.2.2 p hp
  have h5 := hw.1
  obtain ⟨g1, g2, g3, g4⟩ := hV.2 p hp
  refine sgX0_soundsKnown_0 hG v0 hv0 _ σ ?_
  have loop : ∀ n k, k + n = (V.2.2.2 p).2.2.length → G 4 [some (.ref v0), some (.int (nI p)), some (.int (pv_bits ((V.2.2.2 p).2.2.take k) 0)), some (.int (nI k))] [] σ := by
    intro n
    induction n with
    | zero =>
      intro k hk
      refine sgX0_soundsKnown_4 hG v0 hv0 _ _ _ σ ?_
      rw [nI_clamp (by omega), g2]
      refine ⟨vp_in_nI (by omega) (by decide), fun _ => ⟨rfl, ?_⟩, fun z => absurd (nI_le (by omega) (by omega)) z⟩
      rw [List.take_of_length_le (by omega)]
    | succ n ih =>
      intro k hk
      have hkl : k < (V.2.2.2 p).2.2.length := by omega
      refine sgX0_soundsKnown_4 hG v0 hv0 _ _ _ σ ?_
      rw [nI_clamp (by omega), g2]
      refine ⟨vp_in_nI (by omega) (by decide), fun z => absurd z (nI_ge (by omega) (by omega)), fun _ => ⟨(V, p, k), ⟨hV, hw, hp, hkl, rfl, rfl⟩, fun r σ2 hq => ?_⟩⟩
      obtain ⟨rfl, rfl⟩ := hq
      have hx : (V.2.2.2 p).2.2[k]? = some ((V.2.2.2 p).2.2.getD k 0) := by rw [List.getD_eq_getElem?_getD, List.getElem?_eq_getElem hkl]; rfl
      have e := ih (k + 1) (by omega)
      unfold pv_bits at e ⊢
      rw [foldl_take _ _ _ _ _ hx, ← nI_1] at e
      exact e
  exact loop _ 0 (Nat.zero_add _)
theorem mX0_soundsKnown (g : gtX0_soundsKnown) : px_Met dC yX0_soundsKnown (Cond.code yX0_soundsKnown cX0_soundsKnown 4 (some .int) :: wdC) rmX0_soundsKnown px_vI (prX0_soundsKnown g) (poX0_soundsKnown g) :=
  px_met (Z := (cX0_soundsKnown, 4, RX0, Cond.code yX0_soundsKnown cX0_soundsKnown 4 (some .int) :: wdC, (some .int), rmX0_soundsKnown, dC)) opX0_soundsKnown (by decide) rfl rfl okX0_soundsKnown (fun As σ h => by obtain ⟨v0, v1, rfl, hv0, h⟩ := h; exact Nat.le_of_ble_eq_true rfl) (fun As σ h G hG => by obtain ⟨v0, v1, rfl, hv0, h⟩ := h; exact hhX0_soundsKnown g v0 hv0 v1 σ h G hG)
abbrev gtX0_knowers : Type := pv_V × Nat
def qrX0_knowers : gtX0_knowers → Nat → Int32 → px_St → Prop
  | (V, s), a, v1, σ => av_is σ a V ∧ pv_w V ∧ s ≤ 9 ∧ v1 = nI s
def qoX0_knowers : gtX0_knowers → Nat → Int32 → px_St → Int32 → px_St → Prop
  | (V, s), _, _, σ, r, σ' => σ' = σ ∧ r = pv_knowers V s V.1
def prX0_knowers (g : gtX0_knowers) : List Value → px_St → Prop := fun As σ => ∃ v0 : Nat, ∃ v1 : Int32, As = [.ref v0, .int v1] ∧ px_av v0 ∧ qrX0_knowers g v0 v1 σ
def poX0_knowers (g : gtX0_knowers) : List Value → px_St → Int32 → px_St → Prop
  | [.ref v0, .int v1], σ, r, σ' => qoX0_knowers g v0 v1 σ r σ'
  | _, _, _, _ => False
theorem dX0_knowers_0 : decode cX0_knowers 0 = .ok (.iconst 0, 1) := by decide +kernel
theorem dX0_knowers_1 : decode cX0_knowers 1 = .ok (.istore_n 2, 1) := by decide +kernel
theorem dX0_knowers_2 : decode cX0_knowers 2 = .ok (.iconst 0, 1) := by decide +kernel
theorem dX0_knowers_3 : decode cX0_knowers 3 = .ok (.istore_n 3, 1) := by decide +kernel
theorem dX0_knowers_4 : decode cX0_knowers 4 = .ok (.iload_n 3, 1) := by decide +kernel
theorem dX0_knowers_5 : decode cX0_knowers 5 = .ok (.aload_n 0, 1) := by decide +kernel
theorem dX0_knowers_6 : decode cX0_knowers 6 = .ok (.getfield 28, 3) := by decide +kernel
theorem dX0_knowers_9 : decode cX0_knowers 9 = .ok (.if_icmp .ge 24, 3) := by decide +kernel
theorem dX0_knowers_12 : decode cX0_knowers 12 = .ok (.aload_n 0, 1) := by decide +kernel
theorem dX0_knowers_13 : decode cX0_knowers 13 = .ok (.iload_n 3, 1) := by decide +kernel
theorem dX0_knowers_14 : decode cX0_knowers 14 = .ok (.iload_n 1, 1) := by decide +kernel
theorem dX0_knowers_15 : decode cX0_knowers 15 = .ok (.invokevirtual 71, 3) := by decide +kernel
theorem dX0_knowers_18 : decode cX0_knowers 18 = .ok (.ifCond .eq 9, 3) := by decide +kernel
theorem dX0_knowers_21 : decode cX0_knowers 21 = .ok (.iload_n 2, 1) := by decide +kernel
theorem dX0_knowers_22 : decode cX0_knowers 22 = .ok (.iconst 1, 1) := by decide +kernel
theorem dX0_knowers_23 : decode cX0_knowers 23 = .ok (.iload_n 3, 1) := by decide +kernel
theorem dX0_knowers_24 : decode cX0_knowers 24 = .ok (.ishl, 1) := by decide +kernel
theorem dX0_knowers_25 : decode cX0_knowers 25 = .ok (.ior, 1) := by decide +kernel
theorem dX0_knowers_26 : decode cX0_knowers 26 = .ok (.istore_n 2, 1) := by decide +kernel
theorem dX0_knowers_27 : decode cX0_knowers 27 = .ok (.iinc 3 1, 3) := by decide +kernel
theorem dX0_knowers_30 : decode cX0_knowers 30 = .ok (.goto (-26), 3) := by decide +kernel
theorem dX0_knowers_33 : decode cX0_knowers 33 = .ok (.iload_n 2, 1) := by decide +kernel
theorem dX0_knowers_34 : decode cX0_knowers 34 = .ok (.ireturn, 1) := by decide +kernel
abbrev rmX0_knowers : Room := { frames := 1, cells := 0, slots := 0, locals := 24 }
def opX0_knowers (po : Int32 → px_St → Prop) : List (Nat × px_Op) := [
  (0, px_push 1 (.int 0)),
  (1, px_is 2 2),
  (2, px_push 3 (.int 0)),
  (3, px_is 4 3),
  (4, px_il 5 3),
  (5, px_al 6 0),
  (6, px_get dC 9 0 0),
  (9, px_ic 12 33 (fun x y => y ≤ x)),
  (12, px_al 13 0),
  (13, px_il 14 3),
  (14, px_il 15 1),
  (15, px_callV dC 18 0 2 px_vI prX0_hasInMemory poX0_hasInMemory),
  (18, px_if 21 27 (fun x => x = 0)),
  (21, px_il 22 2),
  (22, px_push 23 (.int 1)),
  (23, px_il 24 3),
  (24, px_bin 25 (fun x y => x <<< (y &&& 31))),
  (25, px_bin 26 (fun x y => x ||| y)),
  (26, px_is 27 2),
  (27, px_inc 30 3 1),
  (30, px_go 4),
  (33, px_il 34 2),
  (34, px_iret (.int) po)]
set_option maxRecDepth 100000 in
set_option maxHeartbeats 4000000 in
theorem okX0_knowers : ∀ (po : Int32 → px_St → Prop) (i pc : Nat) (op : px_Op), (opX0_knowers po)[i]? = some (pc, op) → px_Snd (cX0_knowers, 4, RX0, Cond.code yX0_knowers cX0_knowers 4 (some .int) :: wdC, (some .int), rmX0_knowers, dC) px_vI po pc op := by
  intro po
  unfold opX0_knowers
  refine px_ok_cons (ps_iconst dX0_knowers_0 (by decide)) ?_
  refine px_ok_cons (ps_istore_n dX0_knowers_1 rfl (by decide)) ?_
  refine px_ok_cons (ps_iconst dX0_knowers_2 (by decide)) ?_
  refine px_ok_cons (ps_istore_n dX0_knowers_3 rfl (by decide)) ?_
  refine px_ok_cons (ps_iload_n dX0_knowers_4 rfl) ?_
  refine px_ok_cons (ps_aload_n dX0_knowers_5 rfl) ?_
  refine px_ok_cons (fgX0_28 dX0_knowers_6) ?_
  refine px_ok_cons (ps_icmp_ge dX0_knowers_9 (by decide)) ?_
  refine px_ok_cons (ps_aload_n dX0_knowers_12 rfl) ?_
  refine px_ok_cons (ps_iload_n dX0_knowers_13 rfl) ?_
  refine px_ok_cons (ps_iload_n dX0_knowers_14 rfl) ?_
  refine px_ok_cons (ps_callV mX0_hasInMemory (fun _ _ => rfl) (C := RX0) rfl (fun _ _ ht => px_cwV wgC (wdC_1_in _ (List.mem_of_getElem? (i := 3) rfl)) (wdC_1_in _ (List.mem_of_getElem? (i := 4) rfl)) (wdC_1_in _ (List.mem_of_getElem? (i := 5) rfl)) (wdC_0_in _ (List.mem_of_getElem? (i := 22) rfl)) (wdC_0_in _ (List.mem_of_getElem? (i := 35) rfl)) (by decide +kernel) rfl rfl (by decide) ht) dX0_knowers_15) ?_
  refine px_ok_cons (ps_if_eq dX0_knowers_18 (by decide)) ?_
  refine px_ok_cons (ps_iload_n dX0_knowers_21 rfl) ?_
  refine px_ok_cons (ps_iconst dX0_knowers_22 (by decide)) ?_
  refine px_ok_cons (ps_iload_n dX0_knowers_23 rfl) ?_
  refine px_ok_cons (ps_ishl dX0_knowers_24) ?_
  refine px_ok_cons (ps_ior dX0_knowers_25) ?_
  refine px_ok_cons (ps_istore_n dX0_knowers_26 rfl (by decide)) ?_
  refine px_ok_cons (ps_iinc dX0_knowers_27 (by decide) (by decide)) ?_
  refine px_ok_cons (ps_goto dX0_knowers_30 (by decide)) ?_
  refine px_ok_cons (ps_iload_n dX0_knowers_33 rfl) ?_
  refine px_ok_cons (ps_ireturn rfl dX0_knowers_34) ?_
  exact px_ok_nil
set_option maxRecDepth 100000 in
set_option maxHeartbeats 4000000 in
theorem sgX0_knowers_0 {po : Int32 → px_St → Prop} {G : px_K} (hG : px_cl (opX0_knowers po) G) (v0 : Nat) (hv0 : px_av v0) (v1 : Int32) (σ : px_St)
    (H : G 4 [some (.ref v0), some (.int v1), some (.int (0 : Int32)), some (.int (0 : Int32))] [] σ) :
    G 0 (px_ent 4 [.ref v0, .int v1]) [] σ := by
  refine hG.1 0 _ _ rfl _ _ _ ?_
  refine hG.1 1 _ _ rfl _ _ _ ?_
  show G 2 [some (.ref v0), some (.int v1), some (.int (0 : Int32)), none] [] σ
  refine hG.1 2 _ _ rfl _ _ _ ?_
  refine hG.1 3 _ _ rfl _ _ _ ?_
  show G 4 [some (.ref v0), some (.int v1), some (.int (0 : Int32)), some (.int (0 : Int32))] [] σ
  exact H
set_option maxRecDepth 100000 in
set_option maxHeartbeats 4000000 in
theorem sgX0_knowers_4 {po : Int32 → px_St → Prop} {G : px_K} (hG : px_cl (opX0_knowers po) G) (v0 : Nat) (hv0 : px_av v0) (v1 : Int32) (v2 : Int32) (v3 : Int32) (σ : px_St)
    (H : (((σ.1 v0 0) ≤ v3) → po v2 σ) ∧ (¬ ((σ.1 v0 0) ≤ v3) → ∃ g3 : gtX0_hasInMemory, qrX0_hasInMemory g3 v0 v3 v1 σ ∧ ∀ (r1 : Int32) (σ2 : px_St), qoX0_hasInMemory g3 v0 v3 v1 σ r1 σ2 → ((r1 = 0) → G 4 [some (.ref v0), some (.int v1), some (.int v2), some (.int (v3 + 1))] [] σ2) ∧ (¬ (r1 = 0) → G 4 [some (.ref v0), some (.int v1), some (.int (v2 ||| ((1 : Int32) <<< (v3 &&& 31)))), some (.int (v3 + 1))] [] σ2))) :
    G 4 [some (.ref v0), some (.int v1), some (.int v2), some (.int v3)] [] σ := by
  refine hG.1 4 _ _ rfl _ _ _ ?_
  refine hG.1 5 _ _ rfl _ _ _ ?_
  refine hG.1 6 _ _ rfl _ _ _ ?_
  refine ⟨(av_s0 hv0), ?_⟩
  refine hG.1 7 _ _ rfl _ _ _ ?_
  refine ⟨fun h6 => ?_, fun h6 => ?_⟩
  · replace H := H.1 h6
    refine hG.1 21 _ _ rfl _ _ _ ?_
    refine hG.1 22 _ _ rfl _ _ _ ?_
    exact ⟨rfl, H⟩
  · replace H := H.2 h6
    refine hG.1 8 _ _ rfl _ _ _ ?_
    refine hG.1 9 _ _ rfl _ _ _ ?_
    refine hG.1 10 _ _ rfl _ _ _ ?_
    refine hG.1 11 _ _ rfl _ _ _ ?_
    obtain ⟨g3, H⟩ := H
    refine ⟨(av_s0 hv0), Nat.le_of_ble_eq_true rfl, g3, ⟨_, _, _, rfl, hv0, H.1⟩, fun r1 σ2 hp4 => ?_⟩
    replace H := H.2 r1 σ2 hp4
    refine hG.1 12 _ _ rfl _ _ _ ?_
    refine ⟨fun h5 => ?_, fun h5 => ?_⟩
    · replace H := H.1 h5
      refine hG.1 19 _ _ rfl _ _ _ ?_
      show G 30 [some (.ref v0), some (.int v1), some (.int v2), some (.int (v3 + 1))] [] σ2
      refine hG.1 20 _ _ rfl _ _ _ ?_
      exact H
    · replace H := H.2 h5
      refine hG.1 13 _ _ rfl _ _ _ ?_
      refine hG.1 14 _ _ rfl _ _ _ ?_
      refine hG.1 15 _ _ rfl _ _ _ ?_
      refine hG.1 16 _ _ rfl _ _ _ ?_
      refine hG.1 17 _ _ rfl _ _ _ ?_
      refine hG.1 18 _ _ rfl _ _ _ ?_
      show G 27 [some (.ref v0), some (.int v1), some (.int (v2 ||| ((1 : Int32) <<< (v3 &&& 31)))), some (.int v3)] [] σ2
      refine hG.1 19 _ _ rfl _ _ _ ?_
      show G 30 [some (.ref v0), some (.int v1), some (.int (v2 ||| ((1 : Int32) <<< (v3 &&& 31)))), some (.int (v3 + 1))] [] σ2
      refine hG.1 20 _ _ rfl _ _ _ ?_
      exact H
set_option maxRecDepth 100000 in
set_option maxHeartbeats 4000000 in
theorem hhX0_knowers (g : gtX0_knowers) (v0 : Nat) (hv0 : px_av v0) (v1 : Int32) (σ : px_St) (h : qrX0_knowers g v0 v1 σ) (G : px_K) (hG : px_cl (opX0_knowers (qoX0_knowers g v0 v1 σ)) G) : G 0 (px_ent 4 [.ref v0, .int v1]) [] σ := by
  obtain ⟨V, s⟩ := g
  obtain ⟨hV, hw, hs, rfl⟩ := h
  have h5 := hw.1
  refine sgX0_knowers_0 hG v0 hv0 _ σ ?_
  have loop : ∀ n k, k + n = V.1 → G 4 [some (.ref v0), some (.int (nI s)), some (.int (pv_knowers V s k)), some (.int (nI k))] [] σ := by
    intro n
    induction n with
    | zero =>
      intro k hk
      refine sgX0_knowers_4 hG v0 hv0 _ _ _ σ ?_
      rw [hV.1.1]
      refine ⟨fun _ => ⟨rfl, by rw [show k = V.1 by omega]⟩, fun z => absurd (nI_le (by omega) (by omega)) z⟩
    | succ n ih =>
      intro k hk
      refine sgX0_knowers_4 hG v0 hv0 _ _ _ σ ?_
      rw [hV.1.1]
      refine ⟨fun z => absurd z (nI_ge (by omega) (by omega)), fun _ => ⟨(V, k, s), ⟨hV, hw, by omega, hs, rfl, rfl⟩, fun r σ2 hq => ?_⟩⟩
      obtain ⟨rfl, hb⟩ := hq
      rw [px_b_0 hb, nI_1]
      have e := ih (k + 1) (by omega)
      rw [pv_knowers] at e
      refine ⟨fun hm => ?_, fun hm => ?_⟩
      · rw [if_neg hm] at e
        exact e
      · rw [if_pos (Classical.byContradiction hm)] at e
        exact e
  exact loop _ 0 (Nat.zero_add _)
theorem mX0_knowers (g : gtX0_knowers) : px_Met dC yX0_knowers (Cond.code yX0_knowers cX0_knowers 4 (some .int) :: wdC) rmX0_knowers px_vI (prX0_knowers g) (poX0_knowers g) :=
  px_met (Z := (cX0_knowers, 4, RX0, Cond.code yX0_knowers cX0_knowers 4 (some .int) :: wdC, (some .int), rmX0_knowers, dC)) opX0_knowers (by decide) rfl rfl okX0_knowers (fun As σ h => by obtain ⟨v0, v1, rfl, hv0, h⟩ := h; exact Nat.le_of_ble_eq_true rfl) (fun As σ h G hG => by obtain ⟨v0, v1, rfl, hv0, h⟩ := h; exact hhX0_knowers g v0 hv0 v1 σ h G hG)
abbrev gtX0_allSizes : Type := pv_V
def qrX0_allSizes (V : pv_V) (a : Nat) (σ : px_St) : Prop := av_is σ a V ∧ pv_w V
def qoX0_allSizes (V : pv_V) (_ : Nat) (σ : px_St) (r : Int32) (σ' : px_St) : Prop := σ' = σ ∧ r = pv_sum (fun p => nI (V.2.2.2 p).2.2.length) V.1
def prX0_allSizes (g : gtX0_allSizes) : List Value → px_St → Prop := fun As σ => ∃ v0 : Nat, As = [.ref v0] ∧ px_av v0 ∧ qrX0_allSizes g v0 σ
def poX0_allSizes (g : gtX0_allSizes) : List Value → px_St → Int32 → px_St → Prop
  | [.ref v0], σ, r, σ' => qoX0_allSizes g v0 σ r σ'
  | _, _, _, _ => False
theorem dX0_allSizes_0 : decode cX0_allSizes 0 = .ok (.iconst 0, 1) := by decide +kernel
theorem dX0_allSizes_1 : decode cX0_allSizes 1 = .ok (.istore_n 1, 1) := by decide +kernel
theorem dX0_allSizes_2 : decode cX0_allSizes 2 = .ok (.iconst 0, 1) := by decide +kernel
theorem dX0_allSizes_3 : decode cX0_allSizes 3 = .ok (.istore_n 2, 1) := by decide +kernel
theorem dX0_allSizes_4 : decode cX0_allSizes 4 = .ok (.iload_n 2, 1) := by decide +kernel
theorem dX0_allSizes_5 : decode cX0_allSizes 5 = .ok (.aload_n 0, 1) := by decide +kernel
theorem dX0_allSizes_6 : decode cX0_allSizes 6 = .ok (.getfield 28, 3) := by decide +kernel
theorem dX0_allSizes_9 : decode cX0_allSizes 9 = .ok (.if_icmp .ge 18, 3) := by decide +kernel
theorem dX0_allSizes_12 : decode cX0_allSizes 12 = .ok (.iload_n 1, 1) := by decide +kernel
theorem dX0_allSizes_13 : decode cX0_allSizes 13 = .ok (.aload_n 0, 1) := by decide +kernel
theorem dX0_allSizes_14 : decode cX0_allSizes 14 = .ok (.getfield 19, 3) := by decide +kernel
theorem dX0_allSizes_17 : decode cX0_allSizes 17 = .ok (.iload_n 2, 1) := by decide +kernel
theorem dX0_allSizes_18 : decode cX0_allSizes 18 = .ok (.iaload, 1) := by decide +kernel
theorem dX0_allSizes_19 : decode cX0_allSizes 19 = .ok (.iadd, 1) := by decide +kernel
theorem dX0_allSizes_20 : decode cX0_allSizes 20 = .ok (.istore_n 1, 1) := by decide +kernel
theorem dX0_allSizes_21 : decode cX0_allSizes 21 = .ok (.iinc 2 1, 3) := by decide +kernel
theorem dX0_allSizes_24 : decode cX0_allSizes 24 = .ok (.goto (-20), 3) := by decide +kernel
theorem dX0_allSizes_27 : decode cX0_allSizes 27 = .ok (.iload_n 1, 1) := by decide +kernel
theorem dX0_allSizes_28 : decode cX0_allSizes 28 = .ok (.ireturn, 1) := by decide +kernel
abbrev rmX0_allSizes : Room := { frames := 0, cells := 0, slots := 0, locals := 0 }
def opX0_allSizes (po : Int32 → px_St → Prop) : List (Nat × px_Op) := [
  (0, px_push 1 (.int 0)),
  (1, px_is 2 1),
  (2, px_push 3 (.int 0)),
  (3, px_is 4 2),
  (4, px_il 5 2),
  (5, px_al 6 0),
  (6, px_get dC 9 0 0),
  (9, px_ic 12 27 (fun x y => y ≤ x)),
  (12, px_il 13 1),
  (13, px_al 14 0),
  (14, px_get dC 17 0 4),
  (17, px_il 18 2),
  (18, px_ald dC 19 0),
  (19, px_bin 20 (fun x y => x + y)),
  (20, px_is 21 1),
  (21, px_inc 24 2 1),
  (24, px_go 4),
  (27, px_il 28 1),
  (28, px_iret (.int) po)]
set_option maxRecDepth 100000 in
set_option maxHeartbeats 4000000 in
theorem okX0_allSizes : ∀ (po : Int32 → px_St → Prop) (i pc : Nat) (op : px_Op), (opX0_allSizes po)[i]? = some (pc, op) → px_Snd (cX0_allSizes, 3, RX0, Cond.code yX0_allSizes cX0_allSizes 3 (some .int) :: wdC, (some .int), rmX0_allSizes, dC) px_vI po pc op := by
  intro po
  unfold opX0_allSizes
  refine px_ok_cons (ps_iconst dX0_allSizes_0 (by decide)) ?_
  refine px_ok_cons (ps_istore_n dX0_allSizes_1 rfl (by decide)) ?_
  refine px_ok_cons (ps_iconst dX0_allSizes_2 (by decide)) ?_
  refine px_ok_cons (ps_istore_n dX0_allSizes_3 rfl (by decide)) ?_
  refine px_ok_cons (ps_iload_n dX0_allSizes_4 rfl) ?_
  refine px_ok_cons (ps_aload_n dX0_allSizes_5 rfl) ?_
  refine px_ok_cons (fgX0_28 dX0_allSizes_6) ?_
  refine px_ok_cons (ps_icmp_ge dX0_allSizes_9 (by decide)) ?_
  refine px_ok_cons (ps_iload_n dX0_allSizes_12 rfl) ?_
  refine px_ok_cons (ps_aload_n dX0_allSizes_13 rfl) ?_
  refine px_ok_cons (fgX0_19 dX0_allSizes_14) ?_
  refine px_ok_cons (ps_iload_n dX0_allSizes_17 rfl) ?_
  refine px_ok_cons (ps_iaload dX0_allSizes_18) ?_
  refine px_ok_cons (ps_iadd dX0_allSizes_19) ?_
  refine px_ok_cons (ps_istore_n dX0_allSizes_20 rfl (by decide)) ?_
  refine px_ok_cons (ps_iinc dX0_allSizes_21 (by decide) (by decide)) ?_
  refine px_ok_cons (ps_goto dX0_allSizes_24 (by decide)) ?_
  refine px_ok_cons (ps_iload_n dX0_allSizes_27 rfl) ?_
  refine px_ok_cons (ps_ireturn rfl dX0_allSizes_28) ?_
  exact px_ok_nil
set_option maxRecDepth 100000 in
set_option maxHeartbeats 4000000 in
theorem sgX0_allSizes_0 {po : Int32 → px_St → Prop} {G : px_K} (hG : px_cl (opX0_allSizes po) G) (v0 : Nat) (hv0 : px_av v0) (σ : px_St)
    (H : G 4 [some (.ref v0), some (.int (0 : Int32)), some (.int (0 : Int32))] [] σ) :
    G 0 (px_ent 3 [.ref v0]) [] σ := by
  refine hG.1 0 _ _ rfl _ _ _ ?_
  refine hG.1 1 _ _ rfl _ _ _ ?_
  show G 2 [some (.ref v0), some (.int (0 : Int32)), none] [] σ
  refine hG.1 2 _ _ rfl _ _ _ ?_
  refine hG.1 3 _ _ rfl _ _ _ ?_
  show G 4 [some (.ref v0), some (.int (0 : Int32)), some (.int (0 : Int32))] [] σ
  exact H
set_option maxRecDepth 100000 in
set_option maxHeartbeats 4000000 in
theorem sgX0_allSizes_4 {po : Int32 → px_St → Prop} {G : px_K} (hG : px_cl (opX0_allSizes po) G) (v0 : Nat) (hv0 : px_av v0) (v1 : Int32) (v2 : Int32) (σ : px_St)
    (H : (((σ.1 v0 0) ≤ v2) → po v1 σ) ∧ (¬ ((σ.1 v0 0) ≤ v2) → vp_in v2 5 ∧ G 4 [some (.ref v0), some (.int (v1 + (σ.1 (v0 + 2) v2.toNatClampNeg))), some (.int (v2 + 1))] [] σ)) :
    G 4 [some (.ref v0), some (.int v1), some (.int v2)] [] σ := by
  refine hG.1 4 _ _ rfl _ _ _ ?_
  refine hG.1 5 _ _ rfl _ _ _ ?_
  refine hG.1 6 _ _ rfl _ _ _ ?_
  refine ⟨(av_s0 hv0), ?_⟩
  refine hG.1 7 _ _ rfl _ _ _ ?_
  refine ⟨fun h1 => ?_, fun h1 => ?_⟩
  · replace H := H.1 h1
    refine hG.1 17 _ _ rfl _ _ _ ?_
    refine hG.1 18 _ _ rfl _ _ _ ?_
    exact ⟨rfl, H⟩
  · replace H := H.2 h1
    refine hG.1 8 _ _ rfl _ _ _ ?_
    refine hG.1 9 _ _ rfl _ _ _ ?_
    refine hG.1 10 _ _ rfl _ _ _ ?_
    refine ⟨(av_s0 hv0), ?_⟩
    refine hG.1 11 _ _ rfl _ _ _ ?_
    refine hG.1 12 _ _ rfl _ _ _ ?_
    refine ⟨(av_s2 hv0), by rw [(av_l2 hv0)]; exact H.1, ?_⟩
    replace H := H.2
    refine hG.1 13 _ _ rfl _ _ _ ?_
    refine hG.1 14 _ _ rfl _ _ _ ?_
    show G 21 [some (.ref v0), some (.int (v1 + (σ.1 (v0 + 2) v2.toNatClampNeg))), some (.int v2)] [] σ
    refine hG.1 15 _ _ rfl _ _ _ ?_
    show G 24 [some (.ref v0), some (.int (v1 + (σ.1 (v0 + 2) v2.toNatClampNeg))), some (.int (v2 + 1))] [] σ
    refine hG.1 16 _ _ rfl _ _ _ ?_
    exact H
set_option maxRecDepth 100000 in
set_option maxHeartbeats 4000000 in
theorem hhX0_allSizes (g : gtX0_allSizes) (v0 : Nat) (hv0 : px_av v0) (σ : px_St) (h : qrX0_allSizes g v0 σ) (G : px_K) (hG : px_cl (opX0_allSizes (qoX0_allSizes g v0 σ)) G) : G 0 (px_ent 3 [.ref v0]) [] σ := by
  obtain ⟨hV, hw⟩ := h
  have h5 := hw.1
  refine sgX0_allSizes_0 hG v0 hv0 σ ?_
  have loop : ∀ n k, k + n = g.1 → G 4 [some (.ref v0), some (.int (pv_sum (fun p => nI (g.2.2.2 p).2.2.length) k)), some (.int (nI k))] [] σ := by
    intro n
    induction n with
    | zero =>
      intro k hk
      refine sgX0_allSizes_4 hG v0 hv0 _ _ σ ?_
      rw [hV.1.1]
      refine ⟨fun _ => ⟨rfl, by rw [show k = g.1 by omega]⟩, fun z => absurd (nI_le (by omega) (by omega)) z⟩
    | succ n ih =>
      intro k hk
      refine sgX0_allSizes_4 hG v0 hv0 _ _ σ ?_
      rw [hV.1.1, nI_clamp (by omega), (hV.2 k (by omega)).2.1, nI_1]
      exact ⟨fun z => absurd z (nI_ge (by omega) (by omega)), fun _ => ⟨vp_in_nI (by omega) (by decide), ih (k + 1) (by omega)⟩⟩
  exact loop _ 0 (Nat.zero_add _)
theorem mX0_allSizes (g : gtX0_allSizes) : px_Met dC yX0_allSizes (Cond.code yX0_allSizes cX0_allSizes 3 (some .int) :: wdC) rmX0_allSizes px_vI (prX0_allSizes g) (poX0_allSizes g) :=
  px_met (Z := (cX0_allSizes, 3, RX0, Cond.code yX0_allSizes cX0_allSizes 3 (some .int) :: wdC, (some .int), rmX0_allSizes, dC)) opX0_allSizes (by decide) rfl rfl okX0_allSizes (fun As σ h => by obtain ⟨v0, rfl, hv0, h⟩ := h; exact Nat.le_of_ble_eq_true rfl) (fun As σ h G hG => by obtain ⟨v0, rfl, hv0, h⟩ := h; exact hhX0_allSizes g v0 hv0 σ h G hG)
abbrev gtX0_allPlaces : Type := pv_V
def qrX0_allPlaces (V : pv_V) (a : Nat) (σ : px_St) : Prop := av_is σ a V ∧ pv_w V
def qoX0_allPlaces (V : pv_V) (_ : Nat) (σ : px_St) (r : Int32) (σ' : px_St) : Prop := σ' = σ ∧ r = pv_sum (fun p => nI (V.2.2.2 p).2.1) V.1
def prX0_allPlaces (g : gtX0_allPlaces) : List Value → px_St → Prop := fun As σ => ∃ v0 : Nat, As = [.ref v0] ∧ px_av v0 ∧ qrX0_allPlaces g v0 σ
def poX0_allPlaces (g : gtX0_allPlaces) : List Value → px_St → Int32 → px_St → Prop
  | [.ref v0], σ, r, σ' => qoX0_allPlaces g v0 σ r σ'
  | _, _, _, _ => False
theorem dX0_allPlaces_0 : decode cX0_allPlaces 0 = .ok (.iconst 0, 1) := by decide +kernel
theorem dX0_allPlaces_1 : decode cX0_allPlaces 1 = .ok (.istore_n 1, 1) := by decide +kernel
theorem dX0_allPlaces_2 : decode cX0_allPlaces 2 = .ok (.iconst 0, 1) := by decide +kernel
theorem dX0_allPlaces_3 : decode cX0_allPlaces 3 = .ok (.istore_n 2, 1) := by decide +kernel
theorem dX0_allPlaces_4 : decode cX0_allPlaces 4 = .ok (.iload_n 2, 1) := by decide +kernel
theorem dX0_allPlaces_5 : decode cX0_allPlaces 5 = .ok (.aload_n 0, 1) := by decide +kernel
theorem dX0_allPlaces_6 : decode cX0_allPlaces 6 = .ok (.getfield 28, 3) := by decide +kernel
theorem dX0_allPlaces_9 : decode cX0_allPlaces 9 = .ok (.if_icmp .ge 18, 3) := by decide +kernel
theorem dX0_allPlaces_12 : decode cX0_allPlaces 12 = .ok (.iload_n 1, 1) := by decide +kernel
theorem dX0_allPlaces_13 : decode cX0_allPlaces 13 = .ok (.aload_n 0, 1) := by decide +kernel
theorem dX0_allPlaces_14 : decode cX0_allPlaces 14 = .ok (.getfield 22, 3) := by decide +kernel
theorem dX0_allPlaces_17 : decode cX0_allPlaces 17 = .ok (.iload_n 2, 1) := by decide +kernel
theorem dX0_allPlaces_18 : decode cX0_allPlaces 18 = .ok (.iaload, 1) := by decide +kernel
theorem dX0_allPlaces_19 : decode cX0_allPlaces 19 = .ok (.iadd, 1) := by decide +kernel
theorem dX0_allPlaces_20 : decode cX0_allPlaces 20 = .ok (.istore_n 1, 1) := by decide +kernel
theorem dX0_allPlaces_21 : decode cX0_allPlaces 21 = .ok (.iinc 2 1, 3) := by decide +kernel
theorem dX0_allPlaces_24 : decode cX0_allPlaces 24 = .ok (.goto (-20), 3) := by decide +kernel
theorem dX0_allPlaces_27 : decode cX0_allPlaces 27 = .ok (.iload_n 1, 1) := by decide +kernel
theorem dX0_allPlaces_28 : decode cX0_allPlaces 28 = .ok (.ireturn, 1) := by decide +kernel
abbrev rmX0_allPlaces : Room := { frames := 0, cells := 0, slots := 0, locals := 0 }
def opX0_allPlaces (po : Int32 → px_St → Prop) : List (Nat × px_Op) := [
  (0, px_push 1 (.int 0)),
  (1, px_is 2 1),
  (2, px_push 3 (.int 0)),
  (3, px_is 4 2),
  (4, px_il 5 2),
  (5, px_al 6 0),
  (6, px_get dC 9 0 0),
  (9, px_ic 12 27 (fun x y => y ≤ x)),
  (12, px_il 13 1),
  (13, px_al 14 0),
  (14, px_get dC 17 0 5),
  (17, px_il 18 2),
  (18, px_ald dC 19 0),
  (19, px_bin 20 (fun x y => x + y)),
  (20, px_is 21 1),
  (21, px_inc 24 2 1),
  (24, px_go 4),
  (27, px_il 28 1),
  (28, px_iret (.int) po)]
set_option maxRecDepth 100000 in
set_option maxHeartbeats 4000000 in
theorem okX0_allPlaces : ∀ (po : Int32 → px_St → Prop) (i pc : Nat) (op : px_Op), (opX0_allPlaces po)[i]? = some (pc, op) → px_Snd (cX0_allPlaces, 3, RX0, Cond.code yX0_allPlaces cX0_allPlaces 3 (some .int) :: wdC, (some .int), rmX0_allPlaces, dC) px_vI po pc op := by
  intro po
  unfold opX0_allPlaces
  refine px_ok_cons (ps_iconst dX0_allPlaces_0 (by decide)) ?_
  refine px_ok_cons (ps_istore_n dX0_allPlaces_1 rfl (by decide)) ?_
  refine px_ok_cons (ps_iconst dX0_allPlaces_2 (by decide)) ?_
  refine px_ok_cons (ps_istore_n dX0_allPlaces_3 rfl (by decide)) ?_
  refine px_ok_cons (ps_iload_n dX0_allPlaces_4 rfl) ?_
  refine px_ok_cons (ps_aload_n dX0_allPlaces_5 rfl) ?_
  refine px_ok_cons (fgX0_28 dX0_allPlaces_6) ?_
  refine px_ok_cons (ps_icmp_ge dX0_allPlaces_9 (by decide)) ?_
  refine px_ok_cons (ps_iload_n dX0_allPlaces_12 rfl) ?_
  refine px_ok_cons (ps_aload_n dX0_allPlaces_13 rfl) ?_
  refine px_ok_cons (fgX0_22 dX0_allPlaces_14) ?_
  refine px_ok_cons (ps_iload_n dX0_allPlaces_17 rfl) ?_
  refine px_ok_cons (ps_iaload dX0_allPlaces_18) ?_
  refine px_ok_cons (ps_iadd dX0_allPlaces_19) ?_
  refine px_ok_cons (ps_istore_n dX0_allPlaces_20 rfl (by decide)) ?_
  refine px_ok_cons (ps_iinc dX0_allPlaces_21 (by decide) (by decide)) ?_
  refine px_ok_cons (ps_goto dX0_allPlaces_24 (by decide)) ?_
  refine px_ok_cons (ps_iload_n dX0_allPlaces_27 rfl) ?_
  refine px_ok_cons (ps_ireturn rfl dX0_allPlaces_28) ?_
  exact px_ok_nil
set_option maxRecDepth 100000 in
set_option maxHeartbeats 4000000 in
theorem sgX0_allPlaces_0 {po : Int32 → px_St → Prop} {G : px_K} (hG : px_cl (opX0_allPlaces po) G) (v0 : Nat) (hv0 : px_av v0) (σ : px_St)
    (H : G 4 [some (.ref v0), some (.int (0 : Int32)), some (.int (0 : Int32))] [] σ) :
    G 0 (px_ent 3 [.ref v0]) [] σ := by
  refine hG.1 0 _ _ rfl _ _ _ ?_
  refine hG.1 1 _ _ rfl _ _ _ ?_
  show G 2 [some (.ref v0), some (.int (0 : Int32)), none] [] σ
  refine hG.1 2 _ _ rfl _ _ _ ?_
  refine hG.1 3 _ _ rfl _ _ _ ?_
  show G 4 [some (.ref v0), some (.int (0 : Int32)), some (.int (0 : Int32))] [] σ
  exact H
set_option maxRecDepth 100000 in
set_option maxHeartbeats 4000000 in
theorem sgX0_allPlaces_4 {po : Int32 → px_St → Prop} {G : px_K} (hG : px_cl (opX0_allPlaces po) G) (v0 : Nat) (hv0 : px_av v0) (v1 : Int32) (v2 : Int32) (σ : px_St)
    (H : (((σ.1 v0 0) ≤ v2) → po v1 σ) ∧ (¬ ((σ.1 v0 0) ≤ v2) → vp_in v2 5 ∧ G 4 [some (.ref v0), some (.int (v1 + (σ.1 (v0 + 3) v2.toNatClampNeg))), some (.int (v2 + 1))] [] σ)) :
    G 4 [some (.ref v0), some (.int v1), some (.int v2)] [] σ := by
  refine hG.1 4 _ _ rfl _ _ _ ?_
  refine hG.1 5 _ _ rfl _ _ _ ?_
  refine hG.1 6 _ _ rfl _ _ _ ?_
  refine ⟨(av_s0 hv0), ?_⟩
  refine hG.1 7 _ _ rfl _ _ _ ?_
  refine ⟨fun h1 => ?_, fun h1 => ?_⟩
  · replace H := H.1 h1
    refine hG.1 17 _ _ rfl _ _ _ ?_
    refine hG.1 18 _ _ rfl _ _ _ ?_
    exact ⟨rfl, H⟩
  · replace H := H.2 h1
    refine hG.1 8 _ _ rfl _ _ _ ?_
    refine hG.1 9 _ _ rfl _ _ _ ?_
    refine hG.1 10 _ _ rfl _ _ _ ?_
    refine ⟨(av_s0 hv0), ?_⟩
    refine hG.1 11 _ _ rfl _ _ _ ?_
    refine hG.1 12 _ _ rfl _ _ _ ?_
    refine ⟨(av_s3 hv0), by rw [(av_l3 hv0)]; exact H.1, ?_⟩
    replace H := H.2
    refine hG.1 13 _ _ rfl _ _ _ ?_
    refine hG.1 14 _ _ rfl _ _ _ ?_
    show G 21 [some (.ref v0), some (.int (v1 + (σ.1 (v0 + 3) v2.toNatClampNeg))), some (.int v2)] [] σ
    refine hG.1 15 _ _ rfl _ _ _ ?_
    show G 24 [some (.ref v0), some (.int (v1 + (σ.1 (v0 + 3) v2.toNatClampNeg))), some (.int (v2 + 1))] [] σ
    refine hG.1 16 _ _ rfl _ _ _ ?_
    exact H
set_option maxRecDepth 100000 in
set_option maxHeartbeats 4000000 in
theorem hhX0_allPlaces (g : gtX0_allPlaces) (v0 : Nat) (hv0 : px_av v0) (σ : px_St) (h : qrX0_allPlaces g v0 σ) (G : px_K) (hG : px_cl (opX0_allPlaces (qoX0_allPlaces g v0 σ)) G) : G 0 (px_ent 3 [.ref v0]) [] σ := by
  obtain ⟨hV, hw⟩ := h
  have h5 := hw.1
  refine sgX0_allPlaces_0 hG v0 hv0 σ ?_
  have loop : ∀ n k, k + n = g.1 → G 4 [some (.ref v0), some (.int (pv_sum (fun p => nI (g.2.2.2 p).2.1) k)), some (.int (nI k))] [] σ := by
    intro n
    induction n with
    | zero =>
      intro k hk
      refine sgX0_allPlaces_4 hG v0 hv0 _ _ σ ?_
      rw [hV.1.1]
      refine ⟨fun _ => ⟨rfl, by rw [show k = g.1 by omega]⟩, fun z => absurd (nI_le (by omega) (by omega)) z⟩
    | succ n ih =>
      intro k hk
      refine sgX0_allPlaces_4 hG v0 hv0 _ _ σ ?_
      rw [hV.1.1, nI_clamp (by omega), (hV.2 k (by omega)).2.2.1, nI_1]
      exact ⟨fun z => absurd z (nI_ge (by omega) (by omega)), fun _ => ⟨vp_in_nI (by omega) (by decide), ih (k + 1) (by omega)⟩⟩
  exact loop _ 0 (Nat.zero_add _)
theorem mX0_allPlaces (g : gtX0_allPlaces) : px_Met dC yX0_allPlaces (Cond.code yX0_allPlaces cX0_allPlaces 3 (some .int) :: wdC) rmX0_allPlaces px_vI (prX0_allPlaces g) (poX0_allPlaces g) :=
  px_met (Z := (cX0_allPlaces, 3, RX0, Cond.code yX0_allPlaces cX0_allPlaces 3 (some .int) :: wdC, (some .int), rmX0_allPlaces, dC)) opX0_allPlaces (by decide) rfl rfl okX0_allPlaces (fun As σ h => by obtain ⟨v0, rfl, hv0, h⟩ := h; exact Nat.le_of_ble_eq_true rfl) (fun As σ h G hG => by obtain ⟨v0, rfl, hv0, h⟩ := h; exact hhX0_allPlaces g v0 hv0 σ h G hG)
abbrev gtX0_allSounds : Type := pv_V
def qrX0_allSounds (V : pv_V) (a : Nat) (σ : px_St) : Prop := av_is σ a V ∧ pv_w V
def qoX0_allSounds (V : pv_V) (_ : Nat) (σ : px_St) (r : Int32) (σ' : px_St) : Prop := σ' = σ ∧ r = pv_all V V.1
def prX0_allSounds (g : gtX0_allSounds) : List Value → px_St → Prop := fun As σ => ∃ v0 : Nat, As = [.ref v0] ∧ px_av v0 ∧ qrX0_allSounds g v0 σ
def poX0_allSounds (g : gtX0_allSounds) : List Value → px_St → Int32 → px_St → Prop
  | [.ref v0], σ, r, σ' => qoX0_allSounds g v0 σ r σ'
  | _, _, _, _ => False
theorem dX0_allSounds_0 : decode cX0_allSounds 0 = .ok (.iconst 0, 1) := by decide +kernel
theorem dX0_allSounds_1 : decode cX0_allSounds 1 = .ok (.istore_n 1, 1) := by decide +kernel
theorem dX0_allSounds_2 : decode cX0_allSounds 2 = .ok (.iconst 0, 1) := by decide +kernel
theorem dX0_allSounds_3 : decode cX0_allSounds 3 = .ok (.istore_n 2, 1) := by decide +kernel
theorem dX0_allSounds_4 : decode cX0_allSounds 4 = .ok (.iload_n 2, 1) := by decide +kernel
theorem dX0_allSounds_5 : decode cX0_allSounds 5 = .ok (.aload_n 0, 1) := by decide +kernel
theorem dX0_allSounds_6 : decode cX0_allSounds 6 = .ok (.getfield 28, 3) := by decide +kernel
theorem dX0_allSounds_9 : decode cX0_allSounds 9 = .ok (.if_icmp .ge 36, 3) := by decide +kernel
theorem dX0_allSounds_12 : decode cX0_allSounds 12 = .ok (.iconst 0, 1) := by decide +kernel
theorem dX0_allSounds_13 : decode cX0_allSounds 13 = .ok (.istore_n 3, 1) := by decide +kernel
theorem dX0_allSounds_14 : decode cX0_allSounds 14 = .ok (.iload_n 3, 1) := by decide +kernel
theorem dX0_allSounds_15 : decode cX0_allSounds 15 = .ok (.aload_n 0, 1) := by decide +kernel
theorem dX0_allSounds_16 : decode cX0_allSounds 16 = .ok (.getfield 19, 3) := by decide +kernel
theorem dX0_allSounds_19 : decode cX0_allSounds 19 = .ok (.iload_n 2, 1) := by decide +kernel
theorem dX0_allSounds_20 : decode cX0_allSounds 20 = .ok (.iaload, 1) := by decide +kernel
theorem dX0_allSounds_21 : decode cX0_allSounds 21 = .ok (.if_icmp .ge 18, 3) := by decide +kernel
theorem dX0_allSounds_24 : decode cX0_allSounds 24 = .ok (.iload_n 1, 1) := by decide +kernel
theorem dX0_allSounds_25 : decode cX0_allSounds 25 = .ok (.aload_n 0, 1) := by decide +kernel
theorem dX0_allSounds_26 : decode cX0_allSounds 26 = .ok (.iload_n 2, 1) := by decide +kernel
theorem dX0_allSounds_27 : decode cX0_allSounds 27 = .ok (.iload_n 3, 1) := by decide +kernel
theorem dX0_allSounds_28 : decode cX0_allSounds 28 = .ok (.invokevirtual 48, 3) := by decide +kernel
theorem dX0_allSounds_31 : decode cX0_allSounds 31 = .ok (.iadd, 1) := by decide +kernel
theorem dX0_allSounds_32 : decode cX0_allSounds 32 = .ok (.istore_n 1, 1) := by decide +kernel
theorem dX0_allSounds_33 : decode cX0_allSounds 33 = .ok (.iinc 3 1, 3) := by decide +kernel
theorem dX0_allSounds_36 : decode cX0_allSounds 36 = .ok (.goto (-22), 3) := by decide +kernel
theorem dX0_allSounds_39 : decode cX0_allSounds 39 = .ok (.iinc 2 1, 3) := by decide +kernel
theorem dX0_allSounds_42 : decode cX0_allSounds 42 = .ok (.goto (-38), 3) := by decide +kernel
theorem dX0_allSounds_45 : decode cX0_allSounds 45 = .ok (.iload_n 1, 1) := by decide +kernel
theorem dX0_allSounds_46 : decode cX0_allSounds 46 = .ok (.ireturn, 1) := by decide +kernel
abbrev rmX0_allSounds : Room := { frames := 1, cells := 0, slots := 0, locals := 22 }
def opX0_allSounds (po : Int32 → px_St → Prop) : List (Nat × px_Op) := [
  (0, px_push 1 (.int 0)),
  (1, px_is 2 1),
  (2, px_push 3 (.int 0)),
  (3, px_is 4 2),
  (4, px_il 5 2),
  (5, px_al 6 0),
  (6, px_get dC 9 0 0),
  (9, px_ic 12 45 (fun x y => y ≤ x)),
  (12, px_push 13 (.int 0)),
  (13, px_is 14 3),
  (14, px_il 15 3),
  (15, px_al 16 0),
  (16, px_get dC 19 0 4),
  (19, px_il 20 2),
  (20, px_ald dC 21 0),
  (21, px_ic 24 39 (fun x y => y ≤ x)),
  (24, px_il 25 1),
  (25, px_al 26 0),
  (26, px_il 27 2),
  (27, px_il 28 3),
  (28, px_callV dC 31 0 2 px_vI prX0_soundAt poX0_soundAt),
  (31, px_bin 32 (fun x y => x + y)),
  (32, px_is 33 1),
  (33, px_inc 36 3 1),
  (36, px_go 14),
  (39, px_inc 42 2 1),
  (42, px_go 4),
  (45, px_il 46 1),
  (46, px_iret (.int) po)]
set_option maxRecDepth 100000 in
set_option maxHeartbeats 4000000 in
theorem okX0_allSounds : ∀ (po : Int32 → px_St → Prop) (i pc : Nat) (op : px_Op), (opX0_allSounds po)[i]? = some (pc, op) → px_Snd (cX0_allSounds, 4, RX0, Cond.code yX0_allSounds cX0_allSounds 4 (some .int) :: wdC, (some .int), rmX0_allSounds, dC) px_vI po pc op := by
  intro po
  unfold opX0_allSounds
  refine px_ok_cons (ps_iconst dX0_allSounds_0 (by decide)) ?_
  refine px_ok_cons (ps_istore_n dX0_allSounds_1 rfl (by decide)) ?_
  refine px_ok_cons (ps_iconst dX0_allSounds_2 (by decide)) ?_
  refine px_ok_cons (ps_istore_n dX0_allSounds_3 rfl (by decide)) ?_
  refine px_ok_cons (ps_iload_n dX0_allSounds_4 rfl) ?_
  refine px_ok_cons (ps_aload_n dX0_allSounds_5 rfl) ?_
  refine px_ok_cons (fgX0_28 dX0_allSounds_6) ?_
  refine px_ok_cons (ps_icmp_ge dX0_allSounds_9 (by decide)) ?_
  refine px_ok_cons (ps_iconst dX0_allSounds_12 (by decide)) ?_
  refine px_ok_cons (ps_istore_n dX0_allSounds_13 rfl (by decide)) ?_
  refine px_ok_cons (ps_iload_n dX0_allSounds_14 rfl) ?_
  refine px_ok_cons (ps_aload_n dX0_allSounds_15 rfl) ?_
  refine px_ok_cons (fgX0_19 dX0_allSounds_16) ?_
  refine px_ok_cons (ps_iload_n dX0_allSounds_19 rfl) ?_
  refine px_ok_cons (ps_iaload dX0_allSounds_20) ?_
  refine px_ok_cons (ps_icmp_ge dX0_allSounds_21 (by decide)) ?_
  refine px_ok_cons (ps_iload_n dX0_allSounds_24 rfl) ?_
  refine px_ok_cons (ps_aload_n dX0_allSounds_25 rfl) ?_
  refine px_ok_cons (ps_iload_n dX0_allSounds_26 rfl) ?_
  refine px_ok_cons (ps_iload_n dX0_allSounds_27 rfl) ?_
  refine px_ok_cons (ps_callV mX0_soundAt (fun _ _ => rfl) (C := RX0) rfl (fun _ _ ht => px_cwV wgC (wdC_0_in _ (List.mem_of_getElem? (i := 31) rfl)) (wdC_0_in _ (List.mem_of_getElem? (i := 32) rfl)) (wdC_0_in _ (List.mem_of_getElem? (i := 33) rfl)) (wdC_0_in _ (List.mem_of_getElem? (i := 22) rfl)) (wdC_0_in _ (List.mem_of_getElem? (i := 26) rfl)) (by decide +kernel) rfl rfl (by decide) ht) dX0_allSounds_28) ?_
  refine px_ok_cons (ps_iadd dX0_allSounds_31) ?_
  refine px_ok_cons (ps_istore_n dX0_allSounds_32 rfl (by decide)) ?_
  refine px_ok_cons (ps_iinc dX0_allSounds_33 (by decide) (by decide)) ?_
  refine px_ok_cons (ps_goto dX0_allSounds_36 (by decide)) ?_
  refine px_ok_cons (ps_iinc dX0_allSounds_39 (by decide) (by decide)) ?_
  refine px_ok_cons (ps_goto dX0_allSounds_42 (by decide)) ?_
  refine px_ok_cons (ps_iload_n dX0_allSounds_45 rfl) ?_
  refine px_ok_cons (ps_ireturn rfl dX0_allSounds_46) ?_
  exact px_ok_nil
set_option maxRecDepth 100000 in
set_option maxHeartbeats 4000000 in
theorem sgX0_allSounds_0 {po : Int32 → px_St → Prop} {G : px_K} (hG : px_cl (opX0_allSounds po) G) (v0 : Nat) (hv0 : px_av v0) (σ : px_St)
    (H : G 4 [some (.ref v0), some (.int (0 : Int32)), some (.int (0 : Int32)), none] [] σ) :
    G 0 (px_ent 4 [.ref v0]) [] σ := by
  refine hG.1 0 _ _ rfl _ _ _ ?_
  refine hG.1 1 _ _ rfl _ _ _ ?_
  show G 2 [some (.ref v0), some (.int (0 : Int32)), none, none] [] σ
  refine hG.1 2 _ _ rfl _ _ _ ?_
  refine hG.1 3 _ _ rfl _ _ _ ?_
  show G 4 [some (.ref v0), some (.int (0 : Int32)), some (.int (0 : Int32)), none] [] σ
  exact H
set_option maxRecDepth 100000 in
set_option maxHeartbeats 4000000 in
theorem sgX0_allSounds_4 {po : Int32 → px_St → Prop} {G : px_K} (hG : px_cl (opX0_allSounds po) G) (v0 : Nat) (hv0 : px_av v0) (v1 : Int32) (v2 : Int32) (σ : px_St)
    (H : (((σ.1 v0 0) ≤ v2) → po v1 σ) ∧ (¬ ((σ.1 v0 0) ≤ v2) → G 14 [some (.ref v0), some (.int v1), some (.int v2), some (.int (0 : Int32))] [] σ)) :
    G 4 [some (.ref v0), some (.int v1), some (.int v2), none] [] σ := by
  refine hG.1 4 _ _ rfl _ _ _ ?_
  refine hG.1 5 _ _ rfl _ _ _ ?_
  refine hG.1 6 _ _ rfl _ _ _ ?_
  refine ⟨(av_s0 hv0), ?_⟩
  refine hG.1 7 _ _ rfl _ _ _ ?_
  refine ⟨fun h1 => ?_, fun h1 => ?_⟩
  · replace H := H.1 h1
    refine hG.1 27 _ _ rfl _ _ _ ?_
    refine hG.1 28 _ _ rfl _ _ _ ?_
    exact ⟨rfl, H⟩
  · replace H := H.2 h1
    refine hG.1 8 _ _ rfl _ _ _ ?_
    refine hG.1 9 _ _ rfl _ _ _ ?_
    show G 14 [some (.ref v0), some (.int v1), some (.int v2), some (.int (0 : Int32))] [] σ
    exact H
set_option maxRecDepth 100000 in
set_option maxHeartbeats 4000000 in
theorem sgX0_allSounds_14 {po : Int32 → px_St → Prop} {G : px_K} (hG : px_cl (opX0_allSounds po) G) (v0 : Nat) (hv0 : px_av v0) (v1 : Int32) (v2 : Int32) (v3 : Int32) (σ : px_St)
    (H : vp_in v2 5 ∧ (((σ.1 (v0 + 2) v2.toNatClampNeg) ≤ v3) → G 4 [some (.ref v0), some (.int v1), some (.int (v2 + 1)), none] [] σ) ∧ (¬ ((σ.1 (v0 + 2) v2.toNatClampNeg) ≤ v3) → ∃ g3 : gtX0_soundAt, qrX0_soundAt g3 v0 v2 v3 σ ∧ ∀ (r1 : Int32) (σ2 : px_St), qoX0_soundAt g3 v0 v2 v3 σ r1 σ2 → G 14 [some (.ref v0), some (.int (v1 + r1)), some (.int v2), some (.int (v3 + 1))] [] σ2)) :
    G 14 [some (.ref v0), some (.int v1), some (.int v2), some (.int v3)] [] σ := by
  refine hG.1 10 _ _ rfl _ _ _ ?_
  refine hG.1 11 _ _ rfl _ _ _ ?_
  refine hG.1 12 _ _ rfl _ _ _ ?_
  refine ⟨(av_s0 hv0), ?_⟩
  refine hG.1 13 _ _ rfl _ _ _ ?_
  refine hG.1 14 _ _ rfl _ _ _ ?_
  refine ⟨(av_s2 hv0), by rw [(av_l2 hv0)]; exact H.1, ?_⟩
  replace H := H.2
  refine hG.1 15 _ _ rfl _ _ _ ?_
  refine ⟨fun h5 => ?_, fun h5 => ?_⟩
  · replace H := H.1 h5
    refine hG.1 25 _ _ rfl _ _ _ ?_
    show G 42 [some (.ref v0), some (.int v1), some (.int (v2 + 1)), some (.int v3)] [] σ
    refine hG.1 26 _ _ rfl _ _ _ ?_
    refine hG.2 4 [some (.ref v0), some (.int v1), some (.int (v2 + 1)), none] _ _ _ ⟨rfl, rfl, rfl, trivial⟩ ?_
    exact H
  · replace H := H.2 h5
    refine hG.1 16 _ _ rfl _ _ _ ?_
    refine hG.1 17 _ _ rfl _ _ _ ?_
    refine hG.1 18 _ _ rfl _ _ _ ?_
    refine hG.1 19 _ _ rfl _ _ _ ?_
    refine hG.1 20 _ _ rfl _ _ _ ?_
    obtain ⟨g3, H⟩ := H
    refine ⟨(av_s0 hv0), Nat.le_of_ble_eq_true rfl, g3, ⟨_, _, _, rfl, hv0, H.1⟩, fun r1 σ2 hp4 => ?_⟩
    replace H := H.2 r1 σ2 hp4
    refine hG.1 21 _ _ rfl _ _ _ ?_
    refine hG.1 22 _ _ rfl _ _ _ ?_
    show G 33 [some (.ref v0), some (.int (v1 + r1)), some (.int v2), some (.int v3)] [] σ2
    refine hG.1 23 _ _ rfl _ _ _ ?_
    show G 36 [some (.ref v0), some (.int (v1 + r1)), some (.int v2), some (.int (v3 + 1))] [] σ2
    refine hG.1 24 _ _ rfl _ _ _ ?_
    exact H
set_option maxRecDepth 100000 in
set_option maxHeartbeats 4000000 in
theorem hhX0_allSounds (g : gtX0_allSounds) (v0 : Nat) (hv0 : px_av v0) (σ : px_St) (h : qrX0_allSounds g v0 σ) (G : px_K) (hG : px_cl (opX0_allSounds (qoX0_allSounds g v0 σ)) G) : G 0 (px_ent 4 [.ref v0]) [] σ := by
  obtain ⟨hV, hw⟩ := h
  have h5 := hw.1
  refine sgX0_allSounds_0 hG v0 hv0 σ ?_
  have loop : ∀ n k, k + n = g.1 → G 4 [some (.ref v0), some (.int (pv_all g k)), some (.int (nI k)), none] [] σ := by
    intro n
    induction n with
    | zero =>
      intro k hk
      refine sgX0_allSounds_4 hG v0 hv0 _ _ σ ?_
      rw [hV.1.1]
      refine ⟨fun _ => ⟨rfl, by rw [show k = g.1 by omega]⟩, fun z => absurd (nI_le (by omega) (by omega)) z⟩
    | succ n ih =>
      intro k hk
      have hkg : k < g.1 := by omega
      obtain ⟨hk3, hl, hx9⟩ := hw.2.2.2 k hkg
      obtain ⟨g1, g2, g3, g4⟩ := hV.2 k hkg
      refine sgX0_allSounds_4 hG v0 hv0 _ _ σ ?_
      rw [hV.1.1]
      refine ⟨fun z => absurd z (nI_ge (by omega) (by omega)), fun _ => ?_⟩
      have inner : ∀ m i, i + m = (g.2.2.2 k).2.2.length → G 14 [some (.ref v0), some (.int (pv_acc ((g.2.2.2 k).2.2.take i) (pv_all g k))), some (.int (nI k)), some (.int (nI i))] [] σ := by
        intro m
        induction m with
        | zero =>
          intro i hi
          refine sgX0_allSounds_14 hG v0 hv0 _ _ _ σ ?_
          rw [nI_clamp (by omega), g2, nI_1]
          refine ⟨vp_in_nI (by omega) (by decide), fun _ => ?_, fun z => absurd (nI_le (by omega) (by omega)) z⟩
          rw [List.take_of_length_le (by omega)]
          exact ih (k + 1) (by omega)
        | succ m ihm =>
          intro i hi
          have hil : i < (g.2.2.2 k).2.2.length := by omega
          refine sgX0_allSounds_14 hG v0 hv0 _ _ _ σ ?_
          rw [nI_clamp (by omega), g2]
          refine ⟨vp_in_nI (by omega) (by decide), fun z => absurd z (nI_ge (by omega) (by omega)), fun _ => ⟨(g, k, i), ⟨hV, hw, hkg, hil, rfl, rfl⟩, fun r σ2 hq => ?_⟩⟩
          obtain ⟨rfl, rfl⟩ := hq
          have hx : (g.2.2.2 k).2.2[i]? = some ((g.2.2.2 k).2.2.getD i 0) := by rw [List.getD_eq_getElem?_getD, List.getElem?_eq_getElem hil]; rfl
          have e := ihm (i + 1) (by omega)
          unfold pv_acc at e ⊢
          rw [foldl_take _ _ _ _ _ hx, ← nI_1] at e
          exact e
      exact inner _ 0 (Nat.zero_add _)
  exact loop _ 0 (Nat.zero_add _)
theorem mX0_allSounds (g : gtX0_allSounds) : px_Met dC yX0_allSounds (Cond.code yX0_allSounds cX0_allSounds 4 (some .int) :: wdC) rmX0_allSounds px_vI (prX0_allSounds g) (poX0_allSounds g) :=
  px_met (Z := (cX0_allSounds, 4, RX0, Cond.code yX0_allSounds cX0_allSounds 4 (some .int) :: wdC, (some .int), rmX0_allSounds, dC)) opX0_allSounds (by decide) rfl rfl okX0_allSounds (fun As σ h => by obtain ⟨v0, rfl, hv0, h⟩ := h; exact Nat.le_of_ble_eq_true rfl) (fun As σ h G hG => by obtain ⟨v0, rfl, hv0, h⟩ := h; exact hhX0_allSounds g v0 hv0 σ h G hG)
