theorem mo_up {σ : px_St} {X : pv_X} {V : pv_V} {j : Nat} {x : Int32} (h : mo_is σ X) (hs : sn_ok X.2.1) (hj : j < 48) (hV : mv_is (fun i => if i = j then x else σ.1 1 i) V) : mo_is (px_up σ 1 j x) (xV X V) := by
  refine mo_V1 h hs (fun k hk => px_up_n (by omega)) ?_ (fun i hi => by rw [px_up_at, if_neg (by omega)])
  have e : (px_up σ 1 j x).1 1 = fun i => if i = j then x else σ.1 1 i := by
    funext i
    rw [px_up_at]
    by_cases hi : i = j
    · rw [if_pos ⟨rfl, hi⟩, if_pos hi]
    · rw [if_neg (fun q => hi q.2), if_neg hi]
  rw [e]
  exact hV
theorem i45 : vp_in (45 : Int32) 183 := vpin 45 183 rfl (by omega) (by omega)
theorem i46 : vp_in (46 : Int32) 183 := vpin 46 183 rfl (by omega) (by omega)
theorem i47 : vp_in (47 : Int32) 183 := vpin 47 183 rfl (by omega) (by omega)
theorem i48 : vp_in (48 : Int32) 183 := vpin 48 183 rfl (by omega) (by omega)
abbrev gtX6_parrot : Type := pv_X
def qrX6_parrot (X : pv_X) (_ _ : Int32) (σ : px_St) : Prop := mo_is σ X ∧ xo X
def qoX6_parrot (X : pv_X) (p w : Int32) (_ : px_St) (r : Int32) (σ' : px_St) : Prop := r = (x_parrot X p w).1 ∧ mo_is σ' (x_parrot X p w).2
def prX6_parrot (g : gtX6_parrot) : List Value → px_St → Prop := fun As σ => ∃ v1 : Int32, ∃ v2 : Int32, As = [.ref 0, .int v1, .int v2] ∧ qrX6_parrot g v1 v2 σ
def poX6_parrot (g : gtX6_parrot) : List Value → px_St → Int32 → px_St → Prop
  | [.ref _, .int v1, .int v2], σ, r, σ' => qoX6_parrot g v1 v2 σ r σ'
  | _, _, _, _ => False
theorem dX6_parrot_0 : decode cX6_parrot 0 = .ok (.aload_n 0, 1) := by decide +kernel
theorem dX6_parrot_1 : decode cX6_parrot 1 = .ok (.iload_n 1, 1) := by decide +kernel
theorem dX6_parrot_2 : decode cX6_parrot 2 = .ok (.invokevirtual 126, 3) := by decide +kernel
theorem dX6_parrot_5 : decode cX6_parrot 5 = .ok (.ifCond .eq 29, 3) := by decide +kernel
theorem dX6_parrot_8 : decode cX6_parrot 8 = .ok (.iload_n 2, 1) := by decide +kernel
theorem dX6_parrot_9 : decode cX6_parrot 9 = .ok (.i2l, 1) := by decide +kernel
theorem dX6_parrot_10 : decode cX6_parrot 10 = .ok (.lconst 0, 1) := by decide +kernel
theorem dX6_parrot_11 : decode cX6_parrot 11 = .ok (.ldc2_w 166, 3) := by decide +kernel
theorem dX6_parrot_14 : decode cX6_parrot 14 = .ok (.invokestatic 56, 3) := by decide +kernel
theorem dX6_parrot_17 : decode cX6_parrot 17 = .ok (.ifCond .ne 19, 3) := by decide +kernel
theorem dX6_parrot_20 : decode cX6_parrot 20 = .ok (.iload_n 2, 1) := by decide +kernel
theorem dX6_parrot_21 : decode cX6_parrot 21 = .ok (.i2l, 1) := by decide +kernel
theorem dX6_parrot_22 : decode cX6_parrot 22 = .ok (.ldc2_w 168, 3) := by decide +kernel
theorem dX6_parrot_25 : decode cX6_parrot 25 = .ok (.ldc2_w 170, 3) := by decide +kernel
theorem dX6_parrot_28 : decode cX6_parrot 28 = .ok (.invokestatic 56, 3) := by decide +kernel
theorem dX6_parrot_31 : decode cX6_parrot 31 = .ok (.ifCond .ne 5, 3) := by decide +kernel
theorem dX6_parrot_34 : decode cX6_parrot 34 = .ok (.iconst (-1), 1) := by decide +kernel
theorem dX6_parrot_35 : decode cX6_parrot 35 = .ok (.ireturn, 1) := by decide +kernel
theorem dX6_parrot_36 : decode cX6_parrot 36 = .ok (.aload_n 0, 1) := by decide +kernel
theorem dX6_parrot_37 : decode cX6_parrot 37 = .ok (.invokevirtual 163, 3) := by decide +kernel
theorem dX6_parrot_40 : decode cX6_parrot 40 = .ok (.iload_n 2, 1) := by decide +kernel
theorem dX6_parrot_41 : decode cX6_parrot 41 = .ok (.bipush 10, 2) := by decide +kernel
theorem dX6_parrot_43 : decode cX6_parrot 43 = .ok (.if_icmp .lt 33, 3) := by decide +kernel
theorem dX6_parrot_46 : decode cX6_parrot 46 = .ok (.iload_n 2, 1) := by decide +kernel
theorem dX6_parrot_47 : decode cX6_parrot 47 = .ok (.bipush 10, 2) := by decide +kernel
theorem dX6_parrot_49 : decode cX6_parrot 49 = .ok (.isub, 1) := by decide +kernel
theorem dX6_parrot_50 : decode cX6_parrot 50 = .ok (.aload_n 0, 1) := by decide +kernel
theorem dX6_parrot_51 : decode cX6_parrot 51 = .ok (.iload_n 1, 1) := by decide +kernel
theorem dX6_parrot_52 : decode cX6_parrot 52 = .ok (.iconst 1, 1) := by decide +kernel
theorem dX6_parrot_53 : decode cX6_parrot 53 = .ok (.invokevirtual 130, 3) := by decide +kernel
theorem dX6_parrot_56 : decode cX6_parrot 56 = .ok (.if_icmp .ge 17, 3) := by decide +kernel
theorem dX6_parrot_59 : decode cX6_parrot 59 = .ok (.aload_n 0, 1) := by decide +kernel
theorem dX6_parrot_60 : decode cX6_parrot 60 = .ok (.iload_n 1, 1) := by decide +kernel
theorem dX6_parrot_61 : decode cX6_parrot 61 = .ok (.iconst 3, 1) := by decide +kernel
theorem dX6_parrot_62 : decode cX6_parrot 62 = .ok (.iload_n 2, 1) := by decide +kernel
theorem dX6_parrot_63 : decode cX6_parrot 63 = .ok (.iadd, 1) := by decide +kernel
theorem dX6_parrot_64 : decode cX6_parrot 64 = .ok (.bipush 10, 2) := by decide +kernel
theorem dX6_parrot_66 : decode cX6_parrot 66 = .ok (.isub, 1) := by decide +kernel
theorem dX6_parrot_67 : decode cX6_parrot 67 = .ok (.invokevirtual 130, 3) := by decide +kernel
theorem dX6_parrot_70 : decode cX6_parrot 70 = .ok (.goto 5, 3) := by decide +kernel
theorem dX6_parrot_73 : decode cX6_parrot 73 = .ok (.bipush (-4), 2) := by decide +kernel
theorem dX6_parrot_75 : decode cX6_parrot 75 = .ok (.ireturn, 1) := by decide +kernel
theorem dX6_parrot_76 : decode cX6_parrot 76 = .ok (.iload_n 2, 1) := by decide +kernel
theorem dX6_parrot_77 : decode cX6_parrot 77 = .ok (.iconst 3, 1) := by decide +kernel
theorem dX6_parrot_78 : decode cX6_parrot 78 = .ok (.if_icmp .ne 11, 3) := by decide +kernel
theorem dX6_parrot_81 : decode cX6_parrot 81 = .ok (.aload_n 0, 1) := by decide +kernel
theorem dX6_parrot_82 : decode cX6_parrot 82 = .ok (.iload_n 1, 1) := by decide +kernel
theorem dX6_parrot_83 : decode cX6_parrot 83 = .ok (.invokevirtual 172, 3) := by decide +kernel
theorem dX6_parrot_86 : decode cX6_parrot 86 = .ok (.goto 9, 3) := by decide +kernel
theorem dX6_parrot_89 : decode cX6_parrot 89 = .ok (.aload_n 0, 1) := by decide +kernel
theorem dX6_parrot_90 : decode cX6_parrot 90 = .ok (.iload_n 1, 1) := by decide +kernel
theorem dX6_parrot_91 : decode cX6_parrot 91 = .ok (.iload_n 2, 1) := by decide +kernel
theorem dX6_parrot_92 : decode cX6_parrot 92 = .ok (.invokevirtual 130, 3) := by decide +kernel
theorem dX6_parrot_95 : decode cX6_parrot 95 = .ok (.ireturn, 1) := by decide +kernel
abbrev rmX6_parrot : Room := { frames := 2, cells := 0, slots := 0, locals := 46 }
def opX6_parrot (po : Int32 → px_St → Prop) : List (Nat × px_Op) := [
  (0, px_al 1 0),
  (1, px_il 2 1),
  (2, px_callV dM 5 6 1 px_vI prX6_isParrot poX6_isParrot),
  (5, px_if 8 34 (fun x => x = 0)),
  (8, px_il 9 2),
  (9, px_i2l 10),
  (10, px_push 11 (.long 0)),
  (11, px_push 14 (.long 3)),
  (14, px_callS 17 3 px_vI prX6_in poX6_in),
  (17, px_if 20 36 (fun x => ¬ x = 0)),
  (20, px_il 21 2),
  (21, px_i2l 22),
  (22, px_push 25 (.long 10)),
  (25, px_push 28 (.long 15)),
  (28, px_callS 31 3 px_vI prX6_in poX6_in),
  (31, px_if 34 36 (fun x => ¬ x = 0)),
  (34, px_push 35 (.int (-1))),
  (35, px_iret (.int) po),
  (36, px_al 37 0),
  (37, px_callV dM 40 6 0 px_vV prX6_starts poX6_starts),
  (40, px_il 41 2),
  (41, px_push 43 (.int 10)),
  (43, px_ic 46 76 (fun x y => x < y)),
  (46, px_il 47 2),
  (47, px_push 49 (.int 10)),
  (49, px_bin 50 (fun x y => x - y)),
  (50, px_al 51 0),
  (51, px_il 52 1),
  (52, px_push 53 (.int 1)),
  (53, px_callV dM 56 6 2 px_vI prX6_of poX6_of),
  (56, px_ic 59 73 (fun x y => y ≤ x)),
  (59, px_al 60 0),
  (60, px_il 61 1),
  (61, px_push 62 (.int 3)),
  (62, px_il 63 2),
  (63, px_bin 64 (fun x y => x + y)),
  (64, px_push 66 (.int 10)),
  (66, px_bin 67 (fun x y => x - y)),
  (67, px_callV dM 70 6 2 px_vI prX6_of poX6_of),
  (70, px_go 75),
  (73, px_push 75 (.int (-4))),
  (75, px_iret (.int) po),
  (76, px_il 77 2),
  (77, px_push 78 (.int 3)),
  (78, px_ic 81 89 (fun x y => ¬ x = y)),
  (81, px_al 82 0),
  (82, px_il 83 1),
  (83, px_callV dM 86 6 1 px_vI prX6_knownTo poX6_knownTo),
  (86, px_go 95),
  (89, px_al 90 0),
  (90, px_il 91 1),
  (91, px_il 92 2),
  (92, px_callV dM 95 6 2 px_vI prX6_of poX6_of),
  (95, px_iret (.int) po)]
set_option maxRecDepth 100000 in
set_option maxHeartbeats 4000000 in
theorem okX6_parrot : ∀ (po : Int32 → px_St → Prop) (i pc : Nat) (op : px_Op), (opX6_parrot po)[i]? = some (pc, op) → px_Snd (cX6_parrot, 3, RX6, Cond.code yX6_parrot cX6_parrot 3 (some .int) :: wdM, (some .int), rmX6_parrot, dM) px_vI po pc op := by
  intro po
  unfold opX6_parrot
  refine px_ok_cons (ps_aload_n dX6_parrot_0 rfl) ?_
  refine px_ok_cons (ps_iload_n dX6_parrot_1 rfl) ?_
  refine px_ok_cons (ps_callV mX6_isParrot (fun _ _ => rfl) (C := RX6) rfl (fun _ _ ht => px_cwV wgM (wdM_2_in _ (List.mem_of_getElem? (i := 7) rfl)) (wdM_2_in _ (List.mem_of_getElem? (i := 8) rfl)) (wdM_2_in _ (List.mem_of_getElem? (i := 9) rfl)) (wdM_0_in _ (List.mem_of_getElem? (i := 22) rfl)) (wdM_2_in _ (List.mem_of_getElem? (i := 3) rfl)) (by decide +kernel) rfl rfl (by decide) ht) dX6_parrot_2) ?_
  refine px_ok_cons (ps_if_eq dX6_parrot_5 (by decide)) ?_
  refine px_ok_cons (ps_iload_n dX6_parrot_8 rfl) ?_
  refine px_ok_cons (ps_i2l dX6_parrot_9) ?_
  refine px_ok_cons (ps_lconst dX6_parrot_10 (by decide)) ?_
  refine px_ok_cons (ps_ldc2 (List.mem_cons_of_mem _ (wdM_3_in _ (List.mem_of_getElem? (i := 22) rfl))) dX6_parrot_11) ?_
  refine px_ok_cons (ps_callS mX6_in (fun _ _ => rfl) (fun _ _ ht => px_cwS wgM (wdM_0_in _ (List.mem_of_getElem? (i := 32) rfl)) (wdM_0_in _ (List.mem_of_getElem? (i := 33) rfl)) (wdM_0_in _ (List.mem_of_getElem? (i := 22) rfl)) (wdM_0_in _ (List.mem_of_getElem? (i := 27) rfl)) (by decide +kernel) rfl rfl (by decide) ht) dX6_parrot_14) ?_
  refine px_ok_cons (ps_if_ne dX6_parrot_17 (by decide)) ?_
  refine px_ok_cons (ps_iload_n dX6_parrot_20 rfl) ?_
  refine px_ok_cons (ps_i2l dX6_parrot_21) ?_
  refine px_ok_cons (ps_ldc2 (List.mem_cons_of_mem _ (wdM_3_in _ (List.mem_of_getElem? (i := 23) rfl))) dX6_parrot_22) ?_
  refine px_ok_cons (ps_ldc2 (List.mem_cons_of_mem _ (wdM_3_in _ (List.mem_of_getElem? (i := 24) rfl))) dX6_parrot_25) ?_
  refine px_ok_cons (ps_callS mX6_in (fun _ _ => rfl) (fun _ _ ht => px_cwS wgM (wdM_0_in _ (List.mem_of_getElem? (i := 32) rfl)) (wdM_0_in _ (List.mem_of_getElem? (i := 33) rfl)) (wdM_0_in _ (List.mem_of_getElem? (i := 22) rfl)) (wdM_0_in _ (List.mem_of_getElem? (i := 27) rfl)) (by decide +kernel) rfl rfl (by decide) ht) dX6_parrot_28) ?_
  refine px_ok_cons (ps_if_ne dX6_parrot_31 (by decide)) ?_
  refine px_ok_cons (ps_iconst dX6_parrot_34 (by decide)) ?_
  refine px_ok_cons (ps_ireturn rfl dX6_parrot_35) ?_
  refine px_ok_cons (ps_aload_n dX6_parrot_36 rfl) ?_
  refine px_ok_cons (ps_callV mX6_starts (fun _ _ => rfl) (C := RX6) rfl (fun _ _ ht => px_cwV wgM (wdM_3_in _ (List.mem_of_getElem? (i := 19) rfl)) (wdM_3_in _ (List.mem_of_getElem? (i := 20) rfl)) (wdM_3_in _ (List.mem_of_getElem? (i := 21) rfl)) (wdM_0_in _ (List.mem_of_getElem? (i := 22) rfl)) (wdM_2_in _ (List.mem_of_getElem? (i := 11) rfl)) (by decide +kernel) rfl rfl (by decide) ht) dX6_parrot_37) ?_
  refine px_ok_cons (ps_iload_n dX6_parrot_40 rfl) ?_
  refine px_ok_cons (ps_bipush dX6_parrot_41 (by decide)) ?_
  refine px_ok_cons (ps_icmp_lt dX6_parrot_43 (by decide)) ?_
  refine px_ok_cons (ps_iload_n dX6_parrot_46 rfl) ?_
  refine px_ok_cons (ps_bipush dX6_parrot_47 (by decide)) ?_
  refine px_ok_cons (ps_isub dX6_parrot_49) ?_
  refine px_ok_cons (ps_aload_n dX6_parrot_50 rfl) ?_
  refine px_ok_cons (ps_iload_n dX6_parrot_51 rfl) ?_
  refine px_ok_cons (ps_iconst dX6_parrot_52 (by decide)) ?_
  refine px_ok_cons (ps_callV mX6_of (fun _ _ => rfl) (C := RX6) rfl (fun _ _ ht => px_cwV wgM (wdM_2_in _ (List.mem_of_getElem? (i := 16) rfl)) (wdM_2_in _ (List.mem_of_getElem? (i := 17) rfl)) (wdM_2_in _ (List.mem_of_getElem? (i := 18) rfl)) (wdM_0_in _ (List.mem_of_getElem? (i := 22) rfl)) (wdM_2_in _ (List.mem_of_getElem? (i := 13) rfl)) (by decide +kernel) rfl rfl (by decide) ht) dX6_parrot_53) ?_
  refine px_ok_cons (ps_icmp_ge dX6_parrot_56 (by decide)) ?_
  refine px_ok_cons (ps_aload_n dX6_parrot_59 rfl) ?_
  refine px_ok_cons (ps_iload_n dX6_parrot_60 rfl) ?_
  refine px_ok_cons (ps_iconst dX6_parrot_61 (by decide)) ?_
  refine px_ok_cons (ps_iload_n dX6_parrot_62 rfl) ?_
  refine px_ok_cons (ps_iadd dX6_parrot_63) ?_
  refine px_ok_cons (ps_bipush dX6_parrot_64 (by decide)) ?_
  refine px_ok_cons (ps_isub dX6_parrot_66) ?_
  refine px_ok_cons (ps_callV mX6_of (fun _ _ => rfl) (C := RX6) rfl (fun _ _ ht => px_cwV wgM (wdM_2_in _ (List.mem_of_getElem? (i := 16) rfl)) (wdM_2_in _ (List.mem_of_getElem? (i := 17) rfl)) (wdM_2_in _ (List.mem_of_getElem? (i := 18) rfl)) (wdM_0_in _ (List.mem_of_getElem? (i := 22) rfl)) (wdM_2_in _ (List.mem_of_getElem? (i := 13) rfl)) (by decide +kernel) rfl rfl (by decide) ht) dX6_parrot_67) ?_
  refine px_ok_cons (ps_goto dX6_parrot_70 (by decide)) ?_
  refine px_ok_cons (ps_bipush dX6_parrot_73 (by decide)) ?_
  refine px_ok_cons (ps_ireturn rfl dX6_parrot_75) ?_
  refine px_ok_cons (ps_iload_n dX6_parrot_76 rfl) ?_
  refine px_ok_cons (ps_iconst dX6_parrot_77 (by decide)) ?_
  refine px_ok_cons (ps_icmp_ne dX6_parrot_78 (by decide)) ?_
  refine px_ok_cons (ps_aload_n dX6_parrot_81 rfl) ?_
  refine px_ok_cons (ps_iload_n dX6_parrot_82 rfl) ?_
  refine px_ok_cons (ps_callV mX6_knownTo (fun _ _ => rfl) (C := RX6) rfl (fun _ _ ht => px_cwV wgM (wdM_3_in _ (List.mem_of_getElem? (i := 25) rfl)) (wdM_3_in _ (List.mem_of_getElem? (i := 26) rfl)) (wdM_3_in _ (List.mem_of_getElem? (i := 27) rfl)) (wdM_0_in _ (List.mem_of_getElem? (i := 22) rfl)) (wdM_3_in _ (List.mem_of_getElem? (i := 16) rfl)) (by decide +kernel) rfl rfl (by decide) ht) dX6_parrot_83) ?_
  refine px_ok_cons (ps_goto dX6_parrot_86 (by decide)) ?_
  refine px_ok_cons (ps_aload_n dX6_parrot_89 rfl) ?_
  refine px_ok_cons (ps_iload_n dX6_parrot_90 rfl) ?_
  refine px_ok_cons (ps_iload_n dX6_parrot_91 rfl) ?_
  refine px_ok_cons (ps_callV mX6_of (fun _ _ => rfl) (C := RX6) rfl (fun _ _ ht => px_cwV wgM (wdM_2_in _ (List.mem_of_getElem? (i := 16) rfl)) (wdM_2_in _ (List.mem_of_getElem? (i := 17) rfl)) (wdM_2_in _ (List.mem_of_getElem? (i := 18) rfl)) (wdM_0_in _ (List.mem_of_getElem? (i := 22) rfl)) (wdM_2_in _ (List.mem_of_getElem? (i := 13) rfl)) (by decide +kernel) rfl rfl (by decide) ht) dX6_parrot_92) ?_
  refine px_ok_cons (ps_ireturn rfl dX6_parrot_95) ?_
  exact px_ok_nil
set_option maxRecDepth 100000 in
set_option maxHeartbeats 4000000 in
theorem sgX6_parrot_0 {po : Int32 → px_St → Prop} {G : px_K} (hG : px_cl (opX6_parrot po) G) (v1 : Int32) (v2 : Int32) (σ : px_St)
    (H : ∃ g3 : gtX6_isParrot, qrX6_isParrot g3 v1 σ ∧ ∀ (r1 : Int32) (σ2 : px_St), qoX6_isParrot g3 v1 σ r1 σ2 → ((r1 = 0) → po (-1 : Int32) σ2) ∧ (¬ (r1 = 0) → ∃ g7 : gtX6_in, qrX6_in g7 v2.toInt64 (0 : Int64) (3 : Int64) σ2 ∧ ∀ (r5 : Int32) (σ6 : px_St), qoX6_in g7 v2.toInt64 (0 : Int64) (3 : Int64) σ2 r5 σ6 → ((¬ r5 = 0) → ∃ g11 : gtX6_starts, qrX6_starts g11 σ6 ∧ ∀ (r9 : Unit) (σ10 : px_St), qoX6_starts g11 σ6 r9 σ10 → ((v2 < (10 : Int32)) → ((¬ v2 = (3 : Int32)) → ∃ g15 : gtX6_of, qrX6_of g15 v1 v2 σ10 ∧ ∀ (r13 : Int32) (σ14 : px_St), qoX6_of g15 v1 v2 σ10 r13 σ14 → po r13 σ14) ∧ (¬ (¬ v2 = (3 : Int32)) → ∃ g19 : gtX6_knownTo, qrX6_knownTo g19 v1 σ10 ∧ ∀ (r17 : Int32) (σ18 : px_St), qoX6_knownTo g19 v1 σ10 r17 σ18 → po r17 σ18)) ∧ (¬ (v2 < (10 : Int32)) → ∃ g24 : gtX6_of, qrX6_of g24 v1 (1 : Int32) σ10 ∧ ∀ (r22 : Int32) (σ23 : px_St), qoX6_of g24 v1 (1 : Int32) σ10 r22 σ23 → ((r22 ≤ (v2 - (10 : Int32))) → po (-4 : Int32) σ23) ∧ (¬ (r22 ≤ (v2 - (10 : Int32))) → ∃ g28 : gtX6_of, qrX6_of g28 v1 (((3 : Int32) + v2) - (10 : Int32)) σ23 ∧ ∀ (r26 : Int32) (σ27 : px_St), qoX6_of g28 v1 (((3 : Int32) + v2) - (10 : Int32)) σ23 r26 σ27 → po r26 σ27))) ∧ (¬ (¬ r5 = 0) → ∃ g34 : gtX6_in, qrX6_in g34 v2.toInt64 (10 : Int64) (15 : Int64) σ6 ∧ ∀ (r32 : Int32) (σ33 : px_St), qoX6_in g34 v2.toInt64 (10 : Int64) (15 : Int64) σ6 r32 σ33 → ((¬ r32 = 0) → ∃ g38 : gtX6_starts, qrX6_starts g38 σ33 ∧ ∀ (r36 : Unit) (σ37 : px_St), qoX6_starts g38 σ33 r36 σ37 → ((v2 < (10 : Int32)) → ((¬ v2 = (3 : Int32)) → ∃ g42 : gtX6_of, qrX6_of g42 v1 v2 σ37 ∧ ∀ (r40 : Int32) (σ41 : px_St), qoX6_of g42 v1 v2 σ37 r40 σ41 → po r40 σ41) ∧ (¬ (¬ v2 = (3 : Int32)) → ∃ g46 : gtX6_knownTo, qrX6_knownTo g46 v1 σ37 ∧ ∀ (r44 : Int32) (σ45 : px_St), qoX6_knownTo g46 v1 σ37 r44 σ45 → po r44 σ45)) ∧ (¬ (v2 < (10 : Int32)) → ∃ g51 : gtX6_of, qrX6_of g51 v1 (1 : Int32) σ37 ∧ ∀ (r49 : Int32) (σ50 : px_St), qoX6_of g51 v1 (1 : Int32) σ37 r49 σ50 → ((r49 ≤ (v2 - (10 : Int32))) → po (-4 : Int32) σ50) ∧ (¬ (r49 ≤ (v2 - (10 : Int32))) → ∃ g55 : gtX6_of, qrX6_of g55 v1 (((3 : Int32) + v2) - (10 : Int32)) σ50 ∧ ∀ (r53 : Int32) (σ54 : px_St), qoX6_of g55 v1 (((3 : Int32) + v2) - (10 : Int32)) σ50 r53 σ54 → po r53 σ54))) ∧ (¬ (¬ r32 = 0) → po (-1 : Int32) σ33)))) :
    G 0 (px_ent 3 [.ref 0, .int v1, .int v2]) [] σ := by
  refine hG.1 0 _ _ rfl _ _ _ ?_
  refine hG.1 1 _ _ rfl _ _ _ ?_
  refine hG.1 2 _ _ rfl _ _ _ ?_
  obtain ⟨g3, H⟩ := H
  refine ⟨⟨rfl, by decide⟩, Nat.le_of_ble_eq_true rfl, g3, ⟨_, rfl, H.1⟩, fun r1 σ2 hp4 => ?_⟩
  replace H := H.2 r1 σ2 hp4
  refine hG.1 3 _ _ rfl _ _ _ ?_
  refine ⟨fun h61 => ?_, fun h61 => ?_⟩
  · replace H := H.1 h61
    refine hG.1 16 _ _ rfl _ _ _ ?_
    refine hG.1 17 _ _ rfl _ _ _ ?_
    exact ⟨rfl, H⟩
  · replace H := H.2 h61
    refine hG.1 4 _ _ rfl _ _ _ ?_
    refine hG.1 5 _ _ rfl _ _ _ ?_
    refine hG.1 6 _ _ rfl _ _ _ ?_
    refine hG.1 7 _ _ rfl _ _ _ ?_
    refine hG.1 8 _ _ rfl _ _ _ ?_
    obtain ⟨g7, H⟩ := H
    refine ⟨Nat.le_of_ble_eq_true rfl, Nat.le_of_ble_eq_true rfl, g7, ⟨_, _, _, rfl, H.1⟩, fun r5 σ6 hp8 => ?_⟩
    replace H := H.2 r5 σ6 hp8
    refine hG.1 9 _ _ rfl _ _ _ ?_
    refine ⟨fun h60 => ?_, fun h60 => ?_⟩
    · replace H := H.1 h60
      refine hG.1 18 _ _ rfl _ _ _ ?_
      refine hG.1 19 _ _ rfl _ _ _ ?_
      obtain ⟨g11, H⟩ := H
      refine ⟨⟨rfl, by decide⟩, Nat.le_of_ble_eq_true rfl, g11, ⟨rfl, H.1⟩, fun r9 σ10 hp12 => ?_⟩
      replace H := H.2 r9 σ10 hp12
      refine hG.1 20 _ _ rfl _ _ _ ?_
      refine hG.1 21 _ _ rfl _ _ _ ?_
      refine hG.1 22 _ _ rfl _ _ _ ?_
      refine ⟨fun h31 => ?_, fun h31 => ?_⟩
      · replace H := H.1 h31
        refine hG.1 42 _ _ rfl _ _ _ ?_
        refine hG.1 43 _ _ rfl _ _ _ ?_
        refine hG.1 44 _ _ rfl _ _ _ ?_
        refine ⟨fun h21 => ?_, fun h21 => ?_⟩
        · replace H := H.1 h21
          refine hG.1 49 _ _ rfl _ _ _ ?_
          refine hG.1 50 _ _ rfl _ _ _ ?_
          refine hG.1 51 _ _ rfl _ _ _ ?_
          refine hG.1 52 _ _ rfl _ _ _ ?_
          obtain ⟨g15, H⟩ := H
          refine ⟨⟨rfl, by decide⟩, Nat.le_of_ble_eq_true rfl, g15, ⟨_, _, rfl, H.1⟩, fun r13 σ14 hp16 => ?_⟩
          replace H := H.2 r13 σ14 hp16
          refine hG.1 53 _ _ rfl _ _ _ ?_
          exact ⟨rfl, H⟩
        · replace H := H.2 h21
          refine hG.1 45 _ _ rfl _ _ _ ?_
          refine hG.1 46 _ _ rfl _ _ _ ?_
          refine hG.1 47 _ _ rfl _ _ _ ?_
          obtain ⟨g19, H⟩ := H
          refine ⟨⟨rfl, by decide⟩, Nat.le_of_ble_eq_true rfl, g19, ⟨_, rfl, H.1⟩, fun r17 σ18 hp20 => ?_⟩
          replace H := H.2 r17 σ18 hp20
          refine hG.1 48 _ _ rfl _ _ _ ?_
          refine hG.1 53 _ _ rfl _ _ _ ?_
          exact ⟨rfl, H⟩
      · replace H := H.2 h31
        refine hG.1 23 _ _ rfl _ _ _ ?_
        refine hG.1 24 _ _ rfl _ _ _ ?_
        refine hG.1 25 _ _ rfl _ _ _ ?_
        refine hG.1 26 _ _ rfl _ _ _ ?_
        refine hG.1 27 _ _ rfl _ _ _ ?_
        refine hG.1 28 _ _ rfl _ _ _ ?_
        refine hG.1 29 _ _ rfl _ _ _ ?_
        obtain ⟨g24, H⟩ := H
        refine ⟨⟨rfl, by decide⟩, Nat.le_of_ble_eq_true rfl, g24, ⟨_, _, rfl, H.1⟩, fun r22 σ23 hp25 => ?_⟩
        replace H := H.2 r22 σ23 hp25
        refine hG.1 30 _ _ rfl _ _ _ ?_
        refine ⟨fun h30 => ?_, fun h30 => ?_⟩
        · replace H := H.1 h30
          refine hG.1 40 _ _ rfl _ _ _ ?_
          refine hG.1 41 _ _ rfl _ _ _ ?_
          exact ⟨rfl, H⟩
        · replace H := H.2 h30
          refine hG.1 31 _ _ rfl _ _ _ ?_
          refine hG.1 32 _ _ rfl _ _ _ ?_
          refine hG.1 33 _ _ rfl _ _ _ ?_
          refine hG.1 34 _ _ rfl _ _ _ ?_
          refine hG.1 35 _ _ rfl _ _ _ ?_
          refine hG.1 36 _ _ rfl _ _ _ ?_
          refine hG.1 37 _ _ rfl _ _ _ ?_
          refine hG.1 38 _ _ rfl _ _ _ ?_
          obtain ⟨g28, H⟩ := H
          refine ⟨⟨rfl, by decide⟩, Nat.le_of_ble_eq_true rfl, g28, ⟨_, _, rfl, H.1⟩, fun r26 σ27 hp29 => ?_⟩
          replace H := H.2 r26 σ27 hp29
          refine hG.1 39 _ _ rfl _ _ _ ?_
          refine hG.1 41 _ _ rfl _ _ _ ?_
          exact ⟨rfl, H⟩
    · replace H := H.2 h60
      refine hG.1 10 _ _ rfl _ _ _ ?_
      refine hG.1 11 _ _ rfl _ _ _ ?_
      refine hG.1 12 _ _ rfl _ _ _ ?_
      refine hG.1 13 _ _ rfl _ _ _ ?_
      refine hG.1 14 _ _ rfl _ _ _ ?_
      obtain ⟨g34, H⟩ := H
      refine ⟨Nat.le_of_ble_eq_true rfl, Nat.le_of_ble_eq_true rfl, g34, ⟨_, _, _, rfl, H.1⟩, fun r32 σ33 hp35 => ?_⟩
      replace H := H.2 r32 σ33 hp35
      refine hG.1 15 _ _ rfl _ _ _ ?_
      refine ⟨fun h59 => ?_, fun h59 => ?_⟩
      · replace H := H.1 h59
        refine hG.1 18 _ _ rfl _ _ _ ?_
        refine hG.1 19 _ _ rfl _ _ _ ?_
        obtain ⟨g38, H⟩ := H
        refine ⟨⟨rfl, by decide⟩, Nat.le_of_ble_eq_true rfl, g38, ⟨rfl, H.1⟩, fun r36 σ37 hp39 => ?_⟩
        replace H := H.2 r36 σ37 hp39
        refine hG.1 20 _ _ rfl _ _ _ ?_
        refine hG.1 21 _ _ rfl _ _ _ ?_
        refine hG.1 22 _ _ rfl _ _ _ ?_
        refine ⟨fun h58 => ?_, fun h58 => ?_⟩
        · replace H := H.1 h58
          refine hG.1 42 _ _ rfl _ _ _ ?_
          refine hG.1 43 _ _ rfl _ _ _ ?_
          refine hG.1 44 _ _ rfl _ _ _ ?_
          refine ⟨fun h48 => ?_, fun h48 => ?_⟩
          · replace H := H.1 h48
            refine hG.1 49 _ _ rfl _ _ _ ?_
            refine hG.1 50 _ _ rfl _ _ _ ?_
            refine hG.1 51 _ _ rfl _ _ _ ?_
            refine hG.1 52 _ _ rfl _ _ _ ?_
            obtain ⟨g42, H⟩ := H
            refine ⟨⟨rfl, by decide⟩, Nat.le_of_ble_eq_true rfl, g42, ⟨_, _, rfl, H.1⟩, fun r40 σ41 hp43 => ?_⟩
            replace H := H.2 r40 σ41 hp43
            refine hG.1 53 _ _ rfl _ _ _ ?_
            exact ⟨rfl, H⟩
          · replace H := H.2 h48
            refine hG.1 45 _ _ rfl _ _ _ ?_
            refine hG.1 46 _ _ rfl _ _ _ ?_
            refine hG.1 47 _ _ rfl _ _ _ ?_
            obtain ⟨g46, H⟩ := H
            refine ⟨⟨rfl, by decide⟩, Nat.le_of_ble_eq_true rfl, g46, ⟨_, rfl, H.1⟩, fun r44 σ45 hp47 => ?_⟩
            replace H := H.2 r44 σ45 hp47
            refine hG.1 48 _ _ rfl _ _ _ ?_
            refine hG.1 53 _ _ rfl _ _ _ ?_
            exact ⟨rfl, H⟩
        · replace H := H.2 h58
          refine hG.1 23 _ _ rfl _ _ _ ?_
          refine hG.1 24 _ _ rfl _ _ _ ?_
          refine hG.1 25 _ _ rfl _ _ _ ?_
          refine hG.1 26 _ _ rfl _ _ _ ?_
          refine hG.1 27 _ _ rfl _ _ _ ?_
          refine hG.1 28 _ _ rfl _ _ _ ?_
          refine hG.1 29 _ _ rfl _ _ _ ?_
          obtain ⟨g51, H⟩ := H
          refine ⟨⟨rfl, by decide⟩, Nat.le_of_ble_eq_true rfl, g51, ⟨_, _, rfl, H.1⟩, fun r49 σ50 hp52 => ?_⟩
          replace H := H.2 r49 σ50 hp52
          refine hG.1 30 _ _ rfl _ _ _ ?_
          refine ⟨fun h57 => ?_, fun h57 => ?_⟩
          · replace H := H.1 h57
            refine hG.1 40 _ _ rfl _ _ _ ?_
            refine hG.1 41 _ _ rfl _ _ _ ?_
            exact ⟨rfl, H⟩
          · replace H := H.2 h57
            refine hG.1 31 _ _ rfl _ _ _ ?_
            refine hG.1 32 _ _ rfl _ _ _ ?_
            refine hG.1 33 _ _ rfl _ _ _ ?_
            refine hG.1 34 _ _ rfl _ _ _ ?_
            refine hG.1 35 _ _ rfl _ _ _ ?_
            refine hG.1 36 _ _ rfl _ _ _ ?_
            refine hG.1 37 _ _ rfl _ _ _ ?_
            refine hG.1 38 _ _ rfl _ _ _ ?_
            obtain ⟨g55, H⟩ := H
            refine ⟨⟨rfl, by decide⟩, Nat.le_of_ble_eq_true rfl, g55, ⟨_, _, rfl, H.1⟩, fun r53 σ54 hp56 => ?_⟩
            replace H := H.2 r53 σ54 hp56
            refine hG.1 39 _ _ rfl _ _ _ ?_
            refine hG.1 41 _ _ rfl _ _ _ ?_
            exact ⟨rfl, H⟩
      · replace H := H.2 h59
        refine hG.1 16 _ _ rfl _ _ _ ?_
        refine hG.1 17 _ _ rfl _ _ _ ?_
        exact ⟨rfl, H⟩
set_option maxRecDepth 100000 in
set_option maxHeartbeats 4000000 in
theorem hhX6_parrot (g : gtX6_parrot) (v1 : Int32) (v2 : Int32) (σ : px_St) (h : qrX6_parrot g v1 v2 σ) (G : px_K) (hG : px_cl (opX6_parrot (qoX6_parrot g v1 v2 σ)) G) : G 0 (px_ent 3 [.ref 0, .int v1, .int v2]) [] σ := by
  obtain ⟨hX, hok⟩ := h
  have hvk := hok.1.1
  have h5 := hvk.1.1
  refine sgX6_parrot_0 hG _ _ σ ⟨g.1, hX.1, fun r1 σ1 h1 => ?_⟩
  obtain ⟨rfl, b1⟩ := h1
  unfold qoX6_parrot x_parrot
  simp only
  refine bz2 b1 (fun z => ⟨(), trivial, fun r2 σ2 h2 => ?_⟩) (fun z => ?_)
  · rw [xif_t z]
    obtain ⟨rfl, b2⟩ := h2
    obtain ⟨p, hp, rfl⟩ := (rng1 (by omega)).mp z
    obtain ⟨hk3, hl, hx9⟩ := hvk.1.2.2.2 p hp
    unfold xp
    rw [nI_clamp (by omega)]
    refine bz1 (in_c (a := 0) (b := 3) (by decide) (by decide) b2) (fun y => ⟨(), trivial, fun _ σ3 h3 => ?_⟩) (fun y => ⟨(), trivial, fun r3 σ3 h3 => ?_⟩)
    · have hX3 := (starts_mk h3).mo hX
      have hV3 := starts_mv h3 hX.1 hvk.1
      obtain ⟨g1, g2, g3, g4⟩ := hV3.2 p hp
      obtain ⟨j, hj, rfl⟩ := (rngc 3 3 rfl (by omega)).mp y
      have c10 : nI j < 10 ↔ j < 10 := nIlt _ 10 rfl rfl (by omega) (by omega)
      have c3 : nI j = 3 ↔ j = 3 := nIe _ 3 rfl rfl (by omega) (by omega)
      have c0 : nI j = 0 ↔ j = 0 := nIe _ 0 rfl rfl (by omega) (by omega)
      have c1 : nI j = 1 ↔ j = 1 := nIe _ 1 rfl rfl (by omega) (by omega)
      have c2 : nI j = 2 ↔ j = 2 := nIe _ 2 rfl rfl (by omega) (by omega)
      refine ⟨fun _ => ⟨fun n3 => ⟨9 * p + j, ⟨by omega, ix9 p j⟩, fun r4 σ4 h4 => ?_⟩, fun n3 => ⟨(g.1, p), ⟨hV3, hvk.1, hp, rfl⟩, fun r4 σ4 h4 => ?_⟩⟩, fun q => absurd (c10.mpr (by omega)) q⟩
      · obtain ⟨rfl, rfl⟩ := h4
        refine ⟨?_, hX3⟩
        have hj4 : j ≠ 3 := fun e => n3 (c3.mpr e)
        have hj3 : j = 0 ∨ j = 1 ∨ j = 2 := by omega
        rcases hj3 with rfl | rfl | rfl
        · rw [if_pos (by decide)]; exact g1
        · rw [if_neg (by decide), if_pos (by decide)]; exact g2
        · rw [if_neg (by decide), if_neg (by decide), if_pos (by decide)]; exact g3
      · obtain ⟨rfl, rfl⟩ := h4
        have hj4 : j = 3 := c3.mp (Classical.byContradiction n3)
        subst hj4
        rw [if_neg (by decide), if_neg (by decide), if_neg (by decide), if_pos (by decide)]
        exact ⟨rfl, hX3⟩
    · obtain ⟨rfl, b3⟩ := h3
      have n0 : ¬ v2 = 0 := fun e => y (by rw [e]; decide)
      have n1 : ¬ v2 = 1 := fun e => y (by rw [e]; decide)
      have n2 : ¬ v2 = 2 := fun e => y (by rw [e]; decide)
      have n3 : ¬ v2 = 3 := fun e => y (by rw [e]; decide)
      rw [if_neg n0, if_neg n1, if_neg n2, if_neg n3]
      refine bz1 (in_c (a := 10) (b := 15) (by decide) (by decide) b3) (fun x => ⟨(), trivial, fun _ σ4 h4 => ?_⟩) (fun x => ?_)
      · have hX3 := (starts_mk h4).mo hX
        have hV3 := starts_mv h4 hX.1 hvk.1
        obtain ⟨g1, g2, g3, g4⟩ := hV3.2 p hp
        rw [xif_t x]
        have hw : ∃ i, i ≤ 5 ∧ v2 = nI (i + 10) := by
          obtain ⟨j, hj, e⟩ := (rngc 15 15 rfl (by omega)).mp ⟨Int32.le_trans (by decide) x.1, x.2⟩
          have := (nIle 10 j rfl e (by omega) (by omega)).mp x.1
          exact ⟨j - 10, by omega, by rw [e, show j - 10 + 10 = j by omega]⟩
        obtain ⟨i, hi, rfl⟩ := hw
        have e10 : nI (i + 10) - 10 = nI i := by rw [show (10 : Int32) = nI 10 from rfl, pk_sub (by omega), show i + 10 - 10 = i by omega]
        have e13 : (3 : Int32) + nI (i + 10) - 10 = nI (3 + i) := by rw [show (10 : Int32) = nI 10 from rfl, show (3 : Int32) = nI 3 from rfl, nI_add, pk_sub (by omega), show 3 + (i + 10) - 10 = 3 + i by omega]
        have c10 : nI (i + 10) < 10 ↔ i + 10 < 10 := nIlt _ 10 rfl rfl (by omega) (by omega)
        rw [c10, e10, e13]
        refine ⟨fun q => absurd q (by omega), fun _ => ⟨9 * p + 1, ⟨by omega, ix9 p 1⟩, fun r5 σ5 h5 => ?_⟩⟩
        obtain ⟨rfl, rfl⟩ := h5
        rw [g2]
        refine ⟨fun q => ?_, fun q => ?_⟩
        · rw [xif_t q]
          exact ⟨rfl, hX3⟩
        · rw [xif_f q]
          have hil : i < (g.1.2.2.2 p).2.2.length := by
            rcases Nat.lt_or_ge i (g.1.2.2.2 p).2.2.length with q2 | q2
            · exact q2
            · exact absurd (nI_le q2 (by omega)) q
          refine ⟨9 * p + (3 + i), ⟨by omega, ix9 p (3 + i)⟩, fun r6 σ6 h6 => ?_⟩
          obtain ⟨rfl, rfl⟩ := h6
          refine ⟨?_, hX3⟩
          rw [nI_clamp (by omega), List.getD_eq_getElem?_getD, List.getElem?_eq_getElem hil, ← Nat.add_assoc]
          exact g4 i _ (List.getElem?_eq_getElem hil)
      · rw [xif_f x]
        exact ⟨rfl, hX⟩
  · rw [xif_f z]
    exact ⟨rfl, hX⟩
theorem mX6_parrot (g : gtX6_parrot) : px_Met dM yX6_parrot (Cond.code yX6_parrot cX6_parrot 3 (some .int) :: wdM) rmX6_parrot px_vI (prX6_parrot g) (poX6_parrot g) :=
  px_met (Z := (cX6_parrot, 3, RX6, Cond.code yX6_parrot cX6_parrot 3 (some .int) :: wdM, (some .int), rmX6_parrot, dM)) opX6_parrot (by decide) rfl rfl okX6_parrot (fun As σ h => by obtain ⟨v1, v2, rfl, h⟩ := h; exact Nat.le_of_ble_eq_true rfl) (fun As σ h G hG => by obtain ⟨v1, v2, rfl, h⟩ := h; exact hhX6_parrot g v1 v2 σ h G hG)
abbrev gtX6_knows : Type := pv_X
def qrX6_knows (X : pv_X) (_ : Int32) (σ : px_St) : Prop := mo_is σ X ∧ xo X
def qoX6_knows (X : pv_X) (s : Int32) (_ : px_St) (r : Int32) (σ' : px_St) : Prop := r = (x_knows X s).1 ∧ mo_is σ' (x_knows X s).2
def prX6_knows (g : gtX6_knows) : List Value → px_St → Prop := fun As σ => ∃ v1 : Int32, As = [.ref 0, .int v1] ∧ qrX6_knows g v1 σ
def poX6_knows (g : gtX6_knows) : List Value → px_St → Int32 → px_St → Prop
  | [.ref _, .int v1], σ, r, σ' => qoX6_knows g v1 σ r σ'
  | _, _, _, _ => False
theorem dX6_knows_0 : decode cX6_knows 0 = .ok (.iload_n 1, 1) := by decide +kernel
theorem dX6_knows_1 : decode cX6_knows 1 = .ok (.invokestatic 175, 3) := by decide +kernel
theorem dX6_knows_4 : decode cX6_knows 4 = .ok (.ifCond .ne 5, 3) := by decide +kernel
theorem dX6_knows_7 : decode cX6_knows 7 = .ok (.iconst (-1), 1) := by decide +kernel
theorem dX6_knows_8 : decode cX6_knows 8 = .ok (.ireturn, 1) := by decide +kernel
theorem dX6_knows_9 : decode cX6_knows 9 = .ok (.aload_n 0, 1) := by decide +kernel
theorem dX6_knows_10 : decode cX6_knows 10 = .ok (.invokevirtual 163, 3) := by decide +kernel
theorem dX6_knows_13 : decode cX6_knows 13 = .ok (.aload_n 0, 1) := by decide +kernel
theorem dX6_knows_14 : decode cX6_knows 14 = .ok (.iload_n 1, 1) := by decide +kernel
theorem dX6_knows_15 : decode cX6_knows 15 = .ok (.invokevirtual 178, 3) := by decide +kernel
theorem dX6_knows_18 : decode cX6_knows 18 = .ok (.ireturn, 1) := by decide +kernel
abbrev rmX6_knows : Room := { frames := 3, cells := 0, slots := 0, locals := 69 }
def opX6_knows (po : Int32 → px_St → Prop) : List (Nat × px_Op) := [
  (0, px_il 1 1),
  (1, px_callS 4 1 px_vI prX6_isSound poX6_isSound),
  (4, px_if 7 9 (fun x => ¬ x = 0)),
  (7, px_push 8 (.int (-1))),
  (8, px_iret (.int) po),
  (9, px_al 10 0),
  (10, px_callV dM 13 6 0 px_vV prX6_starts poX6_starts),
  (13, px_al 14 0),
  (14, px_il 15 1),
  (15, px_callV dM 18 6 1 px_vI prX6_knowing poX6_knowing),
  (18, px_iret (.int) po)]
set_option maxRecDepth 100000 in
set_option maxHeartbeats 4000000 in
theorem okX6_knows : ∀ (po : Int32 → px_St → Prop) (i pc : Nat) (op : px_Op), (opX6_knows po)[i]? = some (pc, op) → px_Snd (cX6_knows, 2, RX6, Cond.code yX6_knows cX6_knows 2 (some .int) :: wdM, (some .int), rmX6_knows, dM) px_vI po pc op := by
  intro po
  unfold opX6_knows
  refine px_ok_cons (ps_iload_n dX6_knows_0 rfl) ?_
  refine px_ok_cons (ps_callS mX6_isSound (fun _ _ => rfl) (fun _ _ ht => px_cwS wgM (wdM_3_in _ (List.mem_of_getElem? (i := 29) rfl)) (wdM_3_in _ (List.mem_of_getElem? (i := 30) rfl)) (wdM_0_in _ (List.mem_of_getElem? (i := 22) rfl)) (wdM_2_in _ (List.mem_of_getElem? (i := 4) rfl)) (by decide +kernel) rfl rfl (by decide) ht) dX6_knows_1) ?_
  refine px_ok_cons (ps_if_ne dX6_knows_4 (by decide)) ?_
  refine px_ok_cons (ps_iconst dX6_knows_7 (by decide)) ?_
  refine px_ok_cons (ps_ireturn rfl dX6_knows_8) ?_
  refine px_ok_cons (ps_aload_n dX6_knows_9 rfl) ?_
  refine px_ok_cons (ps_callV mX6_starts (fun _ _ => rfl) (C := RX6) rfl (fun _ _ ht => px_cwV wgM (wdM_3_in _ (List.mem_of_getElem? (i := 19) rfl)) (wdM_3_in _ (List.mem_of_getElem? (i := 20) rfl)) (wdM_3_in _ (List.mem_of_getElem? (i := 21) rfl)) (wdM_0_in _ (List.mem_of_getElem? (i := 22) rfl)) (wdM_2_in _ (List.mem_of_getElem? (i := 11) rfl)) (by decide +kernel) rfl rfl (by decide) ht) dX6_knows_10) ?_
  refine px_ok_cons (ps_aload_n dX6_knows_13 rfl) ?_
  refine px_ok_cons (ps_iload_n dX6_knows_14 rfl) ?_
  refine px_ok_cons (ps_callV mX6_knowing (fun _ _ => rfl) (C := RX6) rfl (fun _ _ ht => px_cwV wgM (wdM_3_in _ (List.mem_of_getElem? (i := 31) rfl)) (wdM_3_in _ (List.mem_of_getElem? (i := 32) rfl)) (wdM_3_in _ (List.mem_of_getElem? (i := 33) rfl)) (wdM_0_in _ (List.mem_of_getElem? (i := 22) rfl)) (wdM_3_in _ (List.mem_of_getElem? (i := 14) rfl)) (by decide +kernel) rfl rfl (by decide) ht) dX6_knows_15) ?_
  refine px_ok_cons (ps_ireturn rfl dX6_knows_18) ?_
  exact px_ok_nil
set_option maxRecDepth 100000 in
set_option maxHeartbeats 4000000 in
theorem sgX6_knows_0 {po : Int32 → px_St → Prop} {G : px_K} (hG : px_cl (opX6_knows po) G) (v1 : Int32) (σ : px_St)
    (H : ∃ g3 : gtX6_isSound, qrX6_isSound g3 v1 σ ∧ ∀ (r1 : Int32) (σ2 : px_St), qoX6_isSound g3 v1 σ r1 σ2 → ((¬ r1 = 0) → ∃ g7 : gtX6_starts, qrX6_starts g7 σ2 ∧ ∀ (r5 : Unit) (σ6 : px_St), qoX6_starts g7 σ2 r5 σ6 → ∃ g11 : gtX6_knowing, qrX6_knowing g11 v1 σ6 ∧ ∀ (r9 : Int32) (σ10 : px_St), qoX6_knowing g11 v1 σ6 r9 σ10 → po r9 σ10) ∧ (¬ (¬ r1 = 0) → po (-1 : Int32) σ2)) :
    G 0 (px_ent 2 [.ref 0, .int v1]) [] σ := by
  refine hG.1 0 _ _ rfl _ _ _ ?_
  refine hG.1 1 _ _ rfl _ _ _ ?_
  obtain ⟨g3, H⟩ := H
  refine ⟨Nat.le_of_ble_eq_true rfl, Nat.le_of_ble_eq_true rfl, g3, ⟨_, rfl, H.1⟩, fun r1 σ2 hp4 => ?_⟩
  replace H := H.2 r1 σ2 hp4
  refine hG.1 2 _ _ rfl _ _ _ ?_
  refine ⟨fun h13 => ?_, fun h13 => ?_⟩
  · replace H := H.1 h13
    refine hG.1 5 _ _ rfl _ _ _ ?_
    refine hG.1 6 _ _ rfl _ _ _ ?_
    obtain ⟨g7, H⟩ := H
    refine ⟨⟨rfl, by decide⟩, Nat.le_of_ble_eq_true rfl, g7, ⟨rfl, H.1⟩, fun r5 σ6 hp8 => ?_⟩
    replace H := H.2 r5 σ6 hp8
    refine hG.1 7 _ _ rfl _ _ _ ?_
    refine hG.1 8 _ _ rfl _ _ _ ?_
    refine hG.1 9 _ _ rfl _ _ _ ?_
    obtain ⟨g11, H⟩ := H
    refine ⟨⟨rfl, by decide⟩, Nat.le_of_ble_eq_true rfl, g11, ⟨_, rfl, H.1⟩, fun r9 σ10 hp12 => ?_⟩
    replace H := H.2 r9 σ10 hp12
    refine hG.1 10 _ _ rfl _ _ _ ?_
    exact ⟨rfl, H⟩
  · replace H := H.2 h13
    refine hG.1 3 _ _ rfl _ _ _ ?_
    refine hG.1 4 _ _ rfl _ _ _ ?_
    exact ⟨rfl, H⟩
set_option maxRecDepth 100000 in
set_option maxHeartbeats 4000000 in
theorem hhX6_knows (g : gtX6_knows) (v1 : Int32) (σ : px_St) (h : qrX6_knows g v1 σ) (G : px_K) (hG : px_cl (opX6_knows (qoX6_knows g v1 σ)) G) : G 0 (px_ent 2 [.ref 0, .int v1]) [] σ := by
  obtain ⟨hX, hok⟩ := h
  refine sgX6_knows_0 hG _ σ ⟨(), trivial, fun r1 σ1 h1 => ?_⟩
  obtain ⟨rfl, b1⟩ := h1
  unfold qoX6_knows x_knows
  simp only
  refine bz1 b1 (fun z => ⟨(), trivial, fun _ σ3 h3 => ?_⟩) (fun z => ?_)
  · rw [xif_t z]
    obtain ⟨s, hs, rfl⟩ := (rngc 9 9 rfl (by omega)).mp z
    refine ⟨(g.1, s), ⟨starts_mv h3 hX.1 hok.1.1.1, hok.1.1.1, hs, rfl⟩, fun r σ2 hq => ?_⟩
    obtain ⟨rfl, rfl⟩ := hq
    rw [nI_clamp (by omega)]
    exact ⟨rfl, (starts_mk h3).mo hX⟩
  · rw [xif_f z]
    exact ⟨rfl, hX⟩
theorem mX6_knows (g : gtX6_knows) : px_Met dM yX6_knows (Cond.code yX6_knows cX6_knows 2 (some .int) :: wdM) rmX6_knows px_vI (prX6_knows g) (poX6_knows g) :=
  px_met (Z := (cX6_knows, 2, RX6, Cond.code yX6_knows cX6_knows 2 (some .int) :: wdM, (some .int), rmX6_knows, dM)) opX6_knows (by decide) rfl rfl okX6_knows (fun As σ h => by obtain ⟨v1, rfl, h⟩ := h; exact Nat.le_of_ble_eq_true rfl) (fun As σ h G hG => by obtain ⟨v1, rfl, h⟩ := h; exact hhX6_knows g v1 σ h G hG)
abbrev gtX6_moult : Type := pv_X
def qrX6_moult (X : pv_X) (_ _ : Int32) (σ : px_St) : Prop := mo_is σ X ∧ xo X
def qoX6_moult (X : pv_X) (p v : Int32) (_ : px_St) (r : Int32) (σ' : px_St) : Prop := r = (x_moult X p v).1 ∧ mo_is σ' (x_moult X p v).2
def prX6_moult (g : gtX6_moult) : List Value → px_St → Prop := fun As σ => ∃ v1 : Int32, ∃ v2 : Int32, As = [.ref 0, .int v1, .int v2] ∧ qrX6_moult g v1 v2 σ
def poX6_moult (g : gtX6_moult) : List Value → px_St → Int32 → px_St → Prop
  | [.ref _, .int v1, .int v2], σ, r, σ' => qoX6_moult g v1 v2 σ r σ'
  | _, _, _, _ => False
theorem dX6_moult_0 : decode cX6_moult 0 = .ok (.aload_n 0, 1) := by decide +kernel
theorem dX6_moult_1 : decode cX6_moult 1 = .ok (.iload_n 1, 1) := by decide +kernel
theorem dX6_moult_2 : decode cX6_moult 2 = .ok (.invokevirtual 126, 3) := by decide +kernel
theorem dX6_moult_5 : decode cX6_moult 5 = .ok (.ifCond .eq 29, 3) := by decide +kernel
theorem dX6_moult_8 : decode cX6_moult 8 = .ok (.iload_n 2, 1) := by decide +kernel
theorem dX6_moult_9 : decode cX6_moult 9 = .ok (.i2l, 1) := by decide +kernel
theorem dX6_moult_10 : decode cX6_moult 10 = .ok (.lconst 0, 1) := by decide +kernel
theorem dX6_moult_11 : decode cX6_moult 11 = .ok (.ldc2_w 166, 3) := by decide +kernel
theorem dX6_moult_14 : decode cX6_moult 14 = .ok (.invokestatic 56, 3) := by decide +kernel
theorem dX6_moult_17 : decode cX6_moult 17 = .ok (.ifCond .eq 17, 3) := by decide +kernel
theorem dX6_moult_20 : decode cX6_moult 20 = .ok (.aload_n 0, 1) := by decide +kernel
theorem dX6_moult_21 : decode cX6_moult 21 = .ok (.bipush 9, 2) := by decide +kernel
theorem dX6_moult_23 : decode cX6_moult 23 = .ok (.iload_n 1, 1) := by decide +kernel
theorem dX6_moult_24 : decode cX6_moult 24 = .ok (.imul, 1) := by decide +kernel
theorem dX6_moult_25 : decode cX6_moult 25 = .ok (.iconst 0, 1) := by decide +kernel
theorem dX6_moult_26 : decode cX6_moult 26 = .ok (.iadd, 1) := by decide +kernel
theorem dX6_moult_27 : decode cX6_moult 27 = .ok (.iload_n 2, 1) := by decide +kernel
theorem dX6_moult_28 : decode cX6_moult 28 = .ok (.invokevirtual 181, 3) := by decide +kernel
theorem dX6_moult_31 : decode cX6_moult 31 = .ok (.goto 4, 3) := by decide +kernel
theorem dX6_moult_34 : decode cX6_moult 34 = .ok (.iconst (-1), 1) := by decide +kernel
theorem dX6_moult_35 : decode cX6_moult 35 = .ok (.ireturn, 1) := by decide +kernel
abbrev rmX6_moult : Room := { frames := 2, cells := 0, slots := 0, locals := 46 }
def opX6_moult (po : Int32 → px_St → Prop) : List (Nat × px_Op) := [
  (0, px_al 1 0),
  (1, px_il 2 1),
  (2, px_callV dM 5 6 1 px_vI prX6_isParrot poX6_isParrot),
  (5, px_if 8 34 (fun x => x = 0)),
  (8, px_il 9 2),
  (9, px_i2l 10),
  (10, px_push 11 (.long 0)),
  (11, px_push 14 (.long 3)),
  (14, px_callS 17 3 px_vI prX6_in poX6_in),
  (17, px_if 20 34 (fun x => x = 0)),
  (20, px_al 21 0),
  (21, px_push 23 (.int 9)),
  (23, px_il 24 1),
  (24, px_bin 25 (fun x y => x * y)),
  (25, px_push 26 (.int 0)),
  (26, px_bin 27 (fun x y => x + y)),
  (27, px_il 28 2),
  (28, px_callV dM 31 6 2 px_vI prX6_becomes poX6_becomes),
  (31, px_go 35),
  (34, px_push 35 (.int (-1))),
  (35, px_iret (.int) po)]
set_option maxRecDepth 100000 in
set_option maxHeartbeats 4000000 in
theorem okX6_moult : ∀ (po : Int32 → px_St → Prop) (i pc : Nat) (op : px_Op), (opX6_moult po)[i]? = some (pc, op) → px_Snd (cX6_moult, 3, RX6, Cond.code yX6_moult cX6_moult 3 (some .int) :: wdM, (some .int), rmX6_moult, dM) px_vI po pc op := by
  intro po
  unfold opX6_moult
  refine px_ok_cons (ps_aload_n dX6_moult_0 rfl) ?_
  refine px_ok_cons (ps_iload_n dX6_moult_1 rfl) ?_
  refine px_ok_cons (ps_callV mX6_isParrot (fun _ _ => rfl) (C := RX6) rfl (fun _ _ ht => px_cwV wgM (wdM_2_in _ (List.mem_of_getElem? (i := 7) rfl)) (wdM_2_in _ (List.mem_of_getElem? (i := 8) rfl)) (wdM_2_in _ (List.mem_of_getElem? (i := 9) rfl)) (wdM_0_in _ (List.mem_of_getElem? (i := 22) rfl)) (wdM_2_in _ (List.mem_of_getElem? (i := 3) rfl)) (by decide +kernel) rfl rfl (by decide) ht) dX6_moult_2) ?_
  refine px_ok_cons (ps_if_eq dX6_moult_5 (by decide)) ?_
  refine px_ok_cons (ps_iload_n dX6_moult_8 rfl) ?_
  refine px_ok_cons (ps_i2l dX6_moult_9) ?_
  refine px_ok_cons (ps_lconst dX6_moult_10 (by decide)) ?_
  refine px_ok_cons (ps_ldc2 (List.mem_cons_of_mem _ (wdM_3_in _ (List.mem_of_getElem? (i := 22) rfl))) dX6_moult_11) ?_
  refine px_ok_cons (ps_callS mX6_in (fun _ _ => rfl) (fun _ _ ht => px_cwS wgM (wdM_0_in _ (List.mem_of_getElem? (i := 32) rfl)) (wdM_0_in _ (List.mem_of_getElem? (i := 33) rfl)) (wdM_0_in _ (List.mem_of_getElem? (i := 22) rfl)) (wdM_0_in _ (List.mem_of_getElem? (i := 27) rfl)) (by decide +kernel) rfl rfl (by decide) ht) dX6_moult_14) ?_
  refine px_ok_cons (ps_if_eq dX6_moult_17 (by decide)) ?_
  refine px_ok_cons (ps_aload_n dX6_moult_20 rfl) ?_
  refine px_ok_cons (ps_bipush dX6_moult_21 (by decide)) ?_
  refine px_ok_cons (ps_iload_n dX6_moult_23 rfl) ?_
  refine px_ok_cons (ps_imul dX6_moult_24) ?_
  refine px_ok_cons (ps_iconst dX6_moult_25 (by decide)) ?_
  refine px_ok_cons (ps_iadd dX6_moult_26) ?_
  refine px_ok_cons (ps_iload_n dX6_moult_27 rfl) ?_
  refine px_ok_cons (ps_callV mX6_becomes (fun _ _ => rfl) (C := RX6) rfl (fun _ _ ht => px_cwV wgM (wdM_3_in _ (List.mem_of_getElem? (i := 37) rfl)) (wdM_3_in _ (List.mem_of_getElem? (i := 38) rfl)) (wdM_3_in _ (List.mem_of_getElem? (i := 39) rfl)) (wdM_0_in _ (List.mem_of_getElem? (i := 22) rfl)) (wdM_3_in _ (List.mem_of_getElem? (i := 35) rfl)) (by decide +kernel) rfl rfl (by decide) ht) dX6_moult_28) ?_
  refine px_ok_cons (ps_goto dX6_moult_31 (by decide)) ?_
  refine px_ok_cons (ps_iconst dX6_moult_34 (by decide)) ?_
  refine px_ok_cons (ps_ireturn rfl dX6_moult_35) ?_
  exact px_ok_nil
set_option maxRecDepth 100000 in
set_option maxHeartbeats 4000000 in
theorem sgX6_moult_0 {po : Int32 → px_St → Prop} {G : px_K} (hG : px_cl (opX6_moult po) G) (v1 : Int32) (v2 : Int32) (σ : px_St)
    (H : ∃ g3 : gtX6_isParrot, qrX6_isParrot g3 v1 σ ∧ ∀ (r1 : Int32) (σ2 : px_St), qoX6_isParrot g3 v1 σ r1 σ2 → ((r1 = 0) → po (-1 : Int32) σ2) ∧ (¬ (r1 = 0) → ∃ g7 : gtX6_in, qrX6_in g7 v2.toInt64 (0 : Int64) (3 : Int64) σ2 ∧ ∀ (r5 : Int32) (σ6 : px_St), qoX6_in g7 v2.toInt64 (0 : Int64) (3 : Int64) σ2 r5 σ6 → ((r5 = 0) → po (-1 : Int32) σ6) ∧ (¬ (r5 = 0) → ∃ g11 : gtX6_becomes, qrX6_becomes g11 (((9 : Int32) * v1) + (0 : Int32)) v2 σ6 ∧ ∀ (r9 : Int32) (σ10 : px_St), qoX6_becomes g11 (((9 : Int32) * v1) + (0 : Int32)) v2 σ6 r9 σ10 → po r9 σ10))) :
    G 0 (px_ent 3 [.ref 0, .int v1, .int v2]) [] σ := by
  refine hG.1 0 _ _ rfl _ _ _ ?_
  refine hG.1 1 _ _ rfl _ _ _ ?_
  refine hG.1 2 _ _ rfl _ _ _ ?_
  obtain ⟨g3, H⟩ := H
  refine ⟨⟨rfl, by decide⟩, Nat.le_of_ble_eq_true rfl, g3, ⟨_, rfl, H.1⟩, fun r1 σ2 hp4 => ?_⟩
  replace H := H.2 r1 σ2 hp4
  refine hG.1 3 _ _ rfl _ _ _ ?_
  refine ⟨fun h14 => ?_, fun h14 => ?_⟩
  · replace H := H.1 h14
    refine hG.1 19 _ _ rfl _ _ _ ?_
    refine hG.1 20 _ _ rfl _ _ _ ?_
    exact ⟨rfl, H⟩
  · replace H := H.2 h14
    refine hG.1 4 _ _ rfl _ _ _ ?_
    refine hG.1 5 _ _ rfl _ _ _ ?_
    refine hG.1 6 _ _ rfl _ _ _ ?_
    refine hG.1 7 _ _ rfl _ _ _ ?_
    refine hG.1 8 _ _ rfl _ _ _ ?_
    obtain ⟨g7, H⟩ := H
    refine ⟨Nat.le_of_ble_eq_true rfl, Nat.le_of_ble_eq_true rfl, g7, ⟨_, _, _, rfl, H.1⟩, fun r5 σ6 hp8 => ?_⟩
    replace H := H.2 r5 σ6 hp8
    refine hG.1 9 _ _ rfl _ _ _ ?_
    refine ⟨fun h13 => ?_, fun h13 => ?_⟩
    · replace H := H.1 h13
      refine hG.1 19 _ _ rfl _ _ _ ?_
      refine hG.1 20 _ _ rfl _ _ _ ?_
      exact ⟨rfl, H⟩
    · replace H := H.2 h13
      refine hG.1 10 _ _ rfl _ _ _ ?_
      refine hG.1 11 _ _ rfl _ _ _ ?_
      refine hG.1 12 _ _ rfl _ _ _ ?_
      refine hG.1 13 _ _ rfl _ _ _ ?_
      refine hG.1 14 _ _ rfl _ _ _ ?_
      refine hG.1 15 _ _ rfl _ _ _ ?_
      refine hG.1 16 _ _ rfl _ _ _ ?_
      refine hG.1 17 _ _ rfl _ _ _ ?_
      obtain ⟨g11, H⟩ := H
      refine ⟨⟨rfl, by decide⟩, Nat.le_of_ble_eq_true rfl, g11, ⟨_, _, rfl, H.1⟩, fun r9 σ10 hp12 => ?_⟩
      replace H := H.2 r9 σ10 hp12
      refine hG.1 18 _ _ rfl _ _ _ ?_
      refine hG.1 20 _ _ rfl _ _ _ ?_
      exact ⟨rfl, H⟩
set_option maxRecDepth 100000 in
set_option maxHeartbeats 4000000 in
theorem hhX6_moult (g : gtX6_moult) (v1 : Int32) (v2 : Int32) (σ : px_St) (h : qrX6_moult g v1 v2 σ) (G : px_K) (hG : px_cl (opX6_moult (qoX6_moult g v1 v2 σ)) G) : G 0 (px_ent 3 [.ref 0, .int v1, .int v2]) [] σ := by
  obtain ⟨hX, hok⟩ := h
  have hV := hX.1
  have hvk := hok.1.1
  have h5 := hvk.1.1
  refine sgX6_moult_0 hG _ _ σ ⟨g.1, hV, fun r1 σ1 h1 => ?_⟩
  obtain ⟨rfl, b1⟩ := h1
  unfold qoX6_moult x_moult
  refine bz2 b1 (fun z => ⟨(), trivial, fun r2 σ2 h2 => ?_⟩) (fun z => ?_)
  · obtain ⟨rfl, b2⟩ := h2
    refine bz2 (in_c (a := 0) (b := 3) (by decide) (by decide) b2) (fun y => ?_) (fun y => ?_)
    · rw [xif_t ⟨z, y⟩]
      obtain ⟨p, hp, rfl⟩ := (rng1 (by omega)).mp z
      obtain ⟨v, hv, rfl⟩ := (rngc 3 3 rfl (by omega)).mp y
      obtain ⟨g1, g2, g3, g4⟩ := hV.2 p hp
      unfold xp
      rw [nI_clamp (by omega), nI_clamp (by omega)]
      refine ⟨9 * p, ⟨by omega, ix9 p 0⟩, fun r3 σ3 h3 => ?_⟩
      obtain ⟨rfl, rfl⟩ := h3
      refine ⟨g1, mo_up hX hok.2.1 (by omega) (mv_mod hV (fun q hq => (hvk.1.2.2.2 q hq).2.1) (by omega) (fun j hj => if_neg (by omega)) ⟨?_, ?_, ?_, fun i x hx => ?_⟩)⟩
      · exact if_pos rfl
      · exact (if_neg (by omega)).trans g2
      · exact (if_neg (by omega)).trans g3
      · exact (if_neg (by omega)).trans (g4 i x hx)
    · rw [xif_f (fun q => y q.2)]
      exact ⟨rfl, hX⟩
  · rw [xif_f (fun q => z q.1)]
    exact ⟨rfl, hX⟩
theorem mX6_moult (g : gtX6_moult) : px_Met dM yX6_moult (Cond.code yX6_moult cX6_moult 3 (some .int) :: wdM) rmX6_moult px_vI (prX6_moult g) (poX6_moult g) :=
  px_met (Z := (cX6_moult, 3, RX6, Cond.code yX6_moult cX6_moult 3 (some .int) :: wdM, (some .int), rmX6_moult, dM)) opX6_moult (by decide) rfl rfl okX6_moult (fun As σ h => by obtain ⟨v1, v2, rfl, h⟩ := h; exact Nat.le_of_ble_eq_true rfl) (fun As σ h G hG => by obtain ⟨v1, v2, rfl, h⟩ := h; exact hhX6_moult g v1 v2 σ h G hG)
abbrev gtX6_turn : Type := pv_X
def qrX6_turn (X : pv_X) (_ _ : Int32) (σ : px_St) : Prop := mo_is σ X ∧ xo X
def qoX6_turn (X : pv_X) (p v : Int32) (_ : px_St) (r : Int32) (σ' : px_St) : Prop := r = (x_turn X p v).1 ∧ mo_is σ' (x_turn X p v).2
def prX6_turn (g : gtX6_turn) : List Value → px_St → Prop := fun As σ => ∃ v1 : Int32, ∃ v2 : Int32, As = [.ref 0, .int v1, .int v2] ∧ qrX6_turn g v1 v2 σ
def poX6_turn (g : gtX6_turn) : List Value → px_St → Int32 → px_St → Prop
  | [.ref _, .int v1, .int v2], σ, r, σ' => qoX6_turn g v1 v2 σ r σ'
  | _, _, _, _ => False
theorem dX6_turn_0 : decode cX6_turn 0 = .ok (.aload_n 0, 1) := by decide +kernel
theorem dX6_turn_1 : decode cX6_turn 1 = .ok (.iload_n 1, 1) := by decide +kernel
theorem dX6_turn_2 : decode cX6_turn 2 = .ok (.iload_n 2, 1) := by decide +kernel
theorem dX6_turn_3 : decode cX6_turn 3 = .ok (.invokevirtual 184, 3) := by decide +kernel
theorem dX6_turn_6 : decode cX6_turn 6 = .ok (.ifCond .eq 17, 3) := by decide +kernel
theorem dX6_turn_9 : decode cX6_turn 9 = .ok (.aload_n 0, 1) := by decide +kernel
theorem dX6_turn_10 : decode cX6_turn 10 = .ok (.bipush 9, 2) := by decide +kernel
theorem dX6_turn_12 : decode cX6_turn 12 = .ok (.iload_n 1, 1) := by decide +kernel
theorem dX6_turn_13 : decode cX6_turn 13 = .ok (.imul, 1) := by decide +kernel
theorem dX6_turn_14 : decode cX6_turn 14 = .ok (.iconst 2, 1) := by decide +kernel
theorem dX6_turn_15 : decode cX6_turn 15 = .ok (.iadd, 1) := by decide +kernel
theorem dX6_turn_16 : decode cX6_turn 16 = .ok (.iload_n 2, 1) := by decide +kernel
theorem dX6_turn_17 : decode cX6_turn 17 = .ok (.invokevirtual 181, 3) := by decide +kernel
theorem dX6_turn_20 : decode cX6_turn 20 = .ok (.goto 4, 3) := by decide +kernel
theorem dX6_turn_23 : decode cX6_turn 23 = .ok (.iconst (-1), 1) := by decide +kernel
theorem dX6_turn_24 : decode cX6_turn 24 = .ok (.ireturn, 1) := by decide +kernel
abbrev rmX6_turn : Room := { frames := 3, cells := 0, slots := 0, locals := 68 }
def opX6_turn (po : Int32 → px_St → Prop) : List (Nat × px_Op) := [
  (0, px_al 1 0),
  (1, px_il 2 1),
  (2, px_il 3 2),
  (3, px_callV dM 6 6 2 px_vI prX6_isOwn poX6_isOwn),
  (6, px_if 9 23 (fun x => x = 0)),
  (9, px_al 10 0),
  (10, px_push 12 (.int 9)),
  (12, px_il 13 1),
  (13, px_bin 14 (fun x y => x * y)),
  (14, px_push 15 (.int 2)),
  (15, px_bin 16 (fun x y => x + y)),
  (16, px_il 17 2),
  (17, px_callV dM 20 6 2 px_vI prX6_becomes poX6_becomes),
  (20, px_go 24),
  (23, px_push 24 (.int (-1))),
  (24, px_iret (.int) po)]
set_option maxRecDepth 100000 in
set_option maxHeartbeats 4000000 in
theorem okX6_turn : ∀ (po : Int32 → px_St → Prop) (i pc : Nat) (op : px_Op), (opX6_turn po)[i]? = some (pc, op) → px_Snd (cX6_turn, 3, RX6, Cond.code yX6_turn cX6_turn 3 (some .int) :: wdM, (some .int), rmX6_turn, dM) px_vI po pc op := by
  intro po
  unfold opX6_turn
  refine px_ok_cons (ps_aload_n dX6_turn_0 rfl) ?_
  refine px_ok_cons (ps_iload_n dX6_turn_1 rfl) ?_
  refine px_ok_cons (ps_iload_n dX6_turn_2 rfl) ?_
  refine px_ok_cons (ps_callV mX6_isOwn (fun _ _ => rfl) (C := RX6) rfl (fun _ _ ht => px_cwV wgM (wdM_4_in _ (List.mem_of_getElem? (i := 1) rfl)) (wdM_4_in _ (List.mem_of_getElem? (i := 2) rfl)) (wdM_4_in _ (List.mem_of_getElem? (i := 3) rfl)) (wdM_0_in _ (List.mem_of_getElem? (i := 22) rfl)) (wdM_2_in _ (List.mem_of_getElem? (i := 6) rfl)) (by decide +kernel) rfl rfl (by decide) ht) dX6_turn_3) ?_
  refine px_ok_cons (ps_if_eq dX6_turn_6 (by decide)) ?_
  refine px_ok_cons (ps_aload_n dX6_turn_9 rfl) ?_
  refine px_ok_cons (ps_bipush dX6_turn_10 (by decide)) ?_
  refine px_ok_cons (ps_iload_n dX6_turn_12 rfl) ?_
  refine px_ok_cons (ps_imul dX6_turn_13) ?_
  refine px_ok_cons (ps_iconst dX6_turn_14 (by decide)) ?_
  refine px_ok_cons (ps_iadd dX6_turn_15) ?_
  refine px_ok_cons (ps_iload_n dX6_turn_16 rfl) ?_
  refine px_ok_cons (ps_callV mX6_becomes (fun _ _ => rfl) (C := RX6) rfl (fun _ _ ht => px_cwV wgM (wdM_3_in _ (List.mem_of_getElem? (i := 37) rfl)) (wdM_3_in _ (List.mem_of_getElem? (i := 38) rfl)) (wdM_3_in _ (List.mem_of_getElem? (i := 39) rfl)) (wdM_0_in _ (List.mem_of_getElem? (i := 22) rfl)) (wdM_3_in _ (List.mem_of_getElem? (i := 35) rfl)) (by decide +kernel) rfl rfl (by decide) ht) dX6_turn_17) ?_
  refine px_ok_cons (ps_goto dX6_turn_20 (by decide)) ?_
  refine px_ok_cons (ps_iconst dX6_turn_23 (by decide)) ?_
  refine px_ok_cons (ps_ireturn rfl dX6_turn_24) ?_
  exact px_ok_nil
set_option maxRecDepth 100000 in
set_option maxHeartbeats 4000000 in
theorem sgX6_turn_0 {po : Int32 → px_St → Prop} {G : px_K} (hG : px_cl (opX6_turn po) G) (v1 : Int32) (v2 : Int32) (σ : px_St)
    (H : ∃ g3 : gtX6_isOwn, qrX6_isOwn g3 v1 v2 σ ∧ ∀ (r1 : Int32) (σ2 : px_St), qoX6_isOwn g3 v1 v2 σ r1 σ2 → ((r1 = 0) → po (-1 : Int32) σ2) ∧ (¬ (r1 = 0) → ∃ g7 : gtX6_becomes, qrX6_becomes g7 (((9 : Int32) * v1) + (2 : Int32)) v2 σ2 ∧ ∀ (r5 : Int32) (σ6 : px_St), qoX6_becomes g7 (((9 : Int32) * v1) + (2 : Int32)) v2 σ2 r5 σ6 → po r5 σ6)) :
    G 0 (px_ent 3 [.ref 0, .int v1, .int v2]) [] σ := by
  refine hG.1 0 _ _ rfl _ _ _ ?_
  refine hG.1 1 _ _ rfl _ _ _ ?_
  refine hG.1 2 _ _ rfl _ _ _ ?_
  refine hG.1 3 _ _ rfl _ _ _ ?_
  obtain ⟨g3, H⟩ := H
  refine ⟨⟨rfl, by decide⟩, Nat.le_of_ble_eq_true rfl, g3, ⟨_, _, rfl, H.1⟩, fun r1 σ2 hp4 => ?_⟩
  replace H := H.2 r1 σ2 hp4
  refine hG.1 4 _ _ rfl _ _ _ ?_
  refine ⟨fun h9 => ?_, fun h9 => ?_⟩
  · replace H := H.1 h9
    refine hG.1 14 _ _ rfl _ _ _ ?_
    refine hG.1 15 _ _ rfl _ _ _ ?_
    exact ⟨rfl, H⟩
  · replace H := H.2 h9
    refine hG.1 5 _ _ rfl _ _ _ ?_
    refine hG.1 6 _ _ rfl _ _ _ ?_
    refine hG.1 7 _ _ rfl _ _ _ ?_
    refine hG.1 8 _ _ rfl _ _ _ ?_
    refine hG.1 9 _ _ rfl _ _ _ ?_
    refine hG.1 10 _ _ rfl _ _ _ ?_
    refine hG.1 11 _ _ rfl _ _ _ ?_
    refine hG.1 12 _ _ rfl _ _ _ ?_
    obtain ⟨g7, H⟩ := H
    refine ⟨⟨rfl, by decide⟩, Nat.le_of_ble_eq_true rfl, g7, ⟨_, _, rfl, H.1⟩, fun r5 σ6 hp8 => ?_⟩
    replace H := H.2 r5 σ6 hp8
    refine hG.1 13 _ _ rfl _ _ _ ?_
    refine hG.1 15 _ _ rfl _ _ _ ?_
    exact ⟨rfl, H⟩
set_option maxRecDepth 100000 in
set_option maxHeartbeats 4000000 in
theorem hhX6_turn (g : gtX6_turn) (v1 : Int32) (v2 : Int32) (σ : px_St) (h : qrX6_turn g v1 v2 σ) (G : px_K) (hG : px_cl (opX6_turn (qoX6_turn g v1 v2 σ)) G) : G 0 (px_ent 3 [.ref 0, .int v1, .int v2]) [] σ := by
  obtain ⟨hX, hok⟩ := h
  have hV := hX.1
  have hvk := hok.1.1
  have h5 := hvk.1.1
  refine sgX6_turn_0 hG _ _ σ ⟨g.1, ⟨hV, hvk.1⟩, fun r1 σ1 h1 => ?_⟩
  obtain ⟨rfl, b1⟩ := h1
  unfold qoX6_turn x_turn
  refine bz2 b1 (fun z => ?_) (fun z => ?_)
  · rw [xif_t z]
    obtain ⟨p, i, hp, hi, rfl, rfl⟩ := pv_own_of hvk.1 z
    have hl := (hvk.1.2.2.2 p hp).2.1
    obtain ⟨g1, g2, g3, g4⟩ := hV.2 p hp
    unfold xp
    rw [nI_clamp (by omega), nI_clamp (by omega)]
    refine ⟨9 * p + 2, ⟨by omega, ix9 p 2⟩, fun r3 σ3 h3 => ?_⟩
    obtain ⟨rfl, rfl⟩ := h3
    refine ⟨g3, mo_up hX hok.2.1 (by omega) (mv_mod hV (fun q hq => (hvk.1.2.2.2 q hq).2.1) (by omega) (fun j hj => if_neg (by omega)) ⟨?_, ?_, ?_, fun i x hx => ?_⟩)⟩
    · exact (if_neg (by omega)).trans g1
    · exact (if_neg (by omega)).trans g2
    · exact if_pos rfl
    · exact (if_neg (by omega)).trans (g4 i x hx)
  · rw [xif_f z]
    exact ⟨rfl, hX⟩
theorem mX6_turn (g : gtX6_turn) : px_Met dM yX6_turn (Cond.code yX6_turn cX6_turn 3 (some .int) :: wdM) rmX6_turn px_vI (prX6_turn g) (poX6_turn g) :=
  px_met (Z := (cX6_turn, 3, RX6, Cond.code yX6_turn cX6_turn 3 (some .int) :: wdM, (some .int), rmX6_turn, dM)) opX6_turn (by decide) rfl rfl okX6_turn (fun As σ h => by obtain ⟨v1, v2, rfl, h⟩ := h; exact Nat.le_of_ble_eq_true rfl) (fun As σ h G hG => by obtain ⟨v1, v2, rfl, h⟩ := h; exact hhX6_turn g v1 v2 σ h G hG)
abbrev gtX6_teach : Type := pv_X
def qrX6_teach (X : pv_X) (_ _ : Int32) (σ : px_St) : Prop := mo_is σ X ∧ xo X
def qoX6_teach (X : pv_X) (p s : Int32) (σ : px_St) (r : Int32) (σ' : px_St) : Prop := r = (x_teach X p s).1 ∧ mo_is σ' (x_teach X p s).2 ∧ σ'.1 11 = σ.1 11
def prX6_teach (g : gtX6_teach) : List Value → px_St → Prop := fun As σ => ∃ v1 : Int32, ∃ v2 : Int32, As = [.ref 0, .int v1, .int v2] ∧ qrX6_teach g v1 v2 σ
def poX6_teach (g : gtX6_teach) : List Value → px_St → Int32 → px_St → Prop
  | [.ref _, .int v1, .int v2], σ, r, σ' => qoX6_teach g v1 v2 σ r σ'
  | _, _, _, _ => False
theorem dX6_teach_0 : decode cX6_teach 0 = .ok (.aload_n 0, 1) := by decide +kernel
theorem dX6_teach_1 : decode cX6_teach 1 = .ok (.iload_n 1, 1) := by decide +kernel
theorem dX6_teach_2 : decode cX6_teach 2 = .ok (.invokevirtual 126, 3) := by decide +kernel
theorem dX6_teach_5 : decode cX6_teach 5 = .ok (.ifCond .eq 10, 3) := by decide +kernel
theorem dX6_teach_8 : decode cX6_teach 8 = .ok (.iload_n 2, 1) := by decide +kernel
theorem dX6_teach_9 : decode cX6_teach 9 = .ok (.invokestatic 175, 3) := by decide +kernel
theorem dX6_teach_12 : decode cX6_teach 12 = .ok (.ifCond .ne 5, 3) := by decide +kernel
theorem dX6_teach_15 : decode cX6_teach 15 = .ok (.iconst (-1), 1) := by decide +kernel
theorem dX6_teach_16 : decode cX6_teach 16 = .ok (.ireturn, 1) := by decide +kernel
theorem dX6_teach_17 : decode cX6_teach 17 = .ok (.aload_n 0, 1) := by decide +kernel
theorem dX6_teach_18 : decode cX6_teach 18 = .ok (.invokevirtual 163, 3) := by decide +kernel
theorem dX6_teach_21 : decode cX6_teach 21 = .ok (.aload_n 0, 1) := by decide +kernel
theorem dX6_teach_22 : decode cX6_teach 22 = .ok (.iload_n 1, 1) := by decide +kernel
theorem dX6_teach_23 : decode cX6_teach 23 = .ok (.iload_n 2, 1) := by decide +kernel
theorem dX6_teach_24 : decode cX6_teach 24 = .ok (.invokevirtual 153, 3) := by decide +kernel
theorem dX6_teach_27 : decode cX6_teach 27 = .ok (.aload_n 0, 1) := by decide +kernel
theorem dX6_teach_28 : decode cX6_teach 28 = .ok (.invokevirtual 187, 3) := by decide +kernel
theorem dX6_teach_31 : decode cX6_teach 31 = .ok (.aload_n 0, 1) := by decide +kernel
theorem dX6_teach_32 : decode cX6_teach 32 = .ok (.iload_n 1, 1) := by decide +kernel
theorem dX6_teach_33 : decode cX6_teach 33 = .ok (.iconst 1, 1) := by decide +kernel
theorem dX6_teach_34 : decode cX6_teach 34 = .ok (.invokevirtual 130, 3) := by decide +kernel
theorem dX6_teach_37 : decode cX6_teach 37 = .ok (.ireturn, 1) := by decide +kernel
abbrev rmX6_teach : Room := { frames := 3, cells := 0, slots := 0, locals := 70 }
def opX6_teach (po : Int32 → px_St → Prop) : List (Nat × px_Op) := [
  (0, px_al 1 0),
  (1, px_il 2 1),
  (2, px_callV dM 5 6 1 px_vI prX6_isParrot poX6_isParrot),
  (5, px_if 8 15 (fun x => x = 0)),
  (8, px_il 9 2),
  (9, px_callS 12 1 px_vI prX6_isSound poX6_isSound),
  (12, px_if 15 17 (fun x => ¬ x = 0)),
  (15, px_push 16 (.int (-1))),
  (16, px_iret (.int) po),
  (17, px_al 18 0),
  (18, px_callV dM 21 6 0 px_vV prX6_starts poX6_starts),
  (21, px_al 22 0),
  (22, px_il 23 1),
  (23, px_il 24 2),
  (24, px_callV dM 27 6 2 px_vV prX6_learns poX6_learns),
  (27, px_al 28 0),
  (28, px_callV dM 31 6 0 px_vV prX6_settles poX6_settles),
  (31, px_al 32 0),
  (32, px_il 33 1),
  (33, px_push 34 (.int 1)),
  (34, px_callV dM 37 6 2 px_vI prX6_of poX6_of),
  (37, px_iret (.int) po)]
set_option maxRecDepth 100000 in
set_option maxHeartbeats 4000000 in
theorem okX6_teach : ∀ (po : Int32 → px_St → Prop) (i pc : Nat) (op : px_Op), (opX6_teach po)[i]? = some (pc, op) → px_Snd (cX6_teach, 3, RX6, Cond.code yX6_teach cX6_teach 3 (some .int) :: wdM, (some .int), rmX6_teach, dM) px_vI po pc op := by
  intro po
  unfold opX6_teach
  refine px_ok_cons (ps_aload_n dX6_teach_0 rfl) ?_
  refine px_ok_cons (ps_iload_n dX6_teach_1 rfl) ?_
  refine px_ok_cons (ps_callV mX6_isParrot (fun _ _ => rfl) (C := RX6) rfl (fun _ _ ht => px_cwV wgM (wdM_2_in _ (List.mem_of_getElem? (i := 7) rfl)) (wdM_2_in _ (List.mem_of_getElem? (i := 8) rfl)) (wdM_2_in _ (List.mem_of_getElem? (i := 9) rfl)) (wdM_0_in _ (List.mem_of_getElem? (i := 22) rfl)) (wdM_2_in _ (List.mem_of_getElem? (i := 3) rfl)) (by decide +kernel) rfl rfl (by decide) ht) dX6_teach_2) ?_
  refine px_ok_cons (ps_if_eq dX6_teach_5 (by decide)) ?_
  refine px_ok_cons (ps_iload_n dX6_teach_8 rfl) ?_
  refine px_ok_cons (ps_callS mX6_isSound (fun _ _ => rfl) (fun _ _ ht => px_cwS wgM (wdM_3_in _ (List.mem_of_getElem? (i := 29) rfl)) (wdM_3_in _ (List.mem_of_getElem? (i := 30) rfl)) (wdM_0_in _ (List.mem_of_getElem? (i := 22) rfl)) (wdM_2_in _ (List.mem_of_getElem? (i := 4) rfl)) (by decide +kernel) rfl rfl (by decide) ht) dX6_teach_9) ?_
  refine px_ok_cons (ps_if_ne dX6_teach_12 (by decide)) ?_
  refine px_ok_cons (ps_iconst dX6_teach_15 (by decide)) ?_
  refine px_ok_cons (ps_ireturn rfl dX6_teach_16) ?_
  refine px_ok_cons (ps_aload_n dX6_teach_17 rfl) ?_
  refine px_ok_cons (ps_callV mX6_starts (fun _ _ => rfl) (C := RX6) rfl (fun _ _ ht => px_cwV wgM (wdM_3_in _ (List.mem_of_getElem? (i := 19) rfl)) (wdM_3_in _ (List.mem_of_getElem? (i := 20) rfl)) (wdM_3_in _ (List.mem_of_getElem? (i := 21) rfl)) (wdM_0_in _ (List.mem_of_getElem? (i := 22) rfl)) (wdM_2_in _ (List.mem_of_getElem? (i := 11) rfl)) (by decide +kernel) rfl rfl (by decide) ht) dX6_teach_18) ?_
  refine px_ok_cons (ps_aload_n dX6_teach_21 rfl) ?_
  refine px_ok_cons (ps_iload_n dX6_teach_22 rfl) ?_
  refine px_ok_cons (ps_iload_n dX6_teach_23 rfl) ?_
  refine px_ok_cons (ps_callV mX6_learns (fun _ _ => rfl) (C := RX6) rfl (fun _ _ ht => px_cwV wgM (wdM_3_in _ (List.mem_of_getElem? (i := 2) rfl)) (wdM_3_in _ (List.mem_of_getElem? (i := 3) rfl)) (wdM_3_in _ (List.mem_of_getElem? (i := 4) rfl)) (wdM_0_in _ (List.mem_of_getElem? (i := 22) rfl)) (wdM_2_in _ (List.mem_of_getElem? (i := 25) rfl)) (by decide +kernel) rfl rfl (by decide) ht) dX6_teach_24) ?_
  refine px_ok_cons (ps_aload_n dX6_teach_27 rfl) ?_
  refine px_ok_cons (ps_callV mX6_settles (fun _ _ => rfl) (C := RX6) rfl (fun _ _ ht => px_cwV wgM (wdM_4_in _ (List.mem_of_getElem? (i := 4) rfl)) (wdM_4_in _ (List.mem_of_getElem? (i := 5) rfl)) (wdM_4_in _ (List.mem_of_getElem? (i := 6) rfl)) (wdM_0_in _ (List.mem_of_getElem? (i := 22) rfl)) (wdM_2_in _ (List.mem_of_getElem? (i := 12) rfl)) (by decide +kernel) rfl rfl (by decide) ht) dX6_teach_28) ?_
  refine px_ok_cons (ps_aload_n dX6_teach_31 rfl) ?_
  refine px_ok_cons (ps_iload_n dX6_teach_32 rfl) ?_
  refine px_ok_cons (ps_iconst dX6_teach_33 (by decide)) ?_
  refine px_ok_cons (ps_callV mX6_of (fun _ _ => rfl) (C := RX6) rfl (fun _ _ ht => px_cwV wgM (wdM_2_in _ (List.mem_of_getElem? (i := 16) rfl)) (wdM_2_in _ (List.mem_of_getElem? (i := 17) rfl)) (wdM_2_in _ (List.mem_of_getElem? (i := 18) rfl)) (wdM_0_in _ (List.mem_of_getElem? (i := 22) rfl)) (wdM_2_in _ (List.mem_of_getElem? (i := 13) rfl)) (by decide +kernel) rfl rfl (by decide) ht) dX6_teach_34) ?_
  refine px_ok_cons (ps_ireturn rfl dX6_teach_37) ?_
  exact px_ok_nil
set_option maxRecDepth 100000 in
set_option maxHeartbeats 4000000 in
theorem sgX6_teach_0 {po : Int32 → px_St → Prop} {G : px_K} (hG : px_cl (opX6_teach po) G) (v1 : Int32) (v2 : Int32) (σ : px_St)
    (H : ∃ g3 : gtX6_isParrot, qrX6_isParrot g3 v1 σ ∧ ∀ (r1 : Int32) (σ2 : px_St), qoX6_isParrot g3 v1 σ r1 σ2 → ((r1 = 0) → po (-1 : Int32) σ2) ∧ (¬ (r1 = 0) → ∃ g7 : gtX6_isSound, qrX6_isSound g7 v2 σ2 ∧ ∀ (r5 : Int32) (σ6 : px_St), qoX6_isSound g7 v2 σ2 r5 σ6 → ((¬ r5 = 0) → ∃ g11 : gtX6_starts, qrX6_starts g11 σ6 ∧ ∀ (r9 : Unit) (σ10 : px_St), qoX6_starts g11 σ6 r9 σ10 → ∃ g15 : gtX6_learns, qrX6_learns g15 v1 v2 σ10 ∧ ∀ (r13 : Unit) (σ14 : px_St), qoX6_learns g15 v1 v2 σ10 r13 σ14 → ∃ g19 : gtX6_settles, qrX6_settles g19 σ14 ∧ ∀ (r17 : Unit) (σ18 : px_St), qoX6_settles g19 σ14 r17 σ18 → ∃ g23 : gtX6_of, qrX6_of g23 v1 (1 : Int32) σ18 ∧ ∀ (r21 : Int32) (σ22 : px_St), qoX6_of g23 v1 (1 : Int32) σ18 r21 σ22 → po r21 σ22) ∧ (¬ (¬ r5 = 0) → po (-1 : Int32) σ6))) :
    G 0 (px_ent 3 [.ref 0, .int v1, .int v2]) [] σ := by
  refine hG.1 0 _ _ rfl _ _ _ ?_
  refine hG.1 1 _ _ rfl _ _ _ ?_
  refine hG.1 2 _ _ rfl _ _ _ ?_
  obtain ⟨g3, H⟩ := H
  refine ⟨⟨rfl, by decide⟩, Nat.le_of_ble_eq_true rfl, g3, ⟨_, rfl, H.1⟩, fun r1 σ2 hp4 => ?_⟩
  replace H := H.2 r1 σ2 hp4
  refine hG.1 3 _ _ rfl _ _ _ ?_
  refine ⟨fun h26 => ?_, fun h26 => ?_⟩
  · replace H := H.1 h26
    refine hG.1 7 _ _ rfl _ _ _ ?_
    refine hG.1 8 _ _ rfl _ _ _ ?_
    exact ⟨rfl, H⟩
  · replace H := H.2 h26
    refine hG.1 4 _ _ rfl _ _ _ ?_
    refine hG.1 5 _ _ rfl _ _ _ ?_
    obtain ⟨g7, H⟩ := H
    refine ⟨Nat.le_of_ble_eq_true rfl, Nat.le_of_ble_eq_true rfl, g7, ⟨_, rfl, H.1⟩, fun r5 σ6 hp8 => ?_⟩
    replace H := H.2 r5 σ6 hp8
    refine hG.1 6 _ _ rfl _ _ _ ?_
    refine ⟨fun h25 => ?_, fun h25 => ?_⟩
    · replace H := H.1 h25
      refine hG.1 9 _ _ rfl _ _ _ ?_
      refine hG.1 10 _ _ rfl _ _ _ ?_
      obtain ⟨g11, H⟩ := H
      refine ⟨⟨rfl, by decide⟩, Nat.le_of_ble_eq_true rfl, g11, ⟨rfl, H.1⟩, fun r9 σ10 hp12 => ?_⟩
      replace H := H.2 r9 σ10 hp12
      refine hG.1 11 _ _ rfl _ _ _ ?_
      refine hG.1 12 _ _ rfl _ _ _ ?_
      refine hG.1 13 _ _ rfl _ _ _ ?_
      refine hG.1 14 _ _ rfl _ _ _ ?_
      obtain ⟨g15, H⟩ := H
      refine ⟨⟨rfl, by decide⟩, Nat.le_of_ble_eq_true rfl, g15, ⟨_, _, rfl, H.1⟩, fun r13 σ14 hp16 => ?_⟩
      replace H := H.2 r13 σ14 hp16
      refine hG.1 15 _ _ rfl _ _ _ ?_
      refine hG.1 16 _ _ rfl _ _ _ ?_
      obtain ⟨g19, H⟩ := H
      refine ⟨⟨rfl, by decide⟩, Nat.le_of_ble_eq_true rfl, g19, ⟨rfl, H.1⟩, fun r17 σ18 hp20 => ?_⟩
      replace H := H.2 r17 σ18 hp20
      refine hG.1 17 _ _ rfl _ _ _ ?_
      refine hG.1 18 _ _ rfl _ _ _ ?_
      refine hG.1 19 _ _ rfl _ _ _ ?_
      refine hG.1 20 _ _ rfl _ _ _ ?_
      obtain ⟨g23, H⟩ := H
      refine ⟨⟨rfl, by decide⟩, Nat.le_of_ble_eq_true rfl, g23, ⟨_, _, rfl, H.1⟩, fun r21 σ22 hp24 => ?_⟩
      replace H := H.2 r21 σ22 hp24
      refine hG.1 21 _ _ rfl _ _ _ ?_
      exact ⟨rfl, H⟩
    · replace H := H.2 h25
      refine hG.1 7 _ _ rfl _ _ _ ?_
      refine hG.1 8 _ _ rfl _ _ _ ?_
      exact ⟨rfl, H⟩
set_option maxRecDepth 100000 in
set_option maxHeartbeats 4000000 in
theorem hhX6_teach (g : gtX6_teach) (v1 : Int32) (v2 : Int32) (σ : px_St) (h : qrX6_teach g v1 v2 σ) (G : px_K) (hG : px_cl (opX6_teach (qoX6_teach g v1 v2 σ)) G) : G 0 (px_ent 3 [.ref 0, .int v1, .int v2]) [] σ := by
  obtain ⟨hX, hok⟩ := h
  have hV := hX.1
  have hvk := hok.1.1
  have h5 := hvk.1.1
  refine sgX6_teach_0 hG _ _ σ ⟨g.1, hV, fun r1 σ1 h1 => ?_⟩
  obtain ⟨rfl, b1⟩ := h1
  unfold qoX6_teach x_teach
  refine bz2 b1 (fun z => ⟨(), trivial, fun r2 σ2 h2 => ?_⟩) (fun z => ?_)
  · obtain ⟨rfl, b2⟩ := h2
    refine bz1 b2 (fun y => ⟨(), trivial, fun _ σ3 h3 => ?_⟩) (fun y => ?_)
    · rw [xif_t ⟨z, y⟩]
      obtain ⟨p, hp, rfl⟩ := (rng1 (by omega)).mp z
      obtain ⟨s, hs, rfl⟩ := (rngc 9 9 rfl (by omega)).mp y
      refine ⟨(g.1, p, s), ⟨starts_mv h3 hX.1 hvk.1, hvk.1, hp, hs, rfl, rfl⟩, fun _ σ4 h4 => ⟨(), trivial, fun _ σ5 hs5 => ⟨9 * p + 1, ⟨by omega, ix9 p 1⟩, fun r6 σ6 h6 => ?_⟩⟩⟩
      obtain ⟨q1, q2⟩ := h4
      obtain ⟨rfl, rfl⟩ := h6
      unfold xp
      rw [nI_clamp (by omega), nI_clamp (by omega)]
      refine ⟨?_, settled hX hok.2.1 (pv_at_w hvk.1 (pv_learn_ok (hvk.1.2.2.2 p hp) hs)) h3 q2 q1 hs5, ((hs5.1 11 (by omega)).trans (q2.1 11 (by omega))).trans (h3.1 11 (by omega))⟩
      rw [hs5.1 2 (by omega)]
      have e := (q1.2 p hp).2.1
      rw [e]
      show nI (if p = p then pv_learn (g.1.2.2.2 p) s else g.1.2.2.2 p).2.2.length = _
      rw [if_pos rfl]
    · rw [xif_f (fun q => y q.2)]
      exact ⟨rfl, hX, rfl⟩
  · rw [xif_f (fun q => z q.1)]
    exact ⟨rfl, hX, rfl⟩
theorem mX6_teach (g : gtX6_teach) : px_Met dM yX6_teach (Cond.code yX6_teach cX6_teach 3 (some .int) :: wdM) rmX6_teach px_vI (prX6_teach g) (poX6_teach g) :=
  px_met (Z := (cX6_teach, 3, RX6, Cond.code yX6_teach cX6_teach 3 (some .int) :: wdM, (some .int), rmX6_teach, dM)) opX6_teach (by decide) rfl rfl okX6_teach (fun As σ h => by obtain ⟨v1, v2, rfl, h⟩ := h; exact Nat.le_of_ble_eq_true rfl) (fun As σ h G hG => by obtain ⟨v1, v2, rfl, h⟩ := h; exact hhX6_teach g v1 v2 σ h G hG)
abbrev gtX6_ear : Type := pv_X
def qrX6_ear (X : pv_X) (_ : Int32) (σ : px_St) : Prop := mo_is σ X ∧ xo X
def qoX6_ear (X : pv_X) (v : Int32) (_ : px_St) (r : Int32) (σ' : px_St) : Prop := r = (x_ear X v).1 ∧ mo_is σ' (x_ear X v).2
def prX6_ear (g : gtX6_ear) : List Value → px_St → Prop := fun As σ => ∃ v1 : Int32, As = [.ref 0, .int v1] ∧ qrX6_ear g v1 σ
def poX6_ear (g : gtX6_ear) : List Value → px_St → Int32 → px_St → Prop
  | [.ref _, .int v1], σ, r, σ' => qoX6_ear g v1 σ r σ'
  | _, _, _, _ => False
theorem dX6_ear_0 : decode cX6_ear 0 = .ok (.iload_n 1, 1) := by decide +kernel
theorem dX6_ear_1 : decode cX6_ear 1 = .ok (.i2l, 1) := by decide +kernel
theorem dX6_ear_2 : decode cX6_ear 2 = .ok (.lconst 1, 1) := by decide +kernel
theorem dX6_ear_3 : decode cX6_ear 3 = .ok (.ldc2_w 190, 3) := by decide +kernel
theorem dX6_ear_6 : decode cX6_ear 6 = .ok (.invokestatic 56, 3) := by decide +kernel
theorem dX6_ear_9 : decode cX6_ear 9 = .ok (.ifCond .eq 13, 3) := by decide +kernel
theorem dX6_ear_12 : decode cX6_ear 12 = .ok (.aload_n 0, 1) := by decide +kernel
theorem dX6_ear_13 : decode cX6_ear 13 = .ok (.bipush 46, 2) := by decide +kernel
theorem dX6_ear_15 : decode cX6_ear 15 = .ok (.iload_n 1, 1) := by decide +kernel
theorem dX6_ear_16 : decode cX6_ear 16 = .ok (.invokevirtual 181, 3) := by decide +kernel
theorem dX6_ear_19 : decode cX6_ear 19 = .ok (.goto 4, 3) := by decide +kernel
theorem dX6_ear_22 : decode cX6_ear 22 = .ok (.iconst (-1), 1) := by decide +kernel
theorem dX6_ear_23 : decode cX6_ear 23 = .ok (.ireturn, 1) := by decide +kernel
abbrev rmX6_ear : Room := { frames := 1, cells := 0, slots := 0, locals := 25 }
def opX6_ear (po : Int32 → px_St → Prop) : List (Nat × px_Op) := [
  (0, px_il 1 1),
  (1, px_i2l 2),
  (2, px_push 3 (.long 1)),
  (3, px_push 6 (.long 4)),
  (6, px_callS 9 3 px_vI prX6_in poX6_in),
  (9, px_if 12 22 (fun x => x = 0)),
  (12, px_al 13 0),
  (13, px_push 15 (.int 46)),
  (15, px_il 16 1),
  (16, px_callV dM 19 6 2 px_vI prX6_becomes poX6_becomes),
  (19, px_go 23),
  (22, px_push 23 (.int (-1))),
  (23, px_iret (.int) po)]
set_option maxRecDepth 100000 in
set_option maxHeartbeats 4000000 in
theorem okX6_ear : ∀ (po : Int32 → px_St → Prop) (i pc : Nat) (op : px_Op), (opX6_ear po)[i]? = some (pc, op) → px_Snd (cX6_ear, 2, RX6, Cond.code yX6_ear cX6_ear 2 (some .int) :: wdM, (some .int), rmX6_ear, dM) px_vI po pc op := by
  intro po
  unfold opX6_ear
  refine px_ok_cons (ps_iload_n dX6_ear_0 rfl) ?_
  refine px_ok_cons (ps_i2l dX6_ear_1) ?_
  refine px_ok_cons (ps_lconst dX6_ear_2 (by decide)) ?_
  refine px_ok_cons (ps_ldc2 (List.mem_cons_of_mem _ (wdM_4_in _ (List.mem_of_getElem? (i := 9) rfl))) dX6_ear_3) ?_
  refine px_ok_cons (ps_callS mX6_in (fun _ _ => rfl) (fun _ _ ht => px_cwS wgM (wdM_0_in _ (List.mem_of_getElem? (i := 32) rfl)) (wdM_0_in _ (List.mem_of_getElem? (i := 33) rfl)) (wdM_0_in _ (List.mem_of_getElem? (i := 22) rfl)) (wdM_0_in _ (List.mem_of_getElem? (i := 27) rfl)) (by decide +kernel) rfl rfl (by decide) ht) dX6_ear_6) ?_
  refine px_ok_cons (ps_if_eq dX6_ear_9 (by decide)) ?_
  refine px_ok_cons (ps_aload_n dX6_ear_12 rfl) ?_
  refine px_ok_cons (ps_bipush dX6_ear_13 (by decide)) ?_
  refine px_ok_cons (ps_iload_n dX6_ear_15 rfl) ?_
  refine px_ok_cons (ps_callV mX6_becomes (fun _ _ => rfl) (C := RX6) rfl (fun _ _ ht => px_cwV wgM (wdM_3_in _ (List.mem_of_getElem? (i := 37) rfl)) (wdM_3_in _ (List.mem_of_getElem? (i := 38) rfl)) (wdM_3_in _ (List.mem_of_getElem? (i := 39) rfl)) (wdM_0_in _ (List.mem_of_getElem? (i := 22) rfl)) (wdM_3_in _ (List.mem_of_getElem? (i := 35) rfl)) (by decide +kernel) rfl rfl (by decide) ht) dX6_ear_16) ?_
  refine px_ok_cons (ps_goto dX6_ear_19 (by decide)) ?_
  refine px_ok_cons (ps_iconst dX6_ear_22 (by decide)) ?_
  refine px_ok_cons (ps_ireturn rfl dX6_ear_23) ?_
  exact px_ok_nil
set_option maxRecDepth 100000 in
set_option maxHeartbeats 4000000 in
theorem sgX6_ear_0 {po : Int32 → px_St → Prop} {G : px_K} (hG : px_cl (opX6_ear po) G) (v1 : Int32) (σ : px_St)
    (H : ∃ g3 : gtX6_in, qrX6_in g3 v1.toInt64 (1 : Int64) (4 : Int64) σ ∧ ∀ (r1 : Int32) (σ2 : px_St), qoX6_in g3 v1.toInt64 (1 : Int64) (4 : Int64) σ r1 σ2 → ((r1 = 0) → po (-1 : Int32) σ2) ∧ (¬ (r1 = 0) → ∃ g7 : gtX6_becomes, qrX6_becomes g7 (46 : Int32) v1 σ2 ∧ ∀ (r5 : Int32) (σ6 : px_St), qoX6_becomes g7 (46 : Int32) v1 σ2 r5 σ6 → po r5 σ6)) :
    G 0 (px_ent 2 [.ref 0, .int v1]) [] σ := by
  refine hG.1 0 _ _ rfl _ _ _ ?_
  refine hG.1 1 _ _ rfl _ _ _ ?_
  refine hG.1 2 _ _ rfl _ _ _ ?_
  refine hG.1 3 _ _ rfl _ _ _ ?_
  refine hG.1 4 _ _ rfl _ _ _ ?_
  obtain ⟨g3, H⟩ := H
  refine ⟨Nat.le_of_ble_eq_true rfl, Nat.le_of_ble_eq_true rfl, g3, ⟨_, _, _, rfl, H.1⟩, fun r1 σ2 hp4 => ?_⟩
  replace H := H.2 r1 σ2 hp4
  refine hG.1 5 _ _ rfl _ _ _ ?_
  refine ⟨fun h9 => ?_, fun h9 => ?_⟩
  · replace H := H.1 h9
    refine hG.1 11 _ _ rfl _ _ _ ?_
    refine hG.1 12 _ _ rfl _ _ _ ?_
    exact ⟨rfl, H⟩
  · replace H := H.2 h9
    refine hG.1 6 _ _ rfl _ _ _ ?_
    refine hG.1 7 _ _ rfl _ _ _ ?_
    refine hG.1 8 _ _ rfl _ _ _ ?_
    refine hG.1 9 _ _ rfl _ _ _ ?_
    obtain ⟨g7, H⟩ := H
    refine ⟨⟨rfl, by decide⟩, Nat.le_of_ble_eq_true rfl, g7, ⟨_, _, rfl, H.1⟩, fun r5 σ6 hp8 => ?_⟩
    replace H := H.2 r5 σ6 hp8
    refine hG.1 10 _ _ rfl _ _ _ ?_
    refine hG.1 12 _ _ rfl _ _ _ ?_
    exact ⟨rfl, H⟩
set_option maxRecDepth 100000 in
set_option maxHeartbeats 4000000 in
theorem hhX6_ear (g : gtX6_ear) (v1 : Int32) (σ : px_St) (h : qrX6_ear g v1 σ) (G : px_K) (hG : px_cl (opX6_ear (qoX6_ear g v1 σ)) G) : G 0 (px_ent 2 [.ref 0, .int v1]) [] σ := by
  obtain ⟨hX, hok⟩ := h
  have hV := hX.1
  have hvk := hok.1.1
  have h5 := hvk.1.1
  refine sgX6_ear_0 hG _ σ ⟨(), trivial, fun r1 σ1 h1 => ?_⟩
  obtain ⟨rfl, b1⟩ := h1
  unfold qoX6_ear x_ear
  refine bz2 (in_c (a := 1) (b := 4) (by decide) (by decide) b1) (fun z => ⟨46, ⟨by omega, rfl⟩, fun r2 σ2 h2 => ?_⟩) (fun z => ?_)
  · rw [xif_t z]
    obtain ⟨rfl, rfl⟩ := h2
    obtain ⟨v, hv, rfl⟩ := (rngc 4 4 rfl (by omega)).mp ⟨Int32.le_trans (by decide) z.1, z.2⟩
    rw [nI_clamp (by omega)]
    refine ⟨hV.1.2.1, mo_up hX hok.2.1 (by omega) ⟨⟨?_, ?_, ?_⟩, fun p hp => (hV.2 p hp).cg (hvk.1.2.2.2 p hp).2.1 (fun j a b => if_neg ?_)⟩⟩
    · exact (if_neg (by omega)).trans hV.1.1
    · exact if_pos rfl
    · exact (if_neg (by omega)).trans hV.1.2.2
    · have : p < g.1.1 := hp
      omega
  · rw [xif_f z]
    exact ⟨rfl, hX⟩
theorem mX6_ear (g : gtX6_ear) : px_Met dM yX6_ear (Cond.code yX6_ear cX6_ear 2 (some .int) :: wdM) rmX6_ear px_vI (prX6_ear g) (poX6_ear g) :=
  px_met (Z := (cX6_ear, 2, RX6, Cond.code yX6_ear cX6_ear 2 (some .int) :: wdM, (some .int), rmX6_ear, dM)) opX6_ear (by decide) rfl rfl okX6_ear (fun As σ h => by obtain ⟨v1, rfl, h⟩ := h; exact Nat.le_of_ble_eq_true rfl) (fun As σ h G hG => by obtain ⟨v1, rfl, h⟩ := h; exact hhX6_ear g v1 σ h G hG)
abbrev gtX6_sell : Type := pv_X
def qrX6_sell (X : pv_X) (_ : Int32) (σ : px_St) : Prop := mo_is σ X ∧ xo X
def qoX6_sell (X : pv_X) (n : Int32) (_ : px_St) (r : Int32) (σ' : px_St) : Prop := r = (x_sell X n).1 ∧ mo_is σ' (x_sell X n).2
def prX6_sell (g : gtX6_sell) : List Value → px_St → Prop := fun As σ => ∃ v1 : Int32, As = [.ref 0, .int v1] ∧ qrX6_sell g v1 σ
def poX6_sell (g : gtX6_sell) : List Value → px_St → Int32 → px_St → Prop
  | [.ref _, .int v1], σ, r, σ' => qoX6_sell g v1 σ r σ'
  | _, _, _, _ => False
theorem dX6_sell_0 : decode cX6_sell 0 = .ok (.iload_n 1, 1) := by decide +kernel
theorem dX6_sell_1 : decode cX6_sell 1 = .ok (.i2l, 1) := by decide +kernel
theorem dX6_sell_2 : decode cX6_sell 2 = .ok (.lconst 0, 1) := by decide +kernel
theorem dX6_sell_3 : decode cX6_sell 3 = .ok (.aload_n 0, 1) := by decide +kernel
theorem dX6_sell_4 : decode cX6_sell 4 = .ok (.getfield 7, 3) := by decide +kernel
theorem dX6_sell_7 : decode cX6_sell 7 = .ok (.bipush 45, 2) := by decide +kernel
theorem dX6_sell_9 : decode cX6_sell 9 = .ok (.iaload, 1) := by decide +kernel
theorem dX6_sell_10 : decode cX6_sell 10 = .ok (.i2l, 1) := by decide +kernel
theorem dX6_sell_11 : decode cX6_sell 11 = .ok (.invokestatic 56, 3) := by decide +kernel
theorem dX6_sell_14 : decode cX6_sell 14 = .ok (.ifCond .eq 13, 3) := by decide +kernel
theorem dX6_sell_17 : decode cX6_sell 17 = .ok (.aload_n 0, 1) := by decide +kernel
theorem dX6_sell_18 : decode cX6_sell 18 = .ok (.bipush 45, 2) := by decide +kernel
theorem dX6_sell_20 : decode cX6_sell 20 = .ok (.iload_n 1, 1) := by decide +kernel
theorem dX6_sell_21 : decode cX6_sell 21 = .ok (.invokevirtual 181, 3) := by decide +kernel
theorem dX6_sell_24 : decode cX6_sell 24 = .ok (.goto 4, 3) := by decide +kernel
theorem dX6_sell_27 : decode cX6_sell 27 = .ok (.iconst (-1), 1) := by decide +kernel
theorem dX6_sell_28 : decode cX6_sell 28 = .ok (.ireturn, 1) := by decide +kernel
abbrev rmX6_sell : Room := { frames := 1, cells := 0, slots := 0, locals := 25 }
def opX6_sell (po : Int32 → px_St → Prop) : List (Nat × px_Op) := [
  (0, px_il 1 1),
  (1, px_i2l 2),
  (2, px_push 3 (.long 0)),
  (3, px_al 4 0),
  (4, px_get dM 7 6 0),
  (7, px_push 9 (.int 45)),
  (9, px_ald dM 10 0),
  (10, px_i2l 11),
  (11, px_callS 14 3 px_vI prX6_in poX6_in),
  (14, px_if 17 27 (fun x => x = 0)),
  (17, px_al 18 0),
  (18, px_push 20 (.int 45)),
  (20, px_il 21 1),
  (21, px_callV dM 24 6 2 px_vI prX6_becomes poX6_becomes),
  (24, px_go 28),
  (27, px_push 28 (.int (-1))),
  (28, px_iret (.int) po)]
set_option maxRecDepth 100000 in
set_option maxHeartbeats 4000000 in
theorem okX6_sell : ∀ (po : Int32 → px_St → Prop) (i pc : Nat) (op : px_Op), (opX6_sell po)[i]? = some (pc, op) → px_Snd (cX6_sell, 2, RX6, Cond.code yX6_sell cX6_sell 2 (some .int) :: wdM, (some .int), rmX6_sell, dM) px_vI po pc op := by
  intro po
  unfold opX6_sell
  refine px_ok_cons (ps_iload_n dX6_sell_0 rfl) ?_
  refine px_ok_cons (ps_i2l dX6_sell_1) ?_
  refine px_ok_cons (ps_lconst dX6_sell_2 (by decide)) ?_
  refine px_ok_cons (ps_aload_n dX6_sell_3 rfl) ?_
  refine px_ok_cons (fgX6_7 dX6_sell_4) ?_
  refine px_ok_cons (ps_bipush dX6_sell_7 (by decide)) ?_
  refine px_ok_cons (ps_iaload dX6_sell_9) ?_
  refine px_ok_cons (ps_i2l dX6_sell_10) ?_
  refine px_ok_cons (ps_callS mX6_in (fun _ _ => rfl) (fun _ _ ht => px_cwS wgM (wdM_0_in _ (List.mem_of_getElem? (i := 32) rfl)) (wdM_0_in _ (List.mem_of_getElem? (i := 33) rfl)) (wdM_0_in _ (List.mem_of_getElem? (i := 22) rfl)) (wdM_0_in _ (List.mem_of_getElem? (i := 27) rfl)) (by decide +kernel) rfl rfl (by decide) ht) dX6_sell_11) ?_
  refine px_ok_cons (ps_if_eq dX6_sell_14 (by decide)) ?_
  refine px_ok_cons (ps_aload_n dX6_sell_17 rfl) ?_
  refine px_ok_cons (ps_bipush dX6_sell_18 (by decide)) ?_
  refine px_ok_cons (ps_iload_n dX6_sell_20 rfl) ?_
  refine px_ok_cons (ps_callV mX6_becomes (fun _ _ => rfl) (C := RX6) rfl (fun _ _ ht => px_cwV wgM (wdM_3_in _ (List.mem_of_getElem? (i := 37) rfl)) (wdM_3_in _ (List.mem_of_getElem? (i := 38) rfl)) (wdM_3_in _ (List.mem_of_getElem? (i := 39) rfl)) (wdM_0_in _ (List.mem_of_getElem? (i := 22) rfl)) (wdM_3_in _ (List.mem_of_getElem? (i := 35) rfl)) (by decide +kernel) rfl rfl (by decide) ht) dX6_sell_21) ?_
  refine px_ok_cons (ps_goto dX6_sell_24 (by decide)) ?_
  refine px_ok_cons (ps_iconst dX6_sell_27 (by decide)) ?_
  refine px_ok_cons (ps_ireturn rfl dX6_sell_28) ?_
  exact px_ok_nil
set_option maxRecDepth 100000 in
set_option maxHeartbeats 4000000 in
theorem sgX6_sell_0 {po : Int32 → px_St → Prop} {G : px_K} (hG : px_cl (opX6_sell po) G) (v1 : Int32) (σ : px_St)
    (H : vp_in (45 : Int32) 183 ∧ ∃ g3 : gtX6_in, qrX6_in g3 v1.toInt64 (0 : Int64) ((σ.1 1 (45 : Int32).toNatClampNeg).toInt64) σ ∧ ∀ (r1 : Int32) (σ2 : px_St), qoX6_in g3 v1.toInt64 (0 : Int64) ((σ.1 1 (45 : Int32).toNatClampNeg).toInt64) σ r1 σ2 → ((r1 = 0) → po (-1 : Int32) σ2) ∧ (¬ (r1 = 0) → ∃ g7 : gtX6_becomes, qrX6_becomes g7 (45 : Int32) v1 σ2 ∧ ∀ (r5 : Int32) (σ6 : px_St), qoX6_becomes g7 (45 : Int32) v1 σ2 r5 σ6 → po r5 σ6)) :
    G 0 (px_ent 2 [.ref 0, .int v1]) [] σ := by
  refine hG.1 0 _ _ rfl _ _ _ ?_
  refine hG.1 1 _ _ rfl _ _ _ ?_
  refine hG.1 2 _ _ rfl _ _ _ ?_
  refine hG.1 3 _ _ rfl _ _ _ ?_
  refine hG.1 4 _ _ rfl _ _ _ ?_
  refine ⟨⟨rfl, by decide⟩, ?_⟩
  refine hG.1 5 _ _ rfl _ _ _ ?_
  refine hG.1 6 _ _ rfl _ _ _ ?_
  refine ⟨⟨rfl, by decide⟩, H.1, ?_⟩
  replace H := H.2
  refine hG.1 7 _ _ rfl _ _ _ ?_
  refine hG.1 8 _ _ rfl _ _ _ ?_
  obtain ⟨g3, H⟩ := H
  refine ⟨Nat.le_of_ble_eq_true rfl, Nat.le_of_ble_eq_true rfl, g3, ⟨_, _, _, rfl, H.1⟩, fun r1 σ2 hp4 => ?_⟩
  replace H := H.2 r1 σ2 hp4
  refine hG.1 9 _ _ rfl _ _ _ ?_
  refine ⟨fun h9 => ?_, fun h9 => ?_⟩
  · replace H := H.1 h9
    refine hG.1 15 _ _ rfl _ _ _ ?_
    refine hG.1 16 _ _ rfl _ _ _ ?_
    exact ⟨rfl, H⟩
  · replace H := H.2 h9
    refine hG.1 10 _ _ rfl _ _ _ ?_
    refine hG.1 11 _ _ rfl _ _ _ ?_
    refine hG.1 12 _ _ rfl _ _ _ ?_
    refine hG.1 13 _ _ rfl _ _ _ ?_
    obtain ⟨g7, H⟩ := H
    refine ⟨⟨rfl, by decide⟩, Nat.le_of_ble_eq_true rfl, g7, ⟨_, _, rfl, H.1⟩, fun r5 σ6 hp8 => ?_⟩
    replace H := H.2 r5 σ6 hp8
    refine hG.1 14 _ _ rfl _ _ _ ?_
    refine hG.1 16 _ _ rfl _ _ _ ?_
    exact ⟨rfl, H⟩
set_option maxRecDepth 100000 in
set_option maxHeartbeats 4000000 in
theorem hhX6_sell (g : gtX6_sell) (v1 : Int32) (σ : px_St) (h : qrX6_sell g v1 σ) (G : px_K) (hG : px_cl (opX6_sell (qoX6_sell g v1 σ)) G) : G 0 (px_ent 2 [.ref 0, .int v1]) [] σ := by
  obtain ⟨hX, hok⟩ := h
  have hV := hX.1
  have hvk := hok.1.1
  have h5 := hvk.1.1
  refine sgX6_sell_0 hG _ σ ⟨i45, (), trivial, fun r1 σ1 h1 => ?_⟩
  obtain ⟨rfl, b1⟩ := h1
  rw [c45, hV.1.1] at b1
  unfold qoX6_sell x_sell
  refine bz2 (in_c (a := 0) (by decide) rfl b1) (fun z => ⟨45, ⟨by omega, rfl⟩, fun r2 σ2 h2 => ?_⟩) (fun z => ?_)
  · rw [xif_t z]
    obtain ⟨rfl, rfl⟩ := h2
    obtain ⟨n, hn, rfl⟩ := (rng (by omega)).mp z
    rw [nI_clamp (by omega)]
    refine ⟨hV.1.1, mo_up hX hok.2.1 (by omega) ⟨⟨?_, ?_, ?_⟩, fun p hp => ?_⟩⟩
    · exact if_pos rfl
    · exact (if_neg (by omega)).trans hV.1.2.1
    · exact (if_neg (by omega)).trans hV.1.2.2
    · have hp' : p < n := hp
      exact (hV.2 p (by omega)).cg (hvk.1.2.2.2 p (by omega)).2.1 (fun j a b => if_neg (by omega))
  · rw [xif_f z]
    exact ⟨rfl, hX⟩
theorem mX6_sell (g : gtX6_sell) : px_Met dM yX6_sell (Cond.code yX6_sell cX6_sell 2 (some .int) :: wdM) rmX6_sell px_vI (prX6_sell g) (poX6_sell g) :=
  px_met (Z := (cX6_sell, 2, RX6, Cond.code yX6_sell cX6_sell 2 (some .int) :: wdM, (some .int), rmX6_sell, dM)) opX6_sell (by decide) rfl rfl okX6_sell (fun As σ h => by obtain ⟨v1, rfl, h⟩ := h; exact Nat.le_of_ble_eq_true rfl) (fun As σ h G hG => by obtain ⟨v1, rfl, h⟩ := h; exact hhX6_sell g v1 σ h G hG)
abbrev gtX6_perch : Type := pv_X
def qrX6_perch (X : pv_X) (_ _ : Int32) (σ : px_St) : Prop := mo_is σ X ∧ xo X
def qoX6_perch (X : pv_X) (k s : Int32) (_ : px_St) (r : Int32) (σ' : px_St) : Prop := r = (x_perch X k s).1 ∧ mo_is σ' (x_perch X k s).2
def prX6_perch (g : gtX6_perch) : List Value → px_St → Prop := fun As σ => ∃ v1 : Int32, ∃ v2 : Int32, As = [.ref 0, .int v1, .int v2] ∧ qrX6_perch g v1 v2 σ
def poX6_perch (g : gtX6_perch) : List Value → px_St → Int32 → px_St → Prop
  | [.ref _, .int v1, .int v2], σ, r, σ' => qoX6_perch g v1 v2 σ r σ'
  | _, _, _, _ => False
theorem dX6_perch_0 : decode cX6_perch 0 = .ok (.iload_n 1, 1) := by decide +kernel
theorem dX6_perch_1 : decode cX6_perch 1 = .ok (.i2l, 1) := by decide +kernel
theorem dX6_perch_2 : decode cX6_perch 2 = .ok (.lconst 0, 1) := by decide +kernel
theorem dX6_perch_3 : decode cX6_perch 3 = .ok (.ldc2_w 166, 3) := by decide +kernel
theorem dX6_perch_6 : decode cX6_perch 6 = .ok (.invokestatic 56, 3) := by decide +kernel
theorem dX6_perch_9 : decode cX6_perch 9 = .ok (.ifCond .eq 10, 3) := by decide +kernel
theorem dX6_perch_12 : decode cX6_perch 12 = .ok (.iload_n 2, 1) := by decide +kernel
theorem dX6_perch_13 : decode cX6_perch 13 = .ok (.invokestatic 175, 3) := by decide +kernel
theorem dX6_perch_16 : decode cX6_perch 16 = .ok (.ifCond .ne 5, 3) := by decide +kernel
theorem dX6_perch_19 : decode cX6_perch 19 = .ok (.iconst (-1), 1) := by decide +kernel
theorem dX6_perch_20 : decode cX6_perch 20 = .ok (.ireturn, 1) := by decide +kernel
theorem dX6_perch_21 : decode cX6_perch 21 = .ok (.aload_n 0, 1) := by decide +kernel
theorem dX6_perch_22 : decode cX6_perch 22 = .ok (.getfield 7, 3) := by decide +kernel
theorem dX6_perch_25 : decode cX6_perch 25 = .ok (.bipush 45, 2) := by decide +kernel
theorem dX6_perch_27 : decode cX6_perch 27 = .ok (.iaload, 1) := by decide +kernel
theorem dX6_perch_28 : decode cX6_perch 28 = .ok (.iconst 5, 1) := by decide +kernel
theorem dX6_perch_29 : decode cX6_perch 29 = .ok (.if_icmp .ne 6, 3) := by decide +kernel
theorem dX6_perch_32 : decode cX6_perch 32 = .ok (.bipush (-3), 2) := by decide +kernel
theorem dX6_perch_34 : decode cX6_perch 34 = .ok (.ireturn, 1) := by decide +kernel
theorem dX6_perch_35 : decode cX6_perch 35 = .ok (.bipush 9, 2) := by decide +kernel
theorem dX6_perch_37 : decode cX6_perch 37 = .ok (.aload_n 0, 1) := by decide +kernel
theorem dX6_perch_38 : decode cX6_perch 38 = .ok (.getfield 7, 3) := by decide +kernel
theorem dX6_perch_41 : decode cX6_perch 41 = .ok (.bipush 45, 2) := by decide +kernel
theorem dX6_perch_43 : decode cX6_perch 43 = .ok (.iaload, 1) := by decide +kernel
theorem dX6_perch_44 : decode cX6_perch 44 = .ok (.imul, 1) := by decide +kernel
theorem dX6_perch_45 : decode cX6_perch 45 = .ok (.istore_n 3, 1) := by decide +kernel
theorem dX6_perch_46 : decode cX6_perch 46 = .ok (.aload_n 0, 1) := by decide +kernel
theorem dX6_perch_47 : decode cX6_perch 47 = .ok (.getfield 7, 3) := by decide +kernel
theorem dX6_perch_50 : decode cX6_perch 50 = .ok (.iload_n 3, 1) := by decide +kernel
theorem dX6_perch_51 : decode cX6_perch 51 = .ok (.iconst 0, 1) := by decide +kernel
theorem dX6_perch_52 : decode cX6_perch 52 = .ok (.iadd, 1) := by decide +kernel
theorem dX6_perch_53 : decode cX6_perch 53 = .ok (.iload_n 1, 1) := by decide +kernel
theorem dX6_perch_54 : decode cX6_perch 54 = .ok (.iastore, 1) := by decide +kernel
theorem dX6_perch_55 : decode cX6_perch 55 = .ok (.aload_n 0, 1) := by decide +kernel
theorem dX6_perch_56 : decode cX6_perch 56 = .ok (.getfield 7, 3) := by decide +kernel
theorem dX6_perch_59 : decode cX6_perch 59 = .ok (.iload_n 3, 1) := by decide +kernel
theorem dX6_perch_60 : decode cX6_perch 60 = .ok (.iconst 1, 1) := by decide +kernel
theorem dX6_perch_61 : decode cX6_perch 61 = .ok (.iadd, 1) := by decide +kernel
theorem dX6_perch_62 : decode cX6_perch 62 = .ok (.iconst 1, 1) := by decide +kernel
theorem dX6_perch_63 : decode cX6_perch 63 = .ok (.iastore, 1) := by decide +kernel
theorem dX6_perch_64 : decode cX6_perch 64 = .ok (.aload_n 0, 1) := by decide +kernel
theorem dX6_perch_65 : decode cX6_perch 65 = .ok (.getfield 7, 3) := by decide +kernel
theorem dX6_perch_68 : decode cX6_perch 68 = .ok (.iload_n 3, 1) := by decide +kernel
theorem dX6_perch_69 : decode cX6_perch 69 = .ok (.iconst 2, 1) := by decide +kernel
theorem dX6_perch_70 : decode cX6_perch 70 = .ok (.iadd, 1) := by decide +kernel
theorem dX6_perch_71 : decode cX6_perch 71 = .ok (.iconst 0, 1) := by decide +kernel
theorem dX6_perch_72 : decode cX6_perch 72 = .ok (.iastore, 1) := by decide +kernel
theorem dX6_perch_73 : decode cX6_perch 73 = .ok (.aload_n 0, 1) := by decide +kernel
theorem dX6_perch_74 : decode cX6_perch 74 = .ok (.getfield 7, 3) := by decide +kernel
theorem dX6_perch_77 : decode cX6_perch 77 = .ok (.iload_n 3, 1) := by decide +kernel
theorem dX6_perch_78 : decode cX6_perch 78 = .ok (.iconst 3, 1) := by decide +kernel
theorem dX6_perch_79 : decode cX6_perch 79 = .ok (.iadd, 1) := by decide +kernel
theorem dX6_perch_80 : decode cX6_perch 80 = .ok (.iload_n 2, 1) := by decide +kernel
theorem dX6_perch_81 : decode cX6_perch 81 = .ok (.iastore, 1) := by decide +kernel
theorem dX6_perch_82 : decode cX6_perch 82 = .ok (.aload_n 0, 1) := by decide +kernel
theorem dX6_perch_83 : decode cX6_perch 83 = .ok (.getfield 7, 3) := by decide +kernel
theorem dX6_perch_86 : decode cX6_perch 86 = .ok (.bipush 45, 2) := by decide +kernel
theorem dX6_perch_88 : decode cX6_perch 88 = .ok (.dup2, 1) := by decide +kernel
theorem dX6_perch_89 : decode cX6_perch 89 = .ok (.iaload, 1) := by decide +kernel
theorem dX6_perch_90 : decode cX6_perch 90 = .ok (.iconst 1, 1) := by decide +kernel
theorem dX6_perch_91 : decode cX6_perch 91 = .ok (.iadd, 1) := by decide +kernel
theorem dX6_perch_92 : decode cX6_perch 92 = .ok (.iastore, 1) := by decide +kernel
theorem dX6_perch_93 : decode cX6_perch 93 = .ok (.aload_n 0, 1) := by decide +kernel
theorem dX6_perch_94 : decode cX6_perch 94 = .ok (.getfield 7, 3) := by decide +kernel
theorem dX6_perch_97 : decode cX6_perch 97 = .ok (.bipush 45, 2) := by decide +kernel
theorem dX6_perch_99 : decode cX6_perch 99 = .ok (.iaload, 1) := by decide +kernel
theorem dX6_perch_100 : decode cX6_perch 100 = .ok (.ireturn, 1) := by decide +kernel
abbrev rmX6_perch : Room := { frames := 2, cells := 0, slots := 0, locals := 45 }
def opX6_perch (po : Int32 → px_St → Prop) : List (Nat × px_Op) := [
  (0, px_il 1 1),
  (1, px_i2l 2),
  (2, px_push 3 (.long 0)),
  (3, px_push 6 (.long 3)),
  (6, px_callS 9 3 px_vI prX6_in poX6_in),
  (9, px_if 12 19 (fun x => x = 0)),
  (12, px_il 13 2),
  (13, px_callS 16 1 px_vI prX6_isSound poX6_isSound),
  (16, px_if 19 21 (fun x => ¬ x = 0)),
  (19, px_push 20 (.int (-1))),
  (20, px_iret (.int) po),
  (21, px_al 22 0),
  (22, px_get dM 25 6 0),
  (25, px_push 27 (.int 45)),
  (27, px_ald dM 28 0),
  (28, px_push 29 (.int 5)),
  (29, px_ic 32 35 (fun x y => ¬ x = y)),
  (32, px_push 34 (.int (-3))),
  (34, px_iret (.int) po),
  (35, px_push 37 (.int 9)),
  (37, px_al 38 0),
  (38, px_get dM 41 6 0),
  (41, px_push 43 (.int 45)),
  (43, px_ald dM 44 0),
  (44, px_bin 45 (fun x y => x * y)),
  (45, px_is 46 3),
  (46, px_al 47 0),
  (47, px_get dM 50 6 0),
  (50, px_il 51 3),
  (51, px_push 52 (.int 0)),
  (52, px_bin 53 (fun x y => x + y)),
  (53, px_il 54 1),
  (54, px_ast dM 55 0 (fun x => x)),
  (55, px_al 56 0),
  (56, px_get dM 59 6 0),
  (59, px_il 60 3),
  (60, px_push 61 (.int 1)),
  (61, px_bin 62 (fun x y => x + y)),
  (62, px_push 63 (.int 1)),
  (63, px_ast dM 64 0 (fun x => x)),
  (64, px_al 65 0),
  (65, px_get dM 68 6 0),
  (68, px_il 69 3),
  (69, px_push 70 (.int 2)),
  (70, px_bin 71 (fun x y => x + y)),
  (71, px_push 72 (.int 0)),
  (72, px_ast dM 73 0 (fun x => x)),
  (73, px_al 74 0),
  (74, px_get dM 77 6 0),
  (77, px_il 78 3),
  (78, px_push 79 (.int 3)),
  (79, px_bin 80 (fun x y => x + y)),
  (80, px_il 81 2),
  (81, px_ast dM 82 0 (fun x => x)),
  (82, px_al 83 0),
  (83, px_get dM 86 6 0),
  (86, px_push 88 (.int 45)),
  (88, px_dup2 89),
  (89, px_ald dM 90 0),
  (90, px_push 91 (.int 1)),
  (91, px_bin 92 (fun x y => x + y)),
  (92, px_ast dM 93 0 (fun x => x)),
  (93, px_al 94 0),
  (94, px_get dM 97 6 0),
  (97, px_push 99 (.int 45)),
  (99, px_ald dM 100 0),
  (100, px_iret (.int) po)]
set_option maxRecDepth 100000 in
set_option maxHeartbeats 4000000 in
theorem okX6_perch : ∀ (po : Int32 → px_St → Prop) (i pc : Nat) (op : px_Op), (opX6_perch po)[i]? = some (pc, op) → px_Snd (cX6_perch, 4, RX6, Cond.code yX6_perch cX6_perch 4 (some .int) :: wdM, (some .int), rmX6_perch, dM) px_vI po pc op := by
  intro po
  unfold opX6_perch
  refine px_ok_cons (ps_iload_n dX6_perch_0 rfl) ?_
  refine px_ok_cons (ps_i2l dX6_perch_1) ?_
  refine px_ok_cons (ps_lconst dX6_perch_2 (by decide)) ?_
  refine px_ok_cons (ps_ldc2 (List.mem_cons_of_mem _ (wdM_3_in _ (List.mem_of_getElem? (i := 22) rfl))) dX6_perch_3) ?_
  refine px_ok_cons (ps_callS mX6_in (fun _ _ => rfl) (fun _ _ ht => px_cwS wgM (wdM_0_in _ (List.mem_of_getElem? (i := 32) rfl)) (wdM_0_in _ (List.mem_of_getElem? (i := 33) rfl)) (wdM_0_in _ (List.mem_of_getElem? (i := 22) rfl)) (wdM_0_in _ (List.mem_of_getElem? (i := 27) rfl)) (by decide +kernel) rfl rfl (by decide) ht) dX6_perch_6) ?_
  refine px_ok_cons (ps_if_eq dX6_perch_9 (by decide)) ?_
  refine px_ok_cons (ps_iload_n dX6_perch_12 rfl) ?_
  refine px_ok_cons (ps_callS mX6_isSound (fun _ _ => rfl) (fun _ _ ht => px_cwS wgM (wdM_3_in _ (List.mem_of_getElem? (i := 29) rfl)) (wdM_3_in _ (List.mem_of_getElem? (i := 30) rfl)) (wdM_0_in _ (List.mem_of_getElem? (i := 22) rfl)) (wdM_2_in _ (List.mem_of_getElem? (i := 4) rfl)) (by decide +kernel) rfl rfl (by decide) ht) dX6_perch_13) ?_
  refine px_ok_cons (ps_if_ne dX6_perch_16 (by decide)) ?_
  refine px_ok_cons (ps_iconst dX6_perch_19 (by decide)) ?_
  refine px_ok_cons (ps_ireturn rfl dX6_perch_20) ?_
  refine px_ok_cons (ps_aload_n dX6_perch_21 rfl) ?_
  refine px_ok_cons (fgX6_7 dX6_perch_22) ?_
  refine px_ok_cons (ps_bipush dX6_perch_25 (by decide)) ?_
  refine px_ok_cons (ps_iaload dX6_perch_27) ?_
  refine px_ok_cons (ps_iconst dX6_perch_28 (by decide)) ?_
  refine px_ok_cons (ps_icmp_ne dX6_perch_29 (by decide)) ?_
  refine px_ok_cons (ps_bipush dX6_perch_32 (by decide)) ?_
  refine px_ok_cons (ps_ireturn rfl dX6_perch_34) ?_
  refine px_ok_cons (ps_bipush dX6_perch_35 (by decide)) ?_
  refine px_ok_cons (ps_aload_n dX6_perch_37 rfl) ?_
  refine px_ok_cons (fgX6_7 dX6_perch_38) ?_
  refine px_ok_cons (ps_bipush dX6_perch_41 (by decide)) ?_
  refine px_ok_cons (ps_iaload dX6_perch_43) ?_
  refine px_ok_cons (ps_imul dX6_perch_44) ?_
  refine px_ok_cons (ps_istore_n dX6_perch_45 rfl (by decide)) ?_
  refine px_ok_cons (ps_aload_n dX6_perch_46 rfl) ?_
  refine px_ok_cons (fgX6_7 dX6_perch_47) ?_
  refine px_ok_cons (ps_iload_n dX6_perch_50 rfl) ?_
  refine px_ok_cons (ps_iconst dX6_perch_51 (by decide)) ?_
  refine px_ok_cons (ps_iadd dX6_perch_52) ?_
  refine px_ok_cons (ps_iload_n dX6_perch_53 rfl) ?_
  refine px_ok_cons (ps_iastore dX6_perch_54) ?_
  refine px_ok_cons (ps_aload_n dX6_perch_55 rfl) ?_
  refine px_ok_cons (fgX6_7 dX6_perch_56) ?_
  refine px_ok_cons (ps_iload_n dX6_perch_59 rfl) ?_
  refine px_ok_cons (ps_iconst dX6_perch_60 (by decide)) ?_
  refine px_ok_cons (ps_iadd dX6_perch_61) ?_
  refine px_ok_cons (ps_iconst dX6_perch_62 (by decide)) ?_
  refine px_ok_cons (ps_iastore dX6_perch_63) ?_
  refine px_ok_cons (ps_aload_n dX6_perch_64 rfl) ?_
  refine px_ok_cons (fgX6_7 dX6_perch_65) ?_
  refine px_ok_cons (ps_iload_n dX6_perch_68 rfl) ?_
  refine px_ok_cons (ps_iconst dX6_perch_69 (by decide)) ?_
  refine px_ok_cons (ps_iadd dX6_perch_70) ?_
  refine px_ok_cons (ps_iconst dX6_perch_71 (by decide)) ?_
  refine px_ok_cons (ps_iastore dX6_perch_72) ?_
  refine px_ok_cons (ps_aload_n dX6_perch_73 rfl) ?_
  refine px_ok_cons (fgX6_7 dX6_perch_74) ?_
  refine px_ok_cons (ps_iload_n dX6_perch_77 rfl) ?_
  refine px_ok_cons (ps_iconst dX6_perch_78 (by decide)) ?_
  refine px_ok_cons (ps_iadd dX6_perch_79) ?_
  refine px_ok_cons (ps_iload_n dX6_perch_80 rfl) ?_
  refine px_ok_cons (ps_iastore dX6_perch_81) ?_
  refine px_ok_cons (ps_aload_n dX6_perch_82 rfl) ?_
  refine px_ok_cons (fgX6_7 dX6_perch_83) ?_
  refine px_ok_cons (ps_bipush dX6_perch_86 (by decide)) ?_
  refine px_ok_cons (ps_dup2 dX6_perch_88) ?_
  refine px_ok_cons (ps_iaload dX6_perch_89) ?_
  refine px_ok_cons (ps_iconst dX6_perch_90 (by decide)) ?_
  refine px_ok_cons (ps_iadd dX6_perch_91) ?_
  refine px_ok_cons (ps_iastore dX6_perch_92) ?_
  refine px_ok_cons (ps_aload_n dX6_perch_93 rfl) ?_
  refine px_ok_cons (fgX6_7 dX6_perch_94) ?_
  refine px_ok_cons (ps_bipush dX6_perch_97 (by decide)) ?_
  refine px_ok_cons (ps_iaload dX6_perch_99) ?_
  refine px_ok_cons (ps_ireturn rfl dX6_perch_100) ?_
  exact px_ok_nil
set_option maxRecDepth 100000 in
set_option maxHeartbeats 4000000 in
theorem sgX6_perch_0 {po : Int32 → px_St → Prop} {G : px_K} (hG : px_cl (opX6_perch po) G) (v1 : Int32) (v2 : Int32) (σ : px_St)
    (H : ∃ g3 : gtX6_in, qrX6_in g3 v1.toInt64 (0 : Int64) (3 : Int64) σ ∧ ∀ (r1 : Int32) (σ2 : px_St), qoX6_in g3 v1.toInt64 (0 : Int64) (3 : Int64) σ r1 σ2 → ((r1 = 0) → po (-1 : Int32) σ2) ∧ (¬ (r1 = 0) → ∃ g7 : gtX6_isSound, qrX6_isSound g7 v2 σ2 ∧ ∀ (r5 : Int32) (σ6 : px_St), qoX6_isSound g7 v2 σ2 r5 σ6 → ((¬ r5 = 0) → vp_in (45 : Int32) 183 ∧ ((¬ (σ6.1 1 (45 : Int32).toNatClampNeg) = (5 : Int32)) → vp_in (45 : Int32) 183 ∧ vp_in (((9 : Int32) * (σ6.1 1 (45 : Int32).toNatClampNeg)) + (0 : Int32)) 183 ∧ vp_in (((9 : Int32) * (σ6.1 1 (45 : Int32).toNatClampNeg)) + (1 : Int32)) 183 ∧ vp_in (((9 : Int32) * (σ6.1 1 (45 : Int32).toNatClampNeg)) + (2 : Int32)) 183 ∧ vp_in (((9 : Int32) * (σ6.1 1 (45 : Int32).toNatClampNeg)) + (3 : Int32)) 183 ∧ vp_in (45 : Int32) 183 ∧ vp_in (45 : Int32) 183 ∧ vp_in (45 : Int32) 183 ∧ po ((px_up (px_up (px_up (px_up (px_up σ6 1 (((9 : Int32) * (σ6.1 1 (45 : Int32).toNatClampNeg)) + (0 : Int32)).toNatClampNeg v1) 1 (((9 : Int32) * (σ6.1 1 (45 : Int32).toNatClampNeg)) + (1 : Int32)).toNatClampNeg (1 : Int32)) 1 (((9 : Int32) * (σ6.1 1 (45 : Int32).toNatClampNeg)) + (2 : Int32)).toNatClampNeg (0 : Int32)) 1 (((9 : Int32) * (σ6.1 1 (45 : Int32).toNatClampNeg)) + (3 : Int32)).toNatClampNeg v2) 1 (45 : Int32).toNatClampNeg (((px_up (px_up (px_up (px_up σ6 1 (((9 : Int32) * (σ6.1 1 (45 : Int32).toNatClampNeg)) + (0 : Int32)).toNatClampNeg v1) 1 (((9 : Int32) * (σ6.1 1 (45 : Int32).toNatClampNeg)) + (1 : Int32)).toNatClampNeg (1 : Int32)) 1 (((9 : Int32) * (σ6.1 1 (45 : Int32).toNatClampNeg)) + (2 : Int32)).toNatClampNeg (0 : Int32)) 1 (((9 : Int32) * (σ6.1 1 (45 : Int32).toNatClampNeg)) + (3 : Int32)).toNatClampNeg v2).1 1 (45 : Int32).toNatClampNeg) + (1 : Int32))).1 1 (45 : Int32).toNatClampNeg) (px_up (px_up (px_up (px_up (px_up σ6 1 (((9 : Int32) * (σ6.1 1 (45 : Int32).toNatClampNeg)) + (0 : Int32)).toNatClampNeg v1) 1 (((9 : Int32) * (σ6.1 1 (45 : Int32).toNatClampNeg)) + (1 : Int32)).toNatClampNeg (1 : Int32)) 1 (((9 : Int32) * (σ6.1 1 (45 : Int32).toNatClampNeg)) + (2 : Int32)).toNatClampNeg (0 : Int32)) 1 (((9 : Int32) * (σ6.1 1 (45 : Int32).toNatClampNeg)) + (3 : Int32)).toNatClampNeg v2) 1 (45 : Int32).toNatClampNeg (((px_up (px_up (px_up (px_up σ6 1 (((9 : Int32) * (σ6.1 1 (45 : Int32).toNatClampNeg)) + (0 : Int32)).toNatClampNeg v1) 1 (((9 : Int32) * (σ6.1 1 (45 : Int32).toNatClampNeg)) + (1 : Int32)).toNatClampNeg (1 : Int32)) 1 (((9 : Int32) * (σ6.1 1 (45 : Int32).toNatClampNeg)) + (2 : Int32)).toNatClampNeg (0 : Int32)) 1 (((9 : Int32) * (σ6.1 1 (45 : Int32).toNatClampNeg)) + (3 : Int32)).toNatClampNeg v2).1 1 (45 : Int32).toNatClampNeg) + (1 : Int32)))) ∧ (¬ (¬ (σ6.1 1 (45 : Int32).toNatClampNeg) = (5 : Int32)) → po (-3 : Int32) σ6)) ∧ (¬ (¬ r5 = 0) → po (-1 : Int32) σ6))) :
    G 0 (px_ent 4 [.ref 0, .int v1, .int v2]) [] σ := by
  refine hG.1 0 _ _ rfl _ _ _ ?_
  refine hG.1 1 _ _ rfl _ _ _ ?_
  refine hG.1 2 _ _ rfl _ _ _ ?_
  refine hG.1 3 _ _ rfl _ _ _ ?_
  refine hG.1 4 _ _ rfl _ _ _ ?_
  obtain ⟨g3, H⟩ := H
  refine ⟨Nat.le_of_ble_eq_true rfl, Nat.le_of_ble_eq_true rfl, g3, ⟨_, _, _, rfl, H.1⟩, fun r1 σ2 hp4 => ?_⟩
  replace H := H.2 r1 σ2 hp4
  refine hG.1 5 _ _ rfl _ _ _ ?_
  refine ⟨fun h11 => ?_, fun h11 => ?_⟩
  · replace H := H.1 h11
    refine hG.1 9 _ _ rfl _ _ _ ?_
    refine hG.1 10 _ _ rfl _ _ _ ?_
    exact ⟨rfl, H⟩
  · replace H := H.2 h11
    refine hG.1 6 _ _ rfl _ _ _ ?_
    refine hG.1 7 _ _ rfl _ _ _ ?_
    obtain ⟨g7, H⟩ := H
    refine ⟨Nat.le_of_ble_eq_true rfl, Nat.le_of_ble_eq_true rfl, g7, ⟨_, rfl, H.1⟩, fun r5 σ6 hp8 => ?_⟩
    replace H := H.2 r5 σ6 hp8
    refine hG.1 8 _ _ rfl _ _ _ ?_
    refine ⟨fun h10 => ?_, fun h10 => ?_⟩
    · replace H := H.1 h10
      refine hG.1 11 _ _ rfl _ _ _ ?_
      refine hG.1 12 _ _ rfl _ _ _ ?_
      refine ⟨⟨rfl, by decide⟩, ?_⟩
      refine hG.1 13 _ _ rfl _ _ _ ?_
      refine hG.1 14 _ _ rfl _ _ _ ?_
      refine ⟨⟨rfl, by decide⟩, H.1, ?_⟩
      replace H := H.2
      refine hG.1 15 _ _ rfl _ _ _ ?_
      refine hG.1 16 _ _ rfl _ _ _ ?_
      refine ⟨fun h9 => ?_, fun h9 => ?_⟩
      · replace H := H.1 h9
        refine hG.1 19 _ _ rfl _ _ _ ?_
        refine hG.1 20 _ _ rfl _ _ _ ?_
        refine hG.1 21 _ _ rfl _ _ _ ?_
        refine ⟨⟨rfl, by decide⟩, ?_⟩
        refine hG.1 22 _ _ rfl _ _ _ ?_
        refine hG.1 23 _ _ rfl _ _ _ ?_
        refine ⟨⟨rfl, by decide⟩, H.1, ?_⟩
        replace H := H.2
        refine hG.1 24 _ _ rfl _ _ _ ?_
        refine hG.1 25 _ _ rfl _ _ _ ?_
        show G 46 [some (.ref 0), some (.int v1), some (.int v2), some (.int ((9 : Int32) * (σ6.1 1 (45 : Int32).toNatClampNeg)))] [] σ6
        refine hG.1 26 _ _ rfl _ _ _ ?_
        refine hG.1 27 _ _ rfl _ _ _ ?_
        refine ⟨⟨rfl, by decide⟩, ?_⟩
        refine hG.1 28 _ _ rfl _ _ _ ?_
        refine hG.1 29 _ _ rfl _ _ _ ?_
        refine hG.1 30 _ _ rfl _ _ _ ?_
        refine hG.1 31 _ _ rfl _ _ _ ?_
        refine hG.1 32 _ _ rfl _ _ _ ?_
        refine ⟨⟨rfl, by decide⟩, H.1, ?_⟩
        replace H := H.2
        refine hG.1 33 _ _ rfl _ _ _ ?_
        refine hG.1 34 _ _ rfl _ _ _ ?_
        refine ⟨⟨rfl, by decide⟩, ?_⟩
        refine hG.1 35 _ _ rfl _ _ _ ?_
        refine hG.1 36 _ _ rfl _ _ _ ?_
        refine hG.1 37 _ _ rfl _ _ _ ?_
        refine hG.1 38 _ _ rfl _ _ _ ?_
        refine hG.1 39 _ _ rfl _ _ _ ?_
        refine ⟨⟨rfl, by decide⟩, H.1, ?_⟩
        replace H := H.2
        refine hG.1 40 _ _ rfl _ _ _ ?_
        refine hG.1 41 _ _ rfl _ _ _ ?_
        refine ⟨⟨rfl, by decide⟩, ?_⟩
        refine hG.1 42 _ _ rfl _ _ _ ?_
        refine hG.1 43 _ _ rfl _ _ _ ?_
        refine hG.1 44 _ _ rfl _ _ _ ?_
        refine hG.1 45 _ _ rfl _ _ _ ?_
        refine hG.1 46 _ _ rfl _ _ _ ?_
        refine ⟨⟨rfl, by decide⟩, H.1, ?_⟩
        replace H := H.2
        refine hG.1 47 _ _ rfl _ _ _ ?_
        refine hG.1 48 _ _ rfl _ _ _ ?_
        refine ⟨⟨rfl, by decide⟩, ?_⟩
        refine hG.1 49 _ _ rfl _ _ _ ?_
        refine hG.1 50 _ _ rfl _ _ _ ?_
        refine hG.1 51 _ _ rfl _ _ _ ?_
        refine hG.1 52 _ _ rfl _ _ _ ?_
        refine hG.1 53 _ _ rfl _ _ _ ?_
        refine ⟨⟨rfl, by decide⟩, H.1, ?_⟩
        replace H := H.2
        refine hG.1 54 _ _ rfl _ _ _ ?_
        refine hG.1 55 _ _ rfl _ _ _ ?_
        refine ⟨⟨rfl, by decide⟩, ?_⟩
        refine hG.1 56 _ _ rfl _ _ _ ?_
        refine hG.1 57 _ _ rfl _ _ _ ?_
        refine hG.1 58 _ _ rfl _ _ _ ?_
        refine ⟨⟨rfl, by decide⟩, H.1, ?_⟩
        replace H := H.2
        refine hG.1 59 _ _ rfl _ _ _ ?_
        refine hG.1 60 _ _ rfl _ _ _ ?_
        refine hG.1 61 _ _ rfl _ _ _ ?_
        refine ⟨⟨rfl, by decide⟩, H.1, ?_⟩
        replace H := H.2
        refine hG.1 62 _ _ rfl _ _ _ ?_
        refine hG.1 63 _ _ rfl _ _ _ ?_
        refine ⟨⟨rfl, by decide⟩, ?_⟩
        refine hG.1 64 _ _ rfl _ _ _ ?_
        refine hG.1 65 _ _ rfl _ _ _ ?_
        refine ⟨⟨rfl, by decide⟩, H.1, ?_⟩
        replace H := H.2
        refine hG.1 66 _ _ rfl _ _ _ ?_
        exact ⟨rfl, H⟩
      · replace H := H.2 h9
        refine hG.1 17 _ _ rfl _ _ _ ?_
        refine hG.1 18 _ _ rfl _ _ _ ?_
        exact ⟨rfl, H⟩
    · replace H := H.2 h10
      refine hG.1 9 _ _ rfl _ _ _ ?_
      refine hG.1 10 _ _ rfl _ _ _ ?_
      exact ⟨rfl, H⟩
set_option maxRecDepth 100000 in
set_option maxHeartbeats 4000000 in
theorem hhX6_perch (g : gtX6_perch) (v1 : Int32) (v2 : Int32) (σ : px_St) (h : qrX6_perch g v1 v2 σ) (G : px_K) (hG : px_cl (opX6_perch (qoX6_perch g v1 v2 σ)) G) : G 0 (px_ent 4 [.ref 0, .int v1, .int v2]) [] σ := by
  obtain ⟨hX, hok⟩ := h
  have hV := hX.1
  have hvk := hok.1.1
  have h5 := hvk.1.1
  refine sgX6_perch_0 hG _ _ σ ⟨(), trivial, fun r1 σ1 h1 => ?_⟩
  obtain ⟨rfl, b1⟩ := h1
  unfold qoX6_perch x_perch
  refine bz2 (in_c (a := 0) (b := 3) (by decide) (by decide) b1) (fun z => ⟨(), trivial, fun r2 σ2 h2 => ?_⟩) (fun z => ?_)
  · obtain ⟨rfl, b2⟩ := h2
    refine bz1 b2 (fun y => ?_) (fun y => ?_)
    · rw [xif_t ⟨z, y⟩]
      obtain ⟨k, hk, rfl⟩ := (rngc 3 3 rfl (by omega)).mp z
      obtain ⟨s, hs, rfl⟩ := (rngc 9 9 rfl (by omega)).mp y
      have c5 : nI g.1.1 = 5 ↔ g.1.1 = 5 := nIe _ 5 rfl rfl (by omega) (by omega)
      rw [c45, hV.1.1, c5, nI_clamp (by omega), nI_clamp (by omega), show (9 : Int32) * nI g.1.1 + 0 = nI (9 * g.1.1) from ix9 _ 0, show (9 : Int32) * nI g.1.1 + 1 = nI (9 * g.1.1 + 1) from ix9 _ 1, show (9 : Int32) * nI g.1.1 + 2 = nI (9 * g.1.1 + 2) from ix9 _ 2, show (9 : Int32) * nI g.1.1 + 3 = nI (9 * g.1.1 + 3) from ix9 _ 3]
      refine ⟨i45, fun hn => ?_, fun hn => ?_⟩
      · rw [nI_clamp (by omega), nI_clamp (by omega), nI_clamp (by omega), nI_clamp (by omega)]
        refine ⟨i45, vp_in_nI (by omega) (by decide), vp_in_nI (by omega) (by decide), vp_in_nI (by omega) (by decide), vp_in_nI (by omega) (by decide), i45, i45, i45, ?_⟩
        rw [xif_t (by omega)]
        have e45 : (px_up (px_up (px_up (px_up σ2 1 (9 * g.1.1) (nI k)) 1 (9 * g.1.1 + 1) 1) 1 (9 * g.1.1 + 2) 0) 1 (9 * g.1.1 + 3) (nI s)).1 1 45 + 1 = nI (g.1.1 + 1) := by
          rw [px_up_at, if_neg (by omega), px_up_at, if_neg (by omega), px_up_at, if_neg (by omega), px_up_at, if_neg (by omega), hV.1.1]
          exact nI_1 _
        rw [e45]
        refine ⟨by rw [px_up_at, if_pos ⟨rfl, rfl⟩], mo_V1 hX hok.2.1 (fun j hj => ?_) ⟨⟨?_, ?_, ?_⟩, fun p hp => ?_⟩ (fun j hj => ?_)⟩
        · rw [px_up_n (by omega), px_up_n (by omega), px_up_n (by omega), px_up_n (by omega), px_up_n (by omega)]
        · rw [px_up_at, if_pos ⟨rfl, rfl⟩]; rfl
        · rw [px_up_at, if_neg (by omega), px_up_at, if_neg (by omega), px_up_at, if_neg (by omega), px_up_at, if_neg (by omega), px_up_at, if_neg (by omega)]; exact hV.1.2.1
        · rw [px_up_at, if_neg (by omega), px_up_at, if_neg (by omega), px_up_at, if_neg (by omega), px_up_at, if_neg (by omega), px_up_at, if_neg (by omega)]; exact hV.1.2.2
        · have hp' : p < g.1.1 + 1 := hp
          show mv_par _ p (if p = g.1.1 then _ else _)
          by_cases hpe : p = g.1.1
          · rw [if_pos hpe, hpe]
            refine ⟨?_, ?_, ?_, fun i x hx => ?_⟩
            · rw [px_up_at, if_neg (by omega), px_up_at, if_neg (by omega), px_up_at, if_neg (by omega), px_up_at, if_neg (by omega), px_up_at, if_pos ⟨rfl, rfl⟩]
            · rw [px_up_at, if_neg (by omega), px_up_at, if_neg (by omega), px_up_at, if_neg (by omega), px_up_at, if_pos ⟨rfl, rfl⟩]; rfl
            · rw [px_up_at, if_neg (by omega), px_up_at, if_neg (by omega), px_up_at, if_pos ⟨rfl, rfl⟩]; rfl
            · have h0 : i < 1 := (List.getElem?_eq_some_iff.mp hx).1
              have hi2 : i = 0 := by omega
              subst hi2
              rw [px_up_at, if_neg (by omega), px_up_at, if_pos ⟨rfl, rfl⟩, ← Option.some.inj hx]
          · rw [if_neg hpe]
            exact (hV.2 p (by omega)).cg (hvk.1.2.2.2 p (by omega)).2.1 (fun j a b => by rw [px_up_at, if_neg (by omega), px_up_at, if_neg (by omega), px_up_at, if_neg (by omega), px_up_at, if_neg (by omega), px_up_at, if_neg (by omega)])
        · rw [px_up_at, if_neg (by omega), px_up_at, if_neg (by omega), px_up_at, if_neg (by omega), px_up_at, if_neg (by omega), px_up_at, if_neg (by omega)]
      · rw [xif_f (by omega)]
        exact ⟨rfl, hX⟩
    · rw [xif_f (fun q => y q.2)]
      exact ⟨rfl, hX⟩
  · rw [xif_f (fun q => z q.1)]
    exact ⟨rfl, hX⟩
theorem mX6_perch (g : gtX6_perch) : px_Met dM yX6_perch (Cond.code yX6_perch cX6_perch 4 (some .int) :: wdM) rmX6_perch px_vI (prX6_perch g) (poX6_perch g) :=
  px_met (Z := (cX6_perch, 4, RX6, Cond.code yX6_perch cX6_perch 4 (some .int) :: wdM, (some .int), rmX6_perch, dM)) opX6_perch (by decide) rfl rfl okX6_perch (fun As σ h => by obtain ⟨v1, v2, rfl, h⟩ := h; exact Nat.le_of_ble_eq_true rfl) (fun As σ h G hG => by obtain ⟨v1, v2, rfl, h⟩ := h; exact hhX6_perch g v1 v2 σ h G hG)
