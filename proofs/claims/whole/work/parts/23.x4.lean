/-- the aviary with another sound in one place -/
def pv_snd (V : pv_V) (p i s : Nat) : pv_V := pv_at V p ((V.2.2.2 p).1, (V.2.2.2 p).2.1, (V.2.2.2 p).2.2.set i s)
theorem pv_snd_ok {V : pv_V} {p i s : Nat} (h : pv_ok V) (hp : p < V.1) (hs : s ≤ 9) : pv_ok (pv_snd V p i s) := by
  have hP := h.1.2.2.2 p hp
  refine ⟨pv_at_w h.1 ⟨hP.1, by rw [List.length_set]; exact hP.2.1, fun x hx => ?_⟩, fun q hq => ?_⟩
  · rcases List.mem_or_eq_of_mem_set hx with h1 | h1
    · exact hP.2.2 x h1
    · omega
  · have hq' : q < V.1 := hq
    show (if q = p then ((V.2.2.2 p).1, (V.2.2.2 p).2.1, (V.2.2.2 p).2.2.set i s) else V.2.2.2 q).2.1 < (if q = p then ((V.2.2.2 p).1, (V.2.2.2 p).2.1, (V.2.2.2 p).2.2.set i s) else V.2.2.2 q).2.2.length
    by_cases hqp : q = p
    · rw [if_pos hqp]
      show (V.2.2.2 p).2.1 < ((V.2.2.2 p).2.2.set i s).length
      rw [List.length_set]
      exact h.2 p hp
    · rw [if_neg hqp]
      exact h.2 q hq'
theorem pv_snd_snd (V : pv_V) (p i s t : Nat) : pv_at (pv_snd V p i s) p (((pv_snd V p i s).2.2.2 p).1, ((pv_snd V p i s).2.2.2 p).2.1, ((pv_snd V p i s).2.2.2 p).2.2.set i t) = pv_snd V p i t := by
  have e0 : (pv_snd V p i s).2.2.2 p = ((V.2.2.2 p).1, (V.2.2.2 p).2.1, (V.2.2.2 p).2.2.set i s) := by
    show (if p = p then _ else _) = _
    rw [if_pos rfl]
  rw [e0]
  unfold pv_snd pv_at
  simp only [List.set_set]
  congr 3
  funext q
  by_cases h : q = p
  · rw [if_pos h, if_pos h]
  · rw [if_neg h, if_neg h, if_neg h]
noncomputable def pv_asB (V : pv_V) (S : pv_S) : Bool := S.all (fun x => decide (pv_said (pv_run V x.1) = nI x.2))
theorem pv_asB_iff (V : pv_V) (S : pv_S) : pv_asB V S = true ↔ pv_asSeen V S := by
  unfold pv_asB pv_asSeen
  rw [List.all_eq_true]
  constructor
  · intro h x hx; exact of_decide_eq_true (h x hx)
  · intro h x hx; exact decide_eq_true (h x hx)
/-- among the sounds below m that may stand at (p, i): how many; and how many of them let x be said on day d -/
noncomputable def pv_cd (V : pv_V) (p i : Nat) (S : pv_S) : Nat → Nat
  | 0 => 0
  | m + 1 => if pv_asB (pv_snd V p i m) S = true then pv_cd V p i S m + 1 else pv_cd V p i S m
noncomputable def pv_hd (V : pv_V) (p i : Nat) (S : pv_S) (d x : Nat) : Nat → Nat
  | 0 => 0
  | m + 1 => if pv_asB (pv_snd V p i m) S = true ∧ pv_said (pv_run (pv_snd V p i m) d) = nI x then pv_hd V p i S d x m + 1 else pv_hd V p i S d x m
theorem pv_cd_le (V : pv_V) (p i : Nat) (S : pv_S) (m : Nat) : pv_cd V p i S m ≤ m := by
  induction m with
  | zero => exact Nat.le_refl _
  | succ m ih => rw [pv_cd]; split <;> omega
theorem pv_hd_le (V : pv_V) (p i : Nat) (S : pv_S) (d x m : Nat) : pv_hd V p i S d x m ≤ m := by
  induction m with
  | zero => exact Nat.le_refl _
  | succ m ih => rw [pv_hd]; split <;> omega
theorem ix10 (p i : Nat) : nI p * 10 + nI i = nI (10 * p + i) := by
  rw [show (10 : Int32) = nI 10 from rfl, pk_mul, nI_add, Nat.mul_comm]
theorem pv_said_run {V : pv_V} (h : pv_ok V) (hn : 0 < V.1) (d : Nat) (hd : V.2.2.1 + d < 2000) : ∃ x, x ≤ 9 ∧ pv_said (pv_run V d) = nI x := by
  have h1 := pv_run_ok h d hd
  have h2 := (pv_run_n V d).1
  refine ⟨pv_due (pv_run V d), pv_due_le h1 (by omega), ?_⟩
  unfold pv_said
  rw [if_neg (by omega)]
/-- only said, heard, trial and runner have changed -/
def px_ch (σ σ' : px_St) : Prop := ∀ k, k ≠ 1 → k ≠ 2 → (k < 13 ∨ 22 < k) → σ'.1 k = σ.1 k
abbrev gtX5_countHeard : Type := pv_V × pv_S × Nat × Nat
def qrX5_countHeard : gtX5_countHeard → Int32 → Int32 → px_St → Prop
  | (V, S, p, i), v1, v2, σ => av_is σ 8 V ∧ pv_ok V ∧ V.2.2.1 < 1900 ∧ sn_is σ 38 S ∧ sn_ok S ∧ p < V.1 ∧ i < (V.2.2.2 p).2.2.length ∧ v1 = nI p ∧ v2 = nI i
def qoX5_countHeard : gtX5_countHeard → Int32 → Int32 → px_St → Int32 → px_St → Prop
  | (V, S, p, i), _, _, σ, r, σ' => r = nI (pv_cd V p i S 10) ∧ (∀ d x, d ≤ 20 → x ≤ 9 → σ'.1 2 (10 * d + x) = nI (pv_hd V p i S d x 10)) ∧ px_ch σ σ'
def prX5_countHeard (g : gtX5_countHeard) : List Value → px_St → Prop := fun As σ => ∃ v1 : Int32, ∃ v2 : Int32, As = [.ref 0, .int v1, .int v2] ∧ qrX5_countHeard g v1 v2 σ
def poX5_countHeard (g : gtX5_countHeard) : List Value → px_St → Int32 → px_St → Prop
  | [.ref _, .int v1, .int v2], σ, r, σ' => qoX5_countHeard g v1 v2 σ r σ'
  | _, _, _, _ => False
theorem dX5_countHeard_0 : decode cX5_countHeard 0 = .ok (.iconst 0, 1) := by decide +kernel
theorem dX5_countHeard_1 : decode cX5_countHeard 1 = .ok (.istore_n 3, 1) := by decide +kernel
theorem dX5_countHeard_2 : decode cX5_countHeard 2 = .ok (.iload_n 3, 1) := by decide +kernel
theorem dX5_countHeard_3 : decode cX5_countHeard 3 = .ok (.aload_n 0, 1) := by decide +kernel
theorem dX5_countHeard_4 : decode cX5_countHeard 4 = .ok (.getfield 33, 3) := by decide +kernel
theorem dX5_countHeard_7 : decode cX5_countHeard 7 = .ok (.arraylength, 1) := by decide +kernel
theorem dX5_countHeard_8 : decode cX5_countHeard 8 = .ok (.if_icmp .ge 16, 3) := by decide +kernel
theorem dX5_countHeard_11 : decode cX5_countHeard 11 = .ok (.aload_n 0, 1) := by decide +kernel
theorem dX5_countHeard_12 : decode cX5_countHeard 12 = .ok (.getfield 33, 3) := by decide +kernel
theorem dX5_countHeard_15 : decode cX5_countHeard 15 = .ok (.iload_n 3, 1) := by decide +kernel
theorem dX5_countHeard_16 : decode cX5_countHeard 16 = .ok (.iconst 0, 1) := by decide +kernel
theorem dX5_countHeard_17 : decode cX5_countHeard 17 = .ok (.iastore, 1) := by decide +kernel
theorem dX5_countHeard_18 : decode cX5_countHeard 18 = .ok (.iinc 3 1, 3) := by decide +kernel
theorem dX5_countHeard_21 : decode cX5_countHeard 21 = .ok (.goto (-19), 3) := by decide +kernel
theorem dX5_countHeard_24 : decode cX5_countHeard 24 = .ok (.iconst 0, 1) := by decide +kernel
theorem dX5_countHeard_25 : decode cX5_countHeard 25 = .ok (.istore_n 3, 1) := by decide +kernel
theorem dX5_countHeard_26 : decode cX5_countHeard 26 = .ok (.aload_n 0, 1) := by decide +kernel
theorem dX5_countHeard_27 : decode cX5_countHeard 27 = .ok (.getfield 23, 3) := by decide +kernel
theorem dX5_countHeard_30 : decode cX5_countHeard 30 = .ok (.aload_n 0, 1) := by decide +kernel
theorem dX5_countHeard_31 : decode cX5_countHeard 31 = .ok (.getfield 10, 3) := by decide +kernel
theorem dX5_countHeard_34 : decode cX5_countHeard 34 = .ok (.invokevirtual 82, 3) := by decide +kernel
theorem dX5_countHeard_37 : decode cX5_countHeard 37 = .ok (.iconst 0, 1) := by decide +kernel
theorem dX5_countHeard_38 : decode cX5_countHeard 38 = .ok (.istore 4, 2) := by decide +kernel
theorem dX5_countHeard_40 : decode cX5_countHeard 40 = .ok (.iload 4, 2) := by decide +kernel
theorem dX5_countHeard_42 : decode cX5_countHeard 42 = .ok (.bipush 10, 2) := by decide +kernel
theorem dX5_countHeard_44 : decode cX5_countHeard 44 = .ok (.if_icmp .ge 85, 3) := by decide +kernel
theorem dX5_countHeard_47 : decode cX5_countHeard 47 = .ok (.aload_n 0, 1) := by decide +kernel
theorem dX5_countHeard_48 : decode cX5_countHeard 48 = .ok (.getfield 23, 3) := by decide +kernel
theorem dX5_countHeard_51 : decode cX5_countHeard 51 = .ok (.iload_n 1, 1) := by decide +kernel
theorem dX5_countHeard_52 : decode cX5_countHeard 52 = .ok (.iload_n 2, 1) := by decide +kernel
theorem dX5_countHeard_53 : decode cX5_countHeard 53 = .ok (.iload 4, 2) := by decide +kernel
theorem dX5_countHeard_55 : decode cX5_countHeard 55 = .ok (.invokevirtual 220, 3) := by decide +kernel
theorem dX5_countHeard_58 : decode cX5_countHeard 58 = .ok (.aload_n 0, 1) := by decide +kernel
theorem dX5_countHeard_59 : decode cX5_countHeard 59 = .ok (.aload_n 0, 1) := by decide +kernel
theorem dX5_countHeard_60 : decode cX5_countHeard 60 = .ok (.getfield 23, 3) := by decide +kernel
theorem dX5_countHeard_63 : decode cX5_countHeard 63 = .ok (.invokevirtual 216, 3) := by decide +kernel
theorem dX5_countHeard_66 : decode cX5_countHeard 66 = .ok (.ifCond .eq 57, 3) := by decide +kernel
theorem dX5_countHeard_69 : decode cX5_countHeard 69 = .ok (.iinc 3 1, 3) := by decide +kernel
theorem dX5_countHeard_72 : decode cX5_countHeard 72 = .ok (.iconst 0, 1) := by decide +kernel
theorem dX5_countHeard_73 : decode cX5_countHeard 73 = .ok (.istore 5, 2) := by decide +kernel
theorem dX5_countHeard_75 : decode cX5_countHeard 75 = .ok (.iload 5, 2) := by decide +kernel
theorem dX5_countHeard_77 : decode cX5_countHeard 77 = .ok (.bipush 20, 2) := by decide +kernel
theorem dX5_countHeard_79 : decode cX5_countHeard 79 = .ok (.if_icmp .gt 44, 3) := by decide +kernel
theorem dX5_countHeard_82 : decode cX5_countHeard 82 = .ok (.aload_n 0, 1) := by decide +kernel
theorem dX5_countHeard_83 : decode cX5_countHeard 83 = .ok (.getfield 29, 3) := by decide +kernel
theorem dX5_countHeard_86 : decode cX5_countHeard 86 = .ok (.iload 5, 2) := by decide +kernel
theorem dX5_countHeard_88 : decode cX5_countHeard 88 = .ok (.iaload, 1) := by decide +kernel
theorem dX5_countHeard_89 : decode cX5_countHeard 89 = .ok (.invokestatic 132, 3) := by decide +kernel
theorem dX5_countHeard_92 : decode cX5_countHeard 92 = .ok (.ifCond .eq 25, 3) := by decide +kernel
theorem dX5_countHeard_95 : decode cX5_countHeard 95 = .ok (.aload_n 0, 1) := by decide +kernel
theorem dX5_countHeard_96 : decode cX5_countHeard 96 = .ok (.getfield 33, 3) := by decide +kernel
theorem dX5_countHeard_99 : decode cX5_countHeard 99 = .ok (.iload 5, 2) := by decide +kernel
theorem dX5_countHeard_101 : decode cX5_countHeard 101 = .ok (.bipush 10, 2) := by decide +kernel
theorem dX5_countHeard_103 : decode cX5_countHeard 103 = .ok (.imul, 1) := by decide +kernel
theorem dX5_countHeard_104 : decode cX5_countHeard 104 = .ok (.aload_n 0, 1) := by decide +kernel
theorem dX5_countHeard_105 : decode cX5_countHeard 105 = .ok (.getfield 29, 3) := by decide +kernel
theorem dX5_countHeard_108 : decode cX5_countHeard 108 = .ok (.iload 5, 2) := by decide +kernel
theorem dX5_countHeard_110 : decode cX5_countHeard 110 = .ok (.iaload, 1) := by decide +kernel
theorem dX5_countHeard_111 : decode cX5_countHeard 111 = .ok (.iadd, 1) := by decide +kernel
theorem dX5_countHeard_112 : decode cX5_countHeard 112 = .ok (.dup2, 1) := by decide +kernel
theorem dX5_countHeard_113 : decode cX5_countHeard 113 = .ok (.iaload, 1) := by decide +kernel
theorem dX5_countHeard_114 : decode cX5_countHeard 114 = .ok (.iconst 1, 1) := by decide +kernel
theorem dX5_countHeard_115 : decode cX5_countHeard 115 = .ok (.iadd, 1) := by decide +kernel
theorem dX5_countHeard_116 : decode cX5_countHeard 116 = .ok (.iastore, 1) := by decide +kernel
theorem dX5_countHeard_117 : decode cX5_countHeard 117 = .ok (.iinc 5 1, 3) := by decide +kernel
theorem dX5_countHeard_120 : decode cX5_countHeard 120 = .ok (.goto (-45), 3) := by decide +kernel
theorem dX5_countHeard_123 : decode cX5_countHeard 123 = .ok (.iinc 4 1, 3) := by decide +kernel
theorem dX5_countHeard_126 : decode cX5_countHeard 126 = .ok (.goto (-86), 3) := by decide +kernel
theorem dX5_countHeard_129 : decode cX5_countHeard 129 = .ok (.iload_n 3, 1) := by decide +kernel
theorem dX5_countHeard_130 : decode cX5_countHeard 130 = .ok (.ireturn, 1) := by decide +kernel
abbrev rmX5_countHeard : Room := { frames := 6, cells := 0, slots := 0, locals := 150 }
def opX5_countHeard (po : Int32 → px_St → Prop) : List (Nat × px_Op) := [
  (0, px_push 1 (.int 0)),
  (1, px_is 2 3),
  (2, px_il 3 3),
  (3, px_al 4 0),
  (4, px_get dC 7 5 5),
  (7, px_alen dC 8 0),
  (8, px_ic 11 24 (fun x y => y ≤ x)),
  (11, px_al 12 0),
  (12, px_get dC 15 5 5),
  (15, px_il 16 3),
  (16, px_push 17 (.int 0)),
  (17, px_ast dC 18 0 (fun x => x)),
  (18, px_inc 21 3 1),
  (21, px_go 2),
  (24, px_push 25 (.int 0)),
  (25, px_is 26 3),
  (26, px_al 27 0),
  (27, px_get dC 30 5 2),
  (30, px_al 31 0),
  (31, px_get dC 34 5 0),
  (34, px_callV dC 37 0 1 px_vV prX0_becomes poX0_becomes),
  (37, px_push 38 (.int 0)),
  (38, px_is 40 4),
  (40, px_il 42 4),
  (42, px_push 44 (.int 10)),
  (44, px_ic 47 129 (fun x y => y ≤ x)),
  (47, px_al 48 0),
  (48, px_get dC 51 5 2),
  (51, px_il 52 1),
  (52, px_il 53 2),
  (53, px_il 55 4),
  (55, px_callV dC 58 0 3 px_vV prX0_setSound poX0_setSound),
  (58, px_al 59 0),
  (59, px_al 60 0),
  (60, px_get dC 63 5 2),
  (63, px_callV dC 66 5 1 px_vI prX5_isAsSeen poX5_isAsSeen),
  (66, px_if 69 123 (fun x => x = 0)),
  (69, px_inc 72 3 1),
  (72, px_push 73 (.int 0)),
  (73, px_is 75 5),
  (75, px_il 77 5),
  (77, px_push 79 (.int 20)),
  (79, px_ic 82 123 (fun x y => y < x)),
  (82, px_al 83 0),
  (83, px_get dC 86 5 4),
  (86, px_il 88 5),
  (88, px_ald dC 89 0),
  (89, px_callS 92 1 px_vI prX5_isSound poX5_isSound),
  (92, px_if 95 117 (fun x => x = 0)),
  (95, px_al 96 0),
  (96, px_get dC 99 5 5),
  (99, px_il 101 5),
  (101, px_push 103 (.int 10)),
  (103, px_bin 104 (fun x y => x * y)),
  (104, px_al 105 0),
  (105, px_get dC 108 5 4),
  (108, px_il 110 5),
  (110, px_ald dC 111 0),
  (111, px_bin 112 (fun x y => x + y)),
  (112, px_dup2 113),
  (113, px_ald dC 114 0),
  (114, px_push 115 (.int 1)),
  (115, px_bin 116 (fun x y => x + y)),
  (116, px_ast dC 117 0 (fun x => x)),
  (117, px_inc 120 5 1),
  (120, px_go 75),
  (123, px_inc 126 4 1),
  (126, px_go 40),
  (129, px_il 130 3),
  (130, px_iret (.int) po)]
set_option maxRecDepth 100000 in
set_option maxHeartbeats 4000000 in
theorem okX5_countHeard : ∀ (po : Int32 → px_St → Prop) (i pc : Nat) (op : px_Op), (opX5_countHeard po)[i]? = some (pc, op) → px_Snd (cX5_countHeard, 6, RX5, Cond.code yX5_countHeard cX5_countHeard 6 (some .int) :: wdC, (some .int), rmX5_countHeard, dC) px_vI po pc op := by
  intro po
  unfold opX5_countHeard
  refine px_ok_cons (ps_iconst dX5_countHeard_0 (by decide)) ?_
  refine px_ok_cons (ps_istore_n dX5_countHeard_1 rfl (by decide)) ?_
  refine px_ok_cons (ps_iload_n dX5_countHeard_2 rfl) ?_
  refine px_ok_cons (ps_aload_n dX5_countHeard_3 rfl) ?_
  refine px_ok_cons (fgX5_33 dX5_countHeard_4) ?_
  refine px_ok_cons (ps_alen0 dX5_countHeard_7) ?_
  refine px_ok_cons (ps_icmp_ge dX5_countHeard_8 (by decide)) ?_
  refine px_ok_cons (ps_aload_n dX5_countHeard_11 rfl) ?_
  refine px_ok_cons (fgX5_33 dX5_countHeard_12) ?_
  refine px_ok_cons (ps_iload_n dX5_countHeard_15 rfl) ?_
  refine px_ok_cons (ps_iconst dX5_countHeard_16 (by decide)) ?_
  refine px_ok_cons (ps_iastore dX5_countHeard_17) ?_
  refine px_ok_cons (ps_iinc dX5_countHeard_18 (by decide) (by decide)) ?_
  refine px_ok_cons (ps_goto dX5_countHeard_21 (by decide)) ?_
  refine px_ok_cons (ps_iconst dX5_countHeard_24 (by decide)) ?_
  refine px_ok_cons (ps_istore_n dX5_countHeard_25 rfl (by decide)) ?_
  refine px_ok_cons (ps_aload_n dX5_countHeard_26 rfl) ?_
  refine px_ok_cons (fgX5_23 dX5_countHeard_27) ?_
  refine px_ok_cons (ps_aload_n dX5_countHeard_30 rfl) ?_
  refine px_ok_cons (fgX5_10 dX5_countHeard_31) ?_
  refine px_ok_cons (ps_callV mX0_becomes (fun _ _ => rfl) (C := RX0) rfl (fun _ _ ht => px_cwV wgC (wdC_6_in _ (List.mem_of_getElem? (i := 18) rfl)) (wdC_6_in _ (List.mem_of_getElem? (i := 19) rfl)) (wdC_6_in _ (List.mem_of_getElem? (i := 20) rfl)) (wdC_0_in _ (List.mem_of_getElem? (i := 22) rfl)) (wdC_0_in _ (List.mem_of_getElem? (i := 18) rfl)) (by decide +kernel) rfl rfl (by decide) ht) dX5_countHeard_34) ?_
  refine px_ok_cons (ps_iconst dX5_countHeard_37 (by decide)) ?_
  refine px_ok_cons (ps_istore dX5_countHeard_38 (by decide)) ?_
  refine px_ok_cons (ps_iload dX5_countHeard_40) ?_
  refine px_ok_cons (ps_bipush dX5_countHeard_42 (by decide)) ?_
  refine px_ok_cons (ps_icmp_ge dX5_countHeard_44 (by decide)) ?_
  refine px_ok_cons (ps_aload_n dX5_countHeard_47 rfl) ?_
  refine px_ok_cons (fgX5_23 dX5_countHeard_48) ?_
  refine px_ok_cons (ps_iload_n dX5_countHeard_51 rfl) ?_
  refine px_ok_cons (ps_iload_n dX5_countHeard_52 rfl) ?_
  refine px_ok_cons (ps_iload dX5_countHeard_53) ?_
  refine px_ok_cons (ps_callV mX0_setSound (fun _ _ => rfl) (C := RX0) rfl (fun _ _ ht => px_cwV wgC (wdC_9_in _ (List.mem_of_getElem? (i := 20) rfl)) (wdC_9_in _ (List.mem_of_getElem? (i := 21) rfl)) (wdC_9_in _ (List.mem_of_getElem? (i := 22) rfl)) (wdC_0_in _ (List.mem_of_getElem? (i := 22) rfl)) (wdC_1_in _ (List.mem_of_getElem? (i := 25) rfl)) (by decide +kernel) rfl rfl (by decide) ht) dX5_countHeard_55) ?_
  refine px_ok_cons (ps_aload_n dX5_countHeard_58 rfl) ?_
  refine px_ok_cons (ps_aload_n dX5_countHeard_59 rfl) ?_
  refine px_ok_cons (fgX5_23 dX5_countHeard_60) ?_
  refine px_ok_cons (ps_callV mX5_isAsSeen (fun _ _ => rfl) (C := RX5) rfl (fun _ _ ht => px_cwV wgC (wdC_9_in _ (List.mem_of_getElem? (i := 16) rfl)) (wdC_9_in _ (List.mem_of_getElem? (i := 17) rfl)) (wdC_9_in _ (List.mem_of_getElem? (i := 18) rfl)) (wdC_4_in _ (List.mem_of_getElem? (i := 23) rfl)) (wdC_9_in _ (List.mem_of_getElem? (i := 15) rfl)) (by decide +kernel) rfl rfl (by decide) ht) dX5_countHeard_63) ?_
  refine px_ok_cons (ps_if_eq dX5_countHeard_66 (by decide)) ?_
  refine px_ok_cons (ps_iinc dX5_countHeard_69 (by decide) (by decide)) ?_
  refine px_ok_cons (ps_iconst dX5_countHeard_72 (by decide)) ?_
  refine px_ok_cons (ps_istore dX5_countHeard_73 (by decide)) ?_
  refine px_ok_cons (ps_iload dX5_countHeard_75) ?_
  refine px_ok_cons (ps_bipush dX5_countHeard_77 (by decide)) ?_
  refine px_ok_cons (ps_icmp_gt dX5_countHeard_79 (by decide)) ?_
  refine px_ok_cons (ps_aload_n dX5_countHeard_82 rfl) ?_
  refine px_ok_cons (fgX5_29 dX5_countHeard_83) ?_
  refine px_ok_cons (ps_iload dX5_countHeard_86) ?_
  refine px_ok_cons (ps_iaload dX5_countHeard_88) ?_
  refine px_ok_cons (ps_callS mX5_isSound (fun _ _ => rfl) (fun _ _ ht => px_cwS wgC (wdC_7_in _ (List.mem_of_getElem? (i := 5) rfl)) (wdC_4_in _ (List.mem_of_getElem? (i := 32) rfl)) (wdC_4_in _ (List.mem_of_getElem? (i := 23) rfl)) (wdC_4_in _ (List.mem_of_getElem? (i := 28) rfl)) (by decide +kernel) rfl rfl (by decide) ht) dX5_countHeard_89) ?_
  refine px_ok_cons (ps_if_eq dX5_countHeard_92 (by decide)) ?_
  refine px_ok_cons (ps_aload_n dX5_countHeard_95 rfl) ?_
  refine px_ok_cons (fgX5_33 dX5_countHeard_96) ?_
  refine px_ok_cons (ps_iload dX5_countHeard_99) ?_
  refine px_ok_cons (ps_bipush dX5_countHeard_101 (by decide)) ?_
  refine px_ok_cons (ps_imul dX5_countHeard_103) ?_
  refine px_ok_cons (ps_aload_n dX5_countHeard_104 rfl) ?_
  refine px_ok_cons (fgX5_29 dX5_countHeard_105) ?_
  refine px_ok_cons (ps_iload dX5_countHeard_108) ?_
  refine px_ok_cons (ps_iaload dX5_countHeard_110) ?_
  refine px_ok_cons (ps_iadd dX5_countHeard_111) ?_
  refine px_ok_cons (ps_dup2 dX5_countHeard_112) ?_
  refine px_ok_cons (ps_iaload dX5_countHeard_113) ?_
  refine px_ok_cons (ps_iconst dX5_countHeard_114 (by decide)) ?_
  refine px_ok_cons (ps_iadd dX5_countHeard_115) ?_
  refine px_ok_cons (ps_iastore dX5_countHeard_116) ?_
  refine px_ok_cons (ps_iinc dX5_countHeard_117 (by decide) (by decide)) ?_
  refine px_ok_cons (ps_goto dX5_countHeard_120 (by decide)) ?_
  refine px_ok_cons (ps_iinc dX5_countHeard_123 (by decide) (by decide)) ?_
  refine px_ok_cons (ps_goto dX5_countHeard_126 (by decide)) ?_
  refine px_ok_cons (ps_iload_n dX5_countHeard_129 rfl) ?_
  refine px_ok_cons (ps_ireturn rfl dX5_countHeard_130) ?_
  exact px_ok_nil
set_option maxRecDepth 100000 in
set_option maxHeartbeats 4000000 in
theorem sgX5_countHeard_0 {po : Int32 → px_St → Prop} {G : px_K} (hG : px_cl (opX5_countHeard po) G) (v1 : Int32) (v2 : Int32) (σ : px_St)
    (H : G 2 [some (.ref 0), some (.int v1), some (.int v2), some (.int (0 : Int32)), none, none] [] σ) :
    G 0 (px_ent 6 [.ref 0, .int v1, .int v2]) [] σ := by
  refine hG.1 0 _ _ rfl _ _ _ ?_
  refine hG.1 1 _ _ rfl _ _ _ ?_
  show G 2 [some (.ref 0), some (.int v1), some (.int v2), some (.int (0 : Int32)), none, none] [] σ
  exact H
set_option maxRecDepth 100000 in
set_option maxHeartbeats 4000000 in
theorem sgX5_countHeard_2 {po : Int32 → px_St → Prop} {G : px_K} (hG : px_cl (opX5_countHeard po) G) (v1 : Int32) (v2 : Int32) (v3 : Int32) (σ : px_St)
    (H : (((nI 210) ≤ v3) → ∃ g3 : gtX0_becomes, qrX0_becomes g3 13 8 σ ∧ ∀ (r1 : Unit) (σ2 : px_St), qoX0_becomes g3 13 8 σ r1 σ2 → G 40 [some (.ref 0), some (.int v1), some (.int v2), some (.int (0 : Int32)), some (.int (0 : Int32)), none] [] σ2) ∧ (¬ ((nI 210) ≤ v3) → vp_in v3 210 ∧ G 2 [some (.ref 0), some (.int v1), some (.int v2), some (.int (v3 + 1)), none, none] [] (px_up σ 2 v3.toNatClampNeg (0 : Int32)))) :
    G 2 [some (.ref 0), some (.int v1), some (.int v2), some (.int v3), none, none] [] σ := by
  refine hG.1 2 _ _ rfl _ _ _ ?_
  refine hG.1 3 _ _ rfl _ _ _ ?_
  refine hG.1 4 _ _ rfl _ _ _ ?_
  refine ⟨⟨rfl, by decide⟩, ?_⟩
  refine hG.1 5 _ _ rfl _ _ _ ?_
  refine ⟨⟨rfl, by decide⟩, ?_⟩
  refine hG.1 6 _ _ rfl _ _ _ ?_
  refine ⟨fun h5 => ?_, fun h5 => ?_⟩
  · replace H := H.1 h5
    refine hG.1 14 _ _ rfl _ _ _ ?_
    refine hG.1 15 _ _ rfl _ _ _ ?_
    show G 26 [some (.ref 0), some (.int v1), some (.int v2), some (.int (0 : Int32)), none, none] [] σ
    refine hG.1 16 _ _ rfl _ _ _ ?_
    refine hG.1 17 _ _ rfl _ _ _ ?_
    refine ⟨⟨rfl, by decide⟩, ?_⟩
    refine hG.1 18 _ _ rfl _ _ _ ?_
    refine hG.1 19 _ _ rfl _ _ _ ?_
    refine ⟨⟨rfl, by decide⟩, ?_⟩
    refine hG.1 20 _ _ rfl _ _ _ ?_
    obtain ⟨g3, H⟩ := H
    refine ⟨⟨rfl, by decide⟩, Nat.le_of_ble_eq_true rfl, g3, ⟨_, _, rfl, (Or.inr (Or.inl rfl)), (Or.inl rfl), H.1⟩, fun r1 σ2 hp4 => ?_⟩
    replace H := H.2 r1 σ2 hp4
    refine hG.1 21 _ _ rfl _ _ _ ?_
    refine hG.1 22 _ _ rfl _ _ _ ?_
    show G 40 [some (.ref 0), some (.int v1), some (.int v2), some (.int (0 : Int32)), some (.int (0 : Int32)), none] [] σ2
    exact H
  · replace H := H.2 h5
    refine hG.1 7 _ _ rfl _ _ _ ?_
    refine hG.1 8 _ _ rfl _ _ _ ?_
    refine ⟨⟨rfl, by decide⟩, ?_⟩
    refine hG.1 9 _ _ rfl _ _ _ ?_
    refine hG.1 10 _ _ rfl _ _ _ ?_
    refine hG.1 11 _ _ rfl _ _ _ ?_
    refine ⟨⟨rfl, by decide⟩, H.1, ?_⟩
    replace H := H.2
    refine hG.1 12 _ _ rfl _ _ _ ?_
    show G 21 [some (.ref 0), some (.int v1), some (.int v2), some (.int (v3 + 1)), none, none] [] (px_up σ 2 v3.toNatClampNeg (0 : Int32))
    refine hG.1 13 _ _ rfl _ _ _ ?_
    exact H
set_option maxRecDepth 100000 in
set_option maxHeartbeats 4000000 in
theorem sgX5_countHeard_40 {po : Int32 → px_St → Prop} {G : px_K} (hG : px_cl (opX5_countHeard po) G) (v1 : Int32) (v2 : Int32) (v3 : Int32) (v4 : Int32) (σ : px_St)
    (H : (((10 : Int32) ≤ v4) → po v3 σ) ∧ (¬ ((10 : Int32) ≤ v4) → ∃ g3 : gtX0_setSound, qrX0_setSound g3 13 v1 v2 v4 σ ∧ ∀ (r1 : Unit) (σ2 : px_St), qoX0_setSound g3 13 v1 v2 v4 σ r1 σ2 → ∃ g7 : gtX5_isAsSeen, qrX5_isAsSeen g7 13 σ2 ∧ ∀ (r5 : Int32) (σ6 : px_St), qoX5_isAsSeen g7 13 σ2 r5 σ6 → ((r5 = 0) → G 40 [some (.ref 0), some (.int v1), some (.int v2), some (.int v3), some (.int (v4 + 1)), none] [] σ6) ∧ (¬ (r5 = 0) → G 75 [some (.ref 0), some (.int v1), some (.int v2), some (.int (v3 + 1)), some (.int v4), some (.int (0 : Int32))] [] σ6))) :
    G 40 [some (.ref 0), some (.int v1), some (.int v2), some (.int v3), some (.int v4), none] [] σ := by
  refine hG.1 23 _ _ rfl _ _ _ ?_
  refine hG.1 24 _ _ rfl _ _ _ ?_
  refine hG.1 25 _ _ rfl _ _ _ ?_
  refine ⟨fun h10 => ?_, fun h10 => ?_⟩
  · replace H := H.1 h10
    refine hG.1 68 _ _ rfl _ _ _ ?_
    refine hG.1 69 _ _ rfl _ _ _ ?_
    exact ⟨rfl, H⟩
  · replace H := H.2 h10
    refine hG.1 26 _ _ rfl _ _ _ ?_
    refine hG.1 27 _ _ rfl _ _ _ ?_
    refine ⟨⟨rfl, by decide⟩, ?_⟩
    refine hG.1 28 _ _ rfl _ _ _ ?_
    refine hG.1 29 _ _ rfl _ _ _ ?_
    refine hG.1 30 _ _ rfl _ _ _ ?_
    refine hG.1 31 _ _ rfl _ _ _ ?_
    obtain ⟨g3, H⟩ := H
    refine ⟨⟨rfl, by decide⟩, Nat.le_of_ble_eq_true rfl, g3, ⟨_, _, _, _, rfl, (Or.inr (Or.inl rfl)), H.1⟩, fun r1 σ2 hp4 => ?_⟩
    replace H := H.2 r1 σ2 hp4
    refine hG.1 32 _ _ rfl _ _ _ ?_
    refine hG.1 33 _ _ rfl _ _ _ ?_
    refine hG.1 34 _ _ rfl _ _ _ ?_
    refine ⟨⟨rfl, by decide⟩, ?_⟩
    refine hG.1 35 _ _ rfl _ _ _ ?_
    obtain ⟨g7, H⟩ := H
    refine ⟨⟨rfl, by decide⟩, Nat.le_of_ble_eq_true rfl, g7, ⟨_, rfl, (Or.inr (Or.inl rfl)), H.1⟩, fun r5 σ6 hp8 => ?_⟩
    replace H := H.2 r5 σ6 hp8
    refine hG.1 36 _ _ rfl _ _ _ ?_
    refine ⟨fun h9 => ?_, fun h9 => ?_⟩
    · replace H := H.1 h9
      refine hG.1 66 _ _ rfl _ _ _ ?_
      show G 126 [some (.ref 0), some (.int v1), some (.int v2), some (.int v3), some (.int (v4 + 1)), none] [] σ6
      refine hG.1 67 _ _ rfl _ _ _ ?_
      exact H
    · replace H := H.2 h9
      refine hG.1 37 _ _ rfl _ _ _ ?_
      show G 72 [some (.ref 0), some (.int v1), some (.int v2), some (.int (v3 + 1)), some (.int v4), none] [] σ6
      refine hG.1 38 _ _ rfl _ _ _ ?_
      refine hG.1 39 _ _ rfl _ _ _ ?_
      show G 75 [some (.ref 0), some (.int v1), some (.int v2), some (.int (v3 + 1)), some (.int v4), some (.int (0 : Int32))] [] σ6
      exact H
set_option maxRecDepth 100000 in
set_option maxHeartbeats 4000000 in
theorem sgX5_countHeard_75 {po : Int32 → px_St → Prop} {G : px_K} (hG : px_cl (opX5_countHeard po) G) (v1 : Int32) (v2 : Int32) (v3 : Int32) (v4 : Int32) (v5 : Int32) (σ : px_St)
    (H : (((20 : Int32) < v5) → G 40 [some (.ref 0), some (.int v1), some (.int v2), some (.int v3), some (.int (v4 + 1)), none] [] σ) ∧ (¬ ((20 : Int32) < v5) → vp_in v5 62 ∧ ∃ g3 : gtX5_isSound, qrX5_isSound g3 (σ.1 1 v5.toNatClampNeg) σ ∧ ∀ (r1 : Int32) (σ2 : px_St), qoX5_isSound g3 (σ.1 1 v5.toNatClampNeg) σ r1 σ2 → ((r1 = 0) → G 75 [some (.ref 0), some (.int v1), some (.int v2), some (.int v3), some (.int v4), some (.int (v5 + 1))] [] σ2) ∧ (¬ (r1 = 0) → vp_in v5 62 ∧ vp_in ((v5 * (10 : Int32)) + (σ2.1 1 v5.toNatClampNeg)) 210 ∧ vp_in ((v5 * (10 : Int32)) + (σ2.1 1 v5.toNatClampNeg)) 210 ∧ G 75 [some (.ref 0), some (.int v1), some (.int v2), some (.int v3), some (.int v4), some (.int (v5 + 1))] [] (px_up σ2 2 ((v5 * (10 : Int32)) + (σ2.1 1 v5.toNatClampNeg)).toNatClampNeg ((σ2.1 2 ((v5 * (10 : Int32)) + (σ2.1 1 v5.toNatClampNeg)).toNatClampNeg) + (1 : Int32)))))) :
    G 75 [some (.ref 0), some (.int v1), some (.int v2), some (.int v3), some (.int v4), some (.int v5)] [] σ := by
  refine hG.1 40 _ _ rfl _ _ _ ?_
  refine hG.1 41 _ _ rfl _ _ _ ?_
  refine hG.1 42 _ _ rfl _ _ _ ?_
  refine ⟨fun h6 => ?_, fun h6 => ?_⟩
  · replace H := H.1 h6
    refine hG.1 66 _ _ rfl _ _ _ ?_
    show G 126 [some (.ref 0), some (.int v1), some (.int v2), some (.int v3), some (.int (v4 + 1)), some (.int v5)] [] σ
    refine hG.1 67 _ _ rfl _ _ _ ?_
    refine hG.2 40 [some (.ref 0), some (.int v1), some (.int v2), some (.int v3), some (.int (v4 + 1)), none] _ _ _ ⟨rfl, rfl, rfl, rfl, rfl, trivial⟩ ?_
    exact H
  · replace H := H.2 h6
    refine hG.1 43 _ _ rfl _ _ _ ?_
    refine hG.1 44 _ _ rfl _ _ _ ?_
    refine ⟨⟨rfl, by decide⟩, ?_⟩
    refine hG.1 45 _ _ rfl _ _ _ ?_
    refine hG.1 46 _ _ rfl _ _ _ ?_
    refine ⟨⟨rfl, by decide⟩, H.1, ?_⟩
    replace H := H.2
    refine hG.1 47 _ _ rfl _ _ _ ?_
    obtain ⟨g3, H⟩ := H
    refine ⟨Nat.le_of_ble_eq_true rfl, Nat.le_of_ble_eq_true rfl, g3, ⟨_, rfl, H.1⟩, fun r1 σ2 hp4 => ?_⟩
    replace H := H.2 r1 σ2 hp4
    refine hG.1 48 _ _ rfl _ _ _ ?_
    refine ⟨fun h5 => ?_, fun h5 => ?_⟩
    · replace H := H.1 h5
      refine hG.1 64 _ _ rfl _ _ _ ?_
      show G 120 [some (.ref 0), some (.int v1), some (.int v2), some (.int v3), some (.int v4), some (.int (v5 + 1))] [] σ2
      refine hG.1 65 _ _ rfl _ _ _ ?_
      exact H
    · replace H := H.2 h5
      refine hG.1 49 _ _ rfl _ _ _ ?_
      refine hG.1 50 _ _ rfl _ _ _ ?_
      refine ⟨⟨rfl, by decide⟩, ?_⟩
      refine hG.1 51 _ _ rfl _ _ _ ?_
      refine hG.1 52 _ _ rfl _ _ _ ?_
      refine hG.1 53 _ _ rfl _ _ _ ?_
      refine hG.1 54 _ _ rfl _ _ _ ?_
      refine hG.1 55 _ _ rfl _ _ _ ?_
      refine ⟨⟨rfl, by decide⟩, ?_⟩
      refine hG.1 56 _ _ rfl _ _ _ ?_
      refine hG.1 57 _ _ rfl _ _ _ ?_
      refine ⟨⟨rfl, by decide⟩, H.1, ?_⟩
      replace H := H.2
      refine hG.1 58 _ _ rfl _ _ _ ?_
      refine hG.1 59 _ _ rfl _ _ _ ?_
      refine hG.1 60 _ _ rfl _ _ _ ?_
      refine ⟨⟨rfl, by decide⟩, H.1, ?_⟩
      replace H := H.2
      refine hG.1 61 _ _ rfl _ _ _ ?_
      refine hG.1 62 _ _ rfl _ _ _ ?_
      refine hG.1 63 _ _ rfl _ _ _ ?_
      refine ⟨⟨rfl, by decide⟩, H.1, ?_⟩
      replace H := H.2
      refine hG.1 64 _ _ rfl _ _ _ ?_
      show G 120 [some (.ref 0), some (.int v1), some (.int v2), some (.int v3), some (.int v4), some (.int (v5 + 1))] [] (px_up σ2 2 ((v5 * (10 : Int32)) + (σ2.1 1 v5.toNatClampNeg)).toNatClampNeg ((σ2.1 2 ((v5 * (10 : Int32)) + (σ2.1 1 v5.toNatClampNeg)).toNatClampNeg) + (1 : Int32)))
      refine hG.1 65 _ _ rfl _ _ _ ?_
      exact H
set_option maxRecDepth 100000 in
set_option maxHeartbeats 4000000 in
theorem hhX5_countHeard (g : gtX5_countHeard) (v1 : Int32) (v2 : Int32) (σ : px_St) (h : qrX5_countHeard g v1 v2 σ) (G : px_K) (hG : px_cl (opX5_countHeard (qoX5_countHeard g v1 v2 σ)) G) : G 0 (px_ent 6 [.ref 0, .int v1, .int v2]) [] σ := by
  obtain ⟨V, S, p, i⟩ := g
  obtain ⟨hV, hok, hd, hS, hSok, hp, hi, rfl, rfl⟩ := h
  refine sgX5_countHeard_0 hG _ _ σ ?_
  -- the sounds, one behind another
  have outer : ∀ n m, m + n = 10 → ∀ (W : pv_V) (σ' : px_St), av_is σ' 13 W → pv_w W → (W = V ∨ ∃ t, W = pv_snd V p i t) → (∀ d x, d ≤ 20 → x ≤ 9 → σ'.1 2 (10 * d + x) = nI (pv_hd V p i S d x m)) → px_ch σ σ' →
      G 40 [some (.ref 0), some (.int (nI p)), some (.int (nI i)), some (.int (nI (pv_cd V p i S m))), some (.int (nI m)), none] [] σ' := by
    intro n
    induction n with
    | zero =>
      intro m hm W σ' hW hWw hWe hh ho
      have e : m = 10 := by omega
      subst e
      exact sgX5_countHeard_40 hG _ _ _ _ σ' ⟨fun _ => ⟨rfl, hh, ho⟩, fun z => absurd (by decide) z⟩
    | succ n ih =>
      intro m hm W σ' hW hWw hWe hh ho
      have hWp : p < W.1 ∧ i < (W.2.2.2 p).2.2.length ∧ pv_at W p ((W.2.2.2 p).1, (W.2.2.2 p).2.1, (W.2.2.2 p).2.2.set i m) = pv_snd V p i m := by
        rcases hWe with rfl | ⟨t, rfl⟩
        · exact ⟨hp, hi, rfl⟩
        · refine ⟨hp, ?_, pv_snd_snd V p i t m⟩
          show i < (if p = p then ((V.2.2.2 p).1, (V.2.2.2 p).2.1, (V.2.2.2 p).2.2.set i t) else V.2.2.2 p).2.2.length
          rw [if_pos rfl]
          show i < ((V.2.2.2 p).2.2.set i t).length
          rw [List.length_set]; exact hi
      refine sgX5_countHeard_40 hG _ _ _ _ σ' ⟨fun z => absurd ((nIle 10 m rfl rfl (by omega) (by omega)).mp z) (by omega), fun _ => ⟨(W, p, i, m), ⟨hW, hWw, hWp.1, hWp.2.1, rfl, rfl, rfl⟩, fun _ σ2 h2 => ?_⟩⟩
      obtain ⟨a1, a2⟩ := h2
      rw [hWp.2.2] at a1
      have hok2 : pv_ok (pv_snd V p i m) := pv_snd_ok hok hp (by omega)
      have hS2 : sn_is σ2 38 S := hS.kept (fun k h1 h2 => (a2.1 k (by omega)).trans (ho k (by omega) (by omega) (by omega)))
      refine ⟨(pv_snd V p i m, S), ⟨by omega, a1, hok2, hd, hS2, hSok⟩, fun r3 σ3 h3 => ?_⟩
      obtain ⟨b3, s3, f3⟩ := h3
      have ho3 : px_ch σ σ3 := fun k h1 h2 h4 => (f3 k h1 (by omega)).trans ((a2.1 k (by omega)).trans (ho k h1 h2 h4))
      have hW3 : av_is σ3 13 (pv_snd V p i m) := f3.av (Or.inr (Or.inl rfl)) (by omega) a1
      have h23 : σ3.1 2 = σ'.1 2 := (f3 2 (by omega) (by omega)).trans (a2.1 2 (by omega))
      rw [px_b_0 b3, nI_1, nI_1]
      have e := ih (m + 1) (by omega) (pv_snd V p i m)
      rw [pv_cd] at e
      have hth : ∀ d x, pv_hd V p i S d x (m + 1) = if pv_asB (pv_snd V p i m) S = true ∧ pv_said (pv_run (pv_snd V p i m) d) = nI x then pv_hd V p i S d x m + 1 else pv_hd V p i S d x m := fun _ _ => rfl
      refine ⟨fun hn => ?_, fun hy => ?_⟩
      · have hb : ¬ pv_asB (pv_snd V p i m) S = true := fun z => hn ((pv_asB_iff _ _).mp z)
        rw [if_neg hb] at e
        refine e σ3 hW3 hok2.1 (Or.inr ⟨m, rfl⟩) (fun d x hd1 hx1 => ?_) ho3
        rw [h23, hth, if_neg (fun z => hb z.1)]
        exact hh d x hd1 hx1
      · have hb : pv_asB (pv_snd V p i m) S = true := (pv_asB_iff _ _).mpr (Classical.byContradiction hy)
        rw [if_pos hb] at e
        -- the days
        have inner : ∀ l d, d + l = 21 → ∀ τ, av_is τ 13 (pv_snd V p i m) → (∀ d', d' < 21 → τ.1 1 d' = pv_said (pv_run (pv_snd V p i m) d')) → (∀ d' x, d' ≤ 20 → x ≤ 9 → τ.1 2 (10 * d' + x) = nI (if d' < d then pv_hd V p i S d' x (m + 1) else pv_hd V p i S d' x m)) → px_ch σ τ →
            G 75 [some (.ref 0), some (.int (nI p)), some (.int (nI i)), some (.int (nI (pv_cd V p i S m + 1))), some (.int (nI m)), some (.int (nI d))] [] τ := by
          intro l
          induction l with
          | zero =>
            intro d hdl τ t1 t2 t3 t4
            have ed : d = 21 := by omega
            subst ed
            refine sgX5_countHeard_75 hG _ _ _ _ _ τ ⟨fun _ => ?_, fun z => absurd (by decide) z⟩
            rw [nI_1]
            refine e τ t1 hok2.1 (Or.inr ⟨m, rfl⟩) (fun d' x hd1 hx1 => ?_) t4
            rw [t3 d' x hd1 hx1, if_pos (by omega)]
          | succ l ihl =>
            intro d hdl τ t1 t2 t3 t4
            obtain ⟨y, hy9, hye⟩ := pv_said_run hok2 (show 0 < V.1 by omega) d (show V.2.2.1 + d < 2000 by omega)
            refine sgX5_countHeard_75 hG _ _ _ _ _ τ ⟨fun z => absurd ((nIlt 20 d rfl rfl (by omega) (by omega)).mp z) (by omega), fun _ => ?_⟩
            rw [nI_clamp (by omega), t2 d (by omega), hye]
            refine ⟨vp_in_nI (by omega) (by decide), (), trivial, fun r4 σ4 h4 => ?_⟩
            obtain ⟨rfl, b4⟩ := h4
            rw [px_b_0 b4, t2 d (by omega), hye, ix10, nI_clamp (by omega), t3 d y (by omega) hy9, if_neg (by omega), nI_1, nI_1]
            refine ⟨fun z => absurd ((rngc 9 9 rfl (by omega)).mpr ⟨y, hy9, rfl⟩) z, fun _ => ⟨vp_in_nI (by omega) (by decide), vp_in_nI (by omega) (by decide), vp_in_nI (by omega) (by decide), ?_⟩⟩
            refine ihl (d + 1) (by omega) _ (t1.kept (fun k h1 h2 => px_up_n (by omega))) (fun d' hd' => by rw [px_up_n (by omega)]; exact t2 d' hd') (fun d' x hd1 hx1 => ?_) (fun k h1 h2 h3 => by rw [px_up_n h2]; exact t4 k h1 h2 h3)
            rw [px_up_at]
            by_cases hc : d' = d ∧ x = y
            · rw [if_pos ⟨rfl, by omega⟩, if_pos (by omega), hc.1, hc.2, hth, if_pos ⟨hb, hye⟩]
            · rw [if_neg (fun z => hc (by omega)), t3 d' x hd1 hx1]
              by_cases hlt : d' < d
              · rw [if_pos hlt, if_pos (by omega)]
              · rw [if_neg hlt]
                by_cases hde : d' = d
                · rw [if_pos (by omega), hth, if_neg (fun z => ?_)]
                  have h1 := z.2
                  rw [hde, hye] at h1
                  exact hc ⟨hde, ((nI_eq (by omega) (by omega)).mp h1).symm⟩
                · rw [if_neg (by omega)]
        refine inner 21 0 (by omega) σ3 hW3 s3 (fun d' x hd1 hx1 => ?_) ho3
        rw [h23, if_neg (by omega)]
        exact hh d' x hd1 hx1
  -- heard is cleared
  have clear : ∀ n j, j + n = 210 → ∀ σ', (∀ j', j' < j → σ'.1 2 j' = 0) → (∀ k, k ≠ 2 → σ'.1 k = σ.1 k) → G 2 [some (.ref 0), some (.int (nI p)), some (.int (nI i)), some (.int (nI j)), none, none] [] σ' := by
    intro n
    induction n with
    | zero =>
      intro j hj σ' h1 h2
      have e : j = 210 := by omega
      subst e
      refine sgX5_countHeard_2 hG _ _ _ σ' ⟨fun _ => ⟨V, ⟨by omega, hV.kept (fun k h3 h4 => h2 k (by omega)), hok.1⟩, fun _ σ2 hq => ?_⟩, fun z => absurd (by decide) z⟩
      obtain ⟨q1, q2⟩ := hq
      refine outer 10 0 (by omega) V σ2 q1 hok.1 (Or.inl rfl) (fun d x hd1 hx1 => ?_) (fun k h3 h4 h5 => (q2.1 k (by omega)).trans (h2 k h4))
      rw [q2.1 2 (by omega), h1 _ (by omega)]
      rfl
    | succ n ih =>
      intro j hj σ' h1 h2
      refine sgX5_countHeard_2 hG _ _ _ σ' ⟨fun z => absurd z (nI_ge (by omega) (by omega)), fun _ => ⟨vp_in_nI (by omega) (by decide), ?_⟩⟩
      rw [nI_clamp (by omega), nI_1]
      refine ih (j + 1) (by omega) _ (fun j' hj' => ?_) (fun k hk => by rw [px_up_n hk]; exact h2 k hk)
      rw [px_up_at]
      by_cases he : j' = j
      · rw [if_pos ⟨rfl, he⟩]
      · rw [if_neg (by omega)]; exact h1 j' (by omega)
  exact clear 210 0 (by omega) σ (fun j' hj' => by omega) (fun _ _ => rfl)
theorem mX5_countHeard (g : gtX5_countHeard) : px_Met dC yX5_countHeard (Cond.code yX5_countHeard cX5_countHeard 6 (some .int) :: wdC) rmX5_countHeard px_vI (prX5_countHeard g) (poX5_countHeard g) :=
  px_met (Z := (cX5_countHeard, 6, RX5, Cond.code yX5_countHeard cX5_countHeard 6 (some .int) :: wdC, (some .int), rmX5_countHeard, dC)) opX5_countHeard (by decide) rfl rfl okX5_countHeard (fun As σ h => by obtain ⟨v1, v2, rfl, h⟩ := h; exact Nat.le_of_ble_eq_true rfl) (fun As σ h G hG => by obtain ⟨v1, v2, rfl, h⟩ := h; exact hhX5_countHeard g v1 v2 σ h G hG)
/-- the most of the first k of a row of ten -/
def pv_mx (f : Nat → Nat) : Nat → Nat
  | 0 => 0
  | k + 1 => max (pv_mx f k) (f k)
abbrev gtX5_mostHeard : Type := Nat × (Nat → Nat)
def qrX5_mostHeard : gtX5_mostHeard → Int32 → px_St → Prop
  | (d, f), v1, σ => d ≤ 20 ∧ v1 = nI d ∧ ∀ x, x ≤ 9 → σ.1 2 (10 * d + x) = nI (f x) ∧ f x < 2 ^ 31
def qoX5_mostHeard : gtX5_mostHeard → Int32 → px_St → Int32 → px_St → Prop
  | (_, f), _, σ, r, σ' => σ' = σ ∧ r = nI (pv_mx f 10)
def prX5_mostHeard (g : gtX5_mostHeard) : List Value → px_St → Prop := fun As σ => ∃ v1 : Int32, As = [.ref 0, .int v1] ∧ qrX5_mostHeard g v1 σ
def poX5_mostHeard (g : gtX5_mostHeard) : List Value → px_St → Int32 → px_St → Prop
  | [.ref _, .int v1], σ, r, σ' => qoX5_mostHeard g v1 σ r σ'
  | _, _, _, _ => False
theorem dX5_mostHeard_0 : decode cX5_mostHeard 0 = .ok (.iconst 0, 1) := by decide +kernel
theorem dX5_mostHeard_1 : decode cX5_mostHeard 1 = .ok (.istore_n 2, 1) := by decide +kernel
theorem dX5_mostHeard_2 : decode cX5_mostHeard 2 = .ok (.iconst 0, 1) := by decide +kernel
theorem dX5_mostHeard_3 : decode cX5_mostHeard 3 = .ok (.istore_n 3, 1) := by decide +kernel
theorem dX5_mostHeard_4 : decode cX5_mostHeard 4 = .ok (.iload_n 3, 1) := by decide +kernel
theorem dX5_mostHeard_5 : decode cX5_mostHeard 5 = .ok (.bipush 10, 2) := by decide +kernel
theorem dX5_mostHeard_7 : decode cX5_mostHeard 7 = .ok (.if_icmp .ge 25, 3) := by decide +kernel
theorem dX5_mostHeard_10 : decode cX5_mostHeard 10 = .ok (.iload_n 2, 1) := by decide +kernel
theorem dX5_mostHeard_11 : decode cX5_mostHeard 11 = .ok (.aload_n 0, 1) := by decide +kernel
theorem dX5_mostHeard_12 : decode cX5_mostHeard 12 = .ok (.getfield 33, 3) := by decide +kernel
theorem dX5_mostHeard_15 : decode cX5_mostHeard 15 = .ok (.iload_n 1, 1) := by decide +kernel
theorem dX5_mostHeard_16 : decode cX5_mostHeard 16 = .ok (.bipush 10, 2) := by decide +kernel
theorem dX5_mostHeard_18 : decode cX5_mostHeard 18 = .ok (.imul, 1) := by decide +kernel
theorem dX5_mostHeard_19 : decode cX5_mostHeard 19 = .ok (.iload_n 3, 1) := by decide +kernel
theorem dX5_mostHeard_20 : decode cX5_mostHeard 20 = .ok (.iadd, 1) := by decide +kernel
theorem dX5_mostHeard_21 : decode cX5_mostHeard 21 = .ok (.iaload, 1) := by decide +kernel
theorem dX5_mostHeard_22 : decode cX5_mostHeard 22 = .ok (.invokestatic 282, 3) := by decide +kernel
theorem dX5_mostHeard_25 : decode cX5_mostHeard 25 = .ok (.istore_n 2, 1) := by decide +kernel
theorem dX5_mostHeard_26 : decode cX5_mostHeard 26 = .ok (.iinc 3 1, 3) := by decide +kernel
theorem dX5_mostHeard_29 : decode cX5_mostHeard 29 = .ok (.goto (-25), 3) := by decide +kernel
theorem dX5_mostHeard_32 : decode cX5_mostHeard 32 = .ok (.iload_n 2, 1) := by decide +kernel
theorem dX5_mostHeard_33 : decode cX5_mostHeard 33 = .ok (.ireturn, 1) := by decide +kernel
abbrev rmX5_mostHeard : Room := { frames := 1, cells := 0, slots := 0, locals := 21 }
def opX5_mostHeard (po : Int32 → px_St → Prop) : List (Nat × px_Op) := [
  (0, px_push 1 (.int 0)),
  (1, px_is 2 2),
  (2, px_push 3 (.int 0)),
  (3, px_is 4 3),
  (4, px_il 5 3),
  (5, px_push 7 (.int 10)),
  (7, px_ic 10 32 (fun x y => y ≤ x)),
  (10, px_il 11 2),
  (11, px_al 12 0),
  (12, px_get dC 15 5 5),
  (15, px_il 16 1),
  (16, px_push 18 (.int 10)),
  (18, px_bin 19 (fun x y => x * y)),
  (19, px_il 20 3),
  (20, px_bin 21 (fun x y => x + y)),
  (21, px_ald dC 22 0),
  (22, px_mm 25 (fun x y => if x < y then y else x)),
  (25, px_is 26 2),
  (26, px_inc 29 3 1),
  (29, px_go 4),
  (32, px_il 33 2),
  (33, px_iret (.int) po)]
set_option maxRecDepth 100000 in
set_option maxHeartbeats 4000000 in
theorem okX5_mostHeard : ∀ (po : Int32 → px_St → Prop) (i pc : Nat) (op : px_Op), (opX5_mostHeard po)[i]? = some (pc, op) → px_Snd (cX5_mostHeard, 4, RX5, Cond.code yX5_mostHeard cX5_mostHeard 4 (some .int) :: wdC, (some .int), rmX5_mostHeard, dC) px_vI po pc op := by
  intro po
  unfold opX5_mostHeard
  refine px_ok_cons (ps_iconst dX5_mostHeard_0 (by decide)) ?_
  refine px_ok_cons (ps_istore_n dX5_mostHeard_1 rfl (by decide)) ?_
  refine px_ok_cons (ps_iconst dX5_mostHeard_2 (by decide)) ?_
  refine px_ok_cons (ps_istore_n dX5_mostHeard_3 rfl (by decide)) ?_
  refine px_ok_cons (ps_iload_n dX5_mostHeard_4 rfl) ?_
  refine px_ok_cons (ps_bipush dX5_mostHeard_5 (by decide)) ?_
  refine px_ok_cons (ps_icmp_ge dX5_mostHeard_7 (by decide)) ?_
  refine px_ok_cons (ps_iload_n dX5_mostHeard_10 rfl) ?_
  refine px_ok_cons (ps_aload_n dX5_mostHeard_11 rfl) ?_
  refine px_ok_cons (fgX5_33 dX5_mostHeard_12) ?_
  refine px_ok_cons (ps_iload_n dX5_mostHeard_15 rfl) ?_
  refine px_ok_cons (ps_bipush dX5_mostHeard_16 (by decide)) ?_
  refine px_ok_cons (ps_imul dX5_mostHeard_18) ?_
  refine px_ok_cons (ps_iload_n dX5_mostHeard_19 rfl) ?_
  refine px_ok_cons (ps_iadd dX5_mostHeard_20) ?_
  refine px_ok_cons (ps_iaload dX5_mostHeard_21) ?_
  refine px_ok_cons (ps_mmax (List.mem_cons_of_mem _ (wdC_9_in _ (List.mem_of_getElem? (i := 26) rfl))) (List.mem_cons_of_mem _ (wdC_1_in _ (List.mem_of_getElem? (i := 13) rfl))) (List.mem_cons_of_mem _ (wdC_0_in _ (List.mem_of_getElem? (i := 39) rfl))) (List.mem_cons_of_mem _ (wdC_1_in _ (List.mem_of_getElem? (i := 14) rfl))) (by decide) dX5_mostHeard_22) ?_
  refine px_ok_cons (ps_istore_n dX5_mostHeard_25 rfl (by decide)) ?_
  refine px_ok_cons (ps_iinc dX5_mostHeard_26 (by decide) (by decide)) ?_
  refine px_ok_cons (ps_goto dX5_mostHeard_29 (by decide)) ?_
  refine px_ok_cons (ps_iload_n dX5_mostHeard_32 rfl) ?_
  refine px_ok_cons (ps_ireturn rfl dX5_mostHeard_33) ?_
  exact px_ok_nil
set_option maxRecDepth 100000 in
set_option maxHeartbeats 4000000 in
theorem sgX5_mostHeard_0 {po : Int32 → px_St → Prop} {G : px_K} (hG : px_cl (opX5_mostHeard po) G) (v1 : Int32) (σ : px_St)
    (H : G 4 [some (.ref 0), some (.int v1), some (.int (0 : Int32)), some (.int (0 : Int32))] [] σ) :
    G 0 (px_ent 4 [.ref 0, .int v1]) [] σ := by
  refine hG.1 0 _ _ rfl _ _ _ ?_
  refine hG.1 1 _ _ rfl _ _ _ ?_
  show G 2 [some (.ref 0), some (.int v1), some (.int (0 : Int32)), none] [] σ
  refine hG.1 2 _ _ rfl _ _ _ ?_
  refine hG.1 3 _ _ rfl _ _ _ ?_
  show G 4 [some (.ref 0), some (.int v1), some (.int (0 : Int32)), some (.int (0 : Int32))] [] σ
  exact H
set_option maxRecDepth 100000 in
set_option maxHeartbeats 4000000 in
theorem sgX5_mostHeard_4 {po : Int32 → px_St → Prop} {G : px_K} (hG : px_cl (opX5_mostHeard po) G) (v1 : Int32) (v2 : Int32) (v3 : Int32) (σ : px_St)
    (H : (((10 : Int32) ≤ v3) → po v2 σ) ∧ (¬ ((10 : Int32) ≤ v3) → vp_in ((v1 * (10 : Int32)) + v3) 210 ∧ G 4 [some (.ref 0), some (.int v1), some (.int (if v2 < (σ.1 2 ((v1 * (10 : Int32)) + v3).toNatClampNeg) then (σ.1 2 ((v1 * (10 : Int32)) + v3).toNatClampNeg) else v2)), some (.int (v3 + 1))] [] σ)) :
    G 4 [some (.ref 0), some (.int v1), some (.int v2), some (.int v3)] [] σ := by
  refine hG.1 4 _ _ rfl _ _ _ ?_
  refine hG.1 5 _ _ rfl _ _ _ ?_
  refine hG.1 6 _ _ rfl _ _ _ ?_
  refine ⟨fun h1 => ?_, fun h1 => ?_⟩
  · replace H := H.1 h1
    refine hG.1 20 _ _ rfl _ _ _ ?_
    refine hG.1 21 _ _ rfl _ _ _ ?_
    exact ⟨rfl, H⟩
  · replace H := H.2 h1
    refine hG.1 7 _ _ rfl _ _ _ ?_
    refine hG.1 8 _ _ rfl _ _ _ ?_
    refine hG.1 9 _ _ rfl _ _ _ ?_
    refine ⟨⟨rfl, by decide⟩, ?_⟩
    refine hG.1 10 _ _ rfl _ _ _ ?_
    refine hG.1 11 _ _ rfl _ _ _ ?_
    refine hG.1 12 _ _ rfl _ _ _ ?_
    refine hG.1 13 _ _ rfl _ _ _ ?_
    refine hG.1 14 _ _ rfl _ _ _ ?_
    refine hG.1 15 _ _ rfl _ _ _ ?_
    refine ⟨⟨rfl, by decide⟩, H.1, ?_⟩
    replace H := H.2
    refine hG.1 16 _ _ rfl _ _ _ ?_
    refine ⟨Nat.le_of_ble_eq_true rfl, ?_⟩
    refine hG.1 17 _ _ rfl _ _ _ ?_
    show G 26 [some (.ref 0), some (.int v1), some (.int (if v2 < (σ.1 2 ((v1 * (10 : Int32)) + v3).toNatClampNeg) then (σ.1 2 ((v1 * (10 : Int32)) + v3).toNatClampNeg) else v2)), some (.int v3)] [] σ
    refine hG.1 18 _ _ rfl _ _ _ ?_
    show G 29 [some (.ref 0), some (.int v1), some (.int (if v2 < (σ.1 2 ((v1 * (10 : Int32)) + v3).toNatClampNeg) then (σ.1 2 ((v1 * (10 : Int32)) + v3).toNatClampNeg) else v2)), some (.int (v3 + 1))] [] σ
    refine hG.1 19 _ _ rfl _ _ _ ?_
    exact H
set_option maxRecDepth 100000 in
set_option maxHeartbeats 4000000 in
theorem hhX5_mostHeard (g : gtX5_mostHeard) (v1 : Int32) (σ : px_St) (h : qrX5_mostHeard g v1 σ) (G : px_K) (hG : px_cl (opX5_mostHeard (qoX5_mostHeard g v1 σ)) G) : G 0 (px_ent 4 [.ref 0, .int v1]) [] σ := by
  obtain ⟨d, f⟩ := g
  obtain ⟨hd, rfl, hf⟩ := h
  have hmx : ∀ k, k ≤ 10 → pv_mx f k < 2 ^ 31 := by
    intro k
    induction k with
    | zero => intro _; show 0 < 2 ^ 31; omega
    | succ k ih =>
      intro hk
      have h1 := ih (by omega)
      have h2 := (hf k (by omega)).2
      rw [pv_mx]
      omega
  refine sgX5_mostHeard_0 hG _ σ ?_
  have loop : ∀ n k, k + n = 10 → G 4 [some (.ref 0), some (.int (nI d)), some (.int (nI (pv_mx f k))), some (.int (nI k))] [] σ := by
    intro n
    induction n with
    | zero =>
      intro k hk
      have e : k = 10 := by omega
      subst e
      exact sgX5_mostHeard_4 hG _ _ _ σ ⟨fun _ => ⟨rfl, rfl⟩, fun z => absurd (by decide) z⟩
    | succ n ih =>
      intro k hk
      obtain ⟨f1, f2⟩ := hf k (by omega)
      have h1 := hmx k (by omega)
      refine sgX5_mostHeard_4 hG _ _ _ σ ⟨fun z => absurd ((nIle 10 k rfl rfl (by omega) (by omega)).mp z) (by omega), fun _ => ?_⟩
      rw [ix10, nI_clamp (by omega), f1, nI_1]
      refine ⟨vp_in_nI (by omega) (by decide), ?_⟩
      have e := ih (k + 1) (by omega)
      rw [pv_mx] at e
      have hlt := nI_ltI h1 f2
      by_cases hc : pv_mx f k < f k
      · rw [if_pos (hlt.mpr hc)]
        rw [show max (pv_mx f k) (f k) = f k by omega] at e
        exact e
      · rw [if_neg (fun z => hc (hlt.mp z))]
        rw [show max (pv_mx f k) (f k) = pv_mx f k by omega] at e
        exact e
  exact loop 10 0 (by omega)
theorem mX5_mostHeard (g : gtX5_mostHeard) : px_Met dC yX5_mostHeard (Cond.code yX5_mostHeard cX5_mostHeard 4 (some .int) :: wdC) rmX5_mostHeard px_vI (prX5_mostHeard g) (poX5_mostHeard g) :=
  px_met (Z := (cX5_mostHeard, 4, RX5, Cond.code yX5_mostHeard cX5_mostHeard 4 (some .int) :: wdC, (some .int), rmX5_mostHeard, dC)) opX5_mostHeard (by decide) rfl rfl okX5_mostHeard (fun As σ h => by obtain ⟨v1, rfl, h⟩ := h; exact Nat.le_of_ble_eq_true rfl) (fun As σ h G hG => by obtain ⟨v1, rfl, h⟩ := h; exact hhX5_mostHeard g v1 σ h G hG)
abbrev gtX5_imagesThere : Type := Nat × Nat
def qrX5_imagesThere : gtX5_imagesThere → px_St → Prop
  | (a, b), σ => a ≤ 1 ∧ b ≤ 1 ∧ σ.1 47 0 = nI a ∧ σ.1 48 0 = nI b
def qoX5_imagesThere : gtX5_imagesThere → px_St → Int32 → px_St → Prop
  | (a, b), σ, r, σ' => σ' = σ ∧ r = nI (a + b)
def prX5_imagesThere (g : gtX5_imagesThere) : List Value → px_St → Prop := fun As σ => As = [.ref 0] ∧ qrX5_imagesThere g σ
def poX5_imagesThere (g : gtX5_imagesThere) : List Value → px_St → Int32 → px_St → Prop
  | [.ref _], σ, r, σ' => qoX5_imagesThere g σ r σ'
  | _, _, _, _ => False
theorem dX5_imagesThere_0 : decode cX5_imagesThere 0 = .ok (.iconst 0, 1) := by decide +kernel
theorem dX5_imagesThere_1 : decode cX5_imagesThere 1 = .ok (.istore_n 1, 1) := by decide +kernel
theorem dX5_imagesThere_2 : decode cX5_imagesThere 2 = .ok (.iconst 0, 1) := by decide +kernel
theorem dX5_imagesThere_3 : decode cX5_imagesThere 3 = .ok (.istore_n 2, 1) := by decide +kernel
theorem dX5_imagesThere_4 : decode cX5_imagesThere 4 = .ok (.iload_n 2, 1) := by decide +kernel
theorem dX5_imagesThere_5 : decode cX5_imagesThere 5 = .ok (.iconst 2, 1) := by decide +kernel
theorem dX5_imagesThere_6 : decode cX5_imagesThere 6 = .ok (.if_icmp .ge 24, 3) := by decide +kernel
theorem dX5_imagesThere_9 : decode cX5_imagesThere 9 = .ok (.aload_n 0, 1) := by decide +kernel
theorem dX5_imagesThere_10 : decode cX5_imagesThere 10 = .ok (.getfield 49, 3) := by decide +kernel
theorem dX5_imagesThere_13 : decode cX5_imagesThere 13 = .ok (.iload_n 2, 1) := by decide +kernel
theorem dX5_imagesThere_14 : decode cX5_imagesThere 14 = .ok (.aaload, 1) := by decide +kernel
theorem dX5_imagesThere_15 : decode cX5_imagesThere 15 = .ok (.getfield 89, 3) := by decide +kernel
theorem dX5_imagesThere_18 : decode cX5_imagesThere 18 = .ok (.ifCond .eq 6, 3) := by decide +kernel
theorem dX5_imagesThere_21 : decode cX5_imagesThere 21 = .ok (.iinc 1 1, 3) := by decide +kernel
theorem dX5_imagesThere_24 : decode cX5_imagesThere 24 = .ok (.iinc 2 1, 3) := by decide +kernel
theorem dX5_imagesThere_27 : decode cX5_imagesThere 27 = .ok (.goto (-23), 3) := by decide +kernel
theorem dX5_imagesThere_30 : decode cX5_imagesThere 30 = .ok (.iload_n 1, 1) := by decide +kernel
theorem dX5_imagesThere_31 : decode cX5_imagesThere 31 = .ok (.ireturn, 1) := by decide +kernel
abbrev rmX5_imagesThere : Room := { frames := 0, cells := 0, slots := 0, locals := 0 }
def opX5_imagesThere (po : Int32 → px_St → Prop) : List (Nat × px_Op) := [
  (0, px_push 1 (.int 0)),
  (1, px_is 2 1),
  (2, px_push 3 (.int 0)),
  (3, px_is 4 2),
  (4, px_il 5 2),
  (5, px_push 6 (.int 2)),
  (6, px_ic 9 30 (fun x y => y ≤ x)),
  (9, px_al 10 0),
  (10, px_get dC 13 5 8),
  (13, px_il 14 2),
  (14, px_aald dC 15 3),
  (15, px_get dC 18 1 0),
  (18, px_if 21 24 (fun x => x = 0)),
  (21, px_inc 24 1 1),
  (24, px_inc 27 2 1),
  (27, px_go 4),
  (30, px_il 31 1),
  (31, px_iret (.int) po)]
set_option maxRecDepth 100000 in
set_option maxHeartbeats 4000000 in
theorem okX5_imagesThere : ∀ (po : Int32 → px_St → Prop) (i pc : Nat) (op : px_Op), (opX5_imagesThere po)[i]? = some (pc, op) → px_Snd (cX5_imagesThere, 3, RX5, Cond.code yX5_imagesThere cX5_imagesThere 3 (some .int) :: wdC, (some .int), rmX5_imagesThere, dC) px_vI po pc op := by
  intro po
  unfold opX5_imagesThere
  refine px_ok_cons (ps_iconst dX5_imagesThere_0 (by decide)) ?_
  refine px_ok_cons (ps_istore_n dX5_imagesThere_1 rfl (by decide)) ?_
  refine px_ok_cons (ps_iconst dX5_imagesThere_2 (by decide)) ?_
  refine px_ok_cons (ps_istore_n dX5_imagesThere_3 rfl (by decide)) ?_
  refine px_ok_cons (ps_iload_n dX5_imagesThere_4 rfl) ?_
  refine px_ok_cons (ps_iconst dX5_imagesThere_5 (by decide)) ?_
  refine px_ok_cons (ps_icmp_ge dX5_imagesThere_6 (by decide)) ?_
  refine px_ok_cons (ps_aload_n dX5_imagesThere_9 rfl) ?_
  refine px_ok_cons (fgX5_49 dX5_imagesThere_10) ?_
  refine px_ok_cons (ps_iload_n dX5_imagesThere_13 rfl) ?_
  refine px_ok_cons (ps_aaload3 dX5_imagesThere_14) ?_
  refine px_ok_cons (fgX5_89 dX5_imagesThere_15) ?_
  refine px_ok_cons (ps_if_eq dX5_imagesThere_18 (by decide)) ?_
  refine px_ok_cons (ps_iinc dX5_imagesThere_21 (by decide) (by decide)) ?_
  refine px_ok_cons (ps_iinc dX5_imagesThere_24 (by decide) (by decide)) ?_
  refine px_ok_cons (ps_goto dX5_imagesThere_27 (by decide)) ?_
  refine px_ok_cons (ps_iload_n dX5_imagesThere_30 rfl) ?_
  refine px_ok_cons (ps_ireturn rfl dX5_imagesThere_31) ?_
  exact px_ok_nil
set_option maxRecDepth 100000 in
set_option maxHeartbeats 4000000 in
theorem sgX5_imagesThere_0 {po : Int32 → px_St → Prop} {G : px_K} (hG : px_cl (opX5_imagesThere po) G) (σ : px_St)
    (H : G 4 [some (.ref 0), some (.int (0 : Int32)), some (.int (0 : Int32))] [] σ) :
    G 0 (px_ent 3 [.ref 0]) [] σ := by
  refine hG.1 0 _ _ rfl _ _ _ ?_
  refine hG.1 1 _ _ rfl _ _ _ ?_
  show G 2 [some (.ref 0), some (.int (0 : Int32)), none] [] σ
  refine hG.1 2 _ _ rfl _ _ _ ?_
  refine hG.1 3 _ _ rfl _ _ _ ?_
  show G 4 [some (.ref 0), some (.int (0 : Int32)), some (.int (0 : Int32))] [] σ
  exact H
set_option maxRecDepth 100000 in
set_option maxHeartbeats 4000000 in
theorem sgX5_imagesThere_4 {po : Int32 → px_St → Prop} {G : px_K} (hG : px_cl (opX5_imagesThere po) G) (v1 : Int32) (v2 : Int32) (σ : px_St)
    (H : (((2 : Int32) ≤ v2) → po v1 σ) ∧ (¬ ((2 : Int32) ≤ v2) → vp_in v2 2 ∧ (((σ.1 (dC.2.2.2 5 v2.toNatClampNeg) 0) = 0) → G 4 [some (.ref 0), some (.int v1), some (.int (v2 + 1))] [] σ) ∧ (¬ ((σ.1 (dC.2.2.2 5 v2.toNatClampNeg) 0) = 0) → G 4 [some (.ref 0), some (.int (v1 + 1)), some (.int (v2 + 1))] [] σ))) :
    G 4 [some (.ref 0), some (.int v1), some (.int v2)] [] σ := by
  refine hG.1 4 _ _ rfl _ _ _ ?_
  refine hG.1 5 _ _ rfl _ _ _ ?_
  refine hG.1 6 _ _ rfl _ _ _ ?_
  refine ⟨fun h3 => ?_, fun h3 => ?_⟩
  · replace H := H.1 h3
    refine hG.1 16 _ _ rfl _ _ _ ?_
    refine hG.1 17 _ _ rfl _ _ _ ?_
    exact ⟨rfl, H⟩
  · replace H := H.2 h3
    refine hG.1 7 _ _ rfl _ _ _ ?_
    refine hG.1 8 _ _ rfl _ _ _ ?_
    refine ⟨⟨rfl, by decide⟩, ?_⟩
    refine hG.1 9 _ _ rfl _ _ _ ?_
    refine hG.1 10 _ _ rfl _ _ _ ?_
    have hz1 := im_of H.1
    refine ⟨⟨rfl, by decide⟩, H.1, ?_⟩
    replace H := H.2
    refine hG.1 11 _ _ rfl _ _ _ ?_
    refine ⟨(im_s0 hz1), ?_⟩
    refine hG.1 12 _ _ rfl _ _ _ ?_
    refine ⟨fun h2 => ?_, fun h2 => ?_⟩
    · replace H := H.1 h2
      refine hG.1 14 _ _ rfl _ _ _ ?_
      show G 27 [some (.ref 0), some (.int v1), some (.int (v2 + 1))] [] σ
      refine hG.1 15 _ _ rfl _ _ _ ?_
      exact H
    · replace H := H.2 h2
      refine hG.1 13 _ _ rfl _ _ _ ?_
      show G 24 [some (.ref 0), some (.int (v1 + 1)), some (.int v2)] [] σ
      refine hG.1 14 _ _ rfl _ _ _ ?_
      show G 27 [some (.ref 0), some (.int (v1 + 1)), some (.int (v2 + 1))] [] σ
      refine hG.1 15 _ _ rfl _ _ _ ?_
      exact H
set_option maxRecDepth 100000 in
set_option maxHeartbeats 4000000 in
theorem hhX5_imagesThere (g : gtX5_imagesThere) (σ : px_St) (h : qrX5_imagesThere g σ) (G : px_K) (hG : px_cl (opX5_imagesThere (qoX5_imagesThere g σ)) G) : G 0 (px_ent 3 [.ref 0]) [] σ := by
  obtain ⟨a, b⟩ := g
  obtain ⟨ha, hb, e1, e2⟩ := h
  refine sgX5_imagesThere_0 hG σ ?_
  have i0 : dC.2.2.2 5 (0 : Int32).toNatClampNeg = 47 := by decide
  have i1 : dC.2.2.2 5 (1 : Int32).toNatClampNeg = 48 := by decide
  have two : ∀ n, n ≤ 2 → G 4 [some (.ref 0), some (.int (nI n)), some (.int (2 : Int32))] [] σ → True := fun _ _ _ => trivial
  have ha2 : a = 0 ∨ a = 1 := by omega
  have hb2 : b = 0 ∨ b = 1 := by omega
  have fin : ∀ n, n = a + b → G 4 [some (.ref 0), some (.int (nI n)), some (.int (2 : Int32))] [] σ := fun n hn => sgX5_imagesThere_4 hG _ _ σ ⟨fun _ => ⟨rfl, by rw [hn]⟩, fun z => absurd (by decide) z⟩
  have mid : G 4 [some (.ref 0), some (.int (nI a)), some (.int (1 : Int32))] [] σ := by
    refine sgX5_imagesThere_4 hG _ _ σ ⟨fun z => absurd z (by decide), fun _ => ?_⟩
    rw [i1, e2]
    refine ⟨vp_in_nI (n := 1) (by omega) (by decide), fun z => ?_, fun z => ?_⟩
    · rcases hb2 with rfl | rfl
      · exact fin a rfl
      · exact absurd z (by decide)
    · rcases hb2 with rfl | rfl
      · exact absurd (by decide) z
      · rw [nI_1]; exact fin (a + 1) rfl
  refine sgX5_imagesThere_4 hG _ _ σ ⟨fun z => absurd z (by decide), fun _ => ?_⟩
  rw [i0, e1]
  refine ⟨vp_in_nI (n := 0) (by omega) (by decide), fun z => ?_, fun z => ?_⟩
  · rcases ha2 with rfl | rfl
    · exact mid
    · exact absurd z (by decide)
  · rcases ha2 with rfl | rfl
    · exact absurd (by decide) z
    · exact mid
theorem mX5_imagesThere (g : gtX5_imagesThere) : px_Met dC yX5_imagesThere (Cond.code yX5_imagesThere cX5_imagesThere 3 (some .int) :: wdC) rmX5_imagesThere px_vI (prX5_imagesThere g) (poX5_imagesThere g) :=
  px_met (Z := (cX5_imagesThere, 3, RX5, Cond.code yX5_imagesThere cX5_imagesThere 3 (some .int) :: wdC, (some .int), rmX5_imagesThere, dC)) opX5_imagesThere (by decide) rfl rfl okX5_imagesThere (fun As σ h => by obtain ⟨rfl, h⟩ := h; exact Nat.le_of_ble_eq_true rfl) (fun As σ h G hG => by obtain ⟨rfl, h⟩ := h; exact hhX5_imagesThere g σ h G hG)
