def x_cells : Option pv_H → Nat → Int32
  | none => fun _ => 0
  | some w => w.2.2
def x_fc (l : Int32) : Option pv_H → Nat
  | none => 1
  | some w => if nI w.1 = l then 2 else 3
def x_wp (l f : Int32) : Option pv_H → Nat
  | none => 0
  | some w => if nI w.1 = l ∧ ¬ f < 0 ∧ ¬ nI w.2.1 ≤ f then (w.2.1 - f.toNatClampNeg) / 2 else 0
/-- the first from i on, among m, that isn't good -/
noncomputable def pv_fb (P : Nat → Prop) : Nat → Nat → Option Nat
  | 0, _ => none
  | m + 1, i => xif (P i) (pv_fb P m (i + 1)) (some i)
/-- pairs taught one behind another -/
noncomputable def pv_lrns (V : pv_V) (c : Nat → Int32) (f : Nat) : Nat → pv_V
  | 0 => V
  | i + 1 => pv_at (pv_lrns V c f i) (c (f + 2 * i)).toNatClampNeg (pv_learn ((pv_lrns V c f i).2.2.2 (c (f + 2 * i)).toNatClampNeg) (c (f + 2 * i + 1)).toNatClampNeg)
abbrev x_good (X : pv_X) (c : Nat → Int32) (f i : Nat) : Prop := xP X (c (f + 2 * i)) ∧ (0 ≤ c (f + 2 * i + 1) ∧ c (f + 2 * i + 1) ≤ 9)
noncomputable def x_read1 (X : pv_X) (c : Nat → Int32) (f m n fc : Nat) : Option Nat → Int32 × pv_X
  | some i => (-20 - nI i, X)
  | none => (nI m, xR (xV X (pv_lrns X.1 c f m)) (if m < n then fc else 0))
noncomputable def x_read0 (X : pv_X) (l f : Int32) (n : Nat) (o : Option pv_H) : Int32 × pv_X :=
  x_read1 X (x_cells o) f.toNatClampNeg (min n (x_wp l f o)) n (x_fc l o) (pv_fb (x_good X (x_cells o) f.toNatClampNeg) (min n (x_wp l f o)) 0)
noncomputable def x_read (X : pv_X) (k l f n : Int32) : Int32 × pv_X := xif ((0 ≤ k ∧ k ≤ 3) ∧ (0 ≤ l ∧ l ≤ 2) ∧ (0 ≤ n ∧ n ≤ 20)) (x_read0 X l f n.toNatClampNeg (X.2.2.2.2.2.2 k.toNatClampNeg)) (-1, X)
theorem pv_fb_none {P : Nat → Prop} : ∀ {m i : Nat}, pv_fb P m i = none → ∀ j, i ≤ j → j < i + m → P j
  | 0, i, _, j, h1, h2 => by omega
  | m + 1, i, h, j, h1, h2 => by
    rw [pv_fb] at h
    by_cases hp : P i
    · rw [xif_t hp] at h
      by_cases hj : j = i
      · rw [hj]; exact hp
      · exact pv_fb_none h j (by omega) (by omega)
    · rw [xif_f hp] at h; cases h
theorem pv_lrns_ok {X : pv_X} {c : Nat → Int32} {f : Nat} (h : pv_ok X.1) (m : Nat) (hg : ∀ j, j < m → x_good X c f j) : pv_ok (pv_lrns X.1 c f m) ∧ (pv_lrns X.1 c f m).1 = X.1.1 ∧ (pv_lrns X.1 c f m).2.2.1 = X.1.2.2.1 := by
  induction m with
  | zero => exact ⟨h, rfl, rfl⟩
  | succ m ih =>
    obtain ⟨h1, h2, h3⟩ := ih (fun j hj => hg j (by omega))
    have h5 := h.1.1
    obtain ⟨gp, gs⟩ := hg m (by omega)
    obtain ⟨p, hp, ep⟩ := (rng1 (by omega)).mp gp
    obtain ⟨s, hs, es⟩ := (rngc 9 9 rfl (by omega)).mp gs
    rw [pv_lrns, ep, es, nI_clamp (by omega), nI_clamp (by omega)]
    exact ⟨pv_lrn_ok h1 (by omega) hs, h2, h3⟩
abbrev gtX5_read : Type := pv_X
def qrX5_read (X : pv_X) (_ _ _ _ : Int32) (σ : px_St) : Prop := cl_is σ X ∧ xo X
def qoX5_read (X : pv_X) (k l f n : Int32) (_ : px_St) (r : Int32) (σ' : px_St) : Prop := r = (x_read X k l f n).1 ∧ cl_is σ' (x_read X k l f n).2
/-- how many whole pairs, and where they lie -/
theorem x_wp_at {l f : Int32} {w : pv_H} {m : Nat} (hw : w.2.1 ≤ 40) (hm : m ≤ x_wp l f (some w)) (h0 : 0 < m) : ∃ f' : Nat, f = nI f' ∧ f' + 2 * m ≤ w.2.1 := by
  unfold x_wp at hm
  by_cases hc : nI w.1 = l ∧ ¬ f < 0 ∧ ¬ nI w.2.1 ≤ f
  · simp only [if_pos hc] at hm
    obtain ⟨j, hj, e⟩ := nI_of hc.2.1
    subst e
    rw [nI_clamp hj] at hm
    exact ⟨j, rfl, by omega⟩
  · simp only [if_neg hc] at hm
    omega
theorem x_wp_le {l f : Int32} {o : Option pv_H} (ho : ∀ w, o = some w → w.2.1 ≤ 40) : x_wp l f o ≤ 20 := by
  cases o with
  | none => exact Nat.zero_le _
  | some w =>
    have := ho w rfl
    unfold x_wp
    simp only
    split <;> omega
def prX5_read (g : gtX5_read) : List Value → px_St → Prop := fun As σ => ∃ v1 : Int32, ∃ v2 : Int32, ∃ v3 : Int32, ∃ v4 : Int32, As = [.ref 0, .int v1, .int v2, .int v3, .int v4] ∧ qrX5_read g v1 v2 v3 v4 σ
def poX5_read (g : gtX5_read) : List Value → px_St → Int32 → px_St → Prop
  | [.ref _, .int v1, .int v2, .int v3, .int v4], σ, r, σ' => qoX5_read g v1 v2 v3 v4 σ r σ'
  | _, _, _, _ => False
theorem dX5_read_0 : decode cX5_read 0 = .ok (.iload_n 1, 1) := by decide +kernel
theorem dX5_read_1 : decode cX5_read 1 = .ok (.invokestatic 240, 3) := by decide +kernel
theorem dX5_read_4 : decode cX5_read 4 = .ok (.ifCond .eq 21, 3) := by decide +kernel
theorem dX5_read_7 : decode cX5_read 7 = .ok (.iload_n 2, 1) := by decide +kernel
theorem dX5_read_8 : decode cX5_read 8 = .ok (.invokestatic 243, 3) := by decide +kernel
theorem dX5_read_11 : decode cX5_read 11 = .ok (.ifCond .eq 14, 3) := by decide +kernel
theorem dX5_read_14 : decode cX5_read 14 = .ok (.iload 4, 2) := by decide +kernel
theorem dX5_read_16 : decode cX5_read 16 = .ok (.iconst 0, 1) := by decide +kernel
theorem dX5_read_17 : decode cX5_read 17 = .ok (.bipush 20, 2) := by decide +kernel
theorem dX5_read_19 : decode cX5_read 19 = .ok (.invokestatic 61, 3) := by decide +kernel
theorem dX5_read_22 : decode cX5_read 22 = .ok (.ifCond .ne 5, 3) := by decide +kernel
theorem dX5_read_25 : decode cX5_read 25 = .ok (.iconst (-1), 1) := by decide +kernel
theorem dX5_read_26 : decode cX5_read 26 = .ok (.ireturn, 1) := by decide +kernel
theorem dX5_read_27 : decode cX5_read 27 = .ok (.aload_n 0, 1) := by decide +kernel
theorem dX5_read_28 : decode cX5_read 28 = .ok (.getfield 55, 3) := by decide +kernel
theorem dX5_read_31 : decode cX5_read 31 = .ok (.iload_n 1, 1) := by decide +kernel
theorem dX5_read_32 : decode cX5_read 32 = .ok (.aaload, 1) := by decide +kernel
theorem dX5_read_33 : decode cX5_read 33 = .ok (.astore 5, 2) := by decide +kernel
theorem dX5_read_35 : decode cX5_read 35 = .ok (.iload 4, 2) := by decide +kernel
theorem dX5_read_37 : decode cX5_read 37 = .ok (.aload 5, 2) := by decide +kernel
theorem dX5_read_39 : decode cX5_read 39 = .ok (.iload_n 2, 1) := by decide +kernel
theorem dX5_read_40 : decode cX5_read 40 = .ok (.iload_n 3, 1) := by decide +kernel
theorem dX5_read_41 : decode cX5_read 41 = .ok (.invokevirtual 259, 3) := by decide +kernel
theorem dX5_read_44 : decode cX5_read 44 = .ok (.invokestatic 262, 3) := by decide +kernel
theorem dX5_read_47 : decode cX5_read 47 = .ok (.istore 6, 2) := by decide +kernel
theorem dX5_read_49 : decode cX5_read 49 = .ok (.iconst 0, 1) := by decide +kernel
theorem dX5_read_50 : decode cX5_read 50 = .ok (.istore 7, 2) := by decide +kernel
theorem dX5_read_52 : decode cX5_read 52 = .ok (.iload 7, 2) := by decide +kernel
theorem dX5_read_54 : decode cX5_read 54 = .ok (.iload 6, 2) := by decide +kernel
theorem dX5_read_56 : decode cX5_read 56 = .ok (.if_icmp .ge 54, 3) := by decide +kernel
theorem dX5_read_59 : decode cX5_read 59 = .ok (.aload_n 0, 1) := by decide +kernel
theorem dX5_read_60 : decode cX5_read 60 = .ok (.aload 5, 2) := by decide +kernel
theorem dX5_read_62 : decode cX5_read 62 = .ok (.getfield 253, 3) := by decide +kernel
theorem dX5_read_65 : decode cX5_read 65 = .ok (.iload_n 3, 1) := by decide +kernel
theorem dX5_read_66 : decode cX5_read 66 = .ok (.iconst 2, 1) := by decide +kernel
theorem dX5_read_67 : decode cX5_read 67 = .ok (.iload 7, 2) := by decide +kernel
theorem dX5_read_69 : decode cX5_read 69 = .ok (.imul, 1) := by decide +kernel
theorem dX5_read_70 : decode cX5_read 70 = .ok (.iadd, 1) := by decide +kernel
theorem dX5_read_71 : decode cX5_read 71 = .ok (.iaload, 1) := by decide +kernel
theorem dX5_read_72 : decode cX5_read 72 = .ok (.invokevirtual 112, 3) := by decide +kernel
theorem dX5_read_75 : decode cX5_read 75 = .ok (.ifCond .eq 23, 3) := by decide +kernel
theorem dX5_read_78 : decode cX5_read 78 = .ok (.aload 5, 2) := by decide +kernel
theorem dX5_read_80 : decode cX5_read 80 = .ok (.getfield 253, 3) := by decide +kernel
theorem dX5_read_83 : decode cX5_read 83 = .ok (.iload_n 3, 1) := by decide +kernel
theorem dX5_read_84 : decode cX5_read 84 = .ok (.iconst 2, 1) := by decide +kernel
theorem dX5_read_85 : decode cX5_read 85 = .ok (.iload 7, 2) := by decide +kernel
theorem dX5_read_87 : decode cX5_read 87 = .ok (.imul, 1) := by decide +kernel
theorem dX5_read_88 : decode cX5_read 88 = .ok (.iadd, 1) := by decide +kernel
theorem dX5_read_89 : decode cX5_read 89 = .ok (.iconst 1, 1) := by decide +kernel
theorem dX5_read_90 : decode cX5_read 90 = .ok (.iadd, 1) := by decide +kernel
theorem dX5_read_91 : decode cX5_read 91 = .ok (.iaload, 1) := by decide +kernel
theorem dX5_read_92 : decode cX5_read 92 = .ok (.invokestatic 132, 3) := by decide +kernel
theorem dX5_read_95 : decode cX5_read 95 = .ok (.ifCond .ne 9, 3) := by decide +kernel
theorem dX5_read_98 : decode cX5_read 98 = .ok (.bipush (-20), 2) := by decide +kernel
theorem dX5_read_100 : decode cX5_read 100 = .ok (.iload 7, 2) := by decide +kernel
theorem dX5_read_102 : decode cX5_read 102 = .ok (.isub, 1) := by decide +kernel
theorem dX5_read_103 : decode cX5_read 103 = .ok (.ireturn, 1) := by decide +kernel
theorem dX5_read_104 : decode cX5_read 104 = .ok (.iinc 7 1, 3) := by decide +kernel
theorem dX5_read_107 : decode cX5_read 107 = .ok (.goto (-55), 3) := by decide +kernel
theorem dX5_read_110 : decode cX5_read 110 = .ok (.iconst 0, 1) := by decide +kernel
theorem dX5_read_111 : decode cX5_read 111 = .ok (.istore 7, 2) := by decide +kernel
theorem dX5_read_113 : decode cX5_read 113 = .ok (.iload 7, 2) := by decide +kernel
theorem dX5_read_115 : decode cX5_read 115 = .ok (.iload 6, 2) := by decide +kernel
theorem dX5_read_117 : decode cX5_read 117 = .ok (.if_icmp .ge 42, 3) := by decide +kernel
theorem dX5_read_120 : decode cX5_read 120 = .ok (.aload_n 0, 1) := by decide +kernel
theorem dX5_read_121 : decode cX5_read 121 = .ok (.getfield 10, 3) := by decide +kernel
theorem dX5_read_124 : decode cX5_read 124 = .ok (.aload 5, 2) := by decide +kernel
theorem dX5_read_126 : decode cX5_read 126 = .ok (.getfield 253, 3) := by decide +kernel
theorem dX5_read_129 : decode cX5_read 129 = .ok (.iload_n 3, 1) := by decide +kernel
theorem dX5_read_130 : decode cX5_read 130 = .ok (.iconst 2, 1) := by decide +kernel
theorem dX5_read_131 : decode cX5_read 131 = .ok (.iload 7, 2) := by decide +kernel
theorem dX5_read_133 : decode cX5_read 133 = .ok (.imul, 1) := by decide +kernel
theorem dX5_read_134 : decode cX5_read 134 = .ok (.iadd, 1) := by decide +kernel
theorem dX5_read_135 : decode cX5_read 135 = .ok (.iaload, 1) := by decide +kernel
theorem dX5_read_136 : decode cX5_read 136 = .ok (.aload 5, 2) := by decide +kernel
theorem dX5_read_138 : decode cX5_read 138 = .ok (.getfield 253, 3) := by decide +kernel
theorem dX5_read_141 : decode cX5_read 141 = .ok (.iload_n 3, 1) := by decide +kernel
theorem dX5_read_142 : decode cX5_read 142 = .ok (.iconst 2, 1) := by decide +kernel
theorem dX5_read_143 : decode cX5_read 143 = .ok (.iload 7, 2) := by decide +kernel
theorem dX5_read_145 : decode cX5_read 145 = .ok (.imul, 1) := by decide +kernel
theorem dX5_read_146 : decode cX5_read 146 = .ok (.iadd, 1) := by decide +kernel
theorem dX5_read_147 : decode cX5_read 147 = .ok (.iconst 1, 1) := by decide +kernel
theorem dX5_read_148 : decode cX5_read 148 = .ok (.iadd, 1) := by decide +kernel
theorem dX5_read_149 : decode cX5_read 149 = .ok (.iaload, 1) := by decide +kernel
theorem dX5_read_150 : decode cX5_read 150 = .ok (.invokevirtual 145, 3) := by decide +kernel
theorem dX5_read_153 : decode cX5_read 153 = .ok (.iinc 7 1, 3) := by decide +kernel
theorem dX5_read_156 : decode cX5_read 156 = .ok (.goto (-43), 3) := by decide +kernel
theorem dX5_read_159 : decode cX5_read 159 = .ok (.aload_n 0, 1) := by decide +kernel
theorem dX5_read_160 : decode cX5_read 160 = .ok (.aload 5, 2) := by decide +kernel
theorem dX5_read_162 : decode cX5_read 162 = .ok (.iload_n 2, 1) := by decide +kernel
theorem dX5_read_163 : decode cX5_read 163 = .ok (.iload 6, 2) := by decide +kernel
theorem dX5_read_165 : decode cX5_read 165 = .ok (.iload 4, 2) := by decide +kernel
theorem dX5_read_167 : decode cX5_read 167 = .ok (.invokevirtual 267, 3) := by decide +kernel
theorem dX5_read_170 : decode cX5_read 170 = .ok (.putfield 270, 3) := by decide +kernel
theorem dX5_read_173 : decode cX5_read 173 = .ok (.iload 6, 2) := by decide +kernel
theorem dX5_read_175 : decode cX5_read 175 = .ok (.ireturn, 1) := by decide +kernel
abbrev rmX5_read : Room := { frames := 3, cells := 0, slots := 0, locals := 68 }
def opX5_read (po : Int32 → px_St → Prop) : List (Nat × px_Op) := [
  (0, px_il 1 1),
  (1, px_callS 4 1 px_vI prX5_isSheet poX5_isSheet),
  (4, px_if 7 25 (fun x => x = 0)),
  (7, px_il 8 2),
  (8, px_callS 11 1 px_vI prX5_isLane poX5_isLane),
  (11, px_if 14 25 (fun x => x = 0)),
  (14, px_il 16 4),
  (16, px_push 17 (.int 0)),
  (17, px_push 19 (.int 20)),
  (19, px_callS 22 3 px_vI prX5_isWithin poX5_isWithin),
  (22, px_if 25 27 (fun x => ¬ x = 0)),
  (25, px_push 26 (.int (-1))),
  (26, px_iret (.int) po),
  (27, px_al 28 0),
  (28, px_get dC 31 5 9),
  (31, px_il 32 1),
  (32, px_aald dC 33 4),
  (33, px_as 35 5),
  (35, px_il 37 4),
  (37, px_al 39 5),
  (39, px_il 40 2),
  (40, px_il 41 3),
  (41, px_callV dC 44 3 2 px_vI prX3_wholePairs poX3_wholePairs),
  (44, px_mm 47 (fun x y => if y < x then y else x)),
  (47, px_is 49 6),
  (49, px_push 50 (.int 0)),
  (50, px_is 52 7),
  (52, px_il 54 7),
  (54, px_il 56 6),
  (56, px_ic 59 110 (fun x y => y ≤ x)),
  (59, px_al 60 0),
  (60, px_al 62 5),
  (62, px_get dC 65 3 2),
  (65, px_il 66 3),
  (66, px_push 67 (.int 2)),
  (67, px_il 69 7),
  (69, px_bin 70 (fun x y => x * y)),
  (70, px_bin 71 (fun x y => x + y)),
  (71, px_ald dC 72 0),
  (72, px_callV dC 75 5 1 px_vI prX5_isParrot poX5_isParrot),
  (75, px_if 78 98 (fun x => x = 0)),
  (78, px_al 80 5),
  (80, px_get dC 83 3 2),
  (83, px_il 84 3),
  (84, px_push 85 (.int 2)),
  (85, px_il 87 7),
  (87, px_bin 88 (fun x y => x * y)),
  (88, px_bin 89 (fun x y => x + y)),
  (89, px_push 90 (.int 1)),
  (90, px_bin 91 (fun x y => x + y)),
  (91, px_ald dC 92 0),
  (92, px_callS 95 1 px_vI prX5_isSound poX5_isSound),
  (95, px_if 98 104 (fun x => ¬ x = 0)),
  (98, px_push 100 (.int (-20))),
  (100, px_il 102 7),
  (102, px_bin 103 (fun x y => x - y)),
  (103, px_iret (.int) po),
  (104, px_inc 107 7 1),
  (107, px_go 52),
  (110, px_push 111 (.int 0)),
  (111, px_is 113 7),
  (113, px_il 115 7),
  (115, px_il 117 6),
  (117, px_ic 120 159 (fun x y => y ≤ x)),
  (120, px_al 121 0),
  (121, px_get dC 124 5 0),
  (124, px_al 126 5),
  (126, px_get dC 129 3 2),
  (129, px_il 130 3),
  (130, px_push 131 (.int 2)),
  (131, px_il 133 7),
  (133, px_bin 134 (fun x y => x * y)),
  (134, px_bin 135 (fun x y => x + y)),
  (135, px_ald dC 136 0),
  (136, px_al 138 5),
  (138, px_get dC 141 3 2),
  (141, px_il 142 3),
  (142, px_push 143 (.int 2)),
  (143, px_il 145 7),
  (145, px_bin 146 (fun x y => x * y)),
  (146, px_bin 147 (fun x y => x + y)),
  (147, px_push 148 (.int 1)),
  (148, px_bin 149 (fun x y => x + y)),
  (149, px_ald dC 150 0),
  (150, px_callV dC 153 0 2 px_vV prX0_learn poX0_learn),
  (153, px_inc 156 7 1),
  (156, px_go 113),
  (159, px_al 160 0),
  (160, px_al 162 5),
  (162, px_il 163 2),
  (163, px_il 165 6),
  (165, px_il 167 4),
  (167, px_callV dC 170 3 3 px_vI prX3_faultOfReading poX3_faultOfReading),
  (170, px_put dC 173 5 12 .int),
  (173, px_il 175 6),
  (175, px_iret (.int) po)]
set_option maxRecDepth 100000 in
set_option maxHeartbeats 4000000 in
theorem okX5_read : ∀ (po : Int32 → px_St → Prop) (i pc : Nat) (op : px_Op), (opX5_read po)[i]? = some (pc, op) → px_Snd (cX5_read, 8, RX5, Cond.code yX5_read cX5_read 8 (some .int) :: wdC, (some .int), rmX5_read, dC) px_vI po pc op := by
  intro po
  unfold opX5_read
  refine px_ok_cons (ps_iload_n dX5_read_0 rfl) ?_
  refine px_ok_cons (ps_callS mX5_isSheet (fun _ _ => rfl) (fun _ _ ht => px_cwS wgC (wdC_10_in _ (List.mem_of_getElem? (i := 6) rfl)) (wdC_10_in _ (List.mem_of_getElem? (i := 7) rfl)) (wdC_4_in _ (List.mem_of_getElem? (i := 23) rfl)) (wdC_10_in _ (List.mem_of_getElem? (i := 3) rfl)) (by decide +kernel) rfl rfl (by decide) ht) dX5_read_1) ?_
  refine px_ok_cons (ps_if_eq dX5_read_4 (by decide)) ?_
  refine px_ok_cons (ps_iload_n dX5_read_7 rfl) ?_
  refine px_ok_cons (ps_callS mX5_isLane (fun _ _ => rfl) (fun _ _ ht => px_cwS wgC (wdC_10_in _ (List.mem_of_getElem? (i := 8) rfl)) (wdC_10_in _ (List.mem_of_getElem? (i := 9) rfl)) (wdC_4_in _ (List.mem_of_getElem? (i := 23) rfl)) (wdC_10_in _ (List.mem_of_getElem? (i := 4) rfl)) (by decide +kernel) rfl rfl (by decide) ht) dX5_read_8) ?_
  refine px_ok_cons (ps_if_eq dX5_read_11 (by decide)) ?_
  refine px_ok_cons (ps_iload dX5_read_14) ?_
  refine px_ok_cons (ps_iconst dX5_read_16 (by decide)) ?_
  refine px_ok_cons (ps_bipush dX5_read_17 (by decide)) ?_
  refine px_ok_cons (ps_callS mX5_isWithin (fun _ _ => rfl) (fun _ _ ht => px_cwS wgC (wdC_4_in _ (List.mem_of_getElem? (i := 29) rfl)) (wdC_4_in _ (List.mem_of_getElem? (i := 22) rfl)) (wdC_4_in _ (List.mem_of_getElem? (i := 23) rfl)) (wdC_4_in _ (List.mem_of_getElem? (i := 20) rfl)) (by decide +kernel) rfl rfl (by decide) ht) dX5_read_19) ?_
  refine px_ok_cons (ps_if_ne dX5_read_22 (by decide)) ?_
  refine px_ok_cons (ps_iconst dX5_read_25 (by decide)) ?_
  refine px_ok_cons (ps_ireturn rfl dX5_read_26) ?_
  refine px_ok_cons (ps_aload_n dX5_read_27 rfl) ?_
  refine px_ok_cons (fgX5_55 dX5_read_28) ?_
  refine px_ok_cons (ps_iload_n dX5_read_31 rfl) ?_
  refine px_ok_cons (ps_aaload4 dX5_read_32) ?_
  refine px_ok_cons (ps_astore dX5_read_33 (by decide)) ?_
  refine px_ok_cons (ps_iload dX5_read_35) ?_
  refine px_ok_cons (ps_aload dX5_read_37) ?_
  refine px_ok_cons (ps_iload_n dX5_read_39 rfl) ?_
  refine px_ok_cons (ps_iload_n dX5_read_40 rfl) ?_
  refine px_ok_cons (ps_callV mX3_wholePairs (fun _ _ => rfl) (C := RX3) rfl (fun _ _ ht => px_cwV wgC (wdC_10_in _ (List.mem_of_getElem? (i := 22) rfl)) (wdC_10_in _ (List.mem_of_getElem? (i := 23) rfl)) (wdC_10_in _ (List.mem_of_getElem? (i := 24) rfl)) (wdC_6_in _ (List.mem_of_getElem? (i := 2) rfl)) (wdC_2_in _ (List.mem_of_getElem? (i := 15) rfl)) (by decide +kernel) rfl rfl (by decide) ht) dX5_read_41) ?_
  refine px_ok_cons (ps_mmin (List.mem_cons_of_mem _ (wdC_10_in _ (List.mem_of_getElem? (i := 20) rfl))) (List.mem_cons_of_mem _ (wdC_0_in _ (List.mem_of_getElem? (i := 38) rfl))) (List.mem_cons_of_mem _ (wdC_0_in _ (List.mem_of_getElem? (i := 39) rfl))) (List.mem_cons_of_mem _ (wdC_1_in _ (List.mem_of_getElem? (i := 0) rfl))) (by decide) dX5_read_44) ?_
  refine px_ok_cons (ps_istore dX5_read_47 (by decide)) ?_
  refine px_ok_cons (ps_iconst dX5_read_49 (by decide)) ?_
  refine px_ok_cons (ps_istore dX5_read_50 (by decide)) ?_
  refine px_ok_cons (ps_iload dX5_read_52) ?_
  refine px_ok_cons (ps_iload dX5_read_54) ?_
  refine px_ok_cons (ps_icmp_ge dX5_read_56 (by decide)) ?_
  refine px_ok_cons (ps_aload_n dX5_read_59 rfl) ?_
  refine px_ok_cons (ps_aload dX5_read_60) ?_
  refine px_ok_cons (fgX5_253 dX5_read_62) ?_
  refine px_ok_cons (ps_iload_n dX5_read_65 rfl) ?_
  refine px_ok_cons (ps_iconst dX5_read_66 (by decide)) ?_
  refine px_ok_cons (ps_iload dX5_read_67) ?_
  refine px_ok_cons (ps_imul dX5_read_69) ?_
  refine px_ok_cons (ps_iadd dX5_read_70) ?_
  refine px_ok_cons (ps_iaload dX5_read_71) ?_
  refine px_ok_cons (ps_callV mX5_isParrot (fun _ _ => rfl) (C := RX5) rfl (fun _ _ ht => px_cwV wgC (wdC_6_in _ (List.mem_of_getElem? (i := 36) rfl)) (wdC_6_in _ (List.mem_of_getElem? (i := 37) rfl)) (wdC_6_in _ (List.mem_of_getElem? (i := 38) rfl)) (wdC_4_in _ (List.mem_of_getElem? (i := 23) rfl)) (wdC_6_in _ (List.mem_of_getElem? (i := 32) rfl)) (by decide +kernel) rfl rfl (by decide) ht) dX5_read_72) ?_
  refine px_ok_cons (ps_if_eq dX5_read_75 (by decide)) ?_
  refine px_ok_cons (ps_aload dX5_read_78) ?_
  refine px_ok_cons (fgX5_253 dX5_read_80) ?_
  refine px_ok_cons (ps_iload_n dX5_read_83 rfl) ?_
  refine px_ok_cons (ps_iconst dX5_read_84 (by decide)) ?_
  refine px_ok_cons (ps_iload dX5_read_85) ?_
  refine px_ok_cons (ps_imul dX5_read_87) ?_
  refine px_ok_cons (ps_iadd dX5_read_88) ?_
  refine px_ok_cons (ps_iconst dX5_read_89 (by decide)) ?_
  refine px_ok_cons (ps_iadd dX5_read_90) ?_
  refine px_ok_cons (ps_iaload dX5_read_91) ?_
  refine px_ok_cons (ps_callS mX5_isSound (fun _ _ => rfl) (fun _ _ ht => px_cwS wgC (wdC_7_in _ (List.mem_of_getElem? (i := 5) rfl)) (wdC_4_in _ (List.mem_of_getElem? (i := 32) rfl)) (wdC_4_in _ (List.mem_of_getElem? (i := 23) rfl)) (wdC_4_in _ (List.mem_of_getElem? (i := 28) rfl)) (by decide +kernel) rfl rfl (by decide) ht) dX5_read_92) ?_
  refine px_ok_cons (ps_if_ne dX5_read_95 (by decide)) ?_
  refine px_ok_cons (ps_bipush dX5_read_98 (by decide)) ?_
  refine px_ok_cons (ps_iload dX5_read_100) ?_
  refine px_ok_cons (ps_isub dX5_read_102) ?_
  refine px_ok_cons (ps_ireturn rfl dX5_read_103) ?_
  refine px_ok_cons (ps_iinc dX5_read_104 (by decide) (by decide)) ?_
  refine px_ok_cons (ps_goto dX5_read_107 (by decide)) ?_
  refine px_ok_cons (ps_iconst dX5_read_110 (by decide)) ?_
  refine px_ok_cons (ps_istore dX5_read_111 (by decide)) ?_
  refine px_ok_cons (ps_iload dX5_read_113) ?_
  refine px_ok_cons (ps_iload dX5_read_115) ?_
  refine px_ok_cons (ps_icmp_ge dX5_read_117 (by decide)) ?_
  refine px_ok_cons (ps_aload_n dX5_read_120 rfl) ?_
  refine px_ok_cons (fgX5_10 dX5_read_121) ?_
  refine px_ok_cons (ps_aload dX5_read_124) ?_
  refine px_ok_cons (fgX5_253 dX5_read_126) ?_
  refine px_ok_cons (ps_iload_n dX5_read_129 rfl) ?_
  refine px_ok_cons (ps_iconst dX5_read_130 (by decide)) ?_
  refine px_ok_cons (ps_iload dX5_read_131) ?_
  refine px_ok_cons (ps_imul dX5_read_133) ?_
  refine px_ok_cons (ps_iadd dX5_read_134) ?_
  refine px_ok_cons (ps_iaload dX5_read_135) ?_
  refine px_ok_cons (ps_aload dX5_read_136) ?_
  refine px_ok_cons (fgX5_253 dX5_read_138) ?_
  refine px_ok_cons (ps_iload_n dX5_read_141 rfl) ?_
  refine px_ok_cons (ps_iconst dX5_read_142 (by decide)) ?_
  refine px_ok_cons (ps_iload dX5_read_143) ?_
  refine px_ok_cons (ps_imul dX5_read_145) ?_
  refine px_ok_cons (ps_iadd dX5_read_146) ?_
  refine px_ok_cons (ps_iconst dX5_read_147 (by decide)) ?_
  refine px_ok_cons (ps_iadd dX5_read_148) ?_
  refine px_ok_cons (ps_iaload dX5_read_149) ?_
  refine px_ok_cons (ps_callV mX0_learn (fun _ _ => rfl) (C := RX0) rfl (fun _ _ ht => px_cwV wgC (wdC_7_in _ (List.mem_of_getElem? (i := 18) rfl)) (wdC_1_in _ (List.mem_of_getElem? (i := 22) rfl)) (wdC_1_in _ (List.mem_of_getElem? (i := 23) rfl)) (wdC_0_in _ (List.mem_of_getElem? (i := 22) rfl)) (wdC_1_in _ (List.mem_of_getElem? (i := 2) rfl)) (by decide +kernel) rfl rfl (by decide) ht) dX5_read_150) ?_
  refine px_ok_cons (ps_iinc dX5_read_153 (by decide) (by decide)) ?_
  refine px_ok_cons (ps_goto dX5_read_156 (by decide)) ?_
  refine px_ok_cons (ps_aload_n dX5_read_159 rfl) ?_
  refine px_ok_cons (ps_aload dX5_read_160) ?_
  refine px_ok_cons (ps_iload_n dX5_read_162 rfl) ?_
  refine px_ok_cons (ps_iload dX5_read_163) ?_
  refine px_ok_cons (ps_iload dX5_read_165) ?_
  refine px_ok_cons (ps_callV mX3_faultOfReading (fun _ _ => rfl) (C := RX3) rfl (fun _ _ ht => px_cwV wgC (wdC_10_in _ (List.mem_of_getElem? (i := 25) rfl)) (wdC_10_in _ (List.mem_of_getElem? (i := 26) rfl)) (wdC_10_in _ (List.mem_of_getElem? (i := 27) rfl)) (wdC_6_in _ (List.mem_of_getElem? (i := 2) rfl)) (wdC_2_in _ (List.mem_of_getElem? (i := 16) rfl)) (by decide +kernel) rfl rfl (by decide) ht) dX5_read_167) ?_
  refine px_ok_cons (fpX5_270 dX5_read_170) ?_
  refine px_ok_cons (ps_iload dX5_read_173) ?_
  refine px_ok_cons (ps_ireturn rfl dX5_read_175) ?_
  exact px_ok_nil
set_option maxRecDepth 100000 in
set_option maxHeartbeats 4000000 in
theorem sgX5_read_0 {po : Int32 → px_St → Prop} {G : px_K} (hG : px_cl (opX5_read po) G) (v1 : Int32) (v2 : Int32) (v3 : Int32) (v4 : Int32) (σ : px_St)
    (H : ∃ g3 : gtX5_isSheet, qrX5_isSheet g3 v1 σ ∧ ∀ (r1 : Int32) (σ2 : px_St), qoX5_isSheet g3 v1 σ r1 σ2 → ((r1 = 0) → po (-1 : Int32) σ2) ∧ (¬ (r1 = 0) → ∃ g7 : gtX5_isLane, qrX5_isLane g7 v2 σ2 ∧ ∀ (r5 : Int32) (σ6 : px_St), qoX5_isLane g7 v2 σ2 r5 σ6 → ((r5 = 0) → po (-1 : Int32) σ6) ∧ (¬ (r5 = 0) → ∃ g11 : gtX5_isWithin, qrX5_isWithin g11 v4 (0 : Int32) (20 : Int32) σ6 ∧ ∀ (r9 : Int32) (σ10 : px_St), qoX5_isWithin g11 v4 (0 : Int32) (20 : Int32) σ6 r9 σ10 → ((¬ r9 = 0) → vp_in v1 4 ∧ ∃ g16 : gtX3_wholePairs, qrX3_wholePairs g16 (dC.2.2.2 6 v1.toNatClampNeg) v2 v3 σ10 ∧ ∀ (r14 : Int32) (σ15 : px_St), qoX3_wholePairs g16 (dC.2.2.2 6 v1.toNatClampNeg) v2 v3 σ10 r14 σ15 → G 52 [some (.ref 0), some (.int v1), some (.int v2), some (.int v3), some (.int v4), some (.ref (dC.2.2.2 6 v1.toNatClampNeg)), some (.int (if r14 < v4 then r14 else v4)), some (.int (0 : Int32))] [] σ15) ∧ (¬ (¬ r9 = 0) → po (-1 : Int32) σ10)))) :
    G 0 (px_ent 8 [.ref 0, .int v1, .int v2, .int v3, .int v4]) [] σ := by
  refine hG.1 0 _ _ rfl _ _ _ ?_
  refine hG.1 1 _ _ rfl _ _ _ ?_
  obtain ⟨g3, H⟩ := H
  refine ⟨Nat.le_of_ble_eq_true rfl, Nat.le_of_ble_eq_true rfl, g3, ⟨_, rfl, H.1⟩, fun r1 σ2 hp4 => ?_⟩
  replace H := H.2 r1 σ2 hp4
  refine hG.1 2 _ _ rfl _ _ _ ?_
  refine ⟨fun h20 => ?_, fun h20 => ?_⟩
  · replace H := H.1 h20
    refine hG.1 11 _ _ rfl _ _ _ ?_
    refine hG.1 12 _ _ rfl _ _ _ ?_
    exact ⟨rfl, H⟩
  · replace H := H.2 h20
    refine hG.1 3 _ _ rfl _ _ _ ?_
    refine hG.1 4 _ _ rfl _ _ _ ?_
    obtain ⟨g7, H⟩ := H
    refine ⟨Nat.le_of_ble_eq_true rfl, Nat.le_of_ble_eq_true rfl, g7, ⟨_, rfl, H.1⟩, fun r5 σ6 hp8 => ?_⟩
    replace H := H.2 r5 σ6 hp8
    refine hG.1 5 _ _ rfl _ _ _ ?_
    refine ⟨fun h19 => ?_, fun h19 => ?_⟩
    · replace H := H.1 h19
      refine hG.1 11 _ _ rfl _ _ _ ?_
      refine hG.1 12 _ _ rfl _ _ _ ?_
      exact ⟨rfl, H⟩
    · replace H := H.2 h19
      refine hG.1 6 _ _ rfl _ _ _ ?_
      refine hG.1 7 _ _ rfl _ _ _ ?_
      refine hG.1 8 _ _ rfl _ _ _ ?_
      refine hG.1 9 _ _ rfl _ _ _ ?_
      obtain ⟨g11, H⟩ := H
      refine ⟨Nat.le_of_ble_eq_true rfl, Nat.le_of_ble_eq_true rfl, g11, ⟨_, _, _, rfl, H.1⟩, fun r9 σ10 hp12 => ?_⟩
      replace H := H.2 r9 σ10 hp12
      refine hG.1 10 _ _ rfl _ _ _ ?_
      refine ⟨fun h18 => ?_, fun h18 => ?_⟩
      · replace H := H.1 h18
        refine hG.1 13 _ _ rfl _ _ _ ?_
        refine hG.1 14 _ _ rfl _ _ _ ?_
        refine ⟨⟨rfl, by decide⟩, ?_⟩
        refine hG.1 15 _ _ rfl _ _ _ ?_
        refine hG.1 16 _ _ rfl _ _ _ ?_
        have hz13 := sh_of H.1
        refine ⟨⟨rfl, by decide⟩, H.1, ?_⟩
        replace H := H.2
        refine hG.1 17 _ _ rfl _ _ _ ?_
        show G 35 [some (.ref 0), some (.int v1), some (.int v2), some (.int v3), some (.int v4), some (.ref (dC.2.2.2 6 v1.toNatClampNeg)), none, none] [] σ10
        refine hG.1 18 _ _ rfl _ _ _ ?_
        refine hG.1 19 _ _ rfl _ _ _ ?_
        refine hG.1 20 _ _ rfl _ _ _ ?_
        refine hG.1 21 _ _ rfl _ _ _ ?_
        refine hG.1 22 _ _ rfl _ _ _ ?_
        obtain ⟨g16, H⟩ := H
        refine ⟨(sh_s0 hz13), Nat.le_of_ble_eq_true rfl, g16, ⟨_, _, _, rfl, hz13, H.1⟩, fun r14 σ15 hp17 => ?_⟩
        replace H := H.2 r14 σ15 hp17
        refine hG.1 23 _ _ rfl _ _ _ ?_
        refine ⟨Nat.le_of_ble_eq_true rfl, ?_⟩
        refine hG.1 24 _ _ rfl _ _ _ ?_
        show G 49 [some (.ref 0), some (.int v1), some (.int v2), some (.int v3), some (.int v4), some (.ref (dC.2.2.2 6 v1.toNatClampNeg)), some (.int (if r14 < v4 then r14 else v4)), none] [] σ15
        refine hG.1 25 _ _ rfl _ _ _ ?_
        refine hG.1 26 _ _ rfl _ _ _ ?_
        show G 52 [some (.ref 0), some (.int v1), some (.int v2), some (.int v3), some (.int v4), some (.ref (dC.2.2.2 6 v1.toNatClampNeg)), some (.int (if r14 < v4 then r14 else v4)), some (.int (0 : Int32))] [] σ15
        exact H
      · replace H := H.2 h18
        refine hG.1 11 _ _ rfl _ _ _ ?_
        refine hG.1 12 _ _ rfl _ _ _ ?_
        exact ⟨rfl, H⟩
set_option maxRecDepth 100000 in
set_option maxHeartbeats 4000000 in
theorem sgX5_read_52 {po : Int32 → px_St → Prop} {G : px_K} (hG : px_cl (opX5_read po) G) (v1 : Int32) (v2 : Int32) (v3 : Int32) (v4 : Int32) (k5 : Nat) (hk5 : px_sh k5) (v6 : Int32) (v7 : Int32) (σ : px_St)
    (H : ((v6 ≤ v7) → G 113 [some (.ref 0), some (.int v1), some (.int v2), some (.int v3), some (.int v4), some (.ref k5), some (.int v6), some (.int (0 : Int32))] [] σ) ∧ (¬ (v6 ≤ v7) → vp_in (v3 + ((2 : Int32) * v7)) 40 ∧ ∃ g3 : gtX5_isParrot, qrX5_isParrot g3 (σ.1 (k5 + 1) (v3 + ((2 : Int32) * v7)).toNatClampNeg) σ ∧ ∀ (r1 : Int32) (σ2 : px_St), qoX5_isParrot g3 (σ.1 (k5 + 1) (v3 + ((2 : Int32) * v7)).toNatClampNeg) σ r1 σ2 → ((r1 = 0) → po ((-20 : Int32) - v7) σ2) ∧ (¬ (r1 = 0) → vp_in ((v3 + ((2 : Int32) * v7)) + (1 : Int32)) 40 ∧ ∃ g7 : gtX5_isSound, qrX5_isSound g7 (σ2.1 (k5 + 1) ((v3 + ((2 : Int32) * v7)) + (1 : Int32)).toNatClampNeg) σ2 ∧ ∀ (r5 : Int32) (σ6 : px_St), qoX5_isSound g7 (σ2.1 (k5 + 1) ((v3 + ((2 : Int32) * v7)) + (1 : Int32)).toNatClampNeg) σ2 r5 σ6 → ((¬ r5 = 0) → G 52 [some (.ref 0), some (.int v1), some (.int v2), some (.int v3), some (.int v4), some (.ref k5), some (.int v6), some (.int (v7 + 1))] [] σ6) ∧ (¬ (¬ r5 = 0) → po ((-20 : Int32) - v7) σ6)))) :
    G 52 [some (.ref 0), some (.int v1), some (.int v2), some (.int v3), some (.int v4), some (.ref k5), some (.int v6), some (.int v7)] [] σ := by
  refine hG.1 27 _ _ rfl _ _ _ ?_
  refine hG.1 28 _ _ rfl _ _ _ ?_
  refine hG.1 29 _ _ rfl _ _ _ ?_
  refine ⟨fun h11 => ?_, fun h11 => ?_⟩
  · replace H := H.1 h11
    refine hG.1 59 _ _ rfl _ _ _ ?_
    refine hG.1 60 _ _ rfl _ _ _ ?_
    show G 113 [some (.ref 0), some (.int v1), some (.int v2), some (.int v3), some (.int v4), some (.ref k5), some (.int v6), some (.int (0 : Int32))] [] σ
    exact H
  · replace H := H.2 h11
    refine hG.1 30 _ _ rfl _ _ _ ?_
    refine hG.1 31 _ _ rfl _ _ _ ?_
    refine hG.1 32 _ _ rfl _ _ _ ?_
    refine ⟨(sh_s0 hk5), ?_⟩
    refine hG.1 33 _ _ rfl _ _ _ ?_
    refine hG.1 34 _ _ rfl _ _ _ ?_
    refine hG.1 35 _ _ rfl _ _ _ ?_
    refine hG.1 36 _ _ rfl _ _ _ ?_
    refine hG.1 37 _ _ rfl _ _ _ ?_
    refine hG.1 38 _ _ rfl _ _ _ ?_
    refine ⟨(sh_s1 hk5), by rw [(sh_l1 hk5)]; exact H.1, ?_⟩
    replace H := H.2
    refine hG.1 39 _ _ rfl _ _ _ ?_
    obtain ⟨g3, H⟩ := H
    refine ⟨⟨rfl, by decide⟩, Nat.le_of_ble_eq_true rfl, g3, ⟨_, rfl, H.1⟩, fun r1 σ2 hp4 => ?_⟩
    replace H := H.2 r1 σ2 hp4
    refine hG.1 40 _ _ rfl _ _ _ ?_
    refine ⟨fun h10 => ?_, fun h10 => ?_⟩
    · replace H := H.1 h10
      refine hG.1 53 _ _ rfl _ _ _ ?_
      refine hG.1 54 _ _ rfl _ _ _ ?_
      refine hG.1 55 _ _ rfl _ _ _ ?_
      refine hG.1 56 _ _ rfl _ _ _ ?_
      exact ⟨rfl, H⟩
    · replace H := H.2 h10
      refine hG.1 41 _ _ rfl _ _ _ ?_
      refine hG.1 42 _ _ rfl _ _ _ ?_
      refine ⟨(sh_s0 hk5), ?_⟩
      refine hG.1 43 _ _ rfl _ _ _ ?_
      refine hG.1 44 _ _ rfl _ _ _ ?_
      refine hG.1 45 _ _ rfl _ _ _ ?_
      refine hG.1 46 _ _ rfl _ _ _ ?_
      refine hG.1 47 _ _ rfl _ _ _ ?_
      refine hG.1 48 _ _ rfl _ _ _ ?_
      refine hG.1 49 _ _ rfl _ _ _ ?_
      refine hG.1 50 _ _ rfl _ _ _ ?_
      refine ⟨(sh_s1 hk5), by rw [(sh_l1 hk5)]; exact H.1, ?_⟩
      replace H := H.2
      refine hG.1 51 _ _ rfl _ _ _ ?_
      obtain ⟨g7, H⟩ := H
      refine ⟨Nat.le_of_ble_eq_true rfl, Nat.le_of_ble_eq_true rfl, g7, ⟨_, rfl, H.1⟩, fun r5 σ6 hp8 => ?_⟩
      replace H := H.2 r5 σ6 hp8
      refine hG.1 52 _ _ rfl _ _ _ ?_
      refine ⟨fun h9 => ?_, fun h9 => ?_⟩
      · replace H := H.1 h9
        refine hG.1 57 _ _ rfl _ _ _ ?_
        show G 107 [some (.ref 0), some (.int v1), some (.int v2), some (.int v3), some (.int v4), some (.ref k5), some (.int v6), some (.int (v7 + 1))] [] σ6
        refine hG.1 58 _ _ rfl _ _ _ ?_
        exact H
      · replace H := H.2 h9
        refine hG.1 53 _ _ rfl _ _ _ ?_
        refine hG.1 54 _ _ rfl _ _ _ ?_
        refine hG.1 55 _ _ rfl _ _ _ ?_
        refine hG.1 56 _ _ rfl _ _ _ ?_
        exact ⟨rfl, H⟩
set_option maxRecDepth 100000 in
set_option maxHeartbeats 4000000 in
theorem sgX5_read_113 {po : Int32 → px_St → Prop} {G : px_K} (hG : px_cl (opX5_read po) G) (v1 : Int32) (v2 : Int32) (v3 : Int32) (v4 : Int32) (k5 : Nat) (hk5 : px_sh k5) (v6 : Int32) (v7 : Int32) (σ : px_St)
    (H : ((v6 ≤ v7) → ∃ g3 : gtX3_faultOfReading, qrX3_faultOfReading g3 k5 v2 v6 v4 σ ∧ ∀ (r1 : Int32) (σ2 : px_St), qoX3_faultOfReading g3 k5 v2 v6 v4 σ r1 σ2 → po v6 (px_up σ2 0 12 r1)) ∧ (¬ (v6 ≤ v7) → vp_in (v3 + ((2 : Int32) * v7)) 40 ∧ vp_in ((v3 + ((2 : Int32) * v7)) + (1 : Int32)) 40 ∧ ∃ g7 : gtX0_learn, qrX0_learn g7 8 (σ.1 (k5 + 1) (v3 + ((2 : Int32) * v7)).toNatClampNeg) (σ.1 (k5 + 1) ((v3 + ((2 : Int32) * v7)) + (1 : Int32)).toNatClampNeg) σ ∧ ∀ (r5 : Unit) (σ6 : px_St), qoX0_learn g7 8 (σ.1 (k5 + 1) (v3 + ((2 : Int32) * v7)).toNatClampNeg) (σ.1 (k5 + 1) ((v3 + ((2 : Int32) * v7)) + (1 : Int32)).toNatClampNeg) σ r5 σ6 → G 113 [some (.ref 0), some (.int v1), some (.int v2), some (.int v3), some (.int v4), some (.ref k5), some (.int v6), some (.int (v7 + 1))] [] σ6)) :
    G 113 [some (.ref 0), some (.int v1), some (.int v2), some (.int v3), some (.int v4), some (.ref k5), some (.int v6), some (.int v7)] [] σ := by
  refine hG.1 61 _ _ rfl _ _ _ ?_
  refine hG.1 62 _ _ rfl _ _ _ ?_
  refine hG.1 63 _ _ rfl _ _ _ ?_
  refine ⟨fun h9 => ?_, fun h9 => ?_⟩
  · replace H := H.1 h9
    refine hG.1 87 _ _ rfl _ _ _ ?_
    refine hG.1 88 _ _ rfl _ _ _ ?_
    refine hG.1 89 _ _ rfl _ _ _ ?_
    refine hG.1 90 _ _ rfl _ _ _ ?_
    refine hG.1 91 _ _ rfl _ _ _ ?_
    refine hG.1 92 _ _ rfl _ _ _ ?_
    obtain ⟨g3, H⟩ := H
    refine ⟨(sh_s0 hk5), Nat.le_of_ble_eq_true rfl, g3, ⟨_, _, _, _, rfl, hk5, H.1⟩, fun r1 σ2 hp4 => ?_⟩
    replace H := H.2 r1 σ2 hp4
    refine hG.1 93 _ _ rfl _ _ _ ?_
    refine ⟨⟨rfl, by decide⟩, ⟨rfl, rfl⟩, ?_⟩
    refine hG.1 94 _ _ rfl _ _ _ ?_
    refine hG.1 95 _ _ rfl _ _ _ ?_
    exact ⟨rfl, H⟩
  · replace H := H.2 h9
    refine hG.1 64 _ _ rfl _ _ _ ?_
    refine hG.1 65 _ _ rfl _ _ _ ?_
    refine ⟨⟨rfl, by decide⟩, ?_⟩
    refine hG.1 66 _ _ rfl _ _ _ ?_
    refine hG.1 67 _ _ rfl _ _ _ ?_
    refine ⟨(sh_s0 hk5), ?_⟩
    refine hG.1 68 _ _ rfl _ _ _ ?_
    refine hG.1 69 _ _ rfl _ _ _ ?_
    refine hG.1 70 _ _ rfl _ _ _ ?_
    refine hG.1 71 _ _ rfl _ _ _ ?_
    refine hG.1 72 _ _ rfl _ _ _ ?_
    refine hG.1 73 _ _ rfl _ _ _ ?_
    refine ⟨(sh_s1 hk5), by rw [(sh_l1 hk5)]; exact H.1, ?_⟩
    replace H := H.2
    refine hG.1 74 _ _ rfl _ _ _ ?_
    refine hG.1 75 _ _ rfl _ _ _ ?_
    refine ⟨(sh_s0 hk5), ?_⟩
    refine hG.1 76 _ _ rfl _ _ _ ?_
    refine hG.1 77 _ _ rfl _ _ _ ?_
    refine hG.1 78 _ _ rfl _ _ _ ?_
    refine hG.1 79 _ _ rfl _ _ _ ?_
    refine hG.1 80 _ _ rfl _ _ _ ?_
    refine hG.1 81 _ _ rfl _ _ _ ?_
    refine hG.1 82 _ _ rfl _ _ _ ?_
    refine hG.1 83 _ _ rfl _ _ _ ?_
    refine ⟨(sh_s1 hk5), by rw [(sh_l1 hk5)]; exact H.1, ?_⟩
    replace H := H.2
    refine hG.1 84 _ _ rfl _ _ _ ?_
    obtain ⟨g7, H⟩ := H
    refine ⟨⟨rfl, by decide⟩, Nat.le_of_ble_eq_true rfl, g7, ⟨_, _, _, rfl, (Or.inl rfl), H.1⟩, fun r5 σ6 hp8 => ?_⟩
    replace H := H.2 r5 σ6 hp8
    refine hG.1 85 _ _ rfl _ _ _ ?_
    show G 156 [some (.ref 0), some (.int v1), some (.int v2), some (.int v3), some (.int v4), some (.ref k5), some (.int v6), some (.int (v7 + 1))] [] σ6
    refine hG.1 86 _ _ rfl _ _ _ ?_
    exact H
set_option maxRecDepth 100000 in
set_option maxHeartbeats 4000000 in
theorem hhX5_read (g : gtX5_read) (v1 : Int32) (v2 : Int32) (v3 : Int32) (v4 : Int32) (σ : px_St) (h : qrX5_read g v1 v2 v3 v4 σ) (G : px_K) (hG : px_cl (opX5_read (qoX5_read g v1 v2 v3 v4 σ)) G) : G 0 (px_ent 8 [.ref 0, .int v1, .int v2, .int v3, .int v4]) [] σ := by
  obtain ⟨hX, hok⟩ := h
  have hvk := hok.1.1
  have h5 := hvk.1.1
  refine sgX5_read_0 hG _ _ _ _ σ ⟨(), trivial, fun r1 σ1 h1 => ?_⟩
  obtain ⟨rfl, b1⟩ := h1
  refine bz2 b1 (fun z => ⟨(), trivial, fun r2 σ2 h2 => ?_⟩) (fun z => ?_)
  · obtain ⟨rfl, b2⟩ := h2
    refine bz2 b2 (fun y => ⟨(), trivial, fun r3 σ3 h3 => ?_⟩) (fun y => ?_)
    · obtain ⟨rfl, b3⟩ := h3
      refine bz1 b3 (fun x => ?_) (fun x => ?_)
      · obtain ⟨k, hk, rfl⟩ := (rngc 3 3 rfl (by omega)).mp z
        obtain ⟨l, hl, rfl⟩ := (rngc 2 2 rfl (by omega)).mp y
        obtain ⟨n, hn, rfl⟩ := (rngc 20 20 rfl (by omega)).mp x
        rw [sh_id (by omega)]
        refine ⟨vp_in_nI (by omega) (by decide), (), trivial, fun r4 σ4 h4 => ?_⟩
        obtain ⟨rfl, e4⟩ := h4
        have hsh := hX.2.2.2.2.2.2 k (by omega)
        obtain ⟨o, ho⟩ : ∃ o, o = g.2.2.2.2.2.2 k := ⟨_, rfl⟩
        have how : ∀ w, o = some w → w.1 ≤ 2 ∧ w.2.1 ≤ 40 := fun w hw => hok.2.2.2.2.2.2 k w (by rw [← ho]; exact hw)
        have hwpl : x_wp (nI l) v3 o ≤ 20 := x_wp_le (fun w hw => (how w hw).2)
        have e5 : r4 = nI (x_wp (nI l) v3 o) := by
          rw [e4]
          cases hoc : o with
          | none =>
            have e := hsh.1 (by rw [← ho]; exact hoc)
            rw [e, if_neg (fun q => absurd (show nI l < 0 by rw [← q.1]; decide) (nI_pos (by omega)))]
            rfl
          | some w =>
            obtain ⟨f1, f2, f3⟩ := hsh.2 w (by rw [← ho]; exact hoc)
            have hw2 := how w hoc
            rw [f1, f2]
            unfold x_wp
            simp only
            by_cases hc : nI w.1 = nI l ∧ ¬ v3 < 0 ∧ ¬ nI w.2.1 ≤ v3
            · rw [if_pos hc, if_pos hc]
              obtain ⟨j, hj, e⟩ := nI_of hc.2.1
              subst e
              have hjl : j < w.2.1 := by
                rcases Nat.lt_or_ge j w.2.1 with q | q
                · exact q
                · exact absurd (nI_le q hj) hc.2.2
              rw [nI_clamp hj, pk_sub (by omega)]
              exact pk_div (d := 2) (by omega) (by omega) (by omega)
            · rw [if_neg hc, if_neg hc]; rfl
        obtain ⟨m, hm⟩ : ∃ m, m = min n (x_wp (nI l) v3 o) := ⟨_, rfl⟩
        have e6 : (if r4 < nI n then r4 else nI n) = nI m := by
          rw [e5, hm, Nat.min_comm]
          exact ni_min (by omega) (by omega)
        rw [e6]
        obtain ⟨f, hf⟩ : ∃ f, f = v3.toNatClampNeg := ⟨_, rfl⟩
        obtain ⟨c, hc⟩ : ∃ c, c = x_cells o := ⟨_, rfl⟩
        have ex : x_read g (nI k) (nI l) v3 (nI n) = x_read1 g c f m n (x_fc (nI l) o) (pv_fb (x_good g c f) m 0) := by
          unfold x_read
          rw [xif_t ⟨z, y, x⟩, nI_clamp (by omega), nI_clamp (by omega), ← ho]
          unfold x_read0
          rw [hc, hf, hm]
        -- where a pair lies
        have hat : ∀ i, i < m → v3 = nI f ∧ f + 2 * i + 1 < 40 ∧ ∀ τ : px_St, (∀ j, 49 ≤ j → τ.1 j = σ4.1 j) → τ.1 (49 + 2 * k + 1) (f + 2 * i) = c (f + 2 * i) ∧ τ.1 (49 + 2 * k + 1) (f + 2 * i + 1) = c (f + 2 * i + 1) := by
          intro i hi
          cases hoc : o with
          | none =>
            rw [hoc] at hm
            have : m = min n 0 := hm
            omega
          | some w =>
            obtain ⟨f1, f2, f3⟩ := hsh.2 w (by rw [← ho]; exact hoc)
            have hw2 := how w hoc
            rw [hoc] at hm
            obtain ⟨f', ef, hle⟩ := x_wp_at (m := m) hw2.2 (by rw [hm]; exact Nat.min_le_right _ _) (by omega)
            have ef2 : f = f' := by rw [hf, ef, nI_clamp (by omega)]
            subst ef2
            refine ⟨ef, by omega, fun τ ht => ?_⟩
            rw [ht _ (by omega), show 49 + 2 * k + 1 = 50 + 2 * k by omega, hc, hoc]
            exact ⟨f3 _ (by omega), f3 _ (by omega)⟩
        have hk5 : px_sh (49 + 2 * k) := by unfold px_sh; omega
        have e2i : ∀ i, nI f + (2 : Int32) * nI i = nI (f + 2 * i) := fun i => by rw [show (2 : Int32) = nI 2 from rfl, pk_mul, nI_add]
        -- the lessons
        have learn : pv_fb (x_good g c f) m 0 = none → ∀ t i, i + t = m → ∀ σ', av_is σ' 8 (pv_lrns g.1 c f i) → px_only 8 σ4 σ' → G 113 [some (.ref 0), some (.int (nI k)), some (.int (nI l)), some (.int v3), some (.int (nI n)), some (.ref (49 + 2 * k)), some (.int (nI m)), some (.int (nI i))] [] σ' := by
          intro hnone t
          induction t with
          | zero =>
            intro i hi σ' hV ho'
            refine sgX5_read_113 hG _ _ _ _ _ hk5 _ _ σ' ⟨fun _ => ⟨(), trivial, fun r5 σ5 h5 => ?_⟩, fun q => absurd (nI_le (by omega) (by omega)) q⟩
            obtain ⟨rfl, e7⟩ := h5
            have e8 : r5 = nI (if m < n then x_fc (nI l) o else 0) := by
              rw [e7]
              have cmn : nI m < nI n ↔ m < n := nI_ltI (by omega) (by omega)
              by_cases hmn : m < n
              · rw [if_pos (cmn.mpr hmn), if_pos hmn, ho'.1 _ (by omega)]
                cases hoc : o with
                | none =>
                  rw [hsh.1 (by rw [← ho]; exact hoc), if_pos rfl]; rfl
                | some w =>
                  obtain ⟨f1, -, -⟩ := hsh.2 w (by rw [← ho]; exact hoc)
                  have hw2 := how w hoc
                  rw [f1, if_neg (fun q => absurd (show nI w.1 < 0 by rw [q]; decide) (nI_pos (by omega)))]
                  unfold x_fc
                  simp only
                  by_cases hq : nI w.1 = nI l
                  · rw [if_pos hq, if_pos hq]; rfl
                  · rw [if_neg hq, if_neg hq]; rfl
              · rw [if_neg (fun q => hmn (cmn.mp q)), if_neg hmn]; rfl
            have em : i = m := by omega
            subst em
            unfold qoX5_read
            rw [ex, hnone, e8]
            refine ⟨rfl, ?_⟩
            show cl_is _ (xR (xV g (pv_lrns g.1 c f i)) (if i < n then x_fc (nI l) o else 0))
            obtain ⟨c1, c2, c3, c4, c5, c6, c7⟩ := ho'.cl hX hV
            refine ⟨c1.kept (fun j a b => px_up_n (by omega)), c2.kept (fun j a b => px_up_n (by omega)), c3.kept (by rw [px_up_at, if_neg (by omega)]) (px_up_n (by omega)), c4.kept (fun j a => px_up_n (by omega)), ?_, ?_, c7.kept (fun j a => px_up_n (by omega))⟩
            · rw [px_up_at, if_neg (by omega)]; exact c5
            · rw [px_up_at, if_pos ⟨rfl, rfl⟩]; rfl
          | succ t ih =>
            intro i hi σ' hV ho'
            obtain ⟨a1, a2, a3⟩ := hat i (by omega)
            obtain ⟨a4, a5⟩ := a3 σ' (fun j hj => ho'.1 j (by omega))
            obtain ⟨gp, gs⟩ := pv_fb_none hnone i (by omega) (by omega)
            obtain ⟨p, hp, ep⟩ := (rng1 (by omega)).mp gp
            obtain ⟨s, hs, es⟩ := (rngc 9 9 rfl (by omega)).mp gs
            obtain ⟨l1, l2, l3⟩ := pv_lrns_ok (c := c) (f := f) hvk i (fun j hj => pv_fb_none hnone j (by omega) (by omega))
            refine sgX5_read_113 hG _ _ _ _ _ hk5 _ _ σ' ⟨fun q => absurd q (nI_ge (by omega) (by omega)), fun _ => ?_⟩
            rw [a1, e2i, nI_1, nI_1, nI_clamp (show f + 2 * i < 2 ^ 31 by omega), nI_clamp (show f + 2 * i + 1 < 2 ^ 31 by omega), a4, a5]
            refine ⟨vp_in_nI (by omega) (by decide), vp_in_nI (by omega) (by decide), (pv_lrns g.1 c f i, p, s), ⟨hV, l1.1, by omega, hs, ep, es⟩, fun _ σ5 h5' => ?_⟩
            obtain ⟨q1, q2⟩ := h5'
            rw [← a1]
            refine ih (i + 1) (by omega) σ5 ?_ (ho'.tr q2)
            rw [pv_lrns, ep, es, nI_clamp (by omega), nI_clamp (by omega)]
            exact q1
        -- all are looked at first
        have check : ∀ t i, i + t = m → pv_fb (x_good g c f) m 0 = pv_fb (x_good g c f) t i → G 52 [some (.ref 0), some (.int (nI k)), some (.int (nI l)), some (.int v3), some (.int (nI n)), some (.ref (49 + 2 * k)), some (.int (nI m)), some (.int (nI i))] [] σ4 := by
          intro t
          induction t with
          | zero =>
            intro i hi he
            exact sgX5_read_52 hG _ _ _ _ _ hk5 _ _ σ4 ⟨fun _ => learn he m 0 (by omega) σ4 hX.1 px_only.rf, fun q => absurd (nI_le (by omega) (by omega)) q⟩
          | succ t ih =>
            intro i hi he
            obtain ⟨a1, a2, a3⟩ := hat i (by omega)
            obtain ⟨a4, a5⟩ := a3 σ4 (fun j hj => rfl)
            rw [pv_fb] at he
            have bad : ¬ x_good g c f i → qoX5_read g (nI k) (nI l) v3 (nI n) σ4 (-20 - nI i) σ4 := by
              intro hb
              rw [xif_f hb] at he
              unfold qoX5_read
              rw [ex, he]
              exact ⟨rfl, hX⟩
            refine sgX5_read_52 hG _ _ _ _ _ hk5 _ _ σ4 ⟨fun q => absurd q (nI_ge (by omega) (by omega)), fun _ => ?_⟩
            have e7 : v3 + (2 : Int32) * nI i = nI (f + 2 * i) := by rw [a1]; exact e2i i
            rw [e7, nI_1, nI_1, nI_clamp (show f + 2 * i < 2 ^ 31 by omega), nI_clamp (show f + 2 * i + 1 < 2 ^ 31 by omega), a4]
            refine ⟨vp_in_nI (by omega) (by decide), g.1, hX.1, fun r5 σ5 h5 => ?_⟩
            obtain ⟨rfl, b5⟩ := h5
            refine bz2 b5 (fun gp => ⟨vp_in_nI (by omega) (by decide), (), trivial, fun r6 σ6 h6 => ?_⟩) (fun gp => bad (fun q => gp q.1))
            rw [a5] at h6
            obtain ⟨rfl, b6⟩ := h6
            refine bz1 b6 (fun gs => ?_) (fun gs => bad (fun q => gs q.2))
            rw [xif_t ⟨gp, gs⟩] at he
            exact ih (i + 1) (by omega) he
        exact check m 0 (by omega) rfl
      · unfold qoX5_read x_read
        rw [xif_f (fun q => x q.2.2)]
        exact ⟨rfl, hX⟩
    · unfold qoX5_read x_read
      rw [xif_f (fun q => y q.2.1)]
      exact ⟨rfl, hX⟩
  · unfold qoX5_read x_read
    rw [xif_f (fun q => z q.1)]
    exact ⟨rfl, hX⟩
theorem mX5_read (g : gtX5_read) : px_Met dC yX5_read (Cond.code yX5_read cX5_read 8 (some .int) :: wdC) rmX5_read px_vI (prX5_read g) (poX5_read g) :=
  px_met (Z := (cX5_read, 8, RX5, Cond.code yX5_read cX5_read 8 (some .int) :: wdC, (some .int), rmX5_read, dC)) opX5_read (by decide) rfl rfl okX5_read (fun As σ h => by obtain ⟨v1, v2, v3, v4, rfl, h⟩ := h; exact Nat.le_of_ble_eq_true rfl) (fun As σ h G hG => by obtain ⟨v1, v2, v3, v4, rfl, h⟩ := h; exact hhX5_read g v1 v2 v3 v4 σ h G hG)
