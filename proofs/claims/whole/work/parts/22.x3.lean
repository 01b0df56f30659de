/-- a day under a cloth -/
def pv_skip (V : pv_V) : pv_V := (V.1, V.2.1, V.2.2.1 + 1, V.2.2.2)
/-- k days, under a cloth where c's bit is set -/
noncomputable def pv_cl (V : pv_V) (c : Nat) : Nat → pv_V
  | 0 => V
  | k + 1 => if c / 2 ^ k % 2 = 1 then pv_skip (pv_cl V c k) else pv_day (pv_cl V c k)
theorem pv_cl_n (V : pv_V) (c k : Nat) : (pv_cl V c k).1 = V.1 ∧ (pv_cl V c k).2.2.1 = V.2.2.1 + k := by
  induction k with
  | zero => exact ⟨rfl, rfl⟩
  | succ k ih =>
    rw [pv_cl]
    split
    · exact ⟨ih.1, by show (pv_cl V c k).2.2.1 + 1 = _; omega⟩
    · exact ⟨ih.1, by show (pv_cl V c k).2.2.1 + 1 = _; omega⟩
theorem pv_skip_ok {V : pv_V} (h : pv_ok V) (hd : V.2.2.1 < 1999) : pv_ok (pv_skip V) := by
  obtain ⟨⟨h1, h2, h3, h4⟩, h5⟩ := h
  exact ⟨⟨h1, h2, by show V.2.2.1 + 1 < 2000; omega, h4⟩, h5⟩
theorem pv_cl_ok {V : pv_V} (h : pv_ok V) (c k : Nat) (hd : V.2.2.1 + k < 2000) : pv_ok (pv_cl V c k) := by
  induction k with
  | zero => exact h
  | succ k ih =>
    have h1 := ih (by omega)
    have h2 := (pv_cl_n V c k).2
    rw [pv_cl]
    split
    · exact pv_skip_ok h1 (by omega)
    · exact pv_day_ok h1 (by omega)
theorem shk : ∀ k, k < 31 → ((nI k &&& 31).toBitVec.smod 32).toNat = k := by decide
theorem sh1 : ∀ k, k < 31 → (1 : Int32) <<< (nI k &&& 31) = nI (2 ^ k) := by decide
theorem bitAt {c k : Nat} (hc : c < 2 ^ 31) (hk : k < 31) : (nI c >>> (nI k &&& 31)) &&& 1 = nI (c / 2 ^ k % 2) := by
  rw [pk_shrN hc _ k (shk k hk)]
  have h1 : c / 2 ^ k ≤ c := Nat.div_le_self _ _
  exact pk_andN (by omega) 1 (by decide)
abbrev gtX5_knowersBehind : Type := pv_V × Nat × Nat × Nat
def qrX5_knowersBehind : gtX5_knowersBehind → Int32 → Int32 → Int32 → px_St → Prop
  | (V, c, s, n), v1, v2, v3, σ => av_is σ 8 V ∧ pv_ok V ∧ V.2.2.1 < 1900 ∧ c < 1024 ∧ s ≤ 9 ∧ n ≤ 8 ∧ v1 = nI c ∧ v2 = nI s ∧ v3 = nI n
def qoX5_knowersBehind : gtX5_knowersBehind → Int32 → Int32 → Int32 → px_St → Int32 → px_St → Prop
  | (V, c, s, n), _, _, _, σ, r, σ' => r = pv_knowers (pv_cl V c n) s V.1 ∧ px_only 18 σ σ'
def prX5_knowersBehind (g : gtX5_knowersBehind) : List Value → px_St → Prop := fun As σ => ∃ v1 : Int32, ∃ v2 : Int32, ∃ v3 : Int32, As = [.ref 0, .int v1, .int v2, .int v3] ∧ qrX5_knowersBehind g v1 v2 v3 σ
def poX5_knowersBehind (g : gtX5_knowersBehind) : List Value → px_St → Int32 → px_St → Prop
  | [.ref _, .int v1, .int v2, .int v3], σ, r, σ' => qoX5_knowersBehind g v1 v2 v3 σ r σ'
  | _, _, _, _ => False
theorem dX5_knowersBehind_0 : decode cX5_knowersBehind 0 = .ok (.aload_n 0, 1) := by decide +kernel
theorem dX5_knowersBehind_1 : decode cX5_knowersBehind 1 = .ok (.getfield 26, 3) := by decide +kernel
theorem dX5_knowersBehind_4 : decode cX5_knowersBehind 4 = .ok (.aload_n 0, 1) := by decide +kernel
theorem dX5_knowersBehind_5 : decode cX5_knowersBehind 5 = .ok (.getfield 10, 3) := by decide +kernel
theorem dX5_knowersBehind_8 : decode cX5_knowersBehind 8 = .ok (.invokevirtual 82, 3) := by decide +kernel
theorem dX5_knowersBehind_11 : decode cX5_knowersBehind 11 = .ok (.iconst 0, 1) := by decide +kernel
theorem dX5_knowersBehind_12 : decode cX5_knowersBehind 12 = .ok (.istore 4, 2) := by decide +kernel
theorem dX5_knowersBehind_14 : decode cX5_knowersBehind 14 = .ok (.iload 4, 2) := by decide +kernel
theorem dX5_knowersBehind_16 : decode cX5_knowersBehind 16 = .ok (.iload_n 3, 1) := by decide +kernel
theorem dX5_knowersBehind_17 : decode cX5_knowersBehind 17 = .ok (.if_icmp .ge 43, 3) := by decide +kernel
theorem dX5_knowersBehind_20 : decode cX5_knowersBehind 20 = .ok (.iload_n 1, 1) := by decide +kernel
theorem dX5_knowersBehind_21 : decode cX5_knowersBehind 21 = .ok (.iload 4, 2) := by decide +kernel
theorem dX5_knowersBehind_23 : decode cX5_knowersBehind 23 = .ok (.ishr, 1) := by decide +kernel
theorem dX5_knowersBehind_24 : decode cX5_knowersBehind 24 = .ok (.iconst 1, 1) := by decide +kernel
theorem dX5_knowersBehind_25 : decode cX5_knowersBehind 25 = .ok (.iand, 1) := by decide +kernel
theorem dX5_knowersBehind_26 : decode cX5_knowersBehind 26 = .ok (.iconst 1, 1) := by decide +kernel
theorem dX5_knowersBehind_27 : decode cX5_knowersBehind 27 = .ok (.if_icmp .ne 19, 3) := by decide +kernel
theorem dX5_knowersBehind_30 : decode cX5_knowersBehind 30 = .ok (.aload_n 0, 1) := by decide +kernel
theorem dX5_knowersBehind_31 : decode cX5_knowersBehind 31 = .ok (.getfield 26, 3) := by decide +kernel
theorem dX5_knowersBehind_34 : decode cX5_knowersBehind 34 = .ok (.dup, 1) := by decide +kernel
theorem dX5_knowersBehind_35 : decode cX5_knowersBehind 35 = .ok (.getfield 96, 3) := by decide +kernel
theorem dX5_knowersBehind_38 : decode cX5_knowersBehind 38 = .ok (.iconst 1, 1) := by decide +kernel
theorem dX5_knowersBehind_39 : decode cX5_knowersBehind 39 = .ok (.iadd, 1) := by decide +kernel
theorem dX5_knowersBehind_40 : decode cX5_knowersBehind 40 = .ok (.putfield 96, 3) := by decide +kernel
theorem dX5_knowersBehind_43 : decode cX5_knowersBehind 43 = .ok (.goto 11, 3) := by decide +kernel
theorem dX5_knowersBehind_46 : decode cX5_knowersBehind 46 = .ok (.aload_n 0, 1) := by decide +kernel
theorem dX5_knowersBehind_47 : decode cX5_knowersBehind 47 = .ok (.getfield 26, 3) := by decide +kernel
theorem dX5_knowersBehind_50 : decode cX5_knowersBehind 50 = .ok (.invokevirtual 156, 3) := by decide +kernel
theorem dX5_knowersBehind_53 : decode cX5_knowersBehind 53 = .ok (.pop, 1) := by decide +kernel
theorem dX5_knowersBehind_54 : decode cX5_knowersBehind 54 = .ok (.iinc 4 1, 3) := by decide +kernel
theorem dX5_knowersBehind_57 : decode cX5_knowersBehind 57 = .ok (.goto (-43), 3) := by decide +kernel
theorem dX5_knowersBehind_60 : decode cX5_knowersBehind 60 = .ok (.aload_n 0, 1) := by decide +kernel
theorem dX5_knowersBehind_61 : decode cX5_knowersBehind 61 = .ok (.getfield 26, 3) := by decide +kernel
theorem dX5_knowersBehind_64 : decode cX5_knowersBehind 64 = .ok (.iload_n 2, 1) := by decide +kernel
theorem dX5_knowersBehind_65 : decode cX5_knowersBehind 65 = .ok (.invokevirtual 135, 3) := by decide +kernel
theorem dX5_knowersBehind_68 : decode cX5_knowersBehind 68 = .ok (.ireturn, 1) := by decide +kernel
abbrev rmX5_knowersBehind : Room := { frames := 4, cells := 0, slots := 0, locals := 105 }
def opX5_knowersBehind (po : Int32 → px_St → Prop) : List (Nat × px_Op) := [
  (0, px_al 1 0),
  (1, px_get dC 4 5 3),
  (4, px_al 5 0),
  (5, px_get dC 8 5 0),
  (8, px_callV dC 11 0 1 px_vV prX0_becomes poX0_becomes),
  (11, px_push 12 (.int 0)),
  (12, px_is 14 4),
  (14, px_il 16 4),
  (16, px_il 17 3),
  (17, px_ic 20 60 (fun x y => y ≤ x)),
  (20, px_il 21 1),
  (21, px_il 23 4),
  (23, px_bin 24 (fun x y => x >>> (y &&& 31))),
  (24, px_push 25 (.int 1)),
  (25, px_bin 26 (fun x y => x &&& y)),
  (26, px_push 27 (.int 1)),
  (27, px_ic 30 46 (fun x y => ¬ x = y)),
  (30, px_al 31 0),
  (31, px_get dC 34 5 3),
  (34, px_dup 35),
  (35, px_get dC 38 0 2),
  (38, px_push 39 (.int 1)),
  (39, px_bin 40 (fun x y => x + y)),
  (40, px_put dC 43 0 2 .int),
  (43, px_go 54),
  (46, px_al 47 0),
  (47, px_get dC 50 5 3),
  (50, px_callV dC 53 0 0 px_vI prX0_passDay poX0_passDay),
  (53, px_pop 54),
  (54, px_inc 57 4 1),
  (57, px_go 14),
  (60, px_al 61 0),
  (61, px_get dC 64 5 3),
  (64, px_il 65 2),
  (65, px_callV dC 68 0 1 px_vI prX0_knowers poX0_knowers),
  (68, px_iret (.int) po)]
set_option maxRecDepth 100000 in
set_option maxHeartbeats 4000000 in
theorem okX5_knowersBehind : ∀ (po : Int32 → px_St → Prop) (i pc : Nat) (op : px_Op), (opX5_knowersBehind po)[i]? = some (pc, op) → px_Snd (cX5_knowersBehind, 5, RX5, Cond.code yX5_knowersBehind cX5_knowersBehind 5 (some .int) :: wdC, (some .int), rmX5_knowersBehind, dC) px_vI po pc op := by
  intro po
  unfold opX5_knowersBehind
  refine px_ok_cons (ps_aload_n dX5_knowersBehind_0 rfl) ?_
  refine px_ok_cons (fgX5_26 dX5_knowersBehind_1) ?_
  refine px_ok_cons (ps_aload_n dX5_knowersBehind_4 rfl) ?_
  refine px_ok_cons (fgX5_10 dX5_knowersBehind_5) ?_
  refine px_ok_cons (ps_callV mX0_becomes (fun _ _ => rfl) (C := RX0) rfl (fun _ _ ht => px_cwV wgC (wdC_6_in _ (List.mem_of_getElem? (i := 18) rfl)) (wdC_6_in _ (List.mem_of_getElem? (i := 19) rfl)) (wdC_6_in _ (List.mem_of_getElem? (i := 20) rfl)) (wdC_0_in _ (List.mem_of_getElem? (i := 22) rfl)) (wdC_0_in _ (List.mem_of_getElem? (i := 18) rfl)) (by decide +kernel) rfl rfl (by decide) ht) dX5_knowersBehind_8) ?_
  refine px_ok_cons (ps_iconst dX5_knowersBehind_11 (by decide)) ?_
  refine px_ok_cons (ps_istore dX5_knowersBehind_12 (by decide)) ?_
  refine px_ok_cons (ps_iload dX5_knowersBehind_14) ?_
  refine px_ok_cons (ps_iload_n dX5_knowersBehind_16 rfl) ?_
  refine px_ok_cons (ps_icmp_ge dX5_knowersBehind_17 (by decide)) ?_
  refine px_ok_cons (ps_iload_n dX5_knowersBehind_20 rfl) ?_
  refine px_ok_cons (ps_iload dX5_knowersBehind_21) ?_
  refine px_ok_cons (ps_ishr dX5_knowersBehind_23) ?_
  refine px_ok_cons (ps_iconst dX5_knowersBehind_24 (by decide)) ?_
  refine px_ok_cons (ps_iand dX5_knowersBehind_25) ?_
  refine px_ok_cons (ps_iconst dX5_knowersBehind_26 (by decide)) ?_
  refine px_ok_cons (ps_icmp_ne dX5_knowersBehind_27 (by decide)) ?_
  refine px_ok_cons (ps_aload_n dX5_knowersBehind_30 rfl) ?_
  refine px_ok_cons (fgX5_26 dX5_knowersBehind_31) ?_
  refine px_ok_cons (ps_dup dX5_knowersBehind_34) ?_
  refine px_ok_cons (fgX5_96 dX5_knowersBehind_35) ?_
  refine px_ok_cons (ps_iconst dX5_knowersBehind_38 (by decide)) ?_
  refine px_ok_cons (ps_iadd dX5_knowersBehind_39) ?_
  refine px_ok_cons (fpX5_96 dX5_knowersBehind_40) ?_
  refine px_ok_cons (ps_goto dX5_knowersBehind_43 (by decide)) ?_
  refine px_ok_cons (ps_aload_n dX5_knowersBehind_46 rfl) ?_
  refine px_ok_cons (fgX5_26 dX5_knowersBehind_47) ?_
  refine px_ok_cons (ps_callV mX0_passDay (fun _ _ => rfl) (C := RX0) rfl (fun _ _ ht => px_cwV wgC (wdC_7_in _ (List.mem_of_getElem? (i := 30) rfl)) (wdC_7_in _ (List.mem_of_getElem? (i := 31) rfl)) (wdC_7_in _ (List.mem_of_getElem? (i := 32) rfl)) (wdC_0_in _ (List.mem_of_getElem? (i := 22) rfl)) (wdC_1_in _ (List.mem_of_getElem? (i := 24) rfl)) (by decide +kernel) rfl rfl (by decide) ht) dX5_knowersBehind_50) ?_
  refine px_ok_cons (ps_pop dX5_knowersBehind_53) ?_
  refine px_ok_cons (ps_iinc dX5_knowersBehind_54 (by decide) (by decide)) ?_
  refine px_ok_cons (ps_goto dX5_knowersBehind_57 (by decide)) ?_
  refine px_ok_cons (ps_aload_n dX5_knowersBehind_60 rfl) ?_
  refine px_ok_cons (fgX5_26 dX5_knowersBehind_61) ?_
  refine px_ok_cons (ps_iload_n dX5_knowersBehind_64 rfl) ?_
  refine px_ok_cons (ps_callV mX0_knowers (fun _ _ => rfl) (C := RX0) rfl (fun _ _ ht => px_cwV wgC (wdC_7_in _ (List.mem_of_getElem? (i := 6) rfl)) (wdC_7_in _ (List.mem_of_getElem? (i := 7) rfl)) (wdC_7_in _ (List.mem_of_getElem? (i := 8) rfl)) (wdC_0_in _ (List.mem_of_getElem? (i := 22) rfl)) (wdC_1_in _ (List.mem_of_getElem? (i := 27) rfl)) (by decide +kernel) rfl rfl (by decide) ht) dX5_knowersBehind_65) ?_
  refine px_ok_cons (ps_ireturn rfl dX5_knowersBehind_68) ?_
  exact px_ok_nil
set_option maxRecDepth 100000 in
set_option maxHeartbeats 4000000 in
theorem sgX5_knowersBehind_0 {po : Int32 → px_St → Prop} {G : px_K} (hG : px_cl (opX5_knowersBehind po) G) (v1 : Int32) (v2 : Int32) (v3 : Int32) (σ : px_St)
    (H : ∃ g3 : gtX0_becomes, qrX0_becomes g3 18 8 σ ∧ ∀ (r1 : Unit) (σ2 : px_St), qoX0_becomes g3 18 8 σ r1 σ2 → G 14 [some (.ref 0), some (.int v1), some (.int v2), some (.int v3), some (.int (0 : Int32))] [] σ2) :
    G 0 (px_ent 5 [.ref 0, .int v1, .int v2, .int v3]) [] σ := by
  refine hG.1 0 _ _ rfl _ _ _ ?_
  refine hG.1 1 _ _ rfl _ _ _ ?_
  refine ⟨⟨rfl, by decide⟩, ?_⟩
  refine hG.1 2 _ _ rfl _ _ _ ?_
  refine hG.1 3 _ _ rfl _ _ _ ?_
  refine ⟨⟨rfl, by decide⟩, ?_⟩
  refine hG.1 4 _ _ rfl _ _ _ ?_
  obtain ⟨g3, H⟩ := H
  refine ⟨⟨rfl, by decide⟩, Nat.le_of_ble_eq_true rfl, g3, ⟨_, _, rfl, (Or.inr (Or.inr (Or.inl rfl))), (Or.inl rfl), H.1⟩, fun r1 σ2 hp4 => ?_⟩
  replace H := H.2 r1 σ2 hp4
  refine hG.1 5 _ _ rfl _ _ _ ?_
  refine hG.1 6 _ _ rfl _ _ _ ?_
  show G 14 [some (.ref 0), some (.int v1), some (.int v2), some (.int v3), some (.int (0 : Int32))] [] σ2
  exact H
set_option maxRecDepth 100000 in
set_option maxHeartbeats 4000000 in
theorem sgX5_knowersBehind_14 {po : Int32 → px_St → Prop} {G : px_K} (hG : px_cl (opX5_knowersBehind po) G) (v1 : Int32) (v2 : Int32) (v3 : Int32) (v4 : Int32) (σ : px_St)
    (H : ((v3 ≤ v4) → ∃ g3 : gtX0_knowers, qrX0_knowers g3 18 v2 σ ∧ ∀ (r1 : Int32) (σ2 : px_St), qoX0_knowers g3 18 v2 σ r1 σ2 → po r1 σ2) ∧ (¬ (v3 ≤ v4) → ((¬ ((v1 >>> (v4 &&& 31)) &&& (1 : Int32)) = (1 : Int32)) → ∃ g7 : gtX0_passDay, qrX0_passDay g7 18 σ ∧ ∀ (r5 : Int32) (σ6 : px_St), qoX0_passDay g7 18 σ r5 σ6 → G 14 [some (.ref 0), some (.int v1), some (.int v2), some (.int v3), some (.int (v4 + 1))] [] σ6) ∧ (¬ (¬ ((v1 >>> (v4 &&& 31)) &&& (1 : Int32)) = (1 : Int32)) → G 14 [some (.ref 0), some (.int v1), some (.int v2), some (.int v3), some (.int (v4 + 1))] [] (px_up σ 18 2 ((σ.1 18 2) + (1 : Int32)))))) :
    G 14 [some (.ref 0), some (.int v1), some (.int v2), some (.int v3), some (.int v4)] [] σ := by
  refine hG.1 7 _ _ rfl _ _ _ ?_
  refine hG.1 8 _ _ rfl _ _ _ ?_
  refine hG.1 9 _ _ rfl _ _ _ ?_
  refine ⟨fun h10 => ?_, fun h10 => ?_⟩
  · replace H := H.1 h10
    refine hG.1 31 _ _ rfl _ _ _ ?_
    refine hG.1 32 _ _ rfl _ _ _ ?_
    refine ⟨⟨rfl, by decide⟩, ?_⟩
    refine hG.1 33 _ _ rfl _ _ _ ?_
    refine hG.1 34 _ _ rfl _ _ _ ?_
    obtain ⟨g3, H⟩ := H
    refine ⟨⟨rfl, by decide⟩, Nat.le_of_ble_eq_true rfl, g3, ⟨_, _, rfl, (Or.inr (Or.inr (Or.inl rfl))), H.1⟩, fun r1 σ2 hp4 => ?_⟩
    replace H := H.2 r1 σ2 hp4
    refine hG.1 35 _ _ rfl _ _ _ ?_
    exact ⟨rfl, H⟩
  · replace H := H.2 h10
    refine hG.1 10 _ _ rfl _ _ _ ?_
    refine hG.1 11 _ _ rfl _ _ _ ?_
    refine hG.1 12 _ _ rfl _ _ _ ?_
    refine hG.1 13 _ _ rfl _ _ _ ?_
    refine hG.1 14 _ _ rfl _ _ _ ?_
    refine hG.1 15 _ _ rfl _ _ _ ?_
    refine hG.1 16 _ _ rfl _ _ _ ?_
    refine ⟨fun h9 => ?_, fun h9 => ?_⟩
    · replace H := H.1 h9
      refine hG.1 25 _ _ rfl _ _ _ ?_
      refine hG.1 26 _ _ rfl _ _ _ ?_
      refine ⟨⟨rfl, by decide⟩, ?_⟩
      refine hG.1 27 _ _ rfl _ _ _ ?_
      obtain ⟨g7, H⟩ := H
      refine ⟨⟨rfl, by decide⟩, Nat.le_of_ble_eq_true rfl, g7, ⟨_, rfl, (Or.inr (Or.inr (Or.inl rfl))), H.1⟩, fun r5 σ6 hp8 => ?_⟩
      replace H := H.2 r5 σ6 hp8
      refine hG.1 28 _ _ rfl _ _ _ ?_
      refine hG.1 29 _ _ rfl _ _ _ ?_
      show G 57 [some (.ref 0), some (.int v1), some (.int v2), some (.int v3), some (.int (v4 + 1))] [] σ6
      refine hG.1 30 _ _ rfl _ _ _ ?_
      exact H
    · replace H := H.2 h9
      refine hG.1 17 _ _ rfl _ _ _ ?_
      refine hG.1 18 _ _ rfl _ _ _ ?_
      refine ⟨⟨rfl, by decide⟩, ?_⟩
      refine hG.1 19 _ _ rfl _ _ _ ?_
      refine hG.1 20 _ _ rfl _ _ _ ?_
      refine ⟨⟨rfl, by decide⟩, ?_⟩
      refine hG.1 21 _ _ rfl _ _ _ ?_
      refine hG.1 22 _ _ rfl _ _ _ ?_
      refine hG.1 23 _ _ rfl _ _ _ ?_
      refine ⟨⟨rfl, by decide⟩, ⟨rfl, rfl⟩, ?_⟩
      refine hG.1 24 _ _ rfl _ _ _ ?_
      refine hG.1 29 _ _ rfl _ _ _ ?_
      show G 57 [some (.ref 0), some (.int v1), some (.int v2), some (.int v3), some (.int (v4 + 1))] [] (px_up σ 18 2 ((σ.1 18 2) + (1 : Int32)))
      refine hG.1 30 _ _ rfl _ _ _ ?_
      exact H
set_option maxRecDepth 100000 in
set_option maxHeartbeats 4000000 in
theorem hhX5_knowersBehind (g : gtX5_knowersBehind) (v1 : Int32) (v2 : Int32) (v3 : Int32) (σ : px_St) (h : qrX5_knowersBehind g v1 v2 v3 σ) (G : px_K) (hG : px_cl (opX5_knowersBehind (qoX5_knowersBehind g v1 v2 v3 σ)) G) : G 0 (px_ent 5 [.ref 0, .int v1, .int v2, .int v3]) [] σ := by
  obtain ⟨V, c, s, n⟩ := g
  obtain ⟨hV, hok, hd, hc, hs, hn, rfl, rfl, rfl⟩ := h
  refine sgX5_knowersBehind_0 hG _ _ _ σ ⟨V, ⟨by omega, hV, hok.1⟩, fun _ σ2 hq => ?_⟩
  obtain ⟨q1, q2⟩ := hq
  have loop : ∀ m k, k + m = n → ∀ σ', av_is σ' 18 (pv_cl V c k) → px_only 18 σ σ' → G 14 [some (.ref 0), some (.int (nI c)), some (.int (nI s)), some (.int (nI n)), some (.int (nI k))] [] σ' := by
    intro m
    induction m with
    | zero =>
      intro k hk σ' h1 h2
      have e : k = n := by omega
      subst e
      refine sgX5_knowersBehind_14 hG _ _ _ _ σ' ⟨fun _ => ⟨(pv_cl V c k, s), ⟨h1, (pv_cl_ok hok c k (by omega)).1, hs, rfl⟩, fun r σ3 hp => ?_⟩, fun z => absurd (Int32.le_refl _) z⟩
      obtain ⟨rfl, rfl⟩ := hp
      exact ⟨by rw [(pv_cl_n V c k).1], h2⟩
    | succ m ih =>
      intro k hk σ' h1 h2
      have hdk := (pv_cl_n V c k).2
      refine sgX5_knowersBehind_14 hG _ _ _ _ σ' ⟨fun z => absurd z (nI_ge (by omega) (by omega)), fun _ => ?_⟩
      rw [bitAt (by omega) (by omega), nI_1]
      have e1 : nI (c / 2 ^ k % 2) = 1 ↔ c / 2 ^ k % 2 = 1 := nIe _ 1 rfl rfl (by omega) (by omega)
      rw [e1]
      refine ⟨fun hb => ⟨pv_cl V c k, ⟨h1, pv_cl_ok hok c k (by omega), by omega⟩, fun r σ3 hp => ?_⟩, fun hb => ?_⟩
      · obtain ⟨-, p2, p3⟩ := hp
        refine ih (k + 1) (by omega) σ3 ?_ (h2.tr p3)
        rw [pv_cl, if_neg hb]
        exact p2
      · refine ih (k + 1) (by omega) _ ?_ (h2.tr ⟨fun j hj => px_up_n (by omega), rfl⟩)
        rw [pv_cl, if_pos (Classical.byContradiction hb)]
        obtain ⟨⟨g1, g2, g3⟩, g4⟩ := h1
        refine ⟨⟨?_, ?_, ?_⟩, fun p hp => ?_⟩
        · rw [px_up_at, if_neg (by omega)]; exact g1
        · rw [px_up_at, if_neg (by omega)]; exact g2
        · rw [px_up_at, if_pos ⟨rfl, rfl⟩, g3, nI_1]; rfl
        · obtain ⟨f1, f2, f3, f4⟩ := g4 p hp
          exact ⟨by rw [px_up_n (by omega)]; exact f1, by rw [px_up_n (by omega)]; exact f2, by rw [px_up_n (by omega)]; exact f3, fun i x hx => by rw [px_up_n (by omega)]; exact f4 i x hx⟩
  exact loop n 0 (by omega) σ2 q1 q2
theorem mX5_knowersBehind (g : gtX5_knowersBehind) : px_Met dC yX5_knowersBehind (Cond.code yX5_knowersBehind cX5_knowersBehind 5 (some .int) :: wdC) rmX5_knowersBehind px_vI (prX5_knowersBehind g) (poX5_knowersBehind g) :=
  px_met (Z := (cX5_knowersBehind, 5, RX5, Cond.code yX5_knowersBehind cX5_knowersBehind 5 (some .int) :: wdC, (some .int), rmX5_knowersBehind, dC)) opX5_knowersBehind (by decide) rfl rfl okX5_knowersBehind (fun As σ h => by obtain ⟨v1, v2, v3, rfl, h⟩ := h; exact Nat.le_of_ble_eq_true rfl) (fun As σ h G hG => by obtain ⟨v1, v2, v3, rfl, h⟩ := h; exact hhX5_knowersBehind g v1 v2 v3 σ h G hG)
noncomputable def pv_kn (V : pv_V) (s : Nat) : Nat → Nat
  | 0 => 0
  | k + 1 => if s ∈ (V.2.2.2 k).2.2 then pv_kn V s k + 2 ^ k else pv_kn V s k
theorem or10 : ∀ k, k < 6 → ∀ a, a < 64 → a < 2 ^ k → (nI a ||| nI (2 ^ k)) = nI (a + 2 ^ k) := by decide +kernel
theorem pv_kn_lt (V : pv_V) (s k : Nat) : pv_kn V s k < 2 ^ k := by
  induction k with
  | zero => exact Nat.zero_lt_one
  | succ k ih =>
    rw [pv_kn, Nat.pow_succ]
    split <;> omega
theorem pv_kn_eq (V : pv_V) (s : Nat) : ∀ k, k ≤ 5 → pv_knowers V s k = nI (pv_kn V s k)
  | 0, _ => rfl
  | k + 1, h => by
    have h1 := pv_kn_lt V s k
    have h2 : 2 ^ k ≤ 2 ^ 4 := Nat.pow_le_pow_right (by omega) (by omega)
    rw [pv_knowers, pv_kn, pv_kn_eq V s k (by omega), sh1 k (by omega), or10 k (by omega) _ (by omega) h1]
    split <;> rfl
theorem and5 : ∀ a, a < 32 → ∀ b, b < 32 → (nI a &&& nI b) = nI (a &&& b) ∧ a &&& b < 32 := by decide +kernel
/-- in how many ways, out of ten to the n, the cloths are as c's bits -/
def pv_wt (v c : Nat) : Nat → Nat
  | 0 => 1
  | k + 1 => pv_wt v c k * (if c / 2 ^ k % 2 = 1 then v else 10 - v)
theorem pv_pc_le (c k : Nat) : pv_pc c k ≤ k := by
  induction k with
  | zero => exact Nat.le_refl _
  | succ k ih => rw [pv_pc]; have := Nat.mod_lt (c / 2 ^ k) (show 0 < 2 by omega); omega
theorem pv_wt_eq (v c n : Nat) : v ^ pv_pc c n * (10 - v) ^ (n - pv_pc c n) = pv_wt v c n := by
  induction n with
  | zero => rfl
  | succ n ih =>
    have hle := pv_pc_le c n
    rw [pv_wt, ← ih, pv_pc]
    rcases Nat.mod_two_eq_zero_or_one (c / 2 ^ n) with h | h
    · rw [h, Nat.add_zero, if_neg (by omega), show n + 1 - pv_pc c n = (n - pv_pc c n) + 1 by omega, Nat.pow_succ, Nat.mul_assoc]
    · rw [h, if_pos rfl, show n + 1 - (pv_pc c n + 1) = n - pv_pc c n by omega, Nat.pow_succ, Nat.mul_right_comm]
theorem pv_pc_up {c n : Nat} (hc : c < 2 ^ n) (j : Nat) : pv_pc c (n + j) = pv_pc c n := by
  induction j with
  | zero => rfl
  | succ j ih =>
    rw [show n + (j + 1) = (n + j) + 1 by omega, pv_pc, ih, Nat.div_eq_of_lt (Nat.lt_of_lt_of_le hc (Nat.pow_le_pow_right (by omega) (by omega)))]
    rfl
noncomputable def pv_ws (V : pv_V) (v s n am : Nat) : Nat → Nat
  | 0 => 0
  | c + 1 => pv_ws V v s n am c + pv_wt v c n * pv_pc (pv_kn (pv_cl V c n) s V.1 &&& am) 10
theorem pv_wt_le {v : Nat} (hv : v ≤ 10) (c n : Nat) : pv_wt v c n ≤ 10 ^ n := by
  induction n with
  | zero => exact Nat.le_refl _
  | succ n ih =>
    rw [pv_wt, Nat.pow_succ]
    refine Nat.mul_le_mul ih ?_
    split <;> omega
theorem lgc_le {w : Nat} (h : w < 2 ^ 63) : lg_cmp (lN w) 0 ≤ 0 ↔ w = 0 := by
  have e : (lN w : Int64) > 0 ↔ 0 < w := pk_lLT (a := 0) (by omega) h
  unfold lg_cmp
  by_cases h0 : 0 < w
  · rw [if_pos (e.mpr h0)]
    exact ⟨fun z => absurd z (by decide), fun z => by omega⟩
  · rw [if_neg (fun z => h0 (e.mp z))]
    have hz : w = 0 := by omega
    subst hz
    exact ⟨fun _ => rfl, fun _ => by decide⟩
abbrev gtX5_weighedKnowers : Type := pv_V × Nat × Nat × Nat × Nat
def qrX5_weighedKnowers : gtX5_weighedKnowers → Int32 → Int32 → Int32 → Int32 → px_St → Prop
  | (V, v, s, n, am), v1, v2, v3, v4, σ => av_is σ 8 V ∧ pv_ok V ∧ V.2.2.1 < 1900 ∧ v ≤ 10 ∧ s ≤ 9 ∧ n ≤ 8 ∧ am < 32 ∧ v1 = nI v ∧ v2 = nI s ∧ v3 = nI n ∧ v4 = nI am
def qoX5_weighedKnowers : gtX5_weighedKnowers → Int32 → Int32 → Int32 → Int32 → px_St → Int64 → px_St → Prop
  | (V, v, s, n, am), _, _, _, _, σ, r, σ' => r = lN (pv_ws V v s n am (2 ^ n)) ∧ px_only 18 σ σ'
def prX5_weighedKnowers (g : gtX5_weighedKnowers) : List Value → px_St → Prop := fun As σ => ∃ v1 : Int32, ∃ v2 : Int32, ∃ v3 : Int32, ∃ v4 : Int32, As = [.ref 0, .int v1, .int v2, .int v3, .int v4] ∧ qrX5_weighedKnowers g v1 v2 v3 v4 σ
def poX5_weighedKnowers (g : gtX5_weighedKnowers) : List Value → px_St → Int64 → px_St → Prop
  | [.ref _, .int v1, .int v2, .int v3, .int v4], σ, r, σ' => qoX5_weighedKnowers g v1 v2 v3 v4 σ r σ'
  | _, _, _, _ => False
theorem dX5_weighedKnowers_0 : decode cX5_weighedKnowers 0 = .ok (.lconst 0, 1) := by decide +kernel
theorem dX5_weighedKnowers_1 : decode cX5_weighedKnowers 1 = .ok (.lstore 5, 2) := by decide +kernel
theorem dX5_weighedKnowers_3 : decode cX5_weighedKnowers 3 = .ok (.iconst 0, 1) := by decide +kernel
theorem dX5_weighedKnowers_4 : decode cX5_weighedKnowers 4 = .ok (.istore 7, 2) := by decide +kernel
theorem dX5_weighedKnowers_6 : decode cX5_weighedKnowers 6 = .ok (.iload 7, 2) := by decide +kernel
theorem dX5_weighedKnowers_8 : decode cX5_weighedKnowers 8 = .ok (.iconst 1, 1) := by decide +kernel
theorem dX5_weighedKnowers_9 : decode cX5_weighedKnowers 9 = .ok (.iload_n 3, 1) := by decide +kernel
theorem dX5_weighedKnowers_10 : decode cX5_weighedKnowers 10 = .ok (.ishl, 1) := by decide +kernel
theorem dX5_weighedKnowers_11 : decode cX5_weighedKnowers 11 = .ok (.if_icmp .ge 66, 3) := by decide +kernel
theorem dX5_weighedKnowers_14 : decode cX5_weighedKnowers 14 = .ok (.iload 7, 2) := by decide +kernel
theorem dX5_weighedKnowers_16 : decode cX5_weighedKnowers 16 = .ok (.invokestatic 162, 3) := by decide +kernel
theorem dX5_weighedKnowers_19 : decode cX5_weighedKnowers 19 = .ok (.istore 8, 2) := by decide +kernel
theorem dX5_weighedKnowers_21 : decode cX5_weighedKnowers 21 = .ok (.iload_n 1, 1) := by decide +kernel
theorem dX5_weighedKnowers_22 : decode cX5_weighedKnowers 22 = .ok (.iload 8, 2) := by decide +kernel
theorem dX5_weighedKnowers_24 : decode cX5_weighedKnowers 24 = .ok (.invokestatic 203, 3) := by decide +kernel
theorem dX5_weighedKnowers_27 : decode cX5_weighedKnowers 27 = .ok (.bipush 10, 2) := by decide +kernel
theorem dX5_weighedKnowers_29 : decode cX5_weighedKnowers 29 = .ok (.iload_n 1, 1) := by decide +kernel
theorem dX5_weighedKnowers_30 : decode cX5_weighedKnowers 30 = .ok (.isub, 1) := by decide +kernel
theorem dX5_weighedKnowers_31 : decode cX5_weighedKnowers 31 = .ok (.iload_n 3, 1) := by decide +kernel
theorem dX5_weighedKnowers_32 : decode cX5_weighedKnowers 32 = .ok (.iload 8, 2) := by decide +kernel
theorem dX5_weighedKnowers_34 : decode cX5_weighedKnowers 34 = .ok (.isub, 1) := by decide +kernel
theorem dX5_weighedKnowers_35 : decode cX5_weighedKnowers 35 = .ok (.invokestatic 203, 3) := by decide +kernel
theorem dX5_weighedKnowers_38 : decode cX5_weighedKnowers 38 = .ok (.lmul, 1) := by decide +kernel
theorem dX5_weighedKnowers_39 : decode cX5_weighedKnowers 39 = .ok (.lstore 9, 2) := by decide +kernel
theorem dX5_weighedKnowers_41 : decode cX5_weighedKnowers 41 = .ok (.lload 9, 2) := by decide +kernel
theorem dX5_weighedKnowers_43 : decode cX5_weighedKnowers 43 = .ok (.lconst 0, 1) := by decide +kernel
theorem dX5_weighedKnowers_44 : decode cX5_weighedKnowers 44 = .ok (.lcmp, 1) := by decide +kernel
theorem dX5_weighedKnowers_45 : decode cX5_weighedKnowers 45 = .ok (.ifCond .le 26, 3) := by decide +kernel
theorem dX5_weighedKnowers_48 : decode cX5_weighedKnowers 48 = .ok (.lload 5, 2) := by decide +kernel
theorem dX5_weighedKnowers_50 : decode cX5_weighedKnowers 50 = .ok (.lload 9, 2) := by decide +kernel
theorem dX5_weighedKnowers_52 : decode cX5_weighedKnowers 52 = .ok (.aload_n 0, 1) := by decide +kernel
theorem dX5_weighedKnowers_53 : decode cX5_weighedKnowers 53 = .ok (.iload 7, 2) := by decide +kernel
theorem dX5_weighedKnowers_55 : decode cX5_weighedKnowers 55 = .ok (.iload_n 2, 1) := by decide +kernel
theorem dX5_weighedKnowers_56 : decode cX5_weighedKnowers 56 = .ok (.iload_n 3, 1) := by decide +kernel
theorem dX5_weighedKnowers_57 : decode cX5_weighedKnowers 57 = .ok (.invokevirtual 285, 3) := by decide +kernel
theorem dX5_weighedKnowers_60 : decode cX5_weighedKnowers 60 = .ok (.iload 4, 2) := by decide +kernel
theorem dX5_weighedKnowers_62 : decode cX5_weighedKnowers 62 = .ok (.iand, 1) := by decide +kernel
theorem dX5_weighedKnowers_63 : decode cX5_weighedKnowers 63 = .ok (.invokestatic 162, 3) := by decide +kernel
theorem dX5_weighedKnowers_66 : decode cX5_weighedKnowers 66 = .ok (.i2l, 1) := by decide +kernel
theorem dX5_weighedKnowers_67 : decode cX5_weighedKnowers 67 = .ok (.lmul, 1) := by decide +kernel
theorem dX5_weighedKnowers_68 : decode cX5_weighedKnowers 68 = .ok (.ladd, 1) := by decide +kernel
theorem dX5_weighedKnowers_69 : decode cX5_weighedKnowers 69 = .ok (.lstore 5, 2) := by decide +kernel
theorem dX5_weighedKnowers_71 : decode cX5_weighedKnowers 71 = .ok (.iinc 7 1, 3) := by decide +kernel
theorem dX5_weighedKnowers_74 : decode cX5_weighedKnowers 74 = .ok (.goto (-68), 3) := by decide +kernel
theorem dX5_weighedKnowers_77 : decode cX5_weighedKnowers 77 = .ok (.lload 5, 2) := by decide +kernel
theorem dX5_weighedKnowers_79 : decode cX5_weighedKnowers 79 = .ok (.lreturn, 1) := by decide +kernel
abbrev rmX5_weighedKnowers : Room := { frames := 5, cells := 0, slots := 0, locals := 129 }
def opX5_weighedKnowers (po : Int64 → px_St → Prop) : List (Nat × px_Op) := [
  (0, px_push 1 (.long 0)),
  (1, px_ls 3 5),
  (3, px_push 4 (.int 0)),
  (4, px_is 6 7),
  (6, px_il 8 7),
  (8, px_push 9 (.int 1)),
  (9, px_il 10 3),
  (10, px_bin 11 (fun x y => x <<< (y &&& 31))),
  (11, px_ic 14 77 (fun x y => y ≤ x)),
  (14, px_il 16 7),
  (16, px_callS 19 1 px_vI prJ6_bitCount_0f7a4 poJ6_bitCount_0f7a4),
  (19, px_is 21 8),
  (21, px_il 22 1),
  (22, px_il 24 8),
  (24, px_callS 27 2 px_vL prX5_powerOf poX5_powerOf),
  (27, px_push 29 (.int 10)),
  (29, px_il 30 1),
  (30, px_bin 31 (fun x y => x - y)),
  (31, px_il 32 3),
  (32, px_il 34 8),
  (34, px_bin 35 (fun x y => x - y)),
  (35, px_callS 38 2 px_vL prX5_powerOf poX5_powerOf),
  (38, px_binL 39 (fun x y => x * y)),
  (39, px_ls 41 9),
  (41, px_ll 43 9),
  (43, px_push 44 (.long 0)),
  (44, px_lcmp 45),
  (45, px_if 48 71 (fun x => x ≤ 0)),
  (48, px_ll 50 5),
  (50, px_ll 52 9),
  (52, px_al 53 0),
  (53, px_il 55 7),
  (55, px_il 56 2),
  (56, px_il 57 3),
  (57, px_callV dC 60 5 3 px_vI prX5_knowersBehind poX5_knowersBehind),
  (60, px_il 62 4),
  (62, px_bin 63 (fun x y => x &&& y)),
  (63, px_callS 66 1 px_vI prJ6_bitCount_0f7a4 poJ6_bitCount_0f7a4),
  (66, px_i2l 67),
  (67, px_binL 68 (fun x y => x * y)),
  (68, px_binL 69 (fun x y => x + y)),
  (69, px_ls 71 5),
  (71, px_inc 74 7 1),
  (74, px_go 6),
  (77, px_ll 79 5),
  (79, px_lret po)]
set_option maxRecDepth 100000 in
set_option maxHeartbeats 4000000 in
theorem okX5_weighedKnowers : ∀ (po : Int64 → px_St → Prop) (i pc : Nat) (op : px_Op), (opX5_weighedKnowers po)[i]? = some (pc, op) → px_Snd (cX5_weighedKnowers, 11, RX5, Cond.code yX5_weighedKnowers cX5_weighedKnowers 11 (some .long) :: wdC, (some .long), rmX5_weighedKnowers, dC) px_vL po pc op := by
  intro po
  unfold opX5_weighedKnowers
  refine px_ok_cons (ps_lconst dX5_weighedKnowers_0 (by decide)) ?_
  refine px_ok_cons (ps_lstore dX5_weighedKnowers_1 (by decide)) ?_
  refine px_ok_cons (ps_iconst dX5_weighedKnowers_3 (by decide)) ?_
  refine px_ok_cons (ps_istore dX5_weighedKnowers_4 (by decide)) ?_
  refine px_ok_cons (ps_iload dX5_weighedKnowers_6) ?_
  refine px_ok_cons (ps_iconst dX5_weighedKnowers_8 (by decide)) ?_
  refine px_ok_cons (ps_iload_n dX5_weighedKnowers_9 rfl) ?_
  refine px_ok_cons (ps_ishl dX5_weighedKnowers_10) ?_
  refine px_ok_cons (ps_icmp_ge dX5_weighedKnowers_11 (by decide)) ?_
  refine px_ok_cons (ps_iload dX5_weighedKnowers_14) ?_
  refine px_ok_cons (ps_callS mJ6_bitCount_0f7a4 (fun _ _ => rfl) (fun _ _ ht => px_cwS wgC (wdC_7_in _ (List.mem_of_getElem? (i := 35) rfl)) (wdC_7_in _ (List.mem_of_getElem? (i := 36) rfl)) (wdC_7_in _ (List.mem_of_getElem? (i := 37) rfl)) (wdC_7_in _ (List.mem_of_getElem? (i := 26) rfl)) (by decide +kernel) rfl rfl (by decide) ht) dX5_weighedKnowers_16) ?_
  refine px_ok_cons (ps_istore dX5_weighedKnowers_19 (by decide)) ?_
  refine px_ok_cons (ps_iload_n dX5_weighedKnowers_21 rfl) ?_
  refine px_ok_cons (ps_iload dX5_weighedKnowers_22) ?_
  refine px_ok_cons (ps_callS mX5_powerOf (fun _ _ => rfl) (fun _ _ ht => px_cwS wgC (wdC_8_in _ (List.mem_of_getElem? (i := 34) rfl)) (wdC_8_in _ (List.mem_of_getElem? (i := 35) rfl)) (wdC_4_in _ (List.mem_of_getElem? (i := 23) rfl)) (wdC_8_in _ (List.mem_of_getElem? (i := 32) rfl)) (by decide +kernel) rfl rfl (by decide) ht) dX5_weighedKnowers_24) ?_
  refine px_ok_cons (ps_bipush dX5_weighedKnowers_27 (by decide)) ?_
  refine px_ok_cons (ps_iload_n dX5_weighedKnowers_29 rfl) ?_
  refine px_ok_cons (ps_isub dX5_weighedKnowers_30) ?_
  refine px_ok_cons (ps_iload_n dX5_weighedKnowers_31 rfl) ?_
  refine px_ok_cons (ps_iload dX5_weighedKnowers_32) ?_
  refine px_ok_cons (ps_isub dX5_weighedKnowers_34) ?_
  refine px_ok_cons (ps_callS mX5_powerOf (fun _ _ => rfl) (fun _ _ ht => px_cwS wgC (wdC_8_in _ (List.mem_of_getElem? (i := 34) rfl)) (wdC_8_in _ (List.mem_of_getElem? (i := 35) rfl)) (wdC_4_in _ (List.mem_of_getElem? (i := 23) rfl)) (wdC_8_in _ (List.mem_of_getElem? (i := 32) rfl)) (by decide +kernel) rfl rfl (by decide) ht) dX5_weighedKnowers_35) ?_
  refine px_ok_cons (ps_lmul dX5_weighedKnowers_38) ?_
  refine px_ok_cons (ps_lstore dX5_weighedKnowers_39 (by decide)) ?_
  refine px_ok_cons (ps_lload dX5_weighedKnowers_41) ?_
  refine px_ok_cons (ps_lconst dX5_weighedKnowers_43 (by decide)) ?_
  refine px_ok_cons (ps_lcmp dX5_weighedKnowers_44) ?_
  refine px_ok_cons (ps_if_le dX5_weighedKnowers_45 (by decide)) ?_
  refine px_ok_cons (ps_lload dX5_weighedKnowers_48) ?_
  refine px_ok_cons (ps_lload dX5_weighedKnowers_50) ?_
  refine px_ok_cons (ps_aload_n dX5_weighedKnowers_52 rfl) ?_
  refine px_ok_cons (ps_iload dX5_weighedKnowers_53) ?_
  refine px_ok_cons (ps_iload_n dX5_weighedKnowers_55 rfl) ?_
  refine px_ok_cons (ps_iload_n dX5_weighedKnowers_56 rfl) ?_
  refine px_ok_cons (ps_callV mX5_knowersBehind (fun _ _ => rfl) (C := RX5) rfl (fun _ _ ht => px_cwV wgC (wdC_8_in _ (List.mem_of_getElem? (i := 36) rfl)) (wdC_8_in _ (List.mem_of_getElem? (i := 37) rfl)) (wdC_8_in _ (List.mem_of_getElem? (i := 38) rfl)) (wdC_4_in _ (List.mem_of_getElem? (i := 23) rfl)) (wdC_8_in _ (List.mem_of_getElem? (i := 33) rfl)) (by decide +kernel) rfl rfl (by decide) ht) dX5_weighedKnowers_57) ?_
  refine px_ok_cons (ps_iload dX5_weighedKnowers_60) ?_
  refine px_ok_cons (ps_iand dX5_weighedKnowers_62) ?_
  refine px_ok_cons (ps_callS mJ6_bitCount_0f7a4 (fun _ _ => rfl) (fun _ _ ht => px_cwS wgC (wdC_7_in _ (List.mem_of_getElem? (i := 35) rfl)) (wdC_7_in _ (List.mem_of_getElem? (i := 36) rfl)) (wdC_7_in _ (List.mem_of_getElem? (i := 37) rfl)) (wdC_7_in _ (List.mem_of_getElem? (i := 26) rfl)) (by decide +kernel) rfl rfl (by decide) ht) dX5_weighedKnowers_63) ?_
  refine px_ok_cons (ps_i2l dX5_weighedKnowers_66) ?_
  refine px_ok_cons (ps_lmul dX5_weighedKnowers_67) ?_
  refine px_ok_cons (ps_ladd dX5_weighedKnowers_68) ?_
  refine px_ok_cons (ps_lstore dX5_weighedKnowers_69 (by decide)) ?_
  refine px_ok_cons (ps_iinc dX5_weighedKnowers_71 (by decide) (by decide)) ?_
  refine px_ok_cons (ps_goto dX5_weighedKnowers_74 (by decide)) ?_
  refine px_ok_cons (ps_lload dX5_weighedKnowers_77) ?_
  refine px_ok_cons (ps_lreturn rfl dX5_weighedKnowers_79) ?_
  exact px_ok_nil
set_option maxRecDepth 100000 in
set_option maxHeartbeats 4000000 in
theorem sgX5_weighedKnowers_0 {po : Int64 → px_St → Prop} {G : px_K} (hG : px_cl (opX5_weighedKnowers po) G) (v1 : Int32) (v2 : Int32) (v3 : Int32) (v4 : Int32) (σ : px_St)
    (H : G 6 [some (.ref 0), some (.int v1), some (.int v2), some (.int v3), some (.int v4), some (.long (0 : Int64)), none, some (.int (0 : Int32)), none, none, none] [] σ) :
    G 0 (px_ent 11 [.ref 0, .int v1, .int v2, .int v3, .int v4]) [] σ := by
  refine hG.1 0 _ _ rfl _ _ _ ?_
  refine hG.1 1 _ _ rfl _ _ _ ?_
  show G 3 [some (.ref 0), some (.int v1), some (.int v2), some (.int v3), some (.int v4), some (.long (0 : Int64)), none, none, none, none, none] [] σ
  refine hG.1 2 _ _ rfl _ _ _ ?_
  refine hG.1 3 _ _ rfl _ _ _ ?_
  show G 6 [some (.ref 0), some (.int v1), some (.int v2), some (.int v3), some (.int v4), some (.long (0 : Int64)), none, some (.int (0 : Int32)), none, none, none] [] σ
  exact H
set_option maxRecDepth 100000 in
set_option maxHeartbeats 4000000 in
theorem sgX5_weighedKnowers_6 {po : Int64 → px_St → Prop} {G : px_K} (hG : px_cl (opX5_weighedKnowers po) G) (v1 : Int32) (v2 : Int32) (v3 : Int32) (v4 : Int32) (v5 : Int64) (v7 : Int32) (σ : px_St)
    (H : ((((1 : Int32) <<< (v3 &&& 31)) ≤ v7) → po v5 σ) ∧ (¬ (((1 : Int32) <<< (v3 &&& 31)) ≤ v7) → ∃ g3 : gtJ6_bitCount_0f7a4, qrJ6_bitCount_0f7a4 g3 v7 σ ∧ ∀ (r1 : Int32) (σ2 : px_St), qoJ6_bitCount_0f7a4 g3 v7 σ r1 σ2 → ∃ g7 : gtX5_powerOf, qrX5_powerOf g7 v1 r1 σ2 ∧ ∀ (r5 : Int64) (σ6 : px_St), qoX5_powerOf g7 v1 r1 σ2 r5 σ6 → ∃ g11 : gtX5_powerOf, qrX5_powerOf g11 ((10 : Int32) - v1) (v3 - r1) σ6 ∧ ∀ (r9 : Int64) (σ10 : px_St), qoX5_powerOf g11 ((10 : Int32) - v1) (v3 - r1) σ6 r9 σ10 → (((lg_cmp (r5 * r9) (0 : Int64)) ≤ 0) → G 6 [some (.ref 0), some (.int v1), some (.int v2), some (.int v3), some (.int v4), some (.long v5), none, some (.int (v7 + 1)), none, none, none] [] σ10) ∧ (¬ ((lg_cmp (r5 * r9) (0 : Int64)) ≤ 0) → ∃ g15 : gtX5_knowersBehind, qrX5_knowersBehind g15 v7 v2 v3 σ10 ∧ ∀ (r13 : Int32) (σ14 : px_St), qoX5_knowersBehind g15 v7 v2 v3 σ10 r13 σ14 → ∃ g19 : gtJ6_bitCount_0f7a4, qrJ6_bitCount_0f7a4 g19 (r13 &&& v4) σ14 ∧ ∀ (r17 : Int32) (σ18 : px_St), qoJ6_bitCount_0f7a4 g19 (r13 &&& v4) σ14 r17 σ18 → G 6 [some (.ref 0), some (.int v1), some (.int v2), some (.int v3), some (.int v4), some (.long (v5 + ((r5 * r9) * r17.toInt64))), none, some (.int (v7 + 1)), none, none, none] [] σ18))) :
    G 6 [some (.ref 0), some (.int v1), some (.int v2), some (.int v3), some (.int v4), some (.long v5), none, some (.int v7), none, none, none] [] σ := by
  refine hG.1 4 _ _ rfl _ _ _ ?_
  refine hG.1 5 _ _ rfl _ _ _ ?_
  refine hG.1 6 _ _ rfl _ _ _ ?_
  refine hG.1 7 _ _ rfl _ _ _ ?_
  refine hG.1 8 _ _ rfl _ _ _ ?_
  refine ⟨fun h22 => ?_, fun h22 => ?_⟩
  · replace H := H.1 h22
    refine hG.1 44 _ _ rfl _ _ _ ?_
    refine hG.1 45 _ _ rfl _ _ _ ?_
    exact H
  · replace H := H.2 h22
    refine hG.1 9 _ _ rfl _ _ _ ?_
    refine hG.1 10 _ _ rfl _ _ _ ?_
    obtain ⟨g3, H⟩ := H
    refine ⟨Nat.le_of_ble_eq_true rfl, Nat.le_of_ble_eq_true rfl, g3, ⟨_, rfl, H.1⟩, fun r1 σ2 hp4 => ?_⟩
    replace H := H.2 r1 σ2 hp4
    refine hG.1 11 _ _ rfl _ _ _ ?_
    show G 21 [some (.ref 0), some (.int v1), some (.int v2), some (.int v3), some (.int v4), some (.long v5), none, some (.int v7), some (.int r1), none, none] [] σ2
    refine hG.1 12 _ _ rfl _ _ _ ?_
    refine hG.1 13 _ _ rfl _ _ _ ?_
    refine hG.1 14 _ _ rfl _ _ _ ?_
    obtain ⟨g7, H⟩ := H
    refine ⟨Nat.le_of_ble_eq_true rfl, Nat.le_of_ble_eq_true rfl, g7, ⟨_, _, rfl, H.1⟩, fun r5 σ6 hp8 => ?_⟩
    replace H := H.2 r5 σ6 hp8
    refine hG.1 15 _ _ rfl _ _ _ ?_
    refine hG.1 16 _ _ rfl _ _ _ ?_
    refine hG.1 17 _ _ rfl _ _ _ ?_
    refine hG.1 18 _ _ rfl _ _ _ ?_
    refine hG.1 19 _ _ rfl _ _ _ ?_
    refine hG.1 20 _ _ rfl _ _ _ ?_
    refine hG.1 21 _ _ rfl _ _ _ ?_
    obtain ⟨g11, H⟩ := H
    refine ⟨Nat.le_of_ble_eq_true rfl, Nat.le_of_ble_eq_true rfl, g11, ⟨_, _, rfl, H.1⟩, fun r9 σ10 hp12 => ?_⟩
    replace H := H.2 r9 σ10 hp12
    refine hG.1 22 _ _ rfl _ _ _ ?_
    refine hG.1 23 _ _ rfl _ _ _ ?_
    show G 41 [some (.ref 0), some (.int v1), some (.int v2), some (.int v3), some (.int v4), some (.long v5), none, some (.int v7), some (.int r1), some (.long (r5 * r9)), none] [] σ10
    refine hG.1 24 _ _ rfl _ _ _ ?_
    refine hG.1 25 _ _ rfl _ _ _ ?_
    refine hG.1 26 _ _ rfl _ _ _ ?_
    refine hG.1 27 _ _ rfl _ _ _ ?_
    refine ⟨fun h21 => ?_, fun h21 => ?_⟩
    · replace H := H.1 h21
      refine hG.1 42 _ _ rfl _ _ _ ?_
      show G 74 [some (.ref 0), some (.int v1), some (.int v2), some (.int v3), some (.int v4), some (.long v5), none, some (.int (v7 + 1)), some (.int r1), some (.long (r5 * r9)), none] [] σ10
      refine hG.1 43 _ _ rfl _ _ _ ?_
      refine hG.2 6 [some (.ref 0), some (.int v1), some (.int v2), some (.int v3), some (.int v4), some (.long v5), none, some (.int (v7 + 1)), none, none, none] _ _ _ ⟨rfl, rfl, rfl, rfl, rfl, rfl, rfl, trivial⟩ ?_
      exact H
    · replace H := H.2 h21
      refine hG.1 28 _ _ rfl _ _ _ ?_
      refine hG.1 29 _ _ rfl _ _ _ ?_
      refine hG.1 30 _ _ rfl _ _ _ ?_
      refine hG.1 31 _ _ rfl _ _ _ ?_
      refine hG.1 32 _ _ rfl _ _ _ ?_
      refine hG.1 33 _ _ rfl _ _ _ ?_
      refine hG.1 34 _ _ rfl _ _ _ ?_
      obtain ⟨g15, H⟩ := H
      refine ⟨⟨rfl, by decide⟩, Nat.le_of_ble_eq_true rfl, g15, ⟨_, _, _, rfl, H.1⟩, fun r13 σ14 hp16 => ?_⟩
      replace H := H.2 r13 σ14 hp16
      refine hG.1 35 _ _ rfl _ _ _ ?_
      refine hG.1 36 _ _ rfl _ _ _ ?_
      refine hG.1 37 _ _ rfl _ _ _ ?_
      obtain ⟨g19, H⟩ := H
      refine ⟨Nat.le_of_ble_eq_true rfl, Nat.le_of_ble_eq_true rfl, g19, ⟨_, rfl, H.1⟩, fun r17 σ18 hp20 => ?_⟩
      replace H := H.2 r17 σ18 hp20
      refine hG.1 38 _ _ rfl _ _ _ ?_
      refine hG.1 39 _ _ rfl _ _ _ ?_
      refine hG.1 40 _ _ rfl _ _ _ ?_
      refine hG.1 41 _ _ rfl _ _ _ ?_
      show G 71 [some (.ref 0), some (.int v1), some (.int v2), some (.int v3), some (.int v4), some (.long (v5 + ((r5 * r9) * r17.toInt64))), none, some (.int v7), some (.int r1), some (.long (r5 * r9)), none] [] σ18
      refine hG.1 42 _ _ rfl _ _ _ ?_
      show G 74 [some (.ref 0), some (.int v1), some (.int v2), some (.int v3), some (.int v4), some (.long (v5 + ((r5 * r9) * r17.toInt64))), none, some (.int (v7 + 1)), some (.int r1), some (.long (r5 * r9)), none] [] σ18
      refine hG.1 43 _ _ rfl _ _ _ ?_
      refine hG.2 6 [some (.ref 0), some (.int v1), some (.int v2), some (.int v3), some (.int v4), some (.long (v5 + ((r5 * r9) * r17.toInt64))), none, some (.int (v7 + 1)), none, none, none] _ _ _ ⟨rfl, rfl, rfl, rfl, rfl, rfl, rfl, trivial⟩ ?_
      exact H
set_option maxRecDepth 100000 in
set_option maxHeartbeats 4000000 in
theorem hhX5_weighedKnowers (g : gtX5_weighedKnowers) (v1 : Int32) (v2 : Int32) (v3 : Int32) (v4 : Int32) (σ : px_St) (h : qrX5_weighedKnowers g v1 v2 v3 v4 σ) (G : px_K) (hG : px_cl (opX5_weighedKnowers (qoX5_weighedKnowers g v1 v2 v3 v4 σ)) G) : G 0 (px_ent 11 [.ref 0, .int v1, .int v2, .int v3, .int v4]) [] σ := by
  obtain ⟨V, v, s, n, am⟩ := g
  obtain ⟨hV, hok, hd, hv, hs, hn, ham, rfl, rfl, rfl, rfl⟩ := h
  have h5 := hok.1.1
  have hpn : 2 ^ n ≤ 2 ^ 8 := Nat.pow_le_pow_right (by omega) hn
  refine sgX5_weighedKnowers_0 hG _ _ _ _ σ ?_
  have loop : ∀ m c, c + m = 2 ^ n → ∀ σ', px_only 18 σ σ' → G 6 [some (.ref 0), some (.int (nI v)), some (.int (nI s)), some (.int (nI n)), some (.int (nI am)), some (.long (lN (pv_ws V v s n am c))), none, some (.int (nI c)), none, none, none] [] σ' := by
    intro m
    induction m with
    | zero =>
      intro c hc σ' ho
      have e : c = 2 ^ n := by omega
      refine sgX5_weighedKnowers_6 hG _ _ _ _ _ _ σ' ?_
      rw [sh1 n (by omega)]
      exact ⟨fun _ => ⟨by rw [e], ho⟩, fun z => absurd (nI_le (by omega) (by omega)) z⟩
    | succ m ih =>
      intro c hc σ' ho
      have hc2 : c < 2 ^ n := by omega
      have hV' : av_is σ' 8 V := hV.only (Or.inr (Or.inr (Or.inl rfl))) (Or.inl rfl) (by omega) ho
      have hpc : pv_pc c 10 = pv_pc c n := by
        have := pv_pc_up hc2 (10 - n)
        rw [show n + (10 - n) = 10 by omega] at this
        exact this
      have hple := pv_pc_le c n
      have hwle := pv_wt_le hv c n
      have h10 : 10 ^ n ≤ 10 ^ 8 := Nat.pow_le_pow_right (by omega) hn
      refine sgX5_weighedKnowers_6 hG _ _ _ _ _ _ σ' ?_
      rw [sh1 n (by omega), nI_1]
      refine ⟨fun z => absurd z (nI_ge (by omega) (by omega)), fun _ => ⟨c, ⟨by omega, rfl⟩, fun r1 σ1 h1 => ?_⟩⟩
      obtain ⟨rfl, rfl⟩ := h1
      rw [hpc, pk_sub hple, show (10 : Int32) - nI v = nI (10 - v) from pk_sub hv]
      refine ⟨(v, pv_pc c n), ⟨hv, by omega, rfl, rfl⟩, fun r2 σ2 h2 => ?_⟩
      obtain ⟨rfl, rfl⟩ := h2
      refine ⟨(10 - v, n - pv_pc c n), ⟨by omega, by omega, rfl, rfl⟩, fun r3 σ3 h3 => ?_⟩
      obtain ⟨rfl, rfl⟩ := h3
      rw [lN_mul, pv_wt_eq, lgc_le (by omega)]
      have e := ih (c + 1) (by omega)
      rw [pv_ws] at e
      refine ⟨fun hz => ?_, fun hz => ⟨(V, c, s, n), ⟨hV', hok, hd, by omega, hs, hn, rfl, rfl, rfl⟩, fun r4 σ4 h4 => ?_⟩⟩
      · rw [hz, Nat.zero_mul, Nat.add_zero] at e
        exact e _ ho
      · obtain ⟨rfl, h4o⟩ := h4
        have hkl := pv_kn_lt (pv_cl V c n) s V.1
        have hk5 : 2 ^ V.1 ≤ 2 ^ 5 := Nat.pow_le_pow_right (by omega) h5
        obtain ⟨ea, eb⟩ := and5 (pv_kn (pv_cl V c n) s V.1) (by omega) am ham
        rw [pv_kn_eq _ _ _ h5, ea]
        refine ⟨_, ⟨by omega, rfl⟩, fun r5 σ5 h5' => ?_⟩
        obtain ⟨rfl, rfl⟩ := h5'
        have hp10 := pv_pc_le (pv_kn (pv_cl V c n) s V.1 &&& am) 10
        rw [nI_l (by omega), lN_mul, lN_add]
        exact e _ (ho.tr h4o)
  exact loop (2 ^ n) 0 (by omega) σ px_only.rf
theorem mX5_weighedKnowers (g : gtX5_weighedKnowers) : px_Met dC yX5_weighedKnowers (Cond.code yX5_weighedKnowers cX5_weighedKnowers 11 (some .long) :: wdC) rmX5_weighedKnowers px_vL (prX5_weighedKnowers g) (poX5_weighedKnowers g) :=
  px_met (Z := (cX5_weighedKnowers, 11, RX5, Cond.code yX5_weighedKnowers cX5_weighedKnowers 11 (some .long) :: wdC, (some .long), rmX5_weighedKnowers, dC)) opX5_weighedKnowers (by decide) rfl rfl okX5_weighedKnowers (fun As σ h => by obtain ⟨v1, v2, v3, v4, rfl, h⟩ := h; exact Nat.le_of_ble_eq_true rfl) (fun As σ h G hG => by obtain ⟨v1, v2, v3, v4, rfl, h⟩ := h; exact hhX5_weighedKnowers g v1 v2 v3 v4 σ h G hG)
