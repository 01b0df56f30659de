/-- the memory row is f, all else is as it was -/
def av_in (a : Nat) (σ σ' : px_St) (f : Nat → Int32) : Prop := (∀ k, k ≠ a + 4 → σ'.1 k = σ.1 k) ∧ σ'.2 = σ.2 ∧ ∀ j, σ'.1 (a + 4) j = f j
theorem av_in.rf {a : Nat} {σ : px_St} : av_in a σ σ (σ.1 (a + 4)) := ⟨fun _ _ => rfl, rfl, fun _ => rfl⟩
theorem av_in.cg {a : Nat} {σ σ' : px_St} {f f' : Nat → Int32} (h : av_in a σ σ' f) (e : ∀ j, f j = f' j) : av_in a σ σ' f' := ⟨h.1, h.2.1, fun j => (h.2.2 j).trans (e j)⟩
theorem av_in.up {a : Nat} {σ σ' : px_St} {f : Nat → Int32} (h : av_in a σ σ' f) (j : Nat) (x : Int32) : av_in a σ (px_up σ' (a + 4) j x) (fun i => if i = j then x else f i) := by
  refine ⟨fun k hk => by rw [px_up_n hk]; exact h.1 k hk, h.2.1, fun i => ?_⟩
  rw [px_up_at]
  by_cases hi : i = j
  · rw [if_pos ⟨rfl, hi⟩]; exact (if_pos hi).symm
  · rw [if_neg (fun z => hi z.2)]; exact (h.2.2 i).trans (if_neg hi).symm
theorem av_in.onlyP {a p : Nat} {σ σ' : px_St} {f : Nat → Int32} (h : av_in a σ σ' f) (hf : ∀ j, j < 6 * p ∨ 6 * p + 6 ≤ j → f j = σ.1 (a + 4) j) : px_onlyP a p σ σ' :=
  ⟨fun k hk => h.1 k (by omega), h.2.1, fun t h1 h2 j hj => by rw [h.1 _ (by omega)], fun j hj => (h.2.2 j).trans (hf j hj)⟩
theorem ni_min5 {n : Nat} (h : n ≤ 6) : (if (5 : Int32) < nI n then 5 else nI n) = nI (min n 5) := by
  have e : (5 : Int32) < nI n ↔ 5 < n := nIlt 5 n rfl rfl (by omega) (by omega)
  by_cases h5 : 5 < n
  · rw [if_pos (e.mpr h5), show min n 5 = 5 by omega]; rfl
  · rw [if_neg (fun z => h5 (e.mp z)), show min n 5 = n by omega]
abbrev gtX0_putAhead : Type := pv_V × Nat × Nat
def qrX0_putAhead : gtX0_putAhead → Nat → Int32 → Int32 → px_St → Prop
  | (V, p, s), a, v1, v2, σ => av_is σ a V ∧ pv_w V ∧ p < V.1 ∧ s ≤ 9 ∧ v1 = nI p ∧ v2 = nI s
def qoX0_putAhead : gtX0_putAhead → Nat → Int32 → Int32 → px_St → Unit → px_St → Prop
  | (V, p, s), a, _, _, σ, _, σ' => av_is σ' a (pv_at V p ((V.2.2.2 p).1, (V.2.2.2 p).2.1, pv_ahead (V.2.2.2 p).2.2 s)) ∧ px_only a σ σ'
def prX0_putAhead (g : gtX0_putAhead) : List Value → px_St → Prop := fun As σ => ∃ v0 : Nat, ∃ v1 : Int32, ∃ v2 : Int32, As = [.ref v0, .int v1, .int v2] ∧ px_av v0 ∧ qrX0_putAhead g v0 v1 v2 σ
def poX0_putAhead (g : gtX0_putAhead) : List Value → px_St → Unit → px_St → Prop
  | [.ref v0, .int v1, .int v2], σ, r, σ' => qoX0_putAhead g v0 v1 v2 σ r σ'
  | _, _, _, _ => False
theorem dX0_putAhead_0 : decode cX0_putAhead 0 = .ok (.aload_n 0, 1) := by decide +kernel
theorem dX0_putAhead_1 : decode cX0_putAhead 1 = .ok (.getfield 19, 3) := by decide +kernel
theorem dX0_putAhead_4 : decode cX0_putAhead 4 = .ok (.iload_n 1, 1) := by decide +kernel
theorem dX0_putAhead_5 : decode cX0_putAhead 5 = .ok (.iaload, 1) := by decide +kernel
theorem dX0_putAhead_6 : decode cX0_putAhead 6 = .ok (.iconst 5, 1) := by decide +kernel
theorem dX0_putAhead_7 : decode cX0_putAhead 7 = .ok (.invokestatic 59, 3) := by decide +kernel
theorem dX0_putAhead_10 : decode cX0_putAhead 10 = .ok (.istore_n 3, 1) := by decide +kernel
theorem dX0_putAhead_11 : decode cX0_putAhead 11 = .ok (.iload_n 1, 1) := by decide +kernel
theorem dX0_putAhead_12 : decode cX0_putAhead 12 = .ok (.bipush 6, 2) := by decide +kernel
theorem dX0_putAhead_14 : decode cX0_putAhead 14 = .ok (.imul, 1) := by decide +kernel
theorem dX0_putAhead_15 : decode cX0_putAhead 15 = .ok (.istore 4, 2) := by decide +kernel
theorem dX0_putAhead_17 : decode cX0_putAhead 17 = .ok (.iload_n 3, 1) := by decide +kernel
theorem dX0_putAhead_18 : decode cX0_putAhead 18 = .ok (.istore 5, 2) := by decide +kernel
theorem dX0_putAhead_20 : decode cX0_putAhead 20 = .ok (.iload 5, 2) := by decide +kernel
theorem dX0_putAhead_22 : decode cX0_putAhead 22 = .ok (.ifCond .le 31, 3) := by decide +kernel
theorem dX0_putAhead_25 : decode cX0_putAhead 25 = .ok (.aload_n 0, 1) := by decide +kernel
theorem dX0_putAhead_26 : decode cX0_putAhead 26 = .ok (.getfield 25, 3) := by decide +kernel
theorem dX0_putAhead_29 : decode cX0_putAhead 29 = .ok (.iload 4, 2) := by decide +kernel
theorem dX0_putAhead_31 : decode cX0_putAhead 31 = .ok (.iload 5, 2) := by decide +kernel
theorem dX0_putAhead_33 : decode cX0_putAhead 33 = .ok (.iadd, 1) := by decide +kernel
theorem dX0_putAhead_34 : decode cX0_putAhead 34 = .ok (.aload_n 0, 1) := by decide +kernel
theorem dX0_putAhead_35 : decode cX0_putAhead 35 = .ok (.getfield 25, 3) := by decide +kernel
theorem dX0_putAhead_38 : decode cX0_putAhead 38 = .ok (.iload 4, 2) := by decide +kernel
theorem dX0_putAhead_40 : decode cX0_putAhead 40 = .ok (.iload 5, 2) := by decide +kernel
theorem dX0_putAhead_42 : decode cX0_putAhead 42 = .ok (.iadd, 1) := by decide +kernel
theorem dX0_putAhead_43 : decode cX0_putAhead 43 = .ok (.iconst 1, 1) := by decide +kernel
theorem dX0_putAhead_44 : decode cX0_putAhead 44 = .ok (.isub, 1) := by decide +kernel
theorem dX0_putAhead_45 : decode cX0_putAhead 45 = .ok (.iaload, 1) := by decide +kernel
theorem dX0_putAhead_46 : decode cX0_putAhead 46 = .ok (.iastore, 1) := by decide +kernel
theorem dX0_putAhead_47 : decode cX0_putAhead 47 = .ok (.iinc 5 (-1), 3) := by decide +kernel
theorem dX0_putAhead_50 : decode cX0_putAhead 50 = .ok (.goto (-30), 3) := by decide +kernel
theorem dX0_putAhead_53 : decode cX0_putAhead 53 = .ok (.aload_n 0, 1) := by decide +kernel
theorem dX0_putAhead_54 : decode cX0_putAhead 54 = .ok (.getfield 25, 3) := by decide +kernel
theorem dX0_putAhead_57 : decode cX0_putAhead 57 = .ok (.iload 4, 2) := by decide +kernel
theorem dX0_putAhead_59 : decode cX0_putAhead 59 = .ok (.iload_n 2, 1) := by decide +kernel
theorem dX0_putAhead_60 : decode cX0_putAhead 60 = .ok (.iastore, 1) := by decide +kernel
theorem dX0_putAhead_61 : decode cX0_putAhead 61 = .ok (.aload_n 0, 1) := by decide +kernel
theorem dX0_putAhead_62 : decode cX0_putAhead 62 = .ok (.getfield 19, 3) := by decide +kernel
theorem dX0_putAhead_65 : decode cX0_putAhead 65 = .ok (.iload_n 1, 1) := by decide +kernel
theorem dX0_putAhead_66 : decode cX0_putAhead 66 = .ok (.iload_n 3, 1) := by decide +kernel
theorem dX0_putAhead_67 : decode cX0_putAhead 67 = .ok (.iconst 1, 1) := by decide +kernel
theorem dX0_putAhead_68 : decode cX0_putAhead 68 = .ok (.iadd, 1) := by decide +kernel
theorem dX0_putAhead_69 : decode cX0_putAhead 69 = .ok (.iastore, 1) := by decide +kernel
theorem dX0_putAhead_70 : decode cX0_putAhead 70 = .ok (.return_, 1) := by decide +kernel
abbrev rmX0_putAhead : Room := { frames := 1, cells := 0, slots := 0, locals := 21 }
def opX0_putAhead (po : Unit → px_St → Prop) : List (Nat × px_Op) := [
  (0, px_al 1 0),
  (1, px_get dC 4 0 4),
  (4, px_il 5 1),
  (5, px_ald dC 6 0),
  (6, px_push 7 (.int 5)),
  (7, px_mm 10 (fun x y => if y < x then y else x)),
  (10, px_is 11 3),
  (11, px_il 12 1),
  (12, px_push 14 (.int 6)),
  (14, px_bin 15 (fun x y => x * y)),
  (15, px_is 17 4),
  (17, px_il 18 3),
  (18, px_is 20 5),
  (20, px_il 22 5),
  (22, px_if 25 53 (fun x => x ≤ 0)),
  (25, px_al 26 0),
  (26, px_get dC 29 0 6),
  (29, px_il 31 4),
  (31, px_il 33 5),
  (33, px_bin 34 (fun x y => x + y)),
  (34, px_al 35 0),
  (35, px_get dC 38 0 6),
  (38, px_il 40 4),
  (40, px_il 42 5),
  (42, px_bin 43 (fun x y => x + y)),
  (43, px_push 44 (.int 1)),
  (44, px_bin 45 (fun x y => x - y)),
  (45, px_ald dC 46 0),
  (46, px_ast dC 47 0 (fun x => x)),
  (47, px_inc 50 5 (-1)),
  (50, px_go 20),
  (53, px_al 54 0),
  (54, px_get dC 57 0 6),
  (57, px_il 59 4),
  (59, px_il 60 2),
  (60, px_ast dC 61 0 (fun x => x)),
  (61, px_al 62 0),
  (62, px_get dC 65 0 4),
  (65, px_il 66 1),
  (66, px_il 67 3),
  (67, px_push 68 (.int 1)),
  (68, px_bin 69 (fun x y => x + y)),
  (69, px_ast dC 70 0 (fun x => x)),
  (70, px_vret po)]
set_option maxRecDepth 100000 in
set_option maxHeartbeats 4000000 in
theorem okX0_putAhead : ∀ (po : Unit → px_St → Prop) (i pc : Nat) (op : px_Op), (opX0_putAhead po)[i]? = some (pc, op) → px_Snd (cX0_putAhead, 6, RX0, Cond.code yX0_putAhead cX0_putAhead 6 none :: wdC, none, rmX0_putAhead, dC) px_vV po pc op := by
  intro po
  unfold opX0_putAhead
  refine px_ok_cons (ps_aload_n dX0_putAhead_0 rfl) ?_
  refine px_ok_cons (fgX0_19 dX0_putAhead_1) ?_
  refine px_ok_cons (ps_iload_n dX0_putAhead_4 rfl) ?_
  refine px_ok_cons (ps_iaload dX0_putAhead_5) ?_
  refine px_ok_cons (ps_iconst dX0_putAhead_6 (by decide)) ?_
  refine px_ok_cons (ps_mmin (List.mem_cons_of_mem _ (wdC_0_in _ (List.mem_of_getElem? (i := 37) rfl))) (List.mem_cons_of_mem _ (wdC_0_in _ (List.mem_of_getElem? (i := 38) rfl))) (List.mem_cons_of_mem _ (wdC_0_in _ (List.mem_of_getElem? (i := 39) rfl))) (List.mem_cons_of_mem _ (wdC_1_in _ (List.mem_of_getElem? (i := 0) rfl))) (by decide) dX0_putAhead_7) ?_
  refine px_ok_cons (ps_istore_n dX0_putAhead_10 rfl (by decide)) ?_
  refine px_ok_cons (ps_iload_n dX0_putAhead_11 rfl) ?_
  refine px_ok_cons (ps_bipush dX0_putAhead_12 (by decide)) ?_
  refine px_ok_cons (ps_imul dX0_putAhead_14) ?_
  refine px_ok_cons (ps_istore dX0_putAhead_15 (by decide)) ?_
  refine px_ok_cons (ps_iload_n dX0_putAhead_17 rfl) ?_
  refine px_ok_cons (ps_istore dX0_putAhead_18 (by decide)) ?_
  refine px_ok_cons (ps_iload dX0_putAhead_20) ?_
  refine px_ok_cons (ps_if_le dX0_putAhead_22 (by decide)) ?_
  refine px_ok_cons (ps_aload_n dX0_putAhead_25 rfl) ?_
  refine px_ok_cons (fgX0_25 dX0_putAhead_26) ?_
  refine px_ok_cons (ps_iload dX0_putAhead_29) ?_
  refine px_ok_cons (ps_iload dX0_putAhead_31) ?_
  refine px_ok_cons (ps_iadd dX0_putAhead_33) ?_
  refine px_ok_cons (ps_aload_n dX0_putAhead_34 rfl) ?_
  refine px_ok_cons (fgX0_25 dX0_putAhead_35) ?_
  refine px_ok_cons (ps_iload dX0_putAhead_38) ?_
  refine px_ok_cons (ps_iload dX0_putAhead_40) ?_
  refine px_ok_cons (ps_iadd dX0_putAhead_42) ?_
  refine px_ok_cons (ps_iconst dX0_putAhead_43 (by decide)) ?_
  refine px_ok_cons (ps_isub dX0_putAhead_44) ?_
  refine px_ok_cons (ps_iaload dX0_putAhead_45) ?_
  refine px_ok_cons (ps_iastore dX0_putAhead_46) ?_
  refine px_ok_cons (ps_iinc dX0_putAhead_47 (by decide) (by decide)) ?_
  refine px_ok_cons (ps_goto dX0_putAhead_50 (by decide)) ?_
  refine px_ok_cons (ps_aload_n dX0_putAhead_53 rfl) ?_
  refine px_ok_cons (fgX0_25 dX0_putAhead_54) ?_
  refine px_ok_cons (ps_iload dX0_putAhead_57) ?_
  refine px_ok_cons (ps_iload_n dX0_putAhead_59 rfl) ?_
  refine px_ok_cons (ps_iastore dX0_putAhead_60) ?_
  refine px_ok_cons (ps_aload_n dX0_putAhead_61 rfl) ?_
  refine px_ok_cons (fgX0_19 dX0_putAhead_62) ?_
  refine px_ok_cons (ps_iload_n dX0_putAhead_65 rfl) ?_
  refine px_ok_cons (ps_iload_n dX0_putAhead_66 rfl) ?_
  refine px_ok_cons (ps_iconst dX0_putAhead_67 (by decide)) ?_
  refine px_ok_cons (ps_iadd dX0_putAhead_68) ?_
  refine px_ok_cons (ps_iastore dX0_putAhead_69) ?_
  refine px_ok_cons (ps_return rfl dX0_putAhead_70) ?_
  exact px_ok_nil
set_option maxRecDepth 100000 in
set_option maxHeartbeats 4000000 in
theorem sgX0_putAhead_0 {po : Unit → px_St → Prop} {G : px_K} (hG : px_cl (opX0_putAhead po) G) (v0 : Nat) (hv0 : px_av v0) (v1 : Int32) (v2 : Int32) (σ : px_St)
    (H : vp_in v1 5 ∧ G 20 [some (.ref v0), some (.int v1), some (.int v2), some (.int (if (5 : Int32) < (σ.1 (v0 + 2) v1.toNatClampNeg) then (5 : Int32) else (σ.1 (v0 + 2) v1.toNatClampNeg))), some (.int (v1 * (6 : Int32))), some (.int (if (5 : Int32) < (σ.1 (v0 + 2) v1.toNatClampNeg) then (5 : Int32) else (σ.1 (v0 + 2) v1.toNatClampNeg)))] [] σ) :
    G 0 (px_ent 6 [.ref v0, .int v1, .int v2]) [] σ := by
  refine hG.1 0 _ _ rfl _ _ _ ?_
  refine hG.1 1 _ _ rfl _ _ _ ?_
  refine ⟨(av_s0 hv0), ?_⟩
  refine hG.1 2 _ _ rfl _ _ _ ?_
  refine hG.1 3 _ _ rfl _ _ _ ?_
  refine ⟨(av_s2 hv0), by rw [(av_l2 hv0)]; exact H.1, ?_⟩
  replace H := H.2
  refine hG.1 4 _ _ rfl _ _ _ ?_
  refine hG.1 5 _ _ rfl _ _ _ ?_
  refine ⟨Nat.le_of_ble_eq_true rfl, ?_⟩
  refine hG.1 6 _ _ rfl _ _ _ ?_
  show G 11 [some (.ref v0), some (.int v1), some (.int v2), some (.int (if (5 : Int32) < (σ.1 (v0 + 2) v1.toNatClampNeg) then (5 : Int32) else (σ.1 (v0 + 2) v1.toNatClampNeg))), none, none] [] σ
  refine hG.1 7 _ _ rfl _ _ _ ?_
  refine hG.1 8 _ _ rfl _ _ _ ?_
  refine hG.1 9 _ _ rfl _ _ _ ?_
  refine hG.1 10 _ _ rfl _ _ _ ?_
  show G 17 [some (.ref v0), some (.int v1), some (.int v2), some (.int (if (5 : Int32) < (σ.1 (v0 + 2) v1.toNatClampNeg) then (5 : Int32) else (σ.1 (v0 + 2) v1.toNatClampNeg))), some (.int (v1 * (6 : Int32))), none] [] σ
  refine hG.1 11 _ _ rfl _ _ _ ?_
  refine hG.1 12 _ _ rfl _ _ _ ?_
  show G 20 [some (.ref v0), some (.int v1), some (.int v2), some (.int (if (5 : Int32) < (σ.1 (v0 + 2) v1.toNatClampNeg) then (5 : Int32) else (σ.1 (v0 + 2) v1.toNatClampNeg))), some (.int (v1 * (6 : Int32))), some (.int (if (5 : Int32) < (σ.1 (v0 + 2) v1.toNatClampNeg) then (5 : Int32) else (σ.1 (v0 + 2) v1.toNatClampNeg)))] [] σ
  exact H
set_option maxRecDepth 100000 in
set_option maxHeartbeats 4000000 in
theorem sgX0_putAhead_20 {po : Unit → px_St → Prop} {G : px_K} (hG : px_cl (opX0_putAhead po) G) (v0 : Nat) (hv0 : px_av v0) (v1 : Int32) (v2 : Int32) (v3 : Int32) (v4 : Int32) (v5 : Int32) (σ : px_St)
    (H : ((v5 ≤ 0) → vp_in v4 30 ∧ vp_in v1 5 ∧ po () (px_up (px_up σ (v0 + 4) v4.toNatClampNeg v2) (v0 + 2) v1.toNatClampNeg (v3 + (1 : Int32)))) ∧ (¬ (v5 ≤ 0) → vp_in ((v4 + v5) - (1 : Int32)) 30 ∧ vp_in (v4 + v5) 30 ∧ G 20 [some (.ref v0), some (.int v1), some (.int v2), some (.int v3), some (.int v4), some (.int (v5 + (-1)))] [] (px_up σ (v0 + 4) (v4 + v5).toNatClampNeg (σ.1 (v0 + 4) ((v4 + v5) - (1 : Int32)).toNatClampNeg)))) :
    G 20 [some (.ref v0), some (.int v1), some (.int v2), some (.int v3), some (.int v4), some (.int v5)] [] σ := by
  refine hG.1 13 _ _ rfl _ _ _ ?_
  refine hG.1 14 _ _ rfl _ _ _ ?_
  refine ⟨fun h1 => ?_, fun h1 => ?_⟩
  · replace H := H.1 h1
    refine hG.1 31 _ _ rfl _ _ _ ?_
    refine hG.1 32 _ _ rfl _ _ _ ?_
    refine ⟨(av_s0 hv0), ?_⟩
    refine hG.1 33 _ _ rfl _ _ _ ?_
    refine hG.1 34 _ _ rfl _ _ _ ?_
    refine hG.1 35 _ _ rfl _ _ _ ?_
    refine ⟨(av_s4 hv0), by rw [(av_l4 hv0)]; exact H.1, ?_⟩
    replace H := H.2
    refine hG.1 36 _ _ rfl _ _ _ ?_
    refine hG.1 37 _ _ rfl _ _ _ ?_
    refine ⟨(av_s0 hv0), ?_⟩
    refine hG.1 38 _ _ rfl _ _ _ ?_
    refine hG.1 39 _ _ rfl _ _ _ ?_
    refine hG.1 40 _ _ rfl _ _ _ ?_
    refine hG.1 41 _ _ rfl _ _ _ ?_
    refine hG.1 42 _ _ rfl _ _ _ ?_
    refine ⟨(av_s2 hv0), by rw [(av_l2 hv0)]; exact H.1, ?_⟩
    replace H := H.2
    refine hG.1 43 _ _ rfl _ _ _ ?_
    exact H
  · replace H := H.2 h1
    refine hG.1 15 _ _ rfl _ _ _ ?_
    refine hG.1 16 _ _ rfl _ _ _ ?_
    refine ⟨(av_s0 hv0), ?_⟩
    refine hG.1 17 _ _ rfl _ _ _ ?_
    refine hG.1 18 _ _ rfl _ _ _ ?_
    refine hG.1 19 _ _ rfl _ _ _ ?_
    refine hG.1 20 _ _ rfl _ _ _ ?_
    refine hG.1 21 _ _ rfl _ _ _ ?_
    refine ⟨(av_s0 hv0), ?_⟩
    refine hG.1 22 _ _ rfl _ _ _ ?_
    refine hG.1 23 _ _ rfl _ _ _ ?_
    refine hG.1 24 _ _ rfl _ _ _ ?_
    refine hG.1 25 _ _ rfl _ _ _ ?_
    refine hG.1 26 _ _ rfl _ _ _ ?_
    refine hG.1 27 _ _ rfl _ _ _ ?_
    refine ⟨(av_s4 hv0), by rw [(av_l4 hv0)]; exact H.1, ?_⟩
    replace H := H.2
    refine hG.1 28 _ _ rfl _ _ _ ?_
    refine ⟨(av_s4 hv0), by rw [(av_l4 hv0)]; exact H.1, ?_⟩
    replace H := H.2
    refine hG.1 29 _ _ rfl _ _ _ ?_
    show G 50 [some (.ref v0), some (.int v1), some (.int v2), some (.int v3), some (.int v4), some (.int (v5 + (-1)))] [] (px_up σ (v0 + 4) (v4 + v5).toNatClampNeg (σ.1 (v0 + 4) ((v4 + v5) - (1 : Int32)).toNatClampNeg))
    refine hG.1 30 _ _ rfl _ _ _ ?_
    exact H
set_option maxRecDepth 100000 in
set_option maxHeartbeats 4000000 in
theorem hhX0_putAhead (g : gtX0_putAhead) (v0 : Nat) (hv0 : px_av v0) (v1 : Int32) (v2 : Int32) (σ : px_St) (h : qrX0_putAhead g v0 v1 v2 σ) (G : px_K) (hG : px_cl (opX0_putAhead (qoX0_putAhead g v0 v1 v2 σ)) G) : G 0 (px_ent 6 [.ref v0, .int v1, .int v2]) [] σ := by
  obtain ⟨V, p, s⟩ := g
  obtain ⟨hV, hw, hp, hs, rfl, rfl⟩ := h
  obtain ⟨hk3, hl, hx9⟩ := hw.2.2.2 p hp
  have h5 := hw.1
  obtain ⟨g1, g2, g3, g4⟩ := hV.2 p hp
  have hin : vp_in (nI p) 5 := vp_in_nI (by omega) (by decide)
  refine sgX0_putAhead_0 hG v0 hv0 _ _ σ ?_
  rw [nI_clamp (by omega), g2, ni_min5 hl]
  refine ⟨hin, ?_⟩
  have loop : ∀ i, i ≤ min (V.2.2.2 p).2.2.length 5 → ∀ σ', av_in v0 σ σ' (fun j => if 6 * p + i < j ∧ j ≤ 6 * p + min (V.2.2.2 p).2.2.length 5 then σ.1 (v0 + 4) (j - 1) else σ.1 (v0 + 4) j) →
      G 20 [some (.ref v0), some (.int (nI p)), some (.int (nI s)), some (.int (nI (min (V.2.2.2 p).2.2.length 5))), some (.int (nI p * 6)), some (.int (nI i))] [] σ' := by
    intro i
    induction i with
    | zero =>
      intro _ σ' hI
      refine sgX0_putAhead_20 hG v0 hv0 _ _ _ _ _ σ' ⟨fun _ => ?_, fun z => absurd (by decide) z⟩
      rw [ix60, nI_clamp (by omega), nI_clamp (by omega), nI_1]
      refine ⟨vp_in_nI (by omega) (by decide), hin, ?_⟩
      have ho : px_onlyP v0 p σ (px_up (px_up σ' (v0 + 4) (6 * p) (nI s)) (v0 + 2) p (nI (min (V.2.2.2 p).2.2.length 5 + 1))) :=
        ((hI.onlyP (fun j hj => if_neg (by omega))).tr (px_onlyP.up4 (Nat.le_refl _) (by omega))).tr (px_onlyP.upt (by omega) (by omega))
      refine ⟨av_mod hV (fun q hq => (hw.2.2.2 q hq).2.1) ho ⟨?_, ?_, ?_, fun i x hx => ?_⟩, ho.only⟩
      · rw [px_up_n (by omega), px_up_n (by omega), hI.1 _ (by omega)]; exact g1
      · rw [px_up_at, if_pos ⟨rfl, rfl⟩]
        simp only [pv_ahead, List.length_cons, List.length_take]
        rw [Nat.min_comm]
      · rw [px_up_n (by omega), px_up_n (by omega), hI.1 _ (by omega)]; exact g3
      · rw [px_up_n (by omega), px_up_at]
        simp only [pv_ahead] at hx
        cases i with
        | zero =>
          rw [List.getElem?_cons_zero] at hx
          rw [if_pos ⟨rfl, rfl⟩, Option.some.inj hx]
        | succ i =>
          rw [List.getElem?_cons_succ, List.getElem?_take] at hx
          by_cases hi5 : i < 5
          · rw [if_pos hi5] at hx
            have hlt := (List.getElem?_eq_some_iff.mp hx).1
            rw [if_neg (by omega), (hI.2.2 _).trans (if_pos (by omega)), show 6 * p + (i + 1) - 1 = 6 * p + i by omega]
            exact g4 i x hx
          · rw [if_neg hi5] at hx
            cases hx
    | succ i ih =>
      intro hi σ' hI
      refine sgX0_putAhead_20 hG v0 hv0 _ _ _ _ _ σ' ⟨fun z => absurd ((nIle (i + 1) 0 rfl rfl (by omega) (by omega)).mp z) (by omega), fun _ => ?_⟩
      have e1 : nI (6 * p + (i + 1)) - 1 = nI (6 * p + i) := nI_pred (6 * p + i)
      rw [ix6, e1, nI_clamp (by omega), nI_clamp (by omega), pk_m1]
      refine ⟨vp_in_nI (by omega) (by decide), vp_in_nI (by omega) (by decide), ih (by omega) _ ((hI.up _ _).cg (fun j => ?_))⟩
      by_cases hj : j = 6 * p + (i + 1)
      · rw [if_pos hj, if_pos (by omega), (hI.2.2 _).trans (if_neg (by omega)), hj]
        rfl
      · rw [if_neg hj]
        by_cases hc : 6 * p + (i + 1) < j ∧ j ≤ 6 * p + min (V.2.2.2 p).2.2.length 5
        · rw [if_pos hc, if_pos (by omega)]
        · rw [if_neg hc, if_neg (by omega)]
  exact loop _ (Nat.le_refl _) σ (av_in.rf.cg (fun j => (if_neg (by omega)).symm))
theorem mX0_putAhead (g : gtX0_putAhead) : px_Met dC yX0_putAhead (Cond.code yX0_putAhead cX0_putAhead 6 none :: wdC) rmX0_putAhead px_vV (prX0_putAhead g) (poX0_putAhead g) :=
  px_met (Z := (cX0_putAhead, 6, RX0, Cond.code yX0_putAhead cX0_putAhead 6 none :: wdC, none, rmX0_putAhead, dC)) opX0_putAhead (by decide) rfl rfl okX0_putAhead (fun As σ h => by obtain ⟨v0, v1, v2, rfl, hv0, h⟩ := h; exact Nat.le_of_ble_eq_true rfl) (fun As σ h G hG => by obtain ⟨v0, v1, v2, rfl, hv0, h⟩ := h; exact hhX0_putAhead g v0 hv0 v1 v2 σ h G hG)
abbrev gtX0_putBehind : Type := pv_V × Nat × Nat
def qrX0_putBehind : gtX0_putBehind → Nat → Int32 → Int32 → px_St → Prop
  | (V, p, s), a, v1, v2, σ => av_is σ a V ∧ pv_w V ∧ p < V.1 ∧ s ≤ 9 ∧ v1 = nI p ∧ v2 = nI s
def qoX0_putBehind : gtX0_putBehind → Nat → Int32 → Int32 → px_St → Unit → px_St → Prop
  | (V, p, s), a, _, _, σ, _, σ' => av_is σ' a (pv_at V p ((V.2.2.2 p).1, (V.2.2.2 p).2.1, pv_put (V.2.2.2 p).2.2 s)) ∧ px_only a σ σ'
def prX0_putBehind (g : gtX0_putBehind) : List Value → px_St → Prop := fun As σ => ∃ v0 : Nat, ∃ v1 : Int32, ∃ v2 : Int32, As = [.ref v0, .int v1, .int v2] ∧ px_av v0 ∧ qrX0_putBehind g v0 v1 v2 σ
def poX0_putBehind (g : gtX0_putBehind) : List Value → px_St → Unit → px_St → Prop
  | [.ref v0, .int v1, .int v2], σ, r, σ' => qoX0_putBehind g v0 v1 v2 σ r σ'
  | _, _, _, _ => False
theorem dX0_putBehind_0 : decode cX0_putBehind 0 = .ok (.iload_n 1, 1) := by decide +kernel
theorem dX0_putBehind_1 : decode cX0_putBehind 1 = .ok (.bipush 6, 2) := by decide +kernel
theorem dX0_putBehind_3 : decode cX0_putBehind 3 = .ok (.imul, 1) := by decide +kernel
theorem dX0_putBehind_4 : decode cX0_putBehind 4 = .ok (.istore_n 3, 1) := by decide +kernel
theorem dX0_putBehind_5 : decode cX0_putBehind 5 = .ok (.aload_n 0, 1) := by decide +kernel
theorem dX0_putBehind_6 : decode cX0_putBehind 6 = .ok (.getfield 19, 3) := by decide +kernel
theorem dX0_putBehind_9 : decode cX0_putBehind 9 = .ok (.iload_n 1, 1) := by decide +kernel
theorem dX0_putBehind_10 : decode cX0_putBehind 10 = .ok (.iaload, 1) := by decide +kernel
theorem dX0_putBehind_11 : decode cX0_putBehind 11 = .ok (.istore 4, 2) := by decide +kernel
theorem dX0_putBehind_13 : decode cX0_putBehind 13 = .ok (.iload 4, 2) := by decide +kernel
theorem dX0_putBehind_15 : decode cX0_putBehind 15 = .ok (.bipush 6, 2) := by decide +kernel
theorem dX0_putBehind_17 : decode cX0_putBehind 17 = .ok (.if_icmp .lt 42, 3) := by decide +kernel
theorem dX0_putBehind_20 : decode cX0_putBehind 20 = .ok (.iconst 5, 1) := by decide +kernel
theorem dX0_putBehind_21 : decode cX0_putBehind 21 = .ok (.istore 4, 2) := by decide +kernel
theorem dX0_putBehind_23 : decode cX0_putBehind 23 = .ok (.iconst 0, 1) := by decide +kernel
theorem dX0_putBehind_24 : decode cX0_putBehind 24 = .ok (.istore 5, 2) := by decide +kernel
theorem dX0_putBehind_26 : decode cX0_putBehind 26 = .ok (.iload 5, 2) := by decide +kernel
theorem dX0_putBehind_28 : decode cX0_putBehind 28 = .ok (.iload 4, 2) := by decide +kernel
theorem dX0_putBehind_30 : decode cX0_putBehind 30 = .ok (.if_icmp .ge 29, 3) := by decide +kernel
theorem dX0_putBehind_33 : decode cX0_putBehind 33 = .ok (.aload_n 0, 1) := by decide +kernel
theorem dX0_putBehind_34 : decode cX0_putBehind 34 = .ok (.getfield 25, 3) := by decide +kernel
theorem dX0_putBehind_37 : decode cX0_putBehind 37 = .ok (.iload_n 3, 1) := by decide +kernel
theorem dX0_putBehind_38 : decode cX0_putBehind 38 = .ok (.iload 5, 2) := by decide +kernel
theorem dX0_putBehind_40 : decode cX0_putBehind 40 = .ok (.iadd, 1) := by decide +kernel
theorem dX0_putBehind_41 : decode cX0_putBehind 41 = .ok (.aload_n 0, 1) := by decide +kernel
theorem dX0_putBehind_42 : decode cX0_putBehind 42 = .ok (.getfield 25, 3) := by decide +kernel
theorem dX0_putBehind_45 : decode cX0_putBehind 45 = .ok (.iload_n 3, 1) := by decide +kernel
theorem dX0_putBehind_46 : decode cX0_putBehind 46 = .ok (.iload 5, 2) := by decide +kernel
theorem dX0_putBehind_48 : decode cX0_putBehind 48 = .ok (.iadd, 1) := by decide +kernel
theorem dX0_putBehind_49 : decode cX0_putBehind 49 = .ok (.iconst 1, 1) := by decide +kernel
theorem dX0_putBehind_50 : decode cX0_putBehind 50 = .ok (.iadd, 1) := by decide +kernel
theorem dX0_putBehind_51 : decode cX0_putBehind 51 = .ok (.iaload, 1) := by decide +kernel
theorem dX0_putBehind_52 : decode cX0_putBehind 52 = .ok (.iastore, 1) := by decide +kernel
theorem dX0_putBehind_53 : decode cX0_putBehind 53 = .ok (.iinc 5 1, 3) := by decide +kernel
theorem dX0_putBehind_56 : decode cX0_putBehind 56 = .ok (.goto (-30), 3) := by decide +kernel
theorem dX0_putBehind_59 : decode cX0_putBehind 59 = .ok (.aload_n 0, 1) := by decide +kernel
theorem dX0_putBehind_60 : decode cX0_putBehind 60 = .ok (.getfield 25, 3) := by decide +kernel
theorem dX0_putBehind_63 : decode cX0_putBehind 63 = .ok (.iload_n 3, 1) := by decide +kernel
theorem dX0_putBehind_64 : decode cX0_putBehind 64 = .ok (.iload 4, 2) := by decide +kernel
theorem dX0_putBehind_66 : decode cX0_putBehind 66 = .ok (.iadd, 1) := by decide +kernel
theorem dX0_putBehind_67 : decode cX0_putBehind 67 = .ok (.iload_n 2, 1) := by decide +kernel
theorem dX0_putBehind_68 : decode cX0_putBehind 68 = .ok (.iastore, 1) := by decide +kernel
theorem dX0_putBehind_69 : decode cX0_putBehind 69 = .ok (.aload_n 0, 1) := by decide +kernel
theorem dX0_putBehind_70 : decode cX0_putBehind 70 = .ok (.getfield 19, 3) := by decide +kernel
theorem dX0_putBehind_73 : decode cX0_putBehind 73 = .ok (.iload_n 1, 1) := by decide +kernel
theorem dX0_putBehind_74 : decode cX0_putBehind 74 = .ok (.iload 4, 2) := by decide +kernel
theorem dX0_putBehind_76 : decode cX0_putBehind 76 = .ok (.iconst 1, 1) := by decide +kernel
theorem dX0_putBehind_77 : decode cX0_putBehind 77 = .ok (.iadd, 1) := by decide +kernel
theorem dX0_putBehind_78 : decode cX0_putBehind 78 = .ok (.iastore, 1) := by decide +kernel
theorem dX0_putBehind_79 : decode cX0_putBehind 79 = .ok (.return_, 1) := by decide +kernel
abbrev rmX0_putBehind : Room := { frames := 0, cells := 0, slots := 0, locals := 0 }
def opX0_putBehind (po : Unit → px_St → Prop) : List (Nat × px_Op) := [
  (0, px_il 1 1),
  (1, px_push 3 (.int 6)),
  (3, px_bin 4 (fun x y => x * y)),
  (4, px_is 5 3),
  (5, px_al 6 0),
  (6, px_get dC 9 0 4),
  (9, px_il 10 1),
  (10, px_ald dC 11 0),
  (11, px_is 13 4),
  (13, px_il 15 4),
  (15, px_push 17 (.int 6)),
  (17, px_ic 20 59 (fun x y => x < y)),
  (20, px_push 21 (.int 5)),
  (21, px_is 23 4),
  (23, px_push 24 (.int 0)),
  (24, px_is 26 5),
  (26, px_il 28 5),
  (28, px_il 30 4),
  (30, px_ic 33 59 (fun x y => y ≤ x)),
  (33, px_al 34 0),
  (34, px_get dC 37 0 6),
  (37, px_il 38 3),
  (38, px_il 40 5),
  (40, px_bin 41 (fun x y => x + y)),
  (41, px_al 42 0),
  (42, px_get dC 45 0 6),
  (45, px_il 46 3),
  (46, px_il 48 5),
  (48, px_bin 49 (fun x y => x + y)),
  (49, px_push 50 (.int 1)),
  (50, px_bin 51 (fun x y => x + y)),
  (51, px_ald dC 52 0),
  (52, px_ast dC 53 0 (fun x => x)),
  (53, px_inc 56 5 1),
  (56, px_go 26),
  (59, px_al 60 0),
  (60, px_get dC 63 0 6),
  (63, px_il 64 3),
  (64, px_il 66 4),
  (66, px_bin 67 (fun x y => x + y)),
  (67, px_il 68 2),
  (68, px_ast dC 69 0 (fun x => x)),
  (69, px_al 70 0),
  (70, px_get dC 73 0 4),
  (73, px_il 74 1),
  (74, px_il 76 4),
  (76, px_push 77 (.int 1)),
  (77, px_bin 78 (fun x y => x + y)),
  (78, px_ast dC 79 0 (fun x => x)),
  (79, px_vret po)]
set_option maxRecDepth 100000 in
set_option maxHeartbeats 4000000 in
theorem okX0_putBehind : ∀ (po : Unit → px_St → Prop) (i pc : Nat) (op : px_Op), (opX0_putBehind po)[i]? = some (pc, op) → px_Snd (cX0_putBehind, 6, RX0, Cond.code yX0_putBehind cX0_putBehind 6 none :: wdC, none, rmX0_putBehind, dC) px_vV po pc op := by
  intro po
  unfold opX0_putBehind
  refine px_ok_cons (ps_iload_n dX0_putBehind_0 rfl) ?_
  refine px_ok_cons (ps_bipush dX0_putBehind_1 (by decide)) ?_
  refine px_ok_cons (ps_imul dX0_putBehind_3) ?_
  refine px_ok_cons (ps_istore_n dX0_putBehind_4 rfl (by decide)) ?_
  refine px_ok_cons (ps_aload_n dX0_putBehind_5 rfl) ?_
  refine px_ok_cons (fgX0_19 dX0_putBehind_6) ?_
  refine px_ok_cons (ps_iload_n dX0_putBehind_9 rfl) ?_
  refine px_ok_cons (ps_iaload dX0_putBehind_10) ?_
  refine px_ok_cons (ps_istore dX0_putBehind_11 (by decide)) ?_
  refine px_ok_cons (ps_iload dX0_putBehind_13) ?_
  refine px_ok_cons (ps_bipush dX0_putBehind_15 (by decide)) ?_
  refine px_ok_cons (ps_icmp_lt dX0_putBehind_17 (by decide)) ?_
  refine px_ok_cons (ps_iconst dX0_putBehind_20 (by decide)) ?_
  refine px_ok_cons (ps_istore dX0_putBehind_21 (by decide)) ?_
  refine px_ok_cons (ps_iconst dX0_putBehind_23 (by decide)) ?_
  refine px_ok_cons (ps_istore dX0_putBehind_24 (by decide)) ?_
  refine px_ok_cons (ps_iload dX0_putBehind_26) ?_
  refine px_ok_cons (ps_iload dX0_putBehind_28) ?_
  refine px_ok_cons (ps_icmp_ge dX0_putBehind_30 (by decide)) ?_
  refine px_ok_cons (ps_aload_n dX0_putBehind_33 rfl) ?_
  refine px_ok_cons (fgX0_25 dX0_putBehind_34) ?_
  refine px_ok_cons (ps_iload_n dX0_putBehind_37 rfl) ?_
  refine px_ok_cons (ps_iload dX0_putBehind_38) ?_
  refine px_ok_cons (ps_iadd dX0_putBehind_40) ?_
  refine px_ok_cons (ps_aload_n dX0_putBehind_41 rfl) ?_
  refine px_ok_cons (fgX0_25 dX0_putBehind_42) ?_
  refine px_ok_cons (ps_iload_n dX0_putBehind_45 rfl) ?_
  refine px_ok_cons (ps_iload dX0_putBehind_46) ?_
  refine px_ok_cons (ps_iadd dX0_putBehind_48) ?_
  refine px_ok_cons (ps_iconst dX0_putBehind_49 (by decide)) ?_
  refine px_ok_cons (ps_iadd dX0_putBehind_50) ?_
  refine px_ok_cons (ps_iaload dX0_putBehind_51) ?_
  refine px_ok_cons (ps_iastore dX0_putBehind_52) ?_
  refine px_ok_cons (ps_iinc dX0_putBehind_53 (by decide) (by decide)) ?_
  refine px_ok_cons (ps_goto dX0_putBehind_56 (by decide)) ?_
  refine px_ok_cons (ps_aload_n dX0_putBehind_59 rfl) ?_
  refine px_ok_cons (fgX0_25 dX0_putBehind_60) ?_
  refine px_ok_cons (ps_iload_n dX0_putBehind_63 rfl) ?_
  refine px_ok_cons (ps_iload dX0_putBehind_64) ?_
  refine px_ok_cons (ps_iadd dX0_putBehind_66) ?_
  refine px_ok_cons (ps_iload_n dX0_putBehind_67 rfl) ?_
  refine px_ok_cons (ps_iastore dX0_putBehind_68) ?_
  refine px_ok_cons (ps_aload_n dX0_putBehind_69 rfl) ?_
  refine px_ok_cons (fgX0_19 dX0_putBehind_70) ?_
  refine px_ok_cons (ps_iload_n dX0_putBehind_73 rfl) ?_
  refine px_ok_cons (ps_iload dX0_putBehind_74) ?_
  refine px_ok_cons (ps_iconst dX0_putBehind_76 (by decide)) ?_
  refine px_ok_cons (ps_iadd dX0_putBehind_77) ?_
  refine px_ok_cons (ps_iastore dX0_putBehind_78) ?_
  refine px_ok_cons (ps_return rfl dX0_putBehind_79) ?_
  exact px_ok_nil
set_option maxRecDepth 100000 in
set_option maxHeartbeats 4000000 in
theorem sgX0_putBehind_0 {po : Unit → px_St → Prop} {G : px_K} (hG : px_cl (opX0_putBehind po) G) (v0 : Nat) (hv0 : px_av v0) (v1 : Int32) (v2 : Int32) (σ : px_St)
    (H : vp_in v1 5 ∧ (((σ.1 (v0 + 2) v1.toNatClampNeg) < (6 : Int32)) → vp_in ((v1 * (6 : Int32)) + (σ.1 (v0 + 2) v1.toNatClampNeg)) 30 ∧ vp_in v1 5 ∧ po () (px_up (px_up σ (v0 + 4) ((v1 * (6 : Int32)) + (σ.1 (v0 + 2) v1.toNatClampNeg)).toNatClampNeg v2) (v0 + 2) v1.toNatClampNeg ((σ.1 (v0 + 2) v1.toNatClampNeg) + (1 : Int32)))) ∧ (¬ ((σ.1 (v0 + 2) v1.toNatClampNeg) < (6 : Int32)) → G 26 [some (.ref v0), some (.int v1), some (.int v2), some (.int (v1 * (6 : Int32))), some (.int (5 : Int32)), some (.int (0 : Int32))] [] σ)) :
    G 0 (px_ent 6 [.ref v0, .int v1, .int v2]) [] σ := by
  refine hG.1 0 _ _ rfl _ _ _ ?_
  refine hG.1 1 _ _ rfl _ _ _ ?_
  refine hG.1 2 _ _ rfl _ _ _ ?_
  refine hG.1 3 _ _ rfl _ _ _ ?_
  show G 5 [some (.ref v0), some (.int v1), some (.int v2), some (.int (v1 * (6 : Int32))), none, none] [] σ
  refine hG.1 4 _ _ rfl _ _ _ ?_
  refine hG.1 5 _ _ rfl _ _ _ ?_
  refine ⟨(av_s0 hv0), ?_⟩
  refine hG.1 6 _ _ rfl _ _ _ ?_
  refine hG.1 7 _ _ rfl _ _ _ ?_
  refine ⟨(av_s2 hv0), by rw [(av_l2 hv0)]; exact H.1, ?_⟩
  replace H := H.2
  refine hG.1 8 _ _ rfl _ _ _ ?_
  show G 13 [some (.ref v0), some (.int v1), some (.int v2), some (.int (v1 * (6 : Int32))), some (.int (σ.1 (v0 + 2) v1.toNatClampNeg)), none] [] σ
  refine hG.1 9 _ _ rfl _ _ _ ?_
  refine hG.1 10 _ _ rfl _ _ _ ?_
  refine hG.1 11 _ _ rfl _ _ _ ?_
  refine ⟨fun h1 => ?_, fun h1 => ?_⟩
  · replace H := H.1 h1
    refine hG.1 35 _ _ rfl _ _ _ ?_
    refine hG.1 36 _ _ rfl _ _ _ ?_
    refine ⟨(av_s0 hv0), ?_⟩
    refine hG.1 37 _ _ rfl _ _ _ ?_
    refine hG.1 38 _ _ rfl _ _ _ ?_
    refine hG.1 39 _ _ rfl _ _ _ ?_
    refine hG.1 40 _ _ rfl _ _ _ ?_
    refine hG.1 41 _ _ rfl _ _ _ ?_
    refine ⟨(av_s4 hv0), by rw [(av_l4 hv0)]; exact H.1, ?_⟩
    replace H := H.2
    refine hG.1 42 _ _ rfl _ _ _ ?_
    refine hG.1 43 _ _ rfl _ _ _ ?_
    refine ⟨(av_s0 hv0), ?_⟩
    refine hG.1 44 _ _ rfl _ _ _ ?_
    refine hG.1 45 _ _ rfl _ _ _ ?_
    refine hG.1 46 _ _ rfl _ _ _ ?_
    refine hG.1 47 _ _ rfl _ _ _ ?_
    refine hG.1 48 _ _ rfl _ _ _ ?_
    refine ⟨(av_s2 hv0), by rw [(av_l2 hv0)]; exact H.1, ?_⟩
    replace H := H.2
    refine hG.1 49 _ _ rfl _ _ _ ?_
    exact H
  · replace H := H.2 h1
    refine hG.1 12 _ _ rfl _ _ _ ?_
    refine hG.1 13 _ _ rfl _ _ _ ?_
    show G 23 [some (.ref v0), some (.int v1), some (.int v2), some (.int (v1 * (6 : Int32))), some (.int (5 : Int32)), none] [] σ
    refine hG.1 14 _ _ rfl _ _ _ ?_
    refine hG.1 15 _ _ rfl _ _ _ ?_
    show G 26 [some (.ref v0), some (.int v1), some (.int v2), some (.int (v1 * (6 : Int32))), some (.int (5 : Int32)), some (.int (0 : Int32))] [] σ
    exact H
set_option maxRecDepth 100000 in
set_option maxHeartbeats 4000000 in
theorem sgX0_putBehind_26 {po : Unit → px_St → Prop} {G : px_K} (hG : px_cl (opX0_putBehind po) G) (v0 : Nat) (hv0 : px_av v0) (v1 : Int32) (v2 : Int32) (v3 : Int32) (v4 : Int32) (v5 : Int32) (σ : px_St)
    (H : ((v4 ≤ v5) → vp_in (v3 + v4) 30 ∧ vp_in v1 5 ∧ po () (px_up (px_up σ (v0 + 4) (v3 + v4).toNatClampNeg v2) (v0 + 2) v1.toNatClampNeg (v4 + (1 : Int32)))) ∧ (¬ (v4 ≤ v5) → vp_in ((v3 + v5) + (1 : Int32)) 30 ∧ vp_in (v3 + v5) 30 ∧ G 26 [some (.ref v0), some (.int v1), some (.int v2), some (.int v3), some (.int v4), some (.int (v5 + 1))] [] (px_up σ (v0 + 4) (v3 + v5).toNatClampNeg (σ.1 (v0 + 4) ((v3 + v5) + (1 : Int32)).toNatClampNeg)))) :
    G 26 [some (.ref v0), some (.int v1), some (.int v2), some (.int v3), some (.int v4), some (.int v5)] [] σ := by
  refine hG.1 16 _ _ rfl _ _ _ ?_
  refine hG.1 17 _ _ rfl _ _ _ ?_
  refine hG.1 18 _ _ rfl _ _ _ ?_
  refine ⟨fun h1 => ?_, fun h1 => ?_⟩
  · replace H := H.1 h1
    refine hG.1 35 _ _ rfl _ _ _ ?_
    refine hG.1 36 _ _ rfl _ _ _ ?_
    refine ⟨(av_s0 hv0), ?_⟩
    refine hG.1 37 _ _ rfl _ _ _ ?_
    refine hG.1 38 _ _ rfl _ _ _ ?_
    refine hG.1 39 _ _ rfl _ _ _ ?_
    refine hG.1 40 _ _ rfl _ _ _ ?_
    refine hG.1 41 _ _ rfl _ _ _ ?_
    refine ⟨(av_s4 hv0), by rw [(av_l4 hv0)]; exact H.1, ?_⟩
    replace H := H.2
    refine hG.1 42 _ _ rfl _ _ _ ?_
    refine hG.1 43 _ _ rfl _ _ _ ?_
    refine ⟨(av_s0 hv0), ?_⟩
    refine hG.1 44 _ _ rfl _ _ _ ?_
    refine hG.1 45 _ _ rfl _ _ _ ?_
    refine hG.1 46 _ _ rfl _ _ _ ?_
    refine hG.1 47 _ _ rfl _ _ _ ?_
    refine hG.1 48 _ _ rfl _ _ _ ?_
    refine ⟨(av_s2 hv0), by rw [(av_l2 hv0)]; exact H.1, ?_⟩
    replace H := H.2
    refine hG.1 49 _ _ rfl _ _ _ ?_
    exact H
  · replace H := H.2 h1
    refine hG.1 19 _ _ rfl _ _ _ ?_
    refine hG.1 20 _ _ rfl _ _ _ ?_
    refine ⟨(av_s0 hv0), ?_⟩
    refine hG.1 21 _ _ rfl _ _ _ ?_
    refine hG.1 22 _ _ rfl _ _ _ ?_
    refine hG.1 23 _ _ rfl _ _ _ ?_
    refine hG.1 24 _ _ rfl _ _ _ ?_
    refine hG.1 25 _ _ rfl _ _ _ ?_
    refine ⟨(av_s0 hv0), ?_⟩
    refine hG.1 26 _ _ rfl _ _ _ ?_
    refine hG.1 27 _ _ rfl _ _ _ ?_
    refine hG.1 28 _ _ rfl _ _ _ ?_
    refine hG.1 29 _ _ rfl _ _ _ ?_
    refine hG.1 30 _ _ rfl _ _ _ ?_
    refine hG.1 31 _ _ rfl _ _ _ ?_
    refine ⟨(av_s4 hv0), by rw [(av_l4 hv0)]; exact H.1, ?_⟩
    replace H := H.2
    refine hG.1 32 _ _ rfl _ _ _ ?_
    refine ⟨(av_s4 hv0), by rw [(av_l4 hv0)]; exact H.1, ?_⟩
    replace H := H.2
    refine hG.1 33 _ _ rfl _ _ _ ?_
    show G 56 [some (.ref v0), some (.int v1), some (.int v2), some (.int v3), some (.int v4), some (.int (v5 + 1))] [] (px_up σ (v0 + 4) (v3 + v5).toNatClampNeg (σ.1 (v0 + 4) ((v3 + v5) + (1 : Int32)).toNatClampNeg))
    refine hG.1 34 _ _ rfl _ _ _ ?_
    exact H
set_option maxRecDepth 100000 in
set_option maxHeartbeats 4000000 in
theorem hhX0_putBehind (g : gtX0_putBehind) (v0 : Nat) (hv0 : px_av v0) (v1 : Int32) (v2 : Int32) (σ : px_St) (h : qrX0_putBehind g v0 v1 v2 σ) (G : px_K) (hG : px_cl (opX0_putBehind (qoX0_putBehind g v0 v1 v2 σ)) G) : G 0 (px_ent 6 [.ref v0, .int v1, .int v2]) [] σ := by
  obtain ⟨V, p, s⟩ := g
  obtain ⟨hV, hw, hp, hs, rfl, rfl⟩ := h
  obtain ⟨hk3, hl, hx9⟩ := hw.2.2.2 p hp
  have h5 := hw.1
  obtain ⟨g1, g2, g3, g4⟩ := hV.2 p hp
  have hin : vp_in (nI p) 5 := vp_in_nI (by omega) (by decide)
  refine sgX0_putBehind_0 hG v0 hv0 _ _ σ ?_
  rw [nI_clamp (by omega), g2]
  have c6 : nI (V.2.2.2 p).2.2.length < 6 ↔ (V.2.2.2 p).2.2.length < 6 := nIlt _ 6 rfl rfl (by omega) (by omega)
  rw [c6]
  refine ⟨hin, fun h6 => ?_, fun h6 => ?_⟩
  · rw [ix6, nI_clamp (by omega), nI_1]
    have ho : px_onlyP v0 p σ (px_up (px_up σ (v0 + 4) (6 * p + (V.2.2.2 p).2.2.length) (nI s)) (v0 + 2) p (nI ((V.2.2.2 p).2.2.length + 1))) :=
      (px_onlyP.up4 (by omega) (by omega)).tr (px_onlyP.upt (by omega) (by omega))
    refine ⟨vp_in_nI (by omega) (by decide), hin, av_mod hV (fun q hq => (hw.2.2.2 q hq).2.1) ho ⟨?_, ?_, ?_, fun i x hx => ?_⟩, ho.only⟩
    · rw [px_up_n (by omega), px_up_n (by omega)]; exact g1
    · rw [px_up_at, if_pos ⟨rfl, rfl⟩]
      simp [pv_put, h6]
    · rw [px_up_n (by omega), px_up_n (by omega)]; exact g3
    · rw [px_up_n (by omega), px_up_at]
      simp only [pv_put, if_pos h6] at hx
      by_cases hi : i < (V.2.2.2 p).2.2.length
      · rw [List.getElem?_append_left hi] at hx
        rw [if_neg (by omega)]
        exact g4 i x hx
      · rw [List.getElem?_append_right (by omega)] at hx
        have h0 : i - (V.2.2.2 p).2.2.length < 1 := (List.getElem?_eq_some_iff.mp hx).1
        have hi2 : i = (V.2.2.2 p).2.2.length := by omega
        subst hi2
        rw [Nat.sub_self] at hx
        rw [if_pos ⟨rfl, rfl⟩, Option.some.inj hx]
  · have hl6 : (V.2.2.2 p).2.2.length = 6 := by omega
    have loop : ∀ n i, i + n = 5 → ∀ σ', av_in v0 σ σ' (fun j => if 6 * p ≤ j ∧ j < 6 * p + i then σ.1 (v0 + 4) (j + 1) else σ.1 (v0 + 4) j) →
        G 26 [some (.ref v0), some (.int (nI p)), some (.int (nI s)), some (.int (nI p * 6)), some (.int (5 : Int32)), some (.int (nI i))] [] σ' := by
      intro n
      induction n with
      | zero =>
        intro i hi σ' hI
        have h5i : i = 5 := by omega
        subst h5i
        refine sgX0_putBehind_26 hG v0 hv0 _ _ _ _ _ σ' ⟨fun _ => ?_, fun z => absurd (by decide) z⟩
        have e5 : nI p * 6 + (5 : Int32) = nI (6 * p + 5) := ix6 p 5
        rw [e5, nI_clamp (by omega), nI_clamp (by omega)]
        have ho : px_onlyP v0 p σ (px_up (px_up σ' (v0 + 4) (6 * p + 5) (nI s)) (v0 + 2) p (5 + 1)) :=
          ((hI.onlyP (fun j hj => if_neg (by omega))).tr (px_onlyP.up4 (by omega) (by omega))).tr (px_onlyP.upt (by omega) (by omega))
        refine ⟨vp_in_nI (by omega) (by decide), hin, av_mod hV (fun q hq => (hw.2.2.2 q hq).2.1) ho ⟨?_, ?_, ?_, fun i x hx => ?_⟩, ho.only⟩
        · rw [px_up_n (by omega), px_up_n (by omega), hI.1 _ (by omega)]; exact g1
        · rw [px_up_at, if_pos ⟨rfl, rfl⟩]
          have hlen : (pv_put (V.2.2.2 p).2.2 s).length = 6 := by
            unfold pv_put
            rw [if_neg h6]
            simp [hl6]
          show (5 + 1 : Int32) = nI (pv_put (V.2.2.2 p).2.2 s).length
          rw [hlen]
          rfl
        · rw [px_up_n (by omega), px_up_n (by omega), hI.1 _ (by omega)]; exact g3
        · rw [px_up_n (by omega), px_up_at]
          simp only [pv_put, if_neg h6] at hx
          by_cases hi5 : i < 5
          · rw [List.getElem?_append_left (by rw [List.length_drop]; omega), List.getElem?_drop] at hx
            rw [if_neg (by omega), (hI.2.2 _).trans (if_pos (by omega)), show 6 * p + i + 1 = 6 * p + (1 + i) by omega]
            exact g4 _ x hx
          · rw [List.getElem?_append_right (by rw [List.length_drop]; omega)] at hx
            have h0 : i - (List.drop 1 (V.2.2.2 p).2.2).length < 1 := (List.getElem?_eq_some_iff.mp hx).1
            rw [List.length_drop] at h0 hx
            have hi2 : i = 5 := by omega
            subst hi2
            rw [hl6] at hx
            rw [if_pos ⟨rfl, rfl⟩, Option.some.inj hx]
      | succ n ih =>
        intro i hi σ' hI
        refine sgX0_putBehind_26 hG v0 hv0 _ _ _ _ _ σ' ⟨fun z => absurd ((nIle 5 i rfl rfl (by omega) (by omega)).mp z) (by omega), fun _ => ?_⟩
        rw [ix6, nI_1, nI_1, nI_clamp (by omega), nI_clamp (by omega)]
        refine ⟨vp_in_nI (by omega) (by decide), vp_in_nI (by omega) (by decide), ih (i + 1) (by omega) _ ((hI.up _ _).cg (fun j => ?_))⟩
        by_cases hj : j = 6 * p + i
        · rw [if_pos hj, if_pos (by omega), (hI.2.2 _).trans (if_neg (by omega)), hj]
        · rw [if_neg hj]
          by_cases hc : 6 * p ≤ j ∧ j < 6 * p + i
          · rw [if_pos hc, if_pos (by omega)]
          · rw [if_neg hc, if_neg (by omega)]
    exact loop 5 0 rfl σ (av_in.rf.cg (fun j => (if_neg (by omega)).symm))
theorem mX0_putBehind (g : gtX0_putBehind) : px_Met dC yX0_putBehind (Cond.code yX0_putBehind cX0_putBehind 6 none :: wdC) rmX0_putBehind px_vV (prX0_putBehind g) (poX0_putBehind g) :=
  px_met (Z := (cX0_putBehind, 6, RX0, Cond.code yX0_putBehind cX0_putBehind 6 none :: wdC, none, rmX0_putBehind, dC)) opX0_putBehind (by decide) rfl rfl okX0_putBehind (fun As σ h => by obtain ⟨v0, v1, v2, rfl, hv0, h⟩ := h; exact Nat.le_of_ble_eq_true rfl) (fun As σ h G hG => by obtain ⟨v0, v1, v2, rfl, hv0, h⟩ := h; exact hhX0_putBehind g v0 hv0 v1 v2 σ h G hG)
theorem pv_at_same (V : pv_V) (p : Nat) : pv_at V p (V.2.2.2 p) = V := by
  unfold pv_at
  have e : (fun q => if q = p then V.2.2.2 p else V.2.2.2 q) = V.2.2.2 := by
    funext q
    by_cases h : q = p
    · rw [if_pos h, h]
    · rw [if_neg h]
  rw [e]
abbrev gtX0_learn : Type := pv_V × Nat × Nat
def qrX0_learn : gtX0_learn → Nat → Int32 → Int32 → px_St → Prop
  | (V, p, s), a, v1, v2, σ => av_is σ a V ∧ pv_w V ∧ p < V.1 ∧ s ≤ 9 ∧ v1 = nI p ∧ v2 = nI s
def qoX0_learn : gtX0_learn → Nat → Int32 → Int32 → px_St → Unit → px_St → Prop
  | (V, p, s), a, _, _, σ, _, σ' => av_is σ' a (pv_at V p (pv_learn (V.2.2.2 p) s)) ∧ px_only a σ σ'
def prX0_learn (g : gtX0_learn) : List Value → px_St → Prop := fun As σ => ∃ v0 : Nat, ∃ v1 : Int32, ∃ v2 : Int32, As = [.ref v0, .int v1, .int v2] ∧ px_av v0 ∧ qrX0_learn g v0 v1 v2 σ
def poX0_learn (g : gtX0_learn) : List Value → px_St → Unit → px_St → Prop
  | [.ref v0, .int v1, .int v2], σ, r, σ' => qoX0_learn g v0 v1 v2 σ r σ'
  | _, _, _, _ => False
theorem dX0_learn_0 : decode cX0_learn 0 = .ok (.aload_n 0, 1) := by decide +kernel
theorem dX0_learn_1 : decode cX0_learn 1 = .ok (.getfield 15, 3) := by decide +kernel
theorem dX0_learn_4 : decode cX0_learn 4 = .ok (.iload_n 1, 1) := by decide +kernel
theorem dX0_learn_5 : decode cX0_learn 5 = .ok (.iaload, 1) := by decide +kernel
theorem dX0_learn_6 : decode cX0_learn 6 = .ok (.iconst 1, 1) := by decide +kernel
theorem dX0_learn_7 : decode cX0_learn 7 = .ok (.if_icmp .eq 22, 3) := by decide +kernel
theorem dX0_learn_10 : decode cX0_learn 10 = .ok (.aload_n 0, 1) := by decide +kernel
theorem dX0_learn_11 : decode cX0_learn 11 = .ok (.getfield 15, 3) := by decide +kernel
theorem dX0_learn_14 : decode cX0_learn 14 = .ok (.iload_n 1, 1) := by decide +kernel
theorem dX0_learn_15 : decode cX0_learn 15 = .ok (.iaload, 1) := by decide +kernel
theorem dX0_learn_16 : decode cX0_learn 16 = .ok (.iconst 2, 1) := by decide +kernel
theorem dX0_learn_17 : decode cX0_learn 17 = .ok (.if_icmp .eq 13, 3) := by decide +kernel
theorem dX0_learn_20 : decode cX0_learn 20 = .ok (.aload_n 0, 1) := by decide +kernel
theorem dX0_learn_21 : decode cX0_learn 21 = .ok (.iload_n 1, 1) := by decide +kernel
theorem dX0_learn_22 : decode cX0_learn 22 = .ok (.iload_n 2, 1) := by decide +kernel
theorem dX0_learn_23 : decode cX0_learn 23 = .ok (.invokevirtual 71, 3) := by decide +kernel
theorem dX0_learn_26 : decode cX0_learn 26 = .ok (.ifCond .eq 4, 3) := by decide +kernel
theorem dX0_learn_29 : decode cX0_learn 29 = .ok (.return_, 1) := by decide +kernel
theorem dX0_learn_30 : decode cX0_learn 30 = .ok (.aload_n 0, 1) := by decide +kernel
theorem dX0_learn_31 : decode cX0_learn 31 = .ok (.getfield 15, 3) := by decide +kernel
theorem dX0_learn_34 : decode cX0_learn 34 = .ok (.iload_n 1, 1) := by decide +kernel
theorem dX0_learn_35 : decode cX0_learn 35 = .ok (.iaload, 1) := by decide +kernel
theorem dX0_learn_36 : decode cX0_learn 36 = .ok (.iconst 3, 1) := by decide +kernel
theorem dX0_learn_37 : decode cX0_learn 37 = .ok (.if_icmp .ne 12, 3) := by decide +kernel
theorem dX0_learn_40 : decode cX0_learn 40 = .ok (.aload_n 0, 1) := by decide +kernel
theorem dX0_learn_41 : decode cX0_learn 41 = .ok (.iload_n 1, 1) := by decide +kernel
theorem dX0_learn_42 : decode cX0_learn 42 = .ok (.iload_n 2, 1) := by decide +kernel
theorem dX0_learn_43 : decode cX0_learn 43 = .ok (.invokevirtual 75, 3) := by decide +kernel
theorem dX0_learn_46 : decode cX0_learn 46 = .ok (.goto 9, 3) := by decide +kernel
theorem dX0_learn_49 : decode cX0_learn 49 = .ok (.aload_n 0, 1) := by decide +kernel
theorem dX0_learn_50 : decode cX0_learn 50 = .ok (.iload_n 1, 1) := by decide +kernel
theorem dX0_learn_51 : decode cX0_learn 51 = .ok (.iload_n 2, 1) := by decide +kernel
theorem dX0_learn_52 : decode cX0_learn 52 = .ok (.invokevirtual 78, 3) := by decide +kernel
theorem dX0_learn_55 : decode cX0_learn 55 = .ok (.return_, 1) := by decide +kernel
abbrev rmX0_learn : Room := { frames := 2, cells := 0, slots := 0, locals := 46 }
def opX0_learn (po : Unit → px_St → Prop) : List (Nat × px_Op) := [
  (0, px_al 1 0),
  (1, px_get dC 4 0 3),
  (4, px_il 5 1),
  (5, px_ald dC 6 0),
  (6, px_push 7 (.int 1)),
  (7, px_ic 10 29 (fun x y => x = y)),
  (10, px_al 11 0),
  (11, px_get dC 14 0 3),
  (14, px_il 15 1),
  (15, px_ald dC 16 0),
  (16, px_push 17 (.int 2)),
  (17, px_ic 20 30 (fun x y => x = y)),
  (20, px_al 21 0),
  (21, px_il 22 1),
  (22, px_il 23 2),
  (23, px_callV dC 26 0 2 px_vI prX0_hasInMemory poX0_hasInMemory),
  (26, px_if 29 30 (fun x => x = 0)),
  (29, px_vret po),
  (30, px_al 31 0),
  (31, px_get dC 34 0 3),
  (34, px_il 35 1),
  (35, px_ald dC 36 0),
  (36, px_push 37 (.int 3)),
  (37, px_ic 40 49 (fun x y => ¬ x = y)),
  (40, px_al 41 0),
  (41, px_il 42 1),
  (42, px_il 43 2),
  (43, px_callV dC 46 0 2 px_vV prX0_putAhead poX0_putAhead),
  (46, px_go 55),
  (49, px_al 50 0),
  (50, px_il 51 1),
  (51, px_il 52 2),
  (52, px_callV dC 55 0 2 px_vV prX0_putBehind poX0_putBehind),
  (55, px_vret po)]
set_option maxRecDepth 100000 in
set_option maxHeartbeats 4000000 in
theorem okX0_learn : ∀ (po : Unit → px_St → Prop) (i pc : Nat) (op : px_Op), (opX0_learn po)[i]? = some (pc, op) → px_Snd (cX0_learn, 3, RX0, Cond.code yX0_learn cX0_learn 3 none :: wdC, none, rmX0_learn, dC) px_vV po pc op := by
  intro po
  unfold opX0_learn
  refine px_ok_cons (ps_aload_n dX0_learn_0 rfl) ?_
  refine px_ok_cons (fgX0_15 dX0_learn_1) ?_
  refine px_ok_cons (ps_iload_n dX0_learn_4 rfl) ?_
  refine px_ok_cons (ps_iaload dX0_learn_5) ?_
  refine px_ok_cons (ps_iconst dX0_learn_6 (by decide)) ?_
  refine px_ok_cons (ps_icmp_eq dX0_learn_7 (by decide)) ?_
  refine px_ok_cons (ps_aload_n dX0_learn_10 rfl) ?_
  refine px_ok_cons (fgX0_15 dX0_learn_11) ?_
  refine px_ok_cons (ps_iload_n dX0_learn_14 rfl) ?_
  refine px_ok_cons (ps_iaload dX0_learn_15) ?_
  refine px_ok_cons (ps_iconst dX0_learn_16 (by decide)) ?_
  refine px_ok_cons (ps_icmp_eq dX0_learn_17 (by decide)) ?_
  refine px_ok_cons (ps_aload_n dX0_learn_20 rfl) ?_
  refine px_ok_cons (ps_iload_n dX0_learn_21 rfl) ?_
  refine px_ok_cons (ps_iload_n dX0_learn_22 rfl) ?_
  refine px_ok_cons (ps_callV mX0_hasInMemory (fun _ _ => rfl) (C := RX0) rfl (fun _ _ ht => px_cwV wgC (wdC_1_in _ (List.mem_of_getElem? (i := 3) rfl)) (wdC_1_in _ (List.mem_of_getElem? (i := 4) rfl)) (wdC_1_in _ (List.mem_of_getElem? (i := 5) rfl)) (wdC_0_in _ (List.mem_of_getElem? (i := 22) rfl)) (wdC_0_in _ (List.mem_of_getElem? (i := 35) rfl)) (by decide +kernel) rfl rfl (by decide) ht) dX0_learn_23) ?_
  refine px_ok_cons (ps_if_eq dX0_learn_26 (by decide)) ?_
  refine px_ok_cons (ps_return rfl dX0_learn_29) ?_
  refine px_ok_cons (ps_aload_n dX0_learn_30 rfl) ?_
  refine px_ok_cons (fgX0_15 dX0_learn_31) ?_
  refine px_ok_cons (ps_iload_n dX0_learn_34 rfl) ?_
  refine px_ok_cons (ps_iaload dX0_learn_35) ?_
  refine px_ok_cons (ps_iconst dX0_learn_36 (by decide)) ?_
  refine px_ok_cons (ps_icmp_ne dX0_learn_37 (by decide)) ?_
  refine px_ok_cons (ps_aload_n dX0_learn_40 rfl) ?_
  refine px_ok_cons (ps_iload_n dX0_learn_41 rfl) ?_
  refine px_ok_cons (ps_iload_n dX0_learn_42 rfl) ?_
  refine px_ok_cons (ps_callV mX0_putAhead (fun _ _ => rfl) (C := RX0) rfl (fun _ _ ht => px_cwV wgC (wdC_1_in _ (List.mem_of_getElem? (i := 6) rfl)) (wdC_1_in _ (List.mem_of_getElem? (i := 7) rfl)) (wdC_1_in _ (List.mem_of_getElem? (i := 8) rfl)) (wdC_0_in _ (List.mem_of_getElem? (i := 22) rfl)) (wdC_0_in _ (List.mem_of_getElem? (i := 36) rfl)) (by decide +kernel) rfl rfl (by decide) ht) dX0_learn_43) ?_
  refine px_ok_cons (ps_goto dX0_learn_46 (by decide)) ?_
  refine px_ok_cons (ps_aload_n dX0_learn_49 rfl) ?_
  refine px_ok_cons (ps_iload_n dX0_learn_50 rfl) ?_
  refine px_ok_cons (ps_iload_n dX0_learn_51 rfl) ?_
  refine px_ok_cons (ps_callV mX0_putBehind (fun _ _ => rfl) (C := RX0) rfl (fun _ _ ht => px_cwV wgC (wdC_1_in _ (List.mem_of_getElem? (i := 9) rfl)) (wdC_1_in _ (List.mem_of_getElem? (i := 10) rfl)) (wdC_1_in _ (List.mem_of_getElem? (i := 11) rfl)) (wdC_0_in _ (List.mem_of_getElem? (i := 22) rfl)) (wdC_1_in _ (List.mem_of_getElem? (i := 1) rfl)) (by decide +kernel) rfl rfl (by decide) ht) dX0_learn_52) ?_
  refine px_ok_cons (ps_return rfl dX0_learn_55) ?_
  exact px_ok_nil
set_option maxRecDepth 100000 in
set_option maxHeartbeats 4000000 in
theorem sgX0_learn_0 {po : Unit → px_St → Prop} {G : px_K} (hG : px_cl (opX0_learn po) G) (v0 : Nat) (hv0 : px_av v0) (v1 : Int32) (v2 : Int32) (σ : px_St)
    (H : vp_in v1 5 ∧ (((σ.1 (v0 + 1) v1.toNatClampNeg) = (1 : Int32)) → po () σ) ∧ (¬ ((σ.1 (v0 + 1) v1.toNatClampNeg) = (1 : Int32)) → vp_in v1 5 ∧ (((σ.1 (v0 + 1) v1.toNatClampNeg) = (2 : Int32)) → vp_in v1 5 ∧ ((¬ (σ.1 (v0 + 1) v1.toNatClampNeg) = (3 : Int32)) → ∃ g3 : gtX0_putBehind, qrX0_putBehind g3 v0 v1 v2 σ ∧ ∀ (r1 : Unit) (σ2 : px_St), qoX0_putBehind g3 v0 v1 v2 σ r1 σ2 → po () σ2) ∧ (¬ (¬ (σ.1 (v0 + 1) v1.toNatClampNeg) = (3 : Int32)) → ∃ g7 : gtX0_putAhead, qrX0_putAhead g7 v0 v1 v2 σ ∧ ∀ (r5 : Unit) (σ6 : px_St), qoX0_putAhead g7 v0 v1 v2 σ r5 σ6 → po () σ6)) ∧ (¬ ((σ.1 (v0 + 1) v1.toNatClampNeg) = (2 : Int32)) → ∃ g12 : gtX0_hasInMemory, qrX0_hasInMemory g12 v0 v1 v2 σ ∧ ∀ (r10 : Int32) (σ11 : px_St), qoX0_hasInMemory g12 v0 v1 v2 σ r10 σ11 → ((r10 = 0) → vp_in v1 5 ∧ ((¬ (σ11.1 (v0 + 1) v1.toNatClampNeg) = (3 : Int32)) → ∃ g16 : gtX0_putBehind, qrX0_putBehind g16 v0 v1 v2 σ11 ∧ ∀ (r14 : Unit) (σ15 : px_St), qoX0_putBehind g16 v0 v1 v2 σ11 r14 σ15 → po () σ15) ∧ (¬ (¬ (σ11.1 (v0 + 1) v1.toNatClampNeg) = (3 : Int32)) → ∃ g20 : gtX0_putAhead, qrX0_putAhead g20 v0 v1 v2 σ11 ∧ ∀ (r18 : Unit) (σ19 : px_St), qoX0_putAhead g20 v0 v1 v2 σ11 r18 σ19 → po () σ19)) ∧ (¬ (r10 = 0) → po () σ11)))) :
    G 0 (px_ent 3 [.ref v0, .int v1, .int v2]) [] σ := by
  refine hG.1 0 _ _ rfl _ _ _ ?_
  refine hG.1 1 _ _ rfl _ _ _ ?_
  refine ⟨(av_s0 hv0), ?_⟩
  refine hG.1 2 _ _ rfl _ _ _ ?_
  refine hG.1 3 _ _ rfl _ _ _ ?_
  refine ⟨(av_s1 hv0), by rw [(av_l1 hv0)]; exact H.1, ?_⟩
  replace H := H.2
  refine hG.1 4 _ _ rfl _ _ _ ?_
  refine hG.1 5 _ _ rfl _ _ _ ?_
  refine ⟨fun h25 => ?_, fun h25 => ?_⟩
  · replace H := H.1 h25
    refine hG.1 17 _ _ rfl _ _ _ ?_
    exact H
  · replace H := H.2 h25
    refine hG.1 6 _ _ rfl _ _ _ ?_
    refine hG.1 7 _ _ rfl _ _ _ ?_
    refine ⟨(av_s0 hv0), ?_⟩
    refine hG.1 8 _ _ rfl _ _ _ ?_
    refine hG.1 9 _ _ rfl _ _ _ ?_
    refine ⟨(av_s1 hv0), by rw [(av_l1 hv0)]; exact H.1, ?_⟩
    replace H := H.2
    refine hG.1 10 _ _ rfl _ _ _ ?_
    refine hG.1 11 _ _ rfl _ _ _ ?_
    refine ⟨fun h24 => ?_, fun h24 => ?_⟩
    · replace H := H.1 h24
      refine hG.1 18 _ _ rfl _ _ _ ?_
      refine hG.1 19 _ _ rfl _ _ _ ?_
      refine ⟨(av_s0 hv0), ?_⟩
      refine hG.1 20 _ _ rfl _ _ _ ?_
      refine hG.1 21 _ _ rfl _ _ _ ?_
      refine ⟨(av_s1 hv0), by rw [(av_l1 hv0)]; exact H.1, ?_⟩
      replace H := H.2
      refine hG.1 22 _ _ rfl _ _ _ ?_
      refine hG.1 23 _ _ rfl _ _ _ ?_
      refine ⟨fun h9 => ?_, fun h9 => ?_⟩
      · replace H := H.1 h9
        refine hG.1 29 _ _ rfl _ _ _ ?_
        refine hG.1 30 _ _ rfl _ _ _ ?_
        refine hG.1 31 _ _ rfl _ _ _ ?_
        refine hG.1 32 _ _ rfl _ _ _ ?_
        obtain ⟨g3, H⟩ := H
        refine ⟨(av_s0 hv0), Nat.le_of_ble_eq_true rfl, g3, ⟨_, _, _, rfl, hv0, H.1⟩, fun r1 σ2 hp4 => ?_⟩
        replace H := H.2 r1 σ2 hp4
        refine hG.1 33 _ _ rfl _ _ _ ?_
        exact H
      · replace H := H.2 h9
        refine hG.1 24 _ _ rfl _ _ _ ?_
        refine hG.1 25 _ _ rfl _ _ _ ?_
        refine hG.1 26 _ _ rfl _ _ _ ?_
        refine hG.1 27 _ _ rfl _ _ _ ?_
        obtain ⟨g7, H⟩ := H
        refine ⟨(av_s0 hv0), Nat.le_of_ble_eq_true rfl, g7, ⟨_, _, _, rfl, hv0, H.1⟩, fun r5 σ6 hp8 => ?_⟩
        replace H := H.2 r5 σ6 hp8
        refine hG.1 28 _ _ rfl _ _ _ ?_
        refine hG.1 33 _ _ rfl _ _ _ ?_
        exact H
    · replace H := H.2 h24
      refine hG.1 12 _ _ rfl _ _ _ ?_
      refine hG.1 13 _ _ rfl _ _ _ ?_
      refine hG.1 14 _ _ rfl _ _ _ ?_
      refine hG.1 15 _ _ rfl _ _ _ ?_
      obtain ⟨g12, H⟩ := H
      refine ⟨(av_s0 hv0), Nat.le_of_ble_eq_true rfl, g12, ⟨_, _, _, rfl, hv0, H.1⟩, fun r10 σ11 hp13 => ?_⟩
      replace H := H.2 r10 σ11 hp13
      refine hG.1 16 _ _ rfl _ _ _ ?_
      refine ⟨fun h23 => ?_, fun h23 => ?_⟩
      · replace H := H.1 h23
        refine hG.1 18 _ _ rfl _ _ _ ?_
        refine hG.1 19 _ _ rfl _ _ _ ?_
        refine ⟨(av_s0 hv0), ?_⟩
        refine hG.1 20 _ _ rfl _ _ _ ?_
        refine hG.1 21 _ _ rfl _ _ _ ?_
        refine ⟨(av_s1 hv0), by rw [(av_l1 hv0)]; exact H.1, ?_⟩
        replace H := H.2
        refine hG.1 22 _ _ rfl _ _ _ ?_
        refine hG.1 23 _ _ rfl _ _ _ ?_
        refine ⟨fun h22 => ?_, fun h22 => ?_⟩
        · replace H := H.1 h22
          refine hG.1 29 _ _ rfl _ _ _ ?_
          refine hG.1 30 _ _ rfl _ _ _ ?_
          refine hG.1 31 _ _ rfl _ _ _ ?_
          refine hG.1 32 _ _ rfl _ _ _ ?_
          obtain ⟨g16, H⟩ := H
          refine ⟨(av_s0 hv0), Nat.le_of_ble_eq_true rfl, g16, ⟨_, _, _, rfl, hv0, H.1⟩, fun r14 σ15 hp17 => ?_⟩
          replace H := H.2 r14 σ15 hp17
          refine hG.1 33 _ _ rfl _ _ _ ?_
          exact H
        · replace H := H.2 h22
          refine hG.1 24 _ _ rfl _ _ _ ?_
          refine hG.1 25 _ _ rfl _ _ _ ?_
          refine hG.1 26 _ _ rfl _ _ _ ?_
          refine hG.1 27 _ _ rfl _ _ _ ?_
          obtain ⟨g20, H⟩ := H
          refine ⟨(av_s0 hv0), Nat.le_of_ble_eq_true rfl, g20, ⟨_, _, _, rfl, hv0, H.1⟩, fun r18 σ19 hp21 => ?_⟩
          replace H := H.2 r18 σ19 hp21
          refine hG.1 28 _ _ rfl _ _ _ ?_
          refine hG.1 33 _ _ rfl _ _ _ ?_
          exact H
      · replace H := H.2 h23
        refine hG.1 17 _ _ rfl _ _ _ ?_
        exact H
set_option maxRecDepth 100000 in
set_option maxHeartbeats 4000000 in
theorem hhX0_learn (g : gtX0_learn) (v0 : Nat) (hv0 : px_av v0) (v1 : Int32) (v2 : Int32) (σ : px_St) (h : qrX0_learn g v0 v1 v2 σ) (G : px_K) (hG : px_cl (opX0_learn (qoX0_learn g v0 v1 v2 σ)) G) : G 0 (px_ent 3 [.ref v0, .int v1, .int v2]) [] σ := by
  obtain ⟨V, p, s⟩ := g
  obtain ⟨hV, hw, hp, hs, rfl, rfl⟩ := h
  obtain ⟨hk3, hl, hx9⟩ := hw.2.2.2 p hp
  have h5 := hw.1
  obtain ⟨g1, g2, g3, g4⟩ := hV.2 p hp
  have hin : vp_in (nI p) 5 := vp_in_nI (by omega) (by decide)
  refine sgX0_learn_0 hG v0 hv0 _ _ σ ?_
  rw [nI_clamp (by omega), g1]
  have c3 : nI (V.2.2.2 p).1 = 3 ↔ (V.2.2.2 p).1 = 3 := nIe _ 3 rfl rfl (by omega) (by omega)
  have c2 : nI (V.2.2.2 p).1 = 2 ↔ (V.2.2.2 p).1 = 2 := nIe _ 2 rfl rfl (by omega) (by omega)
  have c1 : nI (V.2.2.2 p).1 = 1 ↔ (V.2.2.2 p).1 = 1 := nIe _ 1 rfl rfl (by omega) (by omega)
  rw [c3, c2, c1]
  refine ⟨hin, fun k1 => ?_, fun k1 => ⟨hin, fun k2 => ⟨hin, fun k3 => ?_, fun k3 => absurd (fun z => by omega) k3⟩, fun k2 => ⟨(V, p, s), ⟨hV, hw, hp, hs, rfl, rfl⟩, fun r σ1 hq => ?_⟩⟩⟩
  · have e : pv_learn (V.2.2.2 p) s = V.2.2.2 p := by unfold pv_learn; rw [if_pos k1]
    refine ⟨?_, px_only.rf⟩
    rw [e, pv_at_same]
    exact hV
  · have e : pv_learn (V.2.2.2 p) s = ((V.2.2.2 p).1, (V.2.2.2 p).2.1, pv_put (V.2.2.2 p).2.2 s) := by unfold pv_learn; rw [if_neg k1, if_pos k2]
    refine ⟨(V, p, s), ⟨hV, hw, hp, hs, rfl, rfl⟩, fun _ σ2 hq => ?_⟩
    show av_is σ2 v0 (pv_at V p (pv_learn (V.2.2.2 p) s)) ∧ px_only v0 σ σ2
    rw [e]
    exact hq
  · obtain ⟨rfl, hb⟩ := hq
    rw [px_b_0 hb, g1, c3]
    refine ⟨fun hm => ⟨hin, fun k3 => ⟨(V, p, s), ⟨hV, hw, hp, hs, rfl, rfl⟩, fun _ σ2 hq => ?_⟩, fun k3 => ⟨(V, p, s), ⟨hV, hw, hp, hs, rfl, rfl⟩, fun _ σ2 hq => ?_⟩⟩, fun hm => ?_⟩
    · have e : pv_learn (V.2.2.2 p) s = ((V.2.2.2 p).1, (V.2.2.2 p).2.1, pv_put (V.2.2.2 p).2.2 s) := by unfold pv_learn; rw [if_neg k1, if_neg k2, if_neg hm, if_neg k3]
      show av_is σ2 v0 (pv_at V p (pv_learn (V.2.2.2 p) s)) ∧ px_only v0 _ σ2
      rw [e]
      exact hq
    · have e : pv_learn (V.2.2.2 p) s = ((V.2.2.2 p).1, (V.2.2.2 p).2.1, pv_ahead (V.2.2.2 p).2.2 s) := by unfold pv_learn; rw [if_neg k1, if_neg k2, if_neg hm, if_pos (by omega)]
      show av_is σ2 v0 (pv_at V p (pv_learn (V.2.2.2 p) s)) ∧ px_only v0 _ σ2
      rw [e]
      exact hq
    · have hm' : s ∈ (V.2.2.2 p).2.2 := Classical.byContradiction hm
      have e : pv_learn (V.2.2.2 p) s = V.2.2.2 p := by unfold pv_learn; rw [if_neg k1, if_neg k2, if_pos hm']
      refine ⟨?_, px_only.rf⟩
      rw [e, pv_at_same]
      exact hV
theorem mX0_learn (g : gtX0_learn) : px_Met dC yX0_learn (Cond.code yX0_learn cX0_learn 3 none :: wdC) rmX0_learn px_vV (prX0_learn g) (poX0_learn g) :=
  px_met (Z := (cX0_learn, 3, RX0, Cond.code yX0_learn cX0_learn 3 none :: wdC, none, rmX0_learn, dC)) opX0_learn (by decide) rfl rfl okX0_learn (fun As σ h => by obtain ⟨v0, v1, v2, rfl, hv0, h⟩ := h; exact Nat.le_of_ble_eq_true rfl) (fun As σ h G hG => by obtain ⟨v0, v1, v2, rfl, hv0, h⟩ := h; exact hhX0_learn g v0 hv0 v1 v2 σ h G hG)
