/-! ===== the reference's text: letters, names ===== -/
def rbM (σ : px_St) (T : List Nat) : Prop := σ.1 0 6 = nI T.length ∧ ∀ i, i < T.length → σ.1 5 i = nI (ch T i)
def bt (T : List Nat) (p : Nat) : Int32 := if p < T.length then nI (ch T p) else -1
theorem nI_m1 {n : Nat} (hn : n < 2 ^ 31) : ¬ (-1 : Int32) = nI n := fun q => by
  have h0 : (0 : Int32) ≤ nI n := (nIle 0 n rfl rfl (by omega) hn).mpr (Nat.zero_le _)
  rw [← q] at h0
  exact absurd h0 (by decide)
theorem bt_eq {T : List Nat} (hT : tx_ok T) {p : Nat} {c : Int32} (n : Nat) (hc : c = nI n) (hn : n < 2 ^ 31) : bt T p = c ↔ p < T.length ∧ ch T p = n := by
  have h1 := ch_le hT p
  unfold bt
  rw [hc]
  by_cases h : p < T.length
  · rw [if_pos h, nI_eq (by omega) hn]
    exact ⟨fun q => ⟨h, q⟩, fun q => q.2⟩
  · rw [if_neg h]
    exact ⟨fun q => absurd q (nI_m1 hn), fun q => absurd q.1 h⟩
theorem bt_in {T : List Nat} (hT : tx_ok T) {p : Nat} {a b : Int32} (la lb : Nat) (ha : a = nI la) (hb : b = nI lb) (h1 : la < 2 ^ 31) (h2 : lb < 2 ^ 31) (hm : ¬ a ≤ -1) : (a ≤ bt T p ∧ bt T p ≤ b) ↔ p < T.length ∧ la ≤ ch T p ∧ ch T p ≤ lb := by
  have h3 := ch_le hT p
  unfold bt
  by_cases h : p < T.length
  · rw [if_pos h, nIle la _ ha rfl h1 (by omega), nIle _ lb rfl hb (by omega) h2]
    exact ⟨fun q => ⟨h, q⟩, fun q => q.2⟩
  · rw [if_neg h]
    exact ⟨fun q => absurd q.1 hm, fun q => absurd q.1 h⟩
theorem bt_0 {T : List Nat} (hT : tx_ok T) {p : Nat} : 0 ≤ bt T p ↔ p < T.length := by
  have h3 := ch_le hT p
  unfold bt
  by_cases h : p < T.length
  · rw [if_pos h]
    exact ⟨fun _ => h, fun _ => (nIle 0 _ rfl rfl (by omega) (by omega)).mpr (Nat.zero_le _)⟩
  · rw [if_neg h]
    exact ⟨fun q => absurd q (by decide), fun q => absurd q h⟩
theorem up0s {σ : px_St} {j : Nat} {x : Int32} : (px_up σ 0 j x).1 0 j = x := by rw [px_up_at, if_pos ⟨rfl, rfl⟩]
theorem up0n {σ : px_St} {j i : Nat} {x : Int32} (h : i ≠ j) : (px_up σ 0 j x).1 0 i = σ.1 0 i := by rw [px_up_at, if_neg (fun q => h q.2)]
/-- only the reading's own slots have changed -/
def fr0 (σ σ' : px_St) : Prop := (∀ k, k ≠ 0 → σ'.1 k = σ.1 k) ∧ ∀ j, j < 7 ∨ 12 < j → σ'.1 0 j = σ.1 0 j
theorem fr0.rf {σ : px_St} : fr0 σ σ := ⟨fun _ _ => rfl, fun _ _ => rfl⟩
theorem fr0.tr {σ σ' σ'' : px_St} (h : fr0 σ σ') (h' : fr0 σ' σ'') : fr0 σ σ'' := ⟨fun k a => (h'.1 k a).trans (h.1 k a), fun j hj => (h'.2 j hj).trans (h.2 j hj)⟩
theorem fr0.up {σ : px_St} {j : Nat} {x : Int32} (hj : 7 ≤ j ∧ j ≤ 12) : fr0 σ (px_up σ 0 j x) := ⟨fun k a => px_up_n a, fun i hi => up0n (by omega)⟩
theorem rbM.kept {σ σ' : px_St} {T : List Nat} (h : rbM σ T) (ho : fr0 σ σ') : rbM σ' T := ⟨by rw [ho.2 6 (by omega)]; exact h.1, fun i hi => by rw [ho.1 5 (by omega)]; exact h.2 i hi⟩
abbrev gtX6_requires : Type := Unit
def qrX6_requires (_ : Unit) (_ _ : Int32) (_ : px_St) : Prop := True
def qoX6_requires (_ : Unit) (v1 v2 : Int32) (σ : px_St) (_ : Unit) (σ' : px_St) : Prop := (¬ v1 = 0 → σ' = σ) ∧ (¬ σ.1 0 11 = 0 → σ' = σ) ∧ (v1 = 0 → σ.1 0 11 = 0 → σ' = px_up (px_up σ 0 11 v2) 0 12 (σ.1 0 8))
def prX6_requires (g : gtX6_requires) : List Value → px_St → Prop := fun As σ => ∃ v1 : Int32, ∃ v2 : Int32, As = [.ref 0, .int v1, .int v2] ∧ qrX6_requires g v1 v2 σ
def poX6_requires (g : gtX6_requires) : List Value → px_St → Unit → px_St → Prop
  | [.ref _, .int v1, .int v2], σ, r, σ' => qoX6_requires g v1 v2 σ r σ'
  | _, _, _, _ => False
theorem dX6_requires_0 : decode cX6_requires 0 = .ok (.iload_n 1, 1) := by decide +kernel
theorem dX6_requires_1 : decode cX6_requires 1 = .ok (.ifCond .ne 23, 3) := by decide +kernel
theorem dX6_requires_4 : decode cX6_requires 4 = .ok (.aload_n 0, 1) := by decide +kernel
theorem dX6_requires_5 : decode cX6_requires 5 = .ok (.getfield 64, 3) := by decide +kernel
theorem dX6_requires_8 : decode cX6_requires 8 = .ok (.ifCond .ne 16, 3) := by decide +kernel
theorem dX6_requires_11 : decode cX6_requires 11 = .ok (.aload_n 0, 1) := by decide +kernel
theorem dX6_requires_12 : decode cX6_requires 12 = .ok (.iload_n 2, 1) := by decide +kernel
theorem dX6_requires_13 : decode cX6_requires 13 = .ok (.putfield 64, 3) := by decide +kernel
theorem dX6_requires_16 : decode cX6_requires 16 = .ok (.aload_n 0, 1) := by decide +kernel
theorem dX6_requires_17 : decode cX6_requires 17 = .ok (.aload_n 0, 1) := by decide +kernel
theorem dX6_requires_18 : decode cX6_requires 18 = .ok (.getfield 67, 3) := by decide +kernel
theorem dX6_requires_21 : decode cX6_requires 21 = .ok (.putfield 70, 3) := by decide +kernel
theorem dX6_requires_24 : decode cX6_requires 24 = .ok (.return_, 1) := by decide +kernel
abbrev rmX6_requires : Room := { frames := 0, cells := 0, slots := 0, locals := 0 }
def opX6_requires (po : Unit → px_St → Prop) : List (Nat × px_Op) := [
  (0, px_il 1 1),
  (1, px_if 4 24 (fun x => ¬ x = 0)),
  (4, px_al 5 0),
  (5, px_get dM 8 6 11),
  (8, px_if 11 24 (fun x => ¬ x = 0)),
  (11, px_al 12 0),
  (12, px_il 13 2),
  (13, px_put dM 16 6 11 .int),
  (16, px_al 17 0),
  (17, px_al 18 0),
  (18, px_get dM 21 6 8),
  (21, px_put dM 24 6 12 .int),
  (24, px_vret po)]
set_option maxRecDepth 100000 in
set_option maxHeartbeats 4000000 in
theorem okX6_requires : ∀ (po : Unit → px_St → Prop) (i pc : Nat) (op : px_Op), (opX6_requires po)[i]? = some (pc, op) → px_Snd (cX6_requires, 3, RX6, Cond.code yX6_requires cX6_requires 3 none :: wdM, none, rmX6_requires, dM) px_vV po pc op := by
  intro po
  unfold opX6_requires
  refine px_ok_cons (ps_iload_n dX6_requires_0 rfl) ?_
  refine px_ok_cons (ps_if_ne dX6_requires_1 (by decide)) ?_
  refine px_ok_cons (ps_aload_n dX6_requires_4 rfl) ?_
  refine px_ok_cons (fgX6_64 dX6_requires_5) ?_
  refine px_ok_cons (ps_if_ne dX6_requires_8 (by decide)) ?_
  refine px_ok_cons (ps_aload_n dX6_requires_11 rfl) ?_
  refine px_ok_cons (ps_iload_n dX6_requires_12 rfl) ?_
  refine px_ok_cons (fpX6_64 dX6_requires_13) ?_
  refine px_ok_cons (ps_aload_n dX6_requires_16 rfl) ?_
  refine px_ok_cons (ps_aload_n dX6_requires_17 rfl) ?_
  refine px_ok_cons (fgX6_67 dX6_requires_18) ?_
  refine px_ok_cons (fpX6_70 dX6_requires_21) ?_
  refine px_ok_cons (ps_return rfl dX6_requires_24) ?_
  exact px_ok_nil
set_option maxRecDepth 100000 in
set_option maxHeartbeats 4000000 in
theorem sgX6_requires_0 {po : Unit → px_St → Prop} {G : px_K} (hG : px_cl (opX6_requires po) G) (v1 : Int32) (v2 : Int32) (σ : px_St)
    (H : ((¬ v1 = 0) → po () σ) ∧ (¬ (¬ v1 = 0) → ((¬ (σ.1 0 11) = 0) → po () σ) ∧ (¬ (¬ (σ.1 0 11) = 0) → po () (px_up (px_up σ 0 11 v2) 0 12 ((px_up σ 0 11 v2).1 0 8))))) :
    G 0 (px_ent 3 [.ref 0, .int v1, .int v2]) [] σ := by
  refine hG.1 0 _ _ rfl _ _ _ ?_
  refine hG.1 1 _ _ rfl _ _ _ ?_
  refine ⟨fun h2 => ?_, fun h2 => ?_⟩
  · replace H := H.1 h2
    refine hG.1 12 _ _ rfl _ _ _ ?_
    exact H
  · replace H := H.2 h2
    refine hG.1 2 _ _ rfl _ _ _ ?_
    refine hG.1 3 _ _ rfl _ _ _ ?_
    refine ⟨⟨rfl, by decide⟩, ?_⟩
    refine hG.1 4 _ _ rfl _ _ _ ?_
    refine ⟨fun h1 => ?_, fun h1 => ?_⟩
    · replace H := H.1 h1
      refine hG.1 12 _ _ rfl _ _ _ ?_
      exact H
    · replace H := H.2 h1
      refine hG.1 5 _ _ rfl _ _ _ ?_
      refine hG.1 6 _ _ rfl _ _ _ ?_
      refine hG.1 7 _ _ rfl _ _ _ ?_
      refine ⟨⟨rfl, by decide⟩, ⟨rfl, rfl⟩, ?_⟩
      refine hG.1 8 _ _ rfl _ _ _ ?_
      refine hG.1 9 _ _ rfl _ _ _ ?_
      refine hG.1 10 _ _ rfl _ _ _ ?_
      refine ⟨⟨rfl, by decide⟩, ?_⟩
      refine hG.1 11 _ _ rfl _ _ _ ?_
      refine ⟨⟨rfl, by decide⟩, ⟨rfl, rfl⟩, ?_⟩
      refine hG.1 12 _ _ rfl _ _ _ ?_
      exact H
set_option maxRecDepth 100000 in
set_option maxHeartbeats 4000000 in
theorem hhX6_requires (g : gtX6_requires) (v1 : Int32) (v2 : Int32) (σ : px_St) (h : qrX6_requires g v1 v2 σ) (G : px_K) (hG : px_cl (opX6_requires (qoX6_requires g v1 v2 σ)) G) : G 0 (px_ent 3 [.ref 0, .int v1, .int v2]) [] σ := by
  refine sgX6_requires_0 hG _ _ σ ⟨fun z => ⟨fun _ => rfl, fun _ => rfl, fun q => absurd q z⟩, fun z => ⟨fun y => ⟨fun _ => rfl, fun _ => rfl, fun _ q => absurd q y⟩, fun y => ⟨fun q => absurd q z, fun q => absurd q y, fun _ _ => ?_⟩⟩⟩
  rw [up0n (by omega)]
theorem mX6_requires (g : gtX6_requires) : px_Met dM yX6_requires (Cond.code yX6_requires cX6_requires 3 none :: wdM) rmX6_requires px_vV (prX6_requires g) (poX6_requires g) :=
  px_met (Z := (cX6_requires, 3, RX6, Cond.code yX6_requires cX6_requires 3 none :: wdM, none, rmX6_requires, dM)) opX6_requires (by decide) rfl rfl okX6_requires (fun As σ h => by obtain ⟨v1, v2, rfl, h⟩ := h; exact Nat.le_of_ble_eq_true rfl) (fun As σ h G hG => by obtain ⟨v1, v2, rfl, h⟩ := h; exact hhX6_requires g v1 v2 σ h G hG)
abbrev gtX6_byteAt : Type := List Nat × Nat
def qrX6_byteAt : gtX6_byteAt → Int32 → px_St → Prop
  | (T, p), v1, σ => rbM σ T ∧ tx_ok T ∧ v1 = nI p ∧ p < 1000
def qoX6_byteAt : gtX6_byteAt → Int32 → px_St → Int32 → px_St → Prop
  | (T, p), _, σ, r, σ' => σ = σ' ∧ r = bt T p
def prX6_byteAt (g : gtX6_byteAt) : List Value → px_St → Prop := fun As σ => ∃ v1 : Int32, As = [.ref 0, .int v1] ∧ qrX6_byteAt g v1 σ
def poX6_byteAt (g : gtX6_byteAt) : List Value → px_St → Int32 → px_St → Prop
  | [.ref _, .int v1], σ, r, σ' => qoX6_byteAt g v1 σ r σ'
  | _, _, _, _ => False
theorem dX6_byteAt_0 : decode cX6_byteAt 0 = .ok (.iload_n 1, 1) := by decide +kernel
theorem dX6_byteAt_1 : decode cX6_byteAt 1 = .ok (.aload_n 0, 1) := by decide +kernel
theorem dX6_byteAt_2 : decode cX6_byteAt 2 = .ok (.getfield 60, 3) := by decide +kernel
theorem dX6_byteAt_5 : decode cX6_byteAt 5 = .ok (.if_icmp .ge 12, 3) := by decide +kernel
theorem dX6_byteAt_8 : decode cX6_byteAt 8 = .ok (.aload_n 0, 1) := by decide +kernel
theorem dX6_byteAt_9 : decode cX6_byteAt 9 = .ok (.getfield 23, 3) := by decide +kernel
theorem dX6_byteAt_12 : decode cX6_byteAt 12 = .ok (.iload_n 1, 1) := by decide +kernel
theorem dX6_byteAt_13 : decode cX6_byteAt 13 = .ok (.iaload, 1) := by decide +kernel
theorem dX6_byteAt_14 : decode cX6_byteAt 14 = .ok (.goto 4, 3) := by decide +kernel
theorem dX6_byteAt_17 : decode cX6_byteAt 17 = .ok (.iconst (-1), 1) := by decide +kernel
theorem dX6_byteAt_18 : decode cX6_byteAt 18 = .ok (.ireturn, 1) := by decide +kernel
abbrev rmX6_byteAt : Room := { frames := 0, cells := 0, slots := 0, locals := 0 }
def opX6_byteAt (po : Int32 → px_St → Prop) : List (Nat × px_Op) := [
  (0, px_il 1 1),
  (1, px_al 2 0),
  (2, px_get dM 5 6 6),
  (5, px_ic 8 17 (fun x y => y ≤ x)),
  (8, px_al 9 0),
  (9, px_get dM 12 6 5),
  (12, px_il 13 1),
  (13, px_ald dM 14 0),
  (14, px_go 18),
  (17, px_push 18 (.int (-1))),
  (18, px_iret (.int) po)]
set_option maxRecDepth 100000 in
set_option maxHeartbeats 4000000 in
theorem okX6_byteAt : ∀ (po : Int32 → px_St → Prop) (i pc : Nat) (op : px_Op), (opX6_byteAt po)[i]? = some (pc, op) → px_Snd (cX6_byteAt, 2, RX6, Cond.code yX6_byteAt cX6_byteAt 2 (some .int) :: wdM, (some .int), rmX6_byteAt, dM) px_vI po pc op := by
  intro po
  unfold opX6_byteAt
  refine px_ok_cons (ps_iload_n dX6_byteAt_0 rfl) ?_
  refine px_ok_cons (ps_aload_n dX6_byteAt_1 rfl) ?_
  refine px_ok_cons (fgX6_60 dX6_byteAt_2) ?_
  refine px_ok_cons (ps_icmp_ge dX6_byteAt_5 (by decide)) ?_
  refine px_ok_cons (ps_aload_n dX6_byteAt_8 rfl) ?_
  refine px_ok_cons (fgX6_23 dX6_byteAt_9) ?_
  refine px_ok_cons (ps_iload_n dX6_byteAt_12 rfl) ?_
  refine px_ok_cons (ps_iaload dX6_byteAt_13) ?_
  refine px_ok_cons (ps_goto dX6_byteAt_14 (by decide)) ?_
  refine px_ok_cons (ps_iconst dX6_byteAt_17 (by decide)) ?_
  refine px_ok_cons (ps_ireturn rfl dX6_byteAt_18) ?_
  exact px_ok_nil
set_option maxRecDepth 100000 in
set_option maxHeartbeats 4000000 in
theorem sgX6_byteAt_0 {po : Int32 → px_St → Prop} {G : px_K} (hG : px_cl (opX6_byteAt po) G) (v1 : Int32) (σ : px_St)
    (H : (((σ.1 0 6) ≤ v1) → po (-1 : Int32) σ) ∧ (¬ ((σ.1 0 6) ≤ v1) → vp_in v1 160 ∧ po (σ.1 5 v1.toNatClampNeg) σ)) :
    G 0 (px_ent 2 [.ref 0, .int v1]) [] σ := by
  refine hG.1 0 _ _ rfl _ _ _ ?_
  refine hG.1 1 _ _ rfl _ _ _ ?_
  refine hG.1 2 _ _ rfl _ _ _ ?_
  refine ⟨⟨rfl, by decide⟩, ?_⟩
  refine hG.1 3 _ _ rfl _ _ _ ?_
  refine ⟨fun h1 => ?_, fun h1 => ?_⟩
  · replace H := H.1 h1
    refine hG.1 9 _ _ rfl _ _ _ ?_
    refine hG.1 10 _ _ rfl _ _ _ ?_
    exact ⟨rfl, H⟩
  · replace H := H.2 h1
    refine hG.1 4 _ _ rfl _ _ _ ?_
    refine hG.1 5 _ _ rfl _ _ _ ?_
    refine ⟨⟨rfl, by decide⟩, ?_⟩
    refine hG.1 6 _ _ rfl _ _ _ ?_
    refine hG.1 7 _ _ rfl _ _ _ ?_
    refine ⟨⟨rfl, by decide⟩, H.1, ?_⟩
    replace H := H.2
    refine hG.1 8 _ _ rfl _ _ _ ?_
    refine hG.1 10 _ _ rfl _ _ _ ?_
    exact ⟨rfl, H⟩
set_option maxRecDepth 100000 in
set_option maxHeartbeats 4000000 in
theorem hhX6_byteAt (g : gtX6_byteAt) (v1 : Int32) (σ : px_St) (h : qrX6_byteAt g v1 σ) (G : px_K) (hG : px_cl (opX6_byteAt (qoX6_byteAt g v1 σ)) G) : G 0 (px_ent 2 [.ref 0, .int v1]) [] σ := by
  obtain ⟨T, p⟩ := g
  obtain ⟨hb, hT, rfl, hp⟩ := h
  have hl := hT.1
  refine sgX6_byteAt_0 hG _ σ ?_
  rw [hb.1, nIle T.length p rfl rfl (by omega) (by omega)]
  refine ⟨fun z => ⟨rfl, ?_⟩, fun z => ⟨vp_in_nI (by omega) (by decide), rfl, ?_⟩⟩
  · unfold bt; rw [if_neg (by omega)]
  · unfold bt; rw [nI_clamp (by omega), if_pos (by omega)]; exact hb.2 p (by omega)
theorem mX6_byteAt (g : gtX6_byteAt) : px_Met dM yX6_byteAt (Cond.code yX6_byteAt cX6_byteAt 2 (some .int) :: wdM) rmX6_byteAt px_vI (prX6_byteAt g) (poX6_byteAt g) :=
  px_met (Z := (cX6_byteAt, 2, RX6, Cond.code yX6_byteAt cX6_byteAt 2 (some .int) :: wdM, (some .int), rmX6_byteAt, dM)) opX6_byteAt (by decide) rfl rfl okX6_byteAt (fun As σ h => by obtain ⟨v1, rfl, h⟩ := h; exact Nat.le_of_ble_eq_true rfl) (fun As σ h G hG => by obtain ⟨v1, rfl, h⟩ := h; exact hhX6_byteAt g v1 σ h G hG)
abbrev gtX6_is : Type := List Nat × Nat × Nat
def qrX6_is : gtX6_is → Int32 → Int32 → Int32 → Int32 → px_St → Prop
  | (T, f, t), _, _, _, _, σ => rbM σ T ∧ tx_ok T ∧ σ.1 0 8 = nI f ∧ σ.1 0 7 = nI t ∧ f ≤ t ∧ t ≤ 160
def qoX6_is : gtX6_is → Int32 → Int32 → Int32 → Int32 → px_St → Int32 → px_St → Prop
  | (T, f, t), v1, v2, v3, v4, σ, r, σ' => σ = σ' ∧ px_b (nI (t - f) = v1 ∧ bt T f = v2 ∧ bt T (f + 1) = v3 ∧ bt T (f + 2) = v4) r
def prX6_is (g : gtX6_is) : List Value → px_St → Prop := fun As σ => ∃ v1 : Int32, ∃ v2 : Int32, ∃ v3 : Int32, ∃ v4 : Int32, As = [.ref 0, .int v1, .int v2, .int v3, .int v4] ∧ qrX6_is g v1 v2 v3 v4 σ
def poX6_is (g : gtX6_is) : List Value → px_St → Int32 → px_St → Prop
  | [.ref _, .int v1, .int v2, .int v3, .int v4], σ, r, σ' => qoX6_is g v1 v2 v3 v4 σ r σ'
  | _, _, _, _ => False
theorem dX6_is_0 : decode cX6_is 0 = .ok (.aload_n 0, 1) := by decide +kernel
theorem dX6_is_1 : decode cX6_is 1 = .ok (.getfield 73, 3) := by decide +kernel
theorem dX6_is_4 : decode cX6_is 4 = .ok (.aload_n 0, 1) := by decide +kernel
theorem dX6_is_5 : decode cX6_is 5 = .ok (.getfield 67, 3) := by decide +kernel
theorem dX6_is_8 : decode cX6_is 8 = .ok (.isub, 1) := by decide +kernel
theorem dX6_is_9 : decode cX6_is 9 = .ok (.iload_n 1, 1) := by decide +kernel
theorem dX6_is_10 : decode cX6_is 10 = .ok (.if_icmp .ne 48, 3) := by decide +kernel
theorem dX6_is_13 : decode cX6_is 13 = .ok (.aload_n 0, 1) := by decide +kernel
theorem dX6_is_14 : decode cX6_is 14 = .ok (.aload_n 0, 1) := by decide +kernel
theorem dX6_is_15 : decode cX6_is 15 = .ok (.getfield 67, 3) := by decide +kernel
theorem dX6_is_18 : decode cX6_is 18 = .ok (.invokevirtual 76, 3) := by decide +kernel
theorem dX6_is_21 : decode cX6_is 21 = .ok (.iload_n 2, 1) := by decide +kernel
theorem dX6_is_22 : decode cX6_is 22 = .ok (.if_icmp .ne 36, 3) := by decide +kernel
theorem dX6_is_25 : decode cX6_is 25 = .ok (.aload_n 0, 1) := by decide +kernel
theorem dX6_is_26 : decode cX6_is 26 = .ok (.aload_n 0, 1) := by decide +kernel
theorem dX6_is_27 : decode cX6_is 27 = .ok (.getfield 67, 3) := by decide +kernel
theorem dX6_is_30 : decode cX6_is 30 = .ok (.iconst 1, 1) := by decide +kernel
theorem dX6_is_31 : decode cX6_is 31 = .ok (.iadd, 1) := by decide +kernel
theorem dX6_is_32 : decode cX6_is 32 = .ok (.invokevirtual 76, 3) := by decide +kernel
theorem dX6_is_35 : decode cX6_is 35 = .ok (.iload_n 3, 1) := by decide +kernel
theorem dX6_is_36 : decode cX6_is 36 = .ok (.if_icmp .ne 22, 3) := by decide +kernel
theorem dX6_is_39 : decode cX6_is 39 = .ok (.aload_n 0, 1) := by decide +kernel
theorem dX6_is_40 : decode cX6_is 40 = .ok (.aload_n 0, 1) := by decide +kernel
theorem dX6_is_41 : decode cX6_is 41 = .ok (.getfield 67, 3) := by decide +kernel
theorem dX6_is_44 : decode cX6_is 44 = .ok (.iconst 2, 1) := by decide +kernel
theorem dX6_is_45 : decode cX6_is 45 = .ok (.iadd, 1) := by decide +kernel
theorem dX6_is_46 : decode cX6_is 46 = .ok (.invokevirtual 76, 3) := by decide +kernel
theorem dX6_is_49 : decode cX6_is 49 = .ok (.iload 4, 2) := by decide +kernel
theorem dX6_is_51 : decode cX6_is 51 = .ok (.if_icmp .ne 7, 3) := by decide +kernel
theorem dX6_is_54 : decode cX6_is 54 = .ok (.iconst 1, 1) := by decide +kernel
theorem dX6_is_55 : decode cX6_is 55 = .ok (.goto 4, 3) := by decide +kernel
theorem dX6_is_58 : decode cX6_is 58 = .ok (.iconst 0, 1) := by decide +kernel
theorem dX6_is_59 : decode cX6_is 59 = .ok (.ireturn, 1) := by decide +kernel
abbrev rmX6_is : Room := { frames := 1, cells := 0, slots := 0, locals := 21 }
def opX6_is (po : Int32 → px_St → Prop) : List (Nat × px_Op) := [
  (0, px_al 1 0),
  (1, px_get dM 4 6 7),
  (4, px_al 5 0),
  (5, px_get dM 8 6 8),
  (8, px_bin 9 (fun x y => x - y)),
  (9, px_il 10 1),
  (10, px_ic 13 58 (fun x y => ¬ x = y)),
  (13, px_al 14 0),
  (14, px_al 15 0),
  (15, px_get dM 18 6 8),
  (18, px_callV dM 21 6 1 px_vI prX6_byteAt poX6_byteAt),
  (21, px_il 22 2),
  (22, px_ic 25 58 (fun x y => ¬ x = y)),
  (25, px_al 26 0),
  (26, px_al 27 0),
  (27, px_get dM 30 6 8),
  (30, px_push 31 (.int 1)),
  (31, px_bin 32 (fun x y => x + y)),
  (32, px_callV dM 35 6 1 px_vI prX6_byteAt poX6_byteAt),
  (35, px_il 36 3),
  (36, px_ic 39 58 (fun x y => ¬ x = y)),
  (39, px_al 40 0),
  (40, px_al 41 0),
  (41, px_get dM 44 6 8),
  (44, px_push 45 (.int 2)),
  (45, px_bin 46 (fun x y => x + y)),
  (46, px_callV dM 49 6 1 px_vI prX6_byteAt poX6_byteAt),
  (49, px_il 51 4),
  (51, px_ic 54 58 (fun x y => ¬ x = y)),
  (54, px_push 55 (.int 1)),
  (55, px_go 59),
  (58, px_push 59 (.int 0)),
  (59, px_iret (.boolean) po)]
set_option maxRecDepth 100000 in
set_option maxHeartbeats 4000000 in
theorem okX6_is : ∀ (po : Int32 → px_St → Prop) (i pc : Nat) (op : px_Op), (opX6_is po)[i]? = some (pc, op) → px_Snd (cX6_is, 5, RX6, Cond.code yX6_is cX6_is 5 (some .boolean) :: wdM, (some .boolean), rmX6_is, dM) px_vI po pc op := by
  intro po
  unfold opX6_is
  refine px_ok_cons (ps_aload_n dX6_is_0 rfl) ?_
  refine px_ok_cons (fgX6_73 dX6_is_1) ?_
  refine px_ok_cons (ps_aload_n dX6_is_4 rfl) ?_
  refine px_ok_cons (fgX6_67 dX6_is_5) ?_
  refine px_ok_cons (ps_isub dX6_is_8) ?_
  refine px_ok_cons (ps_iload_n dX6_is_9 rfl) ?_
  refine px_ok_cons (ps_icmp_ne dX6_is_10 (by decide)) ?_
  refine px_ok_cons (ps_aload_n dX6_is_13 rfl) ?_
  refine px_ok_cons (ps_aload_n dX6_is_14 rfl) ?_
  refine px_ok_cons (fgX6_67 dX6_is_15) ?_
  refine px_ok_cons (ps_callV mX6_byteAt (fun _ _ => rfl) (C := RX6) rfl (fun _ _ ht => px_cwV wgM (wdM_1_in _ (List.mem_of_getElem? (i := 2) rfl)) (wdM_1_in _ (List.mem_of_getElem? (i := 3) rfl)) (wdM_1_in _ (List.mem_of_getElem? (i := 4) rfl)) (wdM_0_in _ (List.mem_of_getElem? (i := 22) rfl)) (wdM_0_in _ (List.mem_of_getElem? (i := 39) rfl)) (by decide +kernel) rfl rfl (by decide) ht) dX6_is_18) ?_
  refine px_ok_cons (ps_iload_n dX6_is_21 rfl) ?_
  refine px_ok_cons (ps_icmp_ne dX6_is_22 (by decide)) ?_
  refine px_ok_cons (ps_aload_n dX6_is_25 rfl) ?_
  refine px_ok_cons (ps_aload_n dX6_is_26 rfl) ?_
  refine px_ok_cons (fgX6_67 dX6_is_27) ?_
  refine px_ok_cons (ps_iconst dX6_is_30 (by decide)) ?_
  refine px_ok_cons (ps_iadd dX6_is_31) ?_
  refine px_ok_cons (ps_callV mX6_byteAt (fun _ _ => rfl) (C := RX6) rfl (fun _ _ ht => px_cwV wgM (wdM_1_in _ (List.mem_of_getElem? (i := 2) rfl)) (wdM_1_in _ (List.mem_of_getElem? (i := 3) rfl)) (wdM_1_in _ (List.mem_of_getElem? (i := 4) rfl)) (wdM_0_in _ (List.mem_of_getElem? (i := 22) rfl)) (wdM_0_in _ (List.mem_of_getElem? (i := 39) rfl)) (by decide +kernel) rfl rfl (by decide) ht) dX6_is_32) ?_
  refine px_ok_cons (ps_iload_n dX6_is_35 rfl) ?_
  refine px_ok_cons (ps_icmp_ne dX6_is_36 (by decide)) ?_
  refine px_ok_cons (ps_aload_n dX6_is_39 rfl) ?_
  refine px_ok_cons (ps_aload_n dX6_is_40 rfl) ?_
  refine px_ok_cons (fgX6_67 dX6_is_41) ?_
  refine px_ok_cons (ps_iconst dX6_is_44 (by decide)) ?_
  refine px_ok_cons (ps_iadd dX6_is_45) ?_
  refine px_ok_cons (ps_callV mX6_byteAt (fun _ _ => rfl) (C := RX6) rfl (fun _ _ ht => px_cwV wgM (wdM_1_in _ (List.mem_of_getElem? (i := 2) rfl)) (wdM_1_in _ (List.mem_of_getElem? (i := 3) rfl)) (wdM_1_in _ (List.mem_of_getElem? (i := 4) rfl)) (wdM_0_in _ (List.mem_of_getElem? (i := 22) rfl)) (wdM_0_in _ (List.mem_of_getElem? (i := 39) rfl)) (by decide +kernel) rfl rfl (by decide) ht) dX6_is_46) ?_
  refine px_ok_cons (ps_iload dX6_is_49) ?_
  refine px_ok_cons (ps_icmp_ne dX6_is_51 (by decide)) ?_
  refine px_ok_cons (ps_iconst dX6_is_54 (by decide)) ?_
  refine px_ok_cons (ps_goto dX6_is_55 (by decide)) ?_
  refine px_ok_cons (ps_iconst dX6_is_58 (by decide)) ?_
  refine px_ok_cons (ps_ireturn rfl dX6_is_59) ?_
  exact px_ok_nil
set_option maxRecDepth 100000 in
set_option maxHeartbeats 4000000 in
theorem sgX6_is_0 {po : Int32 → px_St → Prop} {G : px_K} (hG : px_cl (opX6_is po) G) (v1 : Int32) (v2 : Int32) (v3 : Int32) (v4 : Int32) (σ : px_St)
    (H : ((¬ ((σ.1 0 7) - (σ.1 0 8)) = v1) → po (0 : Int32) σ) ∧ (¬ (¬ ((σ.1 0 7) - (σ.1 0 8)) = v1) → ∃ g3 : gtX6_byteAt, qrX6_byteAt g3 (σ.1 0 8) σ ∧ ∀ (r1 : Int32) (σ2 : px_St), qoX6_byteAt g3 (σ.1 0 8) σ r1 σ2 → ((¬ r1 = v2) → po (0 : Int32) σ2) ∧ (¬ (¬ r1 = v2) → ∃ g7 : gtX6_byteAt, qrX6_byteAt g7 ((σ2.1 0 8) + (1 : Int32)) σ2 ∧ ∀ (r5 : Int32) (σ6 : px_St), qoX6_byteAt g7 ((σ2.1 0 8) + (1 : Int32)) σ2 r5 σ6 → ((¬ r5 = v3) → po (0 : Int32) σ6) ∧ (¬ (¬ r5 = v3) → ∃ g11 : gtX6_byteAt, qrX6_byteAt g11 ((σ6.1 0 8) + (2 : Int32)) σ6 ∧ ∀ (r9 : Int32) (σ10 : px_St), qoX6_byteAt g11 ((σ6.1 0 8) + (2 : Int32)) σ6 r9 σ10 → ((¬ r9 = v4) → po (0 : Int32) σ10) ∧ (¬ (¬ r9 = v4) → po (1 : Int32) σ10))))) :
    G 0 (px_ent 5 [.ref 0, .int v1, .int v2, .int v3, .int v4]) [] σ := by
  refine hG.1 0 _ _ rfl _ _ _ ?_
  refine hG.1 1 _ _ rfl _ _ _ ?_
  refine ⟨⟨rfl, by decide⟩, ?_⟩
  refine hG.1 2 _ _ rfl _ _ _ ?_
  refine hG.1 3 _ _ rfl _ _ _ ?_
  refine ⟨⟨rfl, by decide⟩, ?_⟩
  refine hG.1 4 _ _ rfl _ _ _ ?_
  refine hG.1 5 _ _ rfl _ _ _ ?_
  refine hG.1 6 _ _ rfl _ _ _ ?_
  refine ⟨fun h16 => ?_, fun h16 => ?_⟩
  · replace H := H.1 h16
    refine hG.1 31 _ _ rfl _ _ _ ?_
    refine hG.1 32 _ _ rfl _ _ _ ?_
    exact ⟨rfl, H⟩
  · replace H := H.2 h16
    refine hG.1 7 _ _ rfl _ _ _ ?_
    refine hG.1 8 _ _ rfl _ _ _ ?_
    refine hG.1 9 _ _ rfl _ _ _ ?_
    refine ⟨⟨rfl, by decide⟩, ?_⟩
    refine hG.1 10 _ _ rfl _ _ _ ?_
    obtain ⟨g3, H⟩ := H
    refine ⟨⟨rfl, by decide⟩, Nat.le_of_ble_eq_true rfl, g3, ⟨_, rfl, H.1⟩, fun r1 σ2 hp4 => ?_⟩
    replace H := H.2 r1 σ2 hp4
    refine hG.1 11 _ _ rfl _ _ _ ?_
    refine hG.1 12 _ _ rfl _ _ _ ?_
    refine ⟨fun h15 => ?_, fun h15 => ?_⟩
    · replace H := H.1 h15
      refine hG.1 31 _ _ rfl _ _ _ ?_
      refine hG.1 32 _ _ rfl _ _ _ ?_
      exact ⟨rfl, H⟩
    · replace H := H.2 h15
      refine hG.1 13 _ _ rfl _ _ _ ?_
      refine hG.1 14 _ _ rfl _ _ _ ?_
      refine hG.1 15 _ _ rfl _ _ _ ?_
      refine ⟨⟨rfl, by decide⟩, ?_⟩
      refine hG.1 16 _ _ rfl _ _ _ ?_
      refine hG.1 17 _ _ rfl _ _ _ ?_
      refine hG.1 18 _ _ rfl _ _ _ ?_
      obtain ⟨g7, H⟩ := H
      refine ⟨⟨rfl, by decide⟩, Nat.le_of_ble_eq_true rfl, g7, ⟨_, rfl, H.1⟩, fun r5 σ6 hp8 => ?_⟩
      replace H := H.2 r5 σ6 hp8
      refine hG.1 19 _ _ rfl _ _ _ ?_
      refine hG.1 20 _ _ rfl _ _ _ ?_
      refine ⟨fun h14 => ?_, fun h14 => ?_⟩
      · replace H := H.1 h14
        refine hG.1 31 _ _ rfl _ _ _ ?_
        refine hG.1 32 _ _ rfl _ _ _ ?_
        exact ⟨rfl, H⟩
      · replace H := H.2 h14
        refine hG.1 21 _ _ rfl _ _ _ ?_
        refine hG.1 22 _ _ rfl _ _ _ ?_
        refine hG.1 23 _ _ rfl _ _ _ ?_
        refine ⟨⟨rfl, by decide⟩, ?_⟩
        refine hG.1 24 _ _ rfl _ _ _ ?_
        refine hG.1 25 _ _ rfl _ _ _ ?_
        refine hG.1 26 _ _ rfl _ _ _ ?_
        obtain ⟨g11, H⟩ := H
        refine ⟨⟨rfl, by decide⟩, Nat.le_of_ble_eq_true rfl, g11, ⟨_, rfl, H.1⟩, fun r9 σ10 hp12 => ?_⟩
        replace H := H.2 r9 σ10 hp12
        refine hG.1 27 _ _ rfl _ _ _ ?_
        refine hG.1 28 _ _ rfl _ _ _ ?_
        refine ⟨fun h13 => ?_, fun h13 => ?_⟩
        · replace H := H.1 h13
          refine hG.1 31 _ _ rfl _ _ _ ?_
          refine hG.1 32 _ _ rfl _ _ _ ?_
          exact ⟨rfl, H⟩
        · replace H := H.2 h13
          refine hG.1 29 _ _ rfl _ _ _ ?_
          refine hG.1 30 _ _ rfl _ _ _ ?_
          refine hG.1 32 _ _ rfl _ _ _ ?_
          exact ⟨rfl, H⟩
set_option maxRecDepth 100000 in
set_option maxHeartbeats 4000000 in
theorem hhX6_is (g : gtX6_is) (v1 : Int32) (v2 : Int32) (v3 : Int32) (v4 : Int32) (σ : px_St) (h : qrX6_is g v1 v2 v3 v4 σ) (G : px_K) (hG : px_cl (opX6_is (qoX6_is g v1 v2 v3 v4 σ)) G) : G 0 (px_ent 5 [.ref 0, .int v1, .int v2, .int v3, .int v4]) [] σ := by
  obtain ⟨T, f, t⟩ := g
  obtain ⟨hb, hT, h8, h7, hft, ht⟩ := h
  refine sgX6_is_0 hG _ _ _ _ σ ?_
  rw [h7, h8, pk_sub hft]
  refine ⟨fun z => ⟨rfl, Or.inr ⟨fun q => z q.1, rfl⟩⟩, fun z => ⟨(T, f), ⟨hb, hT, rfl, by omega⟩, fun r1 σ1 h1 => ?_⟩⟩
  obtain ⟨e1, rfl⟩ := h1
  subst e1
  refine ⟨fun y => ⟨rfl, Or.inr ⟨fun q => y q.2.1, rfl⟩⟩, fun y => ⟨(T, f + 1), ⟨hb, hT, by rw [h8]; exact nI_1 _, by omega⟩, fun r2 σ2 h2 => ?_⟩⟩
  obtain ⟨e2, rfl⟩ := h2
  subst e2
  refine ⟨fun x => ⟨rfl, Or.inr ⟨fun q => x q.2.2.1, rfl⟩⟩, fun x => ⟨(T, f + 2), ⟨hb, hT, by rw [h8]; exact nI_add _ 2, by omega⟩, fun r3 σ3 h3 => ?_⟩⟩
  obtain ⟨e3, rfl⟩ := h3
  subst e3
  exact ⟨fun w => ⟨rfl, Or.inr ⟨fun q => w q.2.2.2, rfl⟩⟩, fun w => ⟨rfl, Or.inl ⟨⟨Classical.byContradiction z, Classical.byContradiction y, Classical.byContradiction x, Classical.byContradiction w⟩, rfl⟩⟩⟩
theorem mX6_is (g : gtX6_is) : px_Met dM yX6_is (Cond.code yX6_is cX6_is 5 (some .boolean) :: wdM) rmX6_is px_vI (prX6_is g) (poX6_is g) :=
  px_met (Z := (cX6_is, 5, RX6, Cond.code yX6_is cX6_is 5 (some .boolean) :: wdM, (some .boolean), rmX6_is, dM)) opX6_is (by decide) rfl rfl okX6_is (fun As σ h => by obtain ⟨v1, v2, v3, v4, rfl, h⟩ := h; exact Nat.le_of_ble_eq_true rfl) (fun As σ h G hG => by obtain ⟨v1, v2, v3, v4, rfl, h⟩ := h; exact hhX6_is g v1 v2 v3 v4 σ h G hG)
abbrev gtX6_endsIn : Type := List Nat × Nat
def qrX6_endsIn : gtX6_endsIn → Int32 → Int32 → px_St → Prop
  | (T, f), _, _, σ => rbM σ T ∧ tx_ok T ∧ σ.1 0 8 = nI f ∧ f ≤ 160
def qoX6_endsIn : gtX6_endsIn → Int32 → Int32 → px_St → Int32 → px_St → Prop
  | (T, f), v1, v2, σ, r, σ' => σ = σ' ∧ px_b (bt T (f + 3) = v1 ∧ bt T (f + 4) = v2) r
def prX6_endsIn (g : gtX6_endsIn) : List Value → px_St → Prop := fun As σ => ∃ v1 : Int32, ∃ v2 : Int32, As = [.ref 0, .int v1, .int v2] ∧ qrX6_endsIn g v1 v2 σ
def poX6_endsIn (g : gtX6_endsIn) : List Value → px_St → Int32 → px_St → Prop
  | [.ref _, .int v1, .int v2], σ, r, σ' => qoX6_endsIn g v1 v2 σ r σ'
  | _, _, _, _ => False
theorem dX6_endsIn_0 : decode cX6_endsIn 0 = .ok (.aload_n 0, 1) := by decide +kernel
theorem dX6_endsIn_1 : decode cX6_endsIn 1 = .ok (.aload_n 0, 1) := by decide +kernel
theorem dX6_endsIn_2 : decode cX6_endsIn 2 = .ok (.getfield 67, 3) := by decide +kernel
theorem dX6_endsIn_5 : decode cX6_endsIn 5 = .ok (.iconst 3, 1) := by decide +kernel
theorem dX6_endsIn_6 : decode cX6_endsIn 6 = .ok (.iadd, 1) := by decide +kernel
theorem dX6_endsIn_7 : decode cX6_endsIn 7 = .ok (.invokevirtual 76, 3) := by decide +kernel
theorem dX6_endsIn_10 : decode cX6_endsIn 10 = .ok (.iload_n 1, 1) := by decide +kernel
theorem dX6_endsIn_11 : decode cX6_endsIn 11 = .ok (.if_icmp .ne 21, 3) := by decide +kernel
theorem dX6_endsIn_14 : decode cX6_endsIn 14 = .ok (.aload_n 0, 1) := by decide +kernel
theorem dX6_endsIn_15 : decode cX6_endsIn 15 = .ok (.aload_n 0, 1) := by decide +kernel
theorem dX6_endsIn_16 : decode cX6_endsIn 16 = .ok (.getfield 67, 3) := by decide +kernel
theorem dX6_endsIn_19 : decode cX6_endsIn 19 = .ok (.iconst 4, 1) := by decide +kernel
theorem dX6_endsIn_20 : decode cX6_endsIn 20 = .ok (.iadd, 1) := by decide +kernel
theorem dX6_endsIn_21 : decode cX6_endsIn 21 = .ok (.invokevirtual 76, 3) := by decide +kernel
theorem dX6_endsIn_24 : decode cX6_endsIn 24 = .ok (.iload_n 2, 1) := by decide +kernel
theorem dX6_endsIn_25 : decode cX6_endsIn 25 = .ok (.if_icmp .ne 7, 3) := by decide +kernel
theorem dX6_endsIn_28 : decode cX6_endsIn 28 = .ok (.iconst 1, 1) := by decide +kernel
theorem dX6_endsIn_29 : decode cX6_endsIn 29 = .ok (.goto 4, 3) := by decide +kernel
theorem dX6_endsIn_32 : decode cX6_endsIn 32 = .ok (.iconst 0, 1) := by decide +kernel
theorem dX6_endsIn_33 : decode cX6_endsIn 33 = .ok (.ireturn, 1) := by decide +kernel
abbrev rmX6_endsIn : Room := { frames := 1, cells := 0, slots := 0, locals := 21 }
def opX6_endsIn (po : Int32 → px_St → Prop) : List (Nat × px_Op) := [
  (0, px_al 1 0),
  (1, px_al 2 0),
  (2, px_get dM 5 6 8),
  (5, px_push 6 (.int 3)),
  (6, px_bin 7 (fun x y => x + y)),
  (7, px_callV dM 10 6 1 px_vI prX6_byteAt poX6_byteAt),
  (10, px_il 11 1),
  (11, px_ic 14 32 (fun x y => ¬ x = y)),
  (14, px_al 15 0),
  (15, px_al 16 0),
  (16, px_get dM 19 6 8),
  (19, px_push 20 (.int 4)),
  (20, px_bin 21 (fun x y => x + y)),
  (21, px_callV dM 24 6 1 px_vI prX6_byteAt poX6_byteAt),
  (24, px_il 25 2),
  (25, px_ic 28 32 (fun x y => ¬ x = y)),
  (28, px_push 29 (.int 1)),
  (29, px_go 33),
  (32, px_push 33 (.int 0)),
  (33, px_iret (.boolean) po)]
set_option maxRecDepth 100000 in
set_option maxHeartbeats 4000000 in
theorem okX6_endsIn : ∀ (po : Int32 → px_St → Prop) (i pc : Nat) (op : px_Op), (opX6_endsIn po)[i]? = some (pc, op) → px_Snd (cX6_endsIn, 3, RX6, Cond.code yX6_endsIn cX6_endsIn 3 (some .boolean) :: wdM, (some .boolean), rmX6_endsIn, dM) px_vI po pc op := by
  intro po
  unfold opX6_endsIn
  refine px_ok_cons (ps_aload_n dX6_endsIn_0 rfl) ?_
  refine px_ok_cons (ps_aload_n dX6_endsIn_1 rfl) ?_
  refine px_ok_cons (fgX6_67 dX6_endsIn_2) ?_
  refine px_ok_cons (ps_iconst dX6_endsIn_5 (by decide)) ?_
  refine px_ok_cons (ps_iadd dX6_endsIn_6) ?_
  refine px_ok_cons (ps_callV mX6_byteAt (fun _ _ => rfl) (C := RX6) rfl (fun _ _ ht => px_cwV wgM (wdM_1_in _ (List.mem_of_getElem? (i := 2) rfl)) (wdM_1_in _ (List.mem_of_getElem? (i := 3) rfl)) (wdM_1_in _ (List.mem_of_getElem? (i := 4) rfl)) (wdM_0_in _ (List.mem_of_getElem? (i := 22) rfl)) (wdM_0_in _ (List.mem_of_getElem? (i := 39) rfl)) (by decide +kernel) rfl rfl (by decide) ht) dX6_endsIn_7) ?_
  refine px_ok_cons (ps_iload_n dX6_endsIn_10 rfl) ?_
  refine px_ok_cons (ps_icmp_ne dX6_endsIn_11 (by decide)) ?_
  refine px_ok_cons (ps_aload_n dX6_endsIn_14 rfl) ?_
  refine px_ok_cons (ps_aload_n dX6_endsIn_15 rfl) ?_
  refine px_ok_cons (fgX6_67 dX6_endsIn_16) ?_
  refine px_ok_cons (ps_iconst dX6_endsIn_19 (by decide)) ?_
  refine px_ok_cons (ps_iadd dX6_endsIn_20) ?_
  refine px_ok_cons (ps_callV mX6_byteAt (fun _ _ => rfl) (C := RX6) rfl (fun _ _ ht => px_cwV wgM (wdM_1_in _ (List.mem_of_getElem? (i := 2) rfl)) (wdM_1_in _ (List.mem_of_getElem? (i := 3) rfl)) (wdM_1_in _ (List.mem_of_getElem? (i := 4) rfl)) (wdM_0_in _ (List.mem_of_getElem? (i := 22) rfl)) (wdM_0_in _ (List.mem_of_getElem? (i := 39) rfl)) (by decide +kernel) rfl rfl (by decide) ht) dX6_endsIn_21) ?_
  refine px_ok_cons (ps_iload_n dX6_endsIn_24 rfl) ?_
  refine px_ok_cons (ps_icmp_ne dX6_endsIn_25 (by decide)) ?_
  refine px_ok_cons (ps_iconst dX6_endsIn_28 (by decide)) ?_
  refine px_ok_cons (ps_goto dX6_endsIn_29 (by decide)) ?_
  refine px_ok_cons (ps_iconst dX6_endsIn_32 (by decide)) ?_
  refine px_ok_cons (ps_ireturn rfl dX6_endsIn_33) ?_
  exact px_ok_nil
set_option maxRecDepth 100000 in
set_option maxHeartbeats 4000000 in
theorem sgX6_endsIn_0 {po : Int32 → px_St → Prop} {G : px_K} (hG : px_cl (opX6_endsIn po) G) (v1 : Int32) (v2 : Int32) (σ : px_St)
    (H : ∃ g3 : gtX6_byteAt, qrX6_byteAt g3 ((σ.1 0 8) + (3 : Int32)) σ ∧ ∀ (r1 : Int32) (σ2 : px_St), qoX6_byteAt g3 ((σ.1 0 8) + (3 : Int32)) σ r1 σ2 → ((¬ r1 = v1) → po (0 : Int32) σ2) ∧ (¬ (¬ r1 = v1) → ∃ g7 : gtX6_byteAt, qrX6_byteAt g7 ((σ2.1 0 8) + (4 : Int32)) σ2 ∧ ∀ (r5 : Int32) (σ6 : px_St), qoX6_byteAt g7 ((σ2.1 0 8) + (4 : Int32)) σ2 r5 σ6 → ((¬ r5 = v2) → po (0 : Int32) σ6) ∧ (¬ (¬ r5 = v2) → po (1 : Int32) σ6))) :
    G 0 (px_ent 3 [.ref 0, .int v1, .int v2]) [] σ := by
  refine hG.1 0 _ _ rfl _ _ _ ?_
  refine hG.1 1 _ _ rfl _ _ _ ?_
  refine hG.1 2 _ _ rfl _ _ _ ?_
  refine ⟨⟨rfl, by decide⟩, ?_⟩
  refine hG.1 3 _ _ rfl _ _ _ ?_
  refine hG.1 4 _ _ rfl _ _ _ ?_
  refine hG.1 5 _ _ rfl _ _ _ ?_
  obtain ⟨g3, H⟩ := H
  refine ⟨⟨rfl, by decide⟩, Nat.le_of_ble_eq_true rfl, g3, ⟨_, rfl, H.1⟩, fun r1 σ2 hp4 => ?_⟩
  replace H := H.2 r1 σ2 hp4
  refine hG.1 6 _ _ rfl _ _ _ ?_
  refine hG.1 7 _ _ rfl _ _ _ ?_
  refine ⟨fun h10 => ?_, fun h10 => ?_⟩
  · replace H := H.1 h10
    refine hG.1 18 _ _ rfl _ _ _ ?_
    refine hG.1 19 _ _ rfl _ _ _ ?_
    exact ⟨rfl, H⟩
  · replace H := H.2 h10
    refine hG.1 8 _ _ rfl _ _ _ ?_
    refine hG.1 9 _ _ rfl _ _ _ ?_
    refine hG.1 10 _ _ rfl _ _ _ ?_
    refine ⟨⟨rfl, by decide⟩, ?_⟩
    refine hG.1 11 _ _ rfl _ _ _ ?_
    refine hG.1 12 _ _ rfl _ _ _ ?_
    refine hG.1 13 _ _ rfl _ _ _ ?_
    obtain ⟨g7, H⟩ := H
    refine ⟨⟨rfl, by decide⟩, Nat.le_of_ble_eq_true rfl, g7, ⟨_, rfl, H.1⟩, fun r5 σ6 hp8 => ?_⟩
    replace H := H.2 r5 σ6 hp8
    refine hG.1 14 _ _ rfl _ _ _ ?_
    refine hG.1 15 _ _ rfl _ _ _ ?_
    refine ⟨fun h9 => ?_, fun h9 => ?_⟩
    · replace H := H.1 h9
      refine hG.1 18 _ _ rfl _ _ _ ?_
      refine hG.1 19 _ _ rfl _ _ _ ?_
      exact ⟨rfl, H⟩
    · replace H := H.2 h9
      refine hG.1 16 _ _ rfl _ _ _ ?_
      refine hG.1 17 _ _ rfl _ _ _ ?_
      refine hG.1 19 _ _ rfl _ _ _ ?_
      exact ⟨rfl, H⟩
set_option maxRecDepth 100000 in
set_option maxHeartbeats 4000000 in
theorem hhX6_endsIn (g : gtX6_endsIn) (v1 : Int32) (v2 : Int32) (σ : px_St) (h : qrX6_endsIn g v1 v2 σ) (G : px_K) (hG : px_cl (opX6_endsIn (qoX6_endsIn g v1 v2 σ)) G) : G 0 (px_ent 3 [.ref 0, .int v1, .int v2]) [] σ := by
  obtain ⟨T, f⟩ := g
  obtain ⟨hb, hT, h8, hf⟩ := h
  refine sgX6_endsIn_0 hG _ _ σ ⟨(T, f + 3), ⟨hb, hT, by rw [h8]; exact nI_add _ 3, by omega⟩, fun r1 σ1 h1 => ?_⟩
  obtain ⟨e1, rfl⟩ := h1
  subst e1
  refine ⟨fun y => ⟨rfl, Or.inr ⟨fun q => y q.1, rfl⟩⟩, fun y => ⟨(T, f + 4), ⟨hb, hT, by rw [h8]; exact nI_add _ 4, by omega⟩, fun r2 σ2 h2 => ?_⟩⟩
  obtain ⟨e2, rfl⟩ := h2
  subst e2
  exact ⟨fun x => ⟨rfl, Or.inr ⟨fun q => x q.2, rfl⟩⟩, fun x => ⟨rfl, Or.inl ⟨⟨Classical.byContradiction y, Classical.byContradiction x⟩, rfl⟩⟩⟩
theorem mX6_endsIn (g : gtX6_endsIn) : px_Met dM yX6_endsIn (Cond.code yX6_endsIn cX6_endsIn 3 (some .boolean) :: wdM) rmX6_endsIn px_vI (prX6_endsIn g) (poX6_endsIn g) :=
  px_met (Z := (cX6_endsIn, 3, RX6, Cond.code yX6_endsIn cX6_endsIn 3 (some .boolean) :: wdM, (some .boolean), rmX6_endsIn, dM)) opX6_endsIn (by decide) rfl rfl okX6_endsIn (fun As σ h => by obtain ⟨v1, v2, rfl, h⟩ := h; exact Nat.le_of_ble_eq_true rfl) (fun As σ h G hG => by obtain ⟨v1, v2, rfl, h⟩ := h; exact hhX6_endsIn g v1 v2 σ h G hG)
theorem nm3 {T : List Nat} {f t i : Nat} (hT : tx_ok T) (ht : t ≤ T.length) {a b c : Nat} (hw : pt_w i = [a, b, c]) (ha : a ≤ 127) (hb : b ≤ 127) (hc : c ≤ 127) : pt_nm T f t i ↔ (nI (t - f) = 3 ∧ bt T f = nI a ∧ bt T (f + 1) = nI b ∧ bt T (f + 2) = nI c) := by
  have hl := hT.1
  unfold pt_nm
  rw [hw]
  constructor
  · rintro ⟨h1, h2⟩
    have h1 : t - f = 3 := h1
    have e0 : ch T f = a := h2 0 (by show 0 < 3; omega)
    have e1 : ch T (f + 1) = b := h2 1 (by show 1 < 3; omega)
    have e2 : ch T (f + 2) = c := h2 2 (by show 2 < 3; omega)
    exact ⟨by rw [h1]; rfl, (bt_eq hT a rfl (by omega)).mpr ⟨by omega, e0⟩, (bt_eq hT b rfl (by omega)).mpr ⟨by omega, e1⟩, (bt_eq hT c rfl (by omega)).mpr ⟨by omega, e2⟩⟩
  · rintro ⟨h1, h2, h3, h4⟩
    have h1 : t - f = 3 := (nIe (t - f) 3 rfl rfl (by omega) (by omega)).mp h1
    refine ⟨h1, fun j hj => ?_⟩
    have hj : j < 3 := hj
    rcases (show j = 0 ∨ j = 1 ∨ j = 2 by omega) with rfl | rfl | rfl
    · exact ((bt_eq hT a rfl (by omega)).mp h2).2
    · exact ((bt_eq hT b rfl (by omega)).mp h3).2
    · exact ((bt_eq hT c rfl (by omega)).mp h4).2
theorem nm5 {T : List Nat} {f t i : Nat} (hT : tx_ok T) (ht : t ≤ T.length) {a b c d e : Nat} (hw : pt_w i = [a, b, c, d, e]) (ha : a ≤ 127) (hb : b ≤ 127) (hc : c ≤ 127) (hd : d ≤ 127) (he : e ≤ 127) : pt_nm T f t i ↔ (nI (t - f) = 5 ∧ bt T f = nI a ∧ bt T (f + 1) = nI b ∧ bt T (f + 2) = nI c) ∧ (bt T (f + 3) = nI d ∧ bt T (f + 4) = nI e) := by
  have hl := hT.1
  unfold pt_nm
  rw [hw]
  constructor
  · rintro ⟨h1, h2⟩
    have h1 : t - f = 5 := h1
    have e0 : ch T f = a := h2 0 (by show 0 < 5; omega)
    have e1 : ch T (f + 1) = b := h2 1 (by show 1 < 5; omega)
    have e2 : ch T (f + 2) = c := h2 2 (by show 2 < 5; omega)
    have e3 : ch T (f + 3) = d := h2 3 (by show 3 < 5; omega)
    have e4 : ch T (f + 4) = e := h2 4 (by show 4 < 5; omega)
    exact ⟨⟨by rw [h1]; rfl, (bt_eq hT a rfl (by omega)).mpr ⟨by omega, e0⟩, (bt_eq hT b rfl (by omega)).mpr ⟨by omega, e1⟩, (bt_eq hT c rfl (by omega)).mpr ⟨by omega, e2⟩⟩, (bt_eq hT d rfl (by omega)).mpr ⟨by omega, e3⟩, (bt_eq hT e rfl (by omega)).mpr ⟨by omega, e4⟩⟩
  · rintro ⟨⟨h1, h2, h3, h4⟩, h5, h6⟩
    have h1 : t - f = 5 := (nIe (t - f) 5 rfl rfl (by omega) (by omega)).mp h1
    refine ⟨h1, fun j hj => ?_⟩
    have hj : j < 5 := hj
    rcases (show j = 0 ∨ j = 1 ∨ j = 2 ∨ j = 3 ∨ j = 4 by omega) with rfl | rfl | rfl | rfl | rfl
    · exact ((bt_eq hT a rfl (by omega)).mp h2).2
    · exact ((bt_eq hT b rfl (by omega)).mp h3).2
    · exact ((bt_eq hT c rfl (by omega)).mp h4).2
    · exact ((bt_eq hT d rfl (by omega)).mp h5).2
    · exact ((bt_eq hT e rfl (by omega)).mp h6).2
abbrev gtX6_lineNow : Type := List Nat × Nat × Nat
def qrX6_lineNow : gtX6_lineNow → px_St → Prop
  | (T, f, t), σ => rbM σ T ∧ tx_ok T ∧ σ.1 0 8 = nI f ∧ σ.1 0 7 = nI t ∧ f ≤ t ∧ t ≤ T.length
def qoX6_lineNow : gtX6_lineNow → px_St → Int32 → px_St → Prop
  | (T, f, t), σ, r, σ' => σ = σ' ∧ r = (if pt_name T f t = 9 then -4 else nI (pt_name T f t))
def prX6_lineNow (g : gtX6_lineNow) : List Value → px_St → Prop := fun As σ => As = [.ref 0] ∧ qrX6_lineNow g σ
def poX6_lineNow (g : gtX6_lineNow) : List Value → px_St → Int32 → px_St → Prop
  | [.ref _], σ, r, σ' => qoX6_lineNow g σ r σ'
  | _, _, _, _ => False
theorem dX6_lineNow_0 : decode cX6_lineNow 0 = .ok (.aload_n 0, 1) := by decide +kernel
theorem dX6_lineNow_1 : decode cX6_lineNow 1 = .ok (.iconst 5, 1) := by decide +kernel
theorem dX6_lineNow_2 : decode cX6_lineNow 2 = .ok (.bipush 112, 2) := by decide +kernel
theorem dX6_lineNow_4 : decode cX6_lineNow 4 = .ok (.bipush 108, 2) := by decide +kernel
theorem dX6_lineNow_6 : decode cX6_lineNow 6 = .ok (.bipush 97, 2) := by decide +kernel
theorem dX6_lineNow_8 : decode cX6_lineNow 8 = .ok (.invokevirtual 80, 3) := by decide +kernel
theorem dX6_lineNow_11 : decode cX6_lineNow 11 = .ok (.ifCond .eq 16, 3) := by decide +kernel
theorem dX6_lineNow_14 : decode cX6_lineNow 14 = .ok (.aload_n 0, 1) := by decide +kernel
theorem dX6_lineNow_15 : decode cX6_lineNow 15 = .ok (.bipush 105, 2) := by decide +kernel
theorem dX6_lineNow_17 : decode cX6_lineNow 17 = .ok (.bipush 110, 2) := by decide +kernel
theorem dX6_lineNow_19 : decode cX6_lineNow 19 = .ok (.invokevirtual 84, 3) := by decide +kernel
theorem dX6_lineNow_22 : decode cX6_lineNow 22 = .ok (.ifCond .eq 5, 3) := by decide +kernel
theorem dX6_lineNow_25 : decode cX6_lineNow 25 = .ok (.iconst 0, 1) := by decide +kernel
theorem dX6_lineNow_26 : decode cX6_lineNow 26 = .ok (.ireturn, 1) := by decide +kernel
theorem dX6_lineNow_27 : decode cX6_lineNow 27 = .ok (.aload_n 0, 1) := by decide +kernel
theorem dX6_lineNow_28 : decode cX6_lineNow 28 = .ok (.iconst 3, 1) := by decide +kernel
theorem dX6_lineNow_29 : decode cX6_lineNow 29 = .ok (.bipush 111, 2) := by decide +kernel
theorem dX6_lineNow_31 : decode cX6_lineNow 31 = .ok (.bipush 108, 2) := by decide +kernel
theorem dX6_lineNow_33 : decode cX6_lineNow 33 = .ok (.bipush 100, 2) := by decide +kernel
theorem dX6_lineNow_35 : decode cX6_lineNow 35 = .ok (.invokevirtual 80, 3) := by decide +kernel
theorem dX6_lineNow_38 : decode cX6_lineNow 38 = .ok (.ifCond .eq 5, 3) := by decide +kernel
theorem dX6_lineNow_41 : decode cX6_lineNow 41 = .ok (.iconst 1, 1) := by decide +kernel
theorem dX6_lineNow_42 : decode cX6_lineNow 42 = .ok (.ireturn, 1) := by decide +kernel
theorem dX6_lineNow_43 : decode cX6_lineNow 43 = .ok (.aload_n 0, 1) := by decide +kernel
theorem dX6_lineNow_44 : decode cX6_lineNow 44 = .ok (.iconst 5, 1) := by decide +kernel
theorem dX6_lineNow_45 : decode cX6_lineNow 45 = .ok (.bipush 121, 2) := by decide +kernel
theorem dX6_lineNow_47 : decode cX6_lineNow 47 = .ok (.bipush 111, 2) := by decide +kernel
theorem dX6_lineNow_49 : decode cX6_lineNow 49 = .ok (.bipush 117, 2) := by decide +kernel
theorem dX6_lineNow_51 : decode cX6_lineNow 51 = .ok (.invokevirtual 80, 3) := by decide +kernel
theorem dX6_lineNow_54 : decode cX6_lineNow 54 = .ok (.ifCond .eq 16, 3) := by decide +kernel
theorem dX6_lineNow_57 : decode cX6_lineNow 57 = .ok (.aload_n 0, 1) := by decide +kernel
theorem dX6_lineNow_58 : decode cX6_lineNow 58 = .ok (.bipush 110, 2) := by decide +kernel
theorem dX6_lineNow_60 : decode cX6_lineNow 60 = .ok (.bipush 103, 2) := by decide +kernel
theorem dX6_lineNow_62 : decode cX6_lineNow 62 = .ok (.invokevirtual 84, 3) := by decide +kernel
theorem dX6_lineNow_65 : decode cX6_lineNow 65 = .ok (.ifCond .eq 5, 3) := by decide +kernel
theorem dX6_lineNow_68 : decode cX6_lineNow 68 = .ok (.iconst 2, 1) := by decide +kernel
theorem dX6_lineNow_69 : decode cX6_lineNow 69 = .ok (.ireturn, 1) := by decide +kernel
theorem dX6_lineNow_70 : decode cX6_lineNow 70 = .ok (.aload_n 0, 1) := by decide +kernel
theorem dX6_lineNow_71 : decode cX6_lineNow 71 = .ok (.iconst 3, 1) := by decide +kernel
theorem dX6_lineNow_72 : decode cX6_lineNow 72 = .ok (.bipush 115, 2) := by decide +kernel
theorem dX6_lineNow_74 : decode cX6_lineNow 74 = .ok (.bipush 108, 2) := by decide +kernel
theorem dX6_lineNow_76 : decode cX6_lineNow 76 = .ok (.bipush 121, 2) := by decide +kernel
theorem dX6_lineNow_78 : decode cX6_lineNow 78 = .ok (.invokevirtual 80, 3) := by decide +kernel
theorem dX6_lineNow_81 : decode cX6_lineNow 81 = .ok (.ifCond .eq 7, 3) := by decide +kernel
theorem dX6_lineNow_84 : decode cX6_lineNow 84 = .ok (.iconst 3, 1) := by decide +kernel
theorem dX6_lineNow_85 : decode cX6_lineNow 85 = .ok (.goto 23, 3) := by decide +kernel
theorem dX6_lineNow_88 : decode cX6_lineNow 88 = .ok (.aload_n 0, 1) := by decide +kernel
theorem dX6_lineNow_89 : decode cX6_lineNow 89 = .ok (.iconst 3, 1) := by decide +kernel
theorem dX6_lineNow_90 : decode cX6_lineNow 90 = .ok (.bipush 101, 2) := by decide +kernel
theorem dX6_lineNow_92 : decode cX6_lineNow 92 = .ok (.bipush 97, 2) := by decide +kernel
theorem dX6_lineNow_94 : decode cX6_lineNow 94 = .ok (.bipush 114, 2) := by decide +kernel
theorem dX6_lineNow_96 : decode cX6_lineNow 96 = .ok (.invokevirtual 80, 3) := by decide +kernel
theorem dX6_lineNow_99 : decode cX6_lineNow 99 = .ok (.ifCond .eq 7, 3) := by decide +kernel
theorem dX6_lineNow_102 : decode cX6_lineNow 102 = .ok (.iconst 4, 1) := by decide +kernel
theorem dX6_lineNow_103 : decode cX6_lineNow 103 = .ok (.goto 5, 3) := by decide +kernel
theorem dX6_lineNow_106 : decode cX6_lineNow 106 = .ok (.bipush (-4), 2) := by decide +kernel
theorem dX6_lineNow_108 : decode cX6_lineNow 108 = .ok (.ireturn, 1) := by decide +kernel
abbrev rmX6_lineNow : Room := { frames := 2, cells := 0, slots := 0, locals := 45 }
def opX6_lineNow (po : Int32 → px_St → Prop) : List (Nat × px_Op) := [
  (0, px_al 1 0),
  (1, px_push 2 (.int 5)),
  (2, px_push 4 (.int 112)),
  (4, px_push 6 (.int 108)),
  (6, px_push 8 (.int 97)),
  (8, px_callV dM 11 6 4 px_vI prX6_is poX6_is),
  (11, px_if 14 27 (fun x => x = 0)),
  (14, px_al 15 0),
  (15, px_push 17 (.int 105)),
  (17, px_push 19 (.int 110)),
  (19, px_callV dM 22 6 2 px_vI prX6_endsIn poX6_endsIn),
  (22, px_if 25 27 (fun x => x = 0)),
  (25, px_push 26 (.int 0)),
  (26, px_iret (.int) po),
  (27, px_al 28 0),
  (28, px_push 29 (.int 3)),
  (29, px_push 31 (.int 111)),
  (31, px_push 33 (.int 108)),
  (33, px_push 35 (.int 100)),
  (35, px_callV dM 38 6 4 px_vI prX6_is poX6_is),
  (38, px_if 41 43 (fun x => x = 0)),
  (41, px_push 42 (.int 1)),
  (42, px_iret (.int) po),
  (43, px_al 44 0),
  (44, px_push 45 (.int 5)),
  (45, px_push 47 (.int 121)),
  (47, px_push 49 (.int 111)),
  (49, px_push 51 (.int 117)),
  (51, px_callV dM 54 6 4 px_vI prX6_is poX6_is),
  (54, px_if 57 70 (fun x => x = 0)),
  (57, px_al 58 0),
  (58, px_push 60 (.int 110)),
  (60, px_push 62 (.int 103)),
  (62, px_callV dM 65 6 2 px_vI prX6_endsIn poX6_endsIn),
  (65, px_if 68 70 (fun x => x = 0)),
  (68, px_push 69 (.int 2)),
  (69, px_iret (.int) po),
  (70, px_al 71 0),
  (71, px_push 72 (.int 3)),
  (72, px_push 74 (.int 115)),
  (74, px_push 76 (.int 108)),
  (76, px_push 78 (.int 121)),
  (78, px_callV dM 81 6 4 px_vI prX6_is poX6_is),
  (81, px_if 84 88 (fun x => x = 0)),
  (84, px_push 85 (.int 3)),
  (85, px_go 108),
  (88, px_al 89 0),
  (89, px_push 90 (.int 3)),
  (90, px_push 92 (.int 101)),
  (92, px_push 94 (.int 97)),
  (94, px_push 96 (.int 114)),
  (96, px_callV dM 99 6 4 px_vI prX6_is poX6_is),
  (99, px_if 102 106 (fun x => x = 0)),
  (102, px_push 103 (.int 4)),
  (103, px_go 108),
  (106, px_push 108 (.int (-4))),
  (108, px_iret (.int) po)]
set_option maxRecDepth 100000 in
set_option maxHeartbeats 4000000 in
theorem okX6_lineNow : ∀ (po : Int32 → px_St → Prop) (i pc : Nat) (op : px_Op), (opX6_lineNow po)[i]? = some (pc, op) → px_Snd (cX6_lineNow, 1, RX6, Cond.code yX6_lineNow cX6_lineNow 1 (some .int) :: wdM, (some .int), rmX6_lineNow, dM) px_vI po pc op := by
  intro po
  unfold opX6_lineNow
  refine px_ok_cons (ps_aload_n dX6_lineNow_0 rfl) ?_
  refine px_ok_cons (ps_iconst dX6_lineNow_1 (by decide)) ?_
  refine px_ok_cons (ps_bipush dX6_lineNow_2 (by decide)) ?_
  refine px_ok_cons (ps_bipush dX6_lineNow_4 (by decide)) ?_
  refine px_ok_cons (ps_bipush dX6_lineNow_6 (by decide)) ?_
  refine px_ok_cons (ps_callV mX6_is (fun _ _ => rfl) (C := RX6) rfl (fun _ _ ht => px_cwV wgM (wdM_1_in _ (List.mem_of_getElem? (i := 7) rfl)) (wdM_1_in _ (List.mem_of_getElem? (i := 8) rfl)) (wdM_1_in _ (List.mem_of_getElem? (i := 9) rfl)) (wdM_0_in _ (List.mem_of_getElem? (i := 22) rfl)) (wdM_1_in _ (List.mem_of_getElem? (i := 0) rfl)) (by decide +kernel) rfl rfl (by decide) ht) dX6_lineNow_8) ?_
  refine px_ok_cons (ps_if_eq dX6_lineNow_11 (by decide)) ?_
  refine px_ok_cons (ps_aload_n dX6_lineNow_14 rfl) ?_
  refine px_ok_cons (ps_bipush dX6_lineNow_15 (by decide)) ?_
  refine px_ok_cons (ps_bipush dX6_lineNow_17 (by decide)) ?_
  refine px_ok_cons (ps_callV mX6_endsIn (fun _ _ => rfl) (C := RX6) rfl (fun _ _ ht => px_cwV wgM (wdM_1_in _ (List.mem_of_getElem? (i := 10) rfl)) (wdM_1_in _ (List.mem_of_getElem? (i := 11) rfl)) (wdM_1_in _ (List.mem_of_getElem? (i := 12) rfl)) (wdM_0_in _ (List.mem_of_getElem? (i := 22) rfl)) (wdM_1_in _ (List.mem_of_getElem? (i := 5) rfl)) (by decide +kernel) rfl rfl (by decide) ht) dX6_lineNow_19) ?_
  refine px_ok_cons (ps_if_eq dX6_lineNow_22 (by decide)) ?_
  refine px_ok_cons (ps_iconst dX6_lineNow_25 (by decide)) ?_
  refine px_ok_cons (ps_ireturn rfl dX6_lineNow_26) ?_
  refine px_ok_cons (ps_aload_n dX6_lineNow_27 rfl) ?_
  refine px_ok_cons (ps_iconst dX6_lineNow_28 (by decide)) ?_
  refine px_ok_cons (ps_bipush dX6_lineNow_29 (by decide)) ?_
  refine px_ok_cons (ps_bipush dX6_lineNow_31 (by decide)) ?_
  refine px_ok_cons (ps_bipush dX6_lineNow_33 (by decide)) ?_
  refine px_ok_cons (ps_callV mX6_is (fun _ _ => rfl) (C := RX6) rfl (fun _ _ ht => px_cwV wgM (wdM_1_in _ (List.mem_of_getElem? (i := 7) rfl)) (wdM_1_in _ (List.mem_of_getElem? (i := 8) rfl)) (wdM_1_in _ (List.mem_of_getElem? (i := 9) rfl)) (wdM_0_in _ (List.mem_of_getElem? (i := 22) rfl)) (wdM_1_in _ (List.mem_of_getElem? (i := 0) rfl)) (by decide +kernel) rfl rfl (by decide) ht) dX6_lineNow_35) ?_
  refine px_ok_cons (ps_if_eq dX6_lineNow_38 (by decide)) ?_
  refine px_ok_cons (ps_iconst dX6_lineNow_41 (by decide)) ?_
  refine px_ok_cons (ps_ireturn rfl dX6_lineNow_42) ?_
  refine px_ok_cons (ps_aload_n dX6_lineNow_43 rfl) ?_
  refine px_ok_cons (ps_iconst dX6_lineNow_44 (by decide)) ?_
  refine px_ok_cons (ps_bipush dX6_lineNow_45 (by decide)) ?_
  refine px_ok_cons (ps_bipush dX6_lineNow_47 (by decide)) ?_
  refine px_ok_cons (ps_bipush dX6_lineNow_49 (by decide)) ?_
  refine px_ok_cons (ps_callV mX6_is (fun _ _ => rfl) (C := RX6) rfl (fun _ _ ht => px_cwV wgM (wdM_1_in _ (List.mem_of_getElem? (i := 7) rfl)) (wdM_1_in _ (List.mem_of_getElem? (i := 8) rfl)) (wdM_1_in _ (List.mem_of_getElem? (i := 9) rfl)) (wdM_0_in _ (List.mem_of_getElem? (i := 22) rfl)) (wdM_1_in _ (List.mem_of_getElem? (i := 0) rfl)) (by decide +kernel) rfl rfl (by decide) ht) dX6_lineNow_51) ?_
  refine px_ok_cons (ps_if_eq dX6_lineNow_54 (by decide)) ?_
  refine px_ok_cons (ps_aload_n dX6_lineNow_57 rfl) ?_
  refine px_ok_cons (ps_bipush dX6_lineNow_58 (by decide)) ?_
  refine px_ok_cons (ps_bipush dX6_lineNow_60 (by decide)) ?_
  refine px_ok_cons (ps_callV mX6_endsIn (fun _ _ => rfl) (C := RX6) rfl (fun _ _ ht => px_cwV wgM (wdM_1_in _ (List.mem_of_getElem? (i := 10) rfl)) (wdM_1_in _ (List.mem_of_getElem? (i := 11) rfl)) (wdM_1_in _ (List.mem_of_getElem? (i := 12) rfl)) (wdM_0_in _ (List.mem_of_getElem? (i := 22) rfl)) (wdM_1_in _ (List.mem_of_getElem? (i := 5) rfl)) (by decide +kernel) rfl rfl (by decide) ht) dX6_lineNow_62) ?_
  refine px_ok_cons (ps_if_eq dX6_lineNow_65 (by decide)) ?_
  refine px_ok_cons (ps_iconst dX6_lineNow_68 (by decide)) ?_
  refine px_ok_cons (ps_ireturn rfl dX6_lineNow_69) ?_
  refine px_ok_cons (ps_aload_n dX6_lineNow_70 rfl) ?_
  refine px_ok_cons (ps_iconst dX6_lineNow_71 (by decide)) ?_
  refine px_ok_cons (ps_bipush dX6_lineNow_72 (by decide)) ?_
  refine px_ok_cons (ps_bipush dX6_lineNow_74 (by decide)) ?_
  refine px_ok_cons (ps_bipush dX6_lineNow_76 (by decide)) ?_
  refine px_ok_cons (ps_callV mX6_is (fun _ _ => rfl) (C := RX6) rfl (fun _ _ ht => px_cwV wgM (wdM_1_in _ (List.mem_of_getElem? (i := 7) rfl)) (wdM_1_in _ (List.mem_of_getElem? (i := 8) rfl)) (wdM_1_in _ (List.mem_of_getElem? (i := 9) rfl)) (wdM_0_in _ (List.mem_of_getElem? (i := 22) rfl)) (wdM_1_in _ (List.mem_of_getElem? (i := 0) rfl)) (by decide +kernel) rfl rfl (by decide) ht) dX6_lineNow_78) ?_
  refine px_ok_cons (ps_if_eq dX6_lineNow_81 (by decide)) ?_
  refine px_ok_cons (ps_iconst dX6_lineNow_84 (by decide)) ?_
  refine px_ok_cons (ps_goto dX6_lineNow_85 (by decide)) ?_
  refine px_ok_cons (ps_aload_n dX6_lineNow_88 rfl) ?_
  refine px_ok_cons (ps_iconst dX6_lineNow_89 (by decide)) ?_
  refine px_ok_cons (ps_bipush dX6_lineNow_90 (by decide)) ?_
  refine px_ok_cons (ps_bipush dX6_lineNow_92 (by decide)) ?_
  refine px_ok_cons (ps_bipush dX6_lineNow_94 (by decide)) ?_
  refine px_ok_cons (ps_callV mX6_is (fun _ _ => rfl) (C := RX6) rfl (fun _ _ ht => px_cwV wgM (wdM_1_in _ (List.mem_of_getElem? (i := 7) rfl)) (wdM_1_in _ (List.mem_of_getElem? (i := 8) rfl)) (wdM_1_in _ (List.mem_of_getElem? (i := 9) rfl)) (wdM_0_in _ (List.mem_of_getElem? (i := 22) rfl)) (wdM_1_in _ (List.mem_of_getElem? (i := 0) rfl)) (by decide +kernel) rfl rfl (by decide) ht) dX6_lineNow_96) ?_
  refine px_ok_cons (ps_if_eq dX6_lineNow_99 (by decide)) ?_
  refine px_ok_cons (ps_iconst dX6_lineNow_102 (by decide)) ?_
  refine px_ok_cons (ps_goto dX6_lineNow_103 (by decide)) ?_
  refine px_ok_cons (ps_bipush dX6_lineNow_106 (by decide)) ?_
  refine px_ok_cons (ps_ireturn rfl dX6_lineNow_108) ?_
  exact px_ok_nil
set_option maxRecDepth 100000 in
set_option maxHeartbeats 4000000 in
theorem sgX6_lineNow_0 {po : Int32 → px_St → Prop} {G : px_K} (hG : px_cl (opX6_lineNow po) G) (σ : px_St)
    (H : ∃ g3 : gtX6_is, qrX6_is g3 (5 : Int32) (112 : Int32) (108 : Int32) (97 : Int32) σ ∧ ∀ (r1 : Int32) (σ2 : px_St), qoX6_is g3 (5 : Int32) (112 : Int32) (108 : Int32) (97 : Int32) σ r1 σ2 → ((r1 = 0) → G 27 [some (.ref 0)] [] σ2) ∧ (¬ (r1 = 0) → ∃ g7 : gtX6_endsIn, qrX6_endsIn g7 (105 : Int32) (110 : Int32) σ2 ∧ ∀ (r5 : Int32) (σ6 : px_St), qoX6_endsIn g7 (105 : Int32) (110 : Int32) σ2 r5 σ6 → ((r5 = 0) → G 27 [some (.ref 0)] [] σ6) ∧ (¬ (r5 = 0) → po (0 : Int32) σ6))) :
    G 0 (px_ent 1 [.ref 0]) [] σ := by
  refine hG.1 0 _ _ rfl _ _ _ ?_
  refine hG.1 1 _ _ rfl _ _ _ ?_
  refine hG.1 2 _ _ rfl _ _ _ ?_
  refine hG.1 3 _ _ rfl _ _ _ ?_
  refine hG.1 4 _ _ rfl _ _ _ ?_
  refine hG.1 5 _ _ rfl _ _ _ ?_
  obtain ⟨g3, H⟩ := H
  refine ⟨⟨rfl, by decide⟩, Nat.le_of_ble_eq_true rfl, g3, ⟨_, _, _, _, rfl, H.1⟩, fun r1 σ2 hp4 => ?_⟩
  replace H := H.2 r1 σ2 hp4
  refine hG.1 6 _ _ rfl _ _ _ ?_
  refine ⟨fun h10 => ?_, fun h10 => ?_⟩
  · replace H := H.1 h10
    exact H
  · replace H := H.2 h10
    refine hG.1 7 _ _ rfl _ _ _ ?_
    refine hG.1 8 _ _ rfl _ _ _ ?_
    refine hG.1 9 _ _ rfl _ _ _ ?_
    refine hG.1 10 _ _ rfl _ _ _ ?_
    obtain ⟨g7, H⟩ := H
    refine ⟨⟨rfl, by decide⟩, Nat.le_of_ble_eq_true rfl, g7, ⟨_, _, rfl, H.1⟩, fun r5 σ6 hp8 => ?_⟩
    replace H := H.2 r5 σ6 hp8
    refine hG.1 11 _ _ rfl _ _ _ ?_
    refine ⟨fun h9 => ?_, fun h9 => ?_⟩
    · replace H := H.1 h9
      exact H
    · replace H := H.2 h9
      refine hG.1 12 _ _ rfl _ _ _ ?_
      refine hG.1 13 _ _ rfl _ _ _ ?_
      exact ⟨rfl, H⟩
set_option maxRecDepth 100000 in
set_option maxHeartbeats 4000000 in
theorem sgX6_lineNow_27 {po : Int32 → px_St → Prop} {G : px_K} (hG : px_cl (opX6_lineNow po) G) (σ : px_St)
    (H : ∃ g3 : gtX6_is, qrX6_is g3 (3 : Int32) (111 : Int32) (108 : Int32) (100 : Int32) σ ∧ ∀ (r1 : Int32) (σ2 : px_St), qoX6_is g3 (3 : Int32) (111 : Int32) (108 : Int32) (100 : Int32) σ r1 σ2 → ((r1 = 0) → G 43 [some (.ref 0)] [] σ2) ∧ (¬ (r1 = 0) → po (1 : Int32) σ2)) :
    G 27 [some (.ref 0)] [] σ := by
  refine hG.1 14 _ _ rfl _ _ _ ?_
  refine hG.1 15 _ _ rfl _ _ _ ?_
  refine hG.1 16 _ _ rfl _ _ _ ?_
  refine hG.1 17 _ _ rfl _ _ _ ?_
  refine hG.1 18 _ _ rfl _ _ _ ?_
  refine hG.1 19 _ _ rfl _ _ _ ?_
  obtain ⟨g3, H⟩ := H
  refine ⟨⟨rfl, by decide⟩, Nat.le_of_ble_eq_true rfl, g3, ⟨_, _, _, _, rfl, H.1⟩, fun r1 σ2 hp4 => ?_⟩
  replace H := H.2 r1 σ2 hp4
  refine hG.1 20 _ _ rfl _ _ _ ?_
  refine ⟨fun h5 => ?_, fun h5 => ?_⟩
  · replace H := H.1 h5
    exact H
  · replace H := H.2 h5
    refine hG.1 21 _ _ rfl _ _ _ ?_
    refine hG.1 22 _ _ rfl _ _ _ ?_
    exact ⟨rfl, H⟩
set_option maxRecDepth 100000 in
set_option maxHeartbeats 4000000 in
theorem sgX6_lineNow_43 {po : Int32 → px_St → Prop} {G : px_K} (hG : px_cl (opX6_lineNow po) G) (σ : px_St)
    (H : ∃ g3 : gtX6_is, qrX6_is g3 (5 : Int32) (121 : Int32) (111 : Int32) (117 : Int32) σ ∧ ∀ (r1 : Int32) (σ2 : px_St), qoX6_is g3 (5 : Int32) (121 : Int32) (111 : Int32) (117 : Int32) σ r1 σ2 → ((r1 = 0) → G 70 [some (.ref 0)] [] σ2) ∧ (¬ (r1 = 0) → ∃ g7 : gtX6_endsIn, qrX6_endsIn g7 (110 : Int32) (103 : Int32) σ2 ∧ ∀ (r5 : Int32) (σ6 : px_St), qoX6_endsIn g7 (110 : Int32) (103 : Int32) σ2 r5 σ6 → ((r5 = 0) → G 70 [some (.ref 0)] [] σ6) ∧ (¬ (r5 = 0) → po (2 : Int32) σ6))) :
    G 43 [some (.ref 0)] [] σ := by
  refine hG.1 23 _ _ rfl _ _ _ ?_
  refine hG.1 24 _ _ rfl _ _ _ ?_
  refine hG.1 25 _ _ rfl _ _ _ ?_
  refine hG.1 26 _ _ rfl _ _ _ ?_
  refine hG.1 27 _ _ rfl _ _ _ ?_
  refine hG.1 28 _ _ rfl _ _ _ ?_
  obtain ⟨g3, H⟩ := H
  refine ⟨⟨rfl, by decide⟩, Nat.le_of_ble_eq_true rfl, g3, ⟨_, _, _, _, rfl, H.1⟩, fun r1 σ2 hp4 => ?_⟩
  replace H := H.2 r1 σ2 hp4
  refine hG.1 29 _ _ rfl _ _ _ ?_
  refine ⟨fun h10 => ?_, fun h10 => ?_⟩
  · replace H := H.1 h10
    exact H
  · replace H := H.2 h10
    refine hG.1 30 _ _ rfl _ _ _ ?_
    refine hG.1 31 _ _ rfl _ _ _ ?_
    refine hG.1 32 _ _ rfl _ _ _ ?_
    refine hG.1 33 _ _ rfl _ _ _ ?_
    obtain ⟨g7, H⟩ := H
    refine ⟨⟨rfl, by decide⟩, Nat.le_of_ble_eq_true rfl, g7, ⟨_, _, rfl, H.1⟩, fun r5 σ6 hp8 => ?_⟩
    replace H := H.2 r5 σ6 hp8
    refine hG.1 34 _ _ rfl _ _ _ ?_
    refine ⟨fun h9 => ?_, fun h9 => ?_⟩
    · replace H := H.1 h9
      exact H
    · replace H := H.2 h9
      refine hG.1 35 _ _ rfl _ _ _ ?_
      refine hG.1 36 _ _ rfl _ _ _ ?_
      exact ⟨rfl, H⟩
set_option maxRecDepth 100000 in
set_option maxHeartbeats 4000000 in
theorem sgX6_lineNow_70 {po : Int32 → px_St → Prop} {G : px_K} (hG : px_cl (opX6_lineNow po) G) (σ : px_St)
    (H : ∃ g3 : gtX6_is, qrX6_is g3 (3 : Int32) (115 : Int32) (108 : Int32) (121 : Int32) σ ∧ ∀ (r1 : Int32) (σ2 : px_St), qoX6_is g3 (3 : Int32) (115 : Int32) (108 : Int32) (121 : Int32) σ r1 σ2 → ((r1 = 0) → ∃ g7 : gtX6_is, qrX6_is g7 (3 : Int32) (101 : Int32) (97 : Int32) (114 : Int32) σ2 ∧ ∀ (r5 : Int32) (σ6 : px_St), qoX6_is g7 (3 : Int32) (101 : Int32) (97 : Int32) (114 : Int32) σ2 r5 σ6 → ((r5 = 0) → po (-4 : Int32) σ6) ∧ (¬ (r5 = 0) → po (4 : Int32) σ6)) ∧ (¬ (r1 = 0) → po (3 : Int32) σ2)) :
    G 70 [some (.ref 0)] [] σ := by
  refine hG.1 37 _ _ rfl _ _ _ ?_
  refine hG.1 38 _ _ rfl _ _ _ ?_
  refine hG.1 39 _ _ rfl _ _ _ ?_
  refine hG.1 40 _ _ rfl _ _ _ ?_
  refine hG.1 41 _ _ rfl _ _ _ ?_
  refine hG.1 42 _ _ rfl _ _ _ ?_
  obtain ⟨g3, H⟩ := H
  refine ⟨⟨rfl, by decide⟩, Nat.le_of_ble_eq_true rfl, g3, ⟨_, _, _, _, rfl, H.1⟩, fun r1 σ2 hp4 => ?_⟩
  replace H := H.2 r1 σ2 hp4
  refine hG.1 43 _ _ rfl _ _ _ ?_
  refine ⟨fun h10 => ?_, fun h10 => ?_⟩
  · replace H := H.1 h10
    refine hG.1 46 _ _ rfl _ _ _ ?_
    refine hG.1 47 _ _ rfl _ _ _ ?_
    refine hG.1 48 _ _ rfl _ _ _ ?_
    refine hG.1 49 _ _ rfl _ _ _ ?_
    refine hG.1 50 _ _ rfl _ _ _ ?_
    refine hG.1 51 _ _ rfl _ _ _ ?_
    obtain ⟨g7, H⟩ := H
    refine ⟨⟨rfl, by decide⟩, Nat.le_of_ble_eq_true rfl, g7, ⟨_, _, _, _, rfl, H.1⟩, fun r5 σ6 hp8 => ?_⟩
    replace H := H.2 r5 σ6 hp8
    refine hG.1 52 _ _ rfl _ _ _ ?_
    refine ⟨fun h9 => ?_, fun h9 => ?_⟩
    · replace H := H.1 h9
      refine hG.1 55 _ _ rfl _ _ _ ?_
      refine hG.1 56 _ _ rfl _ _ _ ?_
      exact ⟨rfl, H⟩
    · replace H := H.2 h9
      refine hG.1 53 _ _ rfl _ _ _ ?_
      refine hG.1 54 _ _ rfl _ _ _ ?_
      refine hG.1 56 _ _ rfl _ _ _ ?_
      exact ⟨rfl, H⟩
  · replace H := H.2 h10
    refine hG.1 44 _ _ rfl _ _ _ ?_
    refine hG.1 45 _ _ rfl _ _ _ ?_
    refine hG.1 56 _ _ rfl _ _ _ ?_
    exact ⟨rfl, H⟩
set_option maxRecDepth 100000 in
set_option maxHeartbeats 4000000 in
theorem hhX6_lineNow (g : gtX6_lineNow) (σ : px_St) (h : qrX6_lineNow g σ) (G : px_K) (hG : px_cl (opX6_lineNow (qoX6_lineNow g σ)) G) : G 0 (px_ent 1 [.ref 0]) [] σ := by
  obtain ⟨T, f, t⟩ := g
  obtain ⟨hb, hT, h8, h7, hft, ht⟩ := h
  have hl := hT.1
  have n0 := nm5 (f := f) (t := t) (i := 0) hT ht (show pt_w 0 = [112, 108, 97, 105, 110] from rfl) (by omega) (by omega) (by omega) (by omega) (by omega)
  have n1 := nm3 (f := f) (t := t) (i := 1) hT ht (show pt_w 1 = [111, 108, 100] from rfl) (by omega) (by omega) (by omega)
  have n2 := nm5 (f := f) (t := t) (i := 2) hT ht (show pt_w 2 = [121, 111, 117, 110, 103] from rfl) (by omega) (by omega) (by omega) (by omega) (by omega)
  have n3 := nm3 (f := f) (t := t) (i := 3) hT ht (show pt_w 3 = [115, 108, 121] from rfl) (by omega) (by omega) (by omega)
  have n4 := nm3 (f := f) (t := t) (i := 4) hT ht (show pt_w 4 = [101, 97, 114] from rfl) (by omega) (by omega) (by omega)
  have hp : ∀ a b c d, qrX6_is (T, f, t) a b c d σ := fun _ _ _ _ => ⟨hb, hT, h8, h7, hft, by omega⟩
  have hp2 : ∀ a b, qrX6_endsIn (T, f) a b σ := fun _ _ => ⟨hb, hT, h8, by omega⟩
  have s70 : ¬ pt_nm T f t 0 → ¬ pt_nm T f t 1 → ¬ pt_nm T f t 2 → G 70 [some (.ref 0)] [] σ := fun a0 a1 a2 => by
    refine sgX6_lineNow_70 hG σ ⟨(T, f, t), hp _ _ _ _, fun r1 σ1 h1 => ?_⟩
    obtain ⟨e1, b1⟩ := h1
    subst e1
    refine bz2 b1 (fun z => ?_) (fun z => ⟨(T, f, t), hp _ _ _ _, fun r2 σ2 h2 => ?_⟩)
    · refine ⟨rfl, ?_⟩
      unfold pt_name
      rw [xif_f a0, xif_f a1, xif_f a2, xif_t (n3.mpr z)]
      rfl
    · obtain ⟨e2, b2⟩ := h2
      subst e2
      have a3 : ¬ pt_nm T f t 3 := fun q => z (n3.mp q)
      refine bz2 b2 (fun y => ⟨rfl, ?_⟩) (fun y => ⟨rfl, ?_⟩)
      · unfold pt_name
        rw [xif_f a0, xif_f a1, xif_f a2, xif_f a3, xif_t (n4.mpr y)]
        rfl
      · unfold pt_name
        rw [xif_f a0, xif_f a1, xif_f a2, xif_f a3, xif_f (fun q => y (n4.mp q))]
        rfl
  have s43 : ¬ pt_nm T f t 0 → ¬ pt_nm T f t 1 → G 43 [some (.ref 0)] [] σ := fun a0 a1 => by
    refine sgX6_lineNow_43 hG σ ⟨(T, f, t), hp _ _ _ _, fun r1 σ1 h1 => ?_⟩
    obtain ⟨e1, b1⟩ := h1
    subst e1
    refine bz2 b1 (fun z => ⟨(T, f), hp2 _ _, fun r2 σ2 h2 => ?_⟩) (fun z => s70 a0 a1 (fun q => z (n2.mp q).1))
    obtain ⟨e2, b2⟩ := h2
    subst e2
    refine bz2 b2 (fun y => ⟨rfl, ?_⟩) (fun y => s70 a0 a1 (fun q => y (n2.mp q).2))
    unfold pt_name
    rw [xif_f a0, xif_f a1, xif_t (n2.mpr ⟨z, y⟩)]
    rfl
  have s27 : ¬ pt_nm T f t 0 → G 27 [some (.ref 0)] [] σ := fun a0 => by
    refine sgX6_lineNow_27 hG σ ⟨(T, f, t), hp _ _ _ _, fun r1 σ1 h1 => ?_⟩
    obtain ⟨e1, b1⟩ := h1
    subst e1
    refine bz2 b1 (fun z => ⟨rfl, ?_⟩) (fun z => s43 a0 (fun q => z (n1.mp q)))
    unfold pt_name
    rw [xif_f a0, xif_t (n1.mpr z)]
    rfl
  refine sgX6_lineNow_0 hG σ ⟨(T, f, t), hp _ _ _ _, fun r1 σ1 h1 => ?_⟩
  obtain ⟨e1, b1⟩ := h1
  subst e1
  refine bz2 b1 (fun z => ⟨(T, f), hp2 _ _, fun r2 σ2 h2 => ?_⟩) (fun z => s27 (fun q => z (n0.mp q).1))
  obtain ⟨e2, b2⟩ := h2
  subst e2
  refine bz2 b2 (fun y => ⟨rfl, ?_⟩) (fun y => s27 (fun q => y (n0.mp q).2))
  unfold pt_name
  rw [xif_t (n0.mpr ⟨z, y⟩)]
  rfl
theorem mX6_lineNow (g : gtX6_lineNow) : px_Met dM yX6_lineNow (Cond.code yX6_lineNow cX6_lineNow 1 (some .int) :: wdM) rmX6_lineNow px_vI (prX6_lineNow g) (poX6_lineNow g) :=
  px_met (Z := (cX6_lineNow, 1, RX6, Cond.code yX6_lineNow cX6_lineNow 1 (some .int) :: wdM, (some .int), rmX6_lineNow, dM)) opX6_lineNow (by decide) rfl rfl okX6_lineNow (fun As σ h => by obtain ⟨rfl, h⟩ := h; exact Nat.le_of_ble_eq_true rfl) (fun As σ h G hG => by obtain ⟨rfl, h⟩ := h; exact hhX6_lineNow g σ h G hG)
def rdM (σ : px_St) (t : pt_K) : Prop := σ.1 0 11 = 0 ∧ σ.1 0 9 = nI t.1 ∧ σ.1 0 8 = nI t.2.1 ∧ σ.1 0 7 = nI t.2.2.1 ∧ (t.1 = 2 → σ.1 0 10 = nI t.2.2.2)
def rsM {α : Type} (σ : px_St) (Q : α → Prop) : Sum (Nat × Nat) α → Prop
  | .inl f => σ.1 0 11 = nI f.1 ∧ σ.1 0 12 = nI f.2
  | .inr a => Q a
abbrev gtX6_reads : Type := List Nat × Nat × Nat
def qrX6_reads : gtX6_reads → px_St → Prop
  | (T, p, F), σ => rbM σ T ∧ tx_ok T ∧ σ.1 0 11 = nI F ∧ F ≤ 5 ∧ (F = 0 → p ≤ T.length ∧ σ.1 0 7 = nI p)
def qoX6_reads : gtX6_reads → px_St → Unit → px_St → Prop
  | (T, p, F), σ, _, σ' => (F ≠ 0 → σ = σ') ∧ (F = 0 → rsM σ' (rdM σ') (pt_next T p)) ∧ fr0 σ σ'
def prX6_reads (g : gtX6_reads) : List Value → px_St → Prop := fun As σ => As = [.ref 0] ∧ qrX6_reads g σ
def poX6_reads (g : gtX6_reads) : List Value → px_St → Unit → px_St → Prop
  | [.ref _], σ, r, σ' => qoX6_reads g σ r σ'
  | _, _, _, _ => False
theorem dX6_reads_0 : decode cX6_reads 0 = .ok (.aload_n 0, 1) := by decide +kernel
theorem dX6_reads_1 : decode cX6_reads 1 = .ok (.getfield 64, 3) := by decide +kernel
theorem dX6_reads_4 : decode cX6_reads 4 = .ok (.ifCond .le 4, 3) := by decide +kernel
theorem dX6_reads_7 : decode cX6_reads 7 = .ok (.return_, 1) := by decide +kernel
theorem dX6_reads_8 : decode cX6_reads 8 = .ok (.aload_n 0, 1) := by decide +kernel
theorem dX6_reads_9 : decode cX6_reads 9 = .ok (.aload_n 0, 1) := by decide +kernel
theorem dX6_reads_10 : decode cX6_reads 10 = .ok (.getfield 73, 3) := by decide +kernel
theorem dX6_reads_13 : decode cX6_reads 13 = .ok (.invokevirtual 76, 3) := by decide +kernel
theorem dX6_reads_16 : decode cX6_reads 16 = .ok (.bipush 32, 2) := by decide +kernel
theorem dX6_reads_18 : decode cX6_reads 18 = .ok (.if_icmp .ne 16, 3) := by decide +kernel
theorem dX6_reads_21 : decode cX6_reads 21 = .ok (.aload_n 0, 1) := by decide +kernel
theorem dX6_reads_22 : decode cX6_reads 22 = .ok (.dup, 1) := by decide +kernel
theorem dX6_reads_23 : decode cX6_reads 23 = .ok (.getfield 73, 3) := by decide +kernel
theorem dX6_reads_26 : decode cX6_reads 26 = .ok (.iconst 1, 1) := by decide +kernel
theorem dX6_reads_27 : decode cX6_reads 27 = .ok (.iadd, 1) := by decide +kernel
theorem dX6_reads_28 : decode cX6_reads 28 = .ok (.putfield 73, 3) := by decide +kernel
theorem dX6_reads_31 : decode cX6_reads 31 = .ok (.goto (-23), 3) := by decide +kernel
theorem dX6_reads_34 : decode cX6_reads 34 = .ok (.aload_n 0, 1) := by decide +kernel
theorem dX6_reads_35 : decode cX6_reads 35 = .ok (.aload_n 0, 1) := by decide +kernel
theorem dX6_reads_36 : decode cX6_reads 36 = .ok (.getfield 73, 3) := by decide +kernel
theorem dX6_reads_39 : decode cX6_reads 39 = .ok (.putfield 67, 3) := by decide +kernel
theorem dX6_reads_42 : decode cX6_reads 42 = .ok (.aload_n 0, 1) := by decide +kernel
theorem dX6_reads_43 : decode cX6_reads 43 = .ok (.aload_n 0, 1) := by decide +kernel
theorem dX6_reads_44 : decode cX6_reads 44 = .ok (.getfield 73, 3) := by decide +kernel
theorem dX6_reads_47 : decode cX6_reads 47 = .ok (.invokevirtual 76, 3) := by decide +kernel
theorem dX6_reads_50 : decode cX6_reads 50 = .ok (.istore_n 1, 1) := by decide +kernel
theorem dX6_reads_51 : decode cX6_reads 51 = .ok (.iload_n 1, 1) := by decide +kernel
theorem dX6_reads_52 : decode cX6_reads 52 = .ok (.ifCond .ge 11, 3) := by decide +kernel
theorem dX6_reads_55 : decode cX6_reads 55 = .ok (.aload_n 0, 1) := by decide +kernel
theorem dX6_reads_56 : decode cX6_reads 56 = .ok (.iconst 0, 1) := by decide +kernel
theorem dX6_reads_57 : decode cX6_reads 57 = .ok (.putfield 88, 3) := by decide +kernel
theorem dX6_reads_60 : decode cX6_reads 60 = .ok (.goto 214, 3) := by decide +kernel
theorem dX6_reads_63 : decode cX6_reads 63 = .ok (.iload_n 1, 1) := by decide +kernel
theorem dX6_reads_64 : decode cX6_reads 64 = .ok (.i2l, 1) := by decide +kernel
theorem dX6_reads_65 : decode cX6_reads 65 = .ok (.ldc2_w 91, 3) := by decide +kernel
theorem dX6_reads_68 : decode cX6_reads 68 = .ok (.ldc2_w 93, 3) := by decide +kernel
theorem dX6_reads_71 : decode cX6_reads 71 = .ok (.invokestatic 56, 3) := by decide +kernel
theorem dX6_reads_74 : decode cX6_reads 74 = .ok (.ifCond .eq 42, 3) := by decide +kernel
theorem dX6_reads_77 : decode cX6_reads 77 = .ok (.aload_n 0, 1) := by decide +kernel
theorem dX6_reads_78 : decode cX6_reads 78 = .ok (.iconst 1, 1) := by decide +kernel
theorem dX6_reads_79 : decode cX6_reads 79 = .ok (.putfield 88, 3) := by decide +kernel
theorem dX6_reads_82 : decode cX6_reads 82 = .ok (.aload_n 0, 1) := by decide +kernel
theorem dX6_reads_83 : decode cX6_reads 83 = .ok (.aload_n 0, 1) := by decide +kernel
theorem dX6_reads_84 : decode cX6_reads 84 = .ok (.getfield 73, 3) := by decide +kernel
theorem dX6_reads_87 : decode cX6_reads 87 = .ok (.invokevirtual 76, 3) := by decide +kernel
theorem dX6_reads_90 : decode cX6_reads 90 = .ok (.i2l, 1) := by decide +kernel
theorem dX6_reads_91 : decode cX6_reads 91 = .ok (.ldc2_w 91, 3) := by decide +kernel
theorem dX6_reads_94 : decode cX6_reads 94 = .ok (.ldc2_w 93, 3) := by decide +kernel
theorem dX6_reads_97 : decode cX6_reads 97 = .ok (.invokestatic 56, 3) := by decide +kernel
theorem dX6_reads_100 : decode cX6_reads 100 = .ok (.ifCond .eq 174, 3) := by decide +kernel
theorem dX6_reads_103 : decode cX6_reads 103 = .ok (.aload_n 0, 1) := by decide +kernel
theorem dX6_reads_104 : decode cX6_reads 104 = .ok (.dup, 1) := by decide +kernel
theorem dX6_reads_105 : decode cX6_reads 105 = .ok (.getfield 73, 3) := by decide +kernel
theorem dX6_reads_108 : decode cX6_reads 108 = .ok (.iconst 1, 1) := by decide +kernel
theorem dX6_reads_109 : decode cX6_reads 109 = .ok (.iadd, 1) := by decide +kernel
theorem dX6_reads_110 : decode cX6_reads 110 = .ok (.putfield 73, 3) := by decide +kernel
theorem dX6_reads_113 : decode cX6_reads 113 = .ok (.goto (-31), 3) := by decide +kernel
theorem dX6_reads_116 : decode cX6_reads 116 = .ok (.iload_n 1, 1) := by decide +kernel
theorem dX6_reads_117 : decode cX6_reads 117 = .ok (.i2l, 1) := by decide +kernel
theorem dX6_reads_118 : decode cX6_reads 118 = .ok (.ldc2_w 95, 3) := by decide +kernel
theorem dX6_reads_121 : decode cX6_reads 121 = .ok (.ldc2_w 97, 3) := by decide +kernel
theorem dX6_reads_124 : decode cX6_reads 124 = .ok (.invokestatic 56, 3) := by decide +kernel
theorem dX6_reads_127 : decode cX6_reads 127 = .ok (.ifCond .eq 116, 3) := by decide +kernel
theorem dX6_reads_130 : decode cX6_reads 130 = .ok (.aload_n 0, 1) := by decide +kernel
theorem dX6_reads_131 : decode cX6_reads 131 = .ok (.iconst 2, 1) := by decide +kernel
theorem dX6_reads_132 : decode cX6_reads 132 = .ok (.putfield 88, 3) := by decide +kernel
theorem dX6_reads_135 : decode cX6_reads 135 = .ok (.aload_n 0, 1) := by decide +kernel
theorem dX6_reads_136 : decode cX6_reads 136 = .ok (.iconst 0, 1) := by decide +kernel
theorem dX6_reads_137 : decode cX6_reads 137 = .ok (.putfield 99, 3) := by decide +kernel
theorem dX6_reads_140 : decode cX6_reads 140 = .ok (.aload_n 0, 1) := by decide +kernel
theorem dX6_reads_141 : decode cX6_reads 141 = .ok (.aload_n 0, 1) := by decide +kernel
theorem dX6_reads_142 : decode cX6_reads 142 = .ok (.getfield 73, 3) := by decide +kernel
theorem dX6_reads_145 : decode cX6_reads 145 = .ok (.invokevirtual 76, 3) := by decide +kernel
theorem dX6_reads_148 : decode cX6_reads 148 = .ok (.i2l, 1) := by decide +kernel
theorem dX6_reads_149 : decode cX6_reads 149 = .ok (.ldc2_w 95, 3) := by decide +kernel
theorem dX6_reads_152 : decode cX6_reads 152 = .ok (.ldc2_w 97, 3) := by decide +kernel
theorem dX6_reads_155 : decode cX6_reads 155 = .ok (.invokestatic 56, 3) := by decide +kernel
theorem dX6_reads_158 : decode cX6_reads 158 = .ok (.ifCond .eq 59, 3) := by decide +kernel
theorem dX6_reads_161 : decode cX6_reads 161 = .ok (.aload_n 0, 1) := by decide +kernel
theorem dX6_reads_162 : decode cX6_reads 162 = .ok (.aload_n 0, 1) := by decide +kernel
theorem dX6_reads_163 : decode cX6_reads 163 = .ok (.getfield 73, 3) := by decide +kernel
theorem dX6_reads_166 : decode cX6_reads 166 = .ok (.aload_n 0, 1) := by decide +kernel
theorem dX6_reads_167 : decode cX6_reads 167 = .ok (.getfield 67, 3) := by decide +kernel
theorem dX6_reads_170 : decode cX6_reads 170 = .ok (.isub, 1) := by decide +kernel
theorem dX6_reads_171 : decode cX6_reads 171 = .ok (.iconst 2, 1) := by decide +kernel
theorem dX6_reads_172 : decode cX6_reads 172 = .ok (.if_icmp .ge 25, 3) := by decide +kernel
theorem dX6_reads_175 : decode cX6_reads 175 = .ok (.bipush 10, 2) := by decide +kernel
theorem dX6_reads_177 : decode cX6_reads 177 = .ok (.aload_n 0, 1) := by decide +kernel
theorem dX6_reads_178 : decode cX6_reads 178 = .ok (.getfield 99, 3) := by decide +kernel
theorem dX6_reads_181 : decode cX6_reads 181 = .ok (.imul, 1) := by decide +kernel
theorem dX6_reads_182 : decode cX6_reads 182 = .ok (.aload_n 0, 1) := by decide +kernel
theorem dX6_reads_183 : decode cX6_reads 183 = .ok (.aload_n 0, 1) := by decide +kernel
theorem dX6_reads_184 : decode cX6_reads 184 = .ok (.getfield 73, 3) := by decide +kernel
theorem dX6_reads_187 : decode cX6_reads 187 = .ok (.invokevirtual 76, 3) := by decide +kernel
theorem dX6_reads_190 : decode cX6_reads 190 = .ok (.iadd, 1) := by decide +kernel
theorem dX6_reads_191 : decode cX6_reads 191 = .ok (.bipush 48, 2) := by decide +kernel
theorem dX6_reads_193 : decode cX6_reads 193 = .ok (.isub, 1) := by decide +kernel
theorem dX6_reads_194 : decode cX6_reads 194 = .ok (.goto 7, 3) := by decide +kernel
theorem dX6_reads_197 : decode cX6_reads 197 = .ok (.aload_n 0, 1) := by decide +kernel
theorem dX6_reads_198 : decode cX6_reads 198 = .ok (.getfield 99, 3) := by decide +kernel
theorem dX6_reads_201 : decode cX6_reads 201 = .ok (.putfield 99, 3) := by decide +kernel
theorem dX6_reads_204 : decode cX6_reads 204 = .ok (.aload_n 0, 1) := by decide +kernel
theorem dX6_reads_205 : decode cX6_reads 205 = .ok (.dup, 1) := by decide +kernel
theorem dX6_reads_206 : decode cX6_reads 206 = .ok (.getfield 73, 3) := by decide +kernel
theorem dX6_reads_209 : decode cX6_reads 209 = .ok (.iconst 1, 1) := by decide +kernel
theorem dX6_reads_210 : decode cX6_reads 210 = .ok (.iadd, 1) := by decide +kernel
theorem dX6_reads_211 : decode cX6_reads 211 = .ok (.putfield 73, 3) := by decide +kernel
theorem dX6_reads_214 : decode cX6_reads 214 = .ok (.goto (-74), 3) := by decide +kernel
theorem dX6_reads_217 : decode cX6_reads 217 = .ok (.aload_n 0, 1) := by decide +kernel
theorem dX6_reads_218 : decode cX6_reads 218 = .ok (.aload_n 0, 1) := by decide +kernel
theorem dX6_reads_219 : decode cX6_reads 219 = .ok (.getfield 73, 3) := by decide +kernel
theorem dX6_reads_222 : decode cX6_reads 222 = .ok (.aload_n 0, 1) := by decide +kernel
theorem dX6_reads_223 : decode cX6_reads 223 = .ok (.getfield 67, 3) := by decide +kernel
theorem dX6_reads_226 : decode cX6_reads 226 = .ok (.isub, 1) := by decide +kernel
theorem dX6_reads_227 : decode cX6_reads 227 = .ok (.iconst 2, 1) := by decide +kernel
theorem dX6_reads_228 : decode cX6_reads 228 = .ok (.if_icmp .gt 7, 3) := by decide +kernel
theorem dX6_reads_231 : decode cX6_reads 231 = .ok (.iconst 1, 1) := by decide +kernel
theorem dX6_reads_232 : decode cX6_reads 232 = .ok (.goto 4, 3) := by decide +kernel
theorem dX6_reads_235 : decode cX6_reads 235 = .ok (.iconst 0, 1) := by decide +kernel
theorem dX6_reads_236 : decode cX6_reads 236 = .ok (.iconst 1, 1) := by decide +kernel
theorem dX6_reads_237 : decode cX6_reads 237 = .ok (.invokevirtual 102, 3) := by decide +kernel
theorem dX6_reads_240 : decode cX6_reads 240 = .ok (.goto 34, 3) := by decide +kernel
theorem dX6_reads_243 : decode cX6_reads 243 = .ok (.aload_n 0, 1) := by decide +kernel
theorem dX6_reads_244 : decode cX6_reads 244 = .ok (.iconst 3, 1) := by decide +kernel
theorem dX6_reads_245 : decode cX6_reads 245 = .ok (.putfield 88, 3) := by decide +kernel
theorem dX6_reads_248 : decode cX6_reads 248 = .ok (.aload_n 0, 1) := by decide +kernel
theorem dX6_reads_249 : decode cX6_reads 249 = .ok (.iload_n 1, 1) := by decide +kernel
theorem dX6_reads_250 : decode cX6_reads 250 = .ok (.bipush 59, 2) := by decide +kernel
theorem dX6_reads_252 : decode cX6_reads 252 = .ok (.if_icmp .ne 7, 3) := by decide +kernel
theorem dX6_reads_255 : decode cX6_reads 255 = .ok (.iconst 1, 1) := by decide +kernel
theorem dX6_reads_256 : decode cX6_reads 256 = .ok (.goto 4, 3) := by decide +kernel
theorem dX6_reads_259 : decode cX6_reads 259 = .ok (.iconst 0, 1) := by decide +kernel
theorem dX6_reads_260 : decode cX6_reads 260 = .ok (.iconst 1, 1) := by decide +kernel
theorem dX6_reads_261 : decode cX6_reads 261 = .ok (.invokevirtual 102, 3) := by decide +kernel
theorem dX6_reads_264 : decode cX6_reads 264 = .ok (.aload_n 0, 1) := by decide +kernel
theorem dX6_reads_265 : decode cX6_reads 265 = .ok (.dup, 1) := by decide +kernel
theorem dX6_reads_266 : decode cX6_reads 266 = .ok (.getfield 73, 3) := by decide +kernel
theorem dX6_reads_269 : decode cX6_reads 269 = .ok (.iconst 1, 1) := by decide +kernel
theorem dX6_reads_270 : decode cX6_reads 270 = .ok (.iadd, 1) := by decide +kernel
theorem dX6_reads_271 : decode cX6_reads 271 = .ok (.putfield 73, 3) := by decide +kernel
theorem dX6_reads_274 : decode cX6_reads 274 = .ok (.return_, 1) := by decide +kernel
abbrev rmX6_reads : Room := { frames := 1, cells := 0, slots := 0, locals := 25 }
def opX6_reads (po : Unit → px_St → Prop) : List (Nat × px_Op) := [
  (0, px_al 1 0),
  (1, px_get dM 4 6 11),
  (4, px_if 7 8 (fun x => x ≤ 0)),
  (7, px_vret po),
  (8, px_al 9 0),
  (9, px_al 10 0),
  (10, px_get dM 13 6 7),
  (13, px_callV dM 16 6 1 px_vI prX6_byteAt poX6_byteAt),
  (16, px_push 18 (.int 32)),
  (18, px_ic 21 34 (fun x y => ¬ x = y)),
  (21, px_al 22 0),
  (22, px_dup 23),
  (23, px_get dM 26 6 7),
  (26, px_push 27 (.int 1)),
  (27, px_bin 28 (fun x y => x + y)),
  (28, px_put dM 31 6 7 .int),
  (31, px_go 8),
  (34, px_al 35 0),
  (35, px_al 36 0),
  (36, px_get dM 39 6 7),
  (39, px_put dM 42 6 8 .int),
  (42, px_al 43 0),
  (43, px_al 44 0),
  (44, px_get dM 47 6 7),
  (47, px_callV dM 50 6 1 px_vI prX6_byteAt poX6_byteAt),
  (50, px_is 51 1),
  (51, px_il 52 1),
  (52, px_if 55 63 (fun x => 0 ≤ x)),
  (55, px_al 56 0),
  (56, px_push 57 (.int 0)),
  (57, px_put dM 60 6 9 .int),
  (60, px_go 274),
  (63, px_il 64 1),
  (64, px_i2l 65),
  (65, px_push 68 (.long 97)),
  (68, px_push 71 (.long 122)),
  (71, px_callS 74 3 px_vI prX6_in poX6_in),
  (74, px_if 77 116 (fun x => x = 0)),
  (77, px_al 78 0),
  (78, px_push 79 (.int 1)),
  (79, px_put dM 82 6 9 .int),
  (82, px_al 83 0),
  (83, px_al 84 0),
  (84, px_get dM 87 6 7),
  (87, px_callV dM 90 6 1 px_vI prX6_byteAt poX6_byteAt),
  (90, px_i2l 91),
  (91, px_push 94 (.long 97)),
  (94, px_push 97 (.long 122)),
  (97, px_callS 100 3 px_vI prX6_in poX6_in),
  (100, px_if 103 274 (fun x => x = 0)),
  (103, px_al 104 0),
  (104, px_dup 105),
  (105, px_get dM 108 6 7),
  (108, px_push 109 (.int 1)),
  (109, px_bin 110 (fun x y => x + y)),
  (110, px_put dM 113 6 7 .int),
  (113, px_go 82),
  (116, px_il 117 1),
  (117, px_i2l 118),
  (118, px_push 121 (.long 48)),
  (121, px_push 124 (.long 57)),
  (124, px_callS 127 3 px_vI prX6_in poX6_in),
  (127, px_if 130 243 (fun x => x = 0)),
  (130, px_al 131 0),
  (131, px_push 132 (.int 2)),
  (132, px_put dM 135 6 9 .int),
  (135, px_al 136 0),
  (136, px_push 137 (.int 0)),
  (137, px_put dM 140 6 10 .int),
  (140, px_al 141 0),
  (141, px_al 142 0),
  (142, px_get dM 145 6 7),
  (145, px_callV dM 148 6 1 px_vI prX6_byteAt poX6_byteAt),
  (148, px_i2l 149),
  (149, px_push 152 (.long 48)),
  (152, px_push 155 (.long 57)),
  (155, px_callS 158 3 px_vI prX6_in poX6_in),
  (158, px_if 161 217 (fun x => x = 0)),
  (161, px_al 162 0),
  (162, px_al 163 0),
  (163, px_get dM 166 6 7),
  (166, px_al 167 0),
  (167, px_get dM 170 6 8),
  (170, px_bin 171 (fun x y => x - y)),
  (171, px_push 172 (.int 2)),
  (172, px_ic 175 197 (fun x y => y ≤ x)),
  (175, px_push 177 (.int 10)),
  (177, px_al 178 0),
  (178, px_get dM 181 6 10),
  (181, px_bin 182 (fun x y => x * y)),
  (182, px_al 183 0),
  (183, px_al 184 0),
  (184, px_get dM 187 6 7),
  (187, px_callV dM 190 6 1 px_vI prX6_byteAt poX6_byteAt),
  (190, px_bin 191 (fun x y => x + y)),
  (191, px_push 193 (.int 48)),
  (193, px_bin 194 (fun x y => x - y)),
  (194, px_go 201),
  (197, px_al 198 0),
  (198, px_get dM 201 6 10),
  (201, px_put dM 204 6 10 .int),
  (204, px_al 205 0),
  (205, px_dup 206),
  (206, px_get dM 209 6 7),
  (209, px_push 210 (.int 1)),
  (210, px_bin 211 (fun x y => x + y)),
  (211, px_put dM 214 6 7 .int),
  (214, px_go 140),
  (217, px_al 218 0),
  (218, px_al 219 0),
  (219, px_get dM 222 6 7),
  (222, px_al 223 0),
  (223, px_get dM 226 6 8),
  (226, px_bin 227 (fun x y => x - y)),
  (227, px_push 228 (.int 2)),
  (228, px_ic 231 235 (fun x y => y < x)),
  (231, px_push 232 (.int 1)),
  (232, px_go 236),
  (235, px_push 236 (.int 0)),
  (236, px_push 237 (.int 1)),
  (237, px_callV dM 240 6 2 px_vV prX6_requires poX6_requires),
  (240, px_go 274),
  (243, px_al 244 0),
  (244, px_push 245 (.int 3)),
  (245, px_put dM 248 6 9 .int),
  (248, px_al 249 0),
  (249, px_il 250 1),
  (250, px_push 252 (.int 59)),
  (252, px_ic 255 259 (fun x y => ¬ x = y)),
  (255, px_push 256 (.int 1)),
  (256, px_go 260),
  (259, px_push 260 (.int 0)),
  (260, px_push 261 (.int 1)),
  (261, px_callV dM 264 6 2 px_vV prX6_requires poX6_requires),
  (264, px_al 265 0),
  (265, px_dup 266),
  (266, px_get dM 269 6 7),
  (269, px_push 270 (.int 1)),
  (270, px_bin 271 (fun x y => x + y)),
  (271, px_put dM 274 6 7 .int),
  (274, px_vret po)]
set_option maxRecDepth 100000 in
set_option maxHeartbeats 4000000 in
theorem okX6_reads : ∀ (po : Unit → px_St → Prop) (i pc : Nat) (op : px_Op), (opX6_reads po)[i]? = some (pc, op) → px_Snd (cX6_reads, 2, RX6, Cond.code yX6_reads cX6_reads 2 none :: wdM, none, rmX6_reads, dM) px_vV po pc op := by
  intro po
  unfold opX6_reads
  refine px_ok_cons (ps_aload_n dX6_reads_0 rfl) ?_
  refine px_ok_cons (fgX6_64 dX6_reads_1) ?_
  refine px_ok_cons (ps_if_le dX6_reads_4 (by decide)) ?_
  refine px_ok_cons (ps_return rfl dX6_reads_7) ?_
  refine px_ok_cons (ps_aload_n dX6_reads_8 rfl) ?_
  refine px_ok_cons (ps_aload_n dX6_reads_9 rfl) ?_
  refine px_ok_cons (fgX6_73 dX6_reads_10) ?_
  refine px_ok_cons (ps_callV mX6_byteAt (fun _ _ => rfl) (C := RX6) rfl (fun _ _ ht => px_cwV wgM (wdM_1_in _ (List.mem_of_getElem? (i := 2) rfl)) (wdM_1_in _ (List.mem_of_getElem? (i := 3) rfl)) (wdM_1_in _ (List.mem_of_getElem? (i := 4) rfl)) (wdM_0_in _ (List.mem_of_getElem? (i := 22) rfl)) (wdM_0_in _ (List.mem_of_getElem? (i := 39) rfl)) (by decide +kernel) rfl rfl (by decide) ht) dX6_reads_13) ?_
  refine px_ok_cons (ps_bipush dX6_reads_16 (by decide)) ?_
  refine px_ok_cons (ps_icmp_ne dX6_reads_18 (by decide)) ?_
  refine px_ok_cons (ps_aload_n dX6_reads_21 rfl) ?_
  refine px_ok_cons (ps_dup dX6_reads_22) ?_
  refine px_ok_cons (fgX6_73 dX6_reads_23) ?_
  refine px_ok_cons (ps_iconst dX6_reads_26 (by decide)) ?_
  refine px_ok_cons (ps_iadd dX6_reads_27) ?_
  refine px_ok_cons (fpX6_73 dX6_reads_28) ?_
  refine px_ok_cons (ps_goto dX6_reads_31 (by decide)) ?_
  refine px_ok_cons (ps_aload_n dX6_reads_34 rfl) ?_
  refine px_ok_cons (ps_aload_n dX6_reads_35 rfl) ?_
  refine px_ok_cons (fgX6_73 dX6_reads_36) ?_
  refine px_ok_cons (fpX6_67 dX6_reads_39) ?_
  refine px_ok_cons (ps_aload_n dX6_reads_42 rfl) ?_
  refine px_ok_cons (ps_aload_n dX6_reads_43 rfl) ?_
  refine px_ok_cons (fgX6_73 dX6_reads_44) ?_
  refine px_ok_cons (ps_callV mX6_byteAt (fun _ _ => rfl) (C := RX6) rfl (fun _ _ ht => px_cwV wgM (wdM_1_in _ (List.mem_of_getElem? (i := 2) rfl)) (wdM_1_in _ (List.mem_of_getElem? (i := 3) rfl)) (wdM_1_in _ (List.mem_of_getElem? (i := 4) rfl)) (wdM_0_in _ (List.mem_of_getElem? (i := 22) rfl)) (wdM_0_in _ (List.mem_of_getElem? (i := 39) rfl)) (by decide +kernel) rfl rfl (by decide) ht) dX6_reads_47) ?_
  refine px_ok_cons (ps_istore_n dX6_reads_50 rfl (by decide)) ?_
  refine px_ok_cons (ps_iload_n dX6_reads_51 rfl) ?_
  refine px_ok_cons (ps_if_ge dX6_reads_52 (by decide)) ?_
  refine px_ok_cons (ps_aload_n dX6_reads_55 rfl) ?_
  refine px_ok_cons (ps_iconst dX6_reads_56 (by decide)) ?_
  refine px_ok_cons (fpX6_88 dX6_reads_57) ?_
  refine px_ok_cons (ps_goto dX6_reads_60 (by decide)) ?_
  refine px_ok_cons (ps_iload_n dX6_reads_63 rfl) ?_
  refine px_ok_cons (ps_i2l dX6_reads_64) ?_
  refine px_ok_cons (ps_ldc2 (List.mem_cons_of_mem _ (wdM_1_in _ (List.mem_of_getElem? (i := 15) rfl))) dX6_reads_65) ?_
  refine px_ok_cons (ps_ldc2 (List.mem_cons_of_mem _ (wdM_1_in _ (List.mem_of_getElem? (i := 16) rfl))) dX6_reads_68) ?_
  refine px_ok_cons (ps_callS mX6_in (fun _ _ => rfl) (fun _ _ ht => px_cwS wgM (wdM_0_in _ (List.mem_of_getElem? (i := 32) rfl)) (wdM_0_in _ (List.mem_of_getElem? (i := 33) rfl)) (wdM_0_in _ (List.mem_of_getElem? (i := 22) rfl)) (wdM_0_in _ (List.mem_of_getElem? (i := 27) rfl)) (by decide +kernel) rfl rfl (by decide) ht) dX6_reads_71) ?_
  refine px_ok_cons (ps_if_eq dX6_reads_74 (by decide)) ?_
  refine px_ok_cons (ps_aload_n dX6_reads_77 rfl) ?_
  refine px_ok_cons (ps_iconst dX6_reads_78 (by decide)) ?_
  refine px_ok_cons (fpX6_88 dX6_reads_79) ?_
  refine px_ok_cons (ps_aload_n dX6_reads_82 rfl) ?_
  refine px_ok_cons (ps_aload_n dX6_reads_83 rfl) ?_
  refine px_ok_cons (fgX6_73 dX6_reads_84) ?_
  refine px_ok_cons (ps_callV mX6_byteAt (fun _ _ => rfl) (C := RX6) rfl (fun _ _ ht => px_cwV wgM (wdM_1_in _ (List.mem_of_getElem? (i := 2) rfl)) (wdM_1_in _ (List.mem_of_getElem? (i := 3) rfl)) (wdM_1_in _ (List.mem_of_getElem? (i := 4) rfl)) (wdM_0_in _ (List.mem_of_getElem? (i := 22) rfl)) (wdM_0_in _ (List.mem_of_getElem? (i := 39) rfl)) (by decide +kernel) rfl rfl (by decide) ht) dX6_reads_87) ?_
  refine px_ok_cons (ps_i2l dX6_reads_90) ?_
  refine px_ok_cons (ps_ldc2 (List.mem_cons_of_mem _ (wdM_1_in _ (List.mem_of_getElem? (i := 15) rfl))) dX6_reads_91) ?_
  refine px_ok_cons (ps_ldc2 (List.mem_cons_of_mem _ (wdM_1_in _ (List.mem_of_getElem? (i := 16) rfl))) dX6_reads_94) ?_
  refine px_ok_cons (ps_callS mX6_in (fun _ _ => rfl) (fun _ _ ht => px_cwS wgM (wdM_0_in _ (List.mem_of_getElem? (i := 32) rfl)) (wdM_0_in _ (List.mem_of_getElem? (i := 33) rfl)) (wdM_0_in _ (List.mem_of_getElem? (i := 22) rfl)) (wdM_0_in _ (List.mem_of_getElem? (i := 27) rfl)) (by decide +kernel) rfl rfl (by decide) ht) dX6_reads_97) ?_
  refine px_ok_cons (ps_if_eq dX6_reads_100 (by decide)) ?_
  refine px_ok_cons (ps_aload_n dX6_reads_103 rfl) ?_
  refine px_ok_cons (ps_dup dX6_reads_104) ?_
  refine px_ok_cons (fgX6_73 dX6_reads_105) ?_
  refine px_ok_cons (ps_iconst dX6_reads_108 (by decide)) ?_
  refine px_ok_cons (ps_iadd dX6_reads_109) ?_
  refine px_ok_cons (fpX6_73 dX6_reads_110) ?_
  refine px_ok_cons (ps_goto dX6_reads_113 (by decide)) ?_
  refine px_ok_cons (ps_iload_n dX6_reads_116 rfl) ?_
  refine px_ok_cons (ps_i2l dX6_reads_117) ?_
  refine px_ok_cons (ps_ldc2 (List.mem_cons_of_mem _ (wdM_1_in _ (List.mem_of_getElem? (i := 17) rfl))) dX6_reads_118) ?_
  refine px_ok_cons (ps_ldc2 (List.mem_cons_of_mem _ (wdM_1_in _ (List.mem_of_getElem? (i := 18) rfl))) dX6_reads_121) ?_
  refine px_ok_cons (ps_callS mX6_in (fun _ _ => rfl) (fun _ _ ht => px_cwS wgM (wdM_0_in _ (List.mem_of_getElem? (i := 32) rfl)) (wdM_0_in _ (List.mem_of_getElem? (i := 33) rfl)) (wdM_0_in _ (List.mem_of_getElem? (i := 22) rfl)) (wdM_0_in _ (List.mem_of_getElem? (i := 27) rfl)) (by decide +kernel) rfl rfl (by decide) ht) dX6_reads_124) ?_
  refine px_ok_cons (ps_if_eq dX6_reads_127 (by decide)) ?_
  refine px_ok_cons (ps_aload_n dX6_reads_130 rfl) ?_
  refine px_ok_cons (ps_iconst dX6_reads_131 (by decide)) ?_
  refine px_ok_cons (fpX6_88 dX6_reads_132) ?_
  refine px_ok_cons (ps_aload_n dX6_reads_135 rfl) ?_
  refine px_ok_cons (ps_iconst dX6_reads_136 (by decide)) ?_
  refine px_ok_cons (fpX6_99 dX6_reads_137) ?_
  refine px_ok_cons (ps_aload_n dX6_reads_140 rfl) ?_
  refine px_ok_cons (ps_aload_n dX6_reads_141 rfl) ?_
  refine px_ok_cons (fgX6_73 dX6_reads_142) ?_
  refine px_ok_cons (ps_callV mX6_byteAt (fun _ _ => rfl) (C := RX6) rfl (fun _ _ ht => px_cwV wgM (wdM_1_in _ (List.mem_of_getElem? (i := 2) rfl)) (wdM_1_in _ (List.mem_of_getElem? (i := 3) rfl)) (wdM_1_in _ (List.mem_of_getElem? (i := 4) rfl)) (wdM_0_in _ (List.mem_of_getElem? (i := 22) rfl)) (wdM_0_in _ (List.mem_of_getElem? (i := 39) rfl)) (by decide +kernel) rfl rfl (by decide) ht) dX6_reads_145) ?_
  refine px_ok_cons (ps_i2l dX6_reads_148) ?_
  refine px_ok_cons (ps_ldc2 (List.mem_cons_of_mem _ (wdM_1_in _ (List.mem_of_getElem? (i := 17) rfl))) dX6_reads_149) ?_
  refine px_ok_cons (ps_ldc2 (List.mem_cons_of_mem _ (wdM_1_in _ (List.mem_of_getElem? (i := 18) rfl))) dX6_reads_152) ?_
  refine px_ok_cons (ps_callS mX6_in (fun _ _ => rfl) (fun _ _ ht => px_cwS wgM (wdM_0_in _ (List.mem_of_getElem? (i := 32) rfl)) (wdM_0_in _ (List.mem_of_getElem? (i := 33) rfl)) (wdM_0_in _ (List.mem_of_getElem? (i := 22) rfl)) (wdM_0_in _ (List.mem_of_getElem? (i := 27) rfl)) (by decide +kernel) rfl rfl (by decide) ht) dX6_reads_155) ?_
  refine px_ok_cons (ps_if_eq dX6_reads_158 (by decide)) ?_
  refine px_ok_cons (ps_aload_n dX6_reads_161 rfl) ?_
  refine px_ok_cons (ps_aload_n dX6_reads_162 rfl) ?_
  refine px_ok_cons (fgX6_73 dX6_reads_163) ?_
  refine px_ok_cons (ps_aload_n dX6_reads_166 rfl) ?_
  refine px_ok_cons (fgX6_67 dX6_reads_167) ?_
  refine px_ok_cons (ps_isub dX6_reads_170) ?_
  refine px_ok_cons (ps_iconst dX6_reads_171 (by decide)) ?_
  refine px_ok_cons (ps_icmp_ge dX6_reads_172 (by decide)) ?_
  refine px_ok_cons (ps_bipush dX6_reads_175 (by decide)) ?_
  refine px_ok_cons (ps_aload_n dX6_reads_177 rfl) ?_
  refine px_ok_cons (fgX6_99 dX6_reads_178) ?_
  refine px_ok_cons (ps_imul dX6_reads_181) ?_
  refine px_ok_cons (ps_aload_n dX6_reads_182 rfl) ?_
  refine px_ok_cons (ps_aload_n dX6_reads_183 rfl) ?_
  refine px_ok_cons (fgX6_73 dX6_reads_184) ?_
  refine px_ok_cons (ps_callV mX6_byteAt (fun _ _ => rfl) (C := RX6) rfl (fun _ _ ht => px_cwV wgM (wdM_1_in _ (List.mem_of_getElem? (i := 2) rfl)) (wdM_1_in _ (List.mem_of_getElem? (i := 3) rfl)) (wdM_1_in _ (List.mem_of_getElem? (i := 4) rfl)) (wdM_0_in _ (List.mem_of_getElem? (i := 22) rfl)) (wdM_0_in _ (List.mem_of_getElem? (i := 39) rfl)) (by decide +kernel) rfl rfl (by decide) ht) dX6_reads_187) ?_
  refine px_ok_cons (ps_iadd dX6_reads_190) ?_
  refine px_ok_cons (ps_bipush dX6_reads_191 (by decide)) ?_
  refine px_ok_cons (ps_isub dX6_reads_193) ?_
  refine px_ok_cons (ps_goto dX6_reads_194 (by decide)) ?_
  refine px_ok_cons (ps_aload_n dX6_reads_197 rfl) ?_
  refine px_ok_cons (fgX6_99 dX6_reads_198) ?_
  refine px_ok_cons (fpX6_99 dX6_reads_201) ?_
  refine px_ok_cons (ps_aload_n dX6_reads_204 rfl) ?_
  refine px_ok_cons (ps_dup dX6_reads_205) ?_
  refine px_ok_cons (fgX6_73 dX6_reads_206) ?_
  refine px_ok_cons (ps_iconst dX6_reads_209 (by decide)) ?_
  refine px_ok_cons (ps_iadd dX6_reads_210) ?_
  refine px_ok_cons (fpX6_73 dX6_reads_211) ?_
  refine px_ok_cons (ps_goto dX6_reads_214 (by decide)) ?_
  refine px_ok_cons (ps_aload_n dX6_reads_217 rfl) ?_
  refine px_ok_cons (ps_aload_n dX6_reads_218 rfl) ?_
  refine px_ok_cons (fgX6_73 dX6_reads_219) ?_
  refine px_ok_cons (ps_aload_n dX6_reads_222 rfl) ?_
  refine px_ok_cons (fgX6_67 dX6_reads_223) ?_
  refine px_ok_cons (ps_isub dX6_reads_226) ?_
  refine px_ok_cons (ps_iconst dX6_reads_227 (by decide)) ?_
  refine px_ok_cons (ps_icmp_gt dX6_reads_228 (by decide)) ?_
  refine px_ok_cons (ps_iconst dX6_reads_231 (by decide)) ?_
  refine px_ok_cons (ps_goto dX6_reads_232 (by decide)) ?_
  refine px_ok_cons (ps_iconst dX6_reads_235 (by decide)) ?_
  refine px_ok_cons (ps_iconst dX6_reads_236 (by decide)) ?_
  refine px_ok_cons (ps_callV mX6_requires (fun _ _ => rfl) (C := RX6) rfl (fun _ _ ht => px_cwV wgM (wdM_1_in _ (List.mem_of_getElem? (i := 20) rfl)) (wdM_1_in _ (List.mem_of_getElem? (i := 21) rfl)) (wdM_1_in _ (List.mem_of_getElem? (i := 22) rfl)) (wdM_0_in _ (List.mem_of_getElem? (i := 22) rfl)) (wdM_0_in _ (List.mem_of_getElem? (i := 35) rfl)) (by decide +kernel) rfl rfl (by decide) ht) dX6_reads_237) ?_
  refine px_ok_cons (ps_goto dX6_reads_240 (by decide)) ?_
  refine px_ok_cons (ps_aload_n dX6_reads_243 rfl) ?_
  refine px_ok_cons (ps_iconst dX6_reads_244 (by decide)) ?_
  refine px_ok_cons (fpX6_88 dX6_reads_245) ?_
  refine px_ok_cons (ps_aload_n dX6_reads_248 rfl) ?_
  refine px_ok_cons (ps_iload_n dX6_reads_249 rfl) ?_
  refine px_ok_cons (ps_bipush dX6_reads_250 (by decide)) ?_
  refine px_ok_cons (ps_icmp_ne dX6_reads_252 (by decide)) ?_
  refine px_ok_cons (ps_iconst dX6_reads_255 (by decide)) ?_
  refine px_ok_cons (ps_goto dX6_reads_256 (by decide)) ?_
  refine px_ok_cons (ps_iconst dX6_reads_259 (by decide)) ?_
  refine px_ok_cons (ps_iconst dX6_reads_260 (by decide)) ?_
  refine px_ok_cons (ps_callV mX6_requires (fun _ _ => rfl) (C := RX6) rfl (fun _ _ ht => px_cwV wgM (wdM_1_in _ (List.mem_of_getElem? (i := 20) rfl)) (wdM_1_in _ (List.mem_of_getElem? (i := 21) rfl)) (wdM_1_in _ (List.mem_of_getElem? (i := 22) rfl)) (wdM_0_in _ (List.mem_of_getElem? (i := 22) rfl)) (wdM_0_in _ (List.mem_of_getElem? (i := 35) rfl)) (by decide +kernel) rfl rfl (by decide) ht) dX6_reads_261) ?_
  refine px_ok_cons (ps_aload_n dX6_reads_264 rfl) ?_
  refine px_ok_cons (ps_dup dX6_reads_265) ?_
  refine px_ok_cons (fgX6_73 dX6_reads_266) ?_
  refine px_ok_cons (ps_iconst dX6_reads_269 (by decide)) ?_
  refine px_ok_cons (ps_iadd dX6_reads_270) ?_
  refine px_ok_cons (fpX6_73 dX6_reads_271) ?_
  refine px_ok_cons (ps_return rfl dX6_reads_274) ?_
  exact px_ok_nil
set_option maxRecDepth 100000 in
set_option maxHeartbeats 4000000 in
theorem sgX6_reads_0 {po : Unit → px_St → Prop} {G : px_K} (hG : px_cl (opX6_reads po) G) (σ : px_St)
    (H : (((σ.1 0 11) ≤ 0) → G 8 [some (.ref 0), none] [] σ) ∧ (¬ ((σ.1 0 11) ≤ 0) → po () σ)) :
    G 0 (px_ent 2 [.ref 0]) [] σ := by
  refine hG.1 0 _ _ rfl _ _ _ ?_
  refine hG.1 1 _ _ rfl _ _ _ ?_
  refine ⟨⟨rfl, by decide⟩, ?_⟩
  refine hG.1 2 _ _ rfl _ _ _ ?_
  refine ⟨fun h1 => ?_, fun h1 => ?_⟩
  · replace H := H.1 h1
    exact H
  · replace H := H.2 h1
    refine hG.1 3 _ _ rfl _ _ _ ?_
    exact H
set_option maxRecDepth 100000 in
set_option maxHeartbeats 4000000 in
theorem sgX6_reads_8 {po : Unit → px_St → Prop} {G : px_K} (hG : px_cl (opX6_reads po) G) (σ : px_St)
    (H : ∃ g3 : gtX6_byteAt, qrX6_byteAt g3 (σ.1 0 7) σ ∧ ∀ (r1 : Int32) (σ2 : px_St), qoX6_byteAt g3 (σ.1 0 7) σ r1 σ2 → ((¬ r1 = (32 : Int32)) → G 34 [some (.ref 0), none] [] σ2) ∧ (¬ (¬ r1 = (32 : Int32)) → G 8 [some (.ref 0), none] [] (px_up σ2 0 7 ((σ2.1 0 7) + (1 : Int32))))) :
    G 8 [some (.ref 0), none] [] σ := by
  refine hG.1 4 _ _ rfl _ _ _ ?_
  refine hG.1 5 _ _ rfl _ _ _ ?_
  refine hG.1 6 _ _ rfl _ _ _ ?_
  refine ⟨⟨rfl, by decide⟩, ?_⟩
  refine hG.1 7 _ _ rfl _ _ _ ?_
  obtain ⟨g3, H⟩ := H
  refine ⟨⟨rfl, by decide⟩, Nat.le_of_ble_eq_true rfl, g3, ⟨_, rfl, H.1⟩, fun r1 σ2 hp4 => ?_⟩
  replace H := H.2 r1 σ2 hp4
  refine hG.1 8 _ _ rfl _ _ _ ?_
  refine hG.1 9 _ _ rfl _ _ _ ?_
  refine ⟨fun h5 => ?_, fun h5 => ?_⟩
  · replace H := H.1 h5
    exact H
  · replace H := H.2 h5
    refine hG.1 10 _ _ rfl _ _ _ ?_
    refine hG.1 11 _ _ rfl _ _ _ ?_
    refine hG.1 12 _ _ rfl _ _ _ ?_
    refine ⟨⟨rfl, by decide⟩, ?_⟩
    refine hG.1 13 _ _ rfl _ _ _ ?_
    refine hG.1 14 _ _ rfl _ _ _ ?_
    refine hG.1 15 _ _ rfl _ _ _ ?_
    refine ⟨⟨rfl, by decide⟩, ⟨rfl, rfl⟩, ?_⟩
    refine hG.1 16 _ _ rfl _ _ _ ?_
    exact H
set_option maxRecDepth 100000 in
set_option maxHeartbeats 4000000 in
theorem sgX6_reads_34 {po : Unit → px_St → Prop} {G : px_K} (hG : px_cl (opX6_reads po) G) (σ : px_St)
    (H : ∃ g3 : gtX6_byteAt, qrX6_byteAt g3 ((px_up σ 0 8 (σ.1 0 7)).1 0 7) (px_up σ 0 8 (σ.1 0 7)) ∧ ∀ (r1 : Int32) (σ2 : px_St), qoX6_byteAt g3 ((px_up σ 0 8 (σ.1 0 7)).1 0 7) (px_up σ 0 8 (σ.1 0 7)) r1 σ2 → ((0 ≤ r1) → ∃ g7 : gtX6_in, qrX6_in g7 r1.toInt64 (97 : Int64) (122 : Int64) σ2 ∧ ∀ (r5 : Int32) (σ6 : px_St), qoX6_in g7 r1.toInt64 (97 : Int64) (122 : Int64) σ2 r5 σ6 → ((r5 = 0) → ∃ g11 : gtX6_in, qrX6_in g11 r1.toInt64 (48 : Int64) (57 : Int64) σ6 ∧ ∀ (r9 : Int32) (σ10 : px_St), qoX6_in g11 r1.toInt64 (48 : Int64) (57 : Int64) σ6 r9 σ10 → ((r9 = 0) → ((¬ r1 = (59 : Int32)) → ∃ g15 : gtX6_requires, qrX6_requires g15 (0 : Int32) (1 : Int32) (px_up σ10 0 9 (3 : Int32)) ∧ ∀ (r13 : Unit) (σ14 : px_St), qoX6_requires g15 (0 : Int32) (1 : Int32) (px_up σ10 0 9 (3 : Int32)) r13 σ14 → po () (px_up σ14 0 7 ((σ14.1 0 7) + (1 : Int32)))) ∧ (¬ (¬ r1 = (59 : Int32)) → ∃ g19 : gtX6_requires, qrX6_requires g19 (1 : Int32) (1 : Int32) (px_up σ10 0 9 (3 : Int32)) ∧ ∀ (r17 : Unit) (σ18 : px_St), qoX6_requires g19 (1 : Int32) (1 : Int32) (px_up σ10 0 9 (3 : Int32)) r17 σ18 → po () (px_up σ18 0 7 ((σ18.1 0 7) + (1 : Int32))))) ∧ (¬ (r9 = 0) → G 140 [some (.ref 0), some (.int r1)] [] (px_up (px_up σ10 0 9 (2 : Int32)) 0 10 (0 : Int32)))) ∧ (¬ (r5 = 0) → G 82 [some (.ref 0), some (.int r1)] [] (px_up σ6 0 9 (1 : Int32)))) ∧ (¬ (0 ≤ r1) → po () (px_up σ2 0 9 (0 : Int32)))) :
    G 34 [some (.ref 0), none] [] σ := by
  refine hG.1 17 _ _ rfl _ _ _ ?_
  refine hG.1 18 _ _ rfl _ _ _ ?_
  refine hG.1 19 _ _ rfl _ _ _ ?_
  refine ⟨⟨rfl, by decide⟩, ?_⟩
  refine hG.1 20 _ _ rfl _ _ _ ?_
  refine ⟨⟨rfl, by decide⟩, ⟨rfl, rfl⟩, ?_⟩
  refine hG.1 21 _ _ rfl _ _ _ ?_
  refine hG.1 22 _ _ rfl _ _ _ ?_
  refine hG.1 23 _ _ rfl _ _ _ ?_
  refine ⟨⟨rfl, by decide⟩, ?_⟩
  refine hG.1 24 _ _ rfl _ _ _ ?_
  obtain ⟨g3, H⟩ := H
  refine ⟨⟨rfl, by decide⟩, Nat.le_of_ble_eq_true rfl, g3, ⟨_, rfl, H.1⟩, fun r1 σ2 hp4 => ?_⟩
  replace H := H.2 r1 σ2 hp4
  refine hG.1 25 _ _ rfl _ _ _ ?_
  show G 51 [some (.ref 0), some (.int r1)] [] σ2
  refine hG.1 26 _ _ rfl _ _ _ ?_
  refine hG.1 27 _ _ rfl _ _ _ ?_
  refine ⟨fun h24 => ?_, fun h24 => ?_⟩
  · replace H := H.1 h24
    refine hG.1 32 _ _ rfl _ _ _ ?_
    refine hG.1 33 _ _ rfl _ _ _ ?_
    refine hG.1 34 _ _ rfl _ _ _ ?_
    refine hG.1 35 _ _ rfl _ _ _ ?_
    refine hG.1 36 _ _ rfl _ _ _ ?_
    obtain ⟨g7, H⟩ := H
    refine ⟨Nat.le_of_ble_eq_true rfl, Nat.le_of_ble_eq_true rfl, g7, ⟨_, _, _, rfl, H.1⟩, fun r5 σ6 hp8 => ?_⟩
    replace H := H.2 r5 σ6 hp8
    refine hG.1 37 _ _ rfl _ _ _ ?_
    refine ⟨fun h23 => ?_, fun h23 => ?_⟩
    · replace H := H.1 h23
      refine hG.1 57 _ _ rfl _ _ _ ?_
      refine hG.1 58 _ _ rfl _ _ _ ?_
      refine hG.1 59 _ _ rfl _ _ _ ?_
      refine hG.1 60 _ _ rfl _ _ _ ?_
      refine hG.1 61 _ _ rfl _ _ _ ?_
      obtain ⟨g11, H⟩ := H
      refine ⟨Nat.le_of_ble_eq_true rfl, Nat.le_of_ble_eq_true rfl, g11, ⟨_, _, _, rfl, H.1⟩, fun r9 σ10 hp12 => ?_⟩
      replace H := H.2 r9 σ10 hp12
      refine hG.1 62 _ _ rfl _ _ _ ?_
      refine ⟨fun h22 => ?_, fun h22 => ?_⟩
      · replace H := H.1 h22
        refine hG.1 122 _ _ rfl _ _ _ ?_
        refine hG.1 123 _ _ rfl _ _ _ ?_
        refine hG.1 124 _ _ rfl _ _ _ ?_
        refine ⟨⟨rfl, by decide⟩, ⟨rfl, rfl⟩, ?_⟩
        refine hG.1 125 _ _ rfl _ _ _ ?_
        refine hG.1 126 _ _ rfl _ _ _ ?_
        refine hG.1 127 _ _ rfl _ _ _ ?_
        refine hG.1 128 _ _ rfl _ _ _ ?_
        refine ⟨fun h21 => ?_, fun h21 => ?_⟩
        · replace H := H.1 h21
          refine hG.1 131 _ _ rfl _ _ _ ?_
          refine hG.1 132 _ _ rfl _ _ _ ?_
          refine hG.1 133 _ _ rfl _ _ _ ?_
          obtain ⟨g15, H⟩ := H
          refine ⟨⟨rfl, by decide⟩, Nat.le_of_ble_eq_true rfl, g15, ⟨_, _, rfl, H.1⟩, fun r13 σ14 hp16 => ?_⟩
          replace H := H.2 r13 σ14 hp16
          refine hG.1 134 _ _ rfl _ _ _ ?_
          refine hG.1 135 _ _ rfl _ _ _ ?_
          refine hG.1 136 _ _ rfl _ _ _ ?_
          refine ⟨⟨rfl, by decide⟩, ?_⟩
          refine hG.1 137 _ _ rfl _ _ _ ?_
          refine hG.1 138 _ _ rfl _ _ _ ?_
          refine hG.1 139 _ _ rfl _ _ _ ?_
          refine ⟨⟨rfl, by decide⟩, ⟨rfl, rfl⟩, ?_⟩
          refine hG.1 140 _ _ rfl _ _ _ ?_
          exact H
        · replace H := H.2 h21
          refine hG.1 129 _ _ rfl _ _ _ ?_
          refine hG.1 130 _ _ rfl _ _ _ ?_
          refine hG.1 132 _ _ rfl _ _ _ ?_
          refine hG.1 133 _ _ rfl _ _ _ ?_
          obtain ⟨g19, H⟩ := H
          refine ⟨⟨rfl, by decide⟩, Nat.le_of_ble_eq_true rfl, g19, ⟨_, _, rfl, H.1⟩, fun r17 σ18 hp20 => ?_⟩
          replace H := H.2 r17 σ18 hp20
          refine hG.1 134 _ _ rfl _ _ _ ?_
          refine hG.1 135 _ _ rfl _ _ _ ?_
          refine hG.1 136 _ _ rfl _ _ _ ?_
          refine ⟨⟨rfl, by decide⟩, ?_⟩
          refine hG.1 137 _ _ rfl _ _ _ ?_
          refine hG.1 138 _ _ rfl _ _ _ ?_
          refine hG.1 139 _ _ rfl _ _ _ ?_
          refine ⟨⟨rfl, by decide⟩, ⟨rfl, rfl⟩, ?_⟩
          refine hG.1 140 _ _ rfl _ _ _ ?_
          exact H
      · replace H := H.2 h22
        refine hG.1 63 _ _ rfl _ _ _ ?_
        refine hG.1 64 _ _ rfl _ _ _ ?_
        refine hG.1 65 _ _ rfl _ _ _ ?_
        refine ⟨⟨rfl, by decide⟩, ⟨rfl, rfl⟩, ?_⟩
        refine hG.1 66 _ _ rfl _ _ _ ?_
        refine hG.1 67 _ _ rfl _ _ _ ?_
        refine hG.1 68 _ _ rfl _ _ _ ?_
        refine ⟨⟨rfl, by decide⟩, ⟨rfl, rfl⟩, ?_⟩
        exact H
    · replace H := H.2 h23
      refine hG.1 38 _ _ rfl _ _ _ ?_
      refine hG.1 39 _ _ rfl _ _ _ ?_
      refine hG.1 40 _ _ rfl _ _ _ ?_
      refine ⟨⟨rfl, by decide⟩, ⟨rfl, rfl⟩, ?_⟩
      exact H
  · replace H := H.2 h24
    refine hG.1 28 _ _ rfl _ _ _ ?_
    refine hG.1 29 _ _ rfl _ _ _ ?_
    refine hG.1 30 _ _ rfl _ _ _ ?_
    refine ⟨⟨rfl, by decide⟩, ⟨rfl, rfl⟩, ?_⟩
    refine hG.1 31 _ _ rfl _ _ _ ?_
    refine hG.1 140 _ _ rfl _ _ _ ?_
    exact H
set_option maxRecDepth 100000 in
set_option maxHeartbeats 4000000 in
theorem sgX6_reads_82 {po : Unit → px_St → Prop} {G : px_K} (hG : px_cl (opX6_reads po) G) (v1 : Int32) (σ : px_St)
    (H : ∃ g3 : gtX6_byteAt, qrX6_byteAt g3 (σ.1 0 7) σ ∧ ∀ (r1 : Int32) (σ2 : px_St), qoX6_byteAt g3 (σ.1 0 7) σ r1 σ2 → ∃ g7 : gtX6_in, qrX6_in g7 r1.toInt64 (97 : Int64) (122 : Int64) σ2 ∧ ∀ (r5 : Int32) (σ6 : px_St), qoX6_in g7 r1.toInt64 (97 : Int64) (122 : Int64) σ2 r5 σ6 → ((r5 = 0) → po () σ6) ∧ (¬ (r5 = 0) → G 82 [some (.ref 0), some (.int v1)] [] (px_up σ6 0 7 ((σ6.1 0 7) + (1 : Int32))))) :
    G 82 [some (.ref 0), some (.int v1)] [] σ := by
  refine hG.1 41 _ _ rfl _ _ _ ?_
  refine hG.1 42 _ _ rfl _ _ _ ?_
  refine hG.1 43 _ _ rfl _ _ _ ?_
  refine ⟨⟨rfl, by decide⟩, ?_⟩
  refine hG.1 44 _ _ rfl _ _ _ ?_
  obtain ⟨g3, H⟩ := H
  refine ⟨⟨rfl, by decide⟩, Nat.le_of_ble_eq_true rfl, g3, ⟨_, rfl, H.1⟩, fun r1 σ2 hp4 => ?_⟩
  replace H := H.2 r1 σ2 hp4
  refine hG.1 45 _ _ rfl _ _ _ ?_
  refine hG.1 46 _ _ rfl _ _ _ ?_
  refine hG.1 47 _ _ rfl _ _ _ ?_
  refine hG.1 48 _ _ rfl _ _ _ ?_
  obtain ⟨g7, H⟩ := H
  refine ⟨Nat.le_of_ble_eq_true rfl, Nat.le_of_ble_eq_true rfl, g7, ⟨_, _, _, rfl, H.1⟩, fun r5 σ6 hp8 => ?_⟩
  replace H := H.2 r5 σ6 hp8
  refine hG.1 49 _ _ rfl _ _ _ ?_
  refine ⟨fun h9 => ?_, fun h9 => ?_⟩
  · replace H := H.1 h9
    refine hG.1 140 _ _ rfl _ _ _ ?_
    exact H
  · replace H := H.2 h9
    refine hG.1 50 _ _ rfl _ _ _ ?_
    refine hG.1 51 _ _ rfl _ _ _ ?_
    refine hG.1 52 _ _ rfl _ _ _ ?_
    refine ⟨⟨rfl, by decide⟩, ?_⟩
    refine hG.1 53 _ _ rfl _ _ _ ?_
    refine hG.1 54 _ _ rfl _ _ _ ?_
    refine hG.1 55 _ _ rfl _ _ _ ?_
    refine ⟨⟨rfl, by decide⟩, ⟨rfl, rfl⟩, ?_⟩
    refine hG.1 56 _ _ rfl _ _ _ ?_
    exact H
set_option maxRecDepth 100000 in
set_option maxHeartbeats 4000000 in
theorem sgX6_reads_140 {po : Unit → px_St → Prop} {G : px_K} (hG : px_cl (opX6_reads po) G) (v1 : Int32) (σ : px_St)
    (H : ∃ g3 : gtX6_byteAt, qrX6_byteAt g3 (σ.1 0 7) σ ∧ ∀ (r1 : Int32) (σ2 : px_St), qoX6_byteAt g3 (σ.1 0 7) σ r1 σ2 → ∃ g7 : gtX6_in, qrX6_in g7 r1.toInt64 (48 : Int64) (57 : Int64) σ2 ∧ ∀ (r5 : Int32) (σ6 : px_St), qoX6_in g7 r1.toInt64 (48 : Int64) (57 : Int64) σ2 r5 σ6 → ((r5 = 0) → G 217 [some (.ref 0), some (.int v1)] [] σ6) ∧ (¬ (r5 = 0) → (((2 : Int32) ≤ ((σ6.1 0 7) - (σ6.1 0 8))) → G 140 [some (.ref 0), some (.int v1)] [] (px_up (px_up σ6 0 10 (σ6.1 0 10)) 0 7 (((px_up σ6 0 10 (σ6.1 0 10)).1 0 7) + (1 : Int32)))) ∧ (¬ ((2 : Int32) ≤ ((σ6.1 0 7) - (σ6.1 0 8))) → ∃ g11 : gtX6_byteAt, qrX6_byteAt g11 (σ6.1 0 7) σ6 ∧ ∀ (r9 : Int32) (σ10 : px_St), qoX6_byteAt g11 (σ6.1 0 7) σ6 r9 σ10 → G 140 [some (.ref 0), some (.int v1)] [] (px_up (px_up σ10 0 10 ((((10 : Int32) * (σ6.1 0 10)) + r9) - (48 : Int32))) 0 7 (((px_up σ10 0 10 ((((10 : Int32) * (σ6.1 0 10)) + r9) - (48 : Int32))).1 0 7) + (1 : Int32)))))) :
    G 140 [some (.ref 0), some (.int v1)] [] σ := by
  refine hG.1 69 _ _ rfl _ _ _ ?_
  refine hG.1 70 _ _ rfl _ _ _ ?_
  refine hG.1 71 _ _ rfl _ _ _ ?_
  refine ⟨⟨rfl, by decide⟩, ?_⟩
  refine hG.1 72 _ _ rfl _ _ _ ?_
  obtain ⟨g3, H⟩ := H
  refine ⟨⟨rfl, by decide⟩, Nat.le_of_ble_eq_true rfl, g3, ⟨_, rfl, H.1⟩, fun r1 σ2 hp4 => ?_⟩
  replace H := H.2 r1 σ2 hp4
  refine hG.1 73 _ _ rfl _ _ _ ?_
  refine hG.1 74 _ _ rfl _ _ _ ?_
  refine hG.1 75 _ _ rfl _ _ _ ?_
  refine hG.1 76 _ _ rfl _ _ _ ?_
  obtain ⟨g7, H⟩ := H
  refine ⟨Nat.le_of_ble_eq_true rfl, Nat.le_of_ble_eq_true rfl, g7, ⟨_, _, _, rfl, H.1⟩, fun r5 σ6 hp8 => ?_⟩
  replace H := H.2 r5 σ6 hp8
  refine hG.1 77 _ _ rfl _ _ _ ?_
  refine ⟨fun h14 => ?_, fun h14 => ?_⟩
  · replace H := H.1 h14
    exact H
  · replace H := H.2 h14
    refine hG.1 78 _ _ rfl _ _ _ ?_
    refine hG.1 79 _ _ rfl _ _ _ ?_
    refine hG.1 80 _ _ rfl _ _ _ ?_
    refine ⟨⟨rfl, by decide⟩, ?_⟩
    refine hG.1 81 _ _ rfl _ _ _ ?_
    refine hG.1 82 _ _ rfl _ _ _ ?_
    refine ⟨⟨rfl, by decide⟩, ?_⟩
    refine hG.1 83 _ _ rfl _ _ _ ?_
    refine hG.1 84 _ _ rfl _ _ _ ?_
    refine hG.1 85 _ _ rfl _ _ _ ?_
    refine ⟨fun h13 => ?_, fun h13 => ?_⟩
    · replace H := H.1 h13
      refine hG.1 98 _ _ rfl _ _ _ ?_
      refine hG.1 99 _ _ rfl _ _ _ ?_
      refine ⟨⟨rfl, by decide⟩, ?_⟩
      refine hG.1 100 _ _ rfl _ _ _ ?_
      refine ⟨⟨rfl, by decide⟩, ⟨rfl, rfl⟩, ?_⟩
      refine hG.1 101 _ _ rfl _ _ _ ?_
      refine hG.1 102 _ _ rfl _ _ _ ?_
      refine hG.1 103 _ _ rfl _ _ _ ?_
      refine ⟨⟨rfl, by decide⟩, ?_⟩
      refine hG.1 104 _ _ rfl _ _ _ ?_
      refine hG.1 105 _ _ rfl _ _ _ ?_
      refine hG.1 106 _ _ rfl _ _ _ ?_
      refine ⟨⟨rfl, by decide⟩, ⟨rfl, rfl⟩, ?_⟩
      refine hG.1 107 _ _ rfl _ _ _ ?_
      exact H
    · replace H := H.2 h13
      refine hG.1 86 _ _ rfl _ _ _ ?_
      refine hG.1 87 _ _ rfl _ _ _ ?_
      refine hG.1 88 _ _ rfl _ _ _ ?_
      refine ⟨⟨rfl, by decide⟩, ?_⟩
      refine hG.1 89 _ _ rfl _ _ _ ?_
      refine hG.1 90 _ _ rfl _ _ _ ?_
      refine hG.1 91 _ _ rfl _ _ _ ?_
      refine hG.1 92 _ _ rfl _ _ _ ?_
      refine ⟨⟨rfl, by decide⟩, ?_⟩
      refine hG.1 93 _ _ rfl _ _ _ ?_
      obtain ⟨g11, H⟩ := H
      refine ⟨⟨rfl, by decide⟩, Nat.le_of_ble_eq_true rfl, g11, ⟨_, rfl, H.1⟩, fun r9 σ10 hp12 => ?_⟩
      replace H := H.2 r9 σ10 hp12
      refine hG.1 94 _ _ rfl _ _ _ ?_
      refine hG.1 95 _ _ rfl _ _ _ ?_
      refine hG.1 96 _ _ rfl _ _ _ ?_
      refine hG.1 97 _ _ rfl _ _ _ ?_
      refine hG.1 100 _ _ rfl _ _ _ ?_
      refine ⟨⟨rfl, by decide⟩, ⟨rfl, rfl⟩, ?_⟩
      refine hG.1 101 _ _ rfl _ _ _ ?_
      refine hG.1 102 _ _ rfl _ _ _ ?_
      refine hG.1 103 _ _ rfl _ _ _ ?_
      refine ⟨⟨rfl, by decide⟩, ?_⟩
      refine hG.1 104 _ _ rfl _ _ _ ?_
      refine hG.1 105 _ _ rfl _ _ _ ?_
      refine hG.1 106 _ _ rfl _ _ _ ?_
      refine ⟨⟨rfl, by decide⟩, ⟨rfl, rfl⟩, ?_⟩
      refine hG.1 107 _ _ rfl _ _ _ ?_
      exact H
set_option maxRecDepth 100000 in
set_option maxHeartbeats 4000000 in
theorem sgX6_reads_217 {po : Unit → px_St → Prop} {G : px_K} (hG : px_cl (opX6_reads po) G) (v1 : Int32) (σ : px_St)
    (H : (((2 : Int32) < ((σ.1 0 7) - (σ.1 0 8))) → ∃ g3 : gtX6_requires, qrX6_requires g3 (0 : Int32) (1 : Int32) σ ∧ ∀ (r1 : Unit) (σ2 : px_St), qoX6_requires g3 (0 : Int32) (1 : Int32) σ r1 σ2 → po () σ2) ∧ (¬ ((2 : Int32) < ((σ.1 0 7) - (σ.1 0 8))) → ∃ g7 : gtX6_requires, qrX6_requires g7 (1 : Int32) (1 : Int32) σ ∧ ∀ (r5 : Unit) (σ6 : px_St), qoX6_requires g7 (1 : Int32) (1 : Int32) σ r5 σ6 → po () σ6)) :
    G 217 [some (.ref 0), some (.int v1)] [] σ := by
  refine hG.1 108 _ _ rfl _ _ _ ?_
  refine hG.1 109 _ _ rfl _ _ _ ?_
  refine hG.1 110 _ _ rfl _ _ _ ?_
  refine ⟨⟨rfl, by decide⟩, ?_⟩
  refine hG.1 111 _ _ rfl _ _ _ ?_
  refine hG.1 112 _ _ rfl _ _ _ ?_
  refine ⟨⟨rfl, by decide⟩, ?_⟩
  refine hG.1 113 _ _ rfl _ _ _ ?_
  refine hG.1 114 _ _ rfl _ _ _ ?_
  refine hG.1 115 _ _ rfl _ _ _ ?_
  refine ⟨fun h9 => ?_, fun h9 => ?_⟩
  · replace H := H.1 h9
    refine hG.1 118 _ _ rfl _ _ _ ?_
    refine hG.1 119 _ _ rfl _ _ _ ?_
    refine hG.1 120 _ _ rfl _ _ _ ?_
    obtain ⟨g3, H⟩ := H
    refine ⟨⟨rfl, by decide⟩, Nat.le_of_ble_eq_true rfl, g3, ⟨_, _, rfl, H.1⟩, fun r1 σ2 hp4 => ?_⟩
    replace H := H.2 r1 σ2 hp4
    refine hG.1 121 _ _ rfl _ _ _ ?_
    refine hG.1 140 _ _ rfl _ _ _ ?_
    exact H
  · replace H := H.2 h9
    refine hG.1 116 _ _ rfl _ _ _ ?_
    refine hG.1 117 _ _ rfl _ _ _ ?_
    refine hG.1 119 _ _ rfl _ _ _ ?_
    refine hG.1 120 _ _ rfl _ _ _ ?_
    obtain ⟨g7, H⟩ := H
    refine ⟨⟨rfl, by decide⟩, Nat.le_of_ble_eq_true rfl, g7, ⟨_, _, rfl, H.1⟩, fun r5 σ6 hp8 => ?_⟩
    replace H := H.2 r5 σ6 hp8
    refine hG.1 121 _ _ rfl _ _ _ ?_
    refine hG.1 140 _ _ rfl _ _ _ ?_
    exact H
set_option maxRecDepth 100000 in
set_option maxHeartbeats 4000000 in
theorem hhX6_reads (g : gtX6_reads) (σ : px_St) (h : qrX6_reads g σ) (G : px_K) (hG : px_cl (opX6_reads (qoX6_reads g σ)) G) : G 0 (px_ent 2 [.ref 0]) [] σ := by
  obtain ⟨T, p, F⟩ := g
  obtain ⟨hb, hT, hF, hF5, hp⟩ := h
  have hl := hT.1
  refine sgX6_reads_0 hG σ ?_
  have cF : nI F ≤ 0 ↔ F = 0 := (nIle F 0 rfl rfl (by omega) (by omega)).trans ⟨fun q => by omega, fun q => by omega⟩
  rw [hF, cF]
  refine ⟨fun z => ?_, fun z => ⟨fun _ => rfl, fun q => absurd q z, fr0.rf⟩⟩
  subst z
  obtain ⟨hp1, hp2⟩ := hp rfl
  obtain ⟨f, hf⟩ : ∃ f, f = pt_go is_s T p := ⟨_, rfl⟩
  obtain ⟨⟨f1, f2⟩, -⟩ := pt_go_b (P := is_s) hp1
  rw [← hf] at f1 f2
  have po : ∀ σ', rsM σ' (rdM σ') (pt_cl T f) → fr0 σ σ' → qoX6_reads (T, p, 0) σ () σ' := fun σ' a b => ⟨fun q => absurd rfl q, fun _ => by unfold pt_next; rw [← hf]; exact a, b⟩
  have l82 : ∀ n q, q + n = T.length → pt_go is_l T f = pt_go is_l T q → ∀ v σ', pt_cl T f = .inr (1, f, pt_go is_l T f, 0) → σ'.1 0 11 = 0 → σ'.1 0 9 = 1 → σ'.1 0 8 = nI f → σ'.1 0 7 = nI q → fr0 σ σ' → G 82 [some (.ref 0), some (.int v)] [] σ' := by
    intro n
    induction n with
    | zero =>
      intro q hq he v σ' hc e11 e9 e8 e7 ho
      refine sgX6_reads_82 hG _ σ' ⟨(T, q), ⟨hb.kept ho, hT, e7, by omega⟩, fun r1 σ1 h1 => ?_⟩
      obtain ⟨e1, rfl⟩ := h1
      subst e1
      refine ⟨(), trivial, fun r2 σ2 h2 => ?_⟩
      obtain ⟨rfl, b2⟩ := h2
      refine bz2 (in_c (a := 97) (b := 122) (by decide) (by decide) b2) (fun z => ?_) (fun z => po _ ?_ ho)
      · have := ((bt_in hT 97 122 rfl rfl (by omega) (by omega) (by decide)).mp z).1
        omega
      · rw [hc, he, pt_go_z (by omega)]
        exact ⟨e11, e9, e8, e7, fun q => absurd q (by show ¬ 1 = 2; omega)⟩
    | succ n ih =>
      intro q hq he v σ' hc e11 e9 e8 e7 ho
      refine sgX6_reads_82 hG _ σ' ⟨(T, q), ⟨hb.kept ho, hT, e7, by omega⟩, fun r1 σ1 h1 => ?_⟩
      obtain ⟨e1, rfl⟩ := h1
      subst e1
      refine ⟨(), trivial, fun r2 σ2 h2 => ?_⟩
      obtain ⟨rfl, b2⟩ := h2
      refine bz2 (in_c (a := 97) (b := 122) (by decide) (by decide) b2) (fun z => ?_) (fun z => po _ ?_ ho)
      · have z := (bt_in hT 97 122 rfl rfl (by omega) (by omega) (by decide)).mp z
        refine ih (q + 1) (by omega) (by rw [he, pt_go_s (by omega) (is_l_iff.mpr z.2)]) _ _ hc ?_ ?_ ?_ ?_ (ho.tr (fr0.up (by omega)))
        · rw [up0n (by omega)]; exact e11
        · rw [up0n (by omega)]; exact e9
        · rw [up0n (by omega)]; exact e8
        · rw [up0s, e7]; exact nI_1 _
      · have z : ¬ is_l (ch T q) = true := fun w => z ((bt_in hT 97 122 rfl rfl (by omega) (by omega) (by decide)).mpr ⟨by omega, is_l_iff.mp w⟩)
        rw [hc, he, pt_go_e (by omega) z]
        exact ⟨e11, e9, e8, e7, fun q => absurd q (by show ¬ 1 = 2; omega)⟩
  have s217 : ∀ q v σ', f ≤ q → q ≤ T.length → pt_cl T f = (if q - f ≤ 2 then .inr (2, f, q, pt_vl T f (q - f)) else .inl (1, f)) → σ'.1 0 11 = 0 → σ'.1 0 9 = 2 → σ'.1 0 8 = nI f → σ'.1 0 7 = nI q → (q - f ≤ 2 → σ'.1 0 10 = nI (pt_vl T f (q - f))) → fr0 σ σ' → G 217 [some (.ref 0), some (.int v)] [] σ' := by
    intro q v σ' h1 h2 hc e11 e9 e8 e7 e10 ho
    refine sgX6_reads_217 hG _ σ' ?_
    rw [e7, e8, pk_sub h1, show (2 : Int32) < nI (q - f) ↔ 2 < q - f from nIlt 2 (q - f) rfl rfl (by omega) (by omega)]
    refine ⟨fun z => ⟨(), trivial, fun _ σ1 h3 => ?_⟩, fun z => ⟨(), trivial, fun _ σ1 h3 => ?_⟩⟩
    · have h3 := h3.2.2 rfl e11
      subst h3
      refine po _ ?_ ((ho.tr (fr0.up (by omega))).tr (fr0.up (by omega)))
      rw [hc, if_neg (by omega)]
      exact ⟨by rw [up0n (by omega), up0s]; rfl, by rw [up0s]; exact e8⟩
    · have h3 := h3.1 (by decide)
      subst h3
      refine po _ ?_ ho
      rw [hc, if_pos (by omega)]
      exact ⟨e11, e9, e8, e7, fun _ => e10 (by omega)⟩
  have l140 : ∀ n q, q + n = T.length → f ≤ q → pt_go is_f T f = pt_go is_f T q → ∀ v σ', pt_cl T f = (if pt_go is_f T f - f ≤ 2 then .inr (2, f, pt_go is_f T f, pt_vl T f (pt_go is_f T f - f)) else .inl (1, f)) → σ'.1 0 11 = 0 → σ'.1 0 9 = 2 → σ'.1 0 8 = nI f → σ'.1 0 7 = nI q → (q - f ≤ 2 → σ'.1 0 10 = nI (pt_vl T f (q - f))) → fr0 σ σ' → G 140 [some (.ref 0), some (.int v)] [] σ' := by
    intro n
    induction n with
    | zero =>
      intro q hq hfq he v σ' hc e11 e9 e8 e7 e10 ho
      refine sgX6_reads_140 hG _ σ' ⟨(T, q), ⟨hb.kept ho, hT, e7, by omega⟩, fun r1 σ1 h1 => ?_⟩
      obtain ⟨e1, rfl⟩ := h1
      subst e1
      refine ⟨(), trivial, fun r2 σ2 h2 => ?_⟩
      obtain ⟨rfl, b2⟩ := h2
      refine bz2 (in_c (a := 48) (b := 57) (by decide) (by decide) b2) (fun z => ?_) (fun z => ?_)
      · have := ((bt_in hT 48 57 rfl rfl (by omega) (by omega) (by decide)).mp z).1
        omega
      · rw [he, pt_go_z (by omega)] at hc
        exact s217 q _ _ hfq (by omega) hc e11 e9 e8 e7 e10 ho
    | succ n ih =>
      intro q hq hfq he v σ' hc e11 e9 e8 e7 e10 ho
      refine sgX6_reads_140 hG _ σ' ⟨(T, q), ⟨hb.kept ho, hT, e7, by omega⟩, fun r1 σ1 h1 => ?_⟩
      obtain ⟨e1, rfl⟩ := h1
      subst e1
      refine ⟨(), trivial, fun r2 σ2 h2 => ?_⟩
      obtain ⟨e2, b2⟩ := h2
      subst e2
      refine bz2 (in_c (a := 48) (b := 57) (by decide) (by decide) b2) (fun z => ?_) (fun z => ?_)
      · have z := (bt_in hT 48 57 rfl rfl (by omega) (by omega) (by decide)).mp z
        have he' : pt_go is_f T f = pt_go is_f T (q + 1) := by rw [he, pt_go_s (by omega) (is_f_iff.mpr z.2)]
        rw [e7, e8, pk_sub hfq, show (2 : Int32) ≤ nI (q - f) ↔ 2 ≤ q - f from nIle 2 (q - f) rfl rfl (by omega) (by omega)]
        refine ⟨fun y => ?_, fun y => ⟨(T, q), ⟨hb.kept ho, hT, rfl, by omega⟩, fun r3 σ3 h3 => ?_⟩⟩
        · refine ih (q + 1) (by omega) (by omega) he' _ _ hc ?_ ?_ ?_ ?_ (fun w => by omega) ((ho.tr (fr0.up (by omega))).tr (fr0.up (by omega)))
          · rw [up0n (by omega), up0n (by omega)]; exact e11
          · rw [up0n (by omega), up0n (by omega)]; exact e9
          · rw [up0n (by omega), up0n (by omega)]; exact e8
          · rw [up0s, up0n (by omega), e7]; exact nI_1 _
        · obtain ⟨e3, rfl⟩ := h3
          subst e3
          have e10' := e10 (by omega)
          have hc' := ch_le hT q
          have hbt : bt T q = nI (ch T q) := if_pos z.1
          refine ih (q + 1) (by omega) (by omega) he' _ _ hc ?_ ?_ ?_ ?_ (fun w => ?_) ((ho.tr (fr0.up (by omega))).tr (fr0.up (by omega)))
          · rw [up0n (by omega), up0n (by omega)]; exact e11
          · rw [up0n (by omega), up0n (by omega)]; exact e9
          · rw [up0n (by omega), up0n (by omega)]; exact e8
          · rw [up0s, up0n (by omega), e7]; exact nI_1 _
          · rw [up0n (by omega), up0s, e10', hbt]
            have e10 : ∀ v, 10 * nI v + nI (ch T q) - 48 = nI (10 * v + (ch T q - 48)) := fun v => by
              rw [show (10 : Int32) = nI 10 from rfl, pk_mul, nI_add, show (48 : Int32) = nI 48 from rfl, pk_sub (by omega)]
              congr 1
              omega
            rw [e10]
            have hcase : q - f = 0 ∨ q - f = 1 := by omega
            rcases hcase with h0 | h0
            · rw [h0, show q + 1 - f = 1 by omega, show q = f by omega]
              show nI (10 * 0 + (ch T f - 48)) = nI (ch T f - 48)
              rw [Nat.mul_zero, Nat.zero_add]
            · rw [h0, show q + 1 - f = 2 by omega, show q = f + 1 by omega]
              rfl
      · have z : ¬ is_f (ch T q) = true := fun w => z ((bt_in hT 48 57 rfl rfl (by omega) (by omega) (by decide)).mpr ⟨by omega, is_f_iff.mp w⟩)
        rw [he, pt_go_e (by omega) z] at hc
        exact s217 q _ _ hfq (by omega) hc e11 e9 e8 e7 e10 ho
  have s34 : ∀ σ', σ'.1 0 11 = 0 → σ'.1 0 7 = nI f → fr0 σ σ' → G 34 [some (.ref 0), none] [] σ' := by
    intro σ' e11 e7 ho
    refine sgX6_reads_34 hG σ' ?_
    obtain ⟨σa, ea⟩ : ∃ σa, σa = px_up σ' 0 8 (σ'.1 0 7) := ⟨_, rfl⟩
    rw [← ea]
    have a11 : σa.1 0 11 = 0 := by rw [ea, up0n (by omega)]; exact e11
    have a7 : σa.1 0 7 = nI f := by rw [ea, up0n (by omega)]; exact e7
    have a8 : σa.1 0 8 = nI f := by rw [ea, up0s]; exact e7
    have oa : fr0 σ σa := by rw [ea]; exact ho.tr (fr0.up (by omega))
    refine ⟨(T, f), ⟨hb.kept oa, hT, a7, by omega⟩, fun r1 σ1 h1 => ?_⟩
    obtain ⟨e1, rfl⟩ := h1
    subst e1
    refine ⟨fun z => ⟨(), trivial, fun r2 σ2 h2 => ?_⟩, fun z => ?_⟩
    · have hlt := (bt_0 hT).mp z
      obtain ⟨e2, b2⟩ := h2
      subst e2
      refine bz2 (in_c (a := 97) (b := 122) (by decide) (by decide) b2) (fun y => ?_) (fun y => ⟨(), trivial, fun r3 σ3 h3 => ?_⟩)
      · have y := (bt_in hT 97 122 rfl rfl (by omega) (by omega) (by decide)).mp y
        have hc : pt_cl T f = .inr (1, f, pt_go is_l T f, 0) := by
          unfold pt_cl
          rw [if_neg (by omega), if_pos (is_l_iff.mpr y.2)]
        refine l82 (T.length - f) f (by omega) rfl _ _ hc ?_ ?_ ?_ ?_ (oa.tr (fr0.up (by omega)))
        · rw [up0n (by omega)]; exact a11
        · rw [up0s]
        · rw [up0n (by omega)]; exact a8
        · rw [up0n (by omega)]; exact a7
      · have y : ¬ is_l (ch T f) = true := fun w => y ((bt_in hT 97 122 rfl rfl (by omega) (by omega) (by decide)).mpr ⟨by omega, is_l_iff.mp w⟩)
        obtain ⟨e3, b3⟩ := h3
        subst e3
        refine bz2 (in_c (a := 48) (b := 57) (by decide) (by decide) b3) (fun x => ?_) (fun x => ?_)
        · have x := (bt_in hT 48 57 rfl rfl (by omega) (by omega) (by decide)).mp x
          have hc : pt_cl T f = (if pt_go is_f T f - f ≤ 2 then .inr (2, f, pt_go is_f T f, pt_vl T f (pt_go is_f T f - f)) else .inl (1, f)) := by
            unfold pt_cl
            rw [if_neg (by omega), if_neg y, if_pos (is_f_iff.mpr x.2)]
          refine l140 (T.length - f) f (by omega) (Nat.le_refl _) rfl _ _ hc ?_ ?_ ?_ ?_ (fun _ => ?_) ((oa.tr (fr0.up (by omega))).tr (fr0.up (by omega)))
          · rw [up0n (by omega), up0n (by omega)]; exact a11
          · rw [up0n (by omega), up0s]
          · rw [up0n (by omega), up0n (by omega)]; exact a8
          · rw [up0n (by omega), up0n (by omega)]; exact a7
          · rw [up0s, Nat.sub_self]; rfl
        · have x : ¬ is_f (ch T f) = true := fun w => x ((bt_in hT 48 57 rfl rfl (by omega) (by omega) (by decide)).mpr ⟨by omega, is_f_iff.mp w⟩)
          have hc : pt_cl T f = (if ch T f = 59 then .inr (3, f, f + 1, 0) else .inl (1, f)) := by
            unfold pt_cl
            rw [if_neg (by omega), if_neg y, if_neg x]
          have c59 : bt T f = 59 ↔ ch T f = 59 := (bt_eq hT 59 rfl (by omega)).trans ⟨fun q => q.2, fun q => ⟨hlt, q⟩⟩
          rw [c59]
          refine ⟨fun w => ⟨(), trivial, fun _ σ4 h4 => ?_⟩, fun w => ⟨(), trivial, fun _ σ4 h4 => ?_⟩⟩
          · have h4 := h4.2.2 rfl (by rw [up0n (by omega)]; exact a11)
            subst h4
            refine po _ ?_ ((((oa.tr (fr0.up (by omega))).tr (fr0.up (by omega))).tr (fr0.up (by omega))).tr (fr0.up (by omega)))
            rw [hc, if_neg w]
            refine ⟨?_, ?_⟩
            · rw [up0n (by omega), up0n (by omega), up0s]; rfl
            · rw [up0n (by omega), up0s, up0n (by omega)]; exact a8
          · have h4 := h4.1 (by decide)
            subst h4
            refine po _ ?_ ((oa.tr (fr0.up (by omega))).tr (fr0.up (by omega)))
            rw [hc, if_pos (Classical.byContradiction w)]
            refine ⟨?_, ?_, ?_, ?_, fun q => absurd q (by show ¬ 3 = 2; omega)⟩
            · rw [up0n (by omega), up0n (by omega)]; exact a11
            · rw [up0n (by omega), up0s]; rfl
            · rw [up0n (by omega), up0n (by omega)]; exact a8
            · rw [up0s, up0n (by omega), a7]; exact nI_1 _
    · have hlt : ¬ f < T.length := fun q => z ((bt_0 hT).mpr q)
      refine po _ ?_ (oa.tr (fr0.up (by omega)))
      unfold pt_cl
      rw [if_pos (by omega)]
      refine ⟨?_, ?_, ?_, ?_, fun q => absurd q (by show ¬ 0 = 2; omega)⟩
      · rw [up0n (by omega)]; exact a11
      · rw [up0s]; rfl
      · rw [up0n (by omega)]; exact a8
      · rw [up0n (by omega)]; exact a7
  have l8 : ∀ n q, q + n = T.length → f = pt_go is_s T q → ∀ σ', σ'.1 0 11 = 0 → σ'.1 0 7 = nI q → fr0 σ σ' → G 8 [some (.ref 0), none] [] σ' := by
    intro n
    induction n with
    | zero =>
      intro q hq he σ' e11 e7 ho
      refine sgX6_reads_8 hG σ' ⟨(T, q), ⟨hb.kept ho, hT, e7, by omega⟩, fun r1 σ1 h1 => ?_⟩
      obtain ⟨e1, rfl⟩ := h1
      subst e1
      refine ⟨fun _ => s34 _ e11 ?_ ho, fun z => ?_⟩
      · rw [he, pt_go_z (by omega)]; exact e7
      · have := ((bt_eq hT 32 rfl (by omega)).mp (Classical.byContradiction z)).1
        omega
    | succ n ih =>
      intro q hq he σ' e11 e7 ho
      refine sgX6_reads_8 hG σ' ⟨(T, q), ⟨hb.kept ho, hT, e7, by omega⟩, fun r1 σ1 h1 => ?_⟩
      obtain ⟨e1, rfl⟩ := h1
      subst e1
      refine ⟨fun z => s34 _ e11 ?_ ho, fun z => ?_⟩
      · rw [he, pt_go_e (by omega) (fun w => z ((bt_eq hT 32 rfl (by omega)).mpr ⟨by omega, is_s_iff.mp w⟩))]; exact e7
      · have z := (bt_eq hT 32 rfl (by omega)).mp (Classical.byContradiction z)
        refine ih (q + 1) (by omega) (by rw [he, pt_go_s (by omega) (is_s_iff.mpr z.2)]) _ ?_ ?_ (ho.tr (fr0.up (by omega)))
        · rw [up0n (by omega)]; exact e11
        · rw [up0s, e7]; exact nI_1 _
  exact l8 (T.length - p) p (by omega) hf σ hF hp2 fr0.rf
theorem mX6_reads (g : gtX6_reads) : px_Met dM yX6_reads (Cond.code yX6_reads cX6_reads 2 none :: wdM) rmX6_reads px_vV (prX6_reads g) (poX6_reads g) :=
  px_met (Z := (cX6_reads, 2, RX6, Cond.code yX6_reads cX6_reads 2 none :: wdM, none, rmX6_reads, dM)) opX6_reads (by decide) rfl rfl okX6_reads (fun As σ h => by obtain ⟨rfl, h⟩ := h; exact Nat.le_of_ble_eq_true rfl) (fun As σ h G hG => by obtain ⟨rfl, h⟩ := h; exact hhX6_reads g σ h G hG)
