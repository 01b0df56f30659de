abbrev gtX2_becomes : Type := pv_S
def qrX2_becomes (S : pv_S) (a b : Nat) (σ : px_St) : Prop := a ≠ b ∧ sn_is σ b S ∧ S.length ≤ 6
def qoX2_becomes (S : pv_S) (a _ : Nat) (σ : px_St) (_ : Unit) (σ' : px_St) : Prop := sn_is σ' a S ∧ ∀ k, k < a ∨ a + 2 < k → σ'.1 k = σ.1 k
def prX2_becomes (g : gtX2_becomes) : List Value → px_St → Prop := fun As σ => ∃ v0 : Nat, ∃ v1 : Nat, As = [.ref v0, .ref v1] ∧ px_sn v0 ∧ px_sn v1 ∧ qrX2_becomes g v0 v1 σ
def poX2_becomes (g : gtX2_becomes) : List Value → px_St → Unit → px_St → Prop
  | [.ref v0, .ref v1], σ, r, σ' => qoX2_becomes g v0 v1 σ r σ'
  | _, _, _, _ => False
theorem dX2_becomes_0 : decode cX2_becomes 0 = .ok (.aload_n 0, 1) := by decide +kernel
theorem dX2_becomes_1 : decode cX2_becomes 1 = .ok (.aload_n 1, 1) := by decide +kernel
theorem dX2_becomes_2 : decode cX2_becomes 2 = .ok (.getfield 18, 3) := by decide +kernel
theorem dX2_becomes_5 : decode cX2_becomes 5 = .ok (.putfield 18, 3) := by decide +kernel
theorem dX2_becomes_8 : decode cX2_becomes 8 = .ok (.iconst 0, 1) := by decide +kernel
theorem dX2_becomes_9 : decode cX2_becomes 9 = .ok (.istore_n 2, 1) := by decide +kernel
theorem dX2_becomes_10 : decode cX2_becomes 10 = .ok (.iload_n 2, 1) := by decide +kernel
theorem dX2_becomes_11 : decode cX2_becomes 11 = .ok (.aload_n 1, 1) := by decide +kernel
theorem dX2_becomes_12 : decode cX2_becomes 12 = .ok (.getfield 18, 3) := by decide +kernel
theorem dX2_becomes_15 : decode cX2_becomes 15 = .ok (.if_icmp .ge 33, 3) := by decide +kernel
theorem dX2_becomes_18 : decode cX2_becomes 18 = .ok (.aload_n 0, 1) := by decide +kernel
theorem dX2_becomes_19 : decode cX2_becomes 19 = .ok (.getfield 9, 3) := by decide +kernel
theorem dX2_becomes_22 : decode cX2_becomes 22 = .ok (.iload_n 2, 1) := by decide +kernel
theorem dX2_becomes_23 : decode cX2_becomes 23 = .ok (.aload_n 1, 1) := by decide +kernel
theorem dX2_becomes_24 : decode cX2_becomes 24 = .ok (.getfield 9, 3) := by decide +kernel
theorem dX2_becomes_27 : decode cX2_becomes 27 = .ok (.iload_n 2, 1) := by decide +kernel
theorem dX2_becomes_28 : decode cX2_becomes 28 = .ok (.iaload, 1) := by decide +kernel
theorem dX2_becomes_29 : decode cX2_becomes 29 = .ok (.iastore, 1) := by decide +kernel
theorem dX2_becomes_30 : decode cX2_becomes 30 = .ok (.aload_n 0, 1) := by decide +kernel
theorem dX2_becomes_31 : decode cX2_becomes 31 = .ok (.getfield 15, 3) := by decide +kernel
theorem dX2_becomes_34 : decode cX2_becomes 34 = .ok (.iload_n 2, 1) := by decide +kernel
theorem dX2_becomes_35 : decode cX2_becomes 35 = .ok (.aload_n 1, 1) := by decide +kernel
theorem dX2_becomes_36 : decode cX2_becomes 36 = .ok (.getfield 15, 3) := by decide +kernel
theorem dX2_becomes_39 : decode cX2_becomes 39 = .ok (.iload_n 2, 1) := by decide +kernel
theorem dX2_becomes_40 : decode cX2_becomes 40 = .ok (.iaload, 1) := by decide +kernel
theorem dX2_becomes_41 : decode cX2_becomes 41 = .ok (.iastore, 1) := by decide +kernel
theorem dX2_becomes_42 : decode cX2_becomes 42 = .ok (.iinc 2 1, 3) := by decide +kernel
theorem dX2_becomes_45 : decode cX2_becomes 45 = .ok (.goto (-35), 3) := by decide +kernel
theorem dX2_becomes_48 : decode cX2_becomes 48 = .ok (.return_, 1) := by decide +kernel
abbrev rmX2_becomes : Room := { frames := 0, cells := 0, slots := 0, locals := 0 }
def opX2_becomes (po : Unit → px_St → Prop) : List (Nat × px_Op) := [
  (0, px_al 1 0),
  (1, px_al 2 1),
  (2, px_get dC 5 2 0),
  (5, px_put dC 8 2 0 .int),
  (8, px_push 9 (.int 0)),
  (9, px_is 10 2),
  (10, px_il 11 2),
  (11, px_al 12 1),
  (12, px_get dC 15 2 0),
  (15, px_ic 18 48 (fun x y => y ≤ x)),
  (18, px_al 19 0),
  (19, px_get dC 22 2 1),
  (22, px_il 23 2),
  (23, px_al 24 1),
  (24, px_get dC 27 2 1),
  (27, px_il 28 2),
  (28, px_ald dC 29 0),
  (29, px_ast dC 30 0 (fun x => x)),
  (30, px_al 31 0),
  (31, px_get dC 34 2 2),
  (34, px_il 35 2),
  (35, px_al 36 1),
  (36, px_get dC 39 2 2),
  (39, px_il 40 2),
  (40, px_ald dC 41 0),
  (41, px_ast dC 42 0 (fun x => x)),
  (42, px_inc 45 2 1),
  (45, px_go 10),
  (48, px_vret po)]
set_option maxRecDepth 100000 in
set_option maxHeartbeats 4000000 in
theorem okX2_becomes : ∀ (po : Unit → px_St → Prop) (i pc : Nat) (op : px_Op), (opX2_becomes po)[i]? = some (pc, op) → px_Snd (cX2_becomes, 3, RX2, Cond.code yX2_becomes cX2_becomes 3 none :: wdC, none, rmX2_becomes, dC) px_vV po pc op := by
  intro po
  unfold opX2_becomes
  refine px_ok_cons (ps_aload_n dX2_becomes_0 rfl) ?_
  refine px_ok_cons (ps_aload_n dX2_becomes_1 rfl) ?_
  refine px_ok_cons (fgX2_18 dX2_becomes_2) ?_
  refine px_ok_cons (fpX2_18 dX2_becomes_5) ?_
  refine px_ok_cons (ps_iconst dX2_becomes_8 (by decide)) ?_
  refine px_ok_cons (ps_istore_n dX2_becomes_9 rfl (by decide)) ?_
  refine px_ok_cons (ps_iload_n dX2_becomes_10 rfl) ?_
  refine px_ok_cons (ps_aload_n dX2_becomes_11 rfl) ?_
  refine px_ok_cons (fgX2_18 dX2_becomes_12) ?_
  refine px_ok_cons (ps_icmp_ge dX2_becomes_15 (by decide)) ?_
  refine px_ok_cons (ps_aload_n dX2_becomes_18 rfl) ?_
  refine px_ok_cons (fgX2_9 dX2_becomes_19) ?_
  refine px_ok_cons (ps_iload_n dX2_becomes_22 rfl) ?_
  refine px_ok_cons (ps_aload_n dX2_becomes_23 rfl) ?_
  refine px_ok_cons (fgX2_9 dX2_becomes_24) ?_
  refine px_ok_cons (ps_iload_n dX2_becomes_27 rfl) ?_
  refine px_ok_cons (ps_iaload dX2_becomes_28) ?_
  refine px_ok_cons (ps_iastore dX2_becomes_29) ?_
  refine px_ok_cons (ps_aload_n dX2_becomes_30 rfl) ?_
  refine px_ok_cons (fgX2_15 dX2_becomes_31) ?_
  refine px_ok_cons (ps_iload_n dX2_becomes_34 rfl) ?_
  refine px_ok_cons (ps_aload_n dX2_becomes_35 rfl) ?_
  refine px_ok_cons (fgX2_15 dX2_becomes_36) ?_
  refine px_ok_cons (ps_iload_n dX2_becomes_39 rfl) ?_
  refine px_ok_cons (ps_iaload dX2_becomes_40) ?_
  refine px_ok_cons (ps_iastore dX2_becomes_41) ?_
  refine px_ok_cons (ps_iinc dX2_becomes_42 (by decide) (by decide)) ?_
  refine px_ok_cons (ps_goto dX2_becomes_45 (by decide)) ?_
  refine px_ok_cons (ps_return rfl dX2_becomes_48) ?_
  exact px_ok_nil
set_option maxRecDepth 100000 in
set_option maxHeartbeats 4000000 in
theorem sgX2_becomes_0 {po : Unit → px_St → Prop} {G : px_K} (hG : px_cl (opX2_becomes po) G) (v0 : Nat) (hv0 : px_sn v0) (v1 : Nat) (hv1 : px_sn v1) (σ : px_St)
    (H : G 10 [some (.ref v0), some (.ref v1), some (.int (0 : Int32))] [] (px_up σ v0 0 (σ.1 v1 0))) :
    G 0 (px_ent 3 [.ref v0, .ref v1]) [] σ := by
  refine hG.1 0 _ _ rfl _ _ _ ?_
  refine hG.1 1 _ _ rfl _ _ _ ?_
  refine hG.1 2 _ _ rfl _ _ _ ?_
  refine ⟨(sn_s0 hv1), ?_⟩
  refine hG.1 3 _ _ rfl _ _ _ ?_
  refine ⟨(sn_s0 hv0), ⟨rfl, rfl⟩, ?_⟩
  refine hG.1 4 _ _ rfl _ _ _ ?_
  refine hG.1 5 _ _ rfl _ _ _ ?_
  show G 10 [some (.ref v0), some (.ref v1), some (.int (0 : Int32))] [] (px_up σ v0 0 (σ.1 v1 0))
  exact H
set_option maxRecDepth 100000 in
set_option maxHeartbeats 4000000 in
theorem sgX2_becomes_10 {po : Unit → px_St → Prop} {G : px_K} (hG : px_cl (opX2_becomes po) G) (v0 : Nat) (hv0 : px_sn v0) (v1 : Nat) (hv1 : px_sn v1) (v2 : Int32) (σ : px_St)
    (H : (((σ.1 v1 0) ≤ v2) → po () σ) ∧ (¬ ((σ.1 v1 0) ≤ v2) → vp_in v2 6 ∧ vp_in v2 6 ∧ vp_in v2 6 ∧ vp_in v2 6 ∧ G 10 [some (.ref v0), some (.ref v1), some (.int (v2 + 1))] [] (px_up (px_up σ (v0 + 1) v2.toNatClampNeg (σ.1 (v1 + 1) v2.toNatClampNeg)) (v0 + 2) v2.toNatClampNeg ((px_up σ (v0 + 1) v2.toNatClampNeg (σ.1 (v1 + 1) v2.toNatClampNeg)).1 (v1 + 2) v2.toNatClampNeg)))) :
    G 10 [some (.ref v0), some (.ref v1), some (.int v2)] [] σ := by
  refine hG.1 6 _ _ rfl _ _ _ ?_
  refine hG.1 7 _ _ rfl _ _ _ ?_
  refine hG.1 8 _ _ rfl _ _ _ ?_
  refine ⟨(sn_s0 hv1), ?_⟩
  refine hG.1 9 _ _ rfl _ _ _ ?_
  refine ⟨fun h1 => ?_, fun h1 => ?_⟩
  · replace H := H.1 h1
    refine hG.1 28 _ _ rfl _ _ _ ?_
    exact H
  · replace H := H.2 h1
    refine hG.1 10 _ _ rfl _ _ _ ?_
    refine hG.1 11 _ _ rfl _ _ _ ?_
    refine ⟨(sn_s0 hv0), ?_⟩
    refine hG.1 12 _ _ rfl _ _ _ ?_
    refine hG.1 13 _ _ rfl _ _ _ ?_
    refine hG.1 14 _ _ rfl _ _ _ ?_
    refine ⟨(sn_s0 hv1), ?_⟩
    refine hG.1 15 _ _ rfl _ _ _ ?_
    refine hG.1 16 _ _ rfl _ _ _ ?_
    refine ⟨(sn_s1 hv1), by rw [(sn_l1 hv1)]; exact H.1, ?_⟩
    replace H := H.2
    refine hG.1 17 _ _ rfl _ _ _ ?_
    refine ⟨(sn_s1 hv0), by rw [(sn_l1 hv0)]; exact H.1, ?_⟩
    replace H := H.2
    refine hG.1 18 _ _ rfl _ _ _ ?_
    refine hG.1 19 _ _ rfl _ _ _ ?_
    refine ⟨(sn_s0 hv0), ?_⟩
    refine hG.1 20 _ _ rfl _ _ _ ?_
    refine hG.1 21 _ _ rfl _ _ _ ?_
    refine hG.1 22 _ _ rfl _ _ _ ?_
    refine ⟨(sn_s0 hv1), ?_⟩
    refine hG.1 23 _ _ rfl _ _ _ ?_
    refine hG.1 24 _ _ rfl _ _ _ ?_
    refine ⟨(sn_s2 hv1), by rw [(sn_l2 hv1)]; exact H.1, ?_⟩
    replace H := H.2
    refine hG.1 25 _ _ rfl _ _ _ ?_
    refine ⟨(sn_s2 hv0), by rw [(sn_l2 hv0)]; exact H.1, ?_⟩
    replace H := H.2
    refine hG.1 26 _ _ rfl _ _ _ ?_
    show G 45 [some (.ref v0), some (.ref v1), some (.int (v2 + 1))] [] (px_up (px_up σ (v0 + 1) v2.toNatClampNeg (σ.1 (v1 + 1) v2.toNatClampNeg)) (v0 + 2) v2.toNatClampNeg ((px_up σ (v0 + 1) v2.toNatClampNeg (σ.1 (v1 + 1) v2.toNatClampNeg)).1 (v1 + 2) v2.toNatClampNeg))
    refine hG.1 27 _ _ rfl _ _ _ ?_
    exact H
set_option maxRecDepth 100000 in
set_option maxHeartbeats 4000000 in
theorem hhX2_becomes (g : gtX2_becomes) (v0 : Nat) (hv0 : px_sn v0) (v1 : Nat) (hv1 : px_sn v1) (σ : px_St) (h : qrX2_becomes g v0 v1 σ) (G : px_K) (hG : px_cl (opX2_becomes (qoX2_becomes g v0 v1 σ)) G) : G 0 (px_ent 3 [.ref v0, .ref v1]) [] σ := by
  obtain ⟨hne, hS, hl⟩ := h
  have hab : v0 + 2 < v1 ∨ v1 + 2 < v0 := by unfold px_sn at hv0 hv1; omega
  refine sgX2_becomes_0 hG v0 hv0 v1 hv1 σ ?_
  rw [hS.1]
  have loop : ∀ n i, i + n = g.length → ∀ σ', (∀ k, k < v0 ∨ v0 + 2 < k → σ'.1 k = σ.1 k) → σ'.1 v0 0 = nI g.length → (∀ j x, j < i → g[j]? = some x → σ'.1 (v0 + 1) j = nI x.1 ∧ σ'.1 (v0 + 2) j = nI x.2) →
      G 10 [some (.ref v0), some (.ref v1), some (.int (nI i))] [] σ' := by
    intro n
    induction n with
    | zero =>
      intro i hi σ' ho h0 hall
      have hS' : sn_is σ' v1 g := hS.kept (fun k h1 h2 => ho k (by omega))
      refine sgX2_becomes_10 hG v0 hv0 v1 hv1 _ σ' ?_
      rw [hS'.1]
      exact ⟨fun _ => ⟨⟨h0, fun j x hj => hall j x (by have := (List.getElem?_eq_some_iff.mp hj).1; omega) hj⟩, ho⟩, fun z => absurd (nI_le (by omega) (by omega)) z⟩
    | succ n ih =>
      intro i hi σ' ho h0 hall
      have hS' : sn_is σ' v1 g := hS.kept (fun k h1 h2 => ho k (by omega))
      have hil : i < g.length := by omega
      obtain ⟨e1, e2⟩ := hS'.2 i _ (List.getElem?_eq_getElem hil)
      have hin : vp_in (nI i) 6 := vp_in_nI (by omega) (by decide)
      refine sgX2_becomes_10 hG v0 hv0 v1 hv1 _ σ' ?_
      rw [hS'.1, nI_clamp (by omega), nI_1, px_up_n (show v1 + 2 ≠ v0 + 1 by omega), e1, e2]
      refine ⟨fun z => absurd z (nI_ge (by omega) (by omega)), fun _ => ⟨hin, hin, hin, hin, ih (i + 1) (by omega) _ (fun k hk => ?_) ?_ (fun j x hj hx => ?_)⟩⟩
      · rw [px_up_n (by omega), px_up_n (by omega)]; exact ho k hk
      · rw [px_up_n (by omega), px_up_n (by omega)]; exact h0
      · rw [px_up_n (show v0 + 1 ≠ v0 + 2 by omega), px_up_at, px_up_at, px_up_n (show v0 + 2 ≠ v0 + 1 by omega)]
        by_cases hji : j = i
        · subst hji
          rw [List.getElem?_eq_getElem hil] at hx
          rw [if_pos ⟨rfl, rfl⟩, if_pos ⟨rfl, rfl⟩, ← Option.some.inj hx]
          exact ⟨rfl, rfl⟩
        · rw [if_neg (by omega), if_neg (by omega)]
          exact hall j x (by omega) hx
  refine loop g.length 0 (by omega) _ (fun k hk => px_up_n (by omega)) ?_ (fun j x hj => by omega)
  rw [px_up_at, if_pos ⟨rfl, rfl⟩]
theorem mX2_becomes (g : gtX2_becomes) : px_Met dC yX2_becomes (Cond.code yX2_becomes cX2_becomes 3 none :: wdC) rmX2_becomes px_vV (prX2_becomes g) (poX2_becomes g) :=
  px_met (Z := (cX2_becomes, 3, RX2, Cond.code yX2_becomes cX2_becomes 3 none :: wdC, none, rmX2_becomes, dC)) opX2_becomes (by decide) rfl rfl okX2_becomes (fun As σ h => by obtain ⟨v0, v1, rfl, hv0, hv1, h⟩ := h; exact Nat.le_of_ble_eq_true rfl) (fun As σ h G hG => by obtain ⟨v0, v1, rfl, hv0, hv1, h⟩ := h; exact hhX2_becomes g v0 hv0 v1 hv1 σ h G hG)
abbrev gtX3_makeNew : Type := Nat × Nat
def qrX3_makeNew : gtX3_makeNew → Nat → Int32 → Int32 → px_St → Prop
  | (l, n), _, v1, v2, _ => n ≤ 40 ∧ v1 = nI l ∧ v2 = nI n
def qoX3_makeNew : gtX3_makeNew → Nat → Int32 → Int32 → px_St → Unit → px_St → Prop
  | (l, n), a, _, _, σ, _, σ' => σ'.1 a 0 = nI l ∧ σ'.1 a 1 = nI n ∧ (∀ i, i < n → σ'.1 (a + 1) i = 0) ∧ ∀ k, k ≠ a → k ≠ a + 1 → σ'.1 k = σ.1 k
def prX3_makeNew (g : gtX3_makeNew) : List Value → px_St → Prop := fun As σ => ∃ v0 : Nat, ∃ v1 : Int32, ∃ v2 : Int32, As = [.ref v0, .int v1, .int v2] ∧ px_sh v0 ∧ qrX3_makeNew g v0 v1 v2 σ
def poX3_makeNew (g : gtX3_makeNew) : List Value → px_St → Unit → px_St → Prop
  | [.ref v0, .int v1, .int v2], σ, r, σ' => qoX3_makeNew g v0 v1 v2 σ r σ'
  | _, _, _, _ => False
theorem dX3_makeNew_0 : decode cX3_makeNew 0 = .ok (.aload_n 0, 1) := by decide +kernel
theorem dX3_makeNew_1 : decode cX3_makeNew 1 = .ok (.iload_n 1, 1) := by decide +kernel
theorem dX3_makeNew_2 : decode cX3_makeNew 2 = .ok (.putfield 11, 3) := by decide +kernel
theorem dX3_makeNew_5 : decode cX3_makeNew 5 = .ok (.aload_n 0, 1) := by decide +kernel
theorem dX3_makeNew_6 : decode cX3_makeNew 6 = .ok (.iload_n 2, 1) := by decide +kernel
theorem dX3_makeNew_7 : decode cX3_makeNew 7 = .ok (.putfield 19, 3) := by decide +kernel
theorem dX3_makeNew_10 : decode cX3_makeNew 10 = .ok (.iconst 0, 1) := by decide +kernel
theorem dX3_makeNew_11 : decode cX3_makeNew 11 = .ok (.istore_n 3, 1) := by decide +kernel
theorem dX3_makeNew_12 : decode cX3_makeNew 12 = .ok (.iload_n 3, 1) := by decide +kernel
theorem dX3_makeNew_13 : decode cX3_makeNew 13 = .ok (.iload_n 2, 1) := by decide +kernel
theorem dX3_makeNew_14 : decode cX3_makeNew 14 = .ok (.if_icmp .ge 16, 3) := by decide +kernel
theorem dX3_makeNew_17 : decode cX3_makeNew 17 = .ok (.aload_n 0, 1) := by decide +kernel
theorem dX3_makeNew_18 : decode cX3_makeNew 18 = .ok (.getfield 15, 3) := by decide +kernel
theorem dX3_makeNew_21 : decode cX3_makeNew 21 = .ok (.iload_n 3, 1) := by decide +kernel
theorem dX3_makeNew_22 : decode cX3_makeNew 22 = .ok (.iconst 0, 1) := by decide +kernel
theorem dX3_makeNew_23 : decode cX3_makeNew 23 = .ok (.iastore, 1) := by decide +kernel
theorem dX3_makeNew_24 : decode cX3_makeNew 24 = .ok (.iinc 3 1, 3) := by decide +kernel
theorem dX3_makeNew_27 : decode cX3_makeNew 27 = .ok (.goto (-15), 3) := by decide +kernel
theorem dX3_makeNew_30 : decode cX3_makeNew 30 = .ok (.return_, 1) := by decide +kernel
abbrev rmX3_makeNew : Room := { frames := 0, cells := 0, slots := 0, locals := 0 }
def opX3_makeNew (po : Unit → px_St → Prop) : List (Nat × px_Op) := [
  (0, px_al 1 0),
  (1, px_il 2 1),
  (2, px_put dC 5 3 0 .int),
  (5, px_al 6 0),
  (6, px_il 7 2),
  (7, px_put dC 10 3 1 .int),
  (10, px_push 11 (.int 0)),
  (11, px_is 12 3),
  (12, px_il 13 3),
  (13, px_il 14 2),
  (14, px_ic 17 30 (fun x y => y ≤ x)),
  (17, px_al 18 0),
  (18, px_get dC 21 3 2),
  (21, px_il 22 3),
  (22, px_push 23 (.int 0)),
  (23, px_ast dC 24 0 (fun x => x)),
  (24, px_inc 27 3 1),
  (27, px_go 12),
  (30, px_vret po)]
set_option maxRecDepth 100000 in
set_option maxHeartbeats 4000000 in
theorem okX3_makeNew : ∀ (po : Unit → px_St → Prop) (i pc : Nat) (op : px_Op), (opX3_makeNew po)[i]? = some (pc, op) → px_Snd (cX3_makeNew, 4, RX3, Cond.code yX3_makeNew cX3_makeNew 4 none :: wdC, none, rmX3_makeNew, dC) px_vV po pc op := by
  intro po
  unfold opX3_makeNew
  refine px_ok_cons (ps_aload_n dX3_makeNew_0 rfl) ?_
  refine px_ok_cons (ps_iload_n dX3_makeNew_1 rfl) ?_
  refine px_ok_cons (fpX3_11 dX3_makeNew_2) ?_
  refine px_ok_cons (ps_aload_n dX3_makeNew_5 rfl) ?_
  refine px_ok_cons (ps_iload_n dX3_makeNew_6 rfl) ?_
  refine px_ok_cons (fpX3_19 dX3_makeNew_7) ?_
  refine px_ok_cons (ps_iconst dX3_makeNew_10 (by decide)) ?_
  refine px_ok_cons (ps_istore_n dX3_makeNew_11 rfl (by decide)) ?_
  refine px_ok_cons (ps_iload_n dX3_makeNew_12 rfl) ?_
  refine px_ok_cons (ps_iload_n dX3_makeNew_13 rfl) ?_
  refine px_ok_cons (ps_icmp_ge dX3_makeNew_14 (by decide)) ?_
  refine px_ok_cons (ps_aload_n dX3_makeNew_17 rfl) ?_
  refine px_ok_cons (fgX3_15 dX3_makeNew_18) ?_
  refine px_ok_cons (ps_iload_n dX3_makeNew_21 rfl) ?_
  refine px_ok_cons (ps_iconst dX3_makeNew_22 (by decide)) ?_
  refine px_ok_cons (ps_iastore dX3_makeNew_23) ?_
  refine px_ok_cons (ps_iinc dX3_makeNew_24 (by decide) (by decide)) ?_
  refine px_ok_cons (ps_goto dX3_makeNew_27 (by decide)) ?_
  refine px_ok_cons (ps_return rfl dX3_makeNew_30) ?_
  exact px_ok_nil
set_option maxRecDepth 100000 in
set_option maxHeartbeats 4000000 in
theorem sgX3_makeNew_0 {po : Unit → px_St → Prop} {G : px_K} (hG : px_cl (opX3_makeNew po) G) (v0 : Nat) (hv0 : px_sh v0) (v1 : Int32) (v2 : Int32) (σ : px_St)
    (H : G 12 [some (.ref v0), some (.int v1), some (.int v2), some (.int (0 : Int32))] [] (px_up (px_up σ v0 0 v1) v0 1 v2)) :
    G 0 (px_ent 4 [.ref v0, .int v1, .int v2]) [] σ := by
  refine hG.1 0 _ _ rfl _ _ _ ?_
  refine hG.1 1 _ _ rfl _ _ _ ?_
  refine hG.1 2 _ _ rfl _ _ _ ?_
  refine ⟨(sh_s0 hv0), ⟨rfl, rfl⟩, ?_⟩
  refine hG.1 3 _ _ rfl _ _ _ ?_
  refine hG.1 4 _ _ rfl _ _ _ ?_
  refine hG.1 5 _ _ rfl _ _ _ ?_
  refine ⟨(sh_s0 hv0), ⟨rfl, rfl⟩, ?_⟩
  refine hG.1 6 _ _ rfl _ _ _ ?_
  refine hG.1 7 _ _ rfl _ _ _ ?_
  show G 12 [some (.ref v0), some (.int v1), some (.int v2), some (.int (0 : Int32))] [] (px_up (px_up σ v0 0 v1) v0 1 v2)
  exact H
set_option maxRecDepth 100000 in
set_option maxHeartbeats 4000000 in
theorem sgX3_makeNew_12 {po : Unit → px_St → Prop} {G : px_K} (hG : px_cl (opX3_makeNew po) G) (v0 : Nat) (hv0 : px_sh v0) (v1 : Int32) (v2 : Int32) (v3 : Int32) (σ : px_St)
    (H : ((v2 ≤ v3) → po () σ) ∧ (¬ (v2 ≤ v3) → vp_in v3 40 ∧ G 12 [some (.ref v0), some (.int v1), some (.int v2), some (.int (v3 + 1))] [] (px_up σ (v0 + 1) v3.toNatClampNeg (0 : Int32)))) :
    G 12 [some (.ref v0), some (.int v1), some (.int v2), some (.int v3)] [] σ := by
  refine hG.1 8 _ _ rfl _ _ _ ?_
  refine hG.1 9 _ _ rfl _ _ _ ?_
  refine hG.1 10 _ _ rfl _ _ _ ?_
  refine ⟨fun h1 => ?_, fun h1 => ?_⟩
  · replace H := H.1 h1
    refine hG.1 18 _ _ rfl _ _ _ ?_
    exact H
  · replace H := H.2 h1
    refine hG.1 11 _ _ rfl _ _ _ ?_
    refine hG.1 12 _ _ rfl _ _ _ ?_
    refine ⟨(sh_s0 hv0), ?_⟩
    refine hG.1 13 _ _ rfl _ _ _ ?_
    refine hG.1 14 _ _ rfl _ _ _ ?_
    refine hG.1 15 _ _ rfl _ _ _ ?_
    refine ⟨(sh_s1 hv0), by rw [(sh_l1 hv0)]; exact H.1, ?_⟩
    replace H := H.2
    refine hG.1 16 _ _ rfl _ _ _ ?_
    show G 27 [some (.ref v0), some (.int v1), some (.int v2), some (.int (v3 + 1))] [] (px_up σ (v0 + 1) v3.toNatClampNeg (0 : Int32))
    refine hG.1 17 _ _ rfl _ _ _ ?_
    exact H
set_option maxRecDepth 100000 in
set_option maxHeartbeats 4000000 in
theorem hhX3_makeNew (g : gtX3_makeNew) (v0 : Nat) (hv0 : px_sh v0) (v1 : Int32) (v2 : Int32) (σ : px_St) (h : qrX3_makeNew g v0 v1 v2 σ) (G : px_K) (hG : px_cl (opX3_makeNew (qoX3_makeNew g v0 v1 v2 σ)) G) : G 0 (px_ent 4 [.ref v0, .int v1, .int v2]) [] σ := by
  obtain ⟨l, n⟩ := g
  obtain ⟨hn, rfl, rfl⟩ := h
  refine sgX3_makeNew_0 hG v0 hv0 _ _ σ ?_
  have loop : ∀ m i, i + m = n → ∀ σ', σ'.1 v0 0 = nI l → σ'.1 v0 1 = nI n → (∀ j, j < i → σ'.1 (v0 + 1) j = 0) → (∀ k, k ≠ v0 → k ≠ v0 + 1 → σ'.1 k = σ.1 k) →
      G 12 [some (.ref v0), some (.int (nI l)), some (.int (nI n)), some (.int (nI i))] [] σ' := by
    intro m
    induction m with
    | zero =>
      intro i hi σ' h1 h2 h3 h4
      exact sgX3_makeNew_12 hG v0 hv0 _ _ _ σ' ⟨fun _ => ⟨h1, h2, fun j hj => h3 j (by omega), h4⟩, fun z => absurd (nI_le (by omega) (by omega)) z⟩
    | succ m ih =>
      intro i hi σ' h1 h2 h3 h4
      refine sgX3_makeNew_12 hG v0 hv0 _ _ _ σ' ⟨fun z => absurd z (nI_ge (by omega) (by omega)), fun _ => ⟨vp_in_nI (by omega) (by decide), ?_⟩⟩
      rw [nI_clamp (by omega), nI_1]
      refine ih (i + 1) (by omega) _ ?_ ?_ (fun j hj => ?_) (fun k hk1 hk2 => ?_)
      · rw [px_up_n (by omega)]; exact h1
      · rw [px_up_n (by omega)]; exact h2
      · rw [px_up_at]
        by_cases hji : j = i
        · rw [if_pos ⟨rfl, hji⟩]
        · rw [if_neg (by omega)]; exact h3 j (by omega)
      · rw [px_up_n hk2]; exact h4 k hk1 hk2
  refine loop n 0 (by omega) _ ?_ ?_ (fun j hj => by omega) (fun k hk1 hk2 => ?_)
  · rw [px_up_at, if_neg (by omega), px_up_at, if_pos ⟨rfl, rfl⟩]
  · rw [px_up_at, if_pos ⟨rfl, rfl⟩]
  · rw [px_up_n hk1, px_up_n hk1]
theorem mX3_makeNew (g : gtX3_makeNew) : px_Met dC yX3_makeNew (Cond.code yX3_makeNew cX3_makeNew 4 none :: wdC) rmX3_makeNew px_vV (prX3_makeNew g) (poX3_makeNew g) :=
  px_met (Z := (cX3_makeNew, 4, RX3, Cond.code yX3_makeNew cX3_makeNew 4 none :: wdC, none, rmX3_makeNew, dC)) opX3_makeNew (by decide) rfl rfl okX3_makeNew (fun As σ h => by obtain ⟨v0, v1, v2, rfl, hv0, h⟩ := h; exact Nat.le_of_ble_eq_true rfl) (fun As σ h G hG => by obtain ⟨v0, v1, v2, rfl, hv0, h⟩ := h; exact hhX3_makeNew g v0 hv0 v1 v2 σ h G hG)
abbrev gtX3_narrowed : Type := Unit
def qrX3_narrowed (_ : Unit) (_ : Nat) (_ : Int32) (_ : px_St) : Prop := True
def pv_nar (l v : Int32) : Int32 := if l = 0 then v.toInt8.toInt32 else if l = 1 then v.toInt16.toInt32 else v
def qoX3_narrowed (_ : Unit) (a : Nat) (v : Int32) (σ : px_St) (r : Int32) (σ' : px_St) : Prop := σ' = σ ∧ r = pv_nar (σ.1 a 0) v
def prX3_narrowed (g : gtX3_narrowed) : List Value → px_St → Prop := fun As σ => ∃ v0 : Nat, ∃ v1 : Int32, As = [.ref v0, .int v1] ∧ px_sh v0 ∧ qrX3_narrowed g v0 v1 σ
def poX3_narrowed (g : gtX3_narrowed) : List Value → px_St → Int32 → px_St → Prop
  | [.ref v0, .int v1], σ, r, σ' => qoX3_narrowed g v0 v1 σ r σ'
  | _, _, _, _ => False
theorem dX3_narrowed_0 : decode cX3_narrowed 0 = .ok (.aload_n 0, 1) := by decide +kernel
theorem dX3_narrowed_1 : decode cX3_narrowed 1 = .ok (.getfield 11, 3) := by decide +kernel
theorem dX3_narrowed_4 : decode cX3_narrowed 4 = .ok (.lookupswitch 34 #[(0, 28), (1, 31)], 28) := by decide +kernel
theorem dX3_narrowed_32 : decode cX3_narrowed 32 = .ok (.iload_n 1, 1) := by decide +kernel
theorem dX3_narrowed_33 : decode cX3_narrowed 33 = .ok (.i2b, 1) := by decide +kernel
theorem dX3_narrowed_34 : decode cX3_narrowed 34 = .ok (.ireturn, 1) := by decide +kernel
theorem dX3_narrowed_35 : decode cX3_narrowed 35 = .ok (.iload_n 1, 1) := by decide +kernel
theorem dX3_narrowed_36 : decode cX3_narrowed 36 = .ok (.i2s, 1) := by decide +kernel
theorem dX3_narrowed_37 : decode cX3_narrowed 37 = .ok (.ireturn, 1) := by decide +kernel
theorem dX3_narrowed_38 : decode cX3_narrowed 38 = .ok (.iload_n 1, 1) := by decide +kernel
theorem dX3_narrowed_39 : decode cX3_narrowed 39 = .ok (.ireturn, 1) := by decide +kernel
abbrev rmX3_narrowed : Room := { frames := 0, cells := 0, slots := 0, locals := 0 }
def opX3_narrowed (po : Int32 → px_St → Prop) : List (Nat × px_Op) := [
  (0, px_al 1 0),
  (1, px_get dC 4 3 0),
  (4, px_sw [(0, 32), (1, 35)] 38),
  (32, px_il 33 1),
  (33, px_un 34 (fun x => x.toInt8.toInt32)),
  (34, px_iret (.int) po),
  (35, px_il 36 1),
  (36, px_un 37 (fun x => x.toInt16.toInt32)),
  (37, px_iret (.int) po),
  (38, px_il 39 1),
  (39, px_iret (.int) po)]
theorem px_lsw_X3_narrowed_4 : px_lswOk 4 34 #[(0, 28), (1, 31)] [(0, 32), (1, 35)] 38 := by
  intro x
  by_cases h0 : x = 0 ∨ x = 1
  · rcases h0 with rfl | rfl <;> rfl
  · simp only [not_or] at h0
    have hn : ¬ x.toInt = 0 ∧ ¬ x.toInt = 1 := by
      simp only [fa_eqI] at h0
      simpa using h0
    have hn2 : ¬ 0 = x.toInt ∧ ¬ 1 = x.toInt := by omega
    simp [px_swt, h0, Op.lookupswitch.offset, hn2]
set_option maxRecDepth 100000 in
set_option maxHeartbeats 4000000 in
theorem okX3_narrowed : ∀ (po : Int32 → px_St → Prop) (i pc : Nat) (op : px_Op), (opX3_narrowed po)[i]? = some (pc, op) → px_Snd (cX3_narrowed, 2, RX3, Cond.code yX3_narrowed cX3_narrowed 2 (some .int) :: wdC, (some .int), rmX3_narrowed, dC) px_vI po pc op := by
  intro po
  unfold opX3_narrowed
  refine px_ok_cons (ps_aload_n dX3_narrowed_0 rfl) ?_
  refine px_ok_cons (fgX3_11 dX3_narrowed_1) ?_
  refine px_ok_cons (ps_lsw dX3_narrowed_4 rfl px_lsw_X3_narrowed_4) ?_
  refine px_ok_cons (ps_iload_n dX3_narrowed_32 rfl) ?_
  refine px_ok_cons (ps_i2b dX3_narrowed_33) ?_
  refine px_ok_cons (ps_ireturn rfl dX3_narrowed_34) ?_
  refine px_ok_cons (ps_iload_n dX3_narrowed_35 rfl) ?_
  refine px_ok_cons (ps_i2s dX3_narrowed_36) ?_
  refine px_ok_cons (ps_ireturn rfl dX3_narrowed_37) ?_
  refine px_ok_cons (ps_iload_n dX3_narrowed_38 rfl) ?_
  refine px_ok_cons (ps_ireturn rfl dX3_narrowed_39) ?_
  exact px_ok_nil
set_option maxRecDepth 100000 in
set_option maxHeartbeats 4000000 in
theorem sgX3_narrowed_0 {po : Int32 → px_St → Prop} {G : px_K} (hG : px_cl (opX3_narrowed po) G) (v0 : Nat) (hv0 : px_sh v0) (v1 : Int32) (σ : px_St)
    (H : ((σ.1 v0 0 = 0) → po v1.toInt8.toInt32 σ) ∧ (¬ (σ.1 v0 0 = 0) → ((σ.1 v0 0 = 1) → po v1.toInt16.toInt32 σ) ∧ (¬ (σ.1 v0 0 = 1) → po v1 σ))) :
    G 0 (px_ent 2 [.ref v0, .int v1]) [] σ := by
  refine hG.1 0 _ _ rfl _ _ _ ?_
  refine hG.1 1 _ _ rfl _ _ _ ?_
  refine ⟨(sh_s0 hv0), ?_⟩
  refine hG.1 2 _ _ rfl _ _ _ ?_
  refine ⟨fun h1 => ?_, fun h1 => ?_⟩
  · replace H := H.1 h1
    refine hG.1 3 _ _ rfl _ _ _ ?_
    refine hG.1 4 _ _ rfl _ _ _ ?_
    refine hG.1 5 _ _ rfl _ _ _ ?_
    exact ⟨rfl, H⟩
  · replace H := H.2 h1
    refine ⟨fun h2 => ?_, fun h2 => ?_⟩
    · replace H := H.1 h2
      refine hG.1 6 _ _ rfl _ _ _ ?_
      refine hG.1 7 _ _ rfl _ _ _ ?_
      refine hG.1 8 _ _ rfl _ _ _ ?_
      exact ⟨rfl, H⟩
    · replace H := H.2 h2
      refine hG.1 9 _ _ rfl _ _ _ ?_
      refine hG.1 10 _ _ rfl _ _ _ ?_
      exact ⟨rfl, H⟩
set_option maxRecDepth 100000 in
set_option maxHeartbeats 4000000 in
theorem hhX3_narrowed (g : gtX3_narrowed) (v0 : Nat) (hv0 : px_sh v0) (v1 : Int32) (σ : px_St) (h : qrX3_narrowed g v0 v1 σ) (G : px_K) (hG : px_cl (opX3_narrowed (qoX3_narrowed g v0 v1 σ)) G) : G 0 (px_ent 2 [.ref v0, .int v1]) [] σ := by
  refine sgX3_narrowed_0 hG v0 hv0 _ σ ⟨fun h1 => ⟨rfl, ?_⟩, fun h1 => ⟨fun h2 => ⟨rfl, ?_⟩, fun h2 => ⟨rfl, ?_⟩⟩⟩
  · unfold pv_nar; rw [if_pos h1]
  · unfold pv_nar; rw [if_neg h1, if_pos h2]
  · unfold pv_nar; rw [if_neg h1, if_neg h2]
theorem mX3_narrowed (g : gtX3_narrowed) : px_Met dC yX3_narrowed (Cond.code yX3_narrowed cX3_narrowed 2 (some .int) :: wdC) rmX3_narrowed px_vI (prX3_narrowed g) (poX3_narrowed g) :=
  px_met (Z := (cX3_narrowed, 2, RX3, Cond.code yX3_narrowed cX3_narrowed 2 (some .int) :: wdC, (some .int), rmX3_narrowed, dC)) opX3_narrowed (by decide) rfl rfl okX3_narrowed (fun As σ h => by obtain ⟨v0, v1, rfl, hv0, h⟩ := h; exact Nat.le_of_ble_eq_true rfl) (fun As σ h G hG => by obtain ⟨v0, v1, rfl, hv0, h⟩ := h; exact hhX3_narrowed g v0 hv0 v1 σ h G hG)
abbrev gtX3_wholePairs : Type := Unit
def qrX3_wholePairs (_ : Unit) (_ : Nat) (_ _ : Int32) (_ : px_St) : Prop := True
def qoX3_wholePairs (_ : Unit) (a : Nat) (l f : Int32) (σ : px_St) (r : Int32) (σ' : px_St) : Prop := σ' = σ ∧ r = if σ.1 a 0 = l ∧ ¬ f < 0 ∧ ¬ σ.1 a 1 ≤ f then (σ.1 a 1 - f) / 2 else 0
def prX3_wholePairs (g : gtX3_wholePairs) : List Value → px_St → Prop := fun As σ => ∃ v0 : Nat, ∃ v1 : Int32, ∃ v2 : Int32, As = [.ref v0, .int v1, .int v2] ∧ px_sh v0 ∧ qrX3_wholePairs g v0 v1 v2 σ
def poX3_wholePairs (g : gtX3_wholePairs) : List Value → px_St → Int32 → px_St → Prop
  | [.ref v0, .int v1, .int v2], σ, r, σ' => qoX3_wholePairs g v0 v1 v2 σ r σ'
  | _, _, _, _ => False
theorem dX3_wholePairs_0 : decode cX3_wholePairs 0 = .ok (.aload_n 0, 1) := by decide +kernel
theorem dX3_wholePairs_1 : decode cX3_wholePairs 1 = .ok (.getfield 11, 3) := by decide +kernel
theorem dX3_wholePairs_4 : decode cX3_wholePairs 4 = .ok (.iload_n 1, 1) := by decide +kernel
theorem dX3_wholePairs_5 : decode cX3_wholePairs 5 = .ok (.if_icmp .ne 19, 3) := by decide +kernel
theorem dX3_wholePairs_8 : decode cX3_wholePairs 8 = .ok (.iload_n 2, 1) := by decide +kernel
theorem dX3_wholePairs_9 : decode cX3_wholePairs 9 = .ok (.ifCond .lt 15, 3) := by decide +kernel
theorem dX3_wholePairs_12 : decode cX3_wholePairs 12 = .ok (.iload_n 2, 1) := by decide +kernel
theorem dX3_wholePairs_13 : decode cX3_wholePairs 13 = .ok (.aload_n 0, 1) := by decide +kernel
theorem dX3_wholePairs_14 : decode cX3_wholePairs 14 = .ok (.getfield 19, 3) := by decide +kernel
theorem dX3_wholePairs_17 : decode cX3_wholePairs 17 = .ok (.if_icmp .ge 7, 3) := by decide +kernel
theorem dX3_wholePairs_20 : decode cX3_wholePairs 20 = .ok (.iconst 1, 1) := by decide +kernel
theorem dX3_wholePairs_21 : decode cX3_wholePairs 21 = .ok (.goto 4, 3) := by decide +kernel
theorem dX3_wholePairs_24 : decode cX3_wholePairs 24 = .ok (.iconst 0, 1) := by decide +kernel
theorem dX3_wholePairs_25 : decode cX3_wholePairs 25 = .ok (.istore_n 3, 1) := by decide +kernel
theorem dX3_wholePairs_26 : decode cX3_wholePairs 26 = .ok (.iload_n 3, 1) := by decide +kernel
theorem dX3_wholePairs_27 : decode cX3_wholePairs 27 = .ok (.ifCond .eq 14, 3) := by decide +kernel
theorem dX3_wholePairs_30 : decode cX3_wholePairs 30 = .ok (.aload_n 0, 1) := by decide +kernel
theorem dX3_wholePairs_31 : decode cX3_wholePairs 31 = .ok (.getfield 19, 3) := by decide +kernel
theorem dX3_wholePairs_34 : decode cX3_wholePairs 34 = .ok (.iload_n 2, 1) := by decide +kernel
theorem dX3_wholePairs_35 : decode cX3_wholePairs 35 = .ok (.isub, 1) := by decide +kernel
theorem dX3_wholePairs_36 : decode cX3_wholePairs 36 = .ok (.iconst 2, 1) := by decide +kernel
theorem dX3_wholePairs_37 : decode cX3_wholePairs 37 = .ok (.idiv, 1) := by decide +kernel
theorem dX3_wholePairs_38 : decode cX3_wholePairs 38 = .ok (.goto 4, 3) := by decide +kernel
theorem dX3_wholePairs_41 : decode cX3_wholePairs 41 = .ok (.iconst 0, 1) := by decide +kernel
theorem dX3_wholePairs_42 : decode cX3_wholePairs 42 = .ok (.ireturn, 1) := by decide +kernel
abbrev rmX3_wholePairs : Room := { frames := 0, cells := 0, slots := 0, locals := 0 }
def opX3_wholePairs (po : Int32 → px_St → Prop) : List (Nat × px_Op) := [
  (0, px_al 1 0),
  (1, px_get dC 4 3 0),
  (4, px_il 5 1),
  (5, px_ic 8 24 (fun x y => ¬ x = y)),
  (8, px_il 9 2),
  (9, px_if 12 24 (fun x => x < 0)),
  (12, px_il 13 2),
  (13, px_al 14 0),
  (14, px_get dC 17 3 1),
  (17, px_ic 20 24 (fun x y => y ≤ x)),
  (20, px_push 21 (.int 1)),
  (21, px_go 25),
  (24, px_push 25 (.int 0)),
  (25, px_is 26 3),
  (26, px_il 27 3),
  (27, px_if 30 41 (fun x => x = 0)),
  (30, px_al 31 0),
  (31, px_get dC 34 3 1),
  (34, px_il 35 2),
  (35, px_bin 36 (fun x y => x - y)),
  (36, px_push 37 (.int 2)),
  (37, px_div 38 (fun x y => x / y)),
  (38, px_go 42),
  (41, px_push 42 (.int 0)),
  (42, px_iret (.int) po)]
set_option maxRecDepth 100000 in
set_option maxHeartbeats 4000000 in
theorem okX3_wholePairs : ∀ (po : Int32 → px_St → Prop) (i pc : Nat) (op : px_Op), (opX3_wholePairs po)[i]? = some (pc, op) → px_Snd (cX3_wholePairs, 4, RX3, Cond.code yX3_wholePairs cX3_wholePairs 4 (some .int) :: wdC, (some .int), rmX3_wholePairs, dC) px_vI po pc op := by
  intro po
  unfold opX3_wholePairs
  refine px_ok_cons (ps_aload_n dX3_wholePairs_0 rfl) ?_
  refine px_ok_cons (fgX3_11 dX3_wholePairs_1) ?_
  refine px_ok_cons (ps_iload_n dX3_wholePairs_4 rfl) ?_
  refine px_ok_cons (ps_icmp_ne dX3_wholePairs_5 (by decide)) ?_
  refine px_ok_cons (ps_iload_n dX3_wholePairs_8 rfl) ?_
  refine px_ok_cons (ps_if_lt dX3_wholePairs_9 (by decide)) ?_
  refine px_ok_cons (ps_iload_n dX3_wholePairs_12 rfl) ?_
  refine px_ok_cons (ps_aload_n dX3_wholePairs_13 rfl) ?_
  refine px_ok_cons (fgX3_19 dX3_wholePairs_14) ?_
  refine px_ok_cons (ps_icmp_ge dX3_wholePairs_17 (by decide)) ?_
  refine px_ok_cons (ps_iconst dX3_wholePairs_20 (by decide)) ?_
  refine px_ok_cons (ps_goto dX3_wholePairs_21 (by decide)) ?_
  refine px_ok_cons (ps_iconst dX3_wholePairs_24 (by decide)) ?_
  refine px_ok_cons (ps_istore_n dX3_wholePairs_25 rfl (by decide)) ?_
  refine px_ok_cons (ps_iload_n dX3_wholePairs_26 rfl) ?_
  refine px_ok_cons (ps_if_eq dX3_wholePairs_27 (by decide)) ?_
  refine px_ok_cons (ps_aload_n dX3_wholePairs_30 rfl) ?_
  refine px_ok_cons (fgX3_19 dX3_wholePairs_31) ?_
  refine px_ok_cons (ps_iload_n dX3_wholePairs_34 rfl) ?_
  refine px_ok_cons (ps_isub dX3_wholePairs_35) ?_
  refine px_ok_cons (ps_iconst dX3_wholePairs_36 (by decide)) ?_
  refine px_ok_cons (ps_idiv dX3_wholePairs_37) ?_
  refine px_ok_cons (ps_goto dX3_wholePairs_38 (by decide)) ?_
  refine px_ok_cons (ps_iconst dX3_wholePairs_41 (by decide)) ?_
  refine px_ok_cons (ps_ireturn rfl dX3_wholePairs_42) ?_
  exact px_ok_nil
set_option maxRecDepth 100000 in
set_option maxHeartbeats 4000000 in
theorem sgX3_wholePairs_0 {po : Int32 → px_St → Prop} {G : px_K} (hG : px_cl (opX3_wholePairs po) G) (v0 : Nat) (hv0 : px_sh v0) (v1 : Int32) (v2 : Int32) (σ : px_St)
    (H : ((¬ (σ.1 v0 0) = v1) → (((0 : Int32) = 0) → po (0 : Int32) σ) ∧ (¬ ((0 : Int32) = 0) → po (((σ.1 v0 1) - v2) / (2 : Int32)) σ)) ∧ (¬ (¬ (σ.1 v0 0) = v1) → ((v2 < 0) → (((0 : Int32) = 0) → po (0 : Int32) σ) ∧ (¬ ((0 : Int32) = 0) → po (((σ.1 v0 1) - v2) / (2 : Int32)) σ)) ∧ (¬ (v2 < 0) → (((σ.1 v0 1) ≤ v2) → (((0 : Int32) = 0) → po (0 : Int32) σ) ∧ (¬ ((0 : Int32) = 0) → po (((σ.1 v0 1) - v2) / (2 : Int32)) σ)) ∧ (¬ ((σ.1 v0 1) ≤ v2) → (((1 : Int32) = 0) → po (0 : Int32) σ) ∧ (¬ ((1 : Int32) = 0) → po (((σ.1 v0 1) - v2) / (2 : Int32)) σ))))) :
    G 0 (px_ent 4 [.ref v0, .int v1, .int v2]) [] σ := by
  refine hG.1 0 _ _ rfl _ _ _ ?_
  refine hG.1 1 _ _ rfl _ _ _ ?_
  refine ⟨(sh_s0 hv0), ?_⟩
  refine hG.1 2 _ _ rfl _ _ _ ?_
  refine hG.1 3 _ _ rfl _ _ _ ?_
  refine ⟨fun h7 => ?_, fun h7 => ?_⟩
  · replace H := H.1 h7
    refine hG.1 12 _ _ rfl _ _ _ ?_
    refine hG.1 13 _ _ rfl _ _ _ ?_
    show G 26 [some (.ref v0), some (.int v1), some (.int v2), some (.int (0 : Int32))] [] σ
    refine hG.1 14 _ _ rfl _ _ _ ?_
    refine hG.1 15 _ _ rfl _ _ _ ?_
    refine ⟨fun h1 => ?_, fun h1 => ?_⟩
    · replace H := H.1 h1
      refine hG.1 23 _ _ rfl _ _ _ ?_
      refine hG.1 24 _ _ rfl _ _ _ ?_
      exact ⟨rfl, H⟩
    · replace H := H.2 h1
      refine hG.1 16 _ _ rfl _ _ _ ?_
      refine hG.1 17 _ _ rfl _ _ _ ?_
      refine ⟨(sh_s0 hv0), ?_⟩
      refine hG.1 18 _ _ rfl _ _ _ ?_
      refine hG.1 19 _ _ rfl _ _ _ ?_
      refine hG.1 20 _ _ rfl _ _ _ ?_
      refine hG.1 21 _ _ rfl _ _ _ ?_
      refine ⟨by decide, ?_⟩
      refine hG.1 22 _ _ rfl _ _ _ ?_
      refine hG.1 24 _ _ rfl _ _ _ ?_
      exact ⟨rfl, H⟩
  · replace H := H.2 h7
    refine hG.1 4 _ _ rfl _ _ _ ?_
    refine hG.1 5 _ _ rfl _ _ _ ?_
    refine ⟨fun h6 => ?_, fun h6 => ?_⟩
    · replace H := H.1 h6
      refine hG.1 12 _ _ rfl _ _ _ ?_
      refine hG.1 13 _ _ rfl _ _ _ ?_
      show G 26 [some (.ref v0), some (.int v1), some (.int v2), some (.int (0 : Int32))] [] σ
      refine hG.1 14 _ _ rfl _ _ _ ?_
      refine hG.1 15 _ _ rfl _ _ _ ?_
      refine ⟨fun h2 => ?_, fun h2 => ?_⟩
      · replace H := H.1 h2
        refine hG.1 23 _ _ rfl _ _ _ ?_
        refine hG.1 24 _ _ rfl _ _ _ ?_
        exact ⟨rfl, H⟩
      · replace H := H.2 h2
        refine hG.1 16 _ _ rfl _ _ _ ?_
        refine hG.1 17 _ _ rfl _ _ _ ?_
        refine ⟨(sh_s0 hv0), ?_⟩
        refine hG.1 18 _ _ rfl _ _ _ ?_
        refine hG.1 19 _ _ rfl _ _ _ ?_
        refine hG.1 20 _ _ rfl _ _ _ ?_
        refine hG.1 21 _ _ rfl _ _ _ ?_
        refine ⟨by decide, ?_⟩
        refine hG.1 22 _ _ rfl _ _ _ ?_
        refine hG.1 24 _ _ rfl _ _ _ ?_
        exact ⟨rfl, H⟩
    · replace H := H.2 h6
      refine hG.1 6 _ _ rfl _ _ _ ?_
      refine hG.1 7 _ _ rfl _ _ _ ?_
      refine hG.1 8 _ _ rfl _ _ _ ?_
      refine ⟨(sh_s0 hv0), ?_⟩
      refine hG.1 9 _ _ rfl _ _ _ ?_
      refine ⟨fun h5 => ?_, fun h5 => ?_⟩
      · replace H := H.1 h5
        refine hG.1 12 _ _ rfl _ _ _ ?_
        refine hG.1 13 _ _ rfl _ _ _ ?_
        show G 26 [some (.ref v0), some (.int v1), some (.int v2), some (.int (0 : Int32))] [] σ
        refine hG.1 14 _ _ rfl _ _ _ ?_
        refine hG.1 15 _ _ rfl _ _ _ ?_
        refine ⟨fun h3 => ?_, fun h3 => ?_⟩
        · replace H := H.1 h3
          refine hG.1 23 _ _ rfl _ _ _ ?_
          refine hG.1 24 _ _ rfl _ _ _ ?_
          exact ⟨rfl, H⟩
        · replace H := H.2 h3
          refine hG.1 16 _ _ rfl _ _ _ ?_
          refine hG.1 17 _ _ rfl _ _ _ ?_
          refine ⟨(sh_s0 hv0), ?_⟩
          refine hG.1 18 _ _ rfl _ _ _ ?_
          refine hG.1 19 _ _ rfl _ _ _ ?_
          refine hG.1 20 _ _ rfl _ _ _ ?_
          refine hG.1 21 _ _ rfl _ _ _ ?_
          refine ⟨by decide, ?_⟩
          refine hG.1 22 _ _ rfl _ _ _ ?_
          refine hG.1 24 _ _ rfl _ _ _ ?_
          exact ⟨rfl, H⟩
      · replace H := H.2 h5
        refine hG.1 10 _ _ rfl _ _ _ ?_
        refine hG.1 11 _ _ rfl _ _ _ ?_
        refine hG.1 13 _ _ rfl _ _ _ ?_
        show G 26 [some (.ref v0), some (.int v1), some (.int v2), some (.int (1 : Int32))] [] σ
        refine hG.1 14 _ _ rfl _ _ _ ?_
        refine hG.1 15 _ _ rfl _ _ _ ?_
        refine ⟨fun h4 => ?_, fun h4 => ?_⟩
        · replace H := H.1 h4
          refine hG.1 23 _ _ rfl _ _ _ ?_
          refine hG.1 24 _ _ rfl _ _ _ ?_
          exact ⟨rfl, H⟩
        · replace H := H.2 h4
          refine hG.1 16 _ _ rfl _ _ _ ?_
          refine hG.1 17 _ _ rfl _ _ _ ?_
          refine ⟨(sh_s0 hv0), ?_⟩
          refine hG.1 18 _ _ rfl _ _ _ ?_
          refine hG.1 19 _ _ rfl _ _ _ ?_
          refine hG.1 20 _ _ rfl _ _ _ ?_
          refine hG.1 21 _ _ rfl _ _ _ ?_
          refine ⟨by decide, ?_⟩
          refine hG.1 22 _ _ rfl _ _ _ ?_
          refine hG.1 24 _ _ rfl _ _ _ ?_
          exact ⟨rfl, H⟩
set_option maxRecDepth 100000 in
set_option maxHeartbeats 4000000 in
theorem hhX3_wholePairs (g : gtX3_wholePairs) (v0 : Nat) (hv0 : px_sh v0) (v1 : Int32) (v2 : Int32) (σ : px_St) (h : qrX3_wholePairs g v0 v1 v2 σ) (G : px_K) (hG : px_cl (opX3_wholePairs (qoX3_wholePairs g v0 v1 v2 σ)) G) : G 0 (px_ent 4 [.ref v0, .int v1, .int v2]) [] σ := by
  refine sgX3_wholePairs_0 hG v0 hv0 _ _ σ ⟨fun h1 => ⟨fun _ => ⟨rfl, ?_⟩, fun z => absurd rfl z⟩, fun h1 => ⟨fun h2 => ⟨fun _ => ⟨rfl, ?_⟩, fun z => absurd rfl z⟩, fun h2 => ⟨fun h3 => ⟨fun _ => ⟨rfl, ?_⟩, fun z => absurd rfl z⟩, fun h3 => ⟨fun z => absurd z (by decide), fun _ => ⟨rfl, ?_⟩⟩⟩⟩⟩
  · rw [if_neg (fun z => h1 z.1)]
  · rw [if_neg (fun z => z.2.1 h2)]
  · rw [if_neg (fun z => z.2.2 h3)]
  · rw [if_pos ⟨Classical.byContradiction h1, h2, h3⟩]
theorem mX3_wholePairs (g : gtX3_wholePairs) : px_Met dC yX3_wholePairs (Cond.code yX3_wholePairs cX3_wholePairs 4 (some .int) :: wdC) rmX3_wholePairs px_vI (prX3_wholePairs g) (poX3_wholePairs g) :=
  px_met (Z := (cX3_wholePairs, 4, RX3, Cond.code yX3_wholePairs cX3_wholePairs 4 (some .int) :: wdC, (some .int), rmX3_wholePairs, dC)) opX3_wholePairs (by decide) rfl rfl okX3_wholePairs (fun As σ h => by obtain ⟨v0, v1, v2, rfl, hv0, h⟩ := h; exact Nat.le_of_ble_eq_true rfl) (fun As σ h G hG => by obtain ⟨v0, v1, v2, rfl, hv0, h⟩ := h; exact hhX3_wholePairs g v0 hv0 v1 v2 σ h G hG)
abbrev gtX3_faultOfReading : Type := Unit
def qrX3_faultOfReading (_ : Unit) (_ : Nat) (_ _ _ : Int32) (_ : px_St) : Prop := True
def qoX3_faultOfReading (_ : Unit) (a : Nat) (l w n : Int32) (σ : px_St) (r : Int32) (σ' : px_St) : Prop := σ' = σ ∧ r = if w < n then (if σ.1 a 0 = -1 then 1 else if σ.1 a 0 = l then 2 else 3) else 0
def prX3_faultOfReading (g : gtX3_faultOfReading) : List Value → px_St → Prop := fun As σ => ∃ v0 : Nat, ∃ v1 : Int32, ∃ v2 : Int32, ∃ v3 : Int32, As = [.ref v0, .int v1, .int v2, .int v3] ∧ px_sh v0 ∧ qrX3_faultOfReading g v0 v1 v2 v3 σ
def poX3_faultOfReading (g : gtX3_faultOfReading) : List Value → px_St → Int32 → px_St → Prop
  | [.ref v0, .int v1, .int v2, .int v3], σ, r, σ' => qoX3_faultOfReading g v0 v1 v2 v3 σ r σ'
  | _, _, _, _ => False
theorem dX3_faultOfReading_0 : decode cX3_faultOfReading 0 = .ok (.iload_n 2, 1) := by decide +kernel
theorem dX3_faultOfReading_1 : decode cX3_faultOfReading 1 = .ok (.iload_n 3, 1) := by decide +kernel
theorem dX3_faultOfReading_2 : decode cX3_faultOfReading 2 = .ok (.if_icmp .lt 5, 3) := by decide +kernel
theorem dX3_faultOfReading_5 : decode cX3_faultOfReading 5 = .ok (.iconst 0, 1) := by decide +kernel
theorem dX3_faultOfReading_6 : decode cX3_faultOfReading 6 = .ok (.ireturn, 1) := by decide +kernel
theorem dX3_faultOfReading_7 : decode cX3_faultOfReading 7 = .ok (.aload_n 0, 1) := by decide +kernel
theorem dX3_faultOfReading_8 : decode cX3_faultOfReading 8 = .ok (.getfield 11, 3) := by decide +kernel
theorem dX3_faultOfReading_11 : decode cX3_faultOfReading 11 = .ok (.iconst (-1), 1) := by decide +kernel
theorem dX3_faultOfReading_12 : decode cX3_faultOfReading 12 = .ok (.if_icmp .ne 5, 3) := by decide +kernel
theorem dX3_faultOfReading_15 : decode cX3_faultOfReading 15 = .ok (.iconst 1, 1) := by decide +kernel
theorem dX3_faultOfReading_16 : decode cX3_faultOfReading 16 = .ok (.ireturn, 1) := by decide +kernel
theorem dX3_faultOfReading_17 : decode cX3_faultOfReading 17 = .ok (.aload_n 0, 1) := by decide +kernel
theorem dX3_faultOfReading_18 : decode cX3_faultOfReading 18 = .ok (.getfield 11, 3) := by decide +kernel
theorem dX3_faultOfReading_21 : decode cX3_faultOfReading 21 = .ok (.iload_n 1, 1) := by decide +kernel
theorem dX3_faultOfReading_22 : decode cX3_faultOfReading 22 = .ok (.if_icmp .ne 7, 3) := by decide +kernel
theorem dX3_faultOfReading_25 : decode cX3_faultOfReading 25 = .ok (.iconst 2, 1) := by decide +kernel
theorem dX3_faultOfReading_26 : decode cX3_faultOfReading 26 = .ok (.goto 4, 3) := by decide +kernel
theorem dX3_faultOfReading_29 : decode cX3_faultOfReading 29 = .ok (.iconst 3, 1) := by decide +kernel
theorem dX3_faultOfReading_30 : decode cX3_faultOfReading 30 = .ok (.ireturn, 1) := by decide +kernel
abbrev rmX3_faultOfReading : Room := { frames := 0, cells := 0, slots := 0, locals := 0 }
def opX3_faultOfReading (po : Int32 → px_St → Prop) : List (Nat × px_Op) := [
  (0, px_il 1 2),
  (1, px_il 2 3),
  (2, px_ic 5 7 (fun x y => x < y)),
  (5, px_push 6 (.int 0)),
  (6, px_iret (.int) po),
  (7, px_al 8 0),
  (8, px_get dC 11 3 0),
  (11, px_push 12 (.int (-1))),
  (12, px_ic 15 17 (fun x y => ¬ x = y)),
  (15, px_push 16 (.int 1)),
  (16, px_iret (.int) po),
  (17, px_al 18 0),
  (18, px_get dC 21 3 0),
  (21, px_il 22 1),
  (22, px_ic 25 29 (fun x y => ¬ x = y)),
  (25, px_push 26 (.int 2)),
  (26, px_go 30),
  (29, px_push 30 (.int 3)),
  (30, px_iret (.int) po)]
set_option maxRecDepth 100000 in
set_option maxHeartbeats 4000000 in
theorem okX3_faultOfReading : ∀ (po : Int32 → px_St → Prop) (i pc : Nat) (op : px_Op), (opX3_faultOfReading po)[i]? = some (pc, op) → px_Snd (cX3_faultOfReading, 4, RX3, Cond.code yX3_faultOfReading cX3_faultOfReading 4 (some .int) :: wdC, (some .int), rmX3_faultOfReading, dC) px_vI po pc op := by
  intro po
  unfold opX3_faultOfReading
  refine px_ok_cons (ps_iload_n dX3_faultOfReading_0 rfl) ?_
  refine px_ok_cons (ps_iload_n dX3_faultOfReading_1 rfl) ?_
  refine px_ok_cons (ps_icmp_lt dX3_faultOfReading_2 (by decide)) ?_
  refine px_ok_cons (ps_iconst dX3_faultOfReading_5 (by decide)) ?_
  refine px_ok_cons (ps_ireturn rfl dX3_faultOfReading_6) ?_
  refine px_ok_cons (ps_aload_n dX3_faultOfReading_7 rfl) ?_
  refine px_ok_cons (fgX3_11 dX3_faultOfReading_8) ?_
  refine px_ok_cons (ps_iconst dX3_faultOfReading_11 (by decide)) ?_
  refine px_ok_cons (ps_icmp_ne dX3_faultOfReading_12 (by decide)) ?_
  refine px_ok_cons (ps_iconst dX3_faultOfReading_15 (by decide)) ?_
  refine px_ok_cons (ps_ireturn rfl dX3_faultOfReading_16) ?_
  refine px_ok_cons (ps_aload_n dX3_faultOfReading_17 rfl) ?_
  refine px_ok_cons (fgX3_11 dX3_faultOfReading_18) ?_
  refine px_ok_cons (ps_iload_n dX3_faultOfReading_21 rfl) ?_
  refine px_ok_cons (ps_icmp_ne dX3_faultOfReading_22 (by decide)) ?_
  refine px_ok_cons (ps_iconst dX3_faultOfReading_25 (by decide)) ?_
  refine px_ok_cons (ps_goto dX3_faultOfReading_26 (by decide)) ?_
  refine px_ok_cons (ps_iconst dX3_faultOfReading_29 (by decide)) ?_
  refine px_ok_cons (ps_ireturn rfl dX3_faultOfReading_30) ?_
  exact px_ok_nil
set_option maxRecDepth 100000 in
set_option maxHeartbeats 4000000 in
theorem sgX3_faultOfReading_0 {po : Int32 → px_St → Prop} {G : px_K} (hG : px_cl (opX3_faultOfReading po) G) (v0 : Nat) (hv0 : px_sh v0) (v1 : Int32) (v2 : Int32) (v3 : Int32) (σ : px_St)
    (H : ((v2 < v3) → ((¬ (σ.1 v0 0) = (-1 : Int32)) → ((¬ (σ.1 v0 0) = v1) → po (3 : Int32) σ) ∧ (¬ (¬ (σ.1 v0 0) = v1) → po (2 : Int32) σ)) ∧ (¬ (¬ (σ.1 v0 0) = (-1 : Int32)) → po (1 : Int32) σ)) ∧ (¬ (v2 < v3) → po (0 : Int32) σ)) :
    G 0 (px_ent 4 [.ref v0, .int v1, .int v2, .int v3]) [] σ := by
  refine hG.1 0 _ _ rfl _ _ _ ?_
  refine hG.1 1 _ _ rfl _ _ _ ?_
  refine hG.1 2 _ _ rfl _ _ _ ?_
  refine ⟨fun h3 => ?_, fun h3 => ?_⟩
  · replace H := H.1 h3
    refine hG.1 5 _ _ rfl _ _ _ ?_
    refine hG.1 6 _ _ rfl _ _ _ ?_
    refine ⟨(sh_s0 hv0), ?_⟩
    refine hG.1 7 _ _ rfl _ _ _ ?_
    refine hG.1 8 _ _ rfl _ _ _ ?_
    refine ⟨fun h2 => ?_, fun h2 => ?_⟩
    · replace H := H.1 h2
      refine hG.1 11 _ _ rfl _ _ _ ?_
      refine hG.1 12 _ _ rfl _ _ _ ?_
      refine ⟨(sh_s0 hv0), ?_⟩
      refine hG.1 13 _ _ rfl _ _ _ ?_
      refine hG.1 14 _ _ rfl _ _ _ ?_
      refine ⟨fun h1 => ?_, fun h1 => ?_⟩
      · replace H := H.1 h1
        refine hG.1 17 _ _ rfl _ _ _ ?_
        refine hG.1 18 _ _ rfl _ _ _ ?_
        exact ⟨rfl, H⟩
      · replace H := H.2 h1
        refine hG.1 15 _ _ rfl _ _ _ ?_
        refine hG.1 16 _ _ rfl _ _ _ ?_
        refine hG.1 18 _ _ rfl _ _ _ ?_
        exact ⟨rfl, H⟩
    · replace H := H.2 h2
      refine hG.1 9 _ _ rfl _ _ _ ?_
      refine hG.1 10 _ _ rfl _ _ _ ?_
      exact ⟨rfl, H⟩
  · replace H := H.2 h3
    refine hG.1 3 _ _ rfl _ _ _ ?_
    refine hG.1 4 _ _ rfl _ _ _ ?_
    exact ⟨rfl, H⟩
set_option maxRecDepth 100000 in
set_option maxHeartbeats 4000000 in
theorem hhX3_faultOfReading (g : gtX3_faultOfReading) (v0 : Nat) (hv0 : px_sh v0) (v1 : Int32) (v2 : Int32) (v3 : Int32) (σ : px_St) (h : qrX3_faultOfReading g v0 v1 v2 v3 σ) (G : px_K) (hG : px_cl (opX3_faultOfReading (qoX3_faultOfReading g v0 v1 v2 v3 σ)) G) : G 0 (px_ent 4 [.ref v0, .int v1, .int v2, .int v3]) [] σ := by
  refine sgX3_faultOfReading_0 hG v0 hv0 _ _ _ σ ⟨fun h1 => ⟨fun h2 => ⟨fun h3 => ⟨rfl, ?_⟩, fun h3 => ⟨rfl, ?_⟩⟩, fun h2 => ⟨rfl, ?_⟩⟩, fun h1 => ⟨rfl, ?_⟩⟩
  · rw [if_pos h1, if_neg h2, if_neg h3]
  · rw [if_pos h1, if_neg h2, if_pos (Classical.byContradiction h3)]
  · rw [if_pos h1, if_pos (Classical.byContradiction h2)]
  · rw [if_neg h1]
theorem mX3_faultOfReading (g : gtX3_faultOfReading) : px_Met dC yX3_faultOfReading (Cond.code yX3_faultOfReading cX3_faultOfReading 4 (some .int) :: wdC) rmX3_faultOfReading px_vI (prX3_faultOfReading g) (poX3_faultOfReading g) :=
  px_met (Z := (cX3_faultOfReading, 4, RX3, Cond.code yX3_faultOfReading cX3_faultOfReading 4 (some .int) :: wdC, (some .int), rmX3_faultOfReading, dC)) opX3_faultOfReading (by decide) rfl rfl okX3_faultOfReading (fun As σ h => by obtain ⟨v0, v1, v2, v3, rfl, hv0, h⟩ := h; exact Nat.le_of_ble_eq_true rfl) (fun As σ h G hG => by obtain ⟨v0, v1, v2, v3, rfl, hv0, h⟩ := h; exact hhX3_faultOfReading g v0 hv0 v1 v2 v3 σ h G hG)
/-- how many of the lowest k bits of n are set -/
def pv_pc (n : Nat) : Nat → Nat
  | 0 => 0
  | k + 1 => pv_pc n k + n / 2 ^ k % 2
def bc_1 (v : Int32) : Int32 := v - (((v.toUInt32 >>> ((1 : Int32).toUInt32 &&& Int32.toUInt32 31)).toInt32) &&& (1431655765 : Int32))
def bc_2 (v : Int32) : Int32 := (v &&& (858993459 : Int32)) + (((v.toUInt32 >>> ((2 : Int32).toUInt32 &&& Int32.toUInt32 31)).toInt32) &&& (858993459 : Int32))
def bc_3 (v : Int32) : Int32 := (v + ((v.toUInt32 >>> ((4 : Int32).toUInt32 &&& Int32.toUInt32 31)).toInt32)) &&& (252645135 : Int32)
def bc_4 (v : Int32) : Int32 := v + ((v.toUInt32 >>> ((8 : Int32).toUInt32 &&& Int32.toUInt32 31)).toInt32)
def bc_5 (v : Int32) : Int32 := v + ((v.toUInt32 >>> ((16 : Int32).toUInt32 &&& Int32.toUInt32 31)).toInt32)
def bc_f (v : Int32) : Int32 := bc_5 (bc_4 (bc_3 (bc_2 (bc_1 v)))) &&& (63 : Int32)
theorem bc_ok : ∀ n, n < 1024 → bc_f (nI n) = nI (pv_pc n 10) := by decide +kernel
abbrev gtJ6_bitCount_0f7a4 : Type := Nat
def qrJ6_bitCount_0f7a4 (n : Nat) (v : Int32) (_ : px_St) : Prop := n < 1024 ∧ v = nI n
def qoJ6_bitCount_0f7a4 (n : Nat) (_ : Int32) (σ : px_St) (r : Int32) (σ' : px_St) : Prop := σ' = σ ∧ r = nI (pv_pc n 10)
def prJ6_bitCount_0f7a4 (g : gtJ6_bitCount_0f7a4) : List Value → px_St → Prop := fun As σ => ∃ v0 : Int32, As = [.int v0] ∧ qrJ6_bitCount_0f7a4 g v0 σ
def poJ6_bitCount_0f7a4 (g : gtJ6_bitCount_0f7a4) : List Value → px_St → Int32 → px_St → Prop
  | [.int v0], σ, r, σ' => qoJ6_bitCount_0f7a4 g v0 σ r σ'
  | _, _, _, _ => False
theorem dJ6_bitCount_0f7a4_0 : decode cJ6_bitCount_0f7a4 0 = .ok (.iload_n 0, 1) := by decide +kernel
theorem dJ6_bitCount_0f7a4_1 : decode cJ6_bitCount_0f7a4 1 = .ok (.iload_n 0, 1) := by decide +kernel
theorem dJ6_bitCount_0f7a4_2 : decode cJ6_bitCount_0f7a4 2 = .ok (.iconst 1, 1) := by decide +kernel
theorem dJ6_bitCount_0f7a4_3 : decode cJ6_bitCount_0f7a4 3 = .ok (.iushr, 1) := by decide +kernel
theorem dJ6_bitCount_0f7a4_4 : decode cJ6_bitCount_0f7a4 4 = .ok (.ldc_w 265, 3) := by decide +kernel
theorem dJ6_bitCount_0f7a4_7 : decode cJ6_bitCount_0f7a4 7 = .ok (.iand, 1) := by decide +kernel
theorem dJ6_bitCount_0f7a4_8 : decode cJ6_bitCount_0f7a4 8 = .ok (.isub, 1) := by decide +kernel
theorem dJ6_bitCount_0f7a4_9 : decode cJ6_bitCount_0f7a4 9 = .ok (.istore_n 0, 1) := by decide +kernel
theorem dJ6_bitCount_0f7a4_10 : decode cJ6_bitCount_0f7a4 10 = .ok (.iload_n 0, 1) := by decide +kernel
theorem dJ6_bitCount_0f7a4_11 : decode cJ6_bitCount_0f7a4 11 = .ok (.ldc_w 266, 3) := by decide +kernel
theorem dJ6_bitCount_0f7a4_14 : decode cJ6_bitCount_0f7a4 14 = .ok (.iand, 1) := by decide +kernel
theorem dJ6_bitCount_0f7a4_15 : decode cJ6_bitCount_0f7a4 15 = .ok (.iload_n 0, 1) := by decide +kernel
theorem dJ6_bitCount_0f7a4_16 : decode cJ6_bitCount_0f7a4 16 = .ok (.iconst 2, 1) := by decide +kernel
theorem dJ6_bitCount_0f7a4_17 : decode cJ6_bitCount_0f7a4 17 = .ok (.iushr, 1) := by decide +kernel
theorem dJ6_bitCount_0f7a4_18 : decode cJ6_bitCount_0f7a4 18 = .ok (.ldc_w 266, 3) := by decide +kernel
theorem dJ6_bitCount_0f7a4_21 : decode cJ6_bitCount_0f7a4 21 = .ok (.iand, 1) := by decide +kernel
theorem dJ6_bitCount_0f7a4_22 : decode cJ6_bitCount_0f7a4 22 = .ok (.iadd, 1) := by decide +kernel
theorem dJ6_bitCount_0f7a4_23 : decode cJ6_bitCount_0f7a4 23 = .ok (.istore_n 0, 1) := by decide +kernel
theorem dJ6_bitCount_0f7a4_24 : decode cJ6_bitCount_0f7a4 24 = .ok (.iload_n 0, 1) := by decide +kernel
theorem dJ6_bitCount_0f7a4_25 : decode cJ6_bitCount_0f7a4 25 = .ok (.iload_n 0, 1) := by decide +kernel
theorem dJ6_bitCount_0f7a4_26 : decode cJ6_bitCount_0f7a4 26 = .ok (.iconst 4, 1) := by decide +kernel
theorem dJ6_bitCount_0f7a4_27 : decode cJ6_bitCount_0f7a4 27 = .ok (.iushr, 1) := by decide +kernel
theorem dJ6_bitCount_0f7a4_28 : decode cJ6_bitCount_0f7a4 28 = .ok (.iadd, 1) := by decide +kernel
theorem dJ6_bitCount_0f7a4_29 : decode cJ6_bitCount_0f7a4 29 = .ok (.ldc_w 267, 3) := by decide +kernel
theorem dJ6_bitCount_0f7a4_32 : decode cJ6_bitCount_0f7a4 32 = .ok (.iand, 1) := by decide +kernel
theorem dJ6_bitCount_0f7a4_33 : decode cJ6_bitCount_0f7a4 33 = .ok (.istore_n 0, 1) := by decide +kernel
theorem dJ6_bitCount_0f7a4_34 : decode cJ6_bitCount_0f7a4 34 = .ok (.iload_n 0, 1) := by decide +kernel
theorem dJ6_bitCount_0f7a4_35 : decode cJ6_bitCount_0f7a4 35 = .ok (.iload_n 0, 1) := by decide +kernel
theorem dJ6_bitCount_0f7a4_36 : decode cJ6_bitCount_0f7a4 36 = .ok (.bipush 8, 2) := by decide +kernel
theorem dJ6_bitCount_0f7a4_38 : decode cJ6_bitCount_0f7a4 38 = .ok (.iushr, 1) := by decide +kernel
theorem dJ6_bitCount_0f7a4_39 : decode cJ6_bitCount_0f7a4 39 = .ok (.iadd, 1) := by decide +kernel
theorem dJ6_bitCount_0f7a4_40 : decode cJ6_bitCount_0f7a4 40 = .ok (.istore_n 0, 1) := by decide +kernel
theorem dJ6_bitCount_0f7a4_41 : decode cJ6_bitCount_0f7a4 41 = .ok (.iload_n 0, 1) := by decide +kernel
theorem dJ6_bitCount_0f7a4_42 : decode cJ6_bitCount_0f7a4 42 = .ok (.iload_n 0, 1) := by decide +kernel
theorem dJ6_bitCount_0f7a4_43 : decode cJ6_bitCount_0f7a4 43 = .ok (.bipush 16, 2) := by decide +kernel
theorem dJ6_bitCount_0f7a4_45 : decode cJ6_bitCount_0f7a4 45 = .ok (.iushr, 1) := by decide +kernel
theorem dJ6_bitCount_0f7a4_46 : decode cJ6_bitCount_0f7a4 46 = .ok (.iadd, 1) := by decide +kernel
theorem dJ6_bitCount_0f7a4_47 : decode cJ6_bitCount_0f7a4 47 = .ok (.istore_n 0, 1) := by decide +kernel
theorem dJ6_bitCount_0f7a4_48 : decode cJ6_bitCount_0f7a4 48 = .ok (.iload_n 0, 1) := by decide +kernel
theorem dJ6_bitCount_0f7a4_49 : decode cJ6_bitCount_0f7a4 49 = .ok (.bipush 63, 2) := by decide +kernel
theorem dJ6_bitCount_0f7a4_51 : decode cJ6_bitCount_0f7a4 51 = .ok (.iand, 1) := by decide +kernel
theorem dJ6_bitCount_0f7a4_52 : decode cJ6_bitCount_0f7a4 52 = .ok (.ireturn, 1) := by decide +kernel
abbrev rmJ6_bitCount_0f7a4 : Room := { frames := 0, cells := 0, slots := 0, locals := 0 }
def opJ6_bitCount_0f7a4 (po : Int32 → px_St → Prop) : List (Nat × px_Op) := [
  (0, px_il 1 0),
  (1, px_il 2 0),
  (2, px_push 3 (.int 1)),
  (3, px_bin 4 (fun x y => (x.toUInt32 >>> (y.toUInt32 &&& Int32.toUInt32 31)).toInt32)),
  (4, px_push 7 (.int 1431655765)),
  (7, px_bin 8 (fun x y => x &&& y)),
  (8, px_bin 9 (fun x y => x - y)),
  (9, px_is 10 0),
  (10, px_il 11 0),
  (11, px_push 14 (.int 858993459)),
  (14, px_bin 15 (fun x y => x &&& y)),
  (15, px_il 16 0),
  (16, px_push 17 (.int 2)),
  (17, px_bin 18 (fun x y => (x.toUInt32 >>> (y.toUInt32 &&& Int32.toUInt32 31)).toInt32)),
  (18, px_push 21 (.int 858993459)),
  (21, px_bin 22 (fun x y => x &&& y)),
  (22, px_bin 23 (fun x y => x + y)),
  (23, px_is 24 0),
  (24, px_il 25 0),
  (25, px_il 26 0),
  (26, px_push 27 (.int 4)),
  (27, px_bin 28 (fun x y => (x.toUInt32 >>> (y.toUInt32 &&& Int32.toUInt32 31)).toInt32)),
  (28, px_bin 29 (fun x y => x + y)),
  (29, px_push 32 (.int 252645135)),
  (32, px_bin 33 (fun x y => x &&& y)),
  (33, px_is 34 0),
  (34, px_il 35 0),
  (35, px_il 36 0),
  (36, px_push 38 (.int 8)),
  (38, px_bin 39 (fun x y => (x.toUInt32 >>> (y.toUInt32 &&& Int32.toUInt32 31)).toInt32)),
  (39, px_bin 40 (fun x y => x + y)),
  (40, px_is 41 0),
  (41, px_il 42 0),
  (42, px_il 43 0),
  (43, px_push 45 (.int 16)),
  (45, px_bin 46 (fun x y => (x.toUInt32 >>> (y.toUInt32 &&& Int32.toUInt32 31)).toInt32)),
  (46, px_bin 47 (fun x y => x + y)),
  (47, px_is 48 0),
  (48, px_il 49 0),
  (49, px_push 51 (.int 63)),
  (51, px_bin 52 (fun x y => x &&& y)),
  (52, px_iret (.int) po)]
set_option maxRecDepth 100000 in
set_option maxHeartbeats 4000000 in
theorem okJ6_bitCount_0f7a4 : ∀ (po : Int32 → px_St → Prop) (i pc : Nat) (op : px_Op), (opJ6_bitCount_0f7a4 po)[i]? = some (pc, op) → px_Snd (cJ6_bitCount_0f7a4, 1, RJ6, Cond.code yJ6_bitCount_0f7a4 cJ6_bitCount_0f7a4 1 (some .int) :: wdC, (some .int), rmJ6_bitCount_0f7a4, dC) px_vI po pc op := by
  intro po
  unfold opJ6_bitCount_0f7a4
  refine px_ok_cons (ps_iload_n dJ6_bitCount_0f7a4_0 rfl) ?_
  refine px_ok_cons (ps_iload_n dJ6_bitCount_0f7a4_1 rfl) ?_
  refine px_ok_cons (ps_iconst dJ6_bitCount_0f7a4_2 (by decide)) ?_
  refine px_ok_cons (ps_iushr dJ6_bitCount_0f7a4_3) ?_
  refine px_ok_cons (ps_ldcw (List.mem_cons_of_mem _ (wdC_7_in _ (List.mem_of_getElem? (i := 27) rfl))) dJ6_bitCount_0f7a4_4) ?_
  refine px_ok_cons (ps_iand dJ6_bitCount_0f7a4_7) ?_
  refine px_ok_cons (ps_isub dJ6_bitCount_0f7a4_8) ?_
  refine px_ok_cons (ps_istore_n dJ6_bitCount_0f7a4_9 rfl (by decide)) ?_
  refine px_ok_cons (ps_iload_n dJ6_bitCount_0f7a4_10 rfl) ?_
  refine px_ok_cons (ps_ldcw (List.mem_cons_of_mem _ (wdC_7_in _ (List.mem_of_getElem? (i := 28) rfl))) dJ6_bitCount_0f7a4_11) ?_
  refine px_ok_cons (ps_iand dJ6_bitCount_0f7a4_14) ?_
  refine px_ok_cons (ps_iload_n dJ6_bitCount_0f7a4_15 rfl) ?_
  refine px_ok_cons (ps_iconst dJ6_bitCount_0f7a4_16 (by decide)) ?_
  refine px_ok_cons (ps_iushr dJ6_bitCount_0f7a4_17) ?_
  refine px_ok_cons (ps_ldcw (List.mem_cons_of_mem _ (wdC_7_in _ (List.mem_of_getElem? (i := 28) rfl))) dJ6_bitCount_0f7a4_18) ?_
  refine px_ok_cons (ps_iand dJ6_bitCount_0f7a4_21) ?_
  refine px_ok_cons (ps_iadd dJ6_bitCount_0f7a4_22) ?_
  refine px_ok_cons (ps_istore_n dJ6_bitCount_0f7a4_23 rfl (by decide)) ?_
  refine px_ok_cons (ps_iload_n dJ6_bitCount_0f7a4_24 rfl) ?_
  refine px_ok_cons (ps_iload_n dJ6_bitCount_0f7a4_25 rfl) ?_
  refine px_ok_cons (ps_iconst dJ6_bitCount_0f7a4_26 (by decide)) ?_
  refine px_ok_cons (ps_iushr dJ6_bitCount_0f7a4_27) ?_
  refine px_ok_cons (ps_iadd dJ6_bitCount_0f7a4_28) ?_
  refine px_ok_cons (ps_ldcw (List.mem_cons_of_mem _ (wdC_7_in _ (List.mem_of_getElem? (i := 29) rfl))) dJ6_bitCount_0f7a4_29) ?_
  refine px_ok_cons (ps_iand dJ6_bitCount_0f7a4_32) ?_
  refine px_ok_cons (ps_istore_n dJ6_bitCount_0f7a4_33 rfl (by decide)) ?_
  refine px_ok_cons (ps_iload_n dJ6_bitCount_0f7a4_34 rfl) ?_
  refine px_ok_cons (ps_iload_n dJ6_bitCount_0f7a4_35 rfl) ?_
  refine px_ok_cons (ps_bipush dJ6_bitCount_0f7a4_36 (by decide)) ?_
  refine px_ok_cons (ps_iushr dJ6_bitCount_0f7a4_38) ?_
  refine px_ok_cons (ps_iadd dJ6_bitCount_0f7a4_39) ?_
  refine px_ok_cons (ps_istore_n dJ6_bitCount_0f7a4_40 rfl (by decide)) ?_
  refine px_ok_cons (ps_iload_n dJ6_bitCount_0f7a4_41 rfl) ?_
  refine px_ok_cons (ps_iload_n dJ6_bitCount_0f7a4_42 rfl) ?_
  refine px_ok_cons (ps_bipush dJ6_bitCount_0f7a4_43 (by decide)) ?_
  refine px_ok_cons (ps_iushr dJ6_bitCount_0f7a4_45) ?_
  refine px_ok_cons (ps_iadd dJ6_bitCount_0f7a4_46) ?_
  refine px_ok_cons (ps_istore_n dJ6_bitCount_0f7a4_47 rfl (by decide)) ?_
  refine px_ok_cons (ps_iload_n dJ6_bitCount_0f7a4_48 rfl) ?_
  refine px_ok_cons (ps_bipush dJ6_bitCount_0f7a4_49 (by decide)) ?_
  refine px_ok_cons (ps_iand dJ6_bitCount_0f7a4_51) ?_
  refine px_ok_cons (ps_ireturn rfl dJ6_bitCount_0f7a4_52) ?_
  exact px_ok_nil
set_option maxRecDepth 100000 in
set_option maxHeartbeats 4000000 in
theorem sgJ6_bitCount_0f7a4_0 {po : Int32 → px_St → Prop} {G : px_K} (hG : px_cl (opJ6_bitCount_0f7a4 po) G) (v0 : Int32) (σ : px_St)
    (H : po ((((((((v0 - (((v0.toUInt32 >>> ((1 : Int32).toUInt32 &&& Int32.toUInt32 31)).toInt32) &&& (1431655765 : Int32))) &&& (858993459 : Int32)) + ((((v0 - (((v0.toUInt32 >>> ((1 : Int32).toUInt32 &&& Int32.toUInt32 31)).toInt32) &&& (1431655765 : Int32))).toUInt32 >>> ((2 : Int32).toUInt32 &&& Int32.toUInt32 31)).toInt32) &&& (858993459 : Int32))) + (((((v0 - (((v0.toUInt32 >>> ((1 : Int32).toUInt32 &&& Int32.toUInt32 31)).toInt32) &&& (1431655765 : Int32))) &&& (858993459 : Int32)) + ((((v0 - (((v0.toUInt32 >>> ((1 : Int32).toUInt32 &&& Int32.toUInt32 31)).toInt32) &&& (1431655765 : Int32))).toUInt32 >>> ((2 : Int32).toUInt32 &&& Int32.toUInt32 31)).toInt32) &&& (858993459 : Int32))).toUInt32 >>> ((4 : Int32).toUInt32 &&& Int32.toUInt32 31)).toInt32)) &&& (252645135 : Int32)) + (((((((v0 - (((v0.toUInt32 >>> ((1 : Int32).toUInt32 &&& Int32.toUInt32 31)).toInt32) &&& (1431655765 : Int32))) &&& (858993459 : Int32)) + ((((v0 - (((v0.toUInt32 >>> ((1 : Int32).toUInt32 &&& Int32.toUInt32 31)).toInt32) &&& (1431655765 : Int32))).toUInt32 >>> ((2 : Int32).toUInt32 &&& Int32.toUInt32 31)).toInt32) &&& (858993459 : Int32))) + (((((v0 - (((v0.toUInt32 >>> ((1 : Int32).toUInt32 &&& Int32.toUInt32 31)).toInt32) &&& (1431655765 : Int32))) &&& (858993459 : Int32)) + ((((v0 - (((v0.toUInt32 >>> ((1 : Int32).toUInt32 &&& Int32.toUInt32 31)).toInt32) &&& (1431655765 : Int32))).toUInt32 >>> ((2 : Int32).toUInt32 &&& Int32.toUInt32 31)).toInt32) &&& (858993459 : Int32))).toUInt32 >>> ((4 : Int32).toUInt32 &&& Int32.toUInt32 31)).toInt32)) &&& (252645135 : Int32)).toUInt32 >>> ((8 : Int32).toUInt32 &&& Int32.toUInt32 31)).toInt32)) + ((((((((v0 - (((v0.toUInt32 >>> ((1 : Int32).toUInt32 &&& Int32.toUInt32 31)).toInt32) &&& (1431655765 : Int32))) &&& (858993459 : Int32)) + ((((v0 - (((v0.toUInt32 >>> ((1 : Int32).toUInt32 &&& Int32.toUInt32 31)).toInt32) &&& (1431655765 : Int32))).toUInt32 >>> ((2 : Int32).toUInt32 &&& Int32.toUInt32 31)).toInt32) &&& (858993459 : Int32))) + (((((v0 - (((v0.toUInt32 >>> ((1 : Int32).toUInt32 &&& Int32.toUInt32 31)).toInt32) &&& (1431655765 : Int32))) &&& (858993459 : Int32)) + ((((v0 - (((v0.toUInt32 >>> ((1 : Int32).toUInt32 &&& Int32.toUInt32 31)).toInt32) &&& (1431655765 : Int32))).toUInt32 >>> ((2 : Int32).toUInt32 &&& Int32.toUInt32 31)).toInt32) &&& (858993459 : Int32))).toUInt32 >>> ((4 : Int32).toUInt32 &&& Int32.toUInt32 31)).toInt32)) &&& (252645135 : Int32)) + (((((((v0 - (((v0.toUInt32 >>> ((1 : Int32).toUInt32 &&& Int32.toUInt32 31)).toInt32) &&& (1431655765 : Int32))) &&& (858993459 : Int32)) + ((((v0 - (((v0.toUInt32 >>> ((1 : Int32).toUInt32 &&& Int32.toUInt32 31)).toInt32) &&& (1431655765 : Int32))).toUInt32 >>> ((2 : Int32).toUInt32 &&& Int32.toUInt32 31)).toInt32) &&& (858993459 : Int32))) + (((((v0 - (((v0.toUInt32 >>> ((1 : Int32).toUInt32 &&& Int32.toUInt32 31)).toInt32) &&& (1431655765 : Int32))) &&& (858993459 : Int32)) + ((((v0 - (((v0.toUInt32 >>> ((1 : Int32).toUInt32 &&& Int32.toUInt32 31)).toInt32) &&& (1431655765 : Int32))).toUInt32 >>> ((2 : Int32).toUInt32 &&& Int32.toUInt32 31)).toInt32) &&& (858993459 : Int32))).toUInt32 >>> ((4 : Int32).toUInt32 &&& Int32.toUInt32 31)).toInt32)) &&& (252645135 : Int32)).toUInt32 >>> ((8 : Int32).toUInt32 &&& Int32.toUInt32 31)).toInt32)).toUInt32 >>> ((16 : Int32).toUInt32 &&& Int32.toUInt32 31)).toInt32)) &&& (63 : Int32)) σ) :
    G 0 (px_ent 1 [.int v0]) [] σ := by
  refine hG.1 0 _ _ rfl _ _ _ ?_
  refine hG.1 1 _ _ rfl _ _ _ ?_
  refine hG.1 2 _ _ rfl _ _ _ ?_
  refine hG.1 3 _ _ rfl _ _ _ ?_
  refine hG.1 4 _ _ rfl _ _ _ ?_
  refine hG.1 5 _ _ rfl _ _ _ ?_
  refine hG.1 6 _ _ rfl _ _ _ ?_
  refine hG.1 7 _ _ rfl _ _ _ ?_
  show G 10 [some (.int (v0 - (((v0.toUInt32 >>> ((1 : Int32).toUInt32 &&& Int32.toUInt32 31)).toInt32) &&& (1431655765 : Int32))))] [] σ
  refine hG.1 8 _ _ rfl _ _ _ ?_
  refine hG.1 9 _ _ rfl _ _ _ ?_
  refine hG.1 10 _ _ rfl _ _ _ ?_
  refine hG.1 11 _ _ rfl _ _ _ ?_
  refine hG.1 12 _ _ rfl _ _ _ ?_
  refine hG.1 13 _ _ rfl _ _ _ ?_
  refine hG.1 14 _ _ rfl _ _ _ ?_
  refine hG.1 15 _ _ rfl _ _ _ ?_
  refine hG.1 16 _ _ rfl _ _ _ ?_
  refine hG.1 17 _ _ rfl _ _ _ ?_
  show G 24 [some (.int (((v0 - (((v0.toUInt32 >>> ((1 : Int32).toUInt32 &&& Int32.toUInt32 31)).toInt32) &&& (1431655765 : Int32))) &&& (858993459 : Int32)) + ((((v0 - (((v0.toUInt32 >>> ((1 : Int32).toUInt32 &&& Int32.toUInt32 31)).toInt32) &&& (1431655765 : Int32))).toUInt32 >>> ((2 : Int32).toUInt32 &&& Int32.toUInt32 31)).toInt32) &&& (858993459 : Int32))))] [] σ
  refine hG.1 18 _ _ rfl _ _ _ ?_
  refine hG.1 19 _ _ rfl _ _ _ ?_
  refine hG.1 20 _ _ rfl _ _ _ ?_
  refine hG.1 21 _ _ rfl _ _ _ ?_
  refine hG.1 22 _ _ rfl _ _ _ ?_
  refine hG.1 23 _ _ rfl _ _ _ ?_
  refine hG.1 24 _ _ rfl _ _ _ ?_
  refine hG.1 25 _ _ rfl _ _ _ ?_
  show G 34 [some (.int (((((v0 - (((v0.toUInt32 >>> ((1 : Int32).toUInt32 &&& Int32.toUInt32 31)).toInt32) &&& (1431655765 : Int32))) &&& (858993459 : Int32)) + ((((v0 - (((v0.toUInt32 >>> ((1 : Int32).toUInt32 &&& Int32.toUInt32 31)).toInt32) &&& (1431655765 : Int32))).toUInt32 >>> ((2 : Int32).toUInt32 &&& Int32.toUInt32 31)).toInt32) &&& (858993459 : Int32))) + (((((v0 - (((v0.toUInt32 >>> ((1 : Int32).toUInt32 &&& Int32.toUInt32 31)).toInt32) &&& (1431655765 : Int32))) &&& (858993459 : Int32)) + ((((v0 - (((v0.toUInt32 >>> ((1 : Int32).toUInt32 &&& Int32.toUInt32 31)).toInt32) &&& (1431655765 : Int32))).toUInt32 >>> ((2 : Int32).toUInt32 &&& Int32.toUInt32 31)).toInt32) &&& (858993459 : Int32))).toUInt32 >>> ((4 : Int32).toUInt32 &&& Int32.toUInt32 31)).toInt32)) &&& (252645135 : Int32)))] [] σ
  refine hG.1 26 _ _ rfl _ _ _ ?_
  refine hG.1 27 _ _ rfl _ _ _ ?_
  refine hG.1 28 _ _ rfl _ _ _ ?_
  refine hG.1 29 _ _ rfl _ _ _ ?_
  refine hG.1 30 _ _ rfl _ _ _ ?_
  refine hG.1 31 _ _ rfl _ _ _ ?_
  show G 41 [some (.int ((((((v0 - (((v0.toUInt32 >>> ((1 : Int32).toUInt32 &&& Int32.toUInt32 31)).toInt32) &&& (1431655765 : Int32))) &&& (858993459 : Int32)) + ((((v0 - (((v0.toUInt32 >>> ((1 : Int32).toUInt32 &&& Int32.toUInt32 31)).toInt32) &&& (1431655765 : Int32))).toUInt32 >>> ((2 : Int32).toUInt32 &&& Int32.toUInt32 31)).toInt32) &&& (858993459 : Int32))) + (((((v0 - (((v0.toUInt32 >>> ((1 : Int32).toUInt32 &&& Int32.toUInt32 31)).toInt32) &&& (1431655765 : Int32))) &&& (858993459 : Int32)) + ((((v0 - (((v0.toUInt32 >>> ((1 : Int32).toUInt32 &&& Int32.toUInt32 31)).toInt32) &&& (1431655765 : Int32))).toUInt32 >>> ((2 : Int32).toUInt32 &&& Int32.toUInt32 31)).toInt32) &&& (858993459 : Int32))).toUInt32 >>> ((4 : Int32).toUInt32 &&& Int32.toUInt32 31)).toInt32)) &&& (252645135 : Int32)) + (((((((v0 - (((v0.toUInt32 >>> ((1 : Int32).toUInt32 &&& Int32.toUInt32 31)).toInt32) &&& (1431655765 : Int32))) &&& (858993459 : Int32)) + ((((v0 - (((v0.toUInt32 >>> ((1 : Int32).toUInt32 &&& Int32.toUInt32 31)).toInt32) &&& (1431655765 : Int32))).toUInt32 >>> ((2 : Int32).toUInt32 &&& Int32.toUInt32 31)).toInt32) &&& (858993459 : Int32))) + (((((v0 - (((v0.toUInt32 >>> ((1 : Int32).toUInt32 &&& Int32.toUInt32 31)).toInt32) &&& (1431655765 : Int32))) &&& (858993459 : Int32)) + ((((v0 - (((v0.toUInt32 >>> ((1 : Int32).toUInt32 &&& Int32.toUInt32 31)).toInt32) &&& (1431655765 : Int32))).toUInt32 >>> ((2 : Int32).toUInt32 &&& Int32.toUInt32 31)).toInt32) &&& (858993459 : Int32))).toUInt32 >>> ((4 : Int32).toUInt32 &&& Int32.toUInt32 31)).toInt32)) &&& (252645135 : Int32)).toUInt32 >>> ((8 : Int32).toUInt32 &&& Int32.toUInt32 31)).toInt32)))] [] σ
  refine hG.1 32 _ _ rfl _ _ _ ?_
  refine hG.1 33 _ _ rfl _ _ _ ?_
  refine hG.1 34 _ _ rfl _ _ _ ?_
  refine hG.1 35 _ _ rfl _ _ _ ?_
  refine hG.1 36 _ _ rfl _ _ _ ?_
  refine hG.1 37 _ _ rfl _ _ _ ?_
  show G 48 [some (.int (((((((v0 - (((v0.toUInt32 >>> ((1 : Int32).toUInt32 &&& Int32.toUInt32 31)).toInt32) &&& (1431655765 : Int32))) &&& (858993459 : Int32)) + ((((v0 - (((v0.toUInt32 >>> ((1 : Int32).toUInt32 &&& Int32.toUInt32 31)).toInt32) &&& (1431655765 : Int32))).toUInt32 >>> ((2 : Int32).toUInt32 &&& Int32.toUInt32 31)).toInt32) &&& (858993459 : Int32))) + (((((v0 - (((v0.toUInt32 >>> ((1 : Int32).toUInt32 &&& Int32.toUInt32 31)).toInt32) &&& (1431655765 : Int32))) &&& (858993459 : Int32)) + ((((v0 - (((v0.toUInt32 >>> ((1 : Int32).toUInt32 &&& Int32.toUInt32 31)).toInt32) &&& (1431655765 : Int32))).toUInt32 >>> ((2 : Int32).toUInt32 &&& Int32.toUInt32 31)).toInt32) &&& (858993459 : Int32))).toUInt32 >>> ((4 : Int32).toUInt32 &&& Int32.toUInt32 31)).toInt32)) &&& (252645135 : Int32)) + (((((((v0 - (((v0.toUInt32 >>> ((1 : Int32).toUInt32 &&& Int32.toUInt32 31)).toInt32) &&& (1431655765 : Int32))) &&& (858993459 : Int32)) + ((((v0 - (((v0.toUInt32 >>> ((1 : Int32).toUInt32 &&& Int32.toUInt32 31)).toInt32) &&& (1431655765 : Int32))).toUInt32 >>> ((2 : Int32).toUInt32 &&& Int32.toUInt32 31)).toInt32) &&& (858993459 : Int32))) + (((((v0 - (((v0.toUInt32 >>> ((1 : Int32).toUInt32 &&& Int32.toUInt32 31)).toInt32) &&& (1431655765 : Int32))) &&& (858993459 : Int32)) + ((((v0 - (((v0.toUInt32 >>> ((1 : Int32).toUInt32 &&& Int32.toUInt32 31)).toInt32) &&& (1431655765 : Int32))).toUInt32 >>> ((2 : Int32).toUInt32 &&& Int32.toUInt32 31)).toInt32) &&& (858993459 : Int32))).toUInt32 >>> ((4 : Int32).toUInt32 &&& Int32.toUInt32 31)).toInt32)) &&& (252645135 : Int32)).toUInt32 >>> ((8 : Int32).toUInt32 &&& Int32.toUInt32 31)).toInt32)) + ((((((((v0 - (((v0.toUInt32 >>> ((1 : Int32).toUInt32 &&& Int32.toUInt32 31)).toInt32) &&& (1431655765 : Int32))) &&& (858993459 : Int32)) + ((((v0 - (((v0.toUInt32 >>> ((1 : Int32).toUInt32 &&& Int32.toUInt32 31)).toInt32) &&& (1431655765 : Int32))).toUInt32 >>> ((2 : Int32).toUInt32 &&& Int32.toUInt32 31)).toInt32) &&& (858993459 : Int32))) + (((((v0 - (((v0.toUInt32 >>> ((1 : Int32).toUInt32 &&& Int32.toUInt32 31)).toInt32) &&& (1431655765 : Int32))) &&& (858993459 : Int32)) + ((((v0 - (((v0.toUInt32 >>> ((1 : Int32).toUInt32 &&& Int32.toUInt32 31)).toInt32) &&& (1431655765 : Int32))).toUInt32 >>> ((2 : Int32).toUInt32 &&& Int32.toUInt32 31)).toInt32) &&& (858993459 : Int32))).toUInt32 >>> ((4 : Int32).toUInt32 &&& Int32.toUInt32 31)).toInt32)) &&& (252645135 : Int32)) + (((((((v0 - (((v0.toUInt32 >>> ((1 : Int32).toUInt32 &&& Int32.toUInt32 31)).toInt32) &&& (1431655765 : Int32))) &&& (858993459 : Int32)) + ((((v0 - (((v0.toUInt32 >>> ((1 : Int32).toUInt32 &&& Int32.toUInt32 31)).toInt32) &&& (1431655765 : Int32))).toUInt32 >>> ((2 : Int32).toUInt32 &&& Int32.toUInt32 31)).toInt32) &&& (858993459 : Int32))) + (((((v0 - (((v0.toUInt32 >>> ((1 : Int32).toUInt32 &&& Int32.toUInt32 31)).toInt32) &&& (1431655765 : Int32))) &&& (858993459 : Int32)) + ((((v0 - (((v0.toUInt32 >>> ((1 : Int32).toUInt32 &&& Int32.toUInt32 31)).toInt32) &&& (1431655765 : Int32))).toUInt32 >>> ((2 : Int32).toUInt32 &&& Int32.toUInt32 31)).toInt32) &&& (858993459 : Int32))).toUInt32 >>> ((4 : Int32).toUInt32 &&& Int32.toUInt32 31)).toInt32)) &&& (252645135 : Int32)).toUInt32 >>> ((8 : Int32).toUInt32 &&& Int32.toUInt32 31)).toInt32)).toUInt32 >>> ((16 : Int32).toUInt32 &&& Int32.toUInt32 31)).toInt32)))] [] σ
  refine hG.1 38 _ _ rfl _ _ _ ?_
  refine hG.1 39 _ _ rfl _ _ _ ?_
  refine hG.1 40 _ _ rfl _ _ _ ?_
  refine hG.1 41 _ _ rfl _ _ _ ?_
  exact ⟨rfl, H⟩
set_option maxRecDepth 100000 in
set_option maxHeartbeats 4000000 in
theorem hhJ6_bitCount_0f7a4 (g : gtJ6_bitCount_0f7a4) (v0 : Int32) (σ : px_St) (h : qrJ6_bitCount_0f7a4 g v0 σ) (G : px_K) (hG : px_cl (opJ6_bitCount_0f7a4 (qoJ6_bitCount_0f7a4 g v0 σ)) G) : G 0 (px_ent 1 [.int v0]) [] σ := by
  obtain ⟨hn, rfl⟩ := h
  exact sgJ6_bitCount_0f7a4_0 hG _ σ ⟨rfl, bc_ok g hn⟩
theorem mJ6_bitCount_0f7a4 (g : gtJ6_bitCount_0f7a4) : px_Met dC yJ6_bitCount_0f7a4 (Cond.code yJ6_bitCount_0f7a4 cJ6_bitCount_0f7a4 1 (some .int) :: wdC) rmJ6_bitCount_0f7a4 px_vI (prJ6_bitCount_0f7a4 g) (poJ6_bitCount_0f7a4 g) :=
  px_met (Z := (cJ6_bitCount_0f7a4, 1, RJ6, Cond.code yJ6_bitCount_0f7a4 cJ6_bitCount_0f7a4 1 (some .int) :: wdC, (some .int), rmJ6_bitCount_0f7a4, dC)) opJ6_bitCount_0f7a4 (by decide) rfl rfl okJ6_bitCount_0f7a4 (fun As σ h => by obtain ⟨v0, rfl, h⟩ := h; exact Nat.le_of_ble_eq_true rfl) (fun As σ h G hG => by obtain ⟨v0, rfl, h⟩ := h; exact hhJ6_bitCount_0f7a4 g v0 σ h G hG)
abbrev gtX5_powerOf : Type := Nat × Nat
def qrX5_powerOf : gtX5_powerOf → Int32 → Int32 → px_St → Prop
  | (b, n), v0, v1, _ => b ≤ 10 ∧ n ≤ 10 ∧ v0 = nI b ∧ v1 = nI n
def qoX5_powerOf : gtX5_powerOf → Int32 → Int32 → px_St → Int64 → px_St → Prop
  | (b, n), _, _, σ, r, σ' => σ' = σ ∧ r = lN (b ^ n)
def prX5_powerOf (g : gtX5_powerOf) : List Value → px_St → Prop := fun As σ => ∃ v0 : Int32, ∃ v1 : Int32, As = [.int v0, .int v1] ∧ qrX5_powerOf g v0 v1 σ
def poX5_powerOf (g : gtX5_powerOf) : List Value → px_St → Int64 → px_St → Prop
  | [.int v0, .int v1], σ, r, σ' => qoX5_powerOf g v0 v1 σ r σ'
  | _, _, _, _ => False
theorem dX5_powerOf_0 : decode cX5_powerOf 0 = .ok (.lconst 1, 1) := by decide +kernel
theorem dX5_powerOf_1 : decode cX5_powerOf 1 = .ok (.lstore_n 2, 1) := by decide +kernel
theorem dX5_powerOf_2 : decode cX5_powerOf 2 = .ok (.iconst 0, 1) := by decide +kernel
theorem dX5_powerOf_3 : decode cX5_powerOf 3 = .ok (.istore 4, 2) := by decide +kernel
theorem dX5_powerOf_5 : decode cX5_powerOf 5 = .ok (.iload 4, 2) := by decide +kernel
theorem dX5_powerOf_7 : decode cX5_powerOf 7 = .ok (.iload_n 1, 1) := by decide +kernel
theorem dX5_powerOf_8 : decode cX5_powerOf 8 = .ok (.if_icmp .ge 14, 3) := by decide +kernel
theorem dX5_powerOf_11 : decode cX5_powerOf 11 = .ok (.lload_n 2, 1) := by decide +kernel
theorem dX5_powerOf_12 : decode cX5_powerOf 12 = .ok (.iload_n 0, 1) := by decide +kernel
theorem dX5_powerOf_13 : decode cX5_powerOf 13 = .ok (.i2l, 1) := by decide +kernel
theorem dX5_powerOf_14 : decode cX5_powerOf 14 = .ok (.lmul, 1) := by decide +kernel
theorem dX5_powerOf_15 : decode cX5_powerOf 15 = .ok (.lstore_n 2, 1) := by decide +kernel
theorem dX5_powerOf_16 : decode cX5_powerOf 16 = .ok (.iinc 4 1, 3) := by decide +kernel
theorem dX5_powerOf_19 : decode cX5_powerOf 19 = .ok (.goto (-14), 3) := by decide +kernel
theorem dX5_powerOf_22 : decode cX5_powerOf 22 = .ok (.lload_n 2, 1) := by decide +kernel
theorem dX5_powerOf_23 : decode cX5_powerOf 23 = .ok (.lreturn, 1) := by decide +kernel
abbrev rmX5_powerOf : Room := { frames := 0, cells := 0, slots := 0, locals := 0 }
def opX5_powerOf (po : Int64 → px_St → Prop) : List (Nat × px_Op) := [
  (0, px_push 1 (.long 1)),
  (1, px_ls 2 2),
  (2, px_push 3 (.int 0)),
  (3, px_is 5 4),
  (5, px_il 7 4),
  (7, px_il 8 1),
  (8, px_ic 11 22 (fun x y => y ≤ x)),
  (11, px_ll 12 2),
  (12, px_il 13 0),
  (13, px_i2l 14),
  (14, px_binL 15 (fun x y => x * y)),
  (15, px_ls 16 2),
  (16, px_inc 19 4 1),
  (19, px_go 5),
  (22, px_ll 23 2),
  (23, px_lret po)]
set_option maxRecDepth 100000 in
set_option maxHeartbeats 4000000 in
theorem okX5_powerOf : ∀ (po : Int64 → px_St → Prop) (i pc : Nat) (op : px_Op), (opX5_powerOf po)[i]? = some (pc, op) → px_Snd (cX5_powerOf, 5, RX5, Cond.code yX5_powerOf cX5_powerOf 5 (some .long) :: wdC, (some .long), rmX5_powerOf, dC) px_vL po pc op := by
  intro po
  unfold opX5_powerOf
  refine px_ok_cons (ps_lconst dX5_powerOf_0 (by decide)) ?_
  refine px_ok_cons (ps_lstore_n dX5_powerOf_1 rfl (by decide)) ?_
  refine px_ok_cons (ps_iconst dX5_powerOf_2 (by decide)) ?_
  refine px_ok_cons (ps_istore dX5_powerOf_3 (by decide)) ?_
  refine px_ok_cons (ps_iload dX5_powerOf_5) ?_
  refine px_ok_cons (ps_iload_n dX5_powerOf_7 rfl) ?_
  refine px_ok_cons (ps_icmp_ge dX5_powerOf_8 (by decide)) ?_
  refine px_ok_cons (ps_lload_n dX5_powerOf_11 rfl) ?_
  refine px_ok_cons (ps_iload_n dX5_powerOf_12 rfl) ?_
  refine px_ok_cons (ps_i2l dX5_powerOf_13) ?_
  refine px_ok_cons (ps_lmul dX5_powerOf_14) ?_
  refine px_ok_cons (ps_lstore_n dX5_powerOf_15 rfl (by decide)) ?_
  refine px_ok_cons (ps_iinc dX5_powerOf_16 (by decide) (by decide)) ?_
  refine px_ok_cons (ps_goto dX5_powerOf_19 (by decide)) ?_
  refine px_ok_cons (ps_lload_n dX5_powerOf_22 rfl) ?_
  refine px_ok_cons (ps_lreturn rfl dX5_powerOf_23) ?_
  exact px_ok_nil
set_option maxRecDepth 100000 in
set_option maxHeartbeats 4000000 in
theorem sgX5_powerOf_0 {po : Int64 → px_St → Prop} {G : px_K} (hG : px_cl (opX5_powerOf po) G) (v0 : Int32) (v1 : Int32) (σ : px_St)
    (H : G 5 [some (.int v0), some (.int v1), some (.long (1 : Int64)), none, some (.int (0 : Int32))] [] σ) :
    G 0 (px_ent 5 [.int v0, .int v1]) [] σ := by
  refine hG.1 0 _ _ rfl _ _ _ ?_
  refine hG.1 1 _ _ rfl _ _ _ ?_
  show G 2 [some (.int v0), some (.int v1), some (.long (1 : Int64)), none, none] [] σ
  refine hG.1 2 _ _ rfl _ _ _ ?_
  refine hG.1 3 _ _ rfl _ _ _ ?_
  show G 5 [some (.int v0), some (.int v1), some (.long (1 : Int64)), none, some (.int (0 : Int32))] [] σ
  exact H
set_option maxRecDepth 100000 in
set_option maxHeartbeats 4000000 in
theorem sgX5_powerOf_5 {po : Int64 → px_St → Prop} {G : px_K} (hG : px_cl (opX5_powerOf po) G) (v0 : Int32) (v1 : Int32) (v2 : Int64) (v4 : Int32) (σ : px_St)
    (H : ((v1 ≤ v4) → po v2 σ) ∧ (¬ (v1 ≤ v4) → G 5 [some (.int v0), some (.int v1), some (.long (v2 * v0.toInt64)), none, some (.int (v4 + 1))] [] σ)) :
    G 5 [some (.int v0), some (.int v1), some (.long v2), none, some (.int v4)] [] σ := by
  refine hG.1 4 _ _ rfl _ _ _ ?_
  refine hG.1 5 _ _ rfl _ _ _ ?_
  refine hG.1 6 _ _ rfl _ _ _ ?_
  refine ⟨fun h1 => ?_, fun h1 => ?_⟩
  · replace H := H.1 h1
    refine hG.1 14 _ _ rfl _ _ _ ?_
    refine hG.1 15 _ _ rfl _ _ _ ?_
    exact H
  · replace H := H.2 h1
    refine hG.1 7 _ _ rfl _ _ _ ?_
    refine hG.1 8 _ _ rfl _ _ _ ?_
    refine hG.1 9 _ _ rfl _ _ _ ?_
    refine hG.1 10 _ _ rfl _ _ _ ?_
    refine hG.1 11 _ _ rfl _ _ _ ?_
    show G 16 [some (.int v0), some (.int v1), some (.long (v2 * v0.toInt64)), none, some (.int v4)] [] σ
    refine hG.1 12 _ _ rfl _ _ _ ?_
    show G 19 [some (.int v0), some (.int v1), some (.long (v2 * v0.toInt64)), none, some (.int (v4 + 1))] [] σ
    refine hG.1 13 _ _ rfl _ _ _ ?_
    exact H
set_option maxRecDepth 100000 in
set_option maxHeartbeats 4000000 in
theorem hhX5_powerOf (g : gtX5_powerOf) (v0 : Int32) (v1 : Int32) (σ : px_St) (h : qrX5_powerOf g v0 v1 σ) (G : px_K) (hG : px_cl (opX5_powerOf (qoX5_powerOf g v0 v1 σ)) G) : G 0 (px_ent 5 [.int v0, .int v1]) [] σ := by
  obtain ⟨b, n⟩ := g
  obtain ⟨hb, hn, rfl, rfl⟩ := h
  refine sgX5_powerOf_0 hG _ _ σ ?_
  have loop : ∀ m i, i + m = n → G 5 [some (.int (nI b)), some (.int (nI n)), some (.long (lN (b ^ i))), none, some (.int (nI i))] [] σ := by
    intro m
    induction m with
    | zero =>
      intro i hi
      have e : i = n := by omega
      subst e
      exact sgX5_powerOf_5 hG _ _ _ _ σ ⟨fun _ => ⟨rfl, rfl⟩, fun z => absurd (Int32.le_refl _) z⟩
    | succ m ih =>
      intro i hi
      refine sgX5_powerOf_5 hG _ _ _ _ σ ⟨fun z => absurd z (nI_ge (by omega) (by omega)), fun _ => ?_⟩
      rw [nI_l (by omega), lN_mul, ← Nat.pow_succ, nI_1]
      exact ih (i + 1) (by omega)
  exact loop n 0 (by omega)
theorem mX5_powerOf (g : gtX5_powerOf) : px_Met dC yX5_powerOf (Cond.code yX5_powerOf cX5_powerOf 5 (some .long) :: wdC) rmX5_powerOf px_vL (prX5_powerOf g) (poX5_powerOf g) :=
  px_met (Z := (cX5_powerOf, 5, RX5, Cond.code yX5_powerOf cX5_powerOf 5 (some .long) :: wdC, (some .long), rmX5_powerOf, dC)) opX5_powerOf (by decide) rfl rfl okX5_powerOf (fun As σ h => by obtain ⟨v0, v1, rfl, h⟩ := h; exact Nat.le_of_ble_eq_true rfl) (fun As σ h G hG => by obtain ⟨v0, v1, rfl, h⟩ := h; exact hhX5_powerOf g v0 v1 σ h G hG)
theorem lgc0 (x y : Int64) : lg_cmp x y = 0 ↔ x = y := by
  unfold lg_cmp
  by_cases h1 : x > y
  · rw [if_pos h1]
    exact ⟨fun z => absurd z (by decide), fun z => absurd (z ▸ h1) (Int64.lt_irrefl)⟩
  · rw [if_neg h1]
    by_cases h2 : x = y
    · rw [if_pos h2]; exact ⟨fun _ => h2, fun _ => rfl⟩
    · rw [if_neg h2]; exact ⟨fun z => absurd z (by decide), fun z => absurd z h2⟩
theorem lN_z {a : Nat} (h : a < 2 ^ 63) : lN a = 0 ↔ a = 0 := pk_lEQ (b := 0) h (by omega)
theorem eu_half {a b : Nat} (hb : 0 < b) (hr : 0 < a % b) {k : Nat} (hk : b < 2 ^ (k + 1)) : b % (a % b) < 2 ^ k := by
  have h1 : a % b < b := Nat.mod_lt _ hb
  have h2 : b % (a % b) < a % b := Nat.mod_lt _ hr
  have h3 : b % (a % b) ≤ b - (a % b) := by
    have h4 := Nat.mod_add_div b (a % b)
    have h5 : 1 ≤ b / (a % b) := (Nat.one_le_div_iff hr).mpr (Nat.le_of_lt h1)
    have h6 : a % b ≤ (a % b) * (b / (a % b)) := Nat.le_mul_of_pos_right _ h5
    omega
  have h7 : 2 ^ (k + 1) = 2 * 2 ^ k := by rw [Nat.pow_succ]; omega
  omega
abbrev gtX5_partOf : Type := Nat × Nat
def qrX5_partOf : gtX5_partOf → Int64 → Int64 → Int32 → px_St → Prop
  | (t, b), v0, v2, _, _ => t < 2 ^ 40 ∧ 0 < b ∧ b < 2 ^ 40 ∧ v0 = lN t ∧ v2 = lN b
def qoX5_partOf : gtX5_partOf → Int64 → Int64 → Int32 → px_St → Int64 → px_St → Prop
  | (t, b), _, _, w, σ, r, σ' => σ' = σ ∧ r = lN ((if w = 0 then t else b) / Nat.gcd b t)
def prX5_partOf (g : gtX5_partOf) : List Value → px_St → Prop := fun As σ => ∃ v0 : Int64, ∃ v2 : Int64, ∃ v4 : Int32, As = [.long v0, .long v2, .int v4] ∧ qrX5_partOf g v0 v2 v4 σ
def poX5_partOf (g : gtX5_partOf) : List Value → px_St → Int64 → px_St → Prop
  | [.long v0, .long v2, .int v4], σ, r, σ' => qoX5_partOf g v0 v2 v4 σ r σ'
  | _, _, _, _ => False
theorem dX5_partOf_0 : decode cX5_partOf 0 = .ok (.lload_n 2, 1) := by decide +kernel
theorem dX5_partOf_1 : decode cX5_partOf 1 = .ok (.lstore 5, 2) := by decide +kernel
theorem dX5_partOf_3 : decode cX5_partOf 3 = .ok (.lload_n 0, 1) := by decide +kernel
theorem dX5_partOf_4 : decode cX5_partOf 4 = .ok (.lstore 7, 2) := by decide +kernel
theorem dX5_partOf_6 : decode cX5_partOf 6 = .ok (.iconst 0, 1) := by decide +kernel
theorem dX5_partOf_7 : decode cX5_partOf 7 = .ok (.istore 9, 2) := by decide +kernel
theorem dX5_partOf_9 : decode cX5_partOf 9 = .ok (.iload 9, 2) := by decide +kernel
theorem dX5_partOf_11 : decode cX5_partOf 11 = .ok (.bipush 100, 2) := by decide +kernel
theorem dX5_partOf_13 : decode cX5_partOf 13 = .ok (.if_icmp .ge 31, 3) := by decide +kernel
theorem dX5_partOf_16 : decode cX5_partOf 16 = .ok (.lload 7, 2) := by decide +kernel
theorem dX5_partOf_18 : decode cX5_partOf 18 = .ok (.lconst 0, 1) := by decide +kernel
theorem dX5_partOf_19 : decode cX5_partOf 19 = .ok (.lcmp, 1) := by decide +kernel
theorem dX5_partOf_20 : decode cX5_partOf 20 = .ok (.ifCond .eq 24, 3) := by decide +kernel
theorem dX5_partOf_23 : decode cX5_partOf 23 = .ok (.lload 5, 2) := by decide +kernel
theorem dX5_partOf_25 : decode cX5_partOf 25 = .ok (.lload 7, 2) := by decide +kernel
theorem dX5_partOf_27 : decode cX5_partOf 27 = .ok (.lrem, 1) := by decide +kernel
theorem dX5_partOf_28 : decode cX5_partOf 28 = .ok (.lstore 10, 2) := by decide +kernel
theorem dX5_partOf_30 : decode cX5_partOf 30 = .ok (.lload 7, 2) := by decide +kernel
theorem dX5_partOf_32 : decode cX5_partOf 32 = .ok (.lstore 5, 2) := by decide +kernel
theorem dX5_partOf_34 : decode cX5_partOf 34 = .ok (.lload 10, 2) := by decide +kernel
theorem dX5_partOf_36 : decode cX5_partOf 36 = .ok (.lstore 7, 2) := by decide +kernel
theorem dX5_partOf_38 : decode cX5_partOf 38 = .ok (.iinc 9 1, 3) := by decide +kernel
theorem dX5_partOf_41 : decode cX5_partOf 41 = .ok (.goto (-32), 3) := by decide +kernel
theorem dX5_partOf_44 : decode cX5_partOf 44 = .ok (.iload 4, 2) := by decide +kernel
theorem dX5_partOf_46 : decode cX5_partOf 46 = .ok (.ifCond .ne 7, 3) := by decide +kernel
theorem dX5_partOf_49 : decode cX5_partOf 49 = .ok (.lload_n 0, 1) := by decide +kernel
theorem dX5_partOf_50 : decode cX5_partOf 50 = .ok (.goto 4, 3) := by decide +kernel
theorem dX5_partOf_53 : decode cX5_partOf 53 = .ok (.lload_n 2, 1) := by decide +kernel
theorem dX5_partOf_54 : decode cX5_partOf 54 = .ok (.lstore 9, 2) := by decide +kernel
theorem dX5_partOf_56 : decode cX5_partOf 56 = .ok (.lload 5, 2) := by decide +kernel
theorem dX5_partOf_58 : decode cX5_partOf 58 = .ok (.lconst 0, 1) := by decide +kernel
theorem dX5_partOf_59 : decode cX5_partOf 59 = .ok (.lcmp, 1) := by decide +kernel
theorem dX5_partOf_60 : decode cX5_partOf 60 = .ok (.ifCond .ne 8, 3) := by decide +kernel
theorem dX5_partOf_63 : decode cX5_partOf 63 = .ok (.lload 9, 2) := by decide +kernel
theorem dX5_partOf_65 : decode cX5_partOf 65 = .ok (.goto 8, 3) := by decide +kernel
theorem dX5_partOf_68 : decode cX5_partOf 68 = .ok (.lload 9, 2) := by decide +kernel
theorem dX5_partOf_70 : decode cX5_partOf 70 = .ok (.lload 5, 2) := by decide +kernel
theorem dX5_partOf_72 : decode cX5_partOf 72 = .ok (.ldiv, 1) := by decide +kernel
theorem dX5_partOf_73 : decode cX5_partOf 73 = .ok (.lreturn, 1) := by decide +kernel
abbrev rmX5_partOf : Room := { frames := 0, cells := 0, slots := 0, locals := 0 }
def opX5_partOf (po : Int64 → px_St → Prop) : List (Nat × px_Op) := [
  (0, px_ll 1 2),
  (1, px_ls 3 5),
  (3, px_ll 4 0),
  (4, px_ls 6 7),
  (6, px_push 7 (.int 0)),
  (7, px_is 9 9),
  (9, px_il 11 9),
  (11, px_push 13 (.int 100)),
  (13, px_ic 16 44 (fun x y => y ≤ x)),
  (16, px_ll 18 7),
  (18, px_push 19 (.long 0)),
  (19, px_lcmp 20),
  (20, px_if 23 44 (fun x => x = 0)),
  (23, px_ll 25 5),
  (25, px_ll 27 7),
  (27, px_divL 28 (fun x y => x - x / y * y)),
  (28, px_ls 30 10),
  (30, px_ll 32 7),
  (32, px_ls 34 5),
  (34, px_ll 36 10),
  (36, px_ls 38 7),
  (38, px_inc 41 9 1),
  (41, px_go 9),
  (44, px_il 46 4),
  (46, px_if 49 53 (fun x => ¬ x = 0)),
  (49, px_ll 50 0),
  (50, px_go 54),
  (53, px_ll 54 2),
  (54, px_ls 56 9),
  (56, px_ll 58 5),
  (58, px_push 59 (.long 0)),
  (59, px_lcmp 60),
  (60, px_if 63 68 (fun x => ¬ x = 0)),
  (63, px_ll 65 9),
  (65, px_go 73),
  (68, px_ll 70 9),
  (70, px_ll 72 5),
  (72, px_divL 73 (fun x y => x / y)),
  (73, px_lret po)]
set_option maxRecDepth 100000 in
set_option maxHeartbeats 4000000 in
theorem okX5_partOf : ∀ (po : Int64 → px_St → Prop) (i pc : Nat) (op : px_Op), (opX5_partOf po)[i]? = some (pc, op) → px_Snd (cX5_partOf, 12, RX5, Cond.code yX5_partOf cX5_partOf 12 (some .long) :: wdC, (some .long), rmX5_partOf, dC) px_vL po pc op := by
  intro po
  unfold opX5_partOf
  refine px_ok_cons (ps_lload_n dX5_partOf_0 rfl) ?_
  refine px_ok_cons (ps_lstore dX5_partOf_1 (by decide)) ?_
  refine px_ok_cons (ps_lload_n dX5_partOf_3 rfl) ?_
  refine px_ok_cons (ps_lstore dX5_partOf_4 (by decide)) ?_
  refine px_ok_cons (ps_iconst dX5_partOf_6 (by decide)) ?_
  refine px_ok_cons (ps_istore dX5_partOf_7 (by decide)) ?_
  refine px_ok_cons (ps_iload dX5_partOf_9) ?_
  refine px_ok_cons (ps_bipush dX5_partOf_11 (by decide)) ?_
  refine px_ok_cons (ps_icmp_ge dX5_partOf_13 (by decide)) ?_
  refine px_ok_cons (ps_lload dX5_partOf_16) ?_
  refine px_ok_cons (ps_lconst dX5_partOf_18 (by decide)) ?_
  refine px_ok_cons (ps_lcmp dX5_partOf_19) ?_
  refine px_ok_cons (ps_if_eq dX5_partOf_20 (by decide)) ?_
  refine px_ok_cons (ps_lload dX5_partOf_23) ?_
  refine px_ok_cons (ps_lload dX5_partOf_25) ?_
  refine px_ok_cons (ps_lrem dX5_partOf_27) ?_
  refine px_ok_cons (ps_lstore dX5_partOf_28 (by decide)) ?_
  refine px_ok_cons (ps_lload dX5_partOf_30) ?_
  refine px_ok_cons (ps_lstore dX5_partOf_32 (by decide)) ?_
  refine px_ok_cons (ps_lload dX5_partOf_34) ?_
  refine px_ok_cons (ps_lstore dX5_partOf_36 (by decide)) ?_
  refine px_ok_cons (ps_iinc dX5_partOf_38 (by decide) (by decide)) ?_
  refine px_ok_cons (ps_goto dX5_partOf_41 (by decide)) ?_
  refine px_ok_cons (ps_iload dX5_partOf_44) ?_
  refine px_ok_cons (ps_if_ne dX5_partOf_46 (by decide)) ?_
  refine px_ok_cons (ps_lload_n dX5_partOf_49 rfl) ?_
  refine px_ok_cons (ps_goto dX5_partOf_50 (by decide)) ?_
  refine px_ok_cons (ps_lload_n dX5_partOf_53 rfl) ?_
  refine px_ok_cons (ps_lstore dX5_partOf_54 (by decide)) ?_
  refine px_ok_cons (ps_lload dX5_partOf_56) ?_
  refine px_ok_cons (ps_lconst dX5_partOf_58 (by decide)) ?_
  refine px_ok_cons (ps_lcmp dX5_partOf_59) ?_
  refine px_ok_cons (ps_if_ne dX5_partOf_60 (by decide)) ?_
  refine px_ok_cons (ps_lload dX5_partOf_63) ?_
  refine px_ok_cons (ps_goto dX5_partOf_65 (by decide)) ?_
  refine px_ok_cons (ps_lload dX5_partOf_68) ?_
  refine px_ok_cons (ps_lload dX5_partOf_70) ?_
  refine px_ok_cons (ps_ldiv dX5_partOf_72) ?_
  refine px_ok_cons (ps_lreturn rfl dX5_partOf_73) ?_
  exact px_ok_nil
set_option maxRecDepth 100000 in
set_option maxHeartbeats 4000000 in
theorem sgX5_partOf_0 {po : Int64 → px_St → Prop} {G : px_K} (hG : px_cl (opX5_partOf po) G) (v0 : Int64) (v2 : Int64) (v4 : Int32) (σ : px_St)
    (H : G 9 [some (.long v0), none, some (.long v2), none, some (.int v4), some (.long v2), none, some (.long v0), none, some (.int (0 : Int32)), none, none] [] σ) :
    G 0 (px_ent 12 [.long v0, .long v2, .int v4]) [] σ := by
  refine hG.1 0 _ _ rfl _ _ _ ?_
  refine hG.1 1 _ _ rfl _ _ _ ?_
  show G 3 [some (.long v0), none, some (.long v2), none, some (.int v4), some (.long v2), none, none, none, none, none, none] [] σ
  refine hG.1 2 _ _ rfl _ _ _ ?_
  refine hG.1 3 _ _ rfl _ _ _ ?_
  show G 6 [some (.long v0), none, some (.long v2), none, some (.int v4), some (.long v2), none, some (.long v0), none, none, none, none] [] σ
  refine hG.1 4 _ _ rfl _ _ _ ?_
  refine hG.1 5 _ _ rfl _ _ _ ?_
  show G 9 [some (.long v0), none, some (.long v2), none, some (.int v4), some (.long v2), none, some (.long v0), none, some (.int (0 : Int32)), none, none] [] σ
  exact H
set_option maxRecDepth 100000 in
set_option maxHeartbeats 4000000 in
theorem sgX5_partOf_9 {po : Int64 → px_St → Prop} {G : px_K} (hG : px_cl (opX5_partOf po) G) (v0 : Int64) (v2 : Int64) (v4 : Int32) (v5 : Int64) (v7 : Int64) (v9 : Int32) (σ : px_St)
    (H : (((100 : Int32) ≤ v9) → ((¬ v4 = 0) → ((¬ (lg_cmp v5 (0 : Int64)) = 0) → ¬ v5 = 0 ∧ po (v2 / v5) σ) ∧ (¬ (¬ (lg_cmp v5 (0 : Int64)) = 0) → po v2 σ)) ∧ (¬ (¬ v4 = 0) → ((¬ (lg_cmp v5 (0 : Int64)) = 0) → ¬ v5 = 0 ∧ po (v0 / v5) σ) ∧ (¬ (¬ (lg_cmp v5 (0 : Int64)) = 0) → po v0 σ))) ∧ (¬ ((100 : Int32) ≤ v9) → (((lg_cmp v7 (0 : Int64)) = 0) → ((¬ v4 = 0) → ((¬ (lg_cmp v5 (0 : Int64)) = 0) → ¬ v5 = 0 ∧ po (v2 / v5) σ) ∧ (¬ (¬ (lg_cmp v5 (0 : Int64)) = 0) → po v2 σ)) ∧ (¬ (¬ v4 = 0) → ((¬ (lg_cmp v5 (0 : Int64)) = 0) → ¬ v5 = 0 ∧ po (v0 / v5) σ) ∧ (¬ (¬ (lg_cmp v5 (0 : Int64)) = 0) → po v0 σ))) ∧ (¬ ((lg_cmp v7 (0 : Int64)) = 0) → ¬ v7 = 0 ∧ G 9 [some (.long v0), none, some (.long v2), none, some (.int v4), some (.long v7), none, some (.long (v5 - v5 / v7 * v7)), none, some (.int (v9 + 1)), none, none] [] σ))) :
    G 9 [some (.long v0), none, some (.long v2), none, some (.int v4), some (.long v5), none, some (.long v7), none, some (.int v9), none, none] [] σ := by
  refine hG.1 6 _ _ rfl _ _ _ ?_
  refine hG.1 7 _ _ rfl _ _ _ ?_
  refine hG.1 8 _ _ rfl _ _ _ ?_
  refine ⟨fun h8 => ?_, fun h8 => ?_⟩
  · replace H := H.1 h8
    refine hG.1 23 _ _ rfl _ _ _ ?_
    refine hG.1 24 _ _ rfl _ _ _ ?_
    refine ⟨fun h3 => ?_, fun h3 => ?_⟩
    · replace H := H.1 h3
      refine hG.1 27 _ _ rfl _ _ _ ?_
      refine hG.1 28 _ _ rfl _ _ _ ?_
      show G 56 [some (.long v0), none, some (.long v2), none, some (.int v4), some (.long v5), none, some (.long v7), none, some (.long v2), none, none] [] σ
      refine hG.1 29 _ _ rfl _ _ _ ?_
      refine hG.1 30 _ _ rfl _ _ _ ?_
      refine hG.1 31 _ _ rfl _ _ _ ?_
      refine hG.1 32 _ _ rfl _ _ _ ?_
      refine ⟨fun h1 => ?_, fun h1 => ?_⟩
      · replace H := H.1 h1
        refine hG.1 35 _ _ rfl _ _ _ ?_
        refine hG.1 36 _ _ rfl _ _ _ ?_
        refine hG.1 37 _ _ rfl _ _ _ ?_
        refine ⟨H.1, ?_⟩
        replace H := H.2
        refine hG.1 38 _ _ rfl _ _ _ ?_
        exact H
      · replace H := H.2 h1
        refine hG.1 33 _ _ rfl _ _ _ ?_
        refine hG.1 34 _ _ rfl _ _ _ ?_
        refine hG.1 38 _ _ rfl _ _ _ ?_
        exact H
    · replace H := H.2 h3
      refine hG.1 25 _ _ rfl _ _ _ ?_
      refine hG.1 26 _ _ rfl _ _ _ ?_
      refine hG.1 28 _ _ rfl _ _ _ ?_
      show G 56 [some (.long v0), none, some (.long v2), none, some (.int v4), some (.long v5), none, some (.long v7), none, some (.long v0), none, none] [] σ
      refine hG.1 29 _ _ rfl _ _ _ ?_
      refine hG.1 30 _ _ rfl _ _ _ ?_
      refine hG.1 31 _ _ rfl _ _ _ ?_
      refine hG.1 32 _ _ rfl _ _ _ ?_
      refine ⟨fun h2 => ?_, fun h2 => ?_⟩
      · replace H := H.1 h2
        refine hG.1 35 _ _ rfl _ _ _ ?_
        refine hG.1 36 _ _ rfl _ _ _ ?_
        refine hG.1 37 _ _ rfl _ _ _ ?_
        refine ⟨H.1, ?_⟩
        replace H := H.2
        refine hG.1 38 _ _ rfl _ _ _ ?_
        exact H
      · replace H := H.2 h2
        refine hG.1 33 _ _ rfl _ _ _ ?_
        refine hG.1 34 _ _ rfl _ _ _ ?_
        refine hG.1 38 _ _ rfl _ _ _ ?_
        exact H
  · replace H := H.2 h8
    refine hG.1 9 _ _ rfl _ _ _ ?_
    refine hG.1 10 _ _ rfl _ _ _ ?_
    refine hG.1 11 _ _ rfl _ _ _ ?_
    refine hG.1 12 _ _ rfl _ _ _ ?_
    refine ⟨fun h7 => ?_, fun h7 => ?_⟩
    · replace H := H.1 h7
      refine hG.1 23 _ _ rfl _ _ _ ?_
      refine hG.1 24 _ _ rfl _ _ _ ?_
      refine ⟨fun h6 => ?_, fun h6 => ?_⟩
      · replace H := H.1 h6
        refine hG.1 27 _ _ rfl _ _ _ ?_
        refine hG.1 28 _ _ rfl _ _ _ ?_
        show G 56 [some (.long v0), none, some (.long v2), none, some (.int v4), some (.long v5), none, some (.long v7), none, some (.long v2), none, none] [] σ
        refine hG.1 29 _ _ rfl _ _ _ ?_
        refine hG.1 30 _ _ rfl _ _ _ ?_
        refine hG.1 31 _ _ rfl _ _ _ ?_
        refine hG.1 32 _ _ rfl _ _ _ ?_
        refine ⟨fun h4 => ?_, fun h4 => ?_⟩
        · replace H := H.1 h4
          refine hG.1 35 _ _ rfl _ _ _ ?_
          refine hG.1 36 _ _ rfl _ _ _ ?_
          refine hG.1 37 _ _ rfl _ _ _ ?_
          refine ⟨H.1, ?_⟩
          replace H := H.2
          refine hG.1 38 _ _ rfl _ _ _ ?_
          exact H
        · replace H := H.2 h4
          refine hG.1 33 _ _ rfl _ _ _ ?_
          refine hG.1 34 _ _ rfl _ _ _ ?_
          refine hG.1 38 _ _ rfl _ _ _ ?_
          exact H
      · replace H := H.2 h6
        refine hG.1 25 _ _ rfl _ _ _ ?_
        refine hG.1 26 _ _ rfl _ _ _ ?_
        refine hG.1 28 _ _ rfl _ _ _ ?_
        show G 56 [some (.long v0), none, some (.long v2), none, some (.int v4), some (.long v5), none, some (.long v7), none, some (.long v0), none, none] [] σ
        refine hG.1 29 _ _ rfl _ _ _ ?_
        refine hG.1 30 _ _ rfl _ _ _ ?_
        refine hG.1 31 _ _ rfl _ _ _ ?_
        refine hG.1 32 _ _ rfl _ _ _ ?_
        refine ⟨fun h5 => ?_, fun h5 => ?_⟩
        · replace H := H.1 h5
          refine hG.1 35 _ _ rfl _ _ _ ?_
          refine hG.1 36 _ _ rfl _ _ _ ?_
          refine hG.1 37 _ _ rfl _ _ _ ?_
          refine ⟨H.1, ?_⟩
          replace H := H.2
          refine hG.1 38 _ _ rfl _ _ _ ?_
          exact H
        · replace H := H.2 h5
          refine hG.1 33 _ _ rfl _ _ _ ?_
          refine hG.1 34 _ _ rfl _ _ _ ?_
          refine hG.1 38 _ _ rfl _ _ _ ?_
          exact H
    · replace H := H.2 h7
      refine hG.1 13 _ _ rfl _ _ _ ?_
      refine hG.1 14 _ _ rfl _ _ _ ?_
      refine hG.1 15 _ _ rfl _ _ _ ?_
      refine ⟨H.1, ?_⟩
      replace H := H.2
      refine hG.1 16 _ _ rfl _ _ _ ?_
      show G 30 [some (.long v0), none, some (.long v2), none, some (.int v4), some (.long v5), none, some (.long v7), none, some (.int v9), some (.long (v5 - v5 / v7 * v7)), none] [] σ
      refine hG.1 17 _ _ rfl _ _ _ ?_
      refine hG.1 18 _ _ rfl _ _ _ ?_
      show G 34 [some (.long v0), none, some (.long v2), none, some (.int v4), some (.long v7), none, some (.long v7), none, some (.int v9), some (.long (v5 - v5 / v7 * v7)), none] [] σ
      refine hG.1 19 _ _ rfl _ _ _ ?_
      refine hG.1 20 _ _ rfl _ _ _ ?_
      show G 38 [some (.long v0), none, some (.long v2), none, some (.int v4), some (.long v7), none, some (.long (v5 - v5 / v7 * v7)), none, some (.int v9), some (.long (v5 - v5 / v7 * v7)), none] [] σ
      refine hG.1 21 _ _ rfl _ _ _ ?_
      show G 41 [some (.long v0), none, some (.long v2), none, some (.int v4), some (.long v7), none, some (.long (v5 - v5 / v7 * v7)), none, some (.int (v9 + 1)), some (.long (v5 - v5 / v7 * v7)), none] [] σ
      refine hG.1 22 _ _ rfl _ _ _ ?_
      refine hG.2 9 [some (.long v0), none, some (.long v2), none, some (.int v4), some (.long v7), none, some (.long (v5 - v5 / v7 * v7)), none, some (.int (v9 + 1)), none, none] _ _ _ ⟨rfl, rfl, rfl, rfl, rfl, rfl, trivial⟩ ?_
      exact H
set_option maxRecDepth 100000 in
set_option maxHeartbeats 4000000 in
theorem hhX5_partOf (g : gtX5_partOf) (v0 : Int64) (v2 : Int64) (v4 : Int32) (σ : px_St) (h : qrX5_partOf g v0 v2 v4 σ) (G : px_K) (hG : px_cl (opX5_partOf (qoX5_partOf g v0 v2 v4 σ)) G) : G 0 (px_ent 12 [.long v0, .long v2, .int v4]) [] σ := by
  obtain ⟨t, b⟩ := g
  obtain ⟨ht, hb0, hb, rfl, rfl⟩ := h
  refine sgX5_partOf_0 hG _ _ _ σ ?_
  have fin : ∀ a i, i < 100 → Nat.gcd a 0 = Nat.gcd b t → a < 2 ^ 40 → G 9 [some (.long (lN t)), none, some (.long (lN b)), none, some (.int v4), some (.long (lN a)), none, some (.long (lN 0)), none, some (.int (nI i)), none, none] [] σ := by
    intro a i hi hg ha
    rw [Nat.gcd_zero_right] at hg
    have hgp : 0 < a := by rw [hg]; exact Nat.gcd_pos_of_pos_left _ hb0
    refine sgX5_partOf_9 hG _ _ _ _ _ _ σ ⟨fun z => absurd ((nIle 100 i rfl rfl (by omega) (by omega)).mp z) (by omega), fun _ => ⟨fun _ => ⟨fun h1 => ⟨fun _ => ?_, fun z => ?_⟩, fun h1 => ⟨fun _ => ?_, fun z => ?_⟩⟩, fun z => absurd ((lgc0 _ _).mpr rfl) z⟩⟩
    · refine ⟨fun z => absurd ((lN_z (by omega)).mp z) (by omega), rfl, ?_⟩
      rw [if_neg h1, ← hg, pk_lDiv (by omega) hgp (by omega)]
    · exact absurd ((lN_z (by omega)).mp ((lgc0 _ _).mp (Classical.byContradiction z))) (by omega)
    · refine ⟨fun z => absurd ((lN_z (by omega)).mp z) (by omega), rfl, ?_⟩
      rw [if_pos (Classical.byContradiction h1), ← hg, pk_lDiv (by omega) hgp (by omega)]
    · exact absurd ((lN_z (by omega)).mp ((lgc0 _ _).mp (Classical.byContradiction z))) (by omega)
  have step : ∀ a c i, i < 100 → 0 < c → c < 2 ^ 40 → a < 2 ^ 40 → G 9 [some (.long (lN t)), none, some (.long (lN b)), none, some (.int v4), some (.long (lN c)), none, some (.long (lN (a % c))), none, some (.int (nI (i + 1))), none, none] [] σ → G 9 [some (.long (lN t)), none, some (.long (lN b)), none, some (.int v4), some (.long (lN a)), none, some (.long (lN c)), none, some (.int (nI i)), none, none] [] σ := by
    intro a c i hi hc hc2 ha hn
    refine sgX5_partOf_9 hG _ _ _ _ _ _ σ ⟨fun z => absurd ((nIle 100 i rfl rfl (by omega) (by omega)).mp z) (by omega), fun _ => ⟨fun z => absurd ((lN_z (by omega)).mp ((lgc0 _ _).mp z)) (by omega), fun _ => ⟨fun z => absurd ((lN_z (by omega)).mp z) (by omega), ?_⟩⟩⟩
    rw [pk_lRem (by omega) hc (by omega), nI_1]
    exact hn
  have ge : ∀ a c, Nat.gcd c (a % c) = Nat.gcd a c := fun a c => by rw [Nat.gcd_comm c (a % c), ← Nat.gcd_rec, Nat.gcd_comm]
  have loop : ∀ k a c i, c < 2 ^ k → i + 2 * k < 99 → a < 2 ^ 40 → c < 2 ^ 40 → Nat.gcd a c = Nat.gcd b t → G 9 [some (.long (lN t)), none, some (.long (lN b)), none, some (.int v4), some (.long (lN a)), none, some (.long (lN c)), none, some (.int (nI i)), none, none] [] σ := by
    intro k
    induction k with
    | zero =>
      intro a c i hc hi ha hc2 hg
      have e : c = 0 := by have : c < 1 := hc; omega
      subst e
      exact fin a i (by omega) hg ha
    | succ k ih =>
      intro a c i hc hi ha hc2 hg
      rcases Nat.eq_zero_or_pos c with e | hcp
      · subst e
        exact fin a i (by omega) hg ha
      · have hm : a % c < c := Nat.mod_lt _ hcp
        refine step a c i (by omega) hcp hc2 ha ?_
        rcases Nat.eq_zero_or_pos (a % c) with e | hrp
        · have hg2 := ge a c
          rw [e] at hg2 ⊢
          exact fin c (i + 1) (by omega) (hg2.trans hg) hc2
        · have hm2 : c % (a % c) < a % c := Nat.mod_lt _ hrp
          refine step c (a % c) (i + 1) (by omega) hrp (by omega) hc2 ?_
          exact ih (a % c) (c % (a % c)) (i + 1 + 1) (eu_half hcp hrp hc) (by omega) (by omega) (by omega) (by rw [ge, ge]; exact hg)
  exact loop 40 b t 0 ht (by omega) hb ht rfl
theorem mX5_partOf (g : gtX5_partOf) : px_Met dC yX5_partOf (Cond.code yX5_partOf cX5_partOf 12 (some .long) :: wdC) rmX5_partOf px_vL (prX5_partOf g) (poX5_partOf g) :=
  px_met (Z := (cX5_partOf, 12, RX5, Cond.code yX5_partOf cX5_partOf 12 (some .long) :: wdC, (some .long), rmX5_partOf, dC)) opX5_partOf (by decide) rfl rfl okX5_partOf (fun As σ h => by obtain ⟨v0, v2, v4, rfl, h⟩ := h; exact Nat.le_of_ble_eq_true rfl) (fun As σ h G hG => by obtain ⟨v0, v2, v4, rfl, h⟩ := h; exact hhX5_partOf g v0 v2 v4 σ h G hG)
