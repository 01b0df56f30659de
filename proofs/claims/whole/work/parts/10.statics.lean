/-- a yes or no as the machine has it -/
def px_b (P : Prop) (r : Int32) : Prop := (P ∧ r = 1) ∨ (¬ P ∧ r = 0)
theorem px_b_01 {P : Prop} {r : Int32} (h : px_b P r) : r = 0 ∨ r = 1 := by
  rcases h with ⟨_, h⟩ | ⟨_, h⟩
  · exact Or.inr h
  · exact Or.inl h
theorem px_b_0 {P : Prop} {r : Int32} (h : px_b P r) : r = 0 ↔ ¬ P := by
  rcases h with ⟨h1, rfl⟩ | ⟨h1, rfl⟩
  · exact ⟨fun z => absurd z (by decide), fun z => absurd h1 z⟩
  · exact ⟨fun _ => h1, fun _ => rfl⟩
theorem px_b_of {P Q : Prop} {r : Int32} (h : px_b P r) (e : P ↔ Q) : px_b Q r := by
  rcases h with ⟨h1, h2⟩ | ⟨h1, h2⟩
  · exact Or.inl ⟨e.mp h1, h2⟩
  · exact Or.inr ⟨fun z => h1 (e.mpr z), h2⟩
abbrev gtX5_isWithin : Type := Unit
def qrX5_isWithin (_ : Unit) (_ _ _ : Int32) (_ : px_St) : Prop := True
def qoX5_isWithin (_ : Unit) (v lo hi : Int32) (σ : px_St) (r : Int32) (σ' : px_St) : Prop := σ' = σ ∧ px_b (lo ≤ v ∧ v ≤ hi) r
def prX5_isWithin (g : gtX5_isWithin) : List Value → px_St → Prop := fun As σ => ∃ v0 : Int32, ∃ v1 : Int32, ∃ v2 : Int32, As = [.int v0, .int v1, .int v2] ∧ qrX5_isWithin g v0 v1 v2 σ
def poX5_isWithin (g : gtX5_isWithin) : List Value → px_St → Int32 → px_St → Prop
  | [.int v0, .int v1, .int v2], σ, r, σ' => qoX5_isWithin g v0 v1 v2 σ r σ'
  | _, _, _, _ => False
theorem dX5_isWithin_0 : decode cX5_isWithin 0 = .ok (.iload_n 0, 1) := by decide +kernel
theorem dX5_isWithin_1 : decode cX5_isWithin 1 = .ok (.iload_n 1, 1) := by decide +kernel
theorem dX5_isWithin_2 : decode cX5_isWithin 2 = .ok (.if_icmp .lt 12, 3) := by decide +kernel
theorem dX5_isWithin_5 : decode cX5_isWithin 5 = .ok (.iload_n 0, 1) := by decide +kernel
theorem dX5_isWithin_6 : decode cX5_isWithin 6 = .ok (.iload_n 2, 1) := by decide +kernel
theorem dX5_isWithin_7 : decode cX5_isWithin 7 = .ok (.if_icmp .gt 7, 3) := by decide +kernel
theorem dX5_isWithin_10 : decode cX5_isWithin 10 = .ok (.iconst 1, 1) := by decide +kernel
theorem dX5_isWithin_11 : decode cX5_isWithin 11 = .ok (.goto 4, 3) := by decide +kernel
theorem dX5_isWithin_14 : decode cX5_isWithin 14 = .ok (.iconst 0, 1) := by decide +kernel
theorem dX5_isWithin_15 : decode cX5_isWithin 15 = .ok (.ireturn, 1) := by decide +kernel
abbrev rmX5_isWithin : Room := { frames := 0, cells := 0, slots := 0, locals := 0 }
def opX5_isWithin (po : Int32 → px_St → Prop) : List (Nat × px_Op) := [
  (0, px_il 1 0),
  (1, px_il 2 1),
  (2, px_ic 5 14 (fun x y => x < y)),
  (5, px_il 6 0),
  (6, px_il 7 2),
  (7, px_ic 10 14 (fun x y => y < x)),
  (10, px_push 11 (.int 1)),
  (11, px_go 15),
  (14, px_push 15 (.int 0)),
  (15, px_iret (.boolean) po)]
set_option maxRecDepth 100000 in
set_option maxHeartbeats 4000000 in
theorem okX5_isWithin : ∀ (po : Int32 → px_St → Prop) (i pc : Nat) (op : px_Op), (opX5_isWithin po)[i]? = some (pc, op) → px_Snd (cX5_isWithin, 3, RX5, Cond.code yX5_isWithin cX5_isWithin 3 (some .boolean) :: wdC, (some .boolean), rmX5_isWithin, dC) px_vI po pc op := by
  intro po
  unfold opX5_isWithin
  refine px_ok_cons (ps_iload_n dX5_isWithin_0 rfl) ?_
  refine px_ok_cons (ps_iload_n dX5_isWithin_1 rfl) ?_
  refine px_ok_cons (ps_icmp_lt dX5_isWithin_2 (by decide)) ?_
  refine px_ok_cons (ps_iload_n dX5_isWithin_5 rfl) ?_
  refine px_ok_cons (ps_iload_n dX5_isWithin_6 rfl) ?_
  refine px_ok_cons (ps_icmp_gt dX5_isWithin_7 (by decide)) ?_
  refine px_ok_cons (ps_iconst dX5_isWithin_10 (by decide)) ?_
  refine px_ok_cons (ps_goto dX5_isWithin_11 (by decide)) ?_
  refine px_ok_cons (ps_iconst dX5_isWithin_14 (by decide)) ?_
  refine px_ok_cons (ps_ireturn rfl dX5_isWithin_15) ?_
  exact px_ok_nil
set_option maxRecDepth 100000 in
set_option maxHeartbeats 4000000 in
theorem sgX5_isWithin_0 {po : Int32 → px_St → Prop} {G : px_K} (hG : px_cl (opX5_isWithin po) G) (v0 : Int32) (v1 : Int32) (v2 : Int32) (σ : px_St)
    (H : ((v0 < v1) → po (0 : Int32) σ) ∧ (¬ (v0 < v1) → ((v2 < v0) → po (0 : Int32) σ) ∧ (¬ (v2 < v0) → po (1 : Int32) σ))) :
    G 0 (px_ent 3 [.int v0, .int v1, .int v2]) [] σ := by
  refine hG.1 0 _ _ rfl _ _ _ ?_
  refine hG.1 1 _ _ rfl _ _ _ ?_
  refine hG.1 2 _ _ rfl _ _ _ ?_
  refine ⟨fun h2 => ?_, fun h2 => ?_⟩
  · replace H := H.1 h2
    refine hG.1 8 _ _ rfl _ _ _ ?_
    refine hG.1 9 _ _ rfl _ _ _ ?_
    exact ⟨rfl, H⟩
  · replace H := H.2 h2
    refine hG.1 3 _ _ rfl _ _ _ ?_
    refine hG.1 4 _ _ rfl _ _ _ ?_
    refine hG.1 5 _ _ rfl _ _ _ ?_
    refine ⟨fun h1 => ?_, fun h1 => ?_⟩
    · replace H := H.1 h1
      refine hG.1 8 _ _ rfl _ _ _ ?_
      refine hG.1 9 _ _ rfl _ _ _ ?_
      exact ⟨rfl, H⟩
    · replace H := H.2 h1
      refine hG.1 6 _ _ rfl _ _ _ ?_
      refine hG.1 7 _ _ rfl _ _ _ ?_
      refine hG.1 9 _ _ rfl _ _ _ ?_
      exact ⟨rfl, H⟩
set_option maxRecDepth 100000 in
set_option maxHeartbeats 4000000 in
theorem hhX5_isWithin (g : gtX5_isWithin) (v0 : Int32) (v1 : Int32) (v2 : Int32) (σ : px_St) (h : qrX5_isWithin g v0 v1 v2 σ) (G : px_K) (hG : px_cl (opX5_isWithin (qoX5_isWithin g v0 v1 v2 σ)) G) : G 0 (px_ent 3 [.int v0, .int v1, .int v2]) [] σ := by
  refine sgX5_isWithin_0 hG v0 v1 v2 σ ?_
  refine ⟨fun h1 => ⟨rfl, Or.inr ⟨fun z => absurd z.1 (Int32.not_le.mpr h1), rfl⟩⟩, fun h1 => ⟨fun h2 => ⟨rfl, Or.inr ⟨fun z => absurd z.2 (Int32.not_le.mpr h2), rfl⟩⟩, fun h2 => ⟨rfl, Or.inl ⟨⟨Int32.not_lt.mp h1, Int32.not_lt.mp h2⟩, rfl⟩⟩⟩⟩
theorem mX5_isWithin (g : gtX5_isWithin) : px_Met dC yX5_isWithin (Cond.code yX5_isWithin cX5_isWithin 3 (some .boolean) :: wdC) rmX5_isWithin px_vI (prX5_isWithin g) (poX5_isWithin g) :=
  px_met (Z := (cX5_isWithin, 3, RX5, Cond.code yX5_isWithin cX5_isWithin 3 (some .boolean) :: wdC, (some .boolean), rmX5_isWithin, dC)) opX5_isWithin (by decide) rfl rfl okX5_isWithin (fun As σ h => by obtain ⟨v0, v1, v2, rfl, h⟩ := h; exact Nat.le_of_ble_eq_true rfl) (fun As σ h G hG => by obtain ⟨v0, v1, v2, rfl, h⟩ := h; exact hhX5_isWithin g v0 v1 v2 σ h G hG)
abbrev gtX5_isSound : Type := Unit
def qrX5_isSound (_ : Unit) (_ : Int32) (_ : px_St) : Prop := True
def qoX5_isSound (_ : Unit) (v : Int32) (σ : px_St) (r : Int32) (σ' : px_St) : Prop := σ' = σ ∧ px_b (0 ≤ v ∧ v ≤ 9) r
def prX5_isSound (g : gtX5_isSound) : List Value → px_St → Prop := fun As σ => ∃ v0 : Int32, As = [.int v0] ∧ qrX5_isSound g v0 σ
def poX5_isSound (g : gtX5_isSound) : List Value → px_St → Int32 → px_St → Prop
  | [.int v0], σ, r, σ' => qoX5_isSound g v0 σ r σ'
  | _, _, _, _ => False
theorem dX5_isSound_0 : decode cX5_isSound 0 = .ok (.iload_n 0, 1) := by decide +kernel
theorem dX5_isSound_1 : decode cX5_isSound 1 = .ok (.iconst 0, 1) := by decide +kernel
theorem dX5_isSound_2 : decode cX5_isSound 2 = .ok (.bipush 9, 2) := by decide +kernel
theorem dX5_isSound_4 : decode cX5_isSound 4 = .ok (.invokestatic 61, 3) := by decide +kernel
theorem dX5_isSound_7 : decode cX5_isSound 7 = .ok (.ireturn, 1) := by decide +kernel
abbrev rmX5_isSound : Room := { frames := 1, cells := 0, slots := 0, locals := 22 }
def opX5_isSound (po : Int32 → px_St → Prop) : List (Nat × px_Op) := [
  (0, px_il 1 0),
  (1, px_push 2 (.int 0)),
  (2, px_push 4 (.int 9)),
  (4, px_callS 7 3 px_vI prX5_isWithin poX5_isWithin),
  (7, px_iret (.boolean) po)]
set_option maxRecDepth 100000 in
set_option maxHeartbeats 4000000 in
theorem okX5_isSound : ∀ (po : Int32 → px_St → Prop) (i pc : Nat) (op : px_Op), (opX5_isSound po)[i]? = some (pc, op) → px_Snd (cX5_isSound, 1, RX5, Cond.code yX5_isSound cX5_isSound 1 (some .boolean) :: wdC, (some .boolean), rmX5_isSound, dC) px_vI po pc op := by
  intro po
  unfold opX5_isSound
  refine px_ok_cons (ps_iload_n dX5_isSound_0 rfl) ?_
  refine px_ok_cons (ps_iconst dX5_isSound_1 (by decide)) ?_
  refine px_ok_cons (ps_bipush dX5_isSound_2 (by decide)) ?_
  refine px_ok_cons (ps_callS mX5_isWithin (fun _ _ => rfl) (fun _ _ ht => px_cwS wgC (wdC_4_in _ (List.mem_of_getElem? (i := 29) rfl)) (wdC_4_in _ (List.mem_of_getElem? (i := 22) rfl)) (wdC_4_in _ (List.mem_of_getElem? (i := 23) rfl)) (wdC_4_in _ (List.mem_of_getElem? (i := 20) rfl)) (by decide +kernel) rfl rfl (by decide) ht) dX5_isSound_4) ?_
  refine px_ok_cons (ps_ireturn rfl dX5_isSound_7) ?_
  exact px_ok_nil
set_option maxRecDepth 100000 in
set_option maxHeartbeats 4000000 in
theorem sgX5_isSound_0 {po : Int32 → px_St → Prop} {G : px_K} (hG : px_cl (opX5_isSound po) G) (v0 : Int32) (σ : px_St)
    (H : ∃ g3 : gtX5_isWithin, qrX5_isWithin g3 v0 (0 : Int32) (9 : Int32) σ ∧ ∀ (r1 : Int32) (σ2 : px_St), qoX5_isWithin g3 v0 (0 : Int32) (9 : Int32) σ r1 σ2 → (r1 = 0 ∨ r1 = 1) ∧ po r1 σ2) :
    G 0 (px_ent 1 [.int v0]) [] σ := by
  refine hG.1 0 _ _ rfl _ _ _ ?_
  refine hG.1 1 _ _ rfl _ _ _ ?_
  refine hG.1 2 _ _ rfl _ _ _ ?_
  refine hG.1 3 _ _ rfl _ _ _ ?_
  obtain ⟨g3, H⟩ := H
  refine ⟨Nat.le_of_ble_eq_true rfl, Nat.le_of_ble_eq_true rfl, g3, ⟨_, _, _, rfl, H.1⟩, fun r1 σ2 hp4 => ?_⟩
  replace H := H.2 r1 σ2 hp4
  refine hG.1 4 _ _ rfl _ _ _ ?_
  exact ⟨(px_bo H.1).1, H.2⟩
set_option maxRecDepth 100000 in
set_option maxHeartbeats 4000000 in
theorem hhX5_isSound (g : gtX5_isSound) (v0 : Int32) (σ : px_St) (h : qrX5_isSound g v0 σ) (G : px_K) (hG : px_cl (opX5_isSound (qoX5_isSound g v0 σ)) G) : G 0 (px_ent 1 [.int v0]) [] σ := by
  exact sgX5_isSound_0 hG v0 σ ⟨(), trivial, fun r σ' hp => ⟨px_b_01 hp.2, hp⟩⟩
theorem mX5_isSound (g : gtX5_isSound) : px_Met dC yX5_isSound (Cond.code yX5_isSound cX5_isSound 1 (some .boolean) :: wdC) rmX5_isSound px_vI (prX5_isSound g) (poX5_isSound g) :=
  px_met (Z := (cX5_isSound, 1, RX5, Cond.code yX5_isSound cX5_isSound 1 (some .boolean) :: wdC, (some .boolean), rmX5_isSound, dC)) opX5_isSound (by decide) rfl rfl okX5_isSound (fun As σ h => by obtain ⟨v0, rfl, h⟩ := h; exact Nat.le_of_ble_eq_true rfl) (fun As σ h G hG => by obtain ⟨v0, rfl, h⟩ := h; exact hhX5_isSound g v0 σ h G hG)
