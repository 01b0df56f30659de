/-! ===== ranges; runs of days; what is said; what was seen ===== -/
theorem rng {N : Nat} {v : Int32} (hN : N < 2 ^ 31) : (0 ≤ v ∧ v ≤ nI N) ↔ ∃ p : Nat, p ≤ N ∧ v = nI p := by
  constructor
  · rintro ⟨h1, h2⟩
    obtain ⟨j, hj, rfl⟩ := nI_of (Int32.not_lt.mpr h1)
    exact ⟨j, (nI_leI hj hN).mp h2, rfl⟩
  · rintro ⟨p, hp, rfl⟩
    exact ⟨nI_pos' (by omega), nI_le hp hN⟩
theorem rng1 {N : Nat} {v : Int32} (hN : N < 2 ^ 31) : (0 ≤ v ∧ v ≤ nI N - 1) ↔ ∃ p : Nat, p < N ∧ v = nI p := by
  cases N with
  | zero =>
    constructor
    · rintro ⟨h1, h2⟩
      exact absurd (Int32.le_trans h1 h2) (by decide)
    · rintro ⟨p, hp, _⟩
      omega
  | succ N =>
    rw [nI_pred, rng (by omega)]
    constructor
    · rintro ⟨p, hp, e⟩; exact ⟨p, by omega, e⟩
    · rintro ⟨p, hp, e⟩; exact ⟨p, by omega, e⟩
theorem rngc {v : Int32} (N : Nat) (c : Int32) (hc : c = nI N) (hN : N < 2 ^ 31) : (0 ≤ v ∧ v ≤ c) ↔ ∃ p : Nat, p ≤ N ∧ v = nI p := by
  rw [hc]; exact rng hN
noncomputable def pv_run (V : pv_V) : Nat → pv_V
  | 0 => V
  | n + 1 => pv_day (pv_run V n)
theorem pv_run_n (V : pv_V) (n : Nat) : (pv_run V n).1 = V.1 ∧ (pv_run V n).2.1 = V.2.1 ∧ (pv_run V n).2.2.1 = V.2.2.1 + n := by
  induction n with
  | zero => exact ⟨rfl, rfl, rfl⟩
  | succ n ih =>
    refine ⟨ih.1, ih.2.1, ?_⟩
    show (pv_run V n).2.2.1 + 1 = V.2.2.1 + (n + 1)
    rw [ih.2.2]; omega
theorem pv_run_ok {V : pv_V} (h : pv_ok V) (n : Nat) (hd : V.2.2.1 + n < 2000) : pv_ok (pv_run V n) := by
  induction n with
  | zero => exact h
  | succ n ih => exact pv_day_ok (ih (by omega)) (by rw [(pv_run_n V n).2.2]; omega)
noncomputable def pv_times (V : pv_V) (s : Nat) : Nat → Nat
  | 0 => 0
  | n + 1 => pv_times V s n + (if pv_said (pv_run V n) = nI s then 1 else 0)
theorem pv_times_le (V : pv_V) (s n : Nat) : pv_times V s n ≤ n := by
  induction n with
  | zero => exact Nat.le_refl _
  | succ n ih =>
    rw [pv_times]
    split <;> omega
/-- the first day from d on, among k, on which it is said; 61 where there is none -/
noncomputable def pv_ff (V : pv_V) (s : Nat) : Nat → Nat → Nat
  | 0, _ => 61
  | k + 1, d => if pv_said (pv_run V d) = nI s then d else pv_ff V s k (d + 1)
theorem pv_ff_le (V : pv_V) (s : Nat) : ∀ k d, d + k ≤ 61 → pv_ff V s k d ≤ 61
  | 0, _, _ => Nat.le_refl _
  | k + 1, d, h => by
    rw [pv_ff]
    split
    · omega
    · exact pv_ff_le V s k (d + 1) (by omega)
abbrev pv_S : Type := List (Nat × Nat)
def pv_asSeen (V : pv_V) (S : pv_S) : Prop := ∀ x ∈ S, pv_said (pv_run V x.1) = nI x.2
def sn_is (σ : px_St) (a : Nat) (S : pv_S) : Prop := σ.1 a 0 = nI S.length ∧ ∀ i x, S[i]? = some x → σ.1 (a + 1) i = nI x.1 ∧ σ.1 (a + 2) i = nI x.2
def sn_ok (S : pv_S) : Prop := S.length ≤ 6 ∧ ∀ x ∈ S, x.1 ≤ 20 ∧ x.2 ≤ 9
theorem sn_is.kept {σ σ' : px_St} {a : Nat} {S : pv_S} (h : sn_is σ a S) (hk : ∀ k, a ≤ k → k ≤ a + 2 → σ'.1 k = σ.1 k) : sn_is σ' a S := by
  refine ⟨by rw [hk a (by omega) (by omega)]; exact h.1, fun i x hx => ?_⟩
  rw [hk (a + 1) (by omega) (by omega), hk (a + 2) (by omega) (by omega)]
  exact h.2 i x hx
theorem av_is.kept {σ σ' : px_St} {a : Nat} {V : pv_V} (h : av_is σ a V) (hk : ∀ k, a ≤ k → k ≤ a + 4 → σ'.1 k = σ.1 k) : av_is σ' a V := by
  obtain ⟨⟨h1, h2, h3⟩, h4⟩ := h
  have e0 := hk a (by omega) (by omega)
  refine ⟨⟨by rw [e0]; exact h1, by rw [e0]; exact h2, by rw [e0]; exact h3⟩, fun p hp => ?_⟩
  obtain ⟨g1, g2, g3, g4⟩ := h4 p hp
  exact ⟨by rw [hk _ (by omega) (by omega)]; exact g1, by rw [hk _ (by omega) (by omega)]; exact g2, by rw [hk _ (by omega) (by omega)]; exact g3, fun i x hi => by rw [hk _ (by omega) (by omega)]; exact g4 i x hi⟩
/-- only said and runner have changed -/
def px_fs (σ σ' : px_St) : Prop := ∀ k, k ≠ 1 → (k < 18 ∨ 22 < k) → σ'.1 k = σ.1 k
theorem px_fs.rf {σ : px_St} : px_fs σ σ := fun _ _ _ => rfl
theorem px_fs.tr {σ σ' σ'' : px_St} (h : px_fs σ σ') (h' : px_fs σ' σ'') : px_fs σ σ'' := fun k h1 h2 => (h' k h1 h2).trans (h k h1 h2)
theorem px_fs.av {σ σ' : px_St} {a : Nat} {V : pv_V} (h : px_fs σ σ') (ha : px_av a) (hne : a ≠ 18) (hV : av_is σ a V) : av_is σ' a V := hV.kept (fun k h1 h2 => h k (by unfold px_av at ha; omega) (by unfold px_av at ha; omega))
abbrev gtX5_isKind : Type := Unit
def qrX5_isKind (_ : Unit) (_ : Int32) (_ : px_St) : Prop := True
def qoX5_isKind (_ : Unit) (v : Int32) (σ : px_St) (r : Int32) (σ' : px_St) : Prop := σ' = σ ∧ px_b (0 ≤ v ∧ v ≤ 3) r
def prX5_isKind (g : gtX5_isKind) : List Value → px_St → Prop := fun As σ => ∃ v0 : Int32, As = [.int v0] ∧ qrX5_isKind g v0 σ
def poX5_isKind (g : gtX5_isKind) : List Value → px_St → Int32 → px_St → Prop
  | [.int v0], σ, r, σ' => qoX5_isKind g v0 σ r σ'
  | _, _, _, _ => False
theorem dX5_isKind_0 : decode cX5_isKind 0 = .ok (.iload_n 0, 1) := by decide +kernel
theorem dX5_isKind_1 : decode cX5_isKind 1 = .ok (.iconst 0, 1) := by decide +kernel
theorem dX5_isKind_2 : decode cX5_isKind 2 = .ok (.iconst 3, 1) := by decide +kernel
theorem dX5_isKind_3 : decode cX5_isKind 3 = .ok (.invokestatic 61, 3) := by decide +kernel
theorem dX5_isKind_6 : decode cX5_isKind 6 = .ok (.ireturn, 1) := by decide +kernel
abbrev rmX5_isKind : Room := { frames := 1, cells := 0, slots := 0, locals := 22 }
def opX5_isKind (po : Int32 → px_St → Prop) : List (Nat × px_Op) := [
  (0, px_il 1 0),
  (1, px_push 2 (.int 0)),
  (2, px_push 3 (.int 3)),
  (3, px_callS 6 3 px_vI prX5_isWithin poX5_isWithin),
  (6, px_iret (.boolean) po)]
set_option maxRecDepth 100000 in
set_option maxHeartbeats 4000000 in
theorem okX5_isKind : ∀ (po : Int32 → px_St → Prop) (i pc : Nat) (op : px_Op), (opX5_isKind po)[i]? = some (pc, op) → px_Snd (cX5_isKind, 1, RX5, Cond.code yX5_isKind cX5_isKind 1 (some .boolean) :: wdC, (some .boolean), rmX5_isKind, dC) px_vI po pc op := by
  intro po
  unfold opX5_isKind
  refine px_ok_cons (ps_iload_n dX5_isKind_0 rfl) ?_
  refine px_ok_cons (ps_iconst dX5_isKind_1 (by decide)) ?_
  refine px_ok_cons (ps_iconst dX5_isKind_2 (by decide)) ?_
  refine px_ok_cons (ps_callS mX5_isWithin (fun _ _ => rfl) (fun _ _ ht => px_cwS wgC (wdC_4_in _ (List.mem_of_getElem? (i := 29) rfl)) (wdC_4_in _ (List.mem_of_getElem? (i := 22) rfl)) (wdC_4_in _ (List.mem_of_getElem? (i := 23) rfl)) (wdC_4_in _ (List.mem_of_getElem? (i := 20) rfl)) (by decide +kernel) rfl rfl (by decide) ht) dX5_isKind_3) ?_
  refine px_ok_cons (ps_ireturn rfl dX5_isKind_6) ?_
  exact px_ok_nil
set_option maxRecDepth 100000 in
set_option maxHeartbeats 4000000 in
theorem sgX5_isKind_0 {po : Int32 → px_St → Prop} {G : px_K} (hG : px_cl (opX5_isKind po) G) (v0 : Int32) (σ : px_St)
    (H : ∃ g3 : gtX5_isWithin, qrX5_isWithin g3 v0 (0 : Int32) (3 : Int32) σ ∧ ∀ (r1 : Int32) (σ2 : px_St), qoX5_isWithin g3 v0 (0 : Int32) (3 : Int32) σ r1 σ2 → (r1 = 0 ∨ r1 = 1) ∧ po r1 σ2) :
    G 0 (px_ent 1 [.int v0]) [] σ := by
  refine hG.1 0 _ _ rfl _ _ _ ?_
  refine hG.1 1 _ _ rfl _ _ _ ?_
  refine hG.1 2 _ _ rfl _ _ _ ?_
  refine hG.1 3 _ _ rfl _ _ _ ?_
  obtain ⟨g3, H⟩ := H
  refine ⟨Nat.le_of_ble_eq_true rfl, Nat.le_of_ble_eq_true rfl, g3, ⟨_, _, _, rfl, H.1⟩, fun r1 σ2 hp4 => ?_⟩
  replace H := H.2 r1 σ2 hp4
  refine hG.1 4 _ _ rfl _ _ _ ?_
  exact ⟨(px_bo H.1).1, H.2⟩
set_option maxRecDepth 100000 in
set_option maxHeartbeats 4000000 in
theorem hhX5_isKind (g : gtX5_isKind) (v0 : Int32) (σ : px_St) (h : qrX5_isKind g v0 σ) (G : px_K) (hG : px_cl (opX5_isKind (qoX5_isKind g v0 σ)) G) : G 0 (px_ent 1 [.int v0]) [] σ := by
  exact sgX5_isKind_0 hG v0 σ ⟨(), trivial, fun r σ' hp => ⟨px_b_01 hp.2, hp⟩⟩
theorem mX5_isKind (g : gtX5_isKind) : px_Met dC yX5_isKind (Cond.code yX5_isKind cX5_isKind 1 (some .boolean) :: wdC) rmX5_isKind px_vI (prX5_isKind g) (poX5_isKind g) :=
  px_met (Z := (cX5_isKind, 1, RX5, Cond.code yX5_isKind cX5_isKind 1 (some .boolean) :: wdC, (some .boolean), rmX5_isKind, dC)) opX5_isKind (by decide) rfl rfl okX5_isKind (fun As σ h => by obtain ⟨v0, rfl, h⟩ := h; exact Nat.le_of_ble_eq_true rfl) (fun As σ h G hG => by obtain ⟨v0, rfl, h⟩ := h; exact hhX5_isKind g v0 σ h G hG)
abbrev gtX5_isDays : Type := Unit
def qrX5_isDays (_ : Unit) (_ : Int32) (_ : px_St) : Prop := True
def qoX5_isDays (_ : Unit) (v : Int32) (σ : px_St) (r : Int32) (σ' : px_St) : Prop := σ' = σ ∧ px_b (0 ≤ v ∧ v ≤ 60) r
def prX5_isDays (g : gtX5_isDays) : List Value → px_St → Prop := fun As σ => ∃ v0 : Int32, As = [.int v0] ∧ qrX5_isDays g v0 σ
def poX5_isDays (g : gtX5_isDays) : List Value → px_St → Int32 → px_St → Prop
  | [.int v0], σ, r, σ' => qoX5_isDays g v0 σ r σ'
  | _, _, _, _ => False
theorem dX5_isDays_0 : decode cX5_isDays 0 = .ok (.iload_n 0, 1) := by decide +kernel
theorem dX5_isDays_1 : decode cX5_isDays 1 = .ok (.iconst 0, 1) := by decide +kernel
theorem dX5_isDays_2 : decode cX5_isDays 2 = .ok (.bipush 60, 2) := by decide +kernel
theorem dX5_isDays_4 : decode cX5_isDays 4 = .ok (.invokestatic 61, 3) := by decide +kernel
theorem dX5_isDays_7 : decode cX5_isDays 7 = .ok (.ireturn, 1) := by decide +kernel
abbrev rmX5_isDays : Room := { frames := 1, cells := 0, slots := 0, locals := 22 }
def opX5_isDays (po : Int32 → px_St → Prop) : List (Nat × px_Op) := [
  (0, px_il 1 0),
  (1, px_push 2 (.int 0)),
  (2, px_push 4 (.int 60)),
  (4, px_callS 7 3 px_vI prX5_isWithin poX5_isWithin),
  (7, px_iret (.boolean) po)]
set_option maxRecDepth 100000 in
set_option maxHeartbeats 4000000 in
theorem okX5_isDays : ∀ (po : Int32 → px_St → Prop) (i pc : Nat) (op : px_Op), (opX5_isDays po)[i]? = some (pc, op) → px_Snd (cX5_isDays, 1, RX5, Cond.code yX5_isDays cX5_isDays 1 (some .boolean) :: wdC, (some .boolean), rmX5_isDays, dC) px_vI po pc op := by
  intro po
  unfold opX5_isDays
  refine px_ok_cons (ps_iload_n dX5_isDays_0 rfl) ?_
  refine px_ok_cons (ps_iconst dX5_isDays_1 (by decide)) ?_
  refine px_ok_cons (ps_bipush dX5_isDays_2 (by decide)) ?_
  refine px_ok_cons (ps_callS mX5_isWithin (fun _ _ => rfl) (fun _ _ ht => px_cwS wgC (wdC_4_in _ (List.mem_of_getElem? (i := 29) rfl)) (wdC_4_in _ (List.mem_of_getElem? (i := 22) rfl)) (wdC_4_in _ (List.mem_of_getElem? (i := 23) rfl)) (wdC_4_in _ (List.mem_of_getElem? (i := 20) rfl)) (by decide +kernel) rfl rfl (by decide) ht) dX5_isDays_4) ?_
  refine px_ok_cons (ps_ireturn rfl dX5_isDays_7) ?_
  exact px_ok_nil
set_option maxRecDepth 100000 in
set_option maxHeartbeats 4000000 in
theorem sgX5_isDays_0 {po : Int32 → px_St → Prop} {G : px_K} (hG : px_cl (opX5_isDays po) G) (v0 : Int32) (σ : px_St)
    (H : ∃ g3 : gtX5_isWithin, qrX5_isWithin g3 v0 (0 : Int32) (60 : Int32) σ ∧ ∀ (r1 : Int32) (σ2 : px_St), qoX5_isWithin g3 v0 (0 : Int32) (60 : Int32) σ r1 σ2 → (r1 = 0 ∨ r1 = 1) ∧ po r1 σ2) :
    G 0 (px_ent 1 [.int v0]) [] σ := by
  refine hG.1 0 _ _ rfl _ _ _ ?_
  refine hG.1 1 _ _ rfl _ _ _ ?_
  refine hG.1 2 _ _ rfl _ _ _ ?_
  refine hG.1 3 _ _ rfl _ _ _ ?_
  obtain ⟨g3, H⟩ := H
  refine ⟨Nat.le_of_ble_eq_true rfl, Nat.le_of_ble_eq_true rfl, g3, ⟨_, _, _, rfl, H.1⟩, fun r1 σ2 hp4 => ?_⟩
  replace H := H.2 r1 σ2 hp4
  refine hG.1 4 _ _ rfl _ _ _ ?_
  exact ⟨(px_bo H.1).1, H.2⟩
set_option maxRecDepth 100000 in
set_option maxHeartbeats 4000000 in
theorem hhX5_isDays (g : gtX5_isDays) (v0 : Int32) (σ : px_St) (h : qrX5_isDays g v0 σ) (G : px_K) (hG : px_cl (opX5_isDays (qoX5_isDays g v0 σ)) G) : G 0 (px_ent 1 [.int v0]) [] σ := by
  exact sgX5_isDays_0 hG v0 σ ⟨(), trivial, fun r σ' hp => ⟨px_b_01 hp.2, hp⟩⟩
theorem mX5_isDays (g : gtX5_isDays) : px_Met dC yX5_isDays (Cond.code yX5_isDays cX5_isDays 1 (some .boolean) :: wdC) rmX5_isDays px_vI (prX5_isDays g) (poX5_isDays g) :=
  px_met (Z := (cX5_isDays, 1, RX5, Cond.code yX5_isDays cX5_isDays 1 (some .boolean) :: wdC, (some .boolean), rmX5_isDays, dC)) opX5_isDays (by decide) rfl rfl okX5_isDays (fun As σ h => by obtain ⟨v0, rfl, h⟩ := h; exact Nat.le_of_ble_eq_true rfl) (fun As σ h G hG => by obtain ⟨v0, rfl, h⟩ := h; exact hhX5_isDays g v0 σ h G hG)
abbrev gtX5_isSheet : Type := Unit
def qrX5_isSheet (_ : Unit) (_ : Int32) (_ : px_St) : Prop := True
def qoX5_isSheet (_ : Unit) (v : Int32) (σ : px_St) (r : Int32) (σ' : px_St) : Prop := σ' = σ ∧ px_b (0 ≤ v ∧ v ≤ 3) r
def prX5_isSheet (g : gtX5_isSheet) : List Value → px_St → Prop := fun As σ => ∃ v0 : Int32, As = [.int v0] ∧ qrX5_isSheet g v0 σ
def poX5_isSheet (g : gtX5_isSheet) : List Value → px_St → Int32 → px_St → Prop
  | [.int v0], σ, r, σ' => qoX5_isSheet g v0 σ r σ'
  | _, _, _, _ => False
theorem dX5_isSheet_0 : decode cX5_isSheet 0 = .ok (.iload_n 0, 1) := by decide +kernel
theorem dX5_isSheet_1 : decode cX5_isSheet 1 = .ok (.iconst 0, 1) := by decide +kernel
theorem dX5_isSheet_2 : decode cX5_isSheet 2 = .ok (.iconst 3, 1) := by decide +kernel
theorem dX5_isSheet_3 : decode cX5_isSheet 3 = .ok (.invokestatic 61, 3) := by decide +kernel
theorem dX5_isSheet_6 : decode cX5_isSheet 6 = .ok (.ireturn, 1) := by decide +kernel
abbrev rmX5_isSheet : Room := { frames := 1, cells := 0, slots := 0, locals := 22 }
def opX5_isSheet (po : Int32 → px_St → Prop) : List (Nat × px_Op) := [
  (0, px_il 1 0),
  (1, px_push 2 (.int 0)),
  (2, px_push 3 (.int 3)),
  (3, px_callS 6 3 px_vI prX5_isWithin poX5_isWithin),
  (6, px_iret (.boolean) po)]
set_option maxRecDepth 100000 in
set_option maxHeartbeats 4000000 in
theorem okX5_isSheet : ∀ (po : Int32 → px_St → Prop) (i pc : Nat) (op : px_Op), (opX5_isSheet po)[i]? = some (pc, op) → px_Snd (cX5_isSheet, 1, RX5, Cond.code yX5_isSheet cX5_isSheet 1 (some .boolean) :: wdC, (some .boolean), rmX5_isSheet, dC) px_vI po pc op := by
  intro po
  unfold opX5_isSheet
  refine px_ok_cons (ps_iload_n dX5_isSheet_0 rfl) ?_
  refine px_ok_cons (ps_iconst dX5_isSheet_1 (by decide)) ?_
  refine px_ok_cons (ps_iconst dX5_isSheet_2 (by decide)) ?_
  refine px_ok_cons (ps_callS mX5_isWithin (fun _ _ => rfl) (fun _ _ ht => px_cwS wgC (wdC_4_in _ (List.mem_of_getElem? (i := 29) rfl)) (wdC_4_in _ (List.mem_of_getElem? (i := 22) rfl)) (wdC_4_in _ (List.mem_of_getElem? (i := 23) rfl)) (wdC_4_in _ (List.mem_of_getElem? (i := 20) rfl)) (by decide +kernel) rfl rfl (by decide) ht) dX5_isSheet_3) ?_
  refine px_ok_cons (ps_ireturn rfl dX5_isSheet_6) ?_
  exact px_ok_nil
set_option maxRecDepth 100000 in
set_option maxHeartbeats 4000000 in
theorem sgX5_isSheet_0 {po : Int32 → px_St → Prop} {G : px_K} (hG : px_cl (opX5_isSheet po) G) (v0 : Int32) (σ : px_St)
    (H : ∃ g3 : gtX5_isWithin, qrX5_isWithin g3 v0 (0 : Int32) (3 : Int32) σ ∧ ∀ (r1 : Int32) (σ2 : px_St), qoX5_isWithin g3 v0 (0 : Int32) (3 : Int32) σ r1 σ2 → (r1 = 0 ∨ r1 = 1) ∧ po r1 σ2) :
    G 0 (px_ent 1 [.int v0]) [] σ := by
  refine hG.1 0 _ _ rfl _ _ _ ?_
  refine hG.1 1 _ _ rfl _ _ _ ?_
  refine hG.1 2 _ _ rfl _ _ _ ?_
  refine hG.1 3 _ _ rfl _ _ _ ?_
  obtain ⟨g3, H⟩ := H
  refine ⟨Nat.le_of_ble_eq_true rfl, Nat.le_of_ble_eq_true rfl, g3, ⟨_, _, _, rfl, H.1⟩, fun r1 σ2 hp4 => ?_⟩
  replace H := H.2 r1 σ2 hp4
  refine hG.1 4 _ _ rfl _ _ _ ?_
  exact ⟨(px_bo H.1).1, H.2⟩
set_option maxRecDepth 100000 in
set_option maxHeartbeats 4000000 in
theorem hhX5_isSheet (g : gtX5_isSheet) (v0 : Int32) (σ : px_St) (h : qrX5_isSheet g v0 σ) (G : px_K) (hG : px_cl (opX5_isSheet (qoX5_isSheet g v0 σ)) G) : G 0 (px_ent 1 [.int v0]) [] σ := by
  exact sgX5_isSheet_0 hG v0 σ ⟨(), trivial, fun r σ' hp => ⟨px_b_01 hp.2, hp⟩⟩
theorem mX5_isSheet (g : gtX5_isSheet) : px_Met dC yX5_isSheet (Cond.code yX5_isSheet cX5_isSheet 1 (some .boolean) :: wdC) rmX5_isSheet px_vI (prX5_isSheet g) (poX5_isSheet g) :=
  px_met (Z := (cX5_isSheet, 1, RX5, Cond.code yX5_isSheet cX5_isSheet 1 (some .boolean) :: wdC, (some .boolean), rmX5_isSheet, dC)) opX5_isSheet (by decide) rfl rfl okX5_isSheet (fun As σ h => by obtain ⟨v0, rfl, h⟩ := h; exact Nat.le_of_ble_eq_true rfl) (fun As σ h G hG => by obtain ⟨v0, rfl, h⟩ := h; exact hhX5_isSheet g v0 σ h G hG)
abbrev gtX5_isLane : Type := Unit
def qrX5_isLane (_ : Unit) (_ : Int32) (_ : px_St) : Prop := True
def qoX5_isLane (_ : Unit) (v : Int32) (σ : px_St) (r : Int32) (σ' : px_St) : Prop := σ' = σ ∧ px_b (0 ≤ v ∧ v ≤ 2) r
def prX5_isLane (g : gtX5_isLane) : List Value → px_St → Prop := fun As σ => ∃ v0 : Int32, As = [.int v0] ∧ qrX5_isLane g v0 σ
def poX5_isLane (g : gtX5_isLane) : List Value → px_St → Int32 → px_St → Prop
  | [.int v0], σ, r, σ' => qoX5_isLane g v0 σ r σ'
  | _, _, _, _ => False
theorem dX5_isLane_0 : decode cX5_isLane 0 = .ok (.iload_n 0, 1) := by decide +kernel
theorem dX5_isLane_1 : decode cX5_isLane 1 = .ok (.iconst 0, 1) := by decide +kernel
theorem dX5_isLane_2 : decode cX5_isLane 2 = .ok (.iconst 2, 1) := by decide +kernel
theorem dX5_isLane_3 : decode cX5_isLane 3 = .ok (.invokestatic 61, 3) := by decide +kernel
theorem dX5_isLane_6 : decode cX5_isLane 6 = .ok (.ireturn, 1) := by decide +kernel
abbrev rmX5_isLane : Room := { frames := 1, cells := 0, slots := 0, locals := 22 }
def opX5_isLane (po : Int32 → px_St → Prop) : List (Nat × px_Op) := [
  (0, px_il 1 0),
  (1, px_push 2 (.int 0)),
  (2, px_push 3 (.int 2)),
  (3, px_callS 6 3 px_vI prX5_isWithin poX5_isWithin),
  (6, px_iret (.boolean) po)]
set_option maxRecDepth 100000 in
set_option maxHeartbeats 4000000 in
theorem okX5_isLane : ∀ (po : Int32 → px_St → Prop) (i pc : Nat) (op : px_Op), (opX5_isLane po)[i]? = some (pc, op) → px_Snd (cX5_isLane, 1, RX5, Cond.code yX5_isLane cX5_isLane 1 (some .boolean) :: wdC, (some .boolean), rmX5_isLane, dC) px_vI po pc op := by
  intro po
  unfold opX5_isLane
  refine px_ok_cons (ps_iload_n dX5_isLane_0 rfl) ?_
  refine px_ok_cons (ps_iconst dX5_isLane_1 (by decide)) ?_
  refine px_ok_cons (ps_iconst dX5_isLane_2 (by decide)) ?_
  refine px_ok_cons (ps_callS mX5_isWithin (fun _ _ => rfl) (fun _ _ ht => px_cwS wgC (wdC_4_in _ (List.mem_of_getElem? (i := 29) rfl)) (wdC_4_in _ (List.mem_of_getElem? (i := 22) rfl)) (wdC_4_in _ (List.mem_of_getElem? (i := 23) rfl)) (wdC_4_in _ (List.mem_of_getElem? (i := 20) rfl)) (by decide +kernel) rfl rfl (by decide) ht) dX5_isLane_3) ?_
  refine px_ok_cons (ps_ireturn rfl dX5_isLane_6) ?_
  exact px_ok_nil
set_option maxRecDepth 100000 in
set_option maxHeartbeats 4000000 in
theorem sgX5_isLane_0 {po : Int32 → px_St → Prop} {G : px_K} (hG : px_cl (opX5_isLane po) G) (v0 : Int32) (σ : px_St)
    (H : ∃ g3 : gtX5_isWithin, qrX5_isWithin g3 v0 (0 : Int32) (2 : Int32) σ ∧ ∀ (r1 : Int32) (σ2 : px_St), qoX5_isWithin g3 v0 (0 : Int32) (2 : Int32) σ r1 σ2 → (r1 = 0 ∨ r1 = 1) ∧ po r1 σ2) :
    G 0 (px_ent 1 [.int v0]) [] σ := by
  refine hG.1 0 _ _ rfl _ _ _ ?_
  refine hG.1 1 _ _ rfl _ _ _ ?_
  refine hG.1 2 _ _ rfl _ _ _ ?_
  refine hG.1 3 _ _ rfl _ _ _ ?_
  obtain ⟨g3, H⟩ := H
  refine ⟨Nat.le_of_ble_eq_true rfl, Nat.le_of_ble_eq_true rfl, g3, ⟨_, _, _, rfl, H.1⟩, fun r1 σ2 hp4 => ?_⟩
  replace H := H.2 r1 σ2 hp4
  refine hG.1 4 _ _ rfl _ _ _ ?_
  exact ⟨(px_bo H.1).1, H.2⟩
set_option maxRecDepth 100000 in
set_option maxHeartbeats 4000000 in
theorem hhX5_isLane (g : gtX5_isLane) (v0 : Int32) (σ : px_St) (h : qrX5_isLane g v0 σ) (G : px_K) (hG : px_cl (opX5_isLane (qoX5_isLane g v0 σ)) G) : G 0 (px_ent 1 [.int v0]) [] σ := by
  exact sgX5_isLane_0 hG v0 σ ⟨(), trivial, fun r σ' hp => ⟨px_b_01 hp.2, hp⟩⟩
theorem mX5_isLane (g : gtX5_isLane) : px_Met dC yX5_isLane (Cond.code yX5_isLane cX5_isLane 1 (some .boolean) :: wdC) rmX5_isLane px_vI (prX5_isLane g) (poX5_isLane g) :=
  px_met (Z := (cX5_isLane, 1, RX5, Cond.code yX5_isLane cX5_isLane 1 (some .boolean) :: wdC, (some .boolean), rmX5_isLane, dC)) opX5_isLane (by decide) rfl rfl okX5_isLane (fun As σ h => by obtain ⟨v0, rfl, h⟩ := h; exact Nat.le_of_ble_eq_true rfl) (fun As σ h G hG => by obtain ⟨v0, rfl, h⟩ := h; exact hhX5_isLane g v0 σ h G hG)
abbrev gtX5_isClothCall : Type := Unit
def qrX5_isClothCall (_ : Unit) (_ _ _ _ : Int32) (_ : px_St) : Prop := True
def qoX5_isClothCall (_ : Unit) (v s n w : Int32) (σ : px_St) (r : Int32) (σ' : px_St) : Prop := σ' = σ ∧ px_b ((0 ≤ v ∧ v ≤ 10) ∧ (0 ≤ s ∧ s ≤ 9) ∧ (0 ≤ n ∧ n ≤ 8) ∧ (0 ≤ w ∧ w ≤ 1)) r
def prX5_isClothCall (g : gtX5_isClothCall) : List Value → px_St → Prop := fun As σ => ∃ v0 : Int32, ∃ v1 : Int32, ∃ v2 : Int32, ∃ v3 : Int32, As = [.int v0, .int v1, .int v2, .int v3] ∧ qrX5_isClothCall g v0 v1 v2 v3 σ
def poX5_isClothCall (g : gtX5_isClothCall) : List Value → px_St → Int32 → px_St → Prop
  | [.int v0, .int v1, .int v2, .int v3], σ, r, σ' => qoX5_isClothCall g v0 v1 v2 v3 σ r σ'
  | _, _, _, _ => False
theorem dX5_isClothCall_0 : decode cX5_isClothCall 0 = .ok (.iload_n 0, 1) := by decide +kernel
theorem dX5_isClothCall_1 : decode cX5_isClothCall 1 = .ok (.iconst 0, 1) := by decide +kernel
theorem dX5_isClothCall_2 : decode cX5_isClothCall 2 = .ok (.bipush 10, 2) := by decide +kernel
theorem dX5_isClothCall_4 : decode cX5_isClothCall 4 = .ok (.invokestatic 61, 3) := by decide +kernel
theorem dX5_isClothCall_7 : decode cX5_isClothCall 7 = .ok (.ifCond .eq 33, 3) := by decide +kernel
theorem dX5_isClothCall_10 : decode cX5_isClothCall 10 = .ok (.iload_n 1, 1) := by decide +kernel
theorem dX5_isClothCall_11 : decode cX5_isClothCall 11 = .ok (.invokestatic 132, 3) := by decide +kernel
theorem dX5_isClothCall_14 : decode cX5_isClothCall 14 = .ok (.ifCond .eq 26, 3) := by decide +kernel
theorem dX5_isClothCall_17 : decode cX5_isClothCall 17 = .ok (.iload_n 2, 1) := by decide +kernel
theorem dX5_isClothCall_18 : decode cX5_isClothCall 18 = .ok (.iconst 0, 1) := by decide +kernel
theorem dX5_isClothCall_19 : decode cX5_isClothCall 19 = .ok (.bipush 8, 2) := by decide +kernel
theorem dX5_isClothCall_21 : decode cX5_isClothCall 21 = .ok (.invokestatic 61, 3) := by decide +kernel
theorem dX5_isClothCall_24 : decode cX5_isClothCall 24 = .ok (.ifCond .eq 16, 3) := by decide +kernel
theorem dX5_isClothCall_27 : decode cX5_isClothCall 27 = .ok (.iload_n 3, 1) := by decide +kernel
theorem dX5_isClothCall_28 : decode cX5_isClothCall 28 = .ok (.iconst 0, 1) := by decide +kernel
theorem dX5_isClothCall_29 : decode cX5_isClothCall 29 = .ok (.iconst 1, 1) := by decide +kernel
theorem dX5_isClothCall_30 : decode cX5_isClothCall 30 = .ok (.invokestatic 61, 3) := by decide +kernel
theorem dX5_isClothCall_33 : decode cX5_isClothCall 33 = .ok (.ifCond .eq 7, 3) := by decide +kernel
theorem dX5_isClothCall_36 : decode cX5_isClothCall 36 = .ok (.iconst 1, 1) := by decide +kernel
theorem dX5_isClothCall_37 : decode cX5_isClothCall 37 = .ok (.goto 4, 3) := by decide +kernel
theorem dX5_isClothCall_40 : decode cX5_isClothCall 40 = .ok (.iconst 0, 1) := by decide +kernel
theorem dX5_isClothCall_41 : decode cX5_isClothCall 41 = .ok (.ireturn, 1) := by decide +kernel
abbrev rmX5_isClothCall : Room := { frames := 2, cells := 0, slots := 0, locals := 42 }
def opX5_isClothCall (po : Int32 → px_St → Prop) : List (Nat × px_Op) := [
  (0, px_il 1 0),
  (1, px_push 2 (.int 0)),
  (2, px_push 4 (.int 10)),
  (4, px_callS 7 3 px_vI prX5_isWithin poX5_isWithin),
  (7, px_if 10 40 (fun x => x = 0)),
  (10, px_il 11 1),
  (11, px_callS 14 1 px_vI prX5_isSound poX5_isSound),
  (14, px_if 17 40 (fun x => x = 0)),
  (17, px_il 18 2),
  (18, px_push 19 (.int 0)),
  (19, px_push 21 (.int 8)),
  (21, px_callS 24 3 px_vI prX5_isWithin poX5_isWithin),
  (24, px_if 27 40 (fun x => x = 0)),
  (27, px_il 28 3),
  (28, px_push 29 (.int 0)),
  (29, px_push 30 (.int 1)),
  (30, px_callS 33 3 px_vI prX5_isWithin poX5_isWithin),
  (33, px_if 36 40 (fun x => x = 0)),
  (36, px_push 37 (.int 1)),
  (37, px_go 41),
  (40, px_push 41 (.int 0)),
  (41, px_iret (.boolean) po)]
set_option maxRecDepth 100000 in
set_option maxHeartbeats 4000000 in
theorem okX5_isClothCall : ∀ (po : Int32 → px_St → Prop) (i pc : Nat) (op : px_Op), (opX5_isClothCall po)[i]? = some (pc, op) → px_Snd (cX5_isClothCall, 4, RX5, Cond.code yX5_isClothCall cX5_isClothCall 4 (some .boolean) :: wdC, (some .boolean), rmX5_isClothCall, dC) px_vI po pc op := by
  intro po
  unfold opX5_isClothCall
  refine px_ok_cons (ps_iload_n dX5_isClothCall_0 rfl) ?_
  refine px_ok_cons (ps_iconst dX5_isClothCall_1 (by decide)) ?_
  refine px_ok_cons (ps_bipush dX5_isClothCall_2 (by decide)) ?_
  refine px_ok_cons (ps_callS mX5_isWithin (fun _ _ => rfl) (fun _ _ ht => px_cwS wgC (wdC_4_in _ (List.mem_of_getElem? (i := 29) rfl)) (wdC_4_in _ (List.mem_of_getElem? (i := 22) rfl)) (wdC_4_in _ (List.mem_of_getElem? (i := 23) rfl)) (wdC_4_in _ (List.mem_of_getElem? (i := 20) rfl)) (by decide +kernel) rfl rfl (by decide) ht) dX5_isClothCall_4) ?_
  refine px_ok_cons (ps_if_eq dX5_isClothCall_7 (by decide)) ?_
  refine px_ok_cons (ps_iload_n dX5_isClothCall_10 rfl) ?_
  refine px_ok_cons (ps_callS mX5_isSound (fun _ _ => rfl) (fun _ _ ht => px_cwS wgC (wdC_7_in _ (List.mem_of_getElem? (i := 5) rfl)) (wdC_4_in _ (List.mem_of_getElem? (i := 32) rfl)) (wdC_4_in _ (List.mem_of_getElem? (i := 23) rfl)) (wdC_4_in _ (List.mem_of_getElem? (i := 28) rfl)) (by decide +kernel) rfl rfl (by decide) ht) dX5_isClothCall_11) ?_
  refine px_ok_cons (ps_if_eq dX5_isClothCall_14 (by decide)) ?_
  refine px_ok_cons (ps_iload_n dX5_isClothCall_17 rfl) ?_
  refine px_ok_cons (ps_iconst dX5_isClothCall_18 (by decide)) ?_
  refine px_ok_cons (ps_bipush dX5_isClothCall_19 (by decide)) ?_
  refine px_ok_cons (ps_callS mX5_isWithin (fun _ _ => rfl) (fun _ _ ht => px_cwS wgC (wdC_4_in _ (List.mem_of_getElem? (i := 29) rfl)) (wdC_4_in _ (List.mem_of_getElem? (i := 22) rfl)) (wdC_4_in _ (List.mem_of_getElem? (i := 23) rfl)) (wdC_4_in _ (List.mem_of_getElem? (i := 20) rfl)) (by decide +kernel) rfl rfl (by decide) ht) dX5_isClothCall_21) ?_
  refine px_ok_cons (ps_if_eq dX5_isClothCall_24 (by decide)) ?_
  refine px_ok_cons (ps_iload_n dX5_isClothCall_27 rfl) ?_
  refine px_ok_cons (ps_iconst dX5_isClothCall_28 (by decide)) ?_
  refine px_ok_cons (ps_iconst dX5_isClothCall_29 (by decide)) ?_
  refine px_ok_cons (ps_callS mX5_isWithin (fun _ _ => rfl) (fun _ _ ht => px_cwS wgC (wdC_4_in _ (List.mem_of_getElem? (i := 29) rfl)) (wdC_4_in _ (List.mem_of_getElem? (i := 22) rfl)) (wdC_4_in _ (List.mem_of_getElem? (i := 23) rfl)) (wdC_4_in _ (List.mem_of_getElem? (i := 20) rfl)) (by decide +kernel) rfl rfl (by decide) ht) dX5_isClothCall_30) ?_
  refine px_ok_cons (ps_if_eq dX5_isClothCall_33 (by decide)) ?_
  refine px_ok_cons (ps_iconst dX5_isClothCall_36 (by decide)) ?_
  refine px_ok_cons (ps_goto dX5_isClothCall_37 (by decide)) ?_
  refine px_ok_cons (ps_iconst dX5_isClothCall_40 (by decide)) ?_
  refine px_ok_cons (ps_ireturn rfl dX5_isClothCall_41) ?_
  exact px_ok_nil
set_option maxRecDepth 100000 in
set_option maxHeartbeats 4000000 in
theorem sgX5_isClothCall_0 {po : Int32 → px_St → Prop} {G : px_K} (hG : px_cl (opX5_isClothCall po) G) (v0 : Int32) (v1 : Int32) (v2 : Int32) (v3 : Int32) (σ : px_St)
    (H : ∃ g3 : gtX5_isWithin, qrX5_isWithin g3 v0 (0 : Int32) (10 : Int32) σ ∧ ∀ (r1 : Int32) (σ2 : px_St), qoX5_isWithin g3 v0 (0 : Int32) (10 : Int32) σ r1 σ2 → ((r1 = 0) → po (0 : Int32) σ2) ∧ (¬ (r1 = 0) → ∃ g7 : gtX5_isSound, qrX5_isSound g7 v1 σ2 ∧ ∀ (r5 : Int32) (σ6 : px_St), qoX5_isSound g7 v1 σ2 r5 σ6 → ((r5 = 0) → po (0 : Int32) σ6) ∧ (¬ (r5 = 0) → ∃ g11 : gtX5_isWithin, qrX5_isWithin g11 v2 (0 : Int32) (8 : Int32) σ6 ∧ ∀ (r9 : Int32) (σ10 : px_St), qoX5_isWithin g11 v2 (0 : Int32) (8 : Int32) σ6 r9 σ10 → ((r9 = 0) → po (0 : Int32) σ10) ∧ (¬ (r9 = 0) → ∃ g15 : gtX5_isWithin, qrX5_isWithin g15 v3 (0 : Int32) (1 : Int32) σ10 ∧ ∀ (r13 : Int32) (σ14 : px_St), qoX5_isWithin g15 v3 (0 : Int32) (1 : Int32) σ10 r13 σ14 → ((r13 = 0) → po (0 : Int32) σ14) ∧ (¬ (r13 = 0) → po (1 : Int32) σ14))))) :
    G 0 (px_ent 4 [.int v0, .int v1, .int v2, .int v3]) [] σ := by
  refine hG.1 0 _ _ rfl _ _ _ ?_
  refine hG.1 1 _ _ rfl _ _ _ ?_
  refine hG.1 2 _ _ rfl _ _ _ ?_
  refine hG.1 3 _ _ rfl _ _ _ ?_
  obtain ⟨g3, H⟩ := H
  refine ⟨Nat.le_of_ble_eq_true rfl, Nat.le_of_ble_eq_true rfl, g3, ⟨_, _, _, rfl, H.1⟩, fun r1 σ2 hp4 => ?_⟩
  replace H := H.2 r1 σ2 hp4
  refine hG.1 4 _ _ rfl _ _ _ ?_
  refine ⟨fun h20 => ?_, fun h20 => ?_⟩
  · replace H := H.1 h20
    refine hG.1 20 _ _ rfl _ _ _ ?_
    refine hG.1 21 _ _ rfl _ _ _ ?_
    exact ⟨rfl, H⟩
  · replace H := H.2 h20
    refine hG.1 5 _ _ rfl _ _ _ ?_
    refine hG.1 6 _ _ rfl _ _ _ ?_
    obtain ⟨g7, H⟩ := H
    refine ⟨Nat.le_of_ble_eq_true rfl, Nat.le_of_ble_eq_true rfl, g7, ⟨_, rfl, H.1⟩, fun r5 σ6 hp8 => ?_⟩
    replace H := H.2 r5 σ6 hp8
    refine hG.1 7 _ _ rfl _ _ _ ?_
    refine ⟨fun h19 => ?_, fun h19 => ?_⟩
    · replace H := H.1 h19
      refine hG.1 20 _ _ rfl _ _ _ ?_
      refine hG.1 21 _ _ rfl _ _ _ ?_
      exact ⟨rfl, H⟩
    · replace H := H.2 h19
      refine hG.1 8 _ _ rfl _ _ _ ?_
      refine hG.1 9 _ _ rfl _ _ _ ?_
      refine hG.1 10 _ _ rfl _ _ _ ?_
      refine hG.1 11 _ _ rfl _ _ _ ?_
      obtain ⟨g11, H⟩ := H
      refine ⟨Nat.le_of_ble_eq_true rfl, Nat.le_of_ble_eq_true rfl, g11, ⟨_, _, _, rfl, H.1⟩, fun r9 σ10 hp12 => ?_⟩
      replace H := H.2 r9 σ10 hp12
      refine hG.1 12 _ _ rfl _ _ _ ?_
      refine ⟨fun h18 => ?_, fun h18 => ?_⟩
      · replace H := H.1 h18
        refine hG.1 20 _ _ rfl _ _ _ ?_
        refine hG.1 21 _ _ rfl _ _ _ ?_
        exact ⟨rfl, H⟩
      · replace H := H.2 h18
        refine hG.1 13 _ _ rfl _ _ _ ?_
        refine hG.1 14 _ _ rfl _ _ _ ?_
        refine hG.1 15 _ _ rfl _ _ _ ?_
        refine hG.1 16 _ _ rfl _ _ _ ?_
        obtain ⟨g15, H⟩ := H
        refine ⟨Nat.le_of_ble_eq_true rfl, Nat.le_of_ble_eq_true rfl, g15, ⟨_, _, _, rfl, H.1⟩, fun r13 σ14 hp16 => ?_⟩
        replace H := H.2 r13 σ14 hp16
        refine hG.1 17 _ _ rfl _ _ _ ?_
        refine ⟨fun h17 => ?_, fun h17 => ?_⟩
        · replace H := H.1 h17
          refine hG.1 20 _ _ rfl _ _ _ ?_
          refine hG.1 21 _ _ rfl _ _ _ ?_
          exact ⟨rfl, H⟩
        · replace H := H.2 h17
          refine hG.1 18 _ _ rfl _ _ _ ?_
          refine hG.1 19 _ _ rfl _ _ _ ?_
          refine hG.1 21 _ _ rfl _ _ _ ?_
          exact ⟨rfl, H⟩
set_option maxRecDepth 100000 in
set_option maxHeartbeats 4000000 in
theorem hhX5_isClothCall (g : gtX5_isClothCall) (v0 : Int32) (v1 : Int32) (v2 : Int32) (v3 : Int32) (σ : px_St) (h : qrX5_isClothCall g v0 v1 v2 v3 σ) (G : px_K) (hG : px_cl (opX5_isClothCall (qoX5_isClothCall g v0 v1 v2 v3 σ)) G) : G 0 (px_ent 4 [.int v0, .int v1, .int v2, .int v3]) [] σ := by
  refine sgX5_isClothCall_0 hG _ _ _ _ σ ⟨(), trivial, fun r1 σ1 h1 => ?_⟩
  obtain ⟨rfl, b1⟩ := h1
  rw [px_b_0 b1]
  refine ⟨fun z => ⟨rfl, Or.inr ⟨fun y => z y.1, rfl⟩⟩, fun z1 => ⟨(), trivial, fun r2 σ2 h2 => ?_⟩⟩
  obtain ⟨rfl, b2⟩ := h2
  rw [px_b_0 b2]
  refine ⟨fun z => ⟨rfl, Or.inr ⟨fun y => z y.2.1, rfl⟩⟩, fun z2 => ⟨(), trivial, fun r3 σ3 h3 => ?_⟩⟩
  obtain ⟨rfl, b3⟩ := h3
  rw [px_b_0 b3]
  refine ⟨fun z => ⟨rfl, Or.inr ⟨fun y => z y.2.2.1, rfl⟩⟩, fun z3 => ⟨(), trivial, fun r4 σ4 h4 => ?_⟩⟩
  obtain ⟨rfl, b4⟩ := h4
  rw [px_b_0 b4]
  exact ⟨fun z => ⟨rfl, Or.inr ⟨fun y => z y.2.2.2, rfl⟩⟩, fun z4 => ⟨rfl, Or.inl ⟨⟨Classical.byContradiction z1, Classical.byContradiction z2, Classical.byContradiction z3, Classical.byContradiction z4⟩, rfl⟩⟩⟩
theorem mX5_isClothCall (g : gtX5_isClothCall) : px_Met dC yX5_isClothCall (Cond.code yX5_isClothCall cX5_isClothCall 4 (some .boolean) :: wdC) rmX5_isClothCall px_vI (prX5_isClothCall g) (poX5_isClothCall g) :=
  px_met (Z := (cX5_isClothCall, 4, RX5, Cond.code yX5_isClothCall cX5_isClothCall 4 (some .boolean) :: wdC, (some .boolean), rmX5_isClothCall, dC)) opX5_isClothCall (by decide) rfl rfl okX5_isClothCall (fun As σ h => by obtain ⟨v0, v1, v2, v3, rfl, h⟩ := h; exact Nat.le_of_ble_eq_true rfl) (fun As σ h G hG => by obtain ⟨v0, v1, v2, v3, rfl, h⟩ := h; exact hhX5_isClothCall g v0 v1 v2 v3 σ h G hG)
abbrev gtX5_soundBit : Type := Unit
def qrX5_soundBit (_ : Unit) (_ : Int32) (_ : px_St) : Prop := True
def pv_bit (v : Int32) : Int32 := if 0 ≤ v ∧ v ≤ 9 then 1 <<< (v &&& 31) else 0
def qoX5_soundBit (_ : Unit) (v : Int32) (σ : px_St) (r : Int32) (σ' : px_St) : Prop := σ' = σ ∧ r = pv_bit v
def prX5_soundBit (g : gtX5_soundBit) : List Value → px_St → Prop := fun As σ => ∃ v0 : Int32, As = [.int v0] ∧ qrX5_soundBit g v0 σ
def poX5_soundBit (g : gtX5_soundBit) : List Value → px_St → Int32 → px_St → Prop
  | [.int v0], σ, r, σ' => qoX5_soundBit g v0 σ r σ'
  | _, _, _, _ => False
theorem dX5_soundBit_0 : decode cX5_soundBit 0 = .ok (.iload_n 0, 1) := by decide +kernel
theorem dX5_soundBit_1 : decode cX5_soundBit 1 = .ok (.invokestatic 132, 3) := by decide +kernel
theorem dX5_soundBit_4 : decode cX5_soundBit 4 = .ok (.ifCond .eq 9, 3) := by decide +kernel
theorem dX5_soundBit_7 : decode cX5_soundBit 7 = .ok (.iconst 1, 1) := by decide +kernel
theorem dX5_soundBit_8 : decode cX5_soundBit 8 = .ok (.iload_n 0, 1) := by decide +kernel
theorem dX5_soundBit_9 : decode cX5_soundBit 9 = .ok (.ishl, 1) := by decide +kernel
theorem dX5_soundBit_10 : decode cX5_soundBit 10 = .ok (.goto 4, 3) := by decide +kernel
theorem dX5_soundBit_13 : decode cX5_soundBit 13 = .ok (.iconst 0, 1) := by decide +kernel
theorem dX5_soundBit_14 : decode cX5_soundBit 14 = .ok (.ireturn, 1) := by decide +kernel
abbrev rmX5_soundBit : Room := { frames := 2, cells := 0, slots := 0, locals := 42 }
def opX5_soundBit (po : Int32 → px_St → Prop) : List (Nat × px_Op) := [
  (0, px_il 1 0),
  (1, px_callS 4 1 px_vI prX5_isSound poX5_isSound),
  (4, px_if 7 13 (fun x => x = 0)),
  (7, px_push 8 (.int 1)),
  (8, px_il 9 0),
  (9, px_bin 10 (fun x y => x <<< (y &&& 31))),
  (10, px_go 14),
  (13, px_push 14 (.int 0)),
  (14, px_iret (.int) po)]
set_option maxRecDepth 100000 in
set_option maxHeartbeats 4000000 in
theorem okX5_soundBit : ∀ (po : Int32 → px_St → Prop) (i pc : Nat) (op : px_Op), (opX5_soundBit po)[i]? = some (pc, op) → px_Snd (cX5_soundBit, 1, RX5, Cond.code yX5_soundBit cX5_soundBit 1 (some .int) :: wdC, (some .int), rmX5_soundBit, dC) px_vI po pc op := by
  intro po
  unfold opX5_soundBit
  refine px_ok_cons (ps_iload_n dX5_soundBit_0 rfl) ?_
  refine px_ok_cons (ps_callS mX5_isSound (fun _ _ => rfl) (fun _ _ ht => px_cwS wgC (wdC_7_in _ (List.mem_of_getElem? (i := 5) rfl)) (wdC_4_in _ (List.mem_of_getElem? (i := 32) rfl)) (wdC_4_in _ (List.mem_of_getElem? (i := 23) rfl)) (wdC_4_in _ (List.mem_of_getElem? (i := 28) rfl)) (by decide +kernel) rfl rfl (by decide) ht) dX5_soundBit_1) ?_
  refine px_ok_cons (ps_if_eq dX5_soundBit_4 (by decide)) ?_
  refine px_ok_cons (ps_iconst dX5_soundBit_7 (by decide)) ?_
  refine px_ok_cons (ps_iload_n dX5_soundBit_8 rfl) ?_
  refine px_ok_cons (ps_ishl dX5_soundBit_9) ?_
  refine px_ok_cons (ps_goto dX5_soundBit_10 (by decide)) ?_
  refine px_ok_cons (ps_iconst dX5_soundBit_13 (by decide)) ?_
  refine px_ok_cons (ps_ireturn rfl dX5_soundBit_14) ?_
  exact px_ok_nil
set_option maxRecDepth 100000 in
set_option maxHeartbeats 4000000 in
theorem sgX5_soundBit_0 {po : Int32 → px_St → Prop} {G : px_K} (hG : px_cl (opX5_soundBit po) G) (v0 : Int32) (σ : px_St)
    (H : ∃ g3 : gtX5_isSound, qrX5_isSound g3 v0 σ ∧ ∀ (r1 : Int32) (σ2 : px_St), qoX5_isSound g3 v0 σ r1 σ2 → ((r1 = 0) → po (0 : Int32) σ2) ∧ (¬ (r1 = 0) → po ((1 : Int32) <<< (v0 &&& 31)) σ2)) :
    G 0 (px_ent 1 [.int v0]) [] σ := by
  refine hG.1 0 _ _ rfl _ _ _ ?_
  refine hG.1 1 _ _ rfl _ _ _ ?_
  obtain ⟨g3, H⟩ := H
  refine ⟨Nat.le_of_ble_eq_true rfl, Nat.le_of_ble_eq_true rfl, g3, ⟨_, rfl, H.1⟩, fun r1 σ2 hp4 => ?_⟩
  replace H := H.2 r1 σ2 hp4
  refine hG.1 2 _ _ rfl _ _ _ ?_
  refine ⟨fun h5 => ?_, fun h5 => ?_⟩
  · replace H := H.1 h5
    refine hG.1 7 _ _ rfl _ _ _ ?_
    refine hG.1 8 _ _ rfl _ _ _ ?_
    exact ⟨rfl, H⟩
  · replace H := H.2 h5
    refine hG.1 3 _ _ rfl _ _ _ ?_
    refine hG.1 4 _ _ rfl _ _ _ ?_
    refine hG.1 5 _ _ rfl _ _ _ ?_
    refine hG.1 6 _ _ rfl _ _ _ ?_
    refine hG.1 8 _ _ rfl _ _ _ ?_
    exact ⟨rfl, H⟩
set_option maxRecDepth 100000 in
set_option maxHeartbeats 4000000 in
theorem hhX5_soundBit (g : gtX5_soundBit) (v0 : Int32) (σ : px_St) (h : qrX5_soundBit g v0 σ) (G : px_K) (hG : px_cl (opX5_soundBit (qoX5_soundBit g v0 σ)) G) : G 0 (px_ent 1 [.int v0]) [] σ := by
  refine sgX5_soundBit_0 hG _ σ ⟨(), trivial, fun r1 σ1 h1 => ?_⟩
  obtain ⟨rfl, b1⟩ := h1
  rw [px_b_0 b1]
  refine ⟨fun z => ⟨rfl, ?_⟩, fun z => ⟨rfl, ?_⟩⟩
  · unfold pv_bit; rw [if_neg z]
  · unfold pv_bit; rw [if_pos (Classical.byContradiction z)]
theorem mX5_soundBit (g : gtX5_soundBit) : px_Met dC yX5_soundBit (Cond.code yX5_soundBit cX5_soundBit 1 (some .int) :: wdC) rmX5_soundBit px_vI (prX5_soundBit g) (poX5_soundBit g) :=
  px_met (Z := (cX5_soundBit, 1, RX5, Cond.code yX5_soundBit cX5_soundBit 1 (some .int) :: wdC, (some .int), rmX5_soundBit, dC)) opX5_soundBit (by decide) rfl rfl okX5_soundBit (fun As σ h => by obtain ⟨v0, rfl, h⟩ := h; exact Nat.le_of_ble_eq_true rfl) (fun As σ h G hG => by obtain ⟨v0, rfl, h⟩ := h; exact hhX5_soundBit g v0 σ h G hG)
abbrev gtX5_choice : Type := Unit
def qrX5_choice (_ : Unit) (_ _ _ : Int32) (_ : px_St) : Prop := True
def pv_choice (b w k : Int32) : Int32 := if b = -4 then -4 else if k = 0 then b else w
def qoX5_choice (_ : Unit) (b w k : Int32) (σ : px_St) (r : Int32) (σ' : px_St) : Prop := σ' = σ ∧ r = pv_choice b w k
def prX5_choice (g : gtX5_choice) : List Value → px_St → Prop := fun As σ => ∃ v0 : Int32, ∃ v1 : Int32, ∃ v2 : Int32, As = [.int v0, .int v1, .int v2] ∧ qrX5_choice g v0 v1 v2 σ
def poX5_choice (g : gtX5_choice) : List Value → px_St → Int32 → px_St → Prop
  | [.int v0, .int v1, .int v2], σ, r, σ' => qoX5_choice g v0 v1 v2 σ r σ'
  | _, _, _, _ => False
theorem dX5_choice_0 : decode cX5_choice 0 = .ok (.iload_n 0, 1) := by decide +kernel
theorem dX5_choice_1 : decode cX5_choice 1 = .ok (.bipush (-4), 2) := by decide +kernel
theorem dX5_choice_3 : decode cX5_choice 3 = .ok (.if_icmp .ne 6, 3) := by decide +kernel
theorem dX5_choice_6 : decode cX5_choice 6 = .ok (.bipush (-4), 2) := by decide +kernel
theorem dX5_choice_8 : decode cX5_choice 8 = .ok (.ireturn, 1) := by decide +kernel
theorem dX5_choice_9 : decode cX5_choice 9 = .ok (.iload_n 2, 1) := by decide +kernel
theorem dX5_choice_10 : decode cX5_choice 10 = .ok (.ifCond .ne 7, 3) := by decide +kernel
theorem dX5_choice_13 : decode cX5_choice 13 = .ok (.iload_n 0, 1) := by decide +kernel
theorem dX5_choice_14 : decode cX5_choice 14 = .ok (.goto 4, 3) := by decide +kernel
theorem dX5_choice_17 : decode cX5_choice 17 = .ok (.iload_n 1, 1) := by decide +kernel
theorem dX5_choice_18 : decode cX5_choice 18 = .ok (.ireturn, 1) := by decide +kernel
abbrev rmX5_choice : Room := { frames := 0, cells := 0, slots := 0, locals := 0 }
def opX5_choice (po : Int32 → px_St → Prop) : List (Nat × px_Op) := [
  (0, px_il 1 0),
  (1, px_push 3 (.int (-4))),
  (3, px_ic 6 9 (fun x y => ¬ x = y)),
  (6, px_push 8 (.int (-4))),
  (8, px_iret (.int) po),
  (9, px_il 10 2),
  (10, px_if 13 17 (fun x => ¬ x = 0)),
  (13, px_il 14 0),
  (14, px_go 18),
  (17, px_il 18 1),
  (18, px_iret (.int) po)]
set_option maxRecDepth 100000 in
set_option maxHeartbeats 4000000 in
theorem okX5_choice : ∀ (po : Int32 → px_St → Prop) (i pc : Nat) (op : px_Op), (opX5_choice po)[i]? = some (pc, op) → px_Snd (cX5_choice, 3, RX5, Cond.code yX5_choice cX5_choice 3 (some .int) :: wdC, (some .int), rmX5_choice, dC) px_vI po pc op := by
  intro po
  unfold opX5_choice
  refine px_ok_cons (ps_iload_n dX5_choice_0 rfl) ?_
  refine px_ok_cons (ps_bipush dX5_choice_1 (by decide)) ?_
  refine px_ok_cons (ps_icmp_ne dX5_choice_3 (by decide)) ?_
  refine px_ok_cons (ps_bipush dX5_choice_6 (by decide)) ?_
  refine px_ok_cons (ps_ireturn rfl dX5_choice_8) ?_
  refine px_ok_cons (ps_iload_n dX5_choice_9 rfl) ?_
  refine px_ok_cons (ps_if_ne dX5_choice_10 (by decide)) ?_
  refine px_ok_cons (ps_iload_n dX5_choice_13 rfl) ?_
  refine px_ok_cons (ps_goto dX5_choice_14 (by decide)) ?_
  refine px_ok_cons (ps_iload_n dX5_choice_17 rfl) ?_
  refine px_ok_cons (ps_ireturn rfl dX5_choice_18) ?_
  exact px_ok_nil
set_option maxRecDepth 100000 in
set_option maxHeartbeats 4000000 in
theorem sgX5_choice_0 {po : Int32 → px_St → Prop} {G : px_K} (hG : px_cl (opX5_choice po) G) (v0 : Int32) (v1 : Int32) (v2 : Int32) (σ : px_St)
    (H : ((¬ v0 = (-4 : Int32)) → ((¬ v2 = 0) → po v1 σ) ∧ (¬ (¬ v2 = 0) → po v0 σ)) ∧ (¬ (¬ v0 = (-4 : Int32)) → po (-4 : Int32) σ)) :
    G 0 (px_ent 3 [.int v0, .int v1, .int v2]) [] σ := by
  refine hG.1 0 _ _ rfl _ _ _ ?_
  refine hG.1 1 _ _ rfl _ _ _ ?_
  refine hG.1 2 _ _ rfl _ _ _ ?_
  refine ⟨fun h2 => ?_, fun h2 => ?_⟩
  · replace H := H.1 h2
    refine hG.1 5 _ _ rfl _ _ _ ?_
    refine hG.1 6 _ _ rfl _ _ _ ?_
    refine ⟨fun h1 => ?_, fun h1 => ?_⟩
    · replace H := H.1 h1
      refine hG.1 9 _ _ rfl _ _ _ ?_
      refine hG.1 10 _ _ rfl _ _ _ ?_
      exact ⟨rfl, H⟩
    · replace H := H.2 h1
      refine hG.1 7 _ _ rfl _ _ _ ?_
      refine hG.1 8 _ _ rfl _ _ _ ?_
      refine hG.1 10 _ _ rfl _ _ _ ?_
      exact ⟨rfl, H⟩
  · replace H := H.2 h2
    refine hG.1 3 _ _ rfl _ _ _ ?_
    refine hG.1 4 _ _ rfl _ _ _ ?_
    exact ⟨rfl, H⟩
set_option maxRecDepth 100000 in
set_option maxHeartbeats 4000000 in
theorem hhX5_choice (g : gtX5_choice) (v0 : Int32) (v1 : Int32) (v2 : Int32) (σ : px_St) (h : qrX5_choice g v0 v1 v2 σ) (G : px_K) (hG : px_cl (opX5_choice (qoX5_choice g v0 v1 v2 σ)) G) : G 0 (px_ent 3 [.int v0, .int v1, .int v2]) [] σ := by
  refine sgX5_choice_0 hG _ _ _ σ ⟨fun h1 => ⟨fun h2 => ⟨rfl, ?_⟩, fun h2 => ⟨rfl, ?_⟩⟩, fun h1 => ⟨rfl, ?_⟩⟩
  · unfold pv_choice; rw [if_neg h1, if_neg h2]
  · unfold pv_choice; rw [if_neg h1, if_pos (Classical.byContradiction h2)]
  · unfold pv_choice; rw [if_pos (Classical.byContradiction h1)]
theorem mX5_choice (g : gtX5_choice) : px_Met dC yX5_choice (Cond.code yX5_choice cX5_choice 3 (some .int) :: wdC) rmX5_choice px_vI (prX5_choice g) (poX5_choice g) :=
  px_met (Z := (cX5_choice, 3, RX5, Cond.code yX5_choice cX5_choice 3 (some .int) :: wdC, (some .int), rmX5_choice, dC)) opX5_choice (by decide) rfl rfl okX5_choice (fun As σ h => by obtain ⟨v0, v1, v2, rfl, h⟩ := h; exact Nat.le_of_ble_eq_true rfl) (fun As σ h G hG => by obtain ⟨v0, v1, v2, rfl, h⟩ := h; exact hhX5_choice g v0 v1 v2 σ h G hG)
abbrev gtX5_isParrot : Type := pv_V
def qrX5_isParrot (V : pv_V) (_ : Int32) (σ : px_St) : Prop := av_is σ 8 V
def qoX5_isParrot (V : pv_V) (v : Int32) (σ : px_St) (r : Int32) (σ' : px_St) : Prop := σ' = σ ∧ px_b (0 ≤ v ∧ v ≤ nI V.1 - 1) r
def prX5_isParrot (g : gtX5_isParrot) : List Value → px_St → Prop := fun As σ => ∃ v1 : Int32, As = [.ref 0, .int v1] ∧ qrX5_isParrot g v1 σ
def poX5_isParrot (g : gtX5_isParrot) : List Value → px_St → Int32 → px_St → Prop
  | [.ref _, .int v1], σ, r, σ' => qoX5_isParrot g v1 σ r σ'
  | _, _, _, _ => False
theorem dX5_isParrot_0 : decode cX5_isParrot 0 = .ok (.iload_n 1, 1) := by decide +kernel
theorem dX5_isParrot_1 : decode cX5_isParrot 1 = .ok (.iconst 0, 1) := by decide +kernel
theorem dX5_isParrot_2 : decode cX5_isParrot 2 = .ok (.aload_n 0, 1) := by decide +kernel
theorem dX5_isParrot_3 : decode cX5_isParrot 3 = .ok (.getfield 10, 3) := by decide +kernel
theorem dX5_isParrot_6 : decode cX5_isParrot 6 = .ok (.getfield 93, 3) := by decide +kernel
theorem dX5_isParrot_9 : decode cX5_isParrot 9 = .ok (.iconst 1, 1) := by decide +kernel
theorem dX5_isParrot_10 : decode cX5_isParrot 10 = .ok (.isub, 1) := by decide +kernel
theorem dX5_isParrot_11 : decode cX5_isParrot 11 = .ok (.invokestatic 61, 3) := by decide +kernel
theorem dX5_isParrot_14 : decode cX5_isParrot 14 = .ok (.ireturn, 1) := by decide +kernel
abbrev rmX5_isParrot : Room := { frames := 1, cells := 0, slots := 0, locals := 22 }
def opX5_isParrot (po : Int32 → px_St → Prop) : List (Nat × px_Op) := [
  (0, px_il 1 1),
  (1, px_push 2 (.int 0)),
  (2, px_al 3 0),
  (3, px_get dC 6 5 0),
  (6, px_get dC 9 0 0),
  (9, px_push 10 (.int 1)),
  (10, px_bin 11 (fun x y => x - y)),
  (11, px_callS 14 3 px_vI prX5_isWithin poX5_isWithin),
  (14, px_iret (.boolean) po)]
set_option maxRecDepth 100000 in
set_option maxHeartbeats 4000000 in
theorem okX5_isParrot : ∀ (po : Int32 → px_St → Prop) (i pc : Nat) (op : px_Op), (opX5_isParrot po)[i]? = some (pc, op) → px_Snd (cX5_isParrot, 2, RX5, Cond.code yX5_isParrot cX5_isParrot 2 (some .boolean) :: wdC, (some .boolean), rmX5_isParrot, dC) px_vI po pc op := by
  intro po
  unfold opX5_isParrot
  refine px_ok_cons (ps_iload_n dX5_isParrot_0 rfl) ?_
  refine px_ok_cons (ps_iconst dX5_isParrot_1 (by decide)) ?_
  refine px_ok_cons (ps_aload_n dX5_isParrot_2 rfl) ?_
  refine px_ok_cons (fgX5_10 dX5_isParrot_3) ?_
  refine px_ok_cons (fgX5_93 dX5_isParrot_6) ?_
  refine px_ok_cons (ps_iconst dX5_isParrot_9 (by decide)) ?_
  refine px_ok_cons (ps_isub dX5_isParrot_10) ?_
  refine px_ok_cons (ps_callS mX5_isWithin (fun _ _ => rfl) (fun _ _ ht => px_cwS wgC (wdC_4_in _ (List.mem_of_getElem? (i := 29) rfl)) (wdC_4_in _ (List.mem_of_getElem? (i := 22) rfl)) (wdC_4_in _ (List.mem_of_getElem? (i := 23) rfl)) (wdC_4_in _ (List.mem_of_getElem? (i := 20) rfl)) (by decide +kernel) rfl rfl (by decide) ht) dX5_isParrot_11) ?_
  refine px_ok_cons (ps_ireturn rfl dX5_isParrot_14) ?_
  exact px_ok_nil
set_option maxRecDepth 100000 in
set_option maxHeartbeats 4000000 in
theorem sgX5_isParrot_0 {po : Int32 → px_St → Prop} {G : px_K} (hG : px_cl (opX5_isParrot po) G) (v1 : Int32) (σ : px_St)
    (H : ∃ g3 : gtX5_isWithin, qrX5_isWithin g3 v1 (0 : Int32) ((σ.1 8 0) - (1 : Int32)) σ ∧ ∀ (r1 : Int32) (σ2 : px_St), qoX5_isWithin g3 v1 (0 : Int32) ((σ.1 8 0) - (1 : Int32)) σ r1 σ2 → (r1 = 0 ∨ r1 = 1) ∧ po r1 σ2) :
    G 0 (px_ent 2 [.ref 0, .int v1]) [] σ := by
  refine hG.1 0 _ _ rfl _ _ _ ?_
  refine hG.1 1 _ _ rfl _ _ _ ?_
  refine hG.1 2 _ _ rfl _ _ _ ?_
  refine hG.1 3 _ _ rfl _ _ _ ?_
  refine ⟨⟨rfl, by decide⟩, ?_⟩
  refine hG.1 4 _ _ rfl _ _ _ ?_
  refine ⟨⟨rfl, by decide⟩, ?_⟩
  refine hG.1 5 _ _ rfl _ _ _ ?_
  refine hG.1 6 _ _ rfl _ _ _ ?_
  refine hG.1 7 _ _ rfl _ _ _ ?_
  obtain ⟨g3, H⟩ := H
  refine ⟨Nat.le_of_ble_eq_true rfl, Nat.le_of_ble_eq_true rfl, g3, ⟨_, _, _, rfl, H.1⟩, fun r1 σ2 hp4 => ?_⟩
  replace H := H.2 r1 σ2 hp4
  refine hG.1 8 _ _ rfl _ _ _ ?_
  exact ⟨(px_bo H.1).1, H.2⟩
set_option maxRecDepth 100000 in
set_option maxHeartbeats 4000000 in
theorem hhX5_isParrot (g : gtX5_isParrot) (v1 : Int32) (σ : px_St) (h : qrX5_isParrot g v1 σ) (G : px_K) (hG : px_cl (opX5_isParrot (qoX5_isParrot g v1 σ)) G) : G 0 (px_ent 2 [.ref 0, .int v1]) [] σ := by
  refine sgX5_isParrot_0 hG _ σ ⟨(), trivial, fun r1 σ1 h1 => ⟨px_b_01 h1.2, ?_⟩⟩
  obtain ⟨rfl, b1⟩ := h1
  rw [h.1.1] at b1
  exact ⟨rfl, b1⟩
theorem mX5_isParrot (g : gtX5_isParrot) : px_Met dC yX5_isParrot (Cond.code yX5_isParrot cX5_isParrot 2 (some .boolean) :: wdC) rmX5_isParrot px_vI (prX5_isParrot g) (poX5_isParrot g) :=
  px_met (Z := (cX5_isParrot, 2, RX5, Cond.code yX5_isParrot cX5_isParrot 2 (some .boolean) :: wdC, (some .boolean), rmX5_isParrot, dC)) opX5_isParrot (by decide) rfl rfl okX5_isParrot (fun As σ h => by obtain ⟨v1, rfl, h⟩ := h; exact Nat.le_of_ble_eq_true rfl) (fun As σ h G hG => by obtain ⟨v1, rfl, h⟩ := h; exact hhX5_isParrot g v1 σ h G hG)
abbrev gtX5_hasSound : Type := pv_V
def qrX5_hasSound (V : pv_V) (_ _ : Int32) (σ : px_St) : Prop := av_is σ 8 V ∧ pv_w V
def pv_own (V : pv_V) (p i : Int32) : Prop := (0 ≤ p ∧ p ≤ nI V.1 - 1) ∧ (0 ≤ i ∧ i ≤ nI (V.2.2.2 p.toNatClampNeg).2.2.length - 1)
def qoX5_hasSound (V : pv_V) (p i : Int32) (σ : px_St) (r : Int32) (σ' : px_St) : Prop := σ' = σ ∧ px_b (pv_own V p i) r
def prX5_hasSound (g : gtX5_hasSound) : List Value → px_St → Prop := fun As σ => ∃ v1 : Int32, ∃ v2 : Int32, As = [.ref 0, .int v1, .int v2] ∧ qrX5_hasSound g v1 v2 σ
def poX5_hasSound (g : gtX5_hasSound) : List Value → px_St → Int32 → px_St → Prop
  | [.ref _, .int v1, .int v2], σ, r, σ' => qoX5_hasSound g v1 v2 σ r σ'
  | _, _, _, _ => False
theorem dX5_hasSound_0 : decode cX5_hasSound 0 = .ok (.aload_n 0, 1) := by decide +kernel
theorem dX5_hasSound_1 : decode cX5_hasSound 1 = .ok (.iload_n 1, 1) := by decide +kernel
theorem dX5_hasSound_2 : decode cX5_hasSound 2 = .ok (.invokevirtual 112, 3) := by decide +kernel
theorem dX5_hasSound_5 : decode cX5_hasSound 5 = .ok (.ifCond .eq 26, 3) := by decide +kernel
theorem dX5_hasSound_8 : decode cX5_hasSound 8 = .ok (.iload_n 2, 1) := by decide +kernel
theorem dX5_hasSound_9 : decode cX5_hasSound 9 = .ok (.iconst 0, 1) := by decide +kernel
theorem dX5_hasSound_10 : decode cX5_hasSound 10 = .ok (.aload_n 0, 1) := by decide +kernel
theorem dX5_hasSound_11 : decode cX5_hasSound 11 = .ok (.getfield 10, 3) := by decide +kernel
theorem dX5_hasSound_14 : decode cX5_hasSound 14 = .ok (.getfield 119, 3) := by decide +kernel
theorem dX5_hasSound_17 : decode cX5_hasSound 17 = .ok (.iload_n 1, 1) := by decide +kernel
theorem dX5_hasSound_18 : decode cX5_hasSound 18 = .ok (.iaload, 1) := by decide +kernel
theorem dX5_hasSound_19 : decode cX5_hasSound 19 = .ok (.iconst 1, 1) := by decide +kernel
theorem dX5_hasSound_20 : decode cX5_hasSound 20 = .ok (.isub, 1) := by decide +kernel
theorem dX5_hasSound_21 : decode cX5_hasSound 21 = .ok (.invokestatic 61, 3) := by decide +kernel
theorem dX5_hasSound_24 : decode cX5_hasSound 24 = .ok (.ifCond .eq 7, 3) := by decide +kernel
theorem dX5_hasSound_27 : decode cX5_hasSound 27 = .ok (.iconst 1, 1) := by decide +kernel
theorem dX5_hasSound_28 : decode cX5_hasSound 28 = .ok (.goto 4, 3) := by decide +kernel
theorem dX5_hasSound_31 : decode cX5_hasSound 31 = .ok (.iconst 0, 1) := by decide +kernel
theorem dX5_hasSound_32 : decode cX5_hasSound 32 = .ok (.ireturn, 1) := by decide +kernel
abbrev rmX5_hasSound : Room := { frames := 2, cells := 0, slots := 0, locals := 43 }
def opX5_hasSound (po : Int32 → px_St → Prop) : List (Nat × px_Op) := [
  (0, px_al 1 0),
  (1, px_il 2 1),
  (2, px_callV dC 5 5 1 px_vI prX5_isParrot poX5_isParrot),
  (5, px_if 8 31 (fun x => x = 0)),
  (8, px_il 9 2),
  (9, px_push 10 (.int 0)),
  (10, px_al 11 0),
  (11, px_get dC 14 5 0),
  (14, px_get dC 17 0 4),
  (17, px_il 18 1),
  (18, px_ald dC 19 0),
  (19, px_push 20 (.int 1)),
  (20, px_bin 21 (fun x y => x - y)),
  (21, px_callS 24 3 px_vI prX5_isWithin poX5_isWithin),
  (24, px_if 27 31 (fun x => x = 0)),
  (27, px_push 28 (.int 1)),
  (28, px_go 32),
  (31, px_push 32 (.int 0)),
  (32, px_iret (.boolean) po)]
set_option maxRecDepth 100000 in
set_option maxHeartbeats 4000000 in
theorem okX5_hasSound : ∀ (po : Int32 → px_St → Prop) (i pc : Nat) (op : px_Op), (opX5_hasSound po)[i]? = some (pc, op) → px_Snd (cX5_hasSound, 3, RX5, Cond.code yX5_hasSound cX5_hasSound 3 (some .boolean) :: wdC, (some .boolean), rmX5_hasSound, dC) px_vI po pc op := by
  intro po
  unfold opX5_hasSound
  refine px_ok_cons (ps_aload_n dX5_hasSound_0 rfl) ?_
  refine px_ok_cons (ps_iload_n dX5_hasSound_1 rfl) ?_
  refine px_ok_cons (ps_callV mX5_isParrot (fun _ _ => rfl) (C := RX5) rfl (fun _ _ ht => px_cwV wgC (wdC_6_in _ (List.mem_of_getElem? (i := 36) rfl)) (wdC_6_in _ (List.mem_of_getElem? (i := 37) rfl)) (wdC_6_in _ (List.mem_of_getElem? (i := 38) rfl)) (wdC_4_in _ (List.mem_of_getElem? (i := 23) rfl)) (wdC_6_in _ (List.mem_of_getElem? (i := 32) rfl)) (by decide +kernel) rfl rfl (by decide) ht) dX5_hasSound_2) ?_
  refine px_ok_cons (ps_if_eq dX5_hasSound_5 (by decide)) ?_
  refine px_ok_cons (ps_iload_n dX5_hasSound_8 rfl) ?_
  refine px_ok_cons (ps_iconst dX5_hasSound_9 (by decide)) ?_
  refine px_ok_cons (ps_aload_n dX5_hasSound_10 rfl) ?_
  refine px_ok_cons (fgX5_10 dX5_hasSound_11) ?_
  refine px_ok_cons (fgX5_119 dX5_hasSound_14) ?_
  refine px_ok_cons (ps_iload_n dX5_hasSound_17 rfl) ?_
  refine px_ok_cons (ps_iaload dX5_hasSound_18) ?_
  refine px_ok_cons (ps_iconst dX5_hasSound_19 (by decide)) ?_
  refine px_ok_cons (ps_isub dX5_hasSound_20) ?_
  refine px_ok_cons (ps_callS mX5_isWithin (fun _ _ => rfl) (fun _ _ ht => px_cwS wgC (wdC_4_in _ (List.mem_of_getElem? (i := 29) rfl)) (wdC_4_in _ (List.mem_of_getElem? (i := 22) rfl)) (wdC_4_in _ (List.mem_of_getElem? (i := 23) rfl)) (wdC_4_in _ (List.mem_of_getElem? (i := 20) rfl)) (by decide +kernel) rfl rfl (by decide) ht) dX5_hasSound_21) ?_
  refine px_ok_cons (ps_if_eq dX5_hasSound_24 (by decide)) ?_
  refine px_ok_cons (ps_iconst dX5_hasSound_27 (by decide)) ?_
  refine px_ok_cons (ps_goto dX5_hasSound_28 (by decide)) ?_
  refine px_ok_cons (ps_iconst dX5_hasSound_31 (by decide)) ?_
  refine px_ok_cons (ps_ireturn rfl dX5_hasSound_32) ?_
  exact px_ok_nil
set_option maxRecDepth 100000 in
set_option maxHeartbeats 4000000 in
theorem sgX5_hasSound_0 {po : Int32 → px_St → Prop} {G : px_K} (hG : px_cl (opX5_hasSound po) G) (v1 : Int32) (v2 : Int32) (σ : px_St)
    (H : ∃ g3 : gtX5_isParrot, qrX5_isParrot g3 v1 σ ∧ ∀ (r1 : Int32) (σ2 : px_St), qoX5_isParrot g3 v1 σ r1 σ2 → ((r1 = 0) → po (0 : Int32) σ2) ∧ (¬ (r1 = 0) → vp_in v1 5 ∧ ∃ g7 : gtX5_isWithin, qrX5_isWithin g7 v2 (0 : Int32) ((σ2.1 10 v1.toNatClampNeg) - (1 : Int32)) σ2 ∧ ∀ (r5 : Int32) (σ6 : px_St), qoX5_isWithin g7 v2 (0 : Int32) ((σ2.1 10 v1.toNatClampNeg) - (1 : Int32)) σ2 r5 σ6 → ((r5 = 0) → po (0 : Int32) σ6) ∧ (¬ (r5 = 0) → po (1 : Int32) σ6))) :
    G 0 (px_ent 3 [.ref 0, .int v1, .int v2]) [] σ := by
  refine hG.1 0 _ _ rfl _ _ _ ?_
  refine hG.1 1 _ _ rfl _ _ _ ?_
  refine hG.1 2 _ _ rfl _ _ _ ?_
  obtain ⟨g3, H⟩ := H
  refine ⟨⟨rfl, by decide⟩, Nat.le_of_ble_eq_true rfl, g3, ⟨_, rfl, H.1⟩, fun r1 σ2 hp4 => ?_⟩
  replace H := H.2 r1 σ2 hp4
  refine hG.1 3 _ _ rfl _ _ _ ?_
  refine ⟨fun h10 => ?_, fun h10 => ?_⟩
  · replace H := H.1 h10
    refine hG.1 17 _ _ rfl _ _ _ ?_
    refine hG.1 18 _ _ rfl _ _ _ ?_
    exact ⟨rfl, H⟩
  · replace H := H.2 h10
    refine hG.1 4 _ _ rfl _ _ _ ?_
    refine hG.1 5 _ _ rfl _ _ _ ?_
    refine hG.1 6 _ _ rfl _ _ _ ?_
    refine hG.1 7 _ _ rfl _ _ _ ?_
    refine ⟨⟨rfl, by decide⟩, ?_⟩
    refine hG.1 8 _ _ rfl _ _ _ ?_
    refine ⟨⟨rfl, by decide⟩, ?_⟩
    refine hG.1 9 _ _ rfl _ _ _ ?_
    refine hG.1 10 _ _ rfl _ _ _ ?_
    refine ⟨⟨rfl, by decide⟩, H.1, ?_⟩
    replace H := H.2
    refine hG.1 11 _ _ rfl _ _ _ ?_
    refine hG.1 12 _ _ rfl _ _ _ ?_
    refine hG.1 13 _ _ rfl _ _ _ ?_
    obtain ⟨g7, H⟩ := H
    refine ⟨Nat.le_of_ble_eq_true rfl, Nat.le_of_ble_eq_true rfl, g7, ⟨_, _, _, rfl, H.1⟩, fun r5 σ6 hp8 => ?_⟩
    replace H := H.2 r5 σ6 hp8
    refine hG.1 14 _ _ rfl _ _ _ ?_
    refine ⟨fun h9 => ?_, fun h9 => ?_⟩
    · replace H := H.1 h9
      refine hG.1 17 _ _ rfl _ _ _ ?_
      refine hG.1 18 _ _ rfl _ _ _ ?_
      exact ⟨rfl, H⟩
    · replace H := H.2 h9
      refine hG.1 15 _ _ rfl _ _ _ ?_
      refine hG.1 16 _ _ rfl _ _ _ ?_
      refine hG.1 18 _ _ rfl _ _ _ ?_
      exact ⟨rfl, H⟩
set_option maxRecDepth 100000 in
set_option maxHeartbeats 4000000 in
theorem hhX5_hasSound (g : gtX5_hasSound) (v1 : Int32) (v2 : Int32) (σ : px_St) (h : qrX5_hasSound g v1 v2 σ) (G : px_K) (hG : px_cl (opX5_hasSound (qoX5_hasSound g v1 v2 σ)) G) : G 0 (px_ent 3 [.ref 0, .int v1, .int v2]) [] σ := by
  obtain ⟨hV, hw⟩ := h
  have h5 := hw.1
  refine sgX5_hasSound_0 hG _ _ σ ⟨g, hV, fun r1 σ1 h1 => ?_⟩
  obtain ⟨rfl, b1⟩ := h1
  rw [px_b_0 b1]
  refine ⟨fun z => ⟨rfl, Or.inr ⟨fun y => z y.1, rfl⟩⟩, fun z1 => ?_⟩
  have z1' := Classical.byContradiction z1
  obtain ⟨p, hp, rfl⟩ := (rng1 (by omega)).mp z1'
  rw [nI_clamp (by omega), (hV.2 p hp).2.1]
  refine ⟨vp_in_nI (by omega) (by decide), (), trivial, fun r2 σ2 h2 => ?_⟩
  obtain ⟨rfl, b2⟩ := h2
  rw [px_b_0 b2]
  refine ⟨fun z => ⟨rfl, Or.inr ⟨fun y => z ?_, rfl⟩⟩, fun z2 => ⟨rfl, Or.inl ⟨⟨z1', ?_⟩, rfl⟩⟩⟩
  · have y2 := y.2
    rw [nI_clamp (by omega)] at y2
    exact y2
  · rw [nI_clamp (by omega)]
    exact Classical.byContradiction z2
theorem mX5_hasSound (g : gtX5_hasSound) : px_Met dC yX5_hasSound (Cond.code yX5_hasSound cX5_hasSound 3 (some .boolean) :: wdC) rmX5_hasSound px_vI (prX5_hasSound g) (poX5_hasSound g) :=
  px_met (Z := (cX5_hasSound, 3, RX5, Cond.code yX5_hasSound cX5_hasSound 3 (some .boolean) :: wdC, (some .boolean), rmX5_hasSound, dC)) opX5_hasSound (by decide) rfl rfl okX5_hasSound (fun As σ h => by obtain ⟨v1, v2, rfl, h⟩ := h; exact Nat.le_of_ble_eq_true rfl) (fun As σ h G hG => by obtain ⟨v1, v2, rfl, h⟩ := h; exact hhX5_hasSound g v1 v2 σ h G hG)
abbrev gtX5_foretell : Type := pv_V × Nat
def qrX5_foretell : gtX5_foretell → Nat → Int32 → px_St → Prop
  | (V, n), a, v2, σ => a ≠ 18 ∧ av_is σ a V ∧ pv_ok V ∧ V.2.2.1 < 1900 ∧ n ≤ 62 ∧ v2 = nI n
def qoX5_foretell : gtX5_foretell → Nat → Int32 → px_St → Unit → px_St → Prop
  | (V, n), _, _, σ, _, σ' => av_is σ' 18 (pv_run V n) ∧ (∀ d, d < n → σ'.1 1 d = pv_said (pv_run V d)) ∧ px_fs σ σ'
def prX5_foretell (g : gtX5_foretell) : List Value → px_St → Prop := fun As σ => ∃ v1 : Nat, ∃ v2 : Int32, As = [.ref 0, .ref v1, .int v2] ∧ px_av v1 ∧ qrX5_foretell g v1 v2 σ
def poX5_foretell (g : gtX5_foretell) : List Value → px_St → Unit → px_St → Prop
  | [.ref _, .ref v1, .int v2], σ, r, σ' => qoX5_foretell g v1 v2 σ r σ'
  | _, _, _, _ => False
theorem dX5_foretell_0 : decode cX5_foretell 0 = .ok (.aload_n 0, 1) := by decide +kernel
theorem dX5_foretell_1 : decode cX5_foretell 1 = .ok (.getfield 26, 3) := by decide +kernel
theorem dX5_foretell_4 : decode cX5_foretell 4 = .ok (.aload_n 1, 1) := by decide +kernel
theorem dX5_foretell_5 : decode cX5_foretell 5 = .ok (.invokevirtual 82, 3) := by decide +kernel
theorem dX5_foretell_8 : decode cX5_foretell 8 = .ok (.iconst 0, 1) := by decide +kernel
theorem dX5_foretell_9 : decode cX5_foretell 9 = .ok (.istore_n 3, 1) := by decide +kernel
theorem dX5_foretell_10 : decode cX5_foretell 10 = .ok (.iload_n 3, 1) := by decide +kernel
theorem dX5_foretell_11 : decode cX5_foretell 11 = .ok (.iload_n 2, 1) := by decide +kernel
theorem dX5_foretell_12 : decode cX5_foretell 12 = .ok (.if_icmp .ge 22, 3) := by decide +kernel
theorem dX5_foretell_15 : decode cX5_foretell 15 = .ok (.aload_n 0, 1) := by decide +kernel
theorem dX5_foretell_16 : decode cX5_foretell 16 = .ok (.getfield 29, 3) := by decide +kernel
theorem dX5_foretell_19 : decode cX5_foretell 19 = .ok (.iload_n 3, 1) := by decide +kernel
theorem dX5_foretell_20 : decode cX5_foretell 20 = .ok (.aload_n 0, 1) := by decide +kernel
theorem dX5_foretell_21 : decode cX5_foretell 21 = .ok (.getfield 26, 3) := by decide +kernel
theorem dX5_foretell_24 : decode cX5_foretell 24 = .ok (.invokevirtual 156, 3) := by decide +kernel
theorem dX5_foretell_27 : decode cX5_foretell 27 = .ok (.iastore, 1) := by decide +kernel
theorem dX5_foretell_28 : decode cX5_foretell 28 = .ok (.iinc 3 1, 3) := by decide +kernel
theorem dX5_foretell_31 : decode cX5_foretell 31 = .ok (.goto (-21), 3) := by decide +kernel
theorem dX5_foretell_34 : decode cX5_foretell 34 = .ok (.return_, 1) := by decide +kernel
abbrev rmX5_foretell : Room := { frames := 4, cells := 0, slots := 0, locals := 105 }
def opX5_foretell (po : Unit → px_St → Prop) : List (Nat × px_Op) := [
  (0, px_al 1 0),
  (1, px_get dC 4 5 3),
  (4, px_al 5 1),
  (5, px_callV dC 8 0 1 px_vV prX0_becomes poX0_becomes),
  (8, px_push 9 (.int 0)),
  (9, px_is 10 3),
  (10, px_il 11 3),
  (11, px_il 12 2),
  (12, px_ic 15 34 (fun x y => y ≤ x)),
  (15, px_al 16 0),
  (16, px_get dC 19 5 4),
  (19, px_il 20 3),
  (20, px_al 21 0),
  (21, px_get dC 24 5 3),
  (24, px_callV dC 27 0 0 px_vI prX0_passDay poX0_passDay),
  (27, px_ast dC 28 0 (fun x => x)),
  (28, px_inc 31 3 1),
  (31, px_go 10),
  (34, px_vret po)]
set_option maxRecDepth 100000 in
set_option maxHeartbeats 4000000 in
theorem okX5_foretell : ∀ (po : Unit → px_St → Prop) (i pc : Nat) (op : px_Op), (opX5_foretell po)[i]? = some (pc, op) → px_Snd (cX5_foretell, 4, RX5, Cond.code yX5_foretell cX5_foretell 4 none :: wdC, none, rmX5_foretell, dC) px_vV po pc op := by
  intro po
  unfold opX5_foretell
  refine px_ok_cons (ps_aload_n dX5_foretell_0 rfl) ?_
  refine px_ok_cons (fgX5_26 dX5_foretell_1) ?_
  refine px_ok_cons (ps_aload_n dX5_foretell_4 rfl) ?_
  refine px_ok_cons (ps_callV mX0_becomes (fun _ _ => rfl) (C := RX0) rfl (fun _ _ ht => px_cwV wgC (wdC_6_in _ (List.mem_of_getElem? (i := 18) rfl)) (wdC_6_in _ (List.mem_of_getElem? (i := 19) rfl)) (wdC_6_in _ (List.mem_of_getElem? (i := 20) rfl)) (wdC_0_in _ (List.mem_of_getElem? (i := 22) rfl)) (wdC_0_in _ (List.mem_of_getElem? (i := 18) rfl)) (by decide +kernel) rfl rfl (by decide) ht) dX5_foretell_5) ?_
  refine px_ok_cons (ps_iconst dX5_foretell_8 (by decide)) ?_
  refine px_ok_cons (ps_istore_n dX5_foretell_9 rfl (by decide)) ?_
  refine px_ok_cons (ps_iload_n dX5_foretell_10 rfl) ?_
  refine px_ok_cons (ps_iload_n dX5_foretell_11 rfl) ?_
  refine px_ok_cons (ps_icmp_ge dX5_foretell_12 (by decide)) ?_
  refine px_ok_cons (ps_aload_n dX5_foretell_15 rfl) ?_
  refine px_ok_cons (fgX5_29 dX5_foretell_16) ?_
  refine px_ok_cons (ps_iload_n dX5_foretell_19 rfl) ?_
  refine px_ok_cons (ps_aload_n dX5_foretell_20 rfl) ?_
  refine px_ok_cons (fgX5_26 dX5_foretell_21) ?_
  refine px_ok_cons (ps_callV mX0_passDay (fun _ _ => rfl) (C := RX0) rfl (fun _ _ ht => px_cwV wgC (wdC_7_in _ (List.mem_of_getElem? (i := 30) rfl)) (wdC_7_in _ (List.mem_of_getElem? (i := 31) rfl)) (wdC_7_in _ (List.mem_of_getElem? (i := 32) rfl)) (wdC_0_in _ (List.mem_of_getElem? (i := 22) rfl)) (wdC_1_in _ (List.mem_of_getElem? (i := 24) rfl)) (by decide +kernel) rfl rfl (by decide) ht) dX5_foretell_24) ?_
  refine px_ok_cons (ps_iastore dX5_foretell_27) ?_
  refine px_ok_cons (ps_iinc dX5_foretell_28 (by decide) (by decide)) ?_
  refine px_ok_cons (ps_goto dX5_foretell_31 (by decide)) ?_
  refine px_ok_cons (ps_return rfl dX5_foretell_34) ?_
  exact px_ok_nil
set_option maxRecDepth 100000 in
set_option maxHeartbeats 4000000 in
theorem sgX5_foretell_0 {po : Unit → px_St → Prop} {G : px_K} (hG : px_cl (opX5_foretell po) G) (v1 : Nat) (hv1 : px_av v1) (v2 : Int32) (σ : px_St)
    (H : ∃ g3 : gtX0_becomes, qrX0_becomes g3 18 v1 σ ∧ ∀ (r1 : Unit) (σ2 : px_St), qoX0_becomes g3 18 v1 σ r1 σ2 → G 10 [some (.ref 0), some (.ref v1), some (.int v2), some (.int (0 : Int32))] [] σ2) :
    G 0 (px_ent 4 [.ref 0, .ref v1, .int v2]) [] σ := by
  refine hG.1 0 _ _ rfl _ _ _ ?_
  refine hG.1 1 _ _ rfl _ _ _ ?_
  refine ⟨⟨rfl, by decide⟩, ?_⟩
  refine hG.1 2 _ _ rfl _ _ _ ?_
  refine hG.1 3 _ _ rfl _ _ _ ?_
  obtain ⟨g3, H⟩ := H
  refine ⟨⟨rfl, by decide⟩, Nat.le_of_ble_eq_true rfl, g3, ⟨_, _, rfl, (Or.inr (Or.inr (Or.inl rfl))), hv1, H.1⟩, fun r1 σ2 hp4 => ?_⟩
  replace H := H.2 r1 σ2 hp4
  refine hG.1 4 _ _ rfl _ _ _ ?_
  refine hG.1 5 _ _ rfl _ _ _ ?_
  show G 10 [some (.ref 0), some (.ref v1), some (.int v2), some (.int (0 : Int32))] [] σ2
  exact H
set_option maxRecDepth 100000 in
set_option maxHeartbeats 4000000 in
theorem sgX5_foretell_10 {po : Unit → px_St → Prop} {G : px_K} (hG : px_cl (opX5_foretell po) G) (v1 : Nat) (hv1 : px_av v1) (v2 : Int32) (v3 : Int32) (σ : px_St)
    (H : ((v2 ≤ v3) → po () σ) ∧ (¬ (v2 ≤ v3) → ∃ g3 : gtX0_passDay, qrX0_passDay g3 18 σ ∧ ∀ (r1 : Int32) (σ2 : px_St), qoX0_passDay g3 18 σ r1 σ2 → vp_in v3 62 ∧ G 10 [some (.ref 0), some (.ref v1), some (.int v2), some (.int (v3 + 1))] [] (px_up σ2 1 v3.toNatClampNeg r1))) :
    G 10 [some (.ref 0), some (.ref v1), some (.int v2), some (.int v3)] [] σ := by
  refine hG.1 6 _ _ rfl _ _ _ ?_
  refine hG.1 7 _ _ rfl _ _ _ ?_
  refine hG.1 8 _ _ rfl _ _ _ ?_
  refine ⟨fun h5 => ?_, fun h5 => ?_⟩
  · replace H := H.1 h5
    refine hG.1 18 _ _ rfl _ _ _ ?_
    exact H
  · replace H := H.2 h5
    refine hG.1 9 _ _ rfl _ _ _ ?_
    refine hG.1 10 _ _ rfl _ _ _ ?_
    refine ⟨⟨rfl, by decide⟩, ?_⟩
    refine hG.1 11 _ _ rfl _ _ _ ?_
    refine hG.1 12 _ _ rfl _ _ _ ?_
    refine hG.1 13 _ _ rfl _ _ _ ?_
    refine ⟨⟨rfl, by decide⟩, ?_⟩
    refine hG.1 14 _ _ rfl _ _ _ ?_
    obtain ⟨g3, H⟩ := H
    refine ⟨⟨rfl, by decide⟩, Nat.le_of_ble_eq_true rfl, g3, ⟨_, rfl, (Or.inr (Or.inr (Or.inl rfl))), H.1⟩, fun r1 σ2 hp4 => ?_⟩
    replace H := H.2 r1 σ2 hp4
    refine hG.1 15 _ _ rfl _ _ _ ?_
    refine ⟨⟨rfl, by decide⟩, H.1, ?_⟩
    replace H := H.2
    refine hG.1 16 _ _ rfl _ _ _ ?_
    show G 31 [some (.ref 0), some (.ref v1), some (.int v2), some (.int (v3 + 1))] [] (px_up σ2 1 v3.toNatClampNeg r1)
    refine hG.1 17 _ _ rfl _ _ _ ?_
    exact H
set_option maxRecDepth 100000 in
set_option maxHeartbeats 4000000 in
theorem hhX5_foretell (g : gtX5_foretell) (v1 : Nat) (hv1 : px_av v1) (v2 : Int32) (σ : px_St) (h : qrX5_foretell g v1 v2 σ) (G : px_K) (hG : px_cl (opX5_foretell (qoX5_foretell g v1 v2 σ)) G) : G 0 (px_ent 4 [.ref 0, .ref v1, .int v2]) [] σ := by
  obtain ⟨V, n⟩ := g
  obtain ⟨hne, hV, hok, hd, hn, rfl⟩ := h
  refine sgX5_foretell_0 hG v1 hv1 _ σ ⟨V, ⟨fun z => hne z.symm, hV, hok.1⟩, fun _ σ2 hq => ?_⟩
  obtain ⟨q1, q2⟩ := hq
  have loop : ∀ m d, d + m = n → ∀ σ', av_is σ' 18 (pv_run V d) → (∀ e, e < d → σ'.1 1 e = pv_said (pv_run V e)) → px_fs σ σ' →
      G 10 [some (.ref 0), some (.ref v1), some (.int (nI n)), some (.int (nI d))] [] σ' := by
    intro m
    induction m with
    | zero =>
      intro d hdn σ' h1 h2 h3
      have e : d = n := by omega
      subst e
      exact sgX5_foretell_10 hG v1 hv1 _ _ σ' ⟨fun _ => ⟨h1, h2, h3⟩, fun z => absurd (Int32.le_refl _) z⟩
    | succ m ih =>
      intro d hdn σ' h1 h2 h3
      refine sgX5_foretell_10 hG v1 hv1 _ _ σ' ⟨fun z => absurd z (nI_ge (by omega) (by omega)), fun _ => ⟨pv_run V d, ⟨h1, pv_run_ok hok d (by omega), by rw [(pv_run_n V d).2.2]; omega⟩, fun r σ3 hp => ?_⟩⟩
      obtain ⟨rfl, p2, p3⟩ := hp
      rw [nI_clamp (by omega), nI_1]
      refine ⟨vp_in_nI (by omega) (by decide), ih (d + 1) (by omega) _ (p2.kept (fun k h4 h5 => px_up_n (by omega))) (fun e he => ?_) (fun k h4 h5 => ?_)⟩
      · rw [px_up_at]
        by_cases hed : e = d
        · rw [if_pos ⟨rfl, hed⟩, hed]
        · rw [if_neg (by omega), p3.1 1 (by omega)]
          exact h2 e (by omega)
      · rw [px_up_n h4, p3.1 k (by omega)]
        exact h3 k h4 h5
  exact loop n 0 (by omega) σ2 q1 (fun e he => by omega) (fun k h4 h5 => q2.1 k (by omega))
theorem mX5_foretell (g : gtX5_foretell) : px_Met dC yX5_foretell (Cond.code yX5_foretell cX5_foretell 4 none :: wdC) rmX5_foretell px_vV (prX5_foretell g) (poX5_foretell g) :=
  px_met (Z := (cX5_foretell, 4, RX5, Cond.code yX5_foretell cX5_foretell 4 none :: wdC, none, rmX5_foretell, dC)) opX5_foretell (by decide) rfl rfl okX5_foretell (fun As σ h => by obtain ⟨v1, v2, rfl, hv1, h⟩ := h; exact Nat.le_of_ble_eq_true rfl) (fun As σ h G hG => by obtain ⟨v1, v2, rfl, hv1, h⟩ := h; exact hhX5_foretell g v1 hv1 v2 σ h G hG)
abbrev gtX5_timesSaid : Type := pv_V × Nat × Nat
def qrX5_timesSaid : gtX5_timesSaid → Nat → Int32 → Int32 → px_St → Prop
  | (V, s, n), a, v2, v3, σ => a ≠ 18 ∧ av_is σ a V ∧ pv_ok V ∧ V.2.2.1 < 1900 ∧ n ≤ 62 ∧ v2 = nI s ∧ v3 = nI n
def qoX5_timesSaid : gtX5_timesSaid → Nat → Int32 → Int32 → px_St → Int32 → px_St → Prop
  | (V, s, n), _, _, _, σ, r, σ' => r = nI (pv_times V s n) ∧ px_fs σ σ'
def prX5_timesSaid (g : gtX5_timesSaid) : List Value → px_St → Prop := fun As σ => ∃ v1 : Nat, ∃ v2 : Int32, ∃ v3 : Int32, As = [.ref 0, .ref v1, .int v2, .int v3] ∧ px_av v1 ∧ qrX5_timesSaid g v1 v2 v3 σ
def poX5_timesSaid (g : gtX5_timesSaid) : List Value → px_St → Int32 → px_St → Prop
  | [.ref _, .ref v1, .int v2, .int v3], σ, r, σ' => qoX5_timesSaid g v1 v2 v3 σ r σ'
  | _, _, _, _ => False
theorem dX5_timesSaid_0 : decode cX5_timesSaid 0 = .ok (.aload_n 0, 1) := by decide +kernel
theorem dX5_timesSaid_1 : decode cX5_timesSaid 1 = .ok (.aload_n 1, 1) := by decide +kernel
theorem dX5_timesSaid_2 : decode cX5_timesSaid 2 = .ok (.iload_n 3, 1) := by decide +kernel
theorem dX5_timesSaid_3 : decode cX5_timesSaid 3 = .ok (.invokevirtual 170, 3) := by decide +kernel
theorem dX5_timesSaid_6 : decode cX5_timesSaid 6 = .ok (.iconst 0, 1) := by decide +kernel
theorem dX5_timesSaid_7 : decode cX5_timesSaid 7 = .ok (.istore 4, 2) := by decide +kernel
theorem dX5_timesSaid_9 : decode cX5_timesSaid 9 = .ok (.iconst 0, 1) := by decide +kernel
theorem dX5_timesSaid_10 : decode cX5_timesSaid 10 = .ok (.istore 5, 2) := by decide +kernel
theorem dX5_timesSaid_12 : decode cX5_timesSaid 12 = .ok (.iload 5, 2) := by decide +kernel
theorem dX5_timesSaid_14 : decode cX5_timesSaid 14 = .ok (.iload_n 3, 1) := by decide +kernel
theorem dX5_timesSaid_15 : decode cX5_timesSaid 15 = .ok (.if_icmp .ge 23, 3) := by decide +kernel
theorem dX5_timesSaid_18 : decode cX5_timesSaid 18 = .ok (.aload_n 0, 1) := by decide +kernel
theorem dX5_timesSaid_19 : decode cX5_timesSaid 19 = .ok (.getfield 29, 3) := by decide +kernel
theorem dX5_timesSaid_22 : decode cX5_timesSaid 22 = .ok (.iload 5, 2) := by decide +kernel
theorem dX5_timesSaid_24 : decode cX5_timesSaid 24 = .ok (.iaload, 1) := by decide +kernel
theorem dX5_timesSaid_25 : decode cX5_timesSaid 25 = .ok (.iload_n 2, 1) := by decide +kernel
theorem dX5_timesSaid_26 : decode cX5_timesSaid 26 = .ok (.if_icmp .ne 6, 3) := by decide +kernel
theorem dX5_timesSaid_29 : decode cX5_timesSaid 29 = .ok (.iinc 4 1, 3) := by decide +kernel
theorem dX5_timesSaid_32 : decode cX5_timesSaid 32 = .ok (.iinc 5 1, 3) := by decide +kernel
theorem dX5_timesSaid_35 : decode cX5_timesSaid 35 = .ok (.goto (-23), 3) := by decide +kernel
theorem dX5_timesSaid_38 : decode cX5_timesSaid 38 = .ok (.iload 4, 2) := by decide +kernel
theorem dX5_timesSaid_40 : decode cX5_timesSaid 40 = .ok (.ireturn, 1) := by decide +kernel
abbrev rmX5_timesSaid : Room := { frames := 5, cells := 0, slots := 0, locals := 128 }
def opX5_timesSaid (po : Int32 → px_St → Prop) : List (Nat × px_Op) := [
  (0, px_al 1 0),
  (1, px_al 2 1),
  (2, px_il 3 3),
  (3, px_callV dC 6 5 2 px_vV prX5_foretell poX5_foretell),
  (6, px_push 7 (.int 0)),
  (7, px_is 9 4),
  (9, px_push 10 (.int 0)),
  (10, px_is 12 5),
  (12, px_il 14 5),
  (14, px_il 15 3),
  (15, px_ic 18 38 (fun x y => y ≤ x)),
  (18, px_al 19 0),
  (19, px_get dC 22 5 4),
  (22, px_il 24 5),
  (24, px_ald dC 25 0),
  (25, px_il 26 2),
  (26, px_ic 29 32 (fun x y => ¬ x = y)),
  (29, px_inc 32 4 1),
  (32, px_inc 35 5 1),
  (35, px_go 12),
  (38, px_il 40 4),
  (40, px_iret (.int) po)]
set_option maxRecDepth 100000 in
set_option maxHeartbeats 4000000 in
theorem okX5_timesSaid : ∀ (po : Int32 → px_St → Prop) (i pc : Nat) (op : px_Op), (opX5_timesSaid po)[i]? = some (pc, op) → px_Snd (cX5_timesSaid, 6, RX5, Cond.code yX5_timesSaid cX5_timesSaid 6 (some .int) :: wdC, (some .int), rmX5_timesSaid, dC) px_vI po pc op := by
  intro po
  unfold opX5_timesSaid
  refine px_ok_cons (ps_aload_n dX5_timesSaid_0 rfl) ?_
  refine px_ok_cons (ps_aload_n dX5_timesSaid_1 rfl) ?_
  refine px_ok_cons (ps_iload_n dX5_timesSaid_2 rfl) ?_
  refine px_ok_cons (ps_callV mX5_foretell (fun _ _ => rfl) (C := RX5) rfl (fun _ _ ht => px_cwV wgC (wdC_8_in _ (List.mem_of_getElem? (i := 3) rfl)) (wdC_8_in _ (List.mem_of_getElem? (i := 4) rfl)) (wdC_8_in _ (List.mem_of_getElem? (i := 5) rfl)) (wdC_4_in _ (List.mem_of_getElem? (i := 23) rfl)) (wdC_8_in _ (List.mem_of_getElem? (i := 0) rfl)) (by decide +kernel) rfl rfl (by decide) ht) dX5_timesSaid_3) ?_
  refine px_ok_cons (ps_iconst dX5_timesSaid_6 (by decide)) ?_
  refine px_ok_cons (ps_istore dX5_timesSaid_7 (by decide)) ?_
  refine px_ok_cons (ps_iconst dX5_timesSaid_9 (by decide)) ?_
  refine px_ok_cons (ps_istore dX5_timesSaid_10 (by decide)) ?_
  refine px_ok_cons (ps_iload dX5_timesSaid_12) ?_
  refine px_ok_cons (ps_iload_n dX5_timesSaid_14 rfl) ?_
  refine px_ok_cons (ps_icmp_ge dX5_timesSaid_15 (by decide)) ?_
  refine px_ok_cons (ps_aload_n dX5_timesSaid_18 rfl) ?_
  refine px_ok_cons (fgX5_29 dX5_timesSaid_19) ?_
  refine px_ok_cons (ps_iload dX5_timesSaid_22) ?_
  refine px_ok_cons (ps_iaload dX5_timesSaid_24) ?_
  refine px_ok_cons (ps_iload_n dX5_timesSaid_25 rfl) ?_
  refine px_ok_cons (ps_icmp_ne dX5_timesSaid_26 (by decide)) ?_
  refine px_ok_cons (ps_iinc dX5_timesSaid_29 (by decide) (by decide)) ?_
  refine px_ok_cons (ps_iinc dX5_timesSaid_32 (by decide) (by decide)) ?_
  refine px_ok_cons (ps_goto dX5_timesSaid_35 (by decide)) ?_
  refine px_ok_cons (ps_iload dX5_timesSaid_38) ?_
  refine px_ok_cons (ps_ireturn rfl dX5_timesSaid_40) ?_
  exact px_ok_nil
set_option maxRecDepth 100000 in
set_option maxHeartbeats 4000000 in
theorem sgX5_timesSaid_0 {po : Int32 → px_St → Prop} {G : px_K} (hG : px_cl (opX5_timesSaid po) G) (v1 : Nat) (hv1 : px_av v1) (v2 : Int32) (v3 : Int32) (σ : px_St)
    (H : ∃ g3 : gtX5_foretell, qrX5_foretell g3 v1 v3 σ ∧ ∀ (r1 : Unit) (σ2 : px_St), qoX5_foretell g3 v1 v3 σ r1 σ2 → G 12 [some (.ref 0), some (.ref v1), some (.int v2), some (.int v3), some (.int (0 : Int32)), some (.int (0 : Int32))] [] σ2) :
    G 0 (px_ent 6 [.ref 0, .ref v1, .int v2, .int v3]) [] σ := by
  refine hG.1 0 _ _ rfl _ _ _ ?_
  refine hG.1 1 _ _ rfl _ _ _ ?_
  refine hG.1 2 _ _ rfl _ _ _ ?_
  refine hG.1 3 _ _ rfl _ _ _ ?_
  obtain ⟨g3, H⟩ := H
  refine ⟨⟨rfl, by decide⟩, Nat.le_of_ble_eq_true rfl, g3, ⟨_, _, rfl, hv1, H.1⟩, fun r1 σ2 hp4 => ?_⟩
  replace H := H.2 r1 σ2 hp4
  refine hG.1 4 _ _ rfl _ _ _ ?_
  refine hG.1 5 _ _ rfl _ _ _ ?_
  show G 9 [some (.ref 0), some (.ref v1), some (.int v2), some (.int v3), some (.int (0 : Int32)), none] [] σ2
  refine hG.1 6 _ _ rfl _ _ _ ?_
  refine hG.1 7 _ _ rfl _ _ _ ?_
  show G 12 [some (.ref 0), some (.ref v1), some (.int v2), some (.int v3), some (.int (0 : Int32)), some (.int (0 : Int32))] [] σ2
  exact H
set_option maxRecDepth 100000 in
set_option maxHeartbeats 4000000 in
theorem sgX5_timesSaid_12 {po : Int32 → px_St → Prop} {G : px_K} (hG : px_cl (opX5_timesSaid po) G) (v1 : Nat) (hv1 : px_av v1) (v2 : Int32) (v3 : Int32) (v4 : Int32) (v5 : Int32) (σ : px_St)
    (H : ((v3 ≤ v5) → po v4 σ) ∧ (¬ (v3 ≤ v5) → vp_in v5 62 ∧ ((¬ (σ.1 1 v5.toNatClampNeg) = v2) → G 12 [some (.ref 0), some (.ref v1), some (.int v2), some (.int v3), some (.int v4), some (.int (v5 + 1))] [] σ) ∧ (¬ (¬ (σ.1 1 v5.toNatClampNeg) = v2) → G 12 [some (.ref 0), some (.ref v1), some (.int v2), some (.int v3), some (.int (v4 + 1)), some (.int (v5 + 1))] [] σ))) :
    G 12 [some (.ref 0), some (.ref v1), some (.int v2), some (.int v3), some (.int v4), some (.int v5)] [] σ := by
  refine hG.1 8 _ _ rfl _ _ _ ?_
  refine hG.1 9 _ _ rfl _ _ _ ?_
  refine hG.1 10 _ _ rfl _ _ _ ?_
  refine ⟨fun h2 => ?_, fun h2 => ?_⟩
  · replace H := H.1 h2
    refine hG.1 20 _ _ rfl _ _ _ ?_
    refine hG.1 21 _ _ rfl _ _ _ ?_
    exact ⟨rfl, H⟩
  · replace H := H.2 h2
    refine hG.1 11 _ _ rfl _ _ _ ?_
    refine hG.1 12 _ _ rfl _ _ _ ?_
    refine ⟨⟨rfl, by decide⟩, ?_⟩
    refine hG.1 13 _ _ rfl _ _ _ ?_
    refine hG.1 14 _ _ rfl _ _ _ ?_
    refine ⟨⟨rfl, by decide⟩, H.1, ?_⟩
    replace H := H.2
    refine hG.1 15 _ _ rfl _ _ _ ?_
    refine hG.1 16 _ _ rfl _ _ _ ?_
    refine ⟨fun h1 => ?_, fun h1 => ?_⟩
    · replace H := H.1 h1
      refine hG.1 18 _ _ rfl _ _ _ ?_
      show G 35 [some (.ref 0), some (.ref v1), some (.int v2), some (.int v3), some (.int v4), some (.int (v5 + 1))] [] σ
      refine hG.1 19 _ _ rfl _ _ _ ?_
      exact H
    · replace H := H.2 h1
      refine hG.1 17 _ _ rfl _ _ _ ?_
      show G 32 [some (.ref 0), some (.ref v1), some (.int v2), some (.int v3), some (.int (v4 + 1)), some (.int v5)] [] σ
      refine hG.1 18 _ _ rfl _ _ _ ?_
      show G 35 [some (.ref 0), some (.ref v1), some (.int v2), some (.int v3), some (.int (v4 + 1)), some (.int (v5 + 1))] [] σ
      refine hG.1 19 _ _ rfl _ _ _ ?_
      exact H
set_option maxRecDepth 100000 in
set_option maxHeartbeats 4000000 in
theorem hhX5_timesSaid (g : gtX5_timesSaid) (v1 : Nat) (hv1 : px_av v1) (v2 : Int32) (v3 : Int32) (σ : px_St) (h : qrX5_timesSaid g v1 v2 v3 σ) (G : px_K) (hG : px_cl (opX5_timesSaid (qoX5_timesSaid g v1 v2 v3 σ)) G) : G 0 (px_ent 6 [.ref 0, .ref v1, .int v2, .int v3]) [] σ := by
  obtain ⟨V, s, n⟩ := g
  obtain ⟨hne, hV, hok, hd, hn, rfl, rfl⟩ := h
  refine sgX5_timesSaid_0 hG v1 hv1 _ _ σ ⟨(V, n), ⟨hne, hV, hok, hd, hn, rfl⟩, fun _ σ2 hq => ?_⟩
  obtain ⟨-, q2, q3⟩ := hq
  have loop : ∀ m d, d + m = n → G 12 [some (.ref 0), some (.ref v1), some (.int (nI s)), some (.int (nI n)), some (.int (nI (pv_times V s d))), some (.int (nI d))] [] σ2 := by
    intro m
    induction m with
    | zero =>
      intro d hdn
      have e : d = n := by omega
      subst e
      exact sgX5_timesSaid_12 hG v1 hv1 _ _ _ _ σ2 ⟨fun _ => ⟨rfl, q3⟩, fun z => absurd (Int32.le_refl _) z⟩
    | succ m ih =>
      intro d hdn
      refine sgX5_timesSaid_12 hG v1 hv1 _ _ _ _ σ2 ⟨fun z => absurd z (nI_ge (by omega) (by omega)), fun _ => ?_⟩
      rw [nI_clamp (by omega), q2 d (by omega), nI_1, nI_1]
      have e := ih (d + 1) (by omega)
      rw [pv_times] at e
      refine ⟨vp_in_nI (by omega) (by decide), fun z => ?_, fun z => ?_⟩
      · rw [if_neg z] at e; exact e
      · rw [if_pos (Classical.byContradiction z)] at e; exact e
  exact loop n 0 (by omega)
theorem mX5_timesSaid (g : gtX5_timesSaid) : px_Met dC yX5_timesSaid (Cond.code yX5_timesSaid cX5_timesSaid 6 (some .int) :: wdC) rmX5_timesSaid px_vI (prX5_timesSaid g) (poX5_timesSaid g) :=
  px_met (Z := (cX5_timesSaid, 6, RX5, Cond.code yX5_timesSaid cX5_timesSaid 6 (some .int) :: wdC, (some .int), rmX5_timesSaid, dC)) opX5_timesSaid (by decide) rfl rfl okX5_timesSaid (fun As σ h => by obtain ⟨v1, v2, v3, rfl, hv1, h⟩ := h; exact Nat.le_of_ble_eq_true rfl) (fun As σ h G hG => by obtain ⟨v1, v2, v3, rfl, hv1, h⟩ := h; exact hhX5_timesSaid g v1 hv1 v2 v3 σ h G hG)
abbrev gtX5_firstSaid : Type := pv_V × Nat
def qrX5_firstSaid : gtX5_firstSaid → Nat → Int32 → px_St → Prop
  | (V, s), a, v2, σ => a ≠ 18 ∧ av_is σ a V ∧ pv_ok V ∧ V.2.2.1 < 1900 ∧ v2 = nI s
def qoX5_firstSaid : gtX5_firstSaid → Nat → Int32 → px_St → Int32 → px_St → Prop
  | (V, s), _, _, σ, r, σ' => r = nI (pv_ff V s 61 0) ∧ px_fs σ σ'
def prX5_firstSaid (g : gtX5_firstSaid) : List Value → px_St → Prop := fun As σ => ∃ v1 : Nat, ∃ v2 : Int32, As = [.ref 0, .ref v1, .int v2] ∧ px_av v1 ∧ qrX5_firstSaid g v1 v2 σ
def poX5_firstSaid (g : gtX5_firstSaid) : List Value → px_St → Int32 → px_St → Prop
  | [.ref _, .ref v1, .int v2], σ, r, σ' => qoX5_firstSaid g v1 v2 σ r σ'
  | _, _, _, _ => False
theorem dX5_firstSaid_0 : decode cX5_firstSaid 0 = .ok (.aload_n 0, 1) := by decide +kernel
theorem dX5_firstSaid_1 : decode cX5_firstSaid 1 = .ok (.aload_n 1, 1) := by decide +kernel
theorem dX5_firstSaid_2 : decode cX5_firstSaid 2 = .ok (.bipush 61, 2) := by decide +kernel
theorem dX5_firstSaid_4 : decode cX5_firstSaid 4 = .ok (.invokevirtual 170, 3) := by decide +kernel
theorem dX5_firstSaid_7 : decode cX5_firstSaid 7 = .ok (.iconst 0, 1) := by decide +kernel
theorem dX5_firstSaid_8 : decode cX5_firstSaid 8 = .ok (.istore_n 3, 1) := by decide +kernel
theorem dX5_firstSaid_9 : decode cX5_firstSaid 9 = .ok (.iload_n 3, 1) := by decide +kernel
theorem dX5_firstSaid_10 : decode cX5_firstSaid 10 = .ok (.bipush 60, 2) := by decide +kernel
theorem dX5_firstSaid_12 : decode cX5_firstSaid 12 = .ok (.if_icmp .gt 21, 3) := by decide +kernel
theorem dX5_firstSaid_15 : decode cX5_firstSaid 15 = .ok (.aload_n 0, 1) := by decide +kernel
theorem dX5_firstSaid_16 : decode cX5_firstSaid 16 = .ok (.getfield 29, 3) := by decide +kernel
theorem dX5_firstSaid_19 : decode cX5_firstSaid 19 = .ok (.iload_n 3, 1) := by decide +kernel
theorem dX5_firstSaid_20 : decode cX5_firstSaid 20 = .ok (.iaload, 1) := by decide +kernel
theorem dX5_firstSaid_21 : decode cX5_firstSaid 21 = .ok (.iload_n 2, 1) := by decide +kernel
theorem dX5_firstSaid_22 : decode cX5_firstSaid 22 = .ok (.if_icmp .ne 5, 3) := by decide +kernel
theorem dX5_firstSaid_25 : decode cX5_firstSaid 25 = .ok (.iload_n 3, 1) := by decide +kernel
theorem dX5_firstSaid_26 : decode cX5_firstSaid 26 = .ok (.ireturn, 1) := by decide +kernel
theorem dX5_firstSaid_27 : decode cX5_firstSaid 27 = .ok (.iinc 3 1, 3) := by decide +kernel
theorem dX5_firstSaid_30 : decode cX5_firstSaid 30 = .ok (.goto (-21), 3) := by decide +kernel
theorem dX5_firstSaid_33 : decode cX5_firstSaid 33 = .ok (.bipush 61, 2) := by decide +kernel
theorem dX5_firstSaid_35 : decode cX5_firstSaid 35 = .ok (.ireturn, 1) := by decide +kernel
abbrev rmX5_firstSaid : Room := { frames := 5, cells := 0, slots := 0, locals := 128 }
def opX5_firstSaid (po : Int32 → px_St → Prop) : List (Nat × px_Op) := [
  (0, px_al 1 0),
  (1, px_al 2 1),
  (2, px_push 4 (.int 61)),
  (4, px_callV dC 7 5 2 px_vV prX5_foretell poX5_foretell),
  (7, px_push 8 (.int 0)),
  (8, px_is 9 3),
  (9, px_il 10 3),
  (10, px_push 12 (.int 60)),
  (12, px_ic 15 33 (fun x y => y < x)),
  (15, px_al 16 0),
  (16, px_get dC 19 5 4),
  (19, px_il 20 3),
  (20, px_ald dC 21 0),
  (21, px_il 22 2),
  (22, px_ic 25 27 (fun x y => ¬ x = y)),
  (25, px_il 26 3),
  (26, px_iret (.int) po),
  (27, px_inc 30 3 1),
  (30, px_go 9),
  (33, px_push 35 (.int 61)),
  (35, px_iret (.int) po)]
set_option maxRecDepth 100000 in
set_option maxHeartbeats 4000000 in
theorem okX5_firstSaid : ∀ (po : Int32 → px_St → Prop) (i pc : Nat) (op : px_Op), (opX5_firstSaid po)[i]? = some (pc, op) → px_Snd (cX5_firstSaid, 4, RX5, Cond.code yX5_firstSaid cX5_firstSaid 4 (some .int) :: wdC, (some .int), rmX5_firstSaid, dC) px_vI po pc op := by
  intro po
  unfold opX5_firstSaid
  refine px_ok_cons (ps_aload_n dX5_firstSaid_0 rfl) ?_
  refine px_ok_cons (ps_aload_n dX5_firstSaid_1 rfl) ?_
  refine px_ok_cons (ps_bipush dX5_firstSaid_2 (by decide)) ?_
  refine px_ok_cons (ps_callV mX5_foretell (fun _ _ => rfl) (C := RX5) rfl (fun _ _ ht => px_cwV wgC (wdC_8_in _ (List.mem_of_getElem? (i := 3) rfl)) (wdC_8_in _ (List.mem_of_getElem? (i := 4) rfl)) (wdC_8_in _ (List.mem_of_getElem? (i := 5) rfl)) (wdC_4_in _ (List.mem_of_getElem? (i := 23) rfl)) (wdC_8_in _ (List.mem_of_getElem? (i := 0) rfl)) (by decide +kernel) rfl rfl (by decide) ht) dX5_firstSaid_4) ?_
  refine px_ok_cons (ps_iconst dX5_firstSaid_7 (by decide)) ?_
  refine px_ok_cons (ps_istore_n dX5_firstSaid_8 rfl (by decide)) ?_
  refine px_ok_cons (ps_iload_n dX5_firstSaid_9 rfl) ?_
  refine px_ok_cons (ps_bipush dX5_firstSaid_10 (by decide)) ?_
  refine px_ok_cons (ps_icmp_gt dX5_firstSaid_12 (by decide)) ?_
  refine px_ok_cons (ps_aload_n dX5_firstSaid_15 rfl) ?_
  refine px_ok_cons (fgX5_29 dX5_firstSaid_16) ?_
  refine px_ok_cons (ps_iload_n dX5_firstSaid_19 rfl) ?_
  refine px_ok_cons (ps_iaload dX5_firstSaid_20) ?_
  refine px_ok_cons (ps_iload_n dX5_firstSaid_21 rfl) ?_
  refine px_ok_cons (ps_icmp_ne dX5_firstSaid_22 (by decide)) ?_
  refine px_ok_cons (ps_iload_n dX5_firstSaid_25 rfl) ?_
  refine px_ok_cons (ps_ireturn rfl dX5_firstSaid_26) ?_
  refine px_ok_cons (ps_iinc dX5_firstSaid_27 (by decide) (by decide)) ?_
  refine px_ok_cons (ps_goto dX5_firstSaid_30 (by decide)) ?_
  refine px_ok_cons (ps_bipush dX5_firstSaid_33 (by decide)) ?_
  refine px_ok_cons (ps_ireturn rfl dX5_firstSaid_35) ?_
  exact px_ok_nil
set_option maxRecDepth 100000 in
set_option maxHeartbeats 4000000 in
theorem sgX5_firstSaid_0 {po : Int32 → px_St → Prop} {G : px_K} (hG : px_cl (opX5_firstSaid po) G) (v1 : Nat) (hv1 : px_av v1) (v2 : Int32) (σ : px_St)
    (H : ∃ g3 : gtX5_foretell, qrX5_foretell g3 v1 (61 : Int32) σ ∧ ∀ (r1 : Unit) (σ2 : px_St), qoX5_foretell g3 v1 (61 : Int32) σ r1 σ2 → G 9 [some (.ref 0), some (.ref v1), some (.int v2), some (.int (0 : Int32))] [] σ2) :
    G 0 (px_ent 4 [.ref 0, .ref v1, .int v2]) [] σ := by
  refine hG.1 0 _ _ rfl _ _ _ ?_
  refine hG.1 1 _ _ rfl _ _ _ ?_
  refine hG.1 2 _ _ rfl _ _ _ ?_
  refine hG.1 3 _ _ rfl _ _ _ ?_
  obtain ⟨g3, H⟩ := H
  refine ⟨⟨rfl, by decide⟩, Nat.le_of_ble_eq_true rfl, g3, ⟨_, _, rfl, hv1, H.1⟩, fun r1 σ2 hp4 => ?_⟩
  replace H := H.2 r1 σ2 hp4
  refine hG.1 4 _ _ rfl _ _ _ ?_
  refine hG.1 5 _ _ rfl _ _ _ ?_
  show G 9 [some (.ref 0), some (.ref v1), some (.int v2), some (.int (0 : Int32))] [] σ2
  exact H
set_option maxRecDepth 100000 in
set_option maxHeartbeats 4000000 in
theorem sgX5_firstSaid_9 {po : Int32 → px_St → Prop} {G : px_K} (hG : px_cl (opX5_firstSaid po) G) (v1 : Nat) (hv1 : px_av v1) (v2 : Int32) (v3 : Int32) (σ : px_St)
    (H : (((60 : Int32) < v3) → po (61 : Int32) σ) ∧ (¬ ((60 : Int32) < v3) → vp_in v3 62 ∧ ((¬ (σ.1 1 v3.toNatClampNeg) = v2) → G 9 [some (.ref 0), some (.ref v1), some (.int v2), some (.int (v3 + 1))] [] σ) ∧ (¬ (¬ (σ.1 1 v3.toNatClampNeg) = v2) → po v3 σ))) :
    G 9 [some (.ref 0), some (.ref v1), some (.int v2), some (.int v3)] [] σ := by
  refine hG.1 6 _ _ rfl _ _ _ ?_
  refine hG.1 7 _ _ rfl _ _ _ ?_
  refine hG.1 8 _ _ rfl _ _ _ ?_
  refine ⟨fun h2 => ?_, fun h2 => ?_⟩
  · replace H := H.1 h2
    refine hG.1 19 _ _ rfl _ _ _ ?_
    refine hG.1 20 _ _ rfl _ _ _ ?_
    exact ⟨rfl, H⟩
  · replace H := H.2 h2
    refine hG.1 9 _ _ rfl _ _ _ ?_
    refine hG.1 10 _ _ rfl _ _ _ ?_
    refine ⟨⟨rfl, by decide⟩, ?_⟩
    refine hG.1 11 _ _ rfl _ _ _ ?_
    refine hG.1 12 _ _ rfl _ _ _ ?_
    refine ⟨⟨rfl, by decide⟩, H.1, ?_⟩
    replace H := H.2
    refine hG.1 13 _ _ rfl _ _ _ ?_
    refine hG.1 14 _ _ rfl _ _ _ ?_
    refine ⟨fun h1 => ?_, fun h1 => ?_⟩
    · replace H := H.1 h1
      refine hG.1 17 _ _ rfl _ _ _ ?_
      show G 30 [some (.ref 0), some (.ref v1), some (.int v2), some (.int (v3 + 1))] [] σ
      refine hG.1 18 _ _ rfl _ _ _ ?_
      exact H
    · replace H := H.2 h1
      refine hG.1 15 _ _ rfl _ _ _ ?_
      refine hG.1 16 _ _ rfl _ _ _ ?_
      exact ⟨rfl, H⟩
set_option maxRecDepth 100000 in
set_option maxHeartbeats 4000000 in
theorem hhX5_firstSaid (g : gtX5_firstSaid) (v1 : Nat) (hv1 : px_av v1) (v2 : Int32) (σ : px_St) (h : qrX5_firstSaid g v1 v2 σ) (G : px_K) (hG : px_cl (opX5_firstSaid (qoX5_firstSaid g v1 v2 σ)) G) : G 0 (px_ent 4 [.ref 0, .ref v1, .int v2]) [] σ := by
  obtain ⟨V, s⟩ := g
  obtain ⟨hne, hV, hok, hd, rfl⟩ := h
  refine sgX5_firstSaid_0 hG v1 hv1 _ σ ⟨(V, 61), ⟨hne, hV, hok, hd, by omega, rfl⟩, fun _ σ2 hq => ?_⟩
  obtain ⟨-, q2, q3⟩ := hq
  have loop : ∀ m d, d + m = 61 → pv_ff V s 61 0 = pv_ff V s m d → G 9 [some (.ref 0), some (.ref v1), some (.int (nI s)), some (.int (nI d))] [] σ2 := by
    intro m
    induction m with
    | zero =>
      intro d hdn he
      refine sgX5_firstSaid_9 hG v1 hv1 _ _ σ2 ⟨fun _ => ⟨?_, q3⟩, fun z => absurd ((nIlt 60 d rfl rfl (by omega) (by omega)).mpr (by omega)) z⟩
      rw [he]; rfl
    | succ m ih =>
      intro d hdn he
      refine sgX5_firstSaid_9 hG v1 hv1 _ _ σ2 ⟨fun z => absurd ((nIlt 60 d rfl rfl (by omega) (by omega)).mp z) (by omega), fun _ => ?_⟩
      rw [nI_clamp (by omega), q2 d (by omega), nI_1]
      change _ = (if pv_said (pv_run V d) = nI s then d else pv_ff V s m (d + 1)) at he
      refine ⟨vp_in_nI (by omega) (by decide), fun z => ?_, fun z => ⟨?_, q3⟩⟩
      · rw [if_neg z] at he; exact ih (d + 1) (by omega) he
      · rw [if_pos (Classical.byContradiction z)] at he; rw [he]
  exact loop 61 0 (by omega) rfl
theorem mX5_firstSaid (g : gtX5_firstSaid) : px_Met dC yX5_firstSaid (Cond.code yX5_firstSaid cX5_firstSaid 4 (some .int) :: wdC) rmX5_firstSaid px_vI (prX5_firstSaid g) (poX5_firstSaid g) :=
  px_met (Z := (cX5_firstSaid, 4, RX5, Cond.code yX5_firstSaid cX5_firstSaid 4 (some .int) :: wdC, (some .int), rmX5_firstSaid, dC)) opX5_firstSaid (by decide) rfl rfl okX5_firstSaid (fun As σ h => by obtain ⟨v1, v2, rfl, hv1, h⟩ := h; exact Nat.le_of_ble_eq_true rfl) (fun As σ h G hG => by obtain ⟨v1, v2, rfl, hv1, h⟩ := h; exact hhX5_firstSaid g v1 hv1 v2 σ h G hG)
abbrev gtX5_isAsSeen : Type := pv_V × pv_S
def qrX5_isAsSeen : gtX5_isAsSeen → Nat → px_St → Prop
  | (V, S), a, σ => a ≠ 18 ∧ av_is σ a V ∧ pv_ok V ∧ V.2.2.1 < 1900 ∧ sn_is σ 38 S ∧ sn_ok S
def qoX5_isAsSeen : gtX5_isAsSeen → Nat → px_St → Int32 → px_St → Prop
  | (V, S), _, σ, r, σ' => px_b (pv_asSeen V S) r ∧ (∀ d, d < 21 → σ'.1 1 d = pv_said (pv_run V d)) ∧ px_fs σ σ'
def prX5_isAsSeen (g : gtX5_isAsSeen) : List Value → px_St → Prop := fun As σ => ∃ v1 : Nat, As = [.ref 0, .ref v1] ∧ px_av v1 ∧ qrX5_isAsSeen g v1 σ
def poX5_isAsSeen (g : gtX5_isAsSeen) : List Value → px_St → Int32 → px_St → Prop
  | [.ref _, .ref v1], σ, r, σ' => qoX5_isAsSeen g v1 σ r σ'
  | _, _, _, _ => False
theorem dX5_isAsSeen_0 : decode cX5_isAsSeen 0 = .ok (.aload_n 0, 1) := by decide +kernel
theorem dX5_isAsSeen_1 : decode cX5_isAsSeen 1 = .ok (.aload_n 1, 1) := by decide +kernel
theorem dX5_isAsSeen_2 : decode cX5_isAsSeen 2 = .ok (.bipush 21, 2) := by decide +kernel
theorem dX5_isAsSeen_4 : decode cX5_isAsSeen 4 = .ok (.invokevirtual 170, 3) := by decide +kernel
theorem dX5_isAsSeen_7 : decode cX5_isAsSeen 7 = .ok (.iconst 0, 1) := by decide +kernel
theorem dX5_isAsSeen_8 : decode cX5_isAsSeen 8 = .ok (.istore_n 2, 1) := by decide +kernel
theorem dX5_isAsSeen_9 : decode cX5_isAsSeen 9 = .ok (.iload_n 2, 1) := by decide +kernel
theorem dX5_isAsSeen_10 : decode cX5_isAsSeen 10 = .ok (.aload_n 0, 1) := by decide +kernel
theorem dX5_isAsSeen_11 : decode cX5_isAsSeen 11 = .ok (.getfield 19, 3) := by decide +kernel
theorem dX5_isAsSeen_14 : decode cX5_isAsSeen 14 = .ok (.getfield 86, 3) := by decide +kernel
theorem dX5_isAsSeen_17 : decode cX5_isAsSeen 17 = .ok (.if_icmp .ge 37, 3) := by decide +kernel
theorem dX5_isAsSeen_20 : decode cX5_isAsSeen 20 = .ok (.aload_n 0, 1) := by decide +kernel
theorem dX5_isAsSeen_21 : decode cX5_isAsSeen 21 = .ok (.getfield 29, 3) := by decide +kernel
theorem dX5_isAsSeen_24 : decode cX5_isAsSeen 24 = .ok (.aload_n 0, 1) := by decide +kernel
theorem dX5_isAsSeen_25 : decode cX5_isAsSeen 25 = .ok (.getfield 19, 3) := by decide +kernel
theorem dX5_isAsSeen_28 : decode cX5_isAsSeen 28 = .ok (.getfield 211, 3) := by decide +kernel
theorem dX5_isAsSeen_31 : decode cX5_isAsSeen 31 = .ok (.iload_n 2, 1) := by decide +kernel
theorem dX5_isAsSeen_32 : decode cX5_isAsSeen 32 = .ok (.iaload, 1) := by decide +kernel
theorem dX5_isAsSeen_33 : decode cX5_isAsSeen 33 = .ok (.iaload, 1) := by decide +kernel
theorem dX5_isAsSeen_34 : decode cX5_isAsSeen 34 = .ok (.aload_n 0, 1) := by decide +kernel
theorem dX5_isAsSeen_35 : decode cX5_isAsSeen 35 = .ok (.getfield 19, 3) := by decide +kernel
theorem dX5_isAsSeen_38 : decode cX5_isAsSeen 38 = .ok (.getfield 213, 3) := by decide +kernel
theorem dX5_isAsSeen_41 : decode cX5_isAsSeen 41 = .ok (.iload_n 2, 1) := by decide +kernel
theorem dX5_isAsSeen_42 : decode cX5_isAsSeen 42 = .ok (.iaload, 1) := by decide +kernel
theorem dX5_isAsSeen_43 : decode cX5_isAsSeen 43 = .ok (.if_icmp .eq 5, 3) := by decide +kernel
theorem dX5_isAsSeen_46 : decode cX5_isAsSeen 46 = .ok (.iconst 0, 1) := by decide +kernel
theorem dX5_isAsSeen_47 : decode cX5_isAsSeen 47 = .ok (.ireturn, 1) := by decide +kernel
theorem dX5_isAsSeen_48 : decode cX5_isAsSeen 48 = .ok (.iinc 2 1, 3) := by decide +kernel
theorem dX5_isAsSeen_51 : decode cX5_isAsSeen 51 = .ok (.goto (-42), 3) := by decide +kernel
theorem dX5_isAsSeen_54 : decode cX5_isAsSeen 54 = .ok (.iconst 1, 1) := by decide +kernel
theorem dX5_isAsSeen_55 : decode cX5_isAsSeen 55 = .ok (.ireturn, 1) := by decide +kernel
abbrev rmX5_isAsSeen : Room := { frames := 5, cells := 0, slots := 0, locals := 128 }
def opX5_isAsSeen (po : Int32 → px_St → Prop) : List (Nat × px_Op) := [
  (0, px_al 1 0),
  (1, px_al 2 1),
  (2, px_push 4 (.int 21)),
  (4, px_callV dC 7 5 2 px_vV prX5_foretell poX5_foretell),
  (7, px_push 8 (.int 0)),
  (8, px_is 9 2),
  (9, px_il 10 2),
  (10, px_al 11 0),
  (11, px_get dC 14 5 1),
  (14, px_get dC 17 2 0),
  (17, px_ic 20 54 (fun x y => y ≤ x)),
  (20, px_al 21 0),
  (21, px_get dC 24 5 4),
  (24, px_al 25 0),
  (25, px_get dC 28 5 1),
  (28, px_get dC 31 2 1),
  (31, px_il 32 2),
  (32, px_ald dC 33 0),
  (33, px_ald dC 34 0),
  (34, px_al 35 0),
  (35, px_get dC 38 5 1),
  (38, px_get dC 41 2 2),
  (41, px_il 42 2),
  (42, px_ald dC 43 0),
  (43, px_ic 46 48 (fun x y => x = y)),
  (46, px_push 47 (.int 0)),
  (47, px_iret (.boolean) po),
  (48, px_inc 51 2 1),
  (51, px_go 9),
  (54, px_push 55 (.int 1)),
  (55, px_iret (.boolean) po)]
set_option maxRecDepth 100000 in
set_option maxHeartbeats 4000000 in
theorem okX5_isAsSeen : ∀ (po : Int32 → px_St → Prop) (i pc : Nat) (op : px_Op), (opX5_isAsSeen po)[i]? = some (pc, op) → px_Snd (cX5_isAsSeen, 3, RX5, Cond.code yX5_isAsSeen cX5_isAsSeen 3 (some .boolean) :: wdC, (some .boolean), rmX5_isAsSeen, dC) px_vI po pc op := by
  intro po
  unfold opX5_isAsSeen
  refine px_ok_cons (ps_aload_n dX5_isAsSeen_0 rfl) ?_
  refine px_ok_cons (ps_aload_n dX5_isAsSeen_1 rfl) ?_
  refine px_ok_cons (ps_bipush dX5_isAsSeen_2 (by decide)) ?_
  refine px_ok_cons (ps_callV mX5_foretell (fun _ _ => rfl) (C := RX5) rfl (fun _ _ ht => px_cwV wgC (wdC_8_in _ (List.mem_of_getElem? (i := 3) rfl)) (wdC_8_in _ (List.mem_of_getElem? (i := 4) rfl)) (wdC_8_in _ (List.mem_of_getElem? (i := 5) rfl)) (wdC_4_in _ (List.mem_of_getElem? (i := 23) rfl)) (wdC_8_in _ (List.mem_of_getElem? (i := 0) rfl)) (by decide +kernel) rfl rfl (by decide) ht) dX5_isAsSeen_4) ?_
  refine px_ok_cons (ps_iconst dX5_isAsSeen_7 (by decide)) ?_
  refine px_ok_cons (ps_istore_n dX5_isAsSeen_8 rfl (by decide)) ?_
  refine px_ok_cons (ps_iload_n dX5_isAsSeen_9 rfl) ?_
  refine px_ok_cons (ps_aload_n dX5_isAsSeen_10 rfl) ?_
  refine px_ok_cons (fgX5_19 dX5_isAsSeen_11) ?_
  refine px_ok_cons (fgX5_86 dX5_isAsSeen_14) ?_
  refine px_ok_cons (ps_icmp_ge dX5_isAsSeen_17 (by decide)) ?_
  refine px_ok_cons (ps_aload_n dX5_isAsSeen_20 rfl) ?_
  refine px_ok_cons (fgX5_29 dX5_isAsSeen_21) ?_
  refine px_ok_cons (ps_aload_n dX5_isAsSeen_24 rfl) ?_
  refine px_ok_cons (fgX5_19 dX5_isAsSeen_25) ?_
  refine px_ok_cons (fgX5_211 dX5_isAsSeen_28) ?_
  refine px_ok_cons (ps_iload_n dX5_isAsSeen_31 rfl) ?_
  refine px_ok_cons (ps_iaload dX5_isAsSeen_32) ?_
  refine px_ok_cons (ps_iaload dX5_isAsSeen_33) ?_
  refine px_ok_cons (ps_aload_n dX5_isAsSeen_34 rfl) ?_
  refine px_ok_cons (fgX5_19 dX5_isAsSeen_35) ?_
  refine px_ok_cons (fgX5_213 dX5_isAsSeen_38) ?_
  refine px_ok_cons (ps_iload_n dX5_isAsSeen_41 rfl) ?_
  refine px_ok_cons (ps_iaload dX5_isAsSeen_42) ?_
  refine px_ok_cons (ps_icmp_eq dX5_isAsSeen_43 (by decide)) ?_
  refine px_ok_cons (ps_iconst dX5_isAsSeen_46 (by decide)) ?_
  refine px_ok_cons (ps_ireturn rfl dX5_isAsSeen_47) ?_
  refine px_ok_cons (ps_iinc dX5_isAsSeen_48 (by decide) (by decide)) ?_
  refine px_ok_cons (ps_goto dX5_isAsSeen_51 (by decide)) ?_
  refine px_ok_cons (ps_iconst dX5_isAsSeen_54 (by decide)) ?_
  refine px_ok_cons (ps_ireturn rfl dX5_isAsSeen_55) ?_
  exact px_ok_nil
set_option maxRecDepth 100000 in
set_option maxHeartbeats 4000000 in
theorem sgX5_isAsSeen_0 {po : Int32 → px_St → Prop} {G : px_K} (hG : px_cl (opX5_isAsSeen po) G) (v1 : Nat) (hv1 : px_av v1) (σ : px_St)
    (H : ∃ g3 : gtX5_foretell, qrX5_foretell g3 v1 (21 : Int32) σ ∧ ∀ (r1 : Unit) (σ2 : px_St), qoX5_foretell g3 v1 (21 : Int32) σ r1 σ2 → G 9 [some (.ref 0), some (.ref v1), some (.int (0 : Int32))] [] σ2) :
    G 0 (px_ent 3 [.ref 0, .ref v1]) [] σ := by
  refine hG.1 0 _ _ rfl _ _ _ ?_
  refine hG.1 1 _ _ rfl _ _ _ ?_
  refine hG.1 2 _ _ rfl _ _ _ ?_
  refine hG.1 3 _ _ rfl _ _ _ ?_
  obtain ⟨g3, H⟩ := H
  refine ⟨⟨rfl, by decide⟩, Nat.le_of_ble_eq_true rfl, g3, ⟨_, _, rfl, hv1, H.1⟩, fun r1 σ2 hp4 => ?_⟩
  replace H := H.2 r1 σ2 hp4
  refine hG.1 4 _ _ rfl _ _ _ ?_
  refine hG.1 5 _ _ rfl _ _ _ ?_
  show G 9 [some (.ref 0), some (.ref v1), some (.int (0 : Int32))] [] σ2
  exact H
set_option maxRecDepth 100000 in
set_option maxHeartbeats 4000000 in
theorem sgX5_isAsSeen_9 {po : Int32 → px_St → Prop} {G : px_K} (hG : px_cl (opX5_isAsSeen po) G) (v1 : Nat) (hv1 : px_av v1) (v2 : Int32) (σ : px_St)
    (H : (((σ.1 38 0) ≤ v2) → po (1 : Int32) σ) ∧ (¬ ((σ.1 38 0) ≤ v2) → vp_in v2 6 ∧ vp_in (σ.1 39 v2.toNatClampNeg) 62 ∧ vp_in v2 6 ∧ (((σ.1 1 (σ.1 39 v2.toNatClampNeg).toNatClampNeg) = (σ.1 40 v2.toNatClampNeg)) → G 9 [some (.ref 0), some (.ref v1), some (.int (v2 + 1))] [] σ) ∧ (¬ ((σ.1 1 (σ.1 39 v2.toNatClampNeg).toNatClampNeg) = (σ.1 40 v2.toNatClampNeg)) → po (0 : Int32) σ))) :
    G 9 [some (.ref 0), some (.ref v1), some (.int v2)] [] σ := by
  refine hG.1 6 _ _ rfl _ _ _ ?_
  refine hG.1 7 _ _ rfl _ _ _ ?_
  refine hG.1 8 _ _ rfl _ _ _ ?_
  refine ⟨⟨rfl, by decide⟩, ?_⟩
  refine hG.1 9 _ _ rfl _ _ _ ?_
  refine ⟨⟨rfl, by decide⟩, ?_⟩
  refine hG.1 10 _ _ rfl _ _ _ ?_
  refine ⟨fun h2 => ?_, fun h2 => ?_⟩
  · replace H := H.1 h2
    refine hG.1 29 _ _ rfl _ _ _ ?_
    refine hG.1 30 _ _ rfl _ _ _ ?_
    exact ⟨rfl, H⟩
  · replace H := H.2 h2
    refine hG.1 11 _ _ rfl _ _ _ ?_
    refine hG.1 12 _ _ rfl _ _ _ ?_
    refine ⟨⟨rfl, by decide⟩, ?_⟩
    refine hG.1 13 _ _ rfl _ _ _ ?_
    refine hG.1 14 _ _ rfl _ _ _ ?_
    refine ⟨⟨rfl, by decide⟩, ?_⟩
    refine hG.1 15 _ _ rfl _ _ _ ?_
    refine ⟨⟨rfl, by decide⟩, ?_⟩
    refine hG.1 16 _ _ rfl _ _ _ ?_
    refine hG.1 17 _ _ rfl _ _ _ ?_
    refine ⟨⟨rfl, by decide⟩, H.1, ?_⟩
    replace H := H.2
    refine hG.1 18 _ _ rfl _ _ _ ?_
    refine ⟨⟨rfl, by decide⟩, H.1, ?_⟩
    replace H := H.2
    refine hG.1 19 _ _ rfl _ _ _ ?_
    refine hG.1 20 _ _ rfl _ _ _ ?_
    refine ⟨⟨rfl, by decide⟩, ?_⟩
    refine hG.1 21 _ _ rfl _ _ _ ?_
    refine ⟨⟨rfl, by decide⟩, ?_⟩
    refine hG.1 22 _ _ rfl _ _ _ ?_
    refine hG.1 23 _ _ rfl _ _ _ ?_
    refine ⟨⟨rfl, by decide⟩, H.1, ?_⟩
    replace H := H.2
    refine hG.1 24 _ _ rfl _ _ _ ?_
    refine ⟨fun h1 => ?_, fun h1 => ?_⟩
    · replace H := H.1 h1
      refine hG.1 27 _ _ rfl _ _ _ ?_
      show G 51 [some (.ref 0), some (.ref v1), some (.int (v2 + 1))] [] σ
      refine hG.1 28 _ _ rfl _ _ _ ?_
      exact H
    · replace H := H.2 h1
      refine hG.1 25 _ _ rfl _ _ _ ?_
      refine hG.1 26 _ _ rfl _ _ _ ?_
      exact ⟨rfl, H⟩
set_option maxRecDepth 100000 in
set_option maxHeartbeats 4000000 in
theorem hhX5_isAsSeen (g : gtX5_isAsSeen) (v1 : Nat) (hv1 : px_av v1) (σ : px_St) (h : qrX5_isAsSeen g v1 σ) (G : px_K) (hG : px_cl (opX5_isAsSeen (qoX5_isAsSeen g v1 σ)) G) : G 0 (px_ent 3 [.ref 0, .ref v1]) [] σ := by
  obtain ⟨V, S⟩ := g
  obtain ⟨hne, hV, hok, hd, hS, hl, hx⟩ := h
  refine sgX5_isAsSeen_0 hG v1 hv1 σ ⟨(V, 21), ⟨hne, hV, hok, hd, by omega, rfl⟩, fun _ σ2 hq => ?_⟩
  obtain ⟨-, q2, q3⟩ := hq
  have hS2 : sn_is σ2 38 S := hS.kept (fun k h1 h2 => q3 k (by omega) (by omega))
  have loop : ∀ m i, i + m = S.length → (∀ j x, j < i → S[j]? = some x → pv_said (pv_run V x.1) = nI x.2) → G 9 [some (.ref 0), some (.ref v1), some (.int (nI i))] [] σ2 := by
    intro m
    induction m with
    | zero =>
      intro i hi hall
      refine sgX5_isAsSeen_9 hG v1 hv1 _ σ2 ?_
      rw [hS2.1]
      refine ⟨fun _ => ⟨Or.inl ⟨fun x hm => ?_, rfl⟩, q2, q3⟩, fun z => absurd (nI_le (by omega) (by omega)) z⟩
      obtain ⟨j, hj⟩ := List.getElem?_of_mem hm
      exact hall j x (by have := (List.getElem?_eq_some_iff.mp hj).1; omega) hj
    | succ m ih =>
      intro i hi hall
      have hil : i < S.length := by omega
      have hx1 := hx _ (List.getElem_mem hil)
      obtain ⟨e1, e2⟩ := hS2.2 i _ (List.getElem?_eq_getElem hil)
      refine sgX5_isAsSeen_9 hG v1 hv1 _ σ2 ?_
      rw [hS2.1, nI_clamp (by omega), e1, e2, nI_clamp (by omega), q2 _ (by omega), nI_1]
      refine ⟨fun z => absurd z (nI_ge (by omega) (by omega)), fun _ => ⟨vp_in_nI (by omega) (by decide), vp_in_nI (by omega) (by decide), vp_in_nI (by omega) (by decide), fun z => ih (i + 1) (by omega) (fun j x hj hs => ?_), fun z => ⟨Or.inr ⟨fun y => z (y _ (List.getElem_mem hil)), rfl⟩, q2, q3⟩⟩⟩
      by_cases hji : j = i
      · subst hji
        rw [List.getElem?_eq_getElem hil] at hs
        rw [← Option.some.inj hs]
        exact z
      · exact hall j x (by omega) hs
  exact loop S.length 0 (by omega) (fun j x hj => by omega)
theorem mX5_isAsSeen (g : gtX5_isAsSeen) : px_Met dC yX5_isAsSeen (Cond.code yX5_isAsSeen cX5_isAsSeen 3 (some .boolean) :: wdC) rmX5_isAsSeen px_vI (prX5_isAsSeen g) (poX5_isAsSeen g) :=
  px_met (Z := (cX5_isAsSeen, 3, RX5, Cond.code yX5_isAsSeen cX5_isAsSeen 3 (some .boolean) :: wdC, (some .boolean), rmX5_isAsSeen, dC)) opX5_isAsSeen (by decide) rfl rfl okX5_isAsSeen (fun As σ h => by obtain ⟨v1, rfl, hv1, h⟩ := h; exact Nat.le_of_ble_eq_true rfl) (fun As σ h G hG => by obtain ⟨v1, rfl, hv1, h⟩ := h; exact hhX5_isAsSeen g v1 hv1 σ h G hG)
