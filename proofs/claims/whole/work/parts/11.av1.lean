theorem nIe {x y : Int32} (a b : Nat) (hx : x = nI a) (hy : y = nI b) (ha : a < 2 ^ 31) (hb : b < 2 ^ 31) : x = y ↔ a = b := by
  rw [hx, hy]; exact nI_eq ha hb
theorem nIle {x y : Int32} (a b : Nat) (hx : x = nI a) (hy : y = nI b) (ha : a < 2 ^ 31) (hb : b < 2 ^ 31) : x ≤ y ↔ a ≤ b := by
  rw [hx, hy]; exact nI_leI ha hb
theorem nIlt {x y : Int32} (a b : Nat) (hx : x = nI a) (hy : y = nI b) (ha : a < 2 ^ 31) (hb : b < 2 ^ 31) : x < y ↔ a < b := by
  rw [hx, hy]; exact nI_ltI ha hb
theorem md1 {a n : Nat} (h : a < n) : (a + 1) % n = if a + 1 < n then a + 1 else 0 := by
  split
  · exact Nat.mod_eq_of_lt (by omega)
  · rw [show a + 1 = n by omega, Nat.mod_self]
theorem md2 {a n : Nat} (h : a < n) : (a + 2) % n = if a + 1 < n then (if a + 2 < n then a + 2 else 0) else (if 1 < n then 1 else 0) := by
  repeat' split
  · exact Nat.mod_eq_of_lt (by omega)
  · rw [show a + 2 = n by omega, Nat.mod_self]
  · rw [show a + 2 = n + 1 by omega, Nat.add_mod_left, Nat.mod_eq_of_lt (by omega)]
  · rw [show n = 1 by omega, Nat.mod_one]
theorem md3 {a n : Nat} (h : a < n) : (a + (n - 1)) % n = if a = 0 then n - 1 else a - 1 := by
  split
  · rw [show a + (n - 1) = n - 1 by omega]
    exact Nat.mod_eq_of_lt (by omega)
  · rw [show a + (n - 1) = n + (a - 1) by omega, Nat.add_mod_left]
    exact Nat.mod_eq_of_lt (by omega)
abbrev gtX0_speaker : Type := pv_V
def qrX0_speaker (V : pv_V) (a : Nat) (σ : px_St) : Prop := av_is σ a V ∧ pv_w V
def qoX0_speaker (V : pv_V) (_ : Nat) (σ : px_St) (r : Int32) (σ' : px_St) : Prop := σ' = σ ∧ r = pv_spk V
def prX0_speaker (g : gtX0_speaker) : List Value → px_St → Prop := fun As σ => ∃ v0 : Nat, As = [.ref v0] ∧ px_av v0 ∧ qrX0_speaker g v0 σ
def poX0_speaker (g : gtX0_speaker) : List Value → px_St → Int32 → px_St → Prop
  | [.ref v0], σ, r, σ' => qoX0_speaker g v0 σ r σ'
  | _, _, _, _ => False
theorem dX0_speaker_0 : decode cX0_speaker 0 = .ok (.aload_n 0, 1) := by decide +kernel
theorem dX0_speaker_1 : decode cX0_speaker 1 = .ok (.getfield 28, 3) := by decide +kernel
theorem dX0_speaker_4 : decode cX0_speaker 4 = .ok (.iconst 1, 1) := by decide +kernel
theorem dX0_speaker_5 : decode cX0_speaker 5 = .ok (.if_icmp .ge 8, 3) := by decide +kernel
theorem dX0_speaker_8 : decode cX0_speaker 8 = .ok (.bipush (-4), 2) := by decide +kernel
theorem dX0_speaker_10 : decode cX0_speaker 10 = .ok (.goto 12, 3) := by decide +kernel
theorem dX0_speaker_13 : decode cX0_speaker 13 = .ok (.aload_n 0, 1) := by decide +kernel
theorem dX0_speaker_14 : decode cX0_speaker 14 = .ok (.getfield 31, 3) := by decide +kernel
theorem dX0_speaker_17 : decode cX0_speaker 17 = .ok (.aload_n 0, 1) := by decide +kernel
theorem dX0_speaker_18 : decode cX0_speaker 18 = .ok (.getfield 28, 3) := by decide +kernel
theorem dX0_speaker_21 : decode cX0_speaker 21 = .ok (.irem, 1) := by decide +kernel
theorem dX0_speaker_22 : decode cX0_speaker 22 = .ok (.ireturn, 1) := by decide +kernel
abbrev rmX0_speaker : Room := { frames := 0, cells := 0, slots := 0, locals := 0 }
def opX0_speaker (po : Int32 → px_St → Prop) : List (Nat × px_Op) := [
  (0, px_al 1 0),
  (1, px_get dC 4 0 0),
  (4, px_push 5 (.int 1)),
  (5, px_ic 8 13 (fun x y => y ≤ x)),
  (8, px_push 10 (.int (-4))),
  (10, px_go 22),
  (13, px_al 14 0),
  (14, px_get dC 17 0 2),
  (17, px_al 18 0),
  (18, px_get dC 21 0 0),
  (21, px_div 22 (fun x y => x - x / y * y)),
  (22, px_iret (.int) po)]
set_option maxRecDepth 100000 in
set_option maxHeartbeats 4000000 in
theorem okX0_speaker : ∀ (po : Int32 → px_St → Prop) (i pc : Nat) (op : px_Op), (opX0_speaker po)[i]? = some (pc, op) → px_Snd (cX0_speaker, 1, RX0, Cond.code yX0_speaker cX0_speaker 1 (some .int) :: wdC, (some .int), rmX0_speaker, dC) px_vI po pc op := by
  intro po
  unfold opX0_speaker
  refine px_ok_cons (ps_aload_n dX0_speaker_0 rfl) ?_
  refine px_ok_cons (fgX0_28 dX0_speaker_1) ?_
  refine px_ok_cons (ps_iconst dX0_speaker_4 (by decide)) ?_
  refine px_ok_cons (ps_icmp_ge dX0_speaker_5 (by decide)) ?_
  refine px_ok_cons (ps_bipush dX0_speaker_8 (by decide)) ?_
  refine px_ok_cons (ps_goto dX0_speaker_10 (by decide)) ?_
  refine px_ok_cons (ps_aload_n dX0_speaker_13 rfl) ?_
  refine px_ok_cons (fgX0_31 dX0_speaker_14) ?_
  refine px_ok_cons (ps_aload_n dX0_speaker_17 rfl) ?_
  refine px_ok_cons (fgX0_28 dX0_speaker_18) ?_
  refine px_ok_cons (ps_irem dX0_speaker_21) ?_
  refine px_ok_cons (ps_ireturn rfl dX0_speaker_22) ?_
  exact px_ok_nil
set_option maxRecDepth 100000 in
set_option maxHeartbeats 4000000 in
theorem sgX0_speaker_0 {po : Int32 → px_St → Prop} {G : px_K} (hG : px_cl (opX0_speaker po) G) (v0 : Nat) (hv0 : px_av v0) (σ : px_St)
    (H : (((1 : Int32) ≤ (σ.1 v0 0)) → ¬ (σ.1 v0 0) = 0 ∧ po ((σ.1 v0 2) - (σ.1 v0 2) / (σ.1 v0 0) * (σ.1 v0 0)) σ) ∧ (¬ ((1 : Int32) ≤ (σ.1 v0 0)) → po (-4 : Int32) σ)) :
    G 0 (px_ent 1 [.ref v0]) [] σ := by
  refine hG.1 0 _ _ rfl _ _ _ ?_
  refine hG.1 1 _ _ rfl _ _ _ ?_
  refine ⟨(av_s0 hv0), ?_⟩
  refine hG.1 2 _ _ rfl _ _ _ ?_
  refine hG.1 3 _ _ rfl _ _ _ ?_
  refine ⟨fun h1 => ?_, fun h1 => ?_⟩
  · replace H := H.1 h1
    refine hG.1 6 _ _ rfl _ _ _ ?_
    refine hG.1 7 _ _ rfl _ _ _ ?_
    refine ⟨(av_s0 hv0), ?_⟩
    refine hG.1 8 _ _ rfl _ _ _ ?_
    refine hG.1 9 _ _ rfl _ _ _ ?_
    refine ⟨(av_s0 hv0), ?_⟩
    refine hG.1 10 _ _ rfl _ _ _ ?_
    refine ⟨H.1, ?_⟩
    replace H := H.2
    refine hG.1 11 _ _ rfl _ _ _ ?_
    exact ⟨rfl, H⟩
  · replace H := H.2 h1
    refine hG.1 4 _ _ rfl _ _ _ ?_
    refine hG.1 5 _ _ rfl _ _ _ ?_
    refine hG.1 11 _ _ rfl _ _ _ ?_
    exact ⟨rfl, H⟩
set_option maxRecDepth 100000 in
set_option maxHeartbeats 4000000 in
theorem hhX0_speaker (g : gtX0_speaker) (v0 : Nat) (hv0 : px_av v0) (σ : px_St) (h : qrX0_speaker g v0 σ) (G : px_K) (hG : px_cl (opX0_speaker (qoX0_speaker g v0 σ)) G) : G 0 (px_ent 1 [.ref v0]) [] σ := by
  obtain ⟨⟨⟨e0, e1, e2⟩, -⟩, hw⟩ := h
  have h5 := hw.1
  have hd := hw.2.2.1
  refine sgX0_speaker_0 hG v0 hv0 σ ?_
  rw [e0, e2]
  refine ⟨fun h1 => ?_, fun h1 => ?_⟩
  · have hn : 0 < g.1 := by
      rcases Nat.eq_zero_or_pos g.1 with h | h
      · rw [h] at h1; exact absurd h1 (by decide)
      · exact h
    refine ⟨nI_ne0 hn (by omega), rfl, ?_⟩
    unfold pv_spk
    rw [if_neg (by omega), pk_rem (by omega) hn (by omega)]
  · have hn : g.1 = 0 := by
      rcases Nat.eq_zero_or_pos g.1 with h | h
      · exact h
      · exact absurd (nI_le (a := 1) (by omega) (by omega)) h1
    refine ⟨rfl, ?_⟩
    unfold pv_spk
    rw [if_pos hn]
theorem mX0_speaker (g : gtX0_speaker) : px_Met dC yX0_speaker (Cond.code yX0_speaker cX0_speaker 1 (some .int) :: wdC) rmX0_speaker px_vI (prX0_speaker g) (poX0_speaker g) :=
  px_met (Z := (cX0_speaker, 1, RX0, Cond.code yX0_speaker cX0_speaker 1 (some .int) :: wdC, (some .int), rmX0_speaker, dC)) opX0_speaker (by decide) rfl rfl okX0_speaker (fun As σ h => by obtain ⟨v0, rfl, hv0, h⟩ := h; exact Nat.le_of_ble_eq_true rfl) (fun As σ h G hG => by obtain ⟨v0, rfl, hv0, h⟩ := h; exact hhX0_speaker g v0 hv0 σ h G hG)
abbrev gtX0_soundAt : Type := pv_V × Nat × Nat
def qrX0_soundAt : gtX0_soundAt → Nat → Int32 → Int32 → px_St → Prop
  | (V, p, i), a, v1, v2, σ => av_is σ a V ∧ pv_w V ∧ p < V.1 ∧ i < (V.2.2.2 p).2.2.length ∧ v1 = nI p ∧ v2 = nI i
def qoX0_soundAt : gtX0_soundAt → Nat → Int32 → Int32 → px_St → Int32 → px_St → Prop
  | (V, p, i), _, _, _, σ, r, σ' => σ' = σ ∧ r = nI ((V.2.2.2 p).2.2.getD i 0)
def prX0_soundAt (g : gtX0_soundAt) : List Value → px_St → Prop := fun As σ => ∃ v0 : Nat, ∃ v1 : Int32, ∃ v2 : Int32, As = [.ref v0, .int v1, .int v2] ∧ px_av v0 ∧ qrX0_soundAt g v0 v1 v2 σ
def poX0_soundAt (g : gtX0_soundAt) : List Value → px_St → Int32 → px_St → Prop
  | [.ref v0, .int v1, .int v2], σ, r, σ' => qoX0_soundAt g v0 v1 v2 σ r σ'
  | _, _, _, _ => False
theorem dX0_soundAt_0 : decode cX0_soundAt 0 = .ok (.aload_n 0, 1) := by decide +kernel
theorem dX0_soundAt_1 : decode cX0_soundAt 1 = .ok (.getfield 25, 3) := by decide +kernel
theorem dX0_soundAt_4 : decode cX0_soundAt 4 = .ok (.iload_n 1, 1) := by decide +kernel
theorem dX0_soundAt_5 : decode cX0_soundAt 5 = .ok (.bipush 6, 2) := by decide +kernel
theorem dX0_soundAt_7 : decode cX0_soundAt 7 = .ok (.imul, 1) := by decide +kernel
theorem dX0_soundAt_8 : decode cX0_soundAt 8 = .ok (.iload_n 2, 1) := by decide +kernel
theorem dX0_soundAt_9 : decode cX0_soundAt 9 = .ok (.iadd, 1) := by decide +kernel
theorem dX0_soundAt_10 : decode cX0_soundAt 10 = .ok (.iaload, 1) := by decide +kernel
theorem dX0_soundAt_11 : decode cX0_soundAt 11 = .ok (.ireturn, 1) := by decide +kernel
abbrev rmX0_soundAt : Room := { frames := 0, cells := 0, slots := 0, locals := 0 }
def opX0_soundAt (po : Int32 → px_St → Prop) : List (Nat × px_Op) := [
  (0, px_al 1 0),
  (1, px_get dC 4 0 6),
  (4, px_il 5 1),
  (5, px_push 7 (.int 6)),
  (7, px_bin 8 (fun x y => x * y)),
  (8, px_il 9 2),
  (9, px_bin 10 (fun x y => x + y)),
  (10, px_ald dC 11 0),
  (11, px_iret (.int) po)]
set_option maxRecDepth 100000 in
set_option maxHeartbeats 4000000 in
theorem okX0_soundAt : ∀ (po : Int32 → px_St → Prop) (i pc : Nat) (op : px_Op), (opX0_soundAt po)[i]? = some (pc, op) → px_Snd (cX0_soundAt, 3, RX0, Cond.code yX0_soundAt cX0_soundAt 3 (some .int) :: wdC, (some .int), rmX0_soundAt, dC) px_vI po pc op := by
  intro po
  unfold opX0_soundAt
  refine px_ok_cons (ps_aload_n dX0_soundAt_0 rfl) ?_
  refine px_ok_cons (fgX0_25 dX0_soundAt_1) ?_
  refine px_ok_cons (ps_iload_n dX0_soundAt_4 rfl) ?_
  refine px_ok_cons (ps_bipush dX0_soundAt_5 (by decide)) ?_
  refine px_ok_cons (ps_imul dX0_soundAt_7) ?_
  refine px_ok_cons (ps_iload_n dX0_soundAt_8 rfl) ?_
  refine px_ok_cons (ps_iadd dX0_soundAt_9) ?_
  refine px_ok_cons (ps_iaload dX0_soundAt_10) ?_
  refine px_ok_cons (ps_ireturn rfl dX0_soundAt_11) ?_
  exact px_ok_nil
set_option maxRecDepth 100000 in
set_option maxHeartbeats 4000000 in
theorem sgX0_soundAt_0 {po : Int32 → px_St → Prop} {G : px_K} (hG : px_cl (opX0_soundAt po) G) (v0 : Nat) (hv0 : px_av v0) (v1 : Int32) (v2 : Int32) (σ : px_St)
    (H : vp_in ((v1 * (6 : Int32)) + v2) 30 ∧ po (σ.1 (v0 + 4) ((v1 * (6 : Int32)) + v2).toNatClampNeg) σ) :
    G 0 (px_ent 3 [.ref v0, .int v1, .int v2]) [] σ := by
  refine hG.1 0 _ _ rfl _ _ _ ?_
  refine hG.1 1 _ _ rfl _ _ _ ?_
  refine ⟨(av_s0 hv0), ?_⟩
  refine hG.1 2 _ _ rfl _ _ _ ?_
  refine hG.1 3 _ _ rfl _ _ _ ?_
  refine hG.1 4 _ _ rfl _ _ _ ?_
  refine hG.1 5 _ _ rfl _ _ _ ?_
  refine hG.1 6 _ _ rfl _ _ _ ?_
  refine hG.1 7 _ _ rfl _ _ _ ?_
  refine ⟨(av_s4 hv0), by rw [(av_l4 hv0)]; exact H.1, ?_⟩
  replace H := H.2
  refine hG.1 8 _ _ rfl _ _ _ ?_
  exact ⟨rfl, H⟩
set_option maxRecDepth 100000 in
set_option maxHeartbeats 4000000 in
theorem hhX0_soundAt (g : gtX0_soundAt) (v0 : Nat) (hv0 : px_av v0) (v1 : Int32) (v2 : Int32) (σ : px_St) (h : qrX0_soundAt g v0 v1 v2 σ) (G : px_K) (hG : px_cl (opX0_soundAt (qoX0_soundAt g v0 v1 v2 σ)) G) : G 0 (px_ent 3 [.ref v0, .int v1, .int v2]) [] σ := by
  obtain ⟨V, p, i⟩ := g
  obtain ⟨hV, hw, hp, hi, rfl, rfl⟩ := h
  have hl := (hw.2.2.2 p hp).2.1
  have h5 := hw.1
  refine sgX0_soundAt_0 hG v0 hv0 _ _ σ ?_
  rw [ix6, nI_clamp (by omega)]
  refine ⟨vp_in_nI (by omega) (by decide), rfl, ?_⟩
  exact (hV.2 p hp).2.2.2 i _ (by rw [List.getD_eq_getElem?_getD, List.getElem?_eq_getElem hi]; rfl)
theorem mX0_soundAt (g : gtX0_soundAt) : px_Met dC yX0_soundAt (Cond.code yX0_soundAt cX0_soundAt 3 (some .int) :: wdC) rmX0_soundAt px_vI (prX0_soundAt g) (poX0_soundAt g) :=
  px_met (Z := (cX0_soundAt, 3, RX0, Cond.code yX0_soundAt cX0_soundAt 3 (some .int) :: wdC, (some .int), rmX0_soundAt, dC)) opX0_soundAt (by decide) rfl rfl okX0_soundAt (fun As σ h => by obtain ⟨v0, v1, v2, rfl, hv0, h⟩ := h; exact Nat.le_of_ble_eq_true rfl) (fun As σ h G hG => by obtain ⟨v0, v1, v2, rfl, hv0, h⟩ := h; exact hhX0_soundAt g v0 hv0 v1 v2 σ h G hG)
abbrev gtX0_setSound : Type := pv_V × Nat × Nat × Nat
def qrX0_setSound : gtX0_setSound → Nat → Int32 → Int32 → Int32 → px_St → Prop
  | (V, p, i, s), a, v1, v2, v3, σ => av_is σ a V ∧ pv_w V ∧ p < V.1 ∧ i < (V.2.2.2 p).2.2.length ∧ v1 = nI p ∧ v2 = nI i ∧ v3 = nI s
def qoX0_setSound : gtX0_setSound → Nat → Int32 → Int32 → Int32 → px_St → Unit → px_St → Prop
  | (V, p, i, s), a, _, _, _, σ, _, σ' => av_is σ' a (pv_at V p ((V.2.2.2 p).1, (V.2.2.2 p).2.1, (V.2.2.2 p).2.2.set i s)) ∧ px_only a σ σ'
def prX0_setSound (g : gtX0_setSound) : List Value → px_St → Prop := fun As σ => ∃ v0 : Nat, ∃ v1 : Int32, ∃ v2 : Int32, ∃ v3 : Int32, As = [.ref v0, .int v1, .int v2, .int v3] ∧ px_av v0 ∧ qrX0_setSound g v0 v1 v2 v3 σ
def poX0_setSound (g : gtX0_setSound) : List Value → px_St → Unit → px_St → Prop
  | [.ref v0, .int v1, .int v2, .int v3], σ, r, σ' => qoX0_setSound g v0 v1 v2 v3 σ r σ'
  | _, _, _, _ => False
theorem dX0_setSound_0 : decode cX0_setSound 0 = .ok (.aload_n 0, 1) := by decide +kernel
theorem dX0_setSound_1 : decode cX0_setSound 1 = .ok (.getfield 25, 3) := by decide +kernel
theorem dX0_setSound_4 : decode cX0_setSound 4 = .ok (.iload_n 1, 1) := by decide +kernel
theorem dX0_setSound_5 : decode cX0_setSound 5 = .ok (.bipush 6, 2) := by decide +kernel
theorem dX0_setSound_7 : decode cX0_setSound 7 = .ok (.imul, 1) := by decide +kernel
theorem dX0_setSound_8 : decode cX0_setSound 8 = .ok (.iload_n 2, 1) := by decide +kernel
theorem dX0_setSound_9 : decode cX0_setSound 9 = .ok (.iadd, 1) := by decide +kernel
theorem dX0_setSound_10 : decode cX0_setSound 10 = .ok (.iload_n 3, 1) := by decide +kernel
theorem dX0_setSound_11 : decode cX0_setSound 11 = .ok (.iastore, 1) := by decide +kernel
theorem dX0_setSound_12 : decode cX0_setSound 12 = .ok (.return_, 1) := by decide +kernel
abbrev rmX0_setSound : Room := { frames := 0, cells := 0, slots := 0, locals := 0 }
def opX0_setSound (po : Unit → px_St → Prop) : List (Nat × px_Op) := [
  (0, px_al 1 0),
  (1, px_get dC 4 0 6),
  (4, px_il 5 1),
  (5, px_push 7 (.int 6)),
  (7, px_bin 8 (fun x y => x * y)),
  (8, px_il 9 2),
  (9, px_bin 10 (fun x y => x + y)),
  (10, px_il 11 3),
  (11, px_ast dC 12 0 (fun x => x)),
  (12, px_vret po)]
set_option maxRecDepth 100000 in
set_option maxHeartbeats 4000000 in
theorem okX0_setSound : ∀ (po : Unit → px_St → Prop) (i pc : Nat) (op : px_Op), (opX0_setSound po)[i]? = some (pc, op) → px_Snd (cX0_setSound, 4, RX0, Cond.code yX0_setSound cX0_setSound 4 none :: wdC, none, rmX0_setSound, dC) px_vV po pc op := by
  intro po
  unfold opX0_setSound
  refine px_ok_cons (ps_aload_n dX0_setSound_0 rfl) ?_
  refine px_ok_cons (fgX0_25 dX0_setSound_1) ?_
  refine px_ok_cons (ps_iload_n dX0_setSound_4 rfl) ?_
  refine px_ok_cons (ps_bipush dX0_setSound_5 (by decide)) ?_
  refine px_ok_cons (ps_imul dX0_setSound_7) ?_
  refine px_ok_cons (ps_iload_n dX0_setSound_8 rfl) ?_
  refine px_ok_cons (ps_iadd dX0_setSound_9) ?_
  refine px_ok_cons (ps_iload_n dX0_setSound_10 rfl) ?_
  refine px_ok_cons (ps_iastore dX0_setSound_11) ?_
  refine px_ok_cons (ps_return rfl dX0_setSound_12) ?_
  exact px_ok_nil
set_option maxRecDepth 100000 in
set_option maxHeartbeats 4000000 in
theorem sgX0_setSound_0 {po : Unit → px_St → Prop} {G : px_K} (hG : px_cl (opX0_setSound po) G) (v0 : Nat) (hv0 : px_av v0) (v1 : Int32) (v2 : Int32) (v3 : Int32) (σ : px_St)
    (H : vp_in ((v1 * (6 : Int32)) + v2) 30 ∧ po () (px_up σ (v0 + 4) ((v1 * (6 : Int32)) + v2).toNatClampNeg v3)) :
    G 0 (px_ent 4 [.ref v0, .int v1, .int v2, .int v3]) [] σ := by
  refine hG.1 0 _ _ rfl _ _ _ ?_
  refine hG.1 1 _ _ rfl _ _ _ ?_
  refine ⟨(av_s0 hv0), ?_⟩
  refine hG.1 2 _ _ rfl _ _ _ ?_
  refine hG.1 3 _ _ rfl _ _ _ ?_
  refine hG.1 4 _ _ rfl _ _ _ ?_
  refine hG.1 5 _ _ rfl _ _ _ ?_
  refine hG.1 6 _ _ rfl _ _ _ ?_
  refine hG.1 7 _ _ rfl _ _ _ ?_
  refine hG.1 8 _ _ rfl _ _ _ ?_
  refine ⟨(av_s4 hv0), by rw [(av_l4 hv0)]; exact H.1, ?_⟩
  replace H := H.2
  refine hG.1 9 _ _ rfl _ _ _ ?_
  exact H
set_option maxRecDepth 100000 in
set_option maxHeartbeats 4000000 in
theorem hhX0_setSound (g : gtX0_setSound) (v0 : Nat) (hv0 : px_av v0) (v1 : Int32) (v2 : Int32) (v3 : Int32) (σ : px_St) (h : qrX0_setSound g v0 v1 v2 v3 σ) (G : px_K) (hG : px_cl (opX0_setSound (qoX0_setSound g v0 v1 v2 v3 σ)) G) : G 0 (px_ent 4 [.ref v0, .int v1, .int v2, .int v3]) [] σ := by
  obtain ⟨V, p, i, s⟩ := g
  obtain ⟨hV, hw, hp, hi, rfl, rfl, rfl⟩ := h
  have hl := (hw.2.2.2 p hp).2.1
  have h5 := hw.1
  refine sgX0_setSound_0 hG v0 hv0 _ _ _ σ ?_
  rw [ix6, nI_clamp (by omega)]
  have ho : px_onlyP v0 p σ (px_up σ (v0 + 4) (6 * p + i) (nI s)) := px_onlyP.up4 (by omega) (by omega)
  refine ⟨vp_in_nI (by omega) (by decide), av_mod hV (fun q hq => (hw.2.2.2 q hq).2.1) ho ?_, ho.only⟩
  obtain ⟨g1, g2, g3, g4⟩ := hV.2 p hp
  refine ⟨by rw [px_up_n (by omega)]; exact g1, by rw [px_up_n (by omega), List.length_set]; exact g2, by rw [px_up_n (by omega)]; exact g3, fun j x hx => ?_⟩
  rw [px_up_at]
  rw [List.getElem?_set] at hx
  by_cases hj : i = j
  · subst hj
    rw [if_pos rfl, if_pos hi] at hx
    rw [if_pos ⟨rfl, rfl⟩, Option.some.inj hx]
  · rw [if_neg hj] at hx
    rw [if_neg (by omega)]
    exact g4 j x hx
theorem mX0_setSound (g : gtX0_setSound) : px_Met dC yX0_setSound (Cond.code yX0_setSound cX0_setSound 4 none :: wdC) rmX0_setSound px_vV (prX0_setSound g) (poX0_setSound g) :=
  px_met (Z := (cX0_setSound, 4, RX0, Cond.code yX0_setSound cX0_setSound 4 none :: wdC, none, rmX0_setSound, dC)) opX0_setSound (by decide) rfl rfl okX0_setSound (fun As σ h => by obtain ⟨v0, v1, v2, v3, rfl, hv0, h⟩ := h; exact Nat.le_of_ble_eq_true rfl) (fun As σ h G hG => by obtain ⟨v0, v1, v2, v3, rfl, hv0, h⟩ := h; exact hhX0_setSound g v0 hv0 v1 v2 v3 σ h G hG)
abbrev gtX0_hasInMemory : Type := pv_V × Nat × Nat
def qrX0_hasInMemory : gtX0_hasInMemory → Nat → Int32 → Int32 → px_St → Prop
  | (V, p, s), a, v1, v2, σ => av_is σ a V ∧ pv_w V ∧ p < V.1 ∧ s ≤ 9 ∧ v1 = nI p ∧ v2 = nI s
def qoX0_hasInMemory : gtX0_hasInMemory → Nat → Int32 → Int32 → px_St → Int32 → px_St → Prop
  | (V, p, s), _, _, _, σ, r, σ' => σ' = σ ∧ px_b (s ∈ (V.2.2.2 p).2.2) r
def prX0_hasInMemory (g : gtX0_hasInMemory) : List Value → px_St → Prop := fun As σ => ∃ v0 : Nat, ∃ v1 : Int32, ∃ v2 : Int32, As = [.ref v0, .int v1, .int v2] ∧ px_av v0 ∧ qrX0_hasInMemory g v0 v1 v2 σ
def poX0_hasInMemory (g : gtX0_hasInMemory) : List Value → px_St → Int32 → px_St → Prop
  | [.ref v0, .int v1, .int v2], σ, r, σ' => qoX0_hasInMemory g v0 v1 v2 σ r σ'
  | _, _, _, _ => False
theorem dX0_hasInMemory_0 : decode cX0_hasInMemory 0 = .ok (.iload_n 1, 1) := by decide +kernel
theorem dX0_hasInMemory_1 : decode cX0_hasInMemory 1 = .ok (.bipush 6, 2) := by decide +kernel
theorem dX0_hasInMemory_3 : decode cX0_hasInMemory 3 = .ok (.imul, 1) := by decide +kernel
theorem dX0_hasInMemory_4 : decode cX0_hasInMemory 4 = .ok (.istore_n 3, 1) := by decide +kernel
theorem dX0_hasInMemory_5 : decode cX0_hasInMemory 5 = .ok (.iconst 0, 1) := by decide +kernel
theorem dX0_hasInMemory_6 : decode cX0_hasInMemory 6 = .ok (.istore 4, 2) := by decide +kernel
theorem dX0_hasInMemory_8 : decode cX0_hasInMemory 8 = .ok (.iload 4, 2) := by decide +kernel
theorem dX0_hasInMemory_10 : decode cX0_hasInMemory 10 = .ok (.aload_n 0, 1) := by decide +kernel
theorem dX0_hasInMemory_11 : decode cX0_hasInMemory 11 = .ok (.getfield 19, 3) := by decide +kernel
theorem dX0_hasInMemory_14 : decode cX0_hasInMemory 14 = .ok (.iload_n 1, 1) := by decide +kernel
theorem dX0_hasInMemory_15 : decode cX0_hasInMemory 15 = .ok (.iaload, 1) := by decide +kernel
theorem dX0_hasInMemory_16 : decode cX0_hasInMemory 16 = .ok (.if_icmp .ge 24, 3) := by decide +kernel
theorem dX0_hasInMemory_19 : decode cX0_hasInMemory 19 = .ok (.aload_n 0, 1) := by decide +kernel
theorem dX0_hasInMemory_20 : decode cX0_hasInMemory 20 = .ok (.getfield 25, 3) := by decide +kernel
theorem dX0_hasInMemory_23 : decode cX0_hasInMemory 23 = .ok (.iload_n 3, 1) := by decide +kernel
theorem dX0_hasInMemory_24 : decode cX0_hasInMemory 24 = .ok (.iload 4, 2) := by decide +kernel
theorem dX0_hasInMemory_26 : decode cX0_hasInMemory 26 = .ok (.iadd, 1) := by decide +kernel
theorem dX0_hasInMemory_27 : decode cX0_hasInMemory 27 = .ok (.iaload, 1) := by decide +kernel
theorem dX0_hasInMemory_28 : decode cX0_hasInMemory 28 = .ok (.iload_n 2, 1) := by decide +kernel
theorem dX0_hasInMemory_29 : decode cX0_hasInMemory 29 = .ok (.if_icmp .ne 5, 3) := by decide +kernel
theorem dX0_hasInMemory_32 : decode cX0_hasInMemory 32 = .ok (.iconst 1, 1) := by decide +kernel
theorem dX0_hasInMemory_33 : decode cX0_hasInMemory 33 = .ok (.ireturn, 1) := by decide +kernel
theorem dX0_hasInMemory_34 : decode cX0_hasInMemory 34 = .ok (.iinc 4 1, 3) := by decide +kernel
theorem dX0_hasInMemory_37 : decode cX0_hasInMemory 37 = .ok (.goto (-29), 3) := by decide +kernel
theorem dX0_hasInMemory_40 : decode cX0_hasInMemory 40 = .ok (.iconst 0, 1) := by decide +kernel
theorem dX0_hasInMemory_41 : decode cX0_hasInMemory 41 = .ok (.ireturn, 1) := by decide +kernel
abbrev rmX0_hasInMemory : Room := { frames := 0, cells := 0, slots := 0, locals := 0 }
def opX0_hasInMemory (po : Int32 → px_St → Prop) : List (Nat × px_Op) := [
  (0, px_il 1 1),
  (1, px_push 3 (.int 6)),
  (3, px_bin 4 (fun x y => x * y)),
  (4, px_is 5 3),
  (5, px_push 6 (.int 0)),
  (6, px_is 8 4),
  (8, px_il 10 4),
  (10, px_al 11 0),
  (11, px_get dC 14 0 4),
  (14, px_il 15 1),
  (15, px_ald dC 16 0),
  (16, px_ic 19 40 (fun x y => y ≤ x)),
  (19, px_al 20 0),
  (20, px_get dC 23 0 6),
  (23, px_il 24 3),
  (24, px_il 26 4),
  (26, px_bin 27 (fun x y => x + y)),
  (27, px_ald dC 28 0),
  (28, px_il 29 2),
  (29, px_ic 32 34 (fun x y => ¬ x = y)),
  (32, px_push 33 (.int 1)),
  (33, px_iret (.boolean) po),
  (34, px_inc 37 4 1),
  (37, px_go 8),
  (40, px_push 41 (.int 0)),
  (41, px_iret (.boolean) po)]
set_option maxRecDepth 100000 in
set_option maxHeartbeats 4000000 in
theorem okX0_hasInMemory : ∀ (po : Int32 → px_St → Prop) (i pc : Nat) (op : px_Op), (opX0_hasInMemory po)[i]? = some (pc, op) → px_Snd (cX0_hasInMemory, 5, RX0, Cond.code yX0_hasInMemory cX0_hasInMemory 5 (some .boolean) :: wdC, (some .boolean), rmX0_hasInMemory, dC) px_vI po pc op := by
  intro po
  unfold opX0_hasInMemory
  refine px_ok_cons (ps_iload_n dX0_hasInMemory_0 rfl) ?_
  refine px_ok_cons (ps_bipush dX0_hasInMemory_1 (by decide)) ?_
  refine px_ok_cons (ps_imul dX0_hasInMemory_3) ?_
  refine px_ok_cons (ps_istore_n dX0_hasInMemory_4 rfl (by decide)) ?_
  refine px_ok_cons (ps_iconst dX0_hasInMemory_5 (by decide)) ?_
  refine px_ok_cons (ps_istore dX0_hasInMemory_6 (by decide)) ?_
  refine px_ok_cons (ps_iload dX0_hasInMemory_8) ?_
  refine px_ok_cons (ps_aload_n dX0_hasInMemory_10 rfl) ?_
  refine px_ok_cons (fgX0_19 dX0_hasInMemory_11) ?_
  refine px_ok_cons (ps_iload_n dX0_hasInMemory_14 rfl) ?_
  refine px_ok_cons (ps_iaload dX0_hasInMemory_15) ?_
  refine px_ok_cons (ps_icmp_ge dX0_hasInMemory_16 (by decide)) ?_
  refine px_ok_cons (ps_aload_n dX0_hasInMemory_19 rfl) ?_
  refine px_ok_cons (fgX0_25 dX0_hasInMemory_20) ?_
  refine px_ok_cons (ps_iload_n dX0_hasInMemory_23 rfl) ?_
  refine px_ok_cons (ps_iload dX0_hasInMemory_24) ?_
  refine px_ok_cons (ps_iadd dX0_hasInMemory_26) ?_
  refine px_ok_cons (ps_iaload dX0_hasInMemory_27) ?_
  refine px_ok_cons (ps_iload_n dX0_hasInMemory_28 rfl) ?_
  refine px_ok_cons (ps_icmp_ne dX0_hasInMemory_29 (by decide)) ?_
  refine px_ok_cons (ps_iconst dX0_hasInMemory_32 (by decide)) ?_
  refine px_ok_cons (ps_ireturn rfl dX0_hasInMemory_33) ?_
  refine px_ok_cons (ps_iinc dX0_hasInMemory_34 (by decide) (by decide)) ?_
  refine px_ok_cons (ps_goto dX0_hasInMemory_37 (by decide)) ?_
  refine px_ok_cons (ps_iconst dX0_hasInMemory_40 (by decide)) ?_
  refine px_ok_cons (ps_ireturn rfl dX0_hasInMemory_41) ?_
  exact px_ok_nil
set_option maxRecDepth 100000 in
set_option maxHeartbeats 4000000 in
theorem sgX0_hasInMemory_0 {po : Int32 → px_St → Prop} {G : px_K} (hG : px_cl (opX0_hasInMemory po) G) (v0 : Nat) (hv0 : px_av v0) (v1 : Int32) (v2 : Int32) (σ : px_St)
    (H : G 8 [some (.ref v0), some (.int v1), some (.int v2), some (.int (v1 * (6 : Int32))), some (.int (0 : Int32))] [] σ) :
    G 0 (px_ent 5 [.ref v0, .int v1, .int v2]) [] σ := by
  refine hG.1 0 _ _ rfl _ _ _ ?_
  refine hG.1 1 _ _ rfl _ _ _ ?_
  refine hG.1 2 _ _ rfl _ _ _ ?_
  refine hG.1 3 _ _ rfl _ _ _ ?_
  show G 5 [some (.ref v0), some (.int v1), some (.int v2), some (.int (v1 * (6 : Int32))), none] [] σ
  refine hG.1 4 _ _ rfl _ _ _ ?_
  refine hG.1 5 _ _ rfl _ _ _ ?_
  show G 8 [some (.ref v0), some (.int v1), some (.int v2), some (.int (v1 * (6 : Int32))), some (.int (0 : Int32))] [] σ
  exact H
set_option maxRecDepth 100000 in
set_option maxHeartbeats 4000000 in
theorem sgX0_hasInMemory_8 {po : Int32 → px_St → Prop} {G : px_K} (hG : px_cl (opX0_hasInMemory po) G) (v0 : Nat) (hv0 : px_av v0) (v1 : Int32) (v2 : Int32) (v3 : Int32) (v4 : Int32) (σ : px_St)
    (H : vp_in v1 5 ∧ (((σ.1 (v0 + 2) v1.toNatClampNeg) ≤ v4) → po (0 : Int32) σ) ∧ (¬ ((σ.1 (v0 + 2) v1.toNatClampNeg) ≤ v4) → vp_in (v3 + v4) 30 ∧ ((¬ (σ.1 (v0 + 4) (v3 + v4).toNatClampNeg) = v2) → G 8 [some (.ref v0), some (.int v1), some (.int v2), some (.int v3), some (.int (v4 + 1))] [] σ) ∧ (¬ (¬ (σ.1 (v0 + 4) (v3 + v4).toNatClampNeg) = v2) → po (1 : Int32) σ))) :
    G 8 [some (.ref v0), some (.int v1), some (.int v2), some (.int v3), some (.int v4)] [] σ := by
  refine hG.1 6 _ _ rfl _ _ _ ?_
  refine hG.1 7 _ _ rfl _ _ _ ?_
  refine hG.1 8 _ _ rfl _ _ _ ?_
  refine ⟨(av_s0 hv0), ?_⟩
  refine hG.1 9 _ _ rfl _ _ _ ?_
  refine hG.1 10 _ _ rfl _ _ _ ?_
  refine ⟨(av_s2 hv0), by rw [(av_l2 hv0)]; exact H.1, ?_⟩
  replace H := H.2
  refine hG.1 11 _ _ rfl _ _ _ ?_
  refine ⟨fun h2 => ?_, fun h2 => ?_⟩
  · replace H := H.1 h2
    refine hG.1 24 _ _ rfl _ _ _ ?_
    refine hG.1 25 _ _ rfl _ _ _ ?_
    exact ⟨rfl, H⟩
  · replace H := H.2 h2
    refine hG.1 12 _ _ rfl _ _ _ ?_
    refine hG.1 13 _ _ rfl _ _ _ ?_
    refine ⟨(av_s0 hv0), ?_⟩
    refine hG.1 14 _ _ rfl _ _ _ ?_
    refine hG.1 15 _ _ rfl _ _ _ ?_
    refine hG.1 16 _ _ rfl _ _ _ ?_
    refine hG.1 17 _ _ rfl _ _ _ ?_
    refine ⟨(av_s4 hv0), by rw [(av_l4 hv0)]; exact H.1, ?_⟩
    replace H := H.2
    refine hG.1 18 _ _ rfl _ _ _ ?_
    refine hG.1 19 _ _ rfl _ _ _ ?_
    refine ⟨fun h1 => ?_, fun h1 => ?_⟩
    · replace H := H.1 h1
      refine hG.1 22 _ _ rfl _ _ _ ?_
      show G 37 [some (.ref v0), some (.int v1), some (.int v2), some (.int v3), some (.int (v4 + 1))] [] σ
      refine hG.1 23 _ _ rfl _ _ _ ?_
      exact H
    · replace H := H.2 h1
      refine hG.1 20 _ _ rfl _ _ _ ?_
      refine hG.1 21 _ _ rfl _ _ _ ?_
      exact ⟨rfl, H⟩
set_option maxRecDepth 100000 in
set_option maxHeartbeats 4000000 in
theorem hhX0_hasInMemory (g : gtX0_hasInMemory) (v0 : Nat) (hv0 : px_av v0) (v1 : Int32) (v2 : Int32) (σ : px_St) (h : qrX0_hasInMemory g v0 v1 v2 σ) (G : px_K) (hG : px_cl (opX0_hasInMemory (qoX0_hasInMemory g v0 v1 v2 σ)) G) : G 0 (px_ent 5 [.ref v0, .int v1, .int v2]) [] σ := by
  obtain ⟨V, p, s⟩ := g
  obtain ⟨hV, hw, hp, hs, rfl, rfl⟩ := h
  obtain ⟨hk3, hl, hx9⟩ := hw.2.2.2 p hp
  have h5 := hw.1
  obtain ⟨g1, g2, g3, g4⟩ := hV.2 p hp
  refine sgX0_hasInMemory_0 hG v0 hv0 _ _ σ ?_
  have loop : ∀ n k, k + n = (V.2.2.2 p).2.2.length → (∀ j, j < k → (V.2.2.2 p).2.2[j]? ≠ some s) → G 8 [some (.ref v0), some (.int (nI p)), some (.int (nI s)), some (.int (nI p * 6)), some (.int (nI k))] [] σ := by
    intro n
    induction n with
    | zero =>
      intro k hk hno
      refine sgX0_hasInMemory_8 hG v0 hv0 _ _ _ _ σ ?_
      rw [nI_clamp (by omega), g2]
      refine ⟨vp_in_nI (by omega) (by decide), fun _ => ⟨rfl, Or.inr ⟨fun hm => ?_, rfl⟩⟩, fun hn => absurd (nI_le (by omega) (by omega)) hn⟩
      obtain ⟨j, hj⟩ := List.getElem?_of_mem hm
      have := (List.getElem?_eq_some_iff.mp hj).1
      exact hno j (by omega) hj
    | succ n ih =>
      intro k hk hno
      refine sgX0_hasInMemory_8 hG v0 hv0 _ _ _ _ σ ?_
      rw [nI_clamp (by omega), g2]
      refine ⟨vp_in_nI (by omega) (by decide), fun hn => absurd hn (nI_ge (by omega) (by omega)), fun _ => ?_⟩
      rw [ix6, nI_clamp (by omega)]
      have hkl : k < (V.2.2.2 p).2.2.length := by omega
      have hc := g4 k _ (List.getElem?_eq_getElem hkl)
      have hx := hx9 _ (List.getElem_mem hkl)
      rw [hc]
      refine ⟨vp_in_nI (by omega) (by decide), fun hne => ?_, fun heq => ?_⟩
      · rw [nI_1]
        refine ih (k + 1) (by omega) (fun j hj => ?_)
        by_cases hjk : j = k
        · subst hjk
          rw [List.getElem?_eq_getElem hkl]
          intro h
          exact hne (by rw [Option.some.inj h])
        · exact hno j (by omega)
      · have he : (V.2.2.2 p).2.2[k] = s := by
          rcases Classical.em (nI (V.2.2.2 p).2.2[k] = nI s) with h | h
          · exact (nI_eq (by omega) (by omega)).mp h
          · exact absurd h heq
        exact ⟨rfl, Or.inl ⟨by rw [← he]; exact List.getElem_mem hkl, rfl⟩⟩
  exact loop _ 0 (Nat.zero_add _) (fun j hj => by omega)
theorem mX0_hasInMemory (g : gtX0_hasInMemory) : px_Met dC yX0_hasInMemory (Cond.code yX0_hasInMemory cX0_hasInMemory 5 (some .boolean) :: wdC) rmX0_hasInMemory px_vI (prX0_hasInMemory g) (poX0_hasInMemory g) :=
  px_met (Z := (cX0_hasInMemory, 5, RX0, Cond.code yX0_hasInMemory cX0_hasInMemory 5 (some .boolean) :: wdC, (some .boolean), rmX0_hasInMemory, dC)) opX0_hasInMemory (by decide) rfl rfl okX0_hasInMemory (fun As σ h => by obtain ⟨v0, v1, v2, rfl, hv0, h⟩ := h; exact Nat.le_of_ble_eq_true rfl) (fun As σ h G hG => by obtain ⟨v0, v1, v2, rfl, hv0, h⟩ := h; exact hhX0_hasInMemory g v0 hv0 v1 v2 σ h G hG)
abbrev gtX0_soundDue : Type := pv_V
def qrX0_soundDue (V : pv_V) (a : Nat) (σ : px_St) : Prop := av_is σ a V ∧ pv_ok V
def qoX0_soundDue (V : pv_V) (_ : Nat) (σ : px_St) (r : Int32) (σ' : px_St) : Prop := σ' = σ ∧ r = pv_said V
def prX0_soundDue (g : gtX0_soundDue) : List Value → px_St → Prop := fun As σ => ∃ v0 : Nat, As = [.ref v0] ∧ px_av v0 ∧ qrX0_soundDue g v0 σ
def poX0_soundDue (g : gtX0_soundDue) : List Value → px_St → Int32 → px_St → Prop
  | [.ref v0], σ, r, σ' => qoX0_soundDue g v0 σ r σ'
  | _, _, _, _ => False
theorem dX0_soundDue_0 : decode cX0_soundDue 0 = .ok (.aload_n 0, 1) := by decide +kernel
theorem dX0_soundDue_1 : decode cX0_soundDue 1 = .ok (.invokevirtual 44, 3) := by decide +kernel
theorem dX0_soundDue_4 : decode cX0_soundDue 4 = .ok (.istore_n 1, 1) := by decide +kernel
theorem dX0_soundDue_5 : decode cX0_soundDue 5 = .ok (.iload_n 1, 1) := by decide +kernel
theorem dX0_soundDue_6 : decode cX0_soundDue 6 = .ok (.bipush (-4), 2) := by decide +kernel
theorem dX0_soundDue_8 : decode cX0_soundDue 8 = .ok (.if_icmp .ne 8, 3) := by decide +kernel
theorem dX0_soundDue_11 : decode cX0_soundDue 11 = .ok (.bipush (-4), 2) := by decide +kernel
theorem dX0_soundDue_13 : decode cX0_soundDue 13 = .ok (.goto 14, 3) := by decide +kernel
theorem dX0_soundDue_16 : decode cX0_soundDue 16 = .ok (.aload_n 0, 1) := by decide +kernel
theorem dX0_soundDue_17 : decode cX0_soundDue 17 = .ok (.iload_n 1, 1) := by decide +kernel
theorem dX0_soundDue_18 : decode cX0_soundDue 18 = .ok (.aload_n 0, 1) := by decide +kernel
theorem dX0_soundDue_19 : decode cX0_soundDue 19 = .ok (.getfield 22, 3) := by decide +kernel
theorem dX0_soundDue_22 : decode cX0_soundDue 22 = .ok (.iload_n 1, 1) := by decide +kernel
theorem dX0_soundDue_23 : decode cX0_soundDue 23 = .ok (.iaload, 1) := by decide +kernel
theorem dX0_soundDue_24 : decode cX0_soundDue 24 = .ok (.invokevirtual 48, 3) := by decide +kernel
theorem dX0_soundDue_27 : decode cX0_soundDue 27 = .ok (.ireturn, 1) := by decide +kernel
abbrev rmX0_soundDue : Room := { frames := 1, cells := 0, slots := 0, locals := 22 }
def opX0_soundDue (po : Int32 → px_St → Prop) : List (Nat × px_Op) := [
  (0, px_al 1 0),
  (1, px_callV dC 4 0 0 px_vI prX0_speaker poX0_speaker),
  (4, px_is 5 1),
  (5, px_il 6 1),
  (6, px_push 8 (.int (-4))),
  (8, px_ic 11 16 (fun x y => ¬ x = y)),
  (11, px_push 13 (.int (-4))),
  (13, px_go 27),
  (16, px_al 17 0),
  (17, px_il 18 1),
  (18, px_al 19 0),
  (19, px_get dC 22 0 5),
  (22, px_il 23 1),
  (23, px_ald dC 24 0),
  (24, px_callV dC 27 0 2 px_vI prX0_soundAt poX0_soundAt),
  (27, px_iret (.int) po)]
set_option maxRecDepth 100000 in
set_option maxHeartbeats 4000000 in
theorem okX0_soundDue : ∀ (po : Int32 → px_St → Prop) (i pc : Nat) (op : px_Op), (opX0_soundDue po)[i]? = some (pc, op) → px_Snd (cX0_soundDue, 2, RX0, Cond.code yX0_soundDue cX0_soundDue 2 (some .int) :: wdC, (some .int), rmX0_soundDue, dC) px_vI po pc op := by
  intro po
  unfold opX0_soundDue
  refine px_ok_cons (ps_aload_n dX0_soundDue_0 rfl) ?_
  refine px_ok_cons (ps_callV mX0_speaker (fun _ _ => rfl) (C := RX0) rfl (fun _ _ ht => px_cwV wgC (wdC_0_in _ (List.mem_of_getElem? (i := 28) rfl)) (wdC_0_in _ (List.mem_of_getElem? (i := 29) rfl)) (wdC_0_in _ (List.mem_of_getElem? (i := 30) rfl)) (wdC_0_in _ (List.mem_of_getElem? (i := 22) rfl)) (wdC_0_in _ (List.mem_of_getElem? (i := 25) rfl)) (by decide +kernel) rfl rfl (by decide) ht) dX0_soundDue_1) ?_
  refine px_ok_cons (ps_istore_n dX0_soundDue_4 rfl (by decide)) ?_
  refine px_ok_cons (ps_iload_n dX0_soundDue_5 rfl) ?_
  refine px_ok_cons (ps_bipush dX0_soundDue_6 (by decide)) ?_
  refine px_ok_cons (ps_icmp_ne dX0_soundDue_8 (by decide)) ?_
  refine px_ok_cons (ps_bipush dX0_soundDue_11 (by decide)) ?_
  refine px_ok_cons (ps_goto dX0_soundDue_13 (by decide)) ?_
  refine px_ok_cons (ps_aload_n dX0_soundDue_16 rfl) ?_
  refine px_ok_cons (ps_iload_n dX0_soundDue_17 rfl) ?_
  refine px_ok_cons (ps_aload_n dX0_soundDue_18 rfl) ?_
  refine px_ok_cons (fgX0_22 dX0_soundDue_19) ?_
  refine px_ok_cons (ps_iload_n dX0_soundDue_22 rfl) ?_
  refine px_ok_cons (ps_iaload dX0_soundDue_23) ?_
  refine px_ok_cons (ps_callV mX0_soundAt (fun _ _ => rfl) (C := RX0) rfl (fun _ _ ht => px_cwV wgC (wdC_0_in _ (List.mem_of_getElem? (i := 31) rfl)) (wdC_0_in _ (List.mem_of_getElem? (i := 32) rfl)) (wdC_0_in _ (List.mem_of_getElem? (i := 33) rfl)) (wdC_0_in _ (List.mem_of_getElem? (i := 22) rfl)) (wdC_0_in _ (List.mem_of_getElem? (i := 26) rfl)) (by decide +kernel) rfl rfl (by decide) ht) dX0_soundDue_24) ?_
  refine px_ok_cons (ps_ireturn rfl dX0_soundDue_27) ?_
  exact px_ok_nil
set_option maxRecDepth 100000 in
set_option maxHeartbeats 4000000 in
theorem sgX0_soundDue_0 {po : Int32 → px_St → Prop} {G : px_K} (hG : px_cl (opX0_soundDue po) G) (v0 : Nat) (hv0 : px_av v0) (σ : px_St)
    (H : ∃ g3 : gtX0_speaker, qrX0_speaker g3 v0 σ ∧ ∀ (r1 : Int32) (σ2 : px_St), qoX0_speaker g3 v0 σ r1 σ2 → ((¬ r1 = (-4 : Int32)) → vp_in r1 5 ∧ ∃ g7 : gtX0_soundAt, qrX0_soundAt g7 v0 r1 (σ2.1 (v0 + 3) r1.toNatClampNeg) σ2 ∧ ∀ (r5 : Int32) (σ6 : px_St), qoX0_soundAt g7 v0 r1 (σ2.1 (v0 + 3) r1.toNatClampNeg) σ2 r5 σ6 → po r5 σ6) ∧ (¬ (¬ r1 = (-4 : Int32)) → po (-4 : Int32) σ2)) :
    G 0 (px_ent 2 [.ref v0]) [] σ := by
  refine hG.1 0 _ _ rfl _ _ _ ?_
  refine hG.1 1 _ _ rfl _ _ _ ?_
  obtain ⟨g3, H⟩ := H
  refine ⟨(av_s0 hv0), Nat.le_of_ble_eq_true rfl, g3, ⟨_, rfl, hv0, H.1⟩, fun r1 σ2 hp4 => ?_⟩
  replace H := H.2 r1 σ2 hp4
  refine hG.1 2 _ _ rfl _ _ _ ?_
  show G 5 [some (.ref v0), some (.int r1)] [] σ2
  refine hG.1 3 _ _ rfl _ _ _ ?_
  refine hG.1 4 _ _ rfl _ _ _ ?_
  refine hG.1 5 _ _ rfl _ _ _ ?_
  refine ⟨fun h9 => ?_, fun h9 => ?_⟩
  · replace H := H.1 h9
    refine hG.1 8 _ _ rfl _ _ _ ?_
    refine hG.1 9 _ _ rfl _ _ _ ?_
    refine hG.1 10 _ _ rfl _ _ _ ?_
    refine hG.1 11 _ _ rfl _ _ _ ?_
    refine ⟨(av_s0 hv0), ?_⟩
    refine hG.1 12 _ _ rfl _ _ _ ?_
    refine hG.1 13 _ _ rfl _ _ _ ?_
    refine ⟨(av_s3 hv0), by rw [(av_l3 hv0)]; exact H.1, ?_⟩
    replace H := H.2
    refine hG.1 14 _ _ rfl _ _ _ ?_
    obtain ⟨g7, H⟩ := H
    refine ⟨(av_s0 hv0), Nat.le_of_ble_eq_true rfl, g7, ⟨_, _, _, rfl, hv0, H.1⟩, fun r5 σ6 hp8 => ?_⟩
    replace H := H.2 r5 σ6 hp8
    refine hG.1 15 _ _ rfl _ _ _ ?_
    exact ⟨rfl, H⟩
  · replace H := H.2 h9
    refine hG.1 6 _ _ rfl _ _ _ ?_
    refine hG.1 7 _ _ rfl _ _ _ ?_
    refine hG.1 15 _ _ rfl _ _ _ ?_
    exact ⟨rfl, H⟩
set_option maxRecDepth 100000 in
set_option maxHeartbeats 4000000 in
theorem hhX0_soundDue (g : gtX0_soundDue) (v0 : Nat) (hv0 : px_av v0) (σ : px_St) (h : qrX0_soundDue g v0 σ) (G : px_K) (hG : px_cl (opX0_soundDue (qoX0_soundDue g v0 σ)) G) : G 0 (px_ent 2 [.ref v0]) [] σ := by
  obtain ⟨hV, hok⟩ := h
  have hw := hok.1
  have h5 := hw.1
  refine sgX0_soundDue_0 hG v0 hv0 σ ⟨g, ⟨hV, hw⟩, fun r σ2 hp => ?_⟩
  obtain ⟨rfl, rfl⟩ := hp
  rcases Nat.eq_zero_or_pos g.1 with hn | hn
  · have e : pv_spk g = -4 := by unfold pv_spk; rw [if_pos hn]
    refine ⟨fun z => absurd e z, fun _ => ⟨rfl, ?_⟩⟩
    unfold pv_said
    rw [if_pos hn]
  · have hlt := pv_spk_lt hn
    have e : pv_spk g = nI (g.2.2.1 % g.1) := by unfold pv_spk; rw [if_neg (by omega)]
    have hne : ¬ nI (g.2.2.1 % g.1) = -4 := fun z => absurd (show (nI (g.2.2.1 % g.1)) < 0 by rw [z]; decide) (nI_pos (by omega))
    rw [e]
    refine ⟨fun _ => ?_, fun z => absurd hne z⟩
    rw [nI_clamp (by omega), (hV.2 _ hlt).2.2.1]
    refine ⟨vp_in_nI (by omega) (by decide), (g, g.2.2.1 % g.1, (g.2.2.2 (g.2.2.1 % g.1)).2.1), ⟨hV, hw, hlt, hok.2 _ hlt, rfl, rfl⟩, fun r5 σ6 hp => ?_⟩
    obtain ⟨rfl, rfl⟩ := hp
    refine ⟨rfl, ?_⟩
    unfold pv_said
    rw [if_neg (by omega)]
    rfl
theorem mX0_soundDue (g : gtX0_soundDue) : px_Met dC yX0_soundDue (Cond.code yX0_soundDue cX0_soundDue 2 (some .int) :: wdC) rmX0_soundDue px_vI (prX0_soundDue g) (poX0_soundDue g) :=
  px_met (Z := (cX0_soundDue, 2, RX0, Cond.code yX0_soundDue cX0_soundDue 2 (some .int) :: wdC, (some .int), rmX0_soundDue, dC)) opX0_soundDue (by decide) rfl rfl okX0_soundDue (fun As σ h => by obtain ⟨v0, rfl, hv0, h⟩ := h; exact Nat.le_of_ble_eq_true rfl) (fun As σ h G hG => by obtain ⟨v0, rfl, hv0, h⟩ := h; exact hhX0_soundDue g v0 hv0 σ h G hG)
abbrev gtX0_nextPlace : Type := pv_V × Nat
def qrX0_nextPlace : gtX0_nextPlace → Nat → Int32 → px_St → Prop
  | (V, p), a, v1, σ => av_is σ a V ∧ pv_ok V ∧ p < V.1 ∧ v1 = nI p
def qoX0_nextPlace : gtX0_nextPlace → Nat → Int32 → px_St → Int32 → px_St → Prop
  | (V, p), _, _, σ, r, σ' => σ' = σ ∧ r = nI (pv_next (V.2.2.2 p))
def prX0_nextPlace (g : gtX0_nextPlace) : List Value → px_St → Prop := fun As σ => ∃ v0 : Nat, ∃ v1 : Int32, As = [.ref v0, .int v1] ∧ px_av v0 ∧ qrX0_nextPlace g v0 v1 σ
def poX0_nextPlace (g : gtX0_nextPlace) : List Value → px_St → Int32 → px_St → Prop
  | [.ref v0, .int v1], σ, r, σ' => qoX0_nextPlace g v0 v1 σ r σ'
  | _, _, _, _ => False
theorem dX0_nextPlace_0 : decode cX0_nextPlace 0 = .ok (.aload_n 0, 1) := by decide +kernel
theorem dX0_nextPlace_1 : decode cX0_nextPlace 1 = .ok (.getfield 19, 3) := by decide +kernel
theorem dX0_nextPlace_4 : decode cX0_nextPlace 4 = .ok (.iload_n 1, 1) := by decide +kernel
theorem dX0_nextPlace_5 : decode cX0_nextPlace 5 = .ok (.iaload, 1) := by decide +kernel
theorem dX0_nextPlace_6 : decode cX0_nextPlace 6 = .ok (.iconst 1, 1) := by decide +kernel
theorem dX0_nextPlace_7 : decode cX0_nextPlace 7 = .ok (.isub, 1) := by decide +kernel
theorem dX0_nextPlace_8 : decode cX0_nextPlace 8 = .ok (.istore_n 2, 1) := by decide +kernel
theorem dX0_nextPlace_9 : decode cX0_nextPlace 9 = .ok (.aload_n 0, 1) := by decide +kernel
theorem dX0_nextPlace_10 : decode cX0_nextPlace 10 = .ok (.getfield 15, 3) := by decide +kernel
theorem dX0_nextPlace_13 : decode cX0_nextPlace 13 = .ok (.iload_n 1, 1) := by decide +kernel
theorem dX0_nextPlace_14 : decode cX0_nextPlace 14 = .ok (.iaload, 1) := by decide +kernel
theorem dX0_nextPlace_15 : decode cX0_nextPlace 15 = .ok (.iconst 3, 1) := by decide +kernel
theorem dX0_nextPlace_16 : decode cX0_nextPlace 16 = .ok (.if_icmp .ne 25, 3) := by decide +kernel
theorem dX0_nextPlace_19 : decode cX0_nextPlace 19 = .ok (.aload_n 0, 1) := by decide +kernel
theorem dX0_nextPlace_20 : decode cX0_nextPlace 20 = .ok (.getfield 22, 3) := by decide +kernel
theorem dX0_nextPlace_23 : decode cX0_nextPlace 23 = .ok (.iload_n 1, 1) := by decide +kernel
theorem dX0_nextPlace_24 : decode cX0_nextPlace 24 = .ok (.iaload, 1) := by decide +kernel
theorem dX0_nextPlace_25 : decode cX0_nextPlace 25 = .ok (.ifCond .le 14, 3) := by decide +kernel
theorem dX0_nextPlace_28 : decode cX0_nextPlace 28 = .ok (.aload_n 0, 1) := by decide +kernel
theorem dX0_nextPlace_29 : decode cX0_nextPlace 29 = .ok (.getfield 22, 3) := by decide +kernel
theorem dX0_nextPlace_32 : decode cX0_nextPlace 32 = .ok (.iload_n 1, 1) := by decide +kernel
theorem dX0_nextPlace_33 : decode cX0_nextPlace 33 = .ok (.iaload, 1) := by decide +kernel
theorem dX0_nextPlace_34 : decode cX0_nextPlace 34 = .ok (.iconst 1, 1) := by decide +kernel
theorem dX0_nextPlace_35 : decode cX0_nextPlace 35 = .ok (.isub, 1) := by decide +kernel
theorem dX0_nextPlace_36 : decode cX0_nextPlace 36 = .ok (.goto 4, 3) := by decide +kernel
theorem dX0_nextPlace_39 : decode cX0_nextPlace 39 = .ok (.iload_n 2, 1) := by decide +kernel
theorem dX0_nextPlace_40 : decode cX0_nextPlace 40 = .ok (.ireturn, 1) := by decide +kernel
theorem dX0_nextPlace_41 : decode cX0_nextPlace 41 = .ok (.aload_n 0, 1) := by decide +kernel
theorem dX0_nextPlace_42 : decode cX0_nextPlace 42 = .ok (.getfield 22, 3) := by decide +kernel
theorem dX0_nextPlace_45 : decode cX0_nextPlace 45 = .ok (.iload_n 1, 1) := by decide +kernel
theorem dX0_nextPlace_46 : decode cX0_nextPlace 46 = .ok (.iaload, 1) := by decide +kernel
theorem dX0_nextPlace_47 : decode cX0_nextPlace 47 = .ok (.iload_n 2, 1) := by decide +kernel
theorem dX0_nextPlace_48 : decode cX0_nextPlace 48 = .ok (.if_icmp .ge 14, 3) := by decide +kernel
theorem dX0_nextPlace_51 : decode cX0_nextPlace 51 = .ok (.aload_n 0, 1) := by decide +kernel
theorem dX0_nextPlace_52 : decode cX0_nextPlace 52 = .ok (.getfield 22, 3) := by decide +kernel
theorem dX0_nextPlace_55 : decode cX0_nextPlace 55 = .ok (.iload_n 1, 1) := by decide +kernel
theorem dX0_nextPlace_56 : decode cX0_nextPlace 56 = .ok (.iaload, 1) := by decide +kernel
theorem dX0_nextPlace_57 : decode cX0_nextPlace 57 = .ok (.iconst 1, 1) := by decide +kernel
theorem dX0_nextPlace_58 : decode cX0_nextPlace 58 = .ok (.iadd, 1) := by decide +kernel
theorem dX0_nextPlace_59 : decode cX0_nextPlace 59 = .ok (.goto 4, 3) := by decide +kernel
theorem dX0_nextPlace_62 : decode cX0_nextPlace 62 = .ok (.iconst 0, 1) := by decide +kernel
theorem dX0_nextPlace_63 : decode cX0_nextPlace 63 = .ok (.istore_n 3, 1) := by decide +kernel
theorem dX0_nextPlace_64 : decode cX0_nextPlace 64 = .ok (.aload_n 0, 1) := by decide +kernel
theorem dX0_nextPlace_65 : decode cX0_nextPlace 65 = .ok (.getfield 15, 3) := by decide +kernel
theorem dX0_nextPlace_68 : decode cX0_nextPlace 68 = .ok (.iload_n 1, 1) := by decide +kernel
theorem dX0_nextPlace_69 : decode cX0_nextPlace 69 = .ok (.iaload, 1) := by decide +kernel
theorem dX0_nextPlace_70 : decode cX0_nextPlace 70 = .ok (.iconst 1, 1) := by decide +kernel
theorem dX0_nextPlace_71 : decode cX0_nextPlace 71 = .ok (.if_icmp .ne 16, 3) := by decide +kernel
theorem dX0_nextPlace_74 : decode cX0_nextPlace 74 = .ok (.iload_n 3, 1) := by decide +kernel
theorem dX0_nextPlace_75 : decode cX0_nextPlace 75 = .ok (.iload_n 2, 1) := by decide +kernel
theorem dX0_nextPlace_76 : decode cX0_nextPlace 76 = .ok (.if_icmp .ge 9, 3) := by decide +kernel
theorem dX0_nextPlace_79 : decode cX0_nextPlace 79 = .ok (.iload_n 3, 1) := by decide +kernel
theorem dX0_nextPlace_80 : decode cX0_nextPlace 80 = .ok (.iconst 1, 1) := by decide +kernel
theorem dX0_nextPlace_81 : decode cX0_nextPlace 81 = .ok (.iadd, 1) := by decide +kernel
theorem dX0_nextPlace_82 : decode cX0_nextPlace 82 = .ok (.goto 4, 3) := by decide +kernel
theorem dX0_nextPlace_85 : decode cX0_nextPlace 85 = .ok (.iconst 0, 1) := by decide +kernel
theorem dX0_nextPlace_86 : decode cX0_nextPlace 86 = .ok (.istore_n 3, 1) := by decide +kernel
theorem dX0_nextPlace_87 : decode cX0_nextPlace 87 = .ok (.iload_n 3, 1) := by decide +kernel
theorem dX0_nextPlace_88 : decode cX0_nextPlace 88 = .ok (.ireturn, 1) := by decide +kernel
abbrev rmX0_nextPlace : Room := { frames := 0, cells := 0, slots := 0, locals := 0 }
def opX0_nextPlace (po : Int32 → px_St → Prop) : List (Nat × px_Op) := [
  (0, px_al 1 0),
  (1, px_get dC 4 0 4),
  (4, px_il 5 1),
  (5, px_ald dC 6 0),
  (6, px_push 7 (.int 1)),
  (7, px_bin 8 (fun x y => x - y)),
  (8, px_is 9 2),
  (9, px_al 10 0),
  (10, px_get dC 13 0 3),
  (13, px_il 14 1),
  (14, px_ald dC 15 0),
  (15, px_push 16 (.int 3)),
  (16, px_ic 19 41 (fun x y => ¬ x = y)),
  (19, px_al 20 0),
  (20, px_get dC 23 0 5),
  (23, px_il 24 1),
  (24, px_ald dC 25 0),
  (25, px_if 28 39 (fun x => x ≤ 0)),
  (28, px_al 29 0),
  (29, px_get dC 32 0 5),
  (32, px_il 33 1),
  (33, px_ald dC 34 0),
  (34, px_push 35 (.int 1)),
  (35, px_bin 36 (fun x y => x - y)),
  (36, px_go 40),
  (39, px_il 40 2),
  (40, px_iret (.int) po),
  (41, px_al 42 0),
  (42, px_get dC 45 0 5),
  (45, px_il 46 1),
  (46, px_ald dC 47 0),
  (47, px_il 48 2),
  (48, px_ic 51 62 (fun x y => y ≤ x)),
  (51, px_al 52 0),
  (52, px_get dC 55 0 5),
  (55, px_il 56 1),
  (56, px_ald dC 57 0),
  (57, px_push 58 (.int 1)),
  (58, px_bin 59 (fun x y => x + y)),
  (59, px_go 63),
  (62, px_push 63 (.int 0)),
  (63, px_is 64 3),
  (64, px_al 65 0),
  (65, px_get dC 68 0 3),
  (68, px_il 69 1),
  (69, px_ald dC 70 0),
  (70, px_push 71 (.int 1)),
  (71, px_ic 74 87 (fun x y => ¬ x = y)),
  (74, px_il 75 3),
  (75, px_il 76 2),
  (76, px_ic 79 85 (fun x y => y ≤ x)),
  (79, px_il 80 3),
  (80, px_push 81 (.int 1)),
  (81, px_bin 82 (fun x y => x + y)),
  (82, px_go 86),
  (85, px_push 86 (.int 0)),
  (86, px_is 87 3),
  (87, px_il 88 3),
  (88, px_iret (.int) po)]
set_option maxRecDepth 100000 in
set_option maxHeartbeats 4000000 in
theorem okX0_nextPlace : ∀ (po : Int32 → px_St → Prop) (i pc : Nat) (op : px_Op), (opX0_nextPlace po)[i]? = some (pc, op) → px_Snd (cX0_nextPlace, 4, RX0, Cond.code yX0_nextPlace cX0_nextPlace 4 (some .int) :: wdC, (some .int), rmX0_nextPlace, dC) px_vI po pc op := by
  intro po
  unfold opX0_nextPlace
  refine px_ok_cons (ps_aload_n dX0_nextPlace_0 rfl) ?_
  refine px_ok_cons (fgX0_19 dX0_nextPlace_1) ?_
  refine px_ok_cons (ps_iload_n dX0_nextPlace_4 rfl) ?_
  refine px_ok_cons (ps_iaload dX0_nextPlace_5) ?_
  refine px_ok_cons (ps_iconst dX0_nextPlace_6 (by decide)) ?_
  refine px_ok_cons (ps_isub dX0_nextPlace_7) ?_
  refine px_ok_cons (ps_istore_n dX0_nextPlace_8 rfl (by decide)) ?_
  refine px_ok_cons (ps_aload_n dX0_nextPlace_9 rfl) ?_
  refine px_ok_cons (fgX0_15 dX0_nextPlace_10) ?_
  refine px_ok_cons (ps_iload_n dX0_nextPlace_13 rfl) ?_
  refine px_ok_cons (ps_iaload dX0_nextPlace_14) ?_
  refine px_ok_cons (ps_iconst dX0_nextPlace_15 (by decide)) ?_
  refine px_ok_cons (ps_icmp_ne dX0_nextPlace_16 (by decide)) ?_
  refine px_ok_cons (ps_aload_n dX0_nextPlace_19 rfl) ?_
  refine px_ok_cons (fgX0_22 dX0_nextPlace_20) ?_
  refine px_ok_cons (ps_iload_n dX0_nextPlace_23 rfl) ?_
  refine px_ok_cons (ps_iaload dX0_nextPlace_24) ?_
  refine px_ok_cons (ps_if_le dX0_nextPlace_25 (by decide)) ?_
  refine px_ok_cons (ps_aload_n dX0_nextPlace_28 rfl) ?_
  refine px_ok_cons (fgX0_22 dX0_nextPlace_29) ?_
  refine px_ok_cons (ps_iload_n dX0_nextPlace_32 rfl) ?_
  refine px_ok_cons (ps_iaload dX0_nextPlace_33) ?_
  refine px_ok_cons (ps_iconst dX0_nextPlace_34 (by decide)) ?_
  refine px_ok_cons (ps_isub dX0_nextPlace_35) ?_
  refine px_ok_cons (ps_goto dX0_nextPlace_36 (by decide)) ?_
  refine px_ok_cons (ps_iload_n dX0_nextPlace_39 rfl) ?_
  refine px_ok_cons (ps_ireturn rfl dX0_nextPlace_40) ?_
  refine px_ok_cons (ps_aload_n dX0_nextPlace_41 rfl) ?_
  refine px_ok_cons (fgX0_22 dX0_nextPlace_42) ?_
  refine px_ok_cons (ps_iload_n dX0_nextPlace_45 rfl) ?_
  refine px_ok_cons (ps_iaload dX0_nextPlace_46) ?_
  refine px_ok_cons (ps_iload_n dX0_nextPlace_47 rfl) ?_
  refine px_ok_cons (ps_icmp_ge dX0_nextPlace_48 (by decide)) ?_
  refine px_ok_cons (ps_aload_n dX0_nextPlace_51 rfl) ?_
  refine px_ok_cons (fgX0_22 dX0_nextPlace_52) ?_
  refine px_ok_cons (ps_iload_n dX0_nextPlace_55 rfl) ?_
  refine px_ok_cons (ps_iaload dX0_nextPlace_56) ?_
  refine px_ok_cons (ps_iconst dX0_nextPlace_57 (by decide)) ?_
  refine px_ok_cons (ps_iadd dX0_nextPlace_58) ?_
  refine px_ok_cons (ps_goto dX0_nextPlace_59 (by decide)) ?_
  refine px_ok_cons (ps_iconst dX0_nextPlace_62 (by decide)) ?_
  refine px_ok_cons (ps_istore_n dX0_nextPlace_63 rfl (by decide)) ?_
  refine px_ok_cons (ps_aload_n dX0_nextPlace_64 rfl) ?_
  refine px_ok_cons (fgX0_15 dX0_nextPlace_65) ?_
  refine px_ok_cons (ps_iload_n dX0_nextPlace_68 rfl) ?_
  refine px_ok_cons (ps_iaload dX0_nextPlace_69) ?_
  refine px_ok_cons (ps_iconst dX0_nextPlace_70 (by decide)) ?_
  refine px_ok_cons (ps_icmp_ne dX0_nextPlace_71 (by decide)) ?_
  refine px_ok_cons (ps_iload_n dX0_nextPlace_74 rfl) ?_
  refine px_ok_cons (ps_iload_n dX0_nextPlace_75 rfl) ?_
  refine px_ok_cons (ps_icmp_ge dX0_nextPlace_76 (by decide)) ?_
  refine px_ok_cons (ps_iload_n dX0_nextPlace_79 rfl) ?_
  refine px_ok_cons (ps_iconst dX0_nextPlace_80 (by decide)) ?_
  refine px_ok_cons (ps_iadd dX0_nextPlace_81) ?_
  refine px_ok_cons (ps_goto dX0_nextPlace_82 (by decide)) ?_
  refine px_ok_cons (ps_iconst dX0_nextPlace_85 (by decide)) ?_
  refine px_ok_cons (ps_istore_n dX0_nextPlace_86 rfl (by decide)) ?_
  refine px_ok_cons (ps_iload_n dX0_nextPlace_87 rfl) ?_
  refine px_ok_cons (ps_ireturn rfl dX0_nextPlace_88) ?_
  exact px_ok_nil
set_option maxRecDepth 100000 in
set_option maxHeartbeats 4000000 in
theorem sgX0_nextPlace_0 {po : Int32 → px_St → Prop} {G : px_K} (hG : px_cl (opX0_nextPlace po) G) (v0 : Nat) (hv0 : px_av v0) (v1 : Int32) (σ : px_St)
    (H : vp_in v1 5 ∧ vp_in v1 5 ∧ ((¬ (σ.1 (v0 + 1) v1.toNatClampNeg) = (3 : Int32)) → vp_in v1 5 ∧ ((((σ.1 (v0 + 2) v1.toNatClampNeg) - (1 : Int32)) ≤ (σ.1 (v0 + 3) v1.toNatClampNeg)) → vp_in v1 5 ∧ ((¬ (σ.1 (v0 + 1) v1.toNatClampNeg) = (1 : Int32)) → po (0 : Int32) σ) ∧ (¬ (¬ (σ.1 (v0 + 1) v1.toNatClampNeg) = (1 : Int32)) → ((((σ.1 (v0 + 2) v1.toNatClampNeg) - (1 : Int32)) ≤ (0 : Int32)) → po (0 : Int32) σ) ∧ (¬ (((σ.1 (v0 + 2) v1.toNatClampNeg) - (1 : Int32)) ≤ (0 : Int32)) → po ((0 : Int32) + (1 : Int32)) σ))) ∧ (¬ (((σ.1 (v0 + 2) v1.toNatClampNeg) - (1 : Int32)) ≤ (σ.1 (v0 + 3) v1.toNatClampNeg)) → vp_in v1 5 ∧ vp_in v1 5 ∧ ((¬ (σ.1 (v0 + 1) v1.toNatClampNeg) = (1 : Int32)) → po ((σ.1 (v0 + 3) v1.toNatClampNeg) + (1 : Int32)) σ) ∧ (¬ (¬ (σ.1 (v0 + 1) v1.toNatClampNeg) = (1 : Int32)) → ((((σ.1 (v0 + 2) v1.toNatClampNeg) - (1 : Int32)) ≤ ((σ.1 (v0 + 3) v1.toNatClampNeg) + (1 : Int32))) → po (0 : Int32) σ) ∧ (¬ (((σ.1 (v0 + 2) v1.toNatClampNeg) - (1 : Int32)) ≤ ((σ.1 (v0 + 3) v1.toNatClampNeg) + (1 : Int32))) → po (((σ.1 (v0 + 3) v1.toNatClampNeg) + (1 : Int32)) + (1 : Int32)) σ)))) ∧ (¬ (¬ (σ.1 (v0 + 1) v1.toNatClampNeg) = (3 : Int32)) → vp_in v1 5 ∧ (((σ.1 (v0 + 3) v1.toNatClampNeg) ≤ 0) → po ((σ.1 (v0 + 2) v1.toNatClampNeg) - (1 : Int32)) σ) ∧ (¬ ((σ.1 (v0 + 3) v1.toNatClampNeg) ≤ 0) → vp_in v1 5 ∧ po ((σ.1 (v0 + 3) v1.toNatClampNeg) - (1 : Int32)) σ))) :
    G 0 (px_ent 4 [.ref v0, .int v1]) [] σ := by
  refine hG.1 0 _ _ rfl _ _ _ ?_
  refine hG.1 1 _ _ rfl _ _ _ ?_
  refine ⟨(av_s0 hv0), ?_⟩
  refine hG.1 2 _ _ rfl _ _ _ ?_
  refine hG.1 3 _ _ rfl _ _ _ ?_
  refine ⟨(av_s2 hv0), by rw [(av_l2 hv0)]; exact H.1, ?_⟩
  replace H := H.2
  refine hG.1 4 _ _ rfl _ _ _ ?_
  refine hG.1 5 _ _ rfl _ _ _ ?_
  refine hG.1 6 _ _ rfl _ _ _ ?_
  show G 9 [some (.ref v0), some (.int v1), some (.int ((σ.1 (v0 + 2) v1.toNatClampNeg) - (1 : Int32))), none] [] σ
  refine hG.1 7 _ _ rfl _ _ _ ?_
  refine hG.1 8 _ _ rfl _ _ _ ?_
  refine ⟨(av_s0 hv0), ?_⟩
  refine hG.1 9 _ _ rfl _ _ _ ?_
  refine hG.1 10 _ _ rfl _ _ _ ?_
  refine ⟨(av_s1 hv0), by rw [(av_l1 hv0)]; exact H.1, ?_⟩
  replace H := H.2
  refine hG.1 11 _ _ rfl _ _ _ ?_
  refine hG.1 12 _ _ rfl _ _ _ ?_
  refine ⟨fun h7 => ?_, fun h7 => ?_⟩
  · replace H := H.1 h7
    refine hG.1 27 _ _ rfl _ _ _ ?_
    refine hG.1 28 _ _ rfl _ _ _ ?_
    refine ⟨(av_s0 hv0), ?_⟩
    refine hG.1 29 _ _ rfl _ _ _ ?_
    refine hG.1 30 _ _ rfl _ _ _ ?_
    refine ⟨(av_s3 hv0), by rw [(av_l3 hv0)]; exact H.1, ?_⟩
    replace H := H.2
    refine hG.1 31 _ _ rfl _ _ _ ?_
    refine hG.1 32 _ _ rfl _ _ _ ?_
    refine ⟨fun h5 => ?_, fun h5 => ?_⟩
    · replace H := H.1 h5
      refine hG.1 40 _ _ rfl _ _ _ ?_
      refine hG.1 41 _ _ rfl _ _ _ ?_
      show G 64 [some (.ref v0), some (.int v1), some (.int ((σ.1 (v0 + 2) v1.toNatClampNeg) - (1 : Int32))), some (.int (0 : Int32))] [] σ
      refine hG.1 42 _ _ rfl _ _ _ ?_
      refine hG.1 43 _ _ rfl _ _ _ ?_
      refine ⟨(av_s0 hv0), ?_⟩
      refine hG.1 44 _ _ rfl _ _ _ ?_
      refine hG.1 45 _ _ rfl _ _ _ ?_
      refine ⟨(av_s1 hv0), by rw [(av_l1 hv0)]; exact H.1, ?_⟩
      replace H := H.2
      refine hG.1 46 _ _ rfl _ _ _ ?_
      refine hG.1 47 _ _ rfl _ _ _ ?_
      refine ⟨fun h2 => ?_, fun h2 => ?_⟩
      · replace H := H.1 h2
        refine hG.1 57 _ _ rfl _ _ _ ?_
        refine hG.1 58 _ _ rfl _ _ _ ?_
        exact ⟨rfl, H⟩
      · replace H := H.2 h2
        refine hG.1 48 _ _ rfl _ _ _ ?_
        refine hG.1 49 _ _ rfl _ _ _ ?_
        refine hG.1 50 _ _ rfl _ _ _ ?_
        refine ⟨fun h1 => ?_, fun h1 => ?_⟩
        · replace H := H.1 h1
          refine hG.1 55 _ _ rfl _ _ _ ?_
          refine hG.1 56 _ _ rfl _ _ _ ?_
          show G 87 [some (.ref v0), some (.int v1), some (.int ((σ.1 (v0 + 2) v1.toNatClampNeg) - (1 : Int32))), some (.int (0 : Int32))] [] σ
          refine hG.1 57 _ _ rfl _ _ _ ?_
          refine hG.1 58 _ _ rfl _ _ _ ?_
          exact ⟨rfl, H⟩
        · replace H := H.2 h1
          refine hG.1 51 _ _ rfl _ _ _ ?_
          refine hG.1 52 _ _ rfl _ _ _ ?_
          refine hG.1 53 _ _ rfl _ _ _ ?_
          refine hG.1 54 _ _ rfl _ _ _ ?_
          refine hG.1 56 _ _ rfl _ _ _ ?_
          show G 87 [some (.ref v0), some (.int v1), some (.int ((σ.1 (v0 + 2) v1.toNatClampNeg) - (1 : Int32))), some (.int ((0 : Int32) + (1 : Int32)))] [] σ
          refine hG.1 57 _ _ rfl _ _ _ ?_
          refine hG.1 58 _ _ rfl _ _ _ ?_
          exact ⟨rfl, H⟩
    · replace H := H.2 h5
      refine hG.1 33 _ _ rfl _ _ _ ?_
      refine hG.1 34 _ _ rfl _ _ _ ?_
      refine ⟨(av_s0 hv0), ?_⟩
      refine hG.1 35 _ _ rfl _ _ _ ?_
      refine hG.1 36 _ _ rfl _ _ _ ?_
      refine ⟨(av_s3 hv0), by rw [(av_l3 hv0)]; exact H.1, ?_⟩
      replace H := H.2
      refine hG.1 37 _ _ rfl _ _ _ ?_
      refine hG.1 38 _ _ rfl _ _ _ ?_
      refine hG.1 39 _ _ rfl _ _ _ ?_
      refine hG.1 41 _ _ rfl _ _ _ ?_
      show G 64 [some (.ref v0), some (.int v1), some (.int ((σ.1 (v0 + 2) v1.toNatClampNeg) - (1 : Int32))), some (.int ((σ.1 (v0 + 3) v1.toNatClampNeg) + (1 : Int32)))] [] σ
      refine hG.1 42 _ _ rfl _ _ _ ?_
      refine hG.1 43 _ _ rfl _ _ _ ?_
      refine ⟨(av_s0 hv0), ?_⟩
      refine hG.1 44 _ _ rfl _ _ _ ?_
      refine hG.1 45 _ _ rfl _ _ _ ?_
      refine ⟨(av_s1 hv0), by rw [(av_l1 hv0)]; exact H.1, ?_⟩
      replace H := H.2
      refine hG.1 46 _ _ rfl _ _ _ ?_
      refine hG.1 47 _ _ rfl _ _ _ ?_
      refine ⟨fun h4 => ?_, fun h4 => ?_⟩
      · replace H := H.1 h4
        refine hG.1 57 _ _ rfl _ _ _ ?_
        refine hG.1 58 _ _ rfl _ _ _ ?_
        exact ⟨rfl, H⟩
      · replace H := H.2 h4
        refine hG.1 48 _ _ rfl _ _ _ ?_
        refine hG.1 49 _ _ rfl _ _ _ ?_
        refine hG.1 50 _ _ rfl _ _ _ ?_
        refine ⟨fun h3 => ?_, fun h3 => ?_⟩
        · replace H := H.1 h3
          refine hG.1 55 _ _ rfl _ _ _ ?_
          refine hG.1 56 _ _ rfl _ _ _ ?_
          show G 87 [some (.ref v0), some (.int v1), some (.int ((σ.1 (v0 + 2) v1.toNatClampNeg) - (1 : Int32))), some (.int (0 : Int32))] [] σ
          refine hG.1 57 _ _ rfl _ _ _ ?_
          refine hG.1 58 _ _ rfl _ _ _ ?_
          exact ⟨rfl, H⟩
        · replace H := H.2 h3
          refine hG.1 51 _ _ rfl _ _ _ ?_
          refine hG.1 52 _ _ rfl _ _ _ ?_
          refine hG.1 53 _ _ rfl _ _ _ ?_
          refine hG.1 54 _ _ rfl _ _ _ ?_
          refine hG.1 56 _ _ rfl _ _ _ ?_
          show G 87 [some (.ref v0), some (.int v1), some (.int ((σ.1 (v0 + 2) v1.toNatClampNeg) - (1 : Int32))), some (.int (((σ.1 (v0 + 3) v1.toNatClampNeg) + (1 : Int32)) + (1 : Int32)))] [] σ
          refine hG.1 57 _ _ rfl _ _ _ ?_
          refine hG.1 58 _ _ rfl _ _ _ ?_
          exact ⟨rfl, H⟩
  · replace H := H.2 h7
    refine hG.1 13 _ _ rfl _ _ _ ?_
    refine hG.1 14 _ _ rfl _ _ _ ?_
    refine ⟨(av_s0 hv0), ?_⟩
    refine hG.1 15 _ _ rfl _ _ _ ?_
    refine hG.1 16 _ _ rfl _ _ _ ?_
    refine ⟨(av_s3 hv0), by rw [(av_l3 hv0)]; exact H.1, ?_⟩
    replace H := H.2
    refine hG.1 17 _ _ rfl _ _ _ ?_
    refine ⟨fun h6 => ?_, fun h6 => ?_⟩
    · replace H := H.1 h6
      refine hG.1 25 _ _ rfl _ _ _ ?_
      refine hG.1 26 _ _ rfl _ _ _ ?_
      exact ⟨rfl, H⟩
    · replace H := H.2 h6
      refine hG.1 18 _ _ rfl _ _ _ ?_
      refine hG.1 19 _ _ rfl _ _ _ ?_
      refine ⟨(av_s0 hv0), ?_⟩
      refine hG.1 20 _ _ rfl _ _ _ ?_
      refine hG.1 21 _ _ rfl _ _ _ ?_
      refine ⟨(av_s3 hv0), by rw [(av_l3 hv0)]; exact H.1, ?_⟩
      replace H := H.2
      refine hG.1 22 _ _ rfl _ _ _ ?_
      refine hG.1 23 _ _ rfl _ _ _ ?_
      refine hG.1 24 _ _ rfl _ _ _ ?_
      refine hG.1 26 _ _ rfl _ _ _ ?_
      exact ⟨rfl, H⟩
set_option maxRecDepth 100000 in
set_option maxHeartbeats 4000000 in
theorem hhX0_nextPlace (g : gtX0_nextPlace) (v0 : Nat) (hv0 : px_av v0) (v1 : Int32) (σ : px_St) (h : qrX0_nextPlace g v0 v1 σ) (G : px_K) (hG : px_cl (opX0_nextPlace (qoX0_nextPlace g v0 v1 σ)) G) : G 0 (px_ent 4 [.ref v0, .int v1]) [] σ := by
  obtain ⟨V, p⟩ := g
  obtain ⟨hV, hok, hp, rfl⟩ := h
  obtain ⟨hk3, hl, hx9⟩ := hok.1.2.2.2 p hp
  have h5 := hok.1.1
  have hpl := hok.2 p hp
  obtain ⟨g1, g2, g3, g4⟩ := hV.2 p hp
  have hin : vp_in (nI p) 5 := vp_in_nI (by omega) (by decide)
  refine sgX0_nextPlace_0 hG v0 hv0 _ σ ?_
  rw [nI_clamp (by omega), g1, g2, g3]
  have c3 : nI (V.2.2.2 p).1 = 3 ↔ (V.2.2.2 p).1 = 3 := nIe _ 3 rfl rfl (by omega) (by omega)
  have c1 : nI (V.2.2.2 p).1 = 1 ↔ (V.2.2.2 p).1 = 1 := nIe _ 1 rfl rfl (by omega) (by omega)
  have es : nI (V.2.2.2 p).2.2.length - 1 = nI ((V.2.2.2 p).2.2.length - 1) := pk_sub (b := 1) (by omega)
  rw [es, c3, c1]
  have m1 := md1 hpl
  have m2 := md2 hpl
  have m3 := md3 hpl
  have l1 : nI ((V.2.2.2 p).2.2.length - 1) ≤ nI (V.2.2.2 p).2.1 ↔ (V.2.2.2 p).2.2.length - 1 ≤ (V.2.2.2 p).2.1 := nI_leI (by omega) (by omega)
  have l2 : nI ((V.2.2.2 p).2.2.length - 1) ≤ 0 ↔ (V.2.2.2 p).2.2.length - 1 ≤ 0 := nIle _ 0 rfl rfl (by omega) (by omega)
  have l3 : nI ((V.2.2.2 p).2.2.length - 1) ≤ nI (V.2.2.2 p).2.1 + 1 ↔ (V.2.2.2 p).2.2.length - 1 ≤ (V.2.2.2 p).2.1 + 1 := by rw [nI_1]; exact nI_leI (by omega) (by omega)
  have l4 : nI (V.2.2.2 p).2.1 ≤ 0 ↔ (V.2.2.2 p).2.1 ≤ 0 := nIle _ 0 rfl rfl (by omega) (by omega)
  rw [l1, l2, l3, l4]
  have key : ∀ (r : Int32) (n : Nat), r = nI n → pv_next (V.2.2.2 p) = n → qoX0_nextPlace (V, p) v0 (nI p) σ r σ := fun r n h1 h2 => ⟨rfl, by rw [h1, h2]⟩
  unfold pv_next at key
  rw [m1, m2, m3] at key
  refine ⟨hin, hin, fun k3 => ⟨hin, fun a1 => ⟨hin, fun k1 => ?_, fun k1 => ⟨fun a2 => ?_, fun a2 => ?_⟩⟩, fun a1 => ⟨hin, hin, fun k1 => ?_, fun k1 => ⟨fun a2 => ?_, fun a2 => ?_⟩⟩⟩, fun k3 => ⟨hin, fun a1 => ?_, fun a1 => ⟨hin, ?_⟩⟩⟩
  · refine key _ 0 rfl ?_
    rw [if_neg k1, if_neg k3, if_neg (by omega)]
  · refine key _ 0 rfl ?_
    rw [if_pos (by omega), if_neg (by omega), if_neg (by omega)]
  · refine key _ 1 rfl ?_
    rw [if_pos (by omega), if_neg (by omega), if_pos (by omega)]
  · refine key _ ((V.2.2.2 p).2.1 + 1) (nI_1 _) ?_
    rw [if_neg k1, if_neg k3, if_pos (by omega)]
  · refine key _ 0 rfl ?_
    rw [if_pos (by omega), if_pos (by omega), if_neg (by omega)]
  · refine key _ ((V.2.2.2 p).2.1 + 2) (by rw [nI_1, nI_1]) ?_
    rw [if_pos (by omega), if_pos (by omega), if_pos (by omega)]
  · refine key _ ((V.2.2.2 p).2.2.length - 1) rfl ?_
    rw [if_neg (by omega), if_pos (by omega), if_pos (by omega)]
  · refine key _ ((V.2.2.2 p).2.1 - 1) (pk_sub (b := 1) (by omega)) ?_
    rw [if_neg (by omega), if_pos (by omega), if_neg (by omega)]
theorem mX0_nextPlace (g : gtX0_nextPlace) : px_Met dC yX0_nextPlace (Cond.code yX0_nextPlace cX0_nextPlace 4 (some .int) :: wdC) rmX0_nextPlace px_vI (prX0_nextPlace g) (poX0_nextPlace g) :=
  px_met (Z := (cX0_nextPlace, 4, RX0, Cond.code yX0_nextPlace cX0_nextPlace 4 (some .int) :: wdC, (some .int), rmX0_nextPlace, dC)) opX0_nextPlace (by decide) rfl rfl okX0_nextPlace (fun As σ h => by obtain ⟨v0, v1, rfl, hv0, h⟩ := h; exact Nat.le_of_ble_eq_true rfl) (fun As σ h G hG => by obtain ⟨v0, v1, rfl, hv0, h⟩ := h; exact hhX0_nextPlace g v0 hv0 v1 σ h G hG)
