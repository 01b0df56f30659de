/-! ===== the whole state, and what each call answers and does ===== -/
/-- a sheet: lane, size, cells -/
abbrev pv_H : Type := Nat × Nat × (Nat → Int32)
/-- the state: aviary, seen, tape, images, the text's fault, the reading's fault, sheets -/
abbrev pv_X : Type := pv_V × pv_S × List Nat × (Nat → Option (pv_V × pv_S)) × Nat × Nat × (Nat → Option pv_H)
def xV (X : pv_X) (V : pv_V) : pv_X := (V, X.2)
def xS (X : pv_X) (S : pv_S) : pv_X := (X.1, S, X.2.2)
def xT (X : pv_X) (T : List Nat) : pv_X := (X.1, X.2.1, T, X.2.2.2)
def xI (X : pv_X) (I : Nat → Option (pv_V × pv_S)) : pv_X := (X.1, X.2.1, X.2.2.1, I, X.2.2.2.2)
def xF (X : pv_X) (F : Nat) : pv_X := (X.1, X.2.1, X.2.2.1, X.2.2.2.1, F, X.2.2.2.2.2)
def xR (X : pv_X) (R : Nat) : pv_X := (X.1, X.2.1, X.2.2.1, X.2.2.2.1, X.2.2.2.2.1, R, X.2.2.2.2.2.2)
def xH (X : pv_X) (H : Nat → Option pv_H) : pv_X := (X.1, X.2.1, X.2.2.1, X.2.2.2.1, X.2.2.2.2.1, X.2.2.2.2.2.1, H)
noncomputable def xif {α : Type} (P : Prop) (a b : α) : α := @ite α P (Classical.propDecidable P) a b
theorem xif_t {α : Type} {P : Prop} {a b : α} (h : P) : xif P a b = a := if_pos h
theorem xif_f {α : Type} {P : Prop} {a b : α} (h : ¬ P) : xif P a b = b := if_neg h
/-- sound numbers -/
def xo (X : pv_X) : Prop := (pv_ok X.1 ∧ X.1.2.2.1 ≤ 999) ∧ sn_ok X.2.1 ∧ (X.2.2.1.length ≤ 160 ∧ ∀ x ∈ X.2.2.1, x ≤ 127) ∧ (∀ k w, X.2.2.2.1 k = some w → (pv_ok w.1 ∧ w.1.2.2.1 ≤ 999) ∧ sn_ok w.2) ∧ X.2.2.2.2.1 ≤ 5 ∧ X.2.2.2.2.2.1 ≤ 3 ∧ ∀ k w, X.2.2.2.2.2.2 k = some w → w.1 ≤ 2 ∧ w.2.1 ≤ 40
abbrev xP (X : pv_X) (p : Int32) : Prop := 0 ≤ p ∧ p ≤ nI X.1.1 - 1
abbrev xp (X : pv_X) (p : Int32) : pv_P := X.1.2.2.2 p.toNatClampNeg
noncomputable def x_feed (X : pv_X) (c : Int32) : Int32 × pv_X := xif (0 ≤ c ∧ c ≤ 127) (xif (X.2.2.1.length < 160) (nI (X.2.2.1.length + 1), xT X (X.2.2.1 ++ [c.toNatClampNeg])) (-3, X)) (-1, X)
noncomputable def x_end (X : pv_X) (n : Int32) : Int32 × pv_X := xif (0 ≤ n ∧ n ≤ nI X.2.2.1.length) (nI X.2.2.1.length, xT X (X.2.2.1.take n.toNatClampNeg)) (-1, X)
noncomputable def x_fault (X : pv_X) : Int32 × pv_X := (nI X.2.2.2.2.1, X)
noncomputable def x_rule (X : pv_X) (w : Int32) : Int32 × pv_X := (if w = 0 then nI X.1.1 else if w = 1 then nI X.1.2.2.1 else if w = 2 then nI X.1.2.1 else if w = 3 then pv_spk X.1 else if w = 4 then pv_said X.1 else if w = 5 then pv_sum (fun p => nI (X.1.2.2.2 p).2.2.length) X.1.1 else -1, X)
noncomputable def x_parrot (X : pv_X) (p w : Int32) : Int32 × pv_X := (xif (xP X p) (if w = 0 then nI (xp X p).1 else if w = 1 then nI (xp X p).2.2.length else if w = 2 then nI (xp X p).2.1 else if w = 3 then pv_bits (xp X p).2.2 0 else xif (10 ≤ w ∧ w ≤ 15) (xif (nI (xp X p).2.2.length ≤ w - 10) (-4) (nI ((xp X p).2.2.getD (w - 10).toNatClampNeg 0))) (-1)) (-1), X)
noncomputable def x_knows (X : pv_X) (s : Int32) : Int32 × pv_X := (xif (0 ≤ s ∧ s ≤ 9) (pv_knowers X.1 s.toNatClampNeg X.1.1) (-1), X)
noncomputable def x_moult (X : pv_X) (p v : Int32) : Int32 × pv_X := xif (xP X p ∧ (0 ≤ v ∧ v ≤ 3)) (nI (xp X p).1, xV X (pv_at X.1 p.toNatClampNeg (v.toNatClampNeg, (xp X p).2))) (-1, X)
noncomputable def x_turn (X : pv_X) (p v : Int32) : Int32 × pv_X := xif (pv_own X.1 p v) (nI (xp X p).2.1, xV X (pv_at X.1 p.toNatClampNeg ((xp X p).1, v.toNatClampNeg, (xp X p).2.2))) (-1, X)
noncomputable def x_teach (X : pv_X) (p s : Int32) : Int32 × pv_X := xif (xP X p ∧ (0 ≤ s ∧ s ≤ 9)) (nI (pv_learn (xp X p) s.toNatClampNeg).2.2.length, xV X (pv_at X.1 p.toNatClampNeg (pv_learn (xp X p) s.toNatClampNeg))) (-1, X)
noncomputable def x_ear (X : pv_X) (v : Int32) : Int32 × pv_X := xif (1 ≤ v ∧ v ≤ 4) (nI X.1.2.1, xV X (X.1.1, v.toNatClampNeg, X.1.2.2)) (-1, X)
noncomputable def x_perch (X : pv_X) (k s : Int32) : Int32 × pv_X := xif ((0 ≤ k ∧ k ≤ 3) ∧ (0 ≤ s ∧ s ≤ 9)) (xif (X.1.1 < 5) (nI (X.1.1 + 1), xV X (pv_add X.1 (k.toNatClampNeg, 0, [s.toNatClampNeg]))) (-3, X)) (-1, X)
noncomputable def x_sell (X : pv_X) (n : Int32) : Int32 × pv_X := xif (0 ≤ n ∧ n ≤ nI X.1.1) (nI X.1.1, xV X (n.toNatClampNeg, X.1.2)) (-1, X)
/-- the bits of what is said in k days -/
noncomputable def pv_sb (V : pv_V) : Nat → Nat
  | 0 => 0
  | k + 1 => pv_sb V k ||| (if V.1 = 0 then 0 else 2 ^ pv_due (pv_run V k))
noncomputable def x_days (X : pv_X) (n : Int32) : Int32 × pv_X := xif (0 ≤ n ∧ n ≤ 30) (xif (X.1.2.2.1 + n.toNatClampNeg < 1000) (nI (pv_pc (pv_sb X.1 n.toNatClampNeg) 10), xV X (pv_run X.1 n.toNatClampNeg)) (-3, X)) (-1, X)
noncomputable def x_says (X : pv_X) (n : Int32) : Int32 × pv_X := (xif (0 ≤ n ∧ n ≤ 60) (pv_said (pv_run X.1 n.toNatClampNeg)) (-1), X)
noncomputable def x_when (X : pv_X) (s : Int32) : Int32 × pv_X := (xif (0 ≤ s ∧ s ≤ 9) (if pv_ff X.1 s.toNatClampNeg 61 0 ≤ 60 then nI (pv_ff X.1 s.toNatClampNeg 61 0) else -4) (-1), X)
noncomputable def x_often (X : pv_X) (s n : Int32) : Int32 × pv_X := (xif ((0 ≤ s ∧ s ≤ 9) ∧ (0 ≤ n ∧ n ≤ 60)) (nI (pv_times X.1 s.toNatClampNeg n.toNatClampNeg)) (-1), X)
noncomputable def pv_ph (V : pv_V) (s t : Nat) : Nat → Nat → Int32
  | 0, _ => -4
  | k + 1, d => if pv_said (pv_run V d) = nI s ∧ pv_said (pv_run V (d + 1)) = nI t then nI d else pv_ph V s t k (d + 1)
noncomputable def x_phrase (X : pv_X) (s t : Int32) : Int32 × pv_X := (xif ((0 ≤ s ∧ s ≤ 9) ∧ (0 ≤ t ∧ t ≤ 9)) (pv_ph X.1 s.toNatClampNeg t.toNatClampNeg 61 0) (-1), X)
noncomputable def x_ahead (X : pv_X) (p n w : Int32) : Int32 × pv_X := (xif (xP X p ∧ (0 ≤ n ∧ n ≤ 60) ∧ (0 ≤ w ∧ w ≤ 2)) (if w = 0 then pv_bits ((pv_run X.1 n.toNatClampNeg).2.2.2 p.toNatClampNeg).2.2 0 else if w = 1 then nI ((pv_run X.1 n.toNatClampNeg).2.2.2 p.toNatClampNeg).2.2.length else nI ((pv_run X.1 n.toNatClampNeg).2.2.2 p.toNatClampNeg).2.1) (-1), X)
/-! ===== the class's cells of the whole state ===== -/
def cl_tp (σ : px_St) (T : List Nat) : Prop := σ.1 0 10 = nI T.length ∧ ∀ i x, T[i]? = some x → σ.1 3 i = nI x
def cl_im (σ : px_St) (I : Nat → Option (pv_V × pv_S)) : Prop := ∀ k, k < 2 → (I k = none → σ.1 (47 + k) 0 = 0) ∧ ∀ w, I k = some w → σ.1 (47 + k) 0 = 1 ∧ av_is σ (23 + 5 * k) w.1 ∧ sn_is σ (41 + 3 * k) w.2
def cl_sh (σ : px_St) (H : Nat → Option pv_H) : Prop := ∀ k, k < 4 → (H k = none → σ.1 (49 + 2 * k) 0 = -1) ∧ ∀ w, H k = some w → σ.1 (49 + 2 * k) 0 = nI w.1 ∧ σ.1 (49 + 2 * k) 1 = nI w.2.1 ∧ ∀ i, i < w.2.1 → σ.1 (50 + 2 * k) i = w.2.2 i
def cl_is (σ : px_St) (X : pv_X) : Prop := av_is σ 8 X.1 ∧ sn_is σ 38 X.2.1 ∧ cl_tp σ X.2.2.1 ∧ cl_im σ X.2.2.2.1 ∧ σ.1 0 11 = nI X.2.2.2.2.1 ∧ σ.1 0 12 = nI X.2.2.2.2.2.1 ∧ cl_sh σ X.2.2.2.2.2.2
theorem cl_tp.kept {σ σ' : px_St} {T : List Nat} (h : cl_tp σ T) (h0 : σ'.1 0 10 = σ.1 0 10) (h3 : σ'.1 3 = σ.1 3) : cl_tp σ' T := ⟨h0.trans h.1, fun i x hx => by rw [h3]; exact h.2 i x hx⟩
theorem cl_im.kept {σ σ' : px_St} {I : Nat → Option (pv_V × pv_S)} (h : cl_im σ I) (hk : ∀ k, (23 ≤ k ∧ k ≤ 32) ∨ (41 ≤ k ∧ k ≤ 48) → σ'.1 k = σ.1 k) : cl_im σ' I := by
  intro k hk2
  refine ⟨fun e => ?_, fun w e => ?_⟩
  · rw [hk _ (by omega)]; exact (h k hk2).1 e
  · obtain ⟨h1, h2, h3⟩ := (h k hk2).2 w e
    exact ⟨by rw [hk _ (by omega)]; exact h1, h2.kept (fun j h4 h5 => hk j (by omega)), h3.kept (fun j h4 h5 => hk j (by omega))⟩
theorem cl_sh.kept {σ σ' : px_St} {H : Nat → Option pv_H} (h : cl_sh σ H) (hk : ∀ k, 49 ≤ k → σ'.1 k = σ.1 k) : cl_sh σ' H := by
  intro k hk2
  refine ⟨fun e => ?_, fun w e => ?_⟩
  · rw [hk _ (by omega)]; exact (h k hk2).1 e
  · obtain ⟨h1, h2, h3⟩ := (h k hk2).2 w e
    exact ⟨by rw [hk _ (by omega)]; exact h1, by rw [hk _ (by omega)]; exact h2, fun i hi => by rw [hk _ (by omega)]; exact h3 i hi⟩
/-- only the aviary has changed, and scratch -/
theorem cl_V {σ σ' : px_St} {X : pv_X} {V : pv_V} (h : cl_is σ X) (hV : av_is σ' 8 V) (ho : ∀ k, k = 0 ∨ k = 3 ∨ (23 ≤ k ∧ k ≤ 32) ∨ 38 ≤ k → σ'.1 k = σ.1 k) : cl_is σ' (xV X V) := by
  obtain ⟨h1, h2, h3, h4, h5, h6, h7⟩ := h
  have e0 := ho 0 (by omega)
  exact ⟨hV, h2.kept (fun k a b => ho k (by omega)), h3.kept (by rw [e0]) (ho 3 (by omega)), h4.kept (fun k a => ho k (by omega)), by rw [e0]; exact h5, by rw [e0]; exact h6, h7.kept (fun k a => ho k (by omega))⟩
theorem cl_keep {σ σ' : px_St} {X : pv_X} (h : cl_is σ X) (ho : ∀ k, k = 0 ∨ k = 3 ∨ (8 ≤ k ∧ k ≤ 12) ∨ (23 ≤ k ∧ k ≤ 32) ∨ 38 ≤ k → σ'.1 k = σ.1 k) : cl_is σ' X := cl_V (V := X.1) h (h.1.kept (fun k a b => ho k (by omega))) (fun k a => ho k (by omega))
theorem cl_S {σ σ' : px_St} {X : pv_X} {S : pv_S} (h : cl_is σ X) (hS : sn_is σ' 38 S) (ho : ∀ k, k < 38 ∨ 40 < k → σ'.1 k = σ.1 k) : cl_is σ' (xS X S) := by
  obtain ⟨h1, h2, h3, h4, h5, h6, h7⟩ := h
  have e0 := ho 0 (by omega)
  exact ⟨h1.kept (fun k a b => ho k (by omega)), hS, h3.kept (by rw [e0]) (ho 3 (by omega)), h4.kept (fun k a => ho k (by omega)), by rw [e0]; exact h5, by rw [e0]; exact h6, h7.kept (fun k a => ho k (by omega))⟩
theorem cl_T {σ σ' : px_St} {X : pv_X} {T : List Nat} (h : cl_is σ X) (hT : cl_tp σ' T) (h11 : σ'.1 0 11 = σ.1 0 11) (h12 : σ'.1 0 12 = σ.1 0 12) (ho : ∀ k, 8 ≤ k → σ'.1 k = σ.1 k) : cl_is σ' (xT X T) := by
  obtain ⟨h1, h2, h3, h4, h5, h6, h7⟩ := h
  exact ⟨h1.kept (fun k a b => ho k (by omega)), h2.kept (fun k a b => ho k (by omega)), hT, h4.kept (fun k a => ho k (by omega)), h11.trans h5, h12.trans h6, h7.kept (fun k a => ho k (by omega))⟩
theorem bz1 {P A B : Prop} {r : Int32} (hb : px_b P r) (h1 : P → A) (h2 : ¬ P → B) : (¬ r = 0 → A) ∧ (¬ ¬ r = 0 → B) := by
  rcases hb with ⟨hp, rfl⟩ | ⟨hp, rfl⟩
  · exact ⟨fun _ => h1 hp, fun z => absurd (by decide) z⟩
  · exact ⟨fun z => absurd rfl z, fun _ => h2 hp⟩
theorem bz2 {P A B : Prop} {r : Int32} (hb : px_b P r) (h1 : P → A) (h2 : ¬ P → B) : (r = 0 → B) ∧ (¬ r = 0 → A) := by
  rcases hb with ⟨hp, rfl⟩ | ⟨hp, rfl⟩
  · exact ⟨fun z => absurd z (by decide), fun _ => h1 hp⟩
  · exact ⟨fun _ => h2 hp, fun z => absurd rfl z⟩
theorem byte_nar : ∀ n, n < 128 → vp_nar .byte (nI n).toInt8.toInt32 = nI n := by decide +kernel
theorem px_only.cl {σ σ' : px_St} {X : pv_X} {V : pv_V} (ho : px_only 8 σ σ') (h : cl_is σ X) (hV : av_is σ' 8 V) : cl_is σ' (xV X V) := cl_V h hV (fun k hk => ho.1 k (by omega))
theorem px_fs.cl {σ σ' : px_St} {X : pv_X} (ho : px_fs σ σ') (h : cl_is σ X) : cl_is σ' X := cl_keep h (fun k hk => ho k (by omega) (by omega))
theorem xV_self (X : pv_X) : xV X X.1 = X := rfl
