/-! ===== the state stays sound ===== -/
theorem xo_V {X : pv_X} {V : pv_V} (h : xo X) (hV : pv_ok V) (hd : V.2.2.1 ≤ 999) : xo (xV X V) := ⟨⟨hV, hd⟩, h.2⟩
theorem xo_S {X : pv_X} {S : pv_S} (h : xo X) (hS : sn_ok S) : xo (xS X S) := ⟨h.1, hS, h.2.2⟩
theorem xo_T {X : pv_X} {T : List Nat} (h : xo X) (hT : T.length ≤ 160 ∧ ∀ x ∈ T, x ≤ 127) : xo (xT X T) := ⟨h.1, h.2.1, hT, h.2.2.2⟩
theorem xo_R {X : pv_X} {R : Nat} (h : xo X) (hR : R ≤ 3) : xo (xR X R) := ⟨h.1, h.2.1, h.2.2.1, h.2.2.2.1, h.2.2.2.2.1, hR, h.2.2.2.2.2.2⟩
theorem xo_H {X : pv_X} {k : Nat} {w : pv_H} (h : xo X) (hw : w.1 ≤ 2 ∧ w.2.1 ≤ 40) : xo (xH X (x_upd X.2.2.2.2.2.2 k (some w))) := by
  refine ⟨h.1, h.2.1, h.2.2.1, h.2.2.2.1, h.2.2.2.2.1, h.2.2.2.2.2.1, fun j v hj => ?_⟩
  have hj : (if j = k then some w else X.2.2.2.2.2.2 j) = some v := hj
  by_cases hjk : j = k
  · rw [if_pos hjk] at hj; cases hj; exact hw
  · rw [if_neg hjk] at hj; exact h.2.2.2.2.2.2 j v hj
theorem ko_feed {X : pv_X} (h : xo X) (c : Int32) : xo (x_feed X c).2 := by
  unfold x_feed
  by_cases z : 0 ≤ c ∧ c ≤ 127
  · rw [xif_t z]
    obtain ⟨j, hj, rfl⟩ := (rngc 127 127 rfl (by omega)).mp z
    by_cases y : X.2.2.1.length < 160
    · rw [xif_t y]
      refine xo_T h ⟨by rw [List.length_append]; show _ + 1 ≤ 160; omega, fun x hx => ?_⟩
      rcases List.mem_append.mp hx with q | q
      · exact h.2.2.1.2 x q
      · rw [List.mem_singleton.mp q, nI_clamp (by omega)]; exact hj
    · rw [xif_f y]; exact h
  · rw [xif_f z]; exact h
theorem ko_end {X : pv_X} (h : xo X) (c : Int32) : xo (x_end X c).2 := by
  unfold x_end
  by_cases z : 0 ≤ c ∧ c ≤ nI X.2.2.1.length
  · rw [xif_t z]
    exact xo_T h ⟨Nat.le_trans (List.length_take_le' _ _) h.2.2.1.1, fun x hx => h.2.2.1.2 x (List.mem_of_mem_take hx)⟩
  · rw [xif_f z]; exact h
theorem ko_text {X : pv_X} (h : xo X) : xo (x_text X).2 := by
  have hg := pt_text_good (T := X.2.2.1) h.2.2.1
  unfold x_text
  cases hx : pt_text X.2.2.1 with
  | inl f =>
    rw [hx] at hg
    have hf : f.1 ≤ 5 := hg.1.2
    exact ⟨h.1, h.2.1, ⟨Nat.zero_le _, fun x hx => absurd hx List.not_mem_nil⟩, h.2.2.2.1, hf, h.2.2.2.2.2⟩
  | inr w =>
    rw [hx] at hg
    have hw : (pv_ok w.1 ∧ w.1.2.2.1 = 0) ∧ w.2 ≤ 160 := hg
    exact ⟨⟨hw.1.1, by show w.1.2.2.1 ≤ 999; omega⟩, ⟨Nat.zero_le _, fun x hx => absurd hx List.not_mem_nil⟩, ⟨Nat.zero_le _, fun x hx => absurd hx List.not_mem_nil⟩, fun k w hk => (by cases hk), Nat.zero_le _, h.2.2.2.2.2⟩
theorem ko_moult {X : pv_X} (h : xo X) (p v : Int32) : xo (x_moult X p v).2 := by
  unfold x_moult
  by_cases z : xP X p ∧ (0 ≤ v ∧ v ≤ 3)
  · rw [xif_t z]
    have h5 := h.1.1.1.1
    obtain ⟨p, hp, rfl⟩ := (rng1 (by omega)).mp z.1
    obtain ⟨v, hv, rfl⟩ := (rngc 3 3 rfl (by omega)).mp z.2
    rw [xp, nI_clamp (by omega), nI_clamp (by omega)]
    have hP := h.1.1.1.2.2.2 p hp
    exact xo_V h (pv_at_ok h.1.1 ⟨hv, hP.2⟩ (h.1.1.2 p hp)) h.1.2
  · rw [xif_f z]; exact h
theorem ko_turn {X : pv_X} (h : xo X) (p v : Int32) : xo (x_turn X p v).2 := by
  unfold x_turn
  by_cases z : pv_own X.1 p v
  · rw [xif_t z]
    obtain ⟨p', i', hp, hi, rfl, rfl⟩ := pv_own_of h.1.1.1 z
    have h5 := h.1.1.1.1
    have hP := h.1.1.1.2.2.2 p' hp
    have hl := hP.2.1
    rw [xp, nI_clamp (by omega), nI_clamp (by omega)]
    exact xo_V h (pv_at_ok h.1.1 hP hi) h.1.2
  · rw [xif_f z]; exact h
theorem ko_teach {X : pv_X} (h : xo X) (p s : Int32) : xo (x_teach X p s).2 := by
  unfold x_teach
  by_cases z : xP X p ∧ (0 ≤ s ∧ s ≤ 9)
  · rw [xif_t z]
    have h5 := h.1.1.1.1
    obtain ⟨p, hp, rfl⟩ := (rng1 (by omega)).mp z.1
    obtain ⟨v, hv, rfl⟩ := (rngc 9 9 rfl (by omega)).mp z.2
    rw [xp, nI_clamp (by omega), nI_clamp (by omega)]
    exact xo_V h (pv_lrn_ok h.1.1 hp hv) h.1.2
  · rw [xif_f z]; exact h
theorem ko_ear {X : pv_X} (h : xo X) (v : Int32) : xo (x_ear X v).2 := by
  unfold x_ear
  by_cases z : 1 ≤ v ∧ v ≤ 4
  · rw [xif_t z]
    have z0 : 0 ≤ v ∧ v ≤ 4 := ⟨Int32.le_trans (by decide) z.1, z.2⟩
    obtain ⟨j, hj, rfl⟩ := (rngc 4 4 rfl (by omega)).mp z0
    have h1 : 1 ≤ j := (nIle 1 j rfl rfl (by omega) (by omega)).mp z.1
    rw [nI_clamp (by omega)]
    exact xo_V h (pv_ear_ok h.1.1 h1 hj) h.1.2
  · rw [xif_f z]; exact h
theorem ko_perch {X : pv_X} (h : xo X) (k s : Int32) : xo (x_perch X k s).2 := by
  unfold x_perch
  by_cases z : (0 ≤ k ∧ k ≤ 3) ∧ (0 ≤ s ∧ s ≤ 9)
  · rw [xif_t z]
    obtain ⟨k, hk, rfl⟩ := (rngc 3 3 rfl (by omega)).mp z.1
    obtain ⟨s, hs, rfl⟩ := (rngc 9 9 rfl (by omega)).mp z.2
    by_cases y : X.1.1 < 5
    · rw [xif_t y, nI_clamp (by omega), nI_clamp (by omega)]
      exact xo_V h (pv_add_ok h.1.1 y ⟨hk, by show 1 ≤ 6; omega, fun x hx => by rw [List.mem_singleton.mp hx]; exact hs⟩ (by show 0 < 1; omega)) h.1.2
    · rw [xif_f y]; exact h
  · rw [xif_f z]; exact h
theorem ko_sell {X : pv_X} (h : xo X) (n : Int32) : xo (x_sell X n).2 := by
  unfold x_sell
  by_cases z : 0 ≤ n ∧ n ≤ nI X.1.1
  · rw [xif_t z]
    have h5 := h.1.1.1.1
    obtain ⟨n, hn, rfl⟩ := (rng (by omega)).mp z
    rw [nI_clamp (by omega)]
    refine xo_V h ⟨⟨by show n ≤ 5; omega, h.1.1.1.2.1, h.1.1.1.2.2.1, fun p hp => h.1.1.1.2.2.2 p (by have : p < n := hp; omega)⟩, fun p hp => h.1.1.2 p (by have : p < n := hp; omega)⟩ h.1.2
  · rw [xif_f z]; exact h
theorem ko_days {X : pv_X} (h : xo X) (n : Int32) : xo (x_days X n).2 := by
  unfold x_days
  by_cases z : 0 ≤ n ∧ n ≤ 30
  · rw [xif_t z]
    obtain ⟨n, hn, rfl⟩ := (rngc 30 30 rfl (by omega)).mp z
    rw [nI_clamp (by omega)]
    by_cases y : X.1.2.2.1 + n < 1000
    · rw [xif_t y]
      refine xo_V h (pv_run_ok h.1.1 n (by omega)) ?_
      rw [(pv_run_n X.1 n).2.2]; omega
    · rw [xif_f y]; exact h
  · rw [xif_f z]; exact h
theorem ko_see {X : pv_X} (h : xo X) (n s : Int32) : xo (x_see X n s).2 := by
  unfold x_see
  by_cases z : (0 ≤ n ∧ n ≤ 20) ∧ (0 ≤ s ∧ s ≤ 9)
  · rw [xif_t z]
    obtain ⟨n, hn, rfl⟩ := (rngc 20 20 rfl (by omega)).mp z.1
    obtain ⟨s, hs, rfl⟩ := (rngc 9 9 rfl (by omega)).mp z.2
    by_cases y : X.2.1.length < 6
    · rw [xif_t y, nI_clamp (by omega), nI_clamp (by omega)]
      refine xo_S h ⟨by rw [List.length_append]; show _ + 1 ≤ 6; omega, fun x hx => ?_⟩
      rcases List.mem_append.mp hx with q | q
      · exact h.2.1.2 x q
      · rw [List.mem_singleton.mp q]; exact ⟨hn, hs⟩
    · rw [xif_f y]; exact h
  · rw [xif_f z]; exact h
theorem ko_forget {X : pv_X} (h : xo X) (n : Int32) : xo (x_forget X n).2 := by
  unfold x_forget
  by_cases z : 0 ≤ n ∧ n ≤ nI X.2.1.length
  · rw [xif_t z]
    exact xo_S h ⟨Nat.le_trans (List.length_take_le' _ _) h.2.1.1, fun x hx => h.2.1.2 x (List.mem_of_mem_take hx)⟩
  · rw [xif_f z]; exact h
theorem ko_keep {X : pv_X} (h : xo X) (k : Int32) : xo (x_keep X k).2 := by
  unfold x_keep
  by_cases z : 0 ≤ k ∧ k ≤ 1
  · rw [xif_t z]
    refine ⟨h.1, h.2.1, h.2.2.1, fun j w hj => ?_, h.2.2.2.2⟩
    have hj : (if j = k.toNatClampNeg then some (X.1, X.2.1) else X.2.2.2.1 j) = some w := hj
    by_cases hjk : j = k.toNatClampNeg
    · rw [if_pos hjk] at hj; cases hj; exact ⟨h.1, h.2.1⟩
    · rw [if_neg hjk] at hj; exact h.2.2.2.1 j w hj
  · rw [xif_f z]; exact h
theorem ko_back {X : pv_X} (h : xo X) (k : Int32) : xo (x_back X k).2 := by
  unfold x_back
  by_cases z : 0 ≤ k ∧ k ≤ 1
  · rw [xif_t z]
    cases hi : X.2.2.2.1 k.toNatClampNeg with
    | none => exact h
    | some w =>
      have hw := h.2.2.2.1 _ w hi
      exact xo_S (xo_V h hw.1.1 hw.1.2) hw.2
  · rw [xif_f z]; exact h
theorem ko_sheet {X : pv_X} (h : xo X) (k l n : Int32) : xo (x_sheet X k l n).2 := by
  unfold x_sheet
  by_cases z : (0 ≤ k ∧ k ≤ 3) ∧ (0 ≤ l ∧ l ≤ 2) ∧ n ≤ 40
  · rw [xif_t z]
    by_cases y : 0 ≤ n
    · rw [xif_t y]
      obtain ⟨l, hl, rfl⟩ := (rngc 2 2 rfl (by omega)).mp z.2.1
      obtain ⟨n, hn, rfl⟩ := (rngc 40 40 rfl (by omega)).mp ⟨y, z.2.2⟩
      rw [nI_clamp (show l < 2 ^ 31 by omega), nI_clamp (show n < 2 ^ 31 by omega)]
      exact xo_H h ⟨hl, hn⟩
    · rw [xif_f y]; exact h
  · rw [xif_f z]; exact h
theorem ko_lay {X : pv_X} (h : xo X) (k i v : Int32) : xo (x_lay X k i v).2 := by
  unfold x_lay
  by_cases z : 0 ≤ k ∧ k ≤ 3
  · rw [xif_t z]
    cases hi : X.2.2.2.2.2.2 k.toNatClampNeg with
    | none => exact h
    | some w =>
      have hw := h.2.2.2.2.2.2 _ w hi
      unfold x_lay0
      by_cases y : 0 ≤ i ∧ i ≤ nI w.2.1 - 1
      · simp only [xif_t y]
        exact xo_H h hw
      · simp only [xif_f y]
        exact h
  · rw [xif_f z]; exact h
theorem ko_read {X : pv_X} (h : xo X) (k l f n : Int32) : xo (x_read X k l f n).2 := by
  unfold x_read
  by_cases z : (0 ≤ k ∧ k ≤ 3) ∧ (0 ≤ l ∧ l ≤ 2) ∧ (0 ≤ n ∧ n ≤ 20)
  · rw [xif_t z]
    unfold x_read0
    cases hb : pv_fb (x_good X (x_cells (X.2.2.2.2.2.2 k.toNatClampNeg)) f.toNatClampNeg) (min n.toNatClampNeg (x_wp l f (X.2.2.2.2.2.2 k.toNatClampNeg))) 0 with
    | some i => exact h
    | none =>
      have hg := pv_fb_none hb
      have hg2 : ∀ j, j < min n.toNatClampNeg (x_wp l f (X.2.2.2.2.2.2 k.toNatClampNeg)) → x_good X (x_cells (X.2.2.2.2.2.2 k.toNatClampNeg)) f.toNatClampNeg j := fun j hj => hg j (Nat.zero_le _) (by omega)
      obtain ⟨h1, h2, h3⟩ := pv_lrns_ok (X := X) h.1.1 _ hg2
      refine xo_R (xo_V h h1 (by rw [h3]; exact h.1.2)) ?_
      split
      · cases X.2.2.2.2.2.2 k.toNatClampNeg with
        | none => show 1 ≤ 3; omega
        | some w =>
          unfold x_fc
          simp only
          split <;> omega
      · omega
  · rw [xif_f z]; exact h
/-- a new state -/
noncomputable def x_0 : pv_X := (pv_0, [], [], fun _ => none, 0, 0, fun _ => none)
theorem xo_0 : xo x_0 := ⟨⟨pv_0_ok, by show 0 ≤ 999; omega⟩, ⟨Nat.zero_le _, fun x hx => absurd hx List.not_mem_nil⟩, ⟨Nat.zero_le _, fun x hx => absurd hx List.not_mem_nil⟩, fun k w hk => (by cases hk), Nat.zero_le _, Nat.zero_le _, fun k w hk => (by cases hk)⟩
