/-! ===== what holds where the law begins ===== -/
theorem lz_K {s : State} {args : Array Value} (hts : ∀ w ∈ lw_tbl, w.before args s = true) : ∃ (D : va_G) (cA : Nat → ClassId), va_K D vwCl (px_tys cA) s := by
  obtain ⟨c0, i0, k0⟩ := u_known (C := RX0) (T := TX0) (N := 7) (n := 7) hts wlFX0 (hts (.instantiable RX0 7) (tb1 (List.mem_of_getElem? (i := 24) rfl)))
  obtain ⟨c1, i1, k1⟩ := u_known (C := RX1) (T := TX1) (N := 3) (n := 3) hts wlFX1 (hts (.instantiable RX1 3) (tb1 (List.mem_of_getElem? (i := 123) rfl)))
  obtain ⟨c2, i2, k2⟩ := u_known (C := RX2) (T := TX2) (N := 3) (n := 3) hts wlFX2 (hts (.instantiable RX2 3) (tb1 (List.mem_of_getElem? (i := 62) rfl)))
  obtain ⟨c3, i3, k3⟩ := u_known (C := RX3) (T := TX3) (N := 3) (n := 3) hts wlFX3 (hts (.instantiable RX3 3) (tb1 (List.mem_of_getElem? (i := 144) rfl)))
  obtain ⟨c4, i4, k4⟩ := u_known (C := RX4) (T := TX4) (N := 9) (n := 9) hts wlFX4 (hts (.instantiable RX4 9) (tb1 (List.mem_of_getElem? (i := 81) rfl)))
  obtain ⟨c5, i5, k5⟩ := u_known (C := RX5) (T := TX5) (N := 13) (n := 13) hts wlFX5 (hts (.instantiable RX5 13) (tb1 (List.mem_of_getElem? (i := 16) rfl)))
  obtain ⟨c6, i6, k6⟩ := u_known (C := RX6) (T := TX6) (N := 25) (n := 25) hts wlFX6 (hts (.instantiable RX6 25) (tb3 (List.mem_of_getElem? (i := 187) rfl)))
  obtain ⟨a0, ka0, co0, p0, q0, r0⟩ := Cond.arrayClass_spec (hts (.arrayClass .int) (tb1 (List.mem_of_getElem? (i := 60) rfl)))
  obtain ⟨a1, ka1, co1, p1, q1, r1⟩ := Cond.arrayClass_spec (hts (.arrayClass .byte) (tb1 (List.mem_of_getElem? (i := 118) rfl)))
  obtain ⟨a2, ka2, co2, p2, q2, r2⟩ := Cond.arrayClass_spec (hts (.arrayClass .boolean) (tb4 (List.mem_of_getElem? (i := 36) rfl)))
  obtain ⟨co3, a3, ka3, f3, -, q3, r3, p3⟩ := Cond.arrayOver_spec (hts (.arrayOver (.object "ParrotHeirs$Image")) (tb1 (List.mem_of_getElem? (i := 120) rfl)))
  obtain ⟨co4, a4, ka4, f4, -, q4, r4, p4⟩ := Cond.arrayOver_spec (hts (.arrayOver (.object "ParrotHeirs$Sheet")) (tb1 (List.mem_of_getElem? (i := 122) rfl)))
  refine ⟨(fun k => match k with | 0 => c0 | 1 => c1 | 2 => c2 | 3 => c3 | 4 => c4 | 5 => c5 | _ => c6, fun k => match k with | 0 => i0 | 1 => i1 | 2 => i2 | 3 => i3 | 4 => i4 | 5 => i5 | _ => i6), fun k => match k with | 0 => a0 | 1 => a1 | 2 => a2 | 3 => a3 | _ => a4, fun c x hc => ?_, fun k x hk => ?_⟩
  · match c, hc with
    | 0, hc => cases hc; exact k0
    | 1, hc => cases hc; exact k1
    | 2, hc => cases hc; exact k2
    | 3, hc => cases hc; exact k3
    | 4, hc => cases hc; exact k4
    | 5, hc => cases hc; exact k5
    | 6, hc => cases hc; exact k6
    | c + 7, hc => simp [vwCl] at hc
  · match k, hk with
    | 0, hk => cases hk; exact ⟨fun n z => ⟨fun k h => (by cases h), ka0, q0, co0, r0⟩, p0⟩
    | 1, hk => cases hk; exact ⟨fun n z => ⟨fun k h => (by cases h), ka1, q1, co1, r1⟩, p1⟩
    | 2, hk => cases hk; exact ⟨fun n z => ⟨fun k h => (by cases h), ka2, q2, co2, r2⟩, p2⟩
    | 3, hk => cases hk; exact ⟨fun n z => ⟨fun k h => (by cases h), ka3, q3, co3, r3⟩, ka3, co3, q3, r3, f3, p3⟩
    | 4, hk => cases hk; exact ⟨fun n z => ⟨fun k h => (by cases h), ka4, q4, co4, r4⟩, ka4, co4, q4, r4, f4, p4⟩
    | k + 5, hk => simp [px_tys] at hk
theorem px_one {U : State} {D : va_G} {cl : List vw_C} {tys : List (ClassId × FieldType)} {c c' : ClassId} {ty : FieldType} {i j : Nat} (h : va_K D cl tys U) (hi : tys[i]? = some (c, ty)) (hj : tys[j]? = some (c', ty)) : c' = c := by
  have h1 := (h.2 i _ hi).2
  have h2 := (h.2 j _ hj).2
  cases ty with
  | object C =>
    obtain ⟨k1, o1, a1, a2, a3, a4⟩ := h1
    obtain ⟨k2, o2, b1, b2, b3, b4⟩ := h2
    exact Option.some.inj (b4.symm.trans a4)
  | _ => exact Option.some.inj (h2.symm.trans h1)
theorem lz_S {s : State} {b : Nat} (hs : ∀ c ∈ flatC (Jvm.Cond.and given_1 narrow_1), c.before #[Value.ref b] s = true) : ∃ adK adV : Nat → Nat, vk_S 5 snL snB adK adV (fun x => s.heap.size ≤ x) s s.heap ∧ ∀ i : Nat, i < 5 → (Term.string RX4 (snK.getD i (0, "")).1).eval #[Value.ref b] s none [] s = some (.ref (adK i)) := by
  refine vk_Sof (tm := fun i => Term.string RX4 (snK.getD i (0, "")).1) (fun i hi => ?_) (fun i hi => ?_) (fun i hi => ?_) (fun i hi => ?_) (fun i hi => ?_) (fun i hi j hj => ?_) (fun i j hi hj hij => ?_) (fun a h h2 => absurd h (Nat.not_lt.mpr h2))
  · match i, hi with
    | 0, hi => exact (by decide)
    | 1, hi => exact (by decide)
    | 2, hi => exact (by decide)
    | 3, hi => exact (by decide)
    | 4, hi => exact (by decide)
    | i + 5, hi => exact absurd hi (by omega)
  · match i, hi with
    | 0, hi => exact hs _ (by decide +kernel)
    | 1, hi => exact hs _ (by decide +kernel)
    | 2, hi => exact hs _ (by decide +kernel)
    | 3, hi => exact hs _ (by decide +kernel)
    | 4, hi => exact hs _ (by decide +kernel)
    | i + 5, hi => exact absurd hi (by omega)
  · match i, hi with
    | 0, hi => exact hs _ (by decide +kernel)
    | 1, hi => exact hs _ (by decide +kernel)
    | 2, hi => exact hs _ (by decide +kernel)
    | 3, hi => exact hs _ (by decide +kernel)
    | 4, hi => exact hs _ (by decide +kernel)
    | i + 5, hi => exact absurd hi (by omega)
  · match i, hi with
    | 0, hi => exact hs _ (by decide +kernel)
    | 1, hi => exact hs _ (by decide +kernel)
    | 2, hi => exact hs _ (by decide +kernel)
    | 3, hi => exact hs _ (by decide +kernel)
    | 4, hi => exact hs _ (by decide +kernel)
    | i + 5, hi => exact absurd hi (by omega)
  · match i, hi with
    | 0, hi => exact hs _ (by decide +kernel)
    | 1, hi => exact hs _ (by decide +kernel)
    | 2, hi => exact hs _ (by decide +kernel)
    | 3, hi => exact hs _ (by decide +kernel)
    | 4, hi => exact hs _ (by decide +kernel)
    | i + 5, hi => exact absurd hi (by omega)
  · match i, hi with
    | 0, hi =>
      match j, hj with
      | 0, hj => exact hs _ (by decide +kernel)
      | 1, hj => exact hs _ (by decide +kernel)
      | 2, hj => exact hs _ (by decide +kernel)
      | 3, hj => exact hs _ (by decide +kernel)
      | 4, hj => exact hs _ (by decide +kernel)
      | j + 5, hj => exact absurd (show j + 5 < 5 from hj) (by omega)
    | 1, hi =>
      match j, hj with
      | 0, hj => exact hs _ (by decide +kernel)
      | 1, hj => exact hs _ (by decide +kernel)
      | 2, hj => exact hs _ (by decide +kernel)
      | j + 3, hj => exact absurd (show j + 3 < 3 from hj) (by omega)
    | 2, hi =>
      match j, hj with
      | 0, hj => exact hs _ (by decide +kernel)
      | 1, hj => exact hs _ (by decide +kernel)
      | 2, hj => exact hs _ (by decide +kernel)
      | 3, hj => exact hs _ (by decide +kernel)
      | 4, hj => exact hs _ (by decide +kernel)
      | j + 5, hj => exact absurd (show j + 5 < 5 from hj) (by omega)
    | 3, hi =>
      match j, hj with
      | 0, hj => exact hs _ (by decide +kernel)
      | 1, hj => exact hs _ (by decide +kernel)
      | 2, hj => exact hs _ (by decide +kernel)
      | j + 3, hj => exact absurd (show j + 3 < 3 from hj) (by omega)
    | 4, hi =>
      match j, hj with
      | 0, hj => exact hs _ (by decide +kernel)
      | 1, hj => exact hs _ (by decide +kernel)
      | 2, hj => exact hs _ (by decide +kernel)
      | j + 3, hj => exact absurd (show j + 3 < 3 from hj) (by omega)
    | i + 5, hi => exact absurd hi (by omega)
  · match i, hi, j, hj with
    | 0, _, 0, _ => exact absurd rfl hij
    | 0, _, 1, _ => exact Or.inl (hs _ (by decide +kernel))
    | 0, _, 2, _ => exact Or.inl (hs _ (by decide +kernel))
    | 0, _, 3, _ => exact Or.inl (hs _ (by decide +kernel))
    | 0, _, 4, _ => exact Or.inl (hs _ (by decide +kernel))
    | 1, _, 0, _ => exact Or.inr (hs _ (by decide +kernel))
    | 1, _, 1, _ => exact absurd rfl hij
    | 1, _, 2, _ => exact Or.inl (hs _ (by decide +kernel))
    | 1, _, 3, _ => exact Or.inl (hs _ (by decide +kernel))
    | 1, _, 4, _ => exact Or.inl (hs _ (by decide +kernel))
    | 2, _, 0, _ => exact Or.inr (hs _ (by decide +kernel))
    | 2, _, 1, _ => exact Or.inr (hs _ (by decide +kernel))
    | 2, _, 2, _ => exact absurd rfl hij
    | 2, _, 3, _ => exact Or.inl (hs _ (by decide +kernel))
    | 2, _, 4, _ => exact Or.inl (hs _ (by decide +kernel))
    | 3, _, 0, _ => exact Or.inr (hs _ (by decide +kernel))
    | 3, _, 1, _ => exact Or.inr (hs _ (by decide +kernel))
    | 3, _, 2, _ => exact Or.inr (hs _ (by decide +kernel))
    | 3, _, 3, _ => exact absurd rfl hij
    | 3, _, 4, _ => exact Or.inl (hs _ (by decide +kernel))
    | 4, _, 0, _ => exact Or.inr (hs _ (by decide +kernel))
    | 4, _, 1, _ => exact Or.inr (hs _ (by decide +kernel))
    | 4, _, 2, _ => exact Or.inr (hs _ (by decide +kernel))
    | 4, _, 3, _ => exact Or.inr (hs _ (by decide +kernel))
    | 4, _, 4, _ => exact absurd rfl hij
    | i + 5, hi, _, _ => exact absurd hi (by omega)
    | _, _, j + 5, hj => exact absurd hj (by omega)
theorem lz_R : ∀ i, i < 5 → Cond.stringRef RX4 (snK.getD i (0, "")).1 (snK.getD i (0, "")).2 ∈ lw_tbl := by
  intro i hi
  match i, hi with
  | 0, hi => exact tb2 (List.mem_of_getElem? (i := 12) rfl)
  | 1, hi => exact tb2 (List.mem_of_getElem? (i := 65) rfl)
  | 2, hi => exact tb2 (List.mem_of_getElem? (i := 66) rfl)
  | 3, hi => exact tb2 (List.mem_of_getElem? (i := 67) rfl)
  | 4, hi => exact tb2 (List.mem_of_getElem? (i := 68) rfl)
  | i + 5, hi => exact absurd hi (by omega)
theorem lz_nw {s : State} {b : Nat} (hts : ∀ w ∈ lw_tbl, w.before #[Value.ref b] s = true) (hgv : (Jvm.Cond.and given_1 narrow_1).before #[Value.ref b] s = true) : ∃ q : Nat → Nat, px_nw q (fun x => s.heap.size ≤ x) s := by
  have hs := flat_of_before _ hgv
  have hA : ∀ a : Nat, a < s.heap.size → ¬ (fun x : Nat => s.heap.size ≤ x) a := fun a h h2 => absurd h (Nat.not_lt.mpr h2)
  obtain ⟨adK, adV, hS, hR⟩ := lz_S hs
  have hC : va_Z "java/lang/String" "COMPACT_STRINGS" "Z" (.int 1) (fun x : Nat => s.heap.size ≤ x) s s.heap := va_Zof (hts (.laysStatic "java/lang/String" "COMPACT_STRINGS" "Z") (tb2 (List.mem_of_getElem? (i := 26) rfl))) (hts (.initialized "java/lang/String") (tb1 (List.mem_of_getElem? (i := 9) rfl))) (va_eqi (hs _ (by decide +kernel))) hA
  have hF : va_Zq "jdk/internal/util/Preconditions" "SIOOBE_FORMATTER" "Ljava/util/function/BiFunction;" (fun x : Nat => s.heap.size ≤ x) s s.heap := va_Zqof (hts (.laysStatic "jdk/internal/util/Preconditions" "SIOOBE_FORMATTER" "Ljava/util/function/BiFunction;") (tb2 (List.mem_of_getElem? (i := 42) rfl))) (hts (.initialized "jdk/internal/util/Preconditions") (tb1 (List.mem_of_getElem? (i := 11) rfl))) (hs _ (by decide +kernel)) hA
  have hN : px_nn s := ⟨va_Nw.of rfl (hts (.methodLinkNest RX4 75 yX5_isWithin RX5) (tb2 (List.mem_of_getElem? (i := 77) rfl))), va_Nw.of rfl (hts (.methodLinkNest RX4 92 yX5_isSound RX5) (tb2 (List.mem_of_getElem? (i := 90) rfl)))⟩
  have mk : ∀ t : Nat, (va_Z "jdk/internal/util/Preconditions" "SIOOBE_FORMATTER" "Ljava/util/function/BiFunction;" .null (fun x : Nat => s.heap.size ≤ x) s s.heap ∨ va_Z "jdk/internal/util/Preconditions" "SIOOBE_FORMATTER" "Ljava/util/function/BiFunction;" (.ref t) (fun x : Nat => s.heap.size ≤ x) s s.heap) → ∃ q : Nat → Nat, px_nw q (fun x => s.heap.size ≤ x) s := fun t ht => by
    have e1 : ∀ i, i < 5 → (fun k => if k < 200 then adK (k - 100) else if k < 300 then adV (k - 200) else t) (100 + i) = adK i := fun i hi => by
      show (if 100 + i < 200 then adK (100 + i - 100) else _) = _
      rw [if_pos (by omega), show 100 + i - 100 = i by omega]
    have e2 : ∀ i, i < 5 → (fun k => if k < 200 then adK (k - 100) else if k < 300 then adV (k - 200) else t) (200 + i) = adV i := fun i hi => by
      show (if 200 + i < 200 then _ else if 200 + i < 300 then adV (200 + i - 200) else t) = _
      rw [if_neg (by omega), if_pos (by omega), show 200 + i - 200 = i by omega]
    generalize hq : (fun k : Nat => if k < 200 then adK (k - 100) else if k < 300 then adV (k - 200) else t) = q at e1 e2
    have e3 : q 300 = t := by rw [← hq]; rfl
    refine ⟨q, hN, ⟨fun i hi => ?_, fun i j hi hj h => ?_⟩, ⟨hC, ?_⟩, fun i hi => ?_⟩
    · have h3 := hS.1 i hi
      rw [← e1 i hi, ← e2 i hi] at h3
      exact h3
    · exact hS.2 i j hi hj (by rw [← e1 i hi, ← e1 j hj]; exact h)
    · unfold px_zf
      rw [e3]; exact ht
    · rw [e1 i hi]
      exact vk_R.of (A := #[Value.ref b]) (hts (Cond.stringRef RX4 (snK.getD i (0, "")).1 (snK.getD i (0, "")).2) (lz_R i hi)) (hR i hi)
  rcases hF with h | ⟨t, h⟩
  · exact mk 0 (Or.inl h)
  · exact mk t (Or.inr h)
