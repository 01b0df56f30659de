/-! ===== the switch, the loop, the law from its entry ===== -/
set_option maxRecDepth 20000 in
theorem lx_sw {p : Program} {l : Launch} {e : Env} {s : State} {m : MethodId} {below : List Frame} {meth : Method} {c : Code} {b L : Nat} {xs : Nat → Int32} {D : va_G} {cA : Nat → ClassId} {q r : Nat → Nat} {kc ks : Nat} {Q : State → Prop} {ls : Array Slot} {i : Nat} {X : pv_X} {H : Heap} {locs : List Loc} (E : lx_C p s m meth c b L xs D cA q r) (hl : lv_has ls 4 (lx_lv b i q r)) (hi : i + 6 ≤ L) (hcc : kc ≤ 600000 ∧ ks ≤ 7302250) (hw : lx_w s D cA q r X H locs) (kk : ∀ (X' : pv_X) (H1 : Heap) (locs1 : List Loc), lx_w s D cA q r X' H1 locs1 → W p l e room_1 s m #[Value.ref b] below meth c H1 locs1 kc ks Q (F0 m 1453 ls [])) : W p l e room_1 s m #[Value.ref b] below meth c H locs kc ks Q (F0 m 33 ls [.int (xs i &&& 63)]) := by
  obtain ⟨hx, hb, -⟩ := id E.1
  generalize xs i &&& 63 = x
  by_cases hz : 0 ≤ x ∧ x ≤ 38
  · obtain ⟨k, hk, rfl⟩ := (rngc 38 38 rfl (by omega)).mp hz
    match k, hk with
    | 0, _ => exact lv_tableIn (off := 171) (tgt := 204) hx hb dL_law_33 (by decide) (by decide) (by decide) (by decide) (lc_feed E hl hi hcc hw kk)
    | 1, _ => exact lv_tableIn (off := 194) (tgt := 227) hx hb dL_law_33 (by decide) (by decide) (by decide) (by decide) (lc_end E hl hi hcc hw kk)
    | 2, _ => exact lv_tableIn (off := 217) (tgt := 250) hx hb dL_law_33 (by decide) (by decide) (by decide) (by decide) (lc_text E hl hi hcc hw kk)
    | 3, _ => exact lv_tableIn (off := 230) (tgt := 263) hx hb dL_law_33 (by decide) (by decide) (by decide) (by decide) (lc_fault E hl hi hcc hw kk)
    | 4, _ => exact lv_tableIn (off := 243) (tgt := 276) hx hb dL_law_33 (by decide) (by decide) (by decide) (by decide) (lc_rule E hl hi hcc hw kk)
    | 5, _ => exact lv_tableIn (off := 266) (tgt := 299) hx hb dL_law_33 (by decide) (by decide) (by decide) (by decide) (lc_parrot E hl hi hcc hw kk)
    | 6, _ => exact lv_tableIn (off := 299) (tgt := 332) hx hb dL_law_33 (by decide) (by decide) (by decide) (by decide) (lc_knows E hl hi hcc hw kk)
    | 7, _ => exact lv_tableIn (off := 322) (tgt := 355) hx hb dL_law_33 (by decide) (by decide) (by decide) (by decide) (lc_moult E hl hi hcc hw kk)
    | 8, _ => exact lv_tableIn (off := 355) (tgt := 388) hx hb dL_law_33 (by decide) (by decide) (by decide) (by decide) (lc_turn E hl hi hcc hw kk)
    | 9, _ => exact lv_tableIn (off := 388) (tgt := 421) hx hb dL_law_33 (by decide) (by decide) (by decide) (by decide) (lc_teach E hl hi hcc hw kk)
    | 10, _ => exact lv_tableIn (off := 421) (tgt := 454) hx hb dL_law_33 (by decide) (by decide) (by decide) (by decide) (lc_ear E hl hi hcc hw kk)
    | 11, _ => exact lv_tableIn (off := 444) (tgt := 477) hx hb dL_law_33 (by decide) (by decide) (by decide) (by decide) (lc_perch E hl hi hcc hw kk)
    | 12, _ => exact lv_tableIn (off := 477) (tgt := 510) hx hb dL_law_33 (by decide) (by decide) (by decide) (by decide) (lc_sell E hl hi hcc hw kk)
    | 13, _ => exact lv_tableIn (off := 500) (tgt := 533) hx hb dL_law_33 (by decide) (by decide) (by decide) (by decide) (lc_days E hl hi hcc hw kk)
    | 14, _ => exact lv_tableIn (off := 523) (tgt := 556) hx hb dL_law_33 (by decide) (by decide) (by decide) (by decide) (lc_says E hl hi hcc hw kk)
    | 15, _ => exact lv_tableIn (off := 546) (tgt := 579) hx hb dL_law_33 (by decide) (by decide) (by decide) (by decide) (lc_when E hl hi hcc hw kk)
    | 16, _ => exact lv_tableIn (off := 569) (tgt := 602) hx hb dL_law_33 (by decide) (by decide) (by decide) (by decide) (lc_often E hl hi hcc hw kk)
    | 17, _ => exact lv_tableIn (off := 602) (tgt := 635) hx hb dL_law_33 (by decide) (by decide) (by decide) (by decide) (lc_phrase E hl hi hcc hw kk)
    | 18, _ => exact lv_tableIn (off := 635) (tgt := 668) hx hb dL_law_33 (by decide) (by decide) (by decide) (by decide) (lc_ahead E hl hi hcc hw kk)
    | 19, _ => exact lv_tableIn (off := 678) (tgt := 711) hx hb dL_law_33 (by decide) (by decide) (by decide) (by decide) (lc_lesson E hl hi hcc hw kk)
    | 20, _ => exact lv_tableIn (off := 721) (tgt := 754) hx hb dL_law_33 (by decide) (by decide) (by decide) (by decide) (lc_away E hl hi hcc hw kk)
    | 21, _ => exact lv_tableIn (off := 764) (tgt := 797) hx hb dL_law_33 (by decide) (by decide) (by decide) (by decide) (lc_swap E hl hi hcc hw kk)
    | 22, _ => exact lv_tableIn (off := 797) (tgt := 830) hx hb dL_law_33 (by decide) (by decide) (by decide) (by decide) (lc_far E hl hi hcc hw kk)
    | 23, _ => exact lv_tableIn (off := 830) (tgt := 863) hx hb dL_law_33 (by decide) (by decide) (by decide) (by decide) (lc_kind E hl hi hcc hw kk)
    | 24, _ => exact lv_tableIn (off := 883) (tgt := 916) hx hb dL_law_33 (by decide) (by decide) (by decide) (by decide) (lc_luck E hl hi hcc hw kk)
    | 25, _ => exact lv_tableIn (off := 947) (tgt := 980) hx hb dL_law_33 (by decide) (by decide) (by decide) (by decide) (lc_mean E hl hi hcc hw kk)
    | 26, _ => exact lv_tableIn (off := 1001) (tgt := 1034) hx hb dL_law_33 (by decide) (by decide) (by decide) (by decide) (lc_see E hl hi hcc hw kk)
    | 27, _ => exact lv_tableIn (off := 1034) (tgt := 1067) hx hb dL_law_33 (by decide) (by decide) (by decide) (by decide) (lc_forget E hl hi hcc hw kk)
    | 28, _ => exact lv_tableIn (off := 1057) (tgt := 1090) hx hb dL_law_33 (by decide) (by decide) (by decide) (by decide) (lc_kinds E hl hi hcc hw kk)
    | 29, _ => exact lv_tableIn (off := 1080) (tgt := 1113) hx hb dL_law_33 (by decide) (by decide) (by decide) (by decide) (lc_sounds E hl hi hcc hw kk)
    | 30, _ => exact lv_tableIn (off := 1113) (tgt := 1146) hx hb dL_law_33 (by decide) (by decide) (by decide) (by decide) (lc_ask E hl hi hcc hw kk)
    | 31, _ => exact lv_tableIn (off := 1156) (tgt := 1189) hx hb dL_law_33 (by decide) (by decide) (by decide) (by decide) (lc_drift E hl hi hcc hw kk)
    | 32, _ => exact lv_tableIn (off := 1199) (tgt := 1232) hx hb dL_law_33 (by decide) (by decide) (by decide) (by decide) (lc_keep E hl hi hcc hw kk)
    | 33, _ => exact lv_tableIn (off := 1222) (tgt := 1255) hx hb dL_law_33 (by decide) (by decide) (by decide) (by decide) (lc_back E hl hi hcc hw kk)
    | 34, _ => exact lv_tableIn (off := 1245) (tgt := 1278) hx hb dL_law_33 (by decide) (by decide) (by decide) (by decide) (lc_sheet E hl hi hcc hw kk)
    | 35, _ => exact lv_tableIn (off := 1288) (tgt := 1321) hx hb dL_law_33 (by decide) (by decide) (by decide) (by decide) (lc_lay E hl hi hcc hw kk)
    | 36, _ => exact lv_tableIn (off := 1331) (tgt := 1364) hx hb dL_law_33 (by decide) (by decide) (by decide) (by decide) (lc_read E hl hi hcc hw kk)
    | 37, _ => exact lv_tableIn (off := 1384) (tgt := 1417) hx hb dL_law_33 (by decide) (by decide) (by decide) (by decide) (lc_torn E hl hi hcc hw kk)
    | 38, _ => exact lv_tableIn (off := 1397) (tgt := 1430) hx hb dL_law_33 (by decide) (by decide) (by decide) (by decide) (lc_count E hl hi hcc hw kk)
    | k + 39, hk => exact absurd hk (by omega)
  · refine lv_tableOut (tgt := 1453) hx hb dL_law_33 ?_ (by decide) (kk X H locs hw)
    rw [Int32.le_iff_toInt_le, Int32.le_iff_toInt_le, show (0 : Int32).toInt = 0 from rfl, show (38 : Int32).toInt = 38 from rfl] at hz
    omega
/-- the loop's test -/
theorem lx_gt {L i : Nat} (hL : L ≤ 3072) (hi : i ≤ 3078) : nI L - 6 < nI i ↔ L < i + 6 := by
  by_cases h6 : L < 6
  · have h1 : ∀ n, n < 6 → nI n - 6 < 0 := by decide
    have h2 : (0 : Int32) ≤ nI i := (nIle 0 i rfl rfl (by omega) (by omega)).mpr (Nat.zero_le _)
    exact ⟨fun _ => by omega, fun _ => Int32.lt_of_lt_of_le (h1 L h6) h2⟩
  · have h1 : nI L - 6 = nI (L - 6) := pk_sub (a := L) (b := 6) (by omega)
    rw [h1, nIlt (L - 6) i rfl rfl (by omega) (by omega)]
    omega
theorem lx_loop {p : Program} {l : Launch} {e : Env} {s : State} {m : MethodId} {below : List Frame} {meth : Method} {c : Code} {b L : Nat} {xs : Nat → Int32} {D : va_G} {cA : Nat → ClassId} {q r : Nat → Nat} (E : lx_C p s m meth c b L xs D cA q r) : ∀ (n i : Nat) (X : pv_X) (H : Heap) (locs : List Loc) (ls : Array Slot), L ≤ i + n → i ≤ 3078 → lv_has ls 4 (lx_lv b i q r) → lx_w s D cA q r X H locs → W p l e room_1 s m #[Value.ref b] below meth c H locs 69 1947 (lw_Z below #[Value.ref b] s) (F0 m 18 ls []) := by
  obtain ⟨C, hL, -⟩ := id E
  obtain ⟨hx, hb, hr, hml, hown, hts, hX, hbl, hlocks, hgv⟩ := id C
  intro n
  induction n with
  | zero =>
    intro i X H locs ls hn hi hl hw
    obtain ⟨σ, τ, h1, h2, hxo, hPC, hPM, hS⟩ := id hw
    refine lv_iload_n hx hb dL_law_18 rfl (lv_at hl 0 rfl) ?_
    refine lv_aload_n hx hb dL_law_19 rfl (lv_at hl 3 rfl) ?_
    refine va_slen (A := lx_A s) hx hb hX hbl (Nat.not_le.mpr hbl) hS dL_law_20 ?_
    refine lv_bipush (v := 6) hx hb dL_law_21 (by decide) ?_
    refine lv_isub hx hb dL_law_23 ?_
    refine lv_icmp_gt (tgt := 1459) hx hb dL_law_24 (by decide) (fun _ => ?_) (fun z => absurd ((lx_gt (L := L) hL hi).mpr (by omega)) z)
    refine lv_iconst (v := 1) hx hb dL_law_1459 (by decide) ?_
    refine va_forget (fun x hx => hS.2.2 x hx) ?_
    refine W.widen (k := 600000) (n := 7302250) (by omega) (by omega) ?_
    exact lw_ret hx hb hr hlocks dL_law_1460
  | succ n ih =>
    intro i X H locs ls hn hi hl hw
    obtain ⟨σ, τ, h1, h2, hxo, hPC, hPM, hS⟩ := id hw
    refine lv_iload_n hx hb dL_law_18 rfl (lv_at hl 0 rfl) ?_
    refine lv_aload_n hx hb dL_law_19 rfl (lv_at hl 3 rfl) ?_
    refine va_slen (A := lx_A s) hx hb hX hbl (Nat.not_le.mpr hbl) hS dL_law_20 ?_
    refine lv_bipush (v := 6) hx hb dL_law_21 (by decide) ?_
    refine lv_isub hx hb dL_law_23 ?_
    refine lv_icmp_gt (tgt := 1459) hx hb dL_law_24 (by decide) (fun _ => ?_) (fun z => ?_)
    · refine lv_iconst (v := 1) hx hb dL_law_1459 (by decide) ?_
      refine va_forget (fun x hx => hS.2.2 x hx) ?_
      refine W.widen (k := 600000) (n := 7302250) (by omega) (by omega) ?_
      exact lw_ret hx hb hr hlocks dL_law_1460
    · have hi6 : i + 6 ≤ L := Nat.le_of_not_lt (fun h => z ((lx_gt (L := L) hL hi).mpr h))
      refine lv_aload_n hx hb dL_law_27 rfl (lv_at hl 3 rfl) ?_
      refine lv_iload_n hx hb dL_law_28 rfl (lv_at hl 0 rfl) ?_
      refine va_sld (A := lx_A s) hx hb hX hbl (Nat.not_le.mpr hbl) hS (vp_in_nI (by omega) (by omega)) dL_law_29 ?_
      rw [nI_clamp (by omega)]
      refine lv_bipush (v := 63) hx hb dL_law_30 (by decide) ?_
      refine lv_iand hx hb dL_law_32 ?_
      refine lx_sw E hl hi6 ⟨by omega, by omega⟩ hw (fun X' H1 locs1 hw1 => ?_)
      refine lv_iinc (k := 0) (v := nI (i + 6)) (lv' := lx_lv b (i + 6) q r) hx hb dL_law_1453 hl rfl (nI_add i 6) (by decide) rfl (fun ls hl => ?_)
      refine lv_goto (tgt := 18) hx hb dL_law_1456 (by decide) ?_
      exact ih (i + 6) X' H1 locs1 ls (by omega) (by omega) hl hw1
theorem dfX5 : ∀ j, j < 13 → defaultValue (tyX5 j) = vp_V [.null, .null, .null, .null, .null, .null, .null, .null, .null, .null, .int 0, .int 0, .int 0] j := by
  intro j hj
  rcases (show j = 0 ∨ j = 1 ∨ j = 2 ∨ j = 3 ∨ j = 4 ∨ j = 5 ∨ j = 6 ∨ j = 7 ∨ j = 8 ∨ j = 9 ∨ j = 10 ∨ j = 11 ∨ j = 12 by omega) with rfl | rfl | rfl | rfl | rfl | rfl | rfl | rfl | rfl | rfl | rfl | rfl | rfl <;> rfl
theorem dfX6 : ∀ j, j < 25 → defaultValue (tyX6 j) = vp_V [.null, .null, .null, .null, .int 0, .null, .int 0, .int 0, .int 0, .int 0, .int 0, .int 0, .int 0, .int 0, .int 0, .long 0, .long 0, .long 0, .null, .null, .null, .null, .null, .int 0, .null] j := by
  intro j hj
  rcases (show j = 0 ∨ j = 1 ∨ j = 2 ∨ j = 3 ∨ j = 4 ∨ j = 5 ∨ j = 6 ∨ j = 7 ∨ j = 8 ∨ j = 9 ∨ j = 10 ∨ j = 11 ∨ j = 12 ∨ j = 13 ∨ j = 14 ∨ j = 15 ∨ j = 16 ∨ j = 17 ∨ j = 18 ∨ j = 19 ∨ j = 20 ∨ j = 21 ∨ j = 22 ∨ j = 23 ∨ j = 24 by omega) with rfl | rfl | rfl | rfl | rfl | rfl | rfl | rfl | rfl | rfl | rfl | rfl | rfl | rfl | rfl | rfl | rfl | rfl | rfl | rfl | rfl | rfl | rfl | rfl | rfl <;> rfl
theorem g1L {wd : List Cond} (hgood : px_good wd) (hin : ∀ w ∈ wd, w ∈ lw_tbl) {w0 : Cond} (h : w0 ∈ wd) : GoodIn lw_tbl (w0 :: wd) := fun w hw => by
  have h1 : w ∈ wd := by
    rcases List.mem_cons.mp hw with r | r
    · rw [r]; exact h
    · exact r
  exact ⟨hin w h1, hgood w h1⟩
theorem cl_new : cl_is sC0 x_0 := by
  refine ⟨⟨⟨rfl, rfl, rfl⟩, fun p hp => absurd hp (Nat.not_lt_zero p)⟩, ⟨rfl, fun i x hx => (noat hx).elim⟩, ⟨rfl, fun i x hx => (noat hx).elim⟩, fun k hk => ⟨fun _ => ?_, fun w hw => by cases hw⟩, rfl, rfl, fun k hk => ⟨fun _ => ?_, fun w hw => by cases hw⟩⟩
  · rcases (show k = 0 ∨ k = 1 by omega) with rfl | rfl <;> rfl
  · rcases (show k = 0 ∨ k = 1 ∨ k = 2 ∨ k = 3 by omega) with rfl | rfl | rfl | rfl <;> rfl
/-- one cell's world, cut out -/
theorem lx_one {D : va_G} {A : Nat → Prop} {ws : va_W} {x : Nat × va_E} {H H0 : Heap} {locs : List Loc} (hP : va_P D vwCl (ws ++ [x]) H) (hD : va_D A (ws ++ [x])) (hS : va_S A H0 H locs) (hA : ∀ q, H0.size ≤ q → A q) : va_P D vwCl [x] H ∧ va_D (fun _ => True) [x] ∧ ∀ z, va_A [x] H.size z → A z := by
  have hx0 : (ws ++ [x])[ws.length]? = some x := by rw [List.getElem?_append_right (Nat.le_refl _), Nat.sub_self]; rfl
  refine ⟨fun k z hk => ?_, ⟨fun i j a b hi hj _ => ?_, fun _ _ _ => trivial⟩, fun z hz => ?_⟩
  · have hk0 : k < 1 := (List.getElem?_eq_some_iff.mp hk).1
    have hk1 : k = 0 := by omega
    subst hk1
    cases hk
    exact hP _ _ hx0
  · have hi0 : i < 1 := (List.getElem?_eq_some_iff.mp hi).1
    have hj0 : j < 1 := (List.getElem?_eq_some_iff.mp hj).1
    omega
  · rcases hz with ⟨i, e, hi⟩ | hz
    · have hi0 : i < 1 := (List.getElem?_eq_some_iff.mp hi).1
      have hi1 : i = 0 := by omega
      subst hi1
      have e1 : x = (z, e) := Option.some.inj hi
      have h2 := hD.2 _ _ hx0
      rw [e1] at h2
      exact h2
    · exact hA z (Nat.le_trans hS.1 hz)
set_option maxHeartbeats 4000000 in
set_option maxRecDepth 100000 in
theorem whole_start {p : Program} {e : Env} {s : State} {m : MethodId} {below : List Frame} {meth : Method} {c : Code} (l : Launch) {b L : Nat} {xs : Nat → Int32} (hL : L ≤ 3072) (C0 : lw_At p s m meth c b L xs) : W p l e room_1 s m #[Value.ref b] below meth c s.heap [] 0 0 (lw_Z below #[Value.ref b] s) (entryFrame m ([Value.ref b] : List Value).toArray 4) := by
  obtain ⟨hx, hb, hr, hml, hown, hts, hX, hbl, hlocks, hgv⟩ := id C0
  obtain ⟨D, cA, hK⟩ := lz_K hts
  obtain ⟨q0, hN⟩ := lz_nw hts hgv
  have hcx : cx_n s := ⟨va_Nw.of rfl (hts (.methodLinkNest RX5 9 yX0_init RX5) (tb1 (List.mem_of_getElem? (i := 25) rfl))), va_Nw.of rfl (hts (.methodLinkNest RX5 18 yX2_init RX5) (tb1 (List.mem_of_getElem? (i := 63) rfl))), va_Nw.of rfl (hts (.methodLinkNest RX5 42 yX4_init RX5) (tb1 (List.mem_of_getElem? (i := 82) rfl))), va_Nw.of rfl (hts (.methodLinkNest RX5 59 yX1_init RX5) (tb1 (List.mem_of_getElem? (i := 124) rfl))), va_Nw.of rfl (hts (.methodLinkNest RX5 60 yX3_init RX5) (tb1 (List.mem_of_getElem? (i := 145) rfl))), va_Nw.of rfl (hts (.methodLinkNest RX1 9 yX0_init RX5) (tb1 (List.mem_of_getElem? (i := 129) rfl))), va_Nw.of rfl (hts (.methodLinkNest RX1 18 yX2_init RX5) (tb1 (List.mem_of_getElem? (i := 131) rfl))), va_Nw.of rfl (hts (.methodLinkNest RX4 17 yX0_init RX5) (tb1 (List.mem_of_getElem? (i := 87) rfl))), va_AO.of (hts (.arrayOver (.object "ParrotHeirs$Image")) (tb1 (List.mem_of_getElem? (i := 120) rfl))), va_AO.of (hts (.arrayOver (.object "ParrotHeirs$Sheet")) (tb1 (List.mem_of_getElem? (i := 122) rfl)))⟩
  have hS : va_S (lx_A s) s.heap s.heap [] := va_S.rf
  have hP : va_P D vwCl [] s.heap := fun k q h => by simp at h
  have hD : va_D (lx_A s) [] := ⟨fun i j p q h => by simp at h, fun k q h => by simp at h⟩
  have hl := lv_entry ([.ref b]) (n := 4) (Nat.le_of_ble_eq_true rfl)
  rw [lg_entry_eq]
  generalize (lg_sl ([.ref b]) ++ List.replicate (4 - (lg_sl ([.ref b])).length) Slot.unset).toArray = ls at hl ⊢
  have hl : lv_has ls 4 [(0, .ref b)] := hl
  refine va_new (ci := 5) (fs := [.null, .null, .null, .null, .null, .null, .null, .null, .null, .null, .int 0, .int 0, .int 0]) (C := RX5) (T := TX5) (N := 13) hx hb hts wlFX5 tyX5 tyX5_ok hown (hts (.classLink R_law 7 RX5) (tb1 (List.mem_of_getElem? (i := 15) rfl))) (hts (.instantiable RX5 13) (tb1 (List.mem_of_getElem? (i := 16) rfl))) (hts (.initialized RX5) (tb1 (List.mem_of_getElem? (i := 1) rfl))) hK hP hD hS (lx_hA s) rfl (fun j hj => dfX5 j hj) (Nat.le_of_ble_eq_true rfl) (Nat.le_of_ble_eq_true rfl) dL_law_0 (fun hq H hP hD hS => ?_)
  refine W.widen (k := 1) (n := 13) (by omega) (by omega) ?_
  refine lv_dup hx hb dL_law_3 rfl ?_
  obtain ⟨hPc, hDc, hFc⟩ := lx_one hP hD hS (lx_hA s)
  refine va_callv (va_runI (As := []) (rest := [.ref hq]) ⟨hx, hb, hml, hown, hts⟩ (cX5_ok l D cA q0 hq H.size) (cwI 0 hts (g1L wgC wlC (wdC_6_in _ (List.mem_of_getElem? (i := 6) rfl))) rfl rfl rfl (hts (.initialized RX5) (tb1 (List.mem_of_getElem? (i := 1) rfl))) (hts (.methodLink R_law 9 yX5_init) (tb1 (List.mem_of_getElem? (i := 17) rfl))) (hts (.instanceMethod yX5_init) (tb1 (List.mem_of_getElem? (i := 18) rfl))) rfl (by decide +kernel) ⟨Nat.le_of_ble_eq_true rfl, Nat.le_of_ble_eq_true rfl⟩) ⟨cx_blind, fun U hU hW => ⟨rfl, by rw [hU], by rw [hU]; exact hPc, ⟨va_K.moved hW.alike hK, hcx.moved hW⟩, hDc⟩⟩ rfl rfl hl.1 rfl (lv_room (Nat.le_of_ble_eq_true rfl)) dL_law_4 ⟨Nat.le_of_ble_eq_true rfl, Nat.le_of_ble_eq_true rfl⟩) hS (fun x _ h => hFc x h) hFc (fun u t H1 locs1 ht hvm _ hB hz1 hk1 hS => ?_)
  obtain ⟨q, hq0, hq1, hP1, hD1⟩ := hB
  rw [ht] at hP1
  obtain ⟨hP, hD⟩ := cx_join hP hD hk1 hFc hP1 hD1
  have hP : va_P D vwCl (px_w dC cA q sC0) H1 := hP
  have hD : va_D (lx_A s) (px_w dC cA q sC0) := hD
  refine W.widen (k := 57) (n := 995) (by omega) (by omega) ?_
  refine lv_astore_n (lv' := [(1, .ref hq), (0, .ref b)]) hx hb dL_law_7 rfl hl (by decide) rfl (fun ls hl => ?_)
  refine va_new (ci := 6) (fs := [.null, .null, .null, .null, .int 0, .null, .int 0, .int 0, .int 0, .int 0, .int 0, .int 0, .int 0, .int 0, .int 0, .long 0, .long 0, .long 0, .null, .null, .null, .null, .null, .int 0, .null]) (C := RX6) (T := TX6) (N := 25) hx hb hts wlFX6 tyX6 tyX6_ok hown (hts (.classLink R_law 10 RX6) (tb3 (List.mem_of_getElem? (i := 186) rfl))) (hts (.instantiable RX6 25) (tb3 (List.mem_of_getElem? (i := 187) rfl))) (hts (.initialized RX6) (tb1 (List.mem_of_getElem? (i := 7) rfl))) hK hP hD hS (lx_hA s) rfl (fun j hj => dfX6 j hj) (Nat.le_of_ble_eq_true rfl) (Nat.le_of_ble_eq_true rfl) dL_law_8 (fun hr2 H2 hP hD hS => ?_)
  refine W.widen (k := 58) (n := 1020) (by omega) (by omega) ?_
  refine lv_dup hx hb dL_law_11 rfl ?_
  obtain ⟨hPc, hDc, hFc⟩ := lx_one hP hD hS (lx_hA s)
  refine va_callv (va_runI (As := []) (rest := [.ref hr2]) ⟨hx, hb, hml, hown, hts⟩ (cX6_ok l D cA q0 hr2 H2.size) (cwI 0 hts (g1L wgM wlM (wdM_0_in _ (List.mem_of_getElem? (i := 26) rfl))) rfl rfl rfl (hts (.initialized RX6) (tb1 (List.mem_of_getElem? (i := 7) rfl))) (hts (.methodLink R_law 12 yX6_init) (tb3 (List.mem_of_getElem? (i := 188) rfl))) (hts (.instanceMethod yX6_init) (tb3 (List.mem_of_getElem? (i := 189) rfl))) rfl (by decide +kernel) ⟨Nat.le_of_ble_eq_true rfl, Nat.le_of_ble_eq_true rfl⟩) ⟨cM_blind, fun U hU hW => ⟨rfl, by rw [hU], by rw [hU]; exact hPc, ⟨va_K.moved hW.alike hK, hN.moved hW hU hS hFc⟩, hDc⟩⟩ rfl rfl hl.1 rfl (lv_room (Nat.le_of_ble_eq_true rfl)) dL_law_12 ⟨Nat.le_of_ble_eq_true rfl, Nat.le_of_ble_eq_true rfl⟩) hS (fun x _ h => hFc x h) hFc (fun u t H3 locs3 ht hvm _ hB hz1 hk1 hS => ?_)
  obtain ⟨r, τ, hr0, hr1, hmo, hP1, hD1⟩ := hB
  rw [ht] at hP1
  obtain ⟨hP, hD⟩ := cx_join hP hD hk1 hFc hP1 hD1
  refine W.widen (k := 69) (n := 1947) (by omega) (by omega) ?_
  refine lv_astore_n (lv' := [(2, .ref hr2), (1, .ref hq), (0, .ref b)]) hx hb dL_law_15 rfl hl (by decide) rfl (fun ls hl => ?_)
  refine lv_iconst (v := 0) hx hb dL_law_16 (by decide) ?_
  refine lv_istore_n (lv' := [(3, .int 0), (2, .ref hr2), (1, .ref hq), (0, .ref b)]) hx hb dL_law_17 rfl hl (by decide) rfl (fun ls hl => ?_)
  have hlen : (px_w dC cA q sC0).length = 57 := by unfold px_w; rw [List.length_map, List.length_range]; rfl
  have aC : ∀ k x, (px_w dC cA q sC0)[k]? = some x → (px_w dC cA q sC0 ++ px_w dM cA r τ)[k]? = some x := fun k x h => by
    rw [List.getElem?_append_left (List.getElem?_eq_some_iff.mp h).1]; exact h
  have aM : ∀ k x, (px_w dM cA r τ)[k]? = some x → (px_w dC cA q sC0 ++ px_w dM cA r τ)[57 + k]? = some x := fun k x h => by
    rw [List.getElem?_append_right (by omega), hlen, show 57 + k - 57 = k by omega]; exact h
  have hPC : va_P D vwCl (px_w dC cA q sC0) H3 := fun k x h => hP k x (aC k x h)
  have hPM : va_P D vwCl (px_w dM cA r τ) H3 := fun k x h => hP _ x (aM k x h)
  have hDC : va_D (lx_A s) (px_w dC cA q sC0) := ⟨fun i j a b hi hj hab => hD.1 i j a b (aC i a hi) (aC j b hj) hab, fun k x h => hD.2 k x (aC k x h)⟩
  have hDM : va_D (lx_A s) (px_w dM cA r τ) := ⟨fun i j a b hi hj hab => by have := hD.1 _ _ a b (aM i a hi) (aM j b hj) hab; omega, fun k x h => hD.2 _ x (aM k x h)⟩
  have hdis : ∀ i j, i < 57 → j < 12 → q i ≠ r j := fun i j hi hj hij => by
    have := hD.1 i (57 + j) _ _ (aC i _ (px_w_get (d := dC) hi)) (aM j _ (px_w_get (d := dM) hj)) hij
    omega
  have E : lx_C p s m meth c b L xs D cA q r := ⟨C0, hL, ⟨hK, hN.cg hq1, hN.cg hr1⟩, ⟨hDC, px_D_any hDM⟩, hdis⟩
  have hl : lv_has ls 4 (lx_lv b 0 q r) := by
    show lv_has ls 4 [(3, .int (nI 0)), (2, .ref (r 0)), (1, .ref (q 0)), (0, .ref b)]
    rw [hq0, hr0]; exact hl
  exact lx_loop E L 0 x_0 H3 locs3 ls (by omega) (by omega) hl ⟨sC0, τ, cl_new, hmo, xo_0, hPC, hPM, hS⟩
