/-! ===== the constructors of the class's nested classes ===== -/
theorem g1C {w0 c0 : Cond} (h : w0 ∈ wdC) : GoodIn (c0 :: wdC) (w0 :: wdC) := fun w hw => by
  have h1 : w ∈ wdC := by
    rcases List.mem_cons.mp hw with r | r
    · rw [r]; exact h
    · exact r
  exact ⟨List.mem_cons_of_mem _ h1, wgC w h1⟩
theorem cx_at1 {x a : Nat × va_E} {W r : va_W} : (x :: (W ++ a :: r))[W.length + 1]? = some a := by simp
theorem cx_at3 {x y z a : Nat × va_E} {W r : va_W} : (x :: y :: z :: (W ++ a :: r))[W.length + 3]? = some a := by simp
theorem dX0_init_0 : decode cX0_init 0 = .ok (.aload_n 0, 1) := by decide +kernel
theorem dX0_init_1 : decode cX0_init 1 = .ok (.invokespecial 3, 3) := by decide +kernel
theorem dX0_init_4 : decode cX0_init 4 = .ok (.aload_n 0, 1) := by decide +kernel
theorem dX0_init_5 : decode cX0_init 5 = .ok (.iconst 1, 1) := by decide +kernel
theorem dX0_init_6 : decode cX0_init 6 = .ok (.putfield 9, 3) := by decide +kernel
theorem dX0_init_9 : decode cX0_init 9 = .ok (.aload_n 0, 1) := by decide +kernel
theorem dX0_init_10 : decode cX0_init 10 = .ok (.iconst 5, 1) := by decide +kernel
theorem dX0_init_11 : decode cX0_init 11 = .ok (.newarray .int, 2) := by decide +kernel
theorem dX0_init_13 : decode cX0_init 13 = .ok (.putfield 15, 3) := by decide +kernel
theorem dX0_init_16 : decode cX0_init 16 = .ok (.aload_n 0, 1) := by decide +kernel
theorem dX0_init_17 : decode cX0_init 17 = .ok (.iconst 5, 1) := by decide +kernel
theorem dX0_init_18 : decode cX0_init 18 = .ok (.newarray .int, 2) := by decide +kernel
theorem dX0_init_20 : decode cX0_init 20 = .ok (.putfield 19, 3) := by decide +kernel
theorem dX0_init_23 : decode cX0_init 23 = .ok (.aload_n 0, 1) := by decide +kernel
theorem dX0_init_24 : decode cX0_init 24 = .ok (.iconst 5, 1) := by decide +kernel
theorem dX0_init_25 : decode cX0_init 25 = .ok (.newarray .int, 2) := by decide +kernel
theorem dX0_init_27 : decode cX0_init 27 = .ok (.putfield 22, 3) := by decide +kernel
theorem dX0_init_30 : decode cX0_init 30 = .ok (.aload_n 0, 1) := by decide +kernel
theorem dX0_init_31 : decode cX0_init 31 = .ok (.bipush 30, 2) := by decide +kernel
theorem dX0_init_33 : decode cX0_init 33 = .ok (.newarray .int, 2) := by decide +kernel
theorem dX0_init_35 : decode cX0_init 35 = .ok (.putfield 25, 3) := by decide +kernel
theorem dX0_init_38 : decode cX0_init 38 = .ok (.return_, 1) := by decide +kernel
def wX0 (cA : Nat → ClassId) (h : Nat) (u : Nat × Nat × Nat × Nat) : va_W := [(h, .inr (0, [.int 0, .int 1, .int 0, .ref u.1, .ref u.2.1, .ref u.2.2.1, .ref u.2.2.2])), (u.1, .inl (cA 0, 5, .inl (fun _ => 0))), (u.2.1, .inl (cA 0, 5, .inl (fun _ => 0))), (u.2.2.1, .inl (cA 0, 5, .inl (fun _ => 0))), (u.2.2.2, .inl (cA 0, 30, .inl (fun _ => 0)))]
theorem dfX0 : ∀ j, j < 7 → defaultValue (tyX0 j) = vp_V [.int 0, .int 0, .int 0, .null, .null, .null, .null] j := by
  intro j hj
  rcases (show j = 0 ∨ j = 1 ∨ j = 2 ∨ j = 3 ∨ j = 4 ∨ j = 5 ∨ j = 6 by omega) with rfl | rfl | rfl | rfl | rfl | rfl | rfl <;> rfl
set_option maxHeartbeats 4000000 in
set_option maxRecDepth 100000 in
theorem cX0_ok : cx_Met yX0_init (Cond.code yX0_init cX0_init 1 none :: wdC) ({ frames := 1, cells := 4, slots := 45, locals := 12 }) 0 [.int 0, .int 0, .int 0, .null, .null, .null, .null] wX0 4 45 := by
  intro l D cA h0 sz
  refine Met.ofW (cc := cX0_init) (maxL := 1) (ret := none) (by decide) rfl ?_
  intro p e s m args below meth c s₁ B hml hv
  obtain ⟨rfl, hsz, hP, hKN, hD0⟩ := hv
  obtain ⟨hK, hN⟩ := id hKN
  have hx := B.exec
  have hb := B.bytes
  have hr := B.returns
  have hts := atoms_spec (ws := Cond.code yX0_init cX0_init 1 none :: wdC) B.pre
  have hown : s.vm.findClass RX0 = some m.cls := findClass_of_methodNamed B.named
  have hin : meth.name = "<init>" := (name_of_methodNamed B.named B.method).1
  subst hsz
  have hD := hD0.self (sz := s.heap.size)
  generalize hAe : va_A [(h0, .inr (0, [.int 0, .int 0, .int 0, .null, .null, .null, .null]))] s.heap.size = A at hD ⊢
  have hA : ∀ q : Nat, s.heap.size ≤ q → A q := fun q h => by rw [← hAe]; exact Or.inr h
  have hS : va_S A s.heap s.heap [] := va_S.rf
  have hl := lv_entry ([.ref h0]) (n := 1) (Nat.le_of_ble_eq_true rfl)
  rw [lg_entry_eq]
  generalize (lg_sl ([.ref h0]) ++ List.replicate (1 - (lg_sl ([.ref h0])).length) Slot.unset).toArray = ls at hl ⊢
  have hl : lv_has ls 1 [(0, .ref h0)] := hl
  obtain ⟨W0, hW0⟩ : ∃ W0 : va_W, W0 = [] := ⟨_, rfl⟩
  have hP : va_P D vwCl ((h0, .inr (0, [.int 0, .int 0, .int 0, .null, .null, .null, .null])) :: W0) s.heap := by rw [hW0]; exact hP
  have hD : va_D A ((h0, .inr (0, [.int 0, .int 0, .int 0, .null, .null, .null, .null])) :: W0) := by rw [hW0]; exact hD
  refine lv_aload_n hx hb dX0_init_0 rfl (lv_at hl 0 rfl) ?_
  refine W.objInit hx hb hown (hts (Cond.methodLink RX0 3 objectInit) (List.mem_cons_of_mem _ (wdC_0_in _ (List.mem_of_getElem? (i := 1) rfl)))) (hts (Cond.instanceMethod objectInit) (List.mem_cons_of_mem _ (wdC_0_in _ (List.mem_of_getElem? (i := 2) rfl)))) (hts (Cond.code objectInit ⟨#[0xb1]⟩ 1 none) (List.mem_cons_of_mem _ (wdC_0_in _ (List.mem_of_getElem? (i := 3) rfl)))) rfl (by rw [hml]; exact hl.1) rfl dX0_init_1 (Nat.le_of_ble_eq_true rfl) (Nat.le_of_ble_eq_true rfl) ?_
  refine W.eq (g2 := F0 m 4 ls []) rfl ?_
  refine lv_aload_n hx hb dX0_init_4 rfl (lv_at hl 0 rfl) ?_
  refine lv_iconst (v := 1) hx hb dX0_init_5 (by decide) ?_
  refine va_put (D := D) (ci := 0) (v := .int 1) (ty := .int) (C := RX0) (T := TX0) (N := 7) hx hb hts (fun w h => List.mem_cons_of_mem _ (wiX0 w h)) tyX0 tyX0_ok nmX0 hown hK hP hD hS 0 rfl rfl 1 (by decide) (hts (Cond.fieldLink RX0 9 "ParrotHeirs$Aviary" "ear" "I") (List.mem_cons_of_mem _ (wdC_0_in _ (List.mem_of_getElem? (i := 4) rfl)))) (fun _ h9 => h9) rfl (by decide +kernel) rfl rfl (Nat.le_of_ble_eq_true rfl) dX0_init_6 (fun H locs hP hD hS => ?_)
  have hP : va_P D vwCl ((h0, .inr (0, [.int 0, .int 1, .int 0, .null, .null, .null, .null])) :: W0) H := hP
  have hD : va_D A ((h0, .inr (0, [.int 0, .int 1, .int 0, .null, .null, .null, .null])) :: W0) := hD
  refine lv_aload_n hx hb dX0_init_9 rfl (lv_at hl 0 rfl) ?_
  refine lv_iconst (v := 5) hx hb dX0_init_10 (by decide) ?_
  refine cx_newa (D := D) (cA := cA) hx hb (hts (Cond.arrayClass .int) (List.mem_cons_of_mem _ (wdC_0_in _ (List.mem_of_getElem? (i := 5) rfl)))) rfl hK 0 rfl hP hD hS hA 5 (fun _ => rfl) (by decide) (by decide) (by decide) (Nat.le_of_ble_eq_true rfl) (Nat.le_of_ble_eq_true rfl) dX0_init_11 (fun q11 H hP hD hS => ?_)
  obtain ⟨W1, hW1⟩ : ∃ W1, W1 = W0 ++ [(q11, .inl (cA 0, 5, .inl (fun _ => 0)))] := ⟨_, rfl⟩
  have hP : va_P D vwCl ((h0, .inr (0, [.int 0, .int 1, .int 0, .null, .null, .null, .null])) :: W1) H := by rw [hW1]; exact hP
  have hD : va_D A ((h0, .inr (0, [.int 0, .int 1, .int 0, .null, .null, .null, .null])) :: W1) := by rw [hW1]; exact hD
  refine W.widen (k := 1) (n := 5) (by omega) (by omega) ?_
  refine va_putF (D := D) (ci := 0) (v := .ref q11) (ty := .array .int) (C := RX0) (T := TX0) (N := 7) hx hb hts (fun w h => List.mem_cons_of_mem _ (wiX0 w h)) tyX0 tyX0_ok nmX0 hown hK hP hD hS 0 rfl rfl 3 (by decide) (hts (Cond.fieldLink RX0 15 "ParrotHeirs$Aviary" "kind" "[I") (List.mem_cons_of_mem _ (wdC_0_in _ (List.mem_of_getElem? (i := 6) rfl)))) (fun _ h9 => h9) rfl hin rfl (by decide +kernel) rfl rfl (Nat.le_of_ble_eq_true rfl) dX0_init_13 (fun H locs hP hD hS => ?_)
  have hP : va_P D vwCl ((h0, .inr (0, [.int 0, .int 1, .int 0, .ref q11, .null, .null, .null])) :: W1) H := hP
  have hD : va_D A ((h0, .inr (0, [.int 0, .int 1, .int 0, .ref q11, .null, .null, .null])) :: W1) := hD
  refine lv_aload_n hx hb dX0_init_16 rfl (lv_at hl 0 rfl) ?_
  refine lv_iconst (v := 5) hx hb dX0_init_17 (by decide) ?_
  refine cx_newa (D := D) (cA := cA) hx hb (hts (Cond.arrayClass .int) (List.mem_cons_of_mem _ (wdC_0_in _ (List.mem_of_getElem? (i := 5) rfl)))) rfl hK 0 rfl hP hD hS hA 5 (fun _ => rfl) (by decide) (by decide) (by decide) (Nat.le_of_ble_eq_true rfl) (Nat.le_of_ble_eq_true rfl) dX0_init_18 (fun q18 H hP hD hS => ?_)
  obtain ⟨W2, hW2⟩ : ∃ W2, W2 = W1 ++ [(q18, .inl (cA 0, 5, .inl (fun _ => 0)))] := ⟨_, rfl⟩
  have hP : va_P D vwCl ((h0, .inr (0, [.int 0, .int 1, .int 0, .ref q11, .null, .null, .null])) :: W2) H := by rw [hW2]; exact hP
  have hD : va_D A ((h0, .inr (0, [.int 0, .int 1, .int 0, .ref q11, .null, .null, .null])) :: W2) := by rw [hW2]; exact hD
  refine W.widen (k := 2) (n := 10) (by omega) (by omega) ?_
  refine va_putF (D := D) (ci := 0) (v := .ref q18) (ty := .array .int) (C := RX0) (T := TX0) (N := 7) hx hb hts (fun w h => List.mem_cons_of_mem _ (wiX0 w h)) tyX0 tyX0_ok nmX0 hown hK hP hD hS 0 rfl rfl 4 (by decide) (hts (Cond.fieldLink RX0 19 "ParrotHeirs$Aviary" "size" "[I") (List.mem_cons_of_mem _ (wdC_0_in _ (List.mem_of_getElem? (i := 7) rfl)))) (fun _ h9 => h9) rfl hin rfl (by decide +kernel) rfl rfl (Nat.le_of_ble_eq_true rfl) dX0_init_20 (fun H locs hP hD hS => ?_)
  have hP : va_P D vwCl ((h0, .inr (0, [.int 0, .int 1, .int 0, .ref q11, .ref q18, .null, .null])) :: W2) H := hP
  have hD : va_D A ((h0, .inr (0, [.int 0, .int 1, .int 0, .ref q11, .ref q18, .null, .null])) :: W2) := hD
  refine lv_aload_n hx hb dX0_init_23 rfl (lv_at hl 0 rfl) ?_
  refine lv_iconst (v := 5) hx hb dX0_init_24 (by decide) ?_
  refine cx_newa (D := D) (cA := cA) hx hb (hts (Cond.arrayClass .int) (List.mem_cons_of_mem _ (wdC_0_in _ (List.mem_of_getElem? (i := 5) rfl)))) rfl hK 0 rfl hP hD hS hA 5 (fun _ => rfl) (by decide) (by decide) (by decide) (Nat.le_of_ble_eq_true rfl) (Nat.le_of_ble_eq_true rfl) dX0_init_25 (fun q25 H hP hD hS => ?_)
  obtain ⟨W3, hW3⟩ : ∃ W3, W3 = W2 ++ [(q25, .inl (cA 0, 5, .inl (fun _ => 0)))] := ⟨_, rfl⟩
  have hP : va_P D vwCl ((h0, .inr (0, [.int 0, .int 1, .int 0, .ref q11, .ref q18, .null, .null])) :: W3) H := by rw [hW3]; exact hP
  have hD : va_D A ((h0, .inr (0, [.int 0, .int 1, .int 0, .ref q11, .ref q18, .null, .null])) :: W3) := by rw [hW3]; exact hD
  refine W.widen (k := 3) (n := 15) (by omega) (by omega) ?_
  refine va_putF (D := D) (ci := 0) (v := .ref q25) (ty := .array .int) (C := RX0) (T := TX0) (N := 7) hx hb hts (fun w h => List.mem_cons_of_mem _ (wiX0 w h)) tyX0 tyX0_ok nmX0 hown hK hP hD hS 0 rfl rfl 5 (by decide) (hts (Cond.fieldLink RX0 22 "ParrotHeirs$Aviary" "place" "[I") (List.mem_cons_of_mem _ (wdC_0_in _ (List.mem_of_getElem? (i := 8) rfl)))) (fun _ h9 => h9) rfl hin rfl (by decide +kernel) rfl rfl (Nat.le_of_ble_eq_true rfl) dX0_init_27 (fun H locs hP hD hS => ?_)
  have hP : va_P D vwCl ((h0, .inr (0, [.int 0, .int 1, .int 0, .ref q11, .ref q18, .ref q25, .null])) :: W3) H := hP
  have hD : va_D A ((h0, .inr (0, [.int 0, .int 1, .int 0, .ref q11, .ref q18, .ref q25, .null])) :: W3) := hD
  refine lv_aload_n hx hb dX0_init_30 rfl (lv_at hl 0 rfl) ?_
  refine lv_bipush (v := 30) hx hb dX0_init_31 (by decide) ?_
  refine cx_newa (D := D) (cA := cA) hx hb (hts (Cond.arrayClass .int) (List.mem_cons_of_mem _ (wdC_0_in _ (List.mem_of_getElem? (i := 5) rfl)))) rfl hK 0 rfl hP hD hS hA 30 (fun _ => rfl) (by decide) (by decide) (by decide) (Nat.le_of_ble_eq_true rfl) (Nat.le_of_ble_eq_true rfl) dX0_init_33 (fun q33 H hP hD hS => ?_)
  obtain ⟨W4, hW4⟩ : ∃ W4, W4 = W3 ++ [(q33, .inl (cA 0, 30, .inl (fun _ => 0)))] := ⟨_, rfl⟩
  have hP : va_P D vwCl ((h0, .inr (0, [.int 0, .int 1, .int 0, .ref q11, .ref q18, .ref q25, .null])) :: W4) H := by rw [hW4]; exact hP
  have hD : va_D A ((h0, .inr (0, [.int 0, .int 1, .int 0, .ref q11, .ref q18, .ref q25, .null])) :: W4) := by rw [hW4]; exact hD
  refine W.widen (k := 4) (n := 45) (by omega) (by omega) ?_
  refine va_putF (D := D) (ci := 0) (v := .ref q33) (ty := .array .int) (C := RX0) (T := TX0) (N := 7) hx hb hts (fun w h => List.mem_cons_of_mem _ (wiX0 w h)) tyX0 tyX0_ok nmX0 hown hK hP hD hS 0 rfl rfl 6 (by decide) (hts (Cond.fieldLink RX0 25 "ParrotHeirs$Aviary" "memory" "[I") (List.mem_cons_of_mem _ (wdC_0_in _ (List.mem_of_getElem? (i := 9) rfl)))) (fun _ h9 => h9) rfl hin rfl (by decide +kernel) rfl rfl (Nat.le_of_ble_eq_true rfl) dX0_init_35 (fun H locs hP hD hS => ?_)
  have hP : va_P D vwCl ((h0, .inr (0, [.int 0, .int 1, .int 0, .ref q11, .ref q18, .ref q25, .ref q33])) :: W4) H := hP
  have hD : va_D A ((h0, .inr (0, [.int 0, .int 1, .int 0, .ref q11, .ref q18, .ref q25, .ref q33])) :: W4) := hD
  have hP9 : va_P D vwCl (wX0 cA h0 (q11, q18, q25, q33)) H := by rw [hW4, hW3, hW2, hW1, hW0] at hP; exact hP
  have hD9 : va_D A (wX0 cA h0 (q11, q18, q25, q33)) := by rw [hW4, hW3, hW2, hW1, hW0] at hD; exact hD
  exact W.vret hx hb hr (fun t ht hW => ⟨⟨(q11, q18, q25, q33), rfl, trivial, by rw [ht]; exact hP9, hD9⟩, hS.F ht⟩) hS.2.2 dX0_init_38
theorem dX2_init_0 : decode cX2_init 0 = .ok (.aload_n 0, 1) := by decide +kernel
theorem dX2_init_1 : decode cX2_init 1 = .ok (.invokespecial 3, 3) := by decide +kernel
theorem dX2_init_4 : decode cX2_init 4 = .ok (.aload_n 0, 1) := by decide +kernel
theorem dX2_init_5 : decode cX2_init 5 = .ok (.bipush 6, 2) := by decide +kernel
theorem dX2_init_7 : decode cX2_init 7 = .ok (.newarray .int, 2) := by decide +kernel
theorem dX2_init_9 : decode cX2_init 9 = .ok (.putfield 9, 3) := by decide +kernel
theorem dX2_init_12 : decode cX2_init 12 = .ok (.aload_n 0, 1) := by decide +kernel
theorem dX2_init_13 : decode cX2_init 13 = .ok (.bipush 6, 2) := by decide +kernel
theorem dX2_init_15 : decode cX2_init 15 = .ok (.newarray .int, 2) := by decide +kernel
theorem dX2_init_17 : decode cX2_init 17 = .ok (.putfield 15, 3) := by decide +kernel
theorem dX2_init_20 : decode cX2_init 20 = .ok (.return_, 1) := by decide +kernel
def wX2 (cA : Nat → ClassId) (h : Nat) (u : Nat × Nat) : va_W := [(h, .inr (2, [.int 0, .ref u.1, .ref u.2])), (u.1, .inl (cA 0, 6, .inl (fun _ => 0))), (u.2, .inl (cA 0, 6, .inl (fun _ => 0)))]
theorem dfX2 : ∀ j, j < 3 → defaultValue (tyX2 j) = vp_V [.int 0, .null, .null] j := by
  intro j hj
  rcases (show j = 0 ∨ j = 1 ∨ j = 2 by omega) with rfl | rfl | rfl <;> rfl
set_option maxHeartbeats 4000000 in
set_option maxRecDepth 100000 in
theorem cX2_ok : cx_Met yX2_init (Cond.code yX2_init cX2_init 1 none :: wdC) ({ frames := 1, cells := 2, slots := 12, locals := 12 }) 2 [.int 0, .null, .null] wX2 2 12 := by
  intro l D cA h0 sz
  refine Met.ofW (cc := cX2_init) (maxL := 1) (ret := none) (by decide) rfl ?_
  intro p e s m args below meth c s₁ B hml hv
  obtain ⟨rfl, hsz, hP, hKN, hD0⟩ := hv
  obtain ⟨hK, hN⟩ := id hKN
  have hx := B.exec
  have hb := B.bytes
  have hr := B.returns
  have hts := atoms_spec (ws := Cond.code yX2_init cX2_init 1 none :: wdC) B.pre
  have hown : s.vm.findClass RX2 = some m.cls := findClass_of_methodNamed B.named
  have hin : meth.name = "<init>" := (name_of_methodNamed B.named B.method).1
  subst hsz
  have hD := hD0.self (sz := s.heap.size)
  generalize hAe : va_A [(h0, .inr (2, [.int 0, .null, .null]))] s.heap.size = A at hD ⊢
  have hA : ∀ q : Nat, s.heap.size ≤ q → A q := fun q h => by rw [← hAe]; exact Or.inr h
  have hS : va_S A s.heap s.heap [] := va_S.rf
  have hl := lv_entry ([.ref h0]) (n := 1) (Nat.le_of_ble_eq_true rfl)
  rw [lg_entry_eq]
  generalize (lg_sl ([.ref h0]) ++ List.replicate (1 - (lg_sl ([.ref h0])).length) Slot.unset).toArray = ls at hl ⊢
  have hl : lv_has ls 1 [(0, .ref h0)] := hl
  obtain ⟨W0, hW0⟩ : ∃ W0 : va_W, W0 = [] := ⟨_, rfl⟩
  have hP : va_P D vwCl ((h0, .inr (2, [.int 0, .null, .null])) :: W0) s.heap := by rw [hW0]; exact hP
  have hD : va_D A ((h0, .inr (2, [.int 0, .null, .null])) :: W0) := by rw [hW0]; exact hD
  refine lv_aload_n hx hb dX2_init_0 rfl (lv_at hl 0 rfl) ?_
  refine W.objInit hx hb hown (hts (Cond.methodLink RX2 3 objectInit) (List.mem_cons_of_mem _ (wdC_1_in _ (List.mem_of_getElem? (i := 32) rfl)))) (hts (Cond.instanceMethod objectInit) (List.mem_cons_of_mem _ (wdC_0_in _ (List.mem_of_getElem? (i := 2) rfl)))) (hts (Cond.code objectInit ⟨#[0xb1]⟩ 1 none) (List.mem_cons_of_mem _ (wdC_0_in _ (List.mem_of_getElem? (i := 3) rfl)))) rfl (by rw [hml]; exact hl.1) rfl dX2_init_1 (Nat.le_of_ble_eq_true rfl) (Nat.le_of_ble_eq_true rfl) ?_
  refine W.eq (g2 := F0 m 4 ls []) rfl ?_
  refine lv_aload_n hx hb dX2_init_4 rfl (lv_at hl 0 rfl) ?_
  refine lv_bipush (v := 6) hx hb dX2_init_5 (by decide) ?_
  refine cx_newa (D := D) (cA := cA) hx hb (hts (Cond.arrayClass .int) (List.mem_cons_of_mem _ (wdC_0_in _ (List.mem_of_getElem? (i := 5) rfl)))) rfl hK 0 rfl hP hD hS hA 6 (fun _ => rfl) (by decide) (by decide) (by decide) (Nat.le_of_ble_eq_true rfl) (Nat.le_of_ble_eq_true rfl) dX2_init_7 (fun q7 H hP hD hS => ?_)
  obtain ⟨W1, hW1⟩ : ∃ W1, W1 = W0 ++ [(q7, .inl (cA 0, 6, .inl (fun _ => 0)))] := ⟨_, rfl⟩
  have hP : va_P D vwCl ((h0, .inr (2, [.int 0, .null, .null])) :: W1) H := by rw [hW1]; exact hP
  have hD : va_D A ((h0, .inr (2, [.int 0, .null, .null])) :: W1) := by rw [hW1]; exact hD
  refine W.widen (k := 1) (n := 6) (by omega) (by omega) ?_
  refine va_putF (D := D) (ci := 2) (v := .ref q7) (ty := .array .int) (C := RX2) (T := TX2) (N := 3) hx hb hts (fun w h => List.mem_cons_of_mem _ (wiX2 w h)) tyX2 tyX2_ok nmX2 hown hK hP hD hS 0 rfl rfl 1 (by decide) (hts (Cond.fieldLink RX2 9 "ParrotHeirs$Seen" "day" "[I") (List.mem_cons_of_mem _ (wdC_1_in _ (List.mem_of_getElem? (i := 33) rfl)))) (fun _ h9 => h9) rfl hin rfl (by decide +kernel) rfl rfl (Nat.le_of_ble_eq_true rfl) dX2_init_9 (fun H locs hP hD hS => ?_)
  have hP : va_P D vwCl ((h0, .inr (2, [.int 0, .ref q7, .null])) :: W1) H := hP
  have hD : va_D A ((h0, .inr (2, [.int 0, .ref q7, .null])) :: W1) := hD
  refine lv_aload_n hx hb dX2_init_12 rfl (lv_at hl 0 rfl) ?_
  refine lv_bipush (v := 6) hx hb dX2_init_13 (by decide) ?_
  refine cx_newa (D := D) (cA := cA) hx hb (hts (Cond.arrayClass .int) (List.mem_cons_of_mem _ (wdC_0_in _ (List.mem_of_getElem? (i := 5) rfl)))) rfl hK 0 rfl hP hD hS hA 6 (fun _ => rfl) (by decide) (by decide) (by decide) (Nat.le_of_ble_eq_true rfl) (Nat.le_of_ble_eq_true rfl) dX2_init_15 (fun q15 H hP hD hS => ?_)
  obtain ⟨W2, hW2⟩ : ∃ W2, W2 = W1 ++ [(q15, .inl (cA 0, 6, .inl (fun _ => 0)))] := ⟨_, rfl⟩
  have hP : va_P D vwCl ((h0, .inr (2, [.int 0, .ref q7, .null])) :: W2) H := by rw [hW2]; exact hP
  have hD : va_D A ((h0, .inr (2, [.int 0, .ref q7, .null])) :: W2) := by rw [hW2]; exact hD
  refine W.widen (k := 2) (n := 12) (by omega) (by omega) ?_
  refine va_putF (D := D) (ci := 2) (v := .ref q15) (ty := .array .int) (C := RX2) (T := TX2) (N := 3) hx hb hts (fun w h => List.mem_cons_of_mem _ (wiX2 w h)) tyX2 tyX2_ok nmX2 hown hK hP hD hS 0 rfl rfl 2 (by decide) (hts (Cond.fieldLink RX2 15 "ParrotHeirs$Seen" "sound" "[I") (List.mem_cons_of_mem _ (wdC_1_in _ (List.mem_of_getElem? (i := 34) rfl)))) (fun _ h9 => h9) rfl hin rfl (by decide +kernel) rfl rfl (Nat.le_of_ble_eq_true rfl) dX2_init_17 (fun H locs hP hD hS => ?_)
  have hP : va_P D vwCl ((h0, .inr (2, [.int 0, .ref q7, .ref q15])) :: W2) H := hP
  have hD : va_D A ((h0, .inr (2, [.int 0, .ref q7, .ref q15])) :: W2) := hD
  have hP9 : va_P D vwCl (wX2 cA h0 (q7, q15)) H := by rw [hW2, hW1, hW0] at hP; exact hP
  have hD9 : va_D A (wX2 cA h0 (q7, q15)) := by rw [hW2, hW1, hW0] at hD; exact hD
  exact W.vret hx hb hr (fun t ht hW => ⟨⟨(q7, q15), rfl, trivial, by rw [ht]; exact hP9, hD9⟩, hS.F ht⟩) hS.2.2 dX2_init_20
theorem dX3_init_0 : decode cX3_init 0 = .ok (.aload_n 0, 1) := by decide +kernel
theorem dX3_init_1 : decode cX3_init 1 = .ok (.invokespecial 3, 3) := by decide +kernel
theorem dX3_init_4 : decode cX3_init 4 = .ok (.aload_n 0, 1) := by decide +kernel
theorem dX3_init_5 : decode cX3_init 5 = .ok (.iconst (-1), 1) := by decide +kernel
theorem dX3_init_6 : decode cX3_init 6 = .ok (.putfield 11, 3) := by decide +kernel
theorem dX3_init_9 : decode cX3_init 9 = .ok (.aload_n 0, 1) := by decide +kernel
theorem dX3_init_10 : decode cX3_init 10 = .ok (.bipush 40, 2) := by decide +kernel
theorem dX3_init_12 : decode cX3_init 12 = .ok (.newarray .int, 2) := by decide +kernel
theorem dX3_init_14 : decode cX3_init 14 = .ok (.putfield 15, 3) := by decide +kernel
theorem dX3_init_17 : decode cX3_init 17 = .ok (.return_, 1) := by decide +kernel
def wX3 (cA : Nat → ClassId) (h : Nat) (u : Nat) : va_W := [(h, .inr (3, [.int (-1), .int 0, .ref u])), (u, .inl (cA 0, 40, .inl (fun _ => 0)))]
theorem dfX3 : ∀ j, j < 3 → defaultValue (tyX3 j) = vp_V [.int 0, .int 0, .null] j := by
  intro j hj
  rcases (show j = 0 ∨ j = 1 ∨ j = 2 by omega) with rfl | rfl | rfl <;> rfl
set_option maxHeartbeats 4000000 in
set_option maxRecDepth 100000 in
theorem cX3_ok : cx_Met yX3_init (Cond.code yX3_init cX3_init 1 none :: wdC) ({ frames := 1, cells := 1, slots := 40, locals := 12 }) 3 [.int 0, .int 0, .null] wX3 1 40 := by
  intro l D cA h0 sz
  refine Met.ofW (cc := cX3_init) (maxL := 1) (ret := none) (by decide) rfl ?_
  intro p e s m args below meth c s₁ B hml hv
  obtain ⟨rfl, hsz, hP, hKN, hD0⟩ := hv
  obtain ⟨hK, hN⟩ := id hKN
  have hx := B.exec
  have hb := B.bytes
  have hr := B.returns
  have hts := atoms_spec (ws := Cond.code yX3_init cX3_init 1 none :: wdC) B.pre
  have hown : s.vm.findClass RX3 = some m.cls := findClass_of_methodNamed B.named
  have hin : meth.name = "<init>" := (name_of_methodNamed B.named B.method).1
  subst hsz
  have hD := hD0.self (sz := s.heap.size)
  generalize hAe : va_A [(h0, .inr (3, [.int 0, .int 0, .null]))] s.heap.size = A at hD ⊢
  have hA : ∀ q : Nat, s.heap.size ≤ q → A q := fun q h => by rw [← hAe]; exact Or.inr h
  have hS : va_S A s.heap s.heap [] := va_S.rf
  have hl := lv_entry ([.ref h0]) (n := 1) (Nat.le_of_ble_eq_true rfl)
  rw [lg_entry_eq]
  generalize (lg_sl ([.ref h0]) ++ List.replicate (1 - (lg_sl ([.ref h0])).length) Slot.unset).toArray = ls at hl ⊢
  have hl : lv_has ls 1 [(0, .ref h0)] := hl
  obtain ⟨W0, hW0⟩ : ∃ W0 : va_W, W0 = [] := ⟨_, rfl⟩
  have hP : va_P D vwCl ((h0, .inr (3, [.int 0, .int 0, .null])) :: W0) s.heap := by rw [hW0]; exact hP
  have hD : va_D A ((h0, .inr (3, [.int 0, .int 0, .null])) :: W0) := by rw [hW0]; exact hD
  refine lv_aload_n hx hb dX3_init_0 rfl (lv_at hl 0 rfl) ?_
  refine W.objInit hx hb hown (hts (Cond.methodLink RX3 3 objectInit) (List.mem_cons_of_mem _ (wdC_2_in _ (List.mem_of_getElem? (i := 9) rfl)))) (hts (Cond.instanceMethod objectInit) (List.mem_cons_of_mem _ (wdC_0_in _ (List.mem_of_getElem? (i := 2) rfl)))) (hts (Cond.code objectInit ⟨#[0xb1]⟩ 1 none) (List.mem_cons_of_mem _ (wdC_0_in _ (List.mem_of_getElem? (i := 3) rfl)))) rfl (by rw [hml]; exact hl.1) rfl dX3_init_1 (Nat.le_of_ble_eq_true rfl) (Nat.le_of_ble_eq_true rfl) ?_
  refine W.eq (g2 := F0 m 4 ls []) rfl ?_
  refine lv_aload_n hx hb dX3_init_4 rfl (lv_at hl 0 rfl) ?_
  refine lv_iconst (v := (-1)) hx hb dX3_init_5 (by decide) ?_
  refine va_put (D := D) (ci := 3) (v := .int (-1)) (ty := .int) (C := RX3) (T := TX3) (N := 3) hx hb hts (fun w h => List.mem_cons_of_mem _ (wiX3 w h)) tyX3 tyX3_ok nmX3 hown hK hP hD hS 0 rfl rfl 0 (by decide) (hts (Cond.fieldLink RX3 11 "ParrotHeirs$Sheet" "lane" "I") (List.mem_cons_of_mem _ (wdC_2_in _ (List.mem_of_getElem? (i := 10) rfl)))) (fun _ h9 => h9) rfl (by decide +kernel) rfl rfl (Nat.le_of_ble_eq_true rfl) dX3_init_6 (fun H locs hP hD hS => ?_)
  have hP : va_P D vwCl ((h0, .inr (3, [.int (-1), .int 0, .null])) :: W0) H := hP
  have hD : va_D A ((h0, .inr (3, [.int (-1), .int 0, .null])) :: W0) := hD
  refine lv_aload_n hx hb dX3_init_9 rfl (lv_at hl 0 rfl) ?_
  refine lv_bipush (v := 40) hx hb dX3_init_10 (by decide) ?_
  refine cx_newa (D := D) (cA := cA) hx hb (hts (Cond.arrayClass .int) (List.mem_cons_of_mem _ (wdC_0_in _ (List.mem_of_getElem? (i := 5) rfl)))) rfl hK 0 rfl hP hD hS hA 40 (fun _ => rfl) (by decide) (by decide) (by decide) (Nat.le_of_ble_eq_true rfl) (Nat.le_of_ble_eq_true rfl) dX3_init_12 (fun q12 H hP hD hS => ?_)
  obtain ⟨W1, hW1⟩ : ∃ W1, W1 = W0 ++ [(q12, .inl (cA 0, 40, .inl (fun _ => 0)))] := ⟨_, rfl⟩
  have hP : va_P D vwCl ((h0, .inr (3, [.int (-1), .int 0, .null])) :: W1) H := by rw [hW1]; exact hP
  have hD : va_D A ((h0, .inr (3, [.int (-1), .int 0, .null])) :: W1) := by rw [hW1]; exact hD
  refine W.widen (k := 1) (n := 40) (by omega) (by omega) ?_
  refine va_putF (D := D) (ci := 3) (v := .ref q12) (ty := .array .int) (C := RX3) (T := TX3) (N := 3) hx hb hts (fun w h => List.mem_cons_of_mem _ (wiX3 w h)) tyX3 tyX3_ok nmX3 hown hK hP hD hS 0 rfl rfl 2 (by decide) (hts (Cond.fieldLink RX3 15 "ParrotHeirs$Sheet" "cells" "[I") (List.mem_cons_of_mem _ (wdC_2_in _ (List.mem_of_getElem? (i := 11) rfl)))) (fun _ h9 => h9) rfl hin rfl (by decide +kernel) rfl rfl (Nat.le_of_ble_eq_true rfl) dX3_init_14 (fun H locs hP hD hS => ?_)
  have hP : va_P D vwCl ((h0, .inr (3, [.int (-1), .int 0, .ref q12])) :: W1) H := hP
  have hD : va_D A ((h0, .inr (3, [.int (-1), .int 0, .ref q12])) :: W1) := hD
  have hP9 : va_P D vwCl (wX3 cA h0 q12) H := by rw [hW1, hW0] at hP; exact hP
  have hD9 : va_D A (wX3 cA h0 q12) := by rw [hW1, hW0] at hD; exact hD
  exact W.vret hx hb hr (fun t ht hW => ⟨⟨q12, rfl, trivial, by rw [ht]; exact hP9, hD9⟩, hS.F ht⟩) hS.2.2 dX3_init_17
theorem dX1_init_0 : decode cX1_init 0 = .ok (.aload_n 0, 1) := by decide +kernel
theorem dX1_init_1 : decode cX1_init 1 = .ok (.invokespecial 1, 3) := by decide +kernel
theorem dX1_init_4 : decode cX1_init 4 = .ok (.aload_n 0, 1) := by decide +kernel
theorem dX1_init_5 : decode cX1_init 5 = .ok (.new 7, 3) := by decide +kernel
theorem dX1_init_8 : decode cX1_init 8 = .ok (.dup, 1) := by decide +kernel
theorem dX1_init_9 : decode cX1_init 9 = .ok (.invokespecial 9, 3) := by decide +kernel
theorem dX1_init_12 : decode cX1_init 12 = .ok (.putfield 10, 3) := by decide +kernel
theorem dX1_init_15 : decode cX1_init 15 = .ok (.aload_n 0, 1) := by decide +kernel
theorem dX1_init_16 : decode cX1_init 16 = .ok (.new 16, 3) := by decide +kernel
theorem dX1_init_19 : decode cX1_init 19 = .ok (.dup, 1) := by decide +kernel
theorem dX1_init_20 : decode cX1_init 20 = .ok (.invokespecial 18, 3) := by decide +kernel
theorem dX1_init_23 : decode cX1_init 23 = .ok (.putfield 19, 3) := by decide +kernel
theorem dX1_init_26 : decode cX1_init 26 = .ok (.return_, 1) := by decide +kernel
def wX1 (cA : Nat → ClassId) (h : Nat) (u : Nat × (Nat × Nat × Nat × Nat) × Nat × (Nat × Nat)) : va_W := (h, .inr (1, [.int 0, .ref u.1, .ref u.2.2.1])) :: (wX0 cA u.1 u.2.1 ++ wX2 cA u.2.2.1 u.2.2.2)
theorem dfX1 : ∀ j, j < 3 → defaultValue (tyX1 j) = vp_V [.int 0, .null, .null] j := by
  intro j hj
  rcases (show j = 0 ∨ j = 1 ∨ j = 2 by omega) with rfl | rfl | rfl <;> rfl
set_option maxHeartbeats 4000000 in
set_option maxRecDepth 100000 in
theorem cX1_ok : cx_Met yX1_init (Cond.code yX1_init cX1_init 1 none :: wdC) ({ frames := 2, cells := 8, slots := 67, locals := 32 }) 1 [.int 0, .null, .null] wX1 8 67 := by
  intro l D cA h0 sz
  refine Met.ofW (cc := cX1_init) (maxL := 1) (ret := none) (by decide) rfl ?_
  intro p e s m args below meth c s₁ B hml hv
  obtain ⟨rfl, hsz, hP, hKN, hD0⟩ := hv
  obtain ⟨hK, hN⟩ := id hKN
  have hx := B.exec
  have hb := B.bytes
  have hr := B.returns
  have hts := atoms_spec (ws := Cond.code yX1_init cX1_init 1 none :: wdC) B.pre
  have hown : s.vm.findClass RX1 = some m.cls := findClass_of_methodNamed B.named
  have hin : meth.name = "<init>" := (name_of_methodNamed B.named B.method).1
  subst hsz
  have hD := hD0.self (sz := s.heap.size)
  generalize hAe : va_A [(h0, .inr (1, [.int 0, .null, .null]))] s.heap.size = A at hD ⊢
  have hA : ∀ q : Nat, s.heap.size ≤ q → A q := fun q h => by rw [← hAe]; exact Or.inr h
  have hS : va_S A s.heap s.heap [] := va_S.rf
  have hl := lv_entry ([.ref h0]) (n := 1) (Nat.le_of_ble_eq_true rfl)
  rw [lg_entry_eq]
  generalize (lg_sl ([.ref h0]) ++ List.replicate (1 - (lg_sl ([.ref h0])).length) Slot.unset).toArray = ls at hl ⊢
  have hl : lv_has ls 1 [(0, .ref h0)] := hl
  obtain ⟨W0, hW0⟩ : ∃ W0 : va_W, W0 = [] := ⟨_, rfl⟩
  have hP : va_P D vwCl ((h0, .inr (1, [.int 0, .null, .null])) :: W0) s.heap := by rw [hW0]; exact hP
  have hD : va_D A ((h0, .inr (1, [.int 0, .null, .null])) :: W0) := by rw [hW0]; exact hD
  refine lv_aload_n hx hb dX1_init_0 rfl (lv_at hl 0 rfl) ?_
  refine W.objInit hx hb hown (hts (Cond.methodLink RX1 1 objectInit) (List.mem_cons_of_mem _ (wdC_1_in _ (List.mem_of_getElem? (i := 35) rfl)))) (hts (Cond.instanceMethod objectInit) (List.mem_cons_of_mem _ (wdC_0_in _ (List.mem_of_getElem? (i := 2) rfl)))) (hts (Cond.code objectInit ⟨#[0xb1]⟩ 1 none) (List.mem_cons_of_mem _ (wdC_0_in _ (List.mem_of_getElem? (i := 3) rfl)))) rfl (by rw [hml]; exact hl.1) rfl dX1_init_1 (Nat.le_of_ble_eq_true rfl) (Nat.le_of_ble_eq_true rfl) ?_
  refine W.eq (g2 := F0 m 4 ls []) rfl ?_
  refine lv_aload_n hx hb dX1_init_4 rfl (lv_at hl 0 rfl) ?_
  refine cx_new (C := RX0) (T := TX0) (N := 7) (ci := 0) (maxL := 1) (bytes := cX0_init) (ws' := wdC) ⟨hx, hb, hml, hown, hts⟩ cX0_ok (fun w h => List.mem_cons_of_mem _ (wiX0 w h)) tyX0 tyX0_ok (hts (Cond.classLink RX1 7 RX0) (List.mem_cons_of_mem _ (wdC_1_in _ (List.mem_of_getElem? (i := 36) rfl)))) (hts (Cond.instantiable RX0 7) (List.mem_cons_of_mem _ (wdC_1_in _ (List.mem_of_getElem? (i := 37) rfl)))) (hts (Cond.initialized RX0) (List.mem_cons_of_mem _ (wdC_0_in _ (List.mem_of_getElem? (i := 22) rfl)))) rfl (fun j hj => dfX0 j hj) rfl (g1C (wdC_0_in _ (List.mem_of_getElem? (i := 0) rfl))) rfl rfl rfl hN.2.2.2.2.2.1 (hts (Cond.instanceMethod yX0_init) (List.mem_cons_of_mem _ (wdC_2_in _ (List.mem_of_getElem? (i := 3) rfl)))) rfl (by decide +kernel) ⟨Nat.le_of_ble_eq_true rfl, Nat.le_of_ble_eq_true rfl⟩ hKN hP hD hS hA hl.1 (Nat.le_of_ble_eq_true rfl) (Nat.le_of_ble_eq_true rfl) (Nat.le_of_ble_eq_true rfl) dX1_init_5 dX1_init_8 dX1_init_9 (fun q5 u5 H locs hP hD hS => ?_)
  obtain ⟨W1, hW1⟩ : ∃ W1, W1 = W0 ++ wX0 cA q5 u5 := ⟨_, rfl⟩
  have hP : va_P D vwCl ((h0, .inr (1, [.int 0, .null, .null])) :: W1) H := by rw [hW1]; exact hP
  have hD : va_D A ((h0, .inr (1, [.int 0, .null, .null])) :: W1) := by rw [hW1]; exact hD
  refine W.widen (k := 5) (n := 52) (by omega) (by omega) ?_
  refine va_putF (D := D) (ci := 1) (v := .ref q5) (ty := .object "ParrotHeirs$Aviary") (C := RX1) (T := TX1) (N := 3) hx hb hts (fun w h => List.mem_cons_of_mem _ (wiX1 w h)) tyX1 tyX1_ok nmX1 hown hK hP hD hS 0 rfl rfl 1 (by decide) (hts (Cond.fieldLink RX1 10 "ParrotHeirs$Image" "aviary" "LParrotHeirs$Aviary;") (List.mem_cons_of_mem _ (wdC_1_in _ (List.mem_of_getElem? (i := 38) rfl)))) (fun _ h9 => h9) rfl hin rfl (by decide +kernel) rfl rfl (Nat.le_of_ble_eq_true rfl) dX1_init_12 (fun H locs hP hD hS => ?_)
  have hP : va_P D vwCl ((h0, .inr (1, [.int 0, .ref q5, .null])) :: W1) H := hP
  have hD : va_D A ((h0, .inr (1, [.int 0, .ref q5, .null])) :: W1) := hD
  refine lv_aload_n hx hb dX1_init_15 rfl (lv_at hl 0 rfl) ?_
  refine cx_new (C := RX2) (T := TX2) (N := 3) (ci := 2) (maxL := 1) (bytes := cX2_init) (ws' := wdC) ⟨hx, hb, hml, hown, hts⟩ cX2_ok (fun w h => List.mem_cons_of_mem _ (wiX2 w h)) tyX2 tyX2_ok (hts (Cond.classLink RX1 16 RX2) (List.mem_cons_of_mem _ (wdC_1_in _ (List.mem_of_getElem? (i := 39) rfl)))) (hts (Cond.instantiable RX2 3) (List.mem_cons_of_mem _ (wdC_2_in _ (List.mem_of_getElem? (i := 0) rfl)))) (hts (Cond.initialized RX2) (List.mem_cons_of_mem _ (wdC_2_in _ (List.mem_of_getElem? (i := 1) rfl)))) rfl (fun j hj => dfX2 j hj) rfl (g1C (wdC_1_in _ (List.mem_of_getElem? (i := 31) rfl))) rfl rfl rfl hN.2.2.2.2.2.2.1 (hts (Cond.instanceMethod yX2_init) (List.mem_cons_of_mem _ (wdC_2_in _ (List.mem_of_getElem? (i := 4) rfl)))) rfl (by decide +kernel) ⟨Nat.le_of_ble_eq_true rfl, Nat.le_of_ble_eq_true rfl⟩ hKN hP hD hS hA hl.1 (Nat.le_of_ble_eq_true rfl) (Nat.le_of_ble_eq_true rfl) (Nat.le_of_ble_eq_true rfl) dX1_init_16 dX1_init_19 dX1_init_20 (fun q16 u16 H locs hP hD hS => ?_)
  obtain ⟨W2, hW2⟩ : ∃ W2, W2 = W1 ++ wX2 cA q16 u16 := ⟨_, rfl⟩
  have hP : va_P D vwCl ((h0, .inr (1, [.int 0, .ref q5, .null])) :: W2) H := by rw [hW2]; exact hP
  have hD : va_D A ((h0, .inr (1, [.int 0, .ref q5, .null])) :: W2) := by rw [hW2]; exact hD
  refine W.widen (k := 8) (n := 67) (by omega) (by omega) ?_
  refine va_putF (D := D) (ci := 1) (v := .ref q16) (ty := .object "ParrotHeirs$Seen") (C := RX1) (T := TX1) (N := 3) hx hb hts (fun w h => List.mem_cons_of_mem _ (wiX1 w h)) tyX1 tyX1_ok nmX1 hown hK hP hD hS 0 rfl rfl 2 (by decide) (hts (Cond.fieldLink RX1 19 "ParrotHeirs$Image" "seen" "LParrotHeirs$Seen;") (List.mem_cons_of_mem _ (wdC_2_in _ (List.mem_of_getElem? (i := 2) rfl)))) (fun _ h9 => h9) rfl hin rfl (by decide +kernel) rfl rfl (Nat.le_of_ble_eq_true rfl) dX1_init_23 (fun H locs hP hD hS => ?_)
  have hP : va_P D vwCl ((h0, .inr (1, [.int 0, .ref q5, .ref q16])) :: W2) H := hP
  have hD : va_D A ((h0, .inr (1, [.int 0, .ref q5, .ref q16])) :: W2) := hD
  have hP9 : va_P D vwCl (wX1 cA h0 (q5, u5, q16, u16)) H := by rw [hW2, hW1, hW0] at hP; exact hP
  have hD9 : va_D A (wX1 cA h0 (q5, u5, q16, u16)) := by rw [hW2, hW1, hW0] at hD; exact hD
  exact W.vret hx hb hr (fun t ht hW => ⟨⟨(q5, u5, q16, u16), rfl, trivial, by rw [ht]; exact hP9, hD9⟩, hS.F ht⟩) hS.2.2 dX1_init_26
theorem dX4_init_0 : decode cX4_init 0 = .ok (.aload_n 0, 1) := by decide +kernel
theorem dX4_init_1 : decode cX4_init 1 = .ok (.invokespecial 3, 3) := by decide +kernel
theorem dX4_init_4 : decode cX4_init 4 = .ok (.aload_n 0, 1) := by decide +kernel
theorem dX4_init_5 : decode cX4_init 5 = .ok (.iconst 0, 1) := by decide +kernel
theorem dX4_init_6 : decode cX4_init 6 = .ok (.newarray .byte, 2) := by decide +kernel
theorem dX4_init_8 : decode cX4_init 8 = .ok (.putfield 9, 3) := by decide +kernel
theorem dX4_init_11 : decode cX4_init 11 = .ok (.aload_n 0, 1) := by decide +kernel
theorem dX4_init_12 : decode cX4_init 12 = .ok (.new 15, 3) := by decide +kernel
theorem dX4_init_15 : decode cX4_init 15 = .ok (.dup, 1) := by decide +kernel
theorem dX4_init_16 : decode cX4_init 16 = .ok (.invokespecial 17, 3) := by decide +kernel
theorem dX4_init_19 : decode cX4_init 19 = .ok (.putfield 18, 3) := by decide +kernel
theorem dX4_init_22 : decode cX4_init 22 = .ok (.return_, 1) := by decide +kernel
def wX4 (cA : Nat → ClassId) (h : Nat) (u : Nat × Nat × (Nat × Nat × Nat × Nat)) : va_W := (h, .inr (4, [.ref u.1, .int 0, .ref u.2.1, .int 0, .int 0, .int 0, .int 0, .int 0, .int 0])) :: (u.1, .inl (cA 1, 0, .inl (fun _ => 0))) :: wX0 cA u.2.1 u.2.2
theorem dfX4 : ∀ j, j < 9 → defaultValue (tyX4 j) = vp_V [.null, .int 0, .null, .int 0, .int 0, .int 0, .int 0, .int 0, .int 0] j := by
  intro j hj
  rcases (show j = 0 ∨ j = 1 ∨ j = 2 ∨ j = 3 ∨ j = 4 ∨ j = 5 ∨ j = 6 ∨ j = 7 ∨ j = 8 by omega) with rfl | rfl | rfl | rfl | rfl | rfl | rfl | rfl | rfl <;> rfl
set_option maxHeartbeats 4000000 in
set_option maxRecDepth 100000 in
theorem cX4_ok : cx_Met yX4_init (Cond.code yX4_init cX4_init 1 none :: wdC) ({ frames := 2, cells := 6, slots := 52, locals := 32 }) 4 [.null, .int 0, .null, .int 0, .int 0, .int 0, .int 0, .int 0, .int 0] wX4 6 52 := by
  intro l D cA h0 sz
  refine Met.ofW (cc := cX4_init) (maxL := 1) (ret := none) (by decide) rfl ?_
  intro p e s m args below meth c s₁ B hml hv
  obtain ⟨rfl, hsz, hP, hKN, hD0⟩ := hv
  obtain ⟨hK, hN⟩ := id hKN
  have hx := B.exec
  have hb := B.bytes
  have hr := B.returns
  have hts := atoms_spec (ws := Cond.code yX4_init cX4_init 1 none :: wdC) B.pre
  have hown : s.vm.findClass RX4 = some m.cls := findClass_of_methodNamed B.named
  have hin : meth.name = "<init>" := (name_of_methodNamed B.named B.method).1
  subst hsz
  have hD := hD0.self (sz := s.heap.size)
  generalize hAe : va_A [(h0, .inr (4, [.null, .int 0, .null, .int 0, .int 0, .int 0, .int 0, .int 0, .int 0]))] s.heap.size = A at hD ⊢
  have hA : ∀ q : Nat, s.heap.size ≤ q → A q := fun q h => by rw [← hAe]; exact Or.inr h
  have hS : va_S A s.heap s.heap [] := va_S.rf
  have hl := lv_entry ([.ref h0]) (n := 1) (Nat.le_of_ble_eq_true rfl)
  rw [lg_entry_eq]
  generalize (lg_sl ([.ref h0]) ++ List.replicate (1 - (lg_sl ([.ref h0])).length) Slot.unset).toArray = ls at hl ⊢
  have hl : lv_has ls 1 [(0, .ref h0)] := hl
  obtain ⟨W0, hW0⟩ : ∃ W0 : va_W, W0 = [] := ⟨_, rfl⟩
  have hP : va_P D vwCl ((h0, .inr (4, [.null, .int 0, .null, .int 0, .int 0, .int 0, .int 0, .int 0, .int 0])) :: W0) s.heap := by rw [hW0]; exact hP
  have hD : va_D A ((h0, .inr (4, [.null, .int 0, .null, .int 0, .int 0, .int 0, .int 0, .int 0, .int 0])) :: W0) := by rw [hW0]; exact hD
  refine lv_aload_n hx hb dX4_init_0 rfl (lv_at hl 0 rfl) ?_
  refine W.objInit hx hb hown (hts (Cond.methodLink RX4 3 objectInit) (List.mem_cons_of_mem _ (wdC_2_in _ (List.mem_of_getElem? (i := 18) rfl)))) (hts (Cond.instanceMethod objectInit) (List.mem_cons_of_mem _ (wdC_0_in _ (List.mem_of_getElem? (i := 2) rfl)))) (hts (Cond.code objectInit ⟨#[0xb1]⟩ 1 none) (List.mem_cons_of_mem _ (wdC_0_in _ (List.mem_of_getElem? (i := 3) rfl)))) rfl (by rw [hml]; exact hl.1) rfl dX4_init_1 (Nat.le_of_ble_eq_true rfl) (Nat.le_of_ble_eq_true rfl) ?_
  refine W.eq (g2 := F0 m 4 ls []) rfl ?_
  refine lv_aload_n hx hb dX4_init_4 rfl (lv_at hl 0 rfl) ?_
  refine lv_iconst (v := 0) hx hb dX4_init_5 (by decide) ?_
  refine cx_newa (D := D) (cA := cA) hx hb (hts (Cond.arrayClass .byte) (List.mem_cons_of_mem _ (wdC_2_in _ (List.mem_of_getElem? (i := 19) rfl)))) rfl hK 1 rfl hP hD hS hA 0 (fun _ => rfl) (by decide) (by decide) (by decide) (Nat.le_of_ble_eq_true rfl) (Nat.le_of_ble_eq_true rfl) dX4_init_6 (fun q6 H hP hD hS => ?_)
  obtain ⟨W1, hW1⟩ : ∃ W1, W1 = W0 ++ [(q6, .inl (cA 1, 0, .inl (fun _ => 0)))] := ⟨_, rfl⟩
  have hP : va_P D vwCl ((h0, .inr (4, [.null, .int 0, .null, .int 0, .int 0, .int 0, .int 0, .int 0, .int 0])) :: W1) H := by rw [hW1]; exact hP
  have hD : va_D A ((h0, .inr (4, [.null, .int 0, .null, .int 0, .int 0, .int 0, .int 0, .int 0, .int 0])) :: W1) := by rw [hW1]; exact hD
  refine W.widen (k := 1) (n := 0) (by omega) (by omega) ?_
  refine va_put (D := D) (ci := 4) (v := .ref q6) (ty := .array .byte) (C := RX4) (T := TX4) (N := 9) hx hb hts (fun w h => List.mem_cons_of_mem _ (wiX4 w h)) tyX4 tyX4_ok nmX4 hown hK hP hD hS 0 rfl rfl 0 (by decide) (hts (Cond.fieldLink RX4 9 "ParrotHeirs$TextReader" "bytes" "[B") (List.mem_cons_of_mem _ (wdC_2_in _ (List.mem_of_getElem? (i := 20) rfl)))) (fun _ h9 => h9) rfl (by decide +kernel) rfl rfl (Nat.le_of_ble_eq_true rfl) dX4_init_8 (fun H locs hP hD hS => ?_)
  have hP : va_P D vwCl ((h0, .inr (4, [.ref q6, .int 0, .null, .int 0, .int 0, .int 0, .int 0, .int 0, .int 0])) :: W1) H := hP
  have hD : va_D A ((h0, .inr (4, [.ref q6, .int 0, .null, .int 0, .int 0, .int 0, .int 0, .int 0, .int 0])) :: W1) := hD
  refine lv_aload_n hx hb dX4_init_11 rfl (lv_at hl 0 rfl) ?_
  refine cx_new (C := RX0) (T := TX0) (N := 7) (ci := 0) (maxL := 1) (bytes := cX0_init) (ws' := wdC) ⟨hx, hb, hml, hown, hts⟩ cX0_ok (fun w h => List.mem_cons_of_mem _ (wiX0 w h)) tyX0 tyX0_ok (hts (Cond.classLink RX4 15 RX0) (List.mem_cons_of_mem _ (wdC_2_in _ (List.mem_of_getElem? (i := 21) rfl)))) (hts (Cond.instantiable RX0 7) (List.mem_cons_of_mem _ (wdC_1_in _ (List.mem_of_getElem? (i := 37) rfl)))) (hts (Cond.initialized RX0) (List.mem_cons_of_mem _ (wdC_0_in _ (List.mem_of_getElem? (i := 22) rfl)))) rfl (fun j hj => dfX0 j hj) rfl (g1C (wdC_0_in _ (List.mem_of_getElem? (i := 0) rfl))) rfl rfl rfl hN.2.2.2.2.2.2.2.1 (hts (Cond.instanceMethod yX0_init) (List.mem_cons_of_mem _ (wdC_2_in _ (List.mem_of_getElem? (i := 3) rfl)))) rfl (by decide +kernel) ⟨Nat.le_of_ble_eq_true rfl, Nat.le_of_ble_eq_true rfl⟩ hKN hP hD hS hA hl.1 (Nat.le_of_ble_eq_true rfl) (Nat.le_of_ble_eq_true rfl) (Nat.le_of_ble_eq_true rfl) dX4_init_12 dX4_init_15 dX4_init_16 (fun q12 u12 H locs hP hD hS => ?_)
  obtain ⟨W2, hW2⟩ : ∃ W2, W2 = W1 ++ wX0 cA q12 u12 := ⟨_, rfl⟩
  have hP : va_P D vwCl ((h0, .inr (4, [.ref q6, .int 0, .null, .int 0, .int 0, .int 0, .int 0, .int 0, .int 0])) :: W2) H := by rw [hW2]; exact hP
  have hD : va_D A ((h0, .inr (4, [.ref q6, .int 0, .null, .int 0, .int 0, .int 0, .int 0, .int 0, .int 0])) :: W2) := by rw [hW2]; exact hD
  refine W.widen (k := 6) (n := 52) (by omega) (by omega) ?_
  refine va_put (D := D) (ci := 4) (v := .ref q12) (ty := .object "ParrotHeirs$Aviary") (C := RX4) (T := TX4) (N := 9) hx hb hts (fun w h => List.mem_cons_of_mem _ (wiX4 w h)) tyX4 tyX4_ok nmX4 hown hK hP hD hS 0 rfl rfl 2 (by decide) (hts (Cond.fieldLink RX4 18 "ParrotHeirs$TextReader" "told" "LParrotHeirs$Aviary;") (List.mem_cons_of_mem _ (wdC_2_in _ (List.mem_of_getElem? (i := 22) rfl)))) (fun _ h9 => h9) rfl (by decide +kernel) rfl rfl (Nat.le_of_ble_eq_true rfl) dX4_init_19 (fun H locs hP hD hS => ?_)
  have hP : va_P D vwCl ((h0, .inr (4, [.ref q6, .int 0, .ref q12, .int 0, .int 0, .int 0, .int 0, .int 0, .int 0])) :: W2) H := hP
  have hD : va_D A ((h0, .inr (4, [.ref q6, .int 0, .ref q12, .int 0, .int 0, .int 0, .int 0, .int 0, .int 0])) :: W2) := hD
  have hP9 : va_P D vwCl (wX4 cA h0 (q6, q12, u12)) H := by rw [hW2, hW1, hW0] at hP; exact hP
  have hD9 : va_D A (wX4 cA h0 (q6, q12, u12)) := by rw [hW2, hW1, hW0] at hD; exact hD
  exact W.vret hx hb hr (fun t ht hW => ⟨⟨(q6, q12, u12), rfl, trivial, by rw [ht]; exact hP9, hD9⟩, hS.F ht⟩) hS.2.2 dX4_init_22
