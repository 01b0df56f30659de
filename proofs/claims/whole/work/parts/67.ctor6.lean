/-! ===== the reference's constructor ===== -/
theorem dX6_init_0 : decode cX6_init 0 = .ok (.aload_n 0, 1) := by decide +kernel
theorem dX6_init_1 : decode cX6_init 1 = .ok (.invokespecial 1, 3) := by decide +kernel
theorem dX6_init_4 : decode cX6_init 4 = .ok (.aload_n 0, 1) := by decide +kernel
theorem dX6_init_5 : decode cX6_init 5 = .ok (.sipush 183, 3) := by decide +kernel
theorem dX6_init_8 : decode cX6_init 8 = .ok (.newarray .int, 2) := by decide +kernel
theorem dX6_init_10 : decode cX6_init 10 = .ok (.putfield 7, 3) := by decide +kernel
theorem dX6_init_13 : decode cX6_init 13 = .ok (.aload_n 0, 1) := by decide +kernel
theorem dX6_init_14 : decode cX6_init 14 = .ok (.bipush 61, 2) := by decide +kernel
theorem dX6_init_16 : decode cX6_init 16 = .ok (.newarray .int, 2) := by decide +kernel
theorem dX6_init_18 : decode cX6_init 18 = .ok (.putfield 13, 3) := by decide +kernel
theorem dX6_init_21 : decode cX6_init 21 = .ok (.aload_n 0, 1) := by decide +kernel
theorem dX6_init_22 : decode cX6_init 22 = .ok (.iconst 2, 1) := by decide +kernel
theorem dX6_init_23 : decode cX6_init 23 = .ok (.newarray .boolean, 2) := by decide +kernel
theorem dX6_init_25 : decode cX6_init 25 = .ok (.putfield 16, 3) := by decide +kernel
theorem dX6_init_28 : decode cX6_init 28 = .ok (.aload_n 0, 1) := by decide +kernel
theorem dX6_init_29 : decode cX6_init 29 = .ok (.bipush 61, 2) := by decide +kernel
theorem dX6_init_31 : decode cX6_init 31 = .ok (.newarray .int, 2) := by decide +kernel
theorem dX6_init_33 : decode cX6_init 33 = .ok (.putfield 20, 3) := by decide +kernel
theorem dX6_init_36 : decode cX6_init 36 = .ok (.aload_n 0, 1) := by decide +kernel
theorem dX6_init_37 : decode cX6_init 37 = .ok (.sipush 160, 3) := by decide +kernel
theorem dX6_init_40 : decode cX6_init 40 = .ok (.newarray .int, 2) := by decide +kernel
theorem dX6_init_42 : decode cX6_init 42 = .ok (.putfield 23, 3) := by decide +kernel
theorem dX6_init_45 : decode cX6_init 45 = .ok (.aload_n 0, 1) := by decide +kernel
theorem dX6_init_46 : decode cX6_init 46 = .ok (.bipush 21, 2) := by decide +kernel
theorem dX6_init_48 : decode cX6_init 48 = .ok (.newarray .int, 2) := by decide +kernel
theorem dX6_init_50 : decode cX6_init 50 = .ok (.putfield 26, 3) := by decide +kernel
theorem dX6_init_53 : decode cX6_init 53 = .ok (.aload_n 0, 1) := by decide +kernel
theorem dX6_init_54 : decode cX6_init 54 = .ok (.sipush 210, 3) := by decide +kernel
theorem dX6_init_57 : decode cX6_init 57 = .ok (.newarray .int, 2) := by decide +kernel
theorem dX6_init_59 : decode cX6_init 59 = .ok (.putfield 29, 3) := by decide +kernel
theorem dX6_init_62 : decode cX6_init 62 = .ok (.aload_n 0, 1) := by decide +kernel
theorem dX6_init_63 : decode cX6_init 63 = .ok (.iconst 4, 1) := by decide +kernel
theorem dX6_init_64 : decode cX6_init 64 = .ok (.newarray .int, 2) := by decide +kernel
theorem dX6_init_66 : decode cX6_init 66 = .ok (.putfield 32, 3) := by decide +kernel
theorem dX6_init_69 : decode cX6_init 69 = .ok (.aload_n 0, 1) := by decide +kernel
theorem dX6_init_70 : decode cX6_init 70 = .ok (.iconst 4, 1) := by decide +kernel
theorem dX6_init_71 : decode cX6_init 71 = .ok (.newarray .int, 2) := by decide +kernel
theorem dX6_init_73 : decode cX6_init 73 = .ok (.putfield 35, 3) := by decide +kernel
theorem dX6_init_76 : decode cX6_init 76 = .ok (.aload_n 0, 1) := by decide +kernel
theorem dX6_init_77 : decode cX6_init 77 = .ok (.sipush 160, 3) := by decide +kernel
theorem dX6_init_80 : decode cX6_init 80 = .ok (.newarray .int, 2) := by decide +kernel
theorem dX6_init_82 : decode cX6_init 82 = .ok (.putfield 38, 3) := by decide +kernel
theorem dX6_init_85 : decode cX6_init 85 = .ok (.aload_n 0, 1) := by decide +kernel
theorem dX6_init_86 : decode cX6_init 86 = .ok (.bipush 61, 2) := by decide +kernel
theorem dX6_init_88 : decode cX6_init 88 = .ok (.newarray .int, 2) := by decide +kernel
theorem dX6_init_90 : decode cX6_init 90 = .ok (.putfield 41, 3) := by decide +kernel
theorem dX6_init_93 : decode cX6_init 93 = .ok (.iconst 0, 1) := by decide +kernel
theorem dX6_init_94 : decode cX6_init 94 = .ok (.istore_n 1, 1) := by decide +kernel
theorem dX6_init_95 : decode cX6_init 95 = .ok (.iload_n 1, 1) := by decide +kernel
theorem dX6_init_96 : decode cX6_init 96 = .ok (.iconst 4, 1) := by decide +kernel
theorem dX6_init_97 : decode cX6_init 97 = .ok (.if_icmp .ge 17, 3) := by decide +kernel
theorem dX6_init_100 : decode cX6_init 100 = .ok (.aload_n 0, 1) := by decide +kernel
theorem dX6_init_101 : decode cX6_init 101 = .ok (.getfield 32, 3) := by decide +kernel
theorem dX6_init_104 : decode cX6_init 104 = .ok (.iload_n 1, 1) := by decide +kernel
theorem dX6_init_105 : decode cX6_init 105 = .ok (.bipush (-4), 2) := by decide +kernel
theorem dX6_init_107 : decode cX6_init 107 = .ok (.iastore, 1) := by decide +kernel
theorem dX6_init_108 : decode cX6_init 108 = .ok (.iinc 1 1, 3) := by decide +kernel
theorem dX6_init_111 : decode cX6_init 111 = .ok (.goto (-16), 3) := by decide +kernel
theorem dX6_init_114 : decode cX6_init 114 = .ok (.aload_n 0, 1) := by decide +kernel
theorem dX6_init_115 : decode cX6_init 115 = .ok (.invokevirtual 44, 3) := by decide +kernel
theorem dX6_init_118 : decode cX6_init 118 = .ok (.aload_n 0, 1) := by decide +kernel
theorem dX6_init_119 : decode cX6_init 119 = .ok (.invokevirtual 47, 3) := by decide +kernel
theorem dX6_init_122 : decode cX6_init 122 = .ok (.return_, 1) := by decide +kernel
theorem px_nw.cg {q q' : Nat → Nat} {A : Nat → Prop} {U : State} (h : px_nw q A U) (e : ∀ k, 100 ≤ k → q' k = q k) : px_nw q' A U := by
  have e1 : (fun i => q' (100 + i)) = fun i => q (100 + i) := funext fun i => e _ (by omega)
  have e2 : (fun i => q' (200 + i)) = fun i => q (200 + i) := funext fun i => e _ (by omega)
  obtain ⟨h1, h3, ⟨h4, h6⟩, h5⟩ := h
  refine ⟨h1, ?_, ⟨h4, ?_⟩, fun i hi => ?_⟩
  · rw [e1, e2]; exact h3
  · unfold px_zf at h6 ⊢
    rw [e 300 (by omega)]; exact h6
  · rw [e (100 + i) (by omega)]; exact h5 i hi
def cM_Pc (D : va_G) (cA : Nat → ClassId) (q0 : Nat → Nat) (h0 : Nat) (fs : List Value) (sz : Nat) : Array Value → State → Prop := va_Pc [.ref h0] (fun U => U.heap.size = sz ∧ va_P D vwCl [(h0, .inr (6, fs))] U.heap ∧ (va_K D vwCl (px_tys cA) U ∧ px_nw q0 (va_A [(h0, .inr (6, fs))] sz) U) ∧ va_D (fun _ => True) [(h0, .inr (6, fs))])
theorem cM_blind {D : va_G} {cA : Nat → ClassId} {q0 : Nat → Nat} {h0 : Nat} {fs : List Value} {sz : Nat} : FrameBlind (cM_Pc D cA q0 h0 fs sz) := fun a U g mk h => by
  obtain ⟨h1, h2, h3, h4, h5⟩ := h
  exact ⟨h1, h2, h3, ⟨va_K.moved (u := U) (U := U.calling g mk a) (Vm.Alike.refl U.vm) h4.1, h4.2.same rfl rfl⟩, h5⟩
/-- the reference's store, new, ahead of its draft -/
def sM1 : px_St := (fun k => match k with | 8 => (upd (upd (upd (upd (fun _ => 0) (0 : Int32).toNatClampNeg (-4)) (1 : Int32).toNatClampNeg (-4)) (2 : Int32).toNatClampNeg (-4)) (3 : Int32).toNatClampNeg (-4)) | _ => fun _ => 0, fun _ _ => 0)
def LM (cA : Nat → ClassId) (q : Nat → Nat) : va_W := [(q 0, .inr (6, [.ref (q 1), .ref (q 2), .ref (q 3), .ref (q 4), .int 0, .ref (q 5), .int 0, .int 0, .int 0, .int 0, .int 0, .int 0, .int 0, .int 0, .int 0, .long 0, .long 0, .long 0, .ref (q 6), .ref (q 7), .ref (q 8), .ref (q 9), .ref (q 10), .int 0, .ref (q 11)])), (q 1, .inl (cA 0, 183, .inl (fun _ => 0))), (q 2, .inl (cA 0, 61, .inl (fun _ => 0))), (q 3, .inl (cA 2, 2, .inl (fun _ => 0))), (q 4, .inl (cA 0, 61, .inl (fun _ => 0))), (q 5, .inl (cA 0, 160, .inl (fun _ => 0))), (q 6, .inl (cA 0, 21, .inl (fun _ => 0))), (q 7, .inl (cA 0, 210, .inl (fun _ => 0))), (q 8, .inl (cA 0, 4, .inl (upd (upd (upd (upd (fun _ => 0) (0 : Int32).toNatClampNeg (-4)) (1 : Int32).toNatClampNeg (-4)) (2 : Int32).toNatClampNeg (-4)) (3 : Int32).toNatClampNeg (-4)))), (q 9, .inl (cA 0, 4, .inl (fun _ => 0))), (q 10, .inl (cA 0, 160, .inl (fun _ => 0))), (q 11, .inl (cA 0, 61, .inl (fun _ => 0)))]
theorem LM_0 {cA : Nat → ClassId} {q : Nat → Nat} : (LM cA q)[0]? = some (q 0, px_cell dM cA q sM1 0) := rfl
theorem LM_1 {cA : Nat → ClassId} {q : Nat → Nat} : (LM cA q)[1]? = some (q 1, px_cell dM cA q sM1 1) := rfl
theorem LM_2 {cA : Nat → ClassId} {q : Nat → Nat} : (LM cA q)[2]? = some (q 2, px_cell dM cA q sM1 2) := rfl
theorem LM_3 {cA : Nat → ClassId} {q : Nat → Nat} : (LM cA q)[3]? = some (q 3, px_cell dM cA q sM1 3) := rfl
theorem LM_4 {cA : Nat → ClassId} {q : Nat → Nat} : (LM cA q)[4]? = some (q 4, px_cell dM cA q sM1 4) := rfl
theorem LM_5 {cA : Nat → ClassId} {q : Nat → Nat} : (LM cA q)[5]? = some (q 5, px_cell dM cA q sM1 5) := rfl
theorem LM_6 {cA : Nat → ClassId} {q : Nat → Nat} : (LM cA q)[6]? = some (q 6, px_cell dM cA q sM1 6) := rfl
theorem LM_7 {cA : Nat → ClassId} {q : Nat → Nat} : (LM cA q)[7]? = some (q 7, px_cell dM cA q sM1 7) := rfl
theorem LM_8 {cA : Nat → ClassId} {q : Nat → Nat} : (LM cA q)[8]? = some (q 8, px_cell dM cA q sM1 8) := rfl
theorem LM_9 {cA : Nat → ClassId} {q : Nat → Nat} : (LM cA q)[9]? = some (q 9, px_cell dM cA q sM1 9) := rfl
theorem LM_10 {cA : Nat → ClassId} {q : Nat → Nat} : (LM cA q)[10]? = some (q 10, px_cell dM cA q sM1 10) := rfl
theorem LM_11 {cA : Nat → ClassId} {q : Nat → Nat} : (LM cA q)[11]? = some (q 11, px_cell dM cA q sM1 11) := rfl
theorem LM_w {D : va_G} {A : Nat → Prop} {cA : Nat → ClassId} {q : Nat → Nat} {H : Heap} (hP : va_P D vwCl (LM cA q) H) (hD : va_D A (LM cA q)) : va_P D vwCl (px_w dM cA q sM1) H ∧ va_D A (px_w dM cA q sM1) := by
  refine cx_fin (fun k => k) hP hD (fun k hk => ?_) (fun i _ j _ h => h)
  match k, hk with
  | 0, _ => exact LM_0
  | 1, _ => exact LM_1
  | 2, _ => exact LM_2
  | 3, _ => exact LM_3
  | 4, _ => exact LM_4
  | 5, _ => exact LM_5
  | 6, _ => exact LM_6
  | 7, _ => exact LM_7
  | 8, _ => exact LM_8
  | 9, _ => exact LM_9
  | 10, _ => exact LM_10
  | 11, _ => exact LM_11
  | k + 12, hk => exact absurd (show k + 12 < 12 from hk) (by omega)
theorem sM1_8 : ∀ k, k < 4 → sM1.1 8 k = -4 := by
  intro k hk
  rcases (show k = 0 ∨ k = 1 ∨ k = 2 ∨ k = 3 by omega) with rfl | rfl | rfl | rfl <;> rfl
theorem mo_new {σ2 σ3 : px_St} (h2 : qoX6_firstDraft () sM1 () σ2) (h3 : qoX6_keepDraft () σ2 () σ3) : mo_is σ3 x_0 := by
  obtain ⟨a1, a2, a3, a4⟩ := h2
  obtain ⟨b1, b2, b3, b4⟩ := h3
  have e0 : ∀ j, j ≠ 4 → σ3.1 0 j = 0 := fun j hj => by rw [b1 0 (by omega) (by omega), a2 j hj]; rfl
  refine ⟨a4.1.cg pv_0_ok.1 (fun j hj => b2 j (by omega)), ⟨by rw [b2 48 (by omega)]; exact a4.2.1, fun i x hx => (noat hx).elim⟩, ⟨e0 6 (by omega), fun i x hx => (noat hx).elim⟩, fun k hk => ⟨?_, fun w hw => by cases hw⟩, e0 11 (by omega), e0 23 (by omega), fun k hk => ⟨fun _ => ?_, fun w hw => by cases hw⟩⟩
  · rcases (show k = 0 ∨ k = 1 by omega) with rfl | rfl
    · exact b3
    · exact b4
  · rw [b1 8 (by omega) (by omega), a1 8 (by omega) (by omega)]
    exact sM1_8 k hk
set_option maxHeartbeats 4000000 in
set_option maxRecDepth 100000 in
/-- ParrotHeirsModel(): the reference's world, new -/
theorem cX6_ok : ∀ (l : Launch) (D : va_G) (cA : Nat → ClassId) (q0 : Nat → Nat) (h0 sz : Nat), Met l yX6_init (Cond.code yX6_init cX6_init 2 none :: wdM) ({ frames := 1, cells := 11, slots := 927, locals := 21 }) (cM_Pc D cA q0 h0 [.null, .null, .null, .null, .int 0, .null, .int 0, .int 0, .int 0, .int 0, .int 0, .int 0, .int 0, .int 0, .int 0, .long 0, .long 0, .long 0, .null, .null, .null, .null, .null, .int 0, .null] sz) (va_Qv (fun _ : Unit => True) (fun _ t => ∃ (q : Nat → Nat) (σ : px_St), q 0 = h0 ∧ (∀ k, 100 ≤ k → q k = q0 k) ∧ mo_is σ x_0 ∧ va_P D vwCl (px_w dM cA q σ) t.heap ∧ va_D (va_A [(h0, .inr (6, [.null, .null, .null, .null, .int 0, .null, .int 0, .int 0, .int 0, .int 0, .int 0, .int 0, .int 0, .int 0, .int 0, .long 0, .long 0, .long 0, .null, .null, .null, .null, .null, .int 0, .null]))] sz) (px_w dM cA q σ)) (va_A [(h0, .inr (6, [.null, .null, .null, .null, .int 0, .null, .int 0, .int 0, .int 0, .int 0, .int 0, .int 0, .int 0, .int 0, .int 0, .long 0, .long 0, .long 0, .null, .null, .null, .null, .null, .int 0, .null]))] sz)) 11 927 (va_A [(h0, .inr (6, [.null, .null, .null, .null, .int 0, .null, .int 0, .int 0, .int 0, .int 0, .int 0, .int 0, .int 0, .int 0, .int 0, .long 0, .long 0, .long 0, .null, .null, .null, .null, .null, .int 0, .null]))] sz) := by
  intro l D cA q0 h0 sz
  refine Met.ofW (cc := cX6_init) (maxL := 2) (ret := none) (by decide) rfl ?_
  intro p e s m args below meth c s₁ B hml hv
  obtain ⟨rfl, hsz, hP, hKN, hD0⟩ := hv
  obtain ⟨hK, hNw⟩ := hKN
  have hx := B.exec
  have hb := B.bytes
  have hr := B.returns
  have hts := atoms_spec (ws := Cond.code yX6_init cX6_init 2 none :: wdM) B.pre
  have hown : s.vm.findClass RX6 = some m.cls := findClass_of_methodNamed B.named
  have hin : meth.name = "<init>" := (name_of_methodNamed B.named B.method).1
  subst hsz
  have hD := hD0.self (sz := s.heap.size)
  generalize hAe : va_A [(h0, .inr (6, [.null, .null, .null, .null, .int 0, .null, .int 0, .int 0, .int 0, .int 0, .int 0, .int 0, .int 0, .int 0, .int 0, .long 0, .long 0, .long 0, .null, .null, .null, .null, .null, .int 0, .null]))] s.heap.size = A at hD hNw ⊢
  have hA : ∀ q : Nat, s.heap.size ≤ q → A q := fun q h => by rw [← hAe]; exact Or.inr h
  have hS : va_S A s.heap s.heap [] := va_S.rf
  have hl := lv_entry ([.ref h0]) (n := 2) (Nat.le_of_ble_eq_true rfl)
  rw [lg_entry_eq]
  generalize (lg_sl ([.ref h0]) ++ List.replicate (2 - (lg_sl ([.ref h0])).length) Slot.unset).toArray = ls at hl ⊢
  have hl : lv_has ls 2 [(0, .ref h0)] := hl
  obtain ⟨W0, hW0⟩ : ∃ W0 : va_W, W0 = [] := ⟨_, rfl⟩
  have hP : va_P D vwCl ((h0, .inr (6, [.null, .null, .null, .null, .int 0, .null, .int 0, .int 0, .int 0, .int 0, .int 0, .int 0, .int 0, .int 0, .int 0, .long 0, .long 0, .long 0, .null, .null, .null, .null, .null, .int 0, .null])) :: W0) s.heap := by rw [hW0]; exact hP
  have hD : va_D A ((h0, .inr (6, [.null, .null, .null, .null, .int 0, .null, .int 0, .int 0, .int 0, .int 0, .int 0, .int 0, .int 0, .int 0, .int 0, .long 0, .long 0, .long 0, .null, .null, .null, .null, .null, .int 0, .null])) :: W0) := by rw [hW0]; exact hD
  refine lv_aload_n hx hb dX6_init_0 rfl (lv_at hl 0 rfl) ?_
  refine W.objInit hx hb hown (hts (Cond.methodLink RX6 1 objectInit) (List.mem_cons_of_mem _ (wdM_0_in _ (List.mem_of_getElem? (i := 6) rfl)))) (hts (Cond.instanceMethod objectInit) (List.mem_cons_of_mem _ (wdM_0_in _ (List.mem_of_getElem? (i := 7) rfl)))) (hts (Cond.code objectInit ⟨#[0xb1]⟩ 1 none) (List.mem_cons_of_mem _ (wdM_0_in _ (List.mem_of_getElem? (i := 8) rfl)))) rfl (by rw [hml]; exact hl.1) rfl dX6_init_1 (Nat.le_of_ble_eq_true rfl) (Nat.le_of_ble_eq_true rfl) ?_
  refine W.eq (g2 := F0 m 4 ls []) rfl ?_
  refine lv_aload_n hx hb dX6_init_4 rfl (lv_at hl 0 rfl) ?_
  refine lv_sipush (v := 183) hx hb dX6_init_5 (by decide) ?_
  refine cx_newa (D := D) (cA := cA) hx hb (hts (Cond.arrayClass .int) (List.mem_cons_of_mem _ (wdM_0_in _ (List.mem_of_getElem? (i := 9) rfl)))) rfl hK 0 rfl hP hD hS hA 183 (fun _ => rfl) (by decide) (by decide) (by decide) (Nat.le_of_ble_eq_true rfl) (Nat.le_of_ble_eq_true rfl) dX6_init_8 (fun q8 H hP hD hS => ?_)
  obtain ⟨W1, hW1⟩ : ∃ W1, W1 = W0 ++ [(q8, .inl (cA 0, 183, .inl (fun _ => 0)))] := ⟨_, rfl⟩
  have hP : va_P D vwCl ((h0, .inr (6, [.null, .null, .null, .null, .int 0, .null, .int 0, .int 0, .int 0, .int 0, .int 0, .int 0, .int 0, .int 0, .int 0, .long 0, .long 0, .long 0, .null, .null, .null, .null, .null, .int 0, .null])) :: W1) H := by rw [hW1]; exact hP
  have hD : va_D A ((h0, .inr (6, [.null, .null, .null, .null, .int 0, .null, .int 0, .int 0, .int 0, .int 0, .int 0, .int 0, .int 0, .int 0, .int 0, .long 0, .long 0, .long 0, .null, .null, .null, .null, .null, .int 0, .null])) :: W1) := by rw [hW1]; exact hD
  refine W.widen (k := 1) (n := 183) (by omega) (by omega) ?_
  refine va_putF (D := D) (ci := 6) (v := .ref q8) (ty := .array .int) (C := RX6) (T := TX6) (N := 25) hx hb hts (fun w h => List.mem_cons_of_mem _ (wiX6 w h)) tyX6 tyX6_ok nmX6 hown hK hP hD hS 0 rfl rfl 0 (by decide) (hts (Cond.fieldLink RX6 7 "ParrotHeirsModel" "st" "[I") (List.mem_cons_of_mem _ (wdM_0_in _ (List.mem_of_getElem? (i := 4) rfl)))) (fun _ h9 => h9) rfl hin rfl (by decide +kernel) rfl rfl (Nat.le_of_ble_eq_true rfl) dX6_init_10 (fun H locs hP hD hS => ?_)
  have hP : va_P D vwCl ((h0, .inr (6, [.ref q8, .null, .null, .null, .int 0, .null, .int 0, .int 0, .int 0, .int 0, .int 0, .int 0, .int 0, .int 0, .int 0, .long 0, .long 0, .long 0, .null, .null, .null, .null, .null, .int 0, .null])) :: W1) H := hP
  have hD : va_D A ((h0, .inr (6, [.ref q8, .null, .null, .null, .int 0, .null, .int 0, .int 0, .int 0, .int 0, .int 0, .int 0, .int 0, .int 0, .int 0, .long 0, .long 0, .long 0, .null, .null, .null, .null, .null, .int 0, .null])) :: W1) := hD
  refine lv_aload_n hx hb dX6_init_13 rfl (lv_at hl 0 rfl) ?_
  refine lv_bipush (v := 61) hx hb dX6_init_14 (by decide) ?_
  refine cx_newa (D := D) (cA := cA) hx hb (hts (Cond.arrayClass .int) (List.mem_cons_of_mem _ (wdM_0_in _ (List.mem_of_getElem? (i := 9) rfl)))) rfl hK 0 rfl hP hD hS hA 61 (fun _ => rfl) (by decide) (by decide) (by decide) (Nat.le_of_ble_eq_true rfl) (Nat.le_of_ble_eq_true rfl) dX6_init_16 (fun q16 H hP hD hS => ?_)
  obtain ⟨W2, hW2⟩ : ∃ W2, W2 = W1 ++ [(q16, .inl (cA 0, 61, .inl (fun _ => 0)))] := ⟨_, rfl⟩
  have hP : va_P D vwCl ((h0, .inr (6, [.ref q8, .null, .null, .null, .int 0, .null, .int 0, .int 0, .int 0, .int 0, .int 0, .int 0, .int 0, .int 0, .int 0, .long 0, .long 0, .long 0, .null, .null, .null, .null, .null, .int 0, .null])) :: W2) H := by rw [hW2]; exact hP
  have hD : va_D A ((h0, .inr (6, [.ref q8, .null, .null, .null, .int 0, .null, .int 0, .int 0, .int 0, .int 0, .int 0, .int 0, .int 0, .int 0, .int 0, .long 0, .long 0, .long 0, .null, .null, .null, .null, .null, .int 0, .null])) :: W2) := by rw [hW2]; exact hD
  refine W.widen (k := 2) (n := 244) (by omega) (by omega) ?_
  refine va_putF (D := D) (ci := 6) (v := .ref q16) (ty := .array .int) (C := RX6) (T := TX6) (N := 25) hx hb hts (fun w h => List.mem_cons_of_mem _ (wiX6 w h)) tyX6 tyX6_ok nmX6 hown hK hP hD hS 0 rfl rfl 1 (by decide) (hts (Cond.fieldLink RX6 13 "ParrotHeirsModel" "now" "[I") (List.mem_cons_of_mem _ (wdM_0_in _ (List.mem_of_getElem? (i := 10) rfl)))) (fun _ h9 => h9) rfl hin rfl (by decide +kernel) rfl rfl (Nat.le_of_ble_eq_true rfl) dX6_init_18 (fun H locs hP hD hS => ?_)
  have hP : va_P D vwCl ((h0, .inr (6, [.ref q8, .ref q16, .null, .null, .int 0, .null, .int 0, .int 0, .int 0, .int 0, .int 0, .int 0, .int 0, .int 0, .int 0, .long 0, .long 0, .long 0, .null, .null, .null, .null, .null, .int 0, .null])) :: W2) H := hP
  have hD : va_D A ((h0, .inr (6, [.ref q8, .ref q16, .null, .null, .int 0, .null, .int 0, .int 0, .int 0, .int 0, .int 0, .int 0, .int 0, .int 0, .int 0, .long 0, .long 0, .long 0, .null, .null, .null, .null, .null, .int 0, .null])) :: W2) := hD
  refine lv_aload_n hx hb dX6_init_21 rfl (lv_at hl 0 rfl) ?_
  refine lv_iconst (v := 2) hx hb dX6_init_22 (by decide) ?_
  refine cx_newa (D := D) (cA := cA) hx hb (hts (Cond.arrayClass .boolean) (List.mem_cons_of_mem _ (wdM_0_in _ (List.mem_of_getElem? (i := 11) rfl)))) rfl hK 2 rfl hP hD hS hA 2 (fun _ => rfl) (by decide) (by decide) (by decide) (Nat.le_of_ble_eq_true rfl) (Nat.le_of_ble_eq_true rfl) dX6_init_23 (fun q23 H hP hD hS => ?_)
  obtain ⟨W3, hW3⟩ : ∃ W3, W3 = W2 ++ [(q23, .inl (cA 2, 2, .inl (fun _ => 0)))] := ⟨_, rfl⟩
  have hP : va_P D vwCl ((h0, .inr (6, [.ref q8, .ref q16, .null, .null, .int 0, .null, .int 0, .int 0, .int 0, .int 0, .int 0, .int 0, .int 0, .int 0, .int 0, .long 0, .long 0, .long 0, .null, .null, .null, .null, .null, .int 0, .null])) :: W3) H := by rw [hW3]; exact hP
  have hD : va_D A ((h0, .inr (6, [.ref q8, .ref q16, .null, .null, .int 0, .null, .int 0, .int 0, .int 0, .int 0, .int 0, .int 0, .int 0, .int 0, .int 0, .long 0, .long 0, .long 0, .null, .null, .null, .null, .null, .int 0, .null])) :: W3) := by rw [hW3]; exact hD
  refine W.widen (k := 3) (n := 246) (by omega) (by omega) ?_
  refine va_putF (D := D) (ci := 6) (v := .ref q23) (ty := .array .boolean) (C := RX6) (T := TX6) (N := 25) hx hb hts (fun w h => List.mem_cons_of_mem _ (wiX6 w h)) tyX6 tyX6_ok nmX6 hown hK hP hD hS 0 rfl rfl 2 (by decide) (hts (Cond.fieldLink RX6 16 "ParrotHeirsModel" "isKept" "[Z") (List.mem_cons_of_mem _ (wdM_0_in _ (List.mem_of_getElem? (i := 5) rfl)))) (fun _ h9 => h9) rfl hin rfl (by decide +kernel) rfl rfl (Nat.le_of_ble_eq_true rfl) dX6_init_25 (fun H locs hP hD hS => ?_)
  have hP : va_P D vwCl ((h0, .inr (6, [.ref q8, .ref q16, .ref q23, .null, .int 0, .null, .int 0, .int 0, .int 0, .int 0, .int 0, .int 0, .int 0, .int 0, .int 0, .long 0, .long 0, .long 0, .null, .null, .null, .null, .null, .int 0, .null])) :: W3) H := hP
  have hD : va_D A ((h0, .inr (6, [.ref q8, .ref q16, .ref q23, .null, .int 0, .null, .int 0, .int 0, .int 0, .int 0, .int 0, .int 0, .int 0, .int 0, .int 0, .long 0, .long 0, .long 0, .null, .null, .null, .null, .null, .int 0, .null])) :: W3) := hD
  refine lv_aload_n hx hb dX6_init_28 rfl (lv_at hl 0 rfl) ?_
  refine lv_bipush (v := 61) hx hb dX6_init_29 (by decide) ?_
  refine cx_newa (D := D) (cA := cA) hx hb (hts (Cond.arrayClass .int) (List.mem_cons_of_mem _ (wdM_0_in _ (List.mem_of_getElem? (i := 9) rfl)))) rfl hK 0 rfl hP hD hS hA 61 (fun _ => rfl) (by decide) (by decide) (by decide) (Nat.le_of_ble_eq_true rfl) (Nat.le_of_ble_eq_true rfl) dX6_init_31 (fun q31 H hP hD hS => ?_)
  obtain ⟨W4, hW4⟩ : ∃ W4, W4 = W3 ++ [(q31, .inl (cA 0, 61, .inl (fun _ => 0)))] := ⟨_, rfl⟩
  have hP : va_P D vwCl ((h0, .inr (6, [.ref q8, .ref q16, .ref q23, .null, .int 0, .null, .int 0, .int 0, .int 0, .int 0, .int 0, .int 0, .int 0, .int 0, .int 0, .long 0, .long 0, .long 0, .null, .null, .null, .null, .null, .int 0, .null])) :: W4) H := by rw [hW4]; exact hP
  have hD : va_D A ((h0, .inr (6, [.ref q8, .ref q16, .ref q23, .null, .int 0, .null, .int 0, .int 0, .int 0, .int 0, .int 0, .int 0, .int 0, .int 0, .int 0, .long 0, .long 0, .long 0, .null, .null, .null, .null, .null, .int 0, .null])) :: W4) := by rw [hW4]; exact hD
  refine W.widen (k := 4) (n := 307) (by omega) (by omega) ?_
  refine va_putF (D := D) (ci := 6) (v := .ref q31) (ty := .array .int) (C := RX6) (T := TX6) (N := 25) hx hb hts (fun w h => List.mem_cons_of_mem _ (wiX6 w h)) tyX6 tyX6_ok nmX6 hown hK hP hD hS 0 rfl rfl 3 (by decide) (hts (Cond.fieldLink RX6 20 "ParrotHeirsModel" "draft" "[I") (List.mem_cons_of_mem _ (wdM_0_in _ (List.mem_of_getElem? (i := 1) rfl)))) (fun _ h9 => h9) rfl hin rfl (by decide +kernel) rfl rfl (Nat.le_of_ble_eq_true rfl) dX6_init_33 (fun H locs hP hD hS => ?_)
  have hP : va_P D vwCl ((h0, .inr (6, [.ref q8, .ref q16, .ref q23, .ref q31, .int 0, .null, .int 0, .int 0, .int 0, .int 0, .int 0, .int 0, .int 0, .int 0, .int 0, .long 0, .long 0, .long 0, .null, .null, .null, .null, .null, .int 0, .null])) :: W4) H := hP
  have hD : va_D A ((h0, .inr (6, [.ref q8, .ref q16, .ref q23, .ref q31, .int 0, .null, .int 0, .int 0, .int 0, .int 0, .int 0, .int 0, .int 0, .int 0, .int 0, .long 0, .long 0, .long 0, .null, .null, .null, .null, .null, .int 0, .null])) :: W4) := hD
  refine lv_aload_n hx hb dX6_init_36 rfl (lv_at hl 0 rfl) ?_
  refine lv_sipush (v := 160) hx hb dX6_init_37 (by decide) ?_
  refine cx_newa (D := D) (cA := cA) hx hb (hts (Cond.arrayClass .int) (List.mem_cons_of_mem _ (wdM_0_in _ (List.mem_of_getElem? (i := 9) rfl)))) rfl hK 0 rfl hP hD hS hA 160 (fun _ => rfl) (by decide) (by decide) (by decide) (Nat.le_of_ble_eq_true rfl) (Nat.le_of_ble_eq_true rfl) dX6_init_40 (fun q40 H hP hD hS => ?_)
  obtain ⟨W5, hW5⟩ : ∃ W5, W5 = W4 ++ [(q40, .inl (cA 0, 160, .inl (fun _ => 0)))] := ⟨_, rfl⟩
  have hP : va_P D vwCl ((h0, .inr (6, [.ref q8, .ref q16, .ref q23, .ref q31, .int 0, .null, .int 0, .int 0, .int 0, .int 0, .int 0, .int 0, .int 0, .int 0, .int 0, .long 0, .long 0, .long 0, .null, .null, .null, .null, .null, .int 0, .null])) :: W5) H := by rw [hW5]; exact hP
  have hD : va_D A ((h0, .inr (6, [.ref q8, .ref q16, .ref q23, .ref q31, .int 0, .null, .int 0, .int 0, .int 0, .int 0, .int 0, .int 0, .int 0, .int 0, .int 0, .long 0, .long 0, .long 0, .null, .null, .null, .null, .null, .int 0, .null])) :: W5) := by rw [hW5]; exact hD
  refine W.widen (k := 5) (n := 467) (by omega) (by omega) ?_
  refine va_putF (D := D) (ci := 6) (v := .ref q40) (ty := .array .int) (C := RX6) (T := TX6) (N := 25) hx hb hts (fun w h => List.mem_cons_of_mem _ (wiX6 w h)) tyX6 tyX6_ok nmX6 hown hK hP hD hS 0 rfl rfl 5 (by decide) (hts (Cond.fieldLink RX6 23 "ParrotHeirsModel" "tape" "[I") (List.mem_cons_of_mem _ (wdM_0_in _ (List.mem_of_getElem? (i := 12) rfl)))) (fun _ h9 => h9) rfl hin rfl (by decide +kernel) rfl rfl (Nat.le_of_ble_eq_true rfl) dX6_init_42 (fun H locs hP hD hS => ?_)
  have hP : va_P D vwCl ((h0, .inr (6, [.ref q8, .ref q16, .ref q23, .ref q31, .int 0, .ref q40, .int 0, .int 0, .int 0, .int 0, .int 0, .int 0, .int 0, .int 0, .int 0, .long 0, .long 0, .long 0, .null, .null, .null, .null, .null, .int 0, .null])) :: W5) H := hP
  have hD : va_D A ((h0, .inr (6, [.ref q8, .ref q16, .ref q23, .ref q31, .int 0, .ref q40, .int 0, .int 0, .int 0, .int 0, .int 0, .int 0, .int 0, .int 0, .int 0, .long 0, .long 0, .long 0, .null, .null, .null, .null, .null, .int 0, .null])) :: W5) := hD
  refine lv_aload_n hx hb dX6_init_45 rfl (lv_at hl 0 rfl) ?_
  refine lv_bipush (v := 21) hx hb dX6_init_46 (by decide) ?_
  refine cx_newa (D := D) (cA := cA) hx hb (hts (Cond.arrayClass .int) (List.mem_cons_of_mem _ (wdM_0_in _ (List.mem_of_getElem? (i := 9) rfl)))) rfl hK 0 rfl hP hD hS hA 21 (fun _ => rfl) (by decide) (by decide) (by decide) (Nat.le_of_ble_eq_true rfl) (Nat.le_of_ble_eq_true rfl) dX6_init_48 (fun q48 H hP hD hS => ?_)
  obtain ⟨W6, hW6⟩ : ∃ W6, W6 = W5 ++ [(q48, .inl (cA 0, 21, .inl (fun _ => 0)))] := ⟨_, rfl⟩
  have hP : va_P D vwCl ((h0, .inr (6, [.ref q8, .ref q16, .ref q23, .ref q31, .int 0, .ref q40, .int 0, .int 0, .int 0, .int 0, .int 0, .int 0, .int 0, .int 0, .int 0, .long 0, .long 0, .long 0, .null, .null, .null, .null, .null, .int 0, .null])) :: W6) H := by rw [hW6]; exact hP
  have hD : va_D A ((h0, .inr (6, [.ref q8, .ref q16, .ref q23, .ref q31, .int 0, .ref q40, .int 0, .int 0, .int 0, .int 0, .int 0, .int 0, .int 0, .int 0, .int 0, .long 0, .long 0, .long 0, .null, .null, .null, .null, .null, .int 0, .null])) :: W6) := by rw [hW6]; exact hD
  refine W.widen (k := 6) (n := 488) (by omega) (by omega) ?_
  refine va_putF (D := D) (ci := 6) (v := .ref q48) (ty := .array .int) (C := RX6) (T := TX6) (N := 25) hx hb hts (fun w h => List.mem_cons_of_mem _ (wiX6 w h)) tyX6 tyX6_ok nmX6 hown hK hP hD hS 0 rfl rfl 18 (by decide) (hts (Cond.fieldLink RX6 26 "ParrotHeirsModel" "said" "[I") (List.mem_cons_of_mem _ (wdM_0_in _ (List.mem_of_getElem? (i := 13) rfl)))) (fun _ h9 => h9) rfl hin rfl (by decide +kernel) rfl rfl (Nat.le_of_ble_eq_true rfl) dX6_init_50 (fun H locs hP hD hS => ?_)
  have hP : va_P D vwCl ((h0, .inr (6, [.ref q8, .ref q16, .ref q23, .ref q31, .int 0, .ref q40, .int 0, .int 0, .int 0, .int 0, .int 0, .int 0, .int 0, .int 0, .int 0, .long 0, .long 0, .long 0, .ref q48, .null, .null, .null, .null, .int 0, .null])) :: W6) H := hP
  have hD : va_D A ((h0, .inr (6, [.ref q8, .ref q16, .ref q23, .ref q31, .int 0, .ref q40, .int 0, .int 0, .int 0, .int 0, .int 0, .int 0, .int 0, .int 0, .int 0, .long 0, .long 0, .long 0, .ref q48, .null, .null, .null, .null, .int 0, .null])) :: W6) := hD
  refine lv_aload_n hx hb dX6_init_53 rfl (lv_at hl 0 rfl) ?_
  refine lv_sipush (v := 210) hx hb dX6_init_54 (by decide) ?_
  refine cx_newa (D := D) (cA := cA) hx hb (hts (Cond.arrayClass .int) (List.mem_cons_of_mem _ (wdM_0_in _ (List.mem_of_getElem? (i := 9) rfl)))) rfl hK 0 rfl hP hD hS hA 210 (fun _ => rfl) (by decide) (by decide) (by decide) (Nat.le_of_ble_eq_true rfl) (Nat.le_of_ble_eq_true rfl) dX6_init_57 (fun q57 H hP hD hS => ?_)
  obtain ⟨W7, hW7⟩ : ∃ W7, W7 = W6 ++ [(q57, .inl (cA 0, 210, .inl (fun _ => 0)))] := ⟨_, rfl⟩
  have hP : va_P D vwCl ((h0, .inr (6, [.ref q8, .ref q16, .ref q23, .ref q31, .int 0, .ref q40, .int 0, .int 0, .int 0, .int 0, .int 0, .int 0, .int 0, .int 0, .int 0, .long 0, .long 0, .long 0, .ref q48, .null, .null, .null, .null, .int 0, .null])) :: W7) H := by rw [hW7]; exact hP
  have hD : va_D A ((h0, .inr (6, [.ref q8, .ref q16, .ref q23, .ref q31, .int 0, .ref q40, .int 0, .int 0, .int 0, .int 0, .int 0, .int 0, .int 0, .int 0, .int 0, .long 0, .long 0, .long 0, .ref q48, .null, .null, .null, .null, .int 0, .null])) :: W7) := by rw [hW7]; exact hD
  refine W.widen (k := 7) (n := 698) (by omega) (by omega) ?_
  refine va_putF (D := D) (ci := 6) (v := .ref q57) (ty := .array .int) (C := RX6) (T := TX6) (N := 25) hx hb hts (fun w h => List.mem_cons_of_mem _ (wiX6 w h)) tyX6 tyX6_ok nmX6 hown hK hP hD hS 0 rfl rfl 19 (by decide) (hts (Cond.fieldLink RX6 29 "ParrotHeirsModel" "bySound" "[I") (List.mem_cons_of_mem _ (wdM_0_in _ (List.mem_of_getElem? (i := 14) rfl)))) (fun _ h9 => h9) rfl hin rfl (by decide +kernel) rfl rfl (Nat.le_of_ble_eq_true rfl) dX6_init_59 (fun H locs hP hD hS => ?_)
  have hP : va_P D vwCl ((h0, .inr (6, [.ref q8, .ref q16, .ref q23, .ref q31, .int 0, .ref q40, .int 0, .int 0, .int 0, .int 0, .int 0, .int 0, .int 0, .int 0, .int 0, .long 0, .long 0, .long 0, .ref q48, .ref q57, .null, .null, .null, .int 0, .null])) :: W7) H := hP
  have hD : va_D A ((h0, .inr (6, [.ref q8, .ref q16, .ref q23, .ref q31, .int 0, .ref q40, .int 0, .int 0, .int 0, .int 0, .int 0, .int 0, .int 0, .int 0, .int 0, .long 0, .long 0, .long 0, .ref q48, .ref q57, .null, .null, .null, .int 0, .null])) :: W7) := hD
  refine lv_aload_n hx hb dX6_init_62 rfl (lv_at hl 0 rfl) ?_
  refine lv_iconst (v := 4) hx hb dX6_init_63 (by decide) ?_
  refine cx_newa (D := D) (cA := cA) hx hb (hts (Cond.arrayClass .int) (List.mem_cons_of_mem _ (wdM_0_in _ (List.mem_of_getElem? (i := 9) rfl)))) rfl hK 0 rfl hP hD hS hA 4 (fun _ => rfl) (by decide) (by decide) (by decide) (Nat.le_of_ble_eq_true rfl) (Nat.le_of_ble_eq_true rfl) dX6_init_64 (fun q64 H hP hD hS => ?_)
  obtain ⟨W8, hW8⟩ : ∃ W8, W8 = W7 ++ [(q64, .inl (cA 0, 4, .inl (fun _ => 0)))] := ⟨_, rfl⟩
  have hP : va_P D vwCl ((h0, .inr (6, [.ref q8, .ref q16, .ref q23, .ref q31, .int 0, .ref q40, .int 0, .int 0, .int 0, .int 0, .int 0, .int 0, .int 0, .int 0, .int 0, .long 0, .long 0, .long 0, .ref q48, .ref q57, .null, .null, .null, .int 0, .null])) :: W8) H := by rw [hW8]; exact hP
  have hD : va_D A ((h0, .inr (6, [.ref q8, .ref q16, .ref q23, .ref q31, .int 0, .ref q40, .int 0, .int 0, .int 0, .int 0, .int 0, .int 0, .int 0, .int 0, .int 0, .long 0, .long 0, .long 0, .ref q48, .ref q57, .null, .null, .null, .int 0, .null])) :: W8) := by rw [hW8]; exact hD
  refine W.widen (k := 8) (n := 702) (by omega) (by omega) ?_
  refine va_putF (D := D) (ci := 6) (v := .ref q64) (ty := .array .int) (C := RX6) (T := TX6) (N := 25) hx hb hts (fun w h => List.mem_cons_of_mem _ (wiX6 w h)) tyX6 tyX6_ok nmX6 hown hK hP hD hS 0 rfl rfl 20 (by decide) (hts (Cond.fieldLink RX6 32 "ParrotHeirsModel" "lanes" "[I") (List.mem_cons_of_mem _ (wdM_0_in _ (List.mem_of_getElem? (i := 15) rfl)))) (fun _ h9 => h9) rfl hin rfl (by decide +kernel) rfl rfl (Nat.le_of_ble_eq_true rfl) dX6_init_66 (fun H locs hP hD hS => ?_)
  have hP : va_P D vwCl ((h0, .inr (6, [.ref q8, .ref q16, .ref q23, .ref q31, .int 0, .ref q40, .int 0, .int 0, .int 0, .int 0, .int 0, .int 0, .int 0, .int 0, .int 0, .long 0, .long 0, .long 0, .ref q48, .ref q57, .ref q64, .null, .null, .int 0, .null])) :: W8) H := hP
  have hD : va_D A ((h0, .inr (6, [.ref q8, .ref q16, .ref q23, .ref q31, .int 0, .ref q40, .int 0, .int 0, .int 0, .int 0, .int 0, .int 0, .int 0, .int 0, .int 0, .long 0, .long 0, .long 0, .ref q48, .ref q57, .ref q64, .null, .null, .int 0, .null])) :: W8) := hD
  refine lv_aload_n hx hb dX6_init_69 rfl (lv_at hl 0 rfl) ?_
  refine lv_iconst (v := 4) hx hb dX6_init_70 (by decide) ?_
  refine cx_newa (D := D) (cA := cA) hx hb (hts (Cond.arrayClass .int) (List.mem_cons_of_mem _ (wdM_0_in _ (List.mem_of_getElem? (i := 9) rfl)))) rfl hK 0 rfl hP hD hS hA 4 (fun _ => rfl) (by decide) (by decide) (by decide) (Nat.le_of_ble_eq_true rfl) (Nat.le_of_ble_eq_true rfl) dX6_init_71 (fun q71 H hP hD hS => ?_)
  obtain ⟨W9, hW9⟩ : ∃ W9, W9 = W8 ++ [(q71, .inl (cA 0, 4, .inl (fun _ => 0)))] := ⟨_, rfl⟩
  have hP : va_P D vwCl ((h0, .inr (6, [.ref q8, .ref q16, .ref q23, .ref q31, .int 0, .ref q40, .int 0, .int 0, .int 0, .int 0, .int 0, .int 0, .int 0, .int 0, .int 0, .long 0, .long 0, .long 0, .ref q48, .ref q57, .ref q64, .null, .null, .int 0, .null])) :: W9) H := by rw [hW9]; exact hP
  have hD : va_D A ((h0, .inr (6, [.ref q8, .ref q16, .ref q23, .ref q31, .int 0, .ref q40, .int 0, .int 0, .int 0, .int 0, .int 0, .int 0, .int 0, .int 0, .int 0, .long 0, .long 0, .long 0, .ref q48, .ref q57, .ref q64, .null, .null, .int 0, .null])) :: W9) := by rw [hW9]; exact hD
  refine W.widen (k := 9) (n := 706) (by omega) (by omega) ?_
  refine va_putF (D := D) (ci := 6) (v := .ref q71) (ty := .array .int) (C := RX6) (T := TX6) (N := 25) hx hb hts (fun w h => List.mem_cons_of_mem _ (wiX6 w h)) tyX6 tyX6_ok nmX6 hown hK hP hD hS 0 rfl rfl 21 (by decide) (hts (Cond.fieldLink RX6 35 "ParrotHeirsModel" "sizes" "[I") (List.mem_cons_of_mem _ (wdM_0_in _ (List.mem_of_getElem? (i := 16) rfl)))) (fun _ h9 => h9) rfl hin rfl (by decide +kernel) rfl rfl (Nat.le_of_ble_eq_true rfl) dX6_init_73 (fun H locs hP hD hS => ?_)
  have hP : va_P D vwCl ((h0, .inr (6, [.ref q8, .ref q16, .ref q23, .ref q31, .int 0, .ref q40, .int 0, .int 0, .int 0, .int 0, .int 0, .int 0, .int 0, .int 0, .int 0, .long 0, .long 0, .long 0, .ref q48, .ref q57, .ref q64, .ref q71, .null, .int 0, .null])) :: W9) H := hP
  have hD : va_D A ((h0, .inr (6, [.ref q8, .ref q16, .ref q23, .ref q31, .int 0, .ref q40, .int 0, .int 0, .int 0, .int 0, .int 0, .int 0, .int 0, .int 0, .int 0, .long 0, .long 0, .long 0, .ref q48, .ref q57, .ref q64, .ref q71, .null, .int 0, .null])) :: W9) := hD
  refine lv_aload_n hx hb dX6_init_76 rfl (lv_at hl 0 rfl) ?_
  refine lv_sipush (v := 160) hx hb dX6_init_77 (by decide) ?_
  refine cx_newa (D := D) (cA := cA) hx hb (hts (Cond.arrayClass .int) (List.mem_cons_of_mem _ (wdM_0_in _ (List.mem_of_getElem? (i := 9) rfl)))) rfl hK 0 rfl hP hD hS hA 160 (fun _ => rfl) (by decide) (by decide) (by decide) (Nat.le_of_ble_eq_true rfl) (Nat.le_of_ble_eq_true rfl) dX6_init_80 (fun q80 H hP hD hS => ?_)
  obtain ⟨W10, hW10⟩ : ∃ W10, W10 = W9 ++ [(q80, .inl (cA 0, 160, .inl (fun _ => 0)))] := ⟨_, rfl⟩
  have hP : va_P D vwCl ((h0, .inr (6, [.ref q8, .ref q16, .ref q23, .ref q31, .int 0, .ref q40, .int 0, .int 0, .int 0, .int 0, .int 0, .int 0, .int 0, .int 0, .int 0, .long 0, .long 0, .long 0, .ref q48, .ref q57, .ref q64, .ref q71, .null, .int 0, .null])) :: W10) H := by rw [hW10]; exact hP
  have hD : va_D A ((h0, .inr (6, [.ref q8, .ref q16, .ref q23, .ref q31, .int 0, .ref q40, .int 0, .int 0, .int 0, .int 0, .int 0, .int 0, .int 0, .int 0, .int 0, .long 0, .long 0, .long 0, .ref q48, .ref q57, .ref q64, .ref q71, .null, .int 0, .null])) :: W10) := by rw [hW10]; exact hD
  refine W.widen (k := 10) (n := 866) (by omega) (by omega) ?_
  refine va_putF (D := D) (ci := 6) (v := .ref q80) (ty := .array .int) (C := RX6) (T := TX6) (N := 25) hx hb hts (fun w h => List.mem_cons_of_mem _ (wiX6 w h)) tyX6 tyX6_ok nmX6 hown hK hP hD hS 0 rfl rfl 22 (by decide) (hts (Cond.fieldLink RX6 38 "ParrotHeirsModel" "cells" "[I") (List.mem_cons_of_mem _ (wdM_0_in _ (List.mem_of_getElem? (i := 17) rfl)))) (fun _ h9 => h9) rfl hin rfl (by decide +kernel) rfl rfl (Nat.le_of_ble_eq_true rfl) dX6_init_82 (fun H locs hP hD hS => ?_)
  have hP : va_P D vwCl ((h0, .inr (6, [.ref q8, .ref q16, .ref q23, .ref q31, .int 0, .ref q40, .int 0, .int 0, .int 0, .int 0, .int 0, .int 0, .int 0, .int 0, .int 0, .long 0, .long 0, .long 0, .ref q48, .ref q57, .ref q64, .ref q71, .ref q80, .int 0, .null])) :: W10) H := hP
  have hD : va_D A ((h0, .inr (6, [.ref q8, .ref q16, .ref q23, .ref q31, .int 0, .ref q40, .int 0, .int 0, .int 0, .int 0, .int 0, .int 0, .int 0, .int 0, .int 0, .long 0, .long 0, .long 0, .ref q48, .ref q57, .ref q64, .ref q71, .ref q80, .int 0, .null])) :: W10) := hD
  refine lv_aload_n hx hb dX6_init_85 rfl (lv_at hl 0 rfl) ?_
  refine lv_bipush (v := 61) hx hb dX6_init_86 (by decide) ?_
  refine cx_newa (D := D) (cA := cA) hx hb (hts (Cond.arrayClass .int) (List.mem_cons_of_mem _ (wdM_0_in _ (List.mem_of_getElem? (i := 9) rfl)))) rfl hK 0 rfl hP hD hS hA 61 (fun _ => rfl) (by decide) (by decide) (by decide) (Nat.le_of_ble_eq_true rfl) (Nat.le_of_ble_eq_true rfl) dX6_init_88 (fun q88 H hP hD hS => ?_)
  obtain ⟨W11, hW11⟩ : ∃ W11, W11 = W10 ++ [(q88, .inl (cA 0, 61, .inl (fun _ => 0)))] := ⟨_, rfl⟩
  have hP : va_P D vwCl ((h0, .inr (6, [.ref q8, .ref q16, .ref q23, .ref q31, .int 0, .ref q40, .int 0, .int 0, .int 0, .int 0, .int 0, .int 0, .int 0, .int 0, .int 0, .long 0, .long 0, .long 0, .ref q48, .ref q57, .ref q64, .ref q71, .ref q80, .int 0, .null])) :: W11) H := by rw [hW11]; exact hP
  have hD : va_D A ((h0, .inr (6, [.ref q8, .ref q16, .ref q23, .ref q31, .int 0, .ref q40, .int 0, .int 0, .int 0, .int 0, .int 0, .int 0, .int 0, .int 0, .int 0, .long 0, .long 0, .long 0, .ref q48, .ref q57, .ref q64, .ref q71, .ref q80, .int 0, .null])) :: W11) := by rw [hW11]; exact hD
  refine W.widen (k := 11) (n := 927) (by omega) (by omega) ?_
  refine va_putF (D := D) (ci := 6) (v := .ref q88) (ty := .array .int) (C := RX6) (T := TX6) (N := 25) hx hb hts (fun w h => List.mem_cons_of_mem _ (wiX6 w h)) tyX6 tyX6_ok nmX6 hown hK hP hD hS 0 rfl rfl 24 (by decide) (hts (Cond.fieldLink RX6 41 "ParrotHeirsModel" "before" "[I") (List.mem_cons_of_mem _ (wdM_0_in _ (List.mem_of_getElem? (i := 18) rfl)))) (fun _ h9 => h9) rfl hin rfl (by decide +kernel) rfl rfl (Nat.le_of_ble_eq_true rfl) dX6_init_90 (fun H locs hP hD hS => ?_)
  have hP : va_P D vwCl ((h0, .inr (6, [.ref q8, .ref q16, .ref q23, .ref q31, .int 0, .ref q40, .int 0, .int 0, .int 0, .int 0, .int 0, .int 0, .int 0, .int 0, .int 0, .long 0, .long 0, .long 0, .ref q48, .ref q57, .ref q64, .ref q71, .ref q80, .int 0, .ref q88])) :: W11) H := hP
  have hD : va_D A ((h0, .inr (6, [.ref q8, .ref q16, .ref q23, .ref q31, .int 0, .ref q40, .int 0, .int 0, .int 0, .int 0, .int 0, .int 0, .int 0, .int 0, .int 0, .long 0, .long 0, .long 0, .ref q48, .ref q57, .ref q64, .ref q71, .ref q80, .int 0, .ref q88])) :: W11) := hD
  rw [hW11, hW10, hW9, hW8, hW7, hW6, hW5, hW4, hW3, hW2, hW1, hW0] at hP hD
  have hP : va_P D vwCl ([(h0, .inr (6, [.ref q8, .ref q16, .ref q23, .ref q31, .int 0, .ref q40, .int 0, .int 0, .int 0, .int 0, .int 0, .int 0, .int 0, .int 0, .int 0, .long 0, .long 0, .long 0, .ref q48, .ref q57, .ref q64, .ref q71, .ref q80, .int 0, .ref q88])), (q8, .inl (cA 0, 183, .inl (fun _ => 0))), (q16, .inl (cA 0, 61, .inl (fun _ => 0))), (q23, .inl (cA 2, 2, .inl (fun _ => 0))), (q31, .inl (cA 0, 61, .inl (fun _ => 0))), (q40, .inl (cA 0, 160, .inl (fun _ => 0))), (q48, .inl (cA 0, 21, .inl (fun _ => 0))), (q57, .inl (cA 0, 210, .inl (fun _ => 0))), (q64, .inl (cA 0, 4, .inl (fun _ => 0))), (q71, .inl (cA 0, 4, .inl (fun _ => 0))), (q80, .inl (cA 0, 160, .inl (fun _ => 0))), (q88, .inl (cA 0, 61, .inl (fun _ => 0)))]) H := hP
  have hD : va_D A ([(h0, .inr (6, [.ref q8, .ref q16, .ref q23, .ref q31, .int 0, .ref q40, .int 0, .int 0, .int 0, .int 0, .int 0, .int 0, .int 0, .int 0, .int 0, .long 0, .long 0, .long 0, .ref q48, .ref q57, .ref q64, .ref q71, .ref q80, .int 0, .ref q88])), (q8, .inl (cA 0, 183, .inl (fun _ => 0))), (q16, .inl (cA 0, 61, .inl (fun _ => 0))), (q23, .inl (cA 2, 2, .inl (fun _ => 0))), (q31, .inl (cA 0, 61, .inl (fun _ => 0))), (q40, .inl (cA 0, 160, .inl (fun _ => 0))), (q48, .inl (cA 0, 21, .inl (fun _ => 0))), (q57, .inl (cA 0, 210, .inl (fun _ => 0))), (q64, .inl (cA 0, 4, .inl (fun _ => 0))), (q71, .inl (cA 0, 4, .inl (fun _ => 0))), (q80, .inl (cA 0, 160, .inl (fun _ => 0))), (q88, .inl (cA 0, 61, .inl (fun _ => 0)))]) := hD
  refine lv_iconst (v := 0) hx hb dX6_init_93 (by decide) ?_
  refine lv_istore_n (lv' := [(1, .int 0), (0, .ref h0)]) hx hb dX6_init_94 rfl hl (by decide) rfl (fun ls hl => ?_)
  refine lv_iload_n hx hb dX6_init_95 rfl (lv_at hl 0 rfl) ?_
  refine lv_iconst (v := 4) hx hb dX6_init_96 (by decide) ?_
  refine lv_icmp_ge (tgt := 114) hx hb dX6_init_97 (by decide) (fun z => absurd z (by decide)) (fun _ => ?_)
  refine lv_aload_n hx hb dX6_init_100 rfl (lv_at hl 1 rfl) ?_
  refine va_get (D := D) (ci := 6) (v := .ref q64) (C := RX6) (T := TX6) (N := 25) hx hb hts (fun w h => List.mem_cons_of_mem _ (wiX6 w h)) hown hK hP 0 rfl rfl 20 (by decide) (hts (Cond.fieldLink RX6 32 "ParrotHeirsModel" "lanes" "[I") (List.mem_cons_of_mem _ (wdM_0_in _ (List.mem_of_getElem? (i := 15) rfl)))) (fun _ h9 => h9) rfl dX6_init_101 ?_
  refine lv_iload_n hx hb dX6_init_104 rfl (lv_at hl 0 rfl) ?_
  refine lv_bipush (v := (-4)) hx hb dX6_init_105 (by decide) ?_
  refine va_iast hx hb hK hP hD hS 8 0 rfl rfl (vpin 0 4 rfl (by omega) (by omega)) dX6_init_107 (fun H locs hP hD hS => ?_)
  have hP : va_P D vwCl ([(h0, .inr (6, [.ref q8, .ref q16, .ref q23, .ref q31, .int 0, .ref q40, .int 0, .int 0, .int 0, .int 0, .int 0, .int 0, .int 0, .int 0, .int 0, .long 0, .long 0, .long 0, .ref q48, .ref q57, .ref q64, .ref q71, .ref q80, .int 0, .ref q88])), (q8, .inl (cA 0, 183, .inl (fun _ => 0))), (q16, .inl (cA 0, 61, .inl (fun _ => 0))), (q23, .inl (cA 2, 2, .inl (fun _ => 0))), (q31, .inl (cA 0, 61, .inl (fun _ => 0))), (q40, .inl (cA 0, 160, .inl (fun _ => 0))), (q48, .inl (cA 0, 21, .inl (fun _ => 0))), (q57, .inl (cA 0, 210, .inl (fun _ => 0))), (q64, .inl (cA 0, 4, .inl (upd (fun _ => 0) (0 : Int32).toNatClampNeg (-4)))), (q71, .inl (cA 0, 4, .inl (fun _ => 0))), (q80, .inl (cA 0, 160, .inl (fun _ => 0))), (q88, .inl (cA 0, 61, .inl (fun _ => 0)))]) H := hP
  have hD : va_D A ([(h0, .inr (6, [.ref q8, .ref q16, .ref q23, .ref q31, .int 0, .ref q40, .int 0, .int 0, .int 0, .int 0, .int 0, .int 0, .int 0, .int 0, .int 0, .long 0, .long 0, .long 0, .ref q48, .ref q57, .ref q64, .ref q71, .ref q80, .int 0, .ref q88])), (q8, .inl (cA 0, 183, .inl (fun _ => 0))), (q16, .inl (cA 0, 61, .inl (fun _ => 0))), (q23, .inl (cA 2, 2, .inl (fun _ => 0))), (q31, .inl (cA 0, 61, .inl (fun _ => 0))), (q40, .inl (cA 0, 160, .inl (fun _ => 0))), (q48, .inl (cA 0, 21, .inl (fun _ => 0))), (q57, .inl (cA 0, 210, .inl (fun _ => 0))), (q64, .inl (cA 0, 4, .inl (upd (fun _ => 0) (0 : Int32).toNatClampNeg (-4)))), (q71, .inl (cA 0, 4, .inl (fun _ => 0))), (q80, .inl (cA 0, 160, .inl (fun _ => 0))), (q88, .inl (cA 0, 61, .inl (fun _ => 0)))]) := hD
  refine lv_iinc (k := 0) (v := 1) (lv' := [(1, .int 1), (0, .ref h0)]) hx hb dX6_init_108 hl rfl (by decide) (by decide) rfl (fun ls hl => ?_)
  refine lv_goto (tgt := 95) hx hb dX6_init_111 (by decide) ?_
  refine lv_iload_n hx hb dX6_init_95 rfl (lv_at hl 0 rfl) ?_
  refine lv_iconst (v := 4) hx hb dX6_init_96 (by decide) ?_
  refine lv_icmp_ge (tgt := 114) hx hb dX6_init_97 (by decide) (fun z => absurd z (by decide)) (fun _ => ?_)
  refine lv_aload_n hx hb dX6_init_100 rfl (lv_at hl 1 rfl) ?_
  refine va_get (D := D) (ci := 6) (v := .ref q64) (C := RX6) (T := TX6) (N := 25) hx hb hts (fun w h => List.mem_cons_of_mem _ (wiX6 w h)) hown hK hP 0 rfl rfl 20 (by decide) (hts (Cond.fieldLink RX6 32 "ParrotHeirsModel" "lanes" "[I") (List.mem_cons_of_mem _ (wdM_0_in _ (List.mem_of_getElem? (i := 15) rfl)))) (fun _ h9 => h9) rfl dX6_init_101 ?_
  refine lv_iload_n hx hb dX6_init_104 rfl (lv_at hl 0 rfl) ?_
  refine lv_bipush (v := (-4)) hx hb dX6_init_105 (by decide) ?_
  refine va_iast hx hb hK hP hD hS 8 0 rfl rfl (vpin 1 4 rfl (by omega) (by omega)) dX6_init_107 (fun H locs hP hD hS => ?_)
  have hP : va_P D vwCl ([(h0, .inr (6, [.ref q8, .ref q16, .ref q23, .ref q31, .int 0, .ref q40, .int 0, .int 0, .int 0, .int 0, .int 0, .int 0, .int 0, .int 0, .int 0, .long 0, .long 0, .long 0, .ref q48, .ref q57, .ref q64, .ref q71, .ref q80, .int 0, .ref q88])), (q8, .inl (cA 0, 183, .inl (fun _ => 0))), (q16, .inl (cA 0, 61, .inl (fun _ => 0))), (q23, .inl (cA 2, 2, .inl (fun _ => 0))), (q31, .inl (cA 0, 61, .inl (fun _ => 0))), (q40, .inl (cA 0, 160, .inl (fun _ => 0))), (q48, .inl (cA 0, 21, .inl (fun _ => 0))), (q57, .inl (cA 0, 210, .inl (fun _ => 0))), (q64, .inl (cA 0, 4, .inl (upd (upd (fun _ => 0) (0 : Int32).toNatClampNeg (-4)) (1 : Int32).toNatClampNeg (-4)))), (q71, .inl (cA 0, 4, .inl (fun _ => 0))), (q80, .inl (cA 0, 160, .inl (fun _ => 0))), (q88, .inl (cA 0, 61, .inl (fun _ => 0)))]) H := hP
  have hD : va_D A ([(h0, .inr (6, [.ref q8, .ref q16, .ref q23, .ref q31, .int 0, .ref q40, .int 0, .int 0, .int 0, .int 0, .int 0, .int 0, .int 0, .int 0, .int 0, .long 0, .long 0, .long 0, .ref q48, .ref q57, .ref q64, .ref q71, .ref q80, .int 0, .ref q88])), (q8, .inl (cA 0, 183, .inl (fun _ => 0))), (q16, .inl (cA 0, 61, .inl (fun _ => 0))), (q23, .inl (cA 2, 2, .inl (fun _ => 0))), (q31, .inl (cA 0, 61, .inl (fun _ => 0))), (q40, .inl (cA 0, 160, .inl (fun _ => 0))), (q48, .inl (cA 0, 21, .inl (fun _ => 0))), (q57, .inl (cA 0, 210, .inl (fun _ => 0))), (q64, .inl (cA 0, 4, .inl (upd (upd (fun _ => 0) (0 : Int32).toNatClampNeg (-4)) (1 : Int32).toNatClampNeg (-4)))), (q71, .inl (cA 0, 4, .inl (fun _ => 0))), (q80, .inl (cA 0, 160, .inl (fun _ => 0))), (q88, .inl (cA 0, 61, .inl (fun _ => 0)))]) := hD
  refine lv_iinc (k := 0) (v := 2) (lv' := [(1, .int 2), (0, .ref h0)]) hx hb dX6_init_108 hl rfl (by decide) (by decide) rfl (fun ls hl => ?_)
  refine lv_goto (tgt := 95) hx hb dX6_init_111 (by decide) ?_
  refine lv_iload_n hx hb dX6_init_95 rfl (lv_at hl 0 rfl) ?_
  refine lv_iconst (v := 4) hx hb dX6_init_96 (by decide) ?_
  refine lv_icmp_ge (tgt := 114) hx hb dX6_init_97 (by decide) (fun z => absurd z (by decide)) (fun _ => ?_)
  refine lv_aload_n hx hb dX6_init_100 rfl (lv_at hl 1 rfl) ?_
  refine va_get (D := D) (ci := 6) (v := .ref q64) (C := RX6) (T := TX6) (N := 25) hx hb hts (fun w h => List.mem_cons_of_mem _ (wiX6 w h)) hown hK hP 0 rfl rfl 20 (by decide) (hts (Cond.fieldLink RX6 32 "ParrotHeirsModel" "lanes" "[I") (List.mem_cons_of_mem _ (wdM_0_in _ (List.mem_of_getElem? (i := 15) rfl)))) (fun _ h9 => h9) rfl dX6_init_101 ?_
  refine lv_iload_n hx hb dX6_init_104 rfl (lv_at hl 0 rfl) ?_
  refine lv_bipush (v := (-4)) hx hb dX6_init_105 (by decide) ?_
  refine va_iast hx hb hK hP hD hS 8 0 rfl rfl (vpin 2 4 rfl (by omega) (by omega)) dX6_init_107 (fun H locs hP hD hS => ?_)
  have hP : va_P D vwCl ([(h0, .inr (6, [.ref q8, .ref q16, .ref q23, .ref q31, .int 0, .ref q40, .int 0, .int 0, .int 0, .int 0, .int 0, .int 0, .int 0, .int 0, .int 0, .long 0, .long 0, .long 0, .ref q48, .ref q57, .ref q64, .ref q71, .ref q80, .int 0, .ref q88])), (q8, .inl (cA 0, 183, .inl (fun _ => 0))), (q16, .inl (cA 0, 61, .inl (fun _ => 0))), (q23, .inl (cA 2, 2, .inl (fun _ => 0))), (q31, .inl (cA 0, 61, .inl (fun _ => 0))), (q40, .inl (cA 0, 160, .inl (fun _ => 0))), (q48, .inl (cA 0, 21, .inl (fun _ => 0))), (q57, .inl (cA 0, 210, .inl (fun _ => 0))), (q64, .inl (cA 0, 4, .inl (upd (upd (upd (fun _ => 0) (0 : Int32).toNatClampNeg (-4)) (1 : Int32).toNatClampNeg (-4)) (2 : Int32).toNatClampNeg (-4)))), (q71, .inl (cA 0, 4, .inl (fun _ => 0))), (q80, .inl (cA 0, 160, .inl (fun _ => 0))), (q88, .inl (cA 0, 61, .inl (fun _ => 0)))]) H := hP
  have hD : va_D A ([(h0, .inr (6, [.ref q8, .ref q16, .ref q23, .ref q31, .int 0, .ref q40, .int 0, .int 0, .int 0, .int 0, .int 0, .int 0, .int 0, .int 0, .int 0, .long 0, .long 0, .long 0, .ref q48, .ref q57, .ref q64, .ref q71, .ref q80, .int 0, .ref q88])), (q8, .inl (cA 0, 183, .inl (fun _ => 0))), (q16, .inl (cA 0, 61, .inl (fun _ => 0))), (q23, .inl (cA 2, 2, .inl (fun _ => 0))), (q31, .inl (cA 0, 61, .inl (fun _ => 0))), (q40, .inl (cA 0, 160, .inl (fun _ => 0))), (q48, .inl (cA 0, 21, .inl (fun _ => 0))), (q57, .inl (cA 0, 210, .inl (fun _ => 0))), (q64, .inl (cA 0, 4, .inl (upd (upd (upd (fun _ => 0) (0 : Int32).toNatClampNeg (-4)) (1 : Int32).toNatClampNeg (-4)) (2 : Int32).toNatClampNeg (-4)))), (q71, .inl (cA 0, 4, .inl (fun _ => 0))), (q80, .inl (cA 0, 160, .inl (fun _ => 0))), (q88, .inl (cA 0, 61, .inl (fun _ => 0)))]) := hD
  refine lv_iinc (k := 0) (v := 3) (lv' := [(1, .int 3), (0, .ref h0)]) hx hb dX6_init_108 hl rfl (by decide) (by decide) rfl (fun ls hl => ?_)
  refine lv_goto (tgt := 95) hx hb dX6_init_111 (by decide) ?_
  refine lv_iload_n hx hb dX6_init_95 rfl (lv_at hl 0 rfl) ?_
  refine lv_iconst (v := 4) hx hb dX6_init_96 (by decide) ?_
  refine lv_icmp_ge (tgt := 114) hx hb dX6_init_97 (by decide) (fun z => absurd z (by decide)) (fun _ => ?_)
  refine lv_aload_n hx hb dX6_init_100 rfl (lv_at hl 1 rfl) ?_
  refine va_get (D := D) (ci := 6) (v := .ref q64) (C := RX6) (T := TX6) (N := 25) hx hb hts (fun w h => List.mem_cons_of_mem _ (wiX6 w h)) hown hK hP 0 rfl rfl 20 (by decide) (hts (Cond.fieldLink RX6 32 "ParrotHeirsModel" "lanes" "[I") (List.mem_cons_of_mem _ (wdM_0_in _ (List.mem_of_getElem? (i := 15) rfl)))) (fun _ h9 => h9) rfl dX6_init_101 ?_
  refine lv_iload_n hx hb dX6_init_104 rfl (lv_at hl 0 rfl) ?_
  refine lv_bipush (v := (-4)) hx hb dX6_init_105 (by decide) ?_
  refine va_iast hx hb hK hP hD hS 8 0 rfl rfl (vpin 3 4 rfl (by omega) (by omega)) dX6_init_107 (fun H locs hP hD hS => ?_)
  have hP : va_P D vwCl ([(h0, .inr (6, [.ref q8, .ref q16, .ref q23, .ref q31, .int 0, .ref q40, .int 0, .int 0, .int 0, .int 0, .int 0, .int 0, .int 0, .int 0, .int 0, .long 0, .long 0, .long 0, .ref q48, .ref q57, .ref q64, .ref q71, .ref q80, .int 0, .ref q88])), (q8, .inl (cA 0, 183, .inl (fun _ => 0))), (q16, .inl (cA 0, 61, .inl (fun _ => 0))), (q23, .inl (cA 2, 2, .inl (fun _ => 0))), (q31, .inl (cA 0, 61, .inl (fun _ => 0))), (q40, .inl (cA 0, 160, .inl (fun _ => 0))), (q48, .inl (cA 0, 21, .inl (fun _ => 0))), (q57, .inl (cA 0, 210, .inl (fun _ => 0))), (q64, .inl (cA 0, 4, .inl (upd (upd (upd (upd (fun _ => 0) (0 : Int32).toNatClampNeg (-4)) (1 : Int32).toNatClampNeg (-4)) (2 : Int32).toNatClampNeg (-4)) (3 : Int32).toNatClampNeg (-4)))), (q71, .inl (cA 0, 4, .inl (fun _ => 0))), (q80, .inl (cA 0, 160, .inl (fun _ => 0))), (q88, .inl (cA 0, 61, .inl (fun _ => 0)))]) H := hP
  have hD : va_D A ([(h0, .inr (6, [.ref q8, .ref q16, .ref q23, .ref q31, .int 0, .ref q40, .int 0, .int 0, .int 0, .int 0, .int 0, .int 0, .int 0, .int 0, .int 0, .long 0, .long 0, .long 0, .ref q48, .ref q57, .ref q64, .ref q71, .ref q80, .int 0, .ref q88])), (q8, .inl (cA 0, 183, .inl (fun _ => 0))), (q16, .inl (cA 0, 61, .inl (fun _ => 0))), (q23, .inl (cA 2, 2, .inl (fun _ => 0))), (q31, .inl (cA 0, 61, .inl (fun _ => 0))), (q40, .inl (cA 0, 160, .inl (fun _ => 0))), (q48, .inl (cA 0, 21, .inl (fun _ => 0))), (q57, .inl (cA 0, 210, .inl (fun _ => 0))), (q64, .inl (cA 0, 4, .inl (upd (upd (upd (upd (fun _ => 0) (0 : Int32).toNatClampNeg (-4)) (1 : Int32).toNatClampNeg (-4)) (2 : Int32).toNatClampNeg (-4)) (3 : Int32).toNatClampNeg (-4)))), (q71, .inl (cA 0, 4, .inl (fun _ => 0))), (q80, .inl (cA 0, 160, .inl (fun _ => 0))), (q88, .inl (cA 0, 61, .inl (fun _ => 0)))]) := hD
  refine lv_iinc (k := 0) (v := 4) (lv' := [(1, .int 4), (0, .ref h0)]) hx hb dX6_init_108 hl rfl (by decide) (by decide) rfl (fun ls hl => ?_)
  refine lv_goto (tgt := 95) hx hb dX6_init_111 (by decide) ?_
  refine lv_iload_n hx hb dX6_init_95 rfl (lv_at hl 0 rfl) ?_
  refine lv_iconst (v := 4) hx hb dX6_init_96 (by decide) ?_
  refine lv_icmp_ge (tgt := 114) hx hb dX6_init_97 (by decide) (fun _ => ?_) (fun z => absurd (by decide) z)
  obtain ⟨q, hq⟩ : ∃ q : Nat → Nat, q = fun k => if k < 100 then ([h0, q8, q16, q23, q31, q40, q48, q57, q64, q71, q80, q88] : List Nat).getD k 0 else q0 k := ⟨_, rfl⟩
  have hP : va_P D vwCl (LM cA q) H := by rw [hq]; exact hP
  have hD : va_D A (LM cA q) := by rw [hq]; exact hD
  have hq0 : q 0 = h0 := by rw [hq]; rfl
  have hq1 : ∀ k, 100 ≤ k → q k = q0 k := fun k hk => by rw [hq]; show (if k < 100 then _ else q0 k) = q0 k; rw [if_neg (by omega)]
  obtain ⟨hP, hD⟩ := LM_w hP hD
  rw [← hq0] at hl
  refine lv_aload_n hx hb dX6_init_114 rfl (lv_at hl 1 rfl) ?_
  refine cx_cont (va_runV (g := F0 m 115 ls [.ref (q 0)]) (As := []) (rest := []) (b := q 0) ⟨hx, hb, hml, hown, hts⟩ (mX6_firstDraft () l D cA q [.ref 0] sM1 H.size ⟨rfl, trivial⟩) (px_cwV wgM (wdM_0_in _ (List.mem_of_getElem? (i := 19) rfl)) (wdM_0_in _ (List.mem_of_getElem? (i := 20) rfl)) (wdM_0_in _ (List.mem_of_getElem? (i := 21) rfl)) (wdM_0_in _ (List.mem_of_getElem? (i := 22) rfl)) (wdM_0_in _ (List.mem_of_getElem? (i := 0) rfl)) (by decide +kernel) rfl rfl ⟨Nat.le_of_ble_eq_true rfl, Nat.le_of_ble_eq_true rfl⟩ hts) ⟨px_blind, va_recv hK hP (show vwCl[6]? = some (RX6, TX6, 25) from rfl) (px_w_get (d := dM) (k := 0) (Nat.le_of_ble_eq_true rfl)), fun U hU hW => ⟨rfl, by rw [hU], by rw [hU]; exact hP, ⟨va_K.moved hW.alike hK, (hNw.moved hW hU hS (px_hF hD hS hA)).cg hq1⟩, hD.weaken (fun _ _ _ _ => trivial)⟩⟩ rfl rfl hl.1 rfl (lv_room (Nat.le_of_ble_eq_true rfl)) dX6_init_115 ⟨Nat.le_of_ble_eq_true rfl, Nat.le_of_ble_eq_true rfl⟩) hS (px_hF hD hS hA) (fun _ σ2 H locs h2 hP hS _ _ => ?_)
  have hD : va_D A (px_w dM cA q σ2) := px_D_any hD
  refine lv_aload_n hx hb dX6_init_118 rfl (lv_at hl 1 rfl) ?_
  refine cx_cont (va_runV (g := F0 m 119 ls [.ref (q 0)]) (As := []) (rest := []) (b := q 0) ⟨hx, hb, hml, hown, hts⟩ (mX6_keepDraft () l D cA q [.ref 0] σ2 H.size ⟨rfl, trivial⟩) (px_cwV wgM (wdM_0_in _ (List.mem_of_getElem? (i := 23) rfl)) (wdM_0_in _ (List.mem_of_getElem? (i := 24) rfl)) (wdM_0_in _ (List.mem_of_getElem? (i := 25) rfl)) (wdM_0_in _ (List.mem_of_getElem? (i := 22) rfl)) (wdM_0_in _ (List.mem_of_getElem? (i := 3) rfl)) (by decide +kernel) rfl rfl ⟨Nat.le_of_ble_eq_true rfl, Nat.le_of_ble_eq_true rfl⟩ hts) ⟨px_blind, va_recv hK hP (show vwCl[6]? = some (RX6, TX6, 25) from rfl) (px_w_get (d := dM) (k := 0) (Nat.le_of_ble_eq_true rfl)), fun U hU hW => ⟨rfl, by rw [hU], by rw [hU]; exact hP, ⟨va_K.moved hW.alike hK, (hNw.moved hW hU hS (px_hF hD hS hA)).cg hq1⟩, hD.weaken (fun _ _ _ _ => trivial)⟩⟩ rfl rfl hl.1 rfl (lv_room (Nat.le_of_ble_eq_true rfl)) dX6_init_119 ⟨Nat.le_of_ble_eq_true rfl, Nat.le_of_ble_eq_true rfl⟩) hS (px_hF hD hS hA) (fun _ σ3 H locs h3 hP hS _ _ => ?_)
  have hD : va_D A (px_w dM cA q σ3) := px_D_any hD
  have hmo := mo_new h2 h3
  exact W.vret hx hb hr (fun t ht hW => ⟨⟨(), rfl, trivial, q, σ3, hq0, hq1, hmo, by rw [ht]; exact hP, hD⟩, hS.F ht⟩) hS.2.2 dX6_init_122
