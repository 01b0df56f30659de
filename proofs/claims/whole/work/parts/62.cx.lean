/-! ===== constructors: links between nest mates, a world that grows ===== -/
def cx_n (U : State) : Prop := va_Nw (.methodLinkNest RX5 9 yX0_init RX5) U ∧ va_Nw (.methodLinkNest RX5 18 yX2_init RX5) U ∧ va_Nw (.methodLinkNest RX5 42 yX4_init RX5) U ∧ va_Nw (.methodLinkNest RX5 59 yX1_init RX5) U ∧ va_Nw (.methodLinkNest RX5 60 yX3_init RX5) U ∧ va_Nw (.methodLinkNest RX1 9 yX0_init RX5) U ∧ va_Nw (.methodLinkNest RX1 18 yX2_init RX5) U ∧ va_Nw (.methodLinkNest RX4 17 yX0_init RX5) U ∧ va_AO "ParrotHeirs$Image" U ∧ va_AO "ParrotHeirs$Sheet" U
theorem cx_n.moved {s U : State} (hW : s.WarmedH U.vm) (h : cx_n s) : cx_n U := by
  obtain ⟨h1, h2, h3, h4, h5, h6, h7, h8, h9, h10⟩ := h
  exact ⟨va_Nw.warmM hW h1, va_Nw.warmM hW h2, va_Nw.warmM hW h3, va_Nw.warmM hW h4, va_Nw.warmM hW h5, va_Nw.warmM hW h6, va_Nw.warmM hW h7, va_Nw.warmM hW h8, va_AO.moved hW.alike h9, va_AO.moved hW.alike h10⟩
theorem cx_n.same {s U : State} (hv : s.vm = U.vm) (h : cx_n s) : cx_n U := by
  obtain ⟨h1, h2, h3, h4, h5, h6, h7, h8, h9, h10⟩ := h
  have ha : s.vm.Alike U.vm := by rw [hv]; exact Vm.Alike.refl _
  exact ⟨va_tabs rfl hv h1, va_tabs rfl hv h2, va_tabs rfl hv h3, va_tabs rfl hv h4, va_tabs rfl hv h5, va_tabs rfl hv h6, va_tabs rfl hv h7, va_tabs rfl hv h8, va_AO.moved ha h9, va_AO.moved ha h10⟩
def cx_Pc (D : va_G) (cA : Nat → ClassId) (h0 ci : Nat) (fs : List Value) (sz : Nat) : Array Value → State → Prop := va_Pc [.ref h0] (fun U => U.heap.size = sz ∧ va_P D vwCl [(h0, .inr (ci, fs))] U.heap ∧ (va_K D vwCl (px_tys cA) U ∧ cx_n U) ∧ va_D (fun _ => True) [(h0, .inr (ci, fs))])
/-- a constructor's contract: its object, with the fields at their first values, comes to be the world w -/
def cx_Met (y : MethodName) (ws : List Cond) (rm : Room) (ci : Nat) (fs : List Value) {S : Type} (w : (Nat → ClassId) → Nat → S → va_W) (mc ms : Nat) : Prop := ∀ (l : Launch) (D : va_G) (cA : Nat → ClassId) (h0 sz : Nat), Met l y ws rm (cx_Pc D cA h0 ci fs sz) (va_Qv (fun _ : S => True) (fun u t => va_P D vwCl (w cA h0 u) t.heap ∧ va_D (va_A [(h0, .inr (ci, fs))] sz) (w cA h0 u)) (va_A [(h0, .inr (ci, fs))] sz)) mc ms (va_A [(h0, .inr (ci, fs))] sz)
theorem cx_blind {D : va_G} {cA : Nat → ClassId} {h0 ci : Nat} {fs : List Value} {sz : Nat} : FrameBlind (cx_Pc D cA h0 ci fs sz) := fun a U g mk h => by
  obtain ⟨h1, h2, h3, h4, h5⟩ := h
  exact ⟨h1, h2, h3, ⟨va_K.moved (u := U) (U := U.calling g mk a) (Vm.Alike.refl U.vm) h4.1, h4.2.same rfl⟩, h5⟩
theorem cx_join {A0 : Nat → Prop} {D : va_G} {cl : List vw_C} {ws w1 : va_W} {x : Nat × va_E} {H H1 : Heap} (hP : va_P D cl (ws ++ [x]) H) (hD : va_D A0 (ws ++ [x])) (hk : ∀ q : Nat, q < H.size → ¬ va_A [x] H.size q → H1[q]? = H[q]?) (hF : ∀ q, va_A [x] H.size q → A0 q) (hP1 : va_P D cl w1 H1) (hD1 : va_D (va_A [x] H.size) w1) : va_P D cl (ws ++ w1) H1 ∧ va_D A0 (ws ++ w1) := by
  have up : ∀ (k : Nat) (y : Nat × va_E), ws[k]? = some y → (ws ++ [x])[k]? = some y ∧ k < ws.length := fun k y h => by
    have hl := (List.getElem?_eq_some_iff.mp h).1
    exact ⟨by rw [List.getElem?_append_left hl]; exact h, hl⟩
  have hx : (ws ++ [x])[ws.length]? = some x := by rw [List.getElem?_append_right (Nat.le_refl _), Nat.sub_self]; rfl
  have no : ∀ (k : Nat) (y : Nat × va_E), ws[k]? = some y → ¬ va_A [x] H.size y.1 := fun k y h hz => by
    obtain ⟨h1, hl⟩ := up k y h
    rcases hz with ⟨i, e, hi⟩ | hz
    · have hi0 : i < 1 := (List.getElem?_eq_some_iff.mp hi).1
      have hi1 : i = 0 := by omega
      subst hi1
      have e1 : x = (y.1, e) := Option.some.inj hi
      have := hD.1 k ws.length y x h1 hx (by rw [e1])
      omega
    · have := (hP k y h1).lt
      omega
  have hPw : va_P D cl ws H := fun k y h => hP k y (up k y h).1
  have hDw : va_D A0 ws := ⟨fun i j p q hi hj hpq => hD.1 i j p q (up i p hi).1 (up j q hj).1 hpq, fun k y h => hD.2 k y (up k y h).1⟩
  refine ⟨(hPw.kept (fun k y h => hk y.1 (hPw k y h).lt (no k y h))).app hP1, hDw.app (hD1.weaken (fun _ _ _ h => hF _ h)) (fun i j y z hi hj hyz => no i y hi ?_)⟩
  rw [hyz]
  exact hD1.2 j z hj
theorem cx_newa {p : Program} {l : Launch} {e : Env} {R : Room} {s : State} {m : MethodId} {args : Array Value} {below : List Frame} {meth : Method} {c : Code} {H : Heap} {locs : List Loc} {cells slots : Nat} {Q : State → Prop} {cc : ByteArray} {pc : Nat} {ls : Array Slot} {rest : List Value} {D : va_G} {cA : Nat → ClassId} {ws : va_W} {A : Nat → Prop} (hx : p.tables.exec = Jvm.exec) (hb : c.code = cc) {atype : ArrayType} {ty : FieldType} (harr : (Cond.arrayClass ty).before args s = true) (hty : newarray.typeOf atype = ty) (hK : va_K D vwCl (px_tys cA) s) (t : Nat) (ht : (px_tys cA)[t]? = some (cA t, ty)) (hP : va_P D vwCl ws H) (hD : va_D A ws) (hS : va_S A s.heap H locs) (hA : ∀ q, s.heap.size ≤ q → A q)
    {n : Int32} (N' : Nat) (ha : ∀ c : ClassId, vp_cell c (N', .inl (fun _ => 0)) = arrV c N' (fun _ => defaultValue ty)) (hn : ¬ n < 0) (hN : n.toNatClampNeg = N') (hbytes : N' * componentBytes ty ≤ 536870912) (hcells : cells + 1 ≤ R.cells) (hslots : slots + N' ≤ R.slots) (hdg : decode cc pc = .ok (.newarray atype, 2))
    (kk : ∀ (q : Nat) (H1 : Heap), va_P D vwCl (ws ++ [(q, .inl (cA t, N', .inl (fun _ => 0)))]) H1 → va_D A (ws ++ [(q, .inl (cA t, N', .inl (fun _ => 0)))]) → va_S A s.heap H1 locs →
      W p l e R s m args below meth c H1 locs (cells + 1) (slots + N') Q (F0 m (pc + 2) ls (.ref q :: rest))) : W p l e R s m args below meth c H locs cells slots Q (F0 m pc ls (.int n :: rest)) := by
  refine va_newa hx hb (by rw [hty]; exact harr) hty hK hP hD hS hA ha hn hN hbytes hcells hslots hdg (fun q c1 H1 hK1 hP1 hD1 hS1 => ?_)
  have e1 : c1 = cA t := px_one hK1 (i := t) (j := 5) (by rw [List.getElem?_append_left (List.getElem?_eq_some_iff.mp ht).1]; exact ht) rfl
  subst e1
  exact kk q H1 hP1 hD1 hS1
theorem cx_newq {p : Program} {l : Launch} {e : Env} {R : Room} {s : State} {m : MethodId} {args : Array Value} {below : List Frame} {meth : Method} {c : Code} {H : Heap} {locs : List Loc} {cells slots : Nat} {Q : State → Prop} {cc : ByteArray} {pc : Nat} {ls : Array Slot} {rest : List Value} {D : va_G} {cA : Nat → ClassId} {ws : va_W} {A : Nat → Prop} (hx : p.tables.exec = Jvm.exec) (hb : c.code = cc) {own C : String} {index : Nat} (hown : s.vm.findClass own = some m.cls) (hclink : (Cond.classLink own index C).before args s = true) (hover : va_AO C s) (hK : va_K D vwCl (px_tys cA) s) (t : Nat) (ht : (px_tys cA)[t]? = some (cA t, .object C)) (hP : va_P D vwCl ws H) (hD : va_D A ws) (hS : va_S A s.heap H locs) (hA : ∀ q, s.heap.size ≤ q → A q)
    {n : Int32} (N' : Nat) (hn : ¬ n < 0) (hN : n.toNatClampNeg = N') (hbytes : N' * 4 ≤ 536870912) (hcells : cells + 1 ≤ R.cells) (hslots : slots + N' ≤ R.slots) (hdg : decode cc pc = .ok (.anewarray index, 3))
    (kk : ∀ (q : Nat) (H1 : Heap), va_P D vwCl (ws ++ [(q, .inl (cA t, N', .inr (.inr (.inr (.inr (fun _ => none))))))]) H1 → va_D A (ws ++ [(q, .inl (cA t, N', .inr (.inr (.inr (.inr (fun _ => none))))))]) → va_S A s.heap H1 locs →
      W p l e R s m args below meth c H1 locs (cells + 1) (slots + N') Q (F0 m (pc + 3) ls (.ref q :: rest))) : W p l e R s m args below meth c H locs cells slots Q (F0 m pc ls (.int n :: rest)) := by
  refine va_newq hx hb hown hclink hover hK hP hD hS hA hn hN hbytes hcells hslots hdg (fun q c1 H1 hK1 hP1 hD1 hS1 => ?_)
  have e1 : c1 = cA t := px_one hK1 (i := t) (j := 5) (by rw [List.getElem?_append_left (List.getElem?_eq_some_iff.mp ht).1]; exact ht) rfl
  subst e1
  exact kk q H1 hP1 hD1 hS1
/-- new C, dup, C.<init>() -/
theorem cx_new {p : Program} {l : Launch} {e : Env} {R : Room} {s : State} {m : MethodId} {args : Array Value} {below : List Frame} {meth : Method} {c : Code} {H : Heap} {locs : List Loc} {cells slots : Nat} {Q : State → Prop} {cc : ByteArray} {pc nL : Nat} {ls : Array Slot} {rest : List Value} {D : va_G} {cA : Nat → ClassId} {ws : va_W} {A : Nat → Prop} {own C : String} {T : u_T} {N ci index i2 maxL mc ms : Nat} {Ts wsy ws' : List Cond} {y : MethodName} {bytes : ByteArray} {rm : Room} {S : Type} {w : (Nat → ClassId) → Nat → S → va_W} {fs : List Value}
    (S0 : CallFix p m c cc nL s args Ts own) (hM : cx_Met y wsy rm ci fs w mc ms) (hin : ∀ w ∈ u_ws C T N, w ∈ Ts) (ty : Nat → FieldType) (hty : ∀ k, k < N → parseFieldDescriptor (T k).2.2.1 = some (ty k)) (hcl : (Cond.classLink own index C).before args s = true) (hinst : (Cond.instantiable C N).before args s = true) (hini : (Cond.initialized C).before args s = true) (hc : vwCl[ci]? = some (C, T, N)) (hfs : ∀ j, j < N → defaultValue (ty j) = vp_V fs j)
    (hy : y.cls = C) (hG : GoodIn Ts wsy) (hw : wsy = Cond.code y bytes maxL none :: ws') (hrc : rm.cells = mc) (hrs : rm.slots = ms) (hl : va_Nw (.methodLinkNest own i2 y RX5) s) (him : (Cond.instanceMethod y).before args s = true) (hy1 : y.name = "<init>") (hd : y.cls ≠ "java/lang/invoke/MethodHandle" ∧ y.cls ≠ "java/lang/invoke/VarHandle" ∧ (parseMethodDescriptor y.desc).map (fun d => d.parameters.length) = some 0) (hR : rm.frames + 1 ≤ R.frames ∧ 8 + (maxL + 11) + rm.locals ≤ R.locals)
    (hK : va_K D vwCl (px_tys cA) s ∧ cx_n s) (hP : va_P D vwCl ws H) (hD : va_D A ws) (hS : va_S A s.heap H locs) (hA : ∀ q, s.heap.size ≤ q → A q) (hls : ls.size = nL) (hcells : cells + 1 + mc ≤ R.cells) (hslots : slots + N + ms ≤ R.slots) (hrest : (rest.map fun v => v.category).sum + 1 ≤ 8)
    (hdg : decode cc pc = .ok (.new index, 3)) (hdg1 : decode cc (pc + 3) = .ok (.dup, 1)) (hdg2 : decode cc (pc + 4) = .ok (.invokespecial i2, 3))
    (kk : ∀ (q : Nat) (u : S) (H1 : Heap) (locs1 : List Loc), va_P D vwCl (ws ++ w cA q u) H1 → va_D A (ws ++ w cA q u) → va_S A s.heap H1 locs1 → W p l e R s m args below meth c H1 locs1 (cells + 1 + mc) (slots + N + ms) Q (F0 m (pc + 7) ls (.ref q :: rest))) : W p l e R s m args below meth c H locs cells slots Q (F0 m pc ls rest) := by
  obtain ⟨hx, hb, hml, hown, hts⟩ := id S0
  refine va_new (fs := fs) hx hb hts hin ty hty hown hcl hinst hini hK.1 hP hD hS hA hc hfs (by omega) (by omega) hdg (fun q H1 hP hD hS => ?_)
  refine lv_dup hx hb hdg1 rfl ?_
  have hx0 : (ws ++ [(q, Sum.inr (ci, fs))])[ws.length]? = some (q, Sum.inr (ci, fs)) := by rw [List.getElem?_append_right (Nat.le_refl _), Nat.sub_self]; rfl
  have hPc : va_P D vwCl [(q, Sum.inr (ci, fs))] H1 := fun k z hk => by
    have hk0 : k < 1 := (List.getElem?_eq_some_iff.mp hk).1
    have hk1 : k = 0 := by omega
    subst hk1
    cases hk
    exact hP _ _ hx0
  have hDc : va_D (fun _ => True) [(q, (Sum.inr (ci, fs) : va_E))] := ⟨fun i j a b hi hj _ => by
    have hi0 : i < 1 := (List.getElem?_eq_some_iff.mp hi).1
    have hj0 : j < 1 := (List.getElem?_eq_some_iff.mp hj).1
    omega, fun _ _ _ => trivial⟩
  have hFc : ∀ x, va_A [(q, (Sum.inr (ci, fs) : va_E))] H1.size x → A x := fun x hz => by
    rcases hz with ⟨i, e, hi⟩ | hz
    · have hi0 : i < 1 := (List.getElem?_eq_some_iff.mp hi).1
      have hi1 : i = 0 := by omega
      subst hi1
      cases hi
      exact hD.2 _ _ hx0
    · exact hA x (Nat.le_trans hS.1 hz)
  refine va_callv (va_runIN (As := []) (rest := .ref q :: rest) (host := RX5) S0 (hM l D cA q H1.size) ⟨va_cnB 0 hts hG hw hrc hrs hl (by rw [hy]; exact hini) hd hR, hy1, him⟩ ⟨cx_blind, fun U hU hW => ⟨rfl, by rw [hU], by rw [hU]; exact hPc, ⟨va_K.moved hW.alike hK.1, hK.2.moved hW⟩, hDc⟩⟩ rfl rfl hls rfl (lv_room (by rw [List.map_cons, List.sum_cons]; show 1 + _ ≤ 8; omega)) hdg2 ⟨hcells, hslots⟩) hS (fun x _ h => hFc x h) hFc (fun u t H2 locs2 ht hvm _ hB hz1 hk1 hS => ?_)
  obtain ⟨hP1, hD1⟩ := hB
  rw [ht] at hP1
  obtain ⟨hP2, hD2⟩ := cx_join hP hD hk1 hFc hP1 hD1
  exact kk q u H2 locs2 hP2 hD2 hS
/-- the last cell comes ahead of the others but the first -/
theorem cx_swapP {D : va_G} {cl : List vw_C} {ws : va_W} {x y : Nat × va_E} {H : Heap} (h : va_P D cl ((x :: ws) ++ [y]) H) : va_P D cl (x :: y :: ws) H := fun k z hk => by
  have hm := List.mem_of_getElem? hk
  have hm2 : z ∈ (x :: ws) ++ [y] := by
    rcases List.mem_cons.mp hm with r | r
    · exact List.mem_append_left _ (by rw [r]; exact List.mem_cons_self)
    · rcases List.mem_cons.mp r with r | r
      · exact List.mem_append_right _ (by rw [r]; exact List.mem_cons_self)
      · exact List.mem_append_left _ (List.mem_cons_of_mem _ r)
  obtain ⟨i, hi⟩ := List.getElem?_of_mem hm2
  exact h i z hi
theorem cx_swapD {A : Nat → Prop} {ws : va_W} {x y : Nat × va_E} (h : va_D A ((x :: ws) ++ [y])) : va_D A (x :: y :: ws) := by
  have key : ∀ (k : Nat) (z : Nat × va_E), (x :: y :: ws)[k]? = some z → ∃ i, ((x :: ws) ++ [y])[i]? = some z ∧ i = (if k = 0 then 0 else if k = 1 then ws.length + 1 else k - 1) ∧ k < ws.length + 2 := by
    intro k z hk
    have hl : k < ws.length + 2 := (List.getElem?_eq_some_iff.mp hk).1
    refine ⟨_, ?_, rfl, hl⟩
    match k, hk with
    | 0, hk => exact hk
    | 1, hk =>
      rw [if_neg (by omega), if_pos rfl, List.getElem?_append_right (by rw [List.length_cons]; omega), List.length_cons, Nat.sub_self]
      exact hk
    | k + 2, hk =>
      rw [if_neg (by omega), if_neg (by omega), show k + 2 - 1 = k + 1 by omega, List.getElem?_append_left (by rw [List.length_cons]; omega)]
      exact hk
  refine ⟨fun i j p q hi hj hpq => ?_, fun k z hk => ?_⟩
  · obtain ⟨i', a1, a2, a3⟩ := key i p hi
    obtain ⟨j', b1, b2, b3⟩ := key j q hj
    have e := h.1 i' j' p q a1 b1 hpq
    rw [a2, b2] at e
    by_cases i0 : i = 0
    · by_cases j0 : j = 0
      · omega
      · rw [if_pos i0, if_neg j0] at e
        by_cases j1 : j = 1
        · rw [if_pos j1] at e; omega
        · rw [if_neg j1] at e; omega
    · by_cases j0 : j = 0
      · rw [if_neg i0, if_pos j0] at e
        by_cases i1 : i = 1
        · rw [if_pos i1] at e; omega
        · rw [if_neg i1] at e; omega
      · rw [if_neg i0, if_neg j0] at e
        by_cases i1 : i = 1
        · by_cases j1 : j = 1
          · omega
          · rw [if_pos i1, if_neg j1] at e; omega
        · by_cases j1 : j = 1
          · rw [if_neg i1, if_pos j1] at e; omega
          · rw [if_neg i1, if_neg j1] at e; omega
  · obtain ⟨i', a1, -, -⟩ := key k z hk
    exact h.2 i' z a1
/-- a world comes to be a store's -/
theorem cx_fin {D : va_G} {A : Nat → Prop} {ws : va_W} {H : Heap} {d : px_D} {cA : Nat → ClassId} {q : Nat → Nat} {σ : px_St} (pl : Nat → Nat) (hP : va_P D vwCl ws H) (hD : va_D A ws) (h : ∀ k, k < d.1 → ws[pl k]? = some (q k, px_cell d cA q σ k)) (hi : ∀ i, i < d.1 → ∀ j, j < d.1 → pl i = pl j → i = j) : va_P D vwCl (px_w d cA q σ) H ∧ va_D A (px_w d cA q σ) := by
  refine ⟨fun k x hk => ?_, fun i j x y hx hy hxy => ?_, fun k x hk => ?_⟩
  · obtain ⟨hl, rfl⟩ := px_w_at hk
    exact hP _ _ (h k hl)
  · obtain ⟨hl, rfl⟩ := px_w_at hx
    obtain ⟨hl2, rfl⟩ := px_w_at hy
    exact hi i hl j hl2 (hD.1 _ _ _ _ (h i hl) (h j hl2) hxy)
  · obtain ⟨hl, rfl⟩ := px_w_at hk
    have h2 := hD.2 _ _ (h k hl)
    exact h2
/-- a method's call, behind which a world of the plan stands; cells are counted -/
theorem cx_cont {p : Program} {l : Launch} {e : Env} {R : Room} {s : State} {m : MethodId} {args : Array Value} {below : List Frame} {meth : Method} {c : Code} {H : Heap} {locs : List Loc} {Q : State → Prop} {pc kc ks : Nat} {ls : Array Slot} {rest st0 : List Value} {a : Array Value} {A : Nat → Prop} {β : Type} {valb : β → Option Value} {pob : β → px_St → Prop} {d : px_D} {D : va_G} {cA : Nat → ClassId} {q : Nat → Nat} {B : Nat → Prop}
    (hr : va_Run p l e R s m args below meth c H locs kc ks 0 0 (F0 m pc ls st0) rest (px_Qc valb pob d D cA q B a) B) (hS : va_S A s.heap H locs) (hF : ∀ x, B x → A x)
    (kk : ∀ (b : β) (σ' : px_St) (H1 : Heap) (locs1 : List Loc), pob b σ' → va_P D vwCl (px_w d cA q σ') H1 → va_S A s.heap H1 locs1 → H.size ≤ H1.size → (∀ x : Nat, x < H.size → ¬ B x → H1[x]? = H[x]?) → W p l e R s m args below meth c H1 locs1 kc ks Q (F0 m (pc + 3) ls ((valb b).toList ++ rest))) : W p l e R s m args below meth c H locs kc ks Q (F0 m pc ls st0) := by
  intro T hT X
  obtain ⟨v, st₀, t, T', L, h0, X', hL, e1, e2, ⟨⟨b, σ', hv, hp, hb⟩, hz, hk⟩, st⟩ := hr T hT X
  cases hv
  rw [h0] at hz hk
  obtain ⟨t2, a1, b1⟩ := kk b σ' T'.heap (locs ++ L) hp (by rw [e1]; exact hb)
    ⟨Nat.le_trans hS.1 (by rw [e1]; exact hz), fun x h1 h2 => by rw [e1, hk x (Nat.lt_of_lt_of_le h1 hS.1) (fun z => h2 (hF x z))]; exact hS.2.1 x h1 h2, fun x hx => by
      rcases List.mem_append.mp hx with h | h
      · exact hS.2.2 x h
      · exact hF _ (hL x h)⟩ (by rw [e1]; exact hz) (fun x h1 h2 => by rw [e1]; exact hk x h1 h2) T' rfl X'
  exact ⟨t2, st t2 a1, b1⟩
