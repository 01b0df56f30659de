/-! ===== the law: its script, calls through the two worlds, a case ===== -/
abbrev lx_A (s : State) : Nat → Prop := fun x => s.heap.size ≤ x
theorem lx_hA (s : State) : ∀ x, s.heap.size ≤ x → lx_A s x := fun _ h => h
/-- the locals of the law's loop -/
abbrev lx_lv (b i : Nat) (q r : Nat → Nat) : List (Nat × Value) := [(3, .int (nI i)), (2, .ref (r 0)), (1, .ref (q 0)), (0, .ref b)]
/-- the first n numbers behind the i-th of the script -/
def lx_as (xs : Nat → Int32) (i n : Nat) : List Value := (List.range n).map (fun j => .int (xs (i + 1 + j)))
theorem lx_as_s (xs : Nat → Int32) (i n : Nat) : (lx_as xs i (n + 1)).reverse = .int (xs (i + 1 + n)) :: (lx_as xs i n).reverse := by
  unfold lx_as
  rw [List.range_succ, List.map_append, List.reverse_append]
  rfl
theorem lx_as_len (xs : Nat → Int32) (i n : Nat) : (lx_as xs i n).length = n := by
  unfold lx_as
  rw [List.length_map, List.length_range]
theorem lx_as_cv (xs : Nat → Int32) (i n : Nat) (q : Nat → Nat) : (lx_as xs i n).map (px_cv q) = lx_as xs i n := by
  unfold lx_as
  rw [List.map_map]
  rfl
/-- one number of the script comes onto the stack -/
def lx_D5 (pc k : Nat) : Prop := decode code pc = .ok (.aload_n 0, 1) ∧ decode code (pc + 1) = .ok (.iload_n 3, 1) ∧ decode code (pc + 2) = .ok (.iconst (k : Int), 1) ∧ decode code (pc + 3) = .ok (.iadd, 1) ∧ decode code (pc + 4) = .ok (.iaload, 1)
theorem lx_arg {p : Program} {l : Launch} {e : Env} {s : State} {m : MethodId} {below : List Frame} {meth : Method} {c : Code} {b L : Nat} {xs : Nat → Int32} {q r : Nat → Nat} {H : Heap} {locs : List Loc} {kc ks : Nat} {Q : State → Prop} {ls : Array Slot} {rest : List Value} {i pc k : Nat} (C : lw_At p s m meth c b L xs) (hL : L ≤ 3072) (hl : lv_has ls 4 (lx_lv b i q r)) (hS : va_S (lx_A s) s.heap H locs) (hd : lx_D5 pc k) (hk : k ≤ 5) (hi : i + 6 ≤ L)
    (kk : W p l e room_1 s m #[Value.ref b] below meth c H locs kc ks Q (F0 m (pc + 5) ls (.int (xs (i + k)) :: rest))) : W p l e room_1 s m #[Value.ref b] below meth c H locs kc ks Q (F0 m pc ls rest) := by
  obtain ⟨hx, hb, hr, hml, hown, hts, hX, hbl, hlocks, hgv⟩ := C
  obtain ⟨h0, h1, h2, h3, h4⟩ := hd
  have hv : Int32.ofInt (k : Int) = nI k := by
    rcases (show k = 0 ∨ k = 1 ∨ k = 2 ∨ k = 3 ∨ k = 4 ∨ k = 5 by omega) with rfl | rfl | rfl | rfl | rfl | rfl <;> rfl
  refine lv_aload_n hx hb h0 rfl (lv_at hl 3 rfl) ?_
  refine lv_iload_n hx hb h1 rfl (lv_at hl 0 rfl) ?_
  refine lv_iconst (v := nI k) hx hb h2 hv ?_
  refine lv_iadd hx hb h3 ?_
  rw [nI_add]
  refine va_sld (A := lx_A s) hx hb hX hbl (Nat.not_le.mpr hbl) hS (vp_in_nI (by omega) (by omega)) h4 ?_
  rw [nI_clamp (by omega)]
  exact kk
theorem lx_args {p : Program} {l : Launch} {e : Env} {s : State} {m : MethodId} {below : List Frame} {meth : Method} {c : Code} {b L : Nat} {xs : Nat → Int32} {q r : Nat → Nat} {H : Heap} {locs : List Loc} {kc ks : Nat} {Q : State → Prop} {ls : Array Slot} {rest : List Value} {i pc : Nat} (C : lw_At p s m meth c b L xs) (hL : L ≤ 3072) (hl : lv_has ls 4 (lx_lv b i q r)) (hS : va_S (lx_A s) s.heap H locs) (hi : i + 6 ≤ L) : ∀ (n : Nat), n ≤ 5 → (∀ j, j < n → lx_D5 (pc + 5 * j) (1 + j)) →
    W p l e room_1 s m #[Value.ref b] below meth c H locs kc ks Q (F0 m (pc + 5 * n) ls ((lx_as xs i n).reverse ++ rest)) → W p l e room_1 s m #[Value.ref b] below meth c H locs kc ks Q (F0 m pc ls rest)
  | 0, _, _, kk => kk
  | n + 1, hn, hd, kk => by
    refine lx_args C hL hl hS hi n (by omega) (fun j hj => hd j (by omega)) ?_
    refine lx_arg C hL hl hS (hd n (by omega)) (by omega) hi ?_
    rw [lx_as_s] at kk
    rw [show i + (1 + n) = i + 1 + n by omega]
    exact kk
/-- a call on one of the two objects; the other's world stays -/
theorem lx_call {p : Program} {l : Launch} {e : Env} {s : State} {m : MethodId} {below : List Frame} {meth : Method} {c : Code} {b L : Nat} {xs : Nat → Int32} {D : va_G} {cA : Nat → ClassId} {d d2 : px_D} {q r : Nat → Nat} {ci N : Nat} {Cn : String} {T : u_T} {ws : List Cond} {γ β : Type} {valb : β → Option Value} {preb : γ → List Value → px_St → Prop} {postb : γ → List Value → px_St → β → px_St → Prop} {y : MethodName} {rm : Room} {bytes : ByteArray} {maxL n index : Nat} {ret : Option FieldType} {pc kc ks : Nat} {ls : Array Slot} {H : Heap} {locs : List Loc} {Q : State → Prop} {σ τ σ0 : px_St}
    (C : lw_At p s m meth c b L xs) (hK : va_K D vwCl (px_tys cA) s) (hN : px_nw q (lx_A s) s) (hD : va_D (lx_A s) (px_w d cA q σ0)) (hdis : ∀ i j, i < d.1 → j < d2.1 → q i ≠ r j) (hC : vwCl[ci]? = some (Cn, T, N)) (h0 : (d.2.1 0).1 = 10 + ci) (h00 : 0 < d.1)
    (hM : ∀ g : γ, px_Met d y ws rm valb (preb g) (postb g)) (g : γ) (hcw : CallW room_1 s #[Value.ref b] R_law Cn index y bytes maxL ret ws rm 0 0 n) (hls : ls.size = 4) (As : List Value) (hAs : As.map (px_cv q) = As) (hlen : As.length = n) (rest : List Value) (hrest : (rest.map fun v => v.category).sum ≤ 8) (hcc : kc ≤ 600000 ∧ ks ≤ 7302250) (hdg : decode code pc = .ok (.invokevirtual index, 3))
    (hP : va_P D vwCl (px_w d cA q σ) H) (hP2 : va_P D vwCl (px_w d2 cA r τ) H) (hS : va_S (lx_A s) s.heap H locs) (hpre : preb g (.ref 0 :: As) σ)
    (kk : ∀ (bb : β) (σ' : px_St) (H1 : Heap) (locs1 : List Loc), postb g (.ref 0 :: As) σ bb σ' → va_P D vwCl (px_w d cA q σ') H1 → va_P D vwCl (px_w d2 cA r τ) H1 → va_S (lx_A s) s.heap H1 locs1 → W p l e room_1 s m #[Value.ref b] below meth c H1 locs1 kc ks Q (F0 m (pc + 3) ls ((valb bb).toList ++ rest))) :
    W p l e room_1 s m #[Value.ref b] below meth c H locs kc ks Q (F0 m pc ls (As.reverse ++ .ref (q 0) :: rest)) := by
  obtain ⟨hx, hb, hr, hml, hown, hts, hX, hbl, hlocks, hgv⟩ := C
  have hD1 : va_D (lx_A s) (px_w d cA q σ) := px_D_any hD
  have hF := px_hF hD1 hS (lx_hA s)
  have he : (px_w d cA q σ)[0]? = some (q 0, .inr (ci, (d.2.2.1 ci (σ.1 0) (σ.2 0) 0).map (px_cv q))) := by rw [px_w_get h00, px_cell_obj h0]
  refine cx_cont (va_runV (g := F0 m pc ls (As.reverse ++ .ref (q 0) :: rest)) (As := As) (rest := rest) (b := q 0) ⟨hx, hb, hml, hown, hts⟩ (hM g l D cA q (.ref 0 :: As) σ H.size hpre) hcw ⟨px_blind, va_recv hK hP hC he, fun U hU hW => ⟨by show (Value.ref (q 0) :: As).toArray = (px_cv q (.ref 0) :: As.map (px_cv q)).toArray; rw [hAs]; rfl, by rw [hU], by rw [hU]; exact hP, ⟨va_K.moved hW.alike hK, hN.moved hW hU hS hF⟩, hD1.weaken (fun _ _ _ _ => trivial)⟩⟩ rfl hlen hls rfl (lv_room hrest) hdg ⟨hcc.1, hcc.2⟩) hS hF (fun bb σ' H1 locs1 hp1 hP1 hS1 hz hk => ?_)
  refine kk bb σ' H1 locs1 hp1 hP1 (hP2.kept (fun k x hkx => ?_)) hS1
  have hlt := (hP2 k x hkx).lt
  refine hk x.1 hlt (fun hz2 => ?_)
  obtain ⟨hl2, ex⟩ := px_w_at hkx
  rcases hz2 with ⟨i, e2, hi⟩ | hz2
  · obtain ⟨hl1, ei⟩ := px_w_at hi
    have e3 : x.1 = q i := congrArg Prod.fst ei
    rw [ex] at e3
    exact hdis i k hl1 hl2 e3.symm
  · omega
/-- what stands through the loop -/
def lx_C (p : Program) (s : State) (m : MethodId) (meth : Method) (c : Code) (b L : Nat) (xs : Nat → Int32) (D : va_G) (cA : Nat → ClassId) (q r : Nat → Nat) : Prop := lw_At p s m meth c b L xs ∧ L ≤ 3072 ∧ (va_K D vwCl (px_tys cA) s ∧ px_nw q (lx_A s) s ∧ px_nw r (lx_A s) s) ∧ (va_D (lx_A s) (px_w dC cA q sC0) ∧ va_D (lx_A s) (px_w dM cA r sC0)) ∧ ∀ i j, i < 57 → j < 12 → q i ≠ r j
/-- the worlds hold one state -/
def lx_w (s : State) (D : va_G) (cA : Nat → ClassId) (q r : Nat → Nat) (X : pv_X) (H : Heap) (locs : List Loc) : Prop := ∃ σ τ : px_St, cl_is σ X ∧ mo_is τ X ∧ xo X ∧ va_P D vwCl (px_w dC cA q σ) H ∧ va_P D vwCl (px_w dM cA r τ) H ∧ va_S (lx_A s) s.heap H locs
theorem lx_cw {wd : List Cond} (hgood : px_good wd) (hin : ∀ w ∈ wd, w ∈ lw_tbl) {Cn : String} {index maxL n : Nat} {y : MethodName} {bytes : ByteArray} {ret : Option FieldType} {rm : Room} {args : Array Value} {s : State} (ht : ∀ w ∈ lw_tbl, w.before args s = true) (hl : Cond.methodLink R_law index y ∈ lw_tbl) (hi : Cond.instanceMethod y ∈ lw_tbl) (hs : Cond.selects Cn y y ∈ lw_tbl) (hini : Cond.initialized Cn ∈ lw_tbl) (hc : Cond.code y bytes maxL ret ∈ wd) (hd : y.cls = Cn ∧ y.cls ≠ "java/lang/invoke/MethodHandle" ∧ y.cls ≠ "java/lang/invoke/VarHandle" ∧ (parseMethodDescriptor y.desc).map (fun d => d.parameters.length) = some n) (h1 : rm.cells = 0) (h2 : rm.slots = 0) (hR : rm.frames + 1 ≤ room_1.frames ∧ 8 + (maxL + 11) + rm.locals ≤ room_1.locals) : CallW room_1 s args R_law Cn index y bytes maxL ret (Cond.code y bytes maxL ret :: wd) rm 0 0 n := by
  refine cwV n ht (fun w h => ?_) rfl h1 h2 hd hR
  unfold wsV at h
  simp only [List.mem_append, List.mem_cons, List.not_mem_nil, or_false] at h
  rcases h with (rfl | rfl | rfl | rfl) | rfl | h
  · exact ⟨hl, Or.inl rfl⟩
  · exact ⟨hi, Or.inl rfl⟩
  · exact ⟨hs, Or.inl rfl⟩
  · exact ⟨hini, Or.inl rfl⟩
  · exact ⟨hin _ hc, hgood _ hc⟩
  · exact ⟨hin _ h, hgood _ h⟩
theorem lx_sum (as : List Value) (v : Value) (h : v.category ≤ 2) : (([v] : List Value).map fun v => v.category).sum ≤ 8 := by
  show v.category + 0 ≤ 8
  omega
theorem lx_cmp (x : Int64) : lg_cmp x x = 0 := by
  unfold lg_cmp
  rw [if_neg (by rw [gt_iff_lt, Int64.lt_iff_toInt_lt]; omega), if_pos rfl]
/-- a case of the law: the same call on both, then the answers are compared; ints -/
theorem lx_case {p : Program} {l : Launch} {e : Env} {s : State} {m : MethodId} {below : List Frame} {meth : Method} {c : Code} {b L : Nat} {xs : Nat → Int32} {D : va_G} {cA : Nat → ClassId} {q r : Nat → Nat} {kc ks : Nat} {Q : State → Prop} {ls : Array Slot} {i : Nat} {X : pv_X} {H : Heap} {locs : List Loc} {γC γM : Type} {prC : γC → List Value → px_St → Prop} {poC : γC → List Value → px_St → Int32 → px_St → Prop} {prM : γM → List Value → px_St → Prop} {poM : γM → List Value → px_St → Int32 → px_St → Prop} {yC yM : MethodName} {wsC wsM : List Cond} {rmC rmM : Room} {bC bM : ByteArray} {mlC mlM iC iM : Nat} {rtC rtM : Option FieldType} {off : Int}
    (E : lx_C p s m meth c b L xs D cA q r) (hl : lv_has ls 4 (lx_lv b i q r)) (hi : i + 6 ≤ L) (hcc : kc ≤ 600000 ∧ ks ≤ 7302250) (pc n : Nat) (hn : n ≤ 5) (f : Int32 × pv_X) (hf : xo f.2) (hw : lx_w s D cA q r X H locs)
    (hMC : ∀ g, px_Met dC yC wsC rmC px_vI (prC g) (poC g)) (gC : γC) (hcC : CallW room_1 s #[Value.ref b] R_law RX5 iC yC bC mlC rtC wsC rmC 0 0 n) (hprC : ∀ σ, cl_is σ X → prC gC (.ref 0 :: lx_as xs i n) σ) (hpoC : ∀ σ x σ', poC gC (.ref 0 :: lx_as xs i n) σ x σ' → x = f.1 ∧ cl_is σ' f.2)
    (hMM : ∀ g, px_Met dM yM wsM rmM px_vI (prM g) (poM g)) (gM : γM) (hcM : CallW room_1 s #[Value.ref b] R_law RX6 iM yM bM mlM rtM wsM rmM 0 0 n) (hprM : ∀ τ, mo_is τ X → prM gM (.ref 0 :: lx_as xs i n) τ) (hpoM : ∀ τ x τ', poM gM (.ref 0 :: lx_as xs i n) τ x τ' → x = f.1 ∧ mo_is τ' f.2)
    (d0 : decode code pc = .ok (.aload_n 1, 1)) (d1 : ∀ j, j < n → lx_D5 (pc + 1 + 5 * j) (1 + j)) (d2 : decode code (pc + 1 + 5 * n) = .ok (.invokevirtual iC, 3)) (d3 : decode code (pc + 1 + 5 * n + 3) = .ok (.aload_n 2, 1)) (d4 : ∀ j, j < n → lx_D5 (pc + 1 + 5 * n + 3 + 1 + 5 * j) (1 + j)) (d5 : decode code (pc + 1 + 5 * n + 3 + 1 + 5 * n) = .ok (.invokevirtual iM, 3)) (d6 : decode code (pc + 1 + 5 * n + 3 + 1 + 5 * n + 3) = .ok (.if_icmp .eq off, 3)) (ht : ((pc + 1 + 5 * n + 3 + 1 + 5 * n + 3 : Nat) : Int) + off = ((1453 : Nat) : Int))
    (kk : ∀ (X' : pv_X) (H1 : Heap) (locs1 : List Loc), lx_w s D cA q r X' H1 locs1 → W p l e room_1 s m #[Value.ref b] below meth c H1 locs1 kc ks Q (F0 m 1453 ls [])) : W p l e room_1 s m #[Value.ref b] below meth c H locs kc ks Q (F0 m pc ls []) := by
  obtain ⟨C, hL, ⟨hK, hNq, hNr⟩, ⟨hDC, hDM⟩, hdis⟩ := E
  obtain ⟨σ, τ, h1, h2, h3, hPC, hPM, hS⟩ := hw
  obtain ⟨hx, hb, -⟩ := id C
  refine lv_aload_n hx hb d0 rfl (lv_at hl 2 rfl) ?_
  refine lx_args C hL hl hS hi n hn d1 ?_
  refine lx_call (d := dC) (d2 := dM) (r := r) (τ := τ) (ci := 5) C hK hNq hDC (fun i j a b => hdis i j a b) rfl rfl (Nat.le_of_ble_eq_true rfl) hMC gC hcC hl.1 (lx_as xs i n) (lx_as_cv xs i n q) (lx_as_len xs i n) [] (Nat.zero_le _) hcc d2 hPC hPM hS (hprC σ h1) (fun x σ' H1 locs1 hp1 hPC hPM hS => ?_)
  obtain ⟨ex, hc1⟩ := hpoC σ x σ' hp1
  refine lv_aload_n hx hb d3 rfl (lv_at hl 1 rfl) ?_
  refine lx_args C hL hl hS hi n hn d4 ?_
  refine lx_call (d := dM) (d2 := dC) (r := q) (τ := σ') (ci := 6) C hK hNr hDM (fun i j a b z => hdis j i b a z.symm) rfl rfl (Nat.le_of_ble_eq_true rfl) hMM gM hcM hl.1 (lx_as xs i n) (lx_as_cv xs i n r) (lx_as_len xs i n) [.int x] (Nat.le_of_ble_eq_true rfl) hcc d5 hPM hPC hS (hprM τ h2) (fun y τ' H2 locs2 hp2 hPM hPC hS => ?_)
  obtain ⟨ey, hc2⟩ := hpoM τ y τ' hp2
  refine lv_icmp_eq (tgt := 1453) hx hb d6 ht (fun _ => ?_) (fun z => absurd (ex.trans ey.symm) z)
  exact kk f.2 H2 locs2 ⟨σ', τ', hc1, hc2, hf, hPC, hPM, hS⟩
/-- the same; longs -/
theorem lx_caseL {p : Program} {l : Launch} {e : Env} {s : State} {m : MethodId} {below : List Frame} {meth : Method} {c : Code} {b L : Nat} {xs : Nat → Int32} {D : va_G} {cA : Nat → ClassId} {q r : Nat → Nat} {kc ks : Nat} {Q : State → Prop} {ls : Array Slot} {i : Nat} {X : pv_X} {H : Heap} {locs : List Loc} {γC γM : Type} {prC : γC → List Value → px_St → Prop} {poC : γC → List Value → px_St → Int64 → px_St → Prop} {prM : γM → List Value → px_St → Prop} {poM : γM → List Value → px_St → Int64 → px_St → Prop} {yC yM : MethodName} {wsC wsM : List Cond} {rmC rmM : Room} {bC bM : ByteArray} {mlC mlM iC iM : Nat} {rtC rtM : Option FieldType} {off : Int}
    (E : lx_C p s m meth c b L xs D cA q r) (hl : lv_has ls 4 (lx_lv b i q r)) (hi : i + 6 ≤ L) (hcc : kc ≤ 600000 ∧ ks ≤ 7302250) (pc n : Nat) (hn : n ≤ 5) (f : Int64 × pv_X) (hf : xo f.2) (hw : lx_w s D cA q r X H locs)
    (hMC : ∀ g, px_Met dC yC wsC rmC px_vL (prC g) (poC g)) (gC : γC) (hcC : CallW room_1 s #[Value.ref b] R_law RX5 iC yC bC mlC rtC wsC rmC 0 0 n) (hprC : ∀ σ, cl_is σ X → prC gC (.ref 0 :: lx_as xs i n) σ) (hpoC : ∀ σ x σ', poC gC (.ref 0 :: lx_as xs i n) σ x σ' → x = f.1 ∧ cl_is σ' f.2)
    (hMM : ∀ g, px_Met dM yM wsM rmM px_vL (prM g) (poM g)) (gM : γM) (hcM : CallW room_1 s #[Value.ref b] R_law RX6 iM yM bM mlM rtM wsM rmM 0 0 n) (hprM : ∀ τ, mo_is τ X → prM gM (.ref 0 :: lx_as xs i n) τ) (hpoM : ∀ τ x τ', poM gM (.ref 0 :: lx_as xs i n) τ x τ' → x = f.1 ∧ mo_is τ' f.2)
    (d0 : decode code pc = .ok (.aload_n 1, 1)) (d1 : ∀ j, j < n → lx_D5 (pc + 1 + 5 * j) (1 + j)) (d2 : decode code (pc + 1 + 5 * n) = .ok (.invokevirtual iC, 3)) (d3 : decode code (pc + 1 + 5 * n + 3) = .ok (.aload_n 2, 1)) (d4 : ∀ j, j < n → lx_D5 (pc + 1 + 5 * n + 3 + 1 + 5 * j) (1 + j)) (d5 : decode code (pc + 1 + 5 * n + 3 + 1 + 5 * n) = .ok (.invokevirtual iM, 3)) (d6 : decode code (pc + 1 + 5 * n + 3 + 1 + 5 * n + 3) = .ok (.lcmp, 1)) (d7 : decode code (pc + 1 + 5 * n + 3 + 1 + 5 * n + 3 + 1) = .ok (.ifCond .eq off, 3)) (ht : ((pc + 1 + 5 * n + 3 + 1 + 5 * n + 3 + 1 : Nat) : Int) + off = ((1453 : Nat) : Int))
    (kk : ∀ (X' : pv_X) (H1 : Heap) (locs1 : List Loc), lx_w s D cA q r X' H1 locs1 → W p l e room_1 s m #[Value.ref b] below meth c H1 locs1 kc ks Q (F0 m 1453 ls [])) : W p l e room_1 s m #[Value.ref b] below meth c H locs kc ks Q (F0 m pc ls []) := by
  obtain ⟨C, hL, ⟨hK, hNq, hNr⟩, ⟨hDC, hDM⟩, hdis⟩ := E
  obtain ⟨σ, τ, h1, h2, h3, hPC, hPM, hS⟩ := hw
  obtain ⟨hx, hb, -⟩ := id C
  refine lv_aload_n hx hb d0 rfl (lv_at hl 2 rfl) ?_
  refine lx_args C hL hl hS hi n hn d1 ?_
  refine lx_call (d := dC) (d2 := dM) (r := r) (τ := τ) (ci := 5) C hK hNq hDC (fun i j a b => hdis i j a b) rfl rfl (Nat.le_of_ble_eq_true rfl) hMC gC hcC hl.1 (lx_as xs i n) (lx_as_cv xs i n q) (lx_as_len xs i n) [] (Nat.zero_le _) hcc d2 hPC hPM hS (hprC σ h1) (fun x σ' H1 locs1 hp1 hPC hPM hS => ?_)
  obtain ⟨ex, hc1⟩ := hpoC σ x σ' hp1
  refine lv_aload_n hx hb d3 rfl (lv_at hl 1 rfl) ?_
  refine lx_args C hL hl hS hi n hn d4 ?_
  refine lx_call (d := dM) (d2 := dC) (r := q) (τ := σ') (ci := 6) C hK hNr hDM (fun i j a b z => hdis j i b a z.symm) rfl rfl (Nat.le_of_ble_eq_true rfl) hMM gM hcM hl.1 (lx_as xs i n) (lx_as_cv xs i n r) (lx_as_len xs i n) [.long x] (Nat.le_of_ble_eq_true rfl) hcc d5 hPM hPC hS (hprM τ h2) (fun y τ' H2 locs2 hp2 hPM hPC hS => ?_)
  obtain ⟨ey, hc2⟩ := hpoM τ y τ' hp2
  refine W.lcmp hx hb d6 ?_
  rw [ex, ey]
  refine lv_if_eq (tgt := 1453) hx hb d7 ht (fun _ => ?_) (fun z => absurd (lx_cmp f.1) z)
  exact kk f.2 H2 locs2 ⟨σ', τ', hc1, hc2, hf, hPC, hPM, hS⟩
