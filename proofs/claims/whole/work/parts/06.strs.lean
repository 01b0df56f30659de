/-! ===== the five words ===== -/
def px_st (k : Nat) : Prop := 100 ≤ k ∧ k < 105
def px_sv (k : Nat) : Prop := 200 ≤ k ∧ k < 205
theorem ps_ldcS {Z : px_Z} {α : Type} {val : α → Option Value} {po : α → px_St → Prop} {pc : Nat} {i index : Nat} (hi : i < 5) (hoRX : Z.2.2.1 = RX4) (hk : (snK.getD i (0, "")).1 = index) (h : decode Z.1 pc = .ok (.ldc index, 2)) : px_Snd Z val po pc (px_push (pc + 2) (.ref (100 + i))) := by
  intro p l e s m args below meth c D cA q A E hA L st σ K hK ho
  obtain ⟨hx, hb, hml, hown, hts, ⟨hKt, hNw⟩, hr, hlk⟩ := E
  intro ls H locs hl hP hD hS
  have hR := hNw.2.2.2 i hi
  rw [hk] at hR
  exact va_ldcS (own := RX4) hx hb (by rw [← hoRX]; exact hown) hR h (hK _ _ _ _ ho ls H locs hl hP hD hS)
theorem ps_getsC {Z : px_Z} {α : Type} {val : α → Option Value} {po : α → px_St → Prop} {pc : Nat} (hc : Cond.fieldLink Z.2.2.1 38 "java/lang/String" "COMPACT_STRINGS" "Z" ∈ Z.2.2.2.1) (h : decode Z.1 pc = .ok (.getstatic 38, 3)) : px_Snd Z val po pc (px_push (pc + 3) (.int 1)) := by
  intro p l e s m args below meth c D cA q A E hA L st σ K hK ho
  obtain ⟨hx, hb, hml, hown, hts, ⟨hKt, hNw⟩, hr, hlk⟩ := E
  intro ls H locs hl hP hD hS
  exact va_gets hx hb hNw.2.2.1.1 hS hown (hts _ hc) (fun _ h => h) h (hK _ _ _ _ ho ls H locs hl hP hD hS)
def px_two (pc1 : Nat) : px_Op := fun L st σ K => K pc1 L (.null :: st) σ ∧ K pc1 L (.ref 300 :: st) σ
theorem ps_getsF {Z : px_Z} {α : Type} {val : α → Option Value} {po : α → px_St → Prop} {pc : Nat} (hc : Cond.fieldLink Z.2.2.1 1053 "jdk/internal/util/Preconditions" "SIOOBE_FORMATTER" "Ljava/util/function/BiFunction;" ∈ Z.2.2.2.1) (h : decode Z.1 pc = .ok (.getstatic 1053, 3)) : px_Snd Z val po pc (px_two (pc + 3)) := by
  intro p l e s m args below meth c D cA q A E hA L st σ K hK ho
  obtain ⟨hx, hb, hml, hown, hts, ⟨hKt, hNw⟩, hr, hlk⟩ := E
  intro ls H locs hl hP hD hS
  rcases hNw.2.2.1.2 with hz | hz
  · exact va_gets hx hb hz hS hown (hts _ hc) (fun _ h => h) h (hK _ _ _ _ ho.1 ls H locs hl hP hD hS)
  · exact va_gets hx hb hz hS hown (hts _ hc) (fun _ h => h) h (hK _ _ _ _ ho.2 ls H locs hl hP hD hS)
def px_sval (pc1 : Nat) : px_Op := fun L st σ K => match st with
  | .ref k :: r => px_st k ∧ K pc1 L (.ref (k + 100) :: r) σ
  | _ => False
def px_scod (pc1 : Nat) : px_Op := fun L st σ K => match st with
  | .ref k :: r => px_st k ∧ K pc1 L (.int 0 :: r) σ
  | _ => False
def px_slen (pc1 : Nat) : px_Op := fun L st σ K => match st with
  | .ref k :: r => px_sv k ∧ K pc1 L (.int (nI (snL.getD (k - 200) 0)) :: r) σ
  | _ => False
def px_sbal (pc1 : Nat) : px_Op := fun L st σ K => match st with
  | .int j :: .ref k :: r => px_sv k ∧ vp_in j (snL.getD (k - 200) 0) ∧ K pc1 L (.int ((snB.getD (k - 200) []).getD j.toNatClampNeg 0) :: r) σ
  | _ => False
theorem ps_sval {Z : px_Z} {α : Type} {val : α → Option Value} {po : α → px_St → Prop} {pc : Nat} (hc : Cond.fieldLink Z.2.2.1 9 "java/lang/String" "value" "[B" ∈ Z.2.2.2.1) (h : decode Z.1 pc = .ok (.getfield 9, 3)) : px_Snd Z val po pc (px_sval (pc + 3)) := by
  intro p l e s m args below meth c D cA q A E hA L st σ K hK ho
  obtain ⟨hx, hb, hml, hown, hts, ⟨hKt, hNw⟩, hr, hlk⟩ := E
  unfold px_sval at ho
  split at ho
  · rename_i k r
    obtain ⟨⟨h1, h2⟩, ho⟩ := ho
    intro ls H locs hl hP hD hS
    have hE := (hNw.2.1.1 (k - 100) (by omega)).2.2.1
    have ek : ((100 : Nat) + ((k : Nat) - 100) : Nat) = (k : Nat) := by omega
    have ek2 : ((200 : Nat) + ((k : Nat) - 100) : Nat) = (k : Nat) + 100 := by omega
    simp only [ek, ek2] at hE
    have hg := hK _ _ _ _ ho ls H locs hl hP hD hS
    exact vk_getf hx hb hE hS hown (hts _ hc) (fun _ h => h) h hg
  · exact ho.elim
theorem ps_scod {Z : px_Z} {α : Type} {val : α → Option Value} {po : α → px_St → Prop} {pc : Nat} (hc : Cond.fieldLink Z.2.2.1 15 "java/lang/String" "coder" "B" ∈ Z.2.2.2.1) (h : decode Z.1 pc = .ok (.getfield 15, 3)) : px_Snd Z val po pc (px_scod (pc + 3)) := by
  intro p l e s m args below meth c D cA q A E hA L st σ K hK ho
  obtain ⟨hx, hb, hml, hown, hts, ⟨hKt, hNw⟩, hr, hlk⟩ := E
  unfold px_scod at ho
  split at ho
  · rename_i k r
    obtain ⟨⟨h1, h2⟩, ho⟩ := ho
    intro ls H locs hl hP hD hS
    have hE := (hNw.2.1.1 (k - 100) (by omega)).2.1
    have ek : ((100 : Nat) + ((k : Nat) - 100) : Nat) = (k : Nat) := by omega
    have ek2 : ((200 : Nat) + ((k : Nat) - 100) : Nat) = (k : Nat) + 100 := by omega
    simp only [ek, ek2] at hE
    have hg := hK _ _ _ _ ho ls H locs hl hP hD hS
    exact vk_getf hx hb hE hS hown (hts _ hc) (fun _ h => h) h hg
  · exact ho.elim
theorem ps_slen {Z : px_Z} {α : Type} {val : α → Option Value} {po : α → px_St → Prop} {pc : Nat} (h : decode Z.1 pc = .ok (.arraylength, 1)) : px_Snd Z val po pc (px_slen (pc + 1)) := by
  intro p l e s m args below meth c D cA q A E hA L st σ K hK ho
  obtain ⟨hx, hb, hml, hown, hts, ⟨hKt, hNw⟩, hr, hlk⟩ := E
  unfold px_slen at ho
  split at ho
  · rename_i k r
    obtain ⟨⟨h1, h2⟩, ho⟩ := ho
    intro ls H locs hl hP hD hS
    have hE := (hNw.2.1.1 (k - 200) (by omega)).2.2.2
    have ek : ((200 : Nat) + ((k : Nat) - 200) : Nat) = (k : Nat) := by omega
    simp only [ek] at hE
    exact va_tlen hx hb hE hS rfl h (hK _ _ _ _ ho ls H locs hl hP hD hS)
  · exact ho.elim
theorem ps_sbal {Z : px_Z} {α : Type} {val : α → Option Value} {po : α → px_St → Prop} {pc : Nat} (h : decode Z.1 pc = .ok (.baload, 1)) : px_Snd Z val po pc (px_sbal (pc + 1)) := by
  intro p l e s m args below meth c D cA q A E hA L st σ K hK ho
  obtain ⟨hx, hb, hml, hown, hts, ⟨hKt, hNw⟩, hr, hlk⟩ := E
  unfold px_sbal at ho
  split at ho
  · rename_i j k r
    obtain ⟨⟨h1, h2⟩, hj, ho⟩ := ho
    intro ls H locs hl hP hD hS
    have hE := (hNw.2.1.1 (k - 200) (by omega)).2.2.2
    have ek : ((200 : Nat) + ((k : Nat) - 200) : Nat) = (k : Nat) := by omega
    simp only [ek] at hE
    exact va_tb hx hb hE hS hj rfl h (hK _ _ _ _ ho ls H locs hl hP hD hS)
  · exact ho.elim
/-- a call on a word -/
def px_callVs (pc1 n : Nat) {γ β : Type} (valb : β → Option Value) (preb : γ → List Value → px_St → Prop) (postb : γ → List Value → px_St → β → px_St → Prop) : px_Op := fun L st σ K => match st.drop n with
  | .ref k :: r => px_st k ∧ px_rm r ∧ ∃ g : γ, preb g (.ref k :: (st.take n).reverse) σ ∧ ∀ (b : β) (σ' : px_St), postb g (.ref k :: (st.take n).reverse) σ b σ' → K pc1 L ((valb b).toList ++ r) σ'
  | _ => False
theorem ps_callVs {Z : px_Z} {α : Type} {val : α → Option Value} {po : α → px_St → Prop} {pc : Nat} {γ β : Type} {valb : β → Option Value} {preb : γ → List Value → px_St → Prop} {postb : γ → List Value → px_St → β → px_St → Prop} {y : MethodName} {ws : List Cond} {rm : Room} {bytes : ByteArray} {maxL n index : Nat} {ret : Option FieldType} (hM : ∀ g : γ, px_Met Z.2.2.2.2.2.2 y ws rm valb (preb g) (postb g)) (hvb : ∀ (b : β) (q : Nat → Nat), (valb b).map (px_cv q) = valb b) (hcw : ∀ (args : Array Value) (s : State), (∀ w ∈ Z.2.2.2.1, w.before args s = true) → CallW Z.2.2.2.2.2.1 s args Z.2.2.1 RJ0 index y bytes maxL ret ws rm 0 0 n) (h : decode Z.1 pc = .ok (.invokevirtual index, 3)) : px_Snd Z val po pc (px_callVs (pc + 3) n valb preb postb) := by
  intro p l e s m args below meth c D cA q A E hA L st σ K hK ho
  obtain ⟨hx, hb, hml, hown, hts, ⟨hKt, hNw⟩, hr, hlk⟩ := E
  unfold px_callVs at ho
  split at ho
  · rename_i k r hd
    obtain ⟨⟨hk1, hk2⟩, hrm, gh, hpre, ho⟩ := ho
    intro ls H locs hl hP hD hS
    have hlen : n ≤ st.length := by
      have h1 := congrArg List.length hd
      rw [List.length_drop, List.length_cons] at h1
      omega
    have hst : st.map (px_cv q) = ((st.take n).reverse.map (px_cv q)).reverse ++ .ref (q k) :: r.map (px_cv q) := by
      rw [← List.map_reverse, List.reverse_reverse, show (Value.ref (q k) :: r.map (px_cv q)) = (Value.ref k :: r).map (px_cv q) from rfl, ← hd, ← List.map_append, List.take_append_drop]
    have hrec := vk_recv hNw.2.1 (i := k - 100) (by omega) hS
    have ek : ((100 : Nat) + ((k : Nat) - 100) : Nat) = (k : Nat) := by omega
    simp only [ek] at hrec
    refine px_cont (va_runV (g := F0 m pc ls (st.map (px_cv q))) (As := (st.take n).reverse.map (px_cv q)) (rest := r.map (px_cv q)) (b := q k) ⟨hx, hb, hml, hown, hts⟩ (hM gh l D cA q (.ref k :: (st.take n).reverse) σ H.size hpre) (hcw args s hts) ⟨px_blind, hrec, fun U hU hW => ⟨rfl, by rw [hU], by rw [hU]; exact hP, ⟨va_K.moved hW.alike hKt, hNw.moved hW hU hS (px_hF hD hS hA)⟩, hD.weaken (fun _ _ _ _ => trivial)⟩⟩ rfl (by rw [List.length_map, List.length_reverse, List.length_take]; omega) hl.1 hst (lv_room (px_rm_cv hrm)) h ⟨Nat.zero_le _, Nat.zero_le _⟩) hS (px_hF hD hS hA) (fun b σ' H1 locs1 hp1 hP1 hS1 => ?_)
    have hg := hK _ _ _ _ (ho b σ' hp1) ls H1 locs1 hl hP1 (px_D_any hD) hS1
    rw [px_map_list (hvb b q)] at hg
    exact hg
  · exact ho.elim
theorem dJ0_coder_7d493_0 : decode cJ0_coder_7d493 0 = .ok (.getstatic 38, 3) := by decide +kernel
theorem dJ0_coder_7d493_3 : decode cJ0_coder_7d493 3 = .ok (.ifCond .eq 10, 3) := by decide +kernel
theorem dJ0_coder_7d493_6 : decode cJ0_coder_7d493 6 = .ok (.aload_n 0, 1) := by decide +kernel
theorem dJ0_coder_7d493_7 : decode cJ0_coder_7d493 7 = .ok (.getfield 15, 3) := by decide +kernel
theorem dJ0_coder_7d493_10 : decode cJ0_coder_7d493 10 = .ok (.goto 4, 3) := by decide +kernel
theorem dJ0_coder_7d493_13 : decode cJ0_coder_7d493 13 = .ok (.iconst 1, 1) := by decide +kernel
theorem dJ0_coder_7d493_14 : decode cJ0_coder_7d493 14 = .ok (.ireturn, 1) := by decide +kernel
abbrev rmJ0_coder_7d493 : Room := { frames := 0, cells := 0, slots := 0, locals := 0 }
abbrev gtJ0_coder_7d493 : Type := Unit
def prJ0_coder_7d493 (_ : Unit) : List Value → px_St → Prop := fun As _ => ∃ k : Nat, As = [.ref k] ∧ px_st k
def poJ0_coder_7d493 (_ : Unit) : List Value → px_St → Int32 → px_St → Prop := fun _ σ r σ' => σ' = σ ∧ r = 0
def opJ0_coder_7d493 (po : Int32 → px_St → Prop) : List (Nat × px_Op) := [
  (0, px_push 3 (.int 1)),
  (3, px_if 6 13 (fun x => x = 0)),
  (6, px_al 7 0),
  (7, px_scod 10),
  (10, px_go 14),
  (14, px_iret (.byte) po)]
theorem okJ0_coder_7d493 : ∀ (po : Int32 → px_St → Prop) (i pc : Nat) (op : px_Op), (opJ0_coder_7d493 po)[i]? = some (pc, op) → px_Snd (cJ0_coder_7d493, 1, RJ0, Cond.code yJ0_coder_7d493 cJ0_coder_7d493 1 (some .byte) :: wdC, (some .byte), rmJ0_coder_7d493, dC) px_vI po pc op := by
  intro po
  unfold opJ0_coder_7d493
  refine px_ok_cons (ps_getsC (List.mem_cons_of_mem _ (wdC_3_in _ (List.mem_of_getElem? (i := 4) rfl))) dJ0_coder_7d493_0) ?_
  refine px_ok_cons (ps_if_eq dJ0_coder_7d493_3 (by decide)) ?_
  refine px_ok_cons (ps_aload_n dJ0_coder_7d493_6 rfl) ?_
  refine px_ok_cons (ps_scod (List.mem_cons_of_mem _ (wdC_3_in _ (List.mem_of_getElem? (i := 5) rfl))) dJ0_coder_7d493_7) ?_
  refine px_ok_cons (ps_goto dJ0_coder_7d493_10 (by decide)) ?_
  refine px_ok_cons (ps_ireturn rfl dJ0_coder_7d493_14) ?_
  exact px_ok_nil
theorem mJ0_coder_7d493 (g : gtJ0_coder_7d493) : px_Met dC yJ0_coder_7d493 (Cond.code yJ0_coder_7d493 cJ0_coder_7d493 1 (some .byte) :: wdC) rmJ0_coder_7d493 px_vI (prJ0_coder_7d493 g) (poJ0_coder_7d493 g) := by
  refine px_met (Z := (cJ0_coder_7d493, 1, RJ0, Cond.code yJ0_coder_7d493 cJ0_coder_7d493 1 (some .byte) :: wdC, (some .byte), rmJ0_coder_7d493, dC)) opJ0_coder_7d493 (by decide) rfl rfl okJ0_coder_7d493 ?_ ?_
  · intro As σ h
    obtain ⟨k, rfl, h⟩ := h
    exact Nat.le_of_ble_eq_true rfl
  · intro As σ h G hG
    obtain ⟨k, rfl, h⟩ := h
    refine hG.1 0 _ _ rfl _ _ _ ?_
    refine hG.1 1 _ _ rfl _ _ _ ?_
    refine ⟨fun z => absurd z (by decide), fun _ => ?_⟩
    refine hG.1 2 _ _ rfl _ _ _ ?_
    refine hG.1 3 _ _ rfl _ _ _ ?_
    refine ⟨h, ?_⟩
    refine hG.1 4 _ _ rfl _ _ _ ?_
    refine hG.1 5 _ _ rfl _ _ _ ?_
    exact ⟨rfl, rfl, rfl⟩
theorem dJ0_isLatin1_aae02_0 : decode cJ0_isLatin1_aae02 0 = .ok (.getstatic 38, 3) := by decide +kernel
theorem dJ0_isLatin1_aae02_3 : decode cJ0_isLatin1_aae02 3 = .ok (.ifCond .eq 14, 3) := by decide +kernel
theorem dJ0_isLatin1_aae02_6 : decode cJ0_isLatin1_aae02 6 = .ok (.aload_n 0, 1) := by decide +kernel
theorem dJ0_isLatin1_aae02_7 : decode cJ0_isLatin1_aae02 7 = .ok (.getfield 15, 3) := by decide +kernel
theorem dJ0_isLatin1_aae02_10 : decode cJ0_isLatin1_aae02 10 = .ok (.ifCond .ne 7, 3) := by decide +kernel
theorem dJ0_isLatin1_aae02_13 : decode cJ0_isLatin1_aae02 13 = .ok (.iconst 1, 1) := by decide +kernel
theorem dJ0_isLatin1_aae02_14 : decode cJ0_isLatin1_aae02 14 = .ok (.goto 4, 3) := by decide +kernel
theorem dJ0_isLatin1_aae02_17 : decode cJ0_isLatin1_aae02 17 = .ok (.iconst 0, 1) := by decide +kernel
theorem dJ0_isLatin1_aae02_18 : decode cJ0_isLatin1_aae02 18 = .ok (.ireturn, 1) := by decide +kernel
abbrev rmJ0_isLatin1_aae02 : Room := { frames := 0, cells := 0, slots := 0, locals := 0 }
abbrev gtJ0_isLatin1_aae02 : Type := Unit
def prJ0_isLatin1_aae02 (_ : Unit) : List Value → px_St → Prop := fun As _ => ∃ k : Nat, As = [.ref k] ∧ px_st k
def poJ0_isLatin1_aae02 (_ : Unit) : List Value → px_St → Int32 → px_St → Prop := fun _ σ r σ' => σ' = σ ∧ r = 1
def opJ0_isLatin1_aae02 (po : Int32 → px_St → Prop) : List (Nat × px_Op) := [
  (0, px_push 3 (.int 1)),
  (3, px_if 6 17 (fun x => x = 0)),
  (6, px_al 7 0),
  (7, px_scod 10),
  (10, px_if 13 17 (fun x => ¬ x = 0)),
  (13, px_push 14 (.int 1)),
  (14, px_go 18),
  (18, px_iret (.boolean) po)]
theorem okJ0_isLatin1_aae02 : ∀ (po : Int32 → px_St → Prop) (i pc : Nat) (op : px_Op), (opJ0_isLatin1_aae02 po)[i]? = some (pc, op) → px_Snd (cJ0_isLatin1_aae02, 1, RJ0, Cond.code yJ0_isLatin1_aae02 cJ0_isLatin1_aae02 1 (some .boolean) :: wdC, (some .boolean), rmJ0_isLatin1_aae02, dC) px_vI po pc op := by
  intro po
  unfold opJ0_isLatin1_aae02
  refine px_ok_cons (ps_getsC (List.mem_cons_of_mem _ (wdC_3_in _ (List.mem_of_getElem? (i := 4) rfl))) dJ0_isLatin1_aae02_0) ?_
  refine px_ok_cons (ps_if_eq dJ0_isLatin1_aae02_3 (by decide)) ?_
  refine px_ok_cons (ps_aload_n dJ0_isLatin1_aae02_6 rfl) ?_
  refine px_ok_cons (ps_scod (List.mem_cons_of_mem _ (wdC_3_in _ (List.mem_of_getElem? (i := 5) rfl))) dJ0_isLatin1_aae02_7) ?_
  refine px_ok_cons (ps_if_ne dJ0_isLatin1_aae02_10 (by decide)) ?_
  refine px_ok_cons (ps_iconst dJ0_isLatin1_aae02_13 (by decide)) ?_
  refine px_ok_cons (ps_goto dJ0_isLatin1_aae02_14 (by decide)) ?_
  refine px_ok_cons (ps_ireturn rfl dJ0_isLatin1_aae02_18) ?_
  exact px_ok_nil
theorem mJ0_isLatin1_aae02 (g : gtJ0_isLatin1_aae02) : px_Met dC yJ0_isLatin1_aae02 (Cond.code yJ0_isLatin1_aae02 cJ0_isLatin1_aae02 1 (some .boolean) :: wdC) rmJ0_isLatin1_aae02 px_vI (prJ0_isLatin1_aae02 g) (poJ0_isLatin1_aae02 g) := by
  refine px_met (Z := (cJ0_isLatin1_aae02, 1, RJ0, Cond.code yJ0_isLatin1_aae02 cJ0_isLatin1_aae02 1 (some .boolean) :: wdC, (some .boolean), rmJ0_isLatin1_aae02, dC)) opJ0_isLatin1_aae02 (by decide) rfl rfl okJ0_isLatin1_aae02 ?_ ?_
  · intro As σ h
    obtain ⟨k, rfl, h⟩ := h
    exact Nat.le_of_ble_eq_true rfl
  · intro As σ h G hG
    obtain ⟨k, rfl, h⟩ := h
    refine hG.1 0 _ _ rfl _ _ _ ?_
    refine hG.1 1 _ _ rfl _ _ _ ?_
    refine ⟨fun z => absurd z (by decide), fun _ => ?_⟩
    refine hG.1 2 _ _ rfl _ _ _ ?_
    refine hG.1 3 _ _ rfl _ _ _ ?_
    refine ⟨h, ?_⟩
    refine hG.1 4 _ _ rfl _ _ _ ?_
    refine ⟨fun z => absurd rfl z, fun _ => ?_⟩
    refine hG.1 5 _ _ rfl _ _ _ ?_
    refine hG.1 6 _ _ rfl _ _ _ ?_
    refine hG.1 7 _ _ rfl _ _ _ ?_
    exact ⟨rfl, rfl, rfl⟩
theorem dJ0_length_8abf5_0 : decode cJ0_length_8abf5 0 = .ok (.aload_n 0, 1) := by decide +kernel
theorem dJ0_length_8abf5_1 : decode cJ0_length_8abf5 1 = .ok (.getfield 9, 3) := by decide +kernel
theorem dJ0_length_8abf5_4 : decode cJ0_length_8abf5 4 = .ok (.arraylength, 1) := by decide +kernel
theorem dJ0_length_8abf5_5 : decode cJ0_length_8abf5 5 = .ok (.aload_n 0, 1) := by decide +kernel
theorem dJ0_length_8abf5_6 : decode cJ0_length_8abf5 6 = .ok (.invokevirtual 335, 3) := by decide +kernel
theorem dJ0_length_8abf5_9 : decode cJ0_length_8abf5 9 = .ok (.ishr, 1) := by decide +kernel
theorem dJ0_length_8abf5_10 : decode cJ0_length_8abf5 10 = .ok (.ireturn, 1) := by decide +kernel
abbrev rmJ0_length_8abf5 : Room := { frames := 1, cells := 0, slots := 0, locals := 20 }
abbrev gtJ0_length_8abf5 : Type := Unit
def qrJ0_length_8abf5 (_ : Unit) (k : Nat) (_ : px_St) : Prop := True
def qoJ0_length_8abf5 (_ : Unit) (k : Nat) (σ : px_St) (r : Int32) (σ' : px_St) : Prop := σ' = σ ∧ r = nI (snL.getD (k - 100) 0)
def prJ0_length_8abf5 (g : gtJ0_length_8abf5) : List Value → px_St → Prop := fun As σ => ∃ v0 : Nat, As = [.ref v0] ∧ px_st v0 ∧ qrJ0_length_8abf5 g v0 σ
def poJ0_length_8abf5 (g : gtJ0_length_8abf5) : List Value → px_St → Int32 → px_St → Prop
  | [.ref v0], σ, r, σ' => qoJ0_length_8abf5 g v0 σ r σ'
  | _, _, _, _ => False
def opJ0_length_8abf5 (po : Int32 → px_St → Prop) : List (Nat × px_Op) := [
  (0, px_al 1 0),
  (1, px_sval 4),
  (4, px_slen 5),
  (5, px_al 6 0),
  (6, px_callVs 9 0 px_vI prJ0_coder_7d493 poJ0_coder_7d493),
  (9, px_bin 10 (fun x y => x >>> (y &&& 31))),
  (10, px_iret (.int) po)]
theorem okJ0_length_8abf5 : ∀ (po : Int32 → px_St → Prop) (i pc : Nat) (op : px_Op), (opJ0_length_8abf5 po)[i]? = some (pc, op) → px_Snd (cJ0_length_8abf5, 1, RJ0, Cond.code yJ0_length_8abf5 cJ0_length_8abf5 1 (some .int) :: wdC, (some .int), rmJ0_length_8abf5, dC) px_vI po pc op := by
  intro po
  unfold opJ0_length_8abf5
  refine px_ok_cons (ps_aload_n dJ0_length_8abf5_0 rfl) ?_
  refine px_ok_cons (ps_sval (List.mem_cons_of_mem _ (wdC_3_in _ (List.mem_of_getElem? (i := 7) rfl))) dJ0_length_8abf5_1) ?_
  refine px_ok_cons (ps_slen dJ0_length_8abf5_4) ?_
  refine px_ok_cons (ps_aload_n dJ0_length_8abf5_5 rfl) ?_
  refine px_ok_cons (ps_callVs mJ0_coder_7d493 (fun _ _ => rfl) (fun _ _ ht => px_cwV wgC (wdC_3_in _ (List.mem_of_getElem? (i := 8) rfl)) (wdC_3_in _ (List.mem_of_getElem? (i := 9) rfl)) (wdC_3_in _ (List.mem_of_getElem? (i := 10) rfl)) (wdC_3_in _ (List.mem_of_getElem? (i := 11) rfl)) (wdC_3_in _ (List.mem_of_getElem? (i := 3) rfl)) (by decide +kernel) rfl rfl (by decide) ht) dJ0_length_8abf5_6) ?_
  refine px_ok_cons (ps_ishr dJ0_length_8abf5_9) ?_
  refine px_ok_cons (ps_ireturn rfl dJ0_length_8abf5_10) ?_
  exact px_ok_nil
theorem mJ0_length_8abf5 (g : gtJ0_length_8abf5) : px_Met dC yJ0_length_8abf5 (Cond.code yJ0_length_8abf5 cJ0_length_8abf5 1 (some .int) :: wdC) rmJ0_length_8abf5 px_vI (prJ0_length_8abf5 g) (poJ0_length_8abf5 g) := by
  refine px_met (Z := (cJ0_length_8abf5, 1, RJ0, Cond.code yJ0_length_8abf5 cJ0_length_8abf5 1 (some .int) :: wdC, (some .int), rmJ0_length_8abf5, dC)) opJ0_length_8abf5 (by decide) rfl rfl okJ0_length_8abf5 ?_ ?_
  · intro As σ h
    obtain ⟨v0, rfl, h, -⟩ := h
    exact Nat.le_of_ble_eq_true rfl
  · intro As σ h G hG
    obtain ⟨v0, rfl, h, -⟩ := h
    refine hG.1 0 _ _ rfl _ _ _ ?_
    refine hG.1 1 _ _ rfl _ _ _ ?_
    refine ⟨h, ?_⟩
    refine hG.1 2 _ _ rfl _ _ _ ?_
    refine ⟨⟨by have := h.1; omega, by have := h.2; omega⟩, ?_⟩
    refine hG.1 3 _ _ rfl _ _ _ ?_
    refine hG.1 4 _ _ rfl _ _ _ ?_
    refine ⟨h, Nat.le_of_ble_eq_true rfl, (), ⟨_, rfl, h⟩, fun r1 σ1 h1 => ?_⟩
    obtain ⟨rfl, rfl⟩ := h1
    refine hG.1 5 _ _ rfl _ _ _ ?_
    refine hG.1 6 _ _ rfl _ _ _ ?_
    refine ⟨rfl, rfl, ?_⟩
    rw [show v0 + 100 - 200 = v0 - 100 by omega]
    have hb : ∀ i, i < 5 → nI (snL.getD i 0) >>> ((0 : Int32) &&& 31) = nI (snL.getD i 0) := by decide
    exact hb (v0 - 100) (by have := h.2; omega)
theorem dJ3_checkIndex_8e157_0 : decode cJ3_checkIndex_8e157 0 = .ok (.iload_n 0, 1) := by decide +kernel
theorem dJ3_checkIndex_8e157_1 : decode cJ3_checkIndex_8e157 1 = .ok (.ifCond .lt 8, 3) := by decide +kernel
theorem dJ3_checkIndex_8e157_4 : decode cJ3_checkIndex_8e157 4 = .ok (.iload_n 0, 1) := by decide +kernel
theorem dJ3_checkIndex_8e157_5 : decode cJ3_checkIndex_8e157 5 = .ok (.iload_n 1, 1) := by decide +kernel
theorem dJ3_checkIndex_8e157_6 : decode cJ3_checkIndex_8e157 6 = .ok (.if_icmp .lt 10, 3) := by decide +kernel
theorem dJ3_checkIndex_8e157_9 : decode cJ3_checkIndex_8e157 9 = .ok (.aload_n 2, 1) := by decide +kernel
theorem dJ3_checkIndex_8e157_10 : decode cJ3_checkIndex_8e157 10 = .ok (.iload_n 0, 1) := by decide +kernel
theorem dJ3_checkIndex_8e157_11 : decode cJ3_checkIndex_8e157 11 = .ok (.iload_n 1, 1) := by decide +kernel
theorem dJ3_checkIndex_8e157_12 : decode cJ3_checkIndex_8e157 12 = .ok (.invokestatic 95, 3) := by decide +kernel
theorem dJ3_checkIndex_8e157_15 : decode cJ3_checkIndex_8e157 15 = .ok (.athrow, 1) := by decide +kernel
theorem dJ3_checkIndex_8e157_16 : decode cJ3_checkIndex_8e157 16 = .ok (.iload_n 0, 1) := by decide +kernel
theorem dJ3_checkIndex_8e157_17 : decode cJ3_checkIndex_8e157 17 = .ok (.ireturn, 1) := by decide +kernel
abbrev rmJ3_checkIndex_8e157 : Room := { frames := 0, cells := 0, slots := 0, locals := 0 }
abbrev gtJ3_checkIndex_8e157 : Type := Unit
def prJ3_checkIndex_8e157 (_ : Unit) : List Value → px_St → Prop := fun As _ => ∃ (a b : Int32) (w : Value), As = [.int a, .int b, w] ∧ (w = .null ∨ w = .ref 300) ∧ ¬ a < 0 ∧ a < b
def poJ3_checkIndex_8e157 (_ : Unit) : List Value → px_St → Int32 → px_St → Prop := fun _ σ _ σ' => σ' = σ
def opJ3_checkIndex_8e157 (po : Int32 → px_St → Prop) : List (Nat × px_Op) := [
  (0, px_il 1 0),
  (1, px_if 4 9 (fun x => x < 0)),
  (4, px_il 5 0),
  (5, px_il 6 1),
  (6, px_ic 9 16 (fun x y => x < y)),
  (16, px_il 17 0),
  (17, px_iret (.int) po)]
theorem okJ3_checkIndex_8e157 : ∀ (po : Int32 → px_St → Prop) (i pc : Nat) (op : px_Op), (opJ3_checkIndex_8e157 po)[i]? = some (pc, op) → px_Snd (cJ3_checkIndex_8e157, 3, RJ3, Cond.code yJ3_checkIndex_8e157 cJ3_checkIndex_8e157 3 (some .int) :: wdC, (some .int), rmJ3_checkIndex_8e157, dC) px_vI po pc op := by
  intro po
  unfold opJ3_checkIndex_8e157
  refine px_ok_cons (ps_iload_n dJ3_checkIndex_8e157_0 rfl) ?_
  refine px_ok_cons (ps_if_lt dJ3_checkIndex_8e157_1 (by decide)) ?_
  refine px_ok_cons (ps_iload_n dJ3_checkIndex_8e157_4 rfl) ?_
  refine px_ok_cons (ps_iload_n dJ3_checkIndex_8e157_5 rfl) ?_
  refine px_ok_cons (ps_icmp_lt dJ3_checkIndex_8e157_6 (by decide)) ?_
  refine px_ok_cons (ps_iload_n dJ3_checkIndex_8e157_16 rfl) ?_
  refine px_ok_cons (ps_ireturn rfl dJ3_checkIndex_8e157_17) ?_
  exact px_ok_nil
theorem mJ3_checkIndex_8e157 (g : gtJ3_checkIndex_8e157) : px_Met dC yJ3_checkIndex_8e157 (Cond.code yJ3_checkIndex_8e157 cJ3_checkIndex_8e157 3 (some .int) :: wdC) rmJ3_checkIndex_8e157 px_vI (prJ3_checkIndex_8e157 g) (poJ3_checkIndex_8e157 g) := by
  refine px_met (Z := (cJ3_checkIndex_8e157, 3, RJ3, Cond.code yJ3_checkIndex_8e157 cJ3_checkIndex_8e157 3 (some .int) :: wdC, (some .int), rmJ3_checkIndex_8e157, dC)) opJ3_checkIndex_8e157 (by decide) rfl rfl okJ3_checkIndex_8e157 ?_ ?_
  · intro As σ h
    obtain ⟨a, b, w, rfl, hc, h1, h2⟩ := h
    rcases hc with rfl | rfl <;> exact Nat.le_of_ble_eq_true rfl
  · intro As σ h G hG
    obtain ⟨a, b, w, rfl, hc, h1, h2⟩ := h
    rcases hc with rfl | rfl
    · refine hG.1 0 _ _ rfl _ _ _ ?_
      refine hG.1 1 _ _ rfl _ _ _ ?_
      refine ⟨fun z => absurd z h1, fun _ => ?_⟩
      refine hG.1 2 _ _ rfl _ _ _ ?_
      refine hG.1 3 _ _ rfl _ _ _ ?_
      refine hG.1 4 _ _ rfl _ _ _ ?_
      refine ⟨fun _ => ?_, fun z => absurd h2 z⟩
      refine hG.1 5 _ _ rfl _ _ _ ?_
      refine hG.1 6 _ _ rfl _ _ _ ?_
      exact ⟨rfl, rfl⟩
    · refine hG.1 0 _ _ rfl _ _ _ ?_
      refine hG.1 1 _ _ rfl _ _ _ ?_
      refine ⟨fun z => absurd z h1, fun _ => ?_⟩
      refine hG.1 2 _ _ rfl _ _ _ ?_
      refine hG.1 3 _ _ rfl _ _ _ ?_
      refine hG.1 4 _ _ rfl _ _ _ ?_
      refine ⟨fun _ => ?_, fun z => absurd h2 z⟩
      refine hG.1 5 _ _ rfl _ _ _ ?_
      refine hG.1 6 _ _ rfl _ _ _ ?_
      exact ⟨rfl, rfl⟩
theorem dJ0_checkIndex_df160_0 : decode cJ0_checkIndex_df160 0 = .ok (.iload_n 0, 1) := by decide +kernel
theorem dJ0_checkIndex_df160_1 : decode cJ0_checkIndex_df160 1 = .ok (.iload_n 1, 1) := by decide +kernel
theorem dJ0_checkIndex_df160_2 : decode cJ0_checkIndex_df160 2 = .ok (.getstatic 1053, 3) := by decide +kernel
theorem dJ0_checkIndex_df160_5 : decode cJ0_checkIndex_df160 5 = .ok (.invokestatic 1059, 3) := by decide +kernel
theorem dJ0_checkIndex_df160_8 : decode cJ0_checkIndex_df160 8 = .ok (.pop, 1) := by decide +kernel
theorem dJ0_checkIndex_df160_9 : decode cJ0_checkIndex_df160 9 = .ok (.return_, 1) := by decide +kernel
abbrev rmJ0_checkIndex_df160 : Room := { frames := 1, cells := 0, slots := 0, locals := 22 }
abbrev gtJ0_checkIndex_df160 : Type := Unit
def prJ0_checkIndex_df160 (_ : Unit) : List Value → px_St → Prop := fun As _ => ∃ (a b : Int32), As = [.int a, .int b] ∧ ¬ a < 0 ∧ a < b
def poJ0_checkIndex_df160 (_ : Unit) : List Value → px_St → Unit → px_St → Prop := fun _ σ _ σ' => σ' = σ
def opJ0_checkIndex_df160 (po : Unit → px_St → Prop) : List (Nat × px_Op) := [
  (0, px_il 1 0),
  (1, px_il 2 1),
  (2, px_two 5),
  (5, px_callS 8 3 px_vI prJ3_checkIndex_8e157 poJ3_checkIndex_8e157),
  (8, px_pop 9),
  (9, px_vret po)]
theorem okJ0_checkIndex_df160 : ∀ (po : Unit → px_St → Prop) (i pc : Nat) (op : px_Op), (opJ0_checkIndex_df160 po)[i]? = some (pc, op) → px_Snd (cJ0_checkIndex_df160, 2, RJ0, Cond.code yJ0_checkIndex_df160 cJ0_checkIndex_df160 2 none :: wdC, none, rmJ0_checkIndex_df160, dC) px_vV po pc op := by
  intro po
  unfold opJ0_checkIndex_df160
  refine px_ok_cons (ps_iload_n dJ0_checkIndex_df160_0 rfl) ?_
  refine px_ok_cons (ps_iload_n dJ0_checkIndex_df160_1 rfl) ?_
  refine px_ok_cons (ps_getsF (List.mem_cons_of_mem _ (wdC_3_in _ (List.mem_of_getElem? (i := 15) rfl))) dJ0_checkIndex_df160_2) ?_
  refine px_ok_cons (ps_callS mJ3_checkIndex_8e157 (fun _ _ => rfl) (fun _ _ ht => px_cwS wgC (wdC_3_in _ (List.mem_of_getElem? (i := 16) rfl)) (wdC_3_in _ (List.mem_of_getElem? (i := 17) rfl)) (wdC_3_in _ (List.mem_of_getElem? (i := 18) rfl)) (wdC_3_in _ (List.mem_of_getElem? (i := 13) rfl)) (by decide +kernel) rfl rfl (by decide) ht) dJ0_checkIndex_df160_5) ?_
  refine px_ok_cons (ps_pop dJ0_checkIndex_df160_8) ?_
  refine px_ok_cons (ps_return rfl dJ0_checkIndex_df160_9) ?_
  exact px_ok_nil
theorem mJ0_checkIndex_df160 (g : gtJ0_checkIndex_df160) : px_Met dC yJ0_checkIndex_df160 (Cond.code yJ0_checkIndex_df160 cJ0_checkIndex_df160 2 none :: wdC) rmJ0_checkIndex_df160 px_vV (prJ0_checkIndex_df160 g) (poJ0_checkIndex_df160 g) := by
  refine px_met (Z := (cJ0_checkIndex_df160, 2, RJ0, Cond.code yJ0_checkIndex_df160 cJ0_checkIndex_df160 2 none :: wdC, none, rmJ0_checkIndex_df160, dC)) opJ0_checkIndex_df160 (by decide) rfl rfl okJ0_checkIndex_df160 ?_ ?_
  · intro As σ h
    obtain ⟨a, b, rfl, h1, h2⟩ := h
    exact Nat.le_of_ble_eq_true rfl
  · intro As σ h G hG
    obtain ⟨a, b, rfl, h1, h2⟩ := h
    refine hG.1 0 _ _ rfl _ _ _ ?_
    refine hG.1 1 _ _ rfl _ _ _ ?_
    refine hG.1 2 _ _ rfl _ _ _ ?_
    refine ⟨?_, ?_⟩
    · refine hG.1 3 _ _ rfl _ _ _ ?_
      refine ⟨Nat.le_of_ble_eq_true rfl, Nat.le_of_ble_eq_true rfl, (), ⟨_, _, _, rfl, Or.inl rfl, h1, h2⟩, fun r1 σ1 h3 => ?_⟩
      obtain rfl := h3
      refine hG.1 4 _ _ rfl _ _ _ ?_
      refine hG.1 5 _ _ rfl _ _ _ ?_
      exact rfl
    · refine hG.1 3 _ _ rfl _ _ _ ?_
      refine ⟨Nat.le_of_ble_eq_true rfl, Nat.le_of_ble_eq_true rfl, (), ⟨_, _, _, rfl, Or.inr rfl, h1, h2⟩, fun r1 σ1 h3 => ?_⟩
      obtain rfl := h3
      refine hG.1 4 _ _ rfl _ _ _ ?_
      refine hG.1 5 _ _ rfl _ _ _ ?_
      exact rfl
theorem sn_chr : ∀ i, i < 5 → ∀ k, k < snL.getD i 0 → (((snB.getD i []).getD k 0 &&& 255).toUInt32 % 65536).toInt32 = (snB.getD i []).getD k 0 ∧ narrow .char (.int ((snB.getD i []).getD k 0)) = .int ((snB.getD i []).getD k 0) := by decide +kernel
theorem sn_len : ∀ i, i < 5 → snL.getD i 0 ≤ 5 := by decide
theorem dJ1_charAt_3b067_0 : decode cJ1_charAt_3b067 0 = .ok (.iload_n 1, 1) := by decide +kernel
theorem dJ1_charAt_3b067_1 : decode cJ1_charAt_3b067 1 = .ok (.aload_n 0, 1) := by decide +kernel
theorem dJ1_charAt_3b067_2 : decode cJ1_charAt_3b067 2 = .ok (.arraylength, 1) := by decide +kernel
theorem dJ1_charAt_3b067_3 : decode cJ1_charAt_3b067 3 = .ok (.invokestatic 9, 3) := by decide +kernel
theorem dJ1_charAt_3b067_6 : decode cJ1_charAt_3b067 6 = .ok (.aload_n 0, 1) := by decide +kernel
theorem dJ1_charAt_3b067_7 : decode cJ1_charAt_3b067 7 = .ok (.iload_n 1, 1) := by decide +kernel
theorem dJ1_charAt_3b067_8 : decode cJ1_charAt_3b067 8 = .ok (.baload, 1) := by decide +kernel
theorem dJ1_charAt_3b067_9 : decode cJ1_charAt_3b067 9 = .ok (.sipush 255, 3) := by decide +kernel
theorem dJ1_charAt_3b067_12 : decode cJ1_charAt_3b067 12 = .ok (.iand, 1) := by decide +kernel
theorem dJ1_charAt_3b067_13 : decode cJ1_charAt_3b067 13 = .ok (.i2c, 1) := by decide +kernel
theorem dJ1_charAt_3b067_14 : decode cJ1_charAt_3b067 14 = .ok (.ireturn, 1) := by decide +kernel
abbrev rmJ1_charAt_3b067 : Room := { frames := 2, cells := 0, slots := 0, locals := 43 }
abbrev gtJ1_charAt_3b067 : Type := Unit
def prJ1_charAt_3b067 (_ : Unit) : List Value → px_St → Prop := fun As _ => ∃ (k j : Nat), As = [.ref k, .int (nI j)] ∧ px_sv k ∧ j < snL.getD (k - 200) 0
def poJ1_charAt_3b067 (_ : Unit) : List Value → px_St → Int32 → px_St → Prop
  | [.ref k, .int x], σ, r, σ' => σ' = σ ∧ r = (snB.getD (k - 200) []).getD x.toNatClampNeg 0
  | _, _, _, _ => False
def opJ1_charAt_3b067 (po : Int32 → px_St → Prop) : List (Nat × px_Op) := [
  (0, px_il 1 1),
  (1, px_al 2 0),
  (2, px_slen 3),
  (3, px_callS 6 2 px_vV prJ0_checkIndex_df160 poJ0_checkIndex_df160),
  (6, px_al 7 0),
  (7, px_il 8 1),
  (8, px_sbal 9),
  (9, px_push 12 (.int 255)),
  (12, px_bin 13 (fun x y => x &&& y)),
  (13, px_un 14 (fun x => (x.toUInt32 % 65536).toInt32)),
  (14, px_iret (.char) po)]
theorem okJ1_charAt_3b067 : ∀ (po : Int32 → px_St → Prop) (i pc : Nat) (op : px_Op), (opJ1_charAt_3b067 po)[i]? = some (pc, op) → px_Snd (cJ1_charAt_3b067, 2, RJ1, Cond.code yJ1_charAt_3b067 cJ1_charAt_3b067 2 (some .char) :: wdC, (some .char), rmJ1_charAt_3b067, dC) px_vI po pc op := by
  intro po
  unfold opJ1_charAt_3b067
  refine px_ok_cons (ps_iload_n dJ1_charAt_3b067_0 rfl) ?_
  refine px_ok_cons (ps_aload_n dJ1_charAt_3b067_1 rfl) ?_
  refine px_ok_cons (ps_slen dJ1_charAt_3b067_2) ?_
  refine px_ok_cons (ps_callS mJ0_checkIndex_df160 (fun _ _ => rfl) (fun _ _ ht => px_cwS wgC (wdC_3_in _ (List.mem_of_getElem? (i := 20) rfl)) (wdC_3_in _ (List.mem_of_getElem? (i := 21) rfl)) (wdC_3_in _ (List.mem_of_getElem? (i := 11) rfl)) (wdC_3_in _ (List.mem_of_getElem? (i := 14) rfl)) (by decide +kernel) rfl rfl (by decide) ht) dJ1_charAt_3b067_3) ?_
  refine px_ok_cons (ps_aload_n dJ1_charAt_3b067_6 rfl) ?_
  refine px_ok_cons (ps_iload_n dJ1_charAt_3b067_7 rfl) ?_
  refine px_ok_cons (ps_sbal dJ1_charAt_3b067_8) ?_
  refine px_ok_cons (ps_sipush dJ1_charAt_3b067_9 (by decide)) ?_
  refine px_ok_cons (ps_iand dJ1_charAt_3b067_12) ?_
  refine px_ok_cons (ps_i2c dJ1_charAt_3b067_13) ?_
  refine px_ok_cons (ps_ireturn rfl dJ1_charAt_3b067_14) ?_
  exact px_ok_nil
theorem mJ1_charAt_3b067 (g : gtJ1_charAt_3b067) : px_Met dC yJ1_charAt_3b067 (Cond.code yJ1_charAt_3b067 cJ1_charAt_3b067 2 (some .char) :: wdC) rmJ1_charAt_3b067 px_vI (prJ1_charAt_3b067 g) (poJ1_charAt_3b067 g) := by
  refine px_met (Z := (cJ1_charAt_3b067, 2, RJ1, Cond.code yJ1_charAt_3b067 cJ1_charAt_3b067 2 (some .char) :: wdC, (some .char), rmJ1_charAt_3b067, dC)) opJ1_charAt_3b067 (by decide) rfl rfl okJ1_charAt_3b067 ?_ ?_
  · intro As σ h
    obtain ⟨k, j, rfl, hk, hj⟩ := h
    exact Nat.le_of_ble_eq_true rfl
  · intro As σ h G hG
    obtain ⟨k, j, rfl, hk, hj⟩ := h
    have hl := sn_len (k - 200) (by have := hk.2; omega)
    have hlt : nI j < nI (snL.getD (k - 200) 0) := nI_lt hj (by omega)
    refine hG.1 0 _ _ rfl _ _ _ ?_
    refine hG.1 1 _ _ rfl _ _ _ ?_
    refine hG.1 2 _ _ rfl _ _ _ ?_
    refine ⟨hk, ?_⟩
    refine hG.1 3 _ _ rfl _ _ _ ?_
    refine ⟨Nat.le_of_ble_eq_true rfl, Nat.le_of_ble_eq_true rfl, (), ⟨_, _, rfl, nI_pos (by omega), hlt⟩, fun r1 σ1 h3 => ?_⟩
    obtain rfl := h3
    refine hG.1 4 _ _ rfl _ _ _ ?_
    refine hG.1 5 _ _ rfl _ _ _ ?_
    refine hG.1 6 _ _ rfl _ _ _ ?_
    refine ⟨hk, vp_in_nI hj (by omega), ?_⟩
    refine hG.1 7 _ _ rfl _ _ _ ?_
    refine hG.1 8 _ _ rfl _ _ _ ?_
    refine hG.1 9 _ _ rfl _ _ _ ?_
    refine hG.1 10 _ _ rfl _ _ _ ?_
    have hc := sn_chr (k - 200) (by have := hk.2; omega) j hj
    show narrow .char (.int (((snB.getD (k - 200) []).getD (nI j).toNatClampNeg 0 &&& 255).toUInt32 % 65536).toInt32) = .int (((snB.getD (k - 200) []).getD (nI j).toNatClampNeg 0 &&& 255).toUInt32 % 65536).toInt32 ∧ (σ1 = σ1 ∧ (((snB.getD (k - 200) []).getD (nI j).toNatClampNeg 0 &&& 255).toUInt32 % 65536).toInt32 = (snB.getD (k - 200) []).getD (nI j).toNatClampNeg 0)
    rw [nI_clamp (by omega), hc.1]
    exact ⟨hc.2, rfl, rfl⟩
theorem dJ0_charAt_5068e_0 : decode cJ0_charAt_5068e 0 = .ok (.aload_n 0, 1) := by decide +kernel
theorem dJ0_charAt_5068e_1 : decode cJ0_charAt_5068e 1 = .ok (.invokevirtual 492, 3) := by decide +kernel
theorem dJ0_charAt_5068e_4 : decode cJ0_charAt_5068e 4 = .ok (.ifCond .eq 12, 3) := by decide +kernel
theorem dJ0_charAt_5068e_7 : decode cJ0_charAt_5068e 7 = .ok (.aload_n 0, 1) := by decide +kernel
theorem dJ0_charAt_5068e_8 : decode cJ0_charAt_5068e 8 = .ok (.getfield 9, 3) := by decide +kernel
theorem dJ0_charAt_5068e_11 : decode cJ0_charAt_5068e 11 = .ok (.iload_n 1, 1) := by decide +kernel
theorem dJ0_charAt_5068e_12 : decode cJ0_charAt_5068e 12 = .ok (.invokestatic 495, 3) := by decide +kernel
theorem dJ0_charAt_5068e_15 : decode cJ0_charAt_5068e 15 = .ok (.ireturn, 1) := by decide +kernel
theorem dJ0_charAt_5068e_16 : decode cJ0_charAt_5068e 16 = .ok (.aload_n 0, 1) := by decide +kernel
theorem dJ0_charAt_5068e_17 : decode cJ0_charAt_5068e 17 = .ok (.getfield 9, 3) := by decide +kernel
theorem dJ0_charAt_5068e_20 : decode cJ0_charAt_5068e 20 = .ok (.iload_n 1, 1) := by decide +kernel
theorem dJ0_charAt_5068e_21 : decode cJ0_charAt_5068e 21 = .ok (.invokestatic 498, 3) := by decide +kernel
theorem dJ0_charAt_5068e_24 : decode cJ0_charAt_5068e 24 = .ok (.ireturn, 1) := by decide +kernel
abbrev rmJ0_charAt_5068e : Room := { frames := 3, cells := 0, slots := 0, locals := 64 }
abbrev gtJ0_charAt_5068e : Type := Nat
def qrJ0_charAt_5068e (j : Nat) (k : Nat) (v : Int32) (_ : px_St) : Prop := v = nI j ∧ j < snL.getD (k - 100) 0
def qoJ0_charAt_5068e (j : Nat) (k : Nat) (_ : Int32) (σ : px_St) (r : Int32) (σ' : px_St) : Prop := σ' = σ ∧ r = (snB.getD (k - 100) []).getD j 0
def prJ0_charAt_5068e (g : gtJ0_charAt_5068e) : List Value → px_St → Prop := fun As σ => ∃ v0 : Nat, ∃ v1 : Int32, As = [.ref v0, .int v1] ∧ px_st v0 ∧ qrJ0_charAt_5068e g v0 v1 σ
def poJ0_charAt_5068e (g : gtJ0_charAt_5068e) : List Value → px_St → Int32 → px_St → Prop
  | [.ref v0, .int v1], σ, r, σ' => qoJ0_charAt_5068e g v0 v1 σ r σ'
  | _, _, _, _ => False
def opJ0_charAt_5068e (po : Int32 → px_St → Prop) : List (Nat × px_Op) := [
  (0, px_al 1 0),
  (1, px_callVs 4 0 px_vI prJ0_isLatin1_aae02 poJ0_isLatin1_aae02),
  (4, px_if 7 16 (fun x => x = 0)),
  (7, px_al 8 0),
  (8, px_sval 11),
  (11, px_il 12 1),
  (12, px_callS 15 2 px_vI prJ1_charAt_3b067 poJ1_charAt_3b067),
  (15, px_iret (.char) po)]
theorem okJ0_charAt_5068e : ∀ (po : Int32 → px_St → Prop) (i pc : Nat) (op : px_Op), (opJ0_charAt_5068e po)[i]? = some (pc, op) → px_Snd (cJ0_charAt_5068e, 2, RJ0, Cond.code yJ0_charAt_5068e cJ0_charAt_5068e 2 (some .char) :: wdC, (some .char), rmJ0_charAt_5068e, dC) px_vI po pc op := by
  intro po
  unfold opJ0_charAt_5068e
  refine px_ok_cons (ps_aload_n dJ0_charAt_5068e_0 rfl) ?_
  refine px_ok_cons (ps_callVs mJ0_isLatin1_aae02 (fun _ _ => rfl) (fun _ _ ht => px_cwV wgC (wdC_3_in _ (List.mem_of_getElem? (i := 37) rfl)) (wdC_3_in _ (List.mem_of_getElem? (i := 38) rfl)) (wdC_3_in _ (List.mem_of_getElem? (i := 39) rfl)) (wdC_3_in _ (List.mem_of_getElem? (i := 11) rfl)) (wdC_3_in _ (List.mem_of_getElem? (i := 12) rfl)) (by decide +kernel) rfl rfl (by decide) ht) dJ0_charAt_5068e_1) ?_
  refine px_ok_cons (ps_if_eq dJ0_charAt_5068e_4 (by decide)) ?_
  refine px_ok_cons (ps_aload_n dJ0_charAt_5068e_7 rfl) ?_
  refine px_ok_cons (ps_sval (List.mem_cons_of_mem _ (wdC_3_in _ (List.mem_of_getElem? (i := 7) rfl))) dJ0_charAt_5068e_8) ?_
  refine px_ok_cons (ps_iload_n dJ0_charAt_5068e_11 rfl) ?_
  refine px_ok_cons (ps_callS mJ1_charAt_3b067 (fun _ _ => rfl) (fun _ _ ht => px_cwS wgC (wdC_4_in _ (List.mem_of_getElem? (i := 0) rfl)) (wdC_4_in _ (List.mem_of_getElem? (i := 1) rfl)) (wdC_4_in _ (List.mem_of_getElem? (i := 2) rfl)) (wdC_3_in _ (List.mem_of_getElem? (i := 19) rfl)) (by decide +kernel) rfl rfl (by decide) ht) dJ0_charAt_5068e_12) ?_
  refine px_ok_cons (ps_ireturn rfl dJ0_charAt_5068e_15) ?_
  exact px_ok_nil
theorem mJ0_charAt_5068e (g : gtJ0_charAt_5068e) : px_Met dC yJ0_charAt_5068e (Cond.code yJ0_charAt_5068e cJ0_charAt_5068e 2 (some .char) :: wdC) rmJ0_charAt_5068e px_vI (prJ0_charAt_5068e g) (poJ0_charAt_5068e g) := by
  refine px_met (Z := (cJ0_charAt_5068e, 2, RJ0, Cond.code yJ0_charAt_5068e cJ0_charAt_5068e 2 (some .char) :: wdC, (some .char), rmJ0_charAt_5068e, dC)) opJ0_charAt_5068e (by decide) rfl rfl okJ0_charAt_5068e ?_ ?_
  · intro As σ h
    obtain ⟨v0, v1, rfl, hk, rfl, hj⟩ := h
    exact Nat.le_of_ble_eq_true rfl
  · intro As σ h G hG
    obtain ⟨v0, v1, rfl, hk, rfl, hj⟩ := h
    refine hG.1 0 _ _ rfl _ _ _ ?_
    refine hG.1 1 _ _ rfl _ _ _ ?_
    refine ⟨hk, Nat.le_of_ble_eq_true rfl, (), ⟨_, rfl, hk⟩, fun r1 σ1 h1 => ?_⟩
    obtain ⟨rfl, rfl⟩ := h1
    refine hG.1 2 _ _ rfl _ _ _ ?_
    refine ⟨fun z => absurd z (by decide), fun _ => ?_⟩
    refine hG.1 3 _ _ rfl _ _ _ ?_
    refine hG.1 4 _ _ rfl _ _ _ ?_
    refine ⟨hk, ?_⟩
    refine hG.1 5 _ _ rfl _ _ _ ?_
    refine hG.1 6 _ _ rfl _ _ _ ?_
    have e : v0 + 100 - 200 = v0 - 100 := by omega
    refine ⟨Nat.le_of_ble_eq_true rfl, Nat.le_of_ble_eq_true rfl, (), ⟨v0 + 100, g, rfl, ⟨by have := hk.1; omega, by have := hk.2; omega⟩, by rw [e]; exact hj⟩, fun r2 σ2 h2 => ?_⟩
    obtain ⟨rfl, h2⟩ := h2
    have hl := sn_len (v0 - 100) (by have := hk.2; omega)
    rw [nI_clamp (by omega), e] at h2
    refine hG.1 7 _ _ rfl _ _ _ ?_
    have hc := sn_chr (v0 - 100) (by have := hk.2; omega) g hj
    subst h2
    exact ⟨hc.2, rfl, rfl⟩
