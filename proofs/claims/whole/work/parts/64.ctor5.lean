/-! ===== the class's own constructor ===== -/
theorem dX5_init_0 : decode cX5_init 0 = .ok (.aload_n 0, 1) := by decide +kernel
theorem dX5_init_1 : decode cX5_init 1 = .ok (.invokespecial 1, 3) := by decide +kernel
theorem dX5_init_4 : decode cX5_init 4 = .ok (.aload_n 0, 1) := by decide +kernel
theorem dX5_init_5 : decode cX5_init 5 = .ok (.new 7, 3) := by decide +kernel
theorem dX5_init_8 : decode cX5_init 8 = .ok (.dup, 1) := by decide +kernel
theorem dX5_init_9 : decode cX5_init 9 = .ok (.invokespecial 9, 3) := by decide +kernel
theorem dX5_init_12 : decode cX5_init 12 = .ok (.putfield 10, 3) := by decide +kernel
theorem dX5_init_15 : decode cX5_init 15 = .ok (.aload_n 0, 1) := by decide +kernel
theorem dX5_init_16 : decode cX5_init 16 = .ok (.new 16, 3) := by decide +kernel
theorem dX5_init_19 : decode cX5_init 19 = .ok (.dup, 1) := by decide +kernel
theorem dX5_init_20 : decode cX5_init 20 = .ok (.invokespecial 18, 3) := by decide +kernel
theorem dX5_init_23 : decode cX5_init 23 = .ok (.putfield 19, 3) := by decide +kernel
theorem dX5_init_26 : decode cX5_init 26 = .ok (.aload_n 0, 1) := by decide +kernel
theorem dX5_init_27 : decode cX5_init 27 = .ok (.new 7, 3) := by decide +kernel
theorem dX5_init_30 : decode cX5_init 30 = .ok (.dup, 1) := by decide +kernel
theorem dX5_init_31 : decode cX5_init 31 = .ok (.invokespecial 9, 3) := by decide +kernel
theorem dX5_init_34 : decode cX5_init 34 = .ok (.putfield 23, 3) := by decide +kernel
theorem dX5_init_37 : decode cX5_init 37 = .ok (.aload_n 0, 1) := by decide +kernel
theorem dX5_init_38 : decode cX5_init 38 = .ok (.new 7, 3) := by decide +kernel
theorem dX5_init_41 : decode cX5_init 41 = .ok (.dup, 1) := by decide +kernel
theorem dX5_init_42 : decode cX5_init 42 = .ok (.invokespecial 9, 3) := by decide +kernel
theorem dX5_init_45 : decode cX5_init 45 = .ok (.putfield 26, 3) := by decide +kernel
theorem dX5_init_48 : decode cX5_init 48 = .ok (.aload_n 0, 1) := by decide +kernel
theorem dX5_init_49 : decode cX5_init 49 = .ok (.bipush 62, 2) := by decide +kernel
theorem dX5_init_51 : decode cX5_init 51 = .ok (.newarray .int, 2) := by decide +kernel
theorem dX5_init_53 : decode cX5_init 53 = .ok (.putfield 29, 3) := by decide +kernel
theorem dX5_init_56 : decode cX5_init 56 = .ok (.aload_n 0, 1) := by decide +kernel
theorem dX5_init_57 : decode cX5_init 57 = .ok (.sipush 210, 3) := by decide +kernel
theorem dX5_init_60 : decode cX5_init 60 = .ok (.newarray .int, 2) := by decide +kernel
theorem dX5_init_62 : decode cX5_init 62 = .ok (.putfield 33, 3) := by decide +kernel
theorem dX5_init_65 : decode cX5_init 65 = .ok (.aload_n 0, 1) := by decide +kernel
theorem dX5_init_66 : decode cX5_init 66 = .ok (.sipush 160, 3) := by decide +kernel
theorem dX5_init_69 : decode cX5_init 69 = .ok (.newarray .byte, 2) := by decide +kernel
theorem dX5_init_71 : decode cX5_init 71 = .ok (.putfield 36, 3) := by decide +kernel
theorem dX5_init_74 : decode cX5_init 74 = .ok (.aload_n 0, 1) := by decide +kernel
theorem dX5_init_75 : decode cX5_init 75 = .ok (.new 40, 3) := by decide +kernel
theorem dX5_init_78 : decode cX5_init 78 = .ok (.dup, 1) := by decide +kernel
theorem dX5_init_79 : decode cX5_init 79 = .ok (.invokespecial 42, 3) := by decide +kernel
theorem dX5_init_82 : decode cX5_init 82 = .ok (.putfield 43, 3) := by decide +kernel
theorem dX5_init_85 : decode cX5_init 85 = .ok (.aload_n 0, 1) := by decide +kernel
theorem dX5_init_86 : decode cX5_init 86 = .ok (.iconst 2, 1) := by decide +kernel
theorem dX5_init_87 : decode cX5_init 87 = .ok (.anewarray 47, 3) := by decide +kernel
theorem dX5_init_90 : decode cX5_init 90 = .ok (.putfield 49, 3) := by decide +kernel
theorem dX5_init_93 : decode cX5_init 93 = .ok (.aload_n 0, 1) := by decide +kernel
theorem dX5_init_94 : decode cX5_init 94 = .ok (.iconst 4, 1) := by decide +kernel
theorem dX5_init_95 : decode cX5_init 95 = .ok (.anewarray 53, 3) := by decide +kernel
theorem dX5_init_98 : decode cX5_init 98 = .ok (.putfield 55, 3) := by decide +kernel
theorem dX5_init_101 : decode cX5_init 101 = .ok (.iconst 0, 1) := by decide +kernel
theorem dX5_init_102 : decode cX5_init 102 = .ok (.istore_n 1, 1) := by decide +kernel
theorem dX5_init_103 : decode cX5_init 103 = .ok (.iload_n 1, 1) := by decide +kernel
theorem dX5_init_104 : decode cX5_init 104 = .ok (.iconst 2, 1) := by decide +kernel
theorem dX5_init_105 : decode cX5_init 105 = .ok (.if_icmp .ge 22, 3) := by decide +kernel
theorem dX5_init_108 : decode cX5_init 108 = .ok (.aload_n 0, 1) := by decide +kernel
theorem dX5_init_109 : decode cX5_init 109 = .ok (.getfield 49, 3) := by decide +kernel
theorem dX5_init_112 : decode cX5_init 112 = .ok (.iload_n 1, 1) := by decide +kernel
theorem dX5_init_113 : decode cX5_init 113 = .ok (.new 47, 3) := by decide +kernel
theorem dX5_init_116 : decode cX5_init 116 = .ok (.dup, 1) := by decide +kernel
theorem dX5_init_117 : decode cX5_init 117 = .ok (.invokespecial 59, 3) := by decide +kernel
theorem dX5_init_120 : decode cX5_init 120 = .ok (.aastore, 1) := by decide +kernel
theorem dX5_init_121 : decode cX5_init 121 = .ok (.iinc 1 1, 3) := by decide +kernel
theorem dX5_init_124 : decode cX5_init 124 = .ok (.goto (-21), 3) := by decide +kernel
theorem dX5_init_127 : decode cX5_init 127 = .ok (.iconst 0, 1) := by decide +kernel
theorem dX5_init_128 : decode cX5_init 128 = .ok (.istore_n 1, 1) := by decide +kernel
theorem dX5_init_129 : decode cX5_init 129 = .ok (.iload_n 1, 1) := by decide +kernel
theorem dX5_init_130 : decode cX5_init 130 = .ok (.iconst 4, 1) := by decide +kernel
theorem dX5_init_131 : decode cX5_init 131 = .ok (.if_icmp .ge 22, 3) := by decide +kernel
theorem dX5_init_134 : decode cX5_init 134 = .ok (.aload_n 0, 1) := by decide +kernel
theorem dX5_init_135 : decode cX5_init 135 = .ok (.getfield 55, 3) := by decide +kernel
theorem dX5_init_138 : decode cX5_init 138 = .ok (.iload_n 1, 1) := by decide +kernel
theorem dX5_init_139 : decode cX5_init 139 = .ok (.new 53, 3) := by decide +kernel
theorem dX5_init_142 : decode cX5_init 142 = .ok (.dup, 1) := by decide +kernel
theorem dX5_init_143 : decode cX5_init 143 = .ok (.invokespecial 60, 3) := by decide +kernel
theorem dX5_init_146 : decode cX5_init 146 = .ok (.aastore, 1) := by decide +kernel
theorem dX5_init_147 : decode cX5_init 147 = .ok (.iinc 1 1, 3) := by decide +kernel
theorem dX5_init_150 : decode cX5_init 150 = .ok (.goto (-21), 3) := by decide +kernel
theorem dX5_init_153 : decode cX5_init 153 = .ok (.return_, 1) := by decide +kernel
def av_1 : Nat → Int32 := fun j => match j with | 1 => 1 | _ => 0
def rd_1 : Nat → Int32 := fun j => match j with | 0 => 7 | 2 => 33 | _ => 0
def sh_1 : Nat → Int32 := fun j => match j with | 0 => -1 | _ => 0
/-- the class's store, new -/
def sC0 : px_St := (fun k => match k with | 4 => rd_1 | 8 => av_1 | 13 => av_1 | 18 => av_1 | 23 => av_1 | 28 => av_1 | 33 => av_1 | 49 => sh_1 | 51 => sh_1 | 53 => sh_1 | 55 => sh_1 | _ => fun _ => 0, fun _ _ => 0)
theorem cx_fin2 {D : va_G} {A : Nat → Prop} {ws : va_W} {H : Heap} {d : px_D} {cA : Nat → ClassId} {q : Nat → Nat} {σ : px_St} (pl : Nat → Nat) (hP : va_P D vwCl ws H) (hD : va_D A ws) (h : ∀ k, k < d.1 → ∃ e, ws[pl k]? = some (q k, e) ∧ (va_at D vwCl (q k, e) H → va_at D vwCl (q k, px_cell d cA q σ k) H)) (hi : ∀ i, i < d.1 → ∀ j, j < d.1 → pl i = pl j → i = j) : va_P D vwCl (px_w d cA q σ) H ∧ va_D A (px_w d cA q σ) := by
  refine ⟨fun k x hk => ?_, fun i j x y hx hy hxy => ?_, fun k x hk => ?_⟩
  · obtain ⟨hl, rfl⟩ := px_w_at hk
    obtain ⟨e, h1, h2⟩ := h k hl
    exact h2 (hP _ _ h1)
  · obtain ⟨hl, rfl⟩ := px_w_at hx
    obtain ⟨hl2, rfl⟩ := px_w_at hy
    obtain ⟨e1, h1, -⟩ := h i hl
    obtain ⟨e2, h2, -⟩ := h j hl2
    exact hi i hl j hl2 (hD.1 _ _ _ _ h1 h2 hxy)
  · obtain ⟨hl, rfl⟩ := px_w_at hk
    obtain ⟨e, h1, -⟩ := h k hl
    have h2 := hD.2 _ _ h1
    exact h2
theorem cx_row {D : va_G} {cl : List vw_C} {a n : Nat} {c : ClassId} {f g : Nat → Option Nat} {H : Heap} (h : ∀ j, j < n → f j = g j) : va_at D cl (a, .inl (c, n, .inr (.inr (.inr (.inr f))))) H → va_at D cl (a, .inl (c, n, .inr (.inr (.inr (.inr g))))) H := by
  intro hz
  have e : vp_cell c (n, .inr (.inr (.inr (.inr f)))) = vp_cell c (n, .inr (.inr (.inr (.inr g)))) := by
    rw [vp_cell_q, vp_cell_q]
    unfold arrV
    congr 2
    funext j
    show va_rf (f j.val) = va_rf (g j.val)
    rw [h j.val j.isLt]
  have hz : H[a]? = some (vp_cell c (n, .inr (.inr (.inr (.inr f))))) := hz
  show H[a]? = some (vp_cell c (n, .inr (.inr (.inr (.inr g)))))
  rw [hz, e]
def plC (k : Nat) : Nat := ([0, 21, 22, 23, 24, 2, 1, 25, 3, 4, 5, 6, 7, 11, 12, 13, 14, 15, 16, 17, 18, 19, 20, 32, 33, 34, 35, 36, 41, 42, 43, 44, 45, 26, 27, 28, 29, 30, 8, 9, 10, 37, 38, 39, 46, 47, 48, 31, 40, 49, 50, 51, 52, 53, 54, 55, 56] : List Nat).getD k 0
theorem plC_i : ∀ i, i < dC.1 → ∀ j, j < dC.1 → plC i = plC j → i = j := by decide +kernel
def LC (cA : Nat → ClassId) (q : Nat → Nat) : va_W := [(q 0, .inr (5, [.ref (q 8), .ref (q 38), .ref (q 13), .ref (q 18), .ref (q 1), .ref (q 2), .ref (q 3), .ref (q 4), .ref (q 5), .ref (q 6), .int 0, .int 0, .int 0])), (q 6, .inl (cA 4, 4, .inr (.inr (.inr (.inr (va_up (va_up (va_up (va_up (fun _ => none) (0 : Int32).toNatClampNeg (some (q 49))) (1 : Int32).toNatClampNeg (some (q 51))) (2 : Int32).toNatClampNeg (some (q 53))) (3 : Int32).toNatClampNeg (some (q 55)))))))), (q 5, .inl (cA 3, 2, .inr (.inr (.inr (.inr (va_up (va_up (fun _ => none) (0 : Int32).toNatClampNeg (some (q 47))) (1 : Int32).toNatClampNeg (some (q 48)))))))), (q 8, .inr (0, [.int 0, .int 1, .int 0, .ref (q 9), .ref (q 10), .ref (q 11), .ref (q 12)])), (q 9, .inl (cA 0, 5, .inl (fun _ => 0))), (q 10, .inl (cA 0, 5, .inl (fun _ => 0))), (q 11, .inl (cA 0, 5, .inl (fun _ => 0))), (q 12, .inl (cA 0, 30, .inl (fun _ => 0))), (q 38, .inr (2, [.int 0, .ref (q 39), .ref (q 40)])), (q 39, .inl (cA 0, 6, .inl (fun _ => 0))), (q 40, .inl (cA 0, 6, .inl (fun _ => 0))), (q 13, .inr (0, [.int 0, .int 1, .int 0, .ref (q 14), .ref (q 15), .ref (q 16), .ref (q 17)])), (q 14, .inl (cA 0, 5, .inl (fun _ => 0))), (q 15, .inl (cA 0, 5, .inl (fun _ => 0))), (q 16, .inl (cA 0, 5, .inl (fun _ => 0))), (q 17, .inl (cA 0, 30, .inl (fun _ => 0))), (q 18, .inr (0, [.int 0, .int 1, .int 0, .ref (q 19), .ref (q 20), .ref (q 21), .ref (q 22)])), (q 19, .inl (cA 0, 5, .inl (fun _ => 0))), (q 20, .inl (cA 0, 5, .inl (fun _ => 0))), (q 21, .inl (cA 0, 5, .inl (fun _ => 0))), (q 22, .inl (cA 0, 30, .inl (fun _ => 0))), (q 1, .inl (cA 0, 62, .inl (fun _ => 0))), (q 2, .inl (cA 0, 210, .inl (fun _ => 0))), (q 3, .inl (cA 1, 160, .inl (fun _ => 0))), (q 4, .inr (4, [.ref (q 7), .int 0, .ref (q 33), .int 0, .int 0, .int 0, .int 0, .int 0, .int 0])), (q 7, .inl (cA 1, 0, .inl (fun _ => 0))), (q 33, .inr (0, [.int 0, .int 1, .int 0, .ref (q 34), .ref (q 35), .ref (q 36), .ref (q 37)])), (q 34, .inl (cA 0, 5, .inl (fun _ => 0))), (q 35, .inl (cA 0, 5, .inl (fun _ => 0))), (q 36, .inl (cA 0, 5, .inl (fun _ => 0))), (q 37, .inl (cA 0, 30, .inl (fun _ => 0))), (q 47, .inr (1, [.int 0, .ref (q 23), .ref (q 41)])), (q 23, .inr (0, [.int 0, .int 1, .int 0, .ref (q 24), .ref (q 25), .ref (q 26), .ref (q 27)])), (q 24, .inl (cA 0, 5, .inl (fun _ => 0))), (q 25, .inl (cA 0, 5, .inl (fun _ => 0))), (q 26, .inl (cA 0, 5, .inl (fun _ => 0))), (q 27, .inl (cA 0, 30, .inl (fun _ => 0))), (q 41, .inr (2, [.int 0, .ref (q 42), .ref (q 43)])), (q 42, .inl (cA 0, 6, .inl (fun _ => 0))), (q 43, .inl (cA 0, 6, .inl (fun _ => 0))), (q 48, .inr (1, [.int 0, .ref (q 28), .ref (q 44)])), (q 28, .inr (0, [.int 0, .int 1, .int 0, .ref (q 29), .ref (q 30), .ref (q 31), .ref (q 32)])), (q 29, .inl (cA 0, 5, .inl (fun _ => 0))), (q 30, .inl (cA 0, 5, .inl (fun _ => 0))), (q 31, .inl (cA 0, 5, .inl (fun _ => 0))), (q 32, .inl (cA 0, 30, .inl (fun _ => 0))), (q 44, .inr (2, [.int 0, .ref (q 45), .ref (q 46)])), (q 45, .inl (cA 0, 6, .inl (fun _ => 0))), (q 46, .inl (cA 0, 6, .inl (fun _ => 0))), (q 49, .inr (3, [.int (-1), .int 0, .ref (q 50)])), (q 50, .inl (cA 0, 40, .inl (fun _ => 0))), (q 51, .inr (3, [.int (-1), .int 0, .ref (q 52)])), (q 52, .inl (cA 0, 40, .inl (fun _ => 0))), (q 53, .inr (3, [.int (-1), .int 0, .ref (q 54)])), (q 54, .inl (cA 0, 40, .inl (fun _ => 0))), (q 55, .inr (3, [.int (-1), .int 0, .ref (q 56)])), (q 56, .inl (cA 0, 40, .inl (fun _ => 0)))]
theorem LC_0 {D : va_G} {cA : Nat → ClassId} {q : Nat → Nat} {H : Heap} : ∃ e, (LC cA q)[plC 0]? = some (q 0, e) ∧ (va_at D vwCl (q 0, e) H → va_at D vwCl (q 0, px_cell dC cA q sC0 0) H) := ⟨_, rfl, fun z => z⟩
theorem LC_1 {D : va_G} {cA : Nat → ClassId} {q : Nat → Nat} {H : Heap} : ∃ e, (LC cA q)[plC 1]? = some (q 1, e) ∧ (va_at D vwCl (q 1, e) H → va_at D vwCl (q 1, px_cell dC cA q sC0 1) H) := ⟨_, rfl, fun z => z⟩
theorem LC_2 {D : va_G} {cA : Nat → ClassId} {q : Nat → Nat} {H : Heap} : ∃ e, (LC cA q)[plC 2]? = some (q 2, e) ∧ (va_at D vwCl (q 2, e) H → va_at D vwCl (q 2, px_cell dC cA q sC0 2) H) := ⟨_, rfl, fun z => z⟩
theorem LC_3 {D : va_G} {cA : Nat → ClassId} {q : Nat → Nat} {H : Heap} : ∃ e, (LC cA q)[plC 3]? = some (q 3, e) ∧ (va_at D vwCl (q 3, e) H → va_at D vwCl (q 3, px_cell dC cA q sC0 3) H) := ⟨_, rfl, fun z => z⟩
theorem LC_4 {D : va_G} {cA : Nat → ClassId} {q : Nat → Nat} {H : Heap} : ∃ e, (LC cA q)[plC 4]? = some (q 4, e) ∧ (va_at D vwCl (q 4, e) H → va_at D vwCl (q 4, px_cell dC cA q sC0 4) H) := ⟨_, rfl, fun z => z⟩
theorem LC_5 {D : va_G} {cA : Nat → ClassId} {q : Nat → Nat} {H : Heap} : ∃ e, (LC cA q)[plC 5]? = some (q 5, e) ∧ (va_at D vwCl (q 5, e) H → va_at D vwCl (q 5, px_cell dC cA q sC0 5) H) := ⟨_, rfl, cx_row (fun j hj => by rcases (show j = 0 ∨ j = 1 by omega) with rfl | rfl <;> rfl)⟩
theorem LC_6 {D : va_G} {cA : Nat → ClassId} {q : Nat → Nat} {H : Heap} : ∃ e, (LC cA q)[plC 6]? = some (q 6, e) ∧ (va_at D vwCl (q 6, e) H → va_at D vwCl (q 6, px_cell dC cA q sC0 6) H) := ⟨_, rfl, cx_row (fun j hj => by rcases (show j = 0 ∨ j = 1 ∨ j = 2 ∨ j = 3 by omega) with rfl | rfl | rfl | rfl <;> rfl)⟩
theorem LC_7 {D : va_G} {cA : Nat → ClassId} {q : Nat → Nat} {H : Heap} : ∃ e, (LC cA q)[plC 7]? = some (q 7, e) ∧ (va_at D vwCl (q 7, e) H → va_at D vwCl (q 7, px_cell dC cA q sC0 7) H) := ⟨_, rfl, fun z => z⟩
theorem LC_8 {D : va_G} {cA : Nat → ClassId} {q : Nat → Nat} {H : Heap} : ∃ e, (LC cA q)[plC 8]? = some (q 8, e) ∧ (va_at D vwCl (q 8, e) H → va_at D vwCl (q 8, px_cell dC cA q sC0 8) H) := ⟨_, rfl, fun z => z⟩
theorem LC_9 {D : va_G} {cA : Nat → ClassId} {q : Nat → Nat} {H : Heap} : ∃ e, (LC cA q)[plC 9]? = some (q 9, e) ∧ (va_at D vwCl (q 9, e) H → va_at D vwCl (q 9, px_cell dC cA q sC0 9) H) := ⟨_, rfl, fun z => z⟩
theorem LC_10 {D : va_G} {cA : Nat → ClassId} {q : Nat → Nat} {H : Heap} : ∃ e, (LC cA q)[plC 10]? = some (q 10, e) ∧ (va_at D vwCl (q 10, e) H → va_at D vwCl (q 10, px_cell dC cA q sC0 10) H) := ⟨_, rfl, fun z => z⟩
theorem LC_11 {D : va_G} {cA : Nat → ClassId} {q : Nat → Nat} {H : Heap} : ∃ e, (LC cA q)[plC 11]? = some (q 11, e) ∧ (va_at D vwCl (q 11, e) H → va_at D vwCl (q 11, px_cell dC cA q sC0 11) H) := ⟨_, rfl, fun z => z⟩
theorem LC_12 {D : va_G} {cA : Nat → ClassId} {q : Nat → Nat} {H : Heap} : ∃ e, (LC cA q)[plC 12]? = some (q 12, e) ∧ (va_at D vwCl (q 12, e) H → va_at D vwCl (q 12, px_cell dC cA q sC0 12) H) := ⟨_, rfl, fun z => z⟩
theorem LC_13 {D : va_G} {cA : Nat → ClassId} {q : Nat → Nat} {H : Heap} : ∃ e, (LC cA q)[plC 13]? = some (q 13, e) ∧ (va_at D vwCl (q 13, e) H → va_at D vwCl (q 13, px_cell dC cA q sC0 13) H) := ⟨_, rfl, fun z => z⟩
theorem LC_14 {D : va_G} {cA : Nat → ClassId} {q : Nat → Nat} {H : Heap} : ∃ e, (LC cA q)[plC 14]? = some (q 14, e) ∧ (va_at D vwCl (q 14, e) H → va_at D vwCl (q 14, px_cell dC cA q sC0 14) H) := ⟨_, rfl, fun z => z⟩
theorem LC_15 {D : va_G} {cA : Nat → ClassId} {q : Nat → Nat} {H : Heap} : ∃ e, (LC cA q)[plC 15]? = some (q 15, e) ∧ (va_at D vwCl (q 15, e) H → va_at D vwCl (q 15, px_cell dC cA q sC0 15) H) := ⟨_, rfl, fun z => z⟩
theorem LC_16 {D : va_G} {cA : Nat → ClassId} {q : Nat → Nat} {H : Heap} : ∃ e, (LC cA q)[plC 16]? = some (q 16, e) ∧ (va_at D vwCl (q 16, e) H → va_at D vwCl (q 16, px_cell dC cA q sC0 16) H) := ⟨_, rfl, fun z => z⟩
theorem LC_17 {D : va_G} {cA : Nat → ClassId} {q : Nat → Nat} {H : Heap} : ∃ e, (LC cA q)[plC 17]? = some (q 17, e) ∧ (va_at D vwCl (q 17, e) H → va_at D vwCl (q 17, px_cell dC cA q sC0 17) H) := ⟨_, rfl, fun z => z⟩
theorem LC_18 {D : va_G} {cA : Nat → ClassId} {q : Nat → Nat} {H : Heap} : ∃ e, (LC cA q)[plC 18]? = some (q 18, e) ∧ (va_at D vwCl (q 18, e) H → va_at D vwCl (q 18, px_cell dC cA q sC0 18) H) := ⟨_, rfl, fun z => z⟩
theorem LC_19 {D : va_G} {cA : Nat → ClassId} {q : Nat → Nat} {H : Heap} : ∃ e, (LC cA q)[plC 19]? = some (q 19, e) ∧ (va_at D vwCl (q 19, e) H → va_at D vwCl (q 19, px_cell dC cA q sC0 19) H) := ⟨_, rfl, fun z => z⟩
theorem LC_20 {D : va_G} {cA : Nat → ClassId} {q : Nat → Nat} {H : Heap} : ∃ e, (LC cA q)[plC 20]? = some (q 20, e) ∧ (va_at D vwCl (q 20, e) H → va_at D vwCl (q 20, px_cell dC cA q sC0 20) H) := ⟨_, rfl, fun z => z⟩
theorem LC_21 {D : va_G} {cA : Nat → ClassId} {q : Nat → Nat} {H : Heap} : ∃ e, (LC cA q)[plC 21]? = some (q 21, e) ∧ (va_at D vwCl (q 21, e) H → va_at D vwCl (q 21, px_cell dC cA q sC0 21) H) := ⟨_, rfl, fun z => z⟩
theorem LC_22 {D : va_G} {cA : Nat → ClassId} {q : Nat → Nat} {H : Heap} : ∃ e, (LC cA q)[plC 22]? = some (q 22, e) ∧ (va_at D vwCl (q 22, e) H → va_at D vwCl (q 22, px_cell dC cA q sC0 22) H) := ⟨_, rfl, fun z => z⟩
theorem LC_23 {D : va_G} {cA : Nat → ClassId} {q : Nat → Nat} {H : Heap} : ∃ e, (LC cA q)[plC 23]? = some (q 23, e) ∧ (va_at D vwCl (q 23, e) H → va_at D vwCl (q 23, px_cell dC cA q sC0 23) H) := ⟨_, rfl, fun z => z⟩
theorem LC_24 {D : va_G} {cA : Nat → ClassId} {q : Nat → Nat} {H : Heap} : ∃ e, (LC cA q)[plC 24]? = some (q 24, e) ∧ (va_at D vwCl (q 24, e) H → va_at D vwCl (q 24, px_cell dC cA q sC0 24) H) := ⟨_, rfl, fun z => z⟩
theorem LC_25 {D : va_G} {cA : Nat → ClassId} {q : Nat → Nat} {H : Heap} : ∃ e, (LC cA q)[plC 25]? = some (q 25, e) ∧ (va_at D vwCl (q 25, e) H → va_at D vwCl (q 25, px_cell dC cA q sC0 25) H) := ⟨_, rfl, fun z => z⟩
theorem LC_26 {D : va_G} {cA : Nat → ClassId} {q : Nat → Nat} {H : Heap} : ∃ e, (LC cA q)[plC 26]? = some (q 26, e) ∧ (va_at D vwCl (q 26, e) H → va_at D vwCl (q 26, px_cell dC cA q sC0 26) H) := ⟨_, rfl, fun z => z⟩
theorem LC_27 {D : va_G} {cA : Nat → ClassId} {q : Nat → Nat} {H : Heap} : ∃ e, (LC cA q)[plC 27]? = some (q 27, e) ∧ (va_at D vwCl (q 27, e) H → va_at D vwCl (q 27, px_cell dC cA q sC0 27) H) := ⟨_, rfl, fun z => z⟩
theorem LC_28 {D : va_G} {cA : Nat → ClassId} {q : Nat → Nat} {H : Heap} : ∃ e, (LC cA q)[plC 28]? = some (q 28, e) ∧ (va_at D vwCl (q 28, e) H → va_at D vwCl (q 28, px_cell dC cA q sC0 28) H) := ⟨_, rfl, fun z => z⟩
theorem LC_29 {D : va_G} {cA : Nat → ClassId} {q : Nat → Nat} {H : Heap} : ∃ e, (LC cA q)[plC 29]? = some (q 29, e) ∧ (va_at D vwCl (q 29, e) H → va_at D vwCl (q 29, px_cell dC cA q sC0 29) H) := ⟨_, rfl, fun z => z⟩
theorem LC_30 {D : va_G} {cA : Nat → ClassId} {q : Nat → Nat} {H : Heap} : ∃ e, (LC cA q)[plC 30]? = some (q 30, e) ∧ (va_at D vwCl (q 30, e) H → va_at D vwCl (q 30, px_cell dC cA q sC0 30) H) := ⟨_, rfl, fun z => z⟩
theorem LC_31 {D : va_G} {cA : Nat → ClassId} {q : Nat → Nat} {H : Heap} : ∃ e, (LC cA q)[plC 31]? = some (q 31, e) ∧ (va_at D vwCl (q 31, e) H → va_at D vwCl (q 31, px_cell dC cA q sC0 31) H) := ⟨_, rfl, fun z => z⟩
theorem LC_32 {D : va_G} {cA : Nat → ClassId} {q : Nat → Nat} {H : Heap} : ∃ e, (LC cA q)[plC 32]? = some (q 32, e) ∧ (va_at D vwCl (q 32, e) H → va_at D vwCl (q 32, px_cell dC cA q sC0 32) H) := ⟨_, rfl, fun z => z⟩
theorem LC_33 {D : va_G} {cA : Nat → ClassId} {q : Nat → Nat} {H : Heap} : ∃ e, (LC cA q)[plC 33]? = some (q 33, e) ∧ (va_at D vwCl (q 33, e) H → va_at D vwCl (q 33, px_cell dC cA q sC0 33) H) := ⟨_, rfl, fun z => z⟩
theorem LC_34 {D : va_G} {cA : Nat → ClassId} {q : Nat → Nat} {H : Heap} : ∃ e, (LC cA q)[plC 34]? = some (q 34, e) ∧ (va_at D vwCl (q 34, e) H → va_at D vwCl (q 34, px_cell dC cA q sC0 34) H) := ⟨_, rfl, fun z => z⟩
theorem LC_35 {D : va_G} {cA : Nat → ClassId} {q : Nat → Nat} {H : Heap} : ∃ e, (LC cA q)[plC 35]? = some (q 35, e) ∧ (va_at D vwCl (q 35, e) H → va_at D vwCl (q 35, px_cell dC cA q sC0 35) H) := ⟨_, rfl, fun z => z⟩
theorem LC_36 {D : va_G} {cA : Nat → ClassId} {q : Nat → Nat} {H : Heap} : ∃ e, (LC cA q)[plC 36]? = some (q 36, e) ∧ (va_at D vwCl (q 36, e) H → va_at D vwCl (q 36, px_cell dC cA q sC0 36) H) := ⟨_, rfl, fun z => z⟩
theorem LC_37 {D : va_G} {cA : Nat → ClassId} {q : Nat → Nat} {H : Heap} : ∃ e, (LC cA q)[plC 37]? = some (q 37, e) ∧ (va_at D vwCl (q 37, e) H → va_at D vwCl (q 37, px_cell dC cA q sC0 37) H) := ⟨_, rfl, fun z => z⟩
theorem LC_38 {D : va_G} {cA : Nat → ClassId} {q : Nat → Nat} {H : Heap} : ∃ e, (LC cA q)[plC 38]? = some (q 38, e) ∧ (va_at D vwCl (q 38, e) H → va_at D vwCl (q 38, px_cell dC cA q sC0 38) H) := ⟨_, rfl, fun z => z⟩
theorem LC_39 {D : va_G} {cA : Nat → ClassId} {q : Nat → Nat} {H : Heap} : ∃ e, (LC cA q)[plC 39]? = some (q 39, e) ∧ (va_at D vwCl (q 39, e) H → va_at D vwCl (q 39, px_cell dC cA q sC0 39) H) := ⟨_, rfl, fun z => z⟩
theorem LC_40 {D : va_G} {cA : Nat → ClassId} {q : Nat → Nat} {H : Heap} : ∃ e, (LC cA q)[plC 40]? = some (q 40, e) ∧ (va_at D vwCl (q 40, e) H → va_at D vwCl (q 40, px_cell dC cA q sC0 40) H) := ⟨_, rfl, fun z => z⟩
theorem LC_41 {D : va_G} {cA : Nat → ClassId} {q : Nat → Nat} {H : Heap} : ∃ e, (LC cA q)[plC 41]? = some (q 41, e) ∧ (va_at D vwCl (q 41, e) H → va_at D vwCl (q 41, px_cell dC cA q sC0 41) H) := ⟨_, rfl, fun z => z⟩
theorem LC_42 {D : va_G} {cA : Nat → ClassId} {q : Nat → Nat} {H : Heap} : ∃ e, (LC cA q)[plC 42]? = some (q 42, e) ∧ (va_at D vwCl (q 42, e) H → va_at D vwCl (q 42, px_cell dC cA q sC0 42) H) := ⟨_, rfl, fun z => z⟩
theorem LC_43 {D : va_G} {cA : Nat → ClassId} {q : Nat → Nat} {H : Heap} : ∃ e, (LC cA q)[plC 43]? = some (q 43, e) ∧ (va_at D vwCl (q 43, e) H → va_at D vwCl (q 43, px_cell dC cA q sC0 43) H) := ⟨_, rfl, fun z => z⟩
theorem LC_44 {D : va_G} {cA : Nat → ClassId} {q : Nat → Nat} {H : Heap} : ∃ e, (LC cA q)[plC 44]? = some (q 44, e) ∧ (va_at D vwCl (q 44, e) H → va_at D vwCl (q 44, px_cell dC cA q sC0 44) H) := ⟨_, rfl, fun z => z⟩
theorem LC_45 {D : va_G} {cA : Nat → ClassId} {q : Nat → Nat} {H : Heap} : ∃ e, (LC cA q)[plC 45]? = some (q 45, e) ∧ (va_at D vwCl (q 45, e) H → va_at D vwCl (q 45, px_cell dC cA q sC0 45) H) := ⟨_, rfl, fun z => z⟩
theorem LC_46 {D : va_G} {cA : Nat → ClassId} {q : Nat → Nat} {H : Heap} : ∃ e, (LC cA q)[plC 46]? = some (q 46, e) ∧ (va_at D vwCl (q 46, e) H → va_at D vwCl (q 46, px_cell dC cA q sC0 46) H) := ⟨_, rfl, fun z => z⟩
theorem LC_47 {D : va_G} {cA : Nat → ClassId} {q : Nat → Nat} {H : Heap} : ∃ e, (LC cA q)[plC 47]? = some (q 47, e) ∧ (va_at D vwCl (q 47, e) H → va_at D vwCl (q 47, px_cell dC cA q sC0 47) H) := ⟨_, rfl, fun z => z⟩
theorem LC_48 {D : va_G} {cA : Nat → ClassId} {q : Nat → Nat} {H : Heap} : ∃ e, (LC cA q)[plC 48]? = some (q 48, e) ∧ (va_at D vwCl (q 48, e) H → va_at D vwCl (q 48, px_cell dC cA q sC0 48) H) := ⟨_, rfl, fun z => z⟩
theorem LC_49 {D : va_G} {cA : Nat → ClassId} {q : Nat → Nat} {H : Heap} : ∃ e, (LC cA q)[plC 49]? = some (q 49, e) ∧ (va_at D vwCl (q 49, e) H → va_at D vwCl (q 49, px_cell dC cA q sC0 49) H) := ⟨_, rfl, fun z => z⟩
theorem LC_50 {D : va_G} {cA : Nat → ClassId} {q : Nat → Nat} {H : Heap} : ∃ e, (LC cA q)[plC 50]? = some (q 50, e) ∧ (va_at D vwCl (q 50, e) H → va_at D vwCl (q 50, px_cell dC cA q sC0 50) H) := ⟨_, rfl, fun z => z⟩
theorem LC_51 {D : va_G} {cA : Nat → ClassId} {q : Nat → Nat} {H : Heap} : ∃ e, (LC cA q)[plC 51]? = some (q 51, e) ∧ (va_at D vwCl (q 51, e) H → va_at D vwCl (q 51, px_cell dC cA q sC0 51) H) := ⟨_, rfl, fun z => z⟩
theorem LC_52 {D : va_G} {cA : Nat → ClassId} {q : Nat → Nat} {H : Heap} : ∃ e, (LC cA q)[plC 52]? = some (q 52, e) ∧ (va_at D vwCl (q 52, e) H → va_at D vwCl (q 52, px_cell dC cA q sC0 52) H) := ⟨_, rfl, fun z => z⟩
theorem LC_53 {D : va_G} {cA : Nat → ClassId} {q : Nat → Nat} {H : Heap} : ∃ e, (LC cA q)[plC 53]? = some (q 53, e) ∧ (va_at D vwCl (q 53, e) H → va_at D vwCl (q 53, px_cell dC cA q sC0 53) H) := ⟨_, rfl, fun z => z⟩
theorem LC_54 {D : va_G} {cA : Nat → ClassId} {q : Nat → Nat} {H : Heap} : ∃ e, (LC cA q)[plC 54]? = some (q 54, e) ∧ (va_at D vwCl (q 54, e) H → va_at D vwCl (q 54, px_cell dC cA q sC0 54) H) := ⟨_, rfl, fun z => z⟩
theorem LC_55 {D : va_G} {cA : Nat → ClassId} {q : Nat → Nat} {H : Heap} : ∃ e, (LC cA q)[plC 55]? = some (q 55, e) ∧ (va_at D vwCl (q 55, e) H → va_at D vwCl (q 55, px_cell dC cA q sC0 55) H) := ⟨_, rfl, fun z => z⟩
theorem LC_56 {D : va_G} {cA : Nat → ClassId} {q : Nat → Nat} {H : Heap} : ∃ e, (LC cA q)[plC 56]? = some (q 56, e) ∧ (va_at D vwCl (q 56, e) H → va_at D vwCl (q 56, px_cell dC cA q sC0 56) H) := ⟨_, rfl, fun z => z⟩
theorem LC_w {D : va_G} {A : Nat → Prop} {cA : Nat → ClassId} {q : Nat → Nat} {H : Heap} (hP : va_P D vwCl (LC cA q) H) (hD : va_D A (LC cA q)) : va_P D vwCl (px_w dC cA q sC0) H ∧ va_D A (px_w dC cA q sC0) := by
  refine cx_fin2 plC hP hD (fun k hk => ?_) plC_i
  match k, hk with
  | 0, _ => exact LC_0
  | 1, _ => exact LC_1
  | 2, _ => exact LC_2
  | 3, _ => exact LC_3
  | 4, _ => exact LC_4
  | 5, _ => exact LC_5
  | 6, _ => exact LC_6
  | 7, _ => exact LC_7
  | 8, _ => exact LC_8
  | 9, _ => exact LC_9
  | 10, _ => exact LC_10
  | 11, _ => exact LC_11
  | 12, _ => exact LC_12
  | 13, _ => exact LC_13
  | 14, _ => exact LC_14
  | 15, _ => exact LC_15
  | 16, _ => exact LC_16
  | 17, _ => exact LC_17
  | 18, _ => exact LC_18
  | 19, _ => exact LC_19
  | 20, _ => exact LC_20
  | 21, _ => exact LC_21
  | 22, _ => exact LC_22
  | 23, _ => exact LC_23
  | 24, _ => exact LC_24
  | 25, _ => exact LC_25
  | 26, _ => exact LC_26
  | 27, _ => exact LC_27
  | 28, _ => exact LC_28
  | 29, _ => exact LC_29
  | 30, _ => exact LC_30
  | 31, _ => exact LC_31
  | 32, _ => exact LC_32
  | 33, _ => exact LC_33
  | 34, _ => exact LC_34
  | 35, _ => exact LC_35
  | 36, _ => exact LC_36
  | 37, _ => exact LC_37
  | 38, _ => exact LC_38
  | 39, _ => exact LC_39
  | 40, _ => exact LC_40
  | 41, _ => exact LC_41
  | 42, _ => exact LC_42
  | 43, _ => exact LC_43
  | 44, _ => exact LC_44
  | 45, _ => exact LC_45
  | 46, _ => exact LC_46
  | 47, _ => exact LC_47
  | 48, _ => exact LC_48
  | 49, _ => exact LC_49
  | 50, _ => exact LC_50
  | 51, _ => exact LC_51
  | 52, _ => exact LC_52
  | 53, _ => exact LC_53
  | 54, _ => exact LC_54
  | 55, _ => exact LC_55
  | 56, _ => exact LC_56
  | k + 57, hk => exact absurd (show k + 57 < 57 from hk) (by omega)
set_option maxHeartbeats 4000000 in
set_option maxRecDepth 100000 in
/-- ParrotHeirs(): the class's world, new -/
theorem cX5_ok : ∀ (l : Launch) (D : va_G) (cA : Nat → ClassId) (q0 : Nat → Nat) (h0 sz : Nat), Met l yX5_init (Cond.code yX5_init cX5_init 2 none :: wdC) ({ frames := 3, cells := 56, slots := 982, locals := 52 }) (cx_Pc D cA h0 5 [.null, .null, .null, .null, .null, .null, .null, .null, .null, .null, .int 0, .int 0, .int 0] sz) (va_Qv (fun _ : Unit => True) (fun _ t => ∃ q : Nat → Nat, q 0 = h0 ∧ (∀ k, 100 ≤ k → q k = q0 k) ∧ va_P D vwCl (px_w dC cA q sC0) t.heap ∧ va_D (va_A [(h0, .inr (5, [.null, .null, .null, .null, .null, .null, .null, .null, .null, .null, .int 0, .int 0, .int 0]))] sz) (px_w dC cA q sC0)) (va_A [(h0, .inr (5, [.null, .null, .null, .null, .null, .null, .null, .null, .null, .null, .int 0, .int 0, .int 0]))] sz)) 56 982 (va_A [(h0, .inr (5, [.null, .null, .null, .null, .null, .null, .null, .null, .null, .null, .int 0, .int 0, .int 0]))] sz) := by
  intro l D cA q0 h0 sz
  refine Met.ofW (cc := cX5_init) (maxL := 2) (ret := none) (by decide) rfl ?_
  intro p e s m args below meth c s₁ B hml hv
  obtain ⟨rfl, hsz, hP, hKN, hD0⟩ := hv
  obtain ⟨hK, hN⟩ := id hKN
  have hx := B.exec
  have hb := B.bytes
  have hr := B.returns
  have hts := atoms_spec (ws := Cond.code yX5_init cX5_init 2 none :: wdC) B.pre
  have hown : s.vm.findClass RX5 = some m.cls := findClass_of_methodNamed B.named
  have hin : meth.name = "<init>" := (name_of_methodNamed B.named B.method).1
  subst hsz
  have hD := hD0.self (sz := s.heap.size)
  generalize hAe : va_A [(h0, .inr (5, [.null, .null, .null, .null, .null, .null, .null, .null, .null, .null, .int 0, .int 0, .int 0]))] s.heap.size = A at hD ⊢
  have hA : ∀ q : Nat, s.heap.size ≤ q → A q := fun q h => by rw [← hAe]; exact Or.inr h
  have hS : va_S A s.heap s.heap [] := va_S.rf
  have hl := lv_entry ([.ref h0]) (n := 2) (Nat.le_of_ble_eq_true rfl)
  rw [lg_entry_eq]
  generalize (lg_sl ([.ref h0]) ++ List.replicate (2 - (lg_sl ([.ref h0])).length) Slot.unset).toArray = ls at hl ⊢
  have hl : lv_has ls 2 [(0, .ref h0)] := hl
  obtain ⟨W0, hW0⟩ : ∃ W0 : va_W, W0 = [] := ⟨_, rfl⟩
  have hP : va_P D vwCl ((h0, .inr (5, [.null, .null, .null, .null, .null, .null, .null, .null, .null, .null, .int 0, .int 0, .int 0])) :: W0) s.heap := by rw [hW0]; exact hP
  have hD : va_D A ((h0, .inr (5, [.null, .null, .null, .null, .null, .null, .null, .null, .null, .null, .int 0, .int 0, .int 0])) :: W0) := by rw [hW0]; exact hD
  refine lv_aload_n hx hb dX5_init_0 rfl (lv_at hl 0 rfl) ?_
  refine W.objInit hx hb hown (hts (Cond.methodLink RX5 1 objectInit) (List.mem_cons_of_mem _ (wdC_5_in _ (List.mem_of_getElem? (i := 22) rfl)))) (hts (Cond.instanceMethod objectInit) (List.mem_cons_of_mem _ (wdC_0_in _ (List.mem_of_getElem? (i := 2) rfl)))) (hts (Cond.code objectInit ⟨#[0xb1]⟩ 1 none) (List.mem_cons_of_mem _ (wdC_0_in _ (List.mem_of_getElem? (i := 3) rfl)))) rfl (by rw [hml]; exact hl.1) rfl dX5_init_1 (Nat.le_of_ble_eq_true rfl) (Nat.le_of_ble_eq_true rfl) ?_
  refine W.eq (g2 := F0 m 4 ls []) rfl ?_
  refine lv_aload_n hx hb dX5_init_4 rfl (lv_at hl 0 rfl) ?_
  refine cx_new (C := RX0) (T := TX0) (N := 7) (ci := 0) (maxL := 1) (bytes := cX0_init) (ws' := wdC) ⟨hx, hb, hml, hown, hts⟩ cX0_ok (fun w h => List.mem_cons_of_mem _ (wiX0 w h)) tyX0 tyX0_ok (hts (Cond.classLink RX5 7 RX0) (List.mem_cons_of_mem _ (wdC_5_in _ (List.mem_of_getElem? (i := 23) rfl)))) (hts (Cond.instantiable RX0 7) (List.mem_cons_of_mem _ (wdC_1_in _ (List.mem_of_getElem? (i := 37) rfl)))) (hts (Cond.initialized RX0) (List.mem_cons_of_mem _ (wdC_0_in _ (List.mem_of_getElem? (i := 22) rfl)))) rfl (fun j hj => dfX0 j hj) rfl (g1C (wdC_0_in _ (List.mem_of_getElem? (i := 0) rfl))) rfl rfl rfl hN.1 (hts (Cond.instanceMethod yX0_init) (List.mem_cons_of_mem _ (wdC_2_in _ (List.mem_of_getElem? (i := 3) rfl)))) rfl (by decide +kernel) ⟨Nat.le_of_ble_eq_true rfl, Nat.le_of_ble_eq_true rfl⟩ hKN hP hD hS hA hl.1 (Nat.le_of_ble_eq_true rfl) (Nat.le_of_ble_eq_true rfl) (Nat.le_of_ble_eq_true rfl) dX5_init_5 dX5_init_8 dX5_init_9 (fun q5 u5 H locs hP hD hS => ?_)
  obtain ⟨W1, hW1⟩ : ∃ W1, W1 = W0 ++ wX0 cA q5 u5 := ⟨_, rfl⟩
  have hP : va_P D vwCl ((h0, .inr (5, [.null, .null, .null, .null, .null, .null, .null, .null, .null, .null, .int 0, .int 0, .int 0])) :: W1) H := by rw [hW1]; exact hP
  have hD : va_D A ((h0, .inr (5, [.null, .null, .null, .null, .null, .null, .null, .null, .null, .null, .int 0, .int 0, .int 0])) :: W1) := by rw [hW1]; exact hD
  refine W.widen (k := 5) (n := 52) (by omega) (by omega) ?_
  refine va_putF (D := D) (ci := 5) (v := .ref q5) (ty := .object "ParrotHeirs$Aviary") (C := RX5) (T := TX5) (N := 13) hx hb hts (fun w h => List.mem_cons_of_mem _ (wiX5 w h)) tyX5 tyX5_ok nmX5 hown hK hP hD hS 0 rfl rfl 0 (by decide) (hts (Cond.fieldLink RX5 10 "ParrotHeirs" "now" "LParrotHeirs$Aviary;") (List.mem_cons_of_mem _ (wdC_5_in _ (List.mem_of_getElem? (i := 24) rfl)))) (fun _ h9 => h9) rfl hin rfl (by decide +kernel) rfl rfl (Nat.le_of_ble_eq_true rfl) dX5_init_12 (fun H locs hP hD hS => ?_)
  have hP : va_P D vwCl ((h0, .inr (5, [.ref q5, .null, .null, .null, .null, .null, .null, .null, .null, .null, .int 0, .int 0, .int 0])) :: W1) H := hP
  have hD : va_D A ((h0, .inr (5, [.ref q5, .null, .null, .null, .null, .null, .null, .null, .null, .null, .int 0, .int 0, .int 0])) :: W1) := hD
  refine lv_aload_n hx hb dX5_init_15 rfl (lv_at hl 0 rfl) ?_
  refine cx_new (C := RX2) (T := TX2) (N := 3) (ci := 2) (maxL := 1) (bytes := cX2_init) (ws' := wdC) ⟨hx, hb, hml, hown, hts⟩ cX2_ok (fun w h => List.mem_cons_of_mem _ (wiX2 w h)) tyX2 tyX2_ok (hts (Cond.classLink RX5 16 RX2) (List.mem_cons_of_mem _ (wdC_5_in _ (List.mem_of_getElem? (i := 25) rfl)))) (hts (Cond.instantiable RX2 3) (List.mem_cons_of_mem _ (wdC_2_in _ (List.mem_of_getElem? (i := 0) rfl)))) (hts (Cond.initialized RX2) (List.mem_cons_of_mem _ (wdC_2_in _ (List.mem_of_getElem? (i := 1) rfl)))) rfl (fun j hj => dfX2 j hj) rfl (g1C (wdC_1_in _ (List.mem_of_getElem? (i := 31) rfl))) rfl rfl rfl hN.2.1 (hts (Cond.instanceMethod yX2_init) (List.mem_cons_of_mem _ (wdC_2_in _ (List.mem_of_getElem? (i := 4) rfl)))) rfl (by decide +kernel) ⟨Nat.le_of_ble_eq_true rfl, Nat.le_of_ble_eq_true rfl⟩ hKN hP hD hS hA hl.1 (Nat.le_of_ble_eq_true rfl) (Nat.le_of_ble_eq_true rfl) (Nat.le_of_ble_eq_true rfl) dX5_init_16 dX5_init_19 dX5_init_20 (fun q16 u16 H locs hP hD hS => ?_)
  obtain ⟨W2, hW2⟩ : ∃ W2, W2 = W1 ++ wX2 cA q16 u16 := ⟨_, rfl⟩
  have hP : va_P D vwCl ((h0, .inr (5, [.ref q5, .null, .null, .null, .null, .null, .null, .null, .null, .null, .int 0, .int 0, .int 0])) :: W2) H := by rw [hW2]; exact hP
  have hD : va_D A ((h0, .inr (5, [.ref q5, .null, .null, .null, .null, .null, .null, .null, .null, .null, .int 0, .int 0, .int 0])) :: W2) := by rw [hW2]; exact hD
  refine W.widen (k := 8) (n := 67) (by omega) (by omega) ?_
  refine va_putF (D := D) (ci := 5) (v := .ref q16) (ty := .object "ParrotHeirs$Seen") (C := RX5) (T := TX5) (N := 13) hx hb hts (fun w h => List.mem_cons_of_mem _ (wiX5 w h)) tyX5 tyX5_ok nmX5 hown hK hP hD hS 0 rfl rfl 1 (by decide) (hts (Cond.fieldLink RX5 19 "ParrotHeirs" "seenNow" "LParrotHeirs$Seen;") (List.mem_cons_of_mem _ (wdC_5_in _ (List.mem_of_getElem? (i := 26) rfl)))) (fun _ h9 => h9) rfl hin rfl (by decide +kernel) rfl rfl (Nat.le_of_ble_eq_true rfl) dX5_init_23 (fun H locs hP hD hS => ?_)
  have hP : va_P D vwCl ((h0, .inr (5, [.ref q5, .ref q16, .null, .null, .null, .null, .null, .null, .null, .null, .int 0, .int 0, .int 0])) :: W2) H := hP
  have hD : va_D A ((h0, .inr (5, [.ref q5, .ref q16, .null, .null, .null, .null, .null, .null, .null, .null, .int 0, .int 0, .int 0])) :: W2) := hD
  refine lv_aload_n hx hb dX5_init_26 rfl (lv_at hl 0 rfl) ?_
  refine cx_new (C := RX0) (T := TX0) (N := 7) (ci := 0) (maxL := 1) (bytes := cX0_init) (ws' := wdC) ⟨hx, hb, hml, hown, hts⟩ cX0_ok (fun w h => List.mem_cons_of_mem _ (wiX0 w h)) tyX0 tyX0_ok (hts (Cond.classLink RX5 7 RX0) (List.mem_cons_of_mem _ (wdC_5_in _ (List.mem_of_getElem? (i := 23) rfl)))) (hts (Cond.instantiable RX0 7) (List.mem_cons_of_mem _ (wdC_1_in _ (List.mem_of_getElem? (i := 37) rfl)))) (hts (Cond.initialized RX0) (List.mem_cons_of_mem _ (wdC_0_in _ (List.mem_of_getElem? (i := 22) rfl)))) rfl (fun j hj => dfX0 j hj) rfl (g1C (wdC_0_in _ (List.mem_of_getElem? (i := 0) rfl))) rfl rfl rfl hN.1 (hts (Cond.instanceMethod yX0_init) (List.mem_cons_of_mem _ (wdC_2_in _ (List.mem_of_getElem? (i := 3) rfl)))) rfl (by decide +kernel) ⟨Nat.le_of_ble_eq_true rfl, Nat.le_of_ble_eq_true rfl⟩ hKN hP hD hS hA hl.1 (Nat.le_of_ble_eq_true rfl) (Nat.le_of_ble_eq_true rfl) (Nat.le_of_ble_eq_true rfl) dX5_init_27 dX5_init_30 dX5_init_31 (fun q27 u27 H locs hP hD hS => ?_)
  obtain ⟨W3, hW3⟩ : ∃ W3, W3 = W2 ++ wX0 cA q27 u27 := ⟨_, rfl⟩
  have hP : va_P D vwCl ((h0, .inr (5, [.ref q5, .ref q16, .null, .null, .null, .null, .null, .null, .null, .null, .int 0, .int 0, .int 0])) :: W3) H := by rw [hW3]; exact hP
  have hD : va_D A ((h0, .inr (5, [.ref q5, .ref q16, .null, .null, .null, .null, .null, .null, .null, .null, .int 0, .int 0, .int 0])) :: W3) := by rw [hW3]; exact hD
  refine W.widen (k := 13) (n := 119) (by omega) (by omega) ?_
  refine va_putF (D := D) (ci := 5) (v := .ref q27) (ty := .object "ParrotHeirs$Aviary") (C := RX5) (T := TX5) (N := 13) hx hb hts (fun w h => List.mem_cons_of_mem _ (wiX5 w h)) tyX5 tyX5_ok nmX5 hown hK hP hD hS 0 rfl rfl 2 (by decide) (hts (Cond.fieldLink RX5 23 "ParrotHeirs" "trial" "LParrotHeirs$Aviary;") (List.mem_cons_of_mem _ (wdC_5_in _ (List.mem_of_getElem? (i := 27) rfl)))) (fun _ h9 => h9) rfl hin rfl (by decide +kernel) rfl rfl (Nat.le_of_ble_eq_true rfl) dX5_init_34 (fun H locs hP hD hS => ?_)
  have hP : va_P D vwCl ((h0, .inr (5, [.ref q5, .ref q16, .ref q27, .null, .null, .null, .null, .null, .null, .null, .int 0, .int 0, .int 0])) :: W3) H := hP
  have hD : va_D A ((h0, .inr (5, [.ref q5, .ref q16, .ref q27, .null, .null, .null, .null, .null, .null, .null, .int 0, .int 0, .int 0])) :: W3) := hD
  refine lv_aload_n hx hb dX5_init_37 rfl (lv_at hl 0 rfl) ?_
  refine cx_new (C := RX0) (T := TX0) (N := 7) (ci := 0) (maxL := 1) (bytes := cX0_init) (ws' := wdC) ⟨hx, hb, hml, hown, hts⟩ cX0_ok (fun w h => List.mem_cons_of_mem _ (wiX0 w h)) tyX0 tyX0_ok (hts (Cond.classLink RX5 7 RX0) (List.mem_cons_of_mem _ (wdC_5_in _ (List.mem_of_getElem? (i := 23) rfl)))) (hts (Cond.instantiable RX0 7) (List.mem_cons_of_mem _ (wdC_1_in _ (List.mem_of_getElem? (i := 37) rfl)))) (hts (Cond.initialized RX0) (List.mem_cons_of_mem _ (wdC_0_in _ (List.mem_of_getElem? (i := 22) rfl)))) rfl (fun j hj => dfX0 j hj) rfl (g1C (wdC_0_in _ (List.mem_of_getElem? (i := 0) rfl))) rfl rfl rfl hN.1 (hts (Cond.instanceMethod yX0_init) (List.mem_cons_of_mem _ (wdC_2_in _ (List.mem_of_getElem? (i := 3) rfl)))) rfl (by decide +kernel) ⟨Nat.le_of_ble_eq_true rfl, Nat.le_of_ble_eq_true rfl⟩ hKN hP hD hS hA hl.1 (Nat.le_of_ble_eq_true rfl) (Nat.le_of_ble_eq_true rfl) (Nat.le_of_ble_eq_true rfl) dX5_init_38 dX5_init_41 dX5_init_42 (fun q38 u38 H locs hP hD hS => ?_)
  obtain ⟨W4, hW4⟩ : ∃ W4, W4 = W3 ++ wX0 cA q38 u38 := ⟨_, rfl⟩
  have hP : va_P D vwCl ((h0, .inr (5, [.ref q5, .ref q16, .ref q27, .null, .null, .null, .null, .null, .null, .null, .int 0, .int 0, .int 0])) :: W4) H := by rw [hW4]; exact hP
  have hD : va_D A ((h0, .inr (5, [.ref q5, .ref q16, .ref q27, .null, .null, .null, .null, .null, .null, .null, .int 0, .int 0, .int 0])) :: W4) := by rw [hW4]; exact hD
  refine W.widen (k := 18) (n := 171) (by omega) (by omega) ?_
  refine va_putF (D := D) (ci := 5) (v := .ref q38) (ty := .object "ParrotHeirs$Aviary") (C := RX5) (T := TX5) (N := 13) hx hb hts (fun w h => List.mem_cons_of_mem _ (wiX5 w h)) tyX5 tyX5_ok nmX5 hown hK hP hD hS 0 rfl rfl 3 (by decide) (hts (Cond.fieldLink RX5 26 "ParrotHeirs" "runner" "LParrotHeirs$Aviary;") (List.mem_cons_of_mem _ (wdC_5_in _ (List.mem_of_getElem? (i := 28) rfl)))) (fun _ h9 => h9) rfl hin rfl (by decide +kernel) rfl rfl (Nat.le_of_ble_eq_true rfl) dX5_init_45 (fun H locs hP hD hS => ?_)
  have hP : va_P D vwCl ((h0, .inr (5, [.ref q5, .ref q16, .ref q27, .ref q38, .null, .null, .null, .null, .null, .null, .int 0, .int 0, .int 0])) :: W4) H := hP
  have hD : va_D A ((h0, .inr (5, [.ref q5, .ref q16, .ref q27, .ref q38, .null, .null, .null, .null, .null, .null, .int 0, .int 0, .int 0])) :: W4) := hD
  refine lv_aload_n hx hb dX5_init_48 rfl (lv_at hl 0 rfl) ?_
  refine lv_bipush (v := 62) hx hb dX5_init_49 (by decide) ?_
  refine cx_newa (D := D) (cA := cA) hx hb (hts (Cond.arrayClass .int) (List.mem_cons_of_mem _ (wdC_0_in _ (List.mem_of_getElem? (i := 5) rfl)))) rfl hK 0 rfl hP hD hS hA 62 (fun _ => rfl) (by decide) (by decide) (by decide) (Nat.le_of_ble_eq_true rfl) (Nat.le_of_ble_eq_true rfl) dX5_init_51 (fun q51 H hP hD hS => ?_)
  obtain ⟨W5, hW5⟩ : ∃ W5, W5 = W4 ++ [(q51, .inl (cA 0, 62, .inl (fun _ => 0)))] := ⟨_, rfl⟩
  have hP : va_P D vwCl ((h0, .inr (5, [.ref q5, .ref q16, .ref q27, .ref q38, .null, .null, .null, .null, .null, .null, .int 0, .int 0, .int 0])) :: W5) H := by rw [hW5]; exact hP
  have hD : va_D A ((h0, .inr (5, [.ref q5, .ref q16, .ref q27, .ref q38, .null, .null, .null, .null, .null, .null, .int 0, .int 0, .int 0])) :: W5) := by rw [hW5]; exact hD
  refine W.widen (k := 19) (n := 233) (by omega) (by omega) ?_
  refine va_putF (D := D) (ci := 5) (v := .ref q51) (ty := .array .int) (C := RX5) (T := TX5) (N := 13) hx hb hts (fun w h => List.mem_cons_of_mem _ (wiX5 w h)) tyX5 tyX5_ok nmX5 hown hK hP hD hS 0 rfl rfl 4 (by decide) (hts (Cond.fieldLink RX5 29 "ParrotHeirs" "said" "[I") (List.mem_cons_of_mem _ (wdC_5_in _ (List.mem_of_getElem? (i := 29) rfl)))) (fun _ h9 => h9) rfl hin rfl (by decide +kernel) rfl rfl (Nat.le_of_ble_eq_true rfl) dX5_init_53 (fun H locs hP hD hS => ?_)
  have hP : va_P D vwCl ((h0, .inr (5, [.ref q5, .ref q16, .ref q27, .ref q38, .ref q51, .null, .null, .null, .null, .null, .int 0, .int 0, .int 0])) :: W5) H := hP
  have hD : va_D A ((h0, .inr (5, [.ref q5, .ref q16, .ref q27, .ref q38, .ref q51, .null, .null, .null, .null, .null, .int 0, .int 0, .int 0])) :: W5) := hD
  refine lv_aload_n hx hb dX5_init_56 rfl (lv_at hl 0 rfl) ?_
  refine lv_sipush (v := 210) hx hb dX5_init_57 (by decide) ?_
  refine cx_newa (D := D) (cA := cA) hx hb (hts (Cond.arrayClass .int) (List.mem_cons_of_mem _ (wdC_0_in _ (List.mem_of_getElem? (i := 5) rfl)))) rfl hK 0 rfl hP hD hS hA 210 (fun _ => rfl) (by decide) (by decide) (by decide) (Nat.le_of_ble_eq_true rfl) (Nat.le_of_ble_eq_true rfl) dX5_init_60 (fun q60 H hP hD hS => ?_)
  obtain ⟨W6, hW6⟩ : ∃ W6, W6 = W5 ++ [(q60, .inl (cA 0, 210, .inl (fun _ => 0)))] := ⟨_, rfl⟩
  have hP : va_P D vwCl ((h0, .inr (5, [.ref q5, .ref q16, .ref q27, .ref q38, .ref q51, .null, .null, .null, .null, .null, .int 0, .int 0, .int 0])) :: W6) H := by rw [hW6]; exact hP
  have hD : va_D A ((h0, .inr (5, [.ref q5, .ref q16, .ref q27, .ref q38, .ref q51, .null, .null, .null, .null, .null, .int 0, .int 0, .int 0])) :: W6) := by rw [hW6]; exact hD
  refine W.widen (k := 20) (n := 443) (by omega) (by omega) ?_
  refine va_putF (D := D) (ci := 5) (v := .ref q60) (ty := .array .int) (C := RX5) (T := TX5) (N := 13) hx hb hts (fun w h => List.mem_cons_of_mem _ (wiX5 w h)) tyX5 tyX5_ok nmX5 hown hK hP hD hS 0 rfl rfl 5 (by decide) (hts (Cond.fieldLink RX5 33 "ParrotHeirs" "heard" "[I") (List.mem_cons_of_mem _ (wdC_5_in _ (List.mem_of_getElem? (i := 30) rfl)))) (fun _ h9 => h9) rfl hin rfl (by decide +kernel) rfl rfl (Nat.le_of_ble_eq_true rfl) dX5_init_62 (fun H locs hP hD hS => ?_)
  have hP : va_P D vwCl ((h0, .inr (5, [.ref q5, .ref q16, .ref q27, .ref q38, .ref q51, .ref q60, .null, .null, .null, .null, .int 0, .int 0, .int 0])) :: W6) H := hP
  have hD : va_D A ((h0, .inr (5, [.ref q5, .ref q16, .ref q27, .ref q38, .ref q51, .ref q60, .null, .null, .null, .null, .int 0, .int 0, .int 0])) :: W6) := hD
  refine lv_aload_n hx hb dX5_init_65 rfl (lv_at hl 0 rfl) ?_
  refine lv_sipush (v := 160) hx hb dX5_init_66 (by decide) ?_
  refine cx_newa (D := D) (cA := cA) hx hb (hts (Cond.arrayClass .byte) (List.mem_cons_of_mem _ (wdC_2_in _ (List.mem_of_getElem? (i := 19) rfl)))) rfl hK 1 rfl hP hD hS hA 160 (fun _ => rfl) (by decide) (by decide) (by decide) (Nat.le_of_ble_eq_true rfl) (Nat.le_of_ble_eq_true rfl) dX5_init_69 (fun q69 H hP hD hS => ?_)
  obtain ⟨W7, hW7⟩ : ∃ W7, W7 = W6 ++ [(q69, .inl (cA 1, 160, .inl (fun _ => 0)))] := ⟨_, rfl⟩
  have hP : va_P D vwCl ((h0, .inr (5, [.ref q5, .ref q16, .ref q27, .ref q38, .ref q51, .ref q60, .null, .null, .null, .null, .int 0, .int 0, .int 0])) :: W7) H := by rw [hW7]; exact hP
  have hD : va_D A ((h0, .inr (5, [.ref q5, .ref q16, .ref q27, .ref q38, .ref q51, .ref q60, .null, .null, .null, .null, .int 0, .int 0, .int 0])) :: W7) := by rw [hW7]; exact hD
  refine W.widen (k := 21) (n := 603) (by omega) (by omega) ?_
  refine va_putF (D := D) (ci := 5) (v := .ref q69) (ty := .array .byte) (C := RX5) (T := TX5) (N := 13) hx hb hts (fun w h => List.mem_cons_of_mem _ (wiX5 w h)) tyX5 tyX5_ok nmX5 hown hK hP hD hS 0 rfl rfl 6 (by decide) (hts (Cond.fieldLink RX5 36 "ParrotHeirs" "tape" "[B") (List.mem_cons_of_mem _ (wdC_5_in _ (List.mem_of_getElem? (i := 31) rfl)))) (fun _ h9 => h9) rfl hin rfl (by decide +kernel) rfl rfl (Nat.le_of_ble_eq_true rfl) dX5_init_71 (fun H locs hP hD hS => ?_)
  have hP : va_P D vwCl ((h0, .inr (5, [.ref q5, .ref q16, .ref q27, .ref q38, .ref q51, .ref q60, .ref q69, .null, .null, .null, .int 0, .int 0, .int 0])) :: W7) H := hP
  have hD : va_D A ((h0, .inr (5, [.ref q5, .ref q16, .ref q27, .ref q38, .ref q51, .ref q60, .ref q69, .null, .null, .null, .int 0, .int 0, .int 0])) :: W7) := hD
  refine lv_aload_n hx hb dX5_init_74 rfl (lv_at hl 0 rfl) ?_
  refine cx_new (C := RX4) (T := TX4) (N := 9) (ci := 4) (maxL := 1) (bytes := cX4_init) (ws' := wdC) ⟨hx, hb, hml, hown, hts⟩ cX4_ok (fun w h => List.mem_cons_of_mem _ (wiX4 w h)) tyX4 tyX4_ok (hts (Cond.classLink RX5 40 RX4) (List.mem_cons_of_mem _ (wdC_5_in _ (List.mem_of_getElem? (i := 32) rfl)))) (hts (Cond.instantiable RX4 9) (List.mem_cons_of_mem _ (wdC_5_in _ (List.mem_of_getElem? (i := 33) rfl)))) (hts (Cond.initialized RX4) (List.mem_cons_of_mem _ (wdC_2_in _ (List.mem_of_getElem? (i := 35) rfl)))) rfl (fun j hj => dfX4 j hj) rfl (g1C (wdC_2_in _ (List.mem_of_getElem? (i := 17) rfl))) rfl rfl rfl hN.2.2.1 (hts (Cond.instanceMethod yX4_init) (List.mem_cons_of_mem _ (wdC_6_in _ (List.mem_of_getElem? (i := 3) rfl)))) rfl (by decide +kernel) ⟨Nat.le_of_ble_eq_true rfl, Nat.le_of_ble_eq_true rfl⟩ hKN hP hD hS hA hl.1 (Nat.le_of_ble_eq_true rfl) (Nat.le_of_ble_eq_true rfl) (Nat.le_of_ble_eq_true rfl) dX5_init_75 dX5_init_78 dX5_init_79 (fun q75 u75 H locs hP hD hS => ?_)
  obtain ⟨W8, hW8⟩ : ∃ W8, W8 = W7 ++ wX4 cA q75 u75 := ⟨_, rfl⟩
  have hP : va_P D vwCl ((h0, .inr (5, [.ref q5, .ref q16, .ref q27, .ref q38, .ref q51, .ref q60, .ref q69, .null, .null, .null, .int 0, .int 0, .int 0])) :: W8) H := by rw [hW8]; exact hP
  have hD : va_D A ((h0, .inr (5, [.ref q5, .ref q16, .ref q27, .ref q38, .ref q51, .ref q60, .ref q69, .null, .null, .null, .int 0, .int 0, .int 0])) :: W8) := by rw [hW8]; exact hD
  refine W.widen (k := 28) (n := 664) (by omega) (by omega) ?_
  refine va_putF (D := D) (ci := 5) (v := .ref q75) (ty := .object "ParrotHeirs$TextReader") (C := RX5) (T := TX5) (N := 13) hx hb hts (fun w h => List.mem_cons_of_mem _ (wiX5 w h)) tyX5 tyX5_ok nmX5 hown hK hP hD hS 0 rfl rfl 7 (by decide) (hts (Cond.fieldLink RX5 43 "ParrotHeirs" "reader" "LParrotHeirs$TextReader;") (List.mem_cons_of_mem _ (wdC_5_in _ (List.mem_of_getElem? (i := 34) rfl)))) (fun _ h9 => h9) rfl hin rfl (by decide +kernel) rfl rfl (Nat.le_of_ble_eq_true rfl) dX5_init_82 (fun H locs hP hD hS => ?_)
  have hP : va_P D vwCl ((h0, .inr (5, [.ref q5, .ref q16, .ref q27, .ref q38, .ref q51, .ref q60, .ref q69, .ref q75, .null, .null, .int 0, .int 0, .int 0])) :: W8) H := hP
  have hD : va_D A ((h0, .inr (5, [.ref q5, .ref q16, .ref q27, .ref q38, .ref q51, .ref q60, .ref q69, .ref q75, .null, .null, .int 0, .int 0, .int 0])) :: W8) := hD
  refine lv_aload_n hx hb dX5_init_85 rfl (lv_at hl 0 rfl) ?_
  refine lv_iconst (v := 2) hx hb dX5_init_86 (by decide) ?_
  refine cx_newq (D := D) (cA := cA) hx hb hown (hts (Cond.classLink RX5 47 RX1) (List.mem_cons_of_mem _ (wdC_5_in _ (List.mem_of_getElem? (i := 35) rfl)))) hN.2.2.2.2.2.2.2.2.1 hK 3 rfl hP hD hS hA 2 (by decide) (by decide) (by decide) (Nat.le_of_ble_eq_true rfl) (Nat.le_of_ble_eq_true rfl) dX5_init_87 (fun q87 H hP hD hS => ?_)
  have hP := cx_swapP hP
  have hD := cx_swapD hD
  have hP : va_P D vwCl ((h0, .inr (5, [.ref q5, .ref q16, .ref q27, .ref q38, .ref q51, .ref q60, .ref q69, .ref q75, .null, .null, .int 0, .int 0, .int 0])) :: (q87, .inl (cA 3, 2, .inr (.inr (.inr (.inr (fun _ => none)))))) :: W8) H := hP
  have hD : va_D A ((h0, .inr (5, [.ref q5, .ref q16, .ref q27, .ref q38, .ref q51, .ref q60, .ref q69, .ref q75, .null, .null, .int 0, .int 0, .int 0])) :: (q87, .inl (cA 3, 2, .inr (.inr (.inr (.inr (fun _ => none)))))) :: W8) := hD
  refine W.widen (k := 29) (n := 666) (by omega) (by omega) ?_
  refine va_putF (D := D) (ci := 5) (v := .ref q87) (ty := .array (.object "ParrotHeirs$Image")) (C := RX5) (T := TX5) (N := 13) hx hb hts (fun w h => List.mem_cons_of_mem _ (wiX5 w h)) tyX5 tyX5_ok nmX5 hown hK hP hD hS 0 rfl rfl 8 (by decide) (hts (Cond.fieldLink RX5 49 "ParrotHeirs" "images" "[LParrotHeirs$Image;") (List.mem_cons_of_mem _ (wdC_5_in _ (List.mem_of_getElem? (i := 36) rfl)))) (fun _ h9 => h9) rfl hin rfl (by decide +kernel) rfl rfl (Nat.le_of_ble_eq_true rfl) dX5_init_90 (fun H locs hP hD hS => ?_)
  have hP : va_P D vwCl ((h0, .inr (5, [.ref q5, .ref q16, .ref q27, .ref q38, .ref q51, .ref q60, .ref q69, .ref q75, .ref q87, .null, .int 0, .int 0, .int 0])) :: (q87, .inl (cA 3, 2, .inr (.inr (.inr (.inr (fun _ => none)))))) :: W8) H := hP
  have hD : va_D A ((h0, .inr (5, [.ref q5, .ref q16, .ref q27, .ref q38, .ref q51, .ref q60, .ref q69, .ref q75, .ref q87, .null, .int 0, .int 0, .int 0])) :: (q87, .inl (cA 3, 2, .inr (.inr (.inr (.inr (fun _ => none)))))) :: W8) := hD
  refine lv_aload_n hx hb dX5_init_93 rfl (lv_at hl 0 rfl) ?_
  refine lv_iconst (v := 4) hx hb dX5_init_94 (by decide) ?_
  refine cx_newq (D := D) (cA := cA) hx hb hown (hts (Cond.classLink RX5 53 RX3) (List.mem_cons_of_mem _ (wdC_5_in _ (List.mem_of_getElem? (i := 37) rfl)))) hN.2.2.2.2.2.2.2.2.2 hK 4 rfl hP hD hS hA 4 (by decide) (by decide) (by decide) (Nat.le_of_ble_eq_true rfl) (Nat.le_of_ble_eq_true rfl) dX5_init_95 (fun q95 H hP hD hS => ?_)
  have hP := cx_swapP hP
  have hD := cx_swapD hD
  have hP : va_P D vwCl ((h0, .inr (5, [.ref q5, .ref q16, .ref q27, .ref q38, .ref q51, .ref q60, .ref q69, .ref q75, .ref q87, .null, .int 0, .int 0, .int 0])) :: (q95, .inl (cA 4, 4, .inr (.inr (.inr (.inr (fun _ => none)))))) :: (q87, .inl (cA 3, 2, .inr (.inr (.inr (.inr (fun _ => none)))))) :: W8) H := hP
  have hD : va_D A ((h0, .inr (5, [.ref q5, .ref q16, .ref q27, .ref q38, .ref q51, .ref q60, .ref q69, .ref q75, .ref q87, .null, .int 0, .int 0, .int 0])) :: (q95, .inl (cA 4, 4, .inr (.inr (.inr (.inr (fun _ => none)))))) :: (q87, .inl (cA 3, 2, .inr (.inr (.inr (.inr (fun _ => none)))))) :: W8) := hD
  refine W.widen (k := 30) (n := 670) (by omega) (by omega) ?_
  refine va_putF (D := D) (ci := 5) (v := .ref q95) (ty := .array (.object "ParrotHeirs$Sheet")) (C := RX5) (T := TX5) (N := 13) hx hb hts (fun w h => List.mem_cons_of_mem _ (wiX5 w h)) tyX5 tyX5_ok nmX5 hown hK hP hD hS 0 rfl rfl 9 (by decide) (hts (Cond.fieldLink RX5 55 "ParrotHeirs" "rows" "[LParrotHeirs$Sheet;") (List.mem_cons_of_mem _ (wdC_5_in _ (List.mem_of_getElem? (i := 38) rfl)))) (fun _ h9 => h9) rfl hin rfl (by decide +kernel) rfl rfl (Nat.le_of_ble_eq_true rfl) dX5_init_98 (fun H locs hP hD hS => ?_)
  have hP : va_P D vwCl ((h0, .inr (5, [.ref q5, .ref q16, .ref q27, .ref q38, .ref q51, .ref q60, .ref q69, .ref q75, .ref q87, .ref q95, .int 0, .int 0, .int 0])) :: (q95, .inl (cA 4, 4, .inr (.inr (.inr (.inr (fun _ => none)))))) :: (q87, .inl (cA 3, 2, .inr (.inr (.inr (.inr (fun _ => none)))))) :: W8) H := hP
  have hD : va_D A ((h0, .inr (5, [.ref q5, .ref q16, .ref q27, .ref q38, .ref q51, .ref q60, .ref q69, .ref q75, .ref q87, .ref q95, .int 0, .int 0, .int 0])) :: (q95, .inl (cA 4, 4, .inr (.inr (.inr (.inr (fun _ => none)))))) :: (q87, .inl (cA 3, 2, .inr (.inr (.inr (.inr (fun _ => none)))))) :: W8) := hD
  refine lv_iconst (v := 0) hx hb dX5_init_101 (by decide) ?_
  refine lv_istore_n (lv' := [(1, .int 0), (0, .ref h0)]) hx hb dX5_init_102 rfl hl (by decide) rfl (fun ls hl => ?_)
  refine lv_iload_n hx hb dX5_init_103 rfl (lv_at hl 0 rfl) ?_
  refine lv_iconst (v := 2) hx hb dX5_init_104 (by decide) ?_
  refine lv_icmp_ge (tgt := 127) hx hb dX5_init_105 (by decide) (fun z => absurd z (by decide)) (fun _ => ?_)
  refine lv_aload_n hx hb dX5_init_108 rfl (lv_at hl 1 rfl) ?_
  refine va_get (D := D) (ci := 5) (v := .ref q87) (C := RX5) (T := TX5) (N := 13) hx hb hts (fun w h => List.mem_cons_of_mem _ (wiX5 w h)) hown hK hP 0 rfl rfl 8 (by decide) (hts (Cond.fieldLink RX5 49 "ParrotHeirs" "images" "[LParrotHeirs$Image;") (List.mem_cons_of_mem _ (wdC_5_in _ (List.mem_of_getElem? (i := 36) rfl)))) (fun _ h9 => h9) rfl dX5_init_109 ?_
  refine lv_iload_n hx hb dX5_init_112 rfl (lv_at hl 0 rfl) ?_
  refine cx_new (C := RX1) (T := TX1) (N := 3) (ci := 1) (maxL := 1) (bytes := cX1_init) (ws' := wdC) ⟨hx, hb, hml, hown, hts⟩ cX1_ok (fun w h => List.mem_cons_of_mem _ (wiX1 w h)) tyX1 tyX1_ok (hts (Cond.classLink RX5 47 RX1) (List.mem_cons_of_mem _ (wdC_5_in _ (List.mem_of_getElem? (i := 35) rfl)))) (hts (Cond.instantiable RX1 3) (List.mem_cons_of_mem _ (wdC_5_in _ (List.mem_of_getElem? (i := 39) rfl)))) (hts (Cond.initialized RX1) (List.mem_cons_of_mem _ (wdC_6_in _ (List.mem_of_getElem? (i := 0) rfl)))) rfl (fun j hj => dfX1 j hj) rfl (g1C (wdC_2_in _ (List.mem_of_getElem? (i := 5) rfl))) rfl rfl rfl hN.2.2.2.1 (hts (Cond.instanceMethod yX1_init) (List.mem_cons_of_mem _ (wdC_6_in _ (List.mem_of_getElem? (i := 4) rfl)))) rfl (by decide +kernel) ⟨Nat.le_of_ble_eq_true rfl, Nat.le_of_ble_eq_true rfl⟩ hKN hP hD hS hA hl.1 (Nat.le_of_ble_eq_true rfl) (Nat.le_of_ble_eq_true rfl) (Nat.le_of_ble_eq_true rfl) dX5_init_113 dX5_init_116 dX5_init_117 (fun q113_1 u113_1 H locs hP hD hS => ?_)
  obtain ⟨W9, hW9⟩ : ∃ W9, W9 = W8 ++ wX1 cA q113_1 u113_1 := ⟨_, rfl⟩
  have hP : va_P D vwCl ((h0, .inr (5, [.ref q5, .ref q16, .ref q27, .ref q38, .ref q51, .ref q60, .ref q69, .ref q75, .ref q87, .ref q95, .int 0, .int 0, .int 0])) :: (q95, .inl (cA 4, 4, .inr (.inr (.inr (.inr (fun _ => none)))))) :: (q87, .inl (cA 3, 2, .inr (.inr (.inr (.inr (fun _ => none)))))) :: W9) H := by rw [hW9]; exact hP
  have hD : va_D A ((h0, .inr (5, [.ref q5, .ref q16, .ref q27, .ref q38, .ref q51, .ref q60, .ref q69, .ref q75, .ref q87, .ref q95, .int 0, .int 0, .int 0])) :: (q95, .inl (cA 4, 4, .inr (.inr (.inr (.inr (fun _ => none)))))) :: (q87, .inl (cA 3, 2, .inr (.inr (.inr (.inr (fun _ => none)))))) :: W9) := by rw [hW9]; exact hD
  refine W.widen (k := 39) (n := 740) (by omega) (by omega) ?_
  refine va_astq hx hb hK hP hD hS 2 3 (W8.length + 3) 1 rfl rfl (by rw [hW9]; exact cx_at3) rfl (vpin 0 2 rfl (by omega) (by omega)) dX5_init_120 (fun H locs hP hD hS => ?_)
  have hP : va_P D vwCl ((h0, .inr (5, [.ref q5, .ref q16, .ref q27, .ref q38, .ref q51, .ref q60, .ref q69, .ref q75, .ref q87, .ref q95, .int 0, .int 0, .int 0])) :: (q95, .inl (cA 4, 4, .inr (.inr (.inr (.inr (fun _ => none)))))) :: (q87, .inl (cA 3, 2, .inr (.inr (.inr (.inr (va_up (fun _ => none) (0 : Int32).toNatClampNeg (some q113_1))))))) :: W9) H := hP
  have hD : va_D A ((h0, .inr (5, [.ref q5, .ref q16, .ref q27, .ref q38, .ref q51, .ref q60, .ref q69, .ref q75, .ref q87, .ref q95, .int 0, .int 0, .int 0])) :: (q95, .inl (cA 4, 4, .inr (.inr (.inr (.inr (fun _ => none)))))) :: (q87, .inl (cA 3, 2, .inr (.inr (.inr (.inr (va_up (fun _ => none) (0 : Int32).toNatClampNeg (some q113_1))))))) :: W9) := hD
  refine lv_iinc (k := 0) (v := 1) (lv' := [(1, .int 1), (0, .ref h0)]) hx hb dX5_init_121 hl rfl (by decide) (by decide) rfl (fun ls hl => ?_)
  refine lv_goto (tgt := 103) hx hb dX5_init_124 (by decide) ?_
  refine lv_iload_n hx hb dX5_init_103 rfl (lv_at hl 0 rfl) ?_
  refine lv_iconst (v := 2) hx hb dX5_init_104 (by decide) ?_
  refine lv_icmp_ge (tgt := 127) hx hb dX5_init_105 (by decide) (fun z => absurd z (by decide)) (fun _ => ?_)
  refine lv_aload_n hx hb dX5_init_108 rfl (lv_at hl 1 rfl) ?_
  refine va_get (D := D) (ci := 5) (v := .ref q87) (C := RX5) (T := TX5) (N := 13) hx hb hts (fun w h => List.mem_cons_of_mem _ (wiX5 w h)) hown hK hP 0 rfl rfl 8 (by decide) (hts (Cond.fieldLink RX5 49 "ParrotHeirs" "images" "[LParrotHeirs$Image;") (List.mem_cons_of_mem _ (wdC_5_in _ (List.mem_of_getElem? (i := 36) rfl)))) (fun _ h9 => h9) rfl dX5_init_109 ?_
  refine lv_iload_n hx hb dX5_init_112 rfl (lv_at hl 0 rfl) ?_
  refine cx_new (C := RX1) (T := TX1) (N := 3) (ci := 1) (maxL := 1) (bytes := cX1_init) (ws' := wdC) ⟨hx, hb, hml, hown, hts⟩ cX1_ok (fun w h => List.mem_cons_of_mem _ (wiX1 w h)) tyX1 tyX1_ok (hts (Cond.classLink RX5 47 RX1) (List.mem_cons_of_mem _ (wdC_5_in _ (List.mem_of_getElem? (i := 35) rfl)))) (hts (Cond.instantiable RX1 3) (List.mem_cons_of_mem _ (wdC_5_in _ (List.mem_of_getElem? (i := 39) rfl)))) (hts (Cond.initialized RX1) (List.mem_cons_of_mem _ (wdC_6_in _ (List.mem_of_getElem? (i := 0) rfl)))) rfl (fun j hj => dfX1 j hj) rfl (g1C (wdC_2_in _ (List.mem_of_getElem? (i := 5) rfl))) rfl rfl rfl hN.2.2.2.1 (hts (Cond.instanceMethod yX1_init) (List.mem_cons_of_mem _ (wdC_6_in _ (List.mem_of_getElem? (i := 4) rfl)))) rfl (by decide +kernel) ⟨Nat.le_of_ble_eq_true rfl, Nat.le_of_ble_eq_true rfl⟩ hKN hP hD hS hA hl.1 (Nat.le_of_ble_eq_true rfl) (Nat.le_of_ble_eq_true rfl) (Nat.le_of_ble_eq_true rfl) dX5_init_113 dX5_init_116 dX5_init_117 (fun q113_2 u113_2 H locs hP hD hS => ?_)
  obtain ⟨W10, hW10⟩ : ∃ W10, W10 = W9 ++ wX1 cA q113_2 u113_2 := ⟨_, rfl⟩
  have hP : va_P D vwCl ((h0, .inr (5, [.ref q5, .ref q16, .ref q27, .ref q38, .ref q51, .ref q60, .ref q69, .ref q75, .ref q87, .ref q95, .int 0, .int 0, .int 0])) :: (q95, .inl (cA 4, 4, .inr (.inr (.inr (.inr (fun _ => none)))))) :: (q87, .inl (cA 3, 2, .inr (.inr (.inr (.inr (va_up (fun _ => none) (0 : Int32).toNatClampNeg (some q113_1))))))) :: W10) H := by rw [hW10]; exact hP
  have hD : va_D A ((h0, .inr (5, [.ref q5, .ref q16, .ref q27, .ref q38, .ref q51, .ref q60, .ref q69, .ref q75, .ref q87, .ref q95, .int 0, .int 0, .int 0])) :: (q95, .inl (cA 4, 4, .inr (.inr (.inr (.inr (fun _ => none)))))) :: (q87, .inl (cA 3, 2, .inr (.inr (.inr (.inr (va_up (fun _ => none) (0 : Int32).toNatClampNeg (some q113_1))))))) :: W10) := by rw [hW10]; exact hD
  refine W.widen (k := 48) (n := 810) (by omega) (by omega) ?_
  refine va_astq hx hb hK hP hD hS 2 3 (W9.length + 3) 1 rfl rfl (by rw [hW10]; exact cx_at3) rfl (vpin 1 2 rfl (by omega) (by omega)) dX5_init_120 (fun H locs hP hD hS => ?_)
  have hP : va_P D vwCl ((h0, .inr (5, [.ref q5, .ref q16, .ref q27, .ref q38, .ref q51, .ref q60, .ref q69, .ref q75, .ref q87, .ref q95, .int 0, .int 0, .int 0])) :: (q95, .inl (cA 4, 4, .inr (.inr (.inr (.inr (fun _ => none)))))) :: (q87, .inl (cA 3, 2, .inr (.inr (.inr (.inr (va_up (va_up (fun _ => none) (0 : Int32).toNatClampNeg (some q113_1)) (1 : Int32).toNatClampNeg (some q113_2))))))) :: W10) H := hP
  have hD : va_D A ((h0, .inr (5, [.ref q5, .ref q16, .ref q27, .ref q38, .ref q51, .ref q60, .ref q69, .ref q75, .ref q87, .ref q95, .int 0, .int 0, .int 0])) :: (q95, .inl (cA 4, 4, .inr (.inr (.inr (.inr (fun _ => none)))))) :: (q87, .inl (cA 3, 2, .inr (.inr (.inr (.inr (va_up (va_up (fun _ => none) (0 : Int32).toNatClampNeg (some q113_1)) (1 : Int32).toNatClampNeg (some q113_2))))))) :: W10) := hD
  refine lv_iinc (k := 0) (v := 2) (lv' := [(1, .int 2), (0, .ref h0)]) hx hb dX5_init_121 hl rfl (by decide) (by decide) rfl (fun ls hl => ?_)
  refine lv_goto (tgt := 103) hx hb dX5_init_124 (by decide) ?_
  refine lv_iload_n hx hb dX5_init_103 rfl (lv_at hl 0 rfl) ?_
  refine lv_iconst (v := 2) hx hb dX5_init_104 (by decide) ?_
  refine lv_icmp_ge (tgt := 127) hx hb dX5_init_105 (by decide) (fun _ => ?_) (fun z => absurd (by decide) z)
  refine lv_iconst (v := 0) hx hb dX5_init_127 (by decide) ?_
  refine lv_istore_n (lv' := [(1, .int 0), (0, .ref h0)]) hx hb dX5_init_128 rfl hl (by decide) rfl (fun ls hl => ?_)
  refine lv_iload_n hx hb dX5_init_129 rfl (lv_at hl 0 rfl) ?_
  refine lv_iconst (v := 4) hx hb dX5_init_130 (by decide) ?_
  refine lv_icmp_ge (tgt := 153) hx hb dX5_init_131 (by decide) (fun z => absurd z (by decide)) (fun _ => ?_)
  refine lv_aload_n hx hb dX5_init_134 rfl (lv_at hl 1 rfl) ?_
  refine va_get (D := D) (ci := 5) (v := .ref q95) (C := RX5) (T := TX5) (N := 13) hx hb hts (fun w h => List.mem_cons_of_mem _ (wiX5 w h)) hown hK hP 0 rfl rfl 9 (by decide) (hts (Cond.fieldLink RX5 55 "ParrotHeirs" "rows" "[LParrotHeirs$Sheet;") (List.mem_cons_of_mem _ (wdC_5_in _ (List.mem_of_getElem? (i := 38) rfl)))) (fun _ h9 => h9) rfl dX5_init_135 ?_
  refine lv_iload_n hx hb dX5_init_138 rfl (lv_at hl 0 rfl) ?_
  refine cx_new (C := RX3) (T := TX3) (N := 3) (ci := 3) (maxL := 1) (bytes := cX3_init) (ws' := wdC) ⟨hx, hb, hml, hown, hts⟩ cX3_ok (fun w h => List.mem_cons_of_mem _ (wiX3 w h)) tyX3 tyX3_ok (hts (Cond.classLink RX5 53 RX3) (List.mem_cons_of_mem _ (wdC_5_in _ (List.mem_of_getElem? (i := 37) rfl)))) (hts (Cond.instantiable RX3 3) (List.mem_cons_of_mem _ (wdC_6_in _ (List.mem_of_getElem? (i := 1) rfl)))) (hts (Cond.initialized RX3) (List.mem_cons_of_mem _ (wdC_6_in _ (List.mem_of_getElem? (i := 2) rfl)))) rfl (fun j hj => dfX3 j hj) rfl (g1C (wdC_2_in _ (List.mem_of_getElem? (i := 8) rfl))) rfl rfl rfl hN.2.2.2.2.1 (hts (Cond.instanceMethod yX3_init) (List.mem_cons_of_mem _ (wdC_6_in _ (List.mem_of_getElem? (i := 5) rfl)))) rfl (by decide +kernel) ⟨Nat.le_of_ble_eq_true rfl, Nat.le_of_ble_eq_true rfl⟩ hKN hP hD hS hA hl.1 (Nat.le_of_ble_eq_true rfl) (Nat.le_of_ble_eq_true rfl) (Nat.le_of_ble_eq_true rfl) dX5_init_139 dX5_init_142 dX5_init_143 (fun q139_1 u139_1 H locs hP hD hS => ?_)
  obtain ⟨W11, hW11⟩ : ∃ W11, W11 = W10 ++ wX3 cA q139_1 u139_1 := ⟨_, rfl⟩
  have hP : va_P D vwCl ((h0, .inr (5, [.ref q5, .ref q16, .ref q27, .ref q38, .ref q51, .ref q60, .ref q69, .ref q75, .ref q87, .ref q95, .int 0, .int 0, .int 0])) :: (q95, .inl (cA 4, 4, .inr (.inr (.inr (.inr (fun _ => none)))))) :: (q87, .inl (cA 3, 2, .inr (.inr (.inr (.inr (va_up (va_up (fun _ => none) (0 : Int32).toNatClampNeg (some q113_1)) (1 : Int32).toNatClampNeg (some q113_2))))))) :: W11) H := by rw [hW11]; exact hP
  have hD : va_D A ((h0, .inr (5, [.ref q5, .ref q16, .ref q27, .ref q38, .ref q51, .ref q60, .ref q69, .ref q75, .ref q87, .ref q95, .int 0, .int 0, .int 0])) :: (q95, .inl (cA 4, 4, .inr (.inr (.inr (.inr (fun _ => none)))))) :: (q87, .inl (cA 3, 2, .inr (.inr (.inr (.inr (va_up (va_up (fun _ => none) (0 : Int32).toNatClampNeg (some q113_1)) (1 : Int32).toNatClampNeg (some q113_2))))))) :: W11) := by rw [hW11]; exact hD
  refine W.widen (k := 50) (n := 853) (by omega) (by omega) ?_
  refine va_astq hx hb hK hP hD hS 1 4 (W10.length + 3) 3 rfl rfl (by rw [hW11]; exact cx_at3) rfl (vpin 0 4 rfl (by omega) (by omega)) dX5_init_146 (fun H locs hP hD hS => ?_)
  have hP : va_P D vwCl ((h0, .inr (5, [.ref q5, .ref q16, .ref q27, .ref q38, .ref q51, .ref q60, .ref q69, .ref q75, .ref q87, .ref q95, .int 0, .int 0, .int 0])) :: (q95, .inl (cA 4, 4, .inr (.inr (.inr (.inr (va_up (fun _ => none) (0 : Int32).toNatClampNeg (some q139_1))))))) :: (q87, .inl (cA 3, 2, .inr (.inr (.inr (.inr (va_up (va_up (fun _ => none) (0 : Int32).toNatClampNeg (some q113_1)) (1 : Int32).toNatClampNeg (some q113_2))))))) :: W11) H := hP
  have hD : va_D A ((h0, .inr (5, [.ref q5, .ref q16, .ref q27, .ref q38, .ref q51, .ref q60, .ref q69, .ref q75, .ref q87, .ref q95, .int 0, .int 0, .int 0])) :: (q95, .inl (cA 4, 4, .inr (.inr (.inr (.inr (va_up (fun _ => none) (0 : Int32).toNatClampNeg (some q139_1))))))) :: (q87, .inl (cA 3, 2, .inr (.inr (.inr (.inr (va_up (va_up (fun _ => none) (0 : Int32).toNatClampNeg (some q113_1)) (1 : Int32).toNatClampNeg (some q113_2))))))) :: W11) := hD
  refine lv_iinc (k := 0) (v := 1) (lv' := [(1, .int 1), (0, .ref h0)]) hx hb dX5_init_147 hl rfl (by decide) (by decide) rfl (fun ls hl => ?_)
  refine lv_goto (tgt := 129) hx hb dX5_init_150 (by decide) ?_
  refine lv_iload_n hx hb dX5_init_129 rfl (lv_at hl 0 rfl) ?_
  refine lv_iconst (v := 4) hx hb dX5_init_130 (by decide) ?_
  refine lv_icmp_ge (tgt := 153) hx hb dX5_init_131 (by decide) (fun z => absurd z (by decide)) (fun _ => ?_)
  refine lv_aload_n hx hb dX5_init_134 rfl (lv_at hl 1 rfl) ?_
  refine va_get (D := D) (ci := 5) (v := .ref q95) (C := RX5) (T := TX5) (N := 13) hx hb hts (fun w h => List.mem_cons_of_mem _ (wiX5 w h)) hown hK hP 0 rfl rfl 9 (by decide) (hts (Cond.fieldLink RX5 55 "ParrotHeirs" "rows" "[LParrotHeirs$Sheet;") (List.mem_cons_of_mem _ (wdC_5_in _ (List.mem_of_getElem? (i := 38) rfl)))) (fun _ h9 => h9) rfl dX5_init_135 ?_
  refine lv_iload_n hx hb dX5_init_138 rfl (lv_at hl 0 rfl) ?_
  refine cx_new (C := RX3) (T := TX3) (N := 3) (ci := 3) (maxL := 1) (bytes := cX3_init) (ws' := wdC) ⟨hx, hb, hml, hown, hts⟩ cX3_ok (fun w h => List.mem_cons_of_mem _ (wiX3 w h)) tyX3 tyX3_ok (hts (Cond.classLink RX5 53 RX3) (List.mem_cons_of_mem _ (wdC_5_in _ (List.mem_of_getElem? (i := 37) rfl)))) (hts (Cond.instantiable RX3 3) (List.mem_cons_of_mem _ (wdC_6_in _ (List.mem_of_getElem? (i := 1) rfl)))) (hts (Cond.initialized RX3) (List.mem_cons_of_mem _ (wdC_6_in _ (List.mem_of_getElem? (i := 2) rfl)))) rfl (fun j hj => dfX3 j hj) rfl (g1C (wdC_2_in _ (List.mem_of_getElem? (i := 8) rfl))) rfl rfl rfl hN.2.2.2.2.1 (hts (Cond.instanceMethod yX3_init) (List.mem_cons_of_mem _ (wdC_6_in _ (List.mem_of_getElem? (i := 5) rfl)))) rfl (by decide +kernel) ⟨Nat.le_of_ble_eq_true rfl, Nat.le_of_ble_eq_true rfl⟩ hKN hP hD hS hA hl.1 (Nat.le_of_ble_eq_true rfl) (Nat.le_of_ble_eq_true rfl) (Nat.le_of_ble_eq_true rfl) dX5_init_139 dX5_init_142 dX5_init_143 (fun q139_2 u139_2 H locs hP hD hS => ?_)
  obtain ⟨W12, hW12⟩ : ∃ W12, W12 = W11 ++ wX3 cA q139_2 u139_2 := ⟨_, rfl⟩
  have hP : va_P D vwCl ((h0, .inr (5, [.ref q5, .ref q16, .ref q27, .ref q38, .ref q51, .ref q60, .ref q69, .ref q75, .ref q87, .ref q95, .int 0, .int 0, .int 0])) :: (q95, .inl (cA 4, 4, .inr (.inr (.inr (.inr (va_up (fun _ => none) (0 : Int32).toNatClampNeg (some q139_1))))))) :: (q87, .inl (cA 3, 2, .inr (.inr (.inr (.inr (va_up (va_up (fun _ => none) (0 : Int32).toNatClampNeg (some q113_1)) (1 : Int32).toNatClampNeg (some q113_2))))))) :: W12) H := by rw [hW12]; exact hP
  have hD : va_D A ((h0, .inr (5, [.ref q5, .ref q16, .ref q27, .ref q38, .ref q51, .ref q60, .ref q69, .ref q75, .ref q87, .ref q95, .int 0, .int 0, .int 0])) :: (q95, .inl (cA 4, 4, .inr (.inr (.inr (.inr (va_up (fun _ => none) (0 : Int32).toNatClampNeg (some q139_1))))))) :: (q87, .inl (cA 3, 2, .inr (.inr (.inr (.inr (va_up (va_up (fun _ => none) (0 : Int32).toNatClampNeg (some q113_1)) (1 : Int32).toNatClampNeg (some q113_2))))))) :: W12) := by rw [hW12]; exact hD
  refine W.widen (k := 52) (n := 896) (by omega) (by omega) ?_
  refine va_astq hx hb hK hP hD hS 1 4 (W11.length + 3) 3 rfl rfl (by rw [hW12]; exact cx_at3) rfl (vpin 1 4 rfl (by omega) (by omega)) dX5_init_146 (fun H locs hP hD hS => ?_)
  have hP : va_P D vwCl ((h0, .inr (5, [.ref q5, .ref q16, .ref q27, .ref q38, .ref q51, .ref q60, .ref q69, .ref q75, .ref q87, .ref q95, .int 0, .int 0, .int 0])) :: (q95, .inl (cA 4, 4, .inr (.inr (.inr (.inr (va_up (va_up (fun _ => none) (0 : Int32).toNatClampNeg (some q139_1)) (1 : Int32).toNatClampNeg (some q139_2))))))) :: (q87, .inl (cA 3, 2, .inr (.inr (.inr (.inr (va_up (va_up (fun _ => none) (0 : Int32).toNatClampNeg (some q113_1)) (1 : Int32).toNatClampNeg (some q113_2))))))) :: W12) H := hP
  have hD : va_D A ((h0, .inr (5, [.ref q5, .ref q16, .ref q27, .ref q38, .ref q51, .ref q60, .ref q69, .ref q75, .ref q87, .ref q95, .int 0, .int 0, .int 0])) :: (q95, .inl (cA 4, 4, .inr (.inr (.inr (.inr (va_up (va_up (fun _ => none) (0 : Int32).toNatClampNeg (some q139_1)) (1 : Int32).toNatClampNeg (some q139_2))))))) :: (q87, .inl (cA 3, 2, .inr (.inr (.inr (.inr (va_up (va_up (fun _ => none) (0 : Int32).toNatClampNeg (some q113_1)) (1 : Int32).toNatClampNeg (some q113_2))))))) :: W12) := hD
  refine lv_iinc (k := 0) (v := 2) (lv' := [(1, .int 2), (0, .ref h0)]) hx hb dX5_init_147 hl rfl (by decide) (by decide) rfl (fun ls hl => ?_)
  refine lv_goto (tgt := 129) hx hb dX5_init_150 (by decide) ?_
  refine lv_iload_n hx hb dX5_init_129 rfl (lv_at hl 0 rfl) ?_
  refine lv_iconst (v := 4) hx hb dX5_init_130 (by decide) ?_
  refine lv_icmp_ge (tgt := 153) hx hb dX5_init_131 (by decide) (fun z => absurd z (by decide)) (fun _ => ?_)
  refine lv_aload_n hx hb dX5_init_134 rfl (lv_at hl 1 rfl) ?_
  refine va_get (D := D) (ci := 5) (v := .ref q95) (C := RX5) (T := TX5) (N := 13) hx hb hts (fun w h => List.mem_cons_of_mem _ (wiX5 w h)) hown hK hP 0 rfl rfl 9 (by decide) (hts (Cond.fieldLink RX5 55 "ParrotHeirs" "rows" "[LParrotHeirs$Sheet;") (List.mem_cons_of_mem _ (wdC_5_in _ (List.mem_of_getElem? (i := 38) rfl)))) (fun _ h9 => h9) rfl dX5_init_135 ?_
  refine lv_iload_n hx hb dX5_init_138 rfl (lv_at hl 0 rfl) ?_
  refine cx_new (C := RX3) (T := TX3) (N := 3) (ci := 3) (maxL := 1) (bytes := cX3_init) (ws' := wdC) ⟨hx, hb, hml, hown, hts⟩ cX3_ok (fun w h => List.mem_cons_of_mem _ (wiX3 w h)) tyX3 tyX3_ok (hts (Cond.classLink RX5 53 RX3) (List.mem_cons_of_mem _ (wdC_5_in _ (List.mem_of_getElem? (i := 37) rfl)))) (hts (Cond.instantiable RX3 3) (List.mem_cons_of_mem _ (wdC_6_in _ (List.mem_of_getElem? (i := 1) rfl)))) (hts (Cond.initialized RX3) (List.mem_cons_of_mem _ (wdC_6_in _ (List.mem_of_getElem? (i := 2) rfl)))) rfl (fun j hj => dfX3 j hj) rfl (g1C (wdC_2_in _ (List.mem_of_getElem? (i := 8) rfl))) rfl rfl rfl hN.2.2.2.2.1 (hts (Cond.instanceMethod yX3_init) (List.mem_cons_of_mem _ (wdC_6_in _ (List.mem_of_getElem? (i := 5) rfl)))) rfl (by decide +kernel) ⟨Nat.le_of_ble_eq_true rfl, Nat.le_of_ble_eq_true rfl⟩ hKN hP hD hS hA hl.1 (Nat.le_of_ble_eq_true rfl) (Nat.le_of_ble_eq_true rfl) (Nat.le_of_ble_eq_true rfl) dX5_init_139 dX5_init_142 dX5_init_143 (fun q139_3 u139_3 H locs hP hD hS => ?_)
  obtain ⟨W13, hW13⟩ : ∃ W13, W13 = W12 ++ wX3 cA q139_3 u139_3 := ⟨_, rfl⟩
  have hP : va_P D vwCl ((h0, .inr (5, [.ref q5, .ref q16, .ref q27, .ref q38, .ref q51, .ref q60, .ref q69, .ref q75, .ref q87, .ref q95, .int 0, .int 0, .int 0])) :: (q95, .inl (cA 4, 4, .inr (.inr (.inr (.inr (va_up (va_up (fun _ => none) (0 : Int32).toNatClampNeg (some q139_1)) (1 : Int32).toNatClampNeg (some q139_2))))))) :: (q87, .inl (cA 3, 2, .inr (.inr (.inr (.inr (va_up (va_up (fun _ => none) (0 : Int32).toNatClampNeg (some q113_1)) (1 : Int32).toNatClampNeg (some q113_2))))))) :: W13) H := by rw [hW13]; exact hP
  have hD : va_D A ((h0, .inr (5, [.ref q5, .ref q16, .ref q27, .ref q38, .ref q51, .ref q60, .ref q69, .ref q75, .ref q87, .ref q95, .int 0, .int 0, .int 0])) :: (q95, .inl (cA 4, 4, .inr (.inr (.inr (.inr (va_up (va_up (fun _ => none) (0 : Int32).toNatClampNeg (some q139_1)) (1 : Int32).toNatClampNeg (some q139_2))))))) :: (q87, .inl (cA 3, 2, .inr (.inr (.inr (.inr (va_up (va_up (fun _ => none) (0 : Int32).toNatClampNeg (some q113_1)) (1 : Int32).toNatClampNeg (some q113_2))))))) :: W13) := by rw [hW13]; exact hD
  refine W.widen (k := 54) (n := 939) (by omega) (by omega) ?_
  refine va_astq hx hb hK hP hD hS 1 4 (W12.length + 3) 3 rfl rfl (by rw [hW13]; exact cx_at3) rfl (vpin 2 4 rfl (by omega) (by omega)) dX5_init_146 (fun H locs hP hD hS => ?_)
  have hP : va_P D vwCl ((h0, .inr (5, [.ref q5, .ref q16, .ref q27, .ref q38, .ref q51, .ref q60, .ref q69, .ref q75, .ref q87, .ref q95, .int 0, .int 0, .int 0])) :: (q95, .inl (cA 4, 4, .inr (.inr (.inr (.inr (va_up (va_up (va_up (fun _ => none) (0 : Int32).toNatClampNeg (some q139_1)) (1 : Int32).toNatClampNeg (some q139_2)) (2 : Int32).toNatClampNeg (some q139_3))))))) :: (q87, .inl (cA 3, 2, .inr (.inr (.inr (.inr (va_up (va_up (fun _ => none) (0 : Int32).toNatClampNeg (some q113_1)) (1 : Int32).toNatClampNeg (some q113_2))))))) :: W13) H := hP
  have hD : va_D A ((h0, .inr (5, [.ref q5, .ref q16, .ref q27, .ref q38, .ref q51, .ref q60, .ref q69, .ref q75, .ref q87, .ref q95, .int 0, .int 0, .int 0])) :: (q95, .inl (cA 4, 4, .inr (.inr (.inr (.inr (va_up (va_up (va_up (fun _ => none) (0 : Int32).toNatClampNeg (some q139_1)) (1 : Int32).toNatClampNeg (some q139_2)) (2 : Int32).toNatClampNeg (some q139_3))))))) :: (q87, .inl (cA 3, 2, .inr (.inr (.inr (.inr (va_up (va_up (fun _ => none) (0 : Int32).toNatClampNeg (some q113_1)) (1 : Int32).toNatClampNeg (some q113_2))))))) :: W13) := hD
  refine lv_iinc (k := 0) (v := 3) (lv' := [(1, .int 3), (0, .ref h0)]) hx hb dX5_init_147 hl rfl (by decide) (by decide) rfl (fun ls hl => ?_)
  refine lv_goto (tgt := 129) hx hb dX5_init_150 (by decide) ?_
  refine lv_iload_n hx hb dX5_init_129 rfl (lv_at hl 0 rfl) ?_
  refine lv_iconst (v := 4) hx hb dX5_init_130 (by decide) ?_
  refine lv_icmp_ge (tgt := 153) hx hb dX5_init_131 (by decide) (fun z => absurd z (by decide)) (fun _ => ?_)
  refine lv_aload_n hx hb dX5_init_134 rfl (lv_at hl 1 rfl) ?_
  refine va_get (D := D) (ci := 5) (v := .ref q95) (C := RX5) (T := TX5) (N := 13) hx hb hts (fun w h => List.mem_cons_of_mem _ (wiX5 w h)) hown hK hP 0 rfl rfl 9 (by decide) (hts (Cond.fieldLink RX5 55 "ParrotHeirs" "rows" "[LParrotHeirs$Sheet;") (List.mem_cons_of_mem _ (wdC_5_in _ (List.mem_of_getElem? (i := 38) rfl)))) (fun _ h9 => h9) rfl dX5_init_135 ?_
  refine lv_iload_n hx hb dX5_init_138 rfl (lv_at hl 0 rfl) ?_
  refine cx_new (C := RX3) (T := TX3) (N := 3) (ci := 3) (maxL := 1) (bytes := cX3_init) (ws' := wdC) ⟨hx, hb, hml, hown, hts⟩ cX3_ok (fun w h => List.mem_cons_of_mem _ (wiX3 w h)) tyX3 tyX3_ok (hts (Cond.classLink RX5 53 RX3) (List.mem_cons_of_mem _ (wdC_5_in _ (List.mem_of_getElem? (i := 37) rfl)))) (hts (Cond.instantiable RX3 3) (List.mem_cons_of_mem _ (wdC_6_in _ (List.mem_of_getElem? (i := 1) rfl)))) (hts (Cond.initialized RX3) (List.mem_cons_of_mem _ (wdC_6_in _ (List.mem_of_getElem? (i := 2) rfl)))) rfl (fun j hj => dfX3 j hj) rfl (g1C (wdC_2_in _ (List.mem_of_getElem? (i := 8) rfl))) rfl rfl rfl hN.2.2.2.2.1 (hts (Cond.instanceMethod yX3_init) (List.mem_cons_of_mem _ (wdC_6_in _ (List.mem_of_getElem? (i := 5) rfl)))) rfl (by decide +kernel) ⟨Nat.le_of_ble_eq_true rfl, Nat.le_of_ble_eq_true rfl⟩ hKN hP hD hS hA hl.1 (Nat.le_of_ble_eq_true rfl) (Nat.le_of_ble_eq_true rfl) (Nat.le_of_ble_eq_true rfl) dX5_init_139 dX5_init_142 dX5_init_143 (fun q139_4 u139_4 H locs hP hD hS => ?_)
  obtain ⟨W14, hW14⟩ : ∃ W14, W14 = W13 ++ wX3 cA q139_4 u139_4 := ⟨_, rfl⟩
  have hP : va_P D vwCl ((h0, .inr (5, [.ref q5, .ref q16, .ref q27, .ref q38, .ref q51, .ref q60, .ref q69, .ref q75, .ref q87, .ref q95, .int 0, .int 0, .int 0])) :: (q95, .inl (cA 4, 4, .inr (.inr (.inr (.inr (va_up (va_up (va_up (fun _ => none) (0 : Int32).toNatClampNeg (some q139_1)) (1 : Int32).toNatClampNeg (some q139_2)) (2 : Int32).toNatClampNeg (some q139_3))))))) :: (q87, .inl (cA 3, 2, .inr (.inr (.inr (.inr (va_up (va_up (fun _ => none) (0 : Int32).toNatClampNeg (some q113_1)) (1 : Int32).toNatClampNeg (some q113_2))))))) :: W14) H := by rw [hW14]; exact hP
  have hD : va_D A ((h0, .inr (5, [.ref q5, .ref q16, .ref q27, .ref q38, .ref q51, .ref q60, .ref q69, .ref q75, .ref q87, .ref q95, .int 0, .int 0, .int 0])) :: (q95, .inl (cA 4, 4, .inr (.inr (.inr (.inr (va_up (va_up (va_up (fun _ => none) (0 : Int32).toNatClampNeg (some q139_1)) (1 : Int32).toNatClampNeg (some q139_2)) (2 : Int32).toNatClampNeg (some q139_3))))))) :: (q87, .inl (cA 3, 2, .inr (.inr (.inr (.inr (va_up (va_up (fun _ => none) (0 : Int32).toNatClampNeg (some q113_1)) (1 : Int32).toNatClampNeg (some q113_2))))))) :: W14) := by rw [hW14]; exact hD
  refine W.widen (k := 56) (n := 982) (by omega) (by omega) ?_
  refine va_astq hx hb hK hP hD hS 1 4 (W13.length + 3) 3 rfl rfl (by rw [hW14]; exact cx_at3) rfl (vpin 3 4 rfl (by omega) (by omega)) dX5_init_146 (fun H locs hP hD hS => ?_)
  have hP : va_P D vwCl ((h0, .inr (5, [.ref q5, .ref q16, .ref q27, .ref q38, .ref q51, .ref q60, .ref q69, .ref q75, .ref q87, .ref q95, .int 0, .int 0, .int 0])) :: (q95, .inl (cA 4, 4, .inr (.inr (.inr (.inr (va_up (va_up (va_up (va_up (fun _ => none) (0 : Int32).toNatClampNeg (some q139_1)) (1 : Int32).toNatClampNeg (some q139_2)) (2 : Int32).toNatClampNeg (some q139_3)) (3 : Int32).toNatClampNeg (some q139_4))))))) :: (q87, .inl (cA 3, 2, .inr (.inr (.inr (.inr (va_up (va_up (fun _ => none) (0 : Int32).toNatClampNeg (some q113_1)) (1 : Int32).toNatClampNeg (some q113_2))))))) :: W14) H := hP
  have hD : va_D A ((h0, .inr (5, [.ref q5, .ref q16, .ref q27, .ref q38, .ref q51, .ref q60, .ref q69, .ref q75, .ref q87, .ref q95, .int 0, .int 0, .int 0])) :: (q95, .inl (cA 4, 4, .inr (.inr (.inr (.inr (va_up (va_up (va_up (va_up (fun _ => none) (0 : Int32).toNatClampNeg (some q139_1)) (1 : Int32).toNatClampNeg (some q139_2)) (2 : Int32).toNatClampNeg (some q139_3)) (3 : Int32).toNatClampNeg (some q139_4))))))) :: (q87, .inl (cA 3, 2, .inr (.inr (.inr (.inr (va_up (va_up (fun _ => none) (0 : Int32).toNatClampNeg (some q113_1)) (1 : Int32).toNatClampNeg (some q113_2))))))) :: W14) := hD
  refine lv_iinc (k := 0) (v := 4) (lv' := [(1, .int 4), (0, .ref h0)]) hx hb dX5_init_147 hl rfl (by decide) (by decide) rfl (fun ls hl => ?_)
  refine lv_goto (tgt := 129) hx hb dX5_init_150 (by decide) ?_
  refine lv_iload_n hx hb dX5_init_129 rfl (lv_at hl 0 rfl) ?_
  refine lv_iconst (v := 4) hx hb dX5_init_130 (by decide) ?_
  refine lv_icmp_ge (tgt := 153) hx hb dX5_init_131 (by decide) (fun _ => ?_) (fun z => absurd (by decide) z)
  rw [hW14, hW13, hW12, hW11, hW10, hW9, hW8, hW7, hW6, hW5, hW4, hW3, hW2, hW1, hW0] at hP hD
  obtain ⟨q, hq⟩ : ∃ q : Nat → Nat, q = fun k => if k < 100 then ([h0, q51, q60, q69, q75, q87, q95, u75.1, q5, u5.1, u5.2.1, u5.2.2.1, u5.2.2.2, q27, u27.1, u27.2.1, u27.2.2.1, u27.2.2.2, q38, u38.1, u38.2.1, u38.2.2.1, u38.2.2.2, u113_1.1, u113_1.2.1.1, u113_1.2.1.2.1, u113_1.2.1.2.2.1, u113_1.2.1.2.2.2, u113_2.1, u113_2.2.1.1, u113_2.2.1.2.1, u113_2.2.1.2.2.1, u113_2.2.1.2.2.2, u75.2.1, u75.2.2.1, u75.2.2.2.1, u75.2.2.2.2.1, u75.2.2.2.2.2, q16, u16.1, u16.2, u113_1.2.2.1, u113_1.2.2.2.1, u113_1.2.2.2.2, u113_2.2.2.1, u113_2.2.2.2.1, u113_2.2.2.2.2, q113_1, q113_2, q139_1, u139_1, q139_2, u139_2, q139_3, u139_3, q139_4, u139_4] : List Nat).getD k 0 else q0 k := ⟨_, rfl⟩
  have hP : va_P D vwCl (LC cA q) H := by rw [hq]; exact hP
  have hD : va_D A (LC cA q) := by rw [hq]; exact hD
  have hq0 : q 0 = h0 := by rw [hq]; rfl
  have hq1 : ∀ k, 100 ≤ k → q k = q0 k := fun k hk => by rw [hq]; show (if k < 100 then _ else q0 k) = q0 k; rw [if_neg (by omega)]
  obtain ⟨hP9, hD9⟩ := LC_w hP hD
  exact W.vret hx hb hr (fun t ht hW => ⟨⟨(), rfl, trivial, q, hq0, hq1, by rw [ht]; exact hP9, hD9⟩, hS.F ht⟩) hS.2.2 dX5_init_153
